/-! the law: its loop, its start, the claim: by wip/whole/gen/gen30.py -/
/-! THE CLAIM OUT OF ONE WALK OF THE LAW'S BODY. Your part is whole_start (and what it stands on); all else here is the same for every law, but numbers. -/
def R_law : String := "NamePatternLaw"
def lw_P (b : Addr) (xs : List Int32) (args : Array Value) (s : State) : Prop := args = #[.ref b] ∧ s.IntsAt b xs ∧ xs.length ≤ 2560 ∧ (Jvm.Cond.and given_1 narrow_1).before args s = true
def lw_Q (_ : Array Value) (s : State) (o : Outcome) (t : State) : Prop := o = .returned (some (.int 1)) ∧ Framed s o t [] 1037 11016
def lw_Z (below : List Frame) (a : Array Value) (s : State) : State → Prop := fun t => ∃ o, t.status = .running ∧ Ended t below o ∧ lw_Q a s o t
/-- the law's own end, with 1 on the stack, nothing written that was there before, its room as the claim has it -/
theorem lw_ret {p : Program} {l : Launch} {e : Env} {s : State} {m : MethodId} {below : List Frame} {meth : Method} {c : Code} {b : Nat} (hx : p.tables.exec = Jvm.exec) (hb : c.code = code) (hr : meth.sig.returnType = ret) (hlocks : meth.locks = false) {pc : Nat} {H : Heap} {ls : Array Slot} (hdg : decode code pc = .ok (.ireturn, 1)) : W p l e room_1 s m #[Value.ref b] below meth c H [] 1037 11016 (lw_Z below #[Value.ref b] s) (F0 m pc ls [.int 1]) := by
  intro T hT X
  obtain ⟨fs, hret, hrun, hended, hW, hframe⟩ := X.leave (v := some (.int 1)) (hlocks := hlocks) (fun h => by rw [hr] at h; cases h)
  have hmeth' : T.vm.method? m = some meth := X.method'
  refine ⟨T.setFrames fs, ?_, .returned (some (.int 1)), hrun, hended, rfl, ⟨_, rfl⟩, hW, hframe⟩
  jvm_step X.here [X.here.top, hx, hb, hdg, hmeth', hr, ret, narrow_b1]
  (try refine ⟨rfl, ?_⟩); (try refine ⟨rfl, ?_⟩)
  first | (intro acts; rw [hret _ acts rfl rfl rfl]) | rw [hret _ _ rfl rfl rfl]
  exact Steps.refl _
/-- what holds at the law's entry: the machine, the code, the tables' words (any of lw_tbl by 'hts w (by decide +kernel)'), the script of L ints xs at the cell b, what the Statement gives of the start (any of its parts by flat_of_before) -/
def lw_At (p : Program) (s : State) (m : MethodId) (meth : Method) (c : Code) (b L : Nat) (xs : Nat → Int32) : Prop :=
  p.tables.exec = Jvm.exec ∧ c.code = code ∧ meth.sig.returnType = ret ∧ c.maxLocals = 7 ∧ s.vm.findClass R_law = some m.cls ∧ (∀ w ∈ lw_tbl, w.before #[Value.ref b] s = true) ∧ va_X b L xs s s.heap ∧ b < s.heap.size ∧ meth.locks = false ∧ (Jvm.Cond.and given_1 narrow_1).before #[Value.ref b] s = true

set_option maxHeartbeats 4000000 in
set_option maxRecDepth 100000 in
theorem law_loop {p : Program} {l : Launch} {e : Env} {s : State} {mm : MethodId} {below : List Frame} {meth : Method} {c : Code} {dC : Nat → ClassId} {dI : Nat → Nat → Nat} {b L : Nat} {xs : Nat → Int32} (hlt : l.stackTraces = false) (hL : L ≤ 2560) (C0 : lw_At p s mm meth c b L xs) {sa : Nat} (hZ : eX sa (fun q : Nat => s.heap.size ≤ q) s s.heap) {x0 x1 x2 x3 x4 m0 m1 m2 m3 m4 m5 qo : Nat} {cI cZ cJ : ClassId} (hK : va_K (dC, dI) classes (tyJ cI cZ cJ) s) :
    ∀ (n t : Nat) (tx pt qt sr ar nr : Nat → Int32) (tn pn : Nat) (cd : Int32) (ov : Nat → Int64) (H : Heap) (locs : List Loc), 5 * t ≤ L → L < 5 * t + n → tn ≤ 400 → pn ≤ 200 → va_P (dC, dI) classes (wLw x0 x1 x2 x3 x4 m0 m1 m2 m3 m4 m5 qo cI cZ cJ tx pt qt sr tn pn cd tx pt qt ar nr tn pn ov) H → va_D (fun q : Nat => s.heap.size ≤ q) (wLw x0 x1 x2 x3 x4 m0 m1 m2 m3 m4 m5 qo cI cZ cJ tx pt qt sr tn pn cd tx pt qt ar nr tn pn ov) → va_S (fun q : Nat => s.heap.size ≤ q) s.heap H locs → ∀ ls : Array Slot, lv_has ls 7 [(4, .int (nI (5 * t))), (0, .ref b), (1, .ref x0), (2, .ref m0), (3, .ref qo)] → W p l e room_1 s mm #[Value.ref b] below meth c H locs (12 + t) (2818 + 6 * t) (lw_Z below #[Value.ref b] s) (F0 mm 23 ls []) := by
  obtain ⟨hx, hb, hr, hml, hown, hts, hX, hbl, hlocks, hgv⟩ := C0
  have htB : ∀ w ∈ wB, w.before #[Value.ref b] s = true := fun w h => hts w (wB_tbl w h)
  have hA : ∀ q : Nat, s.heap.size ≤ q → (fun q : Nat => s.heap.size ≤ q) q := fun _ h => h
  have hbA : ¬ (fun q : Nat => s.heap.size ≤ q) b := Nat.not_le.mpr hbl
  intro n
  induction n with
  | zero => intro t tx pt qt sr ar nr tn pn cd ov H locs h1 h2; exact absurd h2 (by omega)
  | succ n ih =>
    intro t tx pt qt sr ar nr tn pn cd ov H locs h5t hn ht hp hP hD hS ls hl
    refine lv_iload hx hb d_L_law_23 (lv_at hl 0 rfl) ?_
    refine lv_aload_n hx hb d_L_law_25 rfl (lv_at hl 1 rfl) ?_
    refine va_slen hx hb hX hbl hbA hS d_L_law_26 ?_
    refine lv_iconst (v := nI 5) hx hb d_L_law_27 (by decide) ?_
    refine lv_isub hx hb d_L_law_28 ?_
    refine lv_topi (fun v_1 ev_1 => ?_)
    refine lv_icmp_gt (tgt := 448) hx hb d_L_law_29 (by decide) (fun c_2 => ?_) (fun c_2 => ?_)
    · refine lv_iconst (v := 1) hx hb d_L_law_448 (by decide) ?_
      refine va_forget (fun q hq => hS.2.2 q hq) ?_
      refine W.widen (k := 1037) (n := 11016) (by omega) (by omega) ?_
      exact lw_ret hx hb hr hlocks d_L_law_449
    · have h5 : 5 * t + 5 ≤ L := by
        have ew : v_1 = nI L - nI 5 := ev_1
        rw [ew] at c_2
        have q := mt Int32.lt_iff_toInt_lt.mpr c_2
        rw [pk_sub_toInt (by omega) (by decide), nI_toInt (by omega)] at q
        omega
      refine lv_aload_n hx hb d_L_law_32 rfl (lv_at hl 1 rfl) ?_
      refine lv_iload hx hb d_L_law_33 (lv_at hl 0 rfl) ?_
      refine va_sld hx hb hX hbl hbA hS (vp_in_nI (n := 5 * t) (by omega) (by omega)) d_L_law_35 ?_
      refine lv_topi (fun v_3 ev_3 => ?_)
      obtain rfl : v_3 = xs (5 * t) := ev_3.trans (by rw [nI_clamp (n := 5 * t) (by omega)])
      refine lv_bipush (v := nI 7) hx hb d_L_law_36 (by decide) ?_
      refine lv_iand hx hb d_L_law_38 ?_
      refine lv_topi (fun v_4 ev_4 => ?_)
      obtain ⟨j, hj, ej⟩ := pk_andE (xs (5 * t)) (m := nI 7) 3 (by decide)
      have hj : j < 8 := hj
      have ej : v_4 = nI j := ev_4.trans ej
      rcases (show j = 0 ∨ j = 1 ∨ j = 2 ∨ j = 3 ∨ j = 4 ∨ j = 5 ∨ j = 6 ∨ j = 7 by omega) with rfl | rfl | rfl | rfl | rfl | rfl | rfl | rfl
      · refine lv_tableIn (tgt := 84) (off := 45) hx hb d_L_law_39 (by rw [ej]; decide) (by rw [ej]; decide) (by rw [ej]; decide) (by decide) ?_
        refine lv_aload_n hx hb d_L_law_84 rfl (lv_at hl 2 rfl) ?_
        refine lv_aload_n hx hb d_L_law_85 rfl (lv_at hl 1 rfl) ?_
        refine lv_iload hx hb d_L_law_86 (lv_at hl 0 rfl) ?_
        refine lv_iconst (v := nI 1) hx hb d_L_law_88 (by decide) ?_
        refine lv_iadd hx hb d_L_law_89 ?_
        refine lv_topi (fun v_5 ev_5 => ?_)
        obtain rfl : v_5 = nI (5 * t + 1) := ev_5.trans (nI_add _ _)
        refine va_sld hx hb hX hbl hbA hS (vp_in_nI (n := 5 * t + 1) (by omega) (by omega)) d_L_law_90 ?_
        refine lv_topi (fun v_6 ev_6 => ?_)
        obtain rfl : v_6 = xs (5 * t + 1) := ev_6.trans (by rw [nI_clamp (n := 5 * t + 1) (by omega)])
        refine lv_i2l hx hb d_L_law_91 rfl ?_
        refine lv_bipush (v := nI 32) hx hb d_L_law_92 (by decide) ?_
        refine lv_lshl hx hb d_L_law_94 rfl ?_
        refine lv_aload_n hx hb d_L_law_95 rfl (lv_at hl 1 rfl) ?_
        refine lv_iload hx hb d_L_law_96 (lv_at hl 0 rfl) ?_
        refine lv_iconst (v := nI 2) hx hb d_L_law_98 (by decide) ?_
        refine lv_iadd hx hb d_L_law_99 ?_
        refine lv_topi (fun v_7 ev_7 => ?_)
        obtain rfl : v_7 = nI (5 * t + 2) := ev_7.trans (nI_add _ _)
        refine va_sld hx hb hX hbl hbA hS (vp_in_nI (n := 5 * t + 2) (by omega) (by omega)) d_L_law_100 ?_
        refine lv_topi (fun v_8 ev_8 => ?_)
        obtain rfl : v_8 = xs (5 * t + 2) := ev_8.trans (by rw [nI_clamp (n := 5 * t + 2) (by omega)])
        refine lv_i2l hx hb d_L_law_101 rfl ?_
        refine lv_ldc2 (v := 4294967295) hx hb hown (htB _ hcn_L_19) d_L_law_102 ?_
        refine lv_land hx hb d_L_law_105 ?_
        refine lv_lor hx hb d_L_law_106 ?_
        refine lv_aload_n hx hb d_L_law_107 rfl (lv_at hl 1 rfl) ?_
        refine lv_iload hx hb d_L_law_108 (lv_at hl 0 rfl) ?_
        refine lv_iconst (v := nI 3) hx hb d_L_law_110 (by decide) ?_
        refine lv_iadd hx hb d_L_law_111 ?_
        refine lv_topi (fun v_9 ev_9 => ?_)
        obtain rfl : v_9 = nI (5 * t + 3) := ev_9.trans (nI_add _ _)
        refine va_sld hx hb hX hbl hbA hS (vp_in_nI (n := 5 * t + 3) (by omega) (by omega)) d_L_law_112 ?_
        refine lv_topi (fun v_10 ev_10 => ?_)
        obtain rfl : v_10 = xs (5 * t + 3) := ev_10.trans (by rw [nI_clamp (n := 5 * t + 3) (by omega)])
        refine q_X_text ht hx hb hml hown htB hK hP hD hS hA hl.1 (Nat.le_of_ble_eq_true rfl) ⟨by omega, by omega⟩ d_L_law_113 (fun H locs hP hD hS => ?_)
        refine lv_aload_n hx hb d_L_law_116 rfl (lv_at hl 3 rfl) ?_
        refine lv_aload_n hx hb d_L_law_117 rfl (lv_at hl 1 rfl) ?_
        refine lv_iload hx hb d_L_law_118 (lv_at hl 0 rfl) ?_
        refine lv_iconst (v := nI 1) hx hb d_L_law_120 (by decide) ?_
        refine lv_iadd hx hb d_L_law_121 ?_
        refine lv_topi (fun v_11 ev_11 => ?_)
        obtain rfl : v_11 = nI (5 * t + 1) := ev_11.trans (nI_add _ _)
        refine va_sld hx hb hX hbl hbA hS (vp_in_nI (n := 5 * t + 1) (by omega) (by omega)) d_L_law_122 ?_
        refine lv_topi (fun v_12 ev_12 => ?_)
        obtain rfl : v_12 = xs (5 * t + 1) := ev_12.trans (by rw [nI_clamp (n := 5 * t + 1) (by omega)])
        refine lv_i2l hx hb d_L_law_123 rfl ?_
        refine lv_bipush (v := nI 32) hx hb d_L_law_124 (by decide) ?_
        refine lv_lshl hx hb d_L_law_126 rfl ?_
        refine lv_aload_n hx hb d_L_law_127 rfl (lv_at hl 1 rfl) ?_
        refine lv_iload hx hb d_L_law_128 (lv_at hl 0 rfl) ?_
        refine lv_iconst (v := nI 2) hx hb d_L_law_130 (by decide) ?_
        refine lv_iadd hx hb d_L_law_131 ?_
        refine lv_topi (fun v_13 ev_13 => ?_)
        obtain rfl : v_13 = nI (5 * t + 2) := ev_13.trans (nI_add _ _)
        refine va_sld hx hb hX hbl hbA hS (vp_in_nI (n := 5 * t + 2) (by omega) (by omega)) d_L_law_132 ?_
        refine lv_topi (fun v_14 ev_14 => ?_)
        obtain rfl : v_14 = xs (5 * t + 2) := ev_14.trans (by rw [nI_clamp (n := 5 * t + 2) (by omega)])
        refine lv_i2l hx hb d_L_law_133 rfl ?_
        refine lv_ldc2 (v := 4294967295) hx hb hown (htB _ hcn_L_19) d_L_law_134 ?_
        refine lv_land hx hb d_L_law_137 ?_
        refine lv_lor hx hb d_L_law_138 ?_
        refine lv_aload_n hx hb d_L_law_139 rfl (lv_at hl 1 rfl) ?_
        refine lv_iload hx hb d_L_law_140 (lv_at hl 0 rfl) ?_
        refine lv_iconst (v := nI 3) hx hb d_L_law_142 (by decide) ?_
        refine lv_iadd hx hb d_L_law_143 ?_
        refine lv_topi (fun v_15 ev_15 => ?_)
        obtain rfl : v_15 = nI (5 * t + 3) := ev_15.trans (nI_add _ _)
        refine va_sld hx hb hX hbl hbA hS (vp_in_nI (n := 5 * t + 3) (by omega) (by omega)) d_L_law_144 ?_
        refine lv_topi (fun v_16 ev_16 => ?_)
        obtain rfl : v_16 = xs (5 * t + 3) := ev_16.trans (by rw [nI_clamp (n := 5 * t + 3) (by omega)])
        refine q_M_text ht hx hb hml hown htB hK hP hD hS hA hl.1 (Nat.le_of_ble_eq_true rfl) ⟨by omega, by omega⟩ d_L_law_145 (fun H locs hP hD hS => ?_)
        refine lv_icmp_eq (tgt := 442) hx hb d_L_law_148 (by decide) (fun c_17 => ?_) (fun c_17 => ?_)
        · refine lv_iinc (v := nI (5 * t + 5)) (lv' := [(4, .int (nI (5 * t + 5))), (0, .ref b), (1, .ref x0), (2, .ref m0), (3, .ref qo)]) hx hb d_L_law_442 hl (k := 0) rfl (nI_add _ 5) (by decide) rfl (fun ls hl => ?_)
          refine lv_goto (tgt := 23) hx hb d_L_law_445 (by decide) ?_
          refine W.widen (k := 12 + (t + 1)) (n := 2818 + 6 * (t + 1)) (by omega) (by omega) ?_
          exact ih (t + 1) _ _ _ _ _ _ _ _ _ _ _ _ (by omega) (by omega) (teN_le ht) hp hP hD hS ls (by rw [show 5 * (t + 1) = 5 * t + 5 by omega]; exact lv_sub hl [0, 1, 2, 3, 4] rfl)
        · exact absurd (rfl) c_17
      · refine lv_tableIn (tgt := 153) (off := 114) hx hb d_L_law_39 (by rw [ej]; decide) (by rw [ej]; decide) (by rw [ej]; decide) (by decide) ?_
        refine lv_aload_n hx hb d_L_law_153 rfl (lv_at hl 2 rfl) ?_
        refine lv_aload_n hx hb d_L_law_154 rfl (lv_at hl 1 rfl) ?_
        refine lv_iload hx hb d_L_law_155 (lv_at hl 0 rfl) ?_
        refine lv_iconst (v := nI 1) hx hb d_L_law_157 (by decide) ?_
        refine lv_iadd hx hb d_L_law_158 ?_
        refine lv_topi (fun v_18 ev_18 => ?_)
        obtain rfl : v_18 = nI (5 * t + 1) := ev_18.trans (nI_add _ _)
        refine va_sld hx hb hX hbl hbA hS (vp_in_nI (n := 5 * t + 1) (by omega) (by omega)) d_L_law_159 ?_
        refine lv_topi (fun v_19 ev_19 => ?_)
        obtain rfl : v_19 = xs (5 * t + 1) := ev_19.trans (by rw [nI_clamp (n := 5 * t + 1) (by omega)])
        refine lv_i2l hx hb d_L_law_160 rfl ?_
        refine lv_bipush (v := nI 32) hx hb d_L_law_161 (by decide) ?_
        refine lv_lshl hx hb d_L_law_163 rfl ?_
        refine lv_aload_n hx hb d_L_law_164 rfl (lv_at hl 1 rfl) ?_
        refine lv_iload hx hb d_L_law_165 (lv_at hl 0 rfl) ?_
        refine lv_iconst (v := nI 2) hx hb d_L_law_167 (by decide) ?_
        refine lv_iadd hx hb d_L_law_168 ?_
        refine lv_topi (fun v_20 ev_20 => ?_)
        obtain rfl : v_20 = nI (5 * t + 2) := ev_20.trans (nI_add _ _)
        refine va_sld hx hb hX hbl hbA hS (vp_in_nI (n := 5 * t + 2) (by omega) (by omega)) d_L_law_169 ?_
        refine lv_topi (fun v_21 ev_21 => ?_)
        obtain rfl : v_21 = xs (5 * t + 2) := ev_21.trans (by rw [nI_clamp (n := 5 * t + 2) (by omega)])
        refine lv_i2l hx hb d_L_law_170 rfl ?_
        refine lv_ldc2 (v := 4294967295) hx hb hown (htB _ hcn_L_19) d_L_law_171 ?_
        refine lv_land hx hb d_L_law_174 ?_
        refine lv_lor hx hb d_L_law_175 ?_
        refine lv_aload_n hx hb d_L_law_176 rfl (lv_at hl 1 rfl) ?_
        refine lv_iload hx hb d_L_law_177 (lv_at hl 0 rfl) ?_
        refine lv_iconst (v := nI 3) hx hb d_L_law_179 (by decide) ?_
        refine lv_iadd hx hb d_L_law_180 ?_
        refine lv_topi (fun v_22 ev_22 => ?_)
        obtain rfl : v_22 = nI (5 * t + 3) := ev_22.trans (nI_add _ _)
        refine va_sld hx hb hX hbl hbA hS (vp_in_nI (n := 5 * t + 3) (by omega) (by omega)) d_L_law_181 ?_
        refine lv_topi (fun v_23 ev_23 => ?_)
        obtain rfl : v_23 = xs (5 * t + 3) := ev_23.trans (by rw [nI_clamp (n := 5 * t + 3) (by omega)])
        refine lv_aload_n hx hb d_L_law_182 rfl (lv_at hl 1 rfl) ?_
        refine lv_iload hx hb d_L_law_183 (lv_at hl 0 rfl) ?_
        refine lv_iconst (v := nI 4) hx hb d_L_law_185 (by decide) ?_
        refine lv_iadd hx hb d_L_law_186 ?_
        refine lv_topi (fun v_24 ev_24 => ?_)
        obtain rfl : v_24 = nI (5 * t + 4) := ev_24.trans (nI_add _ _)
        refine va_sld hx hb hX hbl hbA hS (vp_in_nI (n := 5 * t + 4) (by omega) (by omega)) d_L_law_187 ?_
        refine lv_topi (fun v_25 ev_25 => ?_)
        obtain rfl : v_25 = xs (5 * t + 4) := ev_25.trans (by rw [nI_clamp (n := 5 * t + 4) (by omega)])
        refine q_X_pattern hp hx hb hml hown htB hK hP hD hS hA hl.1 (Nat.le_of_ble_eq_true rfl) ⟨by omega, by omega⟩ d_L_law_188 (fun H locs hP hD hS => ?_)
        refine lv_aload_n hx hb d_L_law_191 rfl (lv_at hl 3 rfl) ?_
        refine lv_aload_n hx hb d_L_law_192 rfl (lv_at hl 1 rfl) ?_
        refine lv_iload hx hb d_L_law_193 (lv_at hl 0 rfl) ?_
        refine lv_iconst (v := nI 1) hx hb d_L_law_195 (by decide) ?_
        refine lv_iadd hx hb d_L_law_196 ?_
        refine lv_topi (fun v_26 ev_26 => ?_)
        obtain rfl : v_26 = nI (5 * t + 1) := ev_26.trans (nI_add _ _)
        refine va_sld hx hb hX hbl hbA hS (vp_in_nI (n := 5 * t + 1) (by omega) (by omega)) d_L_law_197 ?_
        refine lv_topi (fun v_27 ev_27 => ?_)
        obtain rfl : v_27 = xs (5 * t + 1) := ev_27.trans (by rw [nI_clamp (n := 5 * t + 1) (by omega)])
        refine lv_i2l hx hb d_L_law_198 rfl ?_
        refine lv_bipush (v := nI 32) hx hb d_L_law_199 (by decide) ?_
        refine lv_lshl hx hb d_L_law_201 rfl ?_
        refine lv_aload_n hx hb d_L_law_202 rfl (lv_at hl 1 rfl) ?_
        refine lv_iload hx hb d_L_law_203 (lv_at hl 0 rfl) ?_
        refine lv_iconst (v := nI 2) hx hb d_L_law_205 (by decide) ?_
        refine lv_iadd hx hb d_L_law_206 ?_
        refine lv_topi (fun v_28 ev_28 => ?_)
        obtain rfl : v_28 = nI (5 * t + 2) := ev_28.trans (nI_add _ _)
        refine va_sld hx hb hX hbl hbA hS (vp_in_nI (n := 5 * t + 2) (by omega) (by omega)) d_L_law_207 ?_
        refine lv_topi (fun v_29 ev_29 => ?_)
        obtain rfl : v_29 = xs (5 * t + 2) := ev_29.trans (by rw [nI_clamp (n := 5 * t + 2) (by omega)])
        refine lv_i2l hx hb d_L_law_208 rfl ?_
        refine lv_ldc2 (v := 4294967295) hx hb hown (htB _ hcn_L_19) d_L_law_209 ?_
        refine lv_land hx hb d_L_law_212 ?_
        refine lv_lor hx hb d_L_law_213 ?_
        refine lv_aload_n hx hb d_L_law_214 rfl (lv_at hl 1 rfl) ?_
        refine lv_iload hx hb d_L_law_215 (lv_at hl 0 rfl) ?_
        refine lv_iconst (v := nI 3) hx hb d_L_law_217 (by decide) ?_
        refine lv_iadd hx hb d_L_law_218 ?_
        refine lv_topi (fun v_30 ev_30 => ?_)
        obtain rfl : v_30 = nI (5 * t + 3) := ev_30.trans (nI_add _ _)
        refine va_sld hx hb hX hbl hbA hS (vp_in_nI (n := 5 * t + 3) (by omega) (by omega)) d_L_law_219 ?_
        refine lv_topi (fun v_31 ev_31 => ?_)
        obtain rfl : v_31 = xs (5 * t + 3) := ev_31.trans (by rw [nI_clamp (n := 5 * t + 3) (by omega)])
        refine lv_aload_n hx hb d_L_law_220 rfl (lv_at hl 1 rfl) ?_
        refine lv_iload hx hb d_L_law_221 (lv_at hl 0 rfl) ?_
        refine lv_iconst (v := nI 4) hx hb d_L_law_223 (by decide) ?_
        refine lv_iadd hx hb d_L_law_224 ?_
        refine lv_topi (fun v_32 ev_32 => ?_)
        obtain rfl : v_32 = nI (5 * t + 4) := ev_32.trans (nI_add _ _)
        refine va_sld hx hb hX hbl hbA hS (vp_in_nI (n := 5 * t + 4) (by omega) (by omega)) d_L_law_225 ?_
        refine lv_topi (fun v_33 ev_33 => ?_)
        obtain rfl : v_33 = xs (5 * t + 4) := ev_33.trans (by rw [nI_clamp (n := 5 * t + 4) (by omega)])
        refine q_M_pattern hp hx hb hml hown htB hK hP hD hS hA hl.1 (Nat.le_of_ble_eq_true rfl) ⟨by omega, by omega⟩ d_L_law_226 (fun H locs hP hD hS => ?_)
        refine lv_icmp_eq (tgt := 442) hx hb d_L_law_229 (by decide) (fun c_34 => ?_) (fun c_34 => ?_)
        · refine lv_iinc (v := nI (5 * t + 5)) (lv' := [(4, .int (nI (5 * t + 5))), (0, .ref b), (1, .ref x0), (2, .ref m0), (3, .ref qo)]) hx hb d_L_law_442 hl (k := 0) rfl (nI_add _ 5) (by decide) rfl (fun ls hl => ?_)
          refine lv_goto (tgt := 23) hx hb d_L_law_445 (by decide) ?_
          refine W.widen (k := 12 + (t + 1)) (n := 2818 + 6 * (t + 1)) (by omega) (by omega) ?_
          exact ih (t + 1) _ _ _ _ _ _ _ _ _ _ _ _ (by omega) (by omega) ht (teN_le hp) hP hD hS ls (by rw [show 5 * (t + 1) = 5 * t + 5 by omega]; exact lv_sub hl [0, 1, 2, 3, 4] rfl)
        · exact absurd (rfl) c_34
      · refine lv_tableIn (tgt := 234) (off := 195) hx hb d_L_law_39 (by rw [ej]; decide) (by rw [ej]; decide) (by rw [ej]; decide) (by decide) ?_
        refine lv_aload_n hx hb d_L_law_234 rfl (lv_at hl 2 rfl) ?_
        refine q_X_clear  hx hb hml hown htB hK hP hD hS hA hl.1 (Nat.le_of_ble_eq_true rfl) ⟨by omega, by omega⟩ d_L_law_235 (fun H locs hP hD hS => ?_)
        refine lv_aload_n hx hb d_L_law_238 rfl (lv_at hl 3 rfl) ?_
        refine q_M_clear  hx hb hml hown htB hK hP hD hS hA hl.1 (Nat.le_of_ble_eq_true rfl) ⟨by omega, by omega⟩ d_L_law_239 (fun H locs hP hD hS => ?_)
        refine lv_icmp_eq (tgt := 442) hx hb d_L_law_242 (by decide) (fun c_35 => ?_) (fun c_35 => ?_)
        · refine lv_iinc (v := nI (5 * t + 5)) (lv' := [(4, .int (nI (5 * t + 5))), (0, .ref b), (1, .ref x0), (2, .ref m0), (3, .ref qo)]) hx hb d_L_law_442 hl (k := 0) rfl (nI_add _ 5) (by decide) rfl (fun ls hl => ?_)
          refine lv_goto (tgt := 23) hx hb d_L_law_445 (by decide) ?_
          refine W.widen (k := 12 + (t + 1)) (n := 2818 + 6 * (t + 1)) (by omega) (by omega) ?_
          exact ih (t + 1) _ _ _ _ _ _ _ _ _ _ _ _ (by omega) (by omega) (Nat.zero_le _) (Nat.zero_le _) hP hD hS ls (by rw [show 5 * (t + 1) = 5 * t + 5 by omega]; exact lv_sub hl [0, 1, 2, 3, 4] rfl)
        · exact absurd (rfl) c_35
      · refine lv_tableIn (tgt := 247) (off := 208) hx hb d_L_law_39 (by rw [ej]; decide) (by rw [ej]; decide) (by rw [ej]; decide) (by decide) ?_
        refine lv_aload_n hx hb d_L_law_247 rfl (lv_at hl 2 rfl) ?_
        refine q_X_matches hp ht hx hb hml hown htB hK hP hD hS hA hl.1 (Nat.le_of_ble_eq_true rfl) ⟨by omega, by omega⟩ d_L_law_248 (fun u1 H locs hP hD hS => ?_)
        refine lv_aload_n hx hb d_L_law_251 rfl (lv_at hl 3 rfl) ?_
        refine q_M_matches hp ht hx hb hml hown htB hK hP hD hS hA hl.1 (Nat.le_of_ble_eq_true rfl) ⟨by omega, by omega⟩ d_L_law_252 (fun u2 H locs hP hD hS => ?_)
        refine lv_icmp_eq (tgt := 442) hx hb d_L_law_255 (by decide) (fun c_36 => ?_) (fun c_36 => ?_)
        · refine lv_iinc (v := nI (5 * t + 5)) (lv' := [(4, .int (nI (5 * t + 5))), (0, .ref b), (1, .ref x0), (2, .ref m0), (3, .ref qo)]) hx hb d_L_law_442 hl (k := 0) rfl (nI_add _ 5) (by decide) rfl (fun ls hl => ?_)
          refine lv_goto (tgt := 23) hx hb d_L_law_445 (by decide) ?_
          refine W.widen (k := 12 + (t + 1)) (n := 2818 + 6 * (t + 1)) (by omega) (by omega) ?_
          exact ih (t + 1) _ _ _ _ _ _ _ _ _ _ _ _ (by omega) (by omega) ht hp hP hD hS ls (by rw [show 5 * (t + 1) = 5 * t + 5 by omega]; exact lv_sub hl [0, 1, 2, 3, 4] rfl)
        · exact absurd (by rw [mX_mM (Nat.zero_le _) (Nat.le_refl _)]) c_36
      · refine lv_tableIn (tgt := 260) (off := 221) hx hb d_L_law_39 (by rw [ej]; decide) (by rw [ej]; decide) (by rw [ej]; decide) (by decide) ?_
        refine lv_aload_n hx hb d_L_law_260 rfl (lv_at hl 2 rfl) ?_
        refine lv_aload_n hx hb d_L_law_261 rfl (lv_at hl 1 rfl) ?_
        refine lv_iload hx hb d_L_law_262 (lv_at hl 0 rfl) ?_
        refine lv_iconst (v := nI 1) hx hb d_L_law_264 (by decide) ?_
        refine lv_iadd hx hb d_L_law_265 ?_
        refine lv_topi (fun v_37 ev_37 => ?_)
        obtain rfl : v_37 = nI (5 * t + 1) := ev_37.trans (nI_add _ _)
        refine va_sld hx hb hX hbl hbA hS (vp_in_nI (n := 5 * t + 1) (by omega) (by omega)) d_L_law_266 ?_
        refine lv_topi (fun v_38 ev_38 => ?_)
        obtain rfl : v_38 = xs (5 * t + 1) := ev_38.trans (by rw [nI_clamp (n := 5 * t + 1) (by omega)])
        refine lv_aload_n hx hb d_L_law_267 rfl (lv_at hl 1 rfl) ?_
        refine lv_iload hx hb d_L_law_268 (lv_at hl 0 rfl) ?_
        refine lv_iconst (v := nI 2) hx hb d_L_law_270 (by decide) ?_
        refine lv_iadd hx hb d_L_law_271 ?_
        refine lv_topi (fun v_39 ev_39 => ?_)
        obtain rfl : v_39 = nI (5 * t + 2) := ev_39.trans (nI_add _ _)
        refine va_sld hx hb hX hbl hbA hS (vp_in_nI (n := 5 * t + 2) (by omega) (by omega)) d_L_law_272 ?_
        refine lv_topi (fun v_40 ev_40 => ?_)
        obtain rfl : v_40 = xs (5 * t + 2) := ev_40.trans (by rw [nI_clamp (n := 5 * t + 2) (by omega)])
        refine lv_aload_n hx hb d_L_law_273 rfl (lv_at hl 4 rfl) ?_
        refine q_L_part hlt hp ht hZ hx hb hml hown htB hK hP hD hS hA hl.1 (Nat.le_of_ble_eq_true rfl) ⟨by omega, by omega⟩ d_L_law_274 (fun r9 u9 H locs hlp hP hD hS => ?_)
        obtain rfl : r9 = (if okp tn (xs (5 * t + 1)) (xs (5 * t + 2)) = true then nI 0 else nI 1) := lp_val hlp
        refine lv_istore (lv' := [(5, .int (if okp tn (xs (5 * t + 1)) (xs (5 * t + 2)) = true then nI 0 else nI 1)), (4, .int (nI (5 * t))), (0, .ref b), (1, .ref x0), (2, .ref m0), (3, .ref qo)]) hx hb d_L_law_277 hl (by decide) rfl (fun ls hl => ?_)
        refine lv_aload_n hx hb d_L_law_279 rfl (lv_at hl 4 rfl) ?_
        refine lv_aload_n hx hb d_L_law_280 rfl (lv_at hl 2 rfl) ?_
        refine lv_iload hx hb d_L_law_281 (lv_at hl 1 rfl) ?_
        refine lv_iconst (v := nI 1) hx hb d_L_law_283 (by decide) ?_
        refine lv_iadd hx hb d_L_law_284 ?_
        refine lv_topi (fun v_41 ev_41 => ?_)
        obtain rfl : v_41 = nI (5 * t + 1) := ev_41.trans (nI_add _ _)
        refine va_sld hx hb hX hbl hbA hS (vp_in_nI (n := 5 * t + 1) (by omega) (by omega)) d_L_law_285 ?_
        refine lv_topi (fun v_42 ev_42 => ?_)
        obtain rfl : v_42 = xs (5 * t + 1) := ev_42.trans (by rw [nI_clamp (n := 5 * t + 1) (by omega)])
        refine lv_aload_n hx hb d_L_law_286 rfl (lv_at hl 2 rfl) ?_
        refine lv_iload hx hb d_L_law_287 (lv_at hl 1 rfl) ?_
        refine lv_iconst (v := nI 2) hx hb d_L_law_289 (by decide) ?_
        refine lv_iadd hx hb d_L_law_290 ?_
        refine lv_topi (fun v_43 ev_43 => ?_)
        obtain rfl : v_43 = nI (5 * t + 2) := ev_43.trans (nI_add _ _)
        refine va_sld hx hb hX hbl hbA hS (vp_in_nI (n := 5 * t + 2) (by omega) (by omega)) d_L_law_291 ?_
        refine lv_topi (fun v_44 ev_44 => ?_)
        obtain rfl : v_44 = xs (5 * t + 2) := ev_44.trans (by rw [nI_clamp (n := 5 * t + 2) (by omega)])
        refine q_M_part hp ht hx hb hml hown htB hK hP hD hS hA hl.1 (Nat.le_of_ble_eq_true rfl) ⟨by omega, by omega⟩ d_L_law_292 (fun u2 H locs hP hD hS => ?_)
        refine lv_istore (lv' := [(6, .int (if okp tn (xs (5 * t + 1)) (xs (5 * t + 2)) = true then bI (mM tx pt qt pn ((xs (5 * t + 1))).toNatClampNeg ((xs (5 * t + 2))).toNatClampNeg ((xs (5 * t + 2))).toNatClampNeg) else nI 0)), (5, .int (if okp tn (xs (5 * t + 1)) (xs (5 * t + 2)) = true then nI 0 else nI 1)), (4, .int (nI (5 * t))), (0, .ref b), (1, .ref x0), (2, .ref m0), (3, .ref qo)]) hx hb d_L_law_295 hl (by decide) rfl (fun ls hl => ?_)
        refine lv_aload_n hx hb d_L_law_297 rfl (lv_at hl 5 rfl) ?_
        refine q_M_thrown  hx hb hml hown htB hK hP hD hS hA hl.1 (Nat.le_of_ble_eq_true rfl) ⟨by omega, by omega⟩ d_L_law_298 ?_
        refine lv_iload hx hb d_L_law_301 (lv_at hl 1 rfl) ?_
        refine lv_icmp_eq (tgt := 308) hx hb d_L_law_303 (by decide) (fun c_45 => ?_) (fun c_45 => ?_)
        · refine lv_iload hx hb d_L_law_308 (lv_at hl 1 rfl) ?_
          refine lv_if_ne (tgt := 332) hx hb d_L_law_310 (by decide) (fun c_46 => ?_) (fun c_46 => ?_)
          · refine lv_goto (tgt := 442) hx hb d_L_law_332 (by decide) ?_
            refine lv_iinc (v := nI (5 * t + 5)) (lv' := [(4, .int (nI (5 * t + 5))), (6, .int (if okp tn (xs (5 * t + 1)) (xs (5 * t + 2)) = true then bI (mM tx pt qt pn ((xs (5 * t + 1))).toNatClampNeg ((xs (5 * t + 2))).toNatClampNeg ((xs (5 * t + 2))).toNatClampNeg) else nI 0)), (5, .int (if okp tn (xs (5 * t + 1)) (xs (5 * t + 2)) = true then nI 0 else nI 1)), (0, .ref b), (1, .ref x0), (2, .ref m0), (3, .ref qo)]) hx hb d_L_law_442 hl (k := 2) rfl (nI_add _ 5) (by decide) rfl (fun ls hl => ?_)
            refine lv_goto (tgt := 23) hx hb d_L_law_445 (by decide) ?_
            refine W.widen (k := 12 + (t + 1)) (n := 2818 + 6 * (t + 1)) (by omega) (by omega) ?_
            exact ih (t + 1) _ _ _ _ _ _ _ _ _ _ _ _ (by omega) (by omega) ht hp hP hD hS ls (by rw [show 5 * (t + 1) = 5 * t + 5 by omega]; exact lv_sub hl [0, 3, 4, 5, 6] rfl)
          · have hok := cdv_0 c_46
            refine lv_aload_n hx hb d_L_law_313 rfl (lv_at hl 6 rfl) ?_
            refine lv_iconst (v := nI 0) hx hb d_L_law_314 (by decide) ?_
            refine va_lald hx hb hK hP 11 2 rfl rfl (vp_in_nI (n := 0) (by decide) (by decide)) d_L_law_315 ?_
            refine lv_topl (fun w9 ew9 => ?_)
            obtain rfl : w9 = u9.2 0 := ew9.trans (by rw [nI_clamp (n := 0) (by decide)])
            refine lv_iload hx hb d_L_law_316 (lv_at hl 0 rfl) ?_
            refine lv_if_eq (tgt := 325) hx hb d_L_law_318 (by decide) (fun c_47 => ?_) (fun c_47 => ?_)
            · have hov := part_n ht hlp hok c_47
              refine lv_lconst (v := 0) hx hb d_L_law_325 (by decide) ?_
              refine W.lcmp hx hb d_L_law_326 ?_
              refine lv_if_eq (tgt := 332) hx hb d_L_law_327 (by decide) (fun c_48 => ?_) (fun c_48 => ?_)
              · refine lv_goto (tgt := 442) hx hb d_L_law_332 (by decide) ?_
                refine lv_iinc (v := nI (5 * t + 5)) (lv' := [(4, .int (nI (5 * t + 5))), (6, .int (if okp tn (xs (5 * t + 1)) (xs (5 * t + 2)) = true then bI (mM tx pt qt pn ((xs (5 * t + 1))).toNatClampNeg ((xs (5 * t + 2))).toNatClampNeg ((xs (5 * t + 2))).toNatClampNeg) else nI 0)), (5, .int (if okp tn (xs (5 * t + 1)) (xs (5 * t + 2)) = true then nI 0 else nI 1)), (0, .ref b), (1, .ref x0), (2, .ref m0), (3, .ref qo)]) hx hb d_L_law_442 hl (k := 2) rfl (nI_add _ 5) (by decide) rfl (fun ls hl => ?_)
                refine lv_goto (tgt := 23) hx hb d_L_law_445 (by decide) ?_
                refine W.widen (k := 12 + (t + 1)) (n := 2818 + 6 * (t + 1)) (by omega) (by omega) ?_
                exact ih (t + 1) _ _ _ _ _ _ _ _ _ _ _ _ (by omega) (by omega) ht hp hP hD hS ls (by rw [show 5 * (t + 1) = 5 * t + 5 by omega]; exact lv_sub hl [0, 3, 4, 5, 6] rfl)
              · exact absurd ((lg_cmp_eq _ _).mpr hov) c_48
            · have hov := part_y ht hlp hok c_47
              refine lv_lconst (v := 1) hx hb d_L_law_321 (by decide) ?_
              refine lv_goto (tgt := 326) hx hb d_L_law_322 (by decide) ?_
              refine W.lcmp hx hb d_L_law_326 ?_
              refine lv_if_eq (tgt := 332) hx hb d_L_law_327 (by decide) (fun c_49 => ?_) (fun c_49 => ?_)
              · refine lv_goto (tgt := 442) hx hb d_L_law_332 (by decide) ?_
                refine lv_iinc (v := nI (5 * t + 5)) (lv' := [(4, .int (nI (5 * t + 5))), (6, .int (if okp tn (xs (5 * t + 1)) (xs (5 * t + 2)) = true then bI (mM tx pt qt pn ((xs (5 * t + 1))).toNatClampNeg ((xs (5 * t + 2))).toNatClampNeg ((xs (5 * t + 2))).toNatClampNeg) else nI 0)), (5, .int (if okp tn (xs (5 * t + 1)) (xs (5 * t + 2)) = true then nI 0 else nI 1)), (0, .ref b), (1, .ref x0), (2, .ref m0), (3, .ref qo)]) hx hb d_L_law_442 hl (k := 2) rfl (nI_add _ 5) (by decide) rfl (fun ls hl => ?_)
                refine lv_goto (tgt := 23) hx hb d_L_law_445 (by decide) ?_
                refine W.widen (k := 12 + (t + 1)) (n := 2818 + 6 * (t + 1)) (by omega) (by omega) ?_
                exact ih (t + 1) _ _ _ _ _ _ _ _ _ _ _ _ (by omega) (by omega) ht hp hP hD hS ls (by rw [show 5 * (t + 1) = 5 * t + 5 by omega]; exact lv_sub hl [0, 3, 4, 5, 6] rfl)
              · exact absurd ((lg_cmp_eq _ _).mpr hov) c_49
        · exact absurd (rfl) c_45
      · refine lv_tableIn (tgt := 335) (off := 296) hx hb d_L_law_39 (by rw [ej]; decide) (by rw [ej]; decide) (by rw [ej]; decide) (by decide) ?_
        refine lv_aload_n hx hb d_L_law_335 rfl (lv_at hl 2 rfl) ?_
        refine lv_aload_n hx hb d_L_law_336 rfl (lv_at hl 1 rfl) ?_
        refine lv_iload hx hb d_L_law_337 (lv_at hl 0 rfl) ?_
        refine lv_iconst (v := nI 1) hx hb d_L_law_339 (by decide) ?_
        refine lv_iadd hx hb d_L_law_340 ?_
        refine lv_topi (fun v_50 ev_50 => ?_)
        obtain rfl : v_50 = nI (5 * t + 1) := ev_50.trans (nI_add _ _)
        refine va_sld hx hb hX hbl hbA hS (vp_in_nI (n := 5 * t + 1) (by omega) (by omega)) d_L_law_341 ?_
        refine lv_topi (fun v_51 ev_51 => ?_)
        obtain rfl : v_51 = xs (5 * t + 1) := ev_51.trans (by rw [nI_clamp (n := 5 * t + 1) (by omega)])
        refine lv_if_eq (tgt := 349) hx hb d_L_law_342 (by decide) (fun c_52 => ?_) (fun c_52 => ?_)
        · have c_52 := c_52
          refine lv_iconst (v := nI 0) hx hb d_L_law_349 (by decide) ?_
          refine lv_topi (fun v_53 ev_53 => ?_)
          obtain rfl : v_53 = bI false := ev_53.trans rfl
          refine lv_aload_n hx hb d_L_law_350 rfl (lv_at hl 1 rfl) ?_
          refine lv_iload hx hb d_L_law_351 (lv_at hl 0 rfl) ?_
          refine lv_iconst (v := nI 2) hx hb d_L_law_353 (by decide) ?_
          refine lv_iadd hx hb d_L_law_354 ?_
          refine lv_topi (fun v_54 ev_54 => ?_)
          obtain rfl : v_54 = nI (5 * t + 2) := ev_54.trans (nI_add _ _)
          refine va_sld hx hb hX hbl hbA hS (vp_in_nI (n := 5 * t + 2) (by omega) (by omega)) d_L_law_355 ?_
          refine lv_topi (fun v_55 ev_55 => ?_)
          obtain rfl : v_55 = xs (5 * t + 2) := ev_55.trans (by rw [nI_clamp (n := 5 * t + 2) (by omega)])
          refine lv_if_eq (tgt := 363) hx hb d_L_law_356 (by decide) (fun c_56 => ?_) (fun c_56 => ?_)
          · have c_56 := c_56
            refine lv_iconst (v := nI 0) hx hb d_L_law_363 (by decide) ?_
            refine lv_topi (fun v_57 ev_57 => ?_)
            obtain rfl : v_57 = bI false := ev_57.trans rfl
            refine q_X_cut hp ht hx hb hml hown htB hK hP hD hS hA hl.1 (Nat.le_of_ble_eq_true rfl) ⟨by omega, by omega⟩ d_L_law_364 (fun u1 H locs hP hD hS => ?_)
            refine lv_aload_n hx hb d_L_law_367 rfl (lv_at hl 3 rfl) ?_
            refine lv_aload_n hx hb d_L_law_368 rfl (lv_at hl 1 rfl) ?_
            refine lv_iload hx hb d_L_law_369 (lv_at hl 0 rfl) ?_
            refine lv_iconst (v := nI 1) hx hb d_L_law_371 (by decide) ?_
            refine lv_iadd hx hb d_L_law_372 ?_
            refine lv_topi (fun v_58 ev_58 => ?_)
            obtain rfl : v_58 = nI (5 * t + 1) := ev_58.trans (nI_add _ _)
            refine va_sld hx hb hX hbl hbA hS (vp_in_nI (n := 5 * t + 1) (by omega) (by omega)) d_L_law_373 ?_
            refine lv_topi (fun v_59 ev_59 => ?_)
            obtain rfl : v_59 = xs (5 * t + 1) := ev_59.trans (by rw [nI_clamp (n := 5 * t + 1) (by omega)])
            refine lv_if_eq (tgt := 381) hx hb d_L_law_374 (by decide) (fun c_60 => ?_) (fun c_60 => ?_)
            · clear c_60
              refine lv_iconst (v := nI 0) hx hb d_L_law_381 (by decide) ?_
              refine lv_topi (fun v_61 ev_61 => ?_)
              obtain rfl : v_61 = bI false := ev_61.trans rfl
              refine lv_aload_n hx hb d_L_law_382 rfl (lv_at hl 1 rfl) ?_
              refine lv_iload hx hb d_L_law_383 (lv_at hl 0 rfl) ?_
              refine lv_iconst (v := nI 2) hx hb d_L_law_385 (by decide) ?_
              refine lv_iadd hx hb d_L_law_386 ?_
              refine lv_topi (fun v_62 ev_62 => ?_)
              obtain rfl : v_62 = nI (5 * t + 2) := ev_62.trans (nI_add _ _)
              refine va_sld hx hb hX hbl hbA hS (vp_in_nI (n := 5 * t + 2) (by omega) (by omega)) d_L_law_387 ?_
              refine lv_topi (fun v_63 ev_63 => ?_)
              obtain rfl : v_63 = xs (5 * t + 2) := ev_63.trans (by rw [nI_clamp (n := 5 * t + 2) (by omega)])
              refine lv_if_eq (tgt := 395) hx hb d_L_law_388 (by decide) (fun c_64 => ?_) (fun c_64 => ?_)
              · clear c_64
                refine lv_iconst (v := nI 0) hx hb d_L_law_395 (by decide) ?_
                refine lv_topi (fun v_65 ev_65 => ?_)
                obtain rfl : v_65 = bI false := ev_65.trans rfl
                refine q_M_cut hp ht hx hb hml hown htB hK hP hD hS hA hl.1 (Nat.le_of_ble_eq_true rfl) ⟨by omega, by omega⟩ d_L_law_396 (fun u2 H locs hP hD hS => ?_)
                refine lv_icmp_eq (tgt := 442) hx hb d_L_law_399 (by decide) (fun c_66 => ?_) (fun c_66 => ?_)
                · refine lv_iinc (v := nI (5 * t + 5)) (lv' := [(4, .int (nI (5 * t + 5))), (0, .ref b), (1, .ref x0), (2, .ref m0), (3, .ref qo)]) hx hb d_L_law_442 hl (k := 0) rfl (nI_add _ 5) (by decide) rfl (fun ls hl => ?_)
                  refine lv_goto (tgt := 23) hx hb d_L_law_445 (by decide) ?_
                  refine W.widen (k := 12 + (t + 1)) (n := 2818 + 6 * (t + 1)) (by omega) (by omega) ?_
                  exact ih (t + 1) _ _ _ _ _ _ _ _ _ _ _ _ (by omega) (by omega) ht hp hP hD hS ls (by rw [show 5 * (t + 1) = 5 * t + 5 by omega]; exact lv_sub hl [0, 1, 2, 3, 4] rfl)
                · exact absurd (cut_same ht) c_66
              · exact absurd c_56 c_64
            · exact absurd c_52 c_60
          · have c_56 := c_56
            refine lv_iconst (v := nI 1) hx hb d_L_law_359 (by decide) ?_
            refine lv_goto (tgt := 364) hx hb d_L_law_360 (by decide) ?_
            refine lv_topi (fun v_67 ev_67 => ?_)
            obtain rfl : v_67 = bI true := ev_67.trans rfl
            refine q_X_cut hp ht hx hb hml hown htB hK hP hD hS hA hl.1 (Nat.le_of_ble_eq_true rfl) ⟨by omega, by omega⟩ d_L_law_364 (fun u1 H locs hP hD hS => ?_)
            refine lv_aload_n hx hb d_L_law_367 rfl (lv_at hl 3 rfl) ?_
            refine lv_aload_n hx hb d_L_law_368 rfl (lv_at hl 1 rfl) ?_
            refine lv_iload hx hb d_L_law_369 (lv_at hl 0 rfl) ?_
            refine lv_iconst (v := nI 1) hx hb d_L_law_371 (by decide) ?_
            refine lv_iadd hx hb d_L_law_372 ?_
            refine lv_topi (fun v_68 ev_68 => ?_)
            obtain rfl : v_68 = nI (5 * t + 1) := ev_68.trans (nI_add _ _)
            refine va_sld hx hb hX hbl hbA hS (vp_in_nI (n := 5 * t + 1) (by omega) (by omega)) d_L_law_373 ?_
            refine lv_topi (fun v_69 ev_69 => ?_)
            obtain rfl : v_69 = xs (5 * t + 1) := ev_69.trans (by rw [nI_clamp (n := 5 * t + 1) (by omega)])
            refine lv_if_eq (tgt := 381) hx hb d_L_law_374 (by decide) (fun c_70 => ?_) (fun c_70 => ?_)
            · clear c_70
              refine lv_iconst (v := nI 0) hx hb d_L_law_381 (by decide) ?_
              refine lv_topi (fun v_71 ev_71 => ?_)
              obtain rfl : v_71 = bI false := ev_71.trans rfl
              refine lv_aload_n hx hb d_L_law_382 rfl (lv_at hl 1 rfl) ?_
              refine lv_iload hx hb d_L_law_383 (lv_at hl 0 rfl) ?_
              refine lv_iconst (v := nI 2) hx hb d_L_law_385 (by decide) ?_
              refine lv_iadd hx hb d_L_law_386 ?_
              refine lv_topi (fun v_72 ev_72 => ?_)
              obtain rfl : v_72 = nI (5 * t + 2) := ev_72.trans (nI_add _ _)
              refine va_sld hx hb hX hbl hbA hS (vp_in_nI (n := 5 * t + 2) (by omega) (by omega)) d_L_law_387 ?_
              refine lv_topi (fun v_73 ev_73 => ?_)
              obtain rfl : v_73 = xs (5 * t + 2) := ev_73.trans (by rw [nI_clamp (n := 5 * t + 2) (by omega)])
              refine lv_if_eq (tgt := 395) hx hb d_L_law_388 (by decide) (fun c_74 => ?_) (fun c_74 => ?_)
              · exact absurd c_74 c_56
              · clear c_74
                refine lv_iconst (v := nI 1) hx hb d_L_law_391 (by decide) ?_
                refine lv_goto (tgt := 396) hx hb d_L_law_392 (by decide) ?_
                refine lv_topi (fun v_75 ev_75 => ?_)
                obtain rfl : v_75 = bI true := ev_75.trans rfl
                refine q_M_cut hp ht hx hb hml hown htB hK hP hD hS hA hl.1 (Nat.le_of_ble_eq_true rfl) ⟨by omega, by omega⟩ d_L_law_396 (fun u2 H locs hP hD hS => ?_)
                refine lv_icmp_eq (tgt := 442) hx hb d_L_law_399 (by decide) (fun c_76 => ?_) (fun c_76 => ?_)
                · refine lv_iinc (v := nI (5 * t + 5)) (lv' := [(4, .int (nI (5 * t + 5))), (0, .ref b), (1, .ref x0), (2, .ref m0), (3, .ref qo)]) hx hb d_L_law_442 hl (k := 0) rfl (nI_add _ 5) (by decide) rfl (fun ls hl => ?_)
                  refine lv_goto (tgt := 23) hx hb d_L_law_445 (by decide) ?_
                  refine W.widen (k := 12 + (t + 1)) (n := 2818 + 6 * (t + 1)) (by omega) (by omega) ?_
                  exact ih (t + 1) _ _ _ _ _ _ _ _ _ _ _ _ (by omega) (by omega) ht hp hP hD hS ls (by rw [show 5 * (t + 1) = 5 * t + 5 by omega]; exact lv_sub hl [0, 1, 2, 3, 4] rfl)
                · exact absurd (cut_same ht) c_76
            · exact absurd c_52 c_70
        · have c_52 := c_52
          refine lv_iconst (v := nI 1) hx hb d_L_law_345 (by decide) ?_
          refine lv_goto (tgt := 350) hx hb d_L_law_346 (by decide) ?_
          refine lv_topi (fun v_77 ev_77 => ?_)
          obtain rfl : v_77 = bI true := ev_77.trans rfl
          refine lv_aload_n hx hb d_L_law_350 rfl (lv_at hl 1 rfl) ?_
          refine lv_iload hx hb d_L_law_351 (lv_at hl 0 rfl) ?_
          refine lv_iconst (v := nI 2) hx hb d_L_law_353 (by decide) ?_
          refine lv_iadd hx hb d_L_law_354 ?_
          refine lv_topi (fun v_78 ev_78 => ?_)
          obtain rfl : v_78 = nI (5 * t + 2) := ev_78.trans (nI_add _ _)
          refine va_sld hx hb hX hbl hbA hS (vp_in_nI (n := 5 * t + 2) (by omega) (by omega)) d_L_law_355 ?_
          refine lv_topi (fun v_79 ev_79 => ?_)
          obtain rfl : v_79 = xs (5 * t + 2) := ev_79.trans (by rw [nI_clamp (n := 5 * t + 2) (by omega)])
          refine lv_if_eq (tgt := 363) hx hb d_L_law_356 (by decide) (fun c_80 => ?_) (fun c_80 => ?_)
          · have c_80 := c_80
            refine lv_iconst (v := nI 0) hx hb d_L_law_363 (by decide) ?_
            refine lv_topi (fun v_81 ev_81 => ?_)
            obtain rfl : v_81 = bI false := ev_81.trans rfl
            refine q_X_cut hp ht hx hb hml hown htB hK hP hD hS hA hl.1 (Nat.le_of_ble_eq_true rfl) ⟨by omega, by omega⟩ d_L_law_364 (fun u1 H locs hP hD hS => ?_)
            refine lv_aload_n hx hb d_L_law_367 rfl (lv_at hl 3 rfl) ?_
            refine lv_aload_n hx hb d_L_law_368 rfl (lv_at hl 1 rfl) ?_
            refine lv_iload hx hb d_L_law_369 (lv_at hl 0 rfl) ?_
            refine lv_iconst (v := nI 1) hx hb d_L_law_371 (by decide) ?_
            refine lv_iadd hx hb d_L_law_372 ?_
            refine lv_topi (fun v_82 ev_82 => ?_)
            obtain rfl : v_82 = nI (5 * t + 1) := ev_82.trans (nI_add _ _)
            refine va_sld hx hb hX hbl hbA hS (vp_in_nI (n := 5 * t + 1) (by omega) (by omega)) d_L_law_373 ?_
            refine lv_topi (fun v_83 ev_83 => ?_)
            obtain rfl : v_83 = xs (5 * t + 1) := ev_83.trans (by rw [nI_clamp (n := 5 * t + 1) (by omega)])
            refine lv_if_eq (tgt := 381) hx hb d_L_law_374 (by decide) (fun c_84 => ?_) (fun c_84 => ?_)
            · exact absurd c_84 c_52
            · clear c_84
              refine lv_iconst (v := nI 1) hx hb d_L_law_377 (by decide) ?_
              refine lv_goto (tgt := 382) hx hb d_L_law_378 (by decide) ?_
              refine lv_topi (fun v_85 ev_85 => ?_)
              obtain rfl : v_85 = bI true := ev_85.trans rfl
              refine lv_aload_n hx hb d_L_law_382 rfl (lv_at hl 1 rfl) ?_
              refine lv_iload hx hb d_L_law_383 (lv_at hl 0 rfl) ?_
              refine lv_iconst (v := nI 2) hx hb d_L_law_385 (by decide) ?_
              refine lv_iadd hx hb d_L_law_386 ?_
              refine lv_topi (fun v_86 ev_86 => ?_)
              obtain rfl : v_86 = nI (5 * t + 2) := ev_86.trans (nI_add _ _)
              refine va_sld hx hb hX hbl hbA hS (vp_in_nI (n := 5 * t + 2) (by omega) (by omega)) d_L_law_387 ?_
              refine lv_topi (fun v_87 ev_87 => ?_)
              obtain rfl : v_87 = xs (5 * t + 2) := ev_87.trans (by rw [nI_clamp (n := 5 * t + 2) (by omega)])
              refine lv_if_eq (tgt := 395) hx hb d_L_law_388 (by decide) (fun c_88 => ?_) (fun c_88 => ?_)
              · clear c_88
                refine lv_iconst (v := nI 0) hx hb d_L_law_395 (by decide) ?_
                refine lv_topi (fun v_89 ev_89 => ?_)
                obtain rfl : v_89 = bI false := ev_89.trans rfl
                refine q_M_cut hp ht hx hb hml hown htB hK hP hD hS hA hl.1 (Nat.le_of_ble_eq_true rfl) ⟨by omega, by omega⟩ d_L_law_396 (fun u2 H locs hP hD hS => ?_)
                refine lv_icmp_eq (tgt := 442) hx hb d_L_law_399 (by decide) (fun c_90 => ?_) (fun c_90 => ?_)
                · refine lv_iinc (v := nI (5 * t + 5)) (lv' := [(4, .int (nI (5 * t + 5))), (0, .ref b), (1, .ref x0), (2, .ref m0), (3, .ref qo)]) hx hb d_L_law_442 hl (k := 0) rfl (nI_add _ 5) (by decide) rfl (fun ls hl => ?_)
                  refine lv_goto (tgt := 23) hx hb d_L_law_445 (by decide) ?_
                  refine W.widen (k := 12 + (t + 1)) (n := 2818 + 6 * (t + 1)) (by omega) (by omega) ?_
                  exact ih (t + 1) _ _ _ _ _ _ _ _ _ _ _ _ (by omega) (by omega) ht hp hP hD hS ls (by rw [show 5 * (t + 1) = 5 * t + 5 by omega]; exact lv_sub hl [0, 1, 2, 3, 4] rfl)
                · exact absurd (cut_same ht) c_90
              · exact absurd c_80 c_88
          · have c_80 := c_80
            refine lv_iconst (v := nI 1) hx hb d_L_law_359 (by decide) ?_
            refine lv_goto (tgt := 364) hx hb d_L_law_360 (by decide) ?_
            refine lv_topi (fun v_91 ev_91 => ?_)
            obtain rfl : v_91 = bI true := ev_91.trans rfl
            refine q_X_cut hp ht hx hb hml hown htB hK hP hD hS hA hl.1 (Nat.le_of_ble_eq_true rfl) ⟨by omega, by omega⟩ d_L_law_364 (fun u1 H locs hP hD hS => ?_)
            refine lv_aload_n hx hb d_L_law_367 rfl (lv_at hl 3 rfl) ?_
            refine lv_aload_n hx hb d_L_law_368 rfl (lv_at hl 1 rfl) ?_
            refine lv_iload hx hb d_L_law_369 (lv_at hl 0 rfl) ?_
            refine lv_iconst (v := nI 1) hx hb d_L_law_371 (by decide) ?_
            refine lv_iadd hx hb d_L_law_372 ?_
            refine lv_topi (fun v_92 ev_92 => ?_)
            obtain rfl : v_92 = nI (5 * t + 1) := ev_92.trans (nI_add _ _)
            refine va_sld hx hb hX hbl hbA hS (vp_in_nI (n := 5 * t + 1) (by omega) (by omega)) d_L_law_373 ?_
            refine lv_topi (fun v_93 ev_93 => ?_)
            obtain rfl : v_93 = xs (5 * t + 1) := ev_93.trans (by rw [nI_clamp (n := 5 * t + 1) (by omega)])
            refine lv_if_eq (tgt := 381) hx hb d_L_law_374 (by decide) (fun c_94 => ?_) (fun c_94 => ?_)
            · exact absurd c_94 c_52
            · clear c_94
              refine lv_iconst (v := nI 1) hx hb d_L_law_377 (by decide) ?_
              refine lv_goto (tgt := 382) hx hb d_L_law_378 (by decide) ?_
              refine lv_topi (fun v_95 ev_95 => ?_)
              obtain rfl : v_95 = bI true := ev_95.trans rfl
              refine lv_aload_n hx hb d_L_law_382 rfl (lv_at hl 1 rfl) ?_
              refine lv_iload hx hb d_L_law_383 (lv_at hl 0 rfl) ?_
              refine lv_iconst (v := nI 2) hx hb d_L_law_385 (by decide) ?_
              refine lv_iadd hx hb d_L_law_386 ?_
              refine lv_topi (fun v_96 ev_96 => ?_)
              obtain rfl : v_96 = nI (5 * t + 2) := ev_96.trans (nI_add _ _)
              refine va_sld hx hb hX hbl hbA hS (vp_in_nI (n := 5 * t + 2) (by omega) (by omega)) d_L_law_387 ?_
              refine lv_topi (fun v_97 ev_97 => ?_)
              obtain rfl : v_97 = xs (5 * t + 2) := ev_97.trans (by rw [nI_clamp (n := 5 * t + 2) (by omega)])
              refine lv_if_eq (tgt := 395) hx hb d_L_law_388 (by decide) (fun c_98 => ?_) (fun c_98 => ?_)
              · exact absurd c_98 c_80
              · clear c_98
                refine lv_iconst (v := nI 1) hx hb d_L_law_391 (by decide) ?_
                refine lv_goto (tgt := 396) hx hb d_L_law_392 (by decide) ?_
                refine lv_topi (fun v_99 ev_99 => ?_)
                obtain rfl : v_99 = bI true := ev_99.trans rfl
                refine q_M_cut hp ht hx hb hml hown htB hK hP hD hS hA hl.1 (Nat.le_of_ble_eq_true rfl) ⟨by omega, by omega⟩ d_L_law_396 (fun u2 H locs hP hD hS => ?_)
                refine lv_icmp_eq (tgt := 442) hx hb d_L_law_399 (by decide) (fun c_100 => ?_) (fun c_100 => ?_)
                · refine lv_iinc (v := nI (5 * t + 5)) (lv' := [(4, .int (nI (5 * t + 5))), (0, .ref b), (1, .ref x0), (2, .ref m0), (3, .ref qo)]) hx hb d_L_law_442 hl (k := 0) rfl (nI_add _ 5) (by decide) rfl (fun ls hl => ?_)
                  refine lv_goto (tgt := 23) hx hb d_L_law_445 (by decide) ?_
                  refine W.widen (k := 12 + (t + 1)) (n := 2818 + 6 * (t + 1)) (by omega) (by omega) ?_
                  exact ih (t + 1) _ _ _ _ _ _ _ _ _ _ _ _ (by omega) (by omega) ht hp hP hD hS ls (by rw [show 5 * (t + 1) = 5 * t + 5 by omega]; exact lv_sub hl [0, 1, 2, 3, 4] rfl)
                · exact absurd (cut_same ht) c_100
      · refine lv_tableIn (tgt := 404) (off := 365) hx hb d_L_law_39 (by rw [ej]; decide) (by rw [ej]; decide) (by rw [ej]; decide) (by decide) ?_
        refine lv_aload_n hx hb d_L_law_404 rfl (lv_at hl 2 rfl) ?_
        refine q_X_isSpecial hp hx hb hml hown htB hK hP hD hS hA hl.1 (Nat.le_of_ble_eq_true rfl) ⟨by omega, by omega⟩ d_L_law_405 ?_
        refine lv_aload_n hx hb d_L_law_408 rfl (lv_at hl 3 rfl) ?_
        refine q_M_isSpecial hp hx hb hml hown htB hK hP hD hS hA hl.1 (Nat.le_of_ble_eq_true rfl) ⟨by omega, by omega⟩ d_L_law_409 (fun H locs hP hD hS => ?_)
        refine lv_icmp_eq (tgt := 442) hx hb d_L_law_412 (by decide) (fun c_101 => ?_) (fun c_101 => ?_)
        · refine lv_iinc (v := nI (5 * t + 5)) (lv' := [(4, .int (nI (5 * t + 5))), (0, .ref b), (1, .ref x0), (2, .ref m0), (3, .ref qo)]) hx hb d_L_law_442 hl (k := 0) rfl (nI_add _ 5) (by decide) rfl (fun ls hl => ?_)
          refine lv_goto (tgt := 23) hx hb d_L_law_445 (by decide) ?_
          refine W.widen (k := 12 + (t + 1)) (n := 2818 + 6 * (t + 1)) (by omega) (by omega) ?_
          exact ih (t + 1) _ _ _ _ _ _ _ _ _ _ _ _ (by omega) (by omega) ht hp hP hD hS ls (by rw [show 5 * (t + 1) = 5 * t + 5 by omega]; exact lv_sub hl [0, 1, 2, 3, 4] rfl)
        · exact absurd (rfl) c_101
      · refine lv_tableIn (tgt := 417) (off := 378) hx hb d_L_law_39 (by rw [ej]; decide) (by rw [ej]; decide) (by rw [ej]; decide) (by decide) ?_
        refine lv_aload_n hx hb d_L_law_417 rfl (lv_at hl 2 rfl) ?_
        refine lv_aload_n hx hb d_L_law_418 rfl (lv_at hl 1 rfl) ?_
        refine lv_iload hx hb d_L_law_419 (lv_at hl 0 rfl) ?_
        refine lv_iconst (v := nI 1) hx hb d_L_law_421 (by decide) ?_
        refine lv_iadd hx hb d_L_law_422 ?_
        refine lv_topi (fun v_102 ev_102 => ?_)
        obtain rfl : v_102 = nI (5 * t + 1) := ev_102.trans (nI_add _ _)
        refine va_sld hx hb hX hbl hbA hS (vp_in_nI (n := 5 * t + 1) (by omega) (by omega)) d_L_law_423 ?_
        refine lv_topi (fun v_103 ev_103 => ?_)
        obtain rfl : v_103 = xs (5 * t + 1) := ev_103.trans (by rw [nI_clamp (n := 5 * t + 1) (by omega)])
        refine q_X_count hp hx hb hml hown htB hK hP hD hS hA hl.1 (Nat.le_of_ble_eq_true rfl) ⟨by omega, by omega⟩ d_L_law_424 ?_
        refine lv_aload_n hx hb d_L_law_427 rfl (lv_at hl 3 rfl) ?_
        refine lv_aload_n hx hb d_L_law_428 rfl (lv_at hl 1 rfl) ?_
        refine lv_iload hx hb d_L_law_429 (lv_at hl 0 rfl) ?_
        refine lv_iconst (v := nI 1) hx hb d_L_law_431 (by decide) ?_
        refine lv_iadd hx hb d_L_law_432 ?_
        refine lv_topi (fun v_104 ev_104 => ?_)
        obtain rfl : v_104 = nI (5 * t + 1) := ev_104.trans (nI_add _ _)
        refine va_sld hx hb hX hbl hbA hS (vp_in_nI (n := 5 * t + 1) (by omega) (by omega)) d_L_law_433 ?_
        refine lv_topi (fun v_105 ev_105 => ?_)
        obtain rfl : v_105 = xs (5 * t + 1) := ev_105.trans (by rw [nI_clamp (n := 5 * t + 1) (by omega)])
        refine q_M_count hp hx hb hml hown htB hK hP hD hS hA hl.1 (Nat.le_of_ble_eq_true rfl) ⟨by omega, by omega⟩ d_L_law_434 (fun H locs hP hD hS => ?_)
        refine lv_icmp_eq (tgt := 442) hx hb d_L_law_437 (by decide) (fun c_106 => ?_) (fun c_106 => ?_)
        · refine lv_iinc (v := nI (5 * t + 5)) (lv' := [(4, .int (nI (5 * t + 5))), (0, .ref b), (1, .ref x0), (2, .ref m0), (3, .ref qo)]) hx hb d_L_law_442 hl (k := 0) rfl (nI_add _ 5) (by decide) rfl (fun ls hl => ?_)
          refine lv_goto (tgt := 23) hx hb d_L_law_445 (by decide) ?_
          refine W.widen (k := 12 + (t + 1)) (n := 2818 + 6 * (t + 1)) (by omega) (by omega) ?_
          exact ih (t + 1) _ _ _ _ _ _ _ _ _ _ _ _ (by omega) (by omega) ht hp hP hD hS ls (by rw [show 5 * (t + 1) = 5 * t + 5 by omega]; exact lv_sub hl [0, 1, 2, 3, 4] rfl)
        · exact absurd (rfl) c_106

set_option maxHeartbeats 4000000 in
set_option maxRecDepth 100000 in
theorem whole_start {p : Program} {e : Env} {s : State} {m : MethodId} {below : List Frame} {meth : Method} {c : Code} (l : Launch) (hlt : l.stackTraces = false) {b L : Nat} {xs : Nat → Int32} (hL : L ≤ 2560) (C0 : lw_At p s m meth c b L xs) : W p l e room_1 s m #[Value.ref b] below meth c s.heap [] 0 0 (lw_Z below #[Value.ref b] s) (entryFrame m ([Value.ref b] : List Value).toArray 7) := by
  obtain ⟨hx, hb, hr, hml, hown, hts, hX, hbl, hlocks, hgv⟩ := id C0
  have htB : ∀ w ∈ wB, w.before #[Value.ref b] s = true := fun w h => hts w (wB_tbl w h)
  have hA : ∀ q : Nat, s.heap.size ≤ q → (fun q : Nat => s.heap.size ≤ q) q := fun _ h => h
  have hflat := flat_of_before _ hgv
  have hnA : ∀ a : Nat, a < s.heap.size → ¬ (fun q : Nat => s.heap.size ≤ q) a := fun a h => Nat.not_le.mpr h
  obtain ⟨sa, c8, cA8, kA8, q1, -⟩ := Cond.exactly_spec (args := #[Value.ref b]) (first := s) (o := none) (s := s) (idx := []) (t := .string "NamePattern" 44) (cls := "java/lang/String") (hflat _ (by decide +kernel))
  have hZ : eX sa (fun q : Nat => s.heap.size ≤ q) s s.heap := ⟨vk_R.of (hts (.stringRef R_X 44 eT) (by decide +kernel)) q1, ⟨va_Nw.of rfl (hts (.declares (Bundle.initS "java/lang/RuntimeException")) (by decide +kernel)), va_Nw.of rfl (hts (.declares (Bundle.initS "java/lang/Exception")) (by decide +kernel)), va_Nw.of rfl (hts (.declares (Bundle.initS Bundle.tN)) (by decide +kernel)), va_Nw.of rfl (hts (.castable eN eN) (by decide +kernel))⟩, vx_Zqof (hts (.laysStatic Bundle.tN "UNASSIGNED_STACK" Bundle.steD) (by decide +kernel)) (htB _ hini_Throwable) (hflat _ (by decide +kernel)) hnA, vx_Zqof (hts (.laysStatic Bundle.tN "SUPPRESSED_SENTINEL" Bundle.listD) (by decide +kernel)) (htB _ hini_Throwable) (hflat _ (by decide +kernel)) hnA⟩
  obtain ⟨c0, iS0, hKn0⟩ := u_known (C := R_X) (T := F_X) (N := 6) (n := 6) htB in_X (htB _ hins_X)
  obtain ⟨c1, iS1, hKn1⟩ := u_known (C := R_M) (T := F_M) (N := 8) (n := 8) htB in_M (htB _ hins_M)
  obtain ⟨dC, dI, hKc⟩ : ∃ (dC : Nat → ClassId) (dI : Nat → Nat → Nat), ∀ (k : Nat) (q : vw_C), classes[k]? = some q → u_Kn s q.1 q.2.1 q.2.2 (dC k) (dI k) := by
    refine ⟨fun k => if k = 0 then c0 else c1, fun k => if k = 0 then iS0 else iS1, ?_⟩
    intro k q hq
    match k, hq with
    | 0, hq => cases hq; exact hKn0
    | 1, hq => cases hq; exact hKn1
    | k + 2, hq => simp [classes] at hq
  have hS : va_S (fun q : Nat => s.heap.size ≤ q) s.heap s.heap [] := va_S.rf
  have hK : va_K (dC, dI) classes [] s := ⟨hKc, fun k q h => by simp at h⟩
  have hP : va_P (dC, dI) classes [] s.heap := fun k q h => by simp at h
  have hD : va_D (fun q : Nat => s.heap.size ≤ q) [] := ⟨fun i j p q h => by simp at h, fun k q h => by simp at h⟩
  have hl := lv_entry ([.ref b]) (n := 7) (Nat.le_of_ble_eq_true rfl)
  rw [lg_entry_eq]
  generalize (lg_sl ([.ref b]) ++ List.replicate (7 - (lg_sl ([.ref b])).length) Slot.unset).toArray = ls at hl ⊢
  have hl : lv_has ls 7 [(0, .ref b)] := hl
  refine va_new (ci := 0) (fs := [.null, .int (nI 0), .null, .null, .int (nI 0), .null]) (C := R_X) (T := F_X) (N := 6) hx hb htB in_X t_X t_X_ok hown (htB _ hcl_L_8) (htB _ hins_X) (htB _ hini_X) hK hP hD hS hA rfl (fun j hj => by rcases (show j = 0 ∨ j = 1 ∨ j = 2 ∨ j = 3 ∨ j = 4 ∨ j = 5 by omega) with rfl | rfl | rfl | rfl | rfl | rfl <;> rfl) (Nat.le_of_ble_eq_true rfl) (Nat.le_of_ble_eq_true rfl) d_L_law_0 (fun x0 H hP hD hS => ?_)
  have hP : va_P (dC, dI) classes [(x0, .inr (0, [.null, .int (nI 0), .null, .null, .int (nI 0), .null]))] H := hP
  have hD : va_D (fun q : Nat => s.heap.size ≤ q) [(x0, .inr (0, [.null, .int (nI 0), .null, .null, .int (nI 0), .null]))] := hD
  refine W.widen (k := 1) (n := 6) (Nat.le_of_ble_eq_true rfl) (Nat.le_of_ble_eq_true rfl) ?_
  refine lv_dup hx hb d_L_law_3 rfl ?_
  have hFc := va_free (wc := [(x0, .inr (0, [.null, .int (nI 0), .null, .null, .int (nI 0), .null]))]) hD hS hA [0] rfl
  refine va_callv (va_runI (As := []) (rest := [.ref x0]) ⟨hx, hb, hml, hown, htB⟩ (c_X_init l dC dI x0 H.size) (cwI 0 htB (gB hco_X_init) rfl rfl rfl (htB _ hini_X) (htB _ hml_L_15) (htB _ hinm_X_init) rfl (by decide +kernel) ⟨Nat.le_of_ble_eq_true rfl, Nat.le_of_ble_eq_true rfl⟩) ⟨fun a U g mk q => by obtain ⟨q0, q1, qP, qK, qD⟩ := q; exact ⟨q0, q1, qP, va_K.moved (u := U) (U := U.calling g mk a) (Vm.Alike.refl U.vm) qK, qD⟩, fun U hU hW => ⟨rfl, by rw [hU], by rw [hU]; exact hP, va_K.moved hW.alike hK, hD.weaken (fun _ _ _ _ => trivial)⟩⟩ rfl rfl hl.1 rfl (lv_room (Nat.le_of_ble_eq_true rfl)) d_L_law_4 ⟨Nat.le_of_ble_eq_true rfl, Nat.le_of_ble_eq_true rfl⟩) hS (fun q _ h => hFc q h) hFc (fun u t H1 locs ht hvm hw hB hz1 hk1 hS => ?_)
  obtain ⟨x1, x2, x3, x4, cI, cZ, hP1, hK1, hD1⟩ := hB
  rw [ht] at hP1
  have hK1 := va_K.moved hvm.symm hK1
  obtain ⟨hP, hD⟩ := va_join (wr := []) (w1 := (wX x0 x1 x2 x3 x4 cI cZ (fun _ => 0) (fun _ => 0) (fun _ => 0) (fun _ => 0) 0 0)) hP hD [0] [] rfl rfl (by decide) (by decide) hk1 hFc hP1 hD1
  have hK : va_K (dC, dI) classes (tyIZ cI cZ) s := hK1
  generalize H1 = H at hP hS ⊢
  have hP : va_P (dC, dI) classes (wX x0 x1 x2 x3 x4 cI cZ (fun _ => 0) (fun _ => 0) (fun _ => 0) (fun _ => 0) 0 0) H := hP
  have hD : va_D (fun q : Nat => s.heap.size ≤ q) (wX x0 x1 x2 x3 x4 cI cZ (fun _ => 0) (fun _ => 0) (fun _ => 0) (fun _ => 0) 0 0) := hD
  refine W.widen (k := 5) (n := 1207) (Nat.le_of_ble_eq_true rfl) (Nat.le_of_ble_eq_true rfl) ?_
  refine lv_astore_n (lv' := [(1, .ref x0), (0, .ref b)]) hx hb d_L_law_7 rfl hl (by decide) rfl (fun ls hl => ?_)
  refine va_new (ci := 1) (fs := [.int (nI 0), .null, .null, .null, .int (nI 0), .int (nI 0), .null, .null]) (C := R_M) (T := F_M) (N := 8) hx hb htB in_M t_M t_M_ok hown (htB _ hcl_L_16) (htB _ hins_M) (htB _ hini_M) hK hP hD hS hA rfl (fun j hj => by rcases (show j = 0 ∨ j = 1 ∨ j = 2 ∨ j = 3 ∨ j = 4 ∨ j = 5 ∨ j = 6 ∨ j = 7 by omega) with rfl | rfl | rfl | rfl | rfl | rfl | rfl | rfl <;> rfl) (Nat.le_of_ble_eq_true rfl) (Nat.le_of_ble_eq_true rfl) d_L_law_8 (fun m0 H hP hD hS => ?_)
  have hP : va_P (dC, dI) classes ((wX x0 x1 x2 x3 x4 cI cZ (fun _ => 0) (fun _ => 0) (fun _ => 0) (fun _ => 0) 0 0) ++ [(m0, .inr (1, [.int (nI 0), .null, .null, .null, .int (nI 0), .int (nI 0), .null, .null]))]) H := hP
  have hD : va_D (fun q : Nat => s.heap.size ≤ q) ((wX x0 x1 x2 x3 x4 cI cZ (fun _ => 0) (fun _ => 0) (fun _ => 0) (fun _ => 0) 0 0) ++ [(m0, .inr (1, [.int (nI 0), .null, .null, .null, .int (nI 0), .int (nI 0), .null, .null]))]) := hD
  refine W.widen (k := 6) (n := 1215) (Nat.le_of_ble_eq_true rfl) (Nat.le_of_ble_eq_true rfl) ?_
  refine lv_dup hx hb d_L_law_11 rfl ?_
  have hPc := hP.sub (ws' := [(m0, .inr (1, [.int (nI 0), .null, .null, .null, .int (nI 0), .int (nI 0), .null, .null]))]) [5] rfl
  have hDc := hD.sub (ws' := [(m0, .inr (1, [.int (nI 0), .null, .null, .null, .int (nI 0), .int (nI 0), .null, .null]))]) [5] (by decide) rfl
  have hKe := hK.sub (tys' := []) [] rfl
  have hFc := va_free (wc := [(m0, .inr (1, [.int (nI 0), .null, .null, .null, .int (nI 0), .int (nI 0), .null, .null]))]) hD hS hA [5] rfl
  refine va_callv (va_runI (As := []) (rest := [.ref m0]) ⟨hx, hb, hml, hown, htB⟩ (c_M_init l dC dI m0 H.size) (cwI 0 htB (gB hco_M_init) rfl rfl rfl (htB _ hini_M) (htB _ hml_L_18) (htB _ hinm_M_init) rfl (by decide +kernel) ⟨Nat.le_of_ble_eq_true rfl, Nat.le_of_ble_eq_true rfl⟩) ⟨fun a U g mk q => by obtain ⟨q0, q1, qP, qK, qD⟩ := q; exact ⟨q0, q1, qP, va_K.moved (u := U) (U := U.calling g mk a) (Vm.Alike.refl U.vm) qK, qD⟩, fun U hU hW => ⟨rfl, by rw [hU], by rw [hU]; exact hPc, va_K.moved hW.alike hKe, hDc.weaken (fun _ _ _ _ => trivial)⟩⟩ rfl rfl hl.1 rfl (lv_room (Nat.le_of_ble_eq_true rfl)) d_L_law_12 ⟨Nat.le_of_ble_eq_true rfl, Nat.le_of_ble_eq_true rfl⟩) hS (fun q _ h => hFc q h) hFc (fun u t H1 locs ht hvm hw hB hz1 hk1 hS => ?_)
  obtain ⟨m1, m2, m3, m4, m5, cI2, cZ2, hP1, hK1, hD1⟩ := hB
  rw [ht] at hP1
  have hK1 := va_K.moved hvm.symm hK1
  obtain rfl : cI = cI2 := Option.some.inj ((hK.2 0 _ rfl).2.symm.trans (hK1.2 0 _ rfl).2)
  obtain rfl : cZ = cZ2 := Option.some.inj ((hK.2 1 _ rfl).2.symm.trans (hK1.2 1 _ rfl).2)
  obtain ⟨hP, hD⟩ := va_join (wr := (wX x0 x1 x2 x3 x4 cI cZ (fun _ => 0) (fun _ => 0) (fun _ => 0) (fun _ => 0) 0 0)) (w1 := (wM m0 m1 m2 m3 m4 m5 cI cZ (nI 0) (fun _ => 0) (fun _ => 0) (fun _ => 0) (fun _ => 0) (fun _ => 0) 0 0)) hP hD [5] [0, 1, 2, 3, 4] rfl rfl (by decide) (by decide) hk1 hFc hP1 hD1
  generalize H1 = H at hP hS ⊢
  refine W.widen (k := 11) (n := 2817) (Nat.le_of_ble_eq_true rfl) (Nat.le_of_ble_eq_true rfl) ?_
  refine lv_astore_n (lv' := [(2, .ref m0), (1, .ref x0), (0, .ref b)]) hx hb d_L_law_15 rfl hl (by decide) rfl (fun ls hl => ?_)
  refine lv_iconst (v := nI 1) hx hb d_L_law_16 (by decide) ?_
  refine va_newa (atype := .long) (ty := .long) (a0 := (1, .inr (.inl (fun _ => 0)))) hx hb (htB _ har_long) rfl hK hP hD hS hA (fun _ => rfl) (by decide) (by decide) (by decide) (Nat.le_of_ble_eq_true rfl) (Nat.le_of_ble_eq_true rfl) d_L_law_17 (fun qo cJ H hK hP hD hS => ?_)
  have hK : va_K (dC, dI) classes (tyJ cI cZ cJ) s := hK
  have hP := hP.sub (ws' := (wLw x0 x1 x2 x3 x4 m0 m1 m2 m3 m4 m5 qo cI cZ cJ (fun _ => 0) (fun _ => 0) (fun _ => 0) (fun _ => 0) 0 0 (nI 0) (fun _ => 0) (fun _ => 0) (fun _ => 0) (fun _ => 0) (fun _ => 0) 0 0 (fun _ => 0))) [0, 1, 2, 3, 4, 5, 6, 7, 8, 9, 10, 11] rfl
  have hD := hD.sub (ws' := (wLw x0 x1 x2 x3 x4 m0 m1 m2 m3 m4 m5 qo cI cZ cJ (fun _ => 0) (fun _ => 0) (fun _ => 0) (fun _ => 0) 0 0 (nI 0) (fun _ => 0) (fun _ => 0) (fun _ => 0) (fun _ => 0) (fun _ => 0) 0 0 (fun _ => 0))) [0, 1, 2, 3, 4, 5, 6, 7, 8, 9, 10, 11] (by decide) rfl
  refine W.widen (k := 12 + 0) (n := 2818 + 6 * 0) (Nat.le_of_ble_eq_true rfl) (Nat.le_of_ble_eq_true rfl) ?_
  refine lv_astore_n (lv' := [(3, .ref qo), (2, .ref m0), (1, .ref x0), (0, .ref b)]) hx hb d_L_law_19 rfl hl (by decide) rfl (fun ls hl => ?_)
  refine lv_iconst (v := nI 0) hx hb d_L_law_20 (by decide) ?_
  refine lv_istore (lv' := [(4, .int (nI 0)), (3, .ref qo), (2, .ref m0), (1, .ref x0), (0, .ref b)]) hx hb d_L_law_21 hl (by decide) rfl (fun ls hl => ?_)
  exact law_loop hlt hL C0 hZ hK (L + 1) 0 _ _ _ _ _ _ _ _ _ _ _ _ (Nat.zero_le _) (by omega) (Nat.zero_le _) (Nat.zero_le _) hP hD hS ls (lv_sub hl [0, 4, 3, 2, 1] rfl)

set_option maxHeartbeats 4000000 in
theorem lw_walk (l : Launch) (hlt : l.stackTraces = false) (b : Addr) (xs : List Int32) : MetFree l x (headSpec (Jvm.Cond.code x code maxLocals ret :: tables_1) room_1) (lw_P b xs) (fun _ _ _ _ _ => True) lw_Q := by
  refine MetFree.of_bodyS (code := code) (maxLocals := maxLocals) (ret := ret) (by decide) ?_ ?_
  · intro args s m h hn
    obtain ⟨meth, c, h1, h2, h3, h4, h5, h6, -, -⟩ := Cond.code_spec hn (atoms_spec (ws := Jvm.Cond.code x code maxLocals ret :: tables_1) h _ List.mem_cons_self)
    exact ⟨meth, c, h1, h2, h3, h4, h5, h6⟩
  · intro p e s m args below meth c s₁ B hml0 hP _
    obtain ⟨rfl, hx, hbd, hgv⟩ := hP
    obtain ⟨scr, harrAt, hlist, hof, hsmall⟩ := hx
    obtain ⟨hcb, hkn, -, -⟩ := State.arrayAt?_spec harrAt
    have hown : s.vm.findClass R_law = some m.cls := findClass_of_methodNamed B.named
    have hts0 : ∀ c ∈ (Jvm.Cond.code x code maxLocals ret :: tables_1), c.before #[Value.ref b] s = true := atoms_spec (ws := Jvm.Cond.code x code maxLocals ret :: tables_1) B.pre
    have hts : ∀ w ∈ lw_tbl, w.before #[Value.ref b] s = true := k2_hts_sels lw_privs (fun w hw => hts0 w (List.mem_cons_of_mem _ hw)) lw_privs_ok
    have hml : c.maxLocals = 7 := B.maxLocals_eq (hts0 _ List.mem_cons_self)
    have X₀ : Stand p l e room_1 s m #[Value.ref b] below meth c s₁ [] 0 0 := Stand.of_body B
    have hh0 : s₁.heap = s.heap := by rw [B.state]; rfl
    have hsz : scr.slots.size = xs.length := by rw [← Array.length_toList, hlist, List.length_map]
    have hval : ∀ j : Nat, j < xs.length → scr.slots[j]? = some (.int (xs.getD j 0)) := fun j hj => by
      rw [← Array.getElem?_toList, hlist]
      simp [hj]
    have hbl : b < s.heap.size := (Array.getElem?_eq_some_iff.mp hcb).1
    have hX : va_X b xs.length (fun j => xs.getD j 0) s s.heap := ⟨scr, hcb, hof, hkn, hsz, hval⟩
    have K : W p l e room_1 s m #[Value.ref b] below meth c s₁.heap [] 0 0 (lw_Z below #[Value.ref b] s) (entryFrame m ([Value.ref b] : List Value).toArray 7) := by
      rw [hh0]
      exact whole_start l hlt hbd ⟨B.exec, B.bytes, B.returns, hml, hown, hts, hX, hbl, B.notSynchronized, hgv⟩
    obtain ⟨t, a1, o, b1, b2, b3⟩ := K s₁ rfl X₀
    exact ⟨t, o, a1, b1, b2, b3⟩
theorem lw_pre_spec {args : Array Value} {s : State} (h : (Jvm.Cond.and given_1 narrow_1).before args s = true) (hr : rest_1_c.before args s = true) : ∃ (b : Addr) (xs : List Int32), lw_P b xs args s := by
  have hs := flat_of_before _ h
  have hq := flat_of_before _ hr
  have hc : (Cond.count 1).before args s = true := hs _ (by decide +kernel)
  have harr : (Cond.arrayOf (.arg 0) .int).before args s = true := hs _ (by decide +kernel)
  have hle : (Cond.le (.length (.arg 0)) (.int 2560)).before args s = true := hs _ (by decide +kernel)
  have hlen : (Cond.isInt (.length (.arg 0))).before args s = true := hq _ (by decide +kernel)
  have hall : (Cond.all (.arg 0) (.isInt (.elem (.arg 0) (.index 0)))).before args s = true := hq _ (by decide +kernel)
  obtain ⟨b, xs, hb, hx⟩ := State.ints_of_pre rfl harr hlen hall
  have hsm : xs.length < 2 ^ 31 := hx.choose_spec.2.2.2
  have hev : (Term.length (.arg 0)).eval args s none [] s = some (.int xs.length.toInt32) := hx.length_eval hb
  have hv := Cond.le_ints hev (show (Term.int 2560).eval args s none [] s = some (.int 2560) from rfl)
  have hd : xs.length.toInt32 ≤ 2560 := by
    simpa [Cond.before, Cond.holds, hv] using hle
  have hN : xs.length ≤ 2560 := (Int32.ofNat_le_ofNat hsm (by decide)).mp (show Int32.ofNat xs.length ≤ Int32.ofNat 2560 from hd)
  exact ⟨b, xs, Cond.one_arg hc (show args[0]? = some (.ref b) from hb), hx, hN, h⟩
theorem lw_comes (l : Launch) (hlt : l.stackTraces = false) : Comes l x (Jvm.Cond.code x code maxLocals ret :: tables_1) room_1 (fun tb e args s => Calls_1 tb e args s ∧ rest_1 tb e args s ∧ Pre_1 tb e args s)
    (fun _ _ args s o t => lw_Q args s o t) := by
  intro p e ha hc hk s m args below hf hfit hheap happ hpre
  obtain ⟨b, xs, hP⟩ := lw_pre_spec hpre.2.2 hpre.2.1
  obtain ⟨k, o, h1, h2, h3, hQ⟩ := lw_walk l hlt b xs p e ha hc hk s m args below hf ((Spec.applies_iff_loose hf).mp happ).1 hP trivial
  exact ⟨k, o, h1, h2, h3, hQ⟩
theorem lw_frame {s t : State} {o : Outcome} {args : Array Value} (h : Framed s o t [] 1037 11016) :
    Framed s o t (fieldLocs frame_1_writes args s ++ arrayLocs frame_1_arrays args s ++ staticLocs frame_1_statics s) 1037 11016 := h
theorem lw_limb (L : Cond) (hL : ∀ (args : Array Value) (s t : State), L.after args s (.returned (some (.int 1))) t = true) :
    ArmFor flags0 classFile x code maxLocals ret World_1 tables_1 room_1 Calls_1 rest_1 Pre_1
      (fun tb e a s o t => postC L tb e a s o t ∧ Framed s o t (fieldLocs frame_1_writes a s ++ arrayLocs frame_1_arrays a s ++ staticLocs frame_1_statics s) 1037 11016) := by
  intro l hfl _ _ p e ha hc hk s m args below hf hfit hheap happ hpre
  have hlt : l.stackTraces = false := by unfold Launch.stackTraces; rw [hfl]; decide +kernel
  obtain ⟨k, o, h1, h2, h3, rfl, hF⟩ := lw_comes l hlt p e ha hc hk s m args below hf hfit hheap happ hpre
  exact ⟨k, _, h1, h2, h3, hL args s _, lw_frame hF⟩
theorem i_vc : Claimed_1_1 ∧ Claimed_1_2 := ⟨lw_limb limb_1_1 (fun args s t => by simp [limb_1_1, Cond.after, Cond.holds, Cond.value]), lw_limb limb_1_2 (fun args s t => Cond.after_iff.mpr (by
  first | (rw [show limb_1_2 = Cond.eq .result (.int 1) from rfl, Cond.eq_ints (x := 1) (y := 1) rfl rfl]; simp; done) | (simp [limb_1_2, Cond.value, Term.eval]; done)))⟩

