/-! the law's own part: it catches: by wip/whole/gen/gen26.py -/
abbrev wXO (h0 a1 a2 a3 a4 qo : Nat) (cI cZ cJ : ClassId) (tx pt qt sr : Nat → Int32) (tn pn : Nat) (ov : Nat → Int64) : va_W := wX h0 a1 a2 a3 a4 cI cZ tx pt qt sr tn pn ++ [(qo, .inl (cJ, 1, .inr (.inl ov)))]
abbrev tyJ (cI cZ cJ : ClassId) : List (ClassId × FieldType) := [(cI, .int), (cZ, .boolean), (cJ, .long)]
abbrev xNo : String → State → State → Prop := vx_X (fun (_ : Unit) => False) (fun _ _ _ => True) (fun _ => False)
def lp_r (ok mt : Bool) (r : Int32) (ov : Nat → Int64) : Prop := (ok = true → r = nI 0 ∧ ov 0 = (if mt = true then 1 else 0)) ∧ (ok = false → r = nI 1)
set_option maxHeartbeats 4000000 in
set_option maxRecDepth 100000 in
theorem c_L_part (l : Launch) (dC : Nat → ClassId) (dI : Nat → Nat → Nat) (h0 a1 a2 a3 a4 qo : Nat) (cI cZ cJ : ClassId) (tx pt qt sr : Nat → Int32) (tn pn : Nat) (ov : Nat → Int64) (hlt : l.stackTraces = false) (sz sa : Nat) (hp : pn ≤ 200) (ht4 : tn ≤ 400) (p0 p1 : Int32) : vx_Met l y_L_part (.codeWith y_L_part b_L_part 5 (some .int) [(0, 17, 20, 13)] :: wB) ({ frames := 7, cells := 1, slots := 6, locals := 167 } : Room) (va_Pc [.ref h0, .int p0, .int p1, .ref qo] (fun U => U.heap.size = sz ∧ va_P (dC, dI) classes (wXO h0 a1 a2 a3 a4 qo cI cZ cJ tx pt qt sr tn pn ov) U.heap ∧ va_K (dC, dI) classes (tyJ cI cZ cJ) U ∧ va_D (fun _ => True) (wXO h0 a1 a2 a3 a4 qo cI cZ cJ tx pt qt sr tn pn ov) ∧ eX sa (va_A (wXO h0 a1 a2 a3 a4 qo cI cZ cJ tx pt qt sr tn pn ov) sz) U U.heap)) (va_Qi (fun (r : Int32) (u : (Nat → Int32) × (Nat → Int64)) => lp_r (okp tn p0 p1) (mX tx pt qt pn p0.toNatClampNeg p1.toNatClampNeg) r u.2) (fun (u : (Nat → Int32) × (Nat → Int64)) (t : State) => va_P (dC, dI) classes (wXO h0 a1 a2 a3 a4 qo cI cZ cJ tx pt qt u.1 tn pn u.2) t.heap ∧ va_K (dC, dI) classes (tyJ cI cZ cJ) t ∧ va_D (va_A (wXO h0 a1 a2 a3 a4 qo cI cZ cJ tx pt qt sr tn pn ov) sz) (wXO h0 a1 a2 a3 a4 qo cI cZ cJ tx pt qt u.1 tn pn u.2)) (va_A (wXO h0 a1 a2 a3 a4 qo cI cZ cJ tx pt qt sr tn pn ov) sz)) xNo 1 6 (va_A (wXO h0 a1 a2 a3 a4 qo cI cZ cJ tx pt qt sr tn pn ov) sz) := by
  refine vx_ofWH (cc := b_L_part) (maxL := 5) (ret := (some .int)) (hh := [(0, 17, 20, 13)]) (by decide) rfl ?_
  intro p e s mm args below meth c s₁ B hml hv
  obtain ⟨rfl, hsz, hP, hK, hD0, hZ⟩ := hv
  have hx := B.exec
  have hb := B.bytes
  have hr := B.returns
  have hts := atoms_spec (ws := (.codeWith y_L_part b_L_part 5 (some .int) [(0, 17, 20, 13)] :: wB)) B.pre
  have htB : ∀ w ∈ wB, w.before _ s = true := fun w h => hts w (List.mem_cons_of_mem _ h)
  have htb : c.exceptionTable.toList = tableOf [(0, 17, 20, 13)] := vx_table (x := y_L_part) B (hts _ List.mem_cons_self)
  have hown : s.vm.findClass R_L = some mm.cls := findClass_of_methodNamed B.named
  have hlocks := B.notSynchronized
  subst hsz
  have hD := hD0.self (sz := s.heap.size)
  generalize hAe : va_A (wXO h0 a1 a2 a3 a4 qo cI cZ cJ tx pt qt sr tn pn ov) s.heap.size = A at hD hZ ⊢
  have hA : ∀ q : Nat, s.heap.size ≤ q → A q := fun q h => by rw [← hAe]; exact Or.inr h
  have hS : va_S A s.heap s.heap [] := va_S.rf
  have hl := lv_entry ([.ref h0, .int p0, .int p1, .ref qo]) (n := 5) (Nat.le_of_ble_eq_true rfl)
  rw [lg_entry_eq]
  generalize (lg_sl ([.ref h0, .int p0, .int p1, .ref qo]) ++ List.replicate (5 - (lg_sl ([.ref h0, .int p0, .int p1, .ref qo])).length) Slot.unset).toArray = ls at hl ⊢
  have hl : lv_has ls 5 [(0, .ref h0), (1, .int p0), (2, .int p1), (3, .ref qo)] := hl
  refine lv_aload_n hx hb d_L_part_0 rfl (lv_at hl 3 rfl) ?_
  refine lv_iconst (v := nI 0) hx hb d_L_part_1 (by decide) ?_
  refine lv_aload_n hx hb d_L_part_2 rfl (lv_at hl 0 rfl) ?_
  refine lv_iload_n hx hb d_L_part_3 rfl (lv_at hl 1 rfl) ?_
  refine lv_iload_n hx hb d_L_part_4 rfl (lv_at hl 2 rfl) ?_
  have hPc := hP.sub (ws' := (wX h0 a1 a2 a3 a4 cI cZ tx pt qt sr tn pn)) [0, 1, 2, 3, 4] rfl
  have hDc := hD.sub (ws' := (wX h0 a1 a2 a3 a4 cI cZ tx pt qt sr tn pn)) [0, 1, 2, 3, 4] (by decide) rfl
  have hKc := hK.sub (tys' := tyIZ cI cZ) [0, 1] rfl
  have hFc := va_free (wc := (wX h0 a1 a2 a3 a4 cI cZ tx pt qt sr tn pn)) hD hS hA [0, 1, 2, 3, 4] rfl
  refine vx_calli (vx_runV (As := [.int p0, .int p1]) (rest := [.int (nI 0), .ref qo]) ⟨hx, hb, hml, hown, htB⟩ (c_X_part l dC dI h0 a1 a2 a3 a4 cI cZ tx pt qt sr tn pn hlt s.heap.size sa hp ht4 p0 p1) (cwV 2 htB (gV hml_L_7 hinm_X_part hsel_X_part hini_X hco_X_part) rfl rfl rfl (by decide +kernel) ⟨Nat.le_of_ble_eq_true rfl, Nat.le_of_ble_eq_true rfl⟩) ⟨fun a U g mk q => by obtain ⟨q0, q1, qP, qK, qD, qZ⟩ := q; exact ⟨q0, q1, qP, va_K.moved (u := U) (U := U.calling g mk a) (Vm.Alike.refl U.vm) qK, qD, qZ.warm (U := U.calling g mk a) (State.WarmedH.refl U) (fun _ _ _ => rfl) (fun _ h => h)⟩, va_recv hKc hPc (ci := 0) (q0 := 0) rfl rfl, fun U hU hW => ⟨rfl, by rw [hU], by rw [hU]; exact hPc, va_K.moved hW.alike hKc, hDc.weaken (fun _ _ _ _ => trivial), by rw [hU]; exact hZ.warm hW (fun _ _ _ => rfl) hFc⟩⟩ rfl rfl hl.1 rfl (lv_room (Nat.le_of_ble_eq_true rfl)) d_L_part_5 ⟨Nat.le_of_ble_eq_true rfl, Nat.le_of_ble_eq_true rfl⟩) hS (fun q _ h => hFc q h) hFc (fun q _ h => hFc q h) (fun E ce q9 u t H1 locs1 ht hvm hpx hBX hz1 hk1 hS1 hcell hcv hcl => ?_) (fun r su t H1 locs1 ht hvm hw hB hz1 hk1 hS1 => ?_)
  · obtain ⟨rfl, hP1, hK1, hD1⟩ := hBX
    rw [ht] at hP1
    obtain ⟨hP, hD⟩ := va_join (wr := [(qo, .inl (cJ, 1, .inr (.inl ov)))]) (w1 := (wX h0 a1 a2 a3 a4 cI cZ tx pt qt sr tn pn)) hP hD [0, 1, 2, 3, 4] [5] rfl rfl (by decide) (by decide) hk1 hFc hP1 hD1
    have hP := hP.sub (ws' := (wXO h0 a1 a2 a3 a4 qo cI cZ cJ tx pt qt sr tn pn ov)) [1, 2, 3, 4, 5, 0] rfl
    have hD := hD.sub (ws' := (wXO h0 a1 a2 a3 a4 qo cI cZ cJ tx pt qt sr tn pn ov)) [1, 2, 3, 4, 5, 0] (by decide) rfl
    refine vx_catch (own := R_L) (name := eN) hown [] ⟨0, 17, 20, 13⟩ [] (by rw [htb]; rfl) (fun z hz => by cases hz) (by decide) (by decide) (htB _ hcl_L_13) (va_Nw.use rfl hZ.2.1.2.2.2) hcell hcv hcl ?_
    refine lv_astore (lv' := [(4, .ref q9), (0, .ref h0), (1, .int p0), (2, .int p1), (3, .ref qo)]) hx hb d_L_part_20 hl (by decide) rfl (fun ls hl => ?_)
    refine lv_iconst (v := nI 1) hx hb d_L_part_22 (by decide) ?_
    refine vx_ret ?_
    exact W.iret (v := nI 1) hx hb hr (fun t ht hW => ⟨⟨_, (sr, ov), rfl, ⟨fun q => (by rw [hpx] at q; cases q), fun _ => rfl⟩, by rw [ht]; exact hP, va_K.moved hW.alike hK, hD⟩, hS1.F ht⟩) hS1.2.2 d_L_part_23
  · obtain ⟨hP1, hK1, hD1⟩ := hB
    rw [ht] at hP1
    obtain ⟨hok, rfl⟩ := hw
    obtain ⟨hP, hD⟩ := va_join (wr := [(qo, .inl (cJ, 1, .inr (.inl ov)))]) (w1 := (wX h0 a1 a2 a3 a4 cI cZ tx pt qt su tn pn)) hP hD [0, 1, 2, 3, 4] [5] rfl rfl (by decide) (by decide) hk1 hFc hP1 hD1
    have hP := hP.sub (ws' := (wXO h0 a1 a2 a3 a4 qo cI cZ cJ tx pt qt su tn pn ov)) [1, 2, 3, 4, 5, 0] rfl
    have hD := hD.sub (ws' := (wXO h0 a1 a2 a3 a4 qo cI cZ cJ tx pt qt su tn pn ov)) [1, 2, 3, 4, 5, 0] (by decide) rfl
    refine lv_if_eq (tgt := 15) hx hb d_L_part_8 (by decide) (fun c_1 => ?_) (fun c_1 => ?_)
    · have c_1 := bI_z.mp c_1
      refine lv_lconst (v := 0) hx hb d_L_part_15 (by decide) ?_
      refine va_last hx hb hK hP hD hS1 5 2 rfl rfl (vp_in_nI (n := 0) (by decide) (by decide)) d_L_part_16 (fun H2 locs2 hP hD hS2 => ?_)
      have hP : va_P (dC, dI) classes (wXO h0 a1 a2 a3 a4 qo cI cZ cJ tx pt qt su tn pn (vp_updL ov (nI 0).toNatClampNeg 0)) H2 := hP
      have hD : va_D A (wXO h0 a1 a2 a3 a4 qo cI cZ cJ tx pt qt su tn pn (vp_updL ov (nI 0).toNatClampNeg 0)) := hD
      refine lv_goto (tgt := 24) hx hb d_L_part_17 (by decide) ?_
      refine lv_iconst (v := nI 0) hx hb d_L_part_24 (by decide) ?_
      refine vx_ret ?_
      exact W.iret (v := nI 0) hx hb hr (fun t ht hW => ⟨⟨_, (su, (vp_updL ov (nI 0).toNatClampNeg 0)), rfl, ⟨fun _ => ⟨rfl, by rw [c_1, nI_clamp (n := 0) (by decide)]; exact (pk_uLs (f := ov) (k := 0)).trans rfl⟩, fun q => (by rw [hok] at q; cases q)⟩, by rw [ht]; exact hP, va_K.moved hW.alike hK, hD⟩, hS2.F ht⟩) hS2.2.2 d_L_part_25
    · have c_1 := bI_nz.mp c_1
      refine lv_lconst (v := 1) hx hb d_L_part_11 (by decide) ?_
      refine lv_goto (tgt := 16) hx hb d_L_part_12 (by decide) ?_
      refine va_last hx hb hK hP hD hS1 5 2 rfl rfl (vp_in_nI (n := 0) (by decide) (by decide)) d_L_part_16 (fun H2 locs2 hP hD hS2 => ?_)
      have hP : va_P (dC, dI) classes (wXO h0 a1 a2 a3 a4 qo cI cZ cJ tx pt qt su tn pn (vp_updL ov (nI 0).toNatClampNeg 1)) H2 := hP
      have hD : va_D A (wXO h0 a1 a2 a3 a4 qo cI cZ cJ tx pt qt su tn pn (vp_updL ov (nI 0).toNatClampNeg 1)) := hD
      refine lv_goto (tgt := 24) hx hb d_L_part_17 (by decide) ?_
      refine lv_iconst (v := nI 0) hx hb d_L_part_24 (by decide) ?_
      refine vx_ret ?_
      exact W.iret (v := nI 0) hx hb hr (fun t ht hW => ⟨⟨_, (su, (vp_updL ov (nI 0).toNatClampNeg 1)), rfl, ⟨fun _ => ⟨rfl, by rw [c_1, nI_clamp (n := 0) (by decide)]; exact (pk_uLs (f := ov) (k := 0)).trans rfl⟩, fun q => (by rw [hok] at q; cases q)⟩, by rw [ht]; exact hP, va_K.moved hW.alike hK, hD⟩, hS2.F ht⟩) hS2.2.2 d_L_part_25

