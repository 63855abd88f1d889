/-! the reference: methods that only read: by wip/whole/gen/gen20.py -/
set_option maxHeartbeats 4000000 in
set_option maxRecDepth 100000 in
theorem c_M_is (l : Launch) (dC : Nat → ClassId) (dI : Nat → Nat → Nat) (h0 a1 a2 a3 a4 a5 : Nat) (cI cZ : ClassId) (cd : Int32) (tx pt qt ar nr : Nat → Int32) (tn pn : Nat) (hp : pn ≤ 200) (a : Nat) (ha : a ≤ 1000) (ch : Int32) : Met l y_M_is (.code y_M_is b_M_is 3 (some .boolean) :: wB) (Rm 0 0) (va_Pc [.ref h0, .int (nI a), .int ch] (fun U => va_P (dC, dI) classes (wM h0 a1 a2 a3 a4 a5 cI cZ cd tx pt qt ar nr tn pn) U.heap ∧ va_K (dC, dI) classes (tyIZ cI cZ) U)) (vp_Si (fun r => r = bI (iu pt qt pn a ch))) 0 0 (fun _ => False) := by
  refine Met.ofW (cc := b_M_is) (maxL := 3) (ret := (some .boolean)) (by decide) rfl ?_
  intro p e s mm args below meth c s₁ B hml hv
  obtain ⟨rfl, hP, hK⟩ := hv
  have hx := B.exec
  have hb := B.bytes
  have hr := B.returns
  have hts := atoms_spec (ws := (.code y_M_is b_M_is 3 (some .boolean) :: wB)) B.pre
  have htB : ∀ w ∈ wB, w.before _ s = true := fun w h => hts w (List.mem_cons_of_mem _ h)
  have hown : s.vm.findClass R_M = some mm.cls := findClass_of_methodNamed B.named
  have hlocks := B.notSynchronized
  have hl := lv_entry ([.ref h0, .int (nI a), .int ch]) (n := 3) (Nat.le_of_ble_eq_true rfl)
  rw [lg_entry_eq]
  generalize (lg_sl ([.ref h0, .int (nI a), .int ch]) ++ List.replicate (3 - (lg_sl ([.ref h0, .int (nI a), .int ch])).length) Slot.unset).toArray = ls at hl ⊢
  have hl : lv_has ls 3 [(0, .ref h0), (1, .int (nI a)), (2, .int ch)] := hl
  refine lv_iload_n hx hb d_M_is_0 rfl (lv_at hl 1 rfl) ?_
  refine lv_aload_n hx hb d_M_is_1 rfl (lv_at hl 0 rfl) ?_
  refine va_get (D := (dC, dI)) (ci := 1) (v := .int (nI pn)) (C := R_M) (T := F_M) (N := 8) hx hb htB in_M hown hK hP 0 rfl rfl 5 (by decide) (htB _ hfl_M_35) (fun _ h9 => h9) rfl d_M_is_2 ?_
  refine lv_icmp_ge (tgt := 31) hx hb d_M_is_5 (by decide) (fun c_1 => ?_) (fun c_1 => ?_)
  · have c_1 := (nI_leI (by omega) (by omega)).mp c_1
    refine lv_iconst (v := nI 0) hx hb d_M_is_31 (by decide) ?_
    exact W.zret (v := nI 0) hx hb hr (by rfl) (fun t ht hW => ⟨_, rfl, by first | (rw [iu_t (by omega) ‹_› ‹_›]; rfl) | (rw [iu_n (by omega)]; rfl) | (rw [iu_q ‹_›]; rfl) | (rw [iu_c ‹_›]; rfl), ht⟩) (fun q h => nomatch h) d_M_is_32
  · have c_1 := mt (nI_leI (by omega) (by omega)).mpr c_1
    refine lv_aload_n hx hb d_M_is_8 rfl (lv_at hl 0 rfl) ?_
    refine va_get (D := (dC, dI)) (ci := 1) (v := .ref a3) (C := R_M) (T := F_M) (N := 8) hx hb htB in_M hown hK hP 0 rfl rfl 3 (by decide) (htB _ hfl_M_16) (fun _ h9 => h9) rfl d_M_is_9 ?_
    refine lv_iload_n hx hb d_M_is_12 rfl (lv_at hl 1 rfl) ?_
    refine va_zald hx hb hK hP 3 1 rfl rfl (vp_in_nI (n := a) (by omega) (by decide)) d_M_is_13 ?_
    refine lv_topi (fun v_2 ev_2 => ?_)
    obtain rfl : v_2 = qt a := ev_2.trans (by rw [nI_clamp (n := a) (by omega)])
    refine lv_if_ne (tgt := 31) hx hb d_M_is_14 (by decide) (fun c_3 => ?_) (fun c_3 => ?_)
    · refine lv_iconst (v := nI 0) hx hb d_M_is_31 (by decide) ?_
      exact W.zret (v := nI 0) hx hb hr (by rfl) (fun t ht hW => ⟨_, rfl, by first | (rw [iu_t (by omega) ‹_› ‹_›]; rfl) | (rw [iu_n (by omega)]; rfl) | (rw [iu_q ‹_›]; rfl) | (rw [iu_c ‹_›]; rfl), ht⟩) (fun q h => nomatch h) d_M_is_32
    · refine lv_aload_n hx hb d_M_is_17 rfl (lv_at hl 0 rfl) ?_
      refine va_get (D := (dC, dI)) (ci := 1) (v := .ref a2) (C := R_M) (T := F_M) (N := 8) hx hb htB in_M hown hK hP 0 rfl rfl 2 (by decide) (htB _ hfl_M_13) (fun _ h9 => h9) rfl d_M_is_18 ?_
      refine lv_iload_n hx hb d_M_is_21 rfl (lv_at hl 1 rfl) ?_
      refine va_iald hx hb hK hP 2 0 rfl rfl (vp_in_nI (n := a) (by omega) (by decide)) d_M_is_22 ?_
      refine lv_topi (fun v_4 ev_4 => ?_)
      obtain rfl : v_4 = pt a := ev_4.trans (by rw [nI_clamp (n := a) (by omega)])
      refine lv_iload_n hx hb d_M_is_23 rfl (lv_at hl 2 rfl) ?_
      refine lv_icmp_ne (tgt := 31) hx hb d_M_is_24 (by decide) (fun c_5 => ?_) (fun c_5 => ?_)
      · refine lv_iconst (v := nI 0) hx hb d_M_is_31 (by decide) ?_
        exact W.zret (v := nI 0) hx hb hr (by rfl) (fun t ht hW => ⟨_, rfl, by first | (rw [iu_t (by omega) ‹_› ‹_›]; rfl) | (rw [iu_n (by omega)]; rfl) | (rw [iu_q ‹_›]; rfl) | (rw [iu_c ‹_›]; rfl), ht⟩) (fun q h => nomatch h) d_M_is_32
      · refine lv_iconst (v := nI 1) hx hb d_M_is_27 (by decide) ?_
        refine lv_goto (tgt := 32) hx hb d_M_is_28 (by decide) ?_
        exact W.zret (v := nI 1) hx hb hr (by rfl) (fun t ht hW => ⟨_, rfl, by first | (rw [iu_t (by omega) ‹_› ‹_›]; rfl) | (rw [iu_n (by omega)]; rfl) | (rw [iu_q ‹_›]; rfl) | (rw [iu_c ‹_›]; rfl), ht⟩) (fun q h => nomatch h) d_M_is_32

theorem r_M_is {p : Program} {l : Launch} {e : Env} {R : Room} {s : State} {mm : MethodId} {args : Array Value} {below : List Frame} {meth : Method} {c : Code} {H : Heap} {locs : List Loc} {cells slots : Nat} {Q : State → Prop} {cc : ByteArray} {pcn nL : Nat} {ls : Array Slot} {rest : List Value} {dC : Nat → ClassId} {dI : Nat → Nat → Nat} {h0 a1 a2 a3 a4 a5 : Nat} {cI cZ : ClassId} {cd : Int32} {tx pt qt ar nr : Nat → Int32} {tn pn : Nat} (hp : pn ≤ 200) {a : Nat} (ha : a ≤ 1000) {ch : Int32} (hx : p.tables.exec = Jvm.exec) (hb : c.code = cc) (hml : c.maxLocals = nL) (hown : s.vm.findClass R_M = some mm.cls) (htB : ∀ w ∈ wB, w.before args s = true) (hK : va_K (dC, dI) classes (tyIZ cI cZ) s) (hP : va_P (dC, dI) classes (wM h0 a1 a2 a3 a4 a5 cI cZ cd tx pt qt ar nr tn pn) H) (hls : ls.size = nL) (hre : (rest.map fun v => v.category).sum ≤ 8) (hR : 0 + 1 ≤ R.frames ∧ 8 + (3 + 11) + 0 ≤ R.locals) (hce : cells ≤ R.cells ∧ slots ≤ R.slots) (hd : decode cc pcn = .ok (.invokevirtual 38, 3)) (kk : W p l e R s mm args below meth c H locs cells slots Q (F0 mm (pcn + 3) ls (.int (bI (iu pt qt pn a ch)) :: rest))) : W p l e R s mm args below meth c H locs cells slots Q (F0 mm pcn ls (.int ch :: .int (nI a) :: .ref h0 :: rest)) := by
  refine vp_callSi (va_Run.run (va_runV (As := [.int (nI a), .int ch]) (rest := rest) ⟨hx, hb, hml, hown, htB⟩ (c_M_is l dC dI h0 a1 a2 a3 a4 a5 cI cZ cd tx pt qt ar nr tn pn hp a ha ch) (cwV 2 htB (gV hml_M_38 hinm_M_is hsel_M_is hini_M hco_M_is) rfl rfl rfl (by decide +kernel) hR) ⟨fun a U g mk q => by obtain ⟨q0, qP, qK⟩ := q; exact ⟨q0, qP, va_K.moved (u := U) (U := U.calling g mk a) (Vm.Alike.refl U.vm) qK⟩, va_recv hK hP (ci := 1) (q0 := 0) rfl rfl, fun U hU hW => ⟨rfl, by rw [hU]; exact hP, va_K.moved hW.alike hK⟩⟩ rfl rfl hls rfl (lv_room hre) hd ⟨hce.1, hce.2⟩)) (fun r hr => ?_)
  rw [hr]; exact kk

set_option maxHeartbeats 4000000 in
set_option maxRecDepth 100000 in
theorem c_M_closed (l : Launch) (dC : Nat → ClassId) (dI : Nat → Nat → Nat) (h0 a1 a2 a3 a4 a5 : Nat) (cI cZ : ClassId) (cd : Int32) (tx pt qt ar nr : Nat → Int32) (tn pn : Nat) (hp : pn ≤ 200) (a : Nat) (ha : a ≤ 500) : Met l y_M_closed (.code y_M_closed b_M_closed 3 (some .int) :: wB) (Rm 1 22) (va_Pc [.ref h0, .int (nI a)] (fun U => va_P (dC, dI) classes (wM h0 a1 a2 a3 a4 a5 cI cZ cd tx pt qt ar nr tn pn) U.heap ∧ va_K (dC, dI) classes (tyIZ cI cZ) U)) (vp_Si (fun r => r = oI (cl pt qt pn a))) 0 0 (fun _ => False) := by
  refine Met.ofW (cc := b_M_closed) (maxL := 3) (ret := (some .int)) (by decide) rfl ?_
  intro p e s mm args below meth c s₁ B hml hv
  obtain ⟨rfl, hP, hK⟩ := hv
  have hx := B.exec
  have hb := B.bytes
  have hr := B.returns
  have hts := atoms_spec (ws := (.code y_M_closed b_M_closed 3 (some .int) :: wB)) B.pre
  have htB : ∀ w ∈ wB, w.before _ s = true := fun w h => hts w (List.mem_cons_of_mem _ h)
  have hown : s.vm.findClass R_M = some mm.cls := findClass_of_methodNamed B.named
  have hlocks := B.notSynchronized
  have hl := lv_entry ([.ref h0, .int (nI a)]) (n := 3) (Nat.le_of_ble_eq_true rfl)
  rw [lg_entry_eq]
  generalize (lg_sl ([.ref h0, .int (nI a)]) ++ List.replicate (3 - (lg_sl ([.ref h0, .int (nI a)])).length) Slot.unset).toArray = ls at hl ⊢
  have hl : lv_has ls 3 [(0, .ref h0), (1, .int (nI a))] := hl
  have loop : ∀ (n i : Nat), i ≤ 1000 → 1000 < i + n → oI (sc pt qt pn (pn + 1 - i) i) = oI (cl pt qt pn a) → ∀ ls : Array Slot, lv_has ls 3 [(2, .int (nI i)), (0, .ref h0), (1, .int (nI a))] → W p l e (Rm 1 22) s mm [.ref h0, .int (nI a)].toArray below meth c s.heap [] 0 0 (MQ below (vp_Si (fun r => r = oI (cl pt qt pn a))) [.ref h0, .int (nI a)].toArray s 0 0 (fun _ => False)) (F0 mm 34 ls []) := by
    intro n
    induction n with
    | zero => intro i h1 h2; exact absurd h2 (by omega)
    | succ n ih =>
      intro i hi hn hE ls hl
      refine lv_iload_n hx hb d_M_closed_34 rfl (lv_at hl 0 rfl) ?_
      refine lv_aload_n hx hb d_M_closed_35 rfl (lv_at hl 1 rfl) ?_
      refine va_get (D := (dC, dI)) (ci := 1) (v := .int (nI pn)) (C := R_M) (T := F_M) (N := 8) hx hb htB in_M hown hK hP 0 rfl rfl 5 (by decide) (htB _ hfl_M_35) (fun _ h9 => h9) rfl d_M_closed_36 ?_
      refine lv_icmp_ge (tgt := 58) hx hb d_M_closed_39 (by decide) (fun c_1 => ?_) (fun c_1 => ?_)
      · have c_1 := (nI_leI (by omega) (by omega)).mp c_1
        refine lv_iload_n hx hb d_M_closed_58 rfl (lv_at hl 0 rfl) ?_
        refine lv_aload_n hx hb d_M_closed_59 rfl (lv_at hl 1 rfl) ?_
        refine va_get (D := (dC, dI)) (ci := 1) (v := .int (nI pn)) (C := R_M) (T := F_M) (N := 8) hx hb htB in_M hown hK hP 0 rfl rfl 5 (by decide) (htB _ hfl_M_35) (fun _ h9 => h9) rfl d_M_closed_60 ?_
        refine lv_icmp_ge (tgt := 70) hx hb d_M_closed_63 (by decide) (fun c_2 => ?_) (fun c_2 => ?_)
        · have c_2 := (nI_leI (by omega) (by omega)).mp c_2
          refine lv_iconst (v := -1) hx hb d_M_closed_70 (by decide) ?_
          exact W.iret (v := -1) hx hb hr (fun t ht hW => ⟨_, rfl, by first | (exfalso; omega) | (rw [← hE, sc_hit (by omega) ‹_›]; rfl) | (rw [← hE, sc_out (by omega)]; rfl), ht⟩) (fun q h => nomatch h) d_M_closed_71
        · have c_2 := mt (nI_leI (by omega) (by omega)).mpr c_2
          refine lv_iload_n hx hb d_M_closed_66 rfl (lv_at hl 0 rfl) ?_
          refine lv_goto (tgt := 71) hx hb d_M_closed_67 (by decide) ?_
          exact W.iret (v := nI i) hx hb hr (fun t ht hW => ⟨_, rfl, by first | (exfalso; omega) | (rw [← hE, sc_hit (by omega) ‹_›]; rfl) | (rw [← hE, sc_out (by omega)]; rfl), ht⟩) (fun q h => nomatch h) d_M_closed_71
      · have c_1 := mt (nI_leI (by omega) (by omega)).mpr c_1
        refine lv_aload_n hx hb d_M_closed_42 rfl (lv_at hl 1 rfl) ?_
        refine lv_iload_n hx hb d_M_closed_43 rfl (lv_at hl 0 rfl) ?_
        refine lv_bipush (v := nI 93) hx hb d_M_closed_44 (by decide) ?_
        refine r_M_is hp (by omega) hx hb hml hown htB hK hP hl.1 (Nat.le_of_ble_eq_true rfl) ⟨Nat.le_of_ble_eq_true rfl, Nat.le_of_ble_eq_true rfl⟩ ⟨Nat.zero_le _, Nat.zero_le _⟩ d_M_closed_46 ?_
        refine lv_if_ne (tgt := 58) hx hb d_M_closed_49 (by decide) (fun c_3 => ?_) (fun c_3 => ?_)
        · have c_3 := bI_nz.mp c_3
          refine lv_iload_n hx hb d_M_closed_58 rfl (lv_at hl 0 rfl) ?_
          refine lv_aload_n hx hb d_M_closed_59 rfl (lv_at hl 1 rfl) ?_
          refine va_get (D := (dC, dI)) (ci := 1) (v := .int (nI pn)) (C := R_M) (T := F_M) (N := 8) hx hb htB in_M hown hK hP 0 rfl rfl 5 (by decide) (htB _ hfl_M_35) (fun _ h9 => h9) rfl d_M_closed_60 ?_
          refine lv_icmp_ge (tgt := 70) hx hb d_M_closed_63 (by decide) (fun c_4 => ?_) (fun c_4 => ?_)
          · have c_4 := (nI_leI (by omega) (by omega)).mp c_4
            refine lv_iconst (v := -1) hx hb d_M_closed_70 (by decide) ?_
            exact W.iret (v := -1) hx hb hr (fun t ht hW => ⟨_, rfl, by first | (exfalso; omega) | (rw [← hE, sc_hit (by omega) ‹_›]; rfl) | (rw [← hE, sc_out (by omega)]; rfl), ht⟩) (fun q h => nomatch h) d_M_closed_71
          · have c_4 := mt (nI_leI (by omega) (by omega)).mpr c_4
            refine lv_iload_n hx hb d_M_closed_66 rfl (lv_at hl 0 rfl) ?_
            refine lv_goto (tgt := 71) hx hb d_M_closed_67 (by decide) ?_
            exact W.iret (v := nI i) hx hb hr (fun t ht hW => ⟨_, rfl, by first | (exfalso; omega) | (rw [← hE, sc_hit (by omega) ‹_›]; rfl) | (rw [← hE, sc_out (by omega)]; rfl), ht⟩) (fun q h => nomatch h) d_M_closed_71
        · have c_3 := bI_z.mp c_3
          refine lv_iinc (v := nI (i + 1)) (lv' := [(2, .int (nI (i + 1))), (0, .ref h0), (1, .int (nI a))]) hx hb d_M_closed_52 hl (k := 0) rfl (nI_add _ 1) (by decide) rfl (fun ls hl => ?_)
          refine lv_goto (tgt := 34) hx hb d_M_closed_55 (by decide) ?_
          exact ih (i + 1) (by omega) (by omega) (by rw [← sc_go (a := i) (by omega) ‹_›]; exact hE) ls hl
  refine lv_aload_n hx hb d_M_closed_0 rfl (lv_at hl 0 rfl) ?_
  refine lv_iload_n hx hb d_M_closed_1 rfl (lv_at hl 1 rfl) ?_
  refine lv_bipush (v := nI 91) hx hb d_M_closed_2 (by decide) ?_
  refine r_M_is hp (by omega) hx hb hml hown htB hK hP hl.1 (Nat.le_of_ble_eq_true rfl) ⟨Nat.le_of_ble_eq_true rfl, Nat.le_of_ble_eq_true rfl⟩ ⟨Nat.zero_le _, Nat.zero_le _⟩ d_M_closed_4 ?_
  refine lv_if_ne (tgt := 12) hx hb d_M_closed_7 (by decide) (fun c_1 => ?_) (fun c_1 => ?_)
  · have c_1 := bI_nz.mp c_1
    refine lv_aload_n hx hb d_M_closed_12 rfl (lv_at hl 0 rfl) ?_
    refine lv_iload_n hx hb d_M_closed_13 rfl (lv_at hl 1 rfl) ?_
    refine lv_iconst (v := nI 1) hx hb d_M_closed_14 (by decide) ?_
    refine lv_iadd hx hb d_M_closed_15 ?_
    refine lv_topi (fun v_2 ev_2 => ?_)
    obtain rfl : v_2 = nI (a + 1) := ev_2.trans (nI_add _ _)
    refine lv_bipush (v := nI 33) hx hb d_M_closed_16 (by decide) ?_
    refine r_M_is hp (by omega) hx hb hml hown htB hK hP hl.1 (Nat.le_of_ble_eq_true rfl) ⟨Nat.le_of_ble_eq_true rfl, Nat.le_of_ble_eq_true rfl⟩ ⟨Nat.zero_le _, Nat.zero_le _⟩ d_M_closed_18 ?_
    refine lv_if_eq (tgt := 30) hx hb d_M_closed_21 (by decide) (fun c_3 => ?_) (fun c_3 => ?_)
    · have c_3 := bI_z.mp c_3
      refine lv_iload_n hx hb d_M_closed_30 rfl (lv_at hl 1 rfl) ?_
      refine lv_iconst (v := nI 2) hx hb d_M_closed_31 (by decide) ?_
      refine lv_iadd hx hb d_M_closed_32 ?_
      refine lv_topi (fun v_4 ev_4 => ?_)
      obtain rfl : v_4 = nI (a + 2) := ev_4.trans (nI_add _ _)
      refine lv_istore_n (lv' := [(2, .int (nI (a + 2))), (0, .ref h0), (1, .int (nI a))]) hx hb d_M_closed_33 rfl hl (by decide) rfl (fun ls hl => ?_)
      have ef : fm pt qt pn a + 1 = a + 2 := by unfold fm; first | rw [if_pos ‹_›] | rw [if_neg (by rw [‹iu pt qt pn (a + 1) (nI 33) = false›]; decide)]
      exact loop 1001 (a + 2) (by omega) (by omega) (by unfold cl; rw [if_pos ‹iu pt qt pn a (nI 91) = true›, ef]) ls hl
    · have c_3 := bI_nz.mp c_3
      refine lv_iload_n hx hb d_M_closed_24 rfl (lv_at hl 1 rfl) ?_
      refine lv_iconst (v := nI 3) hx hb d_M_closed_25 (by decide) ?_
      refine lv_iadd hx hb d_M_closed_26 ?_
      refine lv_topi (fun v_5 ev_5 => ?_)
      obtain rfl : v_5 = nI (a + 3) := ev_5.trans (nI_add _ _)
      refine lv_goto (tgt := 33) hx hb d_M_closed_27 (by decide) ?_
      refine lv_istore_n (lv' := [(2, .int (nI (a + 3))), (0, .ref h0), (1, .int (nI a))]) hx hb d_M_closed_33 rfl hl (by decide) rfl (fun ls hl => ?_)
      have ef : fm pt qt pn a + 1 = a + 3 := by unfold fm; first | rw [if_pos ‹_›] | rw [if_neg (by rw [‹iu pt qt pn (a + 1) (nI 33) = false›]; decide)]
      exact loop 1001 (a + 3) (by omega) (by omega) (by unfold cl; rw [if_pos ‹iu pt qt pn a (nI 91) = true›, ef]) ls hl
  · have c_1 := bI_z.mp c_1
    refine lv_iconst (v := -1) hx hb d_M_closed_10 (by decide) ?_
    exact W.iret (v := -1) hx hb hr (fun t ht hW => ⟨_, rfl, by unfold cl; rw [if_neg (by rw [‹iu pt qt pn a (nI 91) = false›]; decide)]; rfl, ht⟩) (fun q h => nomatch h) d_M_closed_11

theorem r_M_closed {p : Program} {l : Launch} {e : Env} {R : Room} {s : State} {mm : MethodId} {args : Array Value} {below : List Frame} {meth : Method} {c : Code} {H : Heap} {locs : List Loc} {cells slots : Nat} {Q : State → Prop} {cc : ByteArray} {pcn nL : Nat} {ls : Array Slot} {rest : List Value} {dC : Nat → ClassId} {dI : Nat → Nat → Nat} {h0 a1 a2 a3 a4 a5 : Nat} {cI cZ : ClassId} {cd : Int32} {tx pt qt ar nr : Nat → Int32} {tn pn : Nat} (hp : pn ≤ 200) {a : Nat} (ha : a ≤ 500) (hx : p.tables.exec = Jvm.exec) (hb : c.code = cc) (hml : c.maxLocals = nL) (hown : s.vm.findClass R_M = some mm.cls) (htB : ∀ w ∈ wB, w.before args s = true) (hK : va_K (dC, dI) classes (tyIZ cI cZ) s) (hP : va_P (dC, dI) classes (wM h0 a1 a2 a3 a4 a5 cI cZ cd tx pt qt ar nr tn pn) H) (hls : ls.size = nL) (hre : (rest.map fun v => v.category).sum ≤ 8) (hR : 1 + 1 ≤ R.frames ∧ 8 + (3 + 11) + 22 ≤ R.locals) (hce : cells ≤ R.cells ∧ slots ≤ R.slots) (hd : decode cc pcn = .ok (.invokevirtual 46, 3)) (kk : W p l e R s mm args below meth c H locs cells slots Q (F0 mm (pcn + 3) ls (.int (oI (cl pt qt pn a)) :: rest))) : W p l e R s mm args below meth c H locs cells slots Q (F0 mm pcn ls (.int (nI a) :: .ref h0 :: rest)) := by
  refine vp_callSi (va_Run.run (va_runV (As := [.int (nI a)]) (rest := rest) ⟨hx, hb, hml, hown, htB⟩ (c_M_closed l dC dI h0 a1 a2 a3 a4 a5 cI cZ cd tx pt qt ar nr tn pn hp a ha) (cwV 1 htB (gV hml_M_46 hinm_M_closed hsel_M_closed hini_M hco_M_closed) rfl rfl rfl (by decide +kernel) hR) ⟨fun a U g mk q => by obtain ⟨q0, qP, qK⟩ := q; exact ⟨q0, qP, va_K.moved (u := U) (U := U.calling g mk a) (Vm.Alike.refl U.vm) qK⟩, va_recv hK hP (ci := 1) (q0 := 0) rfl rfl, fun U hU hW => ⟨rfl, by rw [hU]; exact hP, va_K.moved hW.alike hK⟩⟩ rfl rfl hls rfl (lv_room hre) hd ⟨hce.1, hce.2⟩)) (fun r hr => ?_)
  rw [hr]; exact kk

set_option maxHeartbeats 4000000 in
set_option maxRecDepth 100000 in
theorem c_M_isMember (l : Launch) (dC : Nat → ClassId) (dI : Nat → Nat → Nat) (h0 a1 a2 a3 a4 a5 : Nat) (cI cZ : ClassId) (cd : Int32) (tx pt qt ar nr : Nat → Int32) (tn pn : Nat) (hp : pn ≤ 200) (f k : Nat) (hf : f ≤ 500) (hk : k ≤ 200) (ch : Int32) : Met l y_M_isMember (.code y_M_isMember b_M_isMember 7 (some .boolean) :: wB) (Rm 1 22) (va_Pc [.ref h0, .int (nI f), .int (nI k), .int ch] (fun U => va_P (dC, dI) classes (wM h0 a1 a2 a3 a4 a5 cI cZ cd tx pt qt ar nr tn pn) U.heap ∧ va_K (dC, dI) classes (tyIZ cI cZ) U)) (vp_Si (fun r => r = bI (mb pt qt pn k ch (k + 1 - f) f))) 0 0 (fun _ => False) := by
  refine Met.ofW (cc := b_M_isMember) (maxL := 7) (ret := (some .boolean)) (by decide) rfl ?_
  intro p e s mm args below meth c s₁ B hml hv
  obtain ⟨rfl, hP, hK⟩ := hv
  have hx := B.exec
  have hb := B.bytes
  have hr := B.returns
  have hts := atoms_spec (ws := (.code y_M_isMember b_M_isMember 7 (some .boolean) :: wB)) B.pre
  have htB : ∀ w ∈ wB, w.before _ s = true := fun w h => hts w (List.mem_cons_of_mem _ h)
  have hown : s.vm.findClass R_M = some mm.cls := findClass_of_methodNamed B.named
  have hlocks := B.notSynchronized
  have hl := lv_entry ([.ref h0, .int (nI f), .int (nI k), .int ch]) (n := 7) (Nat.le_of_ble_eq_true rfl)
  rw [lg_entry_eq]
  generalize (lg_sl ([.ref h0, .int (nI f), .int (nI k), .int ch]) ++ List.replicate (7 - (lg_sl ([.ref h0, .int (nI f), .int (nI k), .int ch])).length) Slot.unset).toArray = ls at hl ⊢
  have hl : lv_has ls 7 [(0, .ref h0), (1, .int (nI f)), (2, .int (nI k)), (3, .int ch)] := hl
  have loop : ∀ (n i : Nat) (rr : Bool), i ≤ 1000 → 1000 < i + n → (rr || mb pt qt pn k ch (k + 1 - i) i) = mb pt qt pn k ch (k + 1 - f) f → ∀ ls : Array Slot, lv_has ls 7 [(4, .int (bI rr)), (5, .int (nI i)), (0, .ref h0), (1, .int (nI f)), (2, .int (nI k)), (3, .int ch)] → W p l e (Rm 1 22) s mm [.ref h0, .int (nI f), .int (nI k), .int ch].toArray below meth c s.heap [] 0 0 (MQ below (vp_Si (fun r => r = bI (mb pt qt pn k ch (k + 1 - f) f))) [.ref h0, .int (nI f), .int (nI k), .int ch].toArray s 0 0 (fun _ => False)) (F0 mm 6 ls []) := by
    intro n
    induction n with
    | zero => intro i rr h1 h2; exact absurd h2 (by omega)
    | succ n ih =>
      intro i rr hi hn hE ls hl
      refine lv_iload hx hb d_M_isMember_6 (lv_at hl 1 rfl) ?_
      refine lv_iload_n hx hb d_M_isMember_8 rfl (lv_at hl 4 rfl) ?_
      refine lv_icmp_ge (tgt := 113) hx hb d_M_isMember_9 (by decide) (fun c_1 => ?_) (fun c_1 => ?_)
      · have c_1 := (nI_leI (by omega) (by omega)).mp c_1
        refine lv_iload hx hb d_M_isMember_113 (lv_at hl 0 rfl) ?_
        exact W.zret (v := bI rr) hx hb hr (bI_nar _) (fun t ht hW => ⟨_, rfl, by rw [← hE, mb_out (by omega), Bool.or_false], ht⟩) (fun q h => nomatch h) d_M_isMember_115
      · have c_1 := mt (nI_leI (by omega) (by omega)).mpr c_1
        refine lv_iload hx hb d_M_isMember_12 (lv_at hl 1 rfl) ?_
        refine lv_iconst (v := nI 2) hx hb d_M_isMember_14 (by decide) ?_
        refine lv_iadd hx hb d_M_isMember_15 ?_
        refine lv_topi (fun v_2 ev_2 => ?_)
        obtain rfl : v_2 = nI (i + 2) := ev_2.trans (nI_add _ _)
        refine lv_iload_n hx hb d_M_isMember_16 rfl (lv_at hl 4 rfl) ?_
        refine lv_icmp_ge (tgt := 37) hx hb d_M_isMember_17 (by decide) (fun c_3 => ?_) (fun c_3 => ?_)
        · have c_3 := (nI_leI (by omega) (by omega)).mp c_3
          refine lv_iconst (v := nI 0) hx hb d_M_isMember_37 (by decide) ?_
          refine lv_istore (lv' := [(6, .int (nI 0)), (4, .int (bI rr)), (5, .int (nI i)), (0, .ref h0), (1, .int (nI f)), (2, .int (nI k)), (3, .int ch)]) hx hb d_M_isMember_38 hl (by decide) rfl (fun ls hl => ?_)
          refine lv_iload hx hb d_M_isMember_40 (lv_at hl 1 rfl) ?_
          refine lv_if_ne (tgt := 88) hx hb d_M_isMember_42 (by decide) (fun c_4 => ?_) (fun c_4 => ?_)
          · have c_4 := bI_nz.mp c_4
            refine lv_iconst (v := nI 1) hx hb d_M_isMember_88 (by decide) ?_
            refine lv_goto (tgt := 93) hx hb d_M_isMember_89 (by decide) ?_
            refine lv_istore (lv' := [(4, .int (nI 1)), (6, .int (nI 0)), (5, .int (nI i)), (0, .ref h0), (1, .int (nI f)), (2, .int (nI k)), (3, .int ch)]) hx hb d_M_isMember_93 hl (by decide) rfl (fun ls hl => ?_)
            refine lv_iload hx hb d_M_isMember_95 (lv_at hl 2 rfl) ?_
            refine lv_iload hx hb d_M_isMember_97 (lv_at hl 1 rfl) ?_
            refine lv_if_eq (tgt := 106) hx hb d_M_isMember_99 (by decide) (fun c_5 => ?_) (fun c_5 => ?_)
            · clear c_5
              refine lv_iconst (v := nI 1) hx hb d_M_isMember_106 (by decide) ?_
              refine lv_iadd hx hb d_M_isMember_107 ?_
              refine lv_topi (fun v_6 ev_6 => ?_)
              obtain rfl : v_6 = nI (i + 1) := ev_6.trans (nI_add _ _)
              refine lv_istore (lv' := [(5, .int (nI (i + 1))), (4, .int (nI 1)), (6, .int (nI 0)), (0, .ref h0), (1, .int (nI f)), (2, .int (nI k)), (3, .int ch)]) hx hb d_M_isMember_108 hl (by decide) rfl (fun ls hl => ?_)
              refine lv_goto (tgt := 6) hx hb d_M_isMember_110 (by decide) ?_
              exact ih (i + 1) true (by omega) (by omega) (by rw [← hE]; first | (rw [‹rr = true›]; rfl) | (rw [mb_one (a := i) (by omega) (by rintro ⟨q1, q2⟩; first | omega | (rw [‹iu pt qt pn (i + 1) (nI 45) = false›] at q2; exact absurd q2 (by decide))), (by first | exact nh3 ‹_› ‹_› | exact nh4 ‹_› : (decide (pt i ≤ ch) && decide (ch ≤ pt (i))) = true)]; simp)) ls (lv_sub hl [1, 0, 3, 4, 5, 6] rfl)
            · exact absurd c_5 (by decide)
          · have c_4 := bI_z.mp c_4
            refine lv_iload hx hb d_M_isMember_45 (lv_at hl 0 rfl) ?_
            refine lv_if_eq (tgt := 77) hx hb d_M_isMember_47 (by decide) (fun c_7 => ?_) (fun c_7 => ?_)
            · clear c_7
              refine lv_iload_n hx hb d_M_isMember_77 rfl (lv_at hl 6 rfl) ?_
              refine lv_aload_n hx hb d_M_isMember_78 rfl (lv_at hl 3 rfl) ?_
              refine va_get (D := (dC, dI)) (ci := 1) (v := .ref a2) (C := R_M) (T := F_M) (N := 8) hx hb htB in_M hown hK hP 0 rfl rfl 2 (by decide) (htB _ hfl_M_13) (fun _ h9 => h9) rfl d_M_isMember_79 ?_
              refine lv_iload hx hb d_M_isMember_82 (lv_at hl 2 rfl) ?_
              refine va_iald hx hb hK hP 2 0 rfl rfl (vp_in_nI (n := i) (by omega) (by decide)) d_M_isMember_84 ?_
              refine lv_topi (fun v_8 ev_8 => ?_)
              obtain rfl : v_8 = pt i := ev_8.trans (by rw [nI_clamp (n := i) (by omega)])
              refine lv_icmp_ne (tgt := 92) hx hb d_M_isMember_85 (by decide) (fun c_9 => ?_) (fun c_9 => ?_)
              · refine lv_iconst (v := nI 0) hx hb d_M_isMember_92 (by decide) ?_
                refine lv_istore (lv' := [(4, .int (nI 0)), (6, .int (nI 0)), (5, .int (nI i)), (0, .ref h0), (1, .int (nI f)), (2, .int (nI k)), (3, .int ch)]) hx hb d_M_isMember_93 hl (by decide) rfl (fun ls hl => ?_)
                refine lv_iload hx hb d_M_isMember_95 (lv_at hl 2 rfl) ?_
                refine lv_iload hx hb d_M_isMember_97 (lv_at hl 1 rfl) ?_
                refine lv_if_eq (tgt := 106) hx hb d_M_isMember_99 (by decide) (fun c_10 => ?_) (fun c_10 => ?_)
                · clear c_10
                  refine lv_iconst (v := nI 1) hx hb d_M_isMember_106 (by decide) ?_
                  refine lv_iadd hx hb d_M_isMember_107 ?_
                  refine lv_topi (fun v_11 ev_11 => ?_)
                  obtain rfl : v_11 = nI (i + 1) := ev_11.trans (nI_add _ _)
                  refine lv_istore (lv' := [(5, .int (nI (i + 1))), (4, .int (nI 0)), (6, .int (nI 0)), (0, .ref h0), (1, .int (nI f)), (2, .int (nI k)), (3, .int ch)]) hx hb d_M_isMember_108 hl (by decide) rfl (fun ls hl => ?_)
                  refine lv_goto (tgt := 6) hx hb d_M_isMember_110 (by decide) ?_
                  exact ih (i + 1) false (by omega) (by omega) (by rw [← hE, ‹rr = false›, mb_one (a := i) (by omega) (by rintro ⟨q1, q2⟩; first | omega | (rw [‹iu pt qt pn (i + 1) (nI 45) = false›] at q2; exact absurd q2 (by decide))), (by first | exact nh1 ‹_› | exact nh2 ‹_› | exact nh5 ‹_› : (decide (pt i ≤ ch) && decide (ch ≤ pt (i))) = false)]; rfl) ls (lv_sub hl [1, 0, 3, 4, 5, 6] rfl)
                · exact absurd c_10 (by decide)
              · refine lv_iconst (v := nI 1) hx hb d_M_isMember_88 (by decide) ?_
                refine lv_goto (tgt := 93) hx hb d_M_isMember_89 (by decide) ?_
                refine lv_istore (lv' := [(4, .int (nI 1)), (6, .int (nI 0)), (5, .int (nI i)), (0, .ref h0), (1, .int (nI f)), (2, .int (nI k)), (3, .int ch)]) hx hb d_M_isMember_93 hl (by decide) rfl (fun ls hl => ?_)
                refine lv_iload hx hb d_M_isMember_95 (lv_at hl 2 rfl) ?_
                refine lv_iload hx hb d_M_isMember_97 (lv_at hl 1 rfl) ?_
                refine lv_if_eq (tgt := 106) hx hb d_M_isMember_99 (by decide) (fun c_12 => ?_) (fun c_12 => ?_)
                · clear c_12
                  refine lv_iconst (v := nI 1) hx hb d_M_isMember_106 (by decide) ?_
                  refine lv_iadd hx hb d_M_isMember_107 ?_
                  refine lv_topi (fun v_13 ev_13 => ?_)
                  obtain rfl : v_13 = nI (i + 1) := ev_13.trans (nI_add _ _)
                  refine lv_istore (lv' := [(5, .int (nI (i + 1))), (4, .int (nI 1)), (6, .int (nI 0)), (0, .ref h0), (1, .int (nI f)), (2, .int (nI k)), (3, .int ch)]) hx hb d_M_isMember_108 hl (by decide) rfl (fun ls hl => ?_)
                  refine lv_goto (tgt := 6) hx hb d_M_isMember_110 (by decide) ?_
                  exact ih (i + 1) true (by omega) (by omega) (by rw [← hE]; first | (rw [‹rr = true›]; rfl) | (rw [mb_one (a := i) (by omega) (by rintro ⟨q1, q2⟩; first | omega | (rw [‹iu pt qt pn (i + 1) (nI 45) = false›] at q2; exact absurd q2 (by decide))), (by first | exact nh3 ‹_› ‹_› | exact nh4 ‹_› : (decide (pt i ≤ ch) && decide (ch ≤ pt (i))) = true)]; simp)) ls (lv_sub hl [1, 0, 3, 4, 5, 6] rfl)
                · exact absurd c_12 (by decide)
            · exact absurd c_7 (by decide)
        · have c_3 := mt (nI_leI (by omega) (by omega)).mpr c_3
          refine lv_aload_n hx hb d_M_isMember_20 rfl (lv_at hl 2 rfl) ?_
          refine lv_iload hx hb d_M_isMember_21 (lv_at hl 1 rfl) ?_
          refine lv_iconst (v := nI 1) hx hb d_M_isMember_23 (by decide) ?_
          refine lv_iadd hx hb d_M_isMember_24 ?_
          refine lv_topi (fun v_14 ev_14 => ?_)
          obtain rfl : v_14 = nI (i + 1) := ev_14.trans (nI_add _ _)
          refine lv_bipush (v := nI 45) hx hb d_M_isMember_25 (by decide) ?_
          refine r_M_is hp (by omega) hx hb hml hown htB hK hP hl.1 (Nat.le_of_ble_eq_true rfl) ⟨Nat.le_of_ble_eq_true rfl, Nat.le_of_ble_eq_true rfl⟩ ⟨Nat.zero_le _, Nat.zero_le _⟩ d_M_isMember_27 ?_
          refine lv_if_eq (tgt := 37) hx hb d_M_isMember_30 (by decide) (fun c_15 => ?_) (fun c_15 => ?_)
          · have c_15 := bI_z.mp c_15
            refine lv_iconst (v := nI 0) hx hb d_M_isMember_37 (by decide) ?_
            refine lv_istore (lv' := [(6, .int (nI 0)), (4, .int (bI rr)), (5, .int (nI i)), (0, .ref h0), (1, .int (nI f)), (2, .int (nI k)), (3, .int ch)]) hx hb d_M_isMember_38 hl (by decide) rfl (fun ls hl => ?_)
            refine lv_iload hx hb d_M_isMember_40 (lv_at hl 1 rfl) ?_
            refine lv_if_ne (tgt := 88) hx hb d_M_isMember_42 (by decide) (fun c_16 => ?_) (fun c_16 => ?_)
            · have c_16 := bI_nz.mp c_16
              refine lv_iconst (v := nI 1) hx hb d_M_isMember_88 (by decide) ?_
              refine lv_goto (tgt := 93) hx hb d_M_isMember_89 (by decide) ?_
              refine lv_istore (lv' := [(4, .int (nI 1)), (6, .int (nI 0)), (5, .int (nI i)), (0, .ref h0), (1, .int (nI f)), (2, .int (nI k)), (3, .int ch)]) hx hb d_M_isMember_93 hl (by decide) rfl (fun ls hl => ?_)
              refine lv_iload hx hb d_M_isMember_95 (lv_at hl 2 rfl) ?_
              refine lv_iload hx hb d_M_isMember_97 (lv_at hl 1 rfl) ?_
              refine lv_if_eq (tgt := 106) hx hb d_M_isMember_99 (by decide) (fun c_17 => ?_) (fun c_17 => ?_)
              · clear c_17
                refine lv_iconst (v := nI 1) hx hb d_M_isMember_106 (by decide) ?_
                refine lv_iadd hx hb d_M_isMember_107 ?_
                refine lv_topi (fun v_18 ev_18 => ?_)
                obtain rfl : v_18 = nI (i + 1) := ev_18.trans (nI_add _ _)
                refine lv_istore (lv' := [(5, .int (nI (i + 1))), (4, .int (nI 1)), (6, .int (nI 0)), (0, .ref h0), (1, .int (nI f)), (2, .int (nI k)), (3, .int ch)]) hx hb d_M_isMember_108 hl (by decide) rfl (fun ls hl => ?_)
                refine lv_goto (tgt := 6) hx hb d_M_isMember_110 (by decide) ?_
                exact ih (i + 1) true (by omega) (by omega) (by rw [← hE]; first | (rw [‹rr = true›]; rfl) | (rw [mb_one (a := i) (by omega) (by rintro ⟨q1, q2⟩; first | omega | (rw [‹iu pt qt pn (i + 1) (nI 45) = false›] at q2; exact absurd q2 (by decide))), (by first | exact nh3 ‹_› ‹_› | exact nh4 ‹_› : (decide (pt i ≤ ch) && decide (ch ≤ pt (i))) = true)]; simp)) ls (lv_sub hl [1, 0, 3, 4, 5, 6] rfl)
              · exact absurd c_17 (by decide)
            · have c_16 := bI_z.mp c_16
              refine lv_iload hx hb d_M_isMember_45 (lv_at hl 0 rfl) ?_
              refine lv_if_eq (tgt := 77) hx hb d_M_isMember_47 (by decide) (fun c_19 => ?_) (fun c_19 => ?_)
              · clear c_19
                refine lv_iload_n hx hb d_M_isMember_77 rfl (lv_at hl 6 rfl) ?_
                refine lv_aload_n hx hb d_M_isMember_78 rfl (lv_at hl 3 rfl) ?_
                refine va_get (D := (dC, dI)) (ci := 1) (v := .ref a2) (C := R_M) (T := F_M) (N := 8) hx hb htB in_M hown hK hP 0 rfl rfl 2 (by decide) (htB _ hfl_M_13) (fun _ h9 => h9) rfl d_M_isMember_79 ?_
                refine lv_iload hx hb d_M_isMember_82 (lv_at hl 2 rfl) ?_
                refine va_iald hx hb hK hP 2 0 rfl rfl (vp_in_nI (n := i) (by omega) (by decide)) d_M_isMember_84 ?_
                refine lv_topi (fun v_20 ev_20 => ?_)
                obtain rfl : v_20 = pt i := ev_20.trans (by rw [nI_clamp (n := i) (by omega)])
                refine lv_icmp_ne (tgt := 92) hx hb d_M_isMember_85 (by decide) (fun c_21 => ?_) (fun c_21 => ?_)
                · refine lv_iconst (v := nI 0) hx hb d_M_isMember_92 (by decide) ?_
                  refine lv_istore (lv' := [(4, .int (nI 0)), (6, .int (nI 0)), (5, .int (nI i)), (0, .ref h0), (1, .int (nI f)), (2, .int (nI k)), (3, .int ch)]) hx hb d_M_isMember_93 hl (by decide) rfl (fun ls hl => ?_)
                  refine lv_iload hx hb d_M_isMember_95 (lv_at hl 2 rfl) ?_
                  refine lv_iload hx hb d_M_isMember_97 (lv_at hl 1 rfl) ?_
                  refine lv_if_eq (tgt := 106) hx hb d_M_isMember_99 (by decide) (fun c_22 => ?_) (fun c_22 => ?_)
                  · clear c_22
                    refine lv_iconst (v := nI 1) hx hb d_M_isMember_106 (by decide) ?_
                    refine lv_iadd hx hb d_M_isMember_107 ?_
                    refine lv_topi (fun v_23 ev_23 => ?_)
                    obtain rfl : v_23 = nI (i + 1) := ev_23.trans (nI_add _ _)
                    refine lv_istore (lv' := [(5, .int (nI (i + 1))), (4, .int (nI 0)), (6, .int (nI 0)), (0, .ref h0), (1, .int (nI f)), (2, .int (nI k)), (3, .int ch)]) hx hb d_M_isMember_108 hl (by decide) rfl (fun ls hl => ?_)
                    refine lv_goto (tgt := 6) hx hb d_M_isMember_110 (by decide) ?_
                    exact ih (i + 1) false (by omega) (by omega) (by rw [← hE, ‹rr = false›, mb_one (a := i) (by omega) (by rintro ⟨q1, q2⟩; first | omega | (rw [‹iu pt qt pn (i + 1) (nI 45) = false›] at q2; exact absurd q2 (by decide))), (by first | exact nh1 ‹_› | exact nh2 ‹_› | exact nh5 ‹_› : (decide (pt i ≤ ch) && decide (ch ≤ pt (i))) = false)]; rfl) ls (lv_sub hl [1, 0, 3, 4, 5, 6] rfl)
                  · exact absurd c_22 (by decide)
                · refine lv_iconst (v := nI 1) hx hb d_M_isMember_88 (by decide) ?_
                  refine lv_goto (tgt := 93) hx hb d_M_isMember_89 (by decide) ?_
                  refine lv_istore (lv' := [(4, .int (nI 1)), (6, .int (nI 0)), (5, .int (nI i)), (0, .ref h0), (1, .int (nI f)), (2, .int (nI k)), (3, .int ch)]) hx hb d_M_isMember_93 hl (by decide) rfl (fun ls hl => ?_)
                  refine lv_iload hx hb d_M_isMember_95 (lv_at hl 2 rfl) ?_
                  refine lv_iload hx hb d_M_isMember_97 (lv_at hl 1 rfl) ?_
                  refine lv_if_eq (tgt := 106) hx hb d_M_isMember_99 (by decide) (fun c_24 => ?_) (fun c_24 => ?_)
                  · clear c_24
                    refine lv_iconst (v := nI 1) hx hb d_M_isMember_106 (by decide) ?_
                    refine lv_iadd hx hb d_M_isMember_107 ?_
                    refine lv_topi (fun v_25 ev_25 => ?_)
                    obtain rfl : v_25 = nI (i + 1) := ev_25.trans (nI_add _ _)
                    refine lv_istore (lv' := [(5, .int (nI (i + 1))), (4, .int (nI 1)), (6, .int (nI 0)), (0, .ref h0), (1, .int (nI f)), (2, .int (nI k)), (3, .int ch)]) hx hb d_M_isMember_108 hl (by decide) rfl (fun ls hl => ?_)
                    refine lv_goto (tgt := 6) hx hb d_M_isMember_110 (by decide) ?_
                    exact ih (i + 1) true (by omega) (by omega) (by rw [← hE]; first | (rw [‹rr = true›]; rfl) | (rw [mb_one (a := i) (by omega) (by rintro ⟨q1, q2⟩; first | omega | (rw [‹iu pt qt pn (i + 1) (nI 45) = false›] at q2; exact absurd q2 (by decide))), (by first | exact nh3 ‹_› ‹_› | exact nh4 ‹_› : (decide (pt i ≤ ch) && decide (ch ≤ pt (i))) = true)]; simp)) ls (lv_sub hl [1, 0, 3, 4, 5, 6] rfl)
                  · exact absurd c_24 (by decide)
              · exact absurd c_19 (by decide)
          · have c_15 := bI_nz.mp c_15
            refine lv_iconst (v := nI 1) hx hb d_M_isMember_33 (by decide) ?_
            refine lv_goto (tgt := 38) hx hb d_M_isMember_34 (by decide) ?_
            refine lv_istore (lv' := [(6, .int (nI 1)), (4, .int (bI rr)), (5, .int (nI i)), (0, .ref h0), (1, .int (nI f)), (2, .int (nI k)), (3, .int ch)]) hx hb d_M_isMember_38 hl (by decide) rfl (fun ls hl => ?_)
            refine lv_iload hx hb d_M_isMember_40 (lv_at hl 1 rfl) ?_
            refine lv_if_ne (tgt := 88) hx hb d_M_isMember_42 (by decide) (fun c_26 => ?_) (fun c_26 => ?_)
            · have c_26 := bI_nz.mp c_26
              refine lv_iconst (v := nI 1) hx hb d_M_isMember_88 (by decide) ?_
              refine lv_goto (tgt := 93) hx hb d_M_isMember_89 (by decide) ?_
              refine lv_istore (lv' := [(4, .int (nI 1)), (6, .int (nI 1)), (5, .int (nI i)), (0, .ref h0), (1, .int (nI f)), (2, .int (nI k)), (3, .int ch)]) hx hb d_M_isMember_93 hl (by decide) rfl (fun ls hl => ?_)
              refine lv_iload hx hb d_M_isMember_95 (lv_at hl 2 rfl) ?_
              refine lv_iload hx hb d_M_isMember_97 (lv_at hl 1 rfl) ?_
              refine lv_if_eq (tgt := 106) hx hb d_M_isMember_99 (by decide) (fun c_27 => ?_) (fun c_27 => ?_)
              · exact absurd c_27 (by decide)
              · clear c_27
                refine lv_iconst (v := nI 3) hx hb d_M_isMember_102 (by decide) ?_
                refine lv_goto (tgt := 107) hx hb d_M_isMember_103 (by decide) ?_
                refine lv_iadd hx hb d_M_isMember_107 ?_
                refine lv_topi (fun v_28 ev_28 => ?_)
                obtain rfl : v_28 = nI (i + 3) := ev_28.trans (nI_add _ _)
                refine lv_istore (lv' := [(5, .int (nI (i + 3))), (4, .int (nI 1)), (6, .int (nI 1)), (0, .ref h0), (1, .int (nI f)), (2, .int (nI k)), (3, .int ch)]) hx hb d_M_isMember_108 hl (by decide) rfl (fun ls hl => ?_)
                refine lv_goto (tgt := 6) hx hb d_M_isMember_110 (by decide) ?_
                exact ih (i + 3) true (by omega) (by omega) (by rw [← hE]; first | (rw [‹rr = true›]; rfl) | (rw [mb_rg (a := i) (by omega) (by omega) ‹_›, (by first | exact nh3 ‹_› ‹_› | exact nh4 ‹_› : (decide (pt i ≤ ch) && decide (ch ≤ pt (i + 2))) = true)]; simp)) ls (lv_sub hl [1, 0, 3, 4, 5, 6] rfl)
            · have c_26 := bI_z.mp c_26
              refine lv_iload hx hb d_M_isMember_45 (lv_at hl 0 rfl) ?_
              refine lv_if_eq (tgt := 77) hx hb d_M_isMember_47 (by decide) (fun c_29 => ?_) (fun c_29 => ?_)
              · exact absurd c_29 (by decide)
              · clear c_29
                refine lv_iload_n hx hb d_M_isMember_50 rfl (lv_at hl 6 rfl) ?_
                refine lv_aload_n hx hb d_M_isMember_51 rfl (lv_at hl 3 rfl) ?_
                refine va_get (D := (dC, dI)) (ci := 1) (v := .ref a2) (C := R_M) (T := F_M) (N := 8) hx hb htB in_M hown hK hP 0 rfl rfl 2 (by decide) (htB _ hfl_M_13) (fun _ h9 => h9) rfl d_M_isMember_52 ?_
                refine lv_iload hx hb d_M_isMember_55 (lv_at hl 2 rfl) ?_
                refine va_iald hx hb hK hP 2 0 rfl rfl (vp_in_nI (n := i) (by omega) (by decide)) d_M_isMember_57 ?_
                refine lv_topi (fun v_30 ev_30 => ?_)
                obtain rfl : v_30 = pt i := ev_30.trans (by rw [nI_clamp (n := i) (by omega)])
                refine lv_icmp_lt (tgt := 92) hx hb d_M_isMember_58 (by decide) (fun c_31 => ?_) (fun c_31 => ?_)
                · refine lv_iconst (v := nI 0) hx hb d_M_isMember_92 (by decide) ?_
                  refine lv_istore (lv' := [(4, .int (nI 0)), (6, .int (nI 1)), (5, .int (nI i)), (0, .ref h0), (1, .int (nI f)), (2, .int (nI k)), (3, .int ch)]) hx hb d_M_isMember_93 hl (by decide) rfl (fun ls hl => ?_)
                  refine lv_iload hx hb d_M_isMember_95 (lv_at hl 2 rfl) ?_
                  refine lv_iload hx hb d_M_isMember_97 (lv_at hl 1 rfl) ?_
                  refine lv_if_eq (tgt := 106) hx hb d_M_isMember_99 (by decide) (fun c_32 => ?_) (fun c_32 => ?_)
                  · exact absurd c_32 (by decide)
                  · clear c_32
                    refine lv_iconst (v := nI 3) hx hb d_M_isMember_102 (by decide) ?_
                    refine lv_goto (tgt := 107) hx hb d_M_isMember_103 (by decide) ?_
                    refine lv_iadd hx hb d_M_isMember_107 ?_
                    refine lv_topi (fun v_33 ev_33 => ?_)
                    obtain rfl : v_33 = nI (i + 3) := ev_33.trans (nI_add _ _)
                    refine lv_istore (lv' := [(5, .int (nI (i + 3))), (4, .int (nI 0)), (6, .int (nI 1)), (0, .ref h0), (1, .int (nI f)), (2, .int (nI k)), (3, .int ch)]) hx hb d_M_isMember_108 hl (by decide) rfl (fun ls hl => ?_)
                    refine lv_goto (tgt := 6) hx hb d_M_isMember_110 (by decide) ?_
                    exact ih (i + 3) false (by omega) (by omega) (by rw [← hE, ‹rr = false›, mb_rg (a := i) (by omega) (by omega) ‹_›, (by first | exact nh1 ‹_› | exact nh2 ‹_› | exact nh5 ‹_› : (decide (pt i ≤ ch) && decide (ch ≤ pt (i + 2))) = false)]; rfl) ls (lv_sub hl [1, 0, 3, 4, 5, 6] rfl)
                · refine lv_iload_n hx hb d_M_isMember_61 rfl (lv_at hl 6 rfl) ?_
                  refine lv_aload_n hx hb d_M_isMember_62 rfl (lv_at hl 3 rfl) ?_
                  refine va_get (D := (dC, dI)) (ci := 1) (v := .ref a2) (C := R_M) (T := F_M) (N := 8) hx hb htB in_M hown hK hP 0 rfl rfl 2 (by decide) (htB _ hfl_M_13) (fun _ h9 => h9) rfl d_M_isMember_63 ?_
                  refine lv_iload hx hb d_M_isMember_66 (lv_at hl 2 rfl) ?_
                  refine lv_iconst (v := nI 2) hx hb d_M_isMember_68 (by decide) ?_
                  refine lv_iadd hx hb d_M_isMember_69 ?_
                  refine lv_topi (fun v_34 ev_34 => ?_)
                  obtain rfl : v_34 = nI (i + 2) := ev_34.trans (nI_add _ _)
                  refine va_iald hx hb hK hP 2 0 rfl rfl (vp_in_nI (n := i + 2) (by omega) (by decide)) d_M_isMember_70 ?_
                  refine lv_topi (fun v_35 ev_35 => ?_)
                  obtain rfl : v_35 = pt (i + 2) := ev_35.trans (by rw [nI_clamp (n := i + 2) (by omega)])
                  refine lv_icmp_gt (tgt := 92) hx hb d_M_isMember_71 (by decide) (fun c_36 => ?_) (fun c_36 => ?_)
                  · refine lv_iconst (v := nI 0) hx hb d_M_isMember_92 (by decide) ?_
                    refine lv_istore (lv' := [(4, .int (nI 0)), (6, .int (nI 1)), (5, .int (nI i)), (0, .ref h0), (1, .int (nI f)), (2, .int (nI k)), (3, .int ch)]) hx hb d_M_isMember_93 hl (by decide) rfl (fun ls hl => ?_)
                    refine lv_iload hx hb d_M_isMember_95 (lv_at hl 2 rfl) ?_
                    refine lv_iload hx hb d_M_isMember_97 (lv_at hl 1 rfl) ?_
                    refine lv_if_eq (tgt := 106) hx hb d_M_isMember_99 (by decide) (fun c_37 => ?_) (fun c_37 => ?_)
                    · exact absurd c_37 (by decide)
                    · clear c_37
                      refine lv_iconst (v := nI 3) hx hb d_M_isMember_102 (by decide) ?_
                      refine lv_goto (tgt := 107) hx hb d_M_isMember_103 (by decide) ?_
                      refine lv_iadd hx hb d_M_isMember_107 ?_
                      refine lv_topi (fun v_38 ev_38 => ?_)
                      obtain rfl : v_38 = nI (i + 3) := ev_38.trans (nI_add _ _)
                      refine lv_istore (lv' := [(5, .int (nI (i + 3))), (4, .int (nI 0)), (6, .int (nI 1)), (0, .ref h0), (1, .int (nI f)), (2, .int (nI k)), (3, .int ch)]) hx hb d_M_isMember_108 hl (by decide) rfl (fun ls hl => ?_)
                      refine lv_goto (tgt := 6) hx hb d_M_isMember_110 (by decide) ?_
                      exact ih (i + 3) false (by omega) (by omega) (by rw [← hE, ‹rr = false›, mb_rg (a := i) (by omega) (by omega) ‹_›, (by first | exact nh1 ‹_› | exact nh2 ‹_› | exact nh5 ‹_› : (decide (pt i ≤ ch) && decide (ch ≤ pt (i + 2))) = false)]; rfl) ls (lv_sub hl [1, 0, 3, 4, 5, 6] rfl)
                  · refine lv_goto (tgt := 88) hx hb d_M_isMember_74 (by decide) ?_
                    refine lv_iconst (v := nI 1) hx hb d_M_isMember_88 (by decide) ?_
                    refine lv_goto (tgt := 93) hx hb d_M_isMember_89 (by decide) ?_
                    refine lv_istore (lv' := [(4, .int (nI 1)), (6, .int (nI 1)), (5, .int (nI i)), (0, .ref h0), (1, .int (nI f)), (2, .int (nI k)), (3, .int ch)]) hx hb d_M_isMember_93 hl (by decide) rfl (fun ls hl => ?_)
                    refine lv_iload hx hb d_M_isMember_95 (lv_at hl 2 rfl) ?_
                    refine lv_iload hx hb d_M_isMember_97 (lv_at hl 1 rfl) ?_
                    refine lv_if_eq (tgt := 106) hx hb d_M_isMember_99 (by decide) (fun c_39 => ?_) (fun c_39 => ?_)
                    · exact absurd c_39 (by decide)
                    · clear c_39
                      refine lv_iconst (v := nI 3) hx hb d_M_isMember_102 (by decide) ?_
                      refine lv_goto (tgt := 107) hx hb d_M_isMember_103 (by decide) ?_
                      refine lv_iadd hx hb d_M_isMember_107 ?_
                      refine lv_topi (fun v_40 ev_40 => ?_)
                      obtain rfl : v_40 = nI (i + 3) := ev_40.trans (nI_add _ _)
                      refine lv_istore (lv' := [(5, .int (nI (i + 3))), (4, .int (nI 1)), (6, .int (nI 1)), (0, .ref h0), (1, .int (nI f)), (2, .int (nI k)), (3, .int ch)]) hx hb d_M_isMember_108 hl (by decide) rfl (fun ls hl => ?_)
                      refine lv_goto (tgt := 6) hx hb d_M_isMember_110 (by decide) ?_
                      exact ih (i + 3) true (by omega) (by omega) (by rw [← hE]; first | (rw [‹rr = true›]; rfl) | (rw [mb_rg (a := i) (by omega) (by omega) ‹_›, (by first | exact nh3 ‹_› ‹_› | exact nh4 ‹_› : (decide (pt i ≤ ch) && decide (ch ≤ pt (i + 2))) = true)]; simp)) ls (lv_sub hl [1, 0, 3, 4, 5, 6] rfl)
  refine lv_iconst (v := nI 0) hx hb d_M_isMember_0 (by decide) ?_
  refine lv_istore (lv' := [(4, .int (nI 0)), (0, .ref h0), (1, .int (nI f)), (2, .int (nI k)), (3, .int ch)]) hx hb d_M_isMember_1 hl (by decide) rfl (fun ls hl => ?_)
  refine lv_iload_n hx hb d_M_isMember_3 rfl (lv_at hl 2 rfl) ?_
  refine lv_istore (lv' := [(5, .int (nI f)), (4, .int (nI 0)), (0, .ref h0), (1, .int (nI f)), (2, .int (nI k)), (3, .int ch)]) hx hb d_M_isMember_4 hl (by decide) rfl (fun ls hl => ?_)
  exact loop 1001 f false (by omega) (by omega) rfl ls (lv_sub hl [1, 0, 2, 3, 4, 5] rfl)

theorem r_M_isMember {p : Program} {l : Launch} {e : Env} {R : Room} {s : State} {mm : MethodId} {args : Array Value} {below : List Frame} {meth : Method} {c : Code} {H : Heap} {locs : List Loc} {cells slots : Nat} {Q : State → Prop} {cc : ByteArray} {pcn nL : Nat} {ls : Array Slot} {rest : List Value} {dC : Nat → ClassId} {dI : Nat → Nat → Nat} {h0 a1 a2 a3 a4 a5 : Nat} {cI cZ : ClassId} {cd : Int32} {tx pt qt ar nr : Nat → Int32} {tn pn : Nat} (hp : pn ≤ 200) {f k : Nat} (hf : f ≤ 500) (hk : k ≤ 200) {ch : Int32} (hx : p.tables.exec = Jvm.exec) (hb : c.code = cc) (hml : c.maxLocals = nL) (hown : s.vm.findClass R_M = some mm.cls) (htB : ∀ w ∈ wB, w.before args s = true) (hK : va_K (dC, dI) classes (tyIZ cI cZ) s) (hP : va_P (dC, dI) classes (wM h0 a1 a2 a3 a4 a5 cI cZ cd tx pt qt ar nr tn pn) H) (hls : ls.size = nL) (hre : (rest.map fun v => v.category).sum ≤ 8) (hR : 1 + 1 ≤ R.frames ∧ 8 + (7 + 11) + 22 ≤ R.locals) (hce : cells ≤ R.cells ∧ slots ≤ R.slots) (hd : decode cc pcn = .ok (.invokevirtual 42, 3)) (kk : W p l e R s mm args below meth c H locs cells slots Q (F0 mm (pcn + 3) ls (.int (bI (mb pt qt pn k ch (k + 1 - f) f)) :: rest))) : W p l e R s mm args below meth c H locs cells slots Q (F0 mm pcn ls (.int ch :: .int (nI k) :: .int (nI f) :: .ref h0 :: rest)) := by
  refine vp_callSi (va_Run.run (va_runV (As := [.int (nI f), .int (nI k), .int ch]) (rest := rest) ⟨hx, hb, hml, hown, htB⟩ (c_M_isMember l dC dI h0 a1 a2 a3 a4 a5 cI cZ cd tx pt qt ar nr tn pn hp f k hf hk ch) (cwV 3 htB (gV hml_M_42 hinm_M_isMember hsel_M_isMember hini_M hco_M_isMember) rfl rfl rfl (by decide +kernel) hR) ⟨fun a U g mk q => by obtain ⟨q0, qP, qK⟩ := q; exact ⟨q0, qP, va_K.moved (u := U) (U := U.calling g mk a) (Vm.Alike.refl U.vm) qK⟩, va_recv hK hP (ci := 1) (q0 := 0) rfl rfl, fun U hU hW => ⟨rfl, by rw [hU]; exact hP, va_K.moved hW.alike hK⟩⟩ rfl rfl hls rfl (lv_room hre) hd ⟨hce.1, hce.2⟩)) (fun r hr => ?_)
  rw [hr]; exact kk

set_option maxHeartbeats 4000000 in
set_option maxRecDepth 100000 in
theorem c_M_takes (l : Launch) (dC : Nat → ClassId) (dI : Nat → Nat → Nat) (h0 a1 a2 a3 a4 a5 : Nat) (cI cZ : ClassId) (cd : Int32) (tx pt qt ar nr : Nat → Int32) (tn pn : Nat) (hp : pn ≤ 200) (a : Nat) (ha : a < pn) (o : Option Nat) (ho : ∀ k, o = some k → fm pt qt pn a ≤ k ∧ k < pn) (ch : Int32) : Met l y_M_takes (.code y_M_takes b_M_takes 5 (some .boolean) :: wB) (Rm 2 48) (va_Pc [.ref h0, .int (nI a), .int (oI o), .int ch] (fun U => va_P (dC, dI) classes (wM h0 a1 a2 a3 a4 a5 cI cZ cd tx pt qt ar nr tn pn) U.heap ∧ va_K (dC, dI) classes (tyIZ cI cZ) U)) (vp_Si (fun r => r = bI (ft pt qt pn a o ch))) 0 0 (fun _ => False) := by
  refine Met.ofW (cc := b_M_takes) (maxL := 5) (ret := (some .boolean)) (by decide) rfl ?_
  intro p e s mm args below meth c s₁ B hml hv
  obtain ⟨rfl, hP, hK⟩ := hv
  have hx := B.exec
  have hb := B.bytes
  have hr := B.returns
  have hts := atoms_spec (ws := (.code y_M_takes b_M_takes 5 (some .boolean) :: wB)) B.pre
  have htB : ∀ w ∈ wB, w.before _ s = true := fun w h => hts w (List.mem_cons_of_mem _ h)
  have hown : s.vm.findClass R_M = some mm.cls := findClass_of_methodNamed B.named
  have hlocks := B.notSynchronized
  have hl := lv_entry ([.ref h0, .int (nI a), .int (oI o), .int ch]) (n := 5) (Nat.le_of_ble_eq_true rfl)
  rw [lg_entry_eq]
  generalize (lg_sl ([.ref h0, .int (nI a), .int (oI o), .int ch]) ++ List.replicate (5 - (lg_sl ([.ref h0, .int (nI a), .int (oI o), .int ch])).length) Slot.unset).toArray = ls at hl ⊢
  have hl : lv_has ls 5 [(0, .ref h0), (1, .int (nI a)), (2, .int (oI o)), (3, .int ch)] := hl
  refine lv_iload_n hx hb d_M_takes_0 rfl (lv_at hl 2 rfl) ?_
  refine lv_iconst (v := -1) hx hb d_M_takes_1 (by decide) ?_
  refine lv_icmp_eq (tgt := 47) hx hb d_M_takes_2 (by decide) (fun c_1 => ?_) (fun c_1 => ?_)
  · obtain rfl : o = none := (oI_m1 (fun k q => by have := ho k q; omega)).mp c_1
    refine lv_aload_n hx hb d_M_takes_47 rfl (lv_at hl 0 rfl) ?_
    refine lv_iload_n hx hb d_M_takes_48 rfl (lv_at hl 1 rfl) ?_
    refine lv_bipush (v := nI 63) hx hb d_M_takes_49 (by decide) ?_
    refine r_M_is hp (by omega) hx hb hml hown htB hK hP hl.1 (Nat.le_of_ble_eq_true rfl) ⟨Nat.le_of_ble_eq_true rfl, Nat.le_of_ble_eq_true rfl⟩ ⟨Nat.zero_le _, Nat.zero_le _⟩ d_M_takes_51 ?_
    refine lv_if_ne (tgt := 67) hx hb d_M_takes_54 (by decide) (fun c_2 => ?_) (fun c_2 => ?_)
    · have c_2 := bI_nz.mp c_2
      refine lv_iconst (v := nI 1) hx hb d_M_takes_67 (by decide) ?_
      refine lv_goto (tgt := 72) hx hb d_M_takes_68 (by decide) ?_
      exact W.zret (v := nI 1) hx hb hr (by rfl) (fun t ht hW => ⟨_, rfl, by simp only [ft]; first | (rw [‹iu pt qt pn a (nI 63) = true›]; rfl) | (rw [decide_eq_true ‹_›, Bool.or_true]; rfl) | (rw [‹iu pt qt pn a (nI 63) = false›, decide_eq_false ‹_›]; rfl), ht⟩) (fun q h => nomatch h) d_M_takes_72
    · have c_2 := bI_z.mp c_2
      refine lv_aload_n hx hb d_M_takes_57 rfl (lv_at hl 0 rfl) ?_
      refine va_get (D := (dC, dI)) (ci := 1) (v := .ref a2) (C := R_M) (T := F_M) (N := 8) hx hb htB in_M hown hK hP 0 rfl rfl 2 (by decide) (htB _ hfl_M_13) (fun _ h9 => h9) rfl d_M_takes_58 ?_
      refine lv_iload_n hx hb d_M_takes_61 rfl (lv_at hl 1 rfl) ?_
      refine va_iald hx hb hK hP 2 0 rfl rfl (vp_in_nI (n := a) (by omega) (by decide)) d_M_takes_62 ?_
      refine lv_topi (fun v_3 ev_3 => ?_)
      obtain rfl : v_3 = pt a := ev_3.trans (by rw [nI_clamp (n := a) (by omega)])
      refine lv_iload_n hx hb d_M_takes_63 rfl (lv_at hl 3 rfl) ?_
      refine lv_icmp_ne (tgt := 71) hx hb d_M_takes_64 (by decide) (fun c_4 => ?_) (fun c_4 => ?_)
      · refine lv_iconst (v := nI 0) hx hb d_M_takes_71 (by decide) ?_
        exact W.zret (v := nI 0) hx hb hr (by rfl) (fun t ht hW => ⟨_, rfl, by simp only [ft]; first | (rw [‹iu pt qt pn a (nI 63) = true›]; rfl) | (rw [decide_eq_true ‹_›, Bool.or_true]; rfl) | (rw [‹iu pt qt pn a (nI 63) = false›, decide_eq_false ‹_›]; rfl), ht⟩) (fun q h => nomatch h) d_M_takes_72
      · refine lv_iconst (v := nI 1) hx hb d_M_takes_67 (by decide) ?_
        refine lv_goto (tgt := 72) hx hb d_M_takes_68 (by decide) ?_
        exact W.zret (v := nI 1) hx hb hr (by rfl) (fun t ht hW => ⟨_, rfl, by simp only [ft]; first | (rw [‹iu pt qt pn a (nI 63) = true›]; rfl) | (rw [decide_eq_true ‹_›, Bool.or_true]; rfl) | (rw [‹iu pt qt pn a (nI 63) = false›, decide_eq_false ‹_›]; rfl), ht⟩) (fun q h => nomatch h) d_M_takes_72
  · obtain ⟨k, rfl⟩ : ∃ k, o = some k := by
      cases o with
      | none => exact absurd rfl c_1
      | some k => exact ⟨k, rfl⟩
    have hk := ho k rfl
    have hfl := fm_le pt qt pn a
    have hl : lv_has ls 5 [(0, .ref h0), (1, .int (nI a)), (2, .int (nI k)), (3, .int ch)] := hl
    refine lv_aload_n hx hb d_M_takes_5 rfl (lv_at hl 0 rfl) ?_
    refine lv_iload_n hx hb d_M_takes_6 rfl (lv_at hl 1 rfl) ?_
    refine lv_iconst (v := nI 1) hx hb d_M_takes_7 (by decide) ?_
    refine lv_iadd hx hb d_M_takes_8 ?_
    refine lv_topi (fun v_5 ev_5 => ?_)
    obtain rfl : v_5 = nI (a + 1) := ev_5.trans (nI_add _ _)
    refine lv_bipush (v := nI 33) hx hb d_M_takes_9 (by decide) ?_
    refine r_M_is hp (by omega) hx hb hml hown htB hK hP hl.1 (Nat.le_of_ble_eq_true rfl) ⟨Nat.le_of_ble_eq_true rfl, Nat.le_of_ble_eq_true rfl⟩ ⟨Nat.zero_le _, Nat.zero_le _⟩ d_M_takes_11 ?_
    refine lv_istore (lv' := [(4, .int (bI (iu pt qt pn (a + 1) (nI 33)))), (0, .ref h0), (1, .int (nI a)), (2, .int (nI k)), (3, .int ch)]) hx hb d_M_takes_14 hl (by decide) rfl (fun ls hl => ?_)
    refine lv_aload_n hx hb d_M_takes_16 rfl (lv_at hl 1 rfl) ?_
    refine lv_iload hx hb d_M_takes_17 (lv_at hl 0 rfl) ?_
    refine lv_if_eq (tgt := 28) hx hb d_M_takes_19 (by decide) (fun c_6 => ?_) (fun c_6 => ?_)
    · have c_6 := bI_z.mp c_6
      refine lv_iload_n hx hb d_M_takes_28 rfl (lv_at hl 2 rfl) ?_
      refine lv_iconst (v := nI 1) hx hb d_M_takes_29 (by decide) ?_
      refine lv_iadd hx hb d_M_takes_30 ?_
      refine lv_topi (fun v_7 ev_7 => ?_)
      obtain rfl : v_7 = nI (a + 1) := ev_7.trans (nI_add _ _)
      refine lv_iload_n hx hb d_M_takes_31 rfl (lv_at hl 3 rfl) ?_
      refine lv_iload_n hx hb d_M_takes_32 rfl (lv_at hl 4 rfl) ?_
      refine r_M_isMember hp (by omega) (by omega) hx hb hml hown htB hK hP hl.1 (Nat.le_of_ble_eq_true rfl) ⟨Nat.le_of_ble_eq_true rfl, Nat.le_of_ble_eq_true rfl⟩ ⟨Nat.zero_le _, Nat.zero_le _⟩ d_M_takes_33 ?_
      refine lv_iload hx hb d_M_takes_36 (lv_at hl 0 rfl) ?_
      refine lv_icmp_eq (tgt := 45) hx hb d_M_takes_38 (by decide) (fun c_8 => ?_) (fun c_8 => ?_)
      · refine lv_iconst (v := nI 0) hx hb d_M_takes_45 (by decide) ?_
        exact W.zret (v := nI 0) hx hb hr (by rfl) (fun t ht hW => ⟨_, rfl, by simp only [ft, fm]; (first | rw [if_pos ‹iu pt qt pn (a + 1) (nI 33) = true›] | rw [if_neg (show ¬ iu pt qt pn (a + 1) (nI 33) = true by rw [‹iu pt qt pn (a + 1) (nI 33) = false›]; decide)]); (first | exact bne_e ‹_› | exact bne_n ‹_›), ht⟩) (fun q h => nomatch h) d_M_takes_46
      · refine lv_iconst (v := nI 1) hx hb d_M_takes_41 (by decide) ?_
        refine lv_goto (tgt := 46) hx hb d_M_takes_42 (by decide) ?_
        exact W.zret (v := nI 1) hx hb hr (by rfl) (fun t ht hW => ⟨_, rfl, by simp only [ft, fm]; (first | rw [if_pos ‹iu pt qt pn (a + 1) (nI 33) = true›] | rw [if_neg (show ¬ iu pt qt pn (a + 1) (nI 33) = true by rw [‹iu pt qt pn (a + 1) (nI 33) = false›]; decide)]); (first | exact bne_e ‹_› | exact bne_n ‹_›), ht⟩) (fun q h => nomatch h) d_M_takes_46
    · have c_6 := bI_nz.mp c_6
      refine lv_iload_n hx hb d_M_takes_22 rfl (lv_at hl 2 rfl) ?_
      refine lv_iconst (v := nI 2) hx hb d_M_takes_23 (by decide) ?_
      refine lv_iadd hx hb d_M_takes_24 ?_
      refine lv_topi (fun v_9 ev_9 => ?_)
      obtain rfl : v_9 = nI (a + 2) := ev_9.trans (nI_add _ _)
      refine lv_goto (tgt := 31) hx hb d_M_takes_25 (by decide) ?_
      refine lv_iload_n hx hb d_M_takes_31 rfl (lv_at hl 3 rfl) ?_
      refine lv_iload_n hx hb d_M_takes_32 rfl (lv_at hl 4 rfl) ?_
      refine r_M_isMember hp (by omega) (by omega) hx hb hml hown htB hK hP hl.1 (Nat.le_of_ble_eq_true rfl) ⟨Nat.le_of_ble_eq_true rfl, Nat.le_of_ble_eq_true rfl⟩ ⟨Nat.zero_le _, Nat.zero_le _⟩ d_M_takes_33 ?_
      refine lv_iload hx hb d_M_takes_36 (lv_at hl 0 rfl) ?_
      refine lv_icmp_eq (tgt := 45) hx hb d_M_takes_38 (by decide) (fun c_10 => ?_) (fun c_10 => ?_)
      · refine lv_iconst (v := nI 0) hx hb d_M_takes_45 (by decide) ?_
        exact W.zret (v := nI 0) hx hb hr (by rfl) (fun t ht hW => ⟨_, rfl, by simp only [ft, fm]; (first | rw [if_pos ‹iu pt qt pn (a + 1) (nI 33) = true›] | rw [if_neg (show ¬ iu pt qt pn (a + 1) (nI 33) = true by rw [‹iu pt qt pn (a + 1) (nI 33) = false›]; decide)]); (first | exact bne_e ‹_› | exact bne_n ‹_›), ht⟩) (fun q h => nomatch h) d_M_takes_46
      · refine lv_iconst (v := nI 1) hx hb d_M_takes_41 (by decide) ?_
        refine lv_goto (tgt := 46) hx hb d_M_takes_42 (by decide) ?_
        exact W.zret (v := nI 1) hx hb hr (by rfl) (fun t ht hW => ⟨_, rfl, by simp only [ft, fm]; (first | rw [if_pos ‹iu pt qt pn (a + 1) (nI 33) = true›] | rw [if_neg (show ¬ iu pt qt pn (a + 1) (nI 33) = true by rw [‹iu pt qt pn (a + 1) (nI 33) = false›]; decide)]); (first | exact bne_e ‹_› | exact bne_n ‹_›), ht⟩) (fun q h => nomatch h) d_M_takes_46

theorem r_M_takes {p : Program} {l : Launch} {e : Env} {R : Room} {s : State} {mm : MethodId} {args : Array Value} {below : List Frame} {meth : Method} {c : Code} {H : Heap} {locs : List Loc} {cells slots : Nat} {Q : State → Prop} {cc : ByteArray} {pcn nL : Nat} {ls : Array Slot} {rest : List Value} {dC : Nat → ClassId} {dI : Nat → Nat → Nat} {h0 a1 a2 a3 a4 a5 : Nat} {cI cZ : ClassId} {cd : Int32} {tx pt qt ar nr : Nat → Int32} {tn pn : Nat} (hp : pn ≤ 200) {a : Nat} (ha : a < pn) {o : Option Nat} (ho : ∀ k, o = some k → fm pt qt pn a ≤ k ∧ k < pn) {ch : Int32} (hx : p.tables.exec = Jvm.exec) (hb : c.code = cc) (hml : c.maxLocals = nL) (hown : s.vm.findClass R_M = some mm.cls) (htB : ∀ w ∈ wB, w.before args s = true) (hK : va_K (dC, dI) classes (tyIZ cI cZ) s) (hP : va_P (dC, dI) classes (wM h0 a1 a2 a3 a4 a5 cI cZ cd tx pt qt ar nr tn pn) H) (hls : ls.size = nL) (hre : (rest.map fun v => v.category).sum ≤ 8) (hR : 2 + 1 ≤ R.frames ∧ 8 + (5 + 11) + 48 ≤ R.locals) (hce : cells ≤ R.cells ∧ slots ≤ R.slots) (hd : decode cc pcn = .ok (.invokevirtual 50, 3)) (kk : W p l e R s mm args below meth c H locs cells slots Q (F0 mm (pcn + 3) ls (.int (bI (ft pt qt pn a o ch)) :: rest))) : W p l e R s mm args below meth c H locs cells slots Q (F0 mm pcn ls (.int ch :: .int (oI o) :: .int (nI a) :: .ref h0 :: rest)) := by
  refine vp_callSi (va_Run.run (va_runV (As := [.int (nI a), .int (oI o), .int ch]) (rest := rest) ⟨hx, hb, hml, hown, htB⟩ (c_M_takes l dC dI h0 a1 a2 a3 a4 a5 cI cZ cd tx pt qt ar nr tn pn hp a ha o ho ch) (cwV 3 htB (gV hml_M_50 hinm_M_takes hsel_M_takes hini_M hco_M_takes) rfl rfl rfl (by decide +kernel) hR) ⟨fun a U g mk q => by obtain ⟨q0, qP, qK⟩ := q; exact ⟨q0, qP, va_K.moved (u := U) (U := U.calling g mk a) (Vm.Alike.refl U.vm) qK⟩, va_recv hK hP (ci := 1) (q0 := 0) rfl rfl, fun U hU hW => ⟨rfl, by rw [hU]; exact hP, va_K.moved hW.alike hK⟩⟩ rfl rfl hls rfl (lv_room hre) hd ⟨hce.1, hce.2⟩)) (fun r hr => ?_)
  rw [hr]; exact kk

set_option maxHeartbeats 4000000 in
set_option maxRecDepth 100000 in
theorem c_M_thrown (l : Launch) (dC : Nat → ClassId) (dI : Nat → Nat → Nat) (h0 a1 a2 a3 a4 a5 : Nat) (cI cZ : ClassId) (cd : Int32) (tx pt qt ar nr : Nat → Int32) (tn pn : Nat)  : Met l y_M_thrown (.code y_M_thrown b_M_thrown 1 (some .int) :: wB) (Rm 0 0) (va_Pc [.ref h0] (fun U => va_P (dC, dI) classes (wM h0 a1 a2 a3 a4 a5 cI cZ cd tx pt qt ar nr tn pn) U.heap ∧ va_K (dC, dI) classes (tyIZ cI cZ) U)) (vp_Si (fun r => r = cd)) 0 0 (fun _ => False) := by
  refine Met.ofW (cc := b_M_thrown) (maxL := 1) (ret := (some .int)) (by decide) rfl ?_
  intro p e s mm args below meth c s₁ B hml hv
  obtain ⟨rfl, hP, hK⟩ := hv
  have hx := B.exec
  have hb := B.bytes
  have hr := B.returns
  have hts := atoms_spec (ws := (.code y_M_thrown b_M_thrown 1 (some .int) :: wB)) B.pre
  have htB : ∀ w ∈ wB, w.before _ s = true := fun w h => hts w (List.mem_cons_of_mem _ h)
  have hown : s.vm.findClass R_M = some mm.cls := findClass_of_methodNamed B.named
  have hlocks := B.notSynchronized
  have hl := lv_entry ([.ref h0]) (n := 1) (Nat.le_of_ble_eq_true rfl)
  rw [lg_entry_eq]
  generalize (lg_sl ([.ref h0]) ++ List.replicate (1 - (lg_sl ([.ref h0])).length) Slot.unset).toArray = ls at hl ⊢
  have hl : lv_has ls 1 [(0, .ref h0)] := hl
  refine lv_aload_n hx hb d_M_thrown_0 rfl (lv_at hl 0 rfl) ?_
  refine va_get (D := (dC, dI)) (ci := 1) (v := .int cd) (C := R_M) (T := F_M) (N := 8) hx hb htB in_M hown hK hP 0 rfl rfl 0 (by decide) (htB _ hfl_M_26) (fun _ h9 => h9) rfl d_M_thrown_1 ?_
  exact W.iret (v := cd) hx hb hr (fun t ht hW => ⟨_, rfl, rfl, ht⟩) (fun q h => nomatch h) d_M_thrown_4

