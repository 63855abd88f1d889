/-! the class: methods that only read: by wip/whole/gen/gen06.py -/
set_option maxHeartbeats 4000000 in
set_option maxRecDepth 100000 in
theorem c_X_isUnquoted (l : Launch) (dC : Nat → ClassId) (dI : Nat → Nat → Nat) (h0 a1 a2 a3 a4 : Nat) (cI cZ : ClassId) (tx pt qt sr : Nat → Int32) (tn pn : Nat) (hp : pn ≤ 200) (a : Nat) (ha : a ≤ 1000) (ch : Int32) : Met l y_X_isUnquoted (.code y_X_isUnquoted b_X_isUnquoted 3 (some .boolean) :: wB) (Rm 0 0) (va_Pc [.ref h0, .int (nI a), .int ch] (fun U => va_P (dC, dI) classes (wX h0 a1 a2 a3 a4 cI cZ tx pt qt sr tn pn) U.heap ∧ va_K (dC, dI) classes (tyIZ cI cZ) U)) (vp_Si (fun r => r = bI (iu pt qt pn a ch))) 0 0 (fun _ => False) := by
  refine Met.ofW (cc := b_X_isUnquoted) (maxL := 3) (ret := (some .boolean)) (by decide) rfl ?_
  intro p e s mm args below meth c s₁ B hml hv
  obtain ⟨rfl, hP, hK⟩ := hv
  have hx := B.exec
  have hb := B.bytes
  have hr := B.returns
  have hts := atoms_spec (ws := (.code y_X_isUnquoted b_X_isUnquoted 3 (some .boolean) :: wB)) B.pre
  have htB : ∀ w ∈ wB, w.before _ s = true := fun w h => hts w (List.mem_cons_of_mem _ h)
  have hown : s.vm.findClass R_X = some mm.cls := findClass_of_methodNamed B.named
  have hlocks := B.notSynchronized
  have hl := lv_entry ([.ref h0, .int (nI a), .int ch]) (n := 3) (Nat.le_of_ble_eq_true rfl)
  rw [lg_entry_eq]
  generalize (lg_sl ([.ref h0, .int (nI a), .int ch]) ++ List.replicate (3 - (lg_sl ([.ref h0, .int (nI a), .int ch])).length) Slot.unset).toArray = ls at hl ⊢
  have hl : lv_has ls 3 [(0, .ref h0), (1, .int (nI a)), (2, .int ch)] := hl
  refine lv_iload_n hx hb d_X_isUnquoted_0 rfl (lv_at hl 1 rfl) ?_
  refine lv_if_lt (tgt := 35) hx hb d_X_isUnquoted_1 (by decide) (fun c_1 => ?_) (fun c_1 => ?_)
  · exact absurd c_1 (nI_pos (by omega))
  · clear c_1
    refine lv_iload_n hx hb d_X_isUnquoted_4 rfl (lv_at hl 1 rfl) ?_
    refine lv_aload_n hx hb d_X_isUnquoted_5 rfl (lv_at hl 0 rfl) ?_
    refine va_get (D := (dC, dI)) (ci := 0) (v := .int (nI pn)) (C := R_X) (T := F_X) (N := 6) hx hb htB in_X hown hK hP 0 rfl rfl 4 (by decide) (htB _ hfl_X_24) (fun _ h9 => h9) rfl d_X_isUnquoted_6 ?_
    refine lv_icmp_ge (tgt := 35) hx hb d_X_isUnquoted_9 (by decide) (fun c_2 => ?_) (fun c_2 => ?_)
    · have c_2 := (nI_leI (by omega) (by omega)).mp c_2
      refine lv_iconst (v := nI 0) hx hb d_X_isUnquoted_35 (by decide) ?_
      exact W.zret (v := nI 0) hx hb hr (by rfl) (fun t ht hW => ⟨_, rfl, by first | (rw [iu_t (by omega) ‹_› ‹_›]; rfl) | (rw [iu_n (by omega)]; rfl) | (rw [iu_q ‹_›]; rfl) | (rw [iu_c ‹_›]; rfl), ht⟩) (fun q h => nomatch h) d_X_isUnquoted_36
    · have c_2 := mt (nI_leI (by omega) (by omega)).mpr c_2
      refine lv_aload_n hx hb d_X_isUnquoted_12 rfl (lv_at hl 0 rfl) ?_
      refine va_get (D := (dC, dI)) (ci := 0) (v := .ref a3) (C := R_X) (T := F_X) (N := 6) hx hb htB in_X hown hK hP 0 rfl rfl 3 (by decide) (htB _ hfl_X_20) (fun _ h9 => h9) rfl d_X_isUnquoted_13 ?_
      refine lv_iload_n hx hb d_X_isUnquoted_16 rfl (lv_at hl 1 rfl) ?_
      refine va_zald hx hb hK hP 3 1 rfl rfl (vp_in_nI (n := a) (by omega) (by decide)) d_X_isUnquoted_17 ?_
      refine lv_topi (fun v_3 ev_3 => ?_)
      obtain rfl : v_3 = qt a := ev_3.trans (by rw [nI_clamp (n := a) (by omega)])
      refine lv_if_ne (tgt := 35) hx hb d_X_isUnquoted_18 (by decide) (fun c_4 => ?_) (fun c_4 => ?_)
      · refine lv_iconst (v := nI 0) hx hb d_X_isUnquoted_35 (by decide) ?_
        exact W.zret (v := nI 0) hx hb hr (by rfl) (fun t ht hW => ⟨_, rfl, by first | (rw [iu_t (by omega) ‹_› ‹_›]; rfl) | (rw [iu_n (by omega)]; rfl) | (rw [iu_q ‹_›]; rfl) | (rw [iu_c ‹_›]; rfl), ht⟩) (fun q h => nomatch h) d_X_isUnquoted_36
      · refine lv_aload_n hx hb d_X_isUnquoted_21 rfl (lv_at hl 0 rfl) ?_
        refine va_get (D := (dC, dI)) (ci := 0) (v := .ref a2) (C := R_X) (T := F_X) (N := 6) hx hb htB in_X hown hK hP 0 rfl rfl 2 (by decide) (htB _ hfl_X_17) (fun _ h9 => h9) rfl d_X_isUnquoted_22 ?_
        refine lv_iload_n hx hb d_X_isUnquoted_25 rfl (lv_at hl 1 rfl) ?_
        refine va_iald hx hb hK hP 2 0 rfl rfl (vp_in_nI (n := a) (by omega) (by decide)) d_X_isUnquoted_26 ?_
        refine lv_topi (fun v_5 ev_5 => ?_)
        obtain rfl : v_5 = pt a := ev_5.trans (by rw [nI_clamp (n := a) (by omega)])
        refine lv_iload_n hx hb d_X_isUnquoted_27 rfl (lv_at hl 2 rfl) ?_
        refine lv_icmp_ne (tgt := 35) hx hb d_X_isUnquoted_28 (by decide) (fun c_6 => ?_) (fun c_6 => ?_)
        · refine lv_iconst (v := nI 0) hx hb d_X_isUnquoted_35 (by decide) ?_
          exact W.zret (v := nI 0) hx hb hr (by rfl) (fun t ht hW => ⟨_, rfl, by first | (rw [iu_t (by omega) ‹_› ‹_›]; rfl) | (rw [iu_n (by omega)]; rfl) | (rw [iu_q ‹_›]; rfl) | (rw [iu_c ‹_›]; rfl), ht⟩) (fun q h => nomatch h) d_X_isUnquoted_36
        · refine lv_iconst (v := nI 1) hx hb d_X_isUnquoted_31 (by decide) ?_
          refine lv_goto (tgt := 36) hx hb d_X_isUnquoted_32 (by decide) ?_
          exact W.zret (v := nI 1) hx hb hr (by rfl) (fun t ht hW => ⟨_, rfl, by first | (rw [iu_t (by omega) ‹_› ‹_›]; rfl) | (rw [iu_n (by omega)]; rfl) | (rw [iu_q ‹_›]; rfl) | (rw [iu_c ‹_›]; rfl), ht⟩) (fun q h => nomatch h) d_X_isUnquoted_36

theorem r_X_isUnquoted {p : Program} {l : Launch} {e : Env} {R : Room} {s : State} {mm : MethodId} {args : Array Value} {below : List Frame} {meth : Method} {c : Code} {H : Heap} {locs : List Loc} {cells slots : Nat} {Q : State → Prop} {cc : ByteArray} {pcn nL : Nat} {ls : Array Slot} {rest : List Value} {dC : Nat → ClassId} {dI : Nat → Nat → Nat} {h0 a1 a2 a3 a4 : Nat} {cI cZ : ClassId} {tx pt qt sr : Nat → Int32} {tn pn : Nat} (hp : pn ≤ 200) {a : Nat} (ha : a ≤ 1000) {ch : Int32} (hx : p.tables.exec = Jvm.exec) (hb : c.code = cc) (hml : c.maxLocals = nL) (hown : s.vm.findClass R_X = some mm.cls) (htB : ∀ w ∈ wB, w.before args s = true) (hK : va_K (dC, dI) classes (tyIZ cI cZ) s) (hP : va_P (dC, dI) classes (wX h0 a1 a2 a3 a4 cI cZ tx pt qt sr tn pn) H) (hls : ls.size = nL) (hre : (rest.map fun v => v.category).sum ≤ 8) (hR : 0 + 1 ≤ R.frames ∧ 8 + (3 + 11) + 0 ≤ R.locals) (hce : cells ≤ R.cells ∧ slots ≤ R.slots) (hd : decode cc pcn = .ok (.invokevirtual 56, 3)) (kk : W p l e R s mm args below meth c H locs cells slots Q (F0 mm (pcn + 3) ls (.int (bI (iu pt qt pn a ch)) :: rest))) : W p l e R s mm args below meth c H locs cells slots Q (F0 mm pcn ls (.int ch :: .int (nI a) :: .ref h0 :: rest)) := by
  refine vp_callSi (va_Run.run (va_runV (As := [.int (nI a), .int ch]) (rest := rest) ⟨hx, hb, hml, hown, htB⟩ (c_X_isUnquoted l dC dI h0 a1 a2 a3 a4 cI cZ tx pt qt sr tn pn hp a ha ch) (cwV 2 htB (gV hml_X_56 hinm_X_isUnquoted hsel_X_isUnquoted hini_X hco_X_isUnquoted) rfl rfl rfl (by decide +kernel) hR) ⟨fun a U g mk q => by obtain ⟨q0, qP, qK⟩ := q; exact ⟨q0, qP, va_K.moved (u := U) (U := U.calling g mk a) (Vm.Alike.refl U.vm) qK⟩, va_recv hK hP (ci := 0) (q0 := 0) rfl rfl, fun U hU hW => ⟨rfl, by rw [hU]; exact hP, va_K.moved hW.alike hK⟩⟩ rfl rfl hls rfl (lv_room hre) hd ⟨hce.1, hce.2⟩)) (fun r hr => ?_)
  rw [hr]; exact kk

set_option maxHeartbeats 4000000 in
set_option maxRecDepth 100000 in
theorem c_X_firstMember (l : Launch) (dC : Nat → ClassId) (dI : Nat → Nat → Nat) (h0 a1 a2 a3 a4 : Nat) (cI cZ : ClassId) (tx pt qt sr : Nat → Int32) (tn pn : Nat) (hp : pn ≤ 200) (a : Nat) (ha : a ≤ 500) : Met l y_X_firstMember (.code y_X_firstMember b_X_firstMember 2 (some .int) :: wB) (Rm 1 22) (va_Pc [.ref h0, .int (nI a)] (fun U => va_P (dC, dI) classes (wX h0 a1 a2 a3 a4 cI cZ tx pt qt sr tn pn) U.heap ∧ va_K (dC, dI) classes (tyIZ cI cZ) U)) (vp_Si (fun r => r = nI (fm pt qt pn a))) 0 0 (fun _ => False) := by
  refine Met.ofW (cc := b_X_firstMember) (maxL := 2) (ret := (some .int)) (by decide) rfl ?_
  intro p e s mm args below meth c s₁ B hml hv
  obtain ⟨rfl, hP, hK⟩ := hv
  have hx := B.exec
  have hb := B.bytes
  have hr := B.returns
  have hts := atoms_spec (ws := (.code y_X_firstMember b_X_firstMember 2 (some .int) :: wB)) B.pre
  have htB : ∀ w ∈ wB, w.before _ s = true := fun w h => hts w (List.mem_cons_of_mem _ h)
  have hown : s.vm.findClass R_X = some mm.cls := findClass_of_methodNamed B.named
  have hlocks := B.notSynchronized
  have hl := lv_entry ([.ref h0, .int (nI a)]) (n := 2) (Nat.le_of_ble_eq_true rfl)
  rw [lg_entry_eq]
  generalize (lg_sl ([.ref h0, .int (nI a)]) ++ List.replicate (2 - (lg_sl ([.ref h0, .int (nI a)])).length) Slot.unset).toArray = ls at hl ⊢
  have hl : lv_has ls 2 [(0, .ref h0), (1, .int (nI a))] := hl
  refine lv_aload_n hx hb d_X_firstMember_0 rfl (lv_at hl 0 rfl) ?_
  refine lv_iload_n hx hb d_X_firstMember_1 rfl (lv_at hl 1 rfl) ?_
  refine lv_iconst (v := nI 1) hx hb d_X_firstMember_2 (by decide) ?_
  refine lv_iadd hx hb d_X_firstMember_3 ?_
  refine lv_topi (fun v_1 ev_1 => ?_)
  obtain rfl : v_1 = nI (a + 1) := ev_1.trans (nI_add _ _)
  refine lv_bipush (v := nI 33) hx hb d_X_firstMember_4 (by decide) ?_
  refine r_X_isUnquoted hp (by omega) hx hb hml hown htB hK hP hl.1 (Nat.le_of_ble_eq_true rfl) ⟨Nat.le_of_ble_eq_true rfl, Nat.le_of_ble_eq_true rfl⟩ ⟨Nat.zero_le _, Nat.zero_le _⟩ d_X_firstMember_6 ?_
  refine lv_if_eq (tgt := 18) hx hb d_X_firstMember_9 (by decide) (fun c_2 => ?_) (fun c_2 => ?_)
  · have c_2 := bI_z.mp c_2
    refine lv_iload_n hx hb d_X_firstMember_18 rfl (lv_at hl 1 rfl) ?_
    refine lv_iconst (v := nI 1) hx hb d_X_firstMember_19 (by decide) ?_
    refine lv_iadd hx hb d_X_firstMember_20 ?_
    refine lv_topi (fun v_3 ev_3 => ?_)
    obtain rfl : v_3 = nI (a + 1) := ev_3.trans (nI_add _ _)
    exact W.iret (v := nI (a + 1)) hx hb hr (fun t ht hW => ⟨_, rfl, by unfold fm; first | rw [if_pos ‹_›] | rw [if_neg (by rw [‹iu pt qt pn (a + 1) (nI 33) = false›]; decide)], ht⟩) (fun q h => nomatch h) d_X_firstMember_21
  · have c_2 := bI_nz.mp c_2
    refine lv_iload_n hx hb d_X_firstMember_12 rfl (lv_at hl 1 rfl) ?_
    refine lv_iconst (v := nI 2) hx hb d_X_firstMember_13 (by decide) ?_
    refine lv_iadd hx hb d_X_firstMember_14 ?_
    refine lv_topi (fun v_4 ev_4 => ?_)
    obtain rfl : v_4 = nI (a + 2) := ev_4.trans (nI_add _ _)
    refine lv_goto (tgt := 21) hx hb d_X_firstMember_15 (by decide) ?_
    exact W.iret (v := nI (a + 2)) hx hb hr (fun t ht hW => ⟨_, rfl, by unfold fm; first | rw [if_pos ‹_›] | rw [if_neg (by rw [‹iu pt qt pn (a + 1) (nI 33) = false›]; decide)], ht⟩) (fun q h => nomatch h) d_X_firstMember_21

theorem r_X_firstMember {p : Program} {l : Launch} {e : Env} {R : Room} {s : State} {mm : MethodId} {args : Array Value} {below : List Frame} {meth : Method} {c : Code} {H : Heap} {locs : List Loc} {cells slots : Nat} {Q : State → Prop} {cc : ByteArray} {pcn nL : Nat} {ls : Array Slot} {rest : List Value} {dC : Nat → ClassId} {dI : Nat → Nat → Nat} {h0 a1 a2 a3 a4 : Nat} {cI cZ : ClassId} {tx pt qt sr : Nat → Int32} {tn pn : Nat} (hp : pn ≤ 200) {a : Nat} (ha : a ≤ 500) (hx : p.tables.exec = Jvm.exec) (hb : c.code = cc) (hml : c.maxLocals = nL) (hown : s.vm.findClass R_X = some mm.cls) (htB : ∀ w ∈ wB, w.before args s = true) (hK : va_K (dC, dI) classes (tyIZ cI cZ) s) (hP : va_P (dC, dI) classes (wX h0 a1 a2 a3 a4 cI cZ tx pt qt sr tn pn) H) (hls : ls.size = nL) (hre : (rest.map fun v => v.category).sum ≤ 8) (hR : 1 + 1 ≤ R.frames ∧ 8 + (2 + 11) + 22 ≤ R.locals) (hce : cells ≤ R.cells ∧ slots ≤ R.slots) (hd : decode cc pcn = .ok (.invokevirtual 107, 3)) (kk : W p l e R s mm args below meth c H locs cells slots Q (F0 mm (pcn + 3) ls (.int (nI (fm pt qt pn a)) :: rest))) : W p l e R s mm args below meth c H locs cells slots Q (F0 mm pcn ls (.int (nI a) :: .ref h0 :: rest)) := by
  refine vp_callSi (va_Run.run (va_runV (As := [.int (nI a)]) (rest := rest) ⟨hx, hb, hml, hown, htB⟩ (c_X_firstMember l dC dI h0 a1 a2 a3 a4 cI cZ tx pt qt sr tn pn hp a ha) (cwV 1 htB (gV hml_X_107 hinm_X_firstMember hsel_X_firstMember hini_X hco_X_firstMember) rfl rfl rfl (by decide +kernel) hR) ⟨fun a U g mk q => by obtain ⟨q0, qP, qK⟩ := q; exact ⟨q0, qP, va_K.moved (u := U) (U := U.calling g mk a) (Vm.Alike.refl U.vm) qK⟩, va_recv hK hP (ci := 0) (q0 := 0) rfl rfl, fun U hU hW => ⟨rfl, by rw [hU]; exact hP, va_K.moved hW.alike hK⟩⟩ rfl rfl hls rfl (lv_room hre) hd ⟨hce.1, hce.2⟩)) (fun r hr => ?_)
  rw [hr]; exact kk

set_option maxHeartbeats 4000000 in
set_option maxRecDepth 100000 in
theorem c_X_closeOf (l : Launch) (dC : Nat → ClassId) (dI : Nat → Nat → Nat) (h0 a1 a2 a3 a4 : Nat) (cI cZ : ClassId) (tx pt qt sr : Nat → Int32) (tn pn : Nat) (hp : pn ≤ 200) (a : Nat) (ha : a ≤ 500) : Met l y_X_closeOf (.code y_X_closeOf b_X_closeOf 3 (some .int) :: wB) (Rm 2 44) (va_Pc [.ref h0, .int (nI a)] (fun U => va_P (dC, dI) classes (wX h0 a1 a2 a3 a4 cI cZ tx pt qt sr tn pn) U.heap ∧ va_K (dC, dI) classes (tyIZ cI cZ) U)) (vp_Si (fun r => r = oI (cl pt qt pn a))) 0 0 (fun _ => False) := by
  refine Met.ofW (cc := b_X_closeOf) (maxL := 3) (ret := (some .int)) (by decide) rfl ?_
  intro p e s mm args below meth c s₁ B hml hv
  obtain ⟨rfl, hP, hK⟩ := hv
  have hx := B.exec
  have hb := B.bytes
  have hr := B.returns
  have hts := atoms_spec (ws := (.code y_X_closeOf b_X_closeOf 3 (some .int) :: wB)) B.pre
  have htB : ∀ w ∈ wB, w.before _ s = true := fun w h => hts w (List.mem_cons_of_mem _ h)
  have hown : s.vm.findClass R_X = some mm.cls := findClass_of_methodNamed B.named
  have hlocks := B.notSynchronized
  have hl := lv_entry ([.ref h0, .int (nI a)]) (n := 3) (Nat.le_of_ble_eq_true rfl)
  rw [lg_entry_eq]
  generalize (lg_sl ([.ref h0, .int (nI a)]) ++ List.replicate (3 - (lg_sl ([.ref h0, .int (nI a)])).length) Slot.unset).toArray = ls at hl ⊢
  have hl : lv_has ls 3 [(0, .ref h0), (1, .int (nI a))] := hl
  have loop : ∀ (n i : Nat), i ≤ 1000 → 1000 < i + n → oI (sc pt qt pn (pn + 1 - i) i) = oI (cl pt qt pn a) → ∀ ls : Array Slot, lv_has ls 3 [(2, .int (nI i)), (0, .ref h0), (1, .int (nI a))] → W p l e (Rm 2 44) s mm [.ref h0, .int (nI a)].toArray below meth c s.heap [] 0 0 (MQ below (vp_Si (fun r => r = oI (cl pt qt pn a))) [.ref h0, .int (nI a)].toArray s 0 0 (fun _ => False)) (F0 mm 20 ls []) := by
    intro n
    induction n with
    | zero => intro i h1 h2; exact absurd h2 (by omega)
    | succ n ih =>
      intro i hi hn hE ls hl
      refine lv_iload_n hx hb d_X_closeOf_20 rfl (lv_at hl 0 rfl) ?_
      refine lv_aload_n hx hb d_X_closeOf_21 rfl (lv_at hl 1 rfl) ?_
      refine va_get (D := (dC, dI)) (ci := 0) (v := .int (nI pn)) (C := R_X) (T := F_X) (N := 6) hx hb htB in_X hown hK hP 0 rfl rfl 4 (by decide) (htB _ hfl_X_24) (fun _ h9 => h9) rfl d_X_closeOf_22 ?_
      refine lv_icmp_ge (tgt := 46) hx hb d_X_closeOf_25 (by decide) (fun c_1 => ?_) (fun c_1 => ?_)
      · have c_1 := (nI_leI (by omega) (by omega)).mp c_1
        refine lv_iconst (v := -1) hx hb d_X_closeOf_46 (by decide) ?_
        exact W.iret (v := -1) hx hb hr (fun t ht hW => ⟨_, rfl, by rw [← hE, sc_out (by omega)]; rfl, ht⟩) (fun q h => nomatch h) d_X_closeOf_47
      · have c_1 := mt (nI_leI (by omega) (by omega)).mpr c_1
        refine lv_aload_n hx hb d_X_closeOf_28 rfl (lv_at hl 1 rfl) ?_
        refine lv_iload_n hx hb d_X_closeOf_29 rfl (lv_at hl 0 rfl) ?_
        refine lv_bipush (v := nI 93) hx hb d_X_closeOf_30 (by decide) ?_
        refine r_X_isUnquoted hp (by omega) hx hb hml hown htB hK hP hl.1 (Nat.le_of_ble_eq_true rfl) ⟨Nat.le_of_ble_eq_true rfl, Nat.le_of_ble_eq_true rfl⟩ ⟨Nat.zero_le _, Nat.zero_le _⟩ d_X_closeOf_32 ?_
        refine lv_if_eq (tgt := 40) hx hb d_X_closeOf_35 (by decide) (fun c_2 => ?_) (fun c_2 => ?_)
        · have c_2 := bI_z.mp c_2
          refine lv_iinc (v := nI (i + 1)) (lv' := [(2, .int (nI (i + 1))), (0, .ref h0), (1, .int (nI a))]) hx hb d_X_closeOf_40 hl (k := 0) rfl (nI_add _ 1) (by decide) rfl (fun ls hl => ?_)
          refine lv_goto (tgt := 20) hx hb d_X_closeOf_43 (by decide) ?_
          exact ih (i + 1) (by omega) (by omega) (by rw [← sc_go (a := i) (by omega) ‹_›]; exact hE) ls hl
        · have c_2 := bI_nz.mp c_2
          refine lv_iload_n hx hb d_X_closeOf_38 rfl (lv_at hl 0 rfl) ?_
          exact W.iret (v := nI i) hx hb hr (fun t ht hW => ⟨_, rfl, by rw [← hE, sc_hit (by omega) ‹_›]; rfl, ht⟩) (fun q h => nomatch h) d_X_closeOf_39
  refine lv_aload_n hx hb d_X_closeOf_0 rfl (lv_at hl 0 rfl) ?_
  refine lv_iload_n hx hb d_X_closeOf_1 rfl (lv_at hl 1 rfl) ?_
  refine lv_bipush (v := nI 91) hx hb d_X_closeOf_2 (by decide) ?_
  refine r_X_isUnquoted hp (by omega) hx hb hml hown htB hK hP hl.1 (Nat.le_of_ble_eq_true rfl) ⟨Nat.le_of_ble_eq_true rfl, Nat.le_of_ble_eq_true rfl⟩ ⟨Nat.zero_le _, Nat.zero_le _⟩ d_X_closeOf_4 ?_
  refine lv_if_ne (tgt := 12) hx hb d_X_closeOf_7 (by decide) (fun c_1 => ?_) (fun c_1 => ?_)
  · have c_1 := bI_nz.mp c_1
    refine lv_aload_n hx hb d_X_closeOf_12 rfl (lv_at hl 0 rfl) ?_
    refine lv_iload_n hx hb d_X_closeOf_13 rfl (lv_at hl 1 rfl) ?_
    refine r_X_firstMember hp (by omega) hx hb hml hown htB hK hP hl.1 (Nat.le_of_ble_eq_true rfl) ⟨Nat.le_of_ble_eq_true rfl, Nat.le_of_ble_eq_true rfl⟩ ⟨Nat.zero_le _, Nat.zero_le _⟩ d_X_closeOf_14 ?_
    refine lv_iconst (v := nI 1) hx hb d_X_closeOf_17 (by decide) ?_
    refine lv_iadd hx hb d_X_closeOf_18 ?_
    refine lv_topi (fun v_2 ev_2 => ?_)
    obtain rfl : v_2 = nI (fm pt qt pn a + 1) := ev_2.trans (nI_add _ _)
    refine lv_istore_n (lv' := [(2, .int (nI (fm pt qt pn a + 1))), (0, .ref h0), (1, .int (nI a))]) hx hb d_X_closeOf_19 rfl hl (by decide) rfl (fun ls hl => ?_)
    have hf := fm_le pt qt pn a
    exact loop 1001 (fm pt qt pn a + 1) (by omega) (by omega) (by unfold cl; rw [if_pos ‹_›]) ls hl
  · have c_1 := bI_z.mp c_1
    refine lv_iconst (v := -1) hx hb d_X_closeOf_10 (by decide) ?_
    exact W.iret (v := -1) hx hb hr (fun t ht hW => ⟨_, rfl, by unfold cl; rw [if_neg (by rw [‹iu pt qt pn a (nI 91) = false›]; decide)]; rfl, ht⟩) (fun q h => nomatch h) d_X_closeOf_11

theorem r_X_closeOf {p : Program} {l : Launch} {e : Env} {R : Room} {s : State} {mm : MethodId} {args : Array Value} {below : List Frame} {meth : Method} {c : Code} {H : Heap} {locs : List Loc} {cells slots : Nat} {Q : State → Prop} {cc : ByteArray} {pcn nL : Nat} {ls : Array Slot} {rest : List Value} {dC : Nat → ClassId} {dI : Nat → Nat → Nat} {h0 a1 a2 a3 a4 : Nat} {cI cZ : ClassId} {tx pt qt sr : Nat → Int32} {tn pn : Nat} (hp : pn ≤ 200) {a : Nat} (ha : a ≤ 500) (hx : p.tables.exec = Jvm.exec) (hb : c.code = cc) (hml : c.maxLocals = nL) (hown : s.vm.findClass R_X = some mm.cls) (htB : ∀ w ∈ wB, w.before args s = true) (hK : va_K (dC, dI) classes (tyIZ cI cZ) s) (hP : va_P (dC, dI) classes (wX h0 a1 a2 a3 a4 cI cZ tx pt qt sr tn pn) H) (hls : ls.size = nL) (hre : (rest.map fun v => v.category).sum ≤ 8) (hR : 2 + 1 ≤ R.frames ∧ 8 + (3 + 11) + 44 ≤ R.locals) (hce : cells ≤ R.cells ∧ slots ≤ R.slots) (hd : decode cc pcn = .ok (.invokevirtual 69, 3)) (kk : W p l e R s mm args below meth c H locs cells slots Q (F0 mm (pcn + 3) ls (.int (oI (cl pt qt pn a)) :: rest))) : W p l e R s mm args below meth c H locs cells slots Q (F0 mm pcn ls (.int (nI a) :: .ref h0 :: rest)) := by
  refine vp_callSi (va_Run.run (va_runV (As := [.int (nI a)]) (rest := rest) ⟨hx, hb, hml, hown, htB⟩ (c_X_closeOf l dC dI h0 a1 a2 a3 a4 cI cZ tx pt qt sr tn pn hp a ha) (cwV 1 htB (gV hml_X_69 hinm_X_closeOf hsel_X_closeOf hini_X hco_X_closeOf) rfl rfl rfl (by decide +kernel) hR) ⟨fun a U g mk q => by obtain ⟨q0, qP, qK⟩ := q; exact ⟨q0, qP, va_K.moved (u := U) (U := U.calling g mk a) (Vm.Alike.refl U.vm) qK⟩, va_recv hK hP (ci := 0) (q0 := 0) rfl rfl, fun U hU hW => ⟨rfl, by rw [hU]; exact hP, va_K.moved hW.alike hK⟩⟩ rfl rfl hls rfl (lv_room hre) hd ⟨hce.1, hce.2⟩)) (fun r hr => ?_)
  rw [hr]; exact kk

