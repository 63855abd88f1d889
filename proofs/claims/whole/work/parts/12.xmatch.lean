/-! the class: matches, cut, count: by wip/whole/gen/gen12.py -/
set_option maxHeartbeats 4000000 in
set_option maxRecDepth 100000 in
theorem c_X_pieceMatches (l : Launch) (dC : Nat → ClassId) (dI : Nat → Nat → Nat) (h0 a1 a2 a3 a4 : Nat) (cI cZ : ClassId) (tx pt qt sr : Nat → Int32) (tn pn : Nat) (sz : Nat) (hp : pn ≤ 200) (frm too : Nat) (hft : frm ≤ too) (ht4 : too ≤ 400) : Met l y_X_pieceMatches (.code y_X_pieceMatches b_X_pieceMatches 3 (some .boolean) :: wB) (Rm 5 123) (va_Pc [.ref h0, .int (nI frm), .int (nI too)] (fun U => U.heap.size = sz ∧ va_P (dC, dI) classes (wX h0 a1 a2 a3 a4 cI cZ tx pt qt sr tn pn) U.heap ∧ va_K (dC, dI) classes (tyIZ cI cZ) U ∧ va_D (fun _ => True) (wX h0 a1 a2 a3 a4 cI cZ tx pt qt sr tn pn))) (va_Qi (fun (r : Int32) (su : Nat → Int32) => r = bI (mX tx pt qt pn frm too)) (fun (su : Nat → Int32) (t : State) => va_P (dC, dI) classes (wX h0 a1 a2 a3 a4 cI cZ tx pt qt su tn pn) t.heap ∧ va_K (dC, dI) classes (tyIZ cI cZ) t ∧ va_D (va_A (wX h0 a1 a2 a3 a4 cI cZ tx pt qt sr tn pn) sz) (wX h0 a1 a2 a3 a4 cI cZ tx pt qt su tn pn)) (va_A (wX h0 a1 a2 a3 a4 cI cZ tx pt qt sr tn pn) sz)) 0 0 (va_A (wX h0 a1 a2 a3 a4 cI cZ tx pt qt sr tn pn) sz) := by
  refine Met.ofW (cc := b_X_pieceMatches) (maxL := 3) (ret := (some .boolean)) (by decide) rfl ?_
  intro p e s mm args below meth c s₁ B hml hv
  obtain ⟨rfl, hsz, hP, hK, hD0⟩ := hv
  have hx := B.exec
  have hb := B.bytes
  have hr := B.returns
  have hts := atoms_spec (ws := (.code y_X_pieceMatches b_X_pieceMatches 3 (some .boolean) :: wB)) B.pre
  have htB : ∀ w ∈ wB, w.before _ s = true := fun w h => hts w (List.mem_cons_of_mem _ h)
  have hown : s.vm.findClass R_X = some mm.cls := findClass_of_methodNamed B.named
  have hlocks := B.notSynchronized
  subst hsz
  have hD := hD0.self (sz := s.heap.size)
  generalize hAe : va_A (wX h0 a1 a2 a3 a4 cI cZ tx pt qt sr tn pn) s.heap.size = A at hD ⊢
  have hA : ∀ q : Nat, s.heap.size ≤ q → A q := fun q h => by rw [← hAe]; exact Or.inr h
  have hS : va_S A s.heap s.heap [] := va_S.rf
  have hP : va_P (dC, dI) classes (wX h0 a1 a2 a3 a4 cI cZ tx pt qt sr tn pn) s.heap := hP
  have hl := lv_entry ([.ref h0, .int (nI frm), .int (nI too)]) (n := 3) (Nat.le_of_ble_eq_true rfl)
  rw [lg_entry_eq]
  generalize (lg_sl ([.ref h0, .int (nI frm), .int (nI too)]) ++ List.replicate (3 - (lg_sl ([.ref h0, .int (nI frm), .int (nI too)])).length) Slot.unset).toArray = ls at hl ⊢
  have hl : lv_has ls 3 [(0, .ref h0), (1, .int (nI frm)), (2, .int (nI too))] := hl
  refine lv_aload_n hx hb d_X_pieceMatches_0 rfl (lv_at hl 0 rfl) ?_
  refine lv_iload_n hx hb d_X_pieceMatches_1 rfl (lv_at hl 1 rfl) ?_
  refine lv_iload_n hx hb d_X_pieceMatches_2 rfl (lv_at hl 2 rfl) ?_
  refine r_X_startOnlyAt hft ht4 hx hb hml hown htB hK hP hD hS hA hl.1 (Nat.le_of_ble_eq_true rfl) ⟨Nat.le_of_ble_eq_true rfl, Nat.le_of_ble_eq_true rfl⟩ ⟨Nat.zero_le _, Nat.zero_le _⟩ d_X_pieceMatches_3 (fun s1 H locs hs1 hP hD hS => ?_)
  have hg1 : ∀ j, frm ≤ j → j ≤ too → s1 j = oI (gs frm j) := by
    intro j q1 q2
    unfold gs
    by_cases q : j = frm
    · subst q; rw [if_pos rfl]; exact hs1.1
    · rw [if_neg q]; exact hs1.2 j (by omega) q2
  refine lv_aload_n hx hb d_X_pieceMatches_6 rfl (lv_at hl 0 rfl) ?_
  refine lv_iload_n hx hb d_X_pieceMatches_7 rfl (lv_at hl 1 rfl) ?_
  refine lv_iload_n hx hb d_X_pieceMatches_8 rfl (lv_at hl 2 rfl) ?_
  refine lv_iconst (v := nI 0) hx hb d_X_pieceMatches_9 (by decide) ?_
  refine lv_topi (fun v_1 ev_1 => ?_)
  obtain rfl : v_1 = bI false := ev_1.trans rfl
  refine r_X_readPattern (b := false) hp hft ht4 (gs_sml (by omega)) hg1 hx hb hml hown htB hK hP hD hS hA hl.1 (Nat.le_of_ble_eq_true rfl) ⟨Nat.le_of_ble_eq_true rfl, Nat.le_of_ble_eq_true rfl⟩ ⟨Nat.zero_le _, Nat.zero_le _⟩ d_X_pieceMatches_10 (fun s2 H locs hs2 hP hD hS => ?_)
  have hm := rdp_sml (tx := tx) (pt := pt) (qt := qt) (pn := pn) (b := false) (frm := frm) (f := pn) (a := 0) (gs_sml (frm := frm) (by omega))
  refine lv_aload_n hx hb d_X_pieceMatches_13 rfl (lv_at hl 0 rfl) ?_
  refine va_get (D := (dC, dI)) (ci := 0) (v := .ref a4) (C := R_X) (T := F_X) (N := 6) hx hb htB in_X hown hK hP 0 rfl rfl 5 (by decide) (htB _ hfl_X_27) (fun _ h9 => h9) rfl d_X_pieceMatches_14 ?_
  refine lv_iload_n hx hb d_X_pieceMatches_17 rfl (lv_at hl 2 rfl) ?_
  refine va_iald hx hb hK hP 4 0 rfl rfl (vp_in_nI (n := too) (by omega) (by decide)) d_X_pieceMatches_18 ?_
  refine lv_topi (fun v_2 ev_2 => ?_)
  obtain rfl : v_2 = oI (rdp tx pt qt pn false frm pn 0 (gs frm) too) := (show v_2 = s2 too from ev_2.trans (by rw [nI_clamp (n := too) (by omega)])).trans (hs2 too hft (Nat.le_refl _))
  refine lv_iconst (v := -1) hx hb d_X_pieceMatches_19 (by decide) ?_
  refine lv_icmp_eq (tgt := 27) hx hb d_X_pieceMatches_20 (by decide) (fun c_3 => ?_) (fun c_3 => ?_)
  · have c_3 := (oI_ne (fun k q => Nat.le_trans (hm _ k q) (by decide))).mp c_3
    refine lv_iconst (v := nI 0) hx hb d_X_pieceMatches_27 (by decide) ?_
    exact W.zret (v := nI 0) hx hb hr (by rfl) (fun t ht hW => ⟨⟨_, s2, rfl, by unfold mX; first | exact isS_n ‹_› | exact isS_s ‹_›, by rw [ht]; exact hP, va_K.moved hW.alike hK, hD⟩, hS.F ht⟩) hS.2.2 d_X_pieceMatches_28
  · have c_3 := mt (oI_ne (fun k q => Nat.le_trans (hm _ k q) (by decide))).mpr c_3
    refine lv_iconst (v := nI 1) hx hb d_X_pieceMatches_23 (by decide) ?_
    refine lv_goto (tgt := 28) hx hb d_X_pieceMatches_24 (by decide) ?_
    exact W.zret (v := nI 1) hx hb hr (by rfl) (fun t ht hW => ⟨⟨_, s2, rfl, by unfold mX; first | exact isS_n ‹_› | exact isS_s ‹_›, by rw [ht]; exact hP, va_K.moved hW.alike hK, hD⟩, hS.F ht⟩) hS.2.2 d_X_pieceMatches_28

theorem r_X_pieceMatches {p : Program} {l : Launch} {e : Env} {R : Room} {s : State} {mm : MethodId} {args : Array Value} {below : List Frame} {meth : Method} {c : Code} {H : Heap} {locs : List Loc} {cells slots : Nat} {Q : State → Prop} {cc : ByteArray} {pcn nL : Nat} {ls : Array Slot} {rest : List Value} {dC : Nat → ClassId} {dI : Nat → Nat → Nat} {h0 a1 a2 a3 a4 : Nat} {cI cZ : ClassId} {tx pt qt sr : Nat → Int32} {tn pn : Nat} {A : Nat → Prop} {H0 : Heap} (hp : pn ≤ 200) {frm too : Nat} (hft : frm ≤ too) (ht4 : too ≤ 400) (hx : p.tables.exec = Jvm.exec) (hb : c.code = cc) (hml : c.maxLocals = nL) (hown : s.vm.findClass R_X = some mm.cls) (htB : ∀ w ∈ wB, w.before args s = true) (hK : va_K (dC, dI) classes (tyIZ cI cZ) s) (hP : va_P (dC, dI) classes (wX h0 a1 a2 a3 a4 cI cZ tx pt qt sr tn pn) H) (hD : va_D A (wX h0 a1 a2 a3 a4 cI cZ tx pt qt sr tn pn)) (hS : va_S A H0 H locs) (hA : ∀ q : Nat, H0.size ≤ q → A q) (hls : ls.size = nL) (hre : (rest.map fun v => v.category).sum ≤ 8) (hR : 5 + 1 ≤ R.frames ∧ 8 + (3 + 11) + 123 ≤ R.locals) (hce : cells ≤ R.cells ∧ slots ≤ R.slots) (hd : decode cc pcn = .ok (.invokevirtual 38, 3)) (kk : ∀ (r : Int32) (su : Nat → Int32) (H1 : Heap) (locs1 : List Loc), (r = bI (mX tx pt qt pn frm too)) → va_P (dC, dI) classes (wX h0 a1 a2 a3 a4 cI cZ tx pt qt su tn pn) H1 → va_D A (wX h0 a1 a2 a3 a4 cI cZ tx pt qt su tn pn) → va_S A H0 H1 locs1 → W p l e R s mm args below meth c H1 locs1 cells slots Q (F0 mm (pcn + 3) ls (.int r :: rest))) : W p l e R s mm args below meth c H locs cells slots Q (F0 mm pcn ls (.int (nI too) :: .int (nI frm) :: .ref h0 :: rest)) := by
  have hFc := va_free (wc := (wX h0 a1 a2 a3 a4 cI cZ tx pt qt sr tn pn)) hD hS hA [0, 1, 2, 3, 4] rfl
  refine va_calli (va_runV (As := [.int (nI frm), .int (nI too)]) (rest := rest) ⟨hx, hb, hml, hown, htB⟩ (c_X_pieceMatches l dC dI h0 a1 a2 a3 a4 cI cZ tx pt qt sr tn pn H.size hp frm too hft ht4) (cwV 2 htB (gV hml_X_38 hinm_X_pieceMatches hsel_X_pieceMatches hini_X hco_X_pieceMatches) rfl rfl rfl (by decide +kernel) hR) ⟨fun a U g mk q => by obtain ⟨q0, q1, qP, qK, qD⟩ := q; exact ⟨q0, q1, qP, va_K.moved (u := U) (U := U.calling g mk a) (Vm.Alike.refl U.vm) qK, qD⟩, va_recv hK hP (ci := 0) (q0 := 0) rfl rfl, fun U hU hW => ⟨rfl, by rw [hU], by rw [hU]; exact hP, va_K.moved hW.alike hK, hD.weaken (fun _ _ _ _ => trivial)⟩⟩ rfl rfl hls rfl (lv_room hre) hd ⟨hce.1, hce.2⟩) hS (fun q _ h => hFc q h) hFc (fun r su t H1 locs1 ht hvm hw hB hz1 hk1 hS1 => ?_)
  obtain ⟨hP1, hK1, hD1⟩ := hB
  rw [ht] at hP1
  have hj := va_join (wr := []) (w1 := (wX h0 a1 a2 a3 a4 cI cZ tx pt qt su tn pn)) hP hD [0, 1, 2, 3, 4] [] rfl rfl (by decide) (by decide) hk1 hFc hP1 hD1
  exact kk r su H1 locs1 hw hj.1 hj.2 hS1

set_option maxHeartbeats 4000000 in
set_option maxRecDepth 100000 in
theorem c_X_matches (l : Launch) (dC : Nat → ClassId) (dI : Nat → Nat → Nat) (h0 a1 a2 a3 a4 : Nat) (cI cZ : ClassId) (tx pt qt sr : Nat → Int32) (tn pn : Nat) (sz : Nat) (hp : pn ≤ 200) (ht : tn ≤ 400) : Met l y_X_matches (.code y_X_matches b_X_matches 1 (some .boolean) :: wB) (Rm 6 145) (va_Pc [.ref h0] (fun U => U.heap.size = sz ∧ va_P (dC, dI) classes (wX h0 a1 a2 a3 a4 cI cZ tx pt qt sr tn pn) U.heap ∧ va_K (dC, dI) classes (tyIZ cI cZ) U ∧ va_D (fun _ => True) (wX h0 a1 a2 a3 a4 cI cZ tx pt qt sr tn pn))) (va_Qi (fun (r : Int32) (su : Nat → Int32) => r = bI (mX tx pt qt pn 0 tn)) (fun (su : Nat → Int32) (t : State) => va_P (dC, dI) classes (wX h0 a1 a2 a3 a4 cI cZ tx pt qt su tn pn) t.heap ∧ va_K (dC, dI) classes (tyIZ cI cZ) t ∧ va_D (va_A (wX h0 a1 a2 a3 a4 cI cZ tx pt qt sr tn pn) sz) (wX h0 a1 a2 a3 a4 cI cZ tx pt qt su tn pn)) (va_A (wX h0 a1 a2 a3 a4 cI cZ tx pt qt sr tn pn) sz)) 0 0 (va_A (wX h0 a1 a2 a3 a4 cI cZ tx pt qt sr tn pn) sz) := by
  refine Met.ofW (cc := b_X_matches) (maxL := 1) (ret := (some .boolean)) (by decide) rfl ?_
  intro p e s mm args below meth c s₁ B hml hv
  obtain ⟨rfl, hsz, hP, hK, hD0⟩ := hv
  have hx := B.exec
  have hb := B.bytes
  have hr := B.returns
  have hts := atoms_spec (ws := (.code y_X_matches b_X_matches 1 (some .boolean) :: wB)) B.pre
  have htB : ∀ w ∈ wB, w.before _ s = true := fun w h => hts w (List.mem_cons_of_mem _ h)
  have hown : s.vm.findClass R_X = some mm.cls := findClass_of_methodNamed B.named
  have hlocks := B.notSynchronized
  subst hsz
  have hD := hD0.self (sz := s.heap.size)
  generalize hAe : va_A (wX h0 a1 a2 a3 a4 cI cZ tx pt qt sr tn pn) s.heap.size = A at hD ⊢
  have hA : ∀ q : Nat, s.heap.size ≤ q → A q := fun q h => by rw [← hAe]; exact Or.inr h
  have hS : va_S A s.heap s.heap [] := va_S.rf
  have hP : va_P (dC, dI) classes (wX h0 a1 a2 a3 a4 cI cZ tx pt qt sr tn pn) s.heap := hP
  have hl := lv_entry ([.ref h0]) (n := 1) (Nat.le_of_ble_eq_true rfl)
  rw [lg_entry_eq]
  generalize (lg_sl ([.ref h0]) ++ List.replicate (1 - (lg_sl ([.ref h0])).length) Slot.unset).toArray = ls at hl ⊢
  have hl : lv_has ls 1 [(0, .ref h0)] := hl
  refine lv_aload_n hx hb d_X_matches_0 rfl (lv_at hl 0 rfl) ?_
  refine lv_iconst (v := nI 0) hx hb d_X_matches_1 (by decide) ?_
  refine lv_aload_n hx hb d_X_matches_2 rfl (lv_at hl 0 rfl) ?_
  refine va_get (D := (dC, dI)) (ci := 0) (v := .int (nI tn)) (C := R_X) (T := F_X) (N := 6) hx hb htB in_X hown hK hP 0 rfl rfl 1 (by decide) (htB _ hfl_X_13) (fun _ h9 => h9) rfl d_X_matches_3 ?_
  refine r_X_pieceMatches hp (Nat.zero_le _) ht hx hb hml hown htB hK hP hD hS hA hl.1 (Nat.le_of_ble_eq_true rfl) ⟨Nat.le_of_ble_eq_true rfl, Nat.le_of_ble_eq_true rfl⟩ ⟨Nat.zero_le _, Nat.zero_le _⟩ d_X_matches_6 (fun r_s1 s1 H locs hs1 hP hD hS => ?_)
  obtain rfl := hs1
  exact W.zret (v := bI (mX tx pt qt pn 0 tn)) hx hb hr (bI_nar _) (fun t ht hW => ⟨⟨_, s1, rfl, rfl, by rw [ht]; exact hP, va_K.moved hW.alike hK, hD⟩, hS.F ht⟩) hS.2.2 d_X_matches_9

set_option maxHeartbeats 4000000 in
set_option maxRecDepth 100000 in
theorem c_X_matchingBeginning (l : Launch) (dC : Nat → ClassId) (dI : Nat → Nat → Nat) (h0 a1 a2 a3 a4 : Nat) (cI cZ : ClassId) (tx pt qt sr : Nat → Int32) (tn pn : Nat) (sz : Nat) (hp : pn ≤ 200) (ht : tn ≤ 400) (lg : Bool) : Met l y_X_matchingBeginning (.code y_X_matchingBeginning b_X_matchingBeginning 4 (some .int) :: wB) (Rm 5 123) (va_Pc [.ref h0, .int (bI lg)] (fun U => U.heap.size = sz ∧ va_P (dC, dI) classes (wX h0 a1 a2 a3 a4 cI cZ tx pt qt sr tn pn) U.heap ∧ va_K (dC, dI) classes (tyIZ cI cZ) U ∧ va_D (fun _ => True) (wX h0 a1 a2 a3 a4 cI cZ tx pt qt sr tn pn))) (va_Qi (fun (r : Int32) (su : Nat → Int32) => r = oI (fnd (fun j => mX tx pt qt pn 0 j) lg (tn + 1))) (fun (su : Nat → Int32) (t : State) => va_P (dC, dI) classes (wX h0 a1 a2 a3 a4 cI cZ tx pt qt su tn pn) t.heap ∧ va_K (dC, dI) classes (tyIZ cI cZ) t ∧ va_D (va_A (wX h0 a1 a2 a3 a4 cI cZ tx pt qt sr tn pn) sz) (wX h0 a1 a2 a3 a4 cI cZ tx pt qt su tn pn)) (va_A (wX h0 a1 a2 a3 a4 cI cZ tx pt qt sr tn pn) sz)) 0 0 (va_A (wX h0 a1 a2 a3 a4 cI cZ tx pt qt sr tn pn) sz) := by
  refine Met.ofW (cc := b_X_matchingBeginning) (maxL := 4) (ret := (some .int)) (by decide) rfl ?_
  intro p e s mm args below meth c s₁ B hml hv
  obtain ⟨rfl, hsz, hP, hK, hD0⟩ := hv
  have hx := B.exec
  have hb := B.bytes
  have hr := B.returns
  have hts := atoms_spec (ws := (.code y_X_matchingBeginning b_X_matchingBeginning 4 (some .int) :: wB)) B.pre
  have htB : ∀ w ∈ wB, w.before _ s = true := fun w h => hts w (List.mem_cons_of_mem _ h)
  have hown : s.vm.findClass R_X = some mm.cls := findClass_of_methodNamed B.named
  have hlocks := B.notSynchronized
  subst hsz
  have hD := hD0.self (sz := s.heap.size)
  generalize hAe : va_A (wX h0 a1 a2 a3 a4 cI cZ tx pt qt sr tn pn) s.heap.size = A at hD ⊢
  have hA : ∀ q : Nat, s.heap.size ≤ q → A q := fun q h => by rw [← hAe]; exact Or.inr h
  have hS : va_S A s.heap s.heap [] := va_S.rf
  have hP : va_P (dC, dI) classes (wX h0 a1 a2 a3 a4 cI cZ tx pt qt sr tn pn) s.heap := hP
  have hl := lv_entry ([.ref h0, .int (bI lg)]) (n := 4) (Nat.le_of_ble_eq_true rfl)
  rw [lg_entry_eq]
  generalize (lg_sl ([.ref h0, .int (bI lg)]) ++ List.replicate (4 - (lg_sl ([.ref h0, .int (bI lg)])).length) Slot.unset).toArray = ls at hl ⊢
  have hl : lv_has ls 4 [(0, .ref h0), (1, .int (bI lg))] := hl
  refine lv_aload_n hx hb d_X_matchingBeginning_0 rfl (lv_at hl 0 rfl) ?_
  refine lv_iconst (v := nI 0) hx hb d_X_matchingBeginning_1 (by decide) ?_
  refine lv_aload_n hx hb d_X_matchingBeginning_2 rfl (lv_at hl 0 rfl) ?_
  refine va_get (D := (dC, dI)) (ci := 0) (v := .int (nI tn)) (C := R_X) (T := F_X) (N := 6) hx hb htB in_X hown hK hP 0 rfl rfl 1 (by decide) (htB _ hfl_X_13) (fun _ h9 => h9) rfl d_X_matchingBeginning_3 ?_
  refine r_X_startOnlyAt (Nat.zero_le _) ht hx hb hml hown htB hK hP hD hS hA hl.1 (Nat.le_of_ble_eq_true rfl) ⟨Nat.le_of_ble_eq_true rfl, Nat.le_of_ble_eq_true rfl⟩ ⟨Nat.zero_le _, Nat.zero_le _⟩ d_X_matchingBeginning_6 (fun s1 H locs hs1 hP hD hS => ?_)
  have hg1 : ∀ j, 0 ≤ j → j ≤ tn → s1 j = oI (gs 0 j) := by
    intro j q1 q2
    unfold gs
    by_cases q : j = 0
    · subst q; rw [if_pos rfl]; exact hs1.1
    · rw [if_neg q]; exact hs1.2 j (by omega) q2
  refine lv_aload_n hx hb d_X_matchingBeginning_9 rfl (lv_at hl 0 rfl) ?_
  refine lv_iconst (v := nI 0) hx hb d_X_matchingBeginning_10 (by decide) ?_
  refine lv_aload_n hx hb d_X_matchingBeginning_11 rfl (lv_at hl 0 rfl) ?_
  refine va_get (D := (dC, dI)) (ci := 0) (v := .int (nI tn)) (C := R_X) (T := F_X) (N := 6) hx hb htB in_X hown hK hP 0 rfl rfl 1 (by decide) (htB _ hfl_X_13) (fun _ h9 => h9) rfl d_X_matchingBeginning_12 ?_
  refine lv_iconst (v := nI 0) hx hb d_X_matchingBeginning_15 (by decide) ?_
  refine lv_topi (fun v_1 ev_1 => ?_)
  obtain rfl : v_1 = bI false := ev_1.trans rfl
  refine r_X_readPattern (b := false) hp (Nat.zero_le _) ht (gs_sml (by omega)) hg1 hx hb hml hown htB hK hP hD hS hA hl.1 (Nat.le_of_ble_eq_true rfl) ⟨Nat.le_of_ble_eq_true rfl, Nat.le_of_ble_eq_true rfl⟩ ⟨Nat.zero_le _, Nat.zero_le _⟩ d_X_matchingBeginning_16 (fun s2 H locs hs2 hP hD hS => ?_)
  have hm := rdp_sml (tx := tx) (pt := pt) (qt := qt) (pn := pn) (b := false) (frm := 0) (f := pn) (a := 0) (gs_sml (frm := 0) (by omega))
  refine lv_iconst (v := -1) hx hb d_X_matchingBeginning_19 (by decide) ?_
  refine lv_istore_n (lv' := [(2, .int (-1)), (0, .ref h0), (1, .int (bI lg))]) hx hb d_X_matchingBeginning_20 rfl hl (by decide) rfl (fun ls hl => ?_)
  refine lv_iconst (v := nI 0) hx hb d_X_matchingBeginning_21 (by decide) ?_
  refine lv_istore_n (lv' := [(3, .int (nI 0)), (2, .int (-1)), (0, .ref h0), (1, .int (bI lg))]) hx hb d_X_matchingBeginning_22 rfl hl (by decide) rfl (fun ls hl => ?_)
  have loop : ∀ (n i : Nat), i ≤ 1000 → 1000 < i + n → i ≤ tn + 1 → ∀ ls : Array Slot, lv_has ls 4 [(3, .int (nI i)), (2, .int (oI (fnd (fun j => mX tx pt qt pn 0 j) lg i))), (0, .ref h0), (1, .int (bI lg))] → W p l e (Rm 5 123) s mm [.ref h0, .int (bI lg)].toArray below meth c H locs 0 0 (MQ below (va_Qi (fun (r : Int32) (su : Nat → Int32) => r = oI (fnd (fun j => mX tx pt qt pn 0 j) lg (tn + 1))) (fun (su : Nat → Int32) (t : State) => va_P (dC, dI) classes (wX h0 a1 a2 a3 a4 cI cZ tx pt qt su tn pn) t.heap ∧ va_K (dC, dI) classes (tyIZ cI cZ) t ∧ va_D A (wX h0 a1 a2 a3 a4 cI cZ tx pt qt su tn pn)) A) [.ref h0, .int (bI lg)].toArray s 0 0 A) (F0 mm 23 ls []) := by
    intro n
    induction n with
    | zero => intro i h1 h2; exact absurd h2 (by omega)
    | succ n ih =>
      intro i hi hn hit ls hl
      refine lv_iload_n hx hb d_X_matchingBeginning_23 rfl (lv_at hl 0 rfl) ?_
      refine lv_aload_n hx hb d_X_matchingBeginning_24 rfl (lv_at hl 2 rfl) ?_
      refine va_get (D := (dC, dI)) (ci := 0) (v := .int (nI tn)) (C := R_X) (T := F_X) (N := 6) hx hb htB in_X hown hK hP 0 rfl rfl 1 (by decide) (htB _ hfl_X_13) (fun _ h9 => h9) rfl d_X_matchingBeginning_25 ?_
      refine lv_icmp_gt (tgt := 58) hx hb d_X_matchingBeginning_28 (by decide) (fun c_1 => ?_) (fun c_1 => ?_)
      · have c_1 := (nI_ltI (by omega) (by omega)).mp c_1
        refine lv_iload_n hx hb d_X_matchingBeginning_58 rfl (lv_at hl 1 rfl) ?_
        exact W.iret (v := oI (fnd (fun j => mX tx pt qt pn 0 j) lg i)) hx hb hr (fun t ht hW => ⟨⟨_, s2, rfl, by rw [show i = tn + 1 by omega], by rw [ht]; exact hP, va_K.moved hW.alike hK, hD⟩, hS.F ht⟩) hS.2.2 d_X_matchingBeginning_59
      · have c_1 := mt (nI_ltI (by omega) (by omega)).mpr c_1
        refine lv_aload_n hx hb d_X_matchingBeginning_31 rfl (lv_at hl 2 rfl) ?_
        refine va_get (D := (dC, dI)) (ci := 0) (v := .ref a4) (C := R_X) (T := F_X) (N := 6) hx hb htB in_X hown hK hP 0 rfl rfl 5 (by decide) (htB _ hfl_X_27) (fun _ h9 => h9) rfl d_X_matchingBeginning_32 ?_
        refine lv_iload_n hx hb d_X_matchingBeginning_35 rfl (lv_at hl 0 rfl) ?_
        refine va_iald hx hb hK hP 4 0 rfl rfl (vp_in_nI (n := i) (by omega) (by decide)) d_X_matchingBeginning_36 ?_
        refine lv_topi (fun v_2 ev_2 => ?_)
        obtain rfl : v_2 = oI (rdp tx pt qt pn false 0 pn 0 (gs 0) i) := (show v_2 = s2 i from ev_2.trans (by rw [nI_clamp (n := i) (by omega)])).trans (hs2 i (Nat.zero_le _) (by omega))
        refine lv_iconst (v := -1) hx hb d_X_matchingBeginning_37 (by decide) ?_
        refine lv_icmp_eq (tgt := 52) hx hb d_X_matchingBeginning_38 (by decide) (fun c_3 => ?_) (fun c_3 => ?_)
        · have c_3 := (oI_ne (fun k q => Nat.le_trans (hm _ k q) (by decide))).mp c_3
          refine lv_iinc (v := nI (i + 1)) (lv' := [(3, .int (nI (i + 1))), (2, .int (oI (fnd (fun j => mX tx pt qt pn 0 j) lg i))), (0, .ref h0), (1, .int (bI lg))]) hx hb d_X_matchingBeginning_52 hl (k := 0) rfl (nI_add _ 1) (by decide) rfl (fun ls hl => ?_)
          refine lv_goto (tgt := 23) hx hb d_X_matchingBeginning_55 (by decide) ?_
          have hf1 : fnd (fun j => mX tx pt qt pn 0 j) lg (i + 1) = fnd (fun j => mX tx pt qt pn 0 j) lg i := (by first | exact fnd_m1 (isS_f ‹_›) | exact fnd_m2 ‹_› ‹_›)
          exact ih (i + 1) (by omega) (by omega) (by omega) ls (by rw [hf1]; exact (lv_sub hl [0, 1, 2, 3] rfl))
        · have c_3 := mt (oI_ne (fun k q => Nat.le_trans (hm _ k q) (by decide))).mpr c_3
          refine lv_iload_n hx hb d_X_matchingBeginning_41 rfl (lv_at hl 3 rfl) ?_
          refine lv_if_ne (tgt := 50) hx hb d_X_matchingBeginning_42 (by decide) (fun c_4 => ?_) (fun c_4 => ?_)
          · have c_4 := bI_nz.mp c_4
            refine lv_iload_n hx hb d_X_matchingBeginning_50 rfl (lv_at hl 0 rfl) ?_
            refine lv_istore_n (lv' := [(2, .int (nI i)), (3, .int (nI i)), (0, .ref h0), (1, .int (bI lg))]) hx hb d_X_matchingBeginning_51 rfl hl (by decide) rfl (fun ls hl => ?_)
            refine lv_iinc (v := nI (i + 1)) (lv' := [(3, .int (nI (i + 1))), (2, .int (nI i)), (0, .ref h0), (1, .int (bI lg))]) hx hb d_X_matchingBeginning_52 hl (k := 1) rfl (nI_add _ 1) (by decide) rfl (fun ls hl => ?_)
            refine lv_goto (tgt := 23) hx hb d_X_matchingBeginning_55 (by decide) ?_
            have hf1 : fnd (fun j => mX tx pt qt pn 0 j) lg (i + 1) = some i := fnd_hit (f := fun j => mX tx pt qt pn 0 j) (isS_t ‹_›) (by first | exact Or.inl ‹_› | exact Or.inr ‹_›)
            exact ih (i + 1) (by omega) (by omega) (by omega) ls (by rw [hf1]; exact (lv_sub hl [0, 1, 2, 3] rfl))
          · have c_4 := bI_z.mp c_4
            refine lv_iload_n hx hb d_X_matchingBeginning_45 rfl (lv_at hl 1 rfl) ?_
            refine lv_iconst (v := -1) hx hb d_X_matchingBeginning_46 (by decide) ?_
            refine lv_icmp_ne (tgt := 52) hx hb d_X_matchingBeginning_47 (by decide) (fun c_5 => ?_) (fun c_5 => ?_)
            · have c_5 := mt (fnd_none (by omega)).mpr c_5
              refine lv_iinc (v := nI (i + 1)) (lv' := [(3, .int (nI (i + 1))), (2, .int (oI (fnd (fun j => mX tx pt qt pn 0 j) lg i))), (0, .ref h0), (1, .int (bI lg))]) hx hb d_X_matchingBeginning_52 hl (k := 0) rfl (nI_add _ 1) (by decide) rfl (fun ls hl => ?_)
              refine lv_goto (tgt := 23) hx hb d_X_matchingBeginning_55 (by decide) ?_
              have hf1 : fnd (fun j => mX tx pt qt pn 0 j) lg (i + 1) = fnd (fun j => mX tx pt qt pn 0 j) lg i := (by first | exact fnd_m1 (isS_f ‹_›) | exact fnd_m2 ‹_› ‹_›)
              exact ih (i + 1) (by omega) (by omega) (by omega) ls (by rw [hf1]; exact (lv_sub hl [0, 1, 2, 3] rfl))
            · have c_5 := (fnd_none (by omega)).mp c_5
              refine lv_iload_n hx hb d_X_matchingBeginning_50 rfl (lv_at hl 0 rfl) ?_
              refine lv_istore_n (lv' := [(2, .int (nI i)), (3, .int (nI i)), (0, .ref h0), (1, .int (bI lg))]) hx hb d_X_matchingBeginning_51 rfl hl (by decide) rfl (fun ls hl => ?_)
              refine lv_iinc (v := nI (i + 1)) (lv' := [(3, .int (nI (i + 1))), (2, .int (nI i)), (0, .ref h0), (1, .int (bI lg))]) hx hb d_X_matchingBeginning_52 hl (k := 1) rfl (nI_add _ 1) (by decide) rfl (fun ls hl => ?_)
              refine lv_goto (tgt := 23) hx hb d_X_matchingBeginning_55 (by decide) ?_
              have hf1 : fnd (fun j => mX tx pt qt pn 0 j) lg (i + 1) = some i := fnd_hit (f := fun j => mX tx pt qt pn 0 j) (isS_t ‹_›) (by first | exact Or.inl ‹_› | exact Or.inr ‹_›)
              exact ih (i + 1) (by omega) (by omega) (by omega) ls (by rw [hf1]; exact (lv_sub hl [0, 1, 2, 3] rfl))
  exact loop 1001 0 (by omega) (by omega) (by omega) ls (lv_sub hl [0, 1, 2, 3] rfl)

theorem r_X_matchingBeginning {p : Program} {l : Launch} {e : Env} {R : Room} {s : State} {mm : MethodId} {args : Array Value} {below : List Frame} {meth : Method} {c : Code} {H : Heap} {locs : List Loc} {cells slots : Nat} {Q : State → Prop} {cc : ByteArray} {pcn nL : Nat} {ls : Array Slot} {rest : List Value} {dC : Nat → ClassId} {dI : Nat → Nat → Nat} {h0 a1 a2 a3 a4 : Nat} {cI cZ : ClassId} {tx pt qt sr : Nat → Int32} {tn pn : Nat} {A : Nat → Prop} {H0 : Heap} (hp : pn ≤ 200) (ht : tn ≤ 400) {lg : Bool} (hx : p.tables.exec = Jvm.exec) (hb : c.code = cc) (hml : c.maxLocals = nL) (hown : s.vm.findClass R_X = some mm.cls) (htB : ∀ w ∈ wB, w.before args s = true) (hK : va_K (dC, dI) classes (tyIZ cI cZ) s) (hP : va_P (dC, dI) classes (wX h0 a1 a2 a3 a4 cI cZ tx pt qt sr tn pn) H) (hD : va_D A (wX h0 a1 a2 a3 a4 cI cZ tx pt qt sr tn pn)) (hS : va_S A H0 H locs) (hA : ∀ q : Nat, H0.size ≤ q → A q) (hls : ls.size = nL) (hre : (rest.map fun v => v.category).sum ≤ 8) (hR : 5 + 1 ≤ R.frames ∧ 8 + (4 + 11) + 123 ≤ R.locals) (hce : cells ≤ R.cells ∧ slots ≤ R.slots) (hd : decode cc pcn = .ok (.invokevirtual 53, 3)) (kk : ∀ (r : Int32) (su : Nat → Int32) (H1 : Heap) (locs1 : List Loc), (r = oI (fnd (fun j => mX tx pt qt pn 0 j) lg (tn + 1))) → va_P (dC, dI) classes (wX h0 a1 a2 a3 a4 cI cZ tx pt qt su tn pn) H1 → va_D A (wX h0 a1 a2 a3 a4 cI cZ tx pt qt su tn pn) → va_S A H0 H1 locs1 → W p l e R s mm args below meth c H1 locs1 cells slots Q (F0 mm (pcn + 3) ls (.int r :: rest))) : W p l e R s mm args below meth c H locs cells slots Q (F0 mm pcn ls (.int (bI lg) :: .ref h0 :: rest)) := by
  have hFc := va_free (wc := (wX h0 a1 a2 a3 a4 cI cZ tx pt qt sr tn pn)) hD hS hA [0, 1, 2, 3, 4] rfl
  refine va_calli (va_runV (As := [.int (bI lg)]) (rest := rest) ⟨hx, hb, hml, hown, htB⟩ (c_X_matchingBeginning l dC dI h0 a1 a2 a3 a4 cI cZ tx pt qt sr tn pn H.size hp ht lg) (cwV 1 htB (gV hml_X_53 hinm_X_matchingBeginning hsel_X_matchingBeginning hini_X hco_X_matchingBeginning) rfl rfl rfl (by decide +kernel) hR) ⟨fun a U g mk q => by obtain ⟨q0, q1, qP, qK, qD⟩ := q; exact ⟨q0, q1, qP, va_K.moved (u := U) (U := U.calling g mk a) (Vm.Alike.refl U.vm) qK, qD⟩, va_recv hK hP (ci := 0) (q0 := 0) rfl rfl, fun U hU hW => ⟨rfl, by rw [hU], by rw [hU]; exact hP, va_K.moved hW.alike hK, hD.weaken (fun _ _ _ _ => trivial)⟩⟩ rfl rfl hls rfl (lv_room hre) hd ⟨hce.1, hce.2⟩) hS (fun q _ h => hFc q h) hFc (fun r su t H1 locs1 ht hvm hw hB hz1 hk1 hS1 => ?_)
  obtain ⟨hP1, hK1, hD1⟩ := hB
  rw [ht] at hP1
  have hj := va_join (wr := []) (w1 := (wX h0 a1 a2 a3 a4 cI cZ tx pt qt su tn pn)) hP hD [0, 1, 2, 3, 4] [] rfl rfl (by decide) (by decide) hk1 hFc hP1 hD1
  exact kk r su H1 locs1 hw hj.1 hj.2 hS1

set_option maxHeartbeats 4000000 in
set_option maxRecDepth 100000 in
theorem c_X_matchingEnd (l : Launch) (dC : Nat → ClassId) (dI : Nat → Nat → Nat) (h0 a1 a2 a3 a4 : Nat) (cI cZ : ClassId) (tx pt qt sr : Nat → Int32) (tn pn : Nat) (sz : Nat) (hp : pn ≤ 200) (ht : tn ≤ 400) (lg : Bool) : Met l y_X_matchingEnd (.code y_X_matchingEnd b_X_matchingEnd 3 (some .int) :: wB) (Rm 5 123) (va_Pc [.ref h0, .int (bI lg)] (fun U => U.heap.size = sz ∧ va_P (dC, dI) classes (wX h0 a1 a2 a3 a4 cI cZ tx pt qt sr tn pn) U.heap ∧ va_K (dC, dI) classes (tyIZ cI cZ) U ∧ va_D (fun _ => True) (wX h0 a1 a2 a3 a4 cI cZ tx pt qt sr tn pn))) (va_Qi (fun (r : Int32) (su : Nat → Int32) => r = eI tn (rdp tx pt qt pn lg 0 pn 0 ga tn)) (fun (su : Nat → Int32) (t : State) => va_P (dC, dI) classes (wX h0 a1 a2 a3 a4 cI cZ tx pt qt su tn pn) t.heap ∧ va_K (dC, dI) classes (tyIZ cI cZ) t ∧ va_D (va_A (wX h0 a1 a2 a3 a4 cI cZ tx pt qt sr tn pn) sz) (wX h0 a1 a2 a3 a4 cI cZ tx pt qt su tn pn)) (va_A (wX h0 a1 a2 a3 a4 cI cZ tx pt qt sr tn pn) sz)) 0 0 (va_A (wX h0 a1 a2 a3 a4 cI cZ tx pt qt sr tn pn) sz) := by
  refine Met.ofW (cc := b_X_matchingEnd) (maxL := 3) (ret := (some .int)) (by decide) rfl ?_
  intro p e s mm args below meth c s₁ B hml hv
  obtain ⟨rfl, hsz, hP, hK, hD0⟩ := hv
  have hx := B.exec
  have hb := B.bytes
  have hr := B.returns
  have hts := atoms_spec (ws := (.code y_X_matchingEnd b_X_matchingEnd 3 (some .int) :: wB)) B.pre
  have htB : ∀ w ∈ wB, w.before _ s = true := fun w h => hts w (List.mem_cons_of_mem _ h)
  have hown : s.vm.findClass R_X = some mm.cls := findClass_of_methodNamed B.named
  have hlocks := B.notSynchronized
  subst hsz
  have hD := hD0.self (sz := s.heap.size)
  generalize hAe : va_A (wX h0 a1 a2 a3 a4 cI cZ tx pt qt sr tn pn) s.heap.size = A at hD ⊢
  have hA : ∀ q : Nat, s.heap.size ≤ q → A q := fun q h => by rw [← hAe]; exact Or.inr h
  have hS : va_S A s.heap s.heap [] := va_S.rf
  have hP : va_P (dC, dI) classes (wX h0 a1 a2 a3 a4 cI cZ tx pt qt sr tn pn) s.heap := hP
  have hl := lv_entry ([.ref h0, .int (bI lg)]) (n := 3) (Nat.le_of_ble_eq_true rfl)
  rw [lg_entry_eq]
  generalize (lg_sl ([.ref h0, .int (bI lg)]) ++ List.replicate (3 - (lg_sl ([.ref h0, .int (bI lg)])).length) Slot.unset).toArray = ls at hl ⊢
  have hl : lv_has ls 3 [(0, .ref h0), (1, .int (bI lg))] := hl
  refine lv_aload_n hx hb d_X_matchingEnd_0 rfl (lv_at hl 0 rfl) ?_
  refine r_X_startAnywhere ht hx hb hml hown htB hK hP hD hS hA hl.1 (Nat.le_of_ble_eq_true rfl) ⟨Nat.le_of_ble_eq_true rfl, Nat.le_of_ble_eq_true rfl⟩ ⟨Nat.zero_le _, Nat.zero_le _⟩ d_X_matchingEnd_1 (fun s1 H locs hs1 hP hD hS => ?_)
  have hg1 : ∀ j, 0 ≤ j → j ≤ tn → s1 j = oI (ga j) := by
    intro j q1 q2
    unfold ga
    rw [if_pos (by omega)]
    exact hs1 j q2
  refine lv_aload_n hx hb d_X_matchingEnd_4 rfl (lv_at hl 0 rfl) ?_
  refine lv_iconst (v := nI 0) hx hb d_X_matchingEnd_5 (by decide) ?_
  refine lv_aload_n hx hb d_X_matchingEnd_6 rfl (lv_at hl 0 rfl) ?_
  refine va_get (D := (dC, dI)) (ci := 0) (v := .int (nI tn)) (C := R_X) (T := F_X) (N := 6) hx hb htB in_X hown hK hP 0 rfl rfl 1 (by decide) (htB _ hfl_X_13) (fun _ h9 => h9) rfl d_X_matchingEnd_7 ?_
  refine lv_iload_n hx hb d_X_matchingEnd_10 rfl (lv_at hl 1 rfl) ?_
  refine r_X_readPattern (b := lg) hp (Nat.zero_le _) ht ga_sml hg1 hx hb hml hown htB hK hP hD hS hA hl.1 (Nat.le_of_ble_eq_true rfl) ⟨Nat.le_of_ble_eq_true rfl, Nat.le_of_ble_eq_true rfl⟩ ⟨Nat.zero_le _, Nat.zero_le _⟩ d_X_matchingEnd_11 (fun s2 H locs hs2 hP hD hS => ?_)
  have hm := rdp_sml (tx := tx) (pt := pt) (qt := qt) (pn := pn) (b := lg) (frm := 0) (f := pn) (a := 0) ga_sml
  refine lv_aload_n hx hb d_X_matchingEnd_14 rfl (lv_at hl 0 rfl) ?_
  refine va_get (D := (dC, dI)) (ci := 0) (v := .ref a4) (C := R_X) (T := F_X) (N := 6) hx hb htB in_X hown hK hP 0 rfl rfl 5 (by decide) (htB _ hfl_X_27) (fun _ h9 => h9) rfl d_X_matchingEnd_15 ?_
  refine lv_aload_n hx hb d_X_matchingEnd_18 rfl (lv_at hl 0 rfl) ?_
  refine va_get (D := (dC, dI)) (ci := 0) (v := .int (nI tn)) (C := R_X) (T := F_X) (N := 6) hx hb htB in_X hown hK hP 0 rfl rfl 1 (by decide) (htB _ hfl_X_13) (fun _ h9 => h9) rfl d_X_matchingEnd_19 ?_
  refine va_iald hx hb hK hP 4 0 rfl rfl (vp_in_nI (n := tn) (by omega) (by decide)) d_X_matchingEnd_22 ?_
  refine lv_topi (fun v_1 ev_1 => ?_)
  obtain rfl : v_1 = oI (rdp tx pt qt pn lg 0 pn 0 ga tn) := (show v_1 = s2 tn from ev_1.trans (by rw [nI_clamp (n := tn) (by omega)])).trans (hs2 tn (Nat.zero_le _) (Nat.le_refl _))
  refine lv_istore_n (lv' := [(2, .int (oI (rdp tx pt qt pn lg 0 pn 0 ga tn))), (0, .ref h0), (1, .int (bI lg))]) hx hb d_X_matchingEnd_23 rfl hl (by decide) rfl (fun ls hl => ?_)
  refine lv_iload_n hx hb d_X_matchingEnd_24 rfl (lv_at hl 0 rfl) ?_
  refine lv_iconst (v := -1) hx hb d_X_matchingEnd_25 (by decide) ?_
  refine lv_icmp_ne (tgt := 33) hx hb d_X_matchingEnd_26 (by decide) (fun c_2 => ?_) (fun c_2 => ?_)
  · have c_2 := mt (oI_ne (fun k q => Nat.le_trans (hm _ k q) (by decide))).mpr c_2
    refine lv_aload_n hx hb d_X_matchingEnd_33 rfl (lv_at hl 1 rfl) ?_
    refine va_get (D := (dC, dI)) (ci := 0) (v := .int (nI tn)) (C := R_X) (T := F_X) (N := 6) hx hb htB in_X hown hK hP 0 rfl rfl 1 (by decide) (htB _ hfl_X_13) (fun _ h9 => h9) rfl d_X_matchingEnd_34 ?_
    refine lv_iload_n hx hb d_X_matchingEnd_37 rfl (lv_at hl 0 rfl) ?_
    refine lv_isub hx hb d_X_matchingEnd_38 ?_
    refine lv_topi (fun v_3 ev_3 => ?_)
    exact W.iret (v := v_3) hx hb hr (fun t ht hW => ⟨⟨_, s2, rfl, by first | (rw [‹rdp tx pt qt pn lg 0 pn 0 ga tn = none›]; rfl) | (subst_vars; cases q : rdp tx pt qt pn lg 0 pn 0 ga tn with
      | none => exact absurd q ‹_›
      | some k => rfl), by rw [ht]; exact hP, va_K.moved hW.alike hK, hD⟩, hS.F ht⟩) hS.2.2 d_X_matchingEnd_39
  · have c_2 := (oI_ne (fun k q => Nat.le_trans (hm _ k q) (by decide))).mp c_2
    refine lv_iconst (v := -1) hx hb d_X_matchingEnd_29 (by decide) ?_
    refine lv_goto (tgt := 39) hx hb d_X_matchingEnd_30 (by decide) ?_
    exact W.iret (v := -1) hx hb hr (fun t ht hW => ⟨⟨_, s2, rfl, by first | (rw [‹rdp tx pt qt pn lg 0 pn 0 ga tn = none›]; rfl) | (subst_vars; cases q : rdp tx pt qt pn lg 0 pn 0 ga tn with
      | none => exact absurd q ‹_›
      | some k => rfl), by rw [ht]; exact hP, va_K.moved hW.alike hK, hD⟩, hS.F ht⟩) hS.2.2 d_X_matchingEnd_39

theorem r_X_matchingEnd {p : Program} {l : Launch} {e : Env} {R : Room} {s : State} {mm : MethodId} {args : Array Value} {below : List Frame} {meth : Method} {c : Code} {H : Heap} {locs : List Loc} {cells slots : Nat} {Q : State → Prop} {cc : ByteArray} {pcn nL : Nat} {ls : Array Slot} {rest : List Value} {dC : Nat → ClassId} {dI : Nat → Nat → Nat} {h0 a1 a2 a3 a4 : Nat} {cI cZ : ClassId} {tx pt qt sr : Nat → Int32} {tn pn : Nat} {A : Nat → Prop} {H0 : Heap} (hp : pn ≤ 200) (ht : tn ≤ 400) {lg : Bool} (hx : p.tables.exec = Jvm.exec) (hb : c.code = cc) (hml : c.maxLocals = nL) (hown : s.vm.findClass R_X = some mm.cls) (htB : ∀ w ∈ wB, w.before args s = true) (hK : va_K (dC, dI) classes (tyIZ cI cZ) s) (hP : va_P (dC, dI) classes (wX h0 a1 a2 a3 a4 cI cZ tx pt qt sr tn pn) H) (hD : va_D A (wX h0 a1 a2 a3 a4 cI cZ tx pt qt sr tn pn)) (hS : va_S A H0 H locs) (hA : ∀ q : Nat, H0.size ≤ q → A q) (hls : ls.size = nL) (hre : (rest.map fun v => v.category).sum ≤ 8) (hR : 5 + 1 ≤ R.frames ∧ 8 + (3 + 11) + 123 ≤ R.locals) (hce : cells ≤ R.cells ∧ slots ≤ R.slots) (hd : decode cc pcn = .ok (.invokevirtual 49, 3)) (kk : ∀ (r : Int32) (su : Nat → Int32) (H1 : Heap) (locs1 : List Loc), (r = eI tn (rdp tx pt qt pn lg 0 pn 0 ga tn)) → va_P (dC, dI) classes (wX h0 a1 a2 a3 a4 cI cZ tx pt qt su tn pn) H1 → va_D A (wX h0 a1 a2 a3 a4 cI cZ tx pt qt su tn pn) → va_S A H0 H1 locs1 → W p l e R s mm args below meth c H1 locs1 cells slots Q (F0 mm (pcn + 3) ls (.int r :: rest))) : W p l e R s mm args below meth c H locs cells slots Q (F0 mm pcn ls (.int (bI lg) :: .ref h0 :: rest)) := by
  have hFc := va_free (wc := (wX h0 a1 a2 a3 a4 cI cZ tx pt qt sr tn pn)) hD hS hA [0, 1, 2, 3, 4] rfl
  refine va_calli (va_runV (As := [.int (bI lg)]) (rest := rest) ⟨hx, hb, hml, hown, htB⟩ (c_X_matchingEnd l dC dI h0 a1 a2 a3 a4 cI cZ tx pt qt sr tn pn H.size hp ht lg) (cwV 1 htB (gV hml_X_49 hinm_X_matchingEnd hsel_X_matchingEnd hini_X hco_X_matchingEnd) rfl rfl rfl (by decide +kernel) hR) ⟨fun a U g mk q => by obtain ⟨q0, q1, qP, qK, qD⟩ := q; exact ⟨q0, q1, qP, va_K.moved (u := U) (U := U.calling g mk a) (Vm.Alike.refl U.vm) qK, qD⟩, va_recv hK hP (ci := 0) (q0 := 0) rfl rfl, fun U hU hW => ⟨rfl, by rw [hU], by rw [hU]; exact hP, va_K.moved hW.alike hK, hD.weaken (fun _ _ _ _ => trivial)⟩⟩ rfl rfl hls rfl (lv_room hre) hd ⟨hce.1, hce.2⟩) hS (fun q _ h => hFc q h) hFc (fun r su t H1 locs1 ht hvm hw hB hz1 hk1 hS1 => ?_)
  obtain ⟨hP1, hK1, hD1⟩ := hB
  rw [ht] at hP1
  have hj := va_join (wr := []) (w1 := (wX h0 a1 a2 a3 a4 cI cZ tx pt qt su tn pn)) hP hD [0, 1, 2, 3, 4] [] rfl rfl (by decide) (by decide) hk1 hFc hP1 hD1
  exact kk r su H1 locs1 hw hj.1 hj.2 hS1

set_option maxHeartbeats 4000000 in
set_option maxRecDepth 100000 in
theorem c_X_cut (l : Launch) (dC : Nat → ClassId) (dI : Nat → Nat → Nat) (h0 a1 a2 a3 a4 : Nat) (cI cZ : ClassId) (tx pt qt sr : Nat → Int32) (tn pn : Nat) (sz : Nat) (hp : pn ≤ 200) (ht : tn ≤ 400) (en lg : Bool) : Met l y_X_cut (.code y_X_cut b_X_cut 3 (some .int) :: wB) (Rm 6 146) (va_Pc [.ref h0, .int (bI en), .int (bI lg)] (fun U => U.heap.size = sz ∧ va_P (dC, dI) classes (wX h0 a1 a2 a3 a4 cI cZ tx pt qt sr tn pn) U.heap ∧ va_K (dC, dI) classes (tyIZ cI cZ) U ∧ va_D (fun _ => True) (wX h0 a1 a2 a3 a4 cI cZ tx pt qt sr tn pn))) (va_Qi (fun (r : Int32) (su : Nat → Int32) => r = if en = true then eI tn (rdp tx pt qt pn lg 0 pn 0 ga tn) else oI (fnd (fun j => mX tx pt qt pn 0 j) lg (tn + 1))) (fun (su : Nat → Int32) (t : State) => va_P (dC, dI) classes (wX h0 a1 a2 a3 a4 cI cZ tx pt qt su tn pn) t.heap ∧ va_K (dC, dI) classes (tyIZ cI cZ) t ∧ va_D (va_A (wX h0 a1 a2 a3 a4 cI cZ tx pt qt sr tn pn) sz) (wX h0 a1 a2 a3 a4 cI cZ tx pt qt su tn pn)) (va_A (wX h0 a1 a2 a3 a4 cI cZ tx pt qt sr tn pn) sz)) 0 0 (va_A (wX h0 a1 a2 a3 a4 cI cZ tx pt qt sr tn pn) sz) := by
  refine Met.ofW (cc := b_X_cut) (maxL := 3) (ret := (some .int)) (by decide) rfl ?_
  intro p e s mm args below meth c s₁ B hml hv
  obtain ⟨rfl, hsz, hP, hK, hD0⟩ := hv
  have hx := B.exec
  have hb := B.bytes
  have hr := B.returns
  have hts := atoms_spec (ws := (.code y_X_cut b_X_cut 3 (some .int) :: wB)) B.pre
  have htB : ∀ w ∈ wB, w.before _ s = true := fun w h => hts w (List.mem_cons_of_mem _ h)
  have hown : s.vm.findClass R_X = some mm.cls := findClass_of_methodNamed B.named
  have hlocks := B.notSynchronized
  subst hsz
  have hD := hD0.self (sz := s.heap.size)
  generalize hAe : va_A (wX h0 a1 a2 a3 a4 cI cZ tx pt qt sr tn pn) s.heap.size = A at hD ⊢
  have hA : ∀ q : Nat, s.heap.size ≤ q → A q := fun q h => by rw [← hAe]; exact Or.inr h
  have hS : va_S A s.heap s.heap [] := va_S.rf
  have hP : va_P (dC, dI) classes (wX h0 a1 a2 a3 a4 cI cZ tx pt qt sr tn pn) s.heap := hP
  have hl := lv_entry ([.ref h0, .int (bI en), .int (bI lg)]) (n := 3) (Nat.le_of_ble_eq_true rfl)
  rw [lg_entry_eq]
  generalize (lg_sl ([.ref h0, .int (bI en), .int (bI lg)]) ++ List.replicate (3 - (lg_sl ([.ref h0, .int (bI en), .int (bI lg)])).length) Slot.unset).toArray = ls at hl ⊢
  have hl : lv_has ls 3 [(0, .ref h0), (1, .int (bI en)), (2, .int (bI lg))] := hl
  refine lv_iload_n hx hb d_X_cut_0 rfl (lv_at hl 1 rfl) ?_
  refine lv_if_eq (tgt := 12) hx hb d_X_cut_1 (by decide) (fun c_1 => ?_) (fun c_1 => ?_)
  · have c_1 := bI_z.mp c_1
    refine lv_aload_n hx hb d_X_cut_12 rfl (lv_at hl 0 rfl) ?_
    refine lv_iload_n hx hb d_X_cut_13 rfl (lv_at hl 2 rfl) ?_
    refine r_X_matchingBeginning hp ht hx hb hml hown htB hK hP hD hS hA hl.1 (Nat.le_of_ble_eq_true rfl) ⟨Nat.le_of_ble_eq_true rfl, Nat.le_of_ble_eq_true rfl⟩ ⟨Nat.zero_le _, Nat.zero_le _⟩ d_X_cut_14 (fun r_s1 s1 H locs hs1 hP hD hS => ?_)
    exact W.iret (v := r_s1) hx hb hr (fun t ht hW => ⟨⟨_, s1, rfl, by first | (rw [if_pos ‹_›]; exact hs1) | (rw [if_neg (by rw [‹en = false›]; decide)]; exact hs1), by rw [ht]; exact hP, va_K.moved hW.alike hK, hD⟩, hS.F ht⟩) hS.2.2 d_X_cut_17
  · have c_1 := bI_nz.mp c_1
    refine lv_aload_n hx hb d_X_cut_4 rfl (lv_at hl 0 rfl) ?_
    refine lv_iload_n hx hb d_X_cut_5 rfl (lv_at hl 2 rfl) ?_
    refine r_X_matchingEnd hp ht hx hb hml hown htB hK hP hD hS hA hl.1 (Nat.le_of_ble_eq_true rfl) ⟨Nat.le_of_ble_eq_true rfl, Nat.le_of_ble_eq_true rfl⟩ ⟨Nat.zero_le _, Nat.zero_le _⟩ d_X_cut_6 (fun r_s1 s1 H locs hs1 hP hD hS => ?_)
    refine lv_goto (tgt := 17) hx hb d_X_cut_9 (by decide) ?_
    exact W.iret (v := r_s1) hx hb hr (fun t ht hW => ⟨⟨_, s1, rfl, by first | (rw [if_pos ‹_›]; exact hs1) | (rw [if_neg (by rw [‹en = false›]; decide)]; exact hs1), by rw [ht]; exact hP, va_K.moved hW.alike hK, hD⟩, hS.F ht⟩) hS.2.2 d_X_cut_17

set_option maxHeartbeats 4000000 in
set_option maxRecDepth 100000 in
theorem c_X_count (l : Launch) (dC : Nat → ClassId) (dI : Nat → Nat → Nat) (h0 a1 a2 a3 a4 : Nat) (cI cZ : ClassId) (tx pt qt sr : Nat → Int32) (tn pn : Nat) (hp : pn ≤ 200) (wh : Int32) : Met l y_X_count (.code y_X_count b_X_count 2 (some .int) :: wB) (Rm 4 88) (va_Pc [.ref h0, .int wh] (fun U => va_P (dC, dI) classes (wX h0 a1 a2 a3 a4 cI cZ tx pt qt sr tn pn) U.heap ∧ va_K (dC, dI) classes (tyIZ cI cZ) U)) (vp_Si (fun r => r = ctX tn pn pt qt wh)) 0 0 (fun _ => False) := by
  refine Met.ofW (cc := b_X_count) (maxL := 2) (ret := (some .int)) (by decide) rfl ?_
  intro p e s mm args below meth c s₁ B hml hv
  obtain ⟨rfl, hP, hK⟩ := hv
  have hx := B.exec
  have hb := B.bytes
  have hr := B.returns
  have hts := atoms_spec (ws := (.code y_X_count b_X_count 2 (some .int) :: wB)) B.pre
  have htB : ∀ w ∈ wB, w.before _ s = true := fun w h => hts w (List.mem_cons_of_mem _ h)
  have hown : s.vm.findClass R_X = some mm.cls := findClass_of_methodNamed B.named
  have hlocks := B.notSynchronized
  have hl := lv_entry ([.ref h0, .int wh]) (n := 2) (Nat.le_of_ble_eq_true rfl)
  rw [lg_entry_eq]
  generalize (lg_sl ([.ref h0, .int wh]) ++ List.replicate (2 - (lg_sl ([.ref h0, .int wh])).length) Slot.unset).toArray = ls at hl ⊢
  have hl : lv_has ls 2 [(0, .ref h0), (1, .int wh)] := hl
  refine lv_iload_n hx hb d_X_count_0 rfl (lv_at hl 1 rfl) ?_
  by_cases w0 : wh = nI 0
  · refine lv_tableIn (tgt := 32) (off := 31) hx hb d_X_count_1 (by rw [w0]; decide) (by rw [w0]; decide) (by rw [w0]; decide) (by decide) ?_
    refine lv_aload_n hx hb d_X_count_32 rfl (lv_at hl 0 rfl) ?_
    refine va_get (D := (dC, dI)) (ci := 0) (v := .int (nI tn)) (C := R_X) (T := F_X) (N := 6) hx hb htB in_X hown hK hP 0 rfl rfl 1 (by decide) (htB _ hfl_X_13) (fun _ h9 => h9) rfl d_X_count_33 ?_
    exact W.iret (v := nI tn) hx hb hr (fun t ht hW => ⟨_, rfl, by unfold ctX; rw [if_pos w0], ht⟩) (fun q h => nomatch h) d_X_count_36
  by_cases w1 : wh = nI 1
  · refine lv_tableIn (tgt := 37) (off := 36) hx hb d_X_count_1 (by rw [w1]; decide) (by rw [w1]; decide) (by rw [w1]; decide) (by decide) ?_
    refine lv_aload_n hx hb d_X_count_37 rfl (lv_at hl 0 rfl) ?_
    refine va_get (D := (dC, dI)) (ci := 0) (v := .int (nI pn)) (C := R_X) (T := F_X) (N := 6) hx hb htB in_X hown hK hP 0 rfl rfl 4 (by decide) (htB _ hfl_X_24) (fun _ h9 => h9) rfl d_X_count_38 ?_
    exact W.iret (v := nI pn) hx hb hr (fun t ht hW => ⟨_, rfl, by unfold ctX; rw [if_neg w0, if_pos w1], ht⟩) (fun q h => nomatch h) d_X_count_41
  by_cases w2 : wh = nI 2
  · refine lv_tableIn (tgt := 42) (off := 41) hx hb d_X_count_1 (by rw [w2]; decide) (by rw [w2]; decide) (by rw [w2]; decide) (by decide) ?_
    refine lv_aload_n hx hb d_X_count_42 rfl (lv_at hl 0 rfl) ?_
    refine r_X_quotedCount hp hx hb hml hown htB hK hP hl.1 (Nat.le_of_ble_eq_true rfl) ⟨Nat.le_of_ble_eq_true rfl, Nat.le_of_ble_eq_true rfl⟩ ⟨Nat.zero_le _, Nat.zero_le _⟩ d_X_count_43 ?_
    exact W.iret (v := nI (cq qt pn)) hx hb hr (fun t ht hW => ⟨_, rfl, by unfold ctX; rw [if_neg w0, if_neg w1, if_pos w2], ht⟩) (fun q h => nomatch h) d_X_count_46
  by_cases w3 : wh = nI 3
  · refine lv_tableIn (tgt := 47) (off := 46) hx hb d_X_count_1 (by rw [w3]; decide) (by rw [w3]; decide) (by rw [w3]; decide) (by decide) ?_
    refine lv_aload_n hx hb d_X_count_47 rfl (lv_at hl 0 rfl) ?_
    refine r_X_setCount hp hx hb hml hown htB hK hP hl.1 (Nat.le_of_ble_eq_true rfl) ⟨Nat.le_of_ble_eq_true rfl, Nat.le_of_ble_eq_true rfl⟩ ⟨Nat.zero_le _, Nat.zero_le _⟩ d_X_count_48 ?_
    exact W.iret (v := nI (cs pt qt pn pn)) hx hb hr (fun t ht hW => ⟨_, rfl, by unfold ctX; rw [if_neg w0, if_neg w1, if_neg w2, if_pos w3], ht⟩) (fun q h => nomatch h) d_X_count_51
  refine lv_tableOut (tgt := 52) hx hb d_X_count_1 (out3 w0 w1 w2 w3) (by decide) ?_
  refine lv_iconst (v := -1) hx hb d_X_count_52 (by decide) ?_
  exact W.iret (v := -1) hx hb hr (fun t ht hW => ⟨_, rfl, by unfold ctX; rw [if_neg w0, if_neg w1, if_neg w2, if_neg w3], ht⟩) (fun q h => nomatch h) d_X_count_53

