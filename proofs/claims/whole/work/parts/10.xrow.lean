/-! the class: methods that change the row: by wip/whole/gen/gen10.py -/
set_option maxHeartbeats 4000000 in
set_option maxRecDepth 100000 in
theorem c_X_startOnlyAt (l : Launch) (dC : Nat → ClassId) (dI : Nat → Nat → Nat) (h0 a1 a2 a3 a4 : Nat) (cI cZ : ClassId) (tx pt qt sr : Nat → Int32) (tn pn : Nat) (sz : Nat) (frm too : Nat) (hft : frm ≤ too) (ht4 : too ≤ 400) : Met l y_X_startOnlyAt (.code y_X_startOnlyAt b_X_startOnlyAt 4 none :: wB) (Rm 0 0) (va_Pc [.ref h0, .int (nI frm), .int (nI too)] (fun U => U.heap.size = sz ∧ va_P (dC, dI) classes (wX h0 a1 a2 a3 a4 cI cZ tx pt qt sr tn pn) U.heap ∧ va_K (dC, dI) classes (tyIZ cI cZ) U ∧ va_D (fun _ => True) (wX h0 a1 a2 a3 a4 cI cZ tx pt qt sr tn pn))) (va_Qv (fun (su : Nat → Int32) => su frm = nI frm ∧ ∀ j, frm < j → j ≤ too → su j = -1) (fun (su : Nat → Int32) (t : State) => va_P (dC, dI) classes (wX h0 a1 a2 a3 a4 cI cZ tx pt qt su tn pn) t.heap ∧ va_K (dC, dI) classes (tyIZ cI cZ) t ∧ va_D (va_A (wX h0 a1 a2 a3 a4 cI cZ tx pt qt sr tn pn) sz) (wX h0 a1 a2 a3 a4 cI cZ tx pt qt su tn pn)) (va_A (wX h0 a1 a2 a3 a4 cI cZ tx pt qt sr tn pn) sz)) 0 0 (va_A (wX h0 a1 a2 a3 a4 cI cZ tx pt qt sr tn pn) sz) := by
  refine Met.ofW (cc := b_X_startOnlyAt) (maxL := 4) (ret := none) (by decide) rfl ?_
  intro p e s mm args below meth c s₁ B hml hv
  obtain ⟨rfl, hsz, hP, hK, hD0⟩ := hv
  have hx := B.exec
  have hb := B.bytes
  have hr := B.returns
  have hts := atoms_spec (ws := (.code y_X_startOnlyAt b_X_startOnlyAt 4 none :: wB)) B.pre
  have htB : ∀ w ∈ wB, w.before _ s = true := fun w h => hts w (List.mem_cons_of_mem _ h)
  have hown : s.vm.findClass R_X = some mm.cls := findClass_of_methodNamed B.named
  have hlocks := B.notSynchronized
  subst hsz
  have hD := hD0.self (sz := s.heap.size)
  generalize hAe : va_A (wX h0 a1 a2 a3 a4 cI cZ tx pt qt sr tn pn) s.heap.size = A at hD ⊢
  have hA : ∀ q : Nat, s.heap.size ≤ q → A q := fun q h => by rw [← hAe]; exact Or.inr h
  have hS : va_S A s.heap s.heap [] := va_S.rf
  have hP : va_P (dC, dI) classes (wX h0 a1 a2 a3 a4 cI cZ tx pt qt sr tn pn) s.heap := hP
  have hl := lv_entry ([.ref h0, .int (nI frm), .int (nI too)]) (n := 4) (Nat.le_of_ble_eq_true rfl)
  rw [lg_entry_eq]
  generalize (lg_sl ([.ref h0, .int (nI frm), .int (nI too)]) ++ List.replicate (4 - (lg_sl ([.ref h0, .int (nI frm), .int (nI too)])).length) Slot.unset).toArray = ls at hl ⊢
  have hl : lv_has ls 4 [(0, .ref h0), (1, .int (nI frm)), (2, .int (nI too))] := hl
  have loop : ∀ (n i : Nat) (sv : Nat → Int32) (H : Heap) (locs : List Loc), i ≤ 1000 → 1000 < i + n → frm < i → sv frm = nI frm → (∀ j, frm < j → j < i → sv j = -1) → va_P (dC, dI) classes (wX h0 a1 a2 a3 a4 cI cZ tx pt qt sv tn pn) H → va_D A (wX h0 a1 a2 a3 a4 cI cZ tx pt qt sv tn pn) → va_S A s.heap H locs → ∀ ls : Array Slot, lv_has ls 4 [(3, .int (nI i)), (0, .ref h0), (1, .int (nI frm)), (2, .int (nI too))] → W p l e (Rm 0 0) s mm [.ref h0, .int (nI frm), .int (nI too)].toArray below meth c H locs 0 0 (MQ below (va_Qv (fun (su : Nat → Int32) => su frm = nI frm ∧ ∀ j, frm < j → j ≤ too → su j = -1) (fun (su : Nat → Int32) (t : State) => va_P (dC, dI) classes (wX h0 a1 a2 a3 a4 cI cZ tx pt qt su tn pn) t.heap ∧ va_K (dC, dI) classes (tyIZ cI cZ) t ∧ va_D A (wX h0 a1 a2 a3 a4 cI cZ tx pt qt su tn pn)) A) [.ref h0, .int (nI frm), .int (nI too)].toArray s 0 0 A) (F0 mm 11 ls []) := by
    intro n
    induction n with
    | zero => intro i sv H locs h1 h2; exact absurd h2 (by omega)
    | succ n ih =>
      intro i sv H locs hi hn hfi hE1 hE2 hP hD hS ls hl
      refine lv_iload_n hx hb d_X_startOnlyAt_11 rfl (lv_at hl 0 rfl) ?_
      refine lv_iload_n hx hb d_X_startOnlyAt_12 rfl (lv_at hl 3 rfl) ?_
      refine lv_icmp_gt (tgt := 29) hx hb d_X_startOnlyAt_13 (by decide) (fun c_1 => ?_) (fun c_1 => ?_)
      · have c_1 := (nI_ltI (by omega) (by omega)).mp c_1
        exact W.vret hx hb hr (fun t ht hW => ⟨⟨sv, rfl, ⟨hE1, fun j q1 q2 => hE2 j q1 (by omega)⟩, by rw [ht]; exact hP, va_K.moved hW.alike hK, hD⟩, hS.F ht⟩) hS.2.2 d_X_startOnlyAt_29
      · have c_1 := mt (nI_ltI (by omega) (by omega)).mpr c_1
        refine lv_aload_n hx hb d_X_startOnlyAt_16 rfl (lv_at hl 1 rfl) ?_
        refine va_get (D := (dC, dI)) (ci := 0) (v := .ref a4) (C := R_X) (T := F_X) (N := 6) hx hb htB in_X hown hK hP 0 rfl rfl 5 (by decide) (htB _ hfl_X_27) (fun _ h9 => h9) rfl d_X_startOnlyAt_17 ?_
        refine lv_iload_n hx hb d_X_startOnlyAt_20 rfl (lv_at hl 0 rfl) ?_
        refine lv_iconst (v := -1) hx hb d_X_startOnlyAt_21 (by decide) ?_
        refine va_iast hx hb hK hP hD hS 4 0 rfl rfl (vp_in_nI (n := i) (by omega) (by decide)) d_X_startOnlyAt_22 (fun H locs hP hD hS => ?_)
        rw [nI_clamp (n := i) (by omega)] at hP hD
        have hP : va_P (dC, dI) classes (wX h0 a1 a2 a3 a4 cI cZ tx pt qt (upd sv i (-1)) tn pn) H := hP
        have hD : va_D A (wX h0 a1 a2 a3 a4 cI cZ tx pt qt (upd sv i (-1)) tn pn) := hD
        refine lv_iinc (v := nI (i + 1)) (lv' := [(3, .int (nI (i + 1))), (0, .ref h0), (1, .int (nI frm)), (2, .int (nI too))]) hx hb d_X_startOnlyAt_23 hl (k := 0) rfl (nI_add _ 1) (by decide) rfl (fun ls hl => ?_)
        refine lv_goto (tgt := 11) hx hb d_X_startOnlyAt_26 (by decide) ?_
        refine ih (i + 1) _ _ _ (by omega) (by omega) (by omega) (by rw [pk_un (by omega)]; exact hE1) (fun j q1 q2 => ?_) hP hD hS ls hl
        by_cases q : j = i
        · subst q; exact pk_us
        · rw [pk_un q]; exact hE2 j q1 (by omega)
  refine lv_aload_n hx hb d_X_startOnlyAt_0 rfl (lv_at hl 0 rfl) ?_
  refine va_get (D := (dC, dI)) (ci := 0) (v := .ref a4) (C := R_X) (T := F_X) (N := 6) hx hb htB in_X hown hK hP 0 rfl rfl 5 (by decide) (htB _ hfl_X_27) (fun _ h9 => h9) rfl d_X_startOnlyAt_1 ?_
  refine lv_iload_n hx hb d_X_startOnlyAt_4 rfl (lv_at hl 1 rfl) ?_
  refine lv_iload_n hx hb d_X_startOnlyAt_5 rfl (lv_at hl 1 rfl) ?_
  refine va_iast hx hb hK hP hD hS 4 0 rfl rfl (vp_in_nI (n := frm) (by omega) (by decide)) d_X_startOnlyAt_6 (fun H locs hP hD hS => ?_)
  rw [nI_clamp (n := frm) (by omega)] at hP hD
  have hP : va_P (dC, dI) classes (wX h0 a1 a2 a3 a4 cI cZ tx pt qt (upd sr frm (nI frm)) tn pn) H := hP
  have hD : va_D A (wX h0 a1 a2 a3 a4 cI cZ tx pt qt (upd sr frm (nI frm)) tn pn) := hD
  refine lv_iload_n hx hb d_X_startOnlyAt_7 rfl (lv_at hl 1 rfl) ?_
  refine lv_iconst (v := nI 1) hx hb d_X_startOnlyAt_8 (by decide) ?_
  refine lv_iadd hx hb d_X_startOnlyAt_9 ?_
  refine lv_topi (fun v_1 ev_1 => ?_)
  obtain rfl : v_1 = nI (frm + 1) := ev_1.trans (nI_add _ _)
  refine lv_istore_n (lv' := [(3, .int (nI (frm + 1))), (0, .ref h0), (1, .int (nI frm)), (2, .int (nI too))]) hx hb d_X_startOnlyAt_10 rfl hl (by decide) rfl (fun ls hl => ?_)
  exact loop 1001 (frm + 1) _ _ _ (by omega) (by omega) (by omega) pk_us (fun j q1 q2 => absurd q1 (by omega)) hP hD hS ls hl

theorem r_X_startOnlyAt {p : Program} {l : Launch} {e : Env} {R : Room} {s : State} {mm : MethodId} {args : Array Value} {below : List Frame} {meth : Method} {c : Code} {H : Heap} {locs : List Loc} {cells slots : Nat} {Q : State → Prop} {cc : ByteArray} {pcn nL : Nat} {ls : Array Slot} {rest : List Value} {dC : Nat → ClassId} {dI : Nat → Nat → Nat} {h0 a1 a2 a3 a4 : Nat} {cI cZ : ClassId} {tx pt qt sr : Nat → Int32} {tn pn : Nat} {A : Nat → Prop} {H0 : Heap} {frm too : Nat} (hft : frm ≤ too) (ht4 : too ≤ 400) (hx : p.tables.exec = Jvm.exec) (hb : c.code = cc) (hml : c.maxLocals = nL) (hown : s.vm.findClass R_X = some mm.cls) (htB : ∀ w ∈ wB, w.before args s = true) (hK : va_K (dC, dI) classes (tyIZ cI cZ) s) (hP : va_P (dC, dI) classes (wX h0 a1 a2 a3 a4 cI cZ tx pt qt sr tn pn) H) (hD : va_D A (wX h0 a1 a2 a3 a4 cI cZ tx pt qt sr tn pn)) (hS : va_S A H0 H locs) (hA : ∀ q : Nat, H0.size ≤ q → A q) (hls : ls.size = nL) (hre : (rest.map fun v => v.category).sum ≤ 8) (hR : 0 + 1 ≤ R.frames ∧ 8 + (4 + 11) + 0 ≤ R.locals) (hce : cells ≤ R.cells ∧ slots ≤ R.slots) (hd : decode cc pcn = .ok (.invokevirtual 73, 3)) (kk : ∀ (su : Nat → Int32) (H1 : Heap) (locs1 : List Loc), (su frm = nI frm ∧ ∀ j, frm < j → j ≤ too → su j = -1) → va_P (dC, dI) classes (wX h0 a1 a2 a3 a4 cI cZ tx pt qt su tn pn) H1 → va_D A (wX h0 a1 a2 a3 a4 cI cZ tx pt qt su tn pn) → va_S A H0 H1 locs1 → W p l e R s mm args below meth c H1 locs1 cells slots Q (F0 mm (pcn + 3) ls (rest))) : W p l e R s mm args below meth c H locs cells slots Q (F0 mm pcn ls (.int (nI too) :: .int (nI frm) :: .ref h0 :: rest)) := by
  have hFc := va_free (wc := (wX h0 a1 a2 a3 a4 cI cZ tx pt qt sr tn pn)) hD hS hA [0, 1, 2, 3, 4] rfl
  refine va_callv (va_runV (As := [.int (nI frm), .int (nI too)]) (rest := rest) ⟨hx, hb, hml, hown, htB⟩ (c_X_startOnlyAt l dC dI h0 a1 a2 a3 a4 cI cZ tx pt qt sr tn pn H.size frm too hft ht4) (cwV 2 htB (gV hml_X_73 hinm_X_startOnlyAt hsel_X_startOnlyAt hini_X hco_X_startOnlyAt) rfl rfl rfl (by decide +kernel) hR) ⟨fun a U g mk q => by obtain ⟨q0, q1, qP, qK, qD⟩ := q; exact ⟨q0, q1, qP, va_K.moved (u := U) (U := U.calling g mk a) (Vm.Alike.refl U.vm) qK, qD⟩, va_recv hK hP (ci := 0) (q0 := 0) rfl rfl, fun U hU hW => ⟨rfl, by rw [hU], by rw [hU]; exact hP, va_K.moved hW.alike hK, hD.weaken (fun _ _ _ _ => trivial)⟩⟩ rfl rfl hls rfl (lv_room hre) hd ⟨hce.1, hce.2⟩) hS (fun q _ h => hFc q h) hFc (fun su t H1 locs1 ht hvm hw hB hz1 hk1 hS1 => ?_)
  obtain ⟨hP1, hK1, hD1⟩ := hB
  rw [ht] at hP1
  have hj := va_join (wr := []) (w1 := (wX h0 a1 a2 a3 a4 cI cZ tx pt qt su tn pn)) hP hD [0, 1, 2, 3, 4] [] rfl rfl (by decide) (by decide) hk1 hFc hP1 hD1
  exact kk su H1 locs1 hw hj.1 hj.2 hS1

set_option maxHeartbeats 4000000 in
set_option maxRecDepth 100000 in
theorem c_X_startAnywhere (l : Launch) (dC : Nat → ClassId) (dI : Nat → Nat → Nat) (h0 a1 a2 a3 a4 : Nat) (cI cZ : ClassId) (tx pt qt sr : Nat → Int32) (tn pn : Nat) (sz : Nat) (ht : tn ≤ 400) : Met l y_X_startAnywhere (.code y_X_startAnywhere b_X_startAnywhere 2 none :: wB) (Rm 0 0) (va_Pc [.ref h0] (fun U => U.heap.size = sz ∧ va_P (dC, dI) classes (wX h0 a1 a2 a3 a4 cI cZ tx pt qt sr tn pn) U.heap ∧ va_K (dC, dI) classes (tyIZ cI cZ) U ∧ va_D (fun _ => True) (wX h0 a1 a2 a3 a4 cI cZ tx pt qt sr tn pn))) (va_Qv (fun (su : Nat → Int32) => ∀ j, j ≤ tn → su j = nI j) (fun (su : Nat → Int32) (t : State) => va_P (dC, dI) classes (wX h0 a1 a2 a3 a4 cI cZ tx pt qt su tn pn) t.heap ∧ va_K (dC, dI) classes (tyIZ cI cZ) t ∧ va_D (va_A (wX h0 a1 a2 a3 a4 cI cZ tx pt qt sr tn pn) sz) (wX h0 a1 a2 a3 a4 cI cZ tx pt qt su tn pn)) (va_A (wX h0 a1 a2 a3 a4 cI cZ tx pt qt sr tn pn) sz)) 0 0 (va_A (wX h0 a1 a2 a3 a4 cI cZ tx pt qt sr tn pn) sz) := by
  refine Met.ofW (cc := b_X_startAnywhere) (maxL := 2) (ret := none) (by decide) rfl ?_
  intro p e s mm args below meth c s₁ B hml hv
  obtain ⟨rfl, hsz, hP, hK, hD0⟩ := hv
  have hx := B.exec
  have hb := B.bytes
  have hr := B.returns
  have hts := atoms_spec (ws := (.code y_X_startAnywhere b_X_startAnywhere 2 none :: wB)) B.pre
  have htB : ∀ w ∈ wB, w.before _ s = true := fun w h => hts w (List.mem_cons_of_mem _ h)
  have hown : s.vm.findClass R_X = some mm.cls := findClass_of_methodNamed B.named
  have hlocks := B.notSynchronized
  subst hsz
  have hD := hD0.self (sz := s.heap.size)
  generalize hAe : va_A (wX h0 a1 a2 a3 a4 cI cZ tx pt qt sr tn pn) s.heap.size = A at hD ⊢
  have hA : ∀ q : Nat, s.heap.size ≤ q → A q := fun q h => by rw [← hAe]; exact Or.inr h
  have hS : va_S A s.heap s.heap [] := va_S.rf
  have hP : va_P (dC, dI) classes (wX h0 a1 a2 a3 a4 cI cZ tx pt qt sr tn pn) s.heap := hP
  have hl := lv_entry ([.ref h0]) (n := 2) (Nat.le_of_ble_eq_true rfl)
  rw [lg_entry_eq]
  generalize (lg_sl ([.ref h0]) ++ List.replicate (2 - (lg_sl ([.ref h0])).length) Slot.unset).toArray = ls at hl ⊢
  have hl : lv_has ls 2 [(0, .ref h0)] := hl
  have loop : ∀ (n i : Nat) (sv : Nat → Int32) (H : Heap) (locs : List Loc), i ≤ 1000 → 1000 < i + n → (∀ j, j < i → sv j = nI j) → va_P (dC, dI) classes (wX h0 a1 a2 a3 a4 cI cZ tx pt qt sv tn pn) H → va_D A (wX h0 a1 a2 a3 a4 cI cZ tx pt qt sv tn pn) → va_S A s.heap H locs → ∀ ls : Array Slot, lv_has ls 2 [(1, .int (nI i)), (0, .ref h0)] → W p l e (Rm 0 0) s mm [.ref h0].toArray below meth c H locs 0 0 (MQ below (va_Qv (fun (su : Nat → Int32) => ∀ j, j ≤ tn → su j = nI j) (fun (su : Nat → Int32) (t : State) => va_P (dC, dI) classes (wX h0 a1 a2 a3 a4 cI cZ tx pt qt su tn pn) t.heap ∧ va_K (dC, dI) classes (tyIZ cI cZ) t ∧ va_D A (wX h0 a1 a2 a3 a4 cI cZ tx pt qt su tn pn)) A) [.ref h0].toArray s 0 0 A) (F0 mm 2 ls []) := by
    intro n
    induction n with
    | zero => intro i sv H locs h1 h2; exact absurd h2 (by omega)
    | succ n ih =>
      intro i sv H locs hi hn hE2 hP hD hS ls hl
      refine lv_iload_n hx hb d_X_startAnywhere_2 rfl (lv_at hl 0 rfl) ?_
      refine lv_aload_n hx hb d_X_startAnywhere_3 rfl (lv_at hl 1 rfl) ?_
      refine va_get (D := (dC, dI)) (ci := 0) (v := .int (nI tn)) (C := R_X) (T := F_X) (N := 6) hx hb htB in_X hown hK hP 0 rfl rfl 1 (by decide) (htB _ hfl_X_13) (fun _ h9 => h9) rfl d_X_startAnywhere_4 ?_
      refine lv_icmp_gt (tgt := 23) hx hb d_X_startAnywhere_7 (by decide) (fun c_1 => ?_) (fun c_1 => ?_)
      · have c_1 := (nI_ltI (by omega) (by omega)).mp c_1
        exact W.vret hx hb hr (fun t ht hW => ⟨⟨sv, rfl, fun j q => hE2 j (by omega), by rw [ht]; exact hP, va_K.moved hW.alike hK, hD⟩, hS.F ht⟩) hS.2.2 d_X_startAnywhere_23
      · have c_1 := mt (nI_ltI (by omega) (by omega)).mpr c_1
        refine lv_aload_n hx hb d_X_startAnywhere_10 rfl (lv_at hl 1 rfl) ?_
        refine va_get (D := (dC, dI)) (ci := 0) (v := .ref a4) (C := R_X) (T := F_X) (N := 6) hx hb htB in_X hown hK hP 0 rfl rfl 5 (by decide) (htB _ hfl_X_27) (fun _ h9 => h9) rfl d_X_startAnywhere_11 ?_
        refine lv_iload_n hx hb d_X_startAnywhere_14 rfl (lv_at hl 0 rfl) ?_
        refine lv_iload_n hx hb d_X_startAnywhere_15 rfl (lv_at hl 0 rfl) ?_
        refine va_iast hx hb hK hP hD hS 4 0 rfl rfl (vp_in_nI (n := i) (by omega) (by decide)) d_X_startAnywhere_16 (fun H locs hP hD hS => ?_)
        rw [nI_clamp (n := i) (by omega)] at hP hD
        have hP : va_P (dC, dI) classes (wX h0 a1 a2 a3 a4 cI cZ tx pt qt (upd sv i (nI i)) tn pn) H := hP
        have hD : va_D A (wX h0 a1 a2 a3 a4 cI cZ tx pt qt (upd sv i (nI i)) tn pn) := hD
        refine lv_iinc (v := nI (i + 1)) (lv' := [(1, .int (nI (i + 1))), (0, .ref h0)]) hx hb d_X_startAnywhere_17 hl (k := 0) rfl (nI_add _ 1) (by decide) rfl (fun ls hl => ?_)
        refine lv_goto (tgt := 2) hx hb d_X_startAnywhere_20 (by decide) ?_
        refine ih (i + 1) _ _ _ (by omega) (by omega) (fun j q2 => ?_) hP hD hS ls hl
        by_cases q : j = i
        · subst q; exact pk_us
        · rw [pk_un q]; exact hE2 j (by omega)
  refine lv_iconst (v := nI 0) hx hb d_X_startAnywhere_0 (by decide) ?_
  refine lv_istore_n (lv' := [(1, .int (nI 0)), (0, .ref h0)]) hx hb d_X_startAnywhere_1 rfl hl (by decide) rfl (fun ls hl => ?_)
  exact loop 1001 0 _ _ _ (by omega) (by omega) (fun j q1 => absurd q1 (by omega)) hP hD hS ls hl

theorem r_X_startAnywhere {p : Program} {l : Launch} {e : Env} {R : Room} {s : State} {mm : MethodId} {args : Array Value} {below : List Frame} {meth : Method} {c : Code} {H : Heap} {locs : List Loc} {cells slots : Nat} {Q : State → Prop} {cc : ByteArray} {pcn nL : Nat} {ls : Array Slot} {rest : List Value} {dC : Nat → ClassId} {dI : Nat → Nat → Nat} {h0 a1 a2 a3 a4 : Nat} {cI cZ : ClassId} {tx pt qt sr : Nat → Int32} {tn pn : Nat} {A : Nat → Prop} {H0 : Heap} (ht : tn ≤ 400) (hx : p.tables.exec = Jvm.exec) (hb : c.code = cc) (hml : c.maxLocals = nL) (hown : s.vm.findClass R_X = some mm.cls) (htB : ∀ w ∈ wB, w.before args s = true) (hK : va_K (dC, dI) classes (tyIZ cI cZ) s) (hP : va_P (dC, dI) classes (wX h0 a1 a2 a3 a4 cI cZ tx pt qt sr tn pn) H) (hD : va_D A (wX h0 a1 a2 a3 a4 cI cZ tx pt qt sr tn pn)) (hS : va_S A H0 H locs) (hA : ∀ q : Nat, H0.size ≤ q → A q) (hls : ls.size = nL) (hre : (rest.map fun v => v.category).sum ≤ 8) (hR : 0 + 1 ≤ R.frames ∧ 8 + (2 + 11) + 0 ≤ R.locals) (hce : cells ≤ R.cells ∧ slots ≤ R.slots) (hd : decode cc pcn = .ok (.invokevirtual 81, 3)) (kk : ∀ (su : Nat → Int32) (H1 : Heap) (locs1 : List Loc), (∀ j, j ≤ tn → su j = nI j) → va_P (dC, dI) classes (wX h0 a1 a2 a3 a4 cI cZ tx pt qt su tn pn) H1 → va_D A (wX h0 a1 a2 a3 a4 cI cZ tx pt qt su tn pn) → va_S A H0 H1 locs1 → W p l e R s mm args below meth c H1 locs1 cells slots Q (F0 mm (pcn + 3) ls (rest))) : W p l e R s mm args below meth c H locs cells slots Q (F0 mm pcn ls (.ref h0 :: rest)) := by
  have hFc := va_free (wc := (wX h0 a1 a2 a3 a4 cI cZ tx pt qt sr tn pn)) hD hS hA [0, 1, 2, 3, 4] rfl
  refine va_callv (va_runV (As := []) (rest := rest) ⟨hx, hb, hml, hown, htB⟩ (c_X_startAnywhere l dC dI h0 a1 a2 a3 a4 cI cZ tx pt qt sr tn pn H.size ht) (cwV 0 htB (gV hml_X_81 hinm_X_startAnywhere hsel_X_startAnywhere hini_X hco_X_startAnywhere) rfl rfl rfl (by decide +kernel) hR) ⟨fun a U g mk q => by obtain ⟨q0, q1, qP, qK, qD⟩ := q; exact ⟨q0, q1, qP, va_K.moved (u := U) (U := U.calling g mk a) (Vm.Alike.refl U.vm) qK, qD⟩, va_recv hK hP (ci := 0) (q0 := 0) rfl rfl, fun U hU hW => ⟨rfl, by rw [hU], by rw [hU]; exact hP, va_K.moved hW.alike hK, hD.weaken (fun _ _ _ _ => trivial)⟩⟩ rfl rfl hls rfl (lv_room hre) hd ⟨hce.1, hce.2⟩) hS (fun q _ h => hFc q h) hFc (fun su t H1 locs1 ht hvm hw hB hz1 hk1 hS1 => ?_)
  obtain ⟨hP1, hK1, hD1⟩ := hB
  rw [ht] at hP1
  have hj := va_join (wr := []) (w1 := (wX h0 a1 a2 a3 a4 cI cZ tx pt qt su tn pn)) hP hD [0, 1, 2, 3, 4] [] rfl rfl (by decide) (by decide) hk1 hFc hP1 hD1
  exact kk su H1 locs1 hw hj.1 hj.2 hS1

