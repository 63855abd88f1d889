/-! the class: the row behind a sign, behind the pattern: by wip/whole/gen/gen11.py -/
set_option maxHeartbeats 4000000 in
set_option maxRecDepth 100000 in
theorem c_X_takeAnyRow (l : Launch) (dC : Nat → ClassId) (dI : Nat → Nat → Nat) (h0 a1 a2 a3 a4 : Nat) (cI cZ : ClassId) (tx pt qt sr : Nat → Int32) (tn pn : Nat) (sz : Nat) (frm too : Nat) (hft : frm ≤ too) (ht4 : too ≤ 400) (b : Bool) (g : Nat → Option Nat) (hg : sml g) (hsr : ∀ j, frm ≤ j → j ≤ too → sr j = oI (g j)) : Met l y_X_takeAnyRow (.code y_X_takeAnyRow b_X_takeAnyRow 5 none :: wB) (Rm 2 52) (va_Pc [.ref h0, .int (nI frm), .int (nI too), .int (bI b)] (fun U => U.heap.size = sz ∧ va_P (dC, dI) classes (wX h0 a1 a2 a3 a4 cI cZ tx pt qt sr tn pn) U.heap ∧ va_K (dC, dI) classes (tyIZ cI cZ) U ∧ va_D (fun _ => True) (wX h0 a1 a2 a3 a4 cI cZ tx pt qt sr tn pn))) (va_Qv (fun (su : Nat → Int32) => ∀ j, frm ≤ j → j ≤ too → su j = oI (tar b g frm (j - frm))) (fun (su : Nat → Int32) (t : State) => va_P (dC, dI) classes (wX h0 a1 a2 a3 a4 cI cZ tx pt qt su tn pn) t.heap ∧ va_K (dC, dI) classes (tyIZ cI cZ) t ∧ va_D (va_A (wX h0 a1 a2 a3 a4 cI cZ tx pt qt sr tn pn) sz) (wX h0 a1 a2 a3 a4 cI cZ tx pt qt su tn pn)) (va_A (wX h0 a1 a2 a3 a4 cI cZ tx pt qt sr tn pn) sz)) 0 0 (va_A (wX h0 a1 a2 a3 a4 cI cZ tx pt qt sr tn pn) sz) := by
  refine Met.ofW (cc := b_X_takeAnyRow) (maxL := 5) (ret := none) (by decide) rfl ?_
  intro p e s mm args below meth c s₁ B hml hv
  obtain ⟨rfl, hsz, hP, hK, hD0⟩ := hv
  have hx := B.exec
  have hb := B.bytes
  have hr := B.returns
  have hts := atoms_spec (ws := (.code y_X_takeAnyRow b_X_takeAnyRow 5 none :: wB)) B.pre
  have htB : ∀ w ∈ wB, w.before _ s = true := fun w h => hts w (List.mem_cons_of_mem _ h)
  have hown : s.vm.findClass R_X = some mm.cls := findClass_of_methodNamed B.named
  have hlocks := B.notSynchronized
  subst hsz
  have hD := hD0.self (sz := s.heap.size)
  generalize hAe : va_A (wX h0 a1 a2 a3 a4 cI cZ tx pt qt sr tn pn) s.heap.size = A at hD ⊢
  have hA : ∀ q : Nat, s.heap.size ≤ q → A q := fun q h => by rw [← hAe]; exact Or.inr h
  have hS : va_S A s.heap s.heap [] := va_S.rf
  have hP : va_P (dC, dI) classes (wX h0 a1 a2 a3 a4 cI cZ tx pt qt sr tn pn) s.heap := hP
  have hl := lv_entry ([.ref h0, .int (nI frm), .int (nI too), .int (bI b)]) (n := 5) (Nat.le_of_ble_eq_true rfl)
  rw [lg_entry_eq]
  generalize (lg_sl ([.ref h0, .int (nI frm), .int (nI too), .int (bI b)]) ++ List.replicate (5 - (lg_sl ([.ref h0, .int (nI frm), .int (nI too), .int (bI b)])).length) Slot.unset).toArray = ls at hl ⊢
  have hl : lv_has ls 5 [(0, .ref h0), (1, .int (nI frm)), (2, .int (nI too)), (3, .int (bI b))] := hl
  have loop : ∀ (n i : Nat) (sv : Nat → Int32) (H : Heap) (locs : List Loc), i ≤ 1000 → 1000 < i + n → frm < i → (∀ j, frm ≤ j → j < i → j ≤ too → sv j = oI (tar b g frm (j - frm))) → (∀ j, i ≤ j → j ≤ too → sv j = oI (g j)) → va_P (dC, dI) classes (wX h0 a1 a2 a3 a4 cI cZ tx pt qt sv tn pn) H → va_D A (wX h0 a1 a2 a3 a4 cI cZ tx pt qt sv tn pn) → va_S A s.heap H locs → ∀ ls : Array Slot, lv_has ls 5 [(4, .int (nI i)), (0, .ref h0), (1, .int (nI frm)), (2, .int (nI too)), (3, .int (bI b))] → W p l e (Rm 2 52) s mm [.ref h0, .int (nI frm), .int (nI too), .int (bI b)].toArray below meth c H locs 0 0 (MQ below (va_Qv (fun (su : Nat → Int32) => ∀ j, frm ≤ j → j ≤ too → su j = oI (tar b g frm (j - frm))) (fun (su : Nat → Int32) (t : State) => va_P (dC, dI) classes (wX h0 a1 a2 a3 a4 cI cZ tx pt qt su tn pn) t.heap ∧ va_K (dC, dI) classes (tyIZ cI cZ) t ∧ va_D A (wX h0 a1 a2 a3 a4 cI cZ tx pt qt su tn pn)) A) [.ref h0, .int (nI frm), .int (nI too), .int (bI b)].toArray s 0 0 A) (F0 mm 5 ls []) := by
    intro n
    induction n with
    | zero => intro i sv H locs h1 h2; exact absurd h2 (by omega)
    | succ n ih =>
      intro i sv H locs hi hn hfi hE1 hE2 hP hD hS ls hl
      refine lv_iload hx hb d_X_takeAnyRow_5 (lv_at hl 0 rfl) ?_
      refine lv_iload_n hx hb d_X_takeAnyRow_7 rfl (lv_at hl 3 rfl) ?_
      refine lv_icmp_gt (tgt := 44) hx hb d_X_takeAnyRow_8 (by decide) (fun c_1 => ?_) (fun c_1 => ?_)
      · have c_1 := (nI_ltI (by omega) (by omega)).mp c_1
        exact W.vret hx hb hr (fun t ht hW => ⟨⟨sv, rfl, fun j q1 q2 => hE1 j q1 (by omega) q2, by rw [ht]; exact hP, va_K.moved hW.alike hK, hD⟩, hS.F ht⟩) hS.2.2 d_X_takeAnyRow_44
      · have c_1 := mt (nI_ltI (by omega) (by omega)).mpr c_1
        refine lv_aload_n hx hb d_X_takeAnyRow_11 rfl (lv_at hl 1 rfl) ?_
        refine va_get (D := (dC, dI)) (ci := 0) (v := .ref a4) (C := R_X) (T := F_X) (N := 6) hx hb htB in_X hown hK hP 0 rfl rfl 5 (by decide) (htB _ hfl_X_27) (fun _ h9 => h9) rfl d_X_takeAnyRow_12 ?_
        refine lv_iload hx hb d_X_takeAnyRow_15 (lv_at hl 0 rfl) ?_
        refine lv_aload_n hx hb d_X_takeAnyRow_17 rfl (lv_at hl 1 rfl) ?_
        refine va_get (D := (dC, dI)) (ci := 0) (v := .ref a4) (C := R_X) (T := F_X) (N := 6) hx hb htB in_X hown hK hP 0 rfl rfl 5 (by decide) (htB _ hfl_X_27) (fun _ h9 => h9) rfl d_X_takeAnyRow_18 ?_
        refine lv_iload hx hb d_X_takeAnyRow_21 (lv_at hl 0 rfl) ?_
        refine lv_iconst (v := nI 1) hx hb d_X_takeAnyRow_23 (by decide) ?_
        refine lv_isub hx hb d_X_takeAnyRow_24 ?_
        refine lv_topi (fun v_2 ev_2 => ?_)
        obtain rfl : v_2 = nI (i - 1) := ev_2.trans (pk_sub (by omega))
        refine va_iald hx hb hK hP 4 0 rfl rfl (vp_in_nI (n := i - 1) (by omega) (by decide)) d_X_takeAnyRow_25 ?_
        refine lv_topi (fun v_3 ev_3 => ?_)
        obtain rfl : v_3 = oI (tar b g frm (i - 1 - frm)) := (show v_3 = sv (i - 1) from ev_3.trans (by rw [nI_clamp (n := i - 1) (by omega)])).trans (hE1 (i - 1) (by omega) (by omega) (by omega))
        refine lv_aload_n hx hb d_X_takeAnyRow_26 rfl (lv_at hl 1 rfl) ?_
        refine va_get (D := (dC, dI)) (ci := 0) (v := .ref a4) (C := R_X) (T := F_X) (N := 6) hx hb htB in_X hown hK hP 0 rfl rfl 5 (by decide) (htB _ hfl_X_27) (fun _ h9 => h9) rfl d_X_takeAnyRow_27 ?_
        refine lv_iload hx hb d_X_takeAnyRow_30 (lv_at hl 0 rfl) ?_
        refine va_iald hx hb hK hP 4 0 rfl rfl (vp_in_nI (n := i) (by omega) (by decide)) d_X_takeAnyRow_32 ?_
        refine lv_topi (fun v_4 ev_4 => ?_)
        obtain rfl : v_4 = oI (g i) := (show v_4 = sv i from ev_4.trans (by rw [nI_clamp (n := i) (by omega)])).trans (hE2 i (by omega) (by omega))
        refine lv_iload_n hx hb d_X_takeAnyRow_33 rfl (lv_at hl 4 rfl) ?_
        refine r_X_better (fun k q => Nat.le_trans (tar_sml hg _ k q) (by decide)) (fun k q => Nat.le_trans (hg _ k q) (by decide)) hx hb hml hown htB hl.1 (Nat.le_of_ble_eq_true rfl) ⟨Nat.le_of_ble_eq_true rfl, Nat.le_of_ble_eq_true rfl⟩ ⟨Nat.zero_le _, Nat.zero_le _⟩ d_X_takeAnyRow_34 ?_
        refine va_iast hx hb hK hP hD hS 4 0 rfl rfl (vp_in_nI (n := i) (by omega) (by decide)) d_X_takeAnyRow_37 (fun H locs hP hD hS => ?_)
        rw [nI_clamp (n := i) (by omega)] at hP hD
        have hP : va_P (dC, dI) classes (wX h0 a1 a2 a3 a4 cI cZ tx pt qt (upd sv i (oI (btr b ((tar b g frm (i - 1 - frm))) ((g i))))) tn pn) H := hP
        have hD : va_D A (wX h0 a1 a2 a3 a4 cI cZ tx pt qt (upd sv i (oI (btr b ((tar b g frm (i - 1 - frm))) ((g i))))) tn pn) := hD
        refine lv_iinc (v := nI (i + 1)) (lv' := [(4, .int (nI (i + 1))), (0, .ref h0), (1, .int (nI frm)), (2, .int (nI too)), (3, .int (bI b))]) hx hb d_X_takeAnyRow_38 hl (k := 0) rfl (nI_add _ 1) (by decide) rfl (fun ls hl => ?_)
        refine lv_goto (tgt := 5) hx hb d_X_takeAnyRow_41 (by decide) ?_
        refine ih (i + 1) _ _ _ (by omega) (by omega) (by omega) (fun j q1 q2 q3 => ?_) (fun j q1 q2 => ?_) hP hD hS ls (lv_sub hl [0, 1, 2, 3, 4] rfl)
        · by_cases q : j = i
          · subst q; rw [pk_us, tar_go hfi]
          · rw [pk_un q]; exact hE1 j q1 (by omega) q3
        · rw [pk_un (by omega)]; exact hE2 j (by omega) q2
  refine lv_iload_n hx hb d_X_takeAnyRow_0 rfl (lv_at hl 1 rfl) ?_
  refine lv_iconst (v := nI 1) hx hb d_X_takeAnyRow_1 (by decide) ?_
  refine lv_iadd hx hb d_X_takeAnyRow_2 ?_
  refine lv_topi (fun v_1 ev_1 => ?_)
  obtain rfl : v_1 = nI (frm + 1) := ev_1.trans (nI_add _ _)
  refine lv_istore (lv' := [(4, .int (nI (frm + 1))), (0, .ref h0), (1, .int (nI frm)), (2, .int (nI too)), (3, .int (bI b))]) hx hb d_X_takeAnyRow_3 hl (by decide) rfl (fun ls hl => ?_)
  refine loop 1001 (frm + 1) _ _ _ (by omega) (by omega) (by omega) (fun j q1 q2 q3 => ?_) (fun j q1 q2 => hsr j (by omega) q2) hP hD hS ls (lv_sub hl [0, 1, 2, 3, 4] rfl)
  obtain rfl : j = frm := by omega
  rw [hsr j (by omega) q3, Nat.sub_self]; rfl

theorem r_X_takeAnyRow {p : Program} {l : Launch} {e : Env} {R : Room} {s : State} {mm : MethodId} {args : Array Value} {below : List Frame} {meth : Method} {c : Code} {H : Heap} {locs : List Loc} {cells slots : Nat} {Q : State → Prop} {cc : ByteArray} {pcn nL : Nat} {ls : Array Slot} {rest : List Value} {dC : Nat → ClassId} {dI : Nat → Nat → Nat} {h0 a1 a2 a3 a4 : Nat} {cI cZ : ClassId} {tx pt qt sr : Nat → Int32} {tn pn : Nat} {A : Nat → Prop} {H0 : Heap} {frm too : Nat} (hft : frm ≤ too) (ht4 : too ≤ 400) {b : Bool} {g : Nat → Option Nat} (hg : sml g) (hsr : ∀ j, frm ≤ j → j ≤ too → sr j = oI (g j)) (hx : p.tables.exec = Jvm.exec) (hb : c.code = cc) (hml : c.maxLocals = nL) (hown : s.vm.findClass R_X = some mm.cls) (htB : ∀ w ∈ wB, w.before args s = true) (hK : va_K (dC, dI) classes (tyIZ cI cZ) s) (hP : va_P (dC, dI) classes (wX h0 a1 a2 a3 a4 cI cZ tx pt qt sr tn pn) H) (hD : va_D A (wX h0 a1 a2 a3 a4 cI cZ tx pt qt sr tn pn)) (hS : va_S A H0 H locs) (hA : ∀ q : Nat, H0.size ≤ q → A q) (hls : ls.size = nL) (hre : (rest.map fun v => v.category).sum ≤ 8) (hR : 2 + 1 ≤ R.frames ∧ 8 + (5 + 11) + 52 ≤ R.locals) (hce : cells ≤ R.cells ∧ slots ≤ R.slots) (hd : decode cc pcn = .ok (.invokevirtual 84, 3)) (kk : ∀ (su : Nat → Int32) (H1 : Heap) (locs1 : List Loc), (∀ j, frm ≤ j → j ≤ too → su j = oI (tar b g frm (j - frm))) → va_P (dC, dI) classes (wX h0 a1 a2 a3 a4 cI cZ tx pt qt su tn pn) H1 → va_D A (wX h0 a1 a2 a3 a4 cI cZ tx pt qt su tn pn) → va_S A H0 H1 locs1 → W p l e R s mm args below meth c H1 locs1 cells slots Q (F0 mm (pcn + 3) ls (rest))) : W p l e R s mm args below meth c H locs cells slots Q (F0 mm pcn ls (.int (bI b) :: .int (nI too) :: .int (nI frm) :: .ref h0 :: rest)) := by
  have hFc := va_free (wc := (wX h0 a1 a2 a3 a4 cI cZ tx pt qt sr tn pn)) hD hS hA [0, 1, 2, 3, 4] rfl
  refine va_callv (va_runV (As := [.int (nI frm), .int (nI too), .int (bI b)]) (rest := rest) ⟨hx, hb, hml, hown, htB⟩ (c_X_takeAnyRow l dC dI h0 a1 a2 a3 a4 cI cZ tx pt qt sr tn pn H.size frm too hft ht4 b g hg hsr) (cwV 3 htB (gV hml_X_84 hinm_X_takeAnyRow hsel_X_takeAnyRow hini_X hco_X_takeAnyRow) rfl rfl rfl (by decide +kernel) hR) ⟨fun a U g mk q => by obtain ⟨q0, q1, qP, qK, qD⟩ := q; exact ⟨q0, q1, qP, va_K.moved (u := U) (U := U.calling g mk a) (Vm.Alike.refl U.vm) qK, qD⟩, va_recv hK hP (ci := 0) (q0 := 0) rfl rfl, fun U hU hW => ⟨rfl, by rw [hU], by rw [hU]; exact hP, va_K.moved hW.alike hK, hD.weaken (fun _ _ _ _ => trivial)⟩⟩ rfl rfl hls rfl (lv_room hre) hd ⟨hce.1, hce.2⟩) hS (fun q _ h => hFc q h) hFc (fun su t H1 locs1 ht hvm hw hB hz1 hk1 hS1 => ?_)
  obtain ⟨hP1, hK1, hD1⟩ := hB
  rw [ht] at hP1
  have hj := va_join (wr := []) (w1 := (wX h0 a1 a2 a3 a4 cI cZ tx pt qt su tn pn)) hP hD [0, 1, 2, 3, 4] [] rfl rfl (by decide) (by decide) hk1 hFc hP1 hD1
  exact kk su H1 locs1 hw hj.1 hj.2 hS1

set_option maxHeartbeats 4000000 in
set_option maxRecDepth 100000 in
theorem c_X_takeOne (l : Launch) (dC : Nat → ClassId) (dI : Nat → Nat → Nat) (h0 a1 a2 a3 a4 : Nat) (cI cZ : ClassId) (tx pt qt sr : Nat → Int32) (tn pn : Nat) (sz : Nat) (hp : pn ≤ 200) (frm too : Nat) (hft : frm ≤ too) (ht4 : too ≤ 400) (a : Nat) (ha : a < pn) (o : Option Nat) (ho : ∀ k, o = some k → fm pt qt pn a ≤ k ∧ k < pn) (g : Nat → Option Nat) (hg : sml g) (hsr : ∀ j, frm ≤ j → j ≤ too → sr j = oI (g j)) : Met l y_X_takeOne (.code y_X_takeOne b_X_takeOne 7 none :: wB) (Rm 3 72) (va_Pc [.ref h0, .int (nI frm), .int (nI too), .int (nI a), .int (oI o)] (fun U => U.heap.size = sz ∧ va_P (dC, dI) classes (wX h0 a1 a2 a3 a4 cI cZ tx pt qt sr tn pn) U.heap ∧ va_K (dC, dI) classes (tyIZ cI cZ) U ∧ va_D (fun _ => True) (wX h0 a1 a2 a3 a4 cI cZ tx pt qt sr tn pn))) (va_Qv (fun (su : Nat → Int32) => su frm = -1 ∧ ∀ j, frm < j → j ≤ too → su j = oI (tk tx pt qt pn a o g (j - 1))) (fun (su : Nat → Int32) (t : State) => va_P (dC, dI) classes (wX h0 a1 a2 a3 a4 cI cZ tx pt qt su tn pn) t.heap ∧ va_K (dC, dI) classes (tyIZ cI cZ) t ∧ va_D (va_A (wX h0 a1 a2 a3 a4 cI cZ tx pt qt sr tn pn) sz) (wX h0 a1 a2 a3 a4 cI cZ tx pt qt su tn pn)) (va_A (wX h0 a1 a2 a3 a4 cI cZ tx pt qt sr tn pn) sz)) 0 0 (va_A (wX h0 a1 a2 a3 a4 cI cZ tx pt qt sr tn pn) sz) := by
  refine Met.ofW (cc := b_X_takeOne) (maxL := 7) (ret := none) (by decide) rfl ?_
  intro p e s mm args below meth c s₁ B hml hv
  obtain ⟨rfl, hsz, hP, hK, hD0⟩ := hv
  have hx := B.exec
  have hb := B.bytes
  have hr := B.returns
  have hts := atoms_spec (ws := (.code y_X_takeOne b_X_takeOne 7 none :: wB)) B.pre
  have htB : ∀ w ∈ wB, w.before _ s = true := fun w h => hts w (List.mem_cons_of_mem _ h)
  have hown : s.vm.findClass R_X = some mm.cls := findClass_of_methodNamed B.named
  have hlocks := B.notSynchronized
  subst hsz
  have hD := hD0.self (sz := s.heap.size)
  generalize hAe : va_A (wX h0 a1 a2 a3 a4 cI cZ tx pt qt sr tn pn) s.heap.size = A at hD ⊢
  have hA : ∀ q : Nat, s.heap.size ≤ q → A q := fun q h => by rw [← hAe]; exact Or.inr h
  have hS : va_S A s.heap s.heap [] := va_S.rf
  have hP : va_P (dC, dI) classes (wX h0 a1 a2 a3 a4 cI cZ tx pt qt sr tn pn) s.heap := hP
  have hl := lv_entry ([.ref h0, .int (nI frm), .int (nI too), .int (nI a), .int (oI o)]) (n := 7) (Nat.le_of_ble_eq_true rfl)
  rw [lg_entry_eq]
  generalize (lg_sl ([.ref h0, .int (nI frm), .int (nI too), .int (nI a), .int (oI o)]) ++ List.replicate (7 - (lg_sl ([.ref h0, .int (nI frm), .int (nI too), .int (nI a), .int (oI o)])).length) Slot.unset).toArray = ls at hl ⊢
  have hl : lv_has ls 7 [(0, .ref h0), (1, .int (nI frm)), (2, .int (nI too)), (3, .int (nI a)), (4, .int (oI o))] := hl
  have loop : ∀ (d : Nat) (sv : Nat → Int32) (H : Heap) (locs : List Loc), frm + d ≤ too → (∀ j, frm ≤ j → j ≤ frm + d → sv j = oI (g j)) → (∀ j, frm + d < j → j ≤ too → sv j = oI (tk tx pt qt pn a o g (j - 1))) → va_P (dC, dI) classes (wX h0 a1 a2 a3 a4 cI cZ tx pt qt sv tn pn) H → va_D A (wX h0 a1 a2 a3 a4 cI cZ tx pt qt sv tn pn) → va_S A s.heap H locs → ∀ ls : Array Slot, lv_has ls 7 [(5, .int (nI (frm + d))), (0, .ref h0), (1, .int (nI frm)), (2, .int (nI too)), (3, .int (nI a)), (4, .int (oI o))] → W p l e (Rm 3 72) s mm [.ref h0, .int (nI frm), .int (nI too), .int (nI a), .int (oI o)].toArray below meth c H locs 0 0 (MQ below (va_Qv (fun (su : Nat → Int32) => su frm = -1 ∧ ∀ j, frm < j → j ≤ too → su j = oI (tk tx pt qt pn a o g (j - 1))) (fun (su : Nat → Int32) (t : State) => va_P (dC, dI) classes (wX h0 a1 a2 a3 a4 cI cZ tx pt qt su tn pn) t.heap ∧ va_K (dC, dI) classes (tyIZ cI cZ) t ∧ va_D A (wX h0 a1 a2 a3 a4 cI cZ tx pt qt su tn pn)) A) [.ref h0, .int (nI frm), .int (nI too), .int (nI a), .int (oI o)].toArray s 0 0 A) (F0 mm 3 ls []) := by
    intro d
    induction d with
    | zero =>
      intro sv H locs hd hE1 hE2 hP hD hS ls hl
      have hl : lv_has ls 7 [(5, .int (nI frm)), (0, .ref h0), (1, .int (nI frm)), (2, .int (nI too)), (3, .int (nI a)), (4, .int (oI o))] := hl
      refine lv_iload hx hb d_X_takeOne_3 (lv_at hl 0 rfl) ?_
      refine lv_iload_n hx hb d_X_takeOne_5 rfl (lv_at hl 2 rfl) ?_
      refine lv_icmp_le (tgt := 79) hx hb d_X_takeOne_6 (by decide) (fun c_1 => ?_) (fun c_1 => ?_)
      · have c_1 := (nI_leI (by omega) (by omega)).mp c_1
        refine lv_aload_n hx hb d_X_takeOne_79 rfl (lv_at hl 1 rfl) ?_
        refine va_get (D := (dC, dI)) (ci := 0) (v := .ref a4) (C := R_X) (T := F_X) (N := 6) hx hb htB in_X hown hK hP 0 rfl rfl 5 (by decide) (htB _ hfl_X_27) (fun _ h9 => h9) rfl d_X_takeOne_80 ?_
        refine lv_iload_n hx hb d_X_takeOne_83 rfl (lv_at hl 2 rfl) ?_
        refine lv_iconst (v := -1) hx hb d_X_takeOne_84 (by decide) ?_
        refine va_iast hx hb hK hP hD hS 4 0 rfl rfl (vp_in_nI (n := frm) (by omega) (by decide)) d_X_takeOne_85 (fun H locs hP hD hS => ?_)
        rw [nI_clamp (n := frm) (by omega)] at hP hD
        have hP : va_P (dC, dI) classes (wX h0 a1 a2 a3 a4 cI cZ tx pt qt (upd sv frm (-1)) tn pn) H := hP
        have hD : va_D A (wX h0 a1 a2 a3 a4 cI cZ tx pt qt (upd sv frm (-1)) tn pn) := hD
        exact W.vret hx hb hr (fun t ht hW => ⟨⟨upd sv frm (-1), rfl, ⟨pk_us, fun j q1 q2 => by rw [pk_un (by omega)]; exact hE2 j (by omega) q2⟩, by rw [ht]; exact hP, va_K.moved hW.alike hK, hD⟩, hS.F ht⟩) hS.2.2 d_X_takeOne_86
      · have c_1 := mt (nI_leI (by omega) (by omega)).mpr c_1
        exact absurd (Nat.le_refl frm) c_1
    | succ d ih =>
      intro sv H locs hd hE1 hE2 hP hD hS ls hl
      have hl : lv_has ls 7 [(5, .int (nI (frm + d + 1))), (0, .ref h0), (1, .int (nI frm)), (2, .int (nI too)), (3, .int (nI a)), (4, .int (oI o))] := hl
      have hgd := hE1 (frm + d) (by omega) (by omega)
      refine lv_iload hx hb d_X_takeOne_3 (lv_at hl 0 rfl) ?_
      refine lv_iload_n hx hb d_X_takeOne_5 rfl (lv_at hl 2 rfl) ?_
      refine lv_icmp_le (tgt := 79) hx hb d_X_takeOne_6 (by decide) (fun c_1 => ?_) (fun c_1 => ?_)
      · have c_1 := (nI_leI (by omega) (by omega)).mp c_1
        exact absurd c_1 (by omega)
      · have c_1 := mt (nI_leI (by omega) (by omega)).mpr c_1
        refine lv_aload_n hx hb d_X_takeOne_9 rfl (lv_at hl 1 rfl) ?_
        refine va_get (D := (dC, dI)) (ci := 0) (v := .ref a4) (C := R_X) (T := F_X) (N := 6) hx hb htB in_X hown hK hP 0 rfl rfl 5 (by decide) (htB _ hfl_X_27) (fun _ h9 => h9) rfl d_X_takeOne_10 ?_
        refine lv_iload hx hb d_X_takeOne_13 (lv_at hl 0 rfl) ?_
        refine lv_iconst (v := nI 1) hx hb d_X_takeOne_15 (by decide) ?_
        refine lv_isub hx hb d_X_takeOne_16 ?_
        refine lv_topi (fun v_2 ev_2 => ?_)
        obtain rfl : v_2 = nI (frm + d) := ev_2.trans (pk_sub (by omega))
        refine va_iald hx hb hK hP 4 0 rfl rfl (vp_in_nI (n := frm + d) (by omega) (by decide)) d_X_takeOne_17 ?_
        refine lv_topi (fun v_3 ev_3 => ?_)
        obtain rfl : v_3 = oI (g (frm + d)) := (show v_3 = sv (frm + d) from ev_3.trans (by rw [nI_clamp (n := frm + d) (by omega)])).trans (hgd)
        refine lv_iconst (v := -1) hx hb d_X_takeOne_18 (by decide) ?_
        refine lv_icmp_eq (tgt := 45) hx hb d_X_takeOne_19 (by decide) (fun c_4 => ?_) (fun c_4 => ?_)
        · have c_4 := (oI_ne (fun k q => Nat.le_trans (hg _ k q) (by decide))).mp c_4
          refine lv_iconst (v := nI 0) hx hb d_X_takeOne_45 (by decide) ?_
          refine lv_istore (lv' := [(6, .int (nI 0)), (5, .int (nI (frm + d + 1))), (0, .ref h0), (1, .int (nI frm)), (2, .int (nI too)), (3, .int (nI a)), (4, .int (oI o))]) hx hb d_X_takeOne_46 hl (by decide) rfl (fun ls hl => ?_)
          refine lv_aload_n hx hb d_X_takeOne_48 rfl (lv_at hl 2 rfl) ?_
          refine va_get (D := (dC, dI)) (ci := 0) (v := .ref a4) (C := R_X) (T := F_X) (N := 6) hx hb htB in_X hown hK hP 0 rfl rfl 5 (by decide) (htB _ hfl_X_27) (fun _ h9 => h9) rfl d_X_takeOne_49 ?_
          refine lv_iload hx hb d_X_takeOne_52 (lv_at hl 1 rfl) ?_
          refine lv_iload hx hb d_X_takeOne_54 (lv_at hl 0 rfl) ?_
          refine lv_if_eq (tgt := 71) hx hb d_X_takeOne_56 (by decide) (fun c_5 => ?_) (fun c_5 => ?_)
          · clear c_5
            refine lv_iconst (v := -1) hx hb d_X_takeOne_71 (by decide) ?_
            refine va_iast hx hb hK hP hD hS 4 0 rfl rfl (vp_in_nI (n := frm + d + 1) (by omega) (by decide)) d_X_takeOne_72 (fun H locs hP hD hS => ?_)
            rw [nI_clamp (n := frm + d + 1) (by omega)] at hP hD
            have hP : va_P (dC, dI) classes (wX h0 a1 a2 a3 a4 cI cZ tx pt qt (upd sv (frm + d + 1) (-1)) tn pn) H := hP
            have hD : va_D A (wX h0 a1 a2 a3 a4 cI cZ tx pt qt (upd sv (frm + d + 1) (-1)) tn pn) := hD
            refine lv_iinc (v := nI (frm + d)) (lv' := [(5, .int (nI (frm + d))), (6, .int (nI 0)), (0, .ref h0), (1, .int (nI frm)), (2, .int (nI too)), (3, .int (nI a)), (4, .int (oI o))]) hx hb d_X_takeOne_73 hl (k := 1) rfl (pk_m1 _) (by decide) rfl (fun ls hl => ?_)
            refine lv_goto (tgt := 3) hx hb d_X_takeOne_76 (by decide) ?_
            refine ih _ _ _ (by omega) (fun j q1 q2 => ?_) (fun j q1 q2 => ?_) hP hD hS ls (lv_sub hl [0, 2, 3, 4, 5, 6] rfl)
            · rw [pk_un (by omega)]; exact hE1 j q1 (by omega)
            · by_cases q : j = frm + d + 1
              · subst q
                rw [pk_us, show frm + d + 1 - 1 = frm + d from rfl]
                unfold tk
                first | rw [if_pos ‹_›] | (rw [‹g (frm + d) = none›, ite_self]; rfl) | (rw [if_neg (by rw [‹ft pt qt pn a o (tx (frm + d)) = false›]; decide)]; rfl)
              · rw [pk_un q]; exact hE2 j (by omega) q2
          · exact absurd c_5 (by decide)
        · have c_4 := mt (oI_ne (fun k q => Nat.le_trans (hg _ k q) (by decide))).mpr c_4
          refine lv_aload_n hx hb d_X_takeOne_22 rfl (lv_at hl 1 rfl) ?_
          refine lv_aload_n hx hb d_X_takeOne_23 rfl (lv_at hl 1 rfl) ?_
          refine va_get (D := (dC, dI)) (ci := 0) (v := .ref a1) (C := R_X) (T := F_X) (N := 6) hx hb htB in_X hown hK hP 0 rfl rfl 0 (by decide) (htB _ hfl_X_9) (fun _ h9 => h9) rfl d_X_takeOne_24 ?_
          refine lv_iload hx hb d_X_takeOne_27 (lv_at hl 0 rfl) ?_
          refine lv_iconst (v := nI 1) hx hb d_X_takeOne_29 (by decide) ?_
          refine lv_isub hx hb d_X_takeOne_30 ?_
          refine lv_topi (fun v_6 ev_6 => ?_)
          obtain rfl : v_6 = nI (frm + d) := ev_6.trans (pk_sub (by omega))
          refine va_iald hx hb hK hP 1 0 rfl rfl (vp_in_nI (n := frm + d) (by omega) (by decide)) d_X_takeOne_31 ?_
          refine lv_topi (fun v_7 ev_7 => ?_)
          obtain rfl : v_7 = tx (frm + d) := ev_7.trans (by rw [nI_clamp (n := frm + d) (by omega)])
          refine lv_iload_n hx hb d_X_takeOne_32 rfl (lv_at hl 4 rfl) ?_
          refine lv_iload hx hb d_X_takeOne_33 (lv_at hl 5 rfl) ?_
          refine r_X_fits hp (by omega) ho hx hb hml hown htB hK hP hl.1 (Nat.le_of_ble_eq_true rfl) ⟨Nat.le_of_ble_eq_true rfl, Nat.le_of_ble_eq_true rfl⟩ ⟨Nat.zero_le _, Nat.zero_le _⟩ d_X_takeOne_35 ?_
          refine lv_if_eq (tgt := 45) hx hb d_X_takeOne_38 (by decide) (fun c_8 => ?_) (fun c_8 => ?_)
          · have c_8 := bI_z.mp c_8
            refine lv_iconst (v := nI 0) hx hb d_X_takeOne_45 (by decide) ?_
            refine lv_istore (lv' := [(6, .int (nI 0)), (5, .int (nI (frm + d + 1))), (0, .ref h0), (1, .int (nI frm)), (2, .int (nI too)), (3, .int (nI a)), (4, .int (oI o))]) hx hb d_X_takeOne_46 hl (by decide) rfl (fun ls hl => ?_)
            refine lv_aload_n hx hb d_X_takeOne_48 rfl (lv_at hl 2 rfl) ?_
            refine va_get (D := (dC, dI)) (ci := 0) (v := .ref a4) (C := R_X) (T := F_X) (N := 6) hx hb htB in_X hown hK hP 0 rfl rfl 5 (by decide) (htB _ hfl_X_27) (fun _ h9 => h9) rfl d_X_takeOne_49 ?_
            refine lv_iload hx hb d_X_takeOne_52 (lv_at hl 1 rfl) ?_
            refine lv_iload hx hb d_X_takeOne_54 (lv_at hl 0 rfl) ?_
            refine lv_if_eq (tgt := 71) hx hb d_X_takeOne_56 (by decide) (fun c_9 => ?_) (fun c_9 => ?_)
            · clear c_9
              refine lv_iconst (v := -1) hx hb d_X_takeOne_71 (by decide) ?_
              refine va_iast hx hb hK hP hD hS 4 0 rfl rfl (vp_in_nI (n := frm + d + 1) (by omega) (by decide)) d_X_takeOne_72 (fun H locs hP hD hS => ?_)
              rw [nI_clamp (n := frm + d + 1) (by omega)] at hP hD
              have hP : va_P (dC, dI) classes (wX h0 a1 a2 a3 a4 cI cZ tx pt qt (upd sv (frm + d + 1) (-1)) tn pn) H := hP
              have hD : va_D A (wX h0 a1 a2 a3 a4 cI cZ tx pt qt (upd sv (frm + d + 1) (-1)) tn pn) := hD
              refine lv_iinc (v := nI (frm + d)) (lv' := [(5, .int (nI (frm + d))), (6, .int (nI 0)), (0, .ref h0), (1, .int (nI frm)), (2, .int (nI too)), (3, .int (nI a)), (4, .int (oI o))]) hx hb d_X_takeOne_73 hl (k := 1) rfl (pk_m1 _) (by decide) rfl (fun ls hl => ?_)
              refine lv_goto (tgt := 3) hx hb d_X_takeOne_76 (by decide) ?_
              refine ih _ _ _ (by omega) (fun j q1 q2 => ?_) (fun j q1 q2 => ?_) hP hD hS ls (lv_sub hl [0, 2, 3, 4, 5, 6] rfl)
              · rw [pk_un (by omega)]; exact hE1 j q1 (by omega)
              · by_cases q : j = frm + d + 1
                · subst q
                  rw [pk_us, show frm + d + 1 - 1 = frm + d from rfl]
                  unfold tk
                  first | rw [if_pos ‹_›] | (rw [‹g (frm + d) = none›, ite_self]; rfl) | (rw [if_neg (by rw [‹ft pt qt pn a o (tx (frm + d)) = false›]; decide)]; rfl)
                · rw [pk_un q]; exact hE2 j (by omega) q2
            · exact absurd c_9 (by decide)
          · have c_8 := bI_nz.mp c_8
            refine lv_iconst (v := nI 1) hx hb d_X_takeOne_41 (by decide) ?_
            refine lv_goto (tgt := 46) hx hb d_X_takeOne_42 (by decide) ?_
            refine lv_istore (lv' := [(6, .int (nI 1)), (5, .int (nI (frm + d + 1))), (0, .ref h0), (1, .int (nI frm)), (2, .int (nI too)), (3, .int (nI a)), (4, .int (oI o))]) hx hb d_X_takeOne_46 hl (by decide) rfl (fun ls hl => ?_)
            refine lv_aload_n hx hb d_X_takeOne_48 rfl (lv_at hl 2 rfl) ?_
            refine va_get (D := (dC, dI)) (ci := 0) (v := .ref a4) (C := R_X) (T := F_X) (N := 6) hx hb htB in_X hown hK hP 0 rfl rfl 5 (by decide) (htB _ hfl_X_27) (fun _ h9 => h9) rfl d_X_takeOne_49 ?_
            refine lv_iload hx hb d_X_takeOne_52 (lv_at hl 1 rfl) ?_
            refine lv_iload hx hb d_X_takeOne_54 (lv_at hl 0 rfl) ?_
            refine lv_if_eq (tgt := 71) hx hb d_X_takeOne_56 (by decide) (fun c_10 => ?_) (fun c_10 => ?_)
            · exact absurd c_10 (by decide)
            · clear c_10
              refine lv_aload_n hx hb d_X_takeOne_59 rfl (lv_at hl 2 rfl) ?_
              refine va_get (D := (dC, dI)) (ci := 0) (v := .ref a4) (C := R_X) (T := F_X) (N := 6) hx hb htB in_X hown hK hP 0 rfl rfl 5 (by decide) (htB _ hfl_X_27) (fun _ h9 => h9) rfl d_X_takeOne_60 ?_
              refine lv_iload hx hb d_X_takeOne_63 (lv_at hl 1 rfl) ?_
              refine lv_iconst (v := nI 1) hx hb d_X_takeOne_65 (by decide) ?_
              refine lv_isub hx hb d_X_takeOne_66 ?_
              refine lv_topi (fun v_11 ev_11 => ?_)
              obtain rfl : v_11 = nI (frm + d) := ev_11.trans (pk_sub (by omega))
              refine va_iald hx hb hK hP 4 0 rfl rfl (vp_in_nI (n := frm + d) (by omega) (by decide)) d_X_takeOne_67 ?_
              refine lv_topi (fun v_12 ev_12 => ?_)
              obtain rfl : v_12 = oI (g (frm + d)) := (show v_12 = sv (frm + d) from ev_12.trans (by rw [nI_clamp (n := frm + d) (by omega)])).trans (hgd)
              refine lv_goto (tgt := 72) hx hb d_X_takeOne_68 (by decide) ?_
              refine va_iast hx hb hK hP hD hS 4 0 rfl rfl (vp_in_nI (n := frm + d + 1) (by omega) (by decide)) d_X_takeOne_72 (fun H locs hP hD hS => ?_)
              rw [nI_clamp (n := frm + d + 1) (by omega)] at hP hD
              have hP : va_P (dC, dI) classes (wX h0 a1 a2 a3 a4 cI cZ tx pt qt (upd sv (frm + d + 1) (oI (g (frm + d)))) tn pn) H := hP
              have hD : va_D A (wX h0 a1 a2 a3 a4 cI cZ tx pt qt (upd sv (frm + d + 1) (oI (g (frm + d)))) tn pn) := hD
              refine lv_iinc (v := nI (frm + d)) (lv' := [(5, .int (nI (frm + d))), (6, .int (nI 1)), (0, .ref h0), (1, .int (nI frm)), (2, .int (nI too)), (3, .int (nI a)), (4, .int (oI o))]) hx hb d_X_takeOne_73 hl (k := 1) rfl (pk_m1 _) (by decide) rfl (fun ls hl => ?_)
              refine lv_goto (tgt := 3) hx hb d_X_takeOne_76 (by decide) ?_
              refine ih _ _ _ (by omega) (fun j q1 q2 => ?_) (fun j q1 q2 => ?_) hP hD hS ls (lv_sub hl [0, 2, 3, 4, 5, 6] rfl)
              · rw [pk_un (by omega)]; exact hE1 j q1 (by omega)
              · by_cases q : j = frm + d + 1
                · subst q
                  rw [pk_us, show frm + d + 1 - 1 = frm + d from rfl]
                  unfold tk
                  first | rw [if_pos ‹_›] | (rw [‹g (frm + d) = none›, ite_self]; rfl) | (rw [if_neg (by rw [‹ft pt qt pn a o (tx (frm + d)) = false›]; decide)]; rfl)
                · rw [pk_un q]; exact hE2 j (by omega) q2
  refine lv_iload_n hx hb d_X_takeOne_0 rfl (lv_at hl 2 rfl) ?_
  refine lv_istore (lv' := [(5, .int (nI too)), (0, .ref h0), (1, .int (nI frm)), (2, .int (nI too)), (3, .int (nI a)), (4, .int (oI o))]) hx hb d_X_takeOne_1 hl (by decide) rfl (fun ls hl => ?_)
  have e9 : too = frm + (too - frm) := by omega
  refine loop (too - frm) _ _ _ (by omega) (fun j q1 q2 => hsr j q1 (by omega)) (fun j q1 q2 => absurd q1 (by omega)) hP hD hS ls ?_
  rw [← e9]
  exact (lv_sub hl [0, 1, 2, 3, 4, 5] rfl)

theorem r_X_takeOne {p : Program} {l : Launch} {e : Env} {R : Room} {s : State} {mm : MethodId} {args : Array Value} {below : List Frame} {meth : Method} {c : Code} {H : Heap} {locs : List Loc} {cells slots : Nat} {Q : State → Prop} {cc : ByteArray} {pcn nL : Nat} {ls : Array Slot} {rest : List Value} {dC : Nat → ClassId} {dI : Nat → Nat → Nat} {h0 a1 a2 a3 a4 : Nat} {cI cZ : ClassId} {tx pt qt sr : Nat → Int32} {tn pn : Nat} {A : Nat → Prop} {H0 : Heap} (hp : pn ≤ 200) {frm too : Nat} (hft : frm ≤ too) (ht4 : too ≤ 400) {a : Nat} (ha : a < pn) {o : Option Nat} (ho : ∀ k, o = some k → fm pt qt pn a ≤ k ∧ k < pn) {g : Nat → Option Nat} (hg : sml g) (hsr : ∀ j, frm ≤ j → j ≤ too → sr j = oI (g j)) (hx : p.tables.exec = Jvm.exec) (hb : c.code = cc) (hml : c.maxLocals = nL) (hown : s.vm.findClass R_X = some mm.cls) (htB : ∀ w ∈ wB, w.before args s = true) (hK : va_K (dC, dI) classes (tyIZ cI cZ) s) (hP : va_P (dC, dI) classes (wX h0 a1 a2 a3 a4 cI cZ tx pt qt sr tn pn) H) (hD : va_D A (wX h0 a1 a2 a3 a4 cI cZ tx pt qt sr tn pn)) (hS : va_S A H0 H locs) (hA : ∀ q : Nat, H0.size ≤ q → A q) (hls : ls.size = nL) (hre : (rest.map fun v => v.category).sum ≤ 8) (hR : 3 + 1 ≤ R.frames ∧ 8 + (7 + 11) + 72 ≤ R.locals) (hce : cells ≤ R.cells ∧ slots ≤ R.slots) (hd : decode cc pcn = .ok (.invokevirtual 87, 3)) (kk : ∀ (su : Nat → Int32) (H1 : Heap) (locs1 : List Loc), (su frm = -1 ∧ ∀ j, frm < j → j ≤ too → su j = oI (tk tx pt qt pn a o g (j - 1))) → va_P (dC, dI) classes (wX h0 a1 a2 a3 a4 cI cZ tx pt qt su tn pn) H1 → va_D A (wX h0 a1 a2 a3 a4 cI cZ tx pt qt su tn pn) → va_S A H0 H1 locs1 → W p l e R s mm args below meth c H1 locs1 cells slots Q (F0 mm (pcn + 3) ls (rest))) : W p l e R s mm args below meth c H locs cells slots Q (F0 mm pcn ls (.int (oI o) :: .int (nI a) :: .int (nI too) :: .int (nI frm) :: .ref h0 :: rest)) := by
  have hFc := va_free (wc := (wX h0 a1 a2 a3 a4 cI cZ tx pt qt sr tn pn)) hD hS hA [0, 1, 2, 3, 4] rfl
  refine va_callv (va_runV (As := [.int (nI frm), .int (nI too), .int (nI a), .int (oI o)]) (rest := rest) ⟨hx, hb, hml, hown, htB⟩ (c_X_takeOne l dC dI h0 a1 a2 a3 a4 cI cZ tx pt qt sr tn pn H.size hp frm too hft ht4 a ha o ho g hg hsr) (cwV 4 htB (gV hml_X_87 hinm_X_takeOne hsel_X_takeOne hini_X hco_X_takeOne) rfl rfl rfl (by decide +kernel) hR) ⟨fun a U g mk q => by obtain ⟨q0, q1, qP, qK, qD⟩ := q; exact ⟨q0, q1, qP, va_K.moved (u := U) (U := U.calling g mk a) (Vm.Alike.refl U.vm) qK, qD⟩, va_recv hK hP (ci := 0) (q0 := 0) rfl rfl, fun U hU hW => ⟨rfl, by rw [hU], by rw [hU]; exact hP, va_K.moved hW.alike hK, hD.weaken (fun _ _ _ _ => trivial)⟩⟩ rfl rfl hls rfl (lv_room hre) hd ⟨hce.1, hce.2⟩) hS (fun q _ h => hFc q h) hFc (fun su t H1 locs1 ht hvm hw hB hz1 hk1 hS1 => ?_)
  obtain ⟨hP1, hK1, hD1⟩ := hB
  rw [ht] at hP1
  have hj := va_join (wr := []) (w1 := (wX h0 a1 a2 a3 a4 cI cZ tx pt qt su tn pn)) hP hD [0, 1, 2, 3, 4] [] rfl rfl (by decide) (by decide) hk1 hFc hP1 hD1
  exact kk su H1 locs1 hw hj.1 hj.2 hS1

set_option maxHeartbeats 4000000 in
set_option maxRecDepth 100000 in
theorem c_X_readPattern (l : Launch) (dC : Nat → ClassId) (dI : Nat → Nat → Nat) (h0 a1 a2 a3 a4 : Nat) (cI cZ : ClassId) (tx pt qt sr : Nat → Int32) (tn pn : Nat) (sz : Nat) (hp : pn ≤ 200) (frm too : Nat) (hft : frm ≤ too) (ht4 : too ≤ 400) (b : Bool) (g : Nat → Option Nat) (hg : sml g) (hsr : ∀ j, frm ≤ j → j ≤ too → sr j = oI (g j)) : Met l y_X_readPattern (.code y_X_readPattern b_X_readPattern 6 none :: wB) (Rm 4 98) (va_Pc [.ref h0, .int (nI frm), .int (nI too), .int (bI b)] (fun U => U.heap.size = sz ∧ va_P (dC, dI) classes (wX h0 a1 a2 a3 a4 cI cZ tx pt qt sr tn pn) U.heap ∧ va_K (dC, dI) classes (tyIZ cI cZ) U ∧ va_D (fun _ => True) (wX h0 a1 a2 a3 a4 cI cZ tx pt qt sr tn pn))) (va_Qv (fun (su : Nat → Int32) => ∀ j, frm ≤ j → j ≤ too → su j = oI (rdp tx pt qt pn b frm pn 0 g j)) (fun (su : Nat → Int32) (t : State) => va_P (dC, dI) classes (wX h0 a1 a2 a3 a4 cI cZ tx pt qt su tn pn) t.heap ∧ va_K (dC, dI) classes (tyIZ cI cZ) t ∧ va_D (va_A (wX h0 a1 a2 a3 a4 cI cZ tx pt qt sr tn pn) sz) (wX h0 a1 a2 a3 a4 cI cZ tx pt qt su tn pn)) (va_A (wX h0 a1 a2 a3 a4 cI cZ tx pt qt sr tn pn) sz)) 0 0 (va_A (wX h0 a1 a2 a3 a4 cI cZ tx pt qt sr tn pn) sz) := by
  refine Met.ofW (cc := b_X_readPattern) (maxL := 6) (ret := none) (by decide) rfl ?_
  intro p e s mm args below meth c s₁ B hml hv
  obtain ⟨rfl, hsz, hP, hK, hD0⟩ := hv
  have hx := B.exec
  have hb := B.bytes
  have hr := B.returns
  have hts := atoms_spec (ws := (.code y_X_readPattern b_X_readPattern 6 none :: wB)) B.pre
  have htB : ∀ w ∈ wB, w.before _ s = true := fun w h => hts w (List.mem_cons_of_mem _ h)
  have hown : s.vm.findClass R_X = some mm.cls := findClass_of_methodNamed B.named
  have hlocks := B.notSynchronized
  subst hsz
  have hD := hD0.self (sz := s.heap.size)
  generalize hAe : va_A (wX h0 a1 a2 a3 a4 cI cZ tx pt qt sr tn pn) s.heap.size = A at hD ⊢
  have hA : ∀ q : Nat, s.heap.size ≤ q → A q := fun q h => by rw [← hAe]; exact Or.inr h
  have hS : va_S A s.heap s.heap [] := va_S.rf
  have hP : va_P (dC, dI) classes (wX h0 a1 a2 a3 a4 cI cZ tx pt qt sr tn pn) s.heap := hP
  have hl := lv_entry ([.ref h0, .int (nI frm), .int (nI too), .int (bI b)]) (n := 6) (Nat.le_of_ble_eq_true rfl)
  rw [lg_entry_eq]
  generalize (lg_sl ([.ref h0, .int (nI frm), .int (nI too), .int (bI b)]) ++ List.replicate (6 - (lg_sl ([.ref h0, .int (nI frm), .int (nI too), .int (bI b)])).length) Slot.unset).toArray = ls at hl ⊢
  have hl : lv_has ls 6 [(0, .ref h0), (1, .int (nI frm)), (2, .int (nI too)), (3, .int (bI b))] := hl
  have loop : ∀ (n a : Nat) (gv : Nat → Option Nat) (sv : Nat → Int32) (H : Heap) (locs : List Loc), a ≤ pn → pn < a + n → sml gv → rdp tx pt qt pn b frm (pn - a) a gv = rdp tx pt qt pn b frm pn 0 g → (∀ j, frm ≤ j → j ≤ too → sv j = oI (gv j)) → va_P (dC, dI) classes (wX h0 a1 a2 a3 a4 cI cZ tx pt qt sv tn pn) H → va_D A (wX h0 a1 a2 a3 a4 cI cZ tx pt qt sv tn pn) → va_S A s.heap H locs → ∀ ls : Array Slot, lv_has ls 6 [(4, .int (nI a)), (0, .ref h0), (1, .int (nI frm)), (2, .int (nI too)), (3, .int (bI b))] → W p l e (Rm 4 98) s mm [.ref h0, .int (nI frm), .int (nI too), .int (bI b)].toArray below meth c H locs 0 0 (MQ below (va_Qv (fun (su : Nat → Int32) => ∀ j, frm ≤ j → j ≤ too → su j = oI (rdp tx pt qt pn b frm pn 0 g j)) (fun (su : Nat → Int32) (t : State) => va_P (dC, dI) classes (wX h0 a1 a2 a3 a4 cI cZ tx pt qt su tn pn) t.heap ∧ va_K (dC, dI) classes (tyIZ cI cZ) t ∧ va_D A (wX h0 a1 a2 a3 a4 cI cZ tx pt qt su tn pn)) A) [.ref h0, .int (nI frm), .int (nI too), .int (bI b)].toArray s 0 0 A) (F0 mm 3 ls []) := by
    intro n
    induction n with
    | zero => intro a gv sv H locs h1 h2; exact absurd h2 (by omega)
    | succ n ih =>
      intro a gv sv H locs hap hn hgv hE hsv hP hD hS ls hl
      have hnx := nx_gt pt qt pn a
      refine lv_iload hx hb d_X_readPattern_3 (lv_at hl 0 rfl) ?_
      refine lv_aload_n hx hb d_X_readPattern_5 rfl (lv_at hl 1 rfl) ?_
      refine va_get (D := (dC, dI)) (ci := 0) (v := .int (nI pn)) (C := R_X) (T := F_X) (N := 6) hx hb htB in_X hown hK hP 0 rfl rfl 4 (by decide) (htB _ hfl_X_24) (fun _ h9 => h9) rfl d_X_readPattern_6 ?_
      refine lv_icmp_ge (tgt := 65) hx hb d_X_readPattern_9 (by decide) (fun c_1 => ?_) (fun c_1 => ?_)
      · have c_1 := (nI_leI (by omega) (by omega)).mp c_1
        exact W.vret hx hb hr (fun t ht hW => ⟨⟨sv, rfl, fun j q1 q2 => by rw [hsv j q1 q2, ← hE, rdp_out (by omega)], by rw [ht]; exact hP, va_K.moved hW.alike hK, hD⟩, hS.F ht⟩) hS.2.2 d_X_readPattern_65
      · have c_1 := mt (nI_leI (by omega) (by omega)).mpr c_1
        refine lv_aload_n hx hb d_X_readPattern_12 rfl (lv_at hl 1 rfl) ?_
        refine lv_iload hx hb d_X_readPattern_13 (lv_at hl 0 rfl) ?_
        refine r_X_closeOf hp (by omega) hx hb hml hown htB hK hP hl.1 (Nat.le_of_ble_eq_true rfl) ⟨Nat.le_of_ble_eq_true rfl, Nat.le_of_ble_eq_true rfl⟩ ⟨Nat.zero_le _, Nat.zero_le _⟩ d_X_readPattern_15 ?_
        refine lv_istore (lv' := [(5, .int (oI (cl pt qt pn a))), (4, .int (nI a)), (0, .ref h0), (1, .int (nI frm)), (2, .int (nI too)), (3, .int (bI b))]) hx hb d_X_readPattern_18 hl (by decide) rfl (fun ls hl => ?_)
        refine lv_aload_n hx hb d_X_readPattern_20 rfl (lv_at hl 2 rfl) ?_
        refine lv_iload hx hb d_X_readPattern_21 (lv_at hl 1 rfl) ?_
        refine lv_bipush (v := nI 42) hx hb d_X_readPattern_23 (by decide) ?_
        refine r_X_isUnquoted hp (by omega) hx hb hml hown htB hK hP hl.1 (Nat.le_of_ble_eq_true rfl) ⟨Nat.le_of_ble_eq_true rfl, Nat.le_of_ble_eq_true rfl⟩ ⟨Nat.zero_le _, Nat.zero_le _⟩ d_X_readPattern_25 ?_
        refine lv_if_eq (tgt := 41) hx hb d_X_readPattern_28 (by decide) (fun c_2 => ?_) (fun c_2 => ?_)
        · have c_2 := bI_z.mp c_2
          refine lv_aload_n hx hb d_X_readPattern_41 rfl (lv_at hl 2 rfl) ?_
          refine lv_iload_n hx hb d_X_readPattern_42 rfl (lv_at hl 3 rfl) ?_
          refine lv_iload_n hx hb d_X_readPattern_43 rfl (lv_at hl 4 rfl) ?_
          refine lv_iload hx hb d_X_readPattern_44 (lv_at hl 1 rfl) ?_
          refine lv_iload hx hb d_X_readPattern_46 (lv_at hl 0 rfl) ?_
          refine r_X_takeOne hp hft ht4 (by omega) (fun k q => by have := cl_in q; omega) hgv hsv hx hb hml hown htB hK hP hD hS hA hl.1 (Nat.le_of_ble_eq_true rfl) ⟨Nat.le_of_ble_eq_true rfl, Nat.le_of_ble_eq_true rfl⟩ ⟨Nat.zero_le _, Nat.zero_le _⟩ d_X_readPattern_48 (fun su H locs hsu hP hD hS => ?_)
          refine lv_iload hx hb d_X_readPattern_51 (lv_at hl 1 rfl) ?_
          refine lv_iload hx hb d_X_readPattern_53 (lv_at hl 0 rfl) ?_
          refine va_mmax hx hb (by rw [hml]; exact hl.1.symm) hown (htB _ hml_X_91) (htB _ hsta_Math_max) (htB _ hini_Math) (htB _ hco_Math_max) (Nat.le_of_ble_eq_true rfl) (Nat.le_of_ble_eq_true rfl) (Nat.zero_le _) (Nat.zero_le _) d_X_readPattern_55 ?_
          refine lv_topi (fun v_3 ev_3 => ?_)
          obtain rfl : v_3 = nI (nx pt qt pn a - 1) := ev_3.trans (mx_nx hp (by omega))
          refine lv_iconst (v := nI 1) hx hb d_X_readPattern_58 (by decide) ?_
          refine lv_iadd hx hb d_X_readPattern_59 ?_
          refine lv_topi (fun v_4 ev_4 => ?_)
          obtain rfl : v_4 = nI (nx pt qt pn a - 1 + 1) := ev_4.trans (nI_add _ _)
          rw [show nx pt qt pn a - 1 + 1 = nx pt qt pn a by omega]
          refine lv_istore (lv' := [(4, .int (nI (nx pt qt pn a))), (5, .int (oI (cl pt qt pn a))), (0, .ref h0), (1, .int (nI frm)), (2, .int (nI too)), (3, .int (bI b))]) hx hb d_X_readPattern_60 hl (by decide) rfl (fun ls hl => ?_)
          refine lv_goto (tgt := 3) hx hb d_X_readPattern_62 (by decide) ?_
          refine ih (nx pt qt pn a) (sg tx pt qt pn b frm gv a) su _ _ (nx_le (by omega)) (by omega) (sg_sml hgv) (by rw [← rdp_go (by omega)]; exact hE) (fun j q1 q2 => ?_) hP hD hS ls (lv_sub hl [0, 2, 3, 4, 5] rfl)
          unfold sg
          first
          | (rw [if_pos ‹iu pt qt pn a (nI 42) = true›, if_neg (by omega)]; exact hsu j q1 q2)
          | (rw [if_neg (by rw [‹iu pt qt pn a (nI 42) = false›]; decide)]
             by_cases q : j = frm
             · subst q; rw [if_pos (Nat.le_refl _)]; exact hsu.1
             · rw [if_neg (by omega)]; exact hsu.2 j (by omega) q2)
        · have c_2 := bI_nz.mp c_2
          refine lv_aload_n hx hb d_X_readPattern_31 rfl (lv_at hl 2 rfl) ?_
          refine lv_iload_n hx hb d_X_readPattern_32 rfl (lv_at hl 3 rfl) ?_
          refine lv_iload_n hx hb d_X_readPattern_33 rfl (lv_at hl 4 rfl) ?_
          refine lv_iload_n hx hb d_X_readPattern_34 rfl (lv_at hl 5 rfl) ?_
          refine r_X_takeAnyRow hft ht4 hgv hsv hx hb hml hown htB hK hP hD hS hA hl.1 (Nat.le_of_ble_eq_true rfl) ⟨Nat.le_of_ble_eq_true rfl, Nat.le_of_ble_eq_true rfl⟩ ⟨Nat.zero_le _, Nat.zero_le _⟩ d_X_readPattern_35 (fun su H locs hsu hP hD hS => ?_)
          refine lv_goto (tgt := 51) hx hb d_X_readPattern_38 (by decide) ?_
          refine lv_iload hx hb d_X_readPattern_51 (lv_at hl 1 rfl) ?_
          refine lv_iload hx hb d_X_readPattern_53 (lv_at hl 0 rfl) ?_
          refine va_mmax hx hb (by rw [hml]; exact hl.1.symm) hown (htB _ hml_X_91) (htB _ hsta_Math_max) (htB _ hini_Math) (htB _ hco_Math_max) (Nat.le_of_ble_eq_true rfl) (Nat.le_of_ble_eq_true rfl) (Nat.zero_le _) (Nat.zero_le _) d_X_readPattern_55 ?_
          refine lv_topi (fun v_5 ev_5 => ?_)
          obtain rfl : v_5 = nI (nx pt qt pn a - 1) := ev_5.trans (mx_nx hp (by omega))
          refine lv_iconst (v := nI 1) hx hb d_X_readPattern_58 (by decide) ?_
          refine lv_iadd hx hb d_X_readPattern_59 ?_
          refine lv_topi (fun v_6 ev_6 => ?_)
          obtain rfl : v_6 = nI (nx pt qt pn a - 1 + 1) := ev_6.trans (nI_add _ _)
          rw [show nx pt qt pn a - 1 + 1 = nx pt qt pn a by omega]
          refine lv_istore (lv' := [(4, .int (nI (nx pt qt pn a))), (5, .int (oI (cl pt qt pn a))), (0, .ref h0), (1, .int (nI frm)), (2, .int (nI too)), (3, .int (bI b))]) hx hb d_X_readPattern_60 hl (by decide) rfl (fun ls hl => ?_)
          refine lv_goto (tgt := 3) hx hb d_X_readPattern_62 (by decide) ?_
          refine ih (nx pt qt pn a) (sg tx pt qt pn b frm gv a) su _ _ (nx_le (by omega)) (by omega) (sg_sml hgv) (by rw [← rdp_go (by omega)]; exact hE) (fun j q1 q2 => ?_) hP hD hS ls (lv_sub hl [0, 2, 3, 4, 5] rfl)
          unfold sg
          first
          | (rw [if_pos ‹iu pt qt pn a (nI 42) = true›, if_neg (by omega)]; exact hsu j q1 q2)
          | (rw [if_neg (by rw [‹iu pt qt pn a (nI 42) = false›]; decide)]
             by_cases q : j = frm
             · subst q; rw [if_pos (Nat.le_refl _)]; exact hsu.1
             · rw [if_neg (by omega)]; exact hsu.2 j (by omega) q2)
  refine lv_iconst (v := nI 0) hx hb d_X_readPattern_0 (by decide) ?_
  refine lv_istore (lv' := [(4, .int (nI 0)), (0, .ref h0), (1, .int (nI frm)), (2, .int (nI too)), (3, .int (bI b))]) hx hb d_X_readPattern_1 hl (by decide) rfl (fun ls hl => ?_)
  exact loop (pn + 1) 0 g _ _ _ (by omega) (by omega) hg rfl hsr hP hD hS ls (lv_sub hl [0, 1, 2, 3, 4] rfl)

theorem r_X_readPattern {p : Program} {l : Launch} {e : Env} {R : Room} {s : State} {mm : MethodId} {args : Array Value} {below : List Frame} {meth : Method} {c : Code} {H : Heap} {locs : List Loc} {cells slots : Nat} {Q : State → Prop} {cc : ByteArray} {pcn nL : Nat} {ls : Array Slot} {rest : List Value} {dC : Nat → ClassId} {dI : Nat → Nat → Nat} {h0 a1 a2 a3 a4 : Nat} {cI cZ : ClassId} {tx pt qt sr : Nat → Int32} {tn pn : Nat} {A : Nat → Prop} {H0 : Heap} (hp : pn ≤ 200) {frm too : Nat} (hft : frm ≤ too) (ht4 : too ≤ 400) {b : Bool} {g : Nat → Option Nat} (hg : sml g) (hsr : ∀ j, frm ≤ j → j ≤ too → sr j = oI (g j)) (hx : p.tables.exec = Jvm.exec) (hb : c.code = cc) (hml : c.maxLocals = nL) (hown : s.vm.findClass R_X = some mm.cls) (htB : ∀ w ∈ wB, w.before args s = true) (hK : va_K (dC, dI) classes (tyIZ cI cZ) s) (hP : va_P (dC, dI) classes (wX h0 a1 a2 a3 a4 cI cZ tx pt qt sr tn pn) H) (hD : va_D A (wX h0 a1 a2 a3 a4 cI cZ tx pt qt sr tn pn)) (hS : va_S A H0 H locs) (hA : ∀ q : Nat, H0.size ≤ q → A q) (hls : ls.size = nL) (hre : (rest.map fun v => v.category).sum ≤ 8) (hR : 4 + 1 ≤ R.frames ∧ 8 + (6 + 11) + 98 ≤ R.locals) (hce : cells ≤ R.cells ∧ slots ≤ R.slots) (hd : decode cc pcn = .ok (.invokevirtual 77, 3)) (kk : ∀ (su : Nat → Int32) (H1 : Heap) (locs1 : List Loc), (∀ j, frm ≤ j → j ≤ too → su j = oI (rdp tx pt qt pn b frm pn 0 g j)) → va_P (dC, dI) classes (wX h0 a1 a2 a3 a4 cI cZ tx pt qt su tn pn) H1 → va_D A (wX h0 a1 a2 a3 a4 cI cZ tx pt qt su tn pn) → va_S A H0 H1 locs1 → W p l e R s mm args below meth c H1 locs1 cells slots Q (F0 mm (pcn + 3) ls (rest))) : W p l e R s mm args below meth c H locs cells slots Q (F0 mm pcn ls (.int (bI b) :: .int (nI too) :: .int (nI frm) :: .ref h0 :: rest)) := by
  have hFc := va_free (wc := (wX h0 a1 a2 a3 a4 cI cZ tx pt qt sr tn pn)) hD hS hA [0, 1, 2, 3, 4] rfl
  refine va_callv (va_runV (As := [.int (nI frm), .int (nI too), .int (bI b)]) (rest := rest) ⟨hx, hb, hml, hown, htB⟩ (c_X_readPattern l dC dI h0 a1 a2 a3 a4 cI cZ tx pt qt sr tn pn H.size hp frm too hft ht4 b g hg hsr) (cwV 3 htB (gV hml_X_77 hinm_X_readPattern hsel_X_readPattern hini_X hco_X_readPattern) rfl rfl rfl (by decide +kernel) hR) ⟨fun a U g mk q => by obtain ⟨q0, q1, qP, qK, qD⟩ := q; exact ⟨q0, q1, qP, va_K.moved (u := U) (U := U.calling g mk a) (Vm.Alike.refl U.vm) qK, qD⟩, va_recv hK hP (ci := 0) (q0 := 0) rfl rfl, fun U hU hW => ⟨rfl, by rw [hU], by rw [hU]; exact hP, va_K.moved hW.alike hK, hD.weaken (fun _ _ _ _ => trivial)⟩⟩ rfl rfl hls rfl (lv_room hre) hd ⟨hce.1, hce.2⟩) hS (fun q _ h => hFc q h) hFc (fun su t H1 locs1 ht hvm hw hB hz1 hk1 hS1 => ?_)
  obtain ⟨hP1, hK1, hD1⟩ := hB
  rw [ht] at hP1
  have hj := va_join (wr := []) (w1 := (wX h0 a1 a2 a3 a4 cI cZ tx pt qt su tn pn)) hP hD [0, 1, 2, 3, 4] [] rfl rfl (by decide) (by decide) hk1 hFc hP1 hD1
  exact kk su H1 locs1 hw hj.1 hj.2 hS1

