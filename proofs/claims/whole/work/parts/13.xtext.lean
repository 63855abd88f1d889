/-! the class: text, pattern, clear: by wip/whole/gen/gen13.py -/
set_option maxHeartbeats 4000000 in
set_option maxRecDepth 100000 in
theorem c_X_text (l : Launch) (dC : Nat → ClassId) (dI : Nat → Nat → Nat) (h0 a1 a2 a3 a4 : Nat) (cI cZ : ClassId) (tx pt qt sr : Nat → Int32) (tn pn : Nat) (sz : Nat) (ht : tn ≤ 400) (x : Int64) (n : Int32) : Met l y_X_text (.code y_X_text b_X_text 5 (some .int) :: wB) (Rm 1 30) (va_Pc [.ref h0, .long x, .int n] (fun U => U.heap.size = sz ∧ va_P (dC, dI) classes (wX h0 a1 a2 a3 a4 cI cZ tx pt qt sr tn pn) U.heap ∧ va_K (dC, dI) classes (tyIZ cI cZ) U ∧ va_D (fun _ => True) (wX h0 a1 a2 a3 a4 cI cZ tx pt qt sr tn pn))) (va_Qi (fun (r : Int32) (u : (Nat → Int32) × Nat) => r = teR tn 400 n ∧ u = (teT tx tn 400 x n, teN tn 400 n)) (fun (u : (Nat → Int32) × Nat) (t : State) => va_P (dC, dI) classes (wX h0 a1 a2 a3 a4 cI cZ u.1 pt qt sr u.2 pn) t.heap ∧ va_K (dC, dI) classes (tyIZ cI cZ) t ∧ va_D (va_A (wX h0 a1 a2 a3 a4 cI cZ tx pt qt sr tn pn) sz) (wX h0 a1 a2 a3 a4 cI cZ u.1 pt qt sr u.2 pn)) (va_A (wX h0 a1 a2 a3 a4 cI cZ tx pt qt sr tn pn) sz)) 0 0 (va_A (wX h0 a1 a2 a3 a4 cI cZ tx pt qt sr tn pn) sz) := by
  refine Met.ofW (cc := b_X_text) (maxL := 5) (ret := (some .int)) (by decide) rfl ?_
  intro p e s mm args below meth c s₁ B hml hv
  obtain ⟨rfl, hsz, hP, hK, hD0⟩ := hv
  have hx := B.exec
  have hb := B.bytes
  have hr := B.returns
  have hts := atoms_spec (ws := (.code y_X_text b_X_text 5 (some .int) :: wB)) B.pre
  have htB : ∀ w ∈ wB, w.before _ s = true := fun w h => hts w (List.mem_cons_of_mem _ h)
  have hown : s.vm.findClass R_X = some mm.cls := findClass_of_methodNamed B.named
  have hlocks := B.notSynchronized
  subst hsz
  have hD := hD0.self (sz := s.heap.size)
  generalize hAe : va_A (wX h0 a1 a2 a3 a4 cI cZ tx pt qt sr tn pn) s.heap.size = A at hD ⊢
  have hA : ∀ q : Nat, s.heap.size ≤ q → A q := fun q h => by rw [← hAe]; exact Or.inr h
  have hS : va_S A s.heap s.heap [] := va_S.rf
  have hP : va_P (dC, dI) classes (wX h0 a1 a2 a3 a4 cI cZ tx pt qt sr tn pn) s.heap := hP
  have hl := lv_entry ([.ref h0, .long x, .int n]) (n := 5) (Nat.le_of_ble_eq_true rfl)
  rw [lg_entry_eq]
  generalize (lg_sl ([.ref h0, .long x, .int n]) ++ List.replicate (5 - (lg_sl ([.ref h0, .long x, .int n])).length) Slot.unset).toArray = ls at hl ⊢
  have hl : lv_has ls 5 [(0, .ref h0), (1, .long x), (3, .int n)] := hl
  refine lv_aload_n hx hb d_X_text_0 rfl (lv_at hl 0 rfl) ?_
  refine va_get (D := (dC, dI)) (ci := 0) (v := .int (nI tn)) (C := R_X) (T := F_X) (N := 6) hx hb htB in_X hown hK hP 0 rfl rfl 1 (by decide) (htB _ hfl_X_13) (fun _ h9 => h9) rfl d_X_text_1 ?_
  refine lv_iload_n hx hb d_X_text_4 rfl (lv_at hl 2 rfl) ?_
  refine lv_sipush (v := nI 400) hx hb d_X_text_5 (by decide) ?_
  refine r_X_hasRoom (by omega) (by omega) hx hb hml hown htB hl.1 (Nat.le_of_ble_eq_true rfl) ⟨Nat.le_of_ble_eq_true rfl, Nat.le_of_ble_eq_true rfl⟩ ⟨Nat.zero_le _, Nat.zero_le _⟩ d_X_text_8 ?_
  refine lv_if_ne (tgt := 16) hx hb d_X_text_11 (by decide) (fun c_1 => ?_) (fun c_1 => ?_)
  · have c_1 := bI_nz.mp c_1
    obtain ⟨j, hj, rfl, hle⟩ := hrm_t c_1
    refine lv_iconst (v := nI 0) hx hb d_X_text_16 (by decide) ?_
    refine lv_istore (lv' := [(4, .int (nI 0)), (0, .ref h0), (1, .long x), (3, .int (nI j))]) hx hb d_X_text_17 hl (by decide) rfl (fun ls hl => ?_)
    have hcj : (nI j).toNatClampNeg = j := nI_clamp (by omega)
    have loop : ∀ (n i : Nat) (H : Heap) (locs : List Loc), i ≤ 1000 → 1000 < i + n → i ≤ j → va_P (dC, dI) classes (wX h0 a1 a2 a3 a4 cI cZ ((ap tx tn x j i)) pt qt sr tn pn) H → va_D A (wX h0 a1 a2 a3 a4 cI cZ ((ap tx tn x j i)) pt qt sr tn pn) → va_S A s.heap H locs → ∀ ls : Array Slot, lv_has ls 5 [(4, .int (nI i)), (0, .ref h0), (1, .long x), (3, .int (nI j))] → W p l e (Rm 1 30) s mm [.ref h0, .long x, .int (nI j)].toArray below meth c H locs 0 0 (MQ below (va_Qi (fun (r : Int32) (u : (Nat → Int32) × Nat) => r = teR tn 400 (nI j) ∧ u = (teT tx tn 400 x (nI j), teN tn 400 (nI j))) (fun (u : (Nat → Int32) × Nat) (t : State) => va_P (dC, dI) classes (wX h0 a1 a2 a3 a4 cI cZ u.1 pt qt sr u.2 pn) t.heap ∧ va_K (dC, dI) classes (tyIZ cI cZ) t ∧ va_D A (wX h0 a1 a2 a3 a4 cI cZ u.1 pt qt sr u.2 pn)) A) [.ref h0, .long x, .int (nI j)].toArray s 0 0 A) (F0 mm 19 ls []) := by
      intro n
      induction n with
      | zero => intro i H locs h1 h2; exact absurd h2 (by omega)
      | succ n ih =>
        intro i H locs hi hn hij hP hD hS ls hl
        refine lv_iload hx hb d_X_text_19 (lv_at hl 0 rfl) ?_
        refine lv_iload_n hx hb d_X_text_21 rfl (lv_at hl 3 rfl) ?_
        refine lv_icmp_ge (tgt := 50) hx hb d_X_text_22 (by decide) (fun c_1 => ?_) (fun c_1 => ?_)
        · have c_1 := (nI_leI (by omega) (by omega)).mp c_1
          refine lv_aload_n hx hb d_X_text_50 rfl (lv_at hl 1 rfl) ?_
          refine lv_dup hx hb d_X_text_51 rfl ?_
          refine va_get (D := (dC, dI)) (ci := 0) (v := .int (nI tn)) (C := R_X) (T := F_X) (N := 6) hx hb htB in_X hown hK hP 0 rfl rfl 1 (by decide) (htB _ hfl_X_13) (fun _ h9 => h9) rfl d_X_text_52 ?_
          refine lv_iload_n hx hb d_X_text_55 rfl (lv_at hl 3 rfl) ?_
          refine lv_iadd hx hb d_X_text_56 ?_
          refine lv_topi (fun v_2 ev_2 => ?_)
          obtain rfl : v_2 = nI (tn + j) := ev_2.trans (nI_add _ _)
          refine va_put (D := (dC, dI)) (ci := 0) (v := .int (nI (tn + j))) (ty := .int) (C := R_X) (T := F_X) (N := 6) hx hb htB in_X t_X t_X_ok n_X hown hK hP hD hS 0 rfl rfl 1 (by decide) (htB _ hfl_X_13) (fun _ h9 => h9) rfl (by decide +kernel) rfl rfl (Nat.le_of_ble_eq_true rfl) d_X_text_57 (fun H locs hP hD hS => ?_)
          have hP : va_P (dC, dI) classes (wX h0 a1 a2 a3 a4 cI cZ (ap tx tn x j i) pt qt sr (tn + j) pn) H := hP
          have hD : va_D A (wX h0 a1 a2 a3 a4 cI cZ (ap tx tn x j i) pt qt sr (tn + j) pn) := hD
          refine lv_aload_n hx hb d_X_text_60 rfl (lv_at hl 1 rfl) ?_
          refine va_get (D := (dC, dI)) (ci := 0) (v := .int (nI (tn + j))) (C := R_X) (T := F_X) (N := 6) hx hb htB in_X hown hK hP 0 rfl rfl 1 (by decide) (htB _ hfl_X_13) (fun _ h9 => h9) rfl d_X_text_61 ?_
          exact W.iret (v := nI (tn + j)) hx hb hr (fun t ht hW => ⟨⟨_, (ap tx tn x j i, tn + j), rfl, ⟨by unfold teR; rw [if_pos ‹_›, hcj], by unfold teT teN; rw [if_pos ‹_›, if_pos ‹_›, hcj, show i = j by omega]⟩, by rw [ht]; exact hP, va_K.moved hW.alike hK, hD⟩, hS.F ht⟩) hS.2.2 d_X_text_64
        · have c_1 := mt (nI_leI (by omega) (by omega)).mpr c_1
          refine lv_aload_n hx hb d_X_text_25 rfl (lv_at hl 1 rfl) ?_
          refine va_get (D := (dC, dI)) (ci := 0) (v := .ref a1) (C := R_X) (T := F_X) (N := 6) hx hb htB in_X hown hK hP 0 rfl rfl 0 (by decide) (htB _ hfl_X_9) (fun _ h9 => h9) rfl d_X_text_26 ?_
          refine lv_aload_n hx hb d_X_text_29 rfl (lv_at hl 1 rfl) ?_
          refine va_get (D := (dC, dI)) (ci := 0) (v := .int (nI tn)) (C := R_X) (T := F_X) (N := 6) hx hb htB in_X hown hK hP 0 rfl rfl 1 (by decide) (htB _ hfl_X_13) (fun _ h9 => h9) rfl d_X_text_30 ?_
          refine lv_iload hx hb d_X_text_33 (lv_at hl 0 rfl) ?_
          refine lv_iadd hx hb d_X_text_35 ?_
          refine lv_topi (fun v_3 ev_3 => ?_)
          obtain rfl : v_3 = nI (tn + i) := ev_3.trans (nI_add _ _)
          refine lv_lload_n hx hb d_X_text_36 rfl (lv_at hl 2 rfl) ?_
          refine lv_iload_n hx hb d_X_text_37 rfl (lv_at hl 3 rfl) ?_
          refine lv_iload hx hb d_X_text_38 (lv_at hl 0 rfl) ?_
          refine r_X_byteOf (by omega) hx hb hml hown htB hl.1 (Nat.le_of_ble_eq_true rfl) ⟨Nat.le_of_ble_eq_true rfl, Nat.le_of_ble_eq_true rfl⟩ ⟨Nat.zero_le _, Nat.zero_le _⟩ d_X_text_40 ?_
          refine va_iast hx hb hK hP hD hS 1 0 rfl rfl (vp_in_nI (n := tn + i) (by omega) (by decide)) d_X_text_43 (fun H locs hP hD hS => ?_)
          rw [nI_clamp (n := tn + i) (by omega)] at hP hD
          have hP : va_P (dC, dI) classes (wX h0 a1 a2 a3 a4 cI cZ (upd (ap tx tn x j i) (tn + i) (bu x (8 * (j - 1 - i)))) pt qt sr tn pn) H := hP
          have hD : va_D A (wX h0 a1 a2 a3 a4 cI cZ (upd (ap tx tn x j i) (tn + i) (bu x (8 * (j - 1 - i)))) pt qt sr tn pn) := hD
          refine lv_iinc (v := nI (i + 1)) (lv' := [(4, .int (nI (i + 1))), (0, .ref h0), (1, .long x), (3, .int (nI j))]) hx hb d_X_text_44 hl (k := 0) rfl (nI_add _ 1) (by decide) rfl (fun ls hl => ?_)
          refine lv_goto (tgt := 19) hx hb d_X_text_47 (by decide) ?_
          rw [ap_s] at hP hD
          exact ih (i + 1) _ _ (by omega) (by omega) (by omega) hP hD hS ls (lv_sub hl [0, 1, 2, 3] rfl)
    rw [← ap_0 (tx := tx) (tn := tn) (x := x) (j := j)] at hP hD
    exact loop 1001 0 _ _ (by omega) (by omega) (by omega) hP hD hS ls (lv_sub hl [0, 1, 2, 3] rfl)
  · have c_1 := bI_z.mp c_1
    refine lv_iconst (v := -1) hx hb d_X_text_14 (by decide) ?_
    exact W.iret (v := -1) hx hb hr (fun t ht hW => ⟨⟨_, (tx, tn), rfl, ⟨by unfold teR; rw [if_neg (by rw [‹hrm tn 400 n = false›]; decide)], by unfold teT teN; rw [if_neg (by rw [‹hrm tn 400 n = false›]; decide), if_neg (by rw [‹hrm tn 400 n = false›]; decide)]⟩, by rw [ht]; exact hP, va_K.moved hW.alike hK, hD⟩, hS.F ht⟩) hS.2.2 d_X_text_15

set_option maxHeartbeats 4000000 in
set_option maxRecDepth 100000 in
theorem c_X_pattern (l : Launch) (dC : Nat → ClassId) (dI : Nat → Nat → Nat) (h0 a1 a2 a3 a4 : Nat) (cI cZ : ClassId) (tx pt qt sr : Nat → Int32) (tn pn : Nat) (sz : Nat) (hp : pn ≤ 200) (x : Int64) (n qq : Int32) : Met l y_X_pattern (.code y_X_pattern b_X_pattern 6 (some .int) :: wB) (Rm 1 30) (va_Pc [.ref h0, .long x, .int n, .int qq] (fun U => U.heap.size = sz ∧ va_P (dC, dI) classes (wX h0 a1 a2 a3 a4 cI cZ tx pt qt sr tn pn) U.heap ∧ va_K (dC, dI) classes (tyIZ cI cZ) U ∧ va_D (fun _ => True) (wX h0 a1 a2 a3 a4 cI cZ tx pt qt sr tn pn))) (va_Qi (fun (r : Int32) (u : (Nat → Int32) × (Nat → Int32) × Nat) => r = teR pn 200 n ∧ u = (teT pt pn 200 x n, teQ qt pn 200 qq n, teN pn 200 n)) (fun (u : (Nat → Int32) × (Nat → Int32) × Nat) (t : State) => va_P (dC, dI) classes (wX h0 a1 a2 a3 a4 cI cZ tx u.1 u.2.1 sr tn u.2.2) t.heap ∧ va_K (dC, dI) classes (tyIZ cI cZ) t ∧ va_D (va_A (wX h0 a1 a2 a3 a4 cI cZ tx pt qt sr tn pn) sz) (wX h0 a1 a2 a3 a4 cI cZ tx u.1 u.2.1 sr tn u.2.2)) (va_A (wX h0 a1 a2 a3 a4 cI cZ tx pt qt sr tn pn) sz)) 0 0 (va_A (wX h0 a1 a2 a3 a4 cI cZ tx pt qt sr tn pn) sz) := by
  refine Met.ofW (cc := b_X_pattern) (maxL := 6) (ret := (some .int)) (by decide) rfl ?_
  intro p e s mm args below meth c s₁ B hml hv
  obtain ⟨rfl, hsz, hP, hK, hD0⟩ := hv
  have hx := B.exec
  have hb := B.bytes
  have hr := B.returns
  have hts := atoms_spec (ws := (.code y_X_pattern b_X_pattern 6 (some .int) :: wB)) B.pre
  have htB : ∀ w ∈ wB, w.before _ s = true := fun w h => hts w (List.mem_cons_of_mem _ h)
  have hown : s.vm.findClass R_X = some mm.cls := findClass_of_methodNamed B.named
  have hlocks := B.notSynchronized
  subst hsz
  have hD := hD0.self (sz := s.heap.size)
  generalize hAe : va_A (wX h0 a1 a2 a3 a4 cI cZ tx pt qt sr tn pn) s.heap.size = A at hD ⊢
  have hA : ∀ q : Nat, s.heap.size ≤ q → A q := fun q h => by rw [← hAe]; exact Or.inr h
  have hS : va_S A s.heap s.heap [] := va_S.rf
  have hP : va_P (dC, dI) classes (wX h0 a1 a2 a3 a4 cI cZ tx pt qt sr tn pn) s.heap := hP
  have hl := lv_entry ([.ref h0, .long x, .int n, .int qq]) (n := 6) (Nat.le_of_ble_eq_true rfl)
  rw [lg_entry_eq]
  generalize (lg_sl ([.ref h0, .long x, .int n, .int qq]) ++ List.replicate (6 - (lg_sl ([.ref h0, .long x, .int n, .int qq])).length) Slot.unset).toArray = ls at hl ⊢
  have hl : lv_has ls 6 [(0, .ref h0), (1, .long x), (3, .int n), (4, .int qq)] := hl
  refine lv_aload_n hx hb d_X_pattern_0 rfl (lv_at hl 0 rfl) ?_
  refine va_get (D := (dC, dI)) (ci := 0) (v := .int (nI pn)) (C := R_X) (T := F_X) (N := 6) hx hb htB in_X hown hK hP 0 rfl rfl 4 (by decide) (htB _ hfl_X_24) (fun _ h9 => h9) rfl d_X_pattern_1 ?_
  refine lv_iload_n hx hb d_X_pattern_4 rfl (lv_at hl 2 rfl) ?_
  refine lv_sipush (v := nI 200) hx hb d_X_pattern_5 (by decide) ?_
  refine r_X_hasRoom (by omega) (by omega) hx hb hml hown htB hl.1 (Nat.le_of_ble_eq_true rfl) ⟨Nat.le_of_ble_eq_true rfl, Nat.le_of_ble_eq_true rfl⟩ ⟨Nat.zero_le _, Nat.zero_le _⟩ d_X_pattern_8 ?_
  refine lv_if_ne (tgt := 16) hx hb d_X_pattern_11 (by decide) (fun c_1 => ?_) (fun c_1 => ?_)
  · have c_1 := bI_nz.mp c_1
    obtain ⟨j, hj, rfl, hle⟩ := hrm_t c_1
    refine lv_iconst (v := nI 0) hx hb d_X_pattern_16 (by decide) ?_
    refine lv_istore (lv' := [(5, .int (nI 0)), (0, .ref h0), (1, .long x), (3, .int (nI j)), (4, .int qq)]) hx hb d_X_pattern_17 hl (by decide) rfl (fun ls hl => ?_)
    have hcj : (nI j).toNatClampNeg = j := nI_clamp (by omega)
    have loop : ∀ (n i : Nat) (H : Heap) (locs : List Loc), i ≤ 1000 → 1000 < i + n → i ≤ j → va_P (dC, dI) classes (wX h0 a1 a2 a3 a4 cI cZ tx ((ap pt pn x j i)) ((aq qt pn qq i)) sr tn pn) H → va_D A (wX h0 a1 a2 a3 a4 cI cZ tx ((ap pt pn x j i)) ((aq qt pn qq i)) sr tn pn) → va_S A s.heap H locs → ∀ ls : Array Slot, lv_has ls 6 [(5, .int (nI i)), (0, .ref h0), (1, .long x), (3, .int (nI j)), (4, .int qq)] → W p l e (Rm 1 30) s mm [.ref h0, .long x, .int (nI j), .int qq].toArray below meth c H locs 0 0 (MQ below (va_Qi (fun (r : Int32) (u : (Nat → Int32) × (Nat → Int32) × Nat) => r = teR pn 200 (nI j) ∧ u = (teT pt pn 200 x (nI j), teQ qt pn 200 qq (nI j), teN pn 200 (nI j))) (fun (u : (Nat → Int32) × (Nat → Int32) × Nat) (t : State) => va_P (dC, dI) classes (wX h0 a1 a2 a3 a4 cI cZ tx u.1 u.2.1 sr tn u.2.2) t.heap ∧ va_K (dC, dI) classes (tyIZ cI cZ) t ∧ va_D A (wX h0 a1 a2 a3 a4 cI cZ tx u.1 u.2.1 sr tn u.2.2)) A) [.ref h0, .long x, .int (nI j), .int qq].toArray s 0 0 A) (F0 mm 19 ls []) := by
      intro n
      induction n with
      | zero => intro i H locs h1 h2; exact absurd h2 (by omega)
      | succ n ih =>
        intro i H locs hi hn hij hP hD hS ls hl
        refine lv_iload hx hb d_X_pattern_19 (lv_at hl 0 rfl) ?_
        refine lv_iload_n hx hb d_X_pattern_21 rfl (lv_at hl 3 rfl) ?_
        refine lv_icmp_ge (tgt := 78) hx hb d_X_pattern_22 (by decide) (fun c_1 => ?_) (fun c_1 => ?_)
        · have c_1 := (nI_leI (by omega) (by omega)).mp c_1
          refine lv_aload_n hx hb d_X_pattern_78 rfl (lv_at hl 1 rfl) ?_
          refine lv_dup hx hb d_X_pattern_79 rfl ?_
          refine va_get (D := (dC, dI)) (ci := 0) (v := .int (nI pn)) (C := R_X) (T := F_X) (N := 6) hx hb htB in_X hown hK hP 0 rfl rfl 4 (by decide) (htB _ hfl_X_24) (fun _ h9 => h9) rfl d_X_pattern_80 ?_
          refine lv_iload_n hx hb d_X_pattern_83 rfl (lv_at hl 3 rfl) ?_
          refine lv_iadd hx hb d_X_pattern_84 ?_
          refine lv_topi (fun v_2 ev_2 => ?_)
          obtain rfl : v_2 = nI (pn + j) := ev_2.trans (nI_add _ _)
          refine va_put (D := (dC, dI)) (ci := 0) (v := .int (nI (pn + j))) (ty := .int) (C := R_X) (T := F_X) (N := 6) hx hb htB in_X t_X t_X_ok n_X hown hK hP hD hS 0 rfl rfl 4 (by decide) (htB _ hfl_X_24) (fun _ h9 => h9) rfl (by decide +kernel) rfl rfl (Nat.le_of_ble_eq_true rfl) d_X_pattern_85 (fun H locs hP hD hS => ?_)
          have hP : va_P (dC, dI) classes (wX h0 a1 a2 a3 a4 cI cZ tx (ap pt pn x j i) (aq qt pn qq i) sr tn (pn + j)) H := hP
          have hD : va_D A (wX h0 a1 a2 a3 a4 cI cZ tx (ap pt pn x j i) (aq qt pn qq i) sr tn (pn + j)) := hD
          refine lv_aload_n hx hb d_X_pattern_88 rfl (lv_at hl 1 rfl) ?_
          refine va_get (D := (dC, dI)) (ci := 0) (v := .int (nI (pn + j))) (C := R_X) (T := F_X) (N := 6) hx hb htB in_X hown hK hP 0 rfl rfl 4 (by decide) (htB _ hfl_X_24) (fun _ h9 => h9) rfl d_X_pattern_89 ?_
          exact W.iret (v := nI (pn + j)) hx hb hr (fun t ht hW => ⟨⟨_, (ap pt pn x j i, aq qt pn qq i, pn + j), rfl, ⟨by unfold teR; rw [if_pos ‹_›, hcj], by unfold teT teN teQ; rw [if_pos ‹_›, if_pos ‹_›, if_pos ‹_›, hcj, show i = j by omega]⟩, by rw [ht]; exact hP, va_K.moved hW.alike hK, hD⟩, hS.F ht⟩) hS.2.2 d_X_pattern_92
        · have c_1 := mt (nI_leI (by omega) (by omega)).mpr c_1
          refine lv_aload_n hx hb d_X_pattern_25 rfl (lv_at hl 1 rfl) ?_
          refine va_get (D := (dC, dI)) (ci := 0) (v := .ref a2) (C := R_X) (T := F_X) (N := 6) hx hb htB in_X hown hK hP 0 rfl rfl 2 (by decide) (htB _ hfl_X_17) (fun _ h9 => h9) rfl d_X_pattern_26 ?_
          refine lv_aload_n hx hb d_X_pattern_29 rfl (lv_at hl 1 rfl) ?_
          refine va_get (D := (dC, dI)) (ci := 0) (v := .int (nI pn)) (C := R_X) (T := F_X) (N := 6) hx hb htB in_X hown hK hP 0 rfl rfl 4 (by decide) (htB _ hfl_X_24) (fun _ h9 => h9) rfl d_X_pattern_30 ?_
          refine lv_iload hx hb d_X_pattern_33 (lv_at hl 0 rfl) ?_
          refine lv_iadd hx hb d_X_pattern_35 ?_
          refine lv_topi (fun v_3 ev_3 => ?_)
          obtain rfl : v_3 = nI (pn + i) := ev_3.trans (nI_add _ _)
          refine lv_lload_n hx hb d_X_pattern_36 rfl (lv_at hl 2 rfl) ?_
          refine lv_iload_n hx hb d_X_pattern_37 rfl (lv_at hl 3 rfl) ?_
          refine lv_iload hx hb d_X_pattern_38 (lv_at hl 0 rfl) ?_
          refine r_X_byteOf (by omega) hx hb hml hown htB hl.1 (Nat.le_of_ble_eq_true rfl) ⟨Nat.le_of_ble_eq_true rfl, Nat.le_of_ble_eq_true rfl⟩ ⟨Nat.zero_le _, Nat.zero_le _⟩ d_X_pattern_40 ?_
          refine va_iast hx hb hK hP hD hS 2 0 rfl rfl (vp_in_nI (n := pn + i) (by omega) (by decide)) d_X_pattern_43 (fun H locs hP hD hS => ?_)
          rw [nI_clamp (n := pn + i) (by omega)] at hP hD
          have hP : va_P (dC, dI) classes (wX h0 a1 a2 a3 a4 cI cZ tx (upd (ap pt pn x j i) (pn + i) (bu x (8 * (j - 1 - i)))) (aq qt pn qq i) sr tn pn) H := hP
          have hD : va_D A (wX h0 a1 a2 a3 a4 cI cZ tx (upd (ap pt pn x j i) (pn + i) (bu x (8 * (j - 1 - i)))) (aq qt pn qq i) sr tn pn) := hD
          refine lv_aload_n hx hb d_X_pattern_44 rfl (lv_at hl 1 rfl) ?_
          refine va_get (D := (dC, dI)) (ci := 0) (v := .ref a3) (C := R_X) (T := F_X) (N := 6) hx hb htB in_X hown hK hP 0 rfl rfl 3 (by decide) (htB _ hfl_X_20) (fun _ h9 => h9) rfl d_X_pattern_45 ?_
          refine lv_aload_n hx hb d_X_pattern_48 rfl (lv_at hl 1 rfl) ?_
          refine va_get (D := (dC, dI)) (ci := 0) (v := .int (nI pn)) (C := R_X) (T := F_X) (N := 6) hx hb htB in_X hown hK hP 0 rfl rfl 4 (by decide) (htB _ hfl_X_24) (fun _ h9 => h9) rfl d_X_pattern_49 ?_
          refine lv_iload hx hb d_X_pattern_52 (lv_at hl 0 rfl) ?_
          refine lv_iadd hx hb d_X_pattern_54 ?_
          refine lv_topi (fun v_4 ev_4 => ?_)
          obtain rfl : v_4 = nI (pn + i) := ev_4.trans (nI_add _ _)
          refine lv_iload hx hb d_X_pattern_55 (lv_at hl 4 rfl) ?_
          refine lv_iload hx hb d_X_pattern_57 (lv_at hl 0 rfl) ?_
          refine lv_iushr hx hb d_X_pattern_59 rfl ?_
          refine lv_topi (fun v_5 ev_5 => ?_)
          refine lv_iconst (v := nI 1) hx hb d_X_pattern_60 (by decide) ?_
          refine lv_iand hx hb d_X_pattern_61 ?_
          refine lv_topi (fun v_6 ev_6 => ?_)
          refine lv_iconst (v := nI 1) hx hb d_X_pattern_62 (by decide) ?_
          refine lv_icmp_ne (tgt := 70) hx hb d_X_pattern_63 (by decide) (fun c_7 => ?_) (fun c_7 => ?_)
          · refine lv_iconst (v := nI 0) hx hb d_X_pattern_70 (by decide) ?_
            refine va_zast hx hb hK hP hD hS 3 1 rfl rfl (vp_in_nI (n := pn + i) (by omega) (by decide)) d_X_pattern_71 (fun H locs hP hD hS => ?_)
            rw [nI_clamp (n := pn + i) (by omega), show vp_nar .boolean (nI 0) = nI 0 from rfl] at hP hD
            have hP : va_P (dC, dI) classes (wX h0 a1 a2 a3 a4 cI cZ tx (upd (ap pt pn x j i) (pn + i) (bu x (8 * (j - 1 - i)))) (upd (aq qt pn qq i) (pn + i) (nI 0)) sr tn pn) H := hP
            have hD : va_D A (wX h0 a1 a2 a3 a4 cI cZ tx (upd (ap pt pn x j i) (pn + i) (bu x (8 * (j - 1 - i)))) (upd (aq qt pn qq i) (pn + i) (nI 0)) sr tn pn) := hD
            refine lv_iinc (v := nI (i + 1)) (lv' := [(5, .int (nI (i + 1))), (0, .ref h0), (1, .long x), (3, .int (nI j)), (4, .int qq)]) hx hb d_X_pattern_72 hl (k := 0) rfl (nI_add _ 1) (by decide) rfl (fun ls hl => ?_)
            refine lv_goto (tgt := 19) hx hb d_X_pattern_75 (by decide) ?_
            have hb9 : nI 0 = bI (qb qq i) := by
              unfold qb
              subst_vars
              first | (rw [decide_eq_false ‹_›]; rfl) | (rw [decide_eq_true (Eq.symm ‹_›)]; rfl)
            rw [ap_s, hb9, aq_s] at hP hD
            exact ih (i + 1) _ _ (by omega) (by omega) (by omega) hP hD hS ls (lv_sub hl [0, 1, 2, 3, 4] rfl)
          · refine lv_iconst (v := nI 1) hx hb d_X_pattern_66 (by decide) ?_
            refine lv_goto (tgt := 71) hx hb d_X_pattern_67 (by decide) ?_
            refine va_zast hx hb hK hP hD hS 3 1 rfl rfl (vp_in_nI (n := pn + i) (by omega) (by decide)) d_X_pattern_71 (fun H locs hP hD hS => ?_)
            rw [nI_clamp (n := pn + i) (by omega), show vp_nar .boolean (nI 1) = nI 1 from rfl] at hP hD
            have hP : va_P (dC, dI) classes (wX h0 a1 a2 a3 a4 cI cZ tx (upd (ap pt pn x j i) (pn + i) (bu x (8 * (j - 1 - i)))) (upd (aq qt pn qq i) (pn + i) (nI 1)) sr tn pn) H := hP
            have hD : va_D A (wX h0 a1 a2 a3 a4 cI cZ tx (upd (ap pt pn x j i) (pn + i) (bu x (8 * (j - 1 - i)))) (upd (aq qt pn qq i) (pn + i) (nI 1)) sr tn pn) := hD
            refine lv_iinc (v := nI (i + 1)) (lv' := [(5, .int (nI (i + 1))), (0, .ref h0), (1, .long x), (3, .int (nI j)), (4, .int qq)]) hx hb d_X_pattern_72 hl (k := 0) rfl (nI_add _ 1) (by decide) rfl (fun ls hl => ?_)
            refine lv_goto (tgt := 19) hx hb d_X_pattern_75 (by decide) ?_
            have hb9 : nI 1 = bI (qb qq i) := by
              unfold qb
              subst_vars
              first | (rw [decide_eq_true ‹_›]; rfl) | (rw [decide_eq_true (Eq.symm ‹_›)]; rfl)
            rw [ap_s, hb9, aq_s] at hP hD
            exact ih (i + 1) _ _ (by omega) (by omega) (by omega) hP hD hS ls (lv_sub hl [0, 1, 2, 3, 4] rfl)
    rw [← ap_0 (tx := pt) (tn := pn) (x := x) (j := j), ← aq_0 (qt := qt) (pn := pn) (q := qq)] at hP hD
    exact loop 1001 0 _ _ (by omega) (by omega) (by omega) hP hD hS ls (lv_sub hl [0, 1, 2, 3, 4] rfl)
  · have c_1 := bI_z.mp c_1
    refine lv_iconst (v := -1) hx hb d_X_pattern_14 (by decide) ?_
    exact W.iret (v := -1) hx hb hr (fun t ht hW => ⟨⟨_, (pt, qt, pn), rfl, ⟨by unfold teR; rw [if_neg (by rw [‹hrm pn 200 n = false›]; decide)], by unfold teT teN teQ; rw [if_neg (by rw [‹hrm pn 200 n = false›]; decide), if_neg (by rw [‹hrm pn 200 n = false›]; decide), if_neg (by rw [‹hrm pn 200 n = false›]; decide)]⟩, by rw [ht]; exact hP, va_K.moved hW.alike hK, hD⟩, hS.F ht⟩) hS.2.2 d_X_pattern_15

set_option maxHeartbeats 4000000 in
set_option maxRecDepth 100000 in
theorem c_X_clear (l : Launch) (dC : Nat → ClassId) (dI : Nat → Nat → Nat) (h0 a1 a2 a3 a4 : Nat) (cI cZ : ClassId) (tx pt qt sr : Nat → Int32) (tn pn : Nat) (sz : Nat)  : Met l y_X_clear (.code y_X_clear b_X_clear 2 (some .int) :: wB) (Rm 0 0) (va_Pc [.ref h0] (fun U => U.heap.size = sz ∧ va_P (dC, dI) classes (wX h0 a1 a2 a3 a4 cI cZ tx pt qt sr tn pn) U.heap ∧ va_K (dC, dI) classes (tyIZ cI cZ) U ∧ va_D (fun _ => True) (wX h0 a1 a2 a3 a4 cI cZ tx pt qt sr tn pn))) (va_Qi (fun (r : Int32) (u : Unit) => r = nI tn) (fun (u : Unit) (t : State) => va_P (dC, dI) classes (wX h0 a1 a2 a3 a4 cI cZ tx pt qt sr 0 0) t.heap ∧ va_K (dC, dI) classes (tyIZ cI cZ) t ∧ va_D (va_A (wX h0 a1 a2 a3 a4 cI cZ tx pt qt sr tn pn) sz) (wX h0 a1 a2 a3 a4 cI cZ tx pt qt sr 0 0)) (va_A (wX h0 a1 a2 a3 a4 cI cZ tx pt qt sr tn pn) sz)) 0 0 (va_A (wX h0 a1 a2 a3 a4 cI cZ tx pt qt sr tn pn) sz) := by
  refine Met.ofW (cc := b_X_clear) (maxL := 2) (ret := (some .int)) (by decide) rfl ?_
  intro p e s mm args below meth c s₁ B hml hv
  obtain ⟨rfl, hsz, hP, hK, hD0⟩ := hv
  have hx := B.exec
  have hb := B.bytes
  have hr := B.returns
  have hts := atoms_spec (ws := (.code y_X_clear b_X_clear 2 (some .int) :: wB)) B.pre
  have htB : ∀ w ∈ wB, w.before _ s = true := fun w h => hts w (List.mem_cons_of_mem _ h)
  have hown : s.vm.findClass R_X = some mm.cls := findClass_of_methodNamed B.named
  have hlocks := B.notSynchronized
  subst hsz
  have hD := hD0.self (sz := s.heap.size)
  generalize hAe : va_A (wX h0 a1 a2 a3 a4 cI cZ tx pt qt sr tn pn) s.heap.size = A at hD ⊢
  have hA : ∀ q : Nat, s.heap.size ≤ q → A q := fun q h => by rw [← hAe]; exact Or.inr h
  have hS : va_S A s.heap s.heap [] := va_S.rf
  have hP : va_P (dC, dI) classes (wX h0 a1 a2 a3 a4 cI cZ tx pt qt sr tn pn) s.heap := hP
  have hl := lv_entry ([.ref h0]) (n := 2) (Nat.le_of_ble_eq_true rfl)
  rw [lg_entry_eq]
  generalize (lg_sl ([.ref h0]) ++ List.replicate (2 - (lg_sl ([.ref h0])).length) Slot.unset).toArray = ls at hl ⊢
  have hl : lv_has ls 2 [(0, .ref h0)] := hl
  refine lv_aload_n hx hb d_X_clear_0 rfl (lv_at hl 0 rfl) ?_
  refine va_get (D := (dC, dI)) (ci := 0) (v := .int (nI tn)) (C := R_X) (T := F_X) (N := 6) hx hb htB in_X hown hK hP 0 rfl rfl 1 (by decide) (htB _ hfl_X_13) (fun _ h9 => h9) rfl d_X_clear_1 ?_
  refine lv_istore_n (lv' := [(1, .int (nI tn)), (0, .ref h0)]) hx hb d_X_clear_4 rfl hl (by decide) rfl (fun ls hl => ?_)
  refine lv_aload_n hx hb d_X_clear_5 rfl (lv_at hl 1 rfl) ?_
  refine lv_iconst (v := nI 0) hx hb d_X_clear_6 (by decide) ?_
  refine va_put (D := (dC, dI)) (ci := 0) (v := .int (nI 0)) (ty := .int) (C := R_X) (T := F_X) (N := 6) hx hb htB in_X t_X t_X_ok n_X hown hK hP hD hS 0 rfl rfl 1 (by decide) (htB _ hfl_X_13) (fun _ h9 => h9) rfl (by decide +kernel) rfl rfl (Nat.le_of_ble_eq_true rfl) d_X_clear_7 (fun H locs hP hD hS => ?_)
  have hP : va_P (dC, dI) classes (wX h0 a1 a2 a3 a4 cI cZ tx pt qt sr 0 pn) H := hP
  have hD : va_D A (wX h0 a1 a2 a3 a4 cI cZ tx pt qt sr 0 pn) := hD
  refine lv_aload_n hx hb d_X_clear_10 rfl (lv_at hl 1 rfl) ?_
  refine lv_iconst (v := nI 0) hx hb d_X_clear_11 (by decide) ?_
  refine va_put (D := (dC, dI)) (ci := 0) (v := .int (nI 0)) (ty := .int) (C := R_X) (T := F_X) (N := 6) hx hb htB in_X t_X t_X_ok n_X hown hK hP hD hS 0 rfl rfl 4 (by decide) (htB _ hfl_X_24) (fun _ h9 => h9) rfl (by decide +kernel) rfl rfl (Nat.le_of_ble_eq_true rfl) d_X_clear_12 (fun H locs hP hD hS => ?_)
  have hP : va_P (dC, dI) classes (wX h0 a1 a2 a3 a4 cI cZ tx pt qt sr 0 0) H := hP
  have hD : va_D A (wX h0 a1 a2 a3 a4 cI cZ tx pt qt sr 0 0) := hD
  refine lv_iload_n hx hb d_X_clear_15 rfl (lv_at hl 0 rfl) ?_
  exact W.iret (v := nI tn) hx hb hr (fun t ht hW => ⟨⟨_, (), rfl, rfl, by rw [ht]; exact hP, va_K.moved hW.alike hK, hD⟩, hS.F ht⟩) hS.2.2 d_X_clear_16

