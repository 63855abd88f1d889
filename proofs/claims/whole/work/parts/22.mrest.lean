/-! the reference: its public methods: by wip/whole/gen/gen22.py -/
set_option maxHeartbeats 4000000 in
set_option maxRecDepth 100000 in
theorem c_M_text (l : Launch) (dC : Nat → ClassId) (dI : Nat → Nat → Nat) (h0 a1 a2 a3 a4 a5 : Nat) (cI cZ : ClassId) (cd : Int32) (tx pt qt ar nr : Nat → Int32) (tn pn : Nat) (sz : Nat) (ht : tn ≤ 400) (x : Int64) (n : Int32) : Met l y_M_text (.code y_M_text b_M_text 5 (some .int) :: wB) (Rm 0 0) (va_Pc [.ref h0, .long x, .int n] (fun U => U.heap.size = sz ∧ va_P (dC, dI) classes (wM h0 a1 a2 a3 a4 a5 cI cZ cd tx pt qt ar nr tn pn) U.heap ∧ va_K (dC, dI) classes (tyIZ cI cZ) U ∧ va_D (fun _ => True) (wM h0 a1 a2 a3 a4 a5 cI cZ cd tx pt qt ar nr tn pn))) (va_Qi (fun (r : Int32) (u : (Nat → Int32) × Nat) => r = teR tn 400 n ∧ u = (teT tx tn 400 x n, teN tn 400 n)) (fun (u : (Nat → Int32) × Nat) (t : State) => va_P (dC, dI) classes (wM h0 a1 a2 a3 a4 a5 cI cZ ((nI 0)) u.1 pt qt ar nr u.2 pn) t.heap ∧ va_K (dC, dI) classes (tyIZ cI cZ) t ∧ va_D (va_A (wM h0 a1 a2 a3 a4 a5 cI cZ cd tx pt qt ar nr tn pn) sz) (wM h0 a1 a2 a3 a4 a5 cI cZ ((nI 0)) u.1 pt qt ar nr u.2 pn)) (va_A (wM h0 a1 a2 a3 a4 a5 cI cZ cd tx pt qt ar nr tn pn) sz)) 0 0 (va_A (wM h0 a1 a2 a3 a4 a5 cI cZ cd tx pt qt ar nr tn pn) sz) := by
  refine Met.ofW (cc := b_M_text) (maxL := 5) (ret := (some .int)) (by decide) rfl ?_
  intro p e s mm args below meth c s₁ B hml hv
  obtain ⟨rfl, hsz, hP, hK, hD0⟩ := hv
  have hx := B.exec
  have hb := B.bytes
  have hr := B.returns
  have hts := atoms_spec (ws := (.code y_M_text b_M_text 5 (some .int) :: wB)) B.pre
  have htB : ∀ w ∈ wB, w.before _ s = true := fun w h => hts w (List.mem_cons_of_mem _ h)
  have hown : s.vm.findClass R_M = some mm.cls := findClass_of_methodNamed B.named
  have hlocks := B.notSynchronized
  subst hsz
  have hD := hD0.self (sz := s.heap.size)
  generalize hAe : va_A (wM h0 a1 a2 a3 a4 a5 cI cZ cd tx pt qt ar nr tn pn) s.heap.size = A at hD ⊢
  have hA : ∀ q : Nat, s.heap.size ≤ q → A q := fun q h => by rw [← hAe]; exact Or.inr h
  have hS : va_S A s.heap s.heap [] := va_S.rf
  have hP : va_P (dC, dI) classes (wM h0 a1 a2 a3 a4 a5 cI cZ cd tx pt qt ar nr tn pn) s.heap := hP
  have hl := lv_entry ([.ref h0, .long x, .int n]) (n := 5) (Nat.le_of_ble_eq_true rfl)
  rw [lg_entry_eq]
  generalize (lg_sl ([.ref h0, .long x, .int n]) ++ List.replicate (5 - (lg_sl ([.ref h0, .long x, .int n])).length) Slot.unset).toArray = ls at hl ⊢
  have hl : lv_has ls 5 [(0, .ref h0), (1, .long x), (3, .int n)] := hl
  refine lv_aload_n hx hb d_M_text_0 rfl (lv_at hl 0 rfl) ?_
  refine lv_iconst (v := nI 0) hx hb d_M_text_1 (by decide) ?_
  refine va_put (D := (dC, dI)) (ci := 1) (v := .int (nI 0)) (ty := .int) (C := R_M) (T := F_M) (N := 8) hx hb htB in_M t_M t_M_ok n_M hown hK hP hD hS 0 rfl rfl 0 (by decide) (htB _ hfl_M_26) (fun _ h9 => h9) rfl (by decide +kernel) rfl rfl (Nat.le_of_ble_eq_true rfl) d_M_text_2 (fun H locs hP hD hS => ?_)
  have hP : va_P (dC, dI) classes (wM h0 a1 a2 a3 a4 a5 cI cZ (nI 0) tx pt qt ar nr tn pn) H := hP
  have hD : va_D A (wM h0 a1 a2 a3 a4 a5 cI cZ (nI 0) tx pt qt ar nr tn pn) := hD
  refine lv_iload_n hx hb d_M_text_5 rfl (lv_at hl 2 rfl) ?_
  refine lv_if_lt (tgt := 27) hx hb d_M_text_6 (by decide) (fun c_1 => ?_) (fun c_1 => ?_)
  · refine lv_iconst (v := -1) hx hb d_M_text_27 (by decide) ?_
    have hno : hrm tn 400 n = false := by first | exact hrm_a ‹_› | exact hrm_b ‹_› | exact hrm_x hj ‹_›
    exact W.iret (v := -1) hx hb hr (fun t ht hW => ⟨⟨_, (tx, tn), rfl, ⟨by unfold teR; rw [if_neg (by rw [hno]; decide)], by unfold teT teN; rw [if_neg (show ¬ hrm tn 400 n = true by rw [hno]; decide), if_neg (show ¬ hrm tn 400 n = true by rw [hno]; decide)]⟩, by rw [ht]; exact hP, va_K.moved hW.alike hK, hD⟩, hS.F ht⟩) hS.2.2 d_M_text_28
  · refine lv_iload_n hx hb d_M_text_9 rfl (lv_at hl 2 rfl) ?_
    refine lv_bipush (v := nI 8) hx hb d_M_text_10 (by decide) ?_
    refine lv_icmp_gt (tgt := 27) hx hb d_M_text_12 (by decide) (fun c_2 => ?_) (fun c_2 => ?_)
    · refine lv_iconst (v := -1) hx hb d_M_text_27 (by decide) ?_
      have hno : hrm tn 400 n = false := by first | exact hrm_a ‹_› | exact hrm_b ‹_› | exact hrm_x hj ‹_›
      exact W.iret (v := -1) hx hb hr (fun t ht hW => ⟨⟨_, (tx, tn), rfl, ⟨by unfold teR; rw [if_neg (by rw [hno]; decide)], by unfold teT teN; rw [if_neg (show ¬ hrm tn 400 n = true by rw [hno]; decide), if_neg (show ¬ hrm tn 400 n = true by rw [hno]; decide)]⟩, by rw [ht]; exact hP, va_K.moved hW.alike hK, hD⟩, hS.F ht⟩) hS.2.2 d_M_text_28
    · obtain ⟨j, hj, rfl⟩ := hrm_j c_1 c_2
      refine lv_aload_n hx hb d_M_text_15 rfl (lv_at hl 0 rfl) ?_
      refine va_get (D := (dC, dI)) (ci := 1) (v := .int (nI tn)) (C := R_M) (T := F_M) (N := 8) hx hb htB in_M hown hK hP 0 rfl rfl 4 (by decide) (htB _ hfl_M_30) (fun _ h9 => h9) rfl d_M_text_16 ?_
      refine lv_iload_n hx hb d_M_text_19 rfl (lv_at hl 2 rfl) ?_
      refine lv_iadd hx hb d_M_text_20 ?_
      refine lv_topi (fun v_3 ev_3 => ?_)
      obtain rfl : v_3 = nI (tn + j) := ev_3.trans (nI_add _ _)
      refine lv_sipush (v := nI 400) hx hb d_M_text_21 (by decide) ?_
      refine lv_icmp_le (tgt := 29) hx hb d_M_text_24 (by decide) (fun c_4 => ?_) (fun c_4 => ?_)
      · have c_4 := (nI_leI (by omega) (by omega)).mp c_4
        refine lv_iconst (v := nI 0) hx hb d_M_text_29 (by decide) ?_
        refine lv_istore (lv' := [(4, .int (nI 0)), (0, .ref h0), (1, .long x), (3, .int (nI j))]) hx hb d_M_text_30 hl (by decide) rfl (fun ls hl => ?_)
        have hcj : (nI j).toNatClampNeg = j := nI_clamp (by omega)
        have hy := hrm_y (ln := tn) (lim := 400) hj (by omega)
        have loop : ∀ (n i : Nat) (H : Heap) (locs : List Loc), i ≤ 1000 → 1000 < i + n → i ≤ j → va_P (dC, dI) classes (wM h0 a1 a2 a3 a4 a5 cI cZ (nI 0) (ap tx tn x j i) pt qt ar nr tn pn) H → va_D A (wM h0 a1 a2 a3 a4 a5 cI cZ (nI 0) (ap tx tn x j i) pt qt ar nr tn pn) → va_S A s.heap H locs → ∀ ls : Array Slot, lv_has ls 5 [(4, .int (nI i)), (0, .ref h0), (1, .long x), (3, .int (nI j))] → W p l e (Rm 0 0) s mm [.ref h0, .long x, .int (nI j)].toArray below meth c H locs 0 0 (MQ below (va_Qi (fun (r : Int32) (u : (Nat → Int32) × Nat) => r = teR tn 400 (nI j) ∧ u = (teT tx tn 400 x (nI j), teN tn 400 (nI j))) (fun (u : (Nat → Int32) × Nat) (t : State) => va_P (dC, dI) classes (wM h0 a1 a2 a3 a4 a5 cI cZ ((nI 0)) u.1 pt qt ar nr u.2 pn) t.heap ∧ va_K (dC, dI) classes (tyIZ cI cZ) t ∧ va_D A (wM h0 a1 a2 a3 a4 a5 cI cZ ((nI 0)) u.1 pt qt ar nr u.2 pn)) A) [.ref h0, .long x, .int (nI j)].toArray s 0 0 A) (F0 mm 32 ls []) := by
          intro n
          induction n with
          | zero => intro i H locs h1 h2; exact absurd h2 (by omega)
          | succ n ih =>
            intro i H locs hi hn hij hP hD hS ls hl
            refine lv_iload hx hb d_M_text_32 (lv_at hl 0 rfl) ?_
            refine lv_iload_n hx hb d_M_text_34 rfl (lv_at hl 3 rfl) ?_
            refine lv_icmp_ge (tgt := 72) hx hb d_M_text_35 (by decide) (fun c_1 => ?_) (fun c_1 => ?_)
            · have c_1 := (nI_leI (by omega) (by omega)).mp c_1
              refine lv_aload_n hx hb d_M_text_72 rfl (lv_at hl 1 rfl) ?_
              refine lv_dup hx hb d_M_text_73 rfl ?_
              refine va_get (D := (dC, dI)) (ci := 1) (v := .int (nI tn)) (C := R_M) (T := F_M) (N := 8) hx hb htB in_M hown hK hP 0 rfl rfl 4 (by decide) (htB _ hfl_M_30) (fun _ h9 => h9) rfl d_M_text_74 ?_
              refine lv_iload_n hx hb d_M_text_77 rfl (lv_at hl 3 rfl) ?_
              refine lv_iadd hx hb d_M_text_78 ?_
              refine lv_topi (fun v_2 ev_2 => ?_)
              obtain rfl : v_2 = nI (tn + j) := ev_2.trans (nI_add _ _)
              refine va_put (D := (dC, dI)) (ci := 1) (v := .int (nI (tn + j))) (ty := .int) (C := R_M) (T := F_M) (N := 8) hx hb htB in_M t_M t_M_ok n_M hown hK hP hD hS 0 rfl rfl 4 (by decide) (htB _ hfl_M_30) (fun _ h9 => h9) rfl (by decide +kernel) rfl rfl (Nat.le_of_ble_eq_true rfl) d_M_text_79 (fun H locs hP hD hS => ?_)
              have hP : va_P (dC, dI) classes (wM h0 a1 a2 a3 a4 a5 cI cZ (nI 0) (ap tx tn x j i) pt qt ar nr (tn + j) pn) H := hP
              have hD : va_D A (wM h0 a1 a2 a3 a4 a5 cI cZ (nI 0) (ap tx tn x j i) pt qt ar nr (tn + j) pn) := hD
              refine lv_aload_n hx hb d_M_text_82 rfl (lv_at hl 1 rfl) ?_
              refine va_get (D := (dC, dI)) (ci := 1) (v := .int (nI (tn + j))) (C := R_M) (T := F_M) (N := 8) hx hb htB in_M hown hK hP 0 rfl rfl 4 (by decide) (htB _ hfl_M_30) (fun _ h9 => h9) rfl d_M_text_83 ?_
              exact W.iret (v := nI (tn + j)) hx hb hr (fun t ht hW => ⟨⟨_, (ap tx tn x j i, tn + j), rfl, ⟨by unfold teR; rw [if_pos hy, hcj], by unfold teT teN; rw [if_pos hy, if_pos hy, hcj, show i = j by omega]⟩, by rw [ht]; exact hP, va_K.moved hW.alike hK, hD⟩, hS.F ht⟩) hS.2.2 d_M_text_86
            · have c_1 := mt (nI_leI (by omega) (by omega)).mpr c_1
              refine lv_aload_n hx hb d_M_text_38 rfl (lv_at hl 1 rfl) ?_
              refine va_get (D := (dC, dI)) (ci := 1) (v := .ref a1) (C := R_M) (T := F_M) (N := 8) hx hb htB in_M hown hK hP 0 rfl rfl 1 (by decide) (htB _ hfl_M_7) (fun _ h9 => h9) rfl d_M_text_39 ?_
              refine lv_aload_n hx hb d_M_text_42 rfl (lv_at hl 1 rfl) ?_
              refine va_get (D := (dC, dI)) (ci := 1) (v := .int (nI tn)) (C := R_M) (T := F_M) (N := 8) hx hb htB in_M hown hK hP 0 rfl rfl 4 (by decide) (htB _ hfl_M_30) (fun _ h9 => h9) rfl d_M_text_43 ?_
              refine lv_iload hx hb d_M_text_46 (lv_at hl 0 rfl) ?_
              refine lv_iadd hx hb d_M_text_48 ?_
              refine lv_topi (fun v_3 ev_3 => ?_)
              obtain rfl : v_3 = nI (tn + i) := ev_3.trans (nI_add _ _)
              refine lv_lload_n hx hb d_M_text_49 rfl (lv_at hl 2 rfl) ?_
              refine lv_bipush (v := nI 8) hx hb d_M_text_50 (by decide) ?_
              refine lv_iload_n hx hb d_M_text_52 rfl (lv_at hl 3 rfl) ?_
              refine lv_iconst (v := nI 1) hx hb d_M_text_53 (by decide) ?_
              refine lv_isub hx hb d_M_text_54 ?_
              refine lv_topi (fun v_4 ev_4 => ?_)
              obtain rfl : v_4 = nI (j - 1) := ev_4.trans (pk_sub (by omega))
              refine lv_iload hx hb d_M_text_55 (lv_at hl 0 rfl) ?_
              refine lv_isub hx hb d_M_text_57 ?_
              refine lv_topi (fun v_5 ev_5 => ?_)
              obtain rfl : v_5 = nI (j - 1 - i) := ev_5.trans (pk_sub (by omega))
              refine lv_imul hx hb d_M_text_58 ?_
              refine lv_topi (fun v_6 ev_6 => ?_)
              obtain rfl : v_6 = nI (8 * (j - 1 - i)) := ev_6.trans (pk_mul _ _)
              refine lv_lshr hx hb d_M_text_59 rfl ?_
              refine lv_topl (fun v_7 ev_7 => ?_)
              refine lv_ldc2 (v := 255) hx hb hown (htB _ hcn_M_33) d_M_text_60 ?_
              refine lv_land hx hb d_M_text_63 ?_
              refine lv_topl (fun v_8 ev_8 => ?_)
              refine lv_l2i hx hb d_M_text_64 rfl ?_
              refine lv_topi (fun v_9 ev_9 => ?_)
              obtain rfl : v_9 = bu x (8 * (j - 1 - i)) := by rw [ev_9, ev_8, ev_7]; exact bs_bu (by omega)
              refine va_iast hx hb hK hP hD hS 1 0 rfl rfl (vp_in_nI (n := tn + i) (by omega) (by decide)) d_M_text_65 (fun H locs hP hD hS => ?_)
              rw [nI_clamp (n := tn + i) (by omega)] at hP hD
              have hP : va_P (dC, dI) classes (wM h0 a1 a2 a3 a4 a5 cI cZ (nI 0) (upd (ap tx tn x j i) (tn + i) (bu x (8 * (j - 1 - i)))) pt qt ar nr tn pn) H := hP
              have hD : va_D A (wM h0 a1 a2 a3 a4 a5 cI cZ (nI 0) (upd (ap tx tn x j i) (tn + i) (bu x (8 * (j - 1 - i)))) pt qt ar nr tn pn) := hD
              refine lv_iinc (v := nI (i + 1)) (lv' := [(4, .int (nI (i + 1))), (0, .ref h0), (1, .long x), (3, .int (nI j))]) hx hb d_M_text_66 hl (k := 0) rfl (nI_add _ 1) (by decide) rfl (fun ls hl => ?_)
              refine lv_goto (tgt := 32) hx hb d_M_text_69 (by decide) ?_
              rw [ap_s] at hP hD
              exact ih (i + 1) _ _ (by omega) (by omega) (by omega) hP hD hS ls (lv_sub hl [0, 1, 2, 3] rfl)
        rw [← ap_0 (tx := tx) (tn := tn) (x := x) (j := j)] at hP hD
        exact loop 1001 0 _ _ (by omega) (by omega) (by omega) hP hD hS ls (lv_sub hl [0, 1, 2, 3] rfl)
      · have c_4 := mt (nI_leI (by omega) (by omega)).mpr c_4
        refine lv_iconst (v := -1) hx hb d_M_text_27 (by decide) ?_
        have hno : hrm tn 400 (nI j) = false := by first | exact hrm_a ‹_› | exact hrm_b ‹_› | exact hrm_x hj ‹_›
        exact W.iret (v := -1) hx hb hr (fun t ht hW => ⟨⟨_, (tx, tn), rfl, ⟨by unfold teR; rw [if_neg (by rw [hno]; decide)], by unfold teT teN; rw [if_neg (show ¬ hrm tn 400 (nI j) = true by rw [hno]; decide), if_neg (show ¬ hrm tn 400 (nI j) = true by rw [hno]; decide)]⟩, by rw [ht]; exact hP, va_K.moved hW.alike hK, hD⟩, hS.F ht⟩) hS.2.2 d_M_text_28

set_option maxHeartbeats 4000000 in
set_option maxRecDepth 100000 in
theorem c_M_pattern (l : Launch) (dC : Nat → ClassId) (dI : Nat → Nat → Nat) (h0 a1 a2 a3 a4 a5 : Nat) (cI cZ : ClassId) (cd : Int32) (tx pt qt ar nr : Nat → Int32) (tn pn : Nat) (sz : Nat) (hp : pn ≤ 200) (x : Int64) (n qq : Int32) : Met l y_M_pattern (.code y_M_pattern b_M_pattern 6 (some .int) :: wB) (Rm 0 0) (va_Pc [.ref h0, .long x, .int n, .int qq] (fun U => U.heap.size = sz ∧ va_P (dC, dI) classes (wM h0 a1 a2 a3 a4 a5 cI cZ cd tx pt qt ar nr tn pn) U.heap ∧ va_K (dC, dI) classes (tyIZ cI cZ) U ∧ va_D (fun _ => True) (wM h0 a1 a2 a3 a4 a5 cI cZ cd tx pt qt ar nr tn pn))) (va_Qi (fun (r : Int32) (u : (Nat → Int32) × (Nat → Int32) × Nat) => r = teR pn 200 n ∧ u = (teT pt pn 200 x n, teQ qt pn 200 qq n, teN pn 200 n)) (fun (u : (Nat → Int32) × (Nat → Int32) × Nat) (t : State) => va_P (dC, dI) classes (wM h0 a1 a2 a3 a4 a5 cI cZ ((nI 0)) tx u.1 u.2.1 ar nr tn u.2.2) t.heap ∧ va_K (dC, dI) classes (tyIZ cI cZ) t ∧ va_D (va_A (wM h0 a1 a2 a3 a4 a5 cI cZ cd tx pt qt ar nr tn pn) sz) (wM h0 a1 a2 a3 a4 a5 cI cZ ((nI 0)) tx u.1 u.2.1 ar nr tn u.2.2)) (va_A (wM h0 a1 a2 a3 a4 a5 cI cZ cd tx pt qt ar nr tn pn) sz)) 0 0 (va_A (wM h0 a1 a2 a3 a4 a5 cI cZ cd tx pt qt ar nr tn pn) sz) := by
  refine Met.ofW (cc := b_M_pattern) (maxL := 6) (ret := (some .int)) (by decide) rfl ?_
  intro p e s mm args below meth c s₁ B hml hv
  obtain ⟨rfl, hsz, hP, hK, hD0⟩ := hv
  have hx := B.exec
  have hb := B.bytes
  have hr := B.returns
  have hts := atoms_spec (ws := (.code y_M_pattern b_M_pattern 6 (some .int) :: wB)) B.pre
  have htB : ∀ w ∈ wB, w.before _ s = true := fun w h => hts w (List.mem_cons_of_mem _ h)
  have hown : s.vm.findClass R_M = some mm.cls := findClass_of_methodNamed B.named
  have hlocks := B.notSynchronized
  subst hsz
  have hD := hD0.self (sz := s.heap.size)
  generalize hAe : va_A (wM h0 a1 a2 a3 a4 a5 cI cZ cd tx pt qt ar nr tn pn) s.heap.size = A at hD ⊢
  have hA : ∀ q : Nat, s.heap.size ≤ q → A q := fun q h => by rw [← hAe]; exact Or.inr h
  have hS : va_S A s.heap s.heap [] := va_S.rf
  have hP : va_P (dC, dI) classes (wM h0 a1 a2 a3 a4 a5 cI cZ cd tx pt qt ar nr tn pn) s.heap := hP
  have hl := lv_entry ([.ref h0, .long x, .int n, .int qq]) (n := 6) (Nat.le_of_ble_eq_true rfl)
  rw [lg_entry_eq]
  generalize (lg_sl ([.ref h0, .long x, .int n, .int qq]) ++ List.replicate (6 - (lg_sl ([.ref h0, .long x, .int n, .int qq])).length) Slot.unset).toArray = ls at hl ⊢
  have hl : lv_has ls 6 [(0, .ref h0), (1, .long x), (3, .int n), (4, .int qq)] := hl
  refine lv_aload_n hx hb d_M_pattern_0 rfl (lv_at hl 0 rfl) ?_
  refine lv_iconst (v := nI 0) hx hb d_M_pattern_1 (by decide) ?_
  refine va_put (D := (dC, dI)) (ci := 1) (v := .int (nI 0)) (ty := .int) (C := R_M) (T := F_M) (N := 8) hx hb htB in_M t_M t_M_ok n_M hown hK hP hD hS 0 rfl rfl 0 (by decide) (htB _ hfl_M_26) (fun _ h9 => h9) rfl (by decide +kernel) rfl rfl (Nat.le_of_ble_eq_true rfl) d_M_pattern_2 (fun H locs hP hD hS => ?_)
  have hP : va_P (dC, dI) classes (wM h0 a1 a2 a3 a4 a5 cI cZ (nI 0) tx pt qt ar nr tn pn) H := hP
  have hD : va_D A (wM h0 a1 a2 a3 a4 a5 cI cZ (nI 0) tx pt qt ar nr tn pn) := hD
  refine lv_iload_n hx hb d_M_pattern_5 rfl (lv_at hl 2 rfl) ?_
  refine lv_if_lt (tgt := 27) hx hb d_M_pattern_6 (by decide) (fun c_1 => ?_) (fun c_1 => ?_)
  · refine lv_iconst (v := -1) hx hb d_M_pattern_27 (by decide) ?_
    have hno : hrm pn 200 n = false := by first | exact hrm_a ‹_› | exact hrm_b ‹_› | exact hrm_x hj ‹_›
    exact W.iret (v := -1) hx hb hr (fun t ht hW => ⟨⟨_, (pt, qt, pn), rfl, ⟨by unfold teR; rw [if_neg (by rw [hno]; decide)], by unfold teT teN teQ; rw [if_neg (show ¬ hrm pn 200 n = true by rw [hno]; decide), if_neg (show ¬ hrm pn 200 n = true by rw [hno]; decide), if_neg (show ¬ hrm pn 200 n = true by rw [hno]; decide)]⟩, by rw [ht]; exact hP, va_K.moved hW.alike hK, hD⟩, hS.F ht⟩) hS.2.2 d_M_pattern_28
  · refine lv_iload_n hx hb d_M_pattern_9 rfl (lv_at hl 2 rfl) ?_
    refine lv_bipush (v := nI 8) hx hb d_M_pattern_10 (by decide) ?_
    refine lv_icmp_gt (tgt := 27) hx hb d_M_pattern_12 (by decide) (fun c_2 => ?_) (fun c_2 => ?_)
    · refine lv_iconst (v := -1) hx hb d_M_pattern_27 (by decide) ?_
      have hno : hrm pn 200 n = false := by first | exact hrm_a ‹_› | exact hrm_b ‹_› | exact hrm_x hj ‹_›
      exact W.iret (v := -1) hx hb hr (fun t ht hW => ⟨⟨_, (pt, qt, pn), rfl, ⟨by unfold teR; rw [if_neg (by rw [hno]; decide)], by unfold teT teN teQ; rw [if_neg (show ¬ hrm pn 200 n = true by rw [hno]; decide), if_neg (show ¬ hrm pn 200 n = true by rw [hno]; decide), if_neg (show ¬ hrm pn 200 n = true by rw [hno]; decide)]⟩, by rw [ht]; exact hP, va_K.moved hW.alike hK, hD⟩, hS.F ht⟩) hS.2.2 d_M_pattern_28
    · obtain ⟨j, hj, rfl⟩ := hrm_j c_1 c_2
      refine lv_aload_n hx hb d_M_pattern_15 rfl (lv_at hl 0 rfl) ?_
      refine va_get (D := (dC, dI)) (ci := 1) (v := .int (nI pn)) (C := R_M) (T := F_M) (N := 8) hx hb htB in_M hown hK hP 0 rfl rfl 5 (by decide) (htB _ hfl_M_35) (fun _ h9 => h9) rfl d_M_pattern_16 ?_
      refine lv_iload_n hx hb d_M_pattern_19 rfl (lv_at hl 2 rfl) ?_
      refine lv_iadd hx hb d_M_pattern_20 ?_
      refine lv_topi (fun v_3 ev_3 => ?_)
      obtain rfl : v_3 = nI (pn + j) := ev_3.trans (nI_add _ _)
      refine lv_sipush (v := nI 200) hx hb d_M_pattern_21 (by decide) ?_
      refine lv_icmp_le (tgt := 29) hx hb d_M_pattern_24 (by decide) (fun c_4 => ?_) (fun c_4 => ?_)
      · have c_4 := (nI_leI (by omega) (by omega)).mp c_4
        refine lv_iconst (v := nI 0) hx hb d_M_pattern_29 (by decide) ?_
        refine lv_istore (lv' := [(5, .int (nI 0)), (0, .ref h0), (1, .long x), (3, .int (nI j)), (4, .int qq)]) hx hb d_M_pattern_30 hl (by decide) rfl (fun ls hl => ?_)
        have hcj : (nI j).toNatClampNeg = j := nI_clamp (by omega)
        have hy := hrm_y (ln := pn) (lim := 200) hj (by omega)
        have loop : ∀ (n i : Nat) (H : Heap) (locs : List Loc), i ≤ 1000 → 1000 < i + n → i ≤ j → va_P (dC, dI) classes (wM h0 a1 a2 a3 a4 a5 cI cZ (nI 0) tx (ap pt pn x j i) (aq qt pn qq i) ar nr tn pn) H → va_D A (wM h0 a1 a2 a3 a4 a5 cI cZ (nI 0) tx (ap pt pn x j i) (aq qt pn qq i) ar nr tn pn) → va_S A s.heap H locs → ∀ ls : Array Slot, lv_has ls 6 [(5, .int (nI i)), (0, .ref h0), (1, .long x), (3, .int (nI j)), (4, .int qq)] → W p l e (Rm 0 0) s mm [.ref h0, .long x, .int (nI j), .int qq].toArray below meth c H locs 0 0 (MQ below (va_Qi (fun (r : Int32) (u : (Nat → Int32) × (Nat → Int32) × Nat) => r = teR pn 200 (nI j) ∧ u = (teT pt pn 200 x (nI j), teQ qt pn 200 qq (nI j), teN pn 200 (nI j))) (fun (u : (Nat → Int32) × (Nat → Int32) × Nat) (t : State) => va_P (dC, dI) classes (wM h0 a1 a2 a3 a4 a5 cI cZ ((nI 0)) tx u.1 u.2.1 ar nr tn u.2.2) t.heap ∧ va_K (dC, dI) classes (tyIZ cI cZ) t ∧ va_D A (wM h0 a1 a2 a3 a4 a5 cI cZ ((nI 0)) tx u.1 u.2.1 ar nr tn u.2.2)) A) [.ref h0, .long x, .int (nI j), .int qq].toArray s 0 0 A) (F0 mm 32 ls []) := by
          intro n
          induction n with
          | zero => intro i H locs h1 h2; exact absurd h2 (by omega)
          | succ n ih =>
            intro i H locs hi hn hij hP hD hS ls hl
            refine lv_iload hx hb d_M_pattern_32 (lv_at hl 0 rfl) ?_
            refine lv_iload_n hx hb d_M_pattern_34 rfl (lv_at hl 3 rfl) ?_
            refine lv_icmp_ge (tgt := 100) hx hb d_M_pattern_35 (by decide) (fun c_1 => ?_) (fun c_1 => ?_)
            · have c_1 := (nI_leI (by omega) (by omega)).mp c_1
              refine lv_aload_n hx hb d_M_pattern_100 rfl (lv_at hl 1 rfl) ?_
              refine lv_dup hx hb d_M_pattern_101 rfl ?_
              refine va_get (D := (dC, dI)) (ci := 1) (v := .int (nI pn)) (C := R_M) (T := F_M) (N := 8) hx hb htB in_M hown hK hP 0 rfl rfl 5 (by decide) (htB _ hfl_M_35) (fun _ h9 => h9) rfl d_M_pattern_102 ?_
              refine lv_iload_n hx hb d_M_pattern_105 rfl (lv_at hl 3 rfl) ?_
              refine lv_iadd hx hb d_M_pattern_106 ?_
              refine lv_topi (fun v_2 ev_2 => ?_)
              obtain rfl : v_2 = nI (pn + j) := ev_2.trans (nI_add _ _)
              refine va_put (D := (dC, dI)) (ci := 1) (v := .int (nI (pn + j))) (ty := .int) (C := R_M) (T := F_M) (N := 8) hx hb htB in_M t_M t_M_ok n_M hown hK hP hD hS 0 rfl rfl 5 (by decide) (htB _ hfl_M_35) (fun _ h9 => h9) rfl (by decide +kernel) rfl rfl (Nat.le_of_ble_eq_true rfl) d_M_pattern_107 (fun H locs hP hD hS => ?_)
              have hP : va_P (dC, dI) classes (wM h0 a1 a2 a3 a4 a5 cI cZ (nI 0) tx (ap pt pn x j i) (aq qt pn qq i) ar nr tn (pn + j)) H := hP
              have hD : va_D A (wM h0 a1 a2 a3 a4 a5 cI cZ (nI 0) tx (ap pt pn x j i) (aq qt pn qq i) ar nr tn (pn + j)) := hD
              refine lv_aload_n hx hb d_M_pattern_110 rfl (lv_at hl 1 rfl) ?_
              refine va_get (D := (dC, dI)) (ci := 1) (v := .int (nI (pn + j))) (C := R_M) (T := F_M) (N := 8) hx hb htB in_M hown hK hP 0 rfl rfl 5 (by decide) (htB _ hfl_M_35) (fun _ h9 => h9) rfl d_M_pattern_111 ?_
              exact W.iret (v := nI (pn + j)) hx hb hr (fun t ht hW => ⟨⟨_, (ap pt pn x j i, aq qt pn qq i, pn + j), rfl, ⟨by unfold teR; rw [if_pos hy, hcj], by unfold teT teN teQ; rw [if_pos hy, if_pos hy, if_pos hy, hcj, show i = j by omega]⟩, by rw [ht]; exact hP, va_K.moved hW.alike hK, hD⟩, hS.F ht⟩) hS.2.2 d_M_pattern_114
            · have c_1 := mt (nI_leI (by omega) (by omega)).mpr c_1
              refine lv_aload_n hx hb d_M_pattern_38 rfl (lv_at hl 1 rfl) ?_
              refine va_get (D := (dC, dI)) (ci := 1) (v := .ref a2) (C := R_M) (T := F_M) (N := 8) hx hb htB in_M hown hK hP 0 rfl rfl 2 (by decide) (htB _ hfl_M_13) (fun _ h9 => h9) rfl d_M_pattern_39 ?_
              refine lv_aload_n hx hb d_M_pattern_42 rfl (lv_at hl 1 rfl) ?_
              refine va_get (D := (dC, dI)) (ci := 1) (v := .int (nI pn)) (C := R_M) (T := F_M) (N := 8) hx hb htB in_M hown hK hP 0 rfl rfl 5 (by decide) (htB _ hfl_M_35) (fun _ h9 => h9) rfl d_M_pattern_43 ?_
              refine lv_iload hx hb d_M_pattern_46 (lv_at hl 0 rfl) ?_
              refine lv_iadd hx hb d_M_pattern_48 ?_
              refine lv_topi (fun v_3 ev_3 => ?_)
              obtain rfl : v_3 = nI (pn + i) := ev_3.trans (nI_add _ _)
              refine lv_lload_n hx hb d_M_pattern_49 rfl (lv_at hl 2 rfl) ?_
              refine lv_bipush (v := nI 8) hx hb d_M_pattern_50 (by decide) ?_
              refine lv_iload_n hx hb d_M_pattern_52 rfl (lv_at hl 3 rfl) ?_
              refine lv_iconst (v := nI 1) hx hb d_M_pattern_53 (by decide) ?_
              refine lv_isub hx hb d_M_pattern_54 ?_
              refine lv_topi (fun v_4 ev_4 => ?_)
              obtain rfl : v_4 = nI (j - 1) := ev_4.trans (pk_sub (by omega))
              refine lv_iload hx hb d_M_pattern_55 (lv_at hl 0 rfl) ?_
              refine lv_isub hx hb d_M_pattern_57 ?_
              refine lv_topi (fun v_5 ev_5 => ?_)
              obtain rfl : v_5 = nI (j - 1 - i) := ev_5.trans (pk_sub (by omega))
              refine lv_imul hx hb d_M_pattern_58 ?_
              refine lv_topi (fun v_6 ev_6 => ?_)
              obtain rfl : v_6 = nI (8 * (j - 1 - i)) := ev_6.trans (pk_mul _ _)
              refine lv_lshr hx hb d_M_pattern_59 rfl ?_
              refine lv_topl (fun v_7 ev_7 => ?_)
              refine lv_ldc2 (v := 255) hx hb hown (htB _ hcn_M_33) d_M_pattern_60 ?_
              refine lv_land hx hb d_M_pattern_63 ?_
              refine lv_topl (fun v_8 ev_8 => ?_)
              refine lv_l2i hx hb d_M_pattern_64 rfl ?_
              refine lv_topi (fun v_9 ev_9 => ?_)
              obtain rfl : v_9 = bu x (8 * (j - 1 - i)) := by rw [ev_9, ev_8, ev_7]; exact bs_bu (by omega)
              refine va_iast hx hb hK hP hD hS 2 0 rfl rfl (vp_in_nI (n := pn + i) (by omega) (by decide)) d_M_pattern_65 (fun H locs hP hD hS => ?_)
              rw [nI_clamp (n := pn + i) (by omega)] at hP hD
              have hP : va_P (dC, dI) classes (wM h0 a1 a2 a3 a4 a5 cI cZ (nI 0) tx (upd (ap pt pn x j i) (pn + i) (bu x (8 * (j - 1 - i)))) (aq qt pn qq i) ar nr tn pn) H := hP
              have hD : va_D A (wM h0 a1 a2 a3 a4 a5 cI cZ (nI 0) tx (upd (ap pt pn x j i) (pn + i) (bu x (8 * (j - 1 - i)))) (aq qt pn qq i) ar nr tn pn) := hD
              refine lv_aload_n hx hb d_M_pattern_66 rfl (lv_at hl 1 rfl) ?_
              refine va_get (D := (dC, dI)) (ci := 1) (v := .ref a3) (C := R_M) (T := F_M) (N := 8) hx hb htB in_M hown hK hP 0 rfl rfl 3 (by decide) (htB _ hfl_M_16) (fun _ h9 => h9) rfl d_M_pattern_67 ?_
              refine lv_aload_n hx hb d_M_pattern_70 rfl (lv_at hl 1 rfl) ?_
              refine va_get (D := (dC, dI)) (ci := 1) (v := .int (nI pn)) (C := R_M) (T := F_M) (N := 8) hx hb htB in_M hown hK hP 0 rfl rfl 5 (by decide) (htB _ hfl_M_35) (fun _ h9 => h9) rfl d_M_pattern_71 ?_
              refine lv_iload hx hb d_M_pattern_74 (lv_at hl 0 rfl) ?_
              refine lv_iadd hx hb d_M_pattern_76 ?_
              refine lv_topi (fun v_10 ev_10 => ?_)
              obtain rfl : v_10 = nI (pn + i) := ev_10.trans (nI_add _ _)
              refine lv_iload hx hb d_M_pattern_77 (lv_at hl 4 rfl) ?_
              refine lv_iload hx hb d_M_pattern_79 (lv_at hl 0 rfl) ?_
              refine lv_ishr hx hb d_M_pattern_81 ?_
              refine lv_topi (fun v_11 ev_11 => ?_)
              refine lv_iconst (v := nI 1) hx hb d_M_pattern_82 (by decide) ?_
              refine lv_iand hx hb d_M_pattern_83 ?_
              refine lv_topi (fun v_12 ev_12 => ?_)
              refine lv_iconst (v := nI 1) hx hb d_M_pattern_84 (by decide) ?_
              refine lv_icmp_ne (tgt := 92) hx hb d_M_pattern_85 (by decide) (fun c_13 => ?_) (fun c_13 => ?_)
              · refine lv_iconst (v := nI 0) hx hb d_M_pattern_92 (by decide) ?_
                refine va_zast hx hb hK hP hD hS 3 1 rfl rfl (vp_in_nI (n := pn + i) (by omega) (by decide)) d_M_pattern_93 (fun H locs hP hD hS => ?_)
                rw [nI_clamp (n := pn + i) (by omega), show vp_nar .boolean (nI 0) = nI 0 from rfl] at hP hD
                have hP : va_P (dC, dI) classes (wM h0 a1 a2 a3 a4 a5 cI cZ (nI 0) tx (upd (ap pt pn x j i) (pn + i) (bu x (8 * (j - 1 - i)))) (upd (aq qt pn qq i) (pn + i) (nI 0)) ar nr tn pn) H := hP
                have hD : va_D A (wM h0 a1 a2 a3 a4 a5 cI cZ (nI 0) tx (upd (ap pt pn x j i) (pn + i) (bu x (8 * (j - 1 - i)))) (upd (aq qt pn qq i) (pn + i) (nI 0)) ar nr tn pn) := hD
                refine lv_iinc (v := nI (i + 1)) (lv' := [(5, .int (nI (i + 1))), (0, .ref h0), (1, .long x), (3, .int (nI j)), (4, .int qq)]) hx hb d_M_pattern_94 hl (k := 0) rfl (nI_add _ 1) (by decide) rfl (fun ls hl => ?_)
                refine lv_goto (tgt := 32) hx hb d_M_pattern_97 (by decide) ?_
                have hb9 : nI 0 = bI (qb qq i) := by
                  unfold qb
                  rw [← qs_qb (by omega)]
                  subst_vars
                  first | (rw [decide_eq_false ‹_›]; rfl) | (rw [decide_eq_true (Eq.symm ‹_›)]; rfl)
                rw [ap_s, show upd (aq qt pn qq i) (pn + i) (nI 0) = aq qt pn qq (i + 1) by rw [hb9]; exact aq_s] at hP hD
                exact ih (i + 1) _ _ (by omega) (by omega) (by omega) hP hD hS ls (lv_sub hl [0, 1, 2, 3, 4] rfl)
              · refine lv_iconst (v := nI 1) hx hb d_M_pattern_88 (by decide) ?_
                refine lv_goto (tgt := 93) hx hb d_M_pattern_89 (by decide) ?_
                refine va_zast hx hb hK hP hD hS 3 1 rfl rfl (vp_in_nI (n := pn + i) (by omega) (by decide)) d_M_pattern_93 (fun H locs hP hD hS => ?_)
                rw [nI_clamp (n := pn + i) (by omega), show vp_nar .boolean (nI 1) = nI 1 from rfl] at hP hD
                have hP : va_P (dC, dI) classes (wM h0 a1 a2 a3 a4 a5 cI cZ (nI 0) tx (upd (ap pt pn x j i) (pn + i) (bu x (8 * (j - 1 - i)))) (upd (aq qt pn qq i) (pn + i) (nI 1)) ar nr tn pn) H := hP
                have hD : va_D A (wM h0 a1 a2 a3 a4 a5 cI cZ (nI 0) tx (upd (ap pt pn x j i) (pn + i) (bu x (8 * (j - 1 - i)))) (upd (aq qt pn qq i) (pn + i) (nI 1)) ar nr tn pn) := hD
                refine lv_iinc (v := nI (i + 1)) (lv' := [(5, .int (nI (i + 1))), (0, .ref h0), (1, .long x), (3, .int (nI j)), (4, .int qq)]) hx hb d_M_pattern_94 hl (k := 0) rfl (nI_add _ 1) (by decide) rfl (fun ls hl => ?_)
                refine lv_goto (tgt := 32) hx hb d_M_pattern_97 (by decide) ?_
                have hb9 : nI 1 = bI (qb qq i) := by
                  unfold qb
                  rw [← qs_qb (by omega)]
                  subst_vars
                  first | (rw [decide_eq_true ‹_›]; rfl) | (rw [decide_eq_true (Eq.symm ‹_›)]; rfl)
                rw [ap_s, show upd (aq qt pn qq i) (pn + i) (nI 1) = aq qt pn qq (i + 1) by rw [hb9]; exact aq_s] at hP hD
                exact ih (i + 1) _ _ (by omega) (by omega) (by omega) hP hD hS ls (lv_sub hl [0, 1, 2, 3, 4] rfl)
        rw [← ap_0 (tx := pt) (tn := pn) (x := x) (j := j), ← aq_0 (qt := qt) (pn := pn) (q := qq)] at hP hD
        exact loop 1001 0 _ _ (by omega) (by omega) (by omega) hP hD hS ls (lv_sub hl [0, 1, 2, 3, 4] rfl)
      · have c_4 := mt (nI_leI (by omega) (by omega)).mpr c_4
        refine lv_iconst (v := -1) hx hb d_M_pattern_27 (by decide) ?_
        have hno : hrm pn 200 (nI j) = false := by first | exact hrm_a ‹_› | exact hrm_b ‹_› | exact hrm_x hj ‹_›
        exact W.iret (v := -1) hx hb hr (fun t ht hW => ⟨⟨_, (pt, qt, pn), rfl, ⟨by unfold teR; rw [if_neg (by rw [hno]; decide)], by unfold teT teN teQ; rw [if_neg (show ¬ hrm pn 200 (nI j) = true by rw [hno]; decide), if_neg (show ¬ hrm pn 200 (nI j) = true by rw [hno]; decide), if_neg (show ¬ hrm pn 200 (nI j) = true by rw [hno]; decide)]⟩, by rw [ht]; exact hP, va_K.moved hW.alike hK, hD⟩, hS.F ht⟩) hS.2.2 d_M_pattern_28

set_option maxHeartbeats 4000000 in
set_option maxRecDepth 100000 in
theorem c_M_clear (l : Launch) (dC : Nat → ClassId) (dI : Nat → Nat → Nat) (h0 a1 a2 a3 a4 a5 : Nat) (cI cZ : ClassId) (cd : Int32) (tx pt qt ar nr : Nat → Int32) (tn pn : Nat) (sz : Nat)  : Met l y_M_clear (.code y_M_clear b_M_clear 2 (some .int) :: wB) (Rm 0 0) (va_Pc [.ref h0] (fun U => U.heap.size = sz ∧ va_P (dC, dI) classes (wM h0 a1 a2 a3 a4 a5 cI cZ cd tx pt qt ar nr tn pn) U.heap ∧ va_K (dC, dI) classes (tyIZ cI cZ) U ∧ va_D (fun _ => True) (wM h0 a1 a2 a3 a4 a5 cI cZ cd tx pt qt ar nr tn pn))) (va_Qi (fun (r : Int32) (u : Unit) => r = nI tn) (fun (u : Unit) (t : State) => va_P (dC, dI) classes (wM h0 a1 a2 a3 a4 a5 cI cZ ((nI 0)) tx pt qt ar nr 0 0) t.heap ∧ va_K (dC, dI) classes (tyIZ cI cZ) t ∧ va_D (va_A (wM h0 a1 a2 a3 a4 a5 cI cZ cd tx pt qt ar nr tn pn) sz) (wM h0 a1 a2 a3 a4 a5 cI cZ ((nI 0)) tx pt qt ar nr 0 0)) (va_A (wM h0 a1 a2 a3 a4 a5 cI cZ cd tx pt qt ar nr tn pn) sz)) 0 0 (va_A (wM h0 a1 a2 a3 a4 a5 cI cZ cd tx pt qt ar nr tn pn) sz) := by
  refine Met.ofW (cc := b_M_clear) (maxL := 2) (ret := (some .int)) (by decide) rfl ?_
  intro p e s mm args below meth c s₁ B hml hv
  obtain ⟨rfl, hsz, hP, hK, hD0⟩ := hv
  have hx := B.exec
  have hb := B.bytes
  have hr := B.returns
  have hts := atoms_spec (ws := (.code y_M_clear b_M_clear 2 (some .int) :: wB)) B.pre
  have htB : ∀ w ∈ wB, w.before _ s = true := fun w h => hts w (List.mem_cons_of_mem _ h)
  have hown : s.vm.findClass R_M = some mm.cls := findClass_of_methodNamed B.named
  have hlocks := B.notSynchronized
  subst hsz
  have hD := hD0.self (sz := s.heap.size)
  generalize hAe : va_A (wM h0 a1 a2 a3 a4 a5 cI cZ cd tx pt qt ar nr tn pn) s.heap.size = A at hD ⊢
  have hA : ∀ q : Nat, s.heap.size ≤ q → A q := fun q h => by rw [← hAe]; exact Or.inr h
  have hS : va_S A s.heap s.heap [] := va_S.rf
  have hP : va_P (dC, dI) classes (wM h0 a1 a2 a3 a4 a5 cI cZ cd tx pt qt ar nr tn pn) s.heap := hP
  have hl := lv_entry ([.ref h0]) (n := 2) (Nat.le_of_ble_eq_true rfl)
  rw [lg_entry_eq]
  generalize (lg_sl ([.ref h0]) ++ List.replicate (2 - (lg_sl ([.ref h0])).length) Slot.unset).toArray = ls at hl ⊢
  have hl : lv_has ls 2 [(0, .ref h0)] := hl
  refine lv_aload_n hx hb d_M_clear_0 rfl (lv_at hl 0 rfl) ?_
  refine lv_iconst (v := nI 0) hx hb d_M_clear_1 (by decide) ?_
  refine va_put (D := (dC, dI)) (ci := 1) (v := .int (nI 0)) (ty := .int) (C := R_M) (T := F_M) (N := 8) hx hb htB in_M t_M t_M_ok n_M hown hK hP hD hS 0 rfl rfl 0 (by decide) (htB _ hfl_M_26) (fun _ h9 => h9) rfl (by decide +kernel) rfl rfl (Nat.le_of_ble_eq_true rfl) d_M_clear_2 (fun H locs hP hD hS => ?_)
  have hP : va_P (dC, dI) classes (wM h0 a1 a2 a3 a4 a5 cI cZ (nI 0) tx pt qt ar nr tn pn) H := hP
  have hD : va_D A (wM h0 a1 a2 a3 a4 a5 cI cZ (nI 0) tx pt qt ar nr tn pn) := hD
  refine lv_aload_n hx hb d_M_clear_5 rfl (lv_at hl 0 rfl) ?_
  refine va_get (D := (dC, dI)) (ci := 1) (v := .int (nI tn)) (C := R_M) (T := F_M) (N := 8) hx hb htB in_M hown hK hP 0 rfl rfl 4 (by decide) (htB _ hfl_M_30) (fun _ h9 => h9) rfl d_M_clear_6 ?_
  refine lv_istore_n (lv' := [(1, .int (nI tn)), (0, .ref h0)]) hx hb d_M_clear_9 rfl hl (by decide) rfl (fun ls hl => ?_)
  refine lv_aload_n hx hb d_M_clear_10 rfl (lv_at hl 1 rfl) ?_
  refine lv_iconst (v := nI 0) hx hb d_M_clear_11 (by decide) ?_
  refine va_put (D := (dC, dI)) (ci := 1) (v := .int (nI 0)) (ty := .int) (C := R_M) (T := F_M) (N := 8) hx hb htB in_M t_M t_M_ok n_M hown hK hP hD hS 0 rfl rfl 4 (by decide) (htB _ hfl_M_30) (fun _ h9 => h9) rfl (by decide +kernel) rfl rfl (Nat.le_of_ble_eq_true rfl) d_M_clear_12 (fun H locs hP hD hS => ?_)
  have hP : va_P (dC, dI) classes (wM h0 a1 a2 a3 a4 a5 cI cZ (nI 0) tx pt qt ar nr 0 pn) H := hP
  have hD : va_D A (wM h0 a1 a2 a3 a4 a5 cI cZ (nI 0) tx pt qt ar nr 0 pn) := hD
  refine lv_aload_n hx hb d_M_clear_15 rfl (lv_at hl 1 rfl) ?_
  refine lv_iconst (v := nI 0) hx hb d_M_clear_16 (by decide) ?_
  refine va_put (D := (dC, dI)) (ci := 1) (v := .int (nI 0)) (ty := .int) (C := R_M) (T := F_M) (N := 8) hx hb htB in_M t_M t_M_ok n_M hown hK hP hD hS 0 rfl rfl 5 (by decide) (htB _ hfl_M_35) (fun _ h9 => h9) rfl (by decide +kernel) rfl rfl (Nat.le_of_ble_eq_true rfl) d_M_clear_17 (fun H locs hP hD hS => ?_)
  have hP : va_P (dC, dI) classes (wM h0 a1 a2 a3 a4 a5 cI cZ (nI 0) tx pt qt ar nr 0 0) H := hP
  have hD : va_D A (wM h0 a1 a2 a3 a4 a5 cI cZ (nI 0) tx pt qt ar nr 0 0) := hD
  refine lv_iload_n hx hb d_M_clear_20 rfl (lv_at hl 0 rfl) ?_
  exact W.iret (v := nI tn) hx hb hr (fun t ht hW => ⟨⟨_, (), rfl, rfl, by rw [ht]; exact hP, va_K.moved hW.alike hK, hD⟩, hS.F ht⟩) hS.2.2 d_M_clear_21

set_option maxHeartbeats 4000000 in
set_option maxRecDepth 100000 in
theorem c_M_matches (l : Launch) (dC : Nat → ClassId) (dI : Nat → Nat → Nat) (h0 a1 a2 a3 a4 a5 : Nat) (cI cZ : ClassId) (cd : Int32) (tx pt qt ar nr : Nat → Int32) (tn pn : Nat) (sz : Nat) (hp : pn ≤ 200) (ht : tn ≤ 400) : Met l y_M_matches (.code y_M_matches b_M_matches 1 (some .boolean) :: wB) (Rm 4 101) (va_Pc [.ref h0] (fun U => U.heap.size = sz ∧ va_P (dC, dI) classes (wM h0 a1 a2 a3 a4 a5 cI cZ cd tx pt qt ar nr tn pn) U.heap ∧ va_K (dC, dI) classes (tyIZ cI cZ) U ∧ va_D (fun _ => True) (wM h0 a1 a2 a3 a4 a5 cI cZ cd tx pt qt ar nr tn pn))) (va_Qi (fun (r : Int32) (u : (Nat → Int32) × (Nat → Int32)) => r = bI (mM tx pt qt pn 0 tn tn)) (fun (u : (Nat → Int32) × (Nat → Int32)) (t : State) => va_P (dC, dI) classes (wM h0 a1 a2 a3 a4 a5 cI cZ ((nI 0)) tx pt qt u.1 u.2 tn pn) t.heap ∧ va_K (dC, dI) classes (tyIZ cI cZ) t ∧ va_D (va_A (wM h0 a1 a2 a3 a4 a5 cI cZ cd tx pt qt ar nr tn pn) sz) (wM h0 a1 a2 a3 a4 a5 cI cZ ((nI 0)) tx pt qt u.1 u.2 tn pn)) (va_A (wM h0 a1 a2 a3 a4 a5 cI cZ cd tx pt qt ar nr tn pn) sz)) 0 0 (va_A (wM h0 a1 a2 a3 a4 a5 cI cZ cd tx pt qt ar nr tn pn) sz) := by
  refine Met.ofW (cc := b_M_matches) (maxL := 1) (ret := (some .boolean)) (by decide) rfl ?_
  intro p e s mm args below meth c s₁ B hml hv
  obtain ⟨rfl, hsz, hP, hK, hD0⟩ := hv
  have hx := B.exec
  have hb := B.bytes
  have hr := B.returns
  have hts := atoms_spec (ws := (.code y_M_matches b_M_matches 1 (some .boolean) :: wB)) B.pre
  have htB : ∀ w ∈ wB, w.before _ s = true := fun w h => hts w (List.mem_cons_of_mem _ h)
  have hown : s.vm.findClass R_M = some mm.cls := findClass_of_methodNamed B.named
  have hlocks := B.notSynchronized
  subst hsz
  have hD := hD0.self (sz := s.heap.size)
  generalize hAe : va_A (wM h0 a1 a2 a3 a4 a5 cI cZ cd tx pt qt ar nr tn pn) s.heap.size = A at hD ⊢
  have hA : ∀ q : Nat, s.heap.size ≤ q → A q := fun q h => by rw [← hAe]; exact Or.inr h
  have hS : va_S A s.heap s.heap [] := va_S.rf
  have hP : va_P (dC, dI) classes (wM h0 a1 a2 a3 a4 a5 cI cZ cd tx pt qt ar nr tn pn) s.heap := hP
  have hl := lv_entry ([.ref h0]) (n := 1) (Nat.le_of_ble_eq_true rfl)
  rw [lg_entry_eq]
  generalize (lg_sl ([.ref h0]) ++ List.replicate (1 - (lg_sl ([.ref h0])).length) Slot.unset).toArray = ls at hl ⊢
  have hl : lv_has ls 1 [(0, .ref h0)] := hl
  refine lv_aload_n hx hb d_M_matches_0 rfl (lv_at hl 0 rfl) ?_
  refine lv_iconst (v := nI 0) hx hb d_M_matches_1 (by decide) ?_
  refine va_put (D := (dC, dI)) (ci := 1) (v := .int (nI 0)) (ty := .int) (C := R_M) (T := F_M) (N := 8) hx hb htB in_M t_M t_M_ok n_M hown hK hP hD hS 0 rfl rfl 0 (by decide) (htB _ hfl_M_26) (fun _ h9 => h9) rfl (by decide +kernel) rfl rfl (Nat.le_of_ble_eq_true rfl) d_M_matches_2 (fun H locs hP hD hS => ?_)
  have hP : va_P (dC, dI) classes (wM h0 a1 a2 a3 a4 a5 cI cZ (nI 0) tx pt qt ar nr tn pn) H := hP
  have hD : va_D A (wM h0 a1 a2 a3 a4 a5 cI cZ (nI 0) tx pt qt ar nr tn pn) := hD
  refine lv_aload_n hx hb d_M_matches_5 rfl (lv_at hl 0 rfl) ?_
  refine lv_iconst (v := nI 0) hx hb d_M_matches_6 (by decide) ?_
  refine lv_aload_n hx hb d_M_matches_7 rfl (lv_at hl 0 rfl) ?_
  refine va_get (D := (dC, dI)) (ci := 1) (v := .int (nI tn)) (C := R_M) (T := F_M) (N := 8) hx hb htB in_M hown hK hP 0 rfl rfl 4 (by decide) (htB _ hfl_M_30) (fun _ h9 => h9) rfl d_M_matches_8 ?_
  refine r_M_go hp (Nat.zero_le _) ht hx hb hml hown htB hK hP hD hS hA hl.1 (Nat.le_of_ble_eq_true rfl) ⟨Nat.le_of_ble_eq_true rfl, Nat.le_of_ble_eq_true rfl⟩ ⟨Nat.zero_le _, Nat.zero_le _⟩ d_M_matches_11 (fun u1 H locs hu1 hP hD hS => ?_)
  refine lv_aload_n hx hb d_M_matches_14 rfl (lv_at hl 0 rfl) ?_
  refine va_get (D := (dC, dI)) (ci := 1) (v := .ref a4) (C := R_M) (T := F_M) (N := 8) hx hb htB in_M hown hK hP 0 rfl rfl 6 (by decide) (htB _ hfl_M_20) (fun _ h9 => h9) rfl d_M_matches_15 ?_
  refine lv_aload_n hx hb d_M_matches_18 rfl (lv_at hl 0 rfl) ?_
  refine va_get (D := (dC, dI)) (ci := 1) (v := .int (nI tn)) (C := R_M) (T := F_M) (N := 8) hx hb htB in_M hown hK hP 0 rfl rfl 4 (by decide) (htB _ hfl_M_30) (fun _ h9 => h9) rfl d_M_matches_19 ?_
  refine va_zald hx hb hK hP 4 1 rfl rfl (vp_in_nI (n := tn) (by omega) (by decide)) d_M_matches_22 ?_
  refine lv_topi (fun v_1 ev_1 => ?_)
  obtain rfl : v_1 = bI (mM tx pt qt pn 0 tn tn) := (show v_1 = u1.1 tn from ev_1.trans (by rw [nI_clamp (n := tn) (by omega)])).trans (hu1 tn ht)
  exact W.zret (v := bI (mM tx pt qt pn 0 tn tn)) hx hb hr (bI_nar _) (fun t ht hW => ⟨⟨_, u1, rfl, rfl, by rw [ht]; exact hP, va_K.moved hW.alike hK, hD⟩, hS.F ht⟩) hS.2.2 d_M_matches_23

set_option maxHeartbeats 4000000 in
set_option maxRecDepth 100000 in
theorem c_M_part (l : Launch) (dC : Nat → ClassId) (dI : Nat → Nat → Nat) (h0 a1 a2 a3 a4 a5 : Nat) (cI cZ : ClassId) (cd : Int32) (tx pt qt ar nr : Nat → Int32) (tn pn : Nat) (sz : Nat) (hp : pn ≤ 200) (ht : tn ≤ 400) (p0 p1 : Int32) : Met l y_M_part (.code y_M_part b_M_part 3 (some .boolean) :: wB) (Rm 4 101) (va_Pc [.ref h0, .int p0, .int p1] (fun U => U.heap.size = sz ∧ va_P (dC, dI) classes (wM h0 a1 a2 a3 a4 a5 cI cZ cd tx pt qt ar nr tn pn) U.heap ∧ va_K (dC, dI) classes (tyIZ cI cZ) U ∧ va_D (fun _ => True) (wM h0 a1 a2 a3 a4 a5 cI cZ cd tx pt qt ar nr tn pn))) (va_Qi (fun (r : Int32) (u : Int32 × (Nat → Int32) × (Nat → Int32)) => u.1 = (if okp tn p0 p1 = true then nI 0 else nI 1) ∧ r = (if okp tn p0 p1 = true then bI (mM tx pt qt pn p0.toNatClampNeg p1.toNatClampNeg p1.toNatClampNeg) else nI 0)) (fun (u : Int32 × (Nat → Int32) × (Nat → Int32)) (t : State) => va_P (dC, dI) classes (wM h0 a1 a2 a3 a4 a5 cI cZ u.1 tx pt qt u.2.1 u.2.2 tn pn) t.heap ∧ va_K (dC, dI) classes (tyIZ cI cZ) t ∧ va_D (va_A (wM h0 a1 a2 a3 a4 a5 cI cZ cd tx pt qt ar nr tn pn) sz) (wM h0 a1 a2 a3 a4 a5 cI cZ u.1 tx pt qt u.2.1 u.2.2 tn pn)) (va_A (wM h0 a1 a2 a3 a4 a5 cI cZ cd tx pt qt ar nr tn pn) sz)) 0 0 (va_A (wM h0 a1 a2 a3 a4 a5 cI cZ cd tx pt qt ar nr tn pn) sz) := by
  refine Met.ofW (cc := b_M_part) (maxL := 3) (ret := (some .boolean)) (by decide) rfl ?_
  intro p e s mm args below meth c s₁ B hml hv
  obtain ⟨rfl, hsz, hP, hK, hD0⟩ := hv
  have hx := B.exec
  have hb := B.bytes
  have hr := B.returns
  have hts := atoms_spec (ws := (.code y_M_part b_M_part 3 (some .boolean) :: wB)) B.pre
  have htB : ∀ w ∈ wB, w.before _ s = true := fun w h => hts w (List.mem_cons_of_mem _ h)
  have hown : s.vm.findClass R_M = some mm.cls := findClass_of_methodNamed B.named
  have hlocks := B.notSynchronized
  subst hsz
  have hD := hD0.self (sz := s.heap.size)
  generalize hAe : va_A (wM h0 a1 a2 a3 a4 a5 cI cZ cd tx pt qt ar nr tn pn) s.heap.size = A at hD ⊢
  have hA : ∀ q : Nat, s.heap.size ≤ q → A q := fun q h => by rw [← hAe]; exact Or.inr h
  have hS : va_S A s.heap s.heap [] := va_S.rf
  have hP : va_P (dC, dI) classes (wM h0 a1 a2 a3 a4 a5 cI cZ cd tx pt qt ar nr tn pn) s.heap := hP
  have hl := lv_entry ([.ref h0, .int p0, .int p1]) (n := 3) (Nat.le_of_ble_eq_true rfl)
  rw [lg_entry_eq]
  generalize (lg_sl ([.ref h0, .int p0, .int p1]) ++ List.replicate (3 - (lg_sl ([.ref h0, .int p0, .int p1])).length) Slot.unset).toArray = ls at hl ⊢
  have hl : lv_has ls 3 [(0, .ref h0), (1, .int p0), (2, .int p1)] := hl
  refine lv_aload_n hx hb d_M_part_0 rfl (lv_at hl 0 rfl) ?_
  refine lv_iload_n hx hb d_M_part_1 rfl (lv_at hl 1 rfl) ?_
  refine lv_if_lt (tgt := 18) hx hb d_M_part_2 (by decide) (fun c_1 => ?_) (fun c_1 => ?_)
  · refine lv_iconst (v := nI 1) hx hb d_M_part_18 (by decide) ?_
    refine lv_goto (tgt := 23) hx hb d_M_part_19 (by decide) ?_
    refine va_put (D := (dC, dI)) (ci := 1) (v := .int (nI 1)) (ty := .int) (C := R_M) (T := F_M) (N := 8) hx hb htB in_M t_M t_M_ok n_M hown hK hP hD hS 0 rfl rfl 0 (by decide) (htB _ hfl_M_26) (fun _ h9 => h9) rfl (by decide +kernel) rfl rfl (Nat.le_of_ble_eq_true rfl) d_M_part_23 (fun H locs hP hD hS => ?_)
    have hP : va_P (dC, dI) classes (wM h0 a1 a2 a3 a4 a5 cI cZ (nI 1) tx pt qt ar nr tn pn) H := hP
    have hD : va_D A (wM h0 a1 a2 a3 a4 a5 cI cZ (nI 1) tx pt qt ar nr tn pn) := hD
    refine lv_aload_n hx hb d_M_part_26 rfl (lv_at hl 0 rfl) ?_
    refine va_get (D := (dC, dI)) (ci := 1) (v := .int (nI 1)) (C := R_M) (T := F_M) (N := 8) hx hb htB in_M hown hK hP 0 rfl rfl 0 (by decide) (htB _ hfl_M_26) (fun _ h9 => h9) rfl d_M_part_27 ?_
    refine lv_if_le (tgt := 35) hx hb d_M_part_30 (by decide) (fun c_2 => ?_) (fun c_2 => ?_)
    · exact absurd c_2 (by decide)
    · clear c_2
      refine lv_iconst (v := nI 0) hx hb d_M_part_33 (by decide) ?_
      have hno : okp tn p0 p1 = false := by first | exact okp_a ‹_› | exact okp_b ‹_› | exact okp_c ‹_›
      exact W.zret (v := nI 0) hx hb hr (by rfl) (fun t ht hW => ⟨⟨_, (nI 1, ar, nr), rfl, ⟨by rw [if_neg (by rw [hno]; decide)], by rw [if_neg (by rw [hno]; decide)]⟩, by rw [ht]; exact hP, va_K.moved hW.alike hK, hD⟩, hS.F ht⟩) hS.2.2 d_M_part_34
  · refine lv_iload_n hx hb d_M_part_5 rfl (lv_at hl 2 rfl) ?_
    refine lv_iload_n hx hb d_M_part_6 rfl (lv_at hl 1 rfl) ?_
    refine lv_icmp_lt (tgt := 18) hx hb d_M_part_7 (by decide) (fun c_3 => ?_) (fun c_3 => ?_)
    · refine lv_iconst (v := nI 1) hx hb d_M_part_18 (by decide) ?_
      refine lv_goto (tgt := 23) hx hb d_M_part_19 (by decide) ?_
      refine va_put (D := (dC, dI)) (ci := 1) (v := .int (nI 1)) (ty := .int) (C := R_M) (T := F_M) (N := 8) hx hb htB in_M t_M t_M_ok n_M hown hK hP hD hS 0 rfl rfl 0 (by decide) (htB _ hfl_M_26) (fun _ h9 => h9) rfl (by decide +kernel) rfl rfl (Nat.le_of_ble_eq_true rfl) d_M_part_23 (fun H locs hP hD hS => ?_)
      have hP : va_P (dC, dI) classes (wM h0 a1 a2 a3 a4 a5 cI cZ (nI 1) tx pt qt ar nr tn pn) H := hP
      have hD : va_D A (wM h0 a1 a2 a3 a4 a5 cI cZ (nI 1) tx pt qt ar nr tn pn) := hD
      refine lv_aload_n hx hb d_M_part_26 rfl (lv_at hl 0 rfl) ?_
      refine va_get (D := (dC, dI)) (ci := 1) (v := .int (nI 1)) (C := R_M) (T := F_M) (N := 8) hx hb htB in_M hown hK hP 0 rfl rfl 0 (by decide) (htB _ hfl_M_26) (fun _ h9 => h9) rfl d_M_part_27 ?_
      refine lv_if_le (tgt := 35) hx hb d_M_part_30 (by decide) (fun c_4 => ?_) (fun c_4 => ?_)
      · exact absurd c_4 (by decide)
      · clear c_4
        refine lv_iconst (v := nI 0) hx hb d_M_part_33 (by decide) ?_
        have hno : okp tn p0 p1 = false := by first | exact okp_a ‹_› | exact okp_b ‹_› | exact okp_c ‹_›
        exact W.zret (v := nI 0) hx hb hr (by rfl) (fun t ht hW => ⟨⟨_, (nI 1, ar, nr), rfl, ⟨by rw [if_neg (by rw [hno]; decide)], by rw [if_neg (by rw [hno]; decide)]⟩, by rw [ht]; exact hP, va_K.moved hW.alike hK, hD⟩, hS.F ht⟩) hS.2.2 d_M_part_34
    · refine lv_iload_n hx hb d_M_part_10 rfl (lv_at hl 2 rfl) ?_
      refine lv_aload_n hx hb d_M_part_11 rfl (lv_at hl 0 rfl) ?_
      refine va_get (D := (dC, dI)) (ci := 1) (v := .int (nI tn)) (C := R_M) (T := F_M) (N := 8) hx hb htB in_M hown hK hP 0 rfl rfl 4 (by decide) (htB _ hfl_M_30) (fun _ h9 => h9) rfl d_M_part_12 ?_
      refine lv_icmp_le (tgt := 22) hx hb d_M_part_15 (by decide) (fun c_5 => ?_) (fun c_5 => ?_)
      · have hok := okp_y ‹¬ p0 < 0› ‹¬ p1 < p0› c_5
        obtain ⟨frm, too, hft, htt, rfl, rfl⟩ := okp_t ht ‹¬ p0 < 0› ‹¬ p1 < p0› c_5
        refine lv_iconst (v := nI 0) hx hb d_M_part_22 (by decide) ?_
        refine va_put (D := (dC, dI)) (ci := 1) (v := .int (nI 0)) (ty := .int) (C := R_M) (T := F_M) (N := 8) hx hb htB in_M t_M t_M_ok n_M hown hK hP hD hS 0 rfl rfl 0 (by decide) (htB _ hfl_M_26) (fun _ h9 => h9) rfl (by decide +kernel) rfl rfl (Nat.le_of_ble_eq_true rfl) d_M_part_23 (fun H locs hP hD hS => ?_)
        have hP : va_P (dC, dI) classes (wM h0 a1 a2 a3 a4 a5 cI cZ (nI 0) tx pt qt ar nr tn pn) H := hP
        have hD : va_D A (wM h0 a1 a2 a3 a4 a5 cI cZ (nI 0) tx pt qt ar nr tn pn) := hD
        refine lv_aload_n hx hb d_M_part_26 rfl (lv_at hl 0 rfl) ?_
        refine va_get (D := (dC, dI)) (ci := 1) (v := .int (nI 0)) (C := R_M) (T := F_M) (N := 8) hx hb htB in_M hown hK hP 0 rfl rfl 0 (by decide) (htB _ hfl_M_26) (fun _ h9 => h9) rfl d_M_part_27 ?_
        refine lv_if_le (tgt := 35) hx hb d_M_part_30 (by decide) (fun c_6 => ?_) (fun c_6 => ?_)
        · clear c_6
          refine lv_aload_n hx hb d_M_part_35 rfl (lv_at hl 0 rfl) ?_
          refine lv_iload_n hx hb d_M_part_36 rfl (lv_at hl 1 rfl) ?_
          refine lv_iload_n hx hb d_M_part_37 rfl (lv_at hl 2 rfl) ?_
          refine r_M_go hp hft (by omega) hx hb hml hown htB hK hP hD hS hA hl.1 (Nat.le_of_ble_eq_true rfl) ⟨Nat.le_of_ble_eq_true rfl, Nat.le_of_ble_eq_true rfl⟩ ⟨Nat.zero_le _, Nat.zero_le _⟩ d_M_part_38 (fun u1 H locs hu1 hP hD hS => ?_)
          refine lv_aload_n hx hb d_M_part_41 rfl (lv_at hl 0 rfl) ?_
          refine va_get (D := (dC, dI)) (ci := 1) (v := .ref a4) (C := R_M) (T := F_M) (N := 8) hx hb htB in_M hown hK hP 0 rfl rfl 6 (by decide) (htB _ hfl_M_20) (fun _ h9 => h9) rfl d_M_part_42 ?_
          refine lv_iload_n hx hb d_M_part_45 rfl (lv_at hl 2 rfl) ?_
          refine va_zald hx hb hK hP 4 1 rfl rfl (vp_in_nI (n := too) (by omega) (by decide)) d_M_part_46 ?_
          refine lv_topi (fun v_7 ev_7 => ?_)
          obtain rfl : v_7 = bI (mM tx pt qt pn frm too too) := (show v_7 = u1.1 too from ev_7.trans (by rw [nI_clamp (n := too) (by omega)])).trans (hu1 too (by omega))
          exact W.zret (v := bI (mM tx pt qt pn frm too too)) hx hb hr (bI_nar _) (fun t ht hW => ⟨⟨_, (nI 0, u1.1, u1.2), rfl, ⟨by rw [if_pos hok], by rw [if_pos hok, nI_clamp (n := frm) (by omega), nI_clamp (n := too) (by omega)]⟩, by rw [ht]; exact hP, va_K.moved hW.alike hK, hD⟩, hS.F ht⟩) hS.2.2 d_M_part_47
        · exact absurd c_6 (by decide)
      · refine lv_iconst (v := nI 1) hx hb d_M_part_18 (by decide) ?_
        refine lv_goto (tgt := 23) hx hb d_M_part_19 (by decide) ?_
        refine va_put (D := (dC, dI)) (ci := 1) (v := .int (nI 1)) (ty := .int) (C := R_M) (T := F_M) (N := 8) hx hb htB in_M t_M t_M_ok n_M hown hK hP hD hS 0 rfl rfl 0 (by decide) (htB _ hfl_M_26) (fun _ h9 => h9) rfl (by decide +kernel) rfl rfl (Nat.le_of_ble_eq_true rfl) d_M_part_23 (fun H locs hP hD hS => ?_)
        have hP : va_P (dC, dI) classes (wM h0 a1 a2 a3 a4 a5 cI cZ (nI 1) tx pt qt ar nr tn pn) H := hP
        have hD : va_D A (wM h0 a1 a2 a3 a4 a5 cI cZ (nI 1) tx pt qt ar nr tn pn) := hD
        refine lv_aload_n hx hb d_M_part_26 rfl (lv_at hl 0 rfl) ?_
        refine va_get (D := (dC, dI)) (ci := 1) (v := .int (nI 1)) (C := R_M) (T := F_M) (N := 8) hx hb htB in_M hown hK hP 0 rfl rfl 0 (by decide) (htB _ hfl_M_26) (fun _ h9 => h9) rfl d_M_part_27 ?_
        refine lv_if_le (tgt := 35) hx hb d_M_part_30 (by decide) (fun c_8 => ?_) (fun c_8 => ?_)
        · exact absurd c_8 (by decide)
        · clear c_8
          refine lv_iconst (v := nI 0) hx hb d_M_part_33 (by decide) ?_
          have hno : okp tn p0 p1 = false := by first | exact okp_a ‹_› | exact okp_b ‹_› | exact okp_c ‹_›
          exact W.zret (v := nI 0) hx hb hr (by rfl) (fun t ht hW => ⟨⟨_, (nI 1, ar, nr), rfl, ⟨by rw [if_neg (by rw [hno]; decide)], by rw [if_neg (by rw [hno]; decide)]⟩, by rw [ht]; exact hP, va_K.moved hW.alike hK, hD⟩, hS.F ht⟩) hS.2.2 d_M_part_34

set_option maxHeartbeats 4000000 in
set_option maxRecDepth 100000 in
theorem c_M_isSpecial (l : Launch) (dC : Nat → ClassId) (dI : Nat → Nat → Nat) (h0 a1 a2 a3 a4 a5 : Nat) (cI cZ : ClassId) (cd : Int32) (tx pt qt ar nr : Nat → Int32) (tn pn : Nat) (sz : Nat) (hp : pn ≤ 200) : Met l y_M_isSpecial (.code y_M_isSpecial b_M_isSpecial 3 (some .boolean) :: wB) (Rm 1 22) (va_Pc [.ref h0] (fun U => U.heap.size = sz ∧ va_P (dC, dI) classes (wM h0 a1 a2 a3 a4 a5 cI cZ cd tx pt qt ar nr tn pn) U.heap ∧ va_K (dC, dI) classes (tyIZ cI cZ) U ∧ va_D (fun _ => True) (wM h0 a1 a2 a3 a4 a5 cI cZ cd tx pt qt ar nr tn pn))) (va_Qi (fun (r : Int32) (u : Unit) => r = bI (sp pt qt pn pn)) (fun (u : Unit) (t : State) => va_P (dC, dI) classes (wM h0 a1 a2 a3 a4 a5 cI cZ ((nI 0)) tx pt qt ar nr tn pn) t.heap ∧ va_K (dC, dI) classes (tyIZ cI cZ) t ∧ va_D (va_A (wM h0 a1 a2 a3 a4 a5 cI cZ cd tx pt qt ar nr tn pn) sz) (wM h0 a1 a2 a3 a4 a5 cI cZ ((nI 0)) tx pt qt ar nr tn pn)) (va_A (wM h0 a1 a2 a3 a4 a5 cI cZ cd tx pt qt ar nr tn pn) sz)) 0 0 (va_A (wM h0 a1 a2 a3 a4 a5 cI cZ cd tx pt qt ar nr tn pn) sz) := by
  refine Met.ofW (cc := b_M_isSpecial) (maxL := 3) (ret := (some .boolean)) (by decide) rfl ?_
  intro p e s mm args below meth c s₁ B hml hv
  obtain ⟨rfl, hsz, hP, hK, hD0⟩ := hv
  have hx := B.exec
  have hb := B.bytes
  have hr := B.returns
  have hts := atoms_spec (ws := (.code y_M_isSpecial b_M_isSpecial 3 (some .boolean) :: wB)) B.pre
  have htB : ∀ w ∈ wB, w.before _ s = true := fun w h => hts w (List.mem_cons_of_mem _ h)
  have hown : s.vm.findClass R_M = some mm.cls := findClass_of_methodNamed B.named
  have hlocks := B.notSynchronized
  subst hsz
  have hD := hD0.self (sz := s.heap.size)
  generalize hAe : va_A (wM h0 a1 a2 a3 a4 a5 cI cZ cd tx pt qt ar nr tn pn) s.heap.size = A at hD ⊢
  have hA : ∀ q : Nat, s.heap.size ≤ q → A q := fun q h => by rw [← hAe]; exact Or.inr h
  have hS : va_S A s.heap s.heap [] := va_S.rf
  have hP : va_P (dC, dI) classes (wM h0 a1 a2 a3 a4 a5 cI cZ cd tx pt qt ar nr tn pn) s.heap := hP
  have hl := lv_entry ([.ref h0]) (n := 3) (Nat.le_of_ble_eq_true rfl)
  rw [lg_entry_eq]
  generalize (lg_sl ([.ref h0]) ++ List.replicate (3 - (lg_sl ([.ref h0])).length) Slot.unset).toArray = ls at hl ⊢
  have hl : lv_has ls 3 [(0, .ref h0)] := hl
  refine lv_aload_n hx hb d_M_isSpecial_0 rfl (lv_at hl 0 rfl) ?_
  refine lv_iconst (v := nI 0) hx hb d_M_isSpecial_1 (by decide) ?_
  refine va_put (D := (dC, dI)) (ci := 1) (v := .int (nI 0)) (ty := .int) (C := R_M) (T := F_M) (N := 8) hx hb htB in_M t_M t_M_ok n_M hown hK hP hD hS 0 rfl rfl 0 (by decide) (htB _ hfl_M_26) (fun _ h9 => h9) rfl (by decide +kernel) rfl rfl (Nat.le_of_ble_eq_true rfl) d_M_isSpecial_2 (fun H locs hP hD hS => ?_)
  have hP : va_P (dC, dI) classes (wM h0 a1 a2 a3 a4 a5 cI cZ (nI 0) tx pt qt ar nr tn pn) H := hP
  have hD : va_D A (wM h0 a1 a2 a3 a4 a5 cI cZ (nI 0) tx pt qt ar nr tn pn) := hD
  refine lv_iconst (v := nI 0) hx hb d_M_isSpecial_5 (by decide) ?_
  refine lv_istore_n (lv' := [(1, .int (nI 0)), (0, .ref h0)]) hx hb d_M_isSpecial_6 rfl hl (by decide) rfl (fun ls hl => ?_)
  refine lv_iconst (v := nI 0) hx hb d_M_isSpecial_7 (by decide) ?_
  refine lv_istore_n (lv' := [(2, .int (nI 0)), (1, .int (nI 0)), (0, .ref h0)]) hx hb d_M_isSpecial_8 rfl hl (by decide) rfl (fun ls hl => ?_)
  have loop : ∀ (n i : Nat), i ≤ 1000 → 1000 < i + n → i ≤ pn → ∀ ls : Array Slot, lv_has ls 3 [(1, .int (bI (sp pt qt pn i))), (2, .int (nI i)), (0, .ref h0)] → W p l e (Rm 1 22) s mm [.ref h0].toArray below meth c H locs 0 0 (MQ below (va_Qi (fun (r : Int32) (u : Unit) => r = bI (sp pt qt pn pn)) (fun (u : Unit) (t : State) => va_P (dC, dI) classes (wM h0 a1 a2 a3 a4 a5 cI cZ ((nI 0)) tx pt qt ar nr tn pn) t.heap ∧ va_K (dC, dI) classes (tyIZ cI cZ) t ∧ va_D A (wM h0 a1 a2 a3 a4 a5 cI cZ ((nI 0)) tx pt qt ar nr tn pn)) A) [.ref h0].toArray s 0 0 A) (F0 mm 9 ls []) := by
    intro n
    induction n with
    | zero => intro i h1 h2; exact absurd h2 (by omega)
    | succ n ih =>
      intro i hi hn hip ls hl
      refine lv_iload_n hx hb d_M_isSpecial_9 rfl (lv_at hl 1 rfl) ?_
      refine lv_aload_n hx hb d_M_isSpecial_10 rfl (lv_at hl 2 rfl) ?_
      refine va_get (D := (dC, dI)) (ci := 1) (v := .int (nI pn)) (C := R_M) (T := F_M) (N := 8) hx hb htB in_M hown hK hP 0 rfl rfl 5 (by decide) (htB _ hfl_M_35) (fun _ h9 => h9) rfl d_M_isSpecial_11 ?_
      refine lv_icmp_ge (tgt := 63) hx hb d_M_isSpecial_14 (by decide) (fun c_1 => ?_) (fun c_1 => ?_)
      · have c_1 := (nI_leI (by omega) (by omega)).mp c_1
        refine lv_iload_n hx hb d_M_isSpecial_63 rfl (lv_at hl 0 rfl) ?_
        exact W.zret (v := bI (sp pt qt pn i)) hx hb hr (bI_nar _) (fun t ht hW => ⟨⟨_, (), rfl, by rw [show i = pn by omega], by rw [ht]; exact hP, va_K.moved hW.alike hK, hD⟩, hS.F ht⟩) hS.2.2 d_M_isSpecial_64
      · have c_1 := mt (nI_leI (by omega) (by omega)).mpr c_1
        refine lv_iload_n hx hb d_M_isSpecial_17 rfl (lv_at hl 0 rfl) ?_
        refine lv_if_ne (tgt := 51) hx hb d_M_isSpecial_18 (by decide) (fun c_2 => ?_) (fun c_2 => ?_)
        · have c_2 := bI_nz.mp c_2
          refine lv_iconst (v := nI 1) hx hb d_M_isSpecial_51 (by decide) ?_
          refine lv_goto (tgt := 56) hx hb d_M_isSpecial_52 (by decide) ?_
          refine lv_istore_n (lv' := [(1, .int (nI 1)), (2, .int (nI i)), (0, .ref h0)]) hx hb d_M_isSpecial_56 rfl hl (by decide) rfl (fun ls hl => ?_)
          refine lv_iinc (v := nI (i + 1)) (lv' := [(2, .int (nI (i + 1))), (1, .int (nI 1)), (0, .ref h0)]) hx hb d_M_isSpecial_57 hl (k := 1) rfl (nI_add _ 1) (by decide) rfl (fun ls hl => ?_)
          refine lv_goto (tgt := 9) hx hb d_M_isSpecial_60 (by decide) ?_
          have hs9 : sp pt qt pn (i + 1) = true := by
            show (sp pt qt pn i || sa pt qt pn i) = _
            first | (rw [‹sp pt qt pn i = true›]; rfl) | rw [sa_1 (by first | exact Or.inl ‹_› | exact Or.inr (Or.inl ‹_›) | exact Or.inr (Or.inr ‹_›)), Bool.or_true]
          exact ih (i + 1) (by omega) (by omega) (by omega) ls (by rw [hs9]; exact (lv_sub hl [1, 0, 2] rfl))
        · have c_2 := bI_z.mp c_2
          refine lv_aload_n hx hb d_M_isSpecial_21 rfl (lv_at hl 2 rfl) ?_
          refine lv_iload_n hx hb d_M_isSpecial_22 rfl (lv_at hl 1 rfl) ?_
          refine lv_bipush (v := nI 42) hx hb d_M_isSpecial_23 (by decide) ?_
          refine r_M_is hp (by omega) hx hb hml hown htB hK hP hl.1 (Nat.le_of_ble_eq_true rfl) ⟨Nat.le_of_ble_eq_true rfl, Nat.le_of_ble_eq_true rfl⟩ ⟨Nat.zero_le _, Nat.zero_le _⟩ d_M_isSpecial_25 ?_
          refine lv_if_ne (tgt := 51) hx hb d_M_isSpecial_28 (by decide) (fun c_3 => ?_) (fun c_3 => ?_)
          · have c_3 := bI_nz.mp c_3
            refine lv_iconst (v := nI 1) hx hb d_M_isSpecial_51 (by decide) ?_
            refine lv_goto (tgt := 56) hx hb d_M_isSpecial_52 (by decide) ?_
            refine lv_istore_n (lv' := [(1, .int (nI 1)), (2, .int (nI i)), (0, .ref h0)]) hx hb d_M_isSpecial_56 rfl hl (by decide) rfl (fun ls hl => ?_)
            refine lv_iinc (v := nI (i + 1)) (lv' := [(2, .int (nI (i + 1))), (1, .int (nI 1)), (0, .ref h0)]) hx hb d_M_isSpecial_57 hl (k := 1) rfl (nI_add _ 1) (by decide) rfl (fun ls hl => ?_)
            refine lv_goto (tgt := 9) hx hb d_M_isSpecial_60 (by decide) ?_
            have hs9 : sp pt qt pn (i + 1) = true := by
              show (sp pt qt pn i || sa pt qt pn i) = _
              first | (rw [‹sp pt qt pn i = true›]; rfl) | rw [sa_1 (by first | exact Or.inl ‹_› | exact Or.inr (Or.inl ‹_›) | exact Or.inr (Or.inr ‹_›)), Bool.or_true]
            exact ih (i + 1) (by omega) (by omega) (by omega) ls (by rw [hs9]; exact (lv_sub hl [1, 0, 2] rfl))
          · have c_3 := bI_z.mp c_3
            refine lv_aload_n hx hb d_M_isSpecial_31 rfl (lv_at hl 2 rfl) ?_
            refine lv_iload_n hx hb d_M_isSpecial_32 rfl (lv_at hl 1 rfl) ?_
            refine lv_bipush (v := nI 63) hx hb d_M_isSpecial_33 (by decide) ?_
            refine r_M_is hp (by omega) hx hb hml hown htB hK hP hl.1 (Nat.le_of_ble_eq_true rfl) ⟨Nat.le_of_ble_eq_true rfl, Nat.le_of_ble_eq_true rfl⟩ ⟨Nat.zero_le _, Nat.zero_le _⟩ d_M_isSpecial_35 ?_
            refine lv_if_ne (tgt := 51) hx hb d_M_isSpecial_38 (by decide) (fun c_4 => ?_) (fun c_4 => ?_)
            · have c_4 := bI_nz.mp c_4
              refine lv_iconst (v := nI 1) hx hb d_M_isSpecial_51 (by decide) ?_
              refine lv_goto (tgt := 56) hx hb d_M_isSpecial_52 (by decide) ?_
              refine lv_istore_n (lv' := [(1, .int (nI 1)), (2, .int (nI i)), (0, .ref h0)]) hx hb d_M_isSpecial_56 rfl hl (by decide) rfl (fun ls hl => ?_)
              refine lv_iinc (v := nI (i + 1)) (lv' := [(2, .int (nI (i + 1))), (1, .int (nI 1)), (0, .ref h0)]) hx hb d_M_isSpecial_57 hl (k := 1) rfl (nI_add _ 1) (by decide) rfl (fun ls hl => ?_)
              refine lv_goto (tgt := 9) hx hb d_M_isSpecial_60 (by decide) ?_
              have hs9 : sp pt qt pn (i + 1) = true := by
                show (sp pt qt pn i || sa pt qt pn i) = _
                first | (rw [‹sp pt qt pn i = true›]; rfl) | rw [sa_1 (by first | exact Or.inl ‹_› | exact Or.inr (Or.inl ‹_›) | exact Or.inr (Or.inr ‹_›)), Bool.or_true]
              exact ih (i + 1) (by omega) (by omega) (by omega) ls (by rw [hs9]; exact (lv_sub hl [1, 0, 2] rfl))
            · have c_4 := bI_z.mp c_4
              refine lv_aload_n hx hb d_M_isSpecial_41 rfl (lv_at hl 2 rfl) ?_
              refine lv_iload_n hx hb d_M_isSpecial_42 rfl (lv_at hl 1 rfl) ?_
              refine lv_bipush (v := nI 91) hx hb d_M_isSpecial_43 (by decide) ?_
              refine r_M_is hp (by omega) hx hb hml hown htB hK hP hl.1 (Nat.le_of_ble_eq_true rfl) ⟨Nat.le_of_ble_eq_true rfl, Nat.le_of_ble_eq_true rfl⟩ ⟨Nat.zero_le _, Nat.zero_le _⟩ d_M_isSpecial_45 ?_
              refine lv_if_eq (tgt := 55) hx hb d_M_isSpecial_48 (by decide) (fun c_5 => ?_) (fun c_5 => ?_)
              · have c_5 := bI_z.mp c_5
                refine lv_iconst (v := nI 0) hx hb d_M_isSpecial_55 (by decide) ?_
                refine lv_istore_n (lv' := [(1, .int (nI 0)), (2, .int (nI i)), (0, .ref h0)]) hx hb d_M_isSpecial_56 rfl hl (by decide) rfl (fun ls hl => ?_)
                refine lv_iinc (v := nI (i + 1)) (lv' := [(2, .int (nI (i + 1))), (1, .int (nI 0)), (0, .ref h0)]) hx hb d_M_isSpecial_57 hl (k := 1) rfl (nI_add _ 1) (by decide) rfl (fun ls hl => ?_)
                refine lv_goto (tgt := 9) hx hb d_M_isSpecial_60 (by decide) ?_
                have hs9 : sp pt qt pn (i + 1) = false := by
                  show (sp pt qt pn i || sa pt qt pn i) = _
                  rw [‹sp pt qt pn i = false›, sa_0 ‹_› ‹_› ‹_›]; rfl
                exact ih (i + 1) (by omega) (by omega) (by omega) ls (by rw [hs9]; exact (lv_sub hl [1, 0, 2] rfl))
              · have c_5 := bI_nz.mp c_5
                refine lv_iconst (v := nI 1) hx hb d_M_isSpecial_51 (by decide) ?_
                refine lv_goto (tgt := 56) hx hb d_M_isSpecial_52 (by decide) ?_
                refine lv_istore_n (lv' := [(1, .int (nI 1)), (2, .int (nI i)), (0, .ref h0)]) hx hb d_M_isSpecial_56 rfl hl (by decide) rfl (fun ls hl => ?_)
                refine lv_iinc (v := nI (i + 1)) (lv' := [(2, .int (nI (i + 1))), (1, .int (nI 1)), (0, .ref h0)]) hx hb d_M_isSpecial_57 hl (k := 1) rfl (nI_add _ 1) (by decide) rfl (fun ls hl => ?_)
                refine lv_goto (tgt := 9) hx hb d_M_isSpecial_60 (by decide) ?_
                have hs9 : sp pt qt pn (i + 1) = true := by
                  show (sp pt qt pn i || sa pt qt pn i) = _
                  first | (rw [‹sp pt qt pn i = true›]; rfl) | rw [sa_1 (by first | exact Or.inl ‹_› | exact Or.inr (Or.inl ‹_›) | exact Or.inr (Or.inr ‹_›)), Bool.or_true]
                exact ih (i + 1) (by omega) (by omega) (by omega) ls (by rw [hs9]; exact (lv_sub hl [1, 0, 2] rfl))
  exact loop 1001 0 (by omega) (by omega) (by omega) ls (lv_sub hl [1, 0, 2] rfl)

set_option maxHeartbeats 4000000 in
set_option maxRecDepth 100000 in
theorem c_M_count (l : Launch) (dC : Nat → ClassId) (dI : Nat → Nat → Nat) (h0 a1 a2 a3 a4 a5 : Nat) (cI cZ : ClassId) (cd : Int32) (tx pt qt ar nr : Nat → Int32) (tn pn : Nat) (sz : Nat) (hp : pn ≤ 200) (wh : Int32) : Met l y_M_count (.code y_M_count b_M_count 4 (some .int) :: wB) (Rm 2 44) (va_Pc [.ref h0, .int wh] (fun U => U.heap.size = sz ∧ va_P (dC, dI) classes (wM h0 a1 a2 a3 a4 a5 cI cZ cd tx pt qt ar nr tn pn) U.heap ∧ va_K (dC, dI) classes (tyIZ cI cZ) U ∧ va_D (fun _ => True) (wM h0 a1 a2 a3 a4 a5 cI cZ cd tx pt qt ar nr tn pn))) (va_Qi (fun (r : Int32) (u : Unit) => r = ctX tn pn pt qt wh) (fun (u : Unit) (t : State) => va_P (dC, dI) classes (wM h0 a1 a2 a3 a4 a5 cI cZ ((nI 0)) tx pt qt ar nr tn pn) t.heap ∧ va_K (dC, dI) classes (tyIZ cI cZ) t ∧ va_D (va_A (wM h0 a1 a2 a3 a4 a5 cI cZ cd tx pt qt ar nr tn pn) sz) (wM h0 a1 a2 a3 a4 a5 cI cZ ((nI 0)) tx pt qt ar nr tn pn)) (va_A (wM h0 a1 a2 a3 a4 a5 cI cZ cd tx pt qt ar nr tn pn) sz)) 0 0 (va_A (wM h0 a1 a2 a3 a4 a5 cI cZ cd tx pt qt ar nr tn pn) sz) := by
  refine Met.ofW (cc := b_M_count) (maxL := 4) (ret := (some .int)) (by decide) rfl ?_
  intro p e s mm args below meth c s₁ B hml hv
  obtain ⟨rfl, hsz, hP, hK, hD0⟩ := hv
  have hx := B.exec
  have hb := B.bytes
  have hr := B.returns
  have hts := atoms_spec (ws := (.code y_M_count b_M_count 4 (some .int) :: wB)) B.pre
  have htB : ∀ w ∈ wB, w.before _ s = true := fun w h => hts w (List.mem_cons_of_mem _ h)
  have hown : s.vm.findClass R_M = some mm.cls := findClass_of_methodNamed B.named
  have hlocks := B.notSynchronized
  subst hsz
  have hD := hD0.self (sz := s.heap.size)
  generalize hAe : va_A (wM h0 a1 a2 a3 a4 a5 cI cZ cd tx pt qt ar nr tn pn) s.heap.size = A at hD ⊢
  have hA : ∀ q : Nat, s.heap.size ≤ q → A q := fun q h => by rw [← hAe]; exact Or.inr h
  have hS : va_S A s.heap s.heap [] := va_S.rf
  have hP : va_P (dC, dI) classes (wM h0 a1 a2 a3 a4 a5 cI cZ cd tx pt qt ar nr tn pn) s.heap := hP
  have hl := lv_entry ([.ref h0, .int wh]) (n := 4) (Nat.le_of_ble_eq_true rfl)
  rw [lg_entry_eq]
  generalize (lg_sl ([.ref h0, .int wh]) ++ List.replicate (4 - (lg_sl ([.ref h0, .int wh])).length) Slot.unset).toArray = ls at hl ⊢
  have hl : lv_has ls 4 [(0, .ref h0), (1, .int wh)] := hl
  refine lv_aload_n hx hb d_M_count_0 rfl (lv_at hl 0 rfl) ?_
  refine lv_iconst (v := nI 0) hx hb d_M_count_1 (by decide) ?_
  refine va_put (D := (dC, dI)) (ci := 1) (v := .int (nI 0)) (ty := .int) (C := R_M) (T := F_M) (N := 8) hx hb htB in_M t_M t_M_ok n_M hown hK hP hD hS 0 rfl rfl 0 (by decide) (htB _ hfl_M_26) (fun _ h9 => h9) rfl (by decide +kernel) rfl rfl (Nat.le_of_ble_eq_true rfl) d_M_count_2 (fun H locs hP hD hS => ?_)
  have hP : va_P (dC, dI) classes (wM h0 a1 a2 a3 a4 a5 cI cZ (nI 0) tx pt qt ar nr tn pn) H := hP
  have hD : va_D A (wM h0 a1 a2 a3 a4 a5 cI cZ (nI 0) tx pt qt ar nr tn pn) := hD
  refine lv_iconst (v := nI 0) hx hb d_M_count_5 (by decide) ?_
  refine lv_istore_n (lv' := [(2, .int (nI 0)), (0, .ref h0), (1, .int wh)]) hx hb d_M_count_6 rfl hl (by decide) rfl (fun ls hl => ?_)
  refine lv_iconst (v := nI 0) hx hb d_M_count_7 (by decide) ?_
  refine lv_istore_n (lv' := [(3, .int (nI 0)), (2, .int (nI 0)), (0, .ref h0), (1, .int wh)]) hx hb d_M_count_8 rfl hl (by decide) rfl (fun ls hl => ?_)
  have loop : ∀ (n i : Nat), i ≤ 1000 → 1000 < i + n → i ≤ pn → ∀ ls : Array Slot, lv_has ls 4 [(2, .int (nI (cw pt qt pn wh i))), (3, .int (nI i)), (0, .ref h0), (1, .int wh)] → W p l e (Rm 2 44) s mm [.ref h0, .int wh].toArray below meth c H locs 0 0 (MQ below (va_Qi (fun (r : Int32) (u : Unit) => r = ctX tn pn pt qt wh) (fun (u : Unit) (t : State) => va_P (dC, dI) classes (wM h0 a1 a2 a3 a4 a5 cI cZ ((nI 0)) tx pt qt ar nr tn pn) t.heap ∧ va_K (dC, dI) classes (tyIZ cI cZ) t ∧ va_D A (wM h0 a1 a2 a3 a4 a5 cI cZ ((nI 0)) tx pt qt ar nr tn pn)) A) [.ref h0, .int wh].toArray s 0 0 A) (F0 mm 9 ls []) := by
    intro n
    induction n with
    | zero => intro i h1 h2; exact absurd h2 (by omega)
    | succ n ih =>
      intro i hi hn hip ls hl
      have hcw := cw_le pt qt pn wh i
      refine lv_iload_n hx hb d_M_count_9 rfl (lv_at hl 1 rfl) ?_
      refine lv_aload_n hx hb d_M_count_10 rfl (lv_at hl 2 rfl) ?_
      refine va_get (D := (dC, dI)) (ci := 1) (v := .int (nI pn)) (C := R_M) (T := F_M) (N := 8) hx hb htB in_M hown hK hP 0 rfl rfl 5 (by decide) (htB _ hfl_M_35) (fun _ h9 => h9) rfl d_M_count_11 ?_
      refine lv_icmp_ge (tgt := 62) hx hb d_M_count_14 (by decide) (fun c_1 => ?_) (fun c_1 => ?_)
      · have c_1 := (nI_leI (by omega) (by omega)).mp c_1
        refine lv_iload_n hx hb d_M_count_62 rfl (lv_at hl 3 rfl) ?_
        refine lv_if_ne (tgt := 73) hx hb d_M_count_63 (by decide) (fun c_2 => ?_) (fun c_2 => ?_)
        · have c_2 : ¬ wh = nI 0 := c_2
          refine lv_iload_n hx hb d_M_count_73 rfl (lv_at hl 3 rfl) ?_
          refine lv_iconst (v := nI 1) hx hb d_M_count_74 (by decide) ?_
          refine lv_icmp_ne (tgt := 85) hx hb d_M_count_75 (by decide) (fun c_3 => ?_) (fun c_3 => ?_)
          · refine lv_iload_n hx hb d_M_count_85 rfl (lv_at hl 3 rfl) ?_
            refine lv_iconst (v := nI 2) hx hb d_M_count_86 (by decide) ?_
            refine lv_icmp_eq (tgt := 95) hx hb d_M_count_87 (by decide) (fun c_4 => ?_) (fun c_4 => ?_)
            · refine lv_iload_n hx hb d_M_count_95 rfl (lv_at hl 0 rfl) ?_
              refine lv_goto (tgt := 100) hx hb d_M_count_96 (by decide) ?_
              exact W.iret (v := nI (cw pt qt pn wh i)) hx hb hr (fun t ht hW => ⟨⟨_, (), rfl, by first | (unfold ctX; rw [if_pos ‹wh = nI 0›]) | (unfold ctX; rw [if_neg ‹¬ wh = nI 0›, if_pos ‹wh = nI 1›]) | (unfold ctX; rw [if_neg ‹¬ wh = nI 0›, if_neg ‹¬ wh = nI 1›, if_pos ‹wh = nI 2›, show i = pn by omega]; unfold cw; rw [if_pos ‹wh = nI 2›]) | (unfold ctX; rw [if_neg ‹¬ wh = nI 0›, if_neg ‹¬ wh = nI 1›, if_neg ‹¬ wh = nI 2›, if_pos ‹wh = nI 3›, show i = pn by omega]; unfold cw; rw [if_neg ‹¬ wh = nI 2›]) | (unfold ctX; rw [if_neg ‹¬ wh = nI 0›, if_neg ‹¬ wh = nI 1›, if_neg ‹¬ wh = nI 2›, if_neg ‹¬ wh = nI 3›]), by rw [ht]; exact hP, va_K.moved hW.alike hK, hD⟩, hS.F ht⟩) hS.2.2 d_M_count_100
            · refine lv_iload_n hx hb d_M_count_90 rfl (lv_at hl 3 rfl) ?_
              refine lv_iconst (v := nI 3) hx hb d_M_count_91 (by decide) ?_
              refine lv_icmp_ne (tgt := 99) hx hb d_M_count_92 (by decide) (fun c_5 => ?_) (fun c_5 => ?_)
              · refine lv_iconst (v := -1) hx hb d_M_count_99 (by decide) ?_
                exact W.iret (v := -1) hx hb hr (fun t ht hW => ⟨⟨_, (), rfl, by first | (unfold ctX; rw [if_pos ‹wh = nI 0›]) | (unfold ctX; rw [if_neg ‹¬ wh = nI 0›, if_pos ‹wh = nI 1›]) | (unfold ctX; rw [if_neg ‹¬ wh = nI 0›, if_neg ‹¬ wh = nI 1›, if_pos ‹wh = nI 2›, show i = pn by omega]; unfold cw; rw [if_pos ‹wh = nI 2›]) | (unfold ctX; rw [if_neg ‹¬ wh = nI 0›, if_neg ‹¬ wh = nI 1›, if_neg ‹¬ wh = nI 2›, if_pos ‹wh = nI 3›, show i = pn by omega]; unfold cw; rw [if_neg ‹¬ wh = nI 2›]) | (unfold ctX; rw [if_neg ‹¬ wh = nI 0›, if_neg ‹¬ wh = nI 1›, if_neg ‹¬ wh = nI 2›, if_neg ‹¬ wh = nI 3›]), by rw [ht]; exact hP, va_K.moved hW.alike hK, hD⟩, hS.F ht⟩) hS.2.2 d_M_count_100
              · refine lv_iload_n hx hb d_M_count_95 rfl (lv_at hl 0 rfl) ?_
                refine lv_goto (tgt := 100) hx hb d_M_count_96 (by decide) ?_
                exact W.iret (v := nI (cw pt qt pn wh i)) hx hb hr (fun t ht hW => ⟨⟨_, (), rfl, by first | (unfold ctX; rw [if_pos ‹wh = nI 0›]) | (unfold ctX; rw [if_neg ‹¬ wh = nI 0›, if_pos ‹wh = nI 1›]) | (unfold ctX; rw [if_neg ‹¬ wh = nI 0›, if_neg ‹¬ wh = nI 1›, if_pos ‹wh = nI 2›, show i = pn by omega]; unfold cw; rw [if_pos ‹wh = nI 2›]) | (unfold ctX; rw [if_neg ‹¬ wh = nI 0›, if_neg ‹¬ wh = nI 1›, if_neg ‹¬ wh = nI 2›, if_pos ‹wh = nI 3›, show i = pn by omega]; unfold cw; rw [if_neg ‹¬ wh = nI 2›]) | (unfold ctX; rw [if_neg ‹¬ wh = nI 0›, if_neg ‹¬ wh = nI 1›, if_neg ‹¬ wh = nI 2›, if_neg ‹¬ wh = nI 3›]), by rw [ht]; exact hP, va_K.moved hW.alike hK, hD⟩, hS.F ht⟩) hS.2.2 d_M_count_100
          · refine lv_aload_n hx hb d_M_count_78 rfl (lv_at hl 2 rfl) ?_
            refine va_get (D := (dC, dI)) (ci := 1) (v := .int (nI pn)) (C := R_M) (T := F_M) (N := 8) hx hb htB in_M hown hK hP 0 rfl rfl 5 (by decide) (htB _ hfl_M_35) (fun _ h9 => h9) rfl d_M_count_79 ?_
            refine lv_goto (tgt := 100) hx hb d_M_count_82 (by decide) ?_
            exact W.iret (v := nI pn) hx hb hr (fun t ht hW => ⟨⟨_, (), rfl, by first | (unfold ctX; rw [if_pos ‹wh = nI 0›]) | (unfold ctX; rw [if_neg ‹¬ wh = nI 0›, if_pos ‹wh = nI 1›]) | (unfold ctX; rw [if_neg ‹¬ wh = nI 0›, if_neg ‹¬ wh = nI 1›, if_pos ‹wh = nI 2›, show i = pn by omega]; unfold cw; rw [if_pos ‹wh = nI 2›]) | (unfold ctX; rw [if_neg ‹¬ wh = nI 0›, if_neg ‹¬ wh = nI 1›, if_neg ‹¬ wh = nI 2›, if_pos ‹wh = nI 3›, show i = pn by omega]; unfold cw; rw [if_neg ‹¬ wh = nI 2›]) | (unfold ctX; rw [if_neg ‹¬ wh = nI 0›, if_neg ‹¬ wh = nI 1›, if_neg ‹¬ wh = nI 2›, if_neg ‹¬ wh = nI 3›]), by rw [ht]; exact hP, va_K.moved hW.alike hK, hD⟩, hS.F ht⟩) hS.2.2 d_M_count_100
        · have c_2 : wh = nI 0 := c_2
          refine lv_aload_n hx hb d_M_count_66 rfl (lv_at hl 2 rfl) ?_
          refine va_get (D := (dC, dI)) (ci := 1) (v := .int (nI tn)) (C := R_M) (T := F_M) (N := 8) hx hb htB in_M hown hK hP 0 rfl rfl 4 (by decide) (htB _ hfl_M_30) (fun _ h9 => h9) rfl d_M_count_67 ?_
          refine lv_goto (tgt := 100) hx hb d_M_count_70 (by decide) ?_
          exact W.iret (v := nI tn) hx hb hr (fun t ht hW => ⟨⟨_, (), rfl, by first | (unfold ctX; rw [if_pos ‹wh = nI 0›]) | (unfold ctX; rw [if_neg ‹¬ wh = nI 0›, if_pos ‹wh = nI 1›]) | (unfold ctX; rw [if_neg ‹¬ wh = nI 0›, if_neg ‹¬ wh = nI 1›, if_pos ‹wh = nI 2›, show i = pn by omega]; unfold cw; rw [if_pos ‹wh = nI 2›]) | (unfold ctX; rw [if_neg ‹¬ wh = nI 0›, if_neg ‹¬ wh = nI 1›, if_neg ‹¬ wh = nI 2›, if_pos ‹wh = nI 3›, show i = pn by omega]; unfold cw; rw [if_neg ‹¬ wh = nI 2›]) | (unfold ctX; rw [if_neg ‹¬ wh = nI 0›, if_neg ‹¬ wh = nI 1›, if_neg ‹¬ wh = nI 2›, if_neg ‹¬ wh = nI 3›]), by rw [ht]; exact hP, va_K.moved hW.alike hK, hD⟩, hS.F ht⟩) hS.2.2 d_M_count_100
      · have c_1 := mt (nI_leI (by omega) (by omega)).mpr c_1
        refine lv_iload_n hx hb d_M_count_17 rfl (lv_at hl 0 rfl) ?_
        refine lv_iload_n hx hb d_M_count_18 rfl (lv_at hl 3 rfl) ?_
        refine lv_iconst (v := nI 2) hx hb d_M_count_19 (by decide) ?_
        refine lv_icmp_ne (tgt := 40) hx hb d_M_count_20 (by decide) (fun c_6 => ?_) (fun c_6 => ?_)
        · refine lv_aload_n hx hb d_M_count_40 rfl (lv_at hl 2 rfl) ?_
          refine lv_iload_n hx hb d_M_count_41 rfl (lv_at hl 1 rfl) ?_
          refine r_M_closed hp (by omega) hx hb hml hown htB hK hP hl.1 (Nat.le_of_ble_eq_true rfl) ⟨Nat.le_of_ble_eq_true rfl, Nat.le_of_ble_eq_true rfl⟩ ⟨Nat.zero_le _, Nat.zero_le _⟩ d_M_count_42 ?_
          refine lv_iconst (v := -1) hx hb d_M_count_45 (by decide) ?_
          refine lv_icmp_eq (tgt := 53) hx hb d_M_count_46 (by decide) (fun c_7 => ?_) (fun c_7 => ?_)
          · have c_7 := (cl_m1 hp).mp c_7
            refine lv_iconst (v := nI 0) hx hb d_M_count_53 (by decide) ?_
            refine lv_iadd hx hb d_M_count_54 ?_
            refine lv_topi (fun v_8 ev_8 => ?_)
            obtain rfl : v_8 = nI (cw pt qt pn wh i + 0) := ev_8.trans (nI_add _ _)
            refine lv_istore_n (lv' := [(2, .int (nI (cw pt qt pn wh i + 0))), (3, .int (nI i)), (0, .ref h0), (1, .int wh)]) hx hb d_M_count_55 rfl hl (by decide) rfl (fun ls hl => ?_)
            refine lv_iinc (v := nI (i + 1)) (lv' := [(3, .int (nI (i + 1))), (2, .int (nI (cw pt qt pn wh i + 0))), (0, .ref h0), (1, .int wh)]) hx hb d_M_count_56 hl (k := 1) rfl (nI_add _ 1) (by decide) rfl (fun ls hl => ?_)
            refine lv_goto (tgt := 9) hx hb d_M_count_59 (by decide) ?_
            have hs9 : cw pt qt pn wh (i + 1) = cw pt qt pn wh i + 0 := by first | exact cw_qn ‹_› ‹_› | exact cw_sn ‹_› ‹_›
            exact ih (i + 1) (by omega) (by omega) (by omega) ls (by rw [hs9]; exact (lv_sub hl [1, 0, 2, 3] rfl))
          · have c_7 := mt (cl_m1 hp).mpr c_7
            refine lv_iconst (v := nI 1) hx hb d_M_count_49 (by decide) ?_
            refine lv_goto (tgt := 54) hx hb d_M_count_50 (by decide) ?_
            refine lv_iadd hx hb d_M_count_54 ?_
            refine lv_topi (fun v_9 ev_9 => ?_)
            obtain rfl : v_9 = nI (cw pt qt pn wh i + 1) := ev_9.trans (nI_add _ _)
            refine lv_istore_n (lv' := [(2, .int (nI (cw pt qt pn wh i + 1))), (3, .int (nI i)), (0, .ref h0), (1, .int wh)]) hx hb d_M_count_55 rfl hl (by decide) rfl (fun ls hl => ?_)
            refine lv_iinc (v := nI (i + 1)) (lv' := [(3, .int (nI (i + 1))), (2, .int (nI (cw pt qt pn wh i + 1))), (0, .ref h0), (1, .int wh)]) hx hb d_M_count_56 hl (k := 1) rfl (nI_add _ 1) (by decide) rfl (fun ls hl => ?_)
            refine lv_goto (tgt := 9) hx hb d_M_count_59 (by decide) ?_
            have hs9 : cw pt qt pn wh (i + 1) = cw pt qt pn wh i + 1 := by first | exact cw_qy ‹_› ‹_› | exact cw_sy ‹_› ‹_›
            exact ih (i + 1) (by omega) (by omega) (by omega) ls (by rw [hs9]; exact (lv_sub hl [1, 0, 2, 3] rfl))
        · refine lv_aload_n hx hb d_M_count_23 rfl (lv_at hl 2 rfl) ?_
          refine va_get (D := (dC, dI)) (ci := 1) (v := .ref a3) (C := R_M) (T := F_M) (N := 8) hx hb htB in_M hown hK hP 0 rfl rfl 3 (by decide) (htB _ hfl_M_16) (fun _ h9 => h9) rfl d_M_count_24 ?_
          refine lv_iload_n hx hb d_M_count_27 rfl (lv_at hl 1 rfl) ?_
          refine va_zald hx hb hK hP 3 1 rfl rfl (vp_in_nI (n := i) (by omega) (by decide)) d_M_count_28 ?_
          refine lv_topi (fun v_10 ev_10 => ?_)
          obtain rfl : v_10 = qt i := ev_10.trans (by rw [nI_clamp (n := i) (by omega)])
          refine lv_if_eq (tgt := 36) hx hb d_M_count_29 (by decide) (fun c_11 => ?_) (fun c_11 => ?_)
          · refine lv_iconst (v := nI 0) hx hb d_M_count_36 (by decide) ?_
            refine lv_goto (tgt := 54) hx hb d_M_count_37 (by decide) ?_
            refine lv_iadd hx hb d_M_count_54 ?_
            refine lv_topi (fun v_12 ev_12 => ?_)
            obtain rfl : v_12 = nI (cw pt qt pn wh i + 0) := ev_12.trans (nI_add _ _)
            refine lv_istore_n (lv' := [(2, .int (nI (cw pt qt pn wh i + 0))), (3, .int (nI i)), (0, .ref h0), (1, .int wh)]) hx hb d_M_count_55 rfl hl (by decide) rfl (fun ls hl => ?_)
            refine lv_iinc (v := nI (i + 1)) (lv' := [(3, .int (nI (i + 1))), (2, .int (nI (cw pt qt pn wh i + 0))), (0, .ref h0), (1, .int wh)]) hx hb d_M_count_56 hl (k := 1) rfl (nI_add _ 1) (by decide) rfl (fun ls hl => ?_)
            refine lv_goto (tgt := 9) hx hb d_M_count_59 (by decide) ?_
            have hs9 : cw pt qt pn wh (i + 1) = cw pt qt pn wh i + 0 := by first | exact cw_qn ‹_› ‹_› | exact cw_sn ‹_› ‹_›
            exact ih (i + 1) (by omega) (by omega) (by omega) ls (by rw [hs9]; exact (lv_sub hl [1, 0, 2, 3] rfl))
          · refine lv_iconst (v := nI 1) hx hb d_M_count_32 (by decide) ?_
            refine lv_goto (tgt := 54) hx hb d_M_count_33 (by decide) ?_
            refine lv_iadd hx hb d_M_count_54 ?_
            refine lv_topi (fun v_13 ev_13 => ?_)
            obtain rfl : v_13 = nI (cw pt qt pn wh i + 1) := ev_13.trans (nI_add _ _)
            refine lv_istore_n (lv' := [(2, .int (nI (cw pt qt pn wh i + 1))), (3, .int (nI i)), (0, .ref h0), (1, .int wh)]) hx hb d_M_count_55 rfl hl (by decide) rfl (fun ls hl => ?_)
            refine lv_iinc (v := nI (i + 1)) (lv' := [(3, .int (nI (i + 1))), (2, .int (nI (cw pt qt pn wh i + 1))), (0, .ref h0), (1, .int wh)]) hx hb d_M_count_56 hl (k := 1) rfl (nI_add _ 1) (by decide) rfl (fun ls hl => ?_)
            refine lv_goto (tgt := 9) hx hb d_M_count_59 (by decide) ?_
            have hs9 : cw pt qt pn wh (i + 1) = cw pt qt pn wh i + 1 := by first | exact cw_qy ‹_› ‹_› | exact cw_sy ‹_› ‹_›
            exact ih (i + 1) (by omega) (by omega) (by omega) ls (by rw [hs9]; exact (lv_sub hl [1, 0, 2, 3] rfl))
  exact loop 1001 0 (by omega) (by omega) (by omega) ls (by rw [cw_0]; exact (lv_sub hl [1, 0, 2, 3] rfl))

set_option maxHeartbeats 4000000 in
set_option maxRecDepth 100000 in
theorem c_M_cut (l : Launch) (dC : Nat → ClassId) (dI : Nat → Nat → Nat) (h0 a1 a2 a3 a4 a5 : Nat) (cI cZ : ClassId) (cd : Int32) (tx pt qt ar nr : Nat → Int32) (tn pn : Nat) (sz : Nat) (hp : pn ≤ 200) (ht : tn ≤ 400) (en lg : Bool) : Met l y_M_cut (.code y_M_cut b_M_cut 5 (some .int) :: wB) (Rm 4 101) (va_Pc [.ref h0, .int (bI en), .int (bI lg)] (fun U => U.heap.size = sz ∧ va_P (dC, dI) classes (wM h0 a1 a2 a3 a4 a5 cI cZ cd tx pt qt ar nr tn pn) U.heap ∧ va_K (dC, dI) classes (tyIZ cI cZ) U ∧ va_D (fun _ => True) (wM h0 a1 a2 a3 a4 a5 cI cZ cd tx pt qt ar nr tn pn))) (va_Qi (fun (r : Int32) (u : (Nat → Int32) × (Nat → Int32)) => r = if en = true then oI (fnd (fun z => mM tx pt qt pn (tn - z) tn tn) lg (tn + 1)) else oI (fnd (fun z => mM tx pt qt pn 0 tn z) lg (tn + 1))) (fun (u : (Nat → Int32) × (Nat → Int32)) (t : State) => va_P (dC, dI) classes (wM h0 a1 a2 a3 a4 a5 cI cZ ((nI 0)) tx pt qt u.1 u.2 tn pn) t.heap ∧ va_K (dC, dI) classes (tyIZ cI cZ) t ∧ va_D (va_A (wM h0 a1 a2 a3 a4 a5 cI cZ cd tx pt qt ar nr tn pn) sz) (wM h0 a1 a2 a3 a4 a5 cI cZ ((nI 0)) tx pt qt u.1 u.2 tn pn)) (va_A (wM h0 a1 a2 a3 a4 a5 cI cZ cd tx pt qt ar nr tn pn) sz)) 0 0 (va_A (wM h0 a1 a2 a3 a4 a5 cI cZ cd tx pt qt ar nr tn pn) sz) := by
  refine Met.ofW (cc := b_M_cut) (maxL := 5) (ret := (some .int)) (by decide) rfl ?_
  intro p e s mm args below meth c s₁ B hml hv
  obtain ⟨rfl, hsz, hP, hK, hD0⟩ := hv
  have hx := B.exec
  have hb := B.bytes
  have hr := B.returns
  have hts := atoms_spec (ws := (.code y_M_cut b_M_cut 5 (some .int) :: wB)) B.pre
  have htB : ∀ w ∈ wB, w.before _ s = true := fun w h => hts w (List.mem_cons_of_mem _ h)
  have hown : s.vm.findClass R_M = some mm.cls := findClass_of_methodNamed B.named
  have hlocks := B.notSynchronized
  subst hsz
  have hD := hD0.self (sz := s.heap.size)
  generalize hAe : va_A (wM h0 a1 a2 a3 a4 a5 cI cZ cd tx pt qt ar nr tn pn) s.heap.size = A at hD ⊢
  have hA : ∀ q : Nat, s.heap.size ≤ q → A q := fun q h => by rw [← hAe]; exact Or.inr h
  have hS : va_S A s.heap s.heap [] := va_S.rf
  have hP : va_P (dC, dI) classes (wM h0 a1 a2 a3 a4 a5 cI cZ cd tx pt qt ar nr tn pn) s.heap := hP
  have hl := lv_entry ([.ref h0, .int (bI en), .int (bI lg)]) (n := 5) (Nat.le_of_ble_eq_true rfl)
  rw [lg_entry_eq]
  generalize (lg_sl ([.ref h0, .int (bI en), .int (bI lg)]) ++ List.replicate (5 - (lg_sl ([.ref h0, .int (bI en), .int (bI lg)])).length) Slot.unset).toArray = ls at hl ⊢
  have hl : lv_has ls 5 [(0, .ref h0), (1, .int (bI en)), (2, .int (bI lg))] := hl
  refine lv_aload_n hx hb d_M_cut_0 rfl (lv_at hl 0 rfl) ?_
  refine lv_iconst (v := nI 0) hx hb d_M_cut_1 (by decide) ?_
  refine va_put (D := (dC, dI)) (ci := 1) (v := .int (nI 0)) (ty := .int) (C := R_M) (T := F_M) (N := 8) hx hb htB in_M t_M t_M_ok n_M hown hK hP hD hS 0 rfl rfl 0 (by decide) (htB _ hfl_M_26) (fun _ h9 => h9) rfl (by decide +kernel) rfl rfl (Nat.le_of_ble_eq_true rfl) d_M_cut_2 (fun H locs hP hD hS => ?_)
  have hP : va_P (dC, dI) classes (wM h0 a1 a2 a3 a4 a5 cI cZ (nI 0) tx pt qt ar nr tn pn) H := hP
  have hD : va_D A (wM h0 a1 a2 a3 a4 a5 cI cZ (nI 0) tx pt qt ar nr tn pn) := hD
  refine lv_iconst (v := -1) hx hb d_M_cut_5 (by decide) ?_
  refine lv_istore_n (lv' := [(3, .int (-1)), (0, .ref h0), (1, .int (bI en)), (2, .int (bI lg))]) hx hb d_M_cut_6 rfl hl (by decide) rfl (fun ls hl => ?_)
  refine lv_iload_n hx hb d_M_cut_7 rfl (lv_at hl 2 rfl) ?_
  refine lv_if_ne (tgt := 66) hx hb d_M_cut_8 (by decide) (fun c_1 => ?_) (fun c_1 => ?_)
  · have c_1 := bI_nz.mp c_1
    refine lv_aload_n hx hb d_M_cut_66 rfl (lv_at hl 1 rfl) ?_
    refine va_get (D := (dC, dI)) (ci := 1) (v := .int (nI tn)) (C := R_M) (T := F_M) (N := 8) hx hb htB in_M hown hK hP 0 rfl rfl 4 (by decide) (htB _ hfl_M_30) (fun _ h9 => h9) rfl d_M_cut_67 ?_
    refine lv_istore (lv' := [(4, .int (nI tn)), (3, .int (-1)), (0, .ref h0), (1, .int (bI en)), (2, .int (bI lg))]) hx hb d_M_cut_70 hl (by decide) rfl (fun ls hl => ?_)
    have loop : ∀ (d : Nat) (av nv : Nat → Int32) (H : Heap) (locs : List Loc), d ≤ tn + 1 → va_P (dC, dI) classes (wM h0 a1 a2 a3 a4 a5 cI cZ (nI 0) tx pt qt av nv tn pn) H → va_D A (wM h0 a1 a2 a3 a4 a5 cI cZ (nI 0) tx pt qt av nv tn pn) → va_S A s.heap H locs → ∀ ls : Array Slot, lv_has ls 5 [(4, .int (pI d)), (3, .int (oI (fnd (fun z => mM tx pt qt pn (tn - z) tn tn) lg (tn + 1 - d)))), (0, .ref h0), (1, .int (bI en)), (2, .int (bI lg))] → W p l e (Rm 4 101) s mm [.ref h0, .int (bI en), .int (bI lg)].toArray below meth c H locs 0 0 (MQ below (va_Qi (fun (r : Int32) (u : (Nat → Int32) × (Nat → Int32)) => r = if en = true then oI (fnd (fun z => mM tx pt qt pn (tn - z) tn tn) lg (tn + 1)) else oI (fnd (fun z => mM tx pt qt pn 0 tn z) lg (tn + 1))) (fun (u : (Nat → Int32) × (Nat → Int32)) (t : State) => va_P (dC, dI) classes (wM h0 a1 a2 a3 a4 a5 cI cZ ((nI 0)) tx pt qt u.1 u.2 tn pn) t.heap ∧ va_K (dC, dI) classes (tyIZ cI cZ) t ∧ va_D A (wM h0 a1 a2 a3 a4 a5 cI cZ ((nI 0)) tx pt qt u.1 u.2 tn pn)) A) [.ref h0, .int (bI en), .int (bI lg)].toArray s 0 0 A) (F0 mm 72 ls []) := by
      intro d
      induction d with
      | zero =>
        intro av nv H locs hd hP hD hS ls hl
        have hl : lv_has ls 5 [(4, .int (-1)), (3, .int (oI (fnd (fun z => mM tx pt qt pn (tn - z) tn tn) lg (tn + 1)))), (0, .ref h0), (1, .int (bI en)), (2, .int (bI lg))] := hl
        refine lv_iload hx hb d_M_cut_72 (lv_at hl 0 rfl) ?_
        refine lv_if_lt (tgt := 129) hx hb d_M_cut_74 (by decide) (fun c_1 => ?_) (fun c_1 => ?_)
        · clear c_1
          refine lv_iload_n hx hb d_M_cut_129 rfl (lv_at hl 1 rfl) ?_
          exact W.iret (v := oI (fnd (fun z => mM tx pt qt pn (tn - z) tn tn) lg (tn + 1))) hx hb hr (fun t ht hW => ⟨⟨_, (av, nv), rfl, by rw [if_pos ‹_›], by rw [ht]; exact hP, va_K.moved hW.alike hK, hD⟩, hS.F ht⟩) hS.2.2 d_M_cut_130
        · exact absurd c_1 (by decide)
      | succ d ih =>
        intro av nv H locs hd hP hD hS ls hl
        have hl : lv_has ls 5 [(4, .int (nI d)), (3, .int (oI (fnd (fun z => mM tx pt qt pn (tn - z) tn tn) lg (tn - d)))), (0, .ref h0), (1, .int (bI en)), (2, .int (bI lg))] := by rw [show tn + 1 - (d + 1) = tn - d by omega] at hl; exact hl
        refine lv_iload hx hb d_M_cut_72 (lv_at hl 0 rfl) ?_
        refine lv_if_lt (tgt := 129) hx hb d_M_cut_74 (by decide) (fun c_1 => ?_) (fun c_1 => ?_)
        · exact absurd c_1 (nI_pos (by omega))
        · clear c_1
          refine lv_iload_n hx hb d_M_cut_77 rfl (lv_at hl 1 rfl) ?_
          refine lv_iconst (v := -1) hx hb d_M_cut_78 (by decide) ?_
          refine lv_icmp_eq (tgt := 89) hx hb d_M_cut_79 (by decide) (fun c_2 => ?_) (fun c_2 => ?_)
          · have c_2 := (fnd_none (by omega)).mp c_2
            refine lv_aload_n hx hb d_M_cut_89 rfl (lv_at hl 2 rfl) ?_
            refine lv_iload hx hb d_M_cut_90 (lv_at hl 0 rfl) ?_
            refine lv_aload_n hx hb d_M_cut_92 rfl (lv_at hl 2 rfl) ?_
            refine va_get (D := (dC, dI)) (ci := 1) (v := .int (nI tn)) (C := R_M) (T := F_M) (N := 8) hx hb htB in_M hown hK hP 0 rfl rfl 4 (by decide) (htB _ hfl_M_30) (fun _ h9 => h9) rfl d_M_cut_93 ?_
            refine r_M_go hp (by omega) ht hx hb hml hown htB hK hP hD hS hA hl.1 (Nat.le_of_ble_eq_true rfl) ⟨Nat.le_of_ble_eq_true rfl, Nat.le_of_ble_eq_true rfl⟩ ⟨Nat.zero_le _, Nat.zero_le _⟩ d_M_cut_96 (fun u2 H locs hu2 hP hD hS => ?_)
            refine lv_aload_n hx hb d_M_cut_99 rfl (lv_at hl 2 rfl) ?_
            refine va_get (D := (dC, dI)) (ci := 1) (v := .ref a4) (C := R_M) (T := F_M) (N := 8) hx hb htB in_M hown hK hP 0 rfl rfl 6 (by decide) (htB _ hfl_M_20) (fun _ h9 => h9) rfl d_M_cut_100 ?_
            refine lv_aload_n hx hb d_M_cut_103 rfl (lv_at hl 2 rfl) ?_
            refine va_get (D := (dC, dI)) (ci := 1) (v := .int (nI tn)) (C := R_M) (T := F_M) (N := 8) hx hb htB in_M hown hK hP 0 rfl rfl 4 (by decide) (htB _ hfl_M_30) (fun _ h9 => h9) rfl d_M_cut_104 ?_
            refine va_zald hx hb hK hP 4 1 rfl rfl (vp_in_nI (n := tn) (by omega) (by decide)) d_M_cut_107 ?_
            refine lv_topi (fun v_3 ev_3 => ?_)
            obtain rfl : v_3 = bI (mM tx pt qt pn d tn tn) := (show v_3 = u2.1 tn from ev_3.trans (by rw [nI_clamp (n := tn) (by omega)])).trans (hu2 tn ht)
            refine lv_if_eq (tgt := 121) hx hb d_M_cut_108 (by decide) (fun c_4 => ?_) (fun c_4 => ?_)
            · have c_4 := bI_z.mp c_4
              refine lv_iload_n hx hb d_M_cut_121 rfl (lv_at hl 1 rfl) ?_
              refine lv_istore_n (lv' := [(3, .int (oI (fnd (fun z => mM tx pt qt pn (tn - z) tn tn) lg (tn - d)))), (4, .int (nI d)), (0, .ref h0), (1, .int (bI en)), (2, .int (bI lg))]) hx hb d_M_cut_122 rfl hl (by decide) rfl (fun ls hl => ?_)
              refine lv_iinc (v := pI d) (lv' := [(4, .int (pI d)), (3, .int (oI (fnd (fun z => mM tx pt qt pn (tn - z) tn tn) lg (tn - d)))), (0, .ref h0), (1, .int (bI en)), (2, .int (bI lg))]) hx hb d_M_cut_123 hl (k := 1) rfl (pI_dec d) (by decide) rfl (fun ls hl => ?_)
              refine lv_goto (tgt := 72) hx hb d_M_cut_126 (by decide) ?_
              have hf1 : fnd (fun z => mM tx pt qt pn (tn - z) tn tn) lg (tn - d + 1) = fnd (fun z => mM tx pt qt pn (tn - z) tn tn) lg (tn - d) := (by first | exact fnd_m2 ‹_› ‹_› | exact fnd_m1 (f := fun z => mM tx pt qt pn (tn - z) tn tn) (by show mM tx pt qt pn (tn - (tn - d)) tn tn = false; rw [show tn - (tn - d) = d by omega]; assumption))
              exact ih _ _ _ _ (by omega) hP hD hS ls (by rw [show tn + 1 - d = tn - d + 1 by omega, hf1]; exact (lv_sub hl [0, 1, 2, 3, 4] rfl))
            · have c_4 := bI_nz.mp c_4
              refine lv_aload_n hx hb d_M_cut_111 rfl (lv_at hl 2 rfl) ?_
              refine va_get (D := (dC, dI)) (ci := 1) (v := .int (nI tn)) (C := R_M) (T := F_M) (N := 8) hx hb htB in_M hown hK hP 0 rfl rfl 4 (by decide) (htB _ hfl_M_30) (fun _ h9 => h9) rfl d_M_cut_112 ?_
              refine lv_iload hx hb d_M_cut_115 (lv_at hl 0 rfl) ?_
              refine lv_isub hx hb d_M_cut_117 ?_
              refine lv_topi (fun v_5 ev_5 => ?_)
              obtain rfl : v_5 = nI (tn - d) := ev_5.trans (pk_sub (by omega))
              refine lv_goto (tgt := 122) hx hb d_M_cut_118 (by decide) ?_
              refine lv_istore_n (lv' := [(3, .int (nI (tn - d))), (4, .int (nI d)), (0, .ref h0), (1, .int (bI en)), (2, .int (bI lg))]) hx hb d_M_cut_122 rfl hl (by decide) rfl (fun ls hl => ?_)
              refine lv_iinc (v := pI d) (lv' := [(4, .int (pI d)), (3, .int (nI (tn - d))), (0, .ref h0), (1, .int (bI en)), (2, .int (bI lg))]) hx hb d_M_cut_123 hl (k := 1) rfl (pI_dec d) (by decide) rfl (fun ls hl => ?_)
              refine lv_goto (tgt := 72) hx hb d_M_cut_126 (by decide) ?_
              have hf1 : fnd (fun z => mM tx pt qt pn (tn - z) tn tn) lg (tn - d + 1) = some (tn - d) := fnd_hit (f := fun z => mM tx pt qt pn (tn - z) tn tn) (by show mM tx pt qt pn (tn - (tn - d)) tn tn = true; rw [show tn - (tn - d) = d by omega]; assumption) (by first | exact Or.inl ‹_› | exact Or.inr ‹_›)
              exact ih _ _ _ _ (by omega) hP hD hS ls (by rw [show tn + 1 - d = tn - d + 1 by omega, hf1]; exact (lv_sub hl [0, 1, 2, 3, 4] rfl))
          · have c_2 := mt (fnd_none (by omega)).mpr c_2
            refine lv_iload_n hx hb d_M_cut_82 rfl (lv_at hl 4 rfl) ?_
            refine lv_if_ne (tgt := 89) hx hb d_M_cut_83 (by decide) (fun c_6 => ?_) (fun c_6 => ?_)
            · have c_6 := bI_nz.mp c_6
              refine lv_aload_n hx hb d_M_cut_89 rfl (lv_at hl 2 rfl) ?_
              refine lv_iload hx hb d_M_cut_90 (lv_at hl 0 rfl) ?_
              refine lv_aload_n hx hb d_M_cut_92 rfl (lv_at hl 2 rfl) ?_
              refine va_get (D := (dC, dI)) (ci := 1) (v := .int (nI tn)) (C := R_M) (T := F_M) (N := 8) hx hb htB in_M hown hK hP 0 rfl rfl 4 (by decide) (htB _ hfl_M_30) (fun _ h9 => h9) rfl d_M_cut_93 ?_
              refine r_M_go hp (by omega) ht hx hb hml hown htB hK hP hD hS hA hl.1 (Nat.le_of_ble_eq_true rfl) ⟨Nat.le_of_ble_eq_true rfl, Nat.le_of_ble_eq_true rfl⟩ ⟨Nat.zero_le _, Nat.zero_le _⟩ d_M_cut_96 (fun u2 H locs hu2 hP hD hS => ?_)
              refine lv_aload_n hx hb d_M_cut_99 rfl (lv_at hl 2 rfl) ?_
              refine va_get (D := (dC, dI)) (ci := 1) (v := .ref a4) (C := R_M) (T := F_M) (N := 8) hx hb htB in_M hown hK hP 0 rfl rfl 6 (by decide) (htB _ hfl_M_20) (fun _ h9 => h9) rfl d_M_cut_100 ?_
              refine lv_aload_n hx hb d_M_cut_103 rfl (lv_at hl 2 rfl) ?_
              refine va_get (D := (dC, dI)) (ci := 1) (v := .int (nI tn)) (C := R_M) (T := F_M) (N := 8) hx hb htB in_M hown hK hP 0 rfl rfl 4 (by decide) (htB _ hfl_M_30) (fun _ h9 => h9) rfl d_M_cut_104 ?_
              refine va_zald hx hb hK hP 4 1 rfl rfl (vp_in_nI (n := tn) (by omega) (by decide)) d_M_cut_107 ?_
              refine lv_topi (fun v_7 ev_7 => ?_)
              obtain rfl : v_7 = bI (mM tx pt qt pn d tn tn) := (show v_7 = u2.1 tn from ev_7.trans (by rw [nI_clamp (n := tn) (by omega)])).trans (hu2 tn ht)
              refine lv_if_eq (tgt := 121) hx hb d_M_cut_108 (by decide) (fun c_8 => ?_) (fun c_8 => ?_)
              · have c_8 := bI_z.mp c_8
                refine lv_iload_n hx hb d_M_cut_121 rfl (lv_at hl 1 rfl) ?_
                refine lv_istore_n (lv' := [(3, .int (oI (fnd (fun z => mM tx pt qt pn (tn - z) tn tn) lg (tn - d)))), (4, .int (nI d)), (0, .ref h0), (1, .int (bI en)), (2, .int (bI lg))]) hx hb d_M_cut_122 rfl hl (by decide) rfl (fun ls hl => ?_)
                refine lv_iinc (v := pI d) (lv' := [(4, .int (pI d)), (3, .int (oI (fnd (fun z => mM tx pt qt pn (tn - z) tn tn) lg (tn - d)))), (0, .ref h0), (1, .int (bI en)), (2, .int (bI lg))]) hx hb d_M_cut_123 hl (k := 1) rfl (pI_dec d) (by decide) rfl (fun ls hl => ?_)
                refine lv_goto (tgt := 72) hx hb d_M_cut_126 (by decide) ?_
                have hf1 : fnd (fun z => mM tx pt qt pn (tn - z) tn tn) lg (tn - d + 1) = fnd (fun z => mM tx pt qt pn (tn - z) tn tn) lg (tn - d) := (by first | exact fnd_m2 ‹_› ‹_› | exact fnd_m1 (f := fun z => mM tx pt qt pn (tn - z) tn tn) (by show mM tx pt qt pn (tn - (tn - d)) tn tn = false; rw [show tn - (tn - d) = d by omega]; assumption))
                exact ih _ _ _ _ (by omega) hP hD hS ls (by rw [show tn + 1 - d = tn - d + 1 by omega, hf1]; exact (lv_sub hl [0, 1, 2, 3, 4] rfl))
              · have c_8 := bI_nz.mp c_8
                refine lv_aload_n hx hb d_M_cut_111 rfl (lv_at hl 2 rfl) ?_
                refine va_get (D := (dC, dI)) (ci := 1) (v := .int (nI tn)) (C := R_M) (T := F_M) (N := 8) hx hb htB in_M hown hK hP 0 rfl rfl 4 (by decide) (htB _ hfl_M_30) (fun _ h9 => h9) rfl d_M_cut_112 ?_
                refine lv_iload hx hb d_M_cut_115 (lv_at hl 0 rfl) ?_
                refine lv_isub hx hb d_M_cut_117 ?_
                refine lv_topi (fun v_9 ev_9 => ?_)
                obtain rfl : v_9 = nI (tn - d) := ev_9.trans (pk_sub (by omega))
                refine lv_goto (tgt := 122) hx hb d_M_cut_118 (by decide) ?_
                refine lv_istore_n (lv' := [(3, .int (nI (tn - d))), (4, .int (nI d)), (0, .ref h0), (1, .int (bI en)), (2, .int (bI lg))]) hx hb d_M_cut_122 rfl hl (by decide) rfl (fun ls hl => ?_)
                refine lv_iinc (v := pI d) (lv' := [(4, .int (pI d)), (3, .int (nI (tn - d))), (0, .ref h0), (1, .int (bI en)), (2, .int (bI lg))]) hx hb d_M_cut_123 hl (k := 1) rfl (pI_dec d) (by decide) rfl (fun ls hl => ?_)
                refine lv_goto (tgt := 72) hx hb d_M_cut_126 (by decide) ?_
                have hf1 : fnd (fun z => mM tx pt qt pn (tn - z) tn tn) lg (tn - d + 1) = some (tn - d) := fnd_hit (f := fun z => mM tx pt qt pn (tn - z) tn tn) (by show mM tx pt qt pn (tn - (tn - d)) tn tn = true; rw [show tn - (tn - d) = d by omega]; assumption) (by first | exact Or.inl ‹_› | exact Or.inr ‹_›)
                exact ih _ _ _ _ (by omega) hP hD hS ls (by rw [show tn + 1 - d = tn - d + 1 by omega, hf1]; exact (lv_sub hl [0, 1, 2, 3, 4] rfl))
            · have c_6 := bI_z.mp c_6
              refine lv_goto (tgt := 123) hx hb d_M_cut_86 (by decide) ?_
              refine lv_iinc (v := pI d) (lv' := [(4, .int (pI d)), (3, .int (oI (fnd (fun z => mM tx pt qt pn (tn - z) tn tn) lg (tn - d)))), (0, .ref h0), (1, .int (bI en)), (2, .int (bI lg))]) hx hb d_M_cut_123 hl (k := 0) rfl (pI_dec d) (by decide) rfl (fun ls hl => ?_)
              refine lv_goto (tgt := 72) hx hb d_M_cut_126 (by decide) ?_
              have hf1 : fnd (fun z => mM tx pt qt pn (tn - z) tn tn) lg (tn - d + 1) = fnd (fun z => mM tx pt qt pn (tn - z) tn tn) lg (tn - d) := (by first | exact fnd_m2 ‹_› ‹_› | exact fnd_m1 (f := fun z => mM tx pt qt pn (tn - z) tn tn) (by show mM tx pt qt pn (tn - (tn - d)) tn tn = false; rw [show tn - (tn - d) = d by omega]; assumption))
              exact ih _ _ _ _ (by omega) hP hD hS ls (by rw [show tn + 1 - d = tn - d + 1 by omega, hf1]; exact (lv_sub hl [0, 1, 2, 3, 4] rfl))
    exact loop (tn + 1) _ _ _ _ (Nat.le_refl _) hP hD hS ls (by rw [Nat.sub_self]; exact (lv_sub hl [0, 1, 2, 3, 4] rfl))
  · have c_1 := bI_z.mp c_1
    refine lv_aload_n hx hb d_M_cut_11 rfl (lv_at hl 1 rfl) ?_
    refine lv_iconst (v := nI 0) hx hb d_M_cut_12 (by decide) ?_
    refine lv_aload_n hx hb d_M_cut_13 rfl (lv_at hl 1 rfl) ?_
    refine va_get (D := (dC, dI)) (ci := 1) (v := .int (nI tn)) (C := R_M) (T := F_M) (N := 8) hx hb htB in_M hown hK hP 0 rfl rfl 4 (by decide) (htB _ hfl_M_30) (fun _ h9 => h9) rfl d_M_cut_14 ?_
    refine r_M_go hp (Nat.zero_le _) ht hx hb hml hown htB hK hP hD hS hA hl.1 (Nat.le_of_ble_eq_true rfl) ⟨Nat.le_of_ble_eq_true rfl, Nat.le_of_ble_eq_true rfl⟩ ⟨Nat.zero_le _, Nat.zero_le _⟩ d_M_cut_17 (fun u1 H locs hu1 hP hD hS => ?_)
    refine lv_iconst (v := nI 0) hx hb d_M_cut_20 (by decide) ?_
    refine lv_istore (lv' := [(4, .int (nI 0)), (3, .int (-1)), (0, .ref h0), (1, .int (bI en)), (2, .int (bI lg))]) hx hb d_M_cut_21 hl (by decide) rfl (fun ls hl => ?_)
    have loop : ∀ (n i : Nat), i ≤ 1000 → 1000 < i + n → i ≤ tn + 1 → ∀ ls : Array Slot, lv_has ls 5 [(4, .int (nI i)), (3, .int (oI (fnd (fun z => mM tx pt qt pn 0 tn z) lg i))), (0, .ref h0), (1, .int (bI en)), (2, .int (bI lg))] → W p l e (Rm 4 101) s mm [.ref h0, .int (bI en), .int (bI lg)].toArray below meth c H locs 0 0 (MQ below (va_Qi (fun (r : Int32) (u : (Nat → Int32) × (Nat → Int32)) => r = if en = true then oI (fnd (fun z => mM tx pt qt pn (tn - z) tn tn) lg (tn + 1)) else oI (fnd (fun z => mM tx pt qt pn 0 tn z) lg (tn + 1))) (fun (u : (Nat → Int32) × (Nat → Int32)) (t : State) => va_P (dC, dI) classes (wM h0 a1 a2 a3 a4 a5 cI cZ ((nI 0)) tx pt qt u.1 u.2 tn pn) t.heap ∧ va_K (dC, dI) classes (tyIZ cI cZ) t ∧ va_D A (wM h0 a1 a2 a3 a4 a5 cI cZ ((nI 0)) tx pt qt u.1 u.2 tn pn)) A) [.ref h0, .int (bI en), .int (bI lg)].toArray s 0 0 A) (F0 mm 23 ls []) := by
      intro n
      induction n with
      | zero => intro i h1 h2; exact absurd h2 (by omega)
      | succ n ih =>
        intro i hi hn hit ls hl
        refine lv_iload hx hb d_M_cut_23 (lv_at hl 0 rfl) ?_
        refine lv_aload_n hx hb d_M_cut_25 rfl (lv_at hl 2 rfl) ?_
        refine va_get (D := (dC, dI)) (ci := 1) (v := .int (nI tn)) (C := R_M) (T := F_M) (N := 8) hx hb htB in_M hown hK hP 0 rfl rfl 4 (by decide) (htB _ hfl_M_30) (fun _ h9 => h9) rfl d_M_cut_26 ?_
        refine lv_icmp_gt (tgt := 64) hx hb d_M_cut_29 (by decide) (fun c_1 => ?_) (fun c_1 => ?_)
        · have c_1 := (nI_ltI (by omega) (by omega)).mp c_1
          refine lv_iload_n hx hb d_M_cut_64 rfl (lv_at hl 1 rfl) ?_
          exact W.iret (v := oI (fnd (fun z => mM tx pt qt pn 0 tn z) lg i)) hx hb hr (fun t ht hW => ⟨⟨_, u1, rfl, by rw [if_neg (by rw [‹en = false›]; decide), show i = tn + 1 by omega], by rw [ht]; exact hP, va_K.moved hW.alike hK, hD⟩, hS.F ht⟩) hS.2.2 d_M_cut_65
        · have c_1 := mt (nI_ltI (by omega) (by omega)).mpr c_1
          refine lv_aload_n hx hb d_M_cut_32 rfl (lv_at hl 2 rfl) ?_
          refine va_get (D := (dC, dI)) (ci := 1) (v := .ref a4) (C := R_M) (T := F_M) (N := 8) hx hb htB in_M hown hK hP 0 rfl rfl 6 (by decide) (htB _ hfl_M_20) (fun _ h9 => h9) rfl d_M_cut_33 ?_
          refine lv_iload hx hb d_M_cut_36 (lv_at hl 0 rfl) ?_
          refine va_zald hx hb hK hP 4 1 rfl rfl (vp_in_nI (n := i) (by omega) (by decide)) d_M_cut_38 ?_
          refine lv_topi (fun v_2 ev_2 => ?_)
          obtain rfl : v_2 = bI (mM tx pt qt pn 0 tn i) := (show v_2 = u1.1 i from ev_2.trans (by rw [nI_clamp (n := i) (by omega)])).trans (hu1 i (by omega))
          refine lv_if_eq (tgt := 56) hx hb d_M_cut_39 (by decide) (fun c_3 => ?_) (fun c_3 => ?_)
          · have c_3 := bI_z.mp c_3
            refine lv_iload_n hx hb d_M_cut_56 rfl (lv_at hl 1 rfl) ?_
            refine lv_istore_n (lv' := [(3, .int (oI (fnd (fun z => mM tx pt qt pn 0 tn z) lg i))), (4, .int (nI i)), (0, .ref h0), (1, .int (bI en)), (2, .int (bI lg))]) hx hb d_M_cut_57 rfl hl (by decide) rfl (fun ls hl => ?_)
            refine lv_iinc (v := nI (i + 1)) (lv' := [(4, .int (nI (i + 1))), (3, .int (oI (fnd (fun z => mM tx pt qt pn 0 tn z) lg i))), (0, .ref h0), (1, .int (bI en)), (2, .int (bI lg))]) hx hb d_M_cut_58 hl (k := 1) rfl (nI_add _ 1) (by decide) rfl (fun ls hl => ?_)
            refine lv_goto (tgt := 23) hx hb d_M_cut_61 (by decide) ?_
            have hf1 : fnd (fun z => mM tx pt qt pn 0 tn z) lg (i + 1) = fnd (fun z => mM tx pt qt pn 0 tn z) lg i := (by first | exact fnd_m1 (f := fun z => mM tx pt qt pn 0 tn z) ‹_› | exact fnd_m2 ‹_› ‹_›)
            exact ih (i + 1) (by omega) (by omega) (by omega) ls (by rw [hf1]; exact (lv_sub hl [0, 1, 2, 3, 4] rfl))
          · have c_3 := bI_nz.mp c_3
            refine lv_iload_n hx hb d_M_cut_42 rfl (lv_at hl 4 rfl) ?_
            refine lv_if_ne (tgt := 51) hx hb d_M_cut_43 (by decide) (fun c_4 => ?_) (fun c_4 => ?_)
            · have c_4 := bI_nz.mp c_4
              refine lv_iload hx hb d_M_cut_51 (lv_at hl 0 rfl) ?_
              refine lv_goto (tgt := 57) hx hb d_M_cut_53 (by decide) ?_
              refine lv_istore_n (lv' := [(3, .int (nI i)), (4, .int (nI i)), (0, .ref h0), (1, .int (bI en)), (2, .int (bI lg))]) hx hb d_M_cut_57 rfl hl (by decide) rfl (fun ls hl => ?_)
              refine lv_iinc (v := nI (i + 1)) (lv' := [(4, .int (nI (i + 1))), (3, .int (nI i)), (0, .ref h0), (1, .int (bI en)), (2, .int (bI lg))]) hx hb d_M_cut_58 hl (k := 1) rfl (nI_add _ 1) (by decide) rfl (fun ls hl => ?_)
              refine lv_goto (tgt := 23) hx hb d_M_cut_61 (by decide) ?_
              have hf1 : fnd (fun z => mM tx pt qt pn 0 tn z) lg (i + 1) = some i := fnd_hit (f := fun z => mM tx pt qt pn 0 tn z) ‹_› (by first | exact Or.inl ‹_› | exact Or.inr ‹_›)
              exact ih (i + 1) (by omega) (by omega) (by omega) ls (by rw [hf1]; exact (lv_sub hl [0, 1, 2, 3, 4] rfl))
            · have c_4 := bI_z.mp c_4
              refine lv_iload_n hx hb d_M_cut_46 rfl (lv_at hl 1 rfl) ?_
              refine lv_iconst (v := -1) hx hb d_M_cut_47 (by decide) ?_
              refine lv_icmp_ne (tgt := 56) hx hb d_M_cut_48 (by decide) (fun c_5 => ?_) (fun c_5 => ?_)
              · have c_5 := mt (fnd_none (by omega)).mpr c_5
                refine lv_iload_n hx hb d_M_cut_56 rfl (lv_at hl 1 rfl) ?_
                refine lv_istore_n (lv' := [(3, .int (oI (fnd (fun z => mM tx pt qt pn 0 tn z) lg i))), (4, .int (nI i)), (0, .ref h0), (1, .int (bI en)), (2, .int (bI lg))]) hx hb d_M_cut_57 rfl hl (by decide) rfl (fun ls hl => ?_)
                refine lv_iinc (v := nI (i + 1)) (lv' := [(4, .int (nI (i + 1))), (3, .int (oI (fnd (fun z => mM tx pt qt pn 0 tn z) lg i))), (0, .ref h0), (1, .int (bI en)), (2, .int (bI lg))]) hx hb d_M_cut_58 hl (k := 1) rfl (nI_add _ 1) (by decide) rfl (fun ls hl => ?_)
                refine lv_goto (tgt := 23) hx hb d_M_cut_61 (by decide) ?_
                have hf1 : fnd (fun z => mM tx pt qt pn 0 tn z) lg (i + 1) = fnd (fun z => mM tx pt qt pn 0 tn z) lg i := (by first | exact fnd_m1 (f := fun z => mM tx pt qt pn 0 tn z) ‹_› | exact fnd_m2 ‹_› ‹_›)
                exact ih (i + 1) (by omega) (by omega) (by omega) ls (by rw [hf1]; exact (lv_sub hl [0, 1, 2, 3, 4] rfl))
              · have c_5 := (fnd_none (by omega)).mp c_5
                refine lv_iload hx hb d_M_cut_51 (lv_at hl 0 rfl) ?_
                refine lv_goto (tgt := 57) hx hb d_M_cut_53 (by decide) ?_
                refine lv_istore_n (lv' := [(3, .int (nI i)), (4, .int (nI i)), (0, .ref h0), (1, .int (bI en)), (2, .int (bI lg))]) hx hb d_M_cut_57 rfl hl (by decide) rfl (fun ls hl => ?_)
                refine lv_iinc (v := nI (i + 1)) (lv' := [(4, .int (nI (i + 1))), (3, .int (nI i)), (0, .ref h0), (1, .int (bI en)), (2, .int (bI lg))]) hx hb d_M_cut_58 hl (k := 1) rfl (nI_add _ 1) (by decide) rfl (fun ls hl => ?_)
                refine lv_goto (tgt := 23) hx hb d_M_cut_61 (by decide) ?_
                have hf1 : fnd (fun z => mM tx pt qt pn 0 tn z) lg (i + 1) = some i := fnd_hit (f := fun z => mM tx pt qt pn 0 tn z) ‹_› (by first | exact Or.inl ‹_› | exact Or.inr ‹_›)
                exact ih (i + 1) (by omega) (by omega) (by omega) ls (by rw [hf1]; exact (lv_sub hl [0, 1, 2, 3, 4] rfl))
    exact loop 1001 0 (by omega) (by omega) (by omega) ls (lv_sub hl [0, 1, 2, 3, 4] rfl)

