/-! the class: part, which may throw; the law's own part, which catches: by wip/whole/gen/gen25.py -/
abbrev eN : String := "java/lang/IndexOutOfBoundsException"
abbrev eT : String := "no such part of the text"
abbrev eA : List Cond := vx_atS R_X 46 eN ["java/lang/RuntimeException", "java/lang/Exception"]
abbrev zU (A : Nat → Prop) (U : State) (H : Heap) : Prop := vx_Zq Bundle.tN "UNASSIGNED_STACK" Bundle.steD A U H ∧ vx_Zq Bundle.tN "SUPPRESSED_SENTINEL" Bundle.listD A U H
abbrev eW : List Cond := [.declares (Bundle.initS "java/lang/RuntimeException"), .declares (Bundle.initS "java/lang/Exception"), .declares (Bundle.initS Bundle.tN), .castable eN eN]
def eD (U : State) : Prop := va_Nw (.declares (Bundle.initS "java/lang/RuntimeException")) U ∧ va_Nw (.declares (Bundle.initS "java/lang/Exception")) U ∧ va_Nw (.declares (Bundle.initS Bundle.tN)) U ∧ va_Nw (.castable eN eN) U
theorem eA_in : ∀ w ∈ eA.filter goodWord, w ∈ wB := by decide +kernel
theorem eA_rest : eA.filter (fun w => !goodWord w) = eW := by decide +kernel
theorem eA_at {args : Array Value} {s : State} (htB : ∀ w ∈ wB, w.before args s = true) (hc : eD s) : ∀ w ∈ eA, w.before args s = true := vx_hat (B := eW) (fun w h => htB w (eA_in w h)) (fun w h => by rw [eA_rest] at h; exact h) (vx_c (va_Nw.use rfl hc.1) (vx_c (va_Nw.use rfl hc.2.1) (vx_c (va_Nw.use rfl hc.2.2.1) (vx_c (va_Nw.use rfl hc.2.2.2) vx_n))))
theorem eA_good : ∀ w ∈ Cond.classLink R_X 42 eN :: Cond.initialized eN :: eA, vx_ot w = true := by decide +kernel
theorem zU.kept {A : Nat → Prop} {U : State} {H H1 : Heap} (h : zU A U H) (hq : ∀ a : Nat, a < H.size → ¬ A a → H1[a]? = H[a]?) : zU A U H1 := ⟨h.1.kept hq, h.2.kept hq⟩
theorem zU.moved {A : Nat → Prop} {u U : State} {H : Heap} (hvm : u.vm.Alike U.vm) (h : zU A u H) : zU A U H := ⟨h.1.moved hvm, h.2.moved hvm⟩
theorem zU.narrow {A B : Nat → Prop} {U : State} {H : Heap} (h : zU A U H) (hAB : ∀ q, B q → A q) : zU B U H := ⟨h.1.narrow hAB, h.2.narrow hAB⟩
/-- what a throw rests on: the text, the class itself, two statics that lie outside A -/
def eX (sa : Nat) (A : Nat → Prop) (U : State) (H : Heap) : Prop := vk_R R_X 44 eT sa U ∧ eD U ∧ zU A U H
theorem eX.warm {sa : Nat} {A B : Nat → Prop} {s U : State} {H H1 : Heap} (h : eX sa A s H) (hW : s.WarmedH U.vm) (hq : ∀ a : Nat, a < H.size → ¬ A a → H1[a]? = H[a]?) (hAB : ∀ q, B q → A q) : eX sa B U H1 := ⟨vk_R.warm hW h.1, ⟨va_Nw.warmD hW h.2.1.1, va_Nw.warmD hW h.2.1.2.1, va_Nw.warmD hW h.2.1.2.2.1, va_Nw.warmC hW h.2.1.2.2.2⟩, (zU.moved hW.alike (h.2.2.kept hq)).narrow hAB⟩
set_option maxHeartbeats 4000000 in
set_option maxRecDepth 100000 in
theorem c_X_part (l : Launch) (dC : Nat → ClassId) (dI : Nat → Nat → Nat) (h0 a1 a2 a3 a4 : Nat) (cI cZ : ClassId) (tx pt qt sr : Nat → Int32) (tn pn : Nat) (hlt : l.stackTraces = false) (sz sa : Nat) (hp : pn ≤ 200) (ht : tn ≤ 400) (p0 p1 : Int32) : vx_Met l y_X_part (.code y_X_part b_X_part 3 (some .boolean) :: wB) ({ frames := 6, cells := 1, slots := 6, locals := 145 } : Room) (va_Pc [.ref h0, .int p0, .int p1] (fun U => U.heap.size = sz ∧ va_P (dC, dI) classes (wX h0 a1 a2 a3 a4 cI cZ tx pt qt sr tn pn) U.heap ∧ va_K (dC, dI) classes (tyIZ cI cZ) U ∧ va_D (fun _ => True) (wX h0 a1 a2 a3 a4 cI cZ tx pt qt sr tn pn) ∧ eX sa (va_A (wX h0 a1 a2 a3 a4 cI cZ tx pt qt sr tn pn) sz) U U.heap)) (va_Qi (fun (r : Int32) (su : Nat → Int32) => okp tn p0 p1 = true ∧ r = bI (mX tx pt qt pn p0.toNatClampNeg p1.toNatClampNeg)) (fun (su : Nat → Int32) (t : State) => va_P (dC, dI) classes (wX h0 a1 a2 a3 a4 cI cZ tx pt qt su tn pn) t.heap ∧ va_K (dC, dI) classes (tyIZ cI cZ) t ∧ va_D (va_A (wX h0 a1 a2 a3 a4 cI cZ tx pt qt sr tn pn) sz) (wX h0 a1 a2 a3 a4 cI cZ tx pt qt su tn pn)) (va_A (wX h0 a1 a2 a3 a4 cI cZ tx pt qt sr tn pn) sz)) (vx_X (fun (_ : Unit) => okp tn p0 p1 = false) (fun (E : String) (_ : Unit) (t : State) => E = eN ∧ va_P (dC, dI) classes (wX h0 a1 a2 a3 a4 cI cZ tx pt qt sr tn pn) t.heap ∧ va_K (dC, dI) classes (tyIZ cI cZ) t ∧ va_D (va_A (wX h0 a1 a2 a3 a4 cI cZ tx pt qt sr tn pn) sz) (wX h0 a1 a2 a3 a4 cI cZ tx pt qt sr tn pn)) (va_A (wX h0 a1 a2 a3 a4 cI cZ tx pt qt sr tn pn) sz)) 1 6 (va_A (wX h0 a1 a2 a3 a4 cI cZ tx pt qt sr tn pn) sz) := by
  refine vx_ofW (cc := b_X_part) (maxL := 3) (ret := (some .boolean)) (by decide) rfl ?_
  intro p e s mm args below meth c s₁ B hml htab hv
  obtain ⟨rfl, hsz, hP, hK, hD0, hZ⟩ := hv
  have hx := B.exec
  have hb := B.bytes
  have hr := B.returns
  have hts := atoms_spec (ws := (.code y_X_part b_X_part 3 (some .boolean) :: wB)) B.pre
  have htB : ∀ w ∈ wB, w.before _ s = true := fun w h => hts w (List.mem_cons_of_mem _ h)
  have hown : s.vm.findClass R_X = some mm.cls := findClass_of_methodNamed B.named
  have hlocks := B.notSynchronized
  subst hsz
  have hD := hD0.self (sz := s.heap.size)
  generalize hAe : va_A (wX h0 a1 a2 a3 a4 cI cZ tx pt qt sr tn pn) s.heap.size = A at hD hZ ⊢
  have hA : ∀ q : Nat, s.heap.size ≤ q → A q := fun q h => by rw [← hAe]; exact Or.inr h
  have hS : va_S A s.heap s.heap [] := va_S.rf
  have hP : va_P (dC, dI) classes (wX h0 a1 a2 a3 a4 cI cZ tx pt qt sr tn pn) s.heap := hP
  have hl := lv_entry ([.ref h0, .int p0, .int p1]) (n := 3) (Nat.le_of_ble_eq_true rfl)
  rw [lg_entry_eq]
  generalize (lg_sl ([.ref h0, .int p0, .int p1]) ++ List.replicate (3 - (lg_sl ([.ref h0, .int p0, .int p1])).length) Slot.unset).toArray = ls at hl ⊢
  have hl : lv_has ls 3 [(0, .ref h0), (1, .int p0), (2, .int p1)] := hl
  refine lv_iload_n hx hb d_X_part_0 rfl (lv_at hl 1 rfl) ?_
  refine lv_if_lt (tgt := 17) hx hb d_X_part_1 (by decide) (fun c_1 => ?_) (fun c_1 => ?_)
  · have hno : okp tn p0 p1 = false := by first | exact okp_a ‹_› | exact okp_b ‹_› | exact okp_c ‹_›
    exact vx_throwS (text := eT) (names := ["java/lang/RuntimeException", "java/lang/Exception"]) (sa := sa) (A := A) hx hb hlt hown (by decide +kernel) (by decide +kernel) (htB _ hcl_X_42) (htB _ hini_IndexOutOfBoundsException) hZ.1 (eA_at htB hZ.2.1) eA_good hZ.2.2.1 hZ.2.2.2 hS (hl.1.trans hml.symm) d_X_part_17 d_X_part_20 d_X_part_21 d_X_part_23 d_X_part_26 (fun x h => (htab x h).elim) (Nat.le_of_ble_eq_true rfl) (Nat.le_of_ble_eq_true rfl) (Nat.le_of_ble_eq_true rfl) (Nat.le_of_ble_eq_true rfl) hlocks (fun t hW hz hk => ⟨(), hno, ⟨rfl, fun i q hq => (hP i q hq).kept (hk q.1 ((hP i q hq).lt)), va_K.moved hW hK, hD⟩, ⟨hz, fun q h1 _ => hk q h1⟩⟩) hS.2.2 (Nat.le_of_ble_eq_true rfl) (Nat.le_of_ble_eq_true rfl)
  · refine lv_iload_n hx hb d_X_part_4 rfl (lv_at hl 2 rfl) ?_
    refine lv_iload_n hx hb d_X_part_5 rfl (lv_at hl 1 rfl) ?_
    refine lv_icmp_lt (tgt := 17) hx hb d_X_part_6 (by decide) (fun c_2 => ?_) (fun c_2 => ?_)
    · have hno : okp tn p0 p1 = false := by first | exact okp_a ‹_› | exact okp_b ‹_› | exact okp_c ‹_›
      exact vx_throwS (text := eT) (names := ["java/lang/RuntimeException", "java/lang/Exception"]) (sa := sa) (A := A) hx hb hlt hown (by decide +kernel) (by decide +kernel) (htB _ hcl_X_42) (htB _ hini_IndexOutOfBoundsException) hZ.1 (eA_at htB hZ.2.1) eA_good hZ.2.2.1 hZ.2.2.2 hS (hl.1.trans hml.symm) d_X_part_17 d_X_part_20 d_X_part_21 d_X_part_23 d_X_part_26 (fun x h => (htab x h).elim) (Nat.le_of_ble_eq_true rfl) (Nat.le_of_ble_eq_true rfl) (Nat.le_of_ble_eq_true rfl) (Nat.le_of_ble_eq_true rfl) hlocks (fun t hW hz hk => ⟨(), hno, ⟨rfl, fun i q hq => (hP i q hq).kept (hk q.1 ((hP i q hq).lt)), va_K.moved hW hK, hD⟩, ⟨hz, fun q h1 _ => hk q h1⟩⟩) hS.2.2 (Nat.le_of_ble_eq_true rfl) (Nat.le_of_ble_eq_true rfl)
    · refine lv_iload_n hx hb d_X_part_9 rfl (lv_at hl 2 rfl) ?_
      refine lv_aload_n hx hb d_X_part_10 rfl (lv_at hl 0 rfl) ?_
      refine va_get (D := (dC, dI)) (ci := 0) (v := .int (nI tn)) (C := R_X) (T := F_X) (N := 6) hx hb htB in_X hown hK hP 0 rfl rfl 1 (by decide) (htB _ hfl_X_13) (fun _ h9 => h9) rfl d_X_part_11 ?_
      refine lv_icmp_le (tgt := 27) hx hb d_X_part_14 (by decide) (fun c_3 => ?_) (fun c_3 => ?_)
      · have hok := okp_y ‹¬ p0 < 0› ‹¬ p1 < p0› c_3
        obtain ⟨frm, too, hft, htt, rfl, rfl⟩ := okp_t ht ‹¬ p0 < 0› ‹¬ p1 < p0› c_3
        refine lv_aload_n hx hb d_X_part_27 rfl (lv_at hl 0 rfl) ?_
        refine lv_iload_n hx hb d_X_part_28 rfl (lv_at hl 1 rfl) ?_
        refine lv_iload_n hx hb d_X_part_29 rfl (lv_at hl 2 rfl) ?_
        refine r_X_pieceMatches hp hft (by omega) hx hb hml hown htB hK hP hD hS hA hl.1 (Nat.le_of_ble_eq_true rfl) ⟨Nat.le_of_ble_eq_true rfl, Nat.le_of_ble_eq_true rfl⟩ ⟨Nat.zero_le _, Nat.zero_le _⟩ d_X_part_30 (fun r_s1 s1 H locs hs1 hP hD hS => ?_)
        obtain rfl := hs1
        refine vx_ret (W.widen (k := 1) (n := 6) (Nat.zero_le _) (Nat.zero_le _) ?_)
        exact W.zret (v := bI (mX tx pt qt pn frm too)) hx hb hr (bI_nar _) (fun t ht hW => ⟨⟨_, s1, rfl, ⟨hok, by rw [nI_clamp (n := frm) (by omega), nI_clamp (n := too) (by omega)]⟩, by rw [ht]; exact hP, va_K.moved hW.alike hK, hD⟩, hS.F ht⟩) hS.2.2 d_X_part_33
      · have hno : okp tn p0 p1 = false := by first | exact okp_a ‹_› | exact okp_b ‹_› | exact okp_c ‹_›
        exact vx_throwS (text := eT) (names := ["java/lang/RuntimeException", "java/lang/Exception"]) (sa := sa) (A := A) hx hb hlt hown (by decide +kernel) (by decide +kernel) (htB _ hcl_X_42) (htB _ hini_IndexOutOfBoundsException) hZ.1 (eA_at htB hZ.2.1) eA_good hZ.2.2.1 hZ.2.2.2 hS (hl.1.trans hml.symm) d_X_part_17 d_X_part_20 d_X_part_21 d_X_part_23 d_X_part_26 (fun x h => (htab x h).elim) (Nat.le_of_ble_eq_true rfl) (Nat.le_of_ble_eq_true rfl) (Nat.le_of_ble_eq_true rfl) (Nat.le_of_ble_eq_true rfl) hlocks (fun t hW hz hk => ⟨(), hno, ⟨rfl, fun i q hq => (hP i q hq).kept (hk q.1 ((hP i q hq).lt)), va_K.moved hW hK, hD⟩, ⟨hz, fun q h1 _ => hk q h1⟩⟩) hS.2.2 (Nat.le_of_ble_eq_true rfl) (Nat.le_of_ble_eq_true rfl)

