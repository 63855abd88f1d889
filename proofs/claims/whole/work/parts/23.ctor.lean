/-! the constructors: by wip/whole/gen/gen23.py -/
set_option maxHeartbeats 4000000 in
set_option maxRecDepth 100000 in
theorem c_X_init (l : Launch) (dC : Nat → ClassId) (dI : Nat → Nat → Nat) (h0 sz : Nat) : Met l y_X_init (.code y_X_init b_X_init 1 none :: wB) ({ frames := 1, cells := 4, slots := 1201, locals := 12 }) (va_Pc [.ref h0] (fun U => U.heap.size = sz ∧ va_P (dC, dI) classes [(h0, .inr (0, [.null, .int (nI 0), .null, .null, .int (nI 0), .null]))] U.heap ∧ va_K (dC, dI) classes [] U ∧ va_D (fun _ => True) [(h0, .inr (0, [.null, .int (nI 0), .null, .null, .int (nI 0), .null]))])) (va_Qv (fun (_ : Unit) => True) (fun (_ : Unit) (t : State) => ∃ (a1 a2 a3 a4 : Nat) (cI cZ : ClassId), va_P (dC, dI) classes (wX h0 a1 a2 a3 a4 cI cZ (fun _ => 0) (fun _ => 0) (fun _ => 0) (fun _ => 0) 0 0) t.heap ∧ va_K (dC, dI) classes (tyIZ cI cZ) t ∧ va_D (va_A [(h0, .inr (0, [.null, .int (nI 0), .null, .null, .int (nI 0), .null]))] sz) (wX h0 a1 a2 a3 a4 cI cZ (fun _ => 0) (fun _ => 0) (fun _ => 0) (fun _ => 0) 0 0)) (va_A [(h0, .inr (0, [.null, .int (nI 0), .null, .null, .int (nI 0), .null]))] sz)) 4 1201 (va_A [(h0, .inr (0, [.null, .int (nI 0), .null, .null, .int (nI 0), .null]))] sz) := by
  refine Met.ofW (cc := b_X_init) (maxL := 1) (ret := none) (by decide) rfl ?_
  intro p e s mm args below meth c s₁ B hml hv
  obtain ⟨rfl, hsz, hP, hK, hD0⟩ := hv
  have hx := B.exec
  have hb := B.bytes
  have hr := B.returns
  have hts := atoms_spec (ws := (.code y_X_init b_X_init 1 none :: wB)) B.pre
  have htB : ∀ w ∈ wB, w.before _ s = true := fun w h => hts w (List.mem_cons_of_mem _ h)
  have hown : s.vm.findClass R_X = some mm.cls := findClass_of_methodNamed B.named
  have hlocks := B.notSynchronized
  have hin : meth.name = "<init>" := (name_of_methodNamed B.named B.method).1
  subst hsz
  have hD := hD0.self (sz := s.heap.size)
  generalize hAe : va_A [(h0, .inr (0, [.null, .int (nI 0), .null, .null, .int (nI 0), .null]))] s.heap.size = A at hD ⊢
  have hA : ∀ q : Nat, s.heap.size ≤ q → A q := fun q h => by rw [← hAe]; exact Or.inr h
  have hS : va_S A s.heap s.heap [] := va_S.rf
  have hl := lv_entry ([.ref h0]) (n := 1) (Nat.le_of_ble_eq_true rfl)
  rw [lg_entry_eq]
  generalize (lg_sl ([.ref h0]) ++ List.replicate (1 - (lg_sl ([.ref h0])).length) Slot.unset).toArray = ls at hl ⊢
  have hl : lv_has ls 1 [(0, .ref h0)] := hl
  refine lv_aload_n hx hb d_X_init_0 rfl (lv_at hl 0 rfl) ?_
  refine W.objInit hx hb hown (htB _ hml_X_1) (htB _ hinm_objectInit) (htB _ hco_objectInit) rfl (by rw [hml]; exact hl.1) rfl d_X_init_1 (Nat.le_of_ble_eq_true rfl) (Nat.le_of_ble_eq_true rfl) ?_
  refine W.eq (g2 := F0 mm 4 ls []) rfl ?_
  refine lv_aload_n hx hb d_X_init_4 rfl (lv_at hl 0 rfl) ?_
  refine lv_sipush (v := nI 400) hx hb d_X_init_5 (by decide) ?_
  refine va_newa (atype := .int) (ty := .int) (a0 := (400, .inl (fun _ => 0))) hx hb (htB _ har_int) rfl hK hP hD hS hA (fun _ => rfl) (by decide) (by decide) (by decide) (Nat.le_of_ble_eq_true rfl) (Nat.le_of_ble_eq_true rfl) d_X_init_8 (fun q1 c1 H hK hP hD hS => ?_)
  have hP : va_P (dC, dI) classes [(h0, .inr (0, [.null, .int (nI 0), .null, .null, .int (nI 0), .null])), (q1, .inl (c1, 400, .inl (fun _ => 0)))] H := hP
  have hD : va_D A [(h0, .inr (0, [.null, .int (nI 0), .null, .null, .int (nI 0), .null])), (q1, .inl (c1, 400, .inl (fun _ => 0)))] := hD
  have hK : va_K (dC, dI) classes [(c1, .int)] s := hK
  refine W.widen (k := 1) (n := 400) (Nat.le_of_ble_eq_true rfl) (Nat.le_of_ble_eq_true rfl) ?_
  refine va_putF (D := (dC, dI)) (ci := 0) (v := .ref q1) (ty := .array .int) (C := R_X) (T := F_X) (N := 6) hx hb htB in_X t_X t_X_ok n_X hown hK hP hD hS 0 rfl rfl 0 (by decide) (htB _ hfl_X_9) (fun _ h9 => h9) rfl hin rfl (by decide +kernel) rfl rfl (Nat.le_of_ble_eq_true rfl) d_X_init_10 (fun H locs hP hD hS => ?_)
  have hP : va_P (dC, dI) classes [(h0, .inr (0, [.ref q1, .int (nI 0), .null, .null, .int (nI 0), .null])), (q1, .inl (c1, 400, .inl (fun _ => 0)))] H := hP
  have hD : va_D A [(h0, .inr (0, [.ref q1, .int (nI 0), .null, .null, .int (nI 0), .null])), (q1, .inl (c1, 400, .inl (fun _ => 0)))] := hD
  refine lv_aload_n hx hb d_X_init_13 rfl (lv_at hl 0 rfl) ?_
  refine lv_iconst (v := nI 0) hx hb d_X_init_14 (by decide) ?_
  refine va_put (D := (dC, dI)) (ci := 0) (v := .int (nI 0)) (ty := .int) (C := R_X) (T := F_X) (N := 6) hx hb htB in_X t_X t_X_ok n_X hown hK hP hD hS 0 rfl rfl 1 (by decide) (htB _ hfl_X_13) (fun _ h9 => h9) rfl (by decide +kernel) rfl rfl (Nat.le_of_ble_eq_true rfl) d_X_init_15 (fun H locs hP hD hS => ?_)
  have hP : va_P (dC, dI) classes [(h0, .inr (0, [.ref q1, .int (nI 0), .null, .null, .int (nI 0), .null])), (q1, .inl (c1, 400, .inl (fun _ => 0)))] H := hP
  have hD : va_D A [(h0, .inr (0, [.ref q1, .int (nI 0), .null, .null, .int (nI 0), .null])), (q1, .inl (c1, 400, .inl (fun _ => 0)))] := hD
  refine lv_aload_n hx hb d_X_init_18 rfl (lv_at hl 0 rfl) ?_
  refine lv_sipush (v := nI 200) hx hb d_X_init_19 (by decide) ?_
  refine va_newa (atype := .int) (ty := .int) (a0 := (200, .inl (fun _ => 0))) hx hb (htB _ har_int) rfl hK hP hD hS hA (fun _ => rfl) (by decide) (by decide) (by decide) (Nat.le_of_ble_eq_true rfl) (Nat.le_of_ble_eq_true rfl) d_X_init_22 (fun q2 c2 H hK hP hD hS => ?_)
  have hP : va_P (dC, dI) classes [(h0, .inr (0, [.ref q1, .int (nI 0), .null, .null, .int (nI 0), .null])), (q1, .inl (c1, 400, .inl (fun _ => 0))), (q2, .inl (c2, 200, .inl (fun _ => 0)))] H := hP
  have hD : va_D A [(h0, .inr (0, [.ref q1, .int (nI 0), .null, .null, .int (nI 0), .null])), (q1, .inl (c1, 400, .inl (fun _ => 0))), (q2, .inl (c2, 200, .inl (fun _ => 0)))] := hD
  have hK : va_K (dC, dI) classes [(c1, .int), (c2, .int)] s := hK
  refine W.widen (k := 2) (n := 600) (Nat.le_of_ble_eq_true rfl) (Nat.le_of_ble_eq_true rfl) ?_
  refine va_putF (D := (dC, dI)) (ci := 0) (v := .ref q2) (ty := .array .int) (C := R_X) (T := F_X) (N := 6) hx hb htB in_X t_X t_X_ok n_X hown hK hP hD hS 0 rfl rfl 2 (by decide) (htB _ hfl_X_17) (fun _ h9 => h9) rfl hin rfl (by decide +kernel) rfl rfl (Nat.le_of_ble_eq_true rfl) d_X_init_24 (fun H locs hP hD hS => ?_)
  have hP : va_P (dC, dI) classes [(h0, .inr (0, [.ref q1, .int (nI 0), .ref q2, .null, .int (nI 0), .null])), (q1, .inl (c1, 400, .inl (fun _ => 0))), (q2, .inl (c2, 200, .inl (fun _ => 0)))] H := hP
  have hD : va_D A [(h0, .inr (0, [.ref q1, .int (nI 0), .ref q2, .null, .int (nI 0), .null])), (q1, .inl (c1, 400, .inl (fun _ => 0))), (q2, .inl (c2, 200, .inl (fun _ => 0)))] := hD
  refine lv_aload_n hx hb d_X_init_27 rfl (lv_at hl 0 rfl) ?_
  refine lv_sipush (v := nI 200) hx hb d_X_init_28 (by decide) ?_
  refine va_newa (atype := .boolean) (ty := .boolean) (a0 := (200, .inl (fun _ => 0))) hx hb (htB _ har_boolean) rfl hK hP hD hS hA (fun _ => rfl) (by decide) (by decide) (by decide) (Nat.le_of_ble_eq_true rfl) (Nat.le_of_ble_eq_true rfl) d_X_init_31 (fun q3 c3 H hK hP hD hS => ?_)
  have hP : va_P (dC, dI) classes [(h0, .inr (0, [.ref q1, .int (nI 0), .ref q2, .null, .int (nI 0), .null])), (q1, .inl (c1, 400, .inl (fun _ => 0))), (q2, .inl (c2, 200, .inl (fun _ => 0))), (q3, .inl (c3, 200, .inl (fun _ => 0)))] H := hP
  have hD : va_D A [(h0, .inr (0, [.ref q1, .int (nI 0), .ref q2, .null, .int (nI 0), .null])), (q1, .inl (c1, 400, .inl (fun _ => 0))), (q2, .inl (c2, 200, .inl (fun _ => 0))), (q3, .inl (c3, 200, .inl (fun _ => 0)))] := hD
  have hK : va_K (dC, dI) classes [(c1, .int), (c2, .int), (c3, .boolean)] s := hK
  refine W.widen (k := 3) (n := 800) (Nat.le_of_ble_eq_true rfl) (Nat.le_of_ble_eq_true rfl) ?_
  refine va_putF (D := (dC, dI)) (ci := 0) (v := .ref q3) (ty := .array .boolean) (C := R_X) (T := F_X) (N := 6) hx hb htB in_X t_X t_X_ok n_X hown hK hP hD hS 0 rfl rfl 3 (by decide) (htB _ hfl_X_20) (fun _ h9 => h9) rfl hin rfl (by decide +kernel) rfl rfl (Nat.le_of_ble_eq_true rfl) d_X_init_33 (fun H locs hP hD hS => ?_)
  have hP : va_P (dC, dI) classes [(h0, .inr (0, [.ref q1, .int (nI 0), .ref q2, .ref q3, .int (nI 0), .null])), (q1, .inl (c1, 400, .inl (fun _ => 0))), (q2, .inl (c2, 200, .inl (fun _ => 0))), (q3, .inl (c3, 200, .inl (fun _ => 0)))] H := hP
  have hD : va_D A [(h0, .inr (0, [.ref q1, .int (nI 0), .ref q2, .ref q3, .int (nI 0), .null])), (q1, .inl (c1, 400, .inl (fun _ => 0))), (q2, .inl (c2, 200, .inl (fun _ => 0))), (q3, .inl (c3, 200, .inl (fun _ => 0)))] := hD
  refine lv_aload_n hx hb d_X_init_36 rfl (lv_at hl 0 rfl) ?_
  refine lv_iconst (v := nI 0) hx hb d_X_init_37 (by decide) ?_
  refine va_put (D := (dC, dI)) (ci := 0) (v := .int (nI 0)) (ty := .int) (C := R_X) (T := F_X) (N := 6) hx hb htB in_X t_X t_X_ok n_X hown hK hP hD hS 0 rfl rfl 4 (by decide) (htB _ hfl_X_24) (fun _ h9 => h9) rfl (by decide +kernel) rfl rfl (Nat.le_of_ble_eq_true rfl) d_X_init_38 (fun H locs hP hD hS => ?_)
  have hP : va_P (dC, dI) classes [(h0, .inr (0, [.ref q1, .int (nI 0), .ref q2, .ref q3, .int (nI 0), .null])), (q1, .inl (c1, 400, .inl (fun _ => 0))), (q2, .inl (c2, 200, .inl (fun _ => 0))), (q3, .inl (c3, 200, .inl (fun _ => 0)))] H := hP
  have hD : va_D A [(h0, .inr (0, [.ref q1, .int (nI 0), .ref q2, .ref q3, .int (nI 0), .null])), (q1, .inl (c1, 400, .inl (fun _ => 0))), (q2, .inl (c2, 200, .inl (fun _ => 0))), (q3, .inl (c3, 200, .inl (fun _ => 0)))] := hD
  refine lv_aload_n hx hb d_X_init_41 rfl (lv_at hl 0 rfl) ?_
  refine lv_sipush (v := nI 401) hx hb d_X_init_42 (by decide) ?_
  refine va_newa (atype := .int) (ty := .int) (a0 := (401, .inl (fun _ => 0))) hx hb (htB _ har_int) rfl hK hP hD hS hA (fun _ => rfl) (by decide) (by decide) (by decide) (Nat.le_of_ble_eq_true rfl) (Nat.le_of_ble_eq_true rfl) d_X_init_45 (fun q4 c4 H hK hP hD hS => ?_)
  have hP : va_P (dC, dI) classes [(h0, .inr (0, [.ref q1, .int (nI 0), .ref q2, .ref q3, .int (nI 0), .null])), (q1, .inl (c1, 400, .inl (fun _ => 0))), (q2, .inl (c2, 200, .inl (fun _ => 0))), (q3, .inl (c3, 200, .inl (fun _ => 0))), (q4, .inl (c4, 401, .inl (fun _ => 0)))] H := hP
  have hD : va_D A [(h0, .inr (0, [.ref q1, .int (nI 0), .ref q2, .ref q3, .int (nI 0), .null])), (q1, .inl (c1, 400, .inl (fun _ => 0))), (q2, .inl (c2, 200, .inl (fun _ => 0))), (q3, .inl (c3, 200, .inl (fun _ => 0))), (q4, .inl (c4, 401, .inl (fun _ => 0)))] := hD
  have hK : va_K (dC, dI) classes [(c1, .int), (c2, .int), (c3, .boolean), (c4, .int)] s := hK
  refine W.widen (k := 4) (n := 1201) (Nat.le_of_ble_eq_true rfl) (Nat.le_of_ble_eq_true rfl) ?_
  refine va_putF (D := (dC, dI)) (ci := 0) (v := .ref q4) (ty := .array .int) (C := R_X) (T := F_X) (N := 6) hx hb htB in_X t_X t_X_ok n_X hown hK hP hD hS 0 rfl rfl 5 (by decide) (htB _ hfl_X_27) (fun _ h9 => h9) rfl hin rfl (by decide +kernel) rfl rfl (Nat.le_of_ble_eq_true rfl) d_X_init_47 (fun H locs hP hD hS => ?_)
  have hP : va_P (dC, dI) classes [(h0, .inr (0, [.ref q1, .int (nI 0), .ref q2, .ref q3, .int (nI 0), .ref q4])), (q1, .inl (c1, 400, .inl (fun _ => 0))), (q2, .inl (c2, 200, .inl (fun _ => 0))), (q3, .inl (c3, 200, .inl (fun _ => 0))), (q4, .inl (c4, 401, .inl (fun _ => 0)))] H := hP
  have hD : va_D A [(h0, .inr (0, [.ref q1, .int (nI 0), .ref q2, .ref q3, .int (nI 0), .ref q4])), (q1, .inl (c1, 400, .inl (fun _ => 0))), (q2, .inl (c2, 200, .inl (fun _ => 0))), (q3, .inl (c3, 200, .inl (fun _ => 0))), (q4, .inl (c4, 401, .inl (fun _ => 0)))] := hD
  obtain rfl : c1 = c2 := Option.some.inj ((hK.2 0 _ rfl).2.symm.trans (hK.2 1 _ rfl).2)
  obtain rfl : c1 = c4 := Option.some.inj ((hK.2 0 _ rfl).2.symm.trans (hK.2 3 _ rfl).2)
  have hK := hK.sub (tys' := tyIZ c1 c3) [0, 2] rfl
  have hP : va_P (dC, dI) classes (wX h0 q1 q2 q3 q4 c1 c3 (fun _ => 0) (fun _ => 0) (fun _ => 0) (fun _ => 0) 0 0) H := hP
  have hD : va_D A (wX h0 q1 q2 q3 q4 c1 c3 (fun _ => 0) (fun _ => 0) (fun _ => 0) (fun _ => 0) 0 0) := hD
  refine W.widen (k := 4) (n := 1201) (Nat.le_of_ble_eq_true rfl) (Nat.le_of_ble_eq_true rfl) ?_
  exact W.vret hx hb hr (fun t ht hW => ⟨⟨(), rfl, trivial, q1, q2, q3, q4, c1, c3, by rw [ht]; exact hP, va_K.moved hW.alike hK, hD⟩, hS.F ht⟩) hS.2.2 d_X_init_50

set_option maxHeartbeats 4000000 in
set_option maxRecDepth 100000 in
theorem c_M_init (l : Launch) (dC : Nat → ClassId) (dI : Nat → Nat → Nat) (h0 sz : Nat) : Met l y_M_init (.code y_M_init b_M_init 1 none :: wB) ({ frames := 1, cells := 5, slots := 1602, locals := 12 }) (va_Pc [.ref h0] (fun U => U.heap.size = sz ∧ va_P (dC, dI) classes [(h0, .inr (1, [.int (nI 0), .null, .null, .null, .int (nI 0), .int (nI 0), .null, .null]))] U.heap ∧ va_K (dC, dI) classes [] U ∧ va_D (fun _ => True) [(h0, .inr (1, [.int (nI 0), .null, .null, .null, .int (nI 0), .int (nI 0), .null, .null]))])) (va_Qv (fun (_ : Unit) => True) (fun (_ : Unit) (t : State) => ∃ (a1 a2 a3 a4 a5 : Nat) (cI cZ : ClassId), va_P (dC, dI) classes (wM h0 a1 a2 a3 a4 a5 cI cZ (nI 0) (fun _ => 0) (fun _ => 0) (fun _ => 0) (fun _ => 0) (fun _ => 0) 0 0) t.heap ∧ va_K (dC, dI) classes (tyIZ cI cZ) t ∧ va_D (va_A [(h0, .inr (1, [.int (nI 0), .null, .null, .null, .int (nI 0), .int (nI 0), .null, .null]))] sz) (wM h0 a1 a2 a3 a4 a5 cI cZ (nI 0) (fun _ => 0) (fun _ => 0) (fun _ => 0) (fun _ => 0) (fun _ => 0) 0 0)) (va_A [(h0, .inr (1, [.int (nI 0), .null, .null, .null, .int (nI 0), .int (nI 0), .null, .null]))] sz)) 5 1602 (va_A [(h0, .inr (1, [.int (nI 0), .null, .null, .null, .int (nI 0), .int (nI 0), .null, .null]))] sz) := by
  refine Met.ofW (cc := b_M_init) (maxL := 1) (ret := none) (by decide) rfl ?_
  intro p e s mm args below meth c s₁ B hml hv
  obtain ⟨rfl, hsz, hP, hK, hD0⟩ := hv
  have hx := B.exec
  have hb := B.bytes
  have hr := B.returns
  have hts := atoms_spec (ws := (.code y_M_init b_M_init 1 none :: wB)) B.pre
  have htB : ∀ w ∈ wB, w.before _ s = true := fun w h => hts w (List.mem_cons_of_mem _ h)
  have hown : s.vm.findClass R_M = some mm.cls := findClass_of_methodNamed B.named
  have hlocks := B.notSynchronized
  have hin : meth.name = "<init>" := (name_of_methodNamed B.named B.method).1
  subst hsz
  have hD := hD0.self (sz := s.heap.size)
  generalize hAe : va_A [(h0, .inr (1, [.int (nI 0), .null, .null, .null, .int (nI 0), .int (nI 0), .null, .null]))] s.heap.size = A at hD ⊢
  have hA : ∀ q : Nat, s.heap.size ≤ q → A q := fun q h => by rw [← hAe]; exact Or.inr h
  have hS : va_S A s.heap s.heap [] := va_S.rf
  have hl := lv_entry ([.ref h0]) (n := 1) (Nat.le_of_ble_eq_true rfl)
  rw [lg_entry_eq]
  generalize (lg_sl ([.ref h0]) ++ List.replicate (1 - (lg_sl ([.ref h0])).length) Slot.unset).toArray = ls at hl ⊢
  have hl : lv_has ls 1 [(0, .ref h0)] := hl
  refine lv_aload_n hx hb d_M_init_0 rfl (lv_at hl 0 rfl) ?_
  refine W.objInit hx hb hown (htB _ hml_M_1) (htB _ hinm_objectInit) (htB _ hco_objectInit) rfl (by rw [hml]; exact hl.1) rfl d_M_init_1 (Nat.le_of_ble_eq_true rfl) (Nat.le_of_ble_eq_true rfl) ?_
  refine W.eq (g2 := F0 mm 4 ls []) rfl ?_
  refine lv_aload_n hx hb d_M_init_4 rfl (lv_at hl 0 rfl) ?_
  refine lv_sipush (v := nI 400) hx hb d_M_init_5 (by decide) ?_
  refine va_newa (atype := .int) (ty := .int) (a0 := (400, .inl (fun _ => 0))) hx hb (htB _ har_int) rfl hK hP hD hS hA (fun _ => rfl) (by decide) (by decide) (by decide) (Nat.le_of_ble_eq_true rfl) (Nat.le_of_ble_eq_true rfl) d_M_init_8 (fun q1 c1 H hK hP hD hS => ?_)
  have hP : va_P (dC, dI) classes [(h0, .inr (1, [.int (nI 0), .null, .null, .null, .int (nI 0), .int (nI 0), .null, .null])), (q1, .inl (c1, 400, .inl (fun _ => 0)))] H := hP
  have hD : va_D A [(h0, .inr (1, [.int (nI 0), .null, .null, .null, .int (nI 0), .int (nI 0), .null, .null])), (q1, .inl (c1, 400, .inl (fun _ => 0)))] := hD
  have hK : va_K (dC, dI) classes [(c1, .int)] s := hK
  refine W.widen (k := 1) (n := 400) (Nat.le_of_ble_eq_true rfl) (Nat.le_of_ble_eq_true rfl) ?_
  refine va_putF (D := (dC, dI)) (ci := 1) (v := .ref q1) (ty := .array .int) (C := R_M) (T := F_M) (N := 8) hx hb htB in_M t_M t_M_ok n_M hown hK hP hD hS 0 rfl rfl 1 (by decide) (htB _ hfl_M_7) (fun _ h9 => h9) rfl hin rfl (by decide +kernel) rfl rfl (Nat.le_of_ble_eq_true rfl) d_M_init_10 (fun H locs hP hD hS => ?_)
  have hP : va_P (dC, dI) classes [(h0, .inr (1, [.int (nI 0), .ref q1, .null, .null, .int (nI 0), .int (nI 0), .null, .null])), (q1, .inl (c1, 400, .inl (fun _ => 0)))] H := hP
  have hD : va_D A [(h0, .inr (1, [.int (nI 0), .ref q1, .null, .null, .int (nI 0), .int (nI 0), .null, .null])), (q1, .inl (c1, 400, .inl (fun _ => 0)))] := hD
  refine lv_aload_n hx hb d_M_init_13 rfl (lv_at hl 0 rfl) ?_
  refine lv_sipush (v := nI 200) hx hb d_M_init_14 (by decide) ?_
  refine va_newa (atype := .int) (ty := .int) (a0 := (200, .inl (fun _ => 0))) hx hb (htB _ har_int) rfl hK hP hD hS hA (fun _ => rfl) (by decide) (by decide) (by decide) (Nat.le_of_ble_eq_true rfl) (Nat.le_of_ble_eq_true rfl) d_M_init_17 (fun q2 c2 H hK hP hD hS => ?_)
  have hP : va_P (dC, dI) classes [(h0, .inr (1, [.int (nI 0), .ref q1, .null, .null, .int (nI 0), .int (nI 0), .null, .null])), (q1, .inl (c1, 400, .inl (fun _ => 0))), (q2, .inl (c2, 200, .inl (fun _ => 0)))] H := hP
  have hD : va_D A [(h0, .inr (1, [.int (nI 0), .ref q1, .null, .null, .int (nI 0), .int (nI 0), .null, .null])), (q1, .inl (c1, 400, .inl (fun _ => 0))), (q2, .inl (c2, 200, .inl (fun _ => 0)))] := hD
  have hK : va_K (dC, dI) classes [(c1, .int), (c2, .int)] s := hK
  refine W.widen (k := 2) (n := 600) (Nat.le_of_ble_eq_true rfl) (Nat.le_of_ble_eq_true rfl) ?_
  refine va_putF (D := (dC, dI)) (ci := 1) (v := .ref q2) (ty := .array .int) (C := R_M) (T := F_M) (N := 8) hx hb htB in_M t_M t_M_ok n_M hown hK hP hD hS 0 rfl rfl 2 (by decide) (htB _ hfl_M_13) (fun _ h9 => h9) rfl hin rfl (by decide +kernel) rfl rfl (Nat.le_of_ble_eq_true rfl) d_M_init_19 (fun H locs hP hD hS => ?_)
  have hP : va_P (dC, dI) classes [(h0, .inr (1, [.int (nI 0), .ref q1, .ref q2, .null, .int (nI 0), .int (nI 0), .null, .null])), (q1, .inl (c1, 400, .inl (fun _ => 0))), (q2, .inl (c2, 200, .inl (fun _ => 0)))] H := hP
  have hD : va_D A [(h0, .inr (1, [.int (nI 0), .ref q1, .ref q2, .null, .int (nI 0), .int (nI 0), .null, .null])), (q1, .inl (c1, 400, .inl (fun _ => 0))), (q2, .inl (c2, 200, .inl (fun _ => 0)))] := hD
  refine lv_aload_n hx hb d_M_init_22 rfl (lv_at hl 0 rfl) ?_
  refine lv_sipush (v := nI 200) hx hb d_M_init_23 (by decide) ?_
  refine va_newa (atype := .boolean) (ty := .boolean) (a0 := (200, .inl (fun _ => 0))) hx hb (htB _ har_boolean) rfl hK hP hD hS hA (fun _ => rfl) (by decide) (by decide) (by decide) (Nat.le_of_ble_eq_true rfl) (Nat.le_of_ble_eq_true rfl) d_M_init_26 (fun q3 c3 H hK hP hD hS => ?_)
  have hP : va_P (dC, dI) classes [(h0, .inr (1, [.int (nI 0), .ref q1, .ref q2, .null, .int (nI 0), .int (nI 0), .null, .null])), (q1, .inl (c1, 400, .inl (fun _ => 0))), (q2, .inl (c2, 200, .inl (fun _ => 0))), (q3, .inl (c3, 200, .inl (fun _ => 0)))] H := hP
  have hD : va_D A [(h0, .inr (1, [.int (nI 0), .ref q1, .ref q2, .null, .int (nI 0), .int (nI 0), .null, .null])), (q1, .inl (c1, 400, .inl (fun _ => 0))), (q2, .inl (c2, 200, .inl (fun _ => 0))), (q3, .inl (c3, 200, .inl (fun _ => 0)))] := hD
  have hK : va_K (dC, dI) classes [(c1, .int), (c2, .int), (c3, .boolean)] s := hK
  refine W.widen (k := 3) (n := 800) (Nat.le_of_ble_eq_true rfl) (Nat.le_of_ble_eq_true rfl) ?_
  refine va_putF (D := (dC, dI)) (ci := 1) (v := .ref q3) (ty := .array .boolean) (C := R_M) (T := F_M) (N := 8) hx hb htB in_M t_M t_M_ok n_M hown hK hP hD hS 0 rfl rfl 3 (by decide) (htB _ hfl_M_16) (fun _ h9 => h9) rfl hin rfl (by decide +kernel) rfl rfl (Nat.le_of_ble_eq_true rfl) d_M_init_28 (fun H locs hP hD hS => ?_)
  have hP : va_P (dC, dI) classes [(h0, .inr (1, [.int (nI 0), .ref q1, .ref q2, .ref q3, .int (nI 0), .int (nI 0), .null, .null])), (q1, .inl (c1, 400, .inl (fun _ => 0))), (q2, .inl (c2, 200, .inl (fun _ => 0))), (q3, .inl (c3, 200, .inl (fun _ => 0)))] H := hP
  have hD : va_D A [(h0, .inr (1, [.int (nI 0), .ref q1, .ref q2, .ref q3, .int (nI 0), .int (nI 0), .null, .null])), (q1, .inl (c1, 400, .inl (fun _ => 0))), (q2, .inl (c2, 200, .inl (fun _ => 0))), (q3, .inl (c3, 200, .inl (fun _ => 0)))] := hD
  refine lv_aload_n hx hb d_M_init_31 rfl (lv_at hl 0 rfl) ?_
  refine lv_sipush (v := nI 401) hx hb d_M_init_32 (by decide) ?_
  refine va_newa (atype := .boolean) (ty := .boolean) (a0 := (401, .inl (fun _ => 0))) hx hb (htB _ har_boolean) rfl hK hP hD hS hA (fun _ => rfl) (by decide) (by decide) (by decide) (Nat.le_of_ble_eq_true rfl) (Nat.le_of_ble_eq_true rfl) d_M_init_35 (fun q4 c4 H hK hP hD hS => ?_)
  have hP : va_P (dC, dI) classes [(h0, .inr (1, [.int (nI 0), .ref q1, .ref q2, .ref q3, .int (nI 0), .int (nI 0), .null, .null])), (q1, .inl (c1, 400, .inl (fun _ => 0))), (q2, .inl (c2, 200, .inl (fun _ => 0))), (q3, .inl (c3, 200, .inl (fun _ => 0))), (q4, .inl (c4, 401, .inl (fun _ => 0)))] H := hP
  have hD : va_D A [(h0, .inr (1, [.int (nI 0), .ref q1, .ref q2, .ref q3, .int (nI 0), .int (nI 0), .null, .null])), (q1, .inl (c1, 400, .inl (fun _ => 0))), (q2, .inl (c2, 200, .inl (fun _ => 0))), (q3, .inl (c3, 200, .inl (fun _ => 0))), (q4, .inl (c4, 401, .inl (fun _ => 0)))] := hD
  have hK : va_K (dC, dI) classes [(c1, .int), (c2, .int), (c3, .boolean), (c4, .boolean)] s := hK
  refine W.widen (k := 4) (n := 1201) (Nat.le_of_ble_eq_true rfl) (Nat.le_of_ble_eq_true rfl) ?_
  refine va_putF (D := (dC, dI)) (ci := 1) (v := .ref q4) (ty := .array .boolean) (C := R_M) (T := F_M) (N := 8) hx hb htB in_M t_M t_M_ok n_M hown hK hP hD hS 0 rfl rfl 6 (by decide) (htB _ hfl_M_20) (fun _ h9 => h9) rfl hin rfl (by decide +kernel) rfl rfl (Nat.le_of_ble_eq_true rfl) d_M_init_37 (fun H locs hP hD hS => ?_)
  have hP : va_P (dC, dI) classes [(h0, .inr (1, [.int (nI 0), .ref q1, .ref q2, .ref q3, .int (nI 0), .int (nI 0), .ref q4, .null])), (q1, .inl (c1, 400, .inl (fun _ => 0))), (q2, .inl (c2, 200, .inl (fun _ => 0))), (q3, .inl (c3, 200, .inl (fun _ => 0))), (q4, .inl (c4, 401, .inl (fun _ => 0)))] H := hP
  have hD : va_D A [(h0, .inr (1, [.int (nI 0), .ref q1, .ref q2, .ref q3, .int (nI 0), .int (nI 0), .ref q4, .null])), (q1, .inl (c1, 400, .inl (fun _ => 0))), (q2, .inl (c2, 200, .inl (fun _ => 0))), (q3, .inl (c3, 200, .inl (fun _ => 0))), (q4, .inl (c4, 401, .inl (fun _ => 0)))] := hD
  refine lv_aload_n hx hb d_M_init_40 rfl (lv_at hl 0 rfl) ?_
  refine lv_sipush (v := nI 401) hx hb d_M_init_41 (by decide) ?_
  refine va_newa (atype := .boolean) (ty := .boolean) (a0 := (401, .inl (fun _ => 0))) hx hb (htB _ har_boolean) rfl hK hP hD hS hA (fun _ => rfl) (by decide) (by decide) (by decide) (Nat.le_of_ble_eq_true rfl) (Nat.le_of_ble_eq_true rfl) d_M_init_44 (fun q5 c5 H hK hP hD hS => ?_)
  have hP : va_P (dC, dI) classes [(h0, .inr (1, [.int (nI 0), .ref q1, .ref q2, .ref q3, .int (nI 0), .int (nI 0), .ref q4, .null])), (q1, .inl (c1, 400, .inl (fun _ => 0))), (q2, .inl (c2, 200, .inl (fun _ => 0))), (q3, .inl (c3, 200, .inl (fun _ => 0))), (q4, .inl (c4, 401, .inl (fun _ => 0))), (q5, .inl (c5, 401, .inl (fun _ => 0)))] H := hP
  have hD : va_D A [(h0, .inr (1, [.int (nI 0), .ref q1, .ref q2, .ref q3, .int (nI 0), .int (nI 0), .ref q4, .null])), (q1, .inl (c1, 400, .inl (fun _ => 0))), (q2, .inl (c2, 200, .inl (fun _ => 0))), (q3, .inl (c3, 200, .inl (fun _ => 0))), (q4, .inl (c4, 401, .inl (fun _ => 0))), (q5, .inl (c5, 401, .inl (fun _ => 0)))] := hD
  have hK : va_K (dC, dI) classes [(c1, .int), (c2, .int), (c3, .boolean), (c4, .boolean), (c5, .boolean)] s := hK
  refine W.widen (k := 5) (n := 1602) (Nat.le_of_ble_eq_true rfl) (Nat.le_of_ble_eq_true rfl) ?_
  refine va_putF (D := (dC, dI)) (ci := 1) (v := .ref q5) (ty := .array .boolean) (C := R_M) (T := F_M) (N := 8) hx hb htB in_M t_M t_M_ok n_M hown hK hP hD hS 0 rfl rfl 7 (by decide) (htB _ hfl_M_23) (fun _ h9 => h9) rfl hin rfl (by decide +kernel) rfl rfl (Nat.le_of_ble_eq_true rfl) d_M_init_46 (fun H locs hP hD hS => ?_)
  have hP : va_P (dC, dI) classes [(h0, .inr (1, [.int (nI 0), .ref q1, .ref q2, .ref q3, .int (nI 0), .int (nI 0), .ref q4, .ref q5])), (q1, .inl (c1, 400, .inl (fun _ => 0))), (q2, .inl (c2, 200, .inl (fun _ => 0))), (q3, .inl (c3, 200, .inl (fun _ => 0))), (q4, .inl (c4, 401, .inl (fun _ => 0))), (q5, .inl (c5, 401, .inl (fun _ => 0)))] H := hP
  have hD : va_D A [(h0, .inr (1, [.int (nI 0), .ref q1, .ref q2, .ref q3, .int (nI 0), .int (nI 0), .ref q4, .ref q5])), (q1, .inl (c1, 400, .inl (fun _ => 0))), (q2, .inl (c2, 200, .inl (fun _ => 0))), (q3, .inl (c3, 200, .inl (fun _ => 0))), (q4, .inl (c4, 401, .inl (fun _ => 0))), (q5, .inl (c5, 401, .inl (fun _ => 0)))] := hD
  obtain rfl : c1 = c2 := Option.some.inj ((hK.2 0 _ rfl).2.symm.trans (hK.2 1 _ rfl).2)
  obtain rfl : c3 = c4 := Option.some.inj ((hK.2 2 _ rfl).2.symm.trans (hK.2 3 _ rfl).2)
  obtain rfl : c3 = c5 := Option.some.inj ((hK.2 2 _ rfl).2.symm.trans (hK.2 4 _ rfl).2)
  have hK := hK.sub (tys' := tyIZ c1 c3) [0, 2] rfl
  have hP : va_P (dC, dI) classes (wM h0 q1 q2 q3 q4 q5 c1 c3 (nI 0) (fun _ => 0) (fun _ => 0) (fun _ => 0) (fun _ => 0) (fun _ => 0) 0 0) H := hP
  have hD : va_D A (wM h0 q1 q2 q3 q4 q5 c1 c3 (nI 0) (fun _ => 0) (fun _ => 0) (fun _ => 0) (fun _ => 0) (fun _ => 0) 0 0) := hD
  refine W.widen (k := 5) (n := 1602) (Nat.le_of_ble_eq_true rfl) (Nat.le_of_ble_eq_true rfl) ?_
  exact W.vret hx hb hr (fun t ht hW => ⟨⟨(), rfl, trivial, q1, q2, q3, q4, q5, c1, c3, by rw [ht]; exact hP, va_K.moved hW.alike hK, hD⟩, hS.F ht⟩) hS.2.2 d_M_init_49

