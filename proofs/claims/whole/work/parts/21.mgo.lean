/-! the reference: go: by wip/whole/gen/gen21.py -/
set_option maxHeartbeats 4000000 in
set_option maxRecDepth 100000 in
theorem c_M_go (l : Launch) (dC : Nat → ClassId) (dI : Nat → Nat → Nat) (h0 a1 a2 a3 a4 a5 : Nat) (cI cZ : ClassId) (cd : Int32) (tx pt qt ar nr : Nat → Int32) (tn pn : Nat) (sz : Nat) (hp : pn ≤ 200) (frm too : Nat) (hft : frm ≤ too) (ht4 : too ≤ 400) : Met l y_M_go (.code y_M_go b_M_go 8 none :: wB) (Rm 3 74) (va_Pc [.ref h0, .int (nI frm), .int (nI too)] (fun U => U.heap.size = sz ∧ va_P (dC, dI) classes (wM h0 a1 a2 a3 a4 a5 cI cZ cd tx pt qt ar nr tn pn) U.heap ∧ va_K (dC, dI) classes (tyIZ cI cZ) U ∧ va_D (fun _ => True) (wM h0 a1 a2 a3 a4 a5 cI cZ cd tx pt qt ar nr tn pn))) (va_Qv (fun (u : (Nat → Int32) × (Nat → Int32)) => ∀ j, j ≤ 400 → u.1 j = bI (mM tx pt qt pn frm too j)) (fun (u : (Nat → Int32) × (Nat → Int32)) (t : State) => va_P (dC, dI) classes (wM h0 a1 a2 a3 a4 a5 cI cZ cd tx pt qt u.1 u.2 tn pn) t.heap ∧ va_K (dC, dI) classes (tyIZ cI cZ) t ∧ va_D (va_A (wM h0 a1 a2 a3 a4 a5 cI cZ cd tx pt qt ar nr tn pn) sz) (wM h0 a1 a2 a3 a4 a5 cI cZ cd tx pt qt u.1 u.2 tn pn)) (va_A (wM h0 a1 a2 a3 a4 a5 cI cZ cd tx pt qt ar nr tn pn) sz)) 0 0 (va_A (wM h0 a1 a2 a3 a4 a5 cI cZ cd tx pt qt ar nr tn pn) sz) := by
  refine Met.ofW (cc := b_M_go) (maxL := 8) (ret := none) (by decide) rfl ?_
  intro p e s mm args below meth c s₁ B hml hv
  obtain ⟨rfl, hsz, hP, hK, hD0⟩ := hv
  have hx := B.exec
  have hb := B.bytes
  have hr := B.returns
  have hts := atoms_spec (ws := (.code y_M_go b_M_go 8 none :: wB)) B.pre
  have htB : ∀ w ∈ wB, w.before _ s = true := fun w h => hts w (List.mem_cons_of_mem _ h)
  have hown : s.vm.findClass R_M = some mm.cls := findClass_of_methodNamed B.named
  have hlocks := B.notSynchronized
  subst hsz
  have hD := hD0.self (sz := s.heap.size)
  generalize hAe : va_A (wM h0 a1 a2 a3 a4 a5 cI cZ cd tx pt qt ar nr tn pn) s.heap.size = A at hD ⊢
  have hA : ∀ q : Nat, s.heap.size ≤ q → A q := fun q h => by rw [← hAe]; exact Or.inr h
  have hS : va_S A s.heap s.heap [] := va_S.rf
  have hP : va_P (dC, dI) classes (wM h0 a1 a2 a3 a4 a5 cI cZ cd tx pt qt ar nr tn pn) s.heap := hP
  have hl := lv_entry ([.ref h0, .int (nI frm), .int (nI too)]) (n := 8) (Nat.le_of_ble_eq_true rfl)
  rw [lg_entry_eq]
  generalize (lg_sl ([.ref h0, .int (nI frm), .int (nI too)]) ++ List.replicate (8 - (lg_sl ([.ref h0, .int (nI frm), .int (nI too)])).length) Slot.unset).toArray = ls at hl ⊢
  have hl : lv_has ls 8 [(0, .ref h0), (1, .int (nI frm)), (2, .int (nI too))] := hl
  have L2 : ∀ (n1 i : Nat) (av : Nat → Int32) (H : Heap) (locs : List Loc), i ≤ 1000 → 1000 < i + n1 → (∀ j, j < i → j ≤ 400 → av j = bI (fB frm j)) → va_P (dC, dI) classes (wM h0 a1 a2 a3 a4 a5 cI cZ cd tx pt qt av nr tn pn) H → va_D A (wM h0 a1 a2 a3 a4 a5 cI cZ cd tx pt qt av nr tn pn) → va_S A s.heap H locs → ∀ ls : Array Slot, lv_has ls 8 [(3, .int (nI i)), (0, .ref h0), (1, .int (nI frm)), (2, .int (nI too))] → W p l e (Rm 3 74) s mm [.ref h0, .int (nI frm), .int (nI too)].toArray below meth c H locs 0 0 (MQ below (va_Qv (fun (u : (Nat → Int32) × (Nat → Int32)) => ∀ j, j ≤ 400 → u.1 j = bI (mM tx pt qt pn frm too j)) (fun (u : (Nat → Int32) × (Nat → Int32)) (t : State) => va_P (dC, dI) classes (wM h0 a1 a2 a3 a4 a5 cI cZ cd tx pt qt u.1 u.2 tn pn) t.heap ∧ va_K (dC, dI) classes (tyIZ cI cZ) t ∧ va_D A (wM h0 a1 a2 a3 a4 a5 cI cZ cd tx pt qt u.1 u.2 tn pn)) A) [.ref h0, .int (nI frm), .int (nI too)].toArray s 0 0 A) (F0 mm 2 ls []) := by
    intro n1
    induction n1 with
    | zero => intro i av H locs h1 h2; exact absurd h2 (by omega)
    | succ n1 ih1 =>
      intro i av H locs hi hn1 hE1 hP hD hS ls hl
      refine lv_iload_n hx hb d_M_go_2 rfl (lv_at hl 0 rfl) ?_
      refine lv_sipush (v := nI 400) hx hb d_M_go_3 (by decide) ?_
      refine lv_icmp_gt (tgt := 31) hx hb d_M_go_6 (by decide) (fun c_1 => ?_) (fun c_1 => ?_)
      · have c_1 := (nI_ltI (by omega) (by omega)).mp c_1
        refine lv_iconst (v := nI 0) hx hb d_M_go_31 (by decide) ?_
        refine lv_istore_n (lv' := [(3, .int (nI 0)), (0, .ref h0), (1, .int (nI frm)), (2, .int (nI too))]) hx hb d_M_go_32 rfl hl (by decide) rfl (fun ls hl => ?_)
        have L33 : ∀ (n a : Nat) (F : Nat → Bool) (av nw0 : Nat → Int32) (H : Heap) (locs : List Loc), a ≤ pn → pn < a + n → rdB tx pt qt pn frm too (pn - a) a F = mM tx pt qt pn frm too → (∀ j, j ≤ 400 → av j = bI (F j)) → va_P (dC, dI) classes (wM h0 a1 a2 a3 a4 a5 cI cZ cd tx pt qt av nw0 tn pn) H → va_D A (wM h0 a1 a2 a3 a4 a5 cI cZ cd tx pt qt av nw0 tn pn) → va_S A s.heap H locs → ∀ ls : Array Slot, lv_has ls 8 [(3, .int (nI a)), (0, .ref h0), (1, .int (nI frm)), (2, .int (nI too))] → W p l e (Rm 3 74) s mm [.ref h0, .int (nI frm), .int (nI too)].toArray below meth c H locs 0 0 (MQ below (va_Qv (fun (u : (Nat → Int32) × (Nat → Int32)) => ∀ j, j ≤ 400 → u.1 j = bI (mM tx pt qt pn frm too j)) (fun (u : (Nat → Int32) × (Nat → Int32)) (t : State) => va_P (dC, dI) classes (wM h0 a1 a2 a3 a4 a5 cI cZ cd tx pt qt u.1 u.2 tn pn) t.heap ∧ va_K (dC, dI) classes (tyIZ cI cZ) t ∧ va_D A (wM h0 a1 a2 a3 a4 a5 cI cZ cd tx pt qt u.1 u.2 tn pn)) A) [.ref h0, .int (nI frm), .int (nI too)].toArray s 0 0 A) (F0 mm 33 ls []) := by
          intro n
          induction n with
          | zero => intro a F av nw0 H locs h1 h2; exact absurd h2 (by omega)
          | succ n ih =>
            intro a F av nw0 H locs hap hn hE hav hP hD hS ls hl
            have hnx := nx_gt pt qt pn a
            refine lv_iload_n hx hb d_M_go_33 rfl (lv_at hl 0 rfl) ?_
            refine lv_aload_n hx hb d_M_go_34 rfl (lv_at hl 1 rfl) ?_
            refine va_get (D := (dC, dI)) (ci := 1) (v := .int (nI pn)) (C := R_M) (T := F_M) (N := 8) hx hb htB in_M hown hK hP 0 rfl rfl 5 (by decide) (htB _ hfl_M_35) (fun _ h9 => h9) rfl d_M_go_35 ?_
            refine lv_icmp_ge (tgt := 233) hx hb d_M_go_38 (by decide) (fun c_1 => ?_) (fun c_1 => ?_)
            · have c_1 := (nI_leI (by omega) (by omega)).mp c_1
              exact W.vret hx hb hr (fun t ht hW => ⟨⟨(av, nw0), rfl, fun j q => by rw [← hE, rdB_out (by omega)]; exact hav j q, by rw [ht]; exact hP, va_K.moved hW.alike hK, hD⟩, hS.F ht⟩) hS.2.2 d_M_go_233
            · have c_1 := mt (nI_leI (by omega) (by omega)).mpr c_1
              refine lv_aload_n hx hb d_M_go_41 rfl (lv_at hl 1 rfl) ?_
              refine lv_iload_n hx hb d_M_go_42 rfl (lv_at hl 0 rfl) ?_
              refine r_M_closed hp (by omega) hx hb hml hown htB hK hP hl.1 (Nat.le_of_ble_eq_true rfl) ⟨Nat.le_of_ble_eq_true rfl, Nat.le_of_ble_eq_true rfl⟩ ⟨Nat.zero_le _, Nat.zero_le _⟩ d_M_go_43 ?_
              refine lv_istore (lv' := [(4, .int (oI (cl pt qt pn a))), (3, .int (nI a)), (0, .ref h0), (1, .int (nI frm)), (2, .int (nI too))]) hx hb d_M_go_46 hl (by decide) rfl (fun ls hl => ?_)
              refine lv_aload_n hx hb d_M_go_48 rfl (lv_at hl 2 rfl) ?_
              refine lv_iload_n hx hb d_M_go_49 rfl (lv_at hl 1 rfl) ?_
              refine lv_bipush (v := nI 42) hx hb d_M_go_50 (by decide) ?_
              refine r_M_is hp (by omega) hx hb hml hown htB hK hP hl.1 (Nat.le_of_ble_eq_true rfl) ⟨Nat.le_of_ble_eq_true rfl, Nat.le_of_ble_eq_true rfl⟩ ⟨Nat.zero_le _, Nat.zero_le _⟩ d_M_go_52 ?_
              refine lv_istore (lv' := [(5, .int (bI (iu pt qt pn (a) (nI 42)))), (4, .int (oI (cl pt qt pn a))), (3, .int (nI a)), (0, .ref h0), (1, .int (nI frm)), (2, .int (nI too))]) hx hb d_M_go_55 hl (by decide) rfl (fun ls hl => ?_)
              refine lv_iconst (v := nI 0) hx hb d_M_go_57 (by decide) ?_
              refine lv_istore (lv' := [(6, .int (nI 0)), (5, .int (bI (iu pt qt pn (a) (nI 42)))), (4, .int (oI (cl pt qt pn a))), (3, .int (nI a)), (0, .ref h0), (1, .int (nI frm)), (2, .int (nI too))]) hx hb d_M_go_58 hl (by decide) rfl (fun ls hl => ?_)
              have L60 : ∀ (n2 j2 : Nat) (nw : Nat → Int32) (H : Heap) (locs : List Loc), j2 ≤ 1000 → 1000 < j2 + n2 → (∀ j, j < j2 → j ≤ 400 → nw j = bI false) → va_P (dC, dI) classes (wM h0 a1 a2 a3 a4 a5 cI cZ cd tx pt qt av nw tn pn) H → va_D A (wM h0 a1 a2 a3 a4 a5 cI cZ cd tx pt qt av nw tn pn) → va_S A s.heap H locs → ∀ ls : Array Slot, lv_has ls 8 [(6, .int (nI j2)), (3, .int (nI a)), (4, .int (oI (cl pt qt pn a))), (5, .int (bI (iu pt qt pn a (nI 42)))), (0, .ref h0), (1, .int (nI frm)), (2, .int (nI too))] → W p l e (Rm 3 74) s mm [.ref h0, .int (nI frm), .int (nI too)].toArray below meth c H locs 0 0 (MQ below (va_Qv (fun (u : (Nat → Int32) × (Nat → Int32)) => ∀ j, j ≤ 400 → u.1 j = bI (mM tx pt qt pn frm too j)) (fun (u : (Nat → Int32) × (Nat → Int32)) (t : State) => va_P (dC, dI) classes (wM h0 a1 a2 a3 a4 a5 cI cZ cd tx pt qt u.1 u.2 tn pn) t.heap ∧ va_K (dC, dI) classes (tyIZ cI cZ) t ∧ va_D A (wM h0 a1 a2 a3 a4 a5 cI cZ cd tx pt qt u.1 u.2 tn pn)) A) [.ref h0, .int (nI frm), .int (nI too)].toArray s 0 0 A) (F0 mm 60 ls []) := by
                intro n2
                induction n2 with
                | zero => intro j2 nw H locs h1 h2; exact absurd h2 (by omega)
                | succ n2 ih2 =>
                  intro j2 nw H locs hj2 hn2 hE2 hP hD hS ls hl
                  refine lv_iload hx hb d_M_go_60 (lv_at hl 0 rfl) ?_
                  refine lv_sipush (v := nI 400) hx hb d_M_go_62 (by decide) ?_
                  refine lv_icmp_gt (tgt := 82) hx hb d_M_go_65 (by decide) (fun c_1 => ?_) (fun c_1 => ?_)
                  · have c_1 := (nI_ltI (by omega) (by omega)).mp c_1
                    refine lv_iconst (v := nI 0) hx hb d_M_go_82 (by decide) ?_
                    refine lv_istore (lv' := [(6, .int (nI 0)), (3, .int (nI a)), (4, .int (oI (cl pt qt pn a))), (5, .int (bI (iu pt qt pn a (nI 42)))), (0, .ref h0), (1, .int (nI frm)), (2, .int (nI too))]) hx hb d_M_go_83 hl (by decide) rfl (fun ls hl => ?_)
                    refine lv_iload_n hx hb d_M_go_85 rfl (lv_at hl 5 rfl) ?_
                    refine lv_istore (lv' := [(7, .int (nI frm)), (6, .int (nI 0)), (3, .int (nI a)), (4, .int (oI (cl pt qt pn a))), (5, .int (bI (iu pt qt pn a (nI 42)))), (0, .ref h0), (1, .int (nI frm)), (2, .int (nI too))]) hx hb d_M_go_86 hl (by decide) rfl (fun ls hl => ?_)
                    have L88 : ∀ (n3 d : Nat) (nv : Nat → Int32) (H : Heap) (locs : List Loc), d ≤ 1000 → 1000 < d + n3 → frm + d ≤ too + 1 → (∀ j, j ≤ 400 → nv j = bI (NB tx pt qt pn frm too a F d j)) → va_P (dC, dI) classes (wM h0 a1 a2 a3 a4 a5 cI cZ cd tx pt qt av nv tn pn) H → va_D A (wM h0 a1 a2 a3 a4 a5 cI cZ cd tx pt qt av nv tn pn) → va_S A s.heap H locs → ∀ ls : Array Slot, lv_has ls 8 [(7, .int (nI (frm + d))), (6, .int (bI (sbB F frm d))), (3, .int (nI a)), (4, .int (oI (cl pt qt pn a))), (5, .int (bI (iu pt qt pn a (nI 42)))), (0, .ref h0), (1, .int (nI frm)), (2, .int (nI too))] → W p l e (Rm 3 74) s mm [.ref h0, .int (nI frm), .int (nI too)].toArray below meth c H locs 0 0 (MQ below (va_Qv (fun (u : (Nat → Int32) × (Nat → Int32)) => ∀ j, j ≤ 400 → u.1 j = bI (mM tx pt qt pn frm too j)) (fun (u : (Nat → Int32) × (Nat → Int32)) (t : State) => va_P (dC, dI) classes (wM h0 a1 a2 a3 a4 a5 cI cZ cd tx pt qt u.1 u.2 tn pn) t.heap ∧ va_K (dC, dI) classes (tyIZ cI cZ) t ∧ va_D A (wM h0 a1 a2 a3 a4 a5 cI cZ cd tx pt qt u.1 u.2 tn pn)) A) [.ref h0, .int (nI frm), .int (nI too)].toArray s 0 0 A) (F0 mm 88 ls []) := by
                      intro n3
                      induction n3 with
                      | zero => intro d nv H locs h1 h2; exact absurd h2 (by omega)
                      | succ n3 ih3 =>
                        intro d nv H locs hd3 hn3 hdt hN hP hD hS ls hl
                        refine lv_iload hx hb d_M_go_88 (lv_at hl 0 rfl) ?_
                        refine lv_iload_n hx hb d_M_go_90 rfl (lv_at hl 7 rfl) ?_
                        refine lv_icmp_gt (tgt := 182) hx hb d_M_go_91 (by decide) (fun c_1 => ?_) (fun c_1 => ?_)
                        · have c_1 := (nI_ltI (by omega) (by omega)).mp c_1
                          refine lv_iconst (v := nI 0) hx hb d_M_go_182 (by decide) ?_
                          refine lv_istore (lv' := [(7, .int (nI 0)), (6, .int (bI (sbB F frm d))), (3, .int (nI a)), (4, .int (oI (cl pt qt pn a))), (5, .int (bI (iu pt qt pn a (nI 42)))), (0, .ref h0), (1, .int (nI frm)), (2, .int (nI too))]) hx hb d_M_go_183 hl (by decide) rfl (fun ls hl => ?_)
                          have hE3 : ∀ j, j ≤ 400 → nv j = bI (sgB tx pt qt pn frm too F a j) := by
                            intro j q
                            rw [hN j q]; unfold sgB; rw [show too + 1 - frm = d by omega]
                          have L185 : ∀ (n4 j4 : Nat) (aw : Nat → Int32) (H : Heap) (locs : List Loc), j4 ≤ 1000 → 1000 < j4 + n4 → (∀ j, j < j4 → j ≤ 400 → aw j = bI (sgB tx pt qt pn frm too F a j)) → va_P (dC, dI) classes (wM h0 a1 a2 a3 a4 a5 cI cZ cd tx pt qt aw nv tn pn) H → va_D A (wM h0 a1 a2 a3 a4 a5 cI cZ cd tx pt qt aw nv tn pn) → va_S A s.heap H locs → ∀ ls : Array Slot, lv_has ls 8 [(7, .int (nI j4)), (3, .int (nI a)), (4, .int (oI (cl pt qt pn a))), (5, .int (bI (iu pt qt pn a (nI 42)))), (0, .ref h0), (1, .int (nI frm)), (2, .int (nI too))] → W p l e (Rm 3 74) s mm [.ref h0, .int (nI frm), .int (nI too)].toArray below meth c H locs 0 0 (MQ below (va_Qv (fun (u : (Nat → Int32) × (Nat → Int32)) => ∀ j, j ≤ 400 → u.1 j = bI (mM tx pt qt pn frm too j)) (fun (u : (Nat → Int32) × (Nat → Int32)) (t : State) => va_P (dC, dI) classes (wM h0 a1 a2 a3 a4 a5 cI cZ cd tx pt qt u.1 u.2 tn pn) t.heap ∧ va_K (dC, dI) classes (tyIZ cI cZ) t ∧ va_D A (wM h0 a1 a2 a3 a4 a5 cI cZ cd tx pt qt u.1 u.2 tn pn)) A) [.ref h0, .int (nI frm), .int (nI too)].toArray s 0 0 A) (F0 mm 185 ls []) := by
                            intro n4
                            induction n4 with
                            | zero => intro j4 aw H locs h1 h2; exact absurd h2 (by omega)
                            | succ n4 ih4 =>
                              intro j4 aw H locs hj4 hn4 hE4 hP hD hS ls hl
                              refine lv_iload hx hb d_M_go_185 (lv_at hl 0 rfl) ?_
                              refine lv_sipush (v := nI 400) hx hb d_M_go_187 (by decide) ?_
                              refine lv_icmp_gt (tgt := 213) hx hb d_M_go_190 (by decide) (fun c_1 => ?_) (fun c_1 => ?_)
                              · have c_1 := (nI_ltI (by omega) (by omega)).mp c_1
                                refine lv_iload hx hb d_M_go_213 (lv_at hl 2 rfl) ?_
                                refine lv_iconst (v := -1) hx hb d_M_go_215 (by decide) ?_
                                refine lv_icmp_eq (tgt := 226) hx hb d_M_go_216 (by decide) (fun c_2 => ?_) (fun c_2 => ?_)
                                · have c_2 := (cl_m1 hp).mp c_2
                                  refine lv_iload_n hx hb d_M_go_226 rfl (lv_at hl 1 rfl) ?_
                                  refine lv_iconst (v := nI 1) hx hb d_M_go_227 (by decide) ?_
                                  refine lv_iadd hx hb d_M_go_228 ?_
                                  refine lv_topi (fun v_3 ev_3 => ?_)
                                  obtain rfl : v_3 = nI (a + 1) := ev_3.trans (nI_add _ _)
                                  refine lv_istore_n (lv' := [(3, .int (nI (a + 1))), (7, .int (nI j4)), (4, .int (oI (cl pt qt pn a))), (5, .int (bI (iu pt qt pn a (nI 42)))), (0, .ref h0), (1, .int (nI frm)), (2, .int (nI too))]) hx hb d_M_go_229 rfl hl (by decide) rfl (fun ls hl => ?_)
                                  refine lv_goto (tgt := 33) hx hb d_M_go_230 (by decide) ?_
                                  exact ih (nx pt qt pn a) (sgB tx pt qt pn frm too F a) _ _ _ _ (nx_le (by omega)) (by omega) (by rw [← rdB_go (by omega)]; exact hE) (fun j q => hE4 j (by omega) q) hP hD hS ls (by have hl := (lv_sub hl [0, 4, 5, 6] rfl); rw [show nx pt qt pn a = a + 1 by unfold nx; rw [‹cl pt qt pn a = _›]]; exact hl)
                                · obtain ⟨kk, hkk⟩ : ∃ kk, cl pt qt pn a = some kk := by
                                    cases q : cl pt qt pn a with
                                    | none => exact absurd ((cl_m1 hp).mpr q) c_2
                                    | some kk => exact ⟨kk, rfl⟩
                                  have hl : lv_has ls 8 [(7, .int (nI j4)), (3, .int (nI a)), (4, .int (nI kk)), (5, .int (bI (iu pt qt pn a (nI 42)))), (0, .ref h0), (1, .int (nI frm)), (2, .int (nI too))] := by rw [hkk] at hl; exact hl
                                  refine lv_iload hx hb d_M_go_219 (lv_at hl 2 rfl) ?_
                                  refine lv_iconst (v := nI 1) hx hb d_M_go_221 (by decide) ?_
                                  refine lv_iadd hx hb d_M_go_222 ?_
                                  refine lv_topi (fun v_4 ev_4 => ?_)
                                  obtain rfl : v_4 = nI (kk + 1) := ev_4.trans (nI_add _ _)
                                  refine lv_goto (tgt := 229) hx hb d_M_go_223 (by decide) ?_
                                  refine lv_istore_n (lv' := [(3, .int (nI (kk + 1))), (7, .int (nI j4)), (4, .int (nI kk)), (5, .int (bI (iu pt qt pn a (nI 42)))), (0, .ref h0), (1, .int (nI frm)), (2, .int (nI too))]) hx hb d_M_go_229 rfl hl (by decide) rfl (fun ls hl => ?_)
                                  refine lv_goto (tgt := 33) hx hb d_M_go_230 (by decide) ?_
                                  exact ih (nx pt qt pn a) (sgB tx pt qt pn frm too F a) _ _ _ _ (nx_le (by omega)) (by omega) (by rw [← rdB_go (by omega)]; exact hE) (fun j q => hE4 j (by omega) q) hP hD hS ls (by have hl := (lv_sub hl [0, 4, 5, 6] rfl); rw [show nx pt qt pn a = kk + 1 by unfold nx; rw [‹cl pt qt pn a = _›]]; exact hl)
                              · have c_1 := mt (nI_ltI (by omega) (by omega)).mpr c_1
                                refine lv_aload_n hx hb d_M_go_193 rfl (lv_at hl 4 rfl) ?_
                                refine va_get (D := (dC, dI)) (ci := 1) (v := .ref a4) (C := R_M) (T := F_M) (N := 8) hx hb htB in_M hown hK hP 0 rfl rfl 6 (by decide) (htB _ hfl_M_20) (fun _ h9 => h9) rfl d_M_go_194 ?_
                                refine lv_iload hx hb d_M_go_197 (lv_at hl 0 rfl) ?_
                                refine lv_aload_n hx hb d_M_go_199 rfl (lv_at hl 4 rfl) ?_
                                refine va_get (D := (dC, dI)) (ci := 1) (v := .ref a5) (C := R_M) (T := F_M) (N := 8) hx hb htB in_M hown hK hP 0 rfl rfl 7 (by decide) (htB _ hfl_M_23) (fun _ h9 => h9) rfl d_M_go_200 ?_
                                refine lv_iload hx hb d_M_go_203 (lv_at hl 0 rfl) ?_
                                refine va_zald hx hb hK hP 5 1 rfl rfl (vp_in_nI (n := j4) (by omega) (by decide)) d_M_go_205 ?_
                                refine lv_topi (fun v_5 ev_5 => ?_)
                                obtain rfl : v_5 = bI (sgB tx pt qt pn frm too F a j4) := (show v_5 = nv j4 from ev_5.trans (by rw [nI_clamp (n := j4) (by omega)])).trans (hE3 j4 (by omega))
                                refine va_zast hx hb hK hP hD hS 4 1 rfl rfl (vp_in_nI (n := j4) (by omega) (by decide)) d_M_go_206 (fun H locs hP hD hS => ?_)
                                rw [nI_clamp (n := j4) (by omega), bI_vn] at hP hD
                                have hP : va_P (dC, dI) classes (wM h0 a1 a2 a3 a4 a5 cI cZ cd tx pt qt (upd aw j4 (bI (sgB tx pt qt pn frm too F a j4))) nv tn pn) H := hP
                                have hD : va_D A (wM h0 a1 a2 a3 a4 a5 cI cZ cd tx pt qt (upd aw j4 (bI (sgB tx pt qt pn frm too F a j4))) nv tn pn) := hD
                                refine lv_iinc (v := nI (j4 + 1)) (lv' := [(7, .int (nI (j4 + 1))), (3, .int (nI a)), (4, .int (oI (cl pt qt pn a))), (5, .int (bI (iu pt qt pn a (nI 42)))), (0, .ref h0), (1, .int (nI frm)), (2, .int (nI too))]) hx hb d_M_go_207 hl (k := 0) rfl (nI_add _ 1) (by decide) rfl (fun ls hl => ?_)
                                refine lv_goto (tgt := 185) hx hb d_M_go_210 (by decide) ?_
                                refine ih4 (j4 + 1) _ _ _ (by omega) (by omega) (fun j q1 q2 => ?_) hP hD hS ls (lv_sub hl [0, 1, 2, 3, 4, 5, 6] rfl)
                                by_cases q : j = j4
                                · subst q; rw [pk_us]
                                · rw [pk_un q]; exact hE4 j (by omega) q2
                          exact L185 1001 0 _ _ _ (by omega) (by omega) (fun j q => absurd q (by omega)) hP hD hS ls (lv_sub hl [0, 2, 3, 4, 5, 6, 7] rfl)
                        · have c_1 := mt (nI_ltI (by omega) (by omega)).mpr c_1
                          refine lv_iload hx hb d_M_go_94 (lv_at hl 1 rfl) ?_
                          refine lv_if_ne (tgt := 109) hx hb d_M_go_96 (by decide) (fun c_2 => ?_) (fun c_2 => ?_)
                          · have c_2 := bI_nz.mp c_2
                            refine lv_iconst (v := nI 1) hx hb d_M_go_109 (by decide) ?_
                            refine lv_goto (tgt := 114) hx hb d_M_go_110 (by decide) ?_
                            refine lv_istore (lv' := [(6, .int (nI 1)), (7, .int (nI (frm + d))), (3, .int (nI a)), (4, .int (oI (cl pt qt pn a))), (5, .int (bI (iu pt qt pn a (nI 42)))), (0, .ref h0), (1, .int (nI frm)), (2, .int (nI too))]) hx hb d_M_go_114 hl (by decide) rfl (fun ls hl => ?_)
                            refine lv_iload hx hb d_M_go_116 (lv_at hl 4 rfl) ?_
                            refine lv_if_eq (tgt := 133) hx hb d_M_go_118 (by decide) (fun c_3 => ?_) (fun c_3 => ?_)
                            · have c_3 := bI_z.mp c_3
                              refine lv_aload_n hx hb d_M_go_133 rfl (lv_at hl 5 rfl) ?_
                              refine va_get (D := (dC, dI)) (ci := 1) (v := .ref a4) (C := R_M) (T := F_M) (N := 8) hx hb htB in_M hown hK hP 0 rfl rfl 6 (by decide) (htB _ hfl_M_20) (fun _ h9 => h9) rfl d_M_go_134 ?_
                              refine lv_iload hx hb d_M_go_137 (lv_at hl 1 rfl) ?_
                              refine va_zald hx hb hK hP 4 1 rfl rfl (vp_in_nI (n := frm + d) (by omega) (by decide)) d_M_go_139 ?_
                              refine lv_topi (fun v_4 ev_4 => ?_)
                              obtain rfl : v_4 = bI (F (frm + d)) := (show v_4 = av (frm + d) from ev_4.trans (by rw [nI_clamp (n := frm + d) (by omega)])).trans (hav (frm + d) (by omega))
                              refine lv_if_eq (tgt := 176) hx hb d_M_go_140 (by decide) (fun c_5 => ?_) (fun c_5 => ?_)
                              · have c_5 := bI_z.mp c_5
                                refine lv_iinc (v := nI (frm + d + 1)) (lv' := [(7, .int (nI (frm + d + 1))), (6, .int (nI 1)), (3, .int (nI a)), (4, .int (oI (cl pt qt pn a))), (5, .int (bI (iu pt qt pn a (nI 42)))), (0, .ref h0), (1, .int (nI frm)), (2, .int (nI too))]) hx hb d_M_go_176 hl (k := 1) rfl (nI_add _ 1) (by decide) rfl (fun ls hl => ?_)
                                refine lv_goto (tgt := 88) hx hb d_M_go_179 (by decide) ?_
                                have hs9 : sbB F frm (d + 1) = true := by
                                  show (sbB F frm d || F (frm + d)) = _
                                  first | (rw [‹sbB F frm d = true›]; rfl) | (rw [‹F (frm + d) = true›, Bool.or_true])
                                exact ih3 (d + 1) _ _ _ (by omega) (by omega) (by omega) (NB_miss ‹_› (by first | exact Or.inl ‹_› | exact Or.inr (Or.inl (by omega)) | exact Or.inr (Or.inr ‹_›)) hN) hP hD hS ls (by rw [hs9]; exact (lv_sub hl [0, 1, 2, 3, 4, 5, 6, 7] rfl))
                              · have c_5 := bI_nz.mp c_5
                                refine lv_iload hx hb d_M_go_143 (lv_at hl 1 rfl) ?_
                                refine lv_iload_n hx hb d_M_go_145 rfl (lv_at hl 7 rfl) ?_
                                refine lv_icmp_ge (tgt := 176) hx hb d_M_go_146 (by decide) (fun c_6 => ?_) (fun c_6 => ?_)
                                · have c_6 := (nI_leI (by omega) (by omega)).mp c_6
                                  refine lv_iinc (v := nI (frm + d + 1)) (lv' := [(7, .int (nI (frm + d + 1))), (6, .int (nI 1)), (3, .int (nI a)), (4, .int (oI (cl pt qt pn a))), (5, .int (bI (iu pt qt pn a (nI 42)))), (0, .ref h0), (1, .int (nI frm)), (2, .int (nI too))]) hx hb d_M_go_176 hl (k := 1) rfl (nI_add _ 1) (by decide) rfl (fun ls hl => ?_)
                                  refine lv_goto (tgt := 88) hx hb d_M_go_179 (by decide) ?_
                                  have hs9 : sbB F frm (d + 1) = true := by
                                    show (sbB F frm d || F (frm + d)) = _
                                    first | (rw [‹sbB F frm d = true›]; rfl) | (rw [‹F (frm + d) = true›, Bool.or_true])
                                  exact ih3 (d + 1) _ _ _ (by omega) (by omega) (by omega) (NB_miss ‹_› (by first | exact Or.inl ‹_› | exact Or.inr (Or.inl (by omega)) | exact Or.inr (Or.inr ‹_›)) hN) hP hD hS ls (by rw [hs9]; exact (lv_sub hl [0, 1, 2, 3, 4, 5, 6, 7] rfl))
                                · have c_6 := mt (nI_leI (by omega) (by omega)).mpr c_6
                                  refine lv_aload_n hx hb d_M_go_149 rfl (lv_at hl 5 rfl) ?_
                                  refine lv_iload_n hx hb d_M_go_150 rfl (lv_at hl 2 rfl) ?_
                                  refine lv_iload hx hb d_M_go_151 (lv_at hl 3 rfl) ?_
                                  refine lv_aload_n hx hb d_M_go_153 rfl (lv_at hl 5 rfl) ?_
                                  refine va_get (D := (dC, dI)) (ci := 1) (v := .ref a1) (C := R_M) (T := F_M) (N := 8) hx hb htB in_M hown hK hP 0 rfl rfl 1 (by decide) (htB _ hfl_M_7) (fun _ h9 => h9) rfl d_M_go_154 ?_
                                  refine lv_iload hx hb d_M_go_157 (lv_at hl 1 rfl) ?_
                                  refine va_iald hx hb hK hP 1 0 rfl rfl (vp_in_nI (n := frm + d) (by omega) (by decide)) d_M_go_159 ?_
                                  refine lv_topi (fun v_7 ev_7 => ?_)
                                  obtain rfl : v_7 = tx (frm + d) := ev_7.trans (by rw [nI_clamp (n := frm + d) (by omega)])
                                  refine r_M_takes hp (by omega) (fun k q => by have := cl_in q; omega) hx hb hml hown htB hK hP hl.1 (Nat.le_of_ble_eq_true rfl) ⟨Nat.le_of_ble_eq_true rfl, Nat.le_of_ble_eq_true rfl⟩ ⟨Nat.zero_le _, Nat.zero_le _⟩ d_M_go_160 ?_
                                  refine lv_if_eq (tgt := 176) hx hb d_M_go_163 (by decide) (fun c_8 => ?_) (fun c_8 => ?_)
                                  · have c_8 := bI_z.mp c_8
                                    refine lv_iinc (v := nI (frm + d + 1)) (lv' := [(7, .int (nI (frm + d + 1))), (6, .int (nI 1)), (3, .int (nI a)), (4, .int (oI (cl pt qt pn a))), (5, .int (bI (iu pt qt pn a (nI 42)))), (0, .ref h0), (1, .int (nI frm)), (2, .int (nI too))]) hx hb d_M_go_176 hl (k := 1) rfl (nI_add _ 1) (by decide) rfl (fun ls hl => ?_)
                                    refine lv_goto (tgt := 88) hx hb d_M_go_179 (by decide) ?_
                                    have hs9 : sbB F frm (d + 1) = true := by
                                      show (sbB F frm d || F (frm + d)) = _
                                      first | (rw [‹sbB F frm d = true›]; rfl) | (rw [‹F (frm + d) = true›, Bool.or_true])
                                    exact ih3 (d + 1) _ _ _ (by omega) (by omega) (by omega) (NB_miss ‹_› (by first | exact Or.inl ‹_› | exact Or.inr (Or.inl (by omega)) | exact Or.inr (Or.inr ‹_›)) hN) hP hD hS ls (by rw [hs9]; exact (lv_sub hl [0, 1, 2, 3, 4, 5, 6, 7] rfl))
                                  · have c_8 := bI_nz.mp c_8
                                    refine lv_aload_n hx hb d_M_go_166 rfl (lv_at hl 5 rfl) ?_
                                    refine va_get (D := (dC, dI)) (ci := 1) (v := .ref a5) (C := R_M) (T := F_M) (N := 8) hx hb htB in_M hown hK hP 0 rfl rfl 7 (by decide) (htB _ hfl_M_23) (fun _ h9 => h9) rfl d_M_go_167 ?_
                                    refine lv_iload hx hb d_M_go_170 (lv_at hl 1 rfl) ?_
                                    refine lv_iconst (v := nI 1) hx hb d_M_go_172 (by decide) ?_
                                    refine lv_iadd hx hb d_M_go_173 ?_
                                    refine lv_topi (fun v_9 ev_9 => ?_)
                                    obtain rfl : v_9 = nI (frm + d + 1) := ev_9.trans (nI_add _ _)
                                    refine lv_iconst (v := nI 1) hx hb d_M_go_174 (by decide) ?_
                                    refine va_zast hx hb hK hP hD hS 5 1 rfl rfl (vp_in_nI (n := frm + d + 1) (by omega) (by decide)) d_M_go_175 (fun H locs hP hD hS => ?_)
                                    rw [nI_clamp (n := frm + d + 1) (by omega), show vp_nar .boolean (nI 1) = nI 1 from rfl] at hP hD
                                    have hP : va_P (dC, dI) classes (wM h0 a1 a2 a3 a4 a5 cI cZ cd tx pt qt av (upd nv (frm + d + 1) (nI 1)) tn pn) H := hP
                                    have hD : va_D A (wM h0 a1 a2 a3 a4 a5 cI cZ cd tx pt qt av (upd nv (frm + d + 1) (nI 1)) tn pn) := hD
                                    refine lv_iinc (v := nI (frm + d + 1)) (lv' := [(7, .int (nI (frm + d + 1))), (6, .int (nI 1)), (3, .int (nI a)), (4, .int (oI (cl pt qt pn a))), (5, .int (bI (iu pt qt pn a (nI 42)))), (0, .ref h0), (1, .int (nI frm)), (2, .int (nI too))]) hx hb d_M_go_176 hl (k := 1) rfl (nI_add _ 1) (by decide) rfl (fun ls hl => ?_)
                                    refine lv_goto (tgt := 88) hx hb d_M_go_179 (by decide) ?_
                                    have hs9 : sbB F frm (d + 1) = true := by
                                      show (sbB F frm d || F (frm + d)) = _
                                      first | (rw [‹sbB F frm d = true›]; rfl) | (rw [‹F (frm + d) = true›, Bool.or_true])
                                    exact ih3 (d + 1) _ _ _ (by omega) (by omega) (by omega) (NB_hit ‹_› ‹_› (by omega) ‹_› hN) hP hD hS ls (by rw [hs9]; exact (lv_sub hl [0, 1, 2, 3, 4, 5, 6, 7] rfl))
                            · have c_3 := bI_nz.mp c_3
                              refine lv_aload_n hx hb d_M_go_121 rfl (lv_at hl 5 rfl) ?_
                              refine va_get (D := (dC, dI)) (ci := 1) (v := .ref a5) (C := R_M) (T := F_M) (N := 8) hx hb htB in_M hown hK hP 0 rfl rfl 7 (by decide) (htB _ hfl_M_23) (fun _ h9 => h9) rfl d_M_go_122 ?_
                              refine lv_iload hx hb d_M_go_125 (lv_at hl 1 rfl) ?_
                              refine lv_iload hx hb d_M_go_127 (lv_at hl 0 rfl) ?_
                              refine va_zast hx hb hK hP hD hS 5 1 rfl rfl (vp_in_nI (n := frm + d) (by omega) (by decide)) d_M_go_129 (fun H locs hP hD hS => ?_)
                              rw [nI_clamp (n := frm + d) (by omega), show vp_nar .boolean (nI 1) = nI 1 from rfl] at hP hD
                              have hP : va_P (dC, dI) classes (wM h0 a1 a2 a3 a4 a5 cI cZ cd tx pt qt av (upd nv (frm + d) (nI 1)) tn pn) H := hP
                              have hD : va_D A (wM h0 a1 a2 a3 a4 a5 cI cZ cd tx pt qt av (upd nv (frm + d) (nI 1)) tn pn) := hD
                              refine lv_goto (tgt := 176) hx hb d_M_go_130 (by decide) ?_
                              refine lv_iinc (v := nI (frm + d + 1)) (lv' := [(7, .int (nI (frm + d + 1))), (6, .int (nI 1)), (3, .int (nI a)), (4, .int (oI (cl pt qt pn a))), (5, .int (bI (iu pt qt pn a (nI 42)))), (0, .ref h0), (1, .int (nI frm)), (2, .int (nI too))]) hx hb d_M_go_176 hl (k := 1) rfl (nI_add _ 1) (by decide) rfl (fun ls hl => ?_)
                              refine lv_goto (tgt := 88) hx hb d_M_go_179 (by decide) ?_
                              have hs9 : sbB F frm (d + 1) = true := by
                                show (sbB F frm d || F (frm + d)) = _
                                first | (rw [‹sbB F frm d = true›]; rfl) | (rw [‹F (frm + d) = true›, Bool.or_true])
                              exact ih3 (d + 1) _ _ _ (by omega) (by omega) (by omega) (NB_star (v := true) ‹_› hs9.symm hN) hP hD hS ls (by rw [hs9]; exact (lv_sub hl [0, 1, 2, 3, 4, 5, 6, 7] rfl))
                          · have c_2 := bI_z.mp c_2
                            refine lv_aload_n hx hb d_M_go_99 rfl (lv_at hl 5 rfl) ?_
                            refine va_get (D := (dC, dI)) (ci := 1) (v := .ref a4) (C := R_M) (T := F_M) (N := 8) hx hb htB in_M hown hK hP 0 rfl rfl 6 (by decide) (htB _ hfl_M_20) (fun _ h9 => h9) rfl d_M_go_100 ?_
                            refine lv_iload hx hb d_M_go_103 (lv_at hl 0 rfl) ?_
                            refine va_zald hx hb hK hP 4 1 rfl rfl (vp_in_nI (n := frm + d) (by omega) (by decide)) d_M_go_105 ?_
                            refine lv_topi (fun v_10 ev_10 => ?_)
                            obtain rfl : v_10 = bI (F (frm + d)) := (show v_10 = av (frm + d) from ev_10.trans (by rw [nI_clamp (n := frm + d) (by omega)])).trans (hav (frm + d) (by omega))
                            refine lv_if_eq (tgt := 113) hx hb d_M_go_106 (by decide) (fun c_11 => ?_) (fun c_11 => ?_)
                            · have c_11 := bI_z.mp c_11
                              refine lv_iconst (v := nI 0) hx hb d_M_go_113 (by decide) ?_
                              refine lv_istore (lv' := [(6, .int (nI 0)), (7, .int (nI (frm + d))), (3, .int (nI a)), (4, .int (oI (cl pt qt pn a))), (5, .int (bI (iu pt qt pn a (nI 42)))), (0, .ref h0), (1, .int (nI frm)), (2, .int (nI too))]) hx hb d_M_go_114 hl (by decide) rfl (fun ls hl => ?_)
                              refine lv_iload hx hb d_M_go_116 (lv_at hl 4 rfl) ?_
                              refine lv_if_eq (tgt := 133) hx hb d_M_go_118 (by decide) (fun c_12 => ?_) (fun c_12 => ?_)
                              · have c_12 := bI_z.mp c_12
                                refine lv_aload_n hx hb d_M_go_133 rfl (lv_at hl 5 rfl) ?_
                                refine va_get (D := (dC, dI)) (ci := 1) (v := .ref a4) (C := R_M) (T := F_M) (N := 8) hx hb htB in_M hown hK hP 0 rfl rfl 6 (by decide) (htB _ hfl_M_20) (fun _ h9 => h9) rfl d_M_go_134 ?_
                                refine lv_iload hx hb d_M_go_137 (lv_at hl 1 rfl) ?_
                                refine va_zald hx hb hK hP 4 1 rfl rfl (vp_in_nI (n := frm + d) (by omega) (by decide)) d_M_go_139 ?_
                                refine lv_topi (fun v_13 ev_13 => ?_)
                                obtain rfl : v_13 = bI (F (frm + d)) := (show v_13 = av (frm + d) from ev_13.trans (by rw [nI_clamp (n := frm + d) (by omega)])).trans (hav (frm + d) (by omega))
                                refine lv_if_eq (tgt := 176) hx hb d_M_go_140 (by decide) (fun c_14 => ?_) (fun c_14 => ?_)
                                · have c_14 := bI_z.mp c_14
                                  refine lv_iinc (v := nI (frm + d + 1)) (lv' := [(7, .int (nI (frm + d + 1))), (6, .int (nI 0)), (3, .int (nI a)), (4, .int (oI (cl pt qt pn a))), (5, .int (bI (iu pt qt pn a (nI 42)))), (0, .ref h0), (1, .int (nI frm)), (2, .int (nI too))]) hx hb d_M_go_176 hl (k := 1) rfl (nI_add _ 1) (by decide) rfl (fun ls hl => ?_)
                                  refine lv_goto (tgt := 88) hx hb d_M_go_179 (by decide) ?_
                                  have hs9 : sbB F frm (d + 1) = false := by
                                    show (sbB F frm d || F (frm + d)) = _
                                    rw [‹sbB F frm d = false›, ‹F (frm + d) = false›]; rfl
                                  exact ih3 (d + 1) _ _ _ (by omega) (by omega) (by omega) (NB_miss ‹_› (by first | exact Or.inl ‹_› | exact Or.inr (Or.inl (by omega)) | exact Or.inr (Or.inr ‹_›)) hN) hP hD hS ls (by rw [hs9]; exact (lv_sub hl [0, 1, 2, 3, 4, 5, 6, 7] rfl))
                                · have c_14 := bI_nz.mp c_14
                                  refine lv_iload hx hb d_M_go_143 (lv_at hl 1 rfl) ?_
                                  refine lv_iload_n hx hb d_M_go_145 rfl (lv_at hl 7 rfl) ?_
                                  refine lv_icmp_ge (tgt := 176) hx hb d_M_go_146 (by decide) (fun c_15 => ?_) (fun c_15 => ?_)
                                  · have c_15 := (nI_leI (by omega) (by omega)).mp c_15
                                    refine lv_iinc (v := nI (frm + d + 1)) (lv' := [(7, .int (nI (frm + d + 1))), (6, .int (nI 0)), (3, .int (nI a)), (4, .int (oI (cl pt qt pn a))), (5, .int (bI (iu pt qt pn a (nI 42)))), (0, .ref h0), (1, .int (nI frm)), (2, .int (nI too))]) hx hb d_M_go_176 hl (k := 1) rfl (nI_add _ 1) (by decide) rfl (fun ls hl => ?_)
                                    refine lv_goto (tgt := 88) hx hb d_M_go_179 (by decide) ?_
                                    have hs9 : sbB F frm (d + 1) = false := by
                                      show (sbB F frm d || F (frm + d)) = _
                                      rw [‹sbB F frm d = false›, ‹F (frm + d) = false›]; rfl
                                    exact ih3 (d + 1) _ _ _ (by omega) (by omega) (by omega) (NB_miss ‹_› (by first | exact Or.inl ‹_› | exact Or.inr (Or.inl (by omega)) | exact Or.inr (Or.inr ‹_›)) hN) hP hD hS ls (by rw [hs9]; exact (lv_sub hl [0, 1, 2, 3, 4, 5, 6, 7] rfl))
                                  · have c_15 := mt (nI_leI (by omega) (by omega)).mpr c_15
                                    refine lv_aload_n hx hb d_M_go_149 rfl (lv_at hl 5 rfl) ?_
                                    refine lv_iload_n hx hb d_M_go_150 rfl (lv_at hl 2 rfl) ?_
                                    refine lv_iload hx hb d_M_go_151 (lv_at hl 3 rfl) ?_
                                    refine lv_aload_n hx hb d_M_go_153 rfl (lv_at hl 5 rfl) ?_
                                    refine va_get (D := (dC, dI)) (ci := 1) (v := .ref a1) (C := R_M) (T := F_M) (N := 8) hx hb htB in_M hown hK hP 0 rfl rfl 1 (by decide) (htB _ hfl_M_7) (fun _ h9 => h9) rfl d_M_go_154 ?_
                                    refine lv_iload hx hb d_M_go_157 (lv_at hl 1 rfl) ?_
                                    refine va_iald hx hb hK hP 1 0 rfl rfl (vp_in_nI (n := frm + d) (by omega) (by decide)) d_M_go_159 ?_
                                    refine lv_topi (fun v_16 ev_16 => ?_)
                                    obtain rfl : v_16 = tx (frm + d) := ev_16.trans (by rw [nI_clamp (n := frm + d) (by omega)])
                                    refine r_M_takes hp (by omega) (fun k q => by have := cl_in q; omega) hx hb hml hown htB hK hP hl.1 (Nat.le_of_ble_eq_true rfl) ⟨Nat.le_of_ble_eq_true rfl, Nat.le_of_ble_eq_true rfl⟩ ⟨Nat.zero_le _, Nat.zero_le _⟩ d_M_go_160 ?_
                                    refine lv_if_eq (tgt := 176) hx hb d_M_go_163 (by decide) (fun c_17 => ?_) (fun c_17 => ?_)
                                    · have c_17 := bI_z.mp c_17
                                      refine lv_iinc (v := nI (frm + d + 1)) (lv' := [(7, .int (nI (frm + d + 1))), (6, .int (nI 0)), (3, .int (nI a)), (4, .int (oI (cl pt qt pn a))), (5, .int (bI (iu pt qt pn a (nI 42)))), (0, .ref h0), (1, .int (nI frm)), (2, .int (nI too))]) hx hb d_M_go_176 hl (k := 1) rfl (nI_add _ 1) (by decide) rfl (fun ls hl => ?_)
                                      refine lv_goto (tgt := 88) hx hb d_M_go_179 (by decide) ?_
                                      have hs9 : sbB F frm (d + 1) = false := by
                                        show (sbB F frm d || F (frm + d)) = _
                                        rw [‹sbB F frm d = false›, ‹F (frm + d) = false›]; rfl
                                      exact ih3 (d + 1) _ _ _ (by omega) (by omega) (by omega) (NB_miss ‹_› (by first | exact Or.inl ‹_› | exact Or.inr (Or.inl (by omega)) | exact Or.inr (Or.inr ‹_›)) hN) hP hD hS ls (by rw [hs9]; exact (lv_sub hl [0, 1, 2, 3, 4, 5, 6, 7] rfl))
                                    · have c_17 := bI_nz.mp c_17
                                      refine lv_aload_n hx hb d_M_go_166 rfl (lv_at hl 5 rfl) ?_
                                      refine va_get (D := (dC, dI)) (ci := 1) (v := .ref a5) (C := R_M) (T := F_M) (N := 8) hx hb htB in_M hown hK hP 0 rfl rfl 7 (by decide) (htB _ hfl_M_23) (fun _ h9 => h9) rfl d_M_go_167 ?_
                                      refine lv_iload hx hb d_M_go_170 (lv_at hl 1 rfl) ?_
                                      refine lv_iconst (v := nI 1) hx hb d_M_go_172 (by decide) ?_
                                      refine lv_iadd hx hb d_M_go_173 ?_
                                      refine lv_topi (fun v_18 ev_18 => ?_)
                                      obtain rfl : v_18 = nI (frm + d + 1) := ev_18.trans (nI_add _ _)
                                      refine lv_iconst (v := nI 1) hx hb d_M_go_174 (by decide) ?_
                                      refine va_zast hx hb hK hP hD hS 5 1 rfl rfl (vp_in_nI (n := frm + d + 1) (by omega) (by decide)) d_M_go_175 (fun H locs hP hD hS => ?_)
                                      rw [nI_clamp (n := frm + d + 1) (by omega), show vp_nar .boolean (nI 1) = nI 1 from rfl] at hP hD
                                      have hP : va_P (dC, dI) classes (wM h0 a1 a2 a3 a4 a5 cI cZ cd tx pt qt av (upd nv (frm + d + 1) (nI 1)) tn pn) H := hP
                                      have hD : va_D A (wM h0 a1 a2 a3 a4 a5 cI cZ cd tx pt qt av (upd nv (frm + d + 1) (nI 1)) tn pn) := hD
                                      refine lv_iinc (v := nI (frm + d + 1)) (lv' := [(7, .int (nI (frm + d + 1))), (6, .int (nI 0)), (3, .int (nI a)), (4, .int (oI (cl pt qt pn a))), (5, .int (bI (iu pt qt pn a (nI 42)))), (0, .ref h0), (1, .int (nI frm)), (2, .int (nI too))]) hx hb d_M_go_176 hl (k := 1) rfl (nI_add _ 1) (by decide) rfl (fun ls hl => ?_)
                                      refine lv_goto (tgt := 88) hx hb d_M_go_179 (by decide) ?_
                                      have hs9 : sbB F frm (d + 1) = false := by
                                        show (sbB F frm d || F (frm + d)) = _
                                        rw [‹sbB F frm d = false›, ‹F (frm + d) = false›]; rfl
                                      exact ih3 (d + 1) _ _ _ (by omega) (by omega) (by omega) (NB_hit ‹_› ‹_› (by omega) ‹_› hN) hP hD hS ls (by rw [hs9]; exact (lv_sub hl [0, 1, 2, 3, 4, 5, 6, 7] rfl))
                              · have c_12 := bI_nz.mp c_12
                                refine lv_aload_n hx hb d_M_go_121 rfl (lv_at hl 5 rfl) ?_
                                refine va_get (D := (dC, dI)) (ci := 1) (v := .ref a5) (C := R_M) (T := F_M) (N := 8) hx hb htB in_M hown hK hP 0 rfl rfl 7 (by decide) (htB _ hfl_M_23) (fun _ h9 => h9) rfl d_M_go_122 ?_
                                refine lv_iload hx hb d_M_go_125 (lv_at hl 1 rfl) ?_
                                refine lv_iload hx hb d_M_go_127 (lv_at hl 0 rfl) ?_
                                refine va_zast hx hb hK hP hD hS 5 1 rfl rfl (vp_in_nI (n := frm + d) (by omega) (by decide)) d_M_go_129 (fun H locs hP hD hS => ?_)
                                rw [nI_clamp (n := frm + d) (by omega), show vp_nar .boolean (nI 0) = nI 0 from rfl] at hP hD
                                have hP : va_P (dC, dI) classes (wM h0 a1 a2 a3 a4 a5 cI cZ cd tx pt qt av (upd nv (frm + d) (nI 0)) tn pn) H := hP
                                have hD : va_D A (wM h0 a1 a2 a3 a4 a5 cI cZ cd tx pt qt av (upd nv (frm + d) (nI 0)) tn pn) := hD
                                refine lv_goto (tgt := 176) hx hb d_M_go_130 (by decide) ?_
                                refine lv_iinc (v := nI (frm + d + 1)) (lv' := [(7, .int (nI (frm + d + 1))), (6, .int (nI 0)), (3, .int (nI a)), (4, .int (oI (cl pt qt pn a))), (5, .int (bI (iu pt qt pn a (nI 42)))), (0, .ref h0), (1, .int (nI frm)), (2, .int (nI too))]) hx hb d_M_go_176 hl (k := 1) rfl (nI_add _ 1) (by decide) rfl (fun ls hl => ?_)
                                refine lv_goto (tgt := 88) hx hb d_M_go_179 (by decide) ?_
                                have hs9 : sbB F frm (d + 1) = false := by
                                  show (sbB F frm d || F (frm + d)) = _
                                  rw [‹sbB F frm d = false›, ‹F (frm + d) = false›]; rfl
                                exact ih3 (d + 1) _ _ _ (by omega) (by omega) (by omega) (NB_star (v := false) ‹_› hs9.symm hN) hP hD hS ls (by rw [hs9]; exact (lv_sub hl [0, 1, 2, 3, 4, 5, 6, 7] rfl))
                            · have c_11 := bI_nz.mp c_11
                              refine lv_iconst (v := nI 1) hx hb d_M_go_109 (by decide) ?_
                              refine lv_goto (tgt := 114) hx hb d_M_go_110 (by decide) ?_
                              refine lv_istore (lv' := [(6, .int (nI 1)), (7, .int (nI (frm + d))), (3, .int (nI a)), (4, .int (oI (cl pt qt pn a))), (5, .int (bI (iu pt qt pn a (nI 42)))), (0, .ref h0), (1, .int (nI frm)), (2, .int (nI too))]) hx hb d_M_go_114 hl (by decide) rfl (fun ls hl => ?_)
                              refine lv_iload hx hb d_M_go_116 (lv_at hl 4 rfl) ?_
                              refine lv_if_eq (tgt := 133) hx hb d_M_go_118 (by decide) (fun c_19 => ?_) (fun c_19 => ?_)
                              · have c_19 := bI_z.mp c_19
                                refine lv_aload_n hx hb d_M_go_133 rfl (lv_at hl 5 rfl) ?_
                                refine va_get (D := (dC, dI)) (ci := 1) (v := .ref a4) (C := R_M) (T := F_M) (N := 8) hx hb htB in_M hown hK hP 0 rfl rfl 6 (by decide) (htB _ hfl_M_20) (fun _ h9 => h9) rfl d_M_go_134 ?_
                                refine lv_iload hx hb d_M_go_137 (lv_at hl 1 rfl) ?_
                                refine va_zald hx hb hK hP 4 1 rfl rfl (vp_in_nI (n := frm + d) (by omega) (by decide)) d_M_go_139 ?_
                                refine lv_topi (fun v_20 ev_20 => ?_)
                                obtain rfl : v_20 = bI (F (frm + d)) := (show v_20 = av (frm + d) from ev_20.trans (by rw [nI_clamp (n := frm + d) (by omega)])).trans (hav (frm + d) (by omega))
                                refine lv_if_eq (tgt := 176) hx hb d_M_go_140 (by decide) (fun c_21 => ?_) (fun c_21 => ?_)
                                · have c_21 := bI_z.mp c_21
                                  refine lv_iinc (v := nI (frm + d + 1)) (lv' := [(7, .int (nI (frm + d + 1))), (6, .int (nI 1)), (3, .int (nI a)), (4, .int (oI (cl pt qt pn a))), (5, .int (bI (iu pt qt pn a (nI 42)))), (0, .ref h0), (1, .int (nI frm)), (2, .int (nI too))]) hx hb d_M_go_176 hl (k := 1) rfl (nI_add _ 1) (by decide) rfl (fun ls hl => ?_)
                                  refine lv_goto (tgt := 88) hx hb d_M_go_179 (by decide) ?_
                                  have hs9 : sbB F frm (d + 1) = true := by
                                    show (sbB F frm d || F (frm + d)) = _
                                    first | (rw [‹sbB F frm d = true›]; rfl) | (rw [‹F (frm + d) = true›, Bool.or_true])
                                  exact ih3 (d + 1) _ _ _ (by omega) (by omega) (by omega) (NB_miss ‹_› (by first | exact Or.inl ‹_› | exact Or.inr (Or.inl (by omega)) | exact Or.inr (Or.inr ‹_›)) hN) hP hD hS ls (by rw [hs9]; exact (lv_sub hl [0, 1, 2, 3, 4, 5, 6, 7] rfl))
                                · have c_21 := bI_nz.mp c_21
                                  refine lv_iload hx hb d_M_go_143 (lv_at hl 1 rfl) ?_
                                  refine lv_iload_n hx hb d_M_go_145 rfl (lv_at hl 7 rfl) ?_
                                  refine lv_icmp_ge (tgt := 176) hx hb d_M_go_146 (by decide) (fun c_22 => ?_) (fun c_22 => ?_)
                                  · have c_22 := (nI_leI (by omega) (by omega)).mp c_22
                                    refine lv_iinc (v := nI (frm + d + 1)) (lv' := [(7, .int (nI (frm + d + 1))), (6, .int (nI 1)), (3, .int (nI a)), (4, .int (oI (cl pt qt pn a))), (5, .int (bI (iu pt qt pn a (nI 42)))), (0, .ref h0), (1, .int (nI frm)), (2, .int (nI too))]) hx hb d_M_go_176 hl (k := 1) rfl (nI_add _ 1) (by decide) rfl (fun ls hl => ?_)
                                    refine lv_goto (tgt := 88) hx hb d_M_go_179 (by decide) ?_
                                    have hs9 : sbB F frm (d + 1) = true := by
                                      show (sbB F frm d || F (frm + d)) = _
                                      first | (rw [‹sbB F frm d = true›]; rfl) | (rw [‹F (frm + d) = true›, Bool.or_true])
                                    exact ih3 (d + 1) _ _ _ (by omega) (by omega) (by omega) (NB_miss ‹_› (by first | exact Or.inl ‹_› | exact Or.inr (Or.inl (by omega)) | exact Or.inr (Or.inr ‹_›)) hN) hP hD hS ls (by rw [hs9]; exact (lv_sub hl [0, 1, 2, 3, 4, 5, 6, 7] rfl))
                                  · have c_22 := mt (nI_leI (by omega) (by omega)).mpr c_22
                                    refine lv_aload_n hx hb d_M_go_149 rfl (lv_at hl 5 rfl) ?_
                                    refine lv_iload_n hx hb d_M_go_150 rfl (lv_at hl 2 rfl) ?_
                                    refine lv_iload hx hb d_M_go_151 (lv_at hl 3 rfl) ?_
                                    refine lv_aload_n hx hb d_M_go_153 rfl (lv_at hl 5 rfl) ?_
                                    refine va_get (D := (dC, dI)) (ci := 1) (v := .ref a1) (C := R_M) (T := F_M) (N := 8) hx hb htB in_M hown hK hP 0 rfl rfl 1 (by decide) (htB _ hfl_M_7) (fun _ h9 => h9) rfl d_M_go_154 ?_
                                    refine lv_iload hx hb d_M_go_157 (lv_at hl 1 rfl) ?_
                                    refine va_iald hx hb hK hP 1 0 rfl rfl (vp_in_nI (n := frm + d) (by omega) (by decide)) d_M_go_159 ?_
                                    refine lv_topi (fun v_23 ev_23 => ?_)
                                    obtain rfl : v_23 = tx (frm + d) := ev_23.trans (by rw [nI_clamp (n := frm + d) (by omega)])
                                    refine r_M_takes hp (by omega) (fun k q => by have := cl_in q; omega) hx hb hml hown htB hK hP hl.1 (Nat.le_of_ble_eq_true rfl) ⟨Nat.le_of_ble_eq_true rfl, Nat.le_of_ble_eq_true rfl⟩ ⟨Nat.zero_le _, Nat.zero_le _⟩ d_M_go_160 ?_
                                    refine lv_if_eq (tgt := 176) hx hb d_M_go_163 (by decide) (fun c_24 => ?_) (fun c_24 => ?_)
                                    · have c_24 := bI_z.mp c_24
                                      refine lv_iinc (v := nI (frm + d + 1)) (lv' := [(7, .int (nI (frm + d + 1))), (6, .int (nI 1)), (3, .int (nI a)), (4, .int (oI (cl pt qt pn a))), (5, .int (bI (iu pt qt pn a (nI 42)))), (0, .ref h0), (1, .int (nI frm)), (2, .int (nI too))]) hx hb d_M_go_176 hl (k := 1) rfl (nI_add _ 1) (by decide) rfl (fun ls hl => ?_)
                                      refine lv_goto (tgt := 88) hx hb d_M_go_179 (by decide) ?_
                                      have hs9 : sbB F frm (d + 1) = true := by
                                        show (sbB F frm d || F (frm + d)) = _
                                        first | (rw [‹sbB F frm d = true›]; rfl) | (rw [‹F (frm + d) = true›, Bool.or_true])
                                      exact ih3 (d + 1) _ _ _ (by omega) (by omega) (by omega) (NB_miss ‹_› (by first | exact Or.inl ‹_› | exact Or.inr (Or.inl (by omega)) | exact Or.inr (Or.inr ‹_›)) hN) hP hD hS ls (by rw [hs9]; exact (lv_sub hl [0, 1, 2, 3, 4, 5, 6, 7] rfl))
                                    · have c_24 := bI_nz.mp c_24
                                      refine lv_aload_n hx hb d_M_go_166 rfl (lv_at hl 5 rfl) ?_
                                      refine va_get (D := (dC, dI)) (ci := 1) (v := .ref a5) (C := R_M) (T := F_M) (N := 8) hx hb htB in_M hown hK hP 0 rfl rfl 7 (by decide) (htB _ hfl_M_23) (fun _ h9 => h9) rfl d_M_go_167 ?_
                                      refine lv_iload hx hb d_M_go_170 (lv_at hl 1 rfl) ?_
                                      refine lv_iconst (v := nI 1) hx hb d_M_go_172 (by decide) ?_
                                      refine lv_iadd hx hb d_M_go_173 ?_
                                      refine lv_topi (fun v_25 ev_25 => ?_)
                                      obtain rfl : v_25 = nI (frm + d + 1) := ev_25.trans (nI_add _ _)
                                      refine lv_iconst (v := nI 1) hx hb d_M_go_174 (by decide) ?_
                                      refine va_zast hx hb hK hP hD hS 5 1 rfl rfl (vp_in_nI (n := frm + d + 1) (by omega) (by decide)) d_M_go_175 (fun H locs hP hD hS => ?_)
                                      rw [nI_clamp (n := frm + d + 1) (by omega), show vp_nar .boolean (nI 1) = nI 1 from rfl] at hP hD
                                      have hP : va_P (dC, dI) classes (wM h0 a1 a2 a3 a4 a5 cI cZ cd tx pt qt av (upd nv (frm + d + 1) (nI 1)) tn pn) H := hP
                                      have hD : va_D A (wM h0 a1 a2 a3 a4 a5 cI cZ cd tx pt qt av (upd nv (frm + d + 1) (nI 1)) tn pn) := hD
                                      refine lv_iinc (v := nI (frm + d + 1)) (lv' := [(7, .int (nI (frm + d + 1))), (6, .int (nI 1)), (3, .int (nI a)), (4, .int (oI (cl pt qt pn a))), (5, .int (bI (iu pt qt pn a (nI 42)))), (0, .ref h0), (1, .int (nI frm)), (2, .int (nI too))]) hx hb d_M_go_176 hl (k := 1) rfl (nI_add _ 1) (by decide) rfl (fun ls hl => ?_)
                                      refine lv_goto (tgt := 88) hx hb d_M_go_179 (by decide) ?_
                                      have hs9 : sbB F frm (d + 1) = true := by
                                        show (sbB F frm d || F (frm + d)) = _
                                        first | (rw [‹sbB F frm d = true›]; rfl) | (rw [‹F (frm + d) = true›, Bool.or_true])
                                      exact ih3 (d + 1) _ _ _ (by omega) (by omega) (by omega) (NB_hit ‹_› ‹_› (by omega) ‹_› hN) hP hD hS ls (by rw [hs9]; exact (lv_sub hl [0, 1, 2, 3, 4, 5, 6, 7] rfl))
                              · have c_19 := bI_nz.mp c_19
                                refine lv_aload_n hx hb d_M_go_121 rfl (lv_at hl 5 rfl) ?_
                                refine va_get (D := (dC, dI)) (ci := 1) (v := .ref a5) (C := R_M) (T := F_M) (N := 8) hx hb htB in_M hown hK hP 0 rfl rfl 7 (by decide) (htB _ hfl_M_23) (fun _ h9 => h9) rfl d_M_go_122 ?_
                                refine lv_iload hx hb d_M_go_125 (lv_at hl 1 rfl) ?_
                                refine lv_iload hx hb d_M_go_127 (lv_at hl 0 rfl) ?_
                                refine va_zast hx hb hK hP hD hS 5 1 rfl rfl (vp_in_nI (n := frm + d) (by omega) (by decide)) d_M_go_129 (fun H locs hP hD hS => ?_)
                                rw [nI_clamp (n := frm + d) (by omega), show vp_nar .boolean (nI 1) = nI 1 from rfl] at hP hD
                                have hP : va_P (dC, dI) classes (wM h0 a1 a2 a3 a4 a5 cI cZ cd tx pt qt av (upd nv (frm + d) (nI 1)) tn pn) H := hP
                                have hD : va_D A (wM h0 a1 a2 a3 a4 a5 cI cZ cd tx pt qt av (upd nv (frm + d) (nI 1)) tn pn) := hD
                                refine lv_goto (tgt := 176) hx hb d_M_go_130 (by decide) ?_
                                refine lv_iinc (v := nI (frm + d + 1)) (lv' := [(7, .int (nI (frm + d + 1))), (6, .int (nI 1)), (3, .int (nI a)), (4, .int (oI (cl pt qt pn a))), (5, .int (bI (iu pt qt pn a (nI 42)))), (0, .ref h0), (1, .int (nI frm)), (2, .int (nI too))]) hx hb d_M_go_176 hl (k := 1) rfl (nI_add _ 1) (by decide) rfl (fun ls hl => ?_)
                                refine lv_goto (tgt := 88) hx hb d_M_go_179 (by decide) ?_
                                have hs9 : sbB F frm (d + 1) = true := by
                                  show (sbB F frm d || F (frm + d)) = _
                                  first | (rw [‹sbB F frm d = true›]; rfl) | (rw [‹F (frm + d) = true›, Bool.or_true])
                                exact ih3 (d + 1) _ _ _ (by omega) (by omega) (by omega) (NB_star (v := true) ‹_› hs9.symm hN) hP hD hS ls (by rw [hs9]; exact (lv_sub hl [0, 1, 2, 3, 4, 5, 6, 7] rfl))
                    exact L88 1001 0 _ _ _ (by omega) (by omega) (by omega) (fun j q => by rw [NB_0]; exact hE2 j (by omega) q) hP hD hS ls (lv_sub hl [0, 1, 2, 3, 4, 5, 6, 7] rfl)
                  · have c_1 := mt (nI_ltI (by omega) (by omega)).mpr c_1
                    refine lv_aload_n hx hb d_M_go_68 rfl (lv_at hl 4 rfl) ?_
                    refine va_get (D := (dC, dI)) (ci := 1) (v := .ref a5) (C := R_M) (T := F_M) (N := 8) hx hb htB in_M hown hK hP 0 rfl rfl 7 (by decide) (htB _ hfl_M_23) (fun _ h9 => h9) rfl d_M_go_69 ?_
                    refine lv_iload hx hb d_M_go_72 (lv_at hl 0 rfl) ?_
                    refine lv_iconst (v := nI 0) hx hb d_M_go_74 (by decide) ?_
                    refine va_zast hx hb hK hP hD hS 5 1 rfl rfl (vp_in_nI (n := j2) (by omega) (by decide)) d_M_go_75 (fun H locs hP hD hS => ?_)
                    rw [nI_clamp (n := j2) (by omega), show vp_nar .boolean (nI 0) = nI 0 from rfl] at hP hD
                    have hP : va_P (dC, dI) classes (wM h0 a1 a2 a3 a4 a5 cI cZ cd tx pt qt av (upd nw j2 (nI 0)) tn pn) H := hP
                    have hD : va_D A (wM h0 a1 a2 a3 a4 a5 cI cZ cd tx pt qt av (upd nw j2 (nI 0)) tn pn) := hD
                    refine lv_iinc (v := nI (j2 + 1)) (lv' := [(6, .int (nI (j2 + 1))), (3, .int (nI a)), (4, .int (oI (cl pt qt pn a))), (5, .int (bI (iu pt qt pn a (nI 42)))), (0, .ref h0), (1, .int (nI frm)), (2, .int (nI too))]) hx hb d_M_go_76 hl (k := 0) rfl (nI_add _ 1) (by decide) rfl (fun ls hl => ?_)
                    refine lv_goto (tgt := 60) hx hb d_M_go_79 (by decide) ?_
                    refine ih2 (j2 + 1) _ _ _ (by omega) (by omega) (fun j q1 q2 => ?_) hP hD hS ls (lv_sub hl [0, 1, 2, 3, 4, 5, 6] rfl)
                    by_cases q : j = j2
                    · subst q; rw [pk_us]; rfl
                    · rw [pk_un q]; exact hE2 j (by omega) q2
              exact L60 1001 0 _ _ _ (by omega) (by omega) (fun j q => absurd q (by omega)) hP hD hS ls (lv_sub hl [0, 3, 2, 1, 4, 5, 6] rfl)
        exact L33 (pn + 1) 0 (fB frm) _ _ _ _ (by omega) (by omega) rfl (fun j q => hE1 j (by omega) q) hP hD hS ls (lv_sub hl [0, 1, 2, 3] rfl)
      · have c_1 := mt (nI_ltI (by omega) (by omega)).mpr c_1
        refine lv_aload_n hx hb d_M_go_9 rfl (lv_at hl 1 rfl) ?_
        refine va_get (D := (dC, dI)) (ci := 1) (v := .ref a4) (C := R_M) (T := F_M) (N := 8) hx hb htB in_M hown hK hP 0 rfl rfl 6 (by decide) (htB _ hfl_M_20) (fun _ h9 => h9) rfl d_M_go_10 ?_
        refine lv_iload_n hx hb d_M_go_13 rfl (lv_at hl 0 rfl) ?_
        refine lv_iload_n hx hb d_M_go_14 rfl (lv_at hl 0 rfl) ?_
        refine lv_iload_n hx hb d_M_go_15 rfl (lv_at hl 2 rfl) ?_
        refine lv_icmp_ne (tgt := 23) hx hb d_M_go_16 (by decide) (fun c_2 => ?_) (fun c_2 => ?_)
        · have c_2 := mt (nI_eq (by omega) (by omega)).mpr c_2
          refine lv_iconst (v := nI 0) hx hb d_M_go_23 (by decide) ?_
          refine va_zast hx hb hK hP hD hS 4 1 rfl rfl (vp_in_nI (n := i) (by omega) (by decide)) d_M_go_24 (fun H locs hP hD hS => ?_)
          rw [nI_clamp (n := i) (by omega), show vp_nar .boolean (nI 0) = nI 0 from rfl] at hP hD
          have hP : va_P (dC, dI) classes (wM h0 a1 a2 a3 a4 a5 cI cZ cd tx pt qt (upd av i (nI 0)) nr tn pn) H := hP
          have hD : va_D A (wM h0 a1 a2 a3 a4 a5 cI cZ cd tx pt qt (upd av i (nI 0)) nr tn pn) := hD
          refine lv_iinc (v := nI (i + 1)) (lv' := [(3, .int (nI (i + 1))), (0, .ref h0), (1, .int (nI frm)), (2, .int (nI too))]) hx hb d_M_go_25 hl (k := 0) rfl (nI_add _ 1) (by decide) rfl (fun ls hl => ?_)
          refine lv_goto (tgt := 2) hx hb d_M_go_28 (by decide) ?_
          refine ih1 (i + 1) _ _ _ (by omega) (by omega) (fun j q1 q2 => ?_) hP hD hS ls (lv_sub hl [0, 1, 2, 3] rfl)
          by_cases q : j = i
          · subst q; rw [pk_us]; unfold fB; rw [decide_eq_false (by omega)]; rfl
          · rw [pk_un q]; exact hE1 j (by omega) q2
        · have c_2 := (nI_eq (by omega) (by omega)).mp c_2
          refine lv_iconst (v := nI 1) hx hb d_M_go_19 (by decide) ?_
          refine lv_goto (tgt := 24) hx hb d_M_go_20 (by decide) ?_
          refine va_zast hx hb hK hP hD hS 4 1 rfl rfl (vp_in_nI (n := i) (by omega) (by decide)) d_M_go_24 (fun H locs hP hD hS => ?_)
          rw [nI_clamp (n := i) (by omega), show vp_nar .boolean (nI 1) = nI 1 from rfl] at hP hD
          have hP : va_P (dC, dI) classes (wM h0 a1 a2 a3 a4 a5 cI cZ cd tx pt qt (upd av i (nI 1)) nr tn pn) H := hP
          have hD : va_D A (wM h0 a1 a2 a3 a4 a5 cI cZ cd tx pt qt (upd av i (nI 1)) nr tn pn) := hD
          refine lv_iinc (v := nI (i + 1)) (lv' := [(3, .int (nI (i + 1))), (0, .ref h0), (1, .int (nI frm)), (2, .int (nI too))]) hx hb d_M_go_25 hl (k := 0) rfl (nI_add _ 1) (by decide) rfl (fun ls hl => ?_)
          refine lv_goto (tgt := 2) hx hb d_M_go_28 (by decide) ?_
          refine ih1 (i + 1) _ _ _ (by omega) (by omega) (fun j q1 q2 => ?_) hP hD hS ls (lv_sub hl [0, 1, 2, 3] rfl)
          by_cases q : j = i
          · subst q; rw [pk_us]; unfold fB; rw [decide_eq_true (by omega)]; rfl
          · rw [pk_un q]; exact hE1 j (by omega) q2
  refine lv_iconst (v := nI 0) hx hb d_M_go_0 (by decide) ?_
  refine lv_istore_n (lv' := [(3, .int (nI 0)), (0, .ref h0), (1, .int (nI frm)), (2, .int (nI too))]) hx hb d_M_go_1 rfl hl (by decide) rfl (fun ls hl => ?_)
  exact L2 1001 0 _ _ _ (by omega) (by omega) (fun j q => absurd q (by omega)) hP hD hS ls (lv_sub hl [0, 1, 2, 3] rfl)

theorem r_M_go {p : Program} {l : Launch} {e : Env} {R : Room} {s : State} {mm : MethodId} {args : Array Value} {below : List Frame} {meth : Method} {c : Code} {H : Heap} {locs : List Loc} {cells slots : Nat} {Q : State → Prop} {cc : ByteArray} {pcn nL : Nat} {ls : Array Slot} {rest : List Value} {dC : Nat → ClassId} {dI : Nat → Nat → Nat} {h0 a1 a2 a3 a4 a5 : Nat} {cI cZ : ClassId} {cd : Int32} {tx pt qt ar nr : Nat → Int32} {tn pn : Nat} {A : Nat → Prop} {H0 : Heap} (hp : pn ≤ 200) {frm too : Nat} (hft : frm ≤ too) (ht4 : too ≤ 400) (hx : p.tables.exec = Jvm.exec) (hb : c.code = cc) (hml : c.maxLocals = nL) (hown : s.vm.findClass R_M = some mm.cls) (htB : ∀ w ∈ wB, w.before args s = true) (hK : va_K (dC, dI) classes (tyIZ cI cZ) s) (hP : va_P (dC, dI) classes (wM h0 a1 a2 a3 a4 a5 cI cZ cd tx pt qt ar nr tn pn) H) (hD : va_D A (wM h0 a1 a2 a3 a4 a5 cI cZ cd tx pt qt ar nr tn pn)) (hS : va_S A H0 H locs) (hA : ∀ q : Nat, H0.size ≤ q → A q) (hls : ls.size = nL) (hre : (rest.map fun v => v.category).sum ≤ 8) (hR : 3 + 1 ≤ R.frames ∧ 8 + (8 + 11) + 74 ≤ R.locals) (hce : cells ≤ R.cells ∧ slots ≤ R.slots) (hd : decode cc pcn = .ok (.invokevirtual 53, 3)) (kk : ∀ (u : (Nat → Int32) × (Nat → Int32)) (H1 : Heap) (locs1 : List Loc), (∀ j, j ≤ 400 → u.1 j = bI (mM tx pt qt pn frm too j)) → va_P (dC, dI) classes (wM h0 a1 a2 a3 a4 a5 cI cZ cd tx pt qt u.1 u.2 tn pn) H1 → va_D A (wM h0 a1 a2 a3 a4 a5 cI cZ cd tx pt qt u.1 u.2 tn pn) → va_S A H0 H1 locs1 → W p l e R s mm args below meth c H1 locs1 cells slots Q (F0 mm (pcn + 3) ls (rest))) : W p l e R s mm args below meth c H locs cells slots Q (F0 mm pcn ls (.int (nI too) :: .int (nI frm) :: .ref h0 :: rest)) := by
  have hFc := va_free (wc := (wM h0 a1 a2 a3 a4 a5 cI cZ cd tx pt qt ar nr tn pn)) hD hS hA [0, 1, 2, 3, 4, 5] rfl
  refine va_callv (va_runV (As := [.int (nI frm), .int (nI too)]) (rest := rest) ⟨hx, hb, hml, hown, htB⟩ (c_M_go l dC dI h0 a1 a2 a3 a4 a5 cI cZ cd tx pt qt ar nr tn pn H.size hp frm too hft ht4) (cwV 2 htB (gV hml_M_53 hinm_M_go hsel_M_go hini_M hco_M_go) rfl rfl rfl (by decide +kernel) hR) ⟨fun a U g mk q => by obtain ⟨q0, q1, qP, qK, qD⟩ := q; exact ⟨q0, q1, qP, va_K.moved (u := U) (U := U.calling g mk a) (Vm.Alike.refl U.vm) qK, qD⟩, va_recv hK hP (ci := 1) (q0 := 0) rfl rfl, fun U hU hW => ⟨rfl, by rw [hU], by rw [hU]; exact hP, va_K.moved hW.alike hK, hD.weaken (fun _ _ _ _ => trivial)⟩⟩ rfl rfl hls rfl (lv_room hre) hd ⟨hce.1, hce.2⟩) hS (fun q _ h => hFc q h) hFc (fun u t H1 locs1 ht hvm hw hB hz1 hk1 hS1 => ?_)
  obtain ⟨hP1, hK1, hD1⟩ := hB
  rw [ht] at hP1
  have hj := va_join (wr := []) (w1 := (wM h0 a1 a2 a3 a4 a5 cI cZ cd tx pt qt u.1 u.2 tn pn)) hP hD [0, 1, 2, 3, 4, 5] [] rfl rfl (by decide) (by decide) hk1 hFc hP1 hD1
  exact kk u H1 locs1 hw hj.1 hj.2 hS1

