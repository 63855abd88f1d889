/-! the class: counts: by wip/whole/gen/gen08.py -/
set_option maxHeartbeats 4000000 in
set_option maxRecDepth 100000 in
theorem c_X_quotedCount (l : Launch) (dC : Nat → ClassId) (dI : Nat → Nat → Nat) (h0 a1 a2 a3 a4 : Nat) (cI cZ : ClassId) (tx pt qt sr : Nat → Int32) (tn pn : Nat) (hp : pn ≤ 200) : Met l y_X_quotedCount (.code y_X_quotedCount b_X_quotedCount 3 (some .int) :: wB) (Rm 0 0) (va_Pc [.ref h0] (fun U => va_P (dC, dI) classes (wX h0 a1 a2 a3 a4 cI cZ tx pt qt sr tn pn) U.heap ∧ va_K (dC, dI) classes (tyIZ cI cZ) U)) (vp_Si (fun r => r = nI (cq qt pn))) 0 0 (fun _ => False) := by
  refine Met.ofW (cc := b_X_quotedCount) (maxL := 3) (ret := (some .int)) (by decide) rfl ?_
  intro p e s mm args below meth c s₁ B hml hv
  obtain ⟨rfl, hP, hK⟩ := hv
  have hx := B.exec
  have hb := B.bytes
  have hr := B.returns
  have hts := atoms_spec (ws := (.code y_X_quotedCount b_X_quotedCount 3 (some .int) :: wB)) B.pre
  have htB : ∀ w ∈ wB, w.before _ s = true := fun w h => hts w (List.mem_cons_of_mem _ h)
  have hown : s.vm.findClass R_X = some mm.cls := findClass_of_methodNamed B.named
  have hlocks := B.notSynchronized
  have hl := lv_entry ([.ref h0]) (n := 3) (Nat.le_of_ble_eq_true rfl)
  rw [lg_entry_eq]
  generalize (lg_sl ([.ref h0]) ++ List.replicate (3 - (lg_sl ([.ref h0])).length) Slot.unset).toArray = ls at hl ⊢
  have hl : lv_has ls 3 [(0, .ref h0)] := hl
  have loop : ∀ (n i : Nat), i ≤ 1000 → 1000 < i + n → i ≤ pn → ∀ ls : Array Slot, lv_has ls 3 [(1, .int (nI (cq qt i))), (2, .int (nI i)), (0, .ref h0)] → W p l e (Rm 0 0) s mm [.ref h0].toArray below meth c s.heap [] 0 0 (MQ below (vp_Si (fun r => r = nI (cq qt pn))) [.ref h0].toArray s 0 0 (fun _ => False)) (F0 mm 4 ls []) := by
    intro n
    induction n with
    | zero => intro i h1 h2; exact absurd h2 (by omega)
    | succ n ih =>
      intro i hi hn hip ls hl
      have hcq := cq_le qt i
      refine lv_iload_n hx hb d_X_quotedCount_4 rfl (lv_at hl 1 rfl) ?_
      refine lv_aload_n hx hb d_X_quotedCount_5 rfl (lv_at hl 2 rfl) ?_
      refine va_get (D := (dC, dI)) (ci := 0) (v := .int (nI pn)) (C := R_X) (T := F_X) (N := 6) hx hb htB in_X hown hK hP 0 rfl rfl 4 (by decide) (htB _ hfl_X_24) (fun _ h9 => h9) rfl d_X_quotedCount_6 ?_
      refine lv_icmp_ge (tgt := 30) hx hb d_X_quotedCount_9 (by decide) (fun c_1 => ?_) (fun c_1 => ?_)
      · have c_1 := (nI_leI (by omega) (by omega)).mp c_1
        refine lv_iload_n hx hb d_X_quotedCount_30 rfl (lv_at hl 0 rfl) ?_
        exact W.iret (v := nI (cq qt i)) hx hb hr (fun t ht hW => ⟨_, rfl, by rw [show i = pn by omega], ht⟩) (fun q h => nomatch h) d_X_quotedCount_31
      · have c_1 := mt (nI_leI (by omega) (by omega)).mpr c_1
        refine lv_aload_n hx hb d_X_quotedCount_12 rfl (lv_at hl 2 rfl) ?_
        refine va_get (D := (dC, dI)) (ci := 0) (v := .ref a3) (C := R_X) (T := F_X) (N := 6) hx hb htB in_X hown hK hP 0 rfl rfl 3 (by decide) (htB _ hfl_X_20) (fun _ h9 => h9) rfl d_X_quotedCount_13 ?_
        refine lv_iload_n hx hb d_X_quotedCount_16 rfl (lv_at hl 1 rfl) ?_
        refine va_zald hx hb hK hP 3 1 rfl rfl (vp_in_nI (n := i) (by omega) (by decide)) d_X_quotedCount_17 ?_
        refine lv_topi (fun v_2 ev_2 => ?_)
        obtain rfl : v_2 = qt i := ev_2.trans (by rw [nI_clamp (n := i) (by omega)])
        refine lv_if_eq (tgt := 24) hx hb d_X_quotedCount_18 (by decide) (fun c_3 => ?_) (fun c_3 => ?_)
        · refine lv_iinc (v := nI (i + 1)) (lv' := [(2, .int (nI (i + 1))), (1, .int (nI (cq qt i))), (0, .ref h0)]) hx hb d_X_quotedCount_24 hl (k := 1) rfl (nI_add _ 1) (by decide) rfl (fun ls hl => ?_)
          refine lv_goto (tgt := 4) hx hb d_X_quotedCount_27 (by decide) ?_
          exact ih (i + 1) (by omega) (by omega) (by omega) ls (by have hl := lv_sub hl [1, 0, 2] rfl; rw [show cq qt (i + 1) = cq qt i by (conv => lhs; unfold cq); rw [if_pos ‹_›]]; exact hl)
        · refine lv_iinc (v := nI (cq qt i + 1)) (lv' := [(1, .int (nI (cq qt i + 1))), (2, .int (nI i)), (0, .ref h0)]) hx hb d_X_quotedCount_21 hl (k := 0) rfl (nI_add _ 1) (by decide) rfl (fun ls hl => ?_)
          refine lv_iinc (v := nI (i + 1)) (lv' := [(2, .int (nI (i + 1))), (1, .int (nI (cq qt i + 1))), (0, .ref h0)]) hx hb d_X_quotedCount_24 hl (k := 1) rfl (nI_add _ 1) (by decide) rfl (fun ls hl => ?_)
          refine lv_goto (tgt := 4) hx hb d_X_quotedCount_27 (by decide) ?_
          exact ih (i + 1) (by omega) (by omega) (by omega) ls (by have hl := lv_sub hl [1, 0, 2] rfl; rw [show cq qt (i + 1) = cq qt i + 1 by (conv => lhs; unfold cq); rw [if_neg ‹_›]]; exact hl)
  refine lv_iconst (v := nI 0) hx hb d_X_quotedCount_0 (by decide) ?_
  refine lv_istore_n (lv' := [(1, .int (nI 0)), (0, .ref h0)]) hx hb d_X_quotedCount_1 rfl hl (by decide) rfl (fun ls hl => ?_)
  refine lv_iconst (v := nI 0) hx hb d_X_quotedCount_2 (by decide) ?_
  refine lv_istore_n (lv' := [(2, .int (nI 0)), (1, .int (nI 0)), (0, .ref h0)]) hx hb d_X_quotedCount_3 rfl hl (by decide) rfl (fun ls hl => ?_)
  exact loop 1001 0 (by omega) (by omega) (by omega) ls (lv_sub hl [1, 0, 2] rfl)

theorem r_X_quotedCount {p : Program} {l : Launch} {e : Env} {R : Room} {s : State} {mm : MethodId} {args : Array Value} {below : List Frame} {meth : Method} {c : Code} {H : Heap} {locs : List Loc} {cells slots : Nat} {Q : State → Prop} {cc : ByteArray} {pcn nL : Nat} {ls : Array Slot} {rest : List Value} {dC : Nat → ClassId} {dI : Nat → Nat → Nat} {h0 a1 a2 a3 a4 : Nat} {cI cZ : ClassId} {tx pt qt sr : Nat → Int32} {tn pn : Nat} (hp : pn ≤ 200) (hx : p.tables.exec = Jvm.exec) (hb : c.code = cc) (hml : c.maxLocals = nL) (hown : s.vm.findClass R_X = some mm.cls) (htB : ∀ w ∈ wB, w.before args s = true) (hK : va_K (dC, dI) classes (tyIZ cI cZ) s) (hP : va_P (dC, dI) classes (wX h0 a1 a2 a3 a4 cI cZ tx pt qt sr tn pn) H) (hls : ls.size = nL) (hre : (rest.map fun v => v.category).sum ≤ 8) (hR : 0 + 1 ≤ R.frames ∧ 8 + (3 + 11) + 0 ≤ R.locals) (hce : cells ≤ R.cells ∧ slots ≤ R.slots) (hd : decode cc pcn = .ok (.invokevirtual 60, 3)) (kk : W p l e R s mm args below meth c H locs cells slots Q (F0 mm (pcn + 3) ls (.int (nI (cq qt pn)) :: rest))) : W p l e R s mm args below meth c H locs cells slots Q (F0 mm pcn ls (.ref h0 :: rest)) := by
  refine vp_callSi (va_Run.run (va_runV (As := []) (rest := rest) ⟨hx, hb, hml, hown, htB⟩ (c_X_quotedCount l dC dI h0 a1 a2 a3 a4 cI cZ tx pt qt sr tn pn hp) (cwV 0 htB (gV hml_X_60 hinm_X_quotedCount hsel_X_quotedCount hini_X hco_X_quotedCount) rfl rfl rfl (by decide +kernel) hR) ⟨fun a U g mk q => by obtain ⟨q0, qP, qK⟩ := q; exact ⟨q0, qP, va_K.moved (u := U) (U := U.calling g mk a) (Vm.Alike.refl U.vm) qK⟩, va_recv hK hP (ci := 0) (q0 := 0) rfl rfl, fun U hU hW => ⟨rfl, by rw [hU]; exact hP, va_K.moved hW.alike hK⟩⟩ rfl rfl hls rfl (lv_room hre) hd ⟨hce.1, hce.2⟩)) (fun r hr => ?_)
  rw [hr]; exact kk

set_option maxHeartbeats 4000000 in
set_option maxRecDepth 100000 in
theorem c_X_setCount (l : Launch) (dC : Nat → ClassId) (dI : Nat → Nat → Nat) (h0 a1 a2 a3 a4 : Nat) (cI cZ : ClassId) (tx pt qt sr : Nat → Int32) (tn pn : Nat) (hp : pn ≤ 200) : Met l y_X_setCount (.code y_X_setCount b_X_setCount 3 (some .int) :: wB) (Rm 3 66) (va_Pc [.ref h0] (fun U => va_P (dC, dI) classes (wX h0 a1 a2 a3 a4 cI cZ tx pt qt sr tn pn) U.heap ∧ va_K (dC, dI) classes (tyIZ cI cZ) U)) (vp_Si (fun r => r = nI (cs pt qt pn pn))) 0 0 (fun _ => False) := by
  refine Met.ofW (cc := b_X_setCount) (maxL := 3) (ret := (some .int)) (by decide) rfl ?_
  intro p e s mm args below meth c s₁ B hml hv
  obtain ⟨rfl, hP, hK⟩ := hv
  have hx := B.exec
  have hb := B.bytes
  have hr := B.returns
  have hts := atoms_spec (ws := (.code y_X_setCount b_X_setCount 3 (some .int) :: wB)) B.pre
  have htB : ∀ w ∈ wB, w.before _ s = true := fun w h => hts w (List.mem_cons_of_mem _ h)
  have hown : s.vm.findClass R_X = some mm.cls := findClass_of_methodNamed B.named
  have hlocks := B.notSynchronized
  have hl := lv_entry ([.ref h0]) (n := 3) (Nat.le_of_ble_eq_true rfl)
  rw [lg_entry_eq]
  generalize (lg_sl ([.ref h0]) ++ List.replicate (3 - (lg_sl ([.ref h0])).length) Slot.unset).toArray = ls at hl ⊢
  have hl : lv_has ls 3 [(0, .ref h0)] := hl
  have loop : ∀ (n i : Nat), i ≤ 1000 → 1000 < i + n → i ≤ pn → ∀ ls : Array Slot, lv_has ls 3 [(1, .int (nI (cs pt qt pn i))), (2, .int (nI i)), (0, .ref h0)] → W p l e (Rm 3 66) s mm [.ref h0].toArray below meth c s.heap [] 0 0 (MQ below (vp_Si (fun r => r = nI (cs pt qt pn pn))) [.ref h0].toArray s 0 0 (fun _ => False)) (F0 mm 4 ls []) := by
    intro n
    induction n with
    | zero => intro i h1 h2; exact absurd h2 (by omega)
    | succ n ih =>
      intro i hi hn hip ls hl
      have hcs := cs_le pt qt pn i
      refine lv_iload_n hx hb d_X_setCount_4 rfl (lv_at hl 1 rfl) ?_
      refine lv_aload_n hx hb d_X_setCount_5 rfl (lv_at hl 2 rfl) ?_
      refine va_get (D := (dC, dI)) (ci := 0) (v := .int (nI pn)) (C := R_X) (T := F_X) (N := 6) hx hb htB in_X hown hK hP 0 rfl rfl 4 (by decide) (htB _ hfl_X_24) (fun _ h9 => h9) rfl d_X_setCount_6 ?_
      refine lv_icmp_ge (tgt := 30) hx hb d_X_setCount_9 (by decide) (fun c_1 => ?_) (fun c_1 => ?_)
      · have c_1 := (nI_leI (by omega) (by omega)).mp c_1
        refine lv_iload_n hx hb d_X_setCount_30 rfl (lv_at hl 0 rfl) ?_
        exact W.iret (v := nI (cs pt qt pn i)) hx hb hr (fun t ht hW => ⟨_, rfl, by rw [show i = pn by omega], ht⟩) (fun q h => nomatch h) d_X_setCount_31
      · have c_1 := mt (nI_leI (by omega) (by omega)).mpr c_1
        refine lv_aload_n hx hb d_X_setCount_12 rfl (lv_at hl 2 rfl) ?_
        refine lv_iload_n hx hb d_X_setCount_13 rfl (lv_at hl 1 rfl) ?_
        refine r_X_closeOf hp (by omega) hx hb hml hown htB hK hP hl.1 (Nat.le_of_ble_eq_true rfl) ⟨Nat.le_of_ble_eq_true rfl, Nat.le_of_ble_eq_true rfl⟩ ⟨Nat.zero_le _, Nat.zero_le _⟩ d_X_setCount_14 ?_
        refine lv_iconst (v := -1) hx hb d_X_setCount_17 (by decide) ?_
        refine lv_icmp_eq (tgt := 24) hx hb d_X_setCount_18 (by decide) (fun c_2 => ?_) (fun c_2 => ?_)
        · have c_2 := (cl_m1 hp).mp c_2
          refine lv_iinc (v := nI (i + 1)) (lv' := [(2, .int (nI (i + 1))), (1, .int (nI (cs pt qt pn i))), (0, .ref h0)]) hx hb d_X_setCount_24 hl (k := 1) rfl (nI_add _ 1) (by decide) rfl (fun ls hl => ?_)
          refine lv_goto (tgt := 4) hx hb d_X_setCount_27 (by decide) ?_
          exact ih (i + 1) (by omega) (by omega) (by omega) ls (by have hl := lv_sub hl [1, 0, 2] rfl; rw [show cs pt qt pn (i + 1) = cs pt qt pn i by (conv => lhs; unfold cs); rw [if_pos ‹_›]]; exact hl)
        · have c_2 := mt (cl_m1 hp).mpr c_2
          refine lv_iinc (v := nI (cs pt qt pn i + 1)) (lv' := [(1, .int (nI (cs pt qt pn i + 1))), (2, .int (nI i)), (0, .ref h0)]) hx hb d_X_setCount_21 hl (k := 0) rfl (nI_add _ 1) (by decide) rfl (fun ls hl => ?_)
          refine lv_iinc (v := nI (i + 1)) (lv' := [(2, .int (nI (i + 1))), (1, .int (nI (cs pt qt pn i + 1))), (0, .ref h0)]) hx hb d_X_setCount_24 hl (k := 1) rfl (nI_add _ 1) (by decide) rfl (fun ls hl => ?_)
          refine lv_goto (tgt := 4) hx hb d_X_setCount_27 (by decide) ?_
          exact ih (i + 1) (by omega) (by omega) (by omega) ls (by have hl := lv_sub hl [1, 0, 2] rfl; rw [show cs pt qt pn (i + 1) = cs pt qt pn i + 1 by (conv => lhs; unfold cs); rw [if_neg ‹_›]]; exact hl)
  refine lv_iconst (v := nI 0) hx hb d_X_setCount_0 (by decide) ?_
  refine lv_istore_n (lv' := [(1, .int (nI 0)), (0, .ref h0)]) hx hb d_X_setCount_1 rfl hl (by decide) rfl (fun ls hl => ?_)
  refine lv_iconst (v := nI 0) hx hb d_X_setCount_2 (by decide) ?_
  refine lv_istore_n (lv' := [(2, .int (nI 0)), (1, .int (nI 0)), (0, .ref h0)]) hx hb d_X_setCount_3 rfl hl (by decide) rfl (fun ls hl => ?_)
  exact loop 1001 0 (by omega) (by omega) (by omega) ls (lv_sub hl [1, 0, 2] rfl)

theorem r_X_setCount {p : Program} {l : Launch} {e : Env} {R : Room} {s : State} {mm : MethodId} {args : Array Value} {below : List Frame} {meth : Method} {c : Code} {H : Heap} {locs : List Loc} {cells slots : Nat} {Q : State → Prop} {cc : ByteArray} {pcn nL : Nat} {ls : Array Slot} {rest : List Value} {dC : Nat → ClassId} {dI : Nat → Nat → Nat} {h0 a1 a2 a3 a4 : Nat} {cI cZ : ClassId} {tx pt qt sr : Nat → Int32} {tn pn : Nat} (hp : pn ≤ 200) (hx : p.tables.exec = Jvm.exec) (hb : c.code = cc) (hml : c.maxLocals = nL) (hown : s.vm.findClass R_X = some mm.cls) (htB : ∀ w ∈ wB, w.before args s = true) (hK : va_K (dC, dI) classes (tyIZ cI cZ) s) (hP : va_P (dC, dI) classes (wX h0 a1 a2 a3 a4 cI cZ tx pt qt sr tn pn) H) (hls : ls.size = nL) (hre : (rest.map fun v => v.category).sum ≤ 8) (hR : 3 + 1 ≤ R.frames ∧ 8 + (3 + 11) + 66 ≤ R.locals) (hce : cells ≤ R.cells ∧ slots ≤ R.slots) (hd : decode cc pcn = .ok (.invokevirtual 64, 3)) (kk : W p l e R s mm args below meth c H locs cells slots Q (F0 mm (pcn + 3) ls (.int (nI (cs pt qt pn pn)) :: rest))) : W p l e R s mm args below meth c H locs cells slots Q (F0 mm pcn ls (.ref h0 :: rest)) := by
  refine vp_callSi (va_Run.run (va_runV (As := []) (rest := rest) ⟨hx, hb, hml, hown, htB⟩ (c_X_setCount l dC dI h0 a1 a2 a3 a4 cI cZ tx pt qt sr tn pn hp) (cwV 0 htB (gV hml_X_64 hinm_X_setCount hsel_X_setCount hini_X hco_X_setCount) rfl rfl rfl (by decide +kernel) hR) ⟨fun a U g mk q => by obtain ⟨q0, qP, qK⟩ := q; exact ⟨q0, qP, va_K.moved (u := U) (U := U.calling g mk a) (Vm.Alike.refl U.vm) qK⟩, va_recv hK hP (ci := 0) (q0 := 0) rfl rfl, fun U hU hW => ⟨rfl, by rw [hU]; exact hP, va_K.moved hW.alike hK⟩⟩ rfl rfl hls rfl (lv_room hre) hd ⟨hce.1, hce.2⟩)) (fun r hr => ?_)
  rw [hr]; exact kk

set_option maxHeartbeats 4000000 in
set_option maxRecDepth 100000 in
theorem c_X_isSpecial (l : Launch) (dC : Nat → ClassId) (dI : Nat → Nat → Nat) (h0 a1 a2 a3 a4 : Nat) (cI cZ : ClassId) (tx pt qt sr : Nat → Int32) (tn pn : Nat) (hp : pn ≤ 200) : Met l y_X_isSpecial (.code y_X_isSpecial b_X_isSpecial 2 (some .boolean) :: wB) (Rm 1 22) (va_Pc [.ref h0] (fun U => va_P (dC, dI) classes (wX h0 a1 a2 a3 a4 cI cZ tx pt qt sr tn pn) U.heap ∧ va_K (dC, dI) classes (tyIZ cI cZ) U)) (vp_Si (fun r => r = bI (sp pt qt pn pn))) 0 0 (fun _ => False) := by
  refine Met.ofW (cc := b_X_isSpecial) (maxL := 2) (ret := (some .boolean)) (by decide) rfl ?_
  intro p e s mm args below meth c s₁ B hml hv
  obtain ⟨rfl, hP, hK⟩ := hv
  have hx := B.exec
  have hb := B.bytes
  have hr := B.returns
  have hts := atoms_spec (ws := (.code y_X_isSpecial b_X_isSpecial 2 (some .boolean) :: wB)) B.pre
  have htB : ∀ w ∈ wB, w.before _ s = true := fun w h => hts w (List.mem_cons_of_mem _ h)
  have hown : s.vm.findClass R_X = some mm.cls := findClass_of_methodNamed B.named
  have hlocks := B.notSynchronized
  have hl := lv_entry ([.ref h0]) (n := 2) (Nat.le_of_ble_eq_true rfl)
  rw [lg_entry_eq]
  generalize (lg_sl ([.ref h0]) ++ List.replicate (2 - (lg_sl ([.ref h0])).length) Slot.unset).toArray = ls at hl ⊢
  have hl : lv_has ls 2 [(0, .ref h0)] := hl
  have loop : ∀ (n i : Nat), i ≤ 1000 → 1000 < i + n → i ≤ pn → sp pt qt pn i = false → ∀ ls : Array Slot, lv_has ls 2 [(1, .int (nI i)), (0, .ref h0)] → W p l e (Rm 1 22) s mm [.ref h0].toArray below meth c s.heap [] 0 0 (MQ below (vp_Si (fun r => r = bI (sp pt qt pn pn))) [.ref h0].toArray s 0 0 (fun _ => False)) (F0 mm 2 ls []) := by
    intro n
    induction n with
    | zero => intro i h1 h2; exact absurd h2 (by omega)
    | succ n ih =>
      intro i hi hn hip hE ls hl
      refine lv_iload_n hx hb d_X_isSpecial_2 rfl (lv_at hl 0 rfl) ?_
      refine lv_aload_n hx hb d_X_isSpecial_3 rfl (lv_at hl 1 rfl) ?_
      refine va_get (D := (dC, dI)) (ci := 0) (v := .int (nI pn)) (C := R_X) (T := F_X) (N := 6) hx hb htB in_X hown hK hP 0 rfl rfl 4 (by decide) (htB _ hfl_X_24) (fun _ h9 => h9) rfl d_X_isSpecial_4 ?_
      refine lv_icmp_ge (tgt := 48) hx hb d_X_isSpecial_7 (by decide) (fun c_1 => ?_) (fun c_1 => ?_)
      · have c_1 := (nI_leI (by omega) (by omega)).mp c_1
        refine lv_iconst (v := nI 0) hx hb d_X_isSpecial_48 (by decide) ?_
        exact W.zret (v := nI 0) hx hb hr (by rfl) (fun t ht hW => ⟨_, rfl, by rw [show i = pn by omega] at hE; rw [hE]; rfl, ht⟩) (fun q h => nomatch h) d_X_isSpecial_49
      · have c_1 := mt (nI_leI (by omega) (by omega)).mpr c_1
        refine lv_aload_n hx hb d_X_isSpecial_10 rfl (lv_at hl 1 rfl) ?_
        refine lv_iload_n hx hb d_X_isSpecial_11 rfl (lv_at hl 0 rfl) ?_
        refine lv_bipush (v := nI 42) hx hb d_X_isSpecial_12 (by decide) ?_
        refine r_X_isUnquoted hp (by omega) hx hb hml hown htB hK hP hl.1 (Nat.le_of_ble_eq_true rfl) ⟨Nat.le_of_ble_eq_true rfl, Nat.le_of_ble_eq_true rfl⟩ ⟨Nat.zero_le _, Nat.zero_le _⟩ d_X_isSpecial_14 ?_
        refine lv_if_ne (tgt := 40) hx hb d_X_isSpecial_17 (by decide) (fun c_2 => ?_) (fun c_2 => ?_)
        · have c_2 := bI_nz.mp c_2
          refine lv_iconst (v := nI 1) hx hb d_X_isSpecial_40 (by decide) ?_
          exact W.zret (v := nI 1) hx hb hr (by rfl) (fun t ht hW => ⟨_, rfl, by rw [sp_t (i := i) (by simp only [sa]; first | rw [‹iu pt qt pn i (nI 42) = true›, Bool.true_or] | rw [‹iu pt qt pn i (nI 63) = true›, Bool.true_or, Bool.or_true] | rw [‹iu pt qt pn i (nI 91) = true›, Bool.or_true, Bool.or_true]) (by omega)]; rfl, ht⟩) (fun q h => nomatch h) d_X_isSpecial_41
        · have c_2 := bI_z.mp c_2
          refine lv_aload_n hx hb d_X_isSpecial_20 rfl (lv_at hl 1 rfl) ?_
          refine lv_iload_n hx hb d_X_isSpecial_21 rfl (lv_at hl 0 rfl) ?_
          refine lv_bipush (v := nI 63) hx hb d_X_isSpecial_22 (by decide) ?_
          refine r_X_isUnquoted hp (by omega) hx hb hml hown htB hK hP hl.1 (Nat.le_of_ble_eq_true rfl) ⟨Nat.le_of_ble_eq_true rfl, Nat.le_of_ble_eq_true rfl⟩ ⟨Nat.zero_le _, Nat.zero_le _⟩ d_X_isSpecial_24 ?_
          refine lv_if_ne (tgt := 40) hx hb d_X_isSpecial_27 (by decide) (fun c_3 => ?_) (fun c_3 => ?_)
          · have c_3 := bI_nz.mp c_3
            refine lv_iconst (v := nI 1) hx hb d_X_isSpecial_40 (by decide) ?_
            exact W.zret (v := nI 1) hx hb hr (by rfl) (fun t ht hW => ⟨_, rfl, by rw [sp_t (i := i) (by simp only [sa]; first | rw [‹iu pt qt pn i (nI 42) = true›, Bool.true_or] | rw [‹iu pt qt pn i (nI 63) = true›, Bool.true_or, Bool.or_true] | rw [‹iu pt qt pn i (nI 91) = true›, Bool.or_true, Bool.or_true]) (by omega)]; rfl, ht⟩) (fun q h => nomatch h) d_X_isSpecial_41
          · have c_3 := bI_z.mp c_3
            refine lv_aload_n hx hb d_X_isSpecial_30 rfl (lv_at hl 1 rfl) ?_
            refine lv_iload_n hx hb d_X_isSpecial_31 rfl (lv_at hl 0 rfl) ?_
            refine lv_bipush (v := nI 91) hx hb d_X_isSpecial_32 (by decide) ?_
            refine r_X_isUnquoted hp (by omega) hx hb hml hown htB hK hP hl.1 (Nat.le_of_ble_eq_true rfl) ⟨Nat.le_of_ble_eq_true rfl, Nat.le_of_ble_eq_true rfl⟩ ⟨Nat.zero_le _, Nat.zero_le _⟩ d_X_isSpecial_34 ?_
            refine lv_if_eq (tgt := 42) hx hb d_X_isSpecial_37 (by decide) (fun c_4 => ?_) (fun c_4 => ?_)
            · have c_4 := bI_z.mp c_4
              refine lv_iinc (v := nI (i + 1)) (lv' := [(1, .int (nI (i + 1))), (0, .ref h0)]) hx hb d_X_isSpecial_42 hl (k := 0) rfl (nI_add _ 1) (by decide) rfl (fun ls hl => ?_)
              refine lv_goto (tgt := 2) hx hb d_X_isSpecial_45 (by decide) ?_
              exact ih (i + 1) (by omega) (by omega) (by omega) (by unfold sp; rw [hE]; simp only [sa]; rw [‹iu pt qt pn i (nI 42) = false›, ‹iu pt qt pn i (nI 63) = false›, ‹iu pt qt pn i (nI 91) = false›]; rfl) ls hl
            · have c_4 := bI_nz.mp c_4
              refine lv_iconst (v := nI 1) hx hb d_X_isSpecial_40 (by decide) ?_
              exact W.zret (v := nI 1) hx hb hr (by rfl) (fun t ht hW => ⟨_, rfl, by rw [sp_t (i := i) (by simp only [sa]; first | rw [‹iu pt qt pn i (nI 42) = true›, Bool.true_or] | rw [‹iu pt qt pn i (nI 63) = true›, Bool.true_or, Bool.or_true] | rw [‹iu pt qt pn i (nI 91) = true›, Bool.or_true, Bool.or_true]) (by omega)]; rfl, ht⟩) (fun q h => nomatch h) d_X_isSpecial_41
  refine lv_iconst (v := nI 0) hx hb d_X_isSpecial_0 (by decide) ?_
  refine lv_istore_n (lv' := [(1, .int (nI 0)), (0, .ref h0)]) hx hb d_X_isSpecial_1 rfl hl (by decide) rfl (fun ls hl => ?_)
  exact loop 1001 0 (by omega) (by omega) (by omega) rfl ls hl

