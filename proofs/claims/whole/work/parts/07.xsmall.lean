/-! the class: members, fits, small helpers: by wip/whole/gen/gen07.py -/
set_option maxHeartbeats 4000000 in
set_option maxRecDepth 100000 in
theorem c_X_isMember (l : Launch) (dC : Nat → ClassId) (dI : Nat → Nat → Nat) (h0 a1 a2 a3 a4 : Nat) (cI cZ : ClassId) (tx pt qt sr : Nat → Int32) (tn pn : Nat) (hp : pn ≤ 200) (ch : Int32) (f k : Nat) (hf : f ≤ 500) (hk : k ≤ 200) : Met l y_X_isMember (.code y_X_isMember b_X_isMember 7 (some .boolean) :: wB) (Rm 1 22) (va_Pc [.ref h0, .int ch, .int (nI f), .int (nI k)] (fun U => va_P (dC, dI) classes (wX h0 a1 a2 a3 a4 cI cZ tx pt qt sr tn pn) U.heap ∧ va_K (dC, dI) classes (tyIZ cI cZ) U)) (vp_Si (fun r => r = bI (mb pt qt pn k ch (k + 1 - f) f))) 0 0 (fun _ => False) := by
  refine Met.ofW (cc := b_X_isMember) (maxL := 7) (ret := (some .boolean)) (by decide) rfl ?_
  intro p e s mm args below meth c s₁ B hml hv
  obtain ⟨rfl, hP, hK⟩ := hv
  have hx := B.exec
  have hb := B.bytes
  have hr := B.returns
  have hts := atoms_spec (ws := (.code y_X_isMember b_X_isMember 7 (some .boolean) :: wB)) B.pre
  have htB : ∀ w ∈ wB, w.before _ s = true := fun w h => hts w (List.mem_cons_of_mem _ h)
  have hown : s.vm.findClass R_X = some mm.cls := findClass_of_methodNamed B.named
  have hlocks := B.notSynchronized
  have hl := lv_entry ([.ref h0, .int ch, .int (nI f), .int (nI k)]) (n := 7) (Nat.le_of_ble_eq_true rfl)
  rw [lg_entry_eq]
  generalize (lg_sl ([.ref h0, .int ch, .int (nI f), .int (nI k)]) ++ List.replicate (7 - (lg_sl ([.ref h0, .int ch, .int (nI f), .int (nI k)])).length) Slot.unset).toArray = ls at hl ⊢
  have hl : lv_has ls 7 [(0, .ref h0), (1, .int ch), (2, .int (nI f)), (3, .int (nI k))] := hl
  have loop : ∀ (n i : Nat), i ≤ 1000 → 1000 < i + n → mb pt qt pn k ch (k + 1 - i) i = mb pt qt pn k ch (k + 1 - f) f → ∀ ls : Array Slot, lv_has ls 7 [(4, .int (nI i)), (0, .ref h0), (1, .int ch), (2, .int (nI f)), (3, .int (nI k))] → W p l e (Rm 1 22) s mm [.ref h0, .int ch, .int (nI f), .int (nI k)].toArray below meth c s.heap [] 0 0 (MQ below (vp_Si (fun r => r = bI (mb pt qt pn k ch (k + 1 - f) f))) [.ref h0, .int ch, .int (nI f), .int (nI k)].toArray s 0 0 (fun _ => False)) (F0 mm 3 ls []) := by
    intro n
    induction n with
    | zero => intro i h1 h2; exact absurd h2 (by omega)
    | succ n ih =>
      intro i hi hn hE ls hl
      refine lv_iload hx hb d_X_isMember_3 (lv_at hl 0 rfl) ?_
      refine lv_iload_n hx hb d_X_isMember_5 rfl (lv_at hl 4 rfl) ?_
      refine lv_icmp_ge (tgt := 86) hx hb d_X_isMember_6 (by decide) (fun c_1 => ?_) (fun c_1 => ?_)
      · have c_1 := (nI_leI (by omega) (by omega)).mp c_1
        refine lv_iconst (v := nI 0) hx hb d_X_isMember_86 (by decide) ?_
        exact W.zret (v := nI 0) hx hb hr (by rfl) (fun t ht hW => ⟨_, rfl, by rw [← hE, mb_out (by omega)]; rfl, ht⟩) (fun q h => nomatch h) d_X_isMember_87
      · have c_1 := mt (nI_leI (by omega) (by omega)).mpr c_1
        refine lv_iload hx hb d_X_isMember_9 (lv_at hl 0 rfl) ?_
        refine lv_iconst (v := nI 2) hx hb d_X_isMember_11 (by decide) ?_
        refine lv_iadd hx hb d_X_isMember_12 ?_
        refine lv_topi (fun v_2 ev_2 => ?_)
        obtain rfl : v_2 = nI (i + 2) := ev_2.trans (nI_add _ _)
        refine lv_iload_n hx hb d_X_isMember_13 rfl (lv_at hl 4 rfl) ?_
        refine lv_icmp_ge (tgt := 34) hx hb d_X_isMember_14 (by decide) (fun c_3 => ?_) (fun c_3 => ?_)
        · have c_3 := (nI_leI (by omega) (by omega)).mp c_3
          refine lv_iconst (v := nI 0) hx hb d_X_isMember_34 (by decide) ?_
          refine lv_istore (lv' := [(5, .int (nI 0)), (4, .int (nI i)), (0, .ref h0), (1, .int ch), (2, .int (nI f)), (3, .int (nI k))]) hx hb d_X_isMember_35 hl (by decide) rfl (fun ls hl => ?_)
          refine lv_iload hx hb d_X_isMember_37 (lv_at hl 0 rfl) ?_
          refine lv_if_eq (tgt := 49) hx hb d_X_isMember_39 (by decide) (fun c_4 => ?_) (fun c_4 => ?_)
          · clear c_4
            refine lv_iload hx hb d_X_isMember_49 (lv_at hl 1 rfl) ?_
            refine lv_istore (lv' := [(6, .int (nI i)), (5, .int (nI 0)), (4, .int (nI i)), (0, .ref h0), (1, .int ch), (2, .int (nI f)), (3, .int (nI k))]) hx hb d_X_isMember_51 hl (by decide) rfl (fun ls hl => ?_)
            refine lv_iload_n hx hb d_X_isMember_53 rfl (lv_at hl 4 rfl) ?_
            refine lv_aload_n hx hb d_X_isMember_54 rfl (lv_at hl 3 rfl) ?_
            refine va_get (D := (dC, dI)) (ci := 0) (v := .ref a2) (C := R_X) (T := F_X) (N := 6) hx hb htB in_X hown hK hP 0 rfl rfl 2 (by decide) (htB _ hfl_X_17) (fun _ h9 => h9) rfl d_X_isMember_55 ?_
            refine lv_iload hx hb d_X_isMember_58 (lv_at hl 2 rfl) ?_
            refine va_iald hx hb hK hP 2 0 rfl rfl (vp_in_nI (n := i) (by omega) (by decide)) d_X_isMember_60 ?_
            refine lv_topi (fun v_5 ev_5 => ?_)
            obtain rfl : v_5 = pt i := ev_5.trans (by rw [nI_clamp (n := i) (by omega)])
            refine lv_icmp_lt (tgt := 77) hx hb d_X_isMember_61 (by decide) (fun c_6 => ?_) (fun c_6 => ?_)
            · refine lv_iload hx hb d_X_isMember_77 (lv_at hl 0 rfl) ?_
              refine lv_iconst (v := nI 1) hx hb d_X_isMember_79 (by decide) ?_
              refine lv_iadd hx hb d_X_isMember_80 ?_
              refine lv_topi (fun v_7 ev_7 => ?_)
              obtain rfl : v_7 = nI (i + 1) := ev_7.trans (nI_add _ _)
              refine lv_istore (lv' := [(4, .int (nI (i + 1))), (6, .int (nI i)), (5, .int (nI 0)), (0, .ref h0), (1, .int ch), (2, .int (nI f)), (3, .int (nI k))]) hx hb d_X_isMember_81 hl (by decide) rfl (fun ls hl => ?_)
              refine lv_goto (tgt := 3) hx hb d_X_isMember_83 (by decide) ?_
              exact ih (i + 1) (by omega) (by omega) (by have hE2 := hE; rw [mb_one (a := i) (by omega) (by rintro ⟨q1, q2⟩; first | omega | (rw [‹iu pt qt pn (i + 1) (nI 45) = false›] at q2; exact absurd q2 (by decide))), (by first | exact nh1 ‹_› | exact nh2 ‹_› : (decide (pt i ≤ ch) && decide (ch ≤ pt (i))) = false), Bool.false_or] at hE2; exact hE2) ls (lv_sub hl [0, 3, 4, 5, 6] rfl)
            · refine lv_iload_n hx hb d_X_isMember_64 rfl (lv_at hl 4 rfl) ?_
              refine lv_aload_n hx hb d_X_isMember_65 rfl (lv_at hl 3 rfl) ?_
              refine va_get (D := (dC, dI)) (ci := 0) (v := .ref a2) (C := R_X) (T := F_X) (N := 6) hx hb htB in_X hown hK hP 0 rfl rfl 2 (by decide) (htB _ hfl_X_17) (fun _ h9 => h9) rfl d_X_isMember_66 ?_
              refine lv_iload hx hb d_X_isMember_69 (lv_at hl 0 rfl) ?_
              refine va_iald hx hb hK hP 2 0 rfl rfl (vp_in_nI (n := i) (by omega) (by decide)) d_X_isMember_71 ?_
              refine lv_topi (fun v_8 ev_8 => ?_)
              obtain rfl : v_8 = pt i := ev_8.trans (by rw [nI_clamp (n := i) (by omega)])
              refine lv_icmp_gt (tgt := 77) hx hb d_X_isMember_72 (by decide) (fun c_9 => ?_) (fun c_9 => ?_)
              · refine lv_iload hx hb d_X_isMember_77 (lv_at hl 0 rfl) ?_
                refine lv_iconst (v := nI 1) hx hb d_X_isMember_79 (by decide) ?_
                refine lv_iadd hx hb d_X_isMember_80 ?_
                refine lv_topi (fun v_10 ev_10 => ?_)
                obtain rfl : v_10 = nI (i + 1) := ev_10.trans (nI_add _ _)
                refine lv_istore (lv' := [(4, .int (nI (i + 1))), (6, .int (nI i)), (5, .int (nI 0)), (0, .ref h0), (1, .int ch), (2, .int (nI f)), (3, .int (nI k))]) hx hb d_X_isMember_81 hl (by decide) rfl (fun ls hl => ?_)
                refine lv_goto (tgt := 3) hx hb d_X_isMember_83 (by decide) ?_
                exact ih (i + 1) (by omega) (by omega) (by have hE2 := hE; rw [mb_one (a := i) (by omega) (by rintro ⟨q1, q2⟩; first | omega | (rw [‹iu pt qt pn (i + 1) (nI 45) = false›] at q2; exact absurd q2 (by decide))), (by first | exact nh1 ‹_› | exact nh2 ‹_› : (decide (pt i ≤ ch) && decide (ch ≤ pt (i))) = false), Bool.false_or] at hE2; exact hE2) ls (lv_sub hl [0, 3, 4, 5, 6] rfl)
              · refine lv_iconst (v := nI 1) hx hb d_X_isMember_75 (by decide) ?_
                exact W.zret (v := nI 1) hx hb hr (by rfl) (fun t ht hW => ⟨_, rfl, by rw [← hE, mb_one (a := i) (by omega) (by rintro ⟨q1, q2⟩; first | omega | (rw [‹iu pt qt pn (i + 1) (nI 45) = false›] at q2; exact absurd q2 (by decide))), nh3 ‹_› ‹_›]; rfl, ht⟩) (fun q h => nomatch h) d_X_isMember_76
          · exact absurd c_4 (by decide)
        · have c_3 := mt (nI_leI (by omega) (by omega)).mpr c_3
          refine lv_aload_n hx hb d_X_isMember_17 rfl (lv_at hl 1 rfl) ?_
          refine lv_iload hx hb d_X_isMember_18 (lv_at hl 0 rfl) ?_
          refine lv_iconst (v := nI 1) hx hb d_X_isMember_20 (by decide) ?_
          refine lv_iadd hx hb d_X_isMember_21 ?_
          refine lv_topi (fun v_11 ev_11 => ?_)
          obtain rfl : v_11 = nI (i + 1) := ev_11.trans (nI_add _ _)
          refine lv_bipush (v := nI 45) hx hb d_X_isMember_22 (by decide) ?_
          refine r_X_isUnquoted hp (by omega) hx hb hml hown htB hK hP hl.1 (Nat.le_of_ble_eq_true rfl) ⟨Nat.le_of_ble_eq_true rfl, Nat.le_of_ble_eq_true rfl⟩ ⟨Nat.zero_le _, Nat.zero_le _⟩ d_X_isMember_24 ?_
          refine lv_if_eq (tgt := 34) hx hb d_X_isMember_27 (by decide) (fun c_12 => ?_) (fun c_12 => ?_)
          · have c_12 := bI_z.mp c_12
            refine lv_iconst (v := nI 0) hx hb d_X_isMember_34 (by decide) ?_
            refine lv_istore (lv' := [(5, .int (nI 0)), (4, .int (nI i)), (0, .ref h0), (1, .int ch), (2, .int (nI f)), (3, .int (nI k))]) hx hb d_X_isMember_35 hl (by decide) rfl (fun ls hl => ?_)
            refine lv_iload hx hb d_X_isMember_37 (lv_at hl 0 rfl) ?_
            refine lv_if_eq (tgt := 49) hx hb d_X_isMember_39 (by decide) (fun c_13 => ?_) (fun c_13 => ?_)
            · clear c_13
              refine lv_iload hx hb d_X_isMember_49 (lv_at hl 1 rfl) ?_
              refine lv_istore (lv' := [(6, .int (nI i)), (5, .int (nI 0)), (4, .int (nI i)), (0, .ref h0), (1, .int ch), (2, .int (nI f)), (3, .int (nI k))]) hx hb d_X_isMember_51 hl (by decide) rfl (fun ls hl => ?_)
              refine lv_iload_n hx hb d_X_isMember_53 rfl (lv_at hl 4 rfl) ?_
              refine lv_aload_n hx hb d_X_isMember_54 rfl (lv_at hl 3 rfl) ?_
              refine va_get (D := (dC, dI)) (ci := 0) (v := .ref a2) (C := R_X) (T := F_X) (N := 6) hx hb htB in_X hown hK hP 0 rfl rfl 2 (by decide) (htB _ hfl_X_17) (fun _ h9 => h9) rfl d_X_isMember_55 ?_
              refine lv_iload hx hb d_X_isMember_58 (lv_at hl 2 rfl) ?_
              refine va_iald hx hb hK hP 2 0 rfl rfl (vp_in_nI (n := i) (by omega) (by decide)) d_X_isMember_60 ?_
              refine lv_topi (fun v_14 ev_14 => ?_)
              obtain rfl : v_14 = pt i := ev_14.trans (by rw [nI_clamp (n := i) (by omega)])
              refine lv_icmp_lt (tgt := 77) hx hb d_X_isMember_61 (by decide) (fun c_15 => ?_) (fun c_15 => ?_)
              · refine lv_iload hx hb d_X_isMember_77 (lv_at hl 0 rfl) ?_
                refine lv_iconst (v := nI 1) hx hb d_X_isMember_79 (by decide) ?_
                refine lv_iadd hx hb d_X_isMember_80 ?_
                refine lv_topi (fun v_16 ev_16 => ?_)
                obtain rfl : v_16 = nI (i + 1) := ev_16.trans (nI_add _ _)
                refine lv_istore (lv' := [(4, .int (nI (i + 1))), (6, .int (nI i)), (5, .int (nI 0)), (0, .ref h0), (1, .int ch), (2, .int (nI f)), (3, .int (nI k))]) hx hb d_X_isMember_81 hl (by decide) rfl (fun ls hl => ?_)
                refine lv_goto (tgt := 3) hx hb d_X_isMember_83 (by decide) ?_
                exact ih (i + 1) (by omega) (by omega) (by have hE2 := hE; rw [mb_one (a := i) (by omega) (by rintro ⟨q1, q2⟩; first | omega | (rw [‹iu pt qt pn (i + 1) (nI 45) = false›] at q2; exact absurd q2 (by decide))), (by first | exact nh1 ‹_› | exact nh2 ‹_› : (decide (pt i ≤ ch) && decide (ch ≤ pt (i))) = false), Bool.false_or] at hE2; exact hE2) ls (lv_sub hl [0, 3, 4, 5, 6] rfl)
              · refine lv_iload_n hx hb d_X_isMember_64 rfl (lv_at hl 4 rfl) ?_
                refine lv_aload_n hx hb d_X_isMember_65 rfl (lv_at hl 3 rfl) ?_
                refine va_get (D := (dC, dI)) (ci := 0) (v := .ref a2) (C := R_X) (T := F_X) (N := 6) hx hb htB in_X hown hK hP 0 rfl rfl 2 (by decide) (htB _ hfl_X_17) (fun _ h9 => h9) rfl d_X_isMember_66 ?_
                refine lv_iload hx hb d_X_isMember_69 (lv_at hl 0 rfl) ?_
                refine va_iald hx hb hK hP 2 0 rfl rfl (vp_in_nI (n := i) (by omega) (by decide)) d_X_isMember_71 ?_
                refine lv_topi (fun v_17 ev_17 => ?_)
                obtain rfl : v_17 = pt i := ev_17.trans (by rw [nI_clamp (n := i) (by omega)])
                refine lv_icmp_gt (tgt := 77) hx hb d_X_isMember_72 (by decide) (fun c_18 => ?_) (fun c_18 => ?_)
                · refine lv_iload hx hb d_X_isMember_77 (lv_at hl 0 rfl) ?_
                  refine lv_iconst (v := nI 1) hx hb d_X_isMember_79 (by decide) ?_
                  refine lv_iadd hx hb d_X_isMember_80 ?_
                  refine lv_topi (fun v_19 ev_19 => ?_)
                  obtain rfl : v_19 = nI (i + 1) := ev_19.trans (nI_add _ _)
                  refine lv_istore (lv' := [(4, .int (nI (i + 1))), (6, .int (nI i)), (5, .int (nI 0)), (0, .ref h0), (1, .int ch), (2, .int (nI f)), (3, .int (nI k))]) hx hb d_X_isMember_81 hl (by decide) rfl (fun ls hl => ?_)
                  refine lv_goto (tgt := 3) hx hb d_X_isMember_83 (by decide) ?_
                  exact ih (i + 1) (by omega) (by omega) (by have hE2 := hE; rw [mb_one (a := i) (by omega) (by rintro ⟨q1, q2⟩; first | omega | (rw [‹iu pt qt pn (i + 1) (nI 45) = false›] at q2; exact absurd q2 (by decide))), (by first | exact nh1 ‹_› | exact nh2 ‹_› : (decide (pt i ≤ ch) && decide (ch ≤ pt (i))) = false), Bool.false_or] at hE2; exact hE2) ls (lv_sub hl [0, 3, 4, 5, 6] rfl)
                · refine lv_iconst (v := nI 1) hx hb d_X_isMember_75 (by decide) ?_
                  exact W.zret (v := nI 1) hx hb hr (by rfl) (fun t ht hW => ⟨_, rfl, by rw [← hE, mb_one (a := i) (by omega) (by rintro ⟨q1, q2⟩; first | omega | (rw [‹iu pt qt pn (i + 1) (nI 45) = false›] at q2; exact absurd q2 (by decide))), nh3 ‹_› ‹_›]; rfl, ht⟩) (fun q h => nomatch h) d_X_isMember_76
            · exact absurd c_13 (by decide)
          · have c_12 := bI_nz.mp c_12
            refine lv_iconst (v := nI 1) hx hb d_X_isMember_30 (by decide) ?_
            refine lv_goto (tgt := 35) hx hb d_X_isMember_31 (by decide) ?_
            refine lv_istore (lv' := [(5, .int (nI 1)), (4, .int (nI i)), (0, .ref h0), (1, .int ch), (2, .int (nI f)), (3, .int (nI k))]) hx hb d_X_isMember_35 hl (by decide) rfl (fun ls hl => ?_)
            refine lv_iload hx hb d_X_isMember_37 (lv_at hl 0 rfl) ?_
            refine lv_if_eq (tgt := 49) hx hb d_X_isMember_39 (by decide) (fun c_20 => ?_) (fun c_20 => ?_)
            · exact absurd c_20 (by decide)
            · clear c_20
              refine lv_iload hx hb d_X_isMember_42 (lv_at hl 1 rfl) ?_
              refine lv_iconst (v := nI 2) hx hb d_X_isMember_44 (by decide) ?_
              refine lv_iadd hx hb d_X_isMember_45 ?_
              refine lv_topi (fun v_21 ev_21 => ?_)
              obtain rfl : v_21 = nI (i + 2) := ev_21.trans (nI_add _ _)
              refine lv_goto (tgt := 51) hx hb d_X_isMember_46 (by decide) ?_
              refine lv_istore (lv' := [(6, .int (nI (i + 2))), (5, .int (nI 1)), (4, .int (nI i)), (0, .ref h0), (1, .int ch), (2, .int (nI f)), (3, .int (nI k))]) hx hb d_X_isMember_51 hl (by decide) rfl (fun ls hl => ?_)
              refine lv_iload_n hx hb d_X_isMember_53 rfl (lv_at hl 4 rfl) ?_
              refine lv_aload_n hx hb d_X_isMember_54 rfl (lv_at hl 3 rfl) ?_
              refine va_get (D := (dC, dI)) (ci := 0) (v := .ref a2) (C := R_X) (T := F_X) (N := 6) hx hb htB in_X hown hK hP 0 rfl rfl 2 (by decide) (htB _ hfl_X_17) (fun _ h9 => h9) rfl d_X_isMember_55 ?_
              refine lv_iload hx hb d_X_isMember_58 (lv_at hl 2 rfl) ?_
              refine va_iald hx hb hK hP 2 0 rfl rfl (vp_in_nI (n := i) (by omega) (by decide)) d_X_isMember_60 ?_
              refine lv_topi (fun v_22 ev_22 => ?_)
              obtain rfl : v_22 = pt i := ev_22.trans (by rw [nI_clamp (n := i) (by omega)])
              refine lv_icmp_lt (tgt := 77) hx hb d_X_isMember_61 (by decide) (fun c_23 => ?_) (fun c_23 => ?_)
              · refine lv_iload hx hb d_X_isMember_77 (lv_at hl 0 rfl) ?_
                refine lv_iconst (v := nI 1) hx hb d_X_isMember_79 (by decide) ?_
                refine lv_iadd hx hb d_X_isMember_80 ?_
                refine lv_topi (fun v_24 ev_24 => ?_)
                obtain rfl : v_24 = nI (i + 2 + 1) := ev_24.trans (nI_add _ _)
                refine lv_istore (lv' := [(4, .int (nI (i + 2 + 1))), (6, .int (nI (i + 2))), (5, .int (nI 1)), (0, .ref h0), (1, .int ch), (2, .int (nI f)), (3, .int (nI k))]) hx hb d_X_isMember_81 hl (by decide) rfl (fun ls hl => ?_)
                refine lv_goto (tgt := 3) hx hb d_X_isMember_83 (by decide) ?_
                exact ih (i + 3) (by omega) (by omega) (by have hE2 := hE; rw [mb_rg (a := i) (by omega) (by omega) ‹_›, (by first | exact nh1 ‹_› | exact nh2 ‹_› : (decide (pt i ≤ ch) && decide (ch ≤ pt (i + 2))) = false), Bool.false_or] at hE2; exact hE2) ls (lv_sub hl [0, 3, 4, 5, 6] rfl)
              · refine lv_iload_n hx hb d_X_isMember_64 rfl (lv_at hl 4 rfl) ?_
                refine lv_aload_n hx hb d_X_isMember_65 rfl (lv_at hl 3 rfl) ?_
                refine va_get (D := (dC, dI)) (ci := 0) (v := .ref a2) (C := R_X) (T := F_X) (N := 6) hx hb htB in_X hown hK hP 0 rfl rfl 2 (by decide) (htB _ hfl_X_17) (fun _ h9 => h9) rfl d_X_isMember_66 ?_
                refine lv_iload hx hb d_X_isMember_69 (lv_at hl 0 rfl) ?_
                refine va_iald hx hb hK hP 2 0 rfl rfl (vp_in_nI (n := i + 2) (by omega) (by decide)) d_X_isMember_71 ?_
                refine lv_topi (fun v_25 ev_25 => ?_)
                obtain rfl : v_25 = pt (i + 2) := ev_25.trans (by rw [nI_clamp (n := i + 2) (by omega)])
                refine lv_icmp_gt (tgt := 77) hx hb d_X_isMember_72 (by decide) (fun c_26 => ?_) (fun c_26 => ?_)
                · refine lv_iload hx hb d_X_isMember_77 (lv_at hl 0 rfl) ?_
                  refine lv_iconst (v := nI 1) hx hb d_X_isMember_79 (by decide) ?_
                  refine lv_iadd hx hb d_X_isMember_80 ?_
                  refine lv_topi (fun v_27 ev_27 => ?_)
                  obtain rfl : v_27 = nI (i + 2 + 1) := ev_27.trans (nI_add _ _)
                  refine lv_istore (lv' := [(4, .int (nI (i + 2 + 1))), (6, .int (nI (i + 2))), (5, .int (nI 1)), (0, .ref h0), (1, .int ch), (2, .int (nI f)), (3, .int (nI k))]) hx hb d_X_isMember_81 hl (by decide) rfl (fun ls hl => ?_)
                  refine lv_goto (tgt := 3) hx hb d_X_isMember_83 (by decide) ?_
                  exact ih (i + 3) (by omega) (by omega) (by have hE2 := hE; rw [mb_rg (a := i) (by omega) (by omega) ‹_›, (by first | exact nh1 ‹_› | exact nh2 ‹_› : (decide (pt i ≤ ch) && decide (ch ≤ pt (i + 2))) = false), Bool.false_or] at hE2; exact hE2) ls (lv_sub hl [0, 3, 4, 5, 6] rfl)
                · refine lv_iconst (v := nI 1) hx hb d_X_isMember_75 (by decide) ?_
                  exact W.zret (v := nI 1) hx hb hr (by rfl) (fun t ht hW => ⟨_, rfl, by rw [← hE, mb_rg (a := i) (by omega) (by omega) ‹_›, nh3 ‹_› ‹_›]; rfl, ht⟩) (fun q h => nomatch h) d_X_isMember_76
  refine lv_iload_n hx hb d_X_isMember_0 rfl (lv_at hl 2 rfl) ?_
  refine lv_istore (lv' := [(4, .int (nI f)), (0, .ref h0), (1, .int ch), (2, .int (nI f)), (3, .int (nI k))]) hx hb d_X_isMember_1 hl (by decide) rfl (fun ls hl => ?_)
  exact loop 1001 f (by omega) (by omega) rfl ls hl

theorem r_X_isMember {p : Program} {l : Launch} {e : Env} {R : Room} {s : State} {mm : MethodId} {args : Array Value} {below : List Frame} {meth : Method} {c : Code} {H : Heap} {locs : List Loc} {cells slots : Nat} {Q : State → Prop} {cc : ByteArray} {pcn nL : Nat} {ls : Array Slot} {rest : List Value} {dC : Nat → ClassId} {dI : Nat → Nat → Nat} {h0 a1 a2 a3 a4 : Nat} {cI cZ : ClassId} {tx pt qt sr : Nat → Int32} {tn pn : Nat} (hp : pn ≤ 200) {ch : Int32} {f k : Nat} (hf : f ≤ 500) (hk : k ≤ 200) (hx : p.tables.exec = Jvm.exec) (hb : c.code = cc) (hml : c.maxLocals = nL) (hown : s.vm.findClass R_X = some mm.cls) (htB : ∀ w ∈ wB, w.before args s = true) (hK : va_K (dC, dI) classes (tyIZ cI cZ) s) (hP : va_P (dC, dI) classes (wX h0 a1 a2 a3 a4 cI cZ tx pt qt sr tn pn) H) (hls : ls.size = nL) (hre : (rest.map fun v => v.category).sum ≤ 8) (hR : 1 + 1 ≤ R.frames ∧ 8 + (7 + 11) + 22 ≤ R.locals) (hce : cells ≤ R.cells ∧ slots ≤ R.slots) (hd : decode cc pcn = .ok (.invokevirtual 110, 3)) (kk : W p l e R s mm args below meth c H locs cells slots Q (F0 mm (pcn + 3) ls (.int (bI (mb pt qt pn k ch (k + 1 - f) f)) :: rest))) : W p l e R s mm args below meth c H locs cells slots Q (F0 mm pcn ls (.int (nI k) :: .int (nI f) :: .int ch :: .ref h0 :: rest)) := by
  refine vp_callSi (va_Run.run (va_runV (As := [.int ch, .int (nI f), .int (nI k)]) (rest := rest) ⟨hx, hb, hml, hown, htB⟩ (c_X_isMember l dC dI h0 a1 a2 a3 a4 cI cZ tx pt qt sr tn pn hp ch f k hf hk) (cwV 3 htB (gV hml_X_110 hinm_X_isMember hsel_X_isMember hini_X hco_X_isMember) rfl rfl rfl (by decide +kernel) hR) ⟨fun a U g mk q => by obtain ⟨q0, qP, qK⟩ := q; exact ⟨q0, qP, va_K.moved (u := U) (U := U.calling g mk a) (Vm.Alike.refl U.vm) qK⟩, va_recv hK hP (ci := 0) (q0 := 0) rfl rfl, fun U hU hW => ⟨rfl, by rw [hU]; exact hP, va_K.moved hW.alike hK⟩⟩ rfl rfl hls rfl (lv_room hre) hd ⟨hce.1, hce.2⟩)) (fun r hr => ?_)
  rw [hr]; exact kk

set_option maxHeartbeats 4000000 in
set_option maxRecDepth 100000 in
theorem c_X_fits (l : Launch) (dC : Nat → ClassId) (dI : Nat → Nat → Nat) (h0 a1 a2 a3 a4 : Nat) (cI cZ : ClassId) (tx pt qt sr : Nat → Int32) (tn pn : Nat) (hp : pn ≤ 200) (ch : Int32) (a : Nat) (ha : a < pn) (o : Option Nat) (ho : ∀ k, o = some k → fm pt qt pn a ≤ k ∧ k < pn) : Met l y_X_fits (.code y_X_fits b_X_fits 5 (some .boolean) :: wB) (Rm 2 48) (va_Pc [.ref h0, .int ch, .int (nI a), .int (oI o)] (fun U => va_P (dC, dI) classes (wX h0 a1 a2 a3 a4 cI cZ tx pt qt sr tn pn) U.heap ∧ va_K (dC, dI) classes (tyIZ cI cZ) U)) (vp_Si (fun r => r = bI (ft pt qt pn a o ch))) 0 0 (fun _ => False) := by
  refine Met.ofW (cc := b_X_fits) (maxL := 5) (ret := (some .boolean)) (by decide) rfl ?_
  intro p e s mm args below meth c s₁ B hml hv
  obtain ⟨rfl, hP, hK⟩ := hv
  have hx := B.exec
  have hb := B.bytes
  have hr := B.returns
  have hts := atoms_spec (ws := (.code y_X_fits b_X_fits 5 (some .boolean) :: wB)) B.pre
  have htB : ∀ w ∈ wB, w.before _ s = true := fun w h => hts w (List.mem_cons_of_mem _ h)
  have hown : s.vm.findClass R_X = some mm.cls := findClass_of_methodNamed B.named
  have hlocks := B.notSynchronized
  have hl := lv_entry ([.ref h0, .int ch, .int (nI a), .int (oI o)]) (n := 5) (Nat.le_of_ble_eq_true rfl)
  rw [lg_entry_eq]
  generalize (lg_sl ([.ref h0, .int ch, .int (nI a), .int (oI o)]) ++ List.replicate (5 - (lg_sl ([.ref h0, .int ch, .int (nI a), .int (oI o)])).length) Slot.unset).toArray = ls at hl ⊢
  have hl : lv_has ls 5 [(0, .ref h0), (1, .int ch), (2, .int (nI a)), (3, .int (oI o))] := hl
  refine lv_iload_n hx hb d_X_fits_0 rfl (lv_at hl 3 rfl) ?_
  refine lv_iconst (v := -1) hx hb d_X_fits_1 (by decide) ?_
  refine lv_icmp_eq (tgt := 38) hx hb d_X_fits_2 (by decide) (fun c_1 => ?_) (fun c_1 => ?_)
  · obtain rfl : o = none := (oI_m1 (fun k q => by have := ho k q; omega)).mp c_1
    refine lv_aload_n hx hb d_X_fits_38 rfl (lv_at hl 0 rfl) ?_
    refine lv_iload_n hx hb d_X_fits_39 rfl (lv_at hl 2 rfl) ?_
    refine lv_bipush (v := nI 63) hx hb d_X_fits_40 (by decide) ?_
    refine r_X_isUnquoted hp (by omega) hx hb hml hown htB hK hP hl.1 (Nat.le_of_ble_eq_true rfl) ⟨Nat.le_of_ble_eq_true rfl, Nat.le_of_ble_eq_true rfl⟩ ⟨Nat.zero_le _, Nat.zero_le _⟩ d_X_fits_42 ?_
    refine lv_if_ne (tgt := 58) hx hb d_X_fits_45 (by decide) (fun c_2 => ?_) (fun c_2 => ?_)
    · have c_2 := bI_nz.mp c_2
      refine lv_iconst (v := nI 1) hx hb d_X_fits_58 (by decide) ?_
      refine lv_goto (tgt := 63) hx hb d_X_fits_59 (by decide) ?_
      exact W.zret (v := nI 1) hx hb hr (by rfl) (fun t ht hW => ⟨_, rfl, by simp only [ft]; first | (rw [‹iu pt qt pn a (nI 63) = true›]; rfl) | (rw [decide_eq_true ‹_›, Bool.or_true]; rfl) | (rw [‹iu pt qt pn a (nI 63) = false›, decide_eq_false ‹_›]; rfl), ht⟩) (fun q h => nomatch h) d_X_fits_63
    · have c_2 := bI_z.mp c_2
      refine lv_aload_n hx hb d_X_fits_48 rfl (lv_at hl 0 rfl) ?_
      refine va_get (D := (dC, dI)) (ci := 0) (v := .ref a2) (C := R_X) (T := F_X) (N := 6) hx hb htB in_X hown hK hP 0 rfl rfl 2 (by decide) (htB _ hfl_X_17) (fun _ h9 => h9) rfl d_X_fits_49 ?_
      refine lv_iload_n hx hb d_X_fits_52 rfl (lv_at hl 2 rfl) ?_
      refine va_iald hx hb hK hP 2 0 rfl rfl (vp_in_nI (n := a) (by omega) (by decide)) d_X_fits_53 ?_
      refine lv_topi (fun v_3 ev_3 => ?_)
      obtain rfl : v_3 = pt a := ev_3.trans (by rw [nI_clamp (n := a) (by omega)])
      refine lv_iload_n hx hb d_X_fits_54 rfl (lv_at hl 1 rfl) ?_
      refine lv_icmp_ne (tgt := 62) hx hb d_X_fits_55 (by decide) (fun c_4 => ?_) (fun c_4 => ?_)
      · refine lv_iconst (v := nI 0) hx hb d_X_fits_62 (by decide) ?_
        exact W.zret (v := nI 0) hx hb hr (by rfl) (fun t ht hW => ⟨_, rfl, by simp only [ft]; first | (rw [‹iu pt qt pn a (nI 63) = true›]; rfl) | (rw [decide_eq_true ‹_›, Bool.or_true]; rfl) | (rw [‹iu pt qt pn a (nI 63) = false›, decide_eq_false ‹_›]; rfl), ht⟩) (fun q h => nomatch h) d_X_fits_63
      · refine lv_iconst (v := nI 1) hx hb d_X_fits_58 (by decide) ?_
        refine lv_goto (tgt := 63) hx hb d_X_fits_59 (by decide) ?_
        exact W.zret (v := nI 1) hx hb hr (by rfl) (fun t ht hW => ⟨_, rfl, by simp only [ft]; first | (rw [‹iu pt qt pn a (nI 63) = true›]; rfl) | (rw [decide_eq_true ‹_›, Bool.or_true]; rfl) | (rw [‹iu pt qt pn a (nI 63) = false›, decide_eq_false ‹_›]; rfl), ht⟩) (fun q h => nomatch h) d_X_fits_63
  · obtain ⟨k, rfl⟩ : ∃ k, o = some k := by
      cases o with
      | none => exact absurd rfl c_1
      | some k => exact ⟨k, rfl⟩
    have hk := ho k rfl
    have hfl := fm_le pt qt pn a
    have hl : lv_has ls 5 [(0, .ref h0), (1, .int ch), (2, .int (nI a)), (3, .int (nI k))] := hl
    refine lv_aload_n hx hb d_X_fits_5 rfl (lv_at hl 0 rfl) ?_
    refine lv_iload_n hx hb d_X_fits_6 rfl (lv_at hl 2 rfl) ?_
    refine lv_iconst (v := nI 1) hx hb d_X_fits_7 (by decide) ?_
    refine lv_iadd hx hb d_X_fits_8 ?_
    refine lv_topi (fun v_5 ev_5 => ?_)
    obtain rfl : v_5 = nI (a + 1) := ev_5.trans (nI_add _ _)
    refine lv_bipush (v := nI 33) hx hb d_X_fits_9 (by decide) ?_
    refine r_X_isUnquoted hp (by omega) hx hb hml hown htB hK hP hl.1 (Nat.le_of_ble_eq_true rfl) ⟨Nat.le_of_ble_eq_true rfl, Nat.le_of_ble_eq_true rfl⟩ ⟨Nat.zero_le _, Nat.zero_le _⟩ d_X_fits_11 ?_
    refine lv_istore (lv' := [(4, .int (bI (iu pt qt pn (a + 1) (nI 33)))), (0, .ref h0), (1, .int ch), (2, .int (nI a)), (3, .int (nI k))]) hx hb d_X_fits_14 hl (by decide) rfl (fun ls hl => ?_)
    refine lv_aload_n hx hb d_X_fits_16 rfl (lv_at hl 1 rfl) ?_
    refine lv_iload_n hx hb d_X_fits_17 rfl (lv_at hl 2 rfl) ?_
    refine lv_aload_n hx hb d_X_fits_18 rfl (lv_at hl 1 rfl) ?_
    refine lv_iload_n hx hb d_X_fits_19 rfl (lv_at hl 3 rfl) ?_
    refine r_X_firstMember hp (by omega) hx hb hml hown htB hK hP hl.1 (Nat.le_of_ble_eq_true rfl) ⟨Nat.le_of_ble_eq_true rfl, Nat.le_of_ble_eq_true rfl⟩ ⟨Nat.zero_le _, Nat.zero_le _⟩ d_X_fits_20 ?_
    refine lv_iload_n hx hb d_X_fits_23 rfl (lv_at hl 4 rfl) ?_
    refine r_X_isMember hp (by omega) (by omega) hx hb hml hown htB hK hP hl.1 (Nat.le_of_ble_eq_true rfl) ⟨Nat.le_of_ble_eq_true rfl, Nat.le_of_ble_eq_true rfl⟩ ⟨Nat.zero_le _, Nat.zero_le _⟩ d_X_fits_24 ?_
    refine lv_iload hx hb d_X_fits_27 (lv_at hl 0 rfl) ?_
    refine lv_icmp_eq (tgt := 36) hx hb d_X_fits_29 (by decide) (fun c_6 => ?_) (fun c_6 => ?_)
    · refine lv_iconst (v := nI 0) hx hb d_X_fits_36 (by decide) ?_
      exact W.zret (v := nI 0) hx hb hr (by rfl) (fun t ht hW => ⟨_, rfl, by first | exact bne_e ‹_› | exact bne_n ‹_›, ht⟩) (fun q h => nomatch h) d_X_fits_37
    · refine lv_iconst (v := nI 1) hx hb d_X_fits_32 (by decide) ?_
      refine lv_goto (tgt := 37) hx hb d_X_fits_33 (by decide) ?_
      exact W.zret (v := nI 1) hx hb hr (by rfl) (fun t ht hW => ⟨_, rfl, by first | exact bne_e ‹_› | exact bne_n ‹_›, ht⟩) (fun q h => nomatch h) d_X_fits_37

theorem r_X_fits {p : Program} {l : Launch} {e : Env} {R : Room} {s : State} {mm : MethodId} {args : Array Value} {below : List Frame} {meth : Method} {c : Code} {H : Heap} {locs : List Loc} {cells slots : Nat} {Q : State → Prop} {cc : ByteArray} {pcn nL : Nat} {ls : Array Slot} {rest : List Value} {dC : Nat → ClassId} {dI : Nat → Nat → Nat} {h0 a1 a2 a3 a4 : Nat} {cI cZ : ClassId} {tx pt qt sr : Nat → Int32} {tn pn : Nat} (hp : pn ≤ 200) {ch : Int32} {a : Nat} (ha : a < pn) {o : Option Nat} (ho : ∀ k, o = some k → fm pt qt pn a ≤ k ∧ k < pn) (hx : p.tables.exec = Jvm.exec) (hb : c.code = cc) (hml : c.maxLocals = nL) (hown : s.vm.findClass R_X = some mm.cls) (htB : ∀ w ∈ wB, w.before args s = true) (hK : va_K (dC, dI) classes (tyIZ cI cZ) s) (hP : va_P (dC, dI) classes (wX h0 a1 a2 a3 a4 cI cZ tx pt qt sr tn pn) H) (hls : ls.size = nL) (hre : (rest.map fun v => v.category).sum ≤ 8) (hR : 2 + 1 ≤ R.frames ∧ 8 + (5 + 11) + 48 ≤ R.locals) (hce : cells ≤ R.cells ∧ slots ≤ R.slots) (hd : decode cc pcn = .ok (.invokevirtual 104, 3)) (kk : W p l e R s mm args below meth c H locs cells slots Q (F0 mm (pcn + 3) ls (.int (bI (ft pt qt pn a o ch)) :: rest))) : W p l e R s mm args below meth c H locs cells slots Q (F0 mm pcn ls (.int (oI o) :: .int (nI a) :: .int ch :: .ref h0 :: rest)) := by
  refine vp_callSi (va_Run.run (va_runV (As := [.int ch, .int (nI a), .int (oI o)]) (rest := rest) ⟨hx, hb, hml, hown, htB⟩ (c_X_fits l dC dI h0 a1 a2 a3 a4 cI cZ tx pt qt sr tn pn hp ch a ha o ho) (cwV 3 htB (gV hml_X_104 hinm_X_fits hsel_X_fits hini_X hco_X_fits) rfl rfl rfl (by decide +kernel) hR) ⟨fun a U g mk q => by obtain ⟨q0, qP, qK⟩ := q; exact ⟨q0, qP, va_K.moved (u := U) (U := U.calling g mk a) (Vm.Alike.refl U.vm) qK⟩, va_recv hK hP (ci := 0) (q0 := 0) rfl rfl, fun U hU hW => ⟨rfl, by rw [hU]; exact hP, va_K.moved hW.alike hK⟩⟩ rfl rfl hls rfl (lv_room hre) hd ⟨hce.1, hce.2⟩)) (fun r hr => ?_)
  rw [hr]; exact kk

set_option maxHeartbeats 4000000 in
set_option maxRecDepth 100000 in
theorem c_X_hasRoom (l : Launch) (ln lim : Nat) (hln : ln ≤ 1000) (hlim : lim ≤ 1000) (n : Int32) : Met l y_X_hasRoom (.code y_X_hasRoom b_X_hasRoom 3 (some .boolean) :: wB) (Rm 0 0) (va_Pc [.int (nI ln), .int n, .int (nI lim)] (fun U => True)) (vp_Si (fun r => r = bI (hrm ln lim n))) 0 0 (fun _ => False) := by
  refine Met.ofW (cc := b_X_hasRoom) (maxL := 3) (ret := (some .boolean)) (by decide) rfl ?_
  intro p e s mm args below meth c s₁ B hml hv
  obtain ⟨rfl, _⟩ := hv
  have hx := B.exec
  have hb := B.bytes
  have hr := B.returns
  have hts := atoms_spec (ws := (.code y_X_hasRoom b_X_hasRoom 3 (some .boolean) :: wB)) B.pre
  have htB : ∀ w ∈ wB, w.before _ s = true := fun w h => hts w (List.mem_cons_of_mem _ h)
  have hown : s.vm.findClass R_X = some mm.cls := findClass_of_methodNamed B.named
  have hlocks := B.notSynchronized
  have hl := lv_entry ([.int (nI ln), .int n, .int (nI lim)]) (n := 3) (Nat.le_of_ble_eq_true rfl)
  rw [lg_entry_eq]
  generalize (lg_sl ([.int (nI ln), .int n, .int (nI lim)]) ++ List.replicate (3 - (lg_sl ([.int (nI ln), .int n, .int (nI lim)])).length) Slot.unset).toArray = ls at hl ⊢
  have hl : lv_has ls 3 [(0, .int (nI ln)), (1, .int n), (2, .int (nI lim))] := hl
  refine lv_iload_n hx hb d_X_hasRoom_0 rfl (lv_at hl 1 rfl) ?_
  refine lv_if_lt (tgt := 21) hx hb d_X_hasRoom_1 (by decide) (fun c_1 => ?_) (fun c_1 => ?_)
  · refine lv_iconst (v := nI 0) hx hb d_X_hasRoom_21 (by decide) ?_
    exact W.zret (v := nI 0) hx hb hr (by rfl) (fun t ht hW => ⟨_, rfl, by first | (rw [hrm_a ‹_›]; rfl) | (rw [hrm_b ‹_›]; rfl) | (rw [hrm_c hj, decide_eq_true (by omega)]; rfl) | (rw [hrm_c hj, decide_eq_false (by omega)]; rfl), ht⟩) (fun q h => nomatch h) d_X_hasRoom_22
  · refine lv_iload_n hx hb d_X_hasRoom_4 rfl (lv_at hl 1 rfl) ?_
    refine lv_bipush (v := nI 8) hx hb d_X_hasRoom_5 (by decide) ?_
    refine lv_icmp_gt (tgt := 21) hx hb d_X_hasRoom_7 (by decide) (fun c_2 => ?_) (fun c_2 => ?_)
    · refine lv_iconst (v := nI 0) hx hb d_X_hasRoom_21 (by decide) ?_
      exact W.zret (v := nI 0) hx hb hr (by rfl) (fun t ht hW => ⟨_, rfl, by first | (rw [hrm_a ‹_›]; rfl) | (rw [hrm_b ‹_›]; rfl) | (rw [hrm_c hj, decide_eq_true (by omega)]; rfl) | (rw [hrm_c hj, decide_eq_false (by omega)]; rfl), ht⟩) (fun q h => nomatch h) d_X_hasRoom_22
    · obtain ⟨j, hj, rfl⟩ := hrm_j c_1 c_2
      refine lv_iload_n hx hb d_X_hasRoom_10 rfl (lv_at hl 0 rfl) ?_
      refine lv_iload_n hx hb d_X_hasRoom_11 rfl (lv_at hl 1 rfl) ?_
      refine lv_iadd hx hb d_X_hasRoom_12 ?_
      refine lv_topi (fun v_3 ev_3 => ?_)
      obtain rfl : v_3 = nI (ln + j) := ev_3.trans (nI_add _ _)
      refine lv_iload_n hx hb d_X_hasRoom_13 rfl (lv_at hl 2 rfl) ?_
      refine lv_icmp_gt (tgt := 21) hx hb d_X_hasRoom_14 (by decide) (fun c_4 => ?_) (fun c_4 => ?_)
      · have c_4 := (nI_ltI (by omega) (by omega)).mp c_4
        refine lv_iconst (v := nI 0) hx hb d_X_hasRoom_21 (by decide) ?_
        exact W.zret (v := nI 0) hx hb hr (by rfl) (fun t ht hW => ⟨_, rfl, by first | (rw [hrm_a ‹_›]; rfl) | (rw [hrm_b ‹_›]; rfl) | (rw [hrm_c hj, decide_eq_true (by omega)]; rfl) | (rw [hrm_c hj, decide_eq_false (by omega)]; rfl), ht⟩) (fun q h => nomatch h) d_X_hasRoom_22
      · have c_4 := mt (nI_ltI (by omega) (by omega)).mpr c_4
        refine lv_iconst (v := nI 1) hx hb d_X_hasRoom_17 (by decide) ?_
        refine lv_goto (tgt := 22) hx hb d_X_hasRoom_18 (by decide) ?_
        exact W.zret (v := nI 1) hx hb hr (by rfl) (fun t ht hW => ⟨_, rfl, by first | (rw [hrm_a ‹_›]; rfl) | (rw [hrm_b ‹_›]; rfl) | (rw [hrm_c hj, decide_eq_true (by omega)]; rfl) | (rw [hrm_c hj, decide_eq_false (by omega)]; rfl), ht⟩) (fun q h => nomatch h) d_X_hasRoom_22

theorem r_X_hasRoom {p : Program} {l : Launch} {e : Env} {R : Room} {s : State} {mm : MethodId} {args : Array Value} {below : List Frame} {meth : Method} {c : Code} {H : Heap} {locs : List Loc} {cells slots : Nat} {Q : State → Prop} {cc : ByteArray} {pcn nL : Nat} {ls : Array Slot} {rest : List Value} {ln lim : Nat} (hln : ln ≤ 1000) (hlim : lim ≤ 1000) {n : Int32} (hx : p.tables.exec = Jvm.exec) (hb : c.code = cc) (hml : c.maxLocals = nL) (hown : s.vm.findClass R_X = some mm.cls) (htB : ∀ w ∈ wB, w.before args s = true) (hls : ls.size = nL) (hre : (rest.map fun v => v.category).sum ≤ 8) (hR : 0 + 1 ≤ R.frames ∧ 8 + (3 + 11) + 0 ≤ R.locals) (hce : cells ≤ R.cells ∧ slots ≤ R.slots) (hd : decode cc pcn = .ok (.invokestatic 30, 3)) (kk : W p l e R s mm args below meth c H locs cells slots Q (F0 mm (pcn + 3) ls (.int (bI (hrm ln lim n)) :: rest))) : W p l e R s mm args below meth c H locs cells slots Q (F0 mm pcn ls (.int (nI lim) :: .int n :: .int (nI ln) :: rest)) := by
  refine vp_callSi (va_Run.run (va_runS (As := [.int (nI ln), .int n, .int (nI lim)]) (rest := rest) ⟨hx, hb, hml, hown, htB⟩ (c_X_hasRoom l ln lim hln hlim n) (cwS 3 htB (gS hml_X_30 hsta_X_hasRoom hini_X hco_X_hasRoom) rfl rfl rfl (by decide +kernel) hR) ⟨fun a U g mk q => ⟨q.1, trivial⟩, fun U hU hW => ⟨rfl, trivial⟩⟩ rfl rfl hls rfl (lv_room hre) hd ⟨hce.1, hce.2⟩)) (fun r hr => ?_)
  rw [hr]; exact kk

set_option maxHeartbeats 4000000 in
set_option maxRecDepth 100000 in
theorem c_X_byteOf (l : Launch) (x : Int64) (j i : Nat) (hi : i < j) : Met l y_X_byteOf (.code y_X_byteOf b_X_byteOf 4 (some .int) :: wB) (Rm 0 0) (va_Pc [.long x, .int (nI j), .int (nI i)] (fun U => True)) (vp_Si (fun r => r = bu x (8 * (j - 1 - i)))) 0 0 (fun _ => False) := by
  refine Met.ofW (cc := b_X_byteOf) (maxL := 4) (ret := (some .int)) (by decide) rfl ?_
  intro p e s mm args below meth c s₁ B hml hv
  obtain ⟨rfl, _⟩ := hv
  have hx := B.exec
  have hb := B.bytes
  have hr := B.returns
  have hts := atoms_spec (ws := (.code y_X_byteOf b_X_byteOf 4 (some .int) :: wB)) B.pre
  have htB : ∀ w ∈ wB, w.before _ s = true := fun w h => hts w (List.mem_cons_of_mem _ h)
  have hown : s.vm.findClass R_X = some mm.cls := findClass_of_methodNamed B.named
  have hlocks := B.notSynchronized
  have hl := lv_entry ([.long x, .int (nI j), .int (nI i)]) (n := 4) (Nat.le_of_ble_eq_true rfl)
  rw [lg_entry_eq]
  generalize (lg_sl ([.long x, .int (nI j), .int (nI i)]) ++ List.replicate (4 - (lg_sl ([.long x, .int (nI j), .int (nI i)])).length) Slot.unset).toArray = ls at hl ⊢
  have hl : lv_has ls 4 [(0, .long x), (2, .int (nI j)), (3, .int (nI i))] := hl
  refine lv_lload_n hx hb d_X_byteOf_0 rfl (lv_at hl 0 rfl) ?_
  refine lv_bipush (v := nI 8) hx hb d_X_byteOf_1 (by decide) ?_
  refine lv_iload_n hx hb d_X_byteOf_3 rfl (lv_at hl 1 rfl) ?_
  refine lv_iconst (v := nI 1) hx hb d_X_byteOf_4 (by decide) ?_
  refine lv_isub hx hb d_X_byteOf_5 ?_
  refine lv_topi (fun v_1 ev_1 => ?_)
  obtain rfl : v_1 = nI (j - 1) := ev_1.trans (pk_sub (by omega))
  refine lv_iload_n hx hb d_X_byteOf_6 rfl (lv_at hl 2 rfl) ?_
  refine lv_isub hx hb d_X_byteOf_7 ?_
  refine lv_topi (fun v_2 ev_2 => ?_)
  obtain rfl : v_2 = nI (j - 1 - i) := ev_2.trans (pk_sub (by omega))
  refine lv_imul hx hb d_X_byteOf_8 ?_
  refine lv_topi (fun v_3 ev_3 => ?_)
  obtain rfl : v_3 = nI (8 * (j - 1 - i)) := ev_3.trans (pk_mul _ _)
  refine lv_lushr hx hb d_X_byteOf_9 rfl ?_
  refine lv_topl (fun v_4 ev_4 => ?_)
  refine lv_ldc2 (v := 255) hx hb hown (htB _ hcn_X_67) d_X_byteOf_10 ?_
  refine lv_land hx hb d_X_byteOf_13 ?_
  refine lv_topl (fun v_5 ev_5 => ?_)
  refine lv_l2i hx hb d_X_byteOf_14 rfl ?_
  refine lv_topi (fun v_6 ev_6 => ?_)
  exact W.iret (v := v_6) hx hb hr (fun t ht hW => ⟨_, rfl, by simp only [bu, ‹_ = _›, *], ht⟩) (fun q h => nomatch h) d_X_byteOf_15

theorem r_X_byteOf {p : Program} {l : Launch} {e : Env} {R : Room} {s : State} {mm : MethodId} {args : Array Value} {below : List Frame} {meth : Method} {c : Code} {H : Heap} {locs : List Loc} {cells slots : Nat} {Q : State → Prop} {cc : ByteArray} {pcn nL : Nat} {ls : Array Slot} {rest : List Value} {x : Int64} {j i : Nat} (hi : i < j) (hx : p.tables.exec = Jvm.exec) (hb : c.code = cc) (hml : c.maxLocals = nL) (hown : s.vm.findClass R_X = some mm.cls) (htB : ∀ w ∈ wB, w.before args s = true) (hls : ls.size = nL) (hre : (rest.map fun v => v.category).sum ≤ 8) (hR : 0 + 1 ≤ R.frames ∧ 8 + (4 + 11) + 0 ≤ R.locals) (hce : cells ≤ R.cells ∧ slots ≤ R.slots) (hd : decode cc pcn = .ok (.invokestatic 34, 3)) (kk : W p l e R s mm args below meth c H locs cells slots Q (F0 mm (pcn + 3) ls (.int (bu x (8 * (j - 1 - i))) :: rest))) : W p l e R s mm args below meth c H locs cells slots Q (F0 mm pcn ls (.int (nI i) :: .int (nI j) :: .long x :: rest)) := by
  refine vp_callSi (va_Run.run (va_runS (As := [.long x, .int (nI j), .int (nI i)]) (rest := rest) ⟨hx, hb, hml, hown, htB⟩ (c_X_byteOf l x j i hi) (cwS 3 htB (gS hml_X_34 hsta_X_byteOf hini_X hco_X_byteOf) rfl rfl rfl (by decide +kernel) hR) ⟨fun a U g mk q => ⟨q.1, trivial⟩, fun U hU hW => ⟨rfl, trivial⟩⟩ rfl rfl hls rfl (lv_room hre) hd ⟨hce.1, hce.2⟩)) (fun r hr => ?_)
  rw [hr]; exact kk

set_option maxHeartbeats 4000000 in
set_option maxRecDepth 100000 in
theorem c_X_better (l : Launch) (b : Bool) (o1 o2 : Option Nat) (ho1 : ∀ k, o1 = some k → k ≤ 1000) (ho2 : ∀ k, o2 = some k → k ≤ 1000) : Met l y_X_better (.code y_X_better b_X_better 3 (some .int) :: wB) (Rm 1 30) (va_Pc [.int (oI o1), .int (oI o2), .int (bI b)] (fun U => True)) (vp_Si (fun r => r = oI (btr b o1 o2))) 0 0 (fun _ => False) := by
  refine Met.ofW (cc := b_X_better) (maxL := 3) (ret := (some .int)) (by decide) rfl ?_
  intro p e s mm args below meth c s₁ B hml hv
  obtain ⟨rfl, _⟩ := hv
  have hx := B.exec
  have hb := B.bytes
  have hr := B.returns
  have hts := atoms_spec (ws := (.code y_X_better b_X_better 3 (some .int) :: wB)) B.pre
  have htB : ∀ w ∈ wB, w.before _ s = true := fun w h => hts w (List.mem_cons_of_mem _ h)
  have hown : s.vm.findClass R_X = some mm.cls := findClass_of_methodNamed B.named
  have hlocks := B.notSynchronized
  have hl := lv_entry ([.int (oI o1), .int (oI o2), .int (bI b)]) (n := 3) (Nat.le_of_ble_eq_true rfl)
  rw [lg_entry_eq]
  generalize (lg_sl ([.int (oI o1), .int (oI o2), .int (bI b)]) ++ List.replicate (3 - (lg_sl ([.int (oI o1), .int (oI o2), .int (bI b)])).length) Slot.unset).toArray = ls at hl ⊢
  have hl : lv_has ls 3 [(0, .int (oI o1)), (1, .int (oI o2)), (2, .int (bI b))] := hl
  rcases o1 with _ | x <;> rcases o2 with _ | y
  · have hl : lv_has ls 3 [(0, .int (-1)), (1, .int (-1)), (2, .int (bI b))] := hl
    refine lv_iload_n hx hb d_X_better_0 rfl (lv_at hl 0 rfl) ?_
    refine lv_iconst (v := -1) hx hb d_X_better_1 (by decide) ?_
    refine lv_icmp_eq (tgt := 10) hx hb d_X_better_2 (by decide) (fun c_1 => ?_) (fun c_1 => ?_)
    · clear c_1
      refine lv_iload_n hx hb d_X_better_10 rfl (lv_at hl 0 rfl) ?_
      refine lv_iconst (v := -1) hx hb d_X_better_11 (by decide) ?_
      refine lv_icmp_ne (tgt := 19) hx hb d_X_better_12 (by decide) (fun c_2 => ?_) (fun c_2 => ?_)
      · exact absurd c_2 (by decide)
      · clear c_2
        refine lv_iload_n hx hb d_X_better_15 rfl (lv_at hl 1 rfl) ?_
        refine lv_goto (tgt := 20) hx hb d_X_better_16 (by decide) ?_
        exact W.iret (v := -1) hx hb hr (fun t ht hW => ⟨_, rfl, by first | rfl | (rw [show b = true from ‹_›]; rfl) | (rw [show b = false from ‹_›]; rfl), ht⟩) (fun q h => nomatch h) d_X_better_20
    · exact absurd c_1 (by decide)
  · have hl : lv_has ls 3 [(0, .int (-1)), (1, .int (nI y)), (2, .int (bI b))] := hl
    have hy1 := ho2 y rfl
    refine lv_iload_n hx hb d_X_better_0 rfl (lv_at hl 0 rfl) ?_
    refine lv_iconst (v := -1) hx hb d_X_better_1 (by decide) ?_
    refine lv_icmp_eq (tgt := 10) hx hb d_X_better_2 (by decide) (fun c_1 => ?_) (fun c_1 => ?_)
    · clear c_1
      refine lv_iload_n hx hb d_X_better_10 rfl (lv_at hl 0 rfl) ?_
      refine lv_iconst (v := -1) hx hb d_X_better_11 (by decide) ?_
      refine lv_icmp_ne (tgt := 19) hx hb d_X_better_12 (by decide) (fun c_2 => ?_) (fun c_2 => ?_)
      · exact absurd c_2 (by decide)
      · clear c_2
        refine lv_iload_n hx hb d_X_better_15 rfl (lv_at hl 1 rfl) ?_
        refine lv_goto (tgt := 20) hx hb d_X_better_16 (by decide) ?_
        exact W.iret (v := nI y) hx hb hr (fun t ht hW => ⟨_, rfl, by first | rfl | (rw [show b = true from ‹_›]; rfl) | (rw [show b = false from ‹_›]; rfl), ht⟩) (fun q h => nomatch h) d_X_better_20
    · exact absurd c_1 (by decide)
  · have hl : lv_has ls 3 [(0, .int (nI x)), (1, .int (-1)), (2, .int (bI b))] := hl
    have hx1 := ho1 x rfl
    refine lv_iload_n hx hb d_X_better_0 rfl (lv_at hl 0 rfl) ?_
    refine lv_iconst (v := -1) hx hb d_X_better_1 (by decide) ?_
    refine lv_icmp_eq (tgt := 10) hx hb d_X_better_2 (by decide) (fun c_1 => ?_) (fun c_1 => ?_)
    · exact absurd c_1 (nI_ne_m1 (by omega))
    · clear c_1
      refine lv_iload_n hx hb d_X_better_5 rfl (lv_at hl 1 rfl) ?_
      refine lv_iconst (v := -1) hx hb d_X_better_6 (by decide) ?_
      refine lv_icmp_ne (tgt := 21) hx hb d_X_better_7 (by decide) (fun c_2 => ?_) (fun c_2 => ?_)
      · exact absurd c_2 (by decide)
      · clear c_2
        refine lv_iload_n hx hb d_X_better_10 rfl (lv_at hl 0 rfl) ?_
        refine lv_iconst (v := -1) hx hb d_X_better_11 (by decide) ?_
        refine lv_icmp_ne (tgt := 19) hx hb d_X_better_12 (by decide) (fun c_3 => ?_) (fun c_3 => ?_)
        · clear c_3
          refine lv_iload_n hx hb d_X_better_19 rfl (lv_at hl 0 rfl) ?_
          exact W.iret (v := nI x) hx hb hr (fun t ht hW => ⟨_, rfl, by first | rfl | (rw [show b = true from ‹_›]; rfl) | (rw [show b = false from ‹_›]; rfl), ht⟩) (fun q h => nomatch h) d_X_better_20
        · exact absurd c_3 (nI_ne_m1 (by omega))
  · have hl : lv_has ls 3 [(0, .int (nI x)), (1, .int (nI y)), (2, .int (bI b))] := hl
    have hx1 := ho1 x rfl
    have hy1 := ho2 y rfl
    refine lv_iload_n hx hb d_X_better_0 rfl (lv_at hl 0 rfl) ?_
    refine lv_iconst (v := -1) hx hb d_X_better_1 (by decide) ?_
    refine lv_icmp_eq (tgt := 10) hx hb d_X_better_2 (by decide) (fun c_1 => ?_) (fun c_1 => ?_)
    · exact absurd c_1 (nI_ne_m1 (by omega))
    · clear c_1
      refine lv_iload_n hx hb d_X_better_5 rfl (lv_at hl 1 rfl) ?_
      refine lv_iconst (v := -1) hx hb d_X_better_6 (by decide) ?_
      refine lv_icmp_ne (tgt := 21) hx hb d_X_better_7 (by decide) (fun c_2 => ?_) (fun c_2 => ?_)
      · clear c_2
        refine lv_iload_n hx hb d_X_better_21 rfl (lv_at hl 2 rfl) ?_
        refine lv_if_eq (tgt := 33) hx hb d_X_better_22 (by decide) (fun c_3 => ?_) (fun c_3 => ?_)
        · have c_3 := bI_z.mp c_3
          refine lv_iload_n hx hb d_X_better_33 rfl (lv_at hl 0 rfl) ?_
          refine lv_iload_n hx hb d_X_better_34 rfl (lv_at hl 1 rfl) ?_
          refine va_mmax hx hb (by rw [hml]; exact hl.1.symm) hown (htB _ hml_X_91) (htB _ hsta_Math_max) (htB _ hini_Math) (htB _ hco_Math_max) (Nat.le_of_ble_eq_true rfl) (Nat.le_of_ble_eq_true rfl) (Nat.zero_le _) (Nat.zero_le _) d_X_better_35 ?_
          refine lv_topi (fun v_4 ev_4 => ?_)
          obtain rfl : v_4 = nI (max x y) := ev_4.trans (btr_max (by omega) (by omega))
          exact W.iret (v := nI (max x y)) hx hb hr (fun t ht hW => ⟨_, rfl, by first | rfl | (rw [show b = true from ‹_›]; rfl) | (rw [show b = false from ‹_›]; rfl), ht⟩) (fun q h => nomatch h) d_X_better_38
        · have c_3 := bI_nz.mp c_3
          refine lv_iload_n hx hb d_X_better_25 rfl (lv_at hl 0 rfl) ?_
          refine lv_iload_n hx hb d_X_better_26 rfl (lv_at hl 1 rfl) ?_
          refine va_mmin hx hb (by rw [hml]; exact hl.1.symm) hown (htB _ hml_X_101) (htB _ hsta_Math_min) (htB _ hini_Math) (htB _ hco_Math_min) (Nat.le_of_ble_eq_true rfl) (Nat.le_of_ble_eq_true rfl) (Nat.zero_le _) (Nat.zero_le _) d_X_better_27 ?_
          refine lv_topi (fun v_5 ev_5 => ?_)
          obtain rfl : v_5 = nI (min x y) := ev_5.trans (btr_min (by omega) (by omega))
          refine lv_goto (tgt := 38) hx hb d_X_better_30 (by decide) ?_
          exact W.iret (v := nI (min x y)) hx hb hr (fun t ht hW => ⟨_, rfl, by first | rfl | (rw [show b = true from ‹_›]; rfl) | (rw [show b = false from ‹_›]; rfl), ht⟩) (fun q h => nomatch h) d_X_better_38
      · exact absurd c_2 (nI_ne_m1 (by omega))

theorem r_X_better {p : Program} {l : Launch} {e : Env} {R : Room} {s : State} {mm : MethodId} {args : Array Value} {below : List Frame} {meth : Method} {c : Code} {H : Heap} {locs : List Loc} {cells slots : Nat} {Q : State → Prop} {cc : ByteArray} {pcn nL : Nat} {ls : Array Slot} {rest : List Value} {b : Bool} {o1 o2 : Option Nat} (ho1 : ∀ k, o1 = some k → k ≤ 1000) (ho2 : ∀ k, o2 = some k → k ≤ 1000) (hx : p.tables.exec = Jvm.exec) (hb : c.code = cc) (hml : c.maxLocals = nL) (hown : s.vm.findClass R_X = some mm.cls) (htB : ∀ w ∈ wB, w.before args s = true) (hls : ls.size = nL) (hre : (rest.map fun v => v.category).sum ≤ 8) (hR : 1 + 1 ≤ R.frames ∧ 8 + (3 + 11) + 30 ≤ R.locals) (hce : cells ≤ R.cells ∧ slots ≤ R.slots) (hd : decode cc pcn = .ok (.invokestatic 97, 3)) (kk : W p l e R s mm args below meth c H locs cells slots Q (F0 mm (pcn + 3) ls (.int (oI (btr b o1 o2)) :: rest))) : W p l e R s mm args below meth c H locs cells slots Q (F0 mm pcn ls (.int (bI b) :: .int (oI o2) :: .int (oI o1) :: rest)) := by
  refine vp_callSi (va_Run.run (va_runS (As := [.int (oI o1), .int (oI o2), .int (bI b)]) (rest := rest) ⟨hx, hb, hml, hown, htB⟩ (c_X_better l b o1 o2 ho1 ho2) (cwS 3 htB (gS hml_X_97 hsta_X_better hini_X hco_X_better) rfl rfl rfl (by decide +kernel) hR) ⟨fun a U g mk q => ⟨q.1, trivial⟩, fun U hU hW => ⟨rfl, trivial⟩⟩ rfl rfl hls rfl (lv_room hre) hd ⟨hce.1, hce.2⟩)) (fun r hr => ?_)
  rw [hr]; exact kk

