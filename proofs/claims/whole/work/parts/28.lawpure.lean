/-! what the law compares -/
theorem cut_same {tx pt qt : Nat → Int32} {pn tn : Nat} {en lg : Bool} (ht : tn ≤ 400) : (if en = true then eI tn (rdp tx pt qt pn lg 0 pn 0 ga tn) else oI (fnd (fun j => mX tx pt qt pn 0 j) lg (tn + 1))) = (if en = true then oI (fnd (fun z => mM tx pt qt pn (tn - z) tn tn) lg (tn + 1)) else oI (fnd (fun z => mM tx pt qt pn 0 tn z) lg (tn + 1))) := by
  cases en
  · rw [if_neg (by decide), if_neg (by decide), begin_same]
  · rw [if_pos rfl, if_pos rfl, end_same ht]
theorem lp_val {ok mt : Bool} {r : Int32} {ov : Nat → Int64} (h : lp_r ok mt r ov) : r = (if ok = true then nI 0 else nI 1) := by
  cases ok
  · rw [if_neg (by decide)]; exact h.2 rfl
  · rw [if_pos rfl]; exact (h.1 rfl).1
theorem cdv_0 {ok : Bool} (h : (if ok = true then nI 0 else nI 1) = (0 : Int32)) : ok = true := by
  cases ok
  · rw [if_neg (by decide)] at h; exact absurd h (by decide)
  · rfl
theorem part_same {tx pt qt : Nat → Int32} {pn tn : Nat} {p0 p1 : Int32} (ht : tn ≤ 400) (h : okp tn p0 p1 = true) : mX tx pt qt pn p0.toNatClampNeg p1.toNatClampNeg = mM tx pt qt pn p0.toNatClampNeg p1.toNatClampNeg p1.toNatClampNeg := by
  have h0 := h
  simp only [okp, Bool.and_eq_true, decide_eq_true_eq] at h0
  obtain ⟨frm, too, h1, h2, rfl, rfl⟩ := okp_t ht h0.1 h0.2.1 h0.2.2
  rw [nI_clamp (n := frm) (by omega), nI_clamp (n := too) (by omega)]
  exact mX_mM h1 (Nat.le_refl _)
theorem part_ov {ok mt : Bool} {r : Int32} {ov : Nat → Int64} (h : lp_r ok mt r ov) (hok : ok = true) : ov 0 = (if mt = true then 1 else 0) := (h.1 hok).2
theorem part_n {tx pt qt : Nat → Int32} {pn tn : Nat} {p0 p1 : Int32} {r : Int32} {ov : Nat → Int64} (ht : tn ≤ 400) (h : lp_r (okp tn p0 p1) (mX tx pt qt pn p0.toNatClampNeg p1.toNatClampNeg) r ov) (hok : okp tn p0 p1 = true)
    (c : (if okp tn p0 p1 = true then bI (mM tx pt qt pn p0.toNatClampNeg p1.toNatClampNeg p1.toNatClampNeg) else nI 0) = 0) : ov 0 = 0 := by
  rw [if_pos hok, ← part_same ht hok] at c
  rw [part_ov h hok, bI_z.mp c]; rfl
theorem part_y {tx pt qt : Nat → Int32} {pn tn : Nat} {p0 p1 : Int32} {r : Int32} {ov : Nat → Int64} (ht : tn ≤ 400) (h : lp_r (okp tn p0 p1) (mX tx pt qt pn p0.toNatClampNeg p1.toNatClampNeg) r ov) (hok : okp tn p0 p1 = true)
    (c : ¬ (if okp tn p0 p1 = true then bI (mM tx pt qt pn p0.toNatClampNeg p1.toNatClampNeg p1.toNatClampNeg) else nI 0) = 0) : ov 0 = 1 := by
  rw [if_pos hok, ← part_same ht hok] at c
  rw [part_ov h hok, bI_nz.mp c]; rfl
