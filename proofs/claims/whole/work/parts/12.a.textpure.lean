/-! what text and pattern put behind -/
/-- the text with the first i of j bytes of x behind its tn characters -/
def ap (tx : Nat → Int32) (tn : Nat) (x : Int64) (j i : Nat) : Nat → Int32 := fun q => if tn ≤ q ∧ q < tn + i then bu x (8 * (j - 1 - (q - tn))) else tx q
theorem ap_0 {tx : Nat → Int32} {tn : Nat} {x : Int64} {j : Nat} : ap tx tn x j 0 = tx := by
  funext q; unfold ap; rw [if_neg (by omega)]
theorem ap_s {tx : Nat → Int32} {tn : Nat} {x : Int64} {j i : Nat} : upd (ap tx tn x j i) (tn + i) (bu x (8 * (j - 1 - i))) = ap tx tn x j (i + 1) := by
  funext q
  by_cases h : q = tn + i
  · subst h; rw [pk_us]; unfold ap; rw [if_pos (by omega), Nat.add_sub_cancel_left]
  · rw [pk_un h]; unfold ap
    by_cases h2 : tn ≤ q ∧ q < tn + i
    · rw [if_pos h2, if_pos (by omega)]
    · rw [if_neg h2, if_neg (by omega)]
/-- bit k -/
def qb (q : Int32) (k : Nat) : Bool := decide (((q.toUInt32 >>> ((nI k).toUInt32 &&& Int32.toUInt32 31)).toInt32 &&& nI 1) = nI 1)
def aq (qt : Nat → Int32) (pn : Nat) (q : Int32) (i : Nat) : Nat → Int32 := fun t => if pn ≤ t ∧ t < pn + i then bI (qb q (t - pn)) else qt t
theorem aq_0 {qt : Nat → Int32} {pn : Nat} {q : Int32} : aq qt pn q 0 = qt := by
  funext t; unfold aq; rw [if_neg (by omega)]
theorem aq_s {qt : Nat → Int32} {pn : Nat} {q : Int32} {i : Nat} : upd (aq qt pn q i) (pn + i) (bI (qb q i)) = aq qt pn q (i + 1) := by
  funext t
  by_cases h : t = pn + i
  · subst h; rw [pk_us]; unfold aq; rw [if_pos (by omega), Nat.add_sub_cancel_left]
  · rw [pk_un h]; unfold aq
    by_cases h2 : pn ≤ t ∧ t < pn + i
    · rw [if_pos h2, if_pos (by omega)]
    · rw [if_neg h2, if_neg (by omega)]
/-- what text answers, and the text behind it -/
def teR (tn lim : Nat) (n : Int32) : Int32 := if hrm tn lim n = true then nI (tn + n.toNatClampNeg) else -1
def teN (tn lim : Nat) (n : Int32) : Nat := if hrm tn lim n = true then tn + n.toNatClampNeg else tn
def teT (tx : Nat → Int32) (tn lim : Nat) (x : Int64) (n : Int32) : Nat → Int32 := if hrm tn lim n = true then ap tx tn x n.toNatClampNeg n.toNatClampNeg else tx
def teQ (qt : Nat → Int32) (tn lim : Nat) (q n : Int32) : Nat → Int32 := if hrm tn lim n = true then aq qt tn q n.toNatClampNeg else qt
theorem teN_le {tn lim : Nat} {n : Int32} (h : tn ≤ lim) : teN tn lim n ≤ lim := by
  unfold teN
  split
  · obtain ⟨j, hj, rfl, hl⟩ := hrm_t ‹_›
    rw [nI_clamp (by omega)]; exact hl
  · exact h
