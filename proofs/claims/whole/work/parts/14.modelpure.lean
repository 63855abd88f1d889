/-! the reference's rows: truths -/
theorem nh4 {x y : Int32} (h : x = y) : (decide (y ≤ x) && decide (x ≤ y)) = true := by
  subst h; rw [decide_eq_true (Int32.le_refl _)]; rfl
theorem nh5 {x y : Int32} (h : ¬ x = y) : (decide (y ≤ x) && decide (x ≤ y)) = false := by
  cases q : (decide (y ≤ x) && decide (x ≤ y)) with
  | false => rfl
  | true =>
    rw [Bool.and_eq_true, decide_eq_true_eq, decide_eq_true_eq] at q
    exact absurd (Int32.le_antisymm q.2 q.1) h
/-- does F hold at one of the d places from frm on? -/
def sbB (F : Nat → Bool) (frm : Nat) : Nat → Bool
  | 0 => false
  | d + 1 => sbB F frm d || F (frm + d)
/-- the next row, as far as place frm + d has been looked at -/
def NB (tx pt qt : Nat → Int32) (pn frm too a : Nat) (F : Nat → Bool) (d j : Nat) : Bool :=
  if iu pt qt pn a (nI 42) = true then decide (frm ≤ j ∧ j < frm + d) && sbB F frm (j - frm + 1) else decide (frm < j ∧ j ≤ frm + d ∧ j ≤ too) && (F (j - 1) && ft pt qt pn a (cl pt qt pn a) (tx (j - 1)))
theorem NB_0 {tx pt qt : Nat → Int32} {pn frm too a : Nat} {F : Nat → Bool} {j : Nat} : NB tx pt qt pn frm too a F 0 j = false := by
  unfold NB
  split
  · rw [decide_eq_false (by omega)]; rfl
  · rw [decide_eq_false (by omega)]; rfl
theorem NB_star {tx pt qt : Nat → Int32} {pn frm too a : Nat} {F : Nat → Bool} {d : Nat} {nv : Nat → Int32} {v : Bool} (h : iu pt qt pn a (nI 42) = true) (hv : v = sbB F frm (d + 1)) (hn : ∀ j, j ≤ 400 → nv j = bI (NB tx pt qt pn frm too a F d j)) :
    ∀ j, j ≤ 400 → upd nv (frm + d) (bI v) j = bI (NB tx pt qt pn frm too a F (d + 1) j) := by
  intro j hj
  by_cases q : j = frm + d
  · subst q
    rw [pk_us]; unfold NB; rw [if_pos h, decide_eq_true (by omega), hv, Nat.add_sub_cancel_left]; rfl
  · rw [pk_un q, hn j hj]; unfold NB; rw [if_pos h, if_pos h]
    by_cases q2 : frm ≤ j ∧ j < frm + d
    · rw [decide_eq_true q2, decide_eq_true (by omega)]
    · rw [decide_eq_false q2, decide_eq_false (by omega)]
theorem NB_hit {tx pt qt : Nat → Int32} {pn frm too a : Nat} {F : Nat → Bool} {d : Nat} {nv : Nat → Int32} (h : iu pt qt pn a (nI 42) = false) (hF : F (frm + d) = true) (hd : frm + d < too) (hf : ft pt qt pn a (cl pt qt pn a) (tx (frm + d)) = true) (hn : ∀ j, j ≤ 400 → nv j = bI (NB tx pt qt pn frm too a F d j)) :
    ∀ j, j ≤ 400 → upd nv (frm + d + 1) (nI 1) j = bI (NB tx pt qt pn frm too a F (d + 1) j) := by
  intro j hj
  have h' : ¬ iu pt qt pn a (nI 42) = true := by rw [h]; decide
  by_cases q : j = frm + d + 1
  · subst q
    rw [pk_us]; unfold NB; rw [if_neg h', decide_eq_true (by omega), show frm + d + 1 - 1 = frm + d from rfl, hF, hf]; rfl
  · rw [pk_un q, hn j hj]; unfold NB; rw [if_neg h', if_neg h']
    by_cases q2 : frm < j ∧ j ≤ frm + d ∧ j ≤ too
    · rw [decide_eq_true q2, decide_eq_true (by omega)]
    · rw [decide_eq_false q2, decide_eq_false (by omega)]
theorem NB_miss {tx pt qt : Nat → Int32} {pn frm too a : Nat} {F : Nat → Bool} {d : Nat} {nv : Nat → Int32} (h : iu pt qt pn a (nI 42) = false) (hm : F (frm + d) = false ∨ ¬ frm + d < too ∨ ft pt qt pn a (cl pt qt pn a) (tx (frm + d)) = false) (hn : ∀ j, j ≤ 400 → nv j = bI (NB tx pt qt pn frm too a F d j)) :
    ∀ j, j ≤ 400 → nv j = bI (NB tx pt qt pn frm too a F (d + 1) j) := by
  intro j hj
  have h' : ¬ iu pt qt pn a (nI 42) = true := by rw [h]; decide
  rw [hn j hj]; unfold NB; rw [if_neg h', if_neg h']
  by_cases q : j = frm + d + 1
  · subst q
    rw [decide_eq_false (by omega), show frm + d + 1 - 1 = frm + d from rfl]
    rcases hm with e | e | e
    · rw [e]; simp
    · rw [decide_eq_false (by omega)]
    · rw [e]; simp
  · by_cases q2 : frm < j ∧ j ≤ frm + d ∧ j ≤ too
    · rw [decide_eq_true q2, decide_eq_true (by omega)]
    · rw [decide_eq_false q2, decide_eq_false (by omega)]
/-- the row behind the sign at a -/
def sgB (tx pt qt : Nat → Int32) (pn frm too : Nat) (F : Nat → Bool) (a : Nat) : Nat → Bool := NB tx pt qt pn frm too a F (too + 1 - frm)
/-- the row behind the pattern -/
def rdB (tx pt qt : Nat → Int32) (pn frm too : Nat) : Nat → Nat → (Nat → Bool) → (Nat → Bool)
  | 0, _, F => F
  | f + 1, a, F => if a < pn then rdB tx pt qt pn frm too f (nx pt qt pn a) (sgB tx pt qt pn frm too F a) else F
theorem rdB_out {tx pt qt : Nat → Int32} {pn frm too a : Nat} {F : Nat → Bool} (h : pn ≤ a) : ∀ f, rdB tx pt qt pn frm too f a F = F
  | 0 => rfl
  | f + 1 => by unfold rdB; rw [if_neg (by omega)]
theorem rdB_more {tx pt qt : Nat → Int32} {pn frm too : Nat} : ∀ (f h a : Nat) (F : Nat → Bool), pn ≤ a + f → pn ≤ a + h → rdB tx pt qt pn frm too f a F = rdB tx pt qt pn frm too h a F
  | 0, h, a, F, h1, _ => by rw [rdB_out (by omega), rdB_out (by omega)]
  | f + 1, 0, a, F, _, h2 => by rw [rdB_out (by omega), rdB_out (by omega)]
  | f + 1, h + 1, a, F, h1, h2 => by
    unfold rdB
    have := nx_gt pt qt pn a
    split
    · exact rdB_more f h _ _ (by omega) (by omega)
    · rfl
theorem rdB_go {tx pt qt : Nat → Int32} {pn frm too a : Nat} {F : Nat → Bool} (h : a < pn) : rdB tx pt qt pn frm too (pn - a) a F = rdB tx pt qt pn frm too (pn - nx pt qt pn a) (nx pt qt pn a) (sgB tx pt qt pn frm too F a) := by
  have := nx_gt pt qt pn a
  rw [show pn - a = (pn - a - 1) + 1 by omega]
  conv => lhs; unfold rdB
  rw [if_pos h]
  exact rdB_more _ _ _ _ (by omega) (by omega)
/-- the row that a match begins with -/
def fB (frm : Nat) : Nat → Bool := fun j => decide (j = frm)
/-- does the text from frm up to too match, by the reference? -/
def mM (tx pt qt : Nat → Int32) (pn frm too : Nat) : Nat → Bool := rdB tx pt qt pn frm too pn 0 (fB frm)
theorem sa_0 {pt qt : Nat → Int32} {pn a : Nat} (h1 : iu pt qt pn a (nI 42) = false) (h2 : iu pt qt pn a (nI 63) = false) (h3 : iu pt qt pn a (nI 91) = false) : sa pt qt pn a = false := by
  unfold sa; rw [h1, h2, h3]; rfl
theorem sa_1 {pt qt : Nat → Int32} {pn a : Nat} (h : iu pt qt pn a (nI 42) = true ∨ iu pt qt pn a (nI 63) = true ∨ iu pt qt pn a (nI 91) = true) : sa pt qt pn a = true := by
  unfold sa; rcases h with h | h | h <;> simp [h]
