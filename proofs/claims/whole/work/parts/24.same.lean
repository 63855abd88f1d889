/-! the class's row and the reference's rows say the same -/
theorem btr_some (b : Bool) (o1 o2 : Option Nat) : (btr b o1 o2).isSome = (o1.isSome || o2.isSome) := by
  cases o1 <;> cases o2 <;> rfl
theorem tar_sb {b : Bool} {g : Nat → Option Nat} {F : Nat → Bool} {frm too : Nat} (h : ∀ j, frm ≤ j → j ≤ too → (g j).isSome = F j) : ∀ d, frm + d ≤ too → (tar b g frm d).isSome = sbB F frm (d + 1)
  | 0, hd => by
    show (g frm).isSome = (false || F (frm + 0))
    rw [h frm (Nat.le_refl _) (by omega)]; rfl
  | d + 1, hd => by
    show (btr b (tar b g frm d) (g (frm + d + 1))).isSome = (sbB F frm (d + 1) || F (frm + (d + 1)))
    rw [btr_some, tar_sb h d (by omega), h (frm + d + 1) (by omega) (by omega)]; rfl
theorem sg_sgB {tx pt qt : Nat → Int32} {pn : Nat} {b : Bool} {g : Nat → Option Nat} {F : Nat → Bool} {frm too a : Nat} (h : ∀ j, frm ≤ j → j ≤ too → (g j).isSome = F j) : ∀ j, frm ≤ j → j ≤ too → (sg tx pt qt pn b frm g a j).isSome = sgB tx pt qt pn frm too F a j := by
  intro j h1 h2
  unfold sg sgB NB
  by_cases q : iu pt qt pn a (nI 42) = true
  · rw [if_pos q, if_pos q, if_neg (by omega), tar_sb h (j - frm) (by omega), decide_eq_true (by omega)]; rfl
  · rw [if_neg q, if_neg q]
    by_cases q2 : j ≤ frm
    · rw [if_pos q2, decide_eq_false (by omega)]; rfl
    · rw [if_neg q2, decide_eq_true (by omega)]
      unfold tk
      by_cases q3 : ft pt qt pn a (cl pt qt pn a) (tx (j - 1)) = true
      · rw [if_pos q3, h (j - 1) (by omega) (by omega), q3]; simp
      · rw [if_neg q3]
        rw [Bool.not_eq_true] at q3
        rw [q3]; simp
theorem rd_same {tx pt qt : Nat → Int32} {pn : Nat} {b : Bool} {frm too : Nat} : ∀ (f a : Nat) {g : Nat → Option Nat} {F : Nat → Bool}, (∀ j, frm ≤ j → j ≤ too → (g j).isSome = F j) → ∀ j, frm ≤ j → j ≤ too → (rdp tx pt qt pn b frm f a g j).isSome = rdB tx pt qt pn frm too f a F j
  | 0, a, g, F, h => h
  | f + 1, a, g, F, h => by
    unfold rdp rdB
    split
    · exact rd_same f (nx pt qt pn a) (sg_sgB h)
    · exact h
theorem mX_mM {tx pt qt : Nat → Int32} {pn frm too j : Nat} (h1 : frm ≤ j) (h2 : j ≤ too) : mX tx pt qt pn frm j = mM tx pt qt pn frm too j := by
  unfold mX mM
  refine rd_same pn 0 (fun i _ _ => ?_) j h1 h2
  unfold gs fB
  by_cases q : i = frm
  · rw [if_pos q, decide_eq_true q]; rfl
  · rw [if_neg q, decide_eq_false q]; rfl
theorem fnd_congr {f g : Nat → Bool} {lg : Bool} : ∀ n, (∀ i, i < n → f i = g i) → fnd f lg n = fnd g lg n
  | 0, _ => rfl
  | n + 1, h => by
    unfold fnd
    rw [h n (by omega), fnd_congr n (fun i q => h i (by omega))]
/-- o is the least, or the greatest, of the k with S -/
def Bst (lg : Bool) (o : Option Nat) (S : Nat → Bool) : Prop := (∀ k, o = some k → S k = true ∧ ∀ k', S k' = true → (if lg = true then k ≤ k' else k' ≤ k)) ∧ (o = none → ∀ k', S k' = false)
theorem Bst.cg {lg : Bool} {o : Option Nat} {S S' : Nat → Bool} (h : Bst lg o S) (e : ∀ k, S k = S' k) : Bst lg o S' := by
  have : S = S' := funext e
  subst this; exact h
theorem Bst.or {lg : Bool} {o1 o2 : Option Nat} {S1 S2 : Nat → Bool} (h1 : Bst lg o1 S1) (h2 : Bst lg o2 S2) : Bst lg (btr lg o1 o2) (fun k => S1 k || S2 k) := by
  cases o1 with
  | none =>
    refine Bst.cg (S := S2) h2 (fun k => ?_)
    rw [h1.2 rfl k, Bool.false_or]
  | some x =>
    cases o2 with
    | none =>
      refine Bst.cg (S := S1) h1 (fun k => ?_)
      rw [h2.2 rfl k, Bool.or_false]
    | some y =>
      obtain ⟨a1, a2⟩ := h1.1 x rfl
      obtain ⟨b1, b2⟩ := h2.1 y rfl
      refine ⟨fun k hk => ?_, fun hk => by cases hk⟩
      simp only [btr, Option.some.injEq] at hk
      cases lg with
      | true =>
        simp only [if_true] at hk a2 b2 ⊢
        refine ⟨?_, fun k' q => ?_⟩
        · rcases Nat.le_total x y with l | l
          · rw [Nat.min_eq_left l] at hk; rw [← hk, a1]; rfl
          · rw [Nat.min_eq_right l] at hk; rw [← hk, b1, Bool.or_true]
        · rw [Bool.or_eq_true] at q
          have e1 : min x y ≤ x := Nat.min_le_left _ _
          have e2 : min x y ≤ y := Nat.min_le_right _ _
          rcases q with q | q
          · have := a2 k' q; omega
          · have := b2 k' q; omega
      | false =>
        simp only [Bool.false_eq_true, if_false] at hk a2 b2 ⊢
        refine ⟨?_, fun k' q => ?_⟩
        · rcases Nat.le_total x y with l | l
          · rw [Nat.max_eq_right l] at hk; rw [← hk, b1, Bool.or_true]
          · rw [Nat.max_eq_left l] at hk; rw [← hk, a1]; rfl
        · rw [Bool.or_eq_true] at q
          have e1 : x ≤ max x y := Nat.le_max_left _ _
          have e2 : y ≤ max x y := Nat.le_max_right _ _
          rcases q with q | q
          · have := a2 k' q; omega
          · have := b2 k' q; omega
theorem Bst.no {lg : Bool} {S : Nat → Bool} (h : ∀ k, S k = false) : Bst lg none S := ⟨fun k q => (by cases q), fun _ => h⟩
/-- behind a *: the best of all places so far -/
theorem tar_Bst {lg : Bool} {tn : Nat} {g : Nat → Option Nat} {FF : Nat → Nat → Bool} (h : ∀ j, j ≤ tn → Bst lg (g j) (fun k => decide (k ≤ j) && FF k j)) : ∀ d, d ≤ tn → Bst lg (tar lg g 0 d) (fun k => decide (k ≤ d) && sbB (FF k) k (d - k + 1))
  | 0, hd => by
    refine Bst.cg (h 0 hd) (fun k => ?_)
    by_cases q : k ≤ 0
    · obtain rfl : k = 0 := by omega
      rfl
    · rw [decide_eq_false q]; rfl
  | d + 1, hd => by
    have h1 := tar_Bst h d (by omega)
    have h2 := h (d + 1) hd
    have h3 := Bst.or h1 h2
    have e : tar lg g 0 (d + 1) = btr lg (tar lg g 0 d) (g (d + 1)) := by
      show btr lg (tar lg g 0 d) (g (0 + d + 1)) = _
      rw [Nat.zero_add]
    rw [e]
    refine Bst.cg h3 (fun k => ?_)
    show ((decide (k ≤ d) && sbB (FF k) k (d - k + 1)) || (decide (k ≤ d + 1) && FF k (d + 1))) = (decide (k ≤ d + 1) && sbB (FF k) k (d + 1 - k + 1))
    by_cases q : k ≤ d
    · rw [decide_eq_true q, decide_eq_true (show k ≤ d + 1 by omega), show d + 1 - k + 1 = (d - k + 1) + 1 by omega]
      show _ = (true && (sbB (FF k) k (d - k + 1) || FF k (k + (d - k + 1))))
      rw [show k + (d - k + 1) = d + 1 by omega]
      simp
    · rw [decide_eq_false q]
      by_cases q2 : k ≤ d + 1
      · obtain rfl : k = d + 1 := by omega
        rw [Nat.sub_self]
        show (false && _ || (decide (d + 1 ≤ d + 1) && FF (d + 1) (d + 1))) = (decide (d + 1 ≤ d + 1) && (false || FF (d + 1) (d + 1 + 0)))
        simp
      · rw [decide_eq_false q2]; rfl
theorem sg_Bst {tx pt qt : Nat → Int32} {pn : Nat} {lg : Bool} {tn a : Nat} {g : Nat → Option Nat} {FF : Nat → Nat → Bool} (h : ∀ j, j ≤ tn → Bst lg (g j) (fun k => decide (k ≤ j) && FF k j)) : ∀ j, j ≤ tn → Bst lg (sg tx pt qt pn lg 0 g a j) (fun k => decide (k ≤ j) && sgB tx pt qt pn k tn (FF k) a j) := by
  intro j hj
  unfold sg
  by_cases q : iu pt qt pn a (nI 42) = true
  · rw [if_pos q, if_neg (by omega), Nat.sub_zero]
    refine Bst.cg (tar_Bst h j hj) (fun k => ?_)
    unfold sgB NB
    rw [if_pos q]
    by_cases q2 : k ≤ j
    · rw [decide_eq_true q2, decide_eq_true (show k ≤ j ∧ j < k + (tn + 1 - k) by omega)]; simp
    · rw [decide_eq_false q2]; rfl
  · rw [if_neg q]
    have e : ∀ k, (decide (k ≤ j) && sgB tx pt qt pn k tn (FF k) a j) = (decide (k < j) && (FF k (j - 1) && ft pt qt pn a (cl pt qt pn a) (tx (j - 1)))) := by
      intro k
      unfold sgB NB
      rw [if_neg q]
      by_cases q2 : k < j
      · rw [decide_eq_true q2, decide_eq_true (show k ≤ j by omega), decide_eq_true (show k < j ∧ j ≤ k + (tn + 1 - k) ∧ j ≤ tn by omega)]; simp
      · rw [decide_eq_false q2, decide_eq_false (show ¬ (k < j ∧ j ≤ k + (tn + 1 - k) ∧ j ≤ tn) by omega)]; simp
    by_cases q2 : j ≤ 0
    · rw [if_pos q2]
      refine Bst.no (fun k => ?_)
      rw [e k, decide_eq_false (by omega)]; rfl
    · rw [if_neg q2]
      unfold tk
      by_cases q3 : ft pt qt pn a (cl pt qt pn a) (tx (j - 1)) = true
      · rw [if_pos q3]
        refine Bst.cg (h (j - 1) (by omega)) (fun k => ?_)
        rw [e k, q3]
        by_cases q4 : k < j
        · rw [decide_eq_true q4, decide_eq_true (show k ≤ j - 1 by omega)]; simp
        · rw [decide_eq_false q4, decide_eq_false (show ¬ k ≤ j - 1 by omega)]; rfl
      · rw [if_neg q3]
        rw [Bool.not_eq_true] at q3
        refine Bst.no (fun k => ?_)
        rw [e k, q3]; simp
theorem rd_Bst {tx pt qt : Nat → Int32} {pn : Nat} {lg : Bool} {tn : Nat} : ∀ (f a : Nat) {g : Nat → Option Nat} {FF : Nat → Nat → Bool}, (∀ j, j ≤ tn → Bst lg (g j) (fun k => decide (k ≤ j) && FF k j)) → ∀ j, j ≤ tn → Bst lg (rdp tx pt qt pn lg 0 f a g j) (fun k => decide (k ≤ j) && rdB tx pt qt pn k tn f a (FF k) j)
  | 0, a, g, FF, h => h
  | f + 1, a, g, FF, h => by
    unfold rdp rdB
    by_cases q : a < pn
    · simp only [if_pos q]
      exact rd_Bst f (nx pt qt pn a) (FF := fun k => sgB tx pt qt pn k tn (FF k) a) (sg_Bst h)
    · simp only [if_neg q]
      exact h
theorem ga_Bst {lg : Bool} {tn : Nat} (ht : tn ≤ 400) : ∀ j, j ≤ tn → Bst lg (ga j) (fun k => decide (k ≤ j) && fB k j) := by
  intro j hj
  unfold ga fB
  rw [if_pos (by omega)]
  refine ⟨fun k hk => ?_, fun hk => by cases hk⟩
  cases hk
  refine ⟨by simp, fun k' q => ?_⟩
  rw [Bool.and_eq_true, decide_eq_true_eq, decide_eq_true_eq] at q
  obtain ⟨_, rfl⟩ := q
  split <;> exact Nat.le_refl _
theorem fnd_some {f : Nat → Bool} {lg : Bool} : ∀ (n : Nat), (∀ i, fnd f lg n = some i → i < n ∧ f i = true ∧ ∀ i', i' < n → f i' = true → (if lg = true then i' ≤ i else i ≤ i')) ∧ (fnd f lg n = none → ∀ i', i' < n → f i' = false)
  | 0 => ⟨fun i h => by simp [fnd] at h, fun _ i' h => absurd h (by omega)⟩
  | n + 1 => by
    obtain ⟨h1, h2⟩ := @fnd_some f lg n
    by_cases q : (f n && (lg || (fnd f lg n).isNone)) = true
    · have e : fnd f lg (n + 1) = some n := by conv => { lhs; unfold fnd }; rw [if_pos q]
      rw [e]
      rw [Bool.and_eq_true] at q
      refine ⟨fun i hi => ?_, fun hi => by cases hi⟩
      cases hi
      refine ⟨by omega, q.1, fun i' q1 q2 => ?_⟩
      cases lg with
      | true => rw [if_pos rfl]; omega
      | false =>
        simp only [Bool.false_or] at q
        have hn : fnd f false n = none := by
          cases z : fnd f false n with
          | none => rfl
          | some w => rw [z] at q; exact absurd q.2 (by simp)
        rw [if_neg (by decide)]
        rcases Nat.lt_or_ge i' n with l | l
        · have := h2 hn i' l; rw [this] at q2; cases q2
        · omega
    · have e : fnd f lg (n + 1) = fnd f lg n := by conv => { lhs; unfold fnd }; rw [if_neg q]
      rw [e]
      refine ⟨fun i hi => ?_, fun hi i' q1 => ?_⟩
      · obtain ⟨c1, c2, c3⟩ := h1 i hi
        refine ⟨by omega, c2, fun i' q1 q2 => ?_⟩
        rcases Nat.lt_or_ge i' n with l | l
        · exact c3 i' l q2
        · obtain rfl : i' = n := by omega
          cases lg with
          | true => rw [q2] at q; exact absurd rfl q
          | false => rw [if_neg (by decide)]; omega
      · rcases Nat.lt_or_ge i' n with l | l
        · exact h2 hi i' l
        · obtain rfl : i' = n := by omega
          cases z : f i' with
          | false => rfl
          | true => rw [z, hi] at q; exact absurd (by simp) q
theorem end_same {tx pt qt : Nat → Int32} {pn : Nat} {lg : Bool} {tn : Nat} (ht : tn ≤ 400) : eI tn (rdp tx pt qt pn lg 0 pn 0 ga tn) = oI (fnd (fun z => mM tx pt qt pn (tn - z) tn tn) lg (tn + 1)) := by
  have hB : Bst lg (rdp tx pt qt pn lg 0 pn 0 ga tn) (fun k => decide (k ≤ tn) && mM tx pt qt pn k tn tn) := rd_Bst pn 0 (ga_Bst ht) tn (Nat.le_refl _)
  obtain ⟨f1, f2⟩ := @fnd_some (fun z => mM tx pt qt pn (tn - z) tn tn) lg (tn + 1)
  cases ho : rdp tx pt qt pn lg 0 pn 0 ga tn with
  | none =>
    have hN := hB.2 ho
    cases hf : fnd (fun z => mM tx pt qt pn (tn - z) tn tn) lg (tn + 1) with
    | none => rfl
    | some i =>
      obtain ⟨c1, c2, -⟩ := f1 i hf
      have : (decide (tn - i ≤ tn) && mM tx pt qt pn (tn - i) tn tn) = false := hN (tn - i)
      rw [decide_eq_true (by omega), Bool.true_and] at this
      rw [this] at c2; cases c2
  | some k =>
    obtain ⟨b1, b2⟩ := hB.1 k ho
    rw [Bool.and_eq_true, decide_eq_true_eq] at b1
    cases hf : fnd (fun z => mM tx pt qt pn (tn - z) tn tn) lg (tn + 1) with
    | none =>
      have := f2 hf (tn - k) (by omega)
      rw [show tn - (tn - k) = k by omega] at this
      rw [this] at b1; exact absurd b1.2 (by decide)
    | some i =>
      obtain ⟨c1, c2, c3⟩ := f1 i hf
      have d1 := b2 (tn - i) (by rw [Bool.and_eq_true, decide_eq_true_eq]; exact ⟨by omega, c2⟩)
      have d2 := c3 (tn - k) (by omega) (by rw [show tn - (tn - k) = k by omega]; exact b1.2)
      have e : i = tn - k := by
        cases lg with
        | true => rw [if_pos rfl] at d1 d2; omega
        | false => rw [if_neg (by decide)] at d1 d2; omega
      show nI tn - nI k = nI i
      rw [pk_sub b1.1, e]
theorem begin_same {tx pt qt : Nat → Int32} {pn : Nat} {lg : Bool} {tn : Nat} : fnd (fun j => mX tx pt qt pn 0 j) lg (tn + 1) = fnd (fun z => mM tx pt qt pn 0 tn z) lg (tn + 1) :=
  fnd_congr (tn + 1) (fun i h => mX_mM (Nat.zero_le _) (by omega))
