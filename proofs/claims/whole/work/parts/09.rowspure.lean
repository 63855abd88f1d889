/-! the row of beginnings, as a function: a place's beginning, or none -/
/-- the row behind a *: from frm on the best so far -/
def tar (b : Bool) (g : Nat → Option Nat) (frm : Nat) : Nat → Option Nat
  | 0 => g frm
  | i + 1 => btr b (tar b g frm i) (g (frm + i + 1))
/-- the row's place behind i, behind a sign that takes one -/
def tk (tx pt qt : Nat → Int32) (pn a : Nat) (o : Option Nat) (g : Nat → Option Nat) (i : Nat) : Option Nat := if ft pt qt pn a o (tx i) = true then g i else none
/-- the row behind the sign at a -/
def sg (tx pt qt : Nat → Int32) (pn : Nat) (b : Bool) (frm : Nat) (g : Nat → Option Nat) (a : Nat) : Nat → Option Nat := fun j =>
  if iu pt qt pn a (nI 42) = true then (if j < frm then g j else tar b g frm (j - frm)) else if j ≤ frm then none else tk tx pt qt pn a (cl pt qt pn a) g (j - 1)
/-- where the next sign begins -/
def nx (pt qt : Nat → Int32) (pn a : Nat) : Nat := match cl pt qt pn a with
  | none => a + 1
  | some k => k + 1
theorem nx_gt (pt qt : Nat → Int32) (pn a : Nat) : a + 1 ≤ nx pt qt pn a := by
  unfold nx
  cases h : cl pt qt pn a with
  | none => exact Nat.le_refl _
  | some k => have := cl_in h; show a + 1 ≤ k + 1; omega
theorem nx_le {pt qt : Nat → Int32} {pn a : Nat} (ha : a < pn) : nx pt qt pn a ≤ pn := by
  unfold nx
  cases h : cl pt qt pn a with
  | none => exact ha
  | some k => have := cl_in h; show k + 1 ≤ pn; omega
/-- the row behind the whole pattern -/
def rdp (tx pt qt : Nat → Int32) (pn : Nat) (b : Bool) (frm : Nat) : Nat → Nat → (Nat → Option Nat) → (Nat → Option Nat)
  | 0, _, g => g
  | f + 1, a, g => if a < pn then rdp tx pt qt pn b frm f (nx pt qt pn a) (sg tx pt qt pn b frm g a) else g
theorem rdp_out {tx pt qt : Nat → Int32} {pn : Nat} {b : Bool} {frm a : Nat} {g : Nat → Option Nat} (h : pn ≤ a) : ∀ f, rdp tx pt qt pn b frm f a g = g
  | 0 => rfl
  | f + 1 => by unfold rdp; rw [if_neg (by omega)]
theorem rdp_more {tx pt qt : Nat → Int32} {pn : Nat} {b : Bool} {frm : Nat} : ∀ (f h a : Nat) (g : Nat → Option Nat), pn ≤ a + f → pn ≤ a + h → rdp tx pt qt pn b frm f a g = rdp tx pt qt pn b frm h a g
  | 0, h, a, g, h1, _ => by rw [rdp_out (by omega), rdp_out (by omega)]
  | f + 1, 0, a, g, _, h2 => by rw [rdp_out (by omega), rdp_out (by omega)]
  | f + 1, h + 1, a, g, h1, h2 => by
    unfold rdp
    have := nx_gt pt qt pn a
    split
    · exact rdp_more f h _ _ (by omega) (by omega)
    · rfl
theorem rdp_go {tx pt qt : Nat → Int32} {pn : Nat} {b : Bool} {frm a : Nat} {g : Nat → Option Nat} (h : a < pn) : rdp tx pt qt pn b frm (pn - a) a g = rdp tx pt qt pn b frm (pn - nx pt qt pn a) (nx pt qt pn a) (sg tx pt qt pn b frm g a) := by
  have := nx_gt pt qt pn a
  rw [show pn - a = (pn - a - 1) + 1 by omega]
  conv => lhs; unfold rdp
  rw [if_pos h]
  exact rdp_more _ _ _ _ (by omega) (by omega)
/-- small beginnings -/
def sml (g : Nat → Option Nat) : Prop := ∀ j k, g j = some k → k ≤ 400
theorem btr_sml {b : Bool} {o1 o2 : Option Nat} {N : Nat} (h1 : ∀ k, o1 = some k → k ≤ N) (h2 : ∀ k, o2 = some k → k ≤ N) : ∀ k, btr b o1 o2 = some k → k ≤ N := by
  intro k h
  cases o1 with
  | none => exact h2 k h
  | some x =>
    cases o2 with
    | none => exact h1 k h
    | some y =>
      have hx := h1 x rfl
      have hy := h2 y rfl
      simp only [btr, Option.some.injEq] at h
      subst h
      cases b
      · show max x y ≤ N; omega
      · show min x y ≤ N; omega
theorem tar_sml {b : Bool} {g : Nat → Option Nat} {frm : Nat} (h : sml g) : ∀ i k, tar b g frm i = some k → k ≤ 400
  | 0, k, q => h frm k q
  | i + 1, k, q => btr_sml (tar_sml h i) (h (frm + i + 1)) k q
theorem tk_sml {tx pt qt : Nat → Int32} {pn a : Nat} {o : Option Nat} {g : Nat → Option Nat} (h : sml g) (i : Nat) : ∀ k, tk tx pt qt pn a o g i = some k → k ≤ 400 := by
  intro k q
  unfold tk at q
  split at q
  · exact h i k q
  · cases q
theorem sg_sml {tx pt qt : Nat → Int32} {pn : Nat} {b : Bool} {frm a : Nat} {g : Nat → Option Nat} (h : sml g) : sml (sg tx pt qt pn b frm g a) := by
  intro j k q
  unfold sg at q
  split at q
  · split at q
    · exact h j k q
    · exact tar_sml h _ k q
  · split at q
    · cases q
    · exact tk_sml h _ k q
theorem oI_ne {o : Option Nat} (h : ∀ k, o = some k → k ≤ 1000) : oI o = -1 ↔ o = none := oI_m1 (fun k q => by have := h k q; omega)
/-- the rows that a match begins with -/
def gs (frm : Nat) : Nat → Option Nat := fun j => if j = frm then some frm else none
def ga : Nat → Option Nat := fun j => if j ≤ 400 then some j else none
theorem gs_sml {frm : Nat} (h : frm ≤ 400) : sml (gs frm) := by
  intro j k q
  unfold gs at q
  split at q
  · cases q; exact h
  · cases q
theorem ga_sml : sml ga := by
  intro j k q
  unfold ga at q
  split at q
  · cases q; assumption
  · cases q
theorem tar_go {b : Bool} {g : Nat → Option Nat} {frm i : Nat} (h : frm < i) : tar b g frm (i - frm) = btr b (tar b g frm (i - 1 - frm)) (g i) := by
  have e : i - frm = (i - 1 - frm) + 1 := by omega
  rw [e]
  show btr b (tar b g frm (i - 1 - frm)) (g (frm + (i - 1 - frm) + 1)) = _
  rw [show frm + (i - 1 - frm) + 1 = i by omega]
theorem mx_nx {pt qt : Nat → Int32} {pn a : Nat} (hp : pn ≤ 200) (ha : a < pn) : (if nI a < oI (cl pt qt pn a) then oI (cl pt qt pn a) else nI a) = nI (nx pt qt pn a - 1) := by
  unfold nx
  cases h : cl pt qt pn a with
  | none =>
    have h1 : ¬ nI a < oI none := by
      show ¬ nI a < -1
      intro q
      have q2 := Int32.lt_iff_toInt_lt.mp q
      rw [nI_toInt (by omega), show (-1 : Int32).toInt = -1 by decide] at q2
      omega
    rw [if_neg h1]; rfl
  | some k =>
    have hk := cl_in h
    rw [if_pos (show nI a < oI (some k) from nI_lt (by omega) (by omega))]
    rfl
/-- the first, or the last, place of the first i where f holds -/
def fnd (f : Nat → Bool) (lg : Bool) : Nat → Option Nat
  | 0 => none
  | i + 1 => if (f i && (lg || (fnd f lg i).isNone)) = true then some i else fnd f lg i
theorem fnd_lt {f : Nat → Bool} {lg : Bool} : ∀ {i k : Nat}, fnd f lg i = some k → k < i
  | 0, k, h => by simp [fnd] at h
  | i + 1, k, h => by
    unfold fnd at h
    split at h
    · cases h; omega
    · have := fnd_lt h; omega
/-- how long the end is that begins at o -/
def eI (tn : Nat) (o : Option Nat) : Int32 := match o with
  | none => -1
  | some k => nI tn - nI k
theorem rdp_sml {tx pt qt : Nat → Int32} {pn : Nat} {b : Bool} {frm : Nat} : ∀ {f a : Nat} {g : Nat → Option Nat}, sml g → sml (rdp tx pt qt pn b frm f a g)
  | 0, _, _, h => h
  | f + 1, a, g, h => by
    unfold rdp
    split
    · exact rdp_sml (sg_sml h)
    · exact h
theorem isS_n {o : Option Nat} (h : o = none) : nI 0 = bI o.isSome := by subst h; rfl
theorem isS_s {o : Option Nat} (h : ¬ o = none) : nI 1 = bI o.isSome := by
  cases o with
  | none => exact absurd rfl h
  | some k => rfl
/-- does the text from frm up to too match? -/
def mX (tx pt qt : Nat → Int32) (pn frm too : Nat) : Bool := (rdp tx pt qt pn false frm pn 0 (gs frm) too).isSome
theorem fnd_hit {f : Nat → Bool} {lg : Bool} {i : Nat} (h1 : f i = true) (h2 : lg = true ∨ fnd f lg i = none) : fnd f lg (i + 1) = some i := by
  conv => lhs; unfold fnd
  rw [if_pos]
  rcases h2 with h2 | h2 <;> simp [h1, h2]
theorem fnd_m1 {f : Nat → Bool} {lg : Bool} {i : Nat} (h1 : f i = false) : fnd f lg (i + 1) = fnd f lg i := by
  conv => lhs; unfold fnd
  rw [if_neg]
  simp [h1]
theorem fnd_m2 {f : Nat → Bool} {lg : Bool} {i : Nat} (h1 : lg = false) (h2 : ¬ fnd f lg i = none) : fnd f lg (i + 1) = fnd f lg i := by
  conv => lhs; unfold fnd
  rw [if_neg]
  subst h1
  cases q : fnd f false i with
  | none => exact absurd q h2
  | some k => simp
theorem fnd_none {f : Nat → Bool} {lg : Bool} {i : Nat} (hi : i ≤ 1000) : oI (fnd f lg i) = -1 ↔ fnd f lg i = none := oI_m1 (fun k q => by have := fnd_lt q; omega)
theorem isS_f {o : Option Nat} (h : o = none) : o.isSome = false := by subst h; rfl
theorem isS_t {o : Option Nat} (h : ¬ o = none) : o.isSome = true := by
  cases o with
  | none => exact absurd rfl h
  | some k => rfl
/-- what count answers -/
def ctX (tn pn : Nat) (pt qt : Nat → Int32) (wh : Int32) : Int32 := if wh = nI 0 then nI tn else if wh = nI 1 then nI pn else if wh = nI 2 then nI (cq qt pn) else if wh = nI 3 then nI (cs pt qt pn pn) else -1
theorem out3 {x : Int32} (h0 : ¬ x = nI 0) (h1 : ¬ x = nI 1) (h2 : ¬ x = nI 2) (h3 : ¬ x = nI 3) : x.toInt < 0 ∨ 3 < x.toInt := by
  rcases (show x.toInt < 0 ∨ 0 ≤ x.toInt by omega) with q | q
  · exact Or.inl q
  · rcases (show 3 < x.toInt ∨ x.toInt ≤ 3 by omega) with q2 | q2
    · exact Or.inr q2
    · obtain ⟨j, hj, e⟩ := nI_of2 (x := x) (M := nI 3) (n := 3) (nI_toInt (by decide)) (by rw [Int32.lt_iff_toInt_lt, Int32.toInt_zero]; omega) (by rw [Int32.le_iff_toInt_le, nI_toInt (by decide)]; omega)
      rcases (show j = 0 ∨ j = 1 ∨ j = 2 ∨ j = 3 by omega) with rfl | rfl | rfl | rfl
      · exact absurd e h0
      · exact absurd e h1
      · exact absurd e h2
      · exact absurd e h3
