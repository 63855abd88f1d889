/-! the pure side: what a state is, and what the pattern's signs say -/
/-- the class's cells: text, its length, pattern, quoted, its length, the row -/
abbrev wX (h0 a1 a2 a3 a4 : Nat) (cI cZ : ClassId) (tx pt qt sr : Nat → Int32) (tn pn : Nat) : va_W :=
  [(h0, .inr (0, [.ref a1, .int (nI tn), .ref a2, .ref a3, .int (nI pn), .ref a4])), (a1, .inl (cI, 400, .inl tx)), (a2, .inl (cI, 200, .inl pt)), (a3, .inl (cZ, 200, .inl qt)), (a4, .inl (cI, 401, .inl sr))]
/-- the reference's cells -/
abbrev wM (h0 a1 a2 a3 a4 a5 : Nat) (cI cZ : ClassId) (cd : Int32) (tx pt qt ar nr : Nat → Int32) (tn pn : Nat) : va_W :=
  [(h0, .inr (1, [.int cd, .ref a1, .ref a2, .ref a3, .int (nI tn), .int (nI pn), .ref a4, .ref a5])), (a1, .inl (cI, 400, .inl tx)), (a2, .inl (cI, 200, .inl pt)), (a3, .inl (cZ, 200, .inl qt)), (a4, .inl (cZ, 401, .inl ar)), (a5, .inl (cZ, 401, .inl nr))]
abbrev tyIZ (cI cZ : ClassId) : List (ClassId × FieldType) := [(cI, .int), (cZ, .boolean)]
def bI (b : Bool) : Int32 := if b then 1 else 0
def oI (o : Option Nat) : Int32 := match o with
  | none => -1
  | some k => nI k
theorem bI_t : bI true = 1 := rfl
theorem bI_f : bI false = 0 := rfl
theorem bI_z {b : Bool} : bI b = 0 ↔ b = false := by cases b <;> simp [bI] <;> decide
theorem bI_nz {b : Bool} : ¬ bI b = 0 ↔ b = true := by cases b <;> simp [bI] <;> decide
theorem bI_inj {a b : Bool} : bI a = bI b ↔ a = b := by cases a <;> cases b <;> simp [bI] <;> decide
theorem bI_nar (b : Bool) : narrow .boolean (.int (bI b)) = .int (bI b) := by cases b <;> rfl
theorem bI_vn (b : Bool) : vp_nar .boolean (bI b) = bI b := by cases b <;> rfl
theorem bI_1 {b : Bool} : bI b = 1 ↔ b = true := by cases b <;> simp [bI] <;> decide
theorem nI_ne_m1 {k : Nat} (h : k < 2 ^ 31) : ¬ nI k = -1 := by
  intro q
  have h1 := nI_toInt h
  rw [q] at h1
  have : (-1 : Int32).toInt = -1 := by decide
  omega
theorem oI_m1 {o : Option Nat} (h : ∀ k, o = some k → k < 2 ^ 31) : oI o = -1 ↔ o = none := by
  cases o with
  | none => simp [oI]
  | some k => simp [oI, nI_ne_m1 (h k rfl)]
/-- is the character at a unquoted, and c? -/
def iu (pt qt : Nat → Int32) (pn a : Nat) (c : Int32) : Bool := decide (a < pn) && (decide (qt a = 0) && decide (pt a = c))
theorem iu_t {pt qt : Nat → Int32} {pn a : Nat} {c : Int32} (h1 : a < pn) (h2 : qt a = 0) (h3 : pt a = c) : iu pt qt pn a c = true := by simp [iu, h1, h2, h3]
theorem iu_n {pt qt : Nat → Int32} {pn a : Nat} {c : Int32} (h1 : ¬ a < pn) : iu pt qt pn a c = false := by simp [iu, h1]
theorem iu_q {pt qt : Nat → Int32} {pn a : Nat} {c : Int32} (h1 : ¬ qt a = 0) : iu pt qt pn a c = false := by simp [iu, h1]
theorem iu_c {pt qt : Nat → Int32} {pn a : Nat} {c : Int32} (h1 : ¬ pt a = c) : iu pt qt pn a c = false := by simp [iu, h1]
/-- the first member of a set that begins at a -/
def fm (pt qt : Nat → Int32) (pn a : Nat) : Nat := if iu pt qt pn (a + 1) (nI 33) = true then a + 2 else a + 1
theorem fm_le (pt qt : Nat → Int32) (pn a : Nat) : a + 1 ≤ fm pt qt pn a ∧ fm pt qt pn a ≤ a + 2 := by unfold fm; split <;> omega
/-- the first unquoted ] from a on -/
def sc (pt qt : Nat → Int32) (pn : Nat) : Nat → Nat → Option Nat
  | 0, _ => none
  | f + 1, a => if a < pn then if iu pt qt pn a (nI 93) = true then some a else sc pt qt pn f (a + 1) else none
theorem sc_in {pt qt : Nat → Int32} {pn : Nat} : ∀ {f a k : Nat}, sc pt qt pn f a = some k → a ≤ k ∧ k < pn
  | 0, _, _, h => by simp [sc] at h
  | f + 1, a, k, h => by
    unfold sc at h
    split at h
    · split at h
      · cases h; omega
      · have := sc_in h; omega
    · cases h
/-- where the set that begins at a is closed -/
def cl (pt qt : Nat → Int32) (pn a : Nat) : Option Nat := if iu pt qt pn a (nI 91) = true then sc pt qt pn (pn + 1 - (fm pt qt pn a + 1)) (fm pt qt pn a + 1) else none
theorem cl_in {pt qt : Nat → Int32} {pn a k : Nat} (h : cl pt qt pn a = some k) : fm pt qt pn a < k ∧ a + 1 < k ∧ k < pn := by
  unfold cl at h
  split at h
  · have := sc_in h; have := fm_le pt qt pn a; omega
  · cases h
theorem cl_m1 {pt qt : Nat → Int32} {pn a : Nat} (hp : pn ≤ 200) : oI (cl pt qt pn a) = -1 ↔ cl pt qt pn a = none :=
  oI_m1 (fun k h => by have := cl_in h; omega)
/-- is c one of the members from a up to k? -/
def mb (pt qt : Nat → Int32) (pn k : Nat) (c : Int32) : Nat → Nat → Bool
  | 0, _ => false
  | f + 1, a => if a < k then if (decide (a + 2 < k) && iu pt qt pn (a + 1) (nI 45)) = true then (decide (pt a ≤ c) && decide (c ≤ pt (a + 2))) || mb pt qt pn k c f (a + 3) else (decide (pt a ≤ c) && decide (c ≤ pt a)) || mb pt qt pn k c f (a + 1) else false
/-- does the sign at a, closed at o, take the character c? -/
def ft (pt qt : Nat → Int32) (pn a : Nat) (o : Option Nat) (c : Int32) : Bool := match o with
  | none => iu pt qt pn a (nI 63) || decide (pt a = c)
  | some k => mb pt qt pn k c (k + 1 - fm pt qt pn a) (fm pt qt pn a) != iu pt qt pn (a + 1) (nI 33)
theorem sc_out {pt qt : Nat → Int32} {pn a : Nat} (h : pn ≤ a) : ∀ f, sc pt qt pn f a = none
  | 0 => rfl
  | f + 1 => by unfold sc; rw [if_neg (by omega)]
theorem sc_hit {pt qt : Nat → Int32} {pn a : Nat} (h : a < pn) (h2 : iu pt qt pn a (nI 93) = true) : sc pt qt pn (pn + 1 - a) a = some a := by
  rw [show pn + 1 - a = (pn - a) + 1 by omega]; unfold sc; rw [if_pos h, if_pos h2]
theorem sc_go {pt qt : Nat → Int32} {pn a : Nat} (h : a < pn) (h2 : iu pt qt pn a (nI 93) = false) : sc pt qt pn (pn + 1 - a) a = sc pt qt pn (pn + 1 - (a + 1)) (a + 1) := by
  rw [show pn + 1 - a = (pn + 1 - (a + 1)) + 1 by omega]
  conv => lhs; unfold sc
  rw [if_pos h, if_neg (by rw [h2]; decide)]
theorem mb_out {pt qt : Nat → Int32} {pn k : Nat} {c : Int32} {a : Nat} (h : k ≤ a) : ∀ f, mb pt qt pn k c f a = false
  | 0 => rfl
  | f + 1 => by unfold mb; rw [if_neg (by omega)]
/-- enough room to read on: more says no more -/
theorem mb_more {pt qt : Nat → Int32} {pn k : Nat} {c : Int32} : ∀ (f g a : Nat), k + 1 ≤ a + f → k + 1 ≤ a + g → mb pt qt pn k c f a = mb pt qt pn k c g a
  | 0, g, a, h1, _ => by rw [mb_out (by omega), mb_out (by omega)]
  | f + 1, 0, a, _, h2 => by rw [mb_out (by omega), mb_out (by omega)]
  | f + 1, g + 1, a, h1, h2 => by
    unfold mb
    split
    · split
      · rw [mb_more f g (a + 3) (by omega) (by omega)]
      · rw [mb_more f g (a + 1) (by omega) (by omega)]
    · rfl
theorem mb_rg {pt qt : Nat → Int32} {pn k : Nat} {c : Int32} {a : Nat} (h : a < k) (h1 : a + 2 < k) (h2 : iu pt qt pn (a + 1) (nI 45) = true) : mb pt qt pn k c (k + 1 - a) a = ((decide (pt a ≤ c) && decide (c ≤ pt (a + 2))) || mb pt qt pn k c (k + 1 - (a + 3)) (a + 3)) := by
  rw [show k + 1 - a = (k - a) + 1 by omega]
  conv => lhs; unfold mb
  rw [if_pos h, if_pos (by simp [h1, h2]), mb_more (k - a) (k + 1 - (a + 3)) (a + 3) (by omega) (by omega)]
theorem mb_one {pt qt : Nat → Int32} {pn k : Nat} {c : Int32} {a : Nat} (h : a < k) (h1 : ¬ (a + 2 < k ∧ iu pt qt pn (a + 1) (nI 45) = true)) : mb pt qt pn k c (k + 1 - a) a = ((decide (pt a ≤ c) && decide (c ≤ pt a)) || mb pt qt pn k c (k + 1 - (a + 1)) (a + 1)) := by
  rw [show k + 1 - a = (k - a) + 1 by omega]
  conv => lhs; unfold mb
  rw [if_pos h, if_neg (by intro q; rw [Bool.and_eq_true, decide_eq_true_eq] at q; exact h1 q), mb_more (k - a) (k + 1 - (a + 1)) (a + 1) (by omega) (by omega)]
abbrev Rm (f lo : Nat) : Room := { frames := f, cells := 0, slots := 0, locals := lo }
theorem nh1 {x lo hi : Int32} (h : x < lo) : (decide (lo ≤ x) && decide (x ≤ hi)) = false := by
  rw [decide_eq_false (Int32.not_le.mpr h)]; rfl
theorem nh2 {x lo hi : Int32} (h : hi < x) : (decide (lo ≤ x) && decide (x ≤ hi)) = false := by
  rw [decide_eq_false (p := x ≤ hi) (Int32.not_le.mpr h), Bool.and_false]
theorem nh3 {x lo hi : Int32} (h1 : ¬ x < lo) (h2 : ¬ hi < x) : (decide (lo ≤ x) && decide (x ≤ hi)) = true := by
  rw [decide_eq_true (Int32.not_lt.mp h1), decide_eq_true (Int32.not_lt.mp h2)]; rfl
theorem bne_e {A B : Bool} (h : bI A = bI B) : nI 0 = bI (A != B) := by
  have := bI_inj.mp h; subst this; cases A <;> rfl
theorem bne_n {A B : Bool} (h : ¬ bI A = bI B) : nI 1 = bI (A != B) := by
  cases A <;> cases B <;> first | rfl | exact absurd rfl h
/-- may n characters more come behind ln, up to lim? -/
def hrm (ln lim : Nat) (n : Int32) : Bool := decide (¬ n < 0) && (decide (¬ nI 8 < n) && decide (ln + n.toNatClampNeg ≤ lim))
theorem hrm_a {ln lim : Nat} {n : Int32} (h : n < 0) : hrm ln lim n = false := by simp [hrm, h]
theorem hrm_b {ln lim : Nat} {n : Int32} (h : nI 8 < n) : hrm ln lim n = false := by simp [hrm, h]
theorem hrm_j {n : Int32} (h1 : ¬ n < 0) (h2 : ¬ nI 8 < n) : ∃ j : Nat, j ≤ 8 ∧ n = nI j := nI_of2 (M := nI 8) (n := 8) (nI_toInt (by decide)) h1 (Int32.not_lt.mp h2)
theorem hrm_c {ln lim j : Nat} (hj : j ≤ 8) : hrm ln lim (nI j) = decide (ln + j ≤ lim) := by
  have h1 : ¬ nI j < 0 := nI_pos (by omega)
  have h2 : ¬ nI 8 < nI j := nI_nlt (by omega) (by decide)
  simp [hrm, h1, h2, nI_clamp (n := j) (by omega)]
theorem hrm_t {ln lim : Nat} {n : Int32} (h : hrm ln lim n = true) : ∃ j : Nat, j ≤ 8 ∧ n = nI j ∧ ln + j ≤ lim := by
  have h0 := h
  simp only [hrm, Bool.and_eq_true, decide_eq_true_eq] at h0
  obtain ⟨j, hj, rfl⟩ := hrm_j h0.1 h0.2.1
  rw [hrm_c hj, decide_eq_true_eq] at h
  exact ⟨j, hj, rfl, h⟩
/-- the byte of x that s bits lie below -/
def bu (x : Int64) (s : Nat) : Int32 := ((x.toUInt64 >>> ((nI s).toInt64.toUInt64 &&& Int64.toUInt64 63)).toInt64 &&& 255).toInt32
/-- the better of two beginnings -/
def btr (b : Bool) (o1 o2 : Option Nat) : Option Nat := match o1, o2 with
  | none, o2 => o2
  | some x, none => some x
  | some x, some y => some (if b then min x y else max x y)
theorem btr_min {x y : Nat} (hx : x < 2 ^ 31) (hy : y < 2 ^ 31) : (if nI y < nI x then nI y else nI x) = nI (min x y) := by
  by_cases h : y < x
  · rw [if_pos ((nI_ltI hy hx).mpr h), Nat.min_eq_right (by omega)]
  · rw [if_neg (mt (nI_ltI hy hx).mp h), Nat.min_eq_left (by omega)]
theorem btr_max {x y : Nat} (hx : x < 2 ^ 31) (hy : y < 2 ^ 31) : (if nI x < nI y then nI y else nI x) = nI (max x y) := by
  by_cases h : x < y
  · rw [if_pos ((nI_ltI hx hy).mpr h), Nat.max_eq_right (by omega)]
  · rw [if_neg (mt (nI_ltI hx hy).mp h), Nat.max_eq_left (by omega)]
/-- how many of the first are quoted -/
def cq (qt : Nat → Int32) : Nat → Nat
  | 0 => 0
  | i + 1 => if qt i = 0 then cq qt i else cq qt i + 1
theorem cq_le (qt : Nat → Int32) : ∀ i, cq qt i ≤ i
  | 0 => Nat.le_refl 0
  | i + 1 => by have := cq_le qt i; unfold cq; split <;> omega
/-- how many sets begin among the first -/
def cs (pt qt : Nat → Int32) (pn : Nat) : Nat → Nat
  | 0 => 0
  | i + 1 => if cl pt qt pn i = none then cs pt qt pn i else cs pt qt pn i + 1
theorem cs_le (pt qt : Nat → Int32) (pn : Nat) : ∀ i, cs pt qt pn i ≤ i
  | 0 => Nat.le_refl 0
  | i + 1 => by have := cs_le pt qt pn i; unfold cs; split <;> omega
/-- a sign -/
def sa (pt qt : Nat → Int32) (pn a : Nat) : Bool := iu pt qt pn a (nI 42) || (iu pt qt pn a (nI 63) || iu pt qt pn a (nI 91))
/-- is one of the first a sign? -/
def sp (pt qt : Nat → Int32) (pn : Nat) : Nat → Bool
  | 0 => false
  | i + 1 => sp pt qt pn i || sa pt qt pn i
theorem sp_t {pt qt : Nat → Int32} {pn i : Nat} (h : sa pt qt pn i = true) : ∀ {n}, i < n → sp pt qt pn n = true
  | 0, h2 => absurd h2 (by omega)
  | n + 1, h2 => by
    unfold sp
    by_cases e : i = n
    · subst e; rw [h, Bool.or_true]
    · rw [sp_t h (show i < n by omega)]; rfl
