/-! the class shifts in zeros, the reference the sign: the bits that are looked at are the same -/
theorem sh_l64 : ∀ s, s < 64 → (((nI s).toInt64 &&& 63).toBitVec.smod 64).toNat = s := by decide +kernel
theorem sh_u64 : ∀ s, s < 64 → (((nI s).toInt64.toUInt64 &&& Int64.toUInt64 63).toBitVec % 64).toNat = s := by decide +kernel
theorem sh_l32 : ∀ s, s < 32 → ((nI s &&& 31).toBitVec.smod 32).toNat = s := by decide +kernel
theorem sh_u32 : ∀ s, s < 32 → (((nI s).toUInt32 &&& Int32.toUInt32 31).toBitVec % 32).toNat = s := by decide +kernel
theorem b255 : ∀ i, i < 64 → 8 ≤ i → (255 : Int64).toBitVec.getLsbD i = false := by decide +kernel
theorem b001 : ∀ i, i < 32 → 1 ≤ i → (nI 1).toBitVec.getLsbD i = false := by decide +kernel
theorem bs_bu {x : Int64} {s : Nat} (hs : s ≤ 56) : ((x >>> ((nI s).toInt64 &&& 63)) &&& 255).toInt32 = bu x s := by
  unfold bu
  have h : (x >>> ((nI s).toInt64 &&& 63)) &&& 255 = (x.toUInt64 >>> ((nI s).toInt64.toUInt64 &&& Int64.toUInt64 63)).toInt64 &&& 255 := by
    apply Int64.toBitVec_inj.mp
    rw [Int64.toBitVec_and, Int64.toBitVec_and]
    apply BitVec.eq_of_getLsbD_eq
    intro i hi
    rw [BitVec.getLsbD_and, BitVec.getLsbD_and]
    by_cases h8 : i < 8
    · have e : (x >>> ((nI s).toInt64 &&& 63)).toBitVec.getLsbD i = (x.toUInt64 >>> ((nI s).toInt64.toUInt64 &&& Int64.toUInt64 63)).toInt64.toBitVec.getLsbD i := by
        show (x.toBitVec.sshiftRight (((nI s).toInt64 &&& 63).toBitVec.smod 64).toNat).getLsbD i = (x.toUInt64 >>> ((nI s).toInt64.toUInt64 &&& Int64.toUInt64 63)).toBitVec.getLsbD i
        rw [UInt64.toBitVec_shiftRight]
        show _ = (x.toBitVec >>> (((nI s).toInt64.toUInt64 &&& Int64.toUInt64 63).toBitVec % 64).toNat).getLsbD i
        rw [sh_l64 s (by omega), sh_u64 s (by omega), BitVec.getLsbD_sshiftRight, BitVec.getLsbD_ushiftRight, if_pos (by omega)]
        simp
        intro q
        omega
      rw [e]
    · rw [b255 i hi (by omega), Bool.and_false, Bool.and_false]
  rw [h]
theorem qs_qb {q : Int32} {k : Nat} (hk : k < 31) : ((q >>> (nI k &&& 31)) &&& nI 1) = ((q.toUInt32 >>> ((nI k).toUInt32 &&& Int32.toUInt32 31)).toInt32 &&& nI 1) := by
  apply Int32.toBitVec_inj.mp
  rw [Int32.toBitVec_and, Int32.toBitVec_and]
  apply BitVec.eq_of_getLsbD_eq
  intro i hi
  rw [BitVec.getLsbD_and, BitVec.getLsbD_and]
  by_cases h8 : i < 1
  · have e : (q >>> (nI k &&& 31)).toBitVec.getLsbD i = (q.toUInt32 >>> ((nI k).toUInt32 &&& Int32.toUInt32 31)).toInt32.toBitVec.getLsbD i := by
      show (q.toBitVec.sshiftRight ((nI k &&& 31).toBitVec.smod 32).toNat).getLsbD i = (q.toUInt32 >>> ((nI k).toUInt32 &&& Int32.toUInt32 31)).toBitVec.getLsbD i
      rw [UInt32.toBitVec_shiftRight]
      show _ = (q.toBitVec >>> (((nI k).toUInt32 &&& Int32.toUInt32 31).toBitVec % 32).toNat).getLsbD i
      rw [sh_l32 k (by omega), sh_u32 k (by omega), BitVec.getLsbD_sshiftRight, BitVec.getLsbD_ushiftRight, if_pos (by omega)]
      simp
      intro q
      omega
    rw [e]
  · rw [b001 i hi (by omega), Bool.and_false, Bool.and_false]
theorem hrm_y {ln lim j : Nat} (hj : j ≤ 8) (h : ln + j ≤ lim) : hrm ln lim (nI j) = true := by rw [hrm_c hj, decide_eq_true h]
theorem hrm_x {ln lim j : Nat} (hj : j ≤ 8) (h : ¬ ln + j ≤ lim) : hrm ln lim (nI j) = false := by rw [hrm_c hj, decide_eq_false h]
/-- a counter that runs down to -1: d - 1 -/
def pI : Nat → Int32
  | 0 => -1
  | d + 1 => nI d
theorem pI_dec : ∀ d, nI d + (-1) = pI d
  | 0 => by decide
  | d + 1 => pk_m1 d
/-- is there a part from p0 up to p1 of a text of tn characters? -/
def okp (tn : Nat) (p0 p1 : Int32) : Bool := decide (¬ p0 < 0) && (decide (¬ p1 < p0) && decide (p1 ≤ nI tn))
theorem okp_a {tn : Nat} {p0 p1 : Int32} (h : p0 < 0) : okp tn p0 p1 = false := by simp [okp, h]
theorem okp_b {tn : Nat} {p0 p1 : Int32} (h : p1 < p0) : okp tn p0 p1 = false := by simp [okp, h]
theorem okp_c {tn : Nat} {p0 p1 : Int32} (h : ¬ p1 ≤ nI tn) : okp tn p0 p1 = false := by simp [okp, h]
theorem okp_y {tn : Nat} {p0 p1 : Int32} (h1 : ¬ p0 < 0) (h2 : ¬ p1 < p0) (h3 : p1 ≤ nI tn) : okp tn p0 p1 = true := by simp [okp, h1, h2, h3]
theorem okp_t {tn : Nat} {p0 p1 : Int32} (ht : tn ≤ 400) (h1 : ¬ p0 < 0) (h2 : ¬ p1 < p0) (h3 : p1 ≤ nI tn) : ∃ frm too : Nat, frm ≤ too ∧ too ≤ tn ∧ p0 = nI frm ∧ p1 = nI too := by
  obtain ⟨frm, hf, rfl⟩ := nI_of h1
  have q1 : (nI frm).toInt = frm := nI_toInt hf
  have q2 := mt Int32.lt_iff_toInt_lt.mpr h2
  rw [q1] at q2
  have q3 : ¬ p1 < 0 := by
    intro q
    have q4 := Int32.lt_iff_toInt_lt.mp q
    rw [Int32.toInt_zero] at q4
    omega
  obtain ⟨too, ht2, rfl⟩ := nI_of q3
  have q5 : (nI too).toInt = too := nI_toInt ht2
  rw [q5] at q2
  have q6 := (nI_leI (by omega) (by omega)).mp h3
  exact ⟨frm, too, by omega, q6, rfl, rfl⟩
/-- what the reference counts on its way -/
def cw (pt qt : Nat → Int32) (pn : Nat) (wh : Int32) (i : Nat) : Nat := if wh = nI 2 then cq qt i else cs pt qt pn i
theorem cw_le (pt qt : Nat → Int32) (pn : Nat) (wh : Int32) (i : Nat) : cw pt qt pn wh i ≤ i := by
  unfold cw; split
  · exact cq_le qt i
  · exact cs_le pt qt pn i
theorem cw_0 {pt qt : Nat → Int32} {pn : Nat} {wh : Int32} : cw pt qt pn wh 0 = 0 := by unfold cw; split <;> rfl
theorem cw_qn {pt qt : Nat → Int32} {pn : Nat} {wh : Int32} {i : Nat} (h : wh = nI 2) (q : qt i = 0) : cw pt qt pn wh (i + 1) = cw pt qt pn wh i + 0 := by
  unfold cw; rw [if_pos h, if_pos h]; conv => lhs; unfold cq
  rw [if_pos q]; rfl
theorem cw_qy {pt qt : Nat → Int32} {pn : Nat} {wh : Int32} {i : Nat} (h : wh = nI 2) (q : ¬ qt i = 0) : cw pt qt pn wh (i + 1) = cw pt qt pn wh i + 1 := by
  unfold cw; rw [if_pos h, if_pos h]; conv => lhs; unfold cq
  rw [if_neg q]
theorem cw_sn {pt qt : Nat → Int32} {pn : Nat} {wh : Int32} {i : Nat} (h : ¬ wh = nI 2) (q : cl pt qt pn i = none) : cw pt qt pn wh (i + 1) = cw pt qt pn wh i + 0 := by
  unfold cw; rw [if_neg h, if_neg h]; conv => lhs; unfold cs
  rw [if_pos q]; rfl
theorem cw_sy {pt qt : Nat → Int32} {pn : Nat} {wh : Int32} {i : Nat} (h : ¬ wh = nI 2) (q : ¬ cl pt qt pn i = none) : cw pt qt pn wh (i + 1) = cw pt qt pn wh i + 1 := by
  unfold cw; rw [if_neg h, if_neg h]; conv => lhs; unfold cs
  rw [if_neg q]
