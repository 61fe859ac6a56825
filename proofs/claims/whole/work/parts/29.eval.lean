/-! ===== numbers of the rules: limits, products, quotients ===== -/
def e_L : Int64 := 1000000000000
theorem e_L_int : e_L.toInt = 1000000000000 := by decide
theorem e_nL_int : (-e_L).toInt = -1000000000000 := by decide
theorem e_nL : (-1000000000000 : Int64) = -e_L := by decide
/-- no number of the rules is beyond the limit -/
def e_bd (x : Int64) : Prop := -1000000000000 ≤ x.toInt ∧ x.toInt ≤ 1000000000000
def e_lim (x : Int64) : Int64 := if e_L < x then e_L else if x < -e_L then -e_L else x
def e_mxl (a b : Int64) : Int64 := if a < b then b else a
def e_mnl (a b : Int64) : Int64 := if b < a then b else a
def e_abs (x : Int64) : Int64 := if x < 0 then -x else x
def e_pr (a b : Int64) : Int64 := if a = 0 ∨ b = 0 then 0 else if 1000000000000 < a.toInt.natAbs * b.toInt.natAbs then (if (a < 0 ↔ b < 0) then e_L else -e_L) else a * b
def e_fd (x : Int64) (k : Nat) : Int64 := if x < 0 ∧ ¬ x / lN k * lN k = x then x / lN k - 1 else x / lN k
theorem e_lim_bd (x : Int64) : e_bd (e_lim x) := by
  unfold e_lim e_bd
  by_cases h1 : e_L < x
  · rw [if_pos h1, e_L_int]; omega
  · rw [if_neg h1]
    by_cases h2 : x < -e_L
    · rw [if_pos h2, e_nL_int]; omega
    · rw [if_neg h2]
      rw [Int64.lt_iff_toInt_lt, e_L_int] at h1
      rw [Int64.lt_iff_toInt_lt, e_nL_int] at h2
      omega
theorem e_lim_eq (x : Int64) : e_mxl (-e_L) (e_mnl e_L x) = e_lim x := by
  unfold e_lim e_mxl e_mnl
  have a1 := e_L_int
  have a2 := e_nL_int
  by_cases h1 : x < e_L
  · rw [if_pos h1, if_neg (fun q : e_L < x => by rw [Int64.lt_iff_toInt_lt] at q h1; omega)]
    by_cases h2 : -e_L < x
    · rw [if_pos h2, if_neg (fun q : x < -e_L => by rw [Int64.lt_iff_toInt_lt] at q h2; omega)]
    · rw [if_neg h2]
      by_cases h3 : x < -e_L
      · rw [if_pos h3]
      · rw [if_neg h3]
        apply Int64.toInt_inj.mp
        rw [Int64.lt_iff_toInt_lt] at h2 h3
        omega
  · rw [if_neg h1, if_pos (by decide)]
    by_cases h2 : e_L < x
    · rw [if_pos h2]
    · rw [if_neg h2, if_neg (fun q : x < -e_L => by rw [Int64.lt_iff_toInt_lt] at q h1; omega)]
      apply Int64.toInt_inj.mp
      rw [Int64.lt_iff_toInt_lt] at h1 h2
      omega
theorem e_abs_N {x : Int64} (h : e_bd x) : e_abs x = lN x.toInt.natAbs := by
  apply Int64.toInt_inj.mp
  rw [pk_lT (by have := h.1; have := h.2; omega)]
  unfold e_abs
  by_cases h0 : x < 0
  · rw [if_pos h0]
    rw [Int64.lt_iff_toInt_lt, Int64.toInt_zero] at h0
    rw [Int64.toInt_neg, Int.bmod_eq_of_le (by have := h.1; omega) (by have := h.1; omega)]
    omega
  · rw [if_neg h0]
    rw [Int64.lt_iff_toInt_lt, Int64.toInt_zero] at h0
    omega
theorem e_pos {x : Int64} (h : ¬ x = 0) : 0 < x.toInt.natAbs := by
  have : x.toInt ≠ 0 := fun q => h (Int64.toInt_inj.mp (q.trans Int64.toInt_zero.symm))
  omega
/-- the test of the product, from either side -/
theorem e_test {a b : Int64} (ha : e_bd a) (hb : e_bd b) (h0 : ¬ b = 0) : e_abs a ≤ e_L / e_abs b ↔ ¬ 1000000000000 < a.toInt.natAbs * b.toInt.natAbs := by
  have hp := e_pos h0
  rw [e_abs_N ha, e_abs_N hb, show e_L = lN 1000000000000 by decide, pk_lDiv (by omega) hp (by have := hb.1; have := hb.2; omega), pk_lLE (by have := ha.1; have := ha.2; omega) (by have := Nat.div_le_self 1000000000000 b.toInt.natAbs; omega), Nat.le_div_iff_mul_le hp]
  omega
theorem e_div0 {b : Int64} (hb : e_bd b) (h0 : ¬ b = 0) : ¬ e_abs b = 0 := by
  have hp := e_pos h0
  rw [e_abs_N hb]
  intro q
  have := congrArg Int64.toInt q
  rw [pk_lT (by have := hb.1; have := hb.2; omega), Int64.toInt_zero] at this
  omega
theorem e_pr_bd {a b : Int64} (ha : e_bd a) (hb : e_bd b) : e_bd (e_pr a b) := by
  unfold e_pr
  by_cases h0 : a = 0 ∨ b = 0
  · rw [if_pos h0]; exact ⟨by decide, by decide⟩
  · rw [if_neg h0]
    by_cases h1 : 1000000000000 < a.toInt.natAbs * b.toInt.natAbs
    · rw [if_pos h1]
      split
      · exact ⟨by decide, by decide⟩
      · exact ⟨by decide, by decide⟩
    · rw [if_neg h1]
      have e : (a.toInt * b.toInt).natAbs ≤ 1000000000000 := by rw [Int.natAbs_mul]; omega
      have e2 : (a * b).toInt = a.toInt * b.toInt := by rw [Int64.toInt_mul]; apply Int.bmod_eq_of_le <;> omega
      unfold e_bd
      rw [e2]; omega
theorem e_fd_bd {x : Int64} {k : Nat} (hx : e_bd x) (h1 : 1 ≤ k) (h2 : k < 2147483648) : e_bd (e_fd x k) := by
  have hk : (lN k).toInt = (k : Int) := pk_lT (by omega)
  have hne : lN k ≠ -1 := fun q => by rw [q] at hk; rw [show (-1 : Int64).toInt = -1 by decide] at hk; omega
  have hq : (x / lN k).toInt = x.toInt.tdiv k := by rw [Int64.toInt_div_of_ne_right _ _ hne, hk]
  have hb : -1000000000000 ≤ x.toInt.tdiv k ∧ x.toInt.tdiv k ≤ 1000000000000 := by
    have h3 := Int.natAbs_tdiv_le_natAbs x.toInt k
    have := hx.1
    have := hx.2
    omega
  unfold e_fd
  by_cases h : x < 0 ∧ ¬ x / lN k * lN k = x
  · rw [if_pos h]
    have hx0 : x.toInt < 0 := by have := h.1; rw [Int64.lt_iff_toInt_lt, Int64.toInt_zero] at this; exact this
    have hgt : -1000000000000 < x.toInt.tdiv k := by
      refine Classical.byContradiction (fun q => h.2 ?_)
      have e1 : x.toInt.tdiv k = -1000000000000 := by omega
      have e2 : x.toInt = -1000000000000 := by
        have h3 := Int.natAbs_tdiv_le_natAbs x.toInt k
        have := hx.1
        omega
      apply Int64.toInt_inj.mp
      have hk1 : k = 1 := by
        rw [e2] at e1
        by_cases hk1 : k = 1
        · exact hk1
        · exfalso
          have h4 : (-1000000000000 : Int).tdiv k = -((1000000000000 : Int).tdiv k) := Int.neg_tdiv 1000000000000 k
          have h5 : (1000000000000 : Int).tdiv k = ((1000000000000 / k : Nat) : Int) := rfl
          have h6 : 1000000000000 / k ≤ 1000000000000 / 2 := Nat.div_le_div_left (by omega) (by omega)
          omega
      subst hk1
      rw [Int64.toInt_mul, hq, hk, show ((1 : Nat) : Int) = 1 from rfl, Int.tdiv_one, Int.mul_one]
      apply Int.bmod_eq_of_le <;> omega
    have e3 : (x / lN k - 1).toInt = x.toInt.tdiv k - 1 := by
      rw [Int64.toInt_sub, hq, show (1 : Int64).toInt = 1 by decide]
      apply Int.bmod_eq_of_le <;> omega
    unfold e_bd
    rw [e3]; omega
  · rw [if_neg h]; unfold e_bd; rw [hq]; exact hb
/-- the sign of an exclusive or -/
theorem e_xor {x y : Int64} (hy : 0 ≤ y) : x ^^^ y < 0 ↔ x < 0 := by
  have key : ∀ z : Int64, z < 0 ↔ z.toBitVec.msb = true := fun z => by
    rw [Int64.lt_iff_toInt_lt, Int64.toInt_zero, BitVec.msb_eq_toInt, decide_eq_true_iff]
    exact Iff.rfl
  rw [key, key, Int64.toBitVec_xor, BitVec.msb_xor]
  have h : y.toBitVec.msb = false := by
    cases hm : y.toBitVec.msb
    · rfl
    · have := (key y).mpr hm
      rw [Int64.lt_iff_toInt_lt] at this
      rw [Int64.le_iff_toInt_le] at hy
      omega
  rw [h, Bool.xor_false]
