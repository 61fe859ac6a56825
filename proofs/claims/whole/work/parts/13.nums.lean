/-! ===== numbers between Int32 and Nat ===== -/
theorem v_lt1 {v : Int32} {k : Nat} (hk : k < 1073741824) : v ≤ nI k - 1 ↔ v < nI k := by
  have h1 : (nI k - 1).toInt = (k : Int) - 1 := by
    have := pk_sub_toInt (a := k) (b := 1) (by omega) (by omega)
    rw [show nI 1 = 1 from rfl] at this
    exact this
  rw [Int32.le_iff_toInt_le, Int32.lt_iff_toInt_lt, h1, nI_toInt (by omega)]
  omega
theorem v_of {v : Int32} {k : Nat} (h0 : 0 ≤ v) (h1 : v < nI k) (hk : k < 2147483648) : ∃ j, j < k ∧ v = nI j ∧ v.toNatClampNeg = j := by
  obtain ⟨j, hj, e⟩ := nI_of (ga_len h0)
  subst e
  exact ⟨j, (nI_ltI (by omega) hk).mp h1, rfl, nI_clamp (by omega)⟩
theorem v_ofle {v : Int32} {k : Nat} (h0 : 0 ≤ v) (h1 : v ≤ nI k) (hk : k < 2147483647) : ∃ j, j ≤ k ∧ v = nI j ∧ v.toNatClampNeg = j := by
  obtain ⟨j, hj, e⟩ := nI_of (ga_len h0)
  subst e
  exact ⟨j, (nI_leI (by omega) (by omega)).mp h1, rfl, nI_clamp (by omega)⟩
theorem ix_lt {v : Int32} {k n : Nat} (h0 : 0 ≤ v) (h1 : v < nI k) (hk : k ≤ n) (hn : n < 2147483648) : ga_ix v n v.toNatClampNeg := by
  obtain ⟨j, hj, e, e2⟩ := v_of h0 h1 (by omega)
  rw [e2]
  exact ga_ix_of e (by omega) hn
theorem ix_le {v : Int32} {k n : Nat} (h0 : 0 ≤ v) (h1 : v ≤ nI k) (hk : k < n) (hn : n < 2147483648) : ga_ix v n v.toNatClampNeg := by
  obtain ⟨j, hj, e, e2⟩ := v_ofle h0 h1 (by omega)
  rw [e2]
  exact ga_ix_of e (by omega) hn
theorem ga_b_c {p q : Prop} [Decidable p] [Decidable q] (h : p ↔ q) : ga_b p = ga_b q := by
  by_cases hp : p
  · rw [ga_b_t hp, ga_b_t (h.mp hp)]
  · rw [ga_b_f hp, ga_b_f (fun z => hp (h.mpr z))]
theorem nI_inj {a b : Nat} (h : nI a = nI b) (ha : a < 2147483648) (hb : b < 2147483648) : a = b := (nI_eq ha hb).mp h
theorem nI_neg1 {a : Nat} (ha : a < 2147483648) : ¬ nI a = -1 := fun h => by
  have := nI_pos' (n := a) ha
  rw [h] at this
  revert this; decide
theorem g_ls {E : ga_E} {X : ga_X} {kc ks pc : Nat} {lv lv' : List (Option Value)} {st : List Value} {M : ga_M} (k : ga_G E X kc ks pc lv' st M) (hs : ga_sb lv' lv) : ga_G E X kc ks pc lv st M := g_less lv' hs k
theorem v_m1 {t : Int32} (h : t = -1) (h0 : 0 ≤ t) : False := by rw [h] at h0; exact absurd h0 (by decide)
