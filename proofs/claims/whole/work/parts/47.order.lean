/-! ===== teams and the ring: both sides answer alike ===== -/
section
variable {tm sz : Nat → Int32} {F : Nat → sh_S} {rn : Nat} {v : Int32}
theorem r_so_0 (hz : r_ok tm sz rn) : r_so sz v = 0 ↔ ¬ ((0 ≤ v ∧ v ≤ 5) ∧ 0 < r_c tm v rn) := by
  unfold r_so
  by_cases h : 0 ≤ v ∧ v ≤ 5
  · obtain ⟨j, hj, e, e2⟩ := v_ofle (k := 5) h.1 h.2 (by omega)
    rw [if_pos h, e2, (hz.2 j (by omega)).1, ← e]
    have h4 := (hz.2 j (by omega)).2
    rw [← e] at h4
    constructor
    · intro q z
      have := nI_inj (b := 0) q (by omega) (by omega)
      omega
    · intro q
      have : r_c tm v rn = 0 := Nat.eq_zero_of_not_pos (fun z => q ⟨h, z⟩)
      rw [this]; rfl
  · rw [if_neg h]
    exact ⟨fun _ z => h z.1, fun _ => rfl⟩
theorem r_c4 (hz : r_ok tm sz rn) (h : 0 ≤ v ∧ v ≤ 5) : r_c tm v rn ≤ 4 := by
  obtain ⟨j, hj, e, e2⟩ := v_ofle (k := 5) h.1 h.2 (by omega)
  rw [e]; exact (hz.2 j (by omega)).2
theorem tm_eq5 (hz : r_ok tm sz rn) (h : 0 ≤ v ∧ v ≤ 5) : m_to tm F rn v = p_sum tm F rn v ∧ m_le tm F rn v 0 = (p_tl tm F v rn).2 := tm_eq (Nat.le_trans (p_ts_rc rn) (r_c4 hz h))
theorem te_eq (hz : r_ok tm sz rn) : (if r_so sz v = 0 then (-1 : Int64) else p_sum tm F rn v) = if (0 ≤ v ∧ v ≤ 5) ∧ 0 < r_c tm v rn then m_to tm F rn v else -1 := by
  by_cases h : (0 ≤ v ∧ v ≤ 5) ∧ 0 < r_c tm v rn
  · rw [if_pos h, if_neg (fun z => (r_so_0 hz).mp z h), (tm_eq5 hz h.1).1]
  · rw [if_neg h, if_pos ((r_so_0 hz).mpr h)]
theorem tp_eq1 (hz : r_ok tm sz rn) (h : 0 ≤ v ∧ v ≤ 5) : ∀ k, k ≤ 6 → p_tp tm sz F rn v k = m_tp tm F rn v k
  | 0, _ => rfl
  | k + 1, hk => by
    rw [p_tp, m_tp, tp_eq1 hz h k (by omega)]
    have hk5 : 0 ≤ nI k ∧ nI k ≤ 5 := ⟨nI_pos' (by omega), nI_le (b := 5) (by omega) (by omega)⟩
    have e1 := tm_eq5 (F := F) hz hk5
    have e2 := tm_eq5 (F := F) hz h
    have e3 : (0 < r_so sz (nI k)) ↔ 0 < r_c tm (nI k) rn := by
      have h4 := (hz.2 k (by omega)).2
      have : r_so sz (nI k) = nI (r_c tm (nI k) rn) := by unfold r_so; rw [if_pos hk5, nI_clamp (by omega), (hz.2 k (by omega)).1]
      rw [this]
      exact nI_ltI (a := 0) (by omega) (by omega)
    unfold p_ahd m_ahd
    rw [e1.1, e1.2, e2.1, e2.2]
    by_cases q : 0 < r_c tm (nI k) rn
    · simp only [q, e3.mpr q, true_and]
    · rw [if_neg (fun z => q (e3.mp z.1)), if_neg (fun z => q z.1)]
theorem tp_eq (hz : r_ok tm sz rn) : (if r_so sz v = 0 then (-1 : Int32) else nI (p_tp tm sz F rn v 6)) = if (0 ≤ v ∧ v ≤ 5) ∧ 0 < r_c tm v rn then nI (m_tp tm F rn v 6) else -1 := by
  by_cases h : (0 ≤ v ∧ v ≤ 5) ∧ 0 < r_c tm v rn
  · rw [if_pos h, if_neg (fun z => (r_so_0 hz).mp z h), tp_eq1 hz h.1 6 (Nat.le_refl 6)]
  · rw [if_neg h, if_pos ((r_so_0 hz).mpr h)]
end
/-! an order of riders -/
theorem p_ord_c (a b : Int64) : p_ord a b = -1 ∧ a < b ∨ p_ord a b = 0 ∧ a = b ∨ p_ord a b = 1 ∧ b < a := by
  unfold p_ord
  by_cases h : a = b
  · right; left; exact ⟨if_pos h, h⟩
  · by_cases h2 : a < b
    · left; exact ⟨by rw [if_neg h, if_pos h2], h2⟩
    · right; right; exact ⟨by rw [if_neg h, if_neg h2], by grind⟩
theorem n10 : ¬ (-1 : Int32) = 0 := by decide
theorem n11 : ¬ (-1 : Int32) = 1 := by decide
theorem n01 : ¬ (0 : Int32) = -1 := by decide
theorem n02 : ¬ (0 : Int32) = 1 := by decide
theorem n12 : ¬ (1 : Int32) = -1 := by decide
theorem n13 : ¬ (1 : Int32) = 0 := by decide
section
variable {fo : Nat → Int32} {V W U : Nat → Int64} {x y z : Int64}
theorem cm_3 : ∀ k, p_cm fo V W (p_ord x y) k = -1 ∨ p_cm fo V W (p_ord x y) k = 0 ∨ p_cm fo V W (p_ord x y) k = 1
  | 0 => by rcases p_ord_c x y with h | h | h <;> simp [p_cm, h.1]
  | k + 1 => by
    rw [p_cm]
    rcases cm_3 k with h | h | h
    · left; rw [h, if_neg n10]
    · rw [h, if_pos rfl]
      split
      · rcases p_ord_c (V k) (W k) with q | q | q <;> simp [q.1]
      · right; left; rfl
    · right; right; rw [h, if_neg n13]
theorem cm_sym : ∀ k, (p_cm fo V W (p_ord x y) k = -1 ↔ p_cm fo W V (p_ord y x) k = 1) ∧ (p_cm fo V W (p_ord x y) k = 0 ↔ p_cm fo W V (p_ord y x) k = 0)
  | 0 => by
    rcases p_ord_c x y with h | h | h <;> rcases p_ord_c y x with q | q | q <;> simp [p_cm, h.1, q.1] <;> grind
  | k + 1 => by
    have ih := cm_sym k
    have h3 := cm_3 (fo := fo) (V := V) (W := W) (x := x) (y := y) k
    have h4 := cm_3 (fo := fo) (V := W) (W := V) (x := y) (y := x) k
    rw [p_cm, p_cm]
    rcases h3 with h | h | h
    · have h' := ih.1.mp h
      rw [h, h', if_neg n10, if_neg n13]
      exact ⟨⟨fun _ => rfl, fun _ => rfl⟩, ⟨fun q => absurd q n10, fun q => absurd q n13⟩⟩
    · have h' := ih.2.mp h
      rw [h, h', if_pos rfl, if_pos rfl]
      by_cases hf : fo k = 2
      · rw [if_pos hf, if_pos hf]
        rcases p_ord_c (V k) (W k) with g | g | g <;> rcases p_ord_c (W k) (V k) with q | q | q <;> simp [g.1, q.1] <;> grind
      · rw [if_neg hf, if_neg hf]
        exact ⟨⟨fun q => absurd q n01, fun q => absurd q n02⟩, Iff.rfl⟩
    · have h' : p_cm fo W V (p_ord y x) k = -1 := by
        rcases h4 with q | q | q
        · exact q
        · exact absurd (h.symm.trans (ih.2.mpr q)) n13
        · exact absurd (h.symm.trans (ih.1.mpr q)) n12
      rw [h, h', if_neg n10, if_neg n13]
      exact ⟨⟨fun q => absurd q n12, fun q => absurd q n11⟩, ⟨fun q => absurd q n13, fun q => absurd q n10⟩⟩
theorem cm_eq0 : ∀ k, p_cm fo V W (p_ord x y) k = 0 → p_cm fo W U (p_ord y z) k = p_cm fo V U (p_ord x z) k
  | 0 => fun h => by
    rcases p_ord_c x y with g | g | g
    · exact absurd (g.1.symm.trans h) n10
    · rw [p_cm, p_cm, g.2]
    · exact absurd (g.1.symm.trans h) n13
  | k + 1 => fun h => by
    rw [p_cm] at h
    by_cases h0 : p_cm fo V W (p_ord x y) k = 0
    · rw [if_pos h0] at h
      rw [p_cm, p_cm, cm_eq0 k h0]
      by_cases hf : fo k = 2
      · rw [if_pos hf] at h
        rcases p_ord_c (V k) (W k) with g | g | g
        · exact absurd (g.1.symm.trans h) n10
        · rw [g.2]
        · exact absurd (g.1.symm.trans h) n13
      · rw [if_neg hf, if_neg hf]
    · rw [if_neg h0] at h; exact absurd h h0
theorem cm_lt : ∀ k, p_cm fo V W (p_ord x y) k = -1 → (p_cm fo W U (p_ord y z) k = -1 ∨ p_cm fo W U (p_ord y z) k = 0) → p_cm fo V U (p_ord x z) k = -1
  | 0 => fun h q => by
    rw [p_cm] at h q ⊢
    rcases p_ord_c x y with g | g | g
    · rcases p_ord_c y z with g2 | g2 | g2
      · rcases p_ord_c x z with g3 | g3 | g3
        · exact g3.1
        · grind
        · grind
      · rw [← g2.2]; exact g.1
      · rw [g2.1] at q; exact absurd q (by decide)
    · exact absurd (g.1.symm.trans h) n01
    · exact absurd (g.1.symm.trans h) n12
  | k + 1 => fun h q => by
    rw [p_cm] at h
    have hq : p_cm fo W U (p_ord y z) k = -1 ∨ p_cm fo W U (p_ord y z) k = 0 := by
      rcases cm_3 (fo := fo) (V := W) (W := U) (x := y) (y := z) k with g | g | g
      · exact Or.inl g
      · exact Or.inr g
      · rw [p_cm, if_neg (by rw [g]; exact n13), g] at q
        exact absurd q (by decide)
    by_cases h0 : p_cm fo V W (p_ord x y) k = 0
    · rw [if_pos h0] at h
      have e := cm_eq0 (U := U) (z := z) k h0
      rcases hq with g | g
      · rw [p_cm, if_neg (by rw [← e, g]; exact n10), ← e, g]
      · rw [p_cm, if_pos (by rw [← e, g])]
        rw [p_cm, if_pos g] at q
        by_cases hf : fo k = 2
        · rw [if_pos hf] at h q ⊢
          rcases p_ord_c (V k) (W k) with g1 | g1 | g1
          · rcases p_ord_c (W k) (U k) with g2 | g2 | g2
            · rcases p_ord_c (V k) (U k) with g3 | g3 | g3
              · exact g3.1
              · grind
              · grind
            · rw [← g2.2]; exact g1.1
            · rw [g2.1] at q; exact absurd q (by decide)
          · exact absurd (g1.1.symm.trans h) n01
          · exact absurd (g1.1.symm.trans h) n12
        · rw [if_neg hf] at h; exact absurd h n01
    · rw [if_neg h0] at h
      have := cm_lt k h hq
      rw [p_cm, if_neg (by rw [this]; exact n10), this]
end
section
variable {fo : Nat → Int32} {sm rn : Nat} {F : Nat → sh_S} {s1 s2 s3 : sh_S}
theorem cp_3 : s_cp fo sm s1 s2 = -1 ∨ s_cp fo sm s1 s2 = 0 ∨ s_cp fo sm s1 s2 = 1 := cm_3 sm
theorem cp_neg : s_cp fo sm s1 s2 < 0 ↔ s_cp fo sm s1 s2 = -1 := by
  rcases cp_3 (fo := fo) (sm := sm) (s1 := s1) (s2 := s2) with h | h | h <;> rw [h] <;> decide
theorem cp_pos : 0 < s_cp fo sm s1 s2 ↔ s_cp fo sm s1 s2 = 1 := by
  rcases cp_3 (fo := fo) (sm := sm) (s1 := s1) (s2 := s2) with h | h | h <;> rw [h] <;> decide
theorem cp_sym : s_cp fo sm s1 s2 = -1 ↔ s_cp fo sm s2 s1 = 1 := (cm_sym sm).1
theorem cp_sym0 : s_cp fo sm s1 s2 = 0 ↔ s_cp fo sm s2 s1 = 0 := (cm_sym sm).2
theorem cp_eq (h : s_cp fo sm s1 s2 = 0) : s_cp fo sm s2 s3 = s_cp fo sm s1 s3 := cm_eq0 sm h
theorem cp_lt (h : s_cp fo sm s1 s2 = -1) (q : s_cp fo sm s2 s3 = -1 ∨ s_cp fo sm s2 s3 = 0) : s_cp fo sm s1 s3 = -1 := cm_lt sm h q
theorem cp_self : s_cp fo sm s1 s1 = 0 := by
  rcases cp_3 (fo := fo) (sm := sm) (s1 := s1) (s2 := s1) with h | h | h
  · exact absurd (h.symm.trans (cp_sym.mp h)) n11
  · exact h
  · exact absurd (h.symm.trans (cp_sym.mpr h)) n12
theorem na_le (h : ∀ s, s_cp fo sm s s1 < 0 → s_cp fo sm s s2 < 0) : ∀ k, p_na fo sm F s1 k ≤ p_na fo sm F s2 k
  | 0 => Nat.le_refl 0
  | k + 1 => by
    have ih := na_le h k
    rw [p_na, p_na]
    by_cases q : s_of (F k) = 0 ∧ s_cp fo sm (F k) s1 < 0
    · rw [if_pos q, if_pos ⟨q.1, h _ q.2⟩]; omega
    · rw [if_neg q]; split <;> omega
theorem na_eq (h : s_cp fo sm s1 s2 = 0) (k : Nat) : p_na fo sm F s1 k = p_na fo sm F s2 k := by
  have key : ∀ {s1 s2}, s_cp fo sm s1 s2 = 0 → ∀ s, s_cp fo sm s s1 < 0 → s_cp fo sm s s2 < 0 := by
    intro s1 s2 h s q
    rw [cp_neg] at q ⊢
    exact cp_lt q (Or.inr h)
  exact Nat.le_antisymm (na_le (key h) k) (na_le (key (cp_sym0.mp h)) k)
theorem na_lt {r : Nat} (hr : s_of (F r) = 0) (h : s_cp fo sm (F r) s2 = -1) : ∀ k, r < k → p_na fo sm F (F r) k < p_na fo sm F s2 k
  | 0, q => absurd q (Nat.not_lt_zero r)
  | k + 1, q => by
    have hi : ∀ s, s_cp fo sm s (F r) < 0 → s_cp fo sm s s2 < 0 := fun s z => by
      rw [cp_neg] at z ⊢
      exact cp_lt z (Or.inl h)
    rw [p_na, p_na]
    by_cases e : r = k
    · subst e
      have := na_le (F := F) hi r
      rw [if_neg (fun z => by rw [cp_neg, cp_self] at z; exact n01 z.2), if_pos ⟨hr, cp_neg.mpr h⟩]
      omega
    · have := na_lt hr h k (by omega)
      by_cases w : s_of (F k) = 0 ∧ s_cp fo sm (F k) (F r) < 0
      · rw [if_pos w, if_pos ⟨w.1, hi _ w.2⟩]; omega
      · rw [if_neg w]; split <;> omega
theorem pl_cmp {k r : Nat} (hk : k < rn) (hr : r < rn) (h24 : rn ≤ 24) (h1 : s_of (F k) = 0) (h2 : s_of (F r) = 0) : (p_pl fo sm rn F r < p_pl fo sm rn F k ↔ 0 < s_cp fo sm (F k) (F r)) ∧ (p_pl fo sm rn F k = p_pl fo sm rn F r ↔ s_cp fo sm (F k) (F r) = 0) := by
  have b1 := p_na_le fo sm F (F k) rn
  have b2 := p_na_le fo sm F (F r) rn
  unfold p_pl
  rw [if_pos h1, if_pos h2, nI_ltI (by omega) (by omega), nI_eq (by omega) (by omega), cp_pos]
  rcases cp_3 (fo := fo) (sm := sm) (s1 := F k) (s2 := F r) with h | h | h
  · have := na_lt h1 h rn hk
    rw [h]
    exact ⟨⟨fun z => by omega, fun z => absurd z n11⟩, ⟨fun z => by omega, fun z => absurd z n10⟩⟩
  · have := na_eq (F := F) h rn
    rw [h]
    exact ⟨⟨fun z => by omega, fun z => absurd z n02⟩, ⟨fun _ => rfl, fun _ => by omega⟩⟩
  · have := na_lt h2 (cp_sym.mpr h) rn hr
    rw [h]
    exact ⟨⟨fun _ => rfl, fun _ => by omega⟩, ⟨fun z => by omega, fun z => absurd z n13⟩⟩
theorem nr_eq {r : Nat} (hr : r < rn) (h24 : rn ≤ 24) (h2 : s_of (F r) = 0) : ∀ k, k ≤ rn → m_nr (p_pl fo sm rn F) F r k = p_ne fo sm F r k
  | 0, _ => rfl
  | k + 1, hk => by
    rw [m_nr, p_ne, nr_eq hr h24 h2 k (by omega)]
    by_cases h1 : s_of (F k) = 0
    · have e := pl_cmp (fo := fo) (sm := sm) (by omega : k < rn) hr h24 h1 h2
      simp only [e.1, e.2]
    · rw [if_neg (fun z => h1 z.1), if_neg (fun z => h1 z.1)]
theorem rg_eq (h24 : rn ≤ 24) {i : Int32} : m_rg (p_pl fo sm rn F) F rn i = p_rg fo sm rn F i := by
  unfold m_rg p_rg
  refine p_fd_c (fun r hr => ?_) rn (Nat.le_refl rn)
  by_cases h : s_of (F r) = 0
  · rw [nr_eq hr h24 h rn (Nat.le_refl rn)]
  · rw [decide_eq_false (fun z => h z.1), decide_eq_false (fun z => h z.1)]
end
