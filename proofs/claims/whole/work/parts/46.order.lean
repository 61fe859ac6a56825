/-! ===== teams: the three least; sums and the worst one ===== -/
theorem q_lt (A B : Int64) : (A < B) = ¬ (B ≤ A) := by
  apply propext; constructor <;> intro h <;> grind
set_option maxHeartbeats 4000000 in
theorem tm_4 (A B C D : Int64) (ra rb rc rd : Nat)
    (ha : ra = (if A ≤ B then 0 else 1) + (if A ≤ C then 0 else 1) + (if A ≤ D then 0 else 1))
    (hb : rb = (if A ≤ B then 1 else 0) + (if B ≤ C then 0 else 1) + (if B ≤ D then 0 else 1))
    (hc : rc = (if A ≤ C then 1 else 0) + (if B ≤ C then 1 else 0) + (if C ≤ D then 0 else 1))
    (hd : rd = (if A ≤ D then 1 else 0) + (if B ≤ D then 1 else 0) + (if C ≤ D then 1 else 0)) :
    (if ra = 0 then A else if rb = 0 then B else if rc = 0 then C else if rd = 0 then D else 10000) + (if ra = 1 then A else if rb = 1 then B else if rc = 1 then C else if rd = 1 then D else 10000) + (if ra = 2 then A else if rb = 2 then B else if rc = 2 then C else if rd = 2 then D else 10000)
    = 0 + A + B + C + D - e_mxl (e_mxl (e_mxl A B) C) D ∧ (if ra = 0 then A else if rb = 0 then B else if rc = 0 then C else if rd = 0 then D else 10000) = e_mnl (e_mnl (e_mnl A B) C) D := by
  simp only [e_mxl, e_mnl, q_lt]
  by_cases h1 : A ≤ B <;> by_cases h2 : A ≤ C <;> by_cases h3 : A ≤ D <;> by_cases h4 : B ≤ C <;> by_cases h5 : B ≤ D <;> by_cases h6 : C ≤ D <;> simp [h1, h2, h3, h4, h5, h6] at ha hb hc hd ⊢ <;> subst ha hb hc hd <;> first | grind | (simp [h1, h2, h3, h4, h5, h6]; grind)
theorem tm_3 (A B C : Int64) (ra rb rc : Nat)
    (ha : ra = (if A ≤ B then 0 else 1) + (if A ≤ C then 0 else 1))
    (hb : rb = (if A ≤ B then 1 else 0) + (if B ≤ C then 0 else 1))
    (hc : rc = (if A ≤ C then 1 else 0) + (if B ≤ C then 1 else 0)) :
    (if ra = 0 then A else if rb = 0 then B else if rc = 0 then C else 10000) + (if ra = 1 then A else if rb = 1 then B else if rc = 1 then C else 10000) + (if ra = 2 then A else if rb = 2 then B else if rc = 2 then C else 10000)
    = 0 + A + B + C + 10000 * 0 ∧ (if ra = 0 then A else if rb = 0 then B else if rc = 0 then C else 10000) = e_mnl (e_mnl A B) C := by
  simp only [e_mxl, e_mnl, q_lt]
  by_cases h1 : A ≤ B <;> by_cases h2 : A ≤ C <;> by_cases h4 : B ≤ C <;> simp [h1, h2, h4] at ha hb hc ⊢ <;> subst ha hb hc <;> first | grind | (simp [h1, h2, h4]; grind)
theorem tm_2 (A B : Int64) (ra rb : Nat)
    (ha : ra = (if A ≤ B then 0 else 1))
    (hb : rb = (if A ≤ B then 1 else 0)) :
    (if ra = 0 then A else if rb = 0 then B else 10000) + (if ra = 1 then A else if rb = 1 then B else 10000) + (if ra = 2 then A else if rb = 2 then B else 10000)
    = 0 + A + B + 10000 * 1 ∧ (if ra = 0 then A else if rb = 0 then B else 10000) = e_mnl A B := by
  simp only [e_mxl, e_mnl, q_lt]
  by_cases h1 : A ≤ B <;> simp [h1] at ha hb ⊢ <;> subst ha hb <;> first | grind | (simp [h1]; grind)
section
variable {tm : Nat → Int32} {F : Nat → sh_S} {t : Int32} {rn : Nat}
def p_L (tm : Nat → Int32) (F : Nat → sh_S) (t : Int32) (rn : Nat) : Nat → List Nat
  | 0 => []
  | m + 1 => if p_in tm F t (rn - (m + 1)) then (rn - (m + 1)) :: p_L tm F t rn m else p_L tm F t rn m
theorem p_L_ge : ∀ m, ∀ x ∈ p_L tm F t rn m, rn - m ≤ x
  | 0, x, h => by cases h
  | m + 1, x, h => by
    rw [p_L] at h
    split at h
    · rcases List.mem_cons.mp h with e | h
      · omega
      · have := p_L_ge m x h; omega
    · have := p_L_ge m x h; omega
theorem p_L_pw : ∀ m, m ≤ rn → (p_L tm F t rn m).Pairwise (· < ·)
  | 0, _ => List.Pairwise.nil
  | m + 1, hm => by
    rw [p_L]
    split
    · refine List.Pairwise.cons (fun x hx => ?_) (p_L_pw m (by omega))
      have := p_L_ge m x hx; omega
    · exact p_L_pw m (by omega)
theorem p_L_ts : ∀ m, m ≤ rn → (p_L tm F t rn m).foldl (fun z k => (z.1 + s_tt (F k), if z.2.2 = 0 then s_tt (F k) else e_mxl z.2.1 (s_tt (F k)), z.2.2 + 1)) (p_ts tm F t (rn - m)) = p_ts tm F t rn
  | 0, _ => by rw [p_L]; rfl
  | m + 1, hm => by
    have ih := p_L_ts m (by omega)
    rw [show rn - m = rn - (m + 1) + 1 by omega, p_ts] at ih
    rw [p_L]
    by_cases h : p_in tm F t (rn - (m + 1))
    · rw [if_pos h] at ih ⊢; exact ih
    · rw [if_neg h] at ih ⊢; exact ih
theorem p_L_tl : ∀ m, m ≤ rn → (p_L tm F t rn m).foldl (fun z k => (1, if z.1 = 0 then s_tt (F k) else e_mnl z.2 (s_tt (F k)))) (p_tl tm F t (rn - m)) = p_tl tm F t rn
  | 0, _ => by rw [p_L]; rfl
  | m + 1, hm => by
    have ih := p_L_tl m (by omega)
    rw [show rn - m = rn - (m + 1) + 1 by omega, p_tl] at ih
    rw [p_L]
    by_cases h : p_in tm F t (rn - (m + 1))
    · rw [if_pos h] at ih ⊢; exact ih
    · rw [if_neg h] at ih ⊢; exact ih
theorem p_L_nl {r : Nat} : ∀ m, m ≤ rn → (p_L tm F t rn m).foldl (fun z k => z + if s_tt (F k) < s_tt (F r) ∨ s_tt (F k) = s_tt (F r) ∧ k < r then 1 else 0) (m_nl tm F t r (rn - m)) = m_nl tm F t r rn
  | 0, _ => by rw [p_L]; rfl
  | m + 1, hm => by
    have ih := p_L_nl (r := r) m (by omega)
    rw [show rn - m = rn - (m + 1) + 1 by omega, m_nl] at ih
    rw [p_L]
    by_cases h : p_in tm F t (rn - (m + 1))
    · rw [if_pos h]
      have e : (p_in tm F t (rn - (m + 1)) ∧ (s_tt (F (rn - (m + 1))) < s_tt (F r) ∨ s_tt (F (rn - (m + 1))) = s_tt (F r) ∧ rn - (m + 1) < r)) = (s_tt (F (rn - (m + 1))) < s_tt (F r) ∨ s_tt (F (rn - (m + 1))) = s_tt (F r) ∧ rn - (m + 1) < r) := propext ⟨fun z => z.2, fun z => ⟨h, z⟩⟩
      simp only [e] at ih
      exact ih
    · rw [if_neg h]
      rw [if_neg (fun z => h z.1)] at ih
      exact ih
def p_ll (nl : Nat → Nat) (g : Nat → Int64) (a : Nat) : List Nat → Int64
  | [] => 10000
  | r :: l => if nl r = a then g r else p_ll nl g a l
theorem p_L_ls {a : Nat} {nl : Nat → Nat} {g : Nat → Int64} : ∀ m, m_ls (fun r => decide (p_in tm F t r ∧ nl r = a)) g rn m = p_ll nl g a (p_L tm F t rn m)
  | 0 => rfl
  | m + 1 => by
    rw [m_ls, p_L, p_L_ls m]
    by_cases h : p_in tm F t (rn - (m + 1))
    · rw [if_pos h, p_ll]
      by_cases h2 : nl (rn - (m + 1)) = a
      · rw [if_pos (decide_eq_true ⟨h, h2⟩), if_pos h2]
      · rw [if_neg (fun z => h2 (of_decide_eq_true z).2), if_neg h2]
    · rw [if_neg h, if_neg (fun z => h (of_decide_eq_true z).1)]
theorem p_ts_rc : ∀ k, (p_ts tm F t k).2.2 ≤ r_c tm t k
  | 0 => Nat.le_refl 0
  | k + 1 => by
    have ih := p_ts_rc k
    rw [p_ts, r_c]
    split
    · rename_i h
      rw [if_pos h.1]
      show (p_ts tm F t k).2.2 + 1 ≤ _
      omega
    · split <;> omega
theorem tl_le (A B : Int64) (a b : Nat) (h : a < b) : (A < B ∨ A = B ∧ a < b) = (A ≤ B) := by
  apply propext; constructor
  · rintro (q | ⟨q, _⟩) <;> grind
  · intro q
    by_cases e : A = B
    · exact Or.inr ⟨e, h⟩
    · exact Or.inl (by grind)
theorem tl_lt (A B : Int64) (a b : Nat) (h : a < b) : (B < A ∨ B = A ∧ b < a) = ¬ (A ≤ B) := by
  apply propext; constructor
  · rintro (q | ⟨_, q⟩)
    · grind
    · omega
  · intro q
    exact Or.inl (by grind)
theorem tl_self (A : Int64) (a : Nat) : ¬ (A < A ∨ A = A ∧ a < a) := by
  rintro (q | ⟨_, q⟩)
  · grind
  · omega
theorem tm_0 : (10000 + 10000 + 10000 : Int64) = 0 + 10000 * (3 - nI 0).toInt64 := by decide
set_option maxHeartbeats 2000000 in
theorem tm_eq (h4 : (p_ts tm F t rn).2.2 ≤ 4) : m_to tm F rn t = p_sum tm F rn t ∧ m_le tm F rn t 0 = (p_tl tm F t rn).2 := by
  have e1 := p_L_ts (tm := tm) (F := F) (t := t) rn (Nat.le_refl rn)
  have e2 := p_L_tl (tm := tm) (F := F) (t := t) rn (Nat.le_refl rn)
  have e3 := fun r => p_L_nl (tm := tm) (F := F) (t := t) (r := r) rn (Nat.le_refl rn)
  have e4 := p_L_pw (tm := tm) (F := F) (t := t) rn (Nat.le_refl rn)
  have e5 := fun a => p_L_ls (tm := tm) (F := F) (t := t) (rn := rn) (a := a) (nl := fun r => m_nl tm F t r rn) (g := fun r => s_tt (F r)) rn
  rw [Nat.sub_self] at e1 e2 e3
  rw [show p_ts tm F t 0 = (0, 0, 0) from rfl] at e1
  rw [show p_tl tm F t 0 = (0, 10000) from rfl] at e2
  simp only [show ∀ r, m_nl tm F t r 0 = 0 from fun _ => rfl] at e3
  unfold m_to m_le p_sum
  rw [e5 0, e5 1, e5 2, ← e2]
  rw [← e1] at h4 ⊢
  generalize hnl : (fun r => m_nl tm F t r rn) = nl
  have e3' : ∀ r, (p_L tm F t rn rn).foldl (fun z k => z + if s_tt (F k) < s_tt (F r) ∨ s_tt (F k) = s_tt (F r) ∧ k < r then 1 else 0) 0 = nl r := fun r => by rw [← hnl]; exact e3 r
  clear e1 e2 e3 e5 hnl
  revert h4 e4 e3'
  generalize p_L tm F t rn rn = l
  have i1 : ∀ (x y : Int64), (if (1 : Int32) = 0 then x else y) = y := fun x y => if_neg (by decide)
  have i0 : ∀ (x y : Int64), (if (0 : Int32) = 0 then x else y) = x := fun x y => if_pos rfl
  match l with
  | [] =>
    intro _ _ _
    exact ⟨tm_0, rfl⟩
  | [a] =>
    intro _ _ h
    have ha := h a
    simp only [List.foldl, Int64.lt_irrefl, Nat.lt_irrefl, and_false, or_self, if_false, Nat.add_zero] at ha
    simp only [List.foldl, p_ll, ← ha, i0, i1]
    refine ⟨?_, if_pos trivial⟩
    rw [if_pos trivial, if_neg (by decide), if_neg (by decide), if_neg (by decide), show (3 - nI (0 + 1)).toInt64 = 2 by decide]
    grind
  | [a, b] =>
    intro _ hp h
    have hab : a < b := by simp at hp; omega
    have ha := h a
    have hb := h b
    simp only [List.foldl, Int64.lt_irrefl, Nat.lt_irrefl, and_false, or_self, if_false, Nat.add_zero, Nat.zero_add, tl_le _ _ a b hab, tl_lt _ _ a b hab, ite_not] at ha hb
    have q := tm_2 (s_tt (F a)) (s_tt (F b)) (nl a) (nl b) ha.symm hb.symm
    simp only [List.foldl, p_ll, i0, i1]
    refine ⟨?_, q.2⟩
    rw [q.1, if_neg (by decide), show (3 - nI (0 + 1 + 1)).toInt64 = 1 by decide]
  | [a, b, c] =>
    intro _ hp h
    have hab : a < b := by simp at hp; omega
    have hac : a < c := by simp at hp; omega
    have hbc : b < c := by simp at hp; omega
    have ha := h a
    have hb := h b
    have hc := h c
    simp only [List.foldl, Int64.lt_irrefl, Nat.lt_irrefl, and_false, or_self, if_false, Nat.add_zero, Nat.zero_add, tl_le _ _ a b hab, tl_lt _ _ a b hab, tl_le _ _ a c hac, tl_lt _ _ a c hac, tl_le _ _ b c hbc, tl_lt _ _ b c hbc, ite_not] at ha hb hc
    have q := tm_3 (s_tt (F a)) (s_tt (F b)) (s_tt (F c)) (nl a) (nl b) (nl c) ha.symm hb.symm hc.symm
    simp only [List.foldl, p_ll, i0, i1]
    refine ⟨?_, q.2⟩
    rw [q.1, if_neg (by decide), show (3 - nI (0 + 1 + 1 + 1)).toInt64 = 0 by decide]
  | [a, b, c, d] =>
    intro _ hp h
    have hab : a < b := by simp at hp; omega
    have hac : a < c := by simp at hp; omega
    have had : a < d := by simp at hp; omega
    have hbc : b < c := by simp at hp; omega
    have hbd : b < d := by simp at hp; omega
    have hcd : c < d := by simp at hp; omega
    have ha := h a
    have hb := h b
    have hc := h c
    have hd := h d
    simp only [List.foldl, Int64.lt_irrefl, Nat.lt_irrefl, and_false, or_self, if_false, Nat.add_zero, Nat.zero_add, tl_le _ _ a b hab, tl_lt _ _ a b hab, tl_le _ _ a c hac, tl_lt _ _ a c hac, tl_le _ _ a d had, tl_lt _ _ a d had, tl_le _ _ b c hbc, tl_lt _ _ b c hbc, tl_le _ _ b d hbd, tl_lt _ _ b d hbd, tl_le _ _ c d hcd, tl_lt _ _ c d hcd, ite_not] at ha hb hc hd
    have q := tm_4 (s_tt (F a)) (s_tt (F b)) (s_tt (F c)) (s_tt (F d)) (nl a) (nl b) (nl c) (nl d) ha.symm hb.symm hc.symm hd.symm
    simp only [List.foldl, p_ll, i0, i1]
    refine ⟨?_, q.2⟩
    rw [q.1, if_pos (by decide), if_neg (Nat.succ_ne_zero _), if_neg (Nat.succ_ne_zero _), if_neg (Nat.succ_ne_zero _), if_pos trivial]
  | a :: b :: c :: d :: e :: l' =>
    intro h _ _
    exfalso
    have key : ∀ (l : List Nat) (z : Int64 × Int64 × Nat), z.2.2 ≤ (l.foldl (fun (z : Int64 × Int64 × Nat) k => (z.1 + s_tt (F k), if z.2.2 = 0 then s_tt (F k) else e_mxl z.2.1 (s_tt (F k)), z.2.2 + 1)) z).2.2 := by
      intro l
      induction l with
      | nil => intro z; exact Nat.le_refl _
      | cons x l ih => intro z; exact Nat.le_trans (Nat.le_succ _) (ih (_, _, z.2.2 + 1))
    simp only [List.foldl] at h
    have h5 := Nat.le_trans (key l' _) h
    dsimp only at h5
    omega
end
