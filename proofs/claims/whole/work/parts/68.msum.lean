/-! ===== the reference: factors, products, sums ===== -/
theorem r_cd_app {A B : List (Nat × Nat)} : r_cd (A ++ B) = r_cd A ++ r_cd B := List.map_append
theorem r_cd_len {A : List (Nat × Nat)} : (r_cd A).length = A.length := List.length_map ..
theorem l_cd {A B C c : List (Nat × Nat)} (h : A ++ r_cd B = C ++ c) : A.length + B.length = C.length + c.length := by
  have := congrArg List.length h
  rw [List.length_append, List.length_append, r_cd_len] at this
  exact this
section
variable {tb : Nat → Int32} {lt q o : Nat} {nm : Nat → Int64} {S : Option (Nat → z_R)}
theorem x_op_E {e : Nat × Nat} (hS : o < 6 ↔ ∃ F, S = some F) (h : x_op tb lt nm o q = .inl e) : R_fa tb lt nm S q = .inl e := by
  unfold x_op at h
  unfold R_fa
  by_cases h1 : x_tk tb lt q = 48
  · rw [if_pos h1] at h ⊢
    by_cases h2 : 5 < x_te tb lt q - q
    · rw [if_pos h2] at h ⊢; cases h; rfl
    · rw [if_neg h2] at h; cases h
  · rw [if_neg h1] at h ⊢
    by_cases h2 : x_tk tb lt q = 97 ∧ x_pair tb lt q = 0
    · rw [if_pos h2] at h ⊢
      cases hx : x_nE tb lt nm 1 q with
      | none => rw [hx] at h; cases h
      | some e' => rw [hx] at h; cases h; rfl
    · rw [if_neg h2] at h ⊢
      show R_br tb lt S (x_pair tb lt q) (x_q1 tb lt q) = .inl e
      unfold R_br
      by_cases h3 : x_tk tb lt (x_q1 tb lt q) = 40 ∧ o < 6
      · rw [if_pos h3] at h; cases h
      · rw [if_neg h3] at h
        cases h
        by_cases h4 : x_tk tb lt (x_q1 tb lt q) = 40
        · rw [if_pos h4]
          have h5 : ¬ o < 6 := fun z => h3 ⟨h4, z⟩
          match S, hS with
          | none, _ => rfl
          | some F, hS => exact absurd (hS.mpr ⟨F, rfl⟩) h5
        · rw [if_neg h4]
theorem x_op_1 {c : Nat × Nat} (h : x_op tb lt nm o q = .inr (.inl c)) : R_fa tb lt nm S q = .inr (x_nx tb lt q, [c]) := by
  unfold x_op at h
  unfold R_fa
  by_cases h1 : x_tk tb lt q = 48
  · rw [if_pos h1] at h ⊢
    by_cases h2 : 5 < x_te tb lt q - q
    · rw [if_pos h2] at h; cases h
    · rw [if_neg h2] at h ⊢; cases h; rfl
  · rw [if_neg h1] at h ⊢
    by_cases h2 : x_tk tb lt q = 97 ∧ x_pair tb lt q = 0
    · rw [if_pos h2] at h ⊢
      cases hx : x_nE tb lt nm 1 q with
      | none => rw [hx] at h; cases h; rfl
      | some e' => rw [hx] at h; cases h
    · rw [if_neg h2] at h
      by_cases h3 : x_tk tb lt (x_q1 tb lt q) = 40 ∧ o < 6
      · rw [if_pos h3] at h; cases h
      · rw [if_neg h3] at h; cases h
theorem x_op_2 {e q1 : Nat} (h : x_op tb lt nm o q = .inr (.inr (e, q1))) : R_fa tb lt nm S q = R_br tb lt S e q1 ∧ x_tk tb lt q1 = 40 ∧ o < 6 ∧ (e = 0 ∨ e = 6 ∨ e = 7) ∧ (q ≤ lt → q ≤ q1 ∧ q1 ≤ lt) := by
  unfold x_op at h
  unfold R_fa
  by_cases h1 : x_tk tb lt q = 48
  · rw [if_pos h1] at h
    by_cases h2 : 5 < x_te tb lt q - q
    · rw [if_pos h2] at h; cases h
    · rw [if_neg h2] at h; cases h
  · rw [if_neg h1] at h ⊢
    by_cases h2 : x_tk tb lt q = 97 ∧ x_pair tb lt q = 0
    · rw [if_pos h2] at h
      cases hx : x_nE tb lt nm 1 q with
      | none => rw [hx] at h; cases h
      | some e' => rw [hx] at h; cases h
    · rw [if_neg h2] at h ⊢
      by_cases h3 : x_tk tb lt (x_q1 tb lt q) = 40 ∧ o < 6
      · rw [if_pos h3] at h
        cases h
        refine ⟨rfl, h3.1, h3.2, ?_, fun hq => ?_⟩
        · rcases x_pair_3 (tb := tb) (lt := lt) (q := q) with z | z | z
          · exact Or.inr (Or.inl z.1)
          · exact Or.inr (Or.inr z.1)
          · exact Or.inl z.1
        · unfold x_q1
          have := x_nx_le (tb := tb) hq
          split <;> omega
      · rw [if_neg h3] at h; cases h
end
section
variable {E : ga_E} {X : ga_X} {n : Nat} {c0 c1 c2 c3 c4 c5 c6 c7 c8 c9 c10 c11 c12 c13 c14 c15 c16 c17 c18 c19 c20 c21 c22 c23 c24 c25 c26 c27 c28 c29 c30 m79 m80 m81 m82 m83 m84 m85 m86 m87 m88 m89 m90 m91 m92 m93 m94 m95 m96 m97 m98 m99 m100 m101 m102 m103 m104 m105 : ga_C} {L1 L2 : List ga_C} {f : Nat → ga_C} {o_tp o_rd o_fe o_em o_sp o_ac o_td o_sm o_tt o_at o_sz o_fk o_fp o_nw o_md o_nt o_pl o_op d_at d_tk d_ta d_fd d_fa : Int32} {d_tv : Int64} {d_rl : Value}
variable {r_at r_fk r_fp r_nt r_pl r_op : Int32} {nw md lt : Nat} {tb ns nb sg na nz pi cm : Nat → Int32}
variable {p q o d B : Nat} {C S : List (Nat × Nat)} {nm : Nat → Int64} {fac pr : Nat → z_R}
theorem m_pro (hX : ga_B E d yX11_sum cX11_sum 6 0 0 X) (hd : 3 ≤ d) (hn : 106 ≤ n) (hl : lt ≤ 600) (hln : z_ln lt fac) (hB : B ≤ 30) (hF : (∀ (q p : Nat) (S C : List (Nat × Nat)) (pi cm : Nat → Int32), p ≤ lt → x_sk tb lt p = q → r_pil S pi cm → S.length ≤ B + 1 → C.length ≤ q → (∀ k pl, fac q = .inl (k, pl) → (1 ≤ k ∧ k ≤ 4) → (∀ (b m : Int32) (p : Nat) (pl_ op_ : Int32) (md : Nat) (sg pi cm : Nat → Int32), p ≤ 610 → md ≤ 620 → ga_G E X 0 0 14 [some (.ref 79), some (.int b), some (.int m), none, none, none] [] (n, L1, ((m_O o_tp o_rd o_fe o_em o_sp o_ac o_td o_sm o_tt (nI p) (nI lt) (nI (k)) (nI (pl)) (nI nw) (nI md) (r_nt) (pl_) (op_)) :: ga_i 600 tb :: m81 :: m82 :: m83 :: m84 :: m85 :: m86 :: m87 :: m88 :: m89 :: m90 :: m91 :: m92 :: m93 :: m94 :: m95 :: ga_i 25 (ns) :: ga_i 26 (nb) :: ga_i 1300 (sg) :: ga_i 250 (na) :: ga_i 25 (nz) :: ga_i 40 (pi) :: ga_z 40 (cm) :: L2), f))) → (∀ (q' : Nat) (c : List (Nat × Nat)) (p' : Nat) (pi' cm' : Nat → Int32), fac q = .inr (q', c) → p' ≤ lt → x_sk tb lt p' = q' → r_pil S pi' cm' → ga_G E X 0 0 14 [some (.ref 79), some (.int 1), some (.int 1), none, none, none] [] (n, L1, ((m_O o_tp o_rd o_fe o_em o_sp o_ac o_td o_sm o_tt (nI (p')) (nI lt) (0) (-1) (nI nw) (nI (C ++ c).length) (r_nt) (nI (S).length) (nI (o))) :: ga_i 600 tb :: m81 :: m82 :: m83 :: m84 :: m85 :: m86 :: m87 :: m88 :: m89 :: m90 :: m91 :: m92 :: m93 :: m94 :: m95 :: ga_i 25 (ns) :: ga_i 26 (nb) :: ga_i 1300 (r_sg (C ++ c) sg) :: ga_i 250 (na) :: ga_i 25 (nz) :: ga_i 40 (pi') :: ga_z 40 (cm') :: L2), f)) → ga_G E X 0 0 14 [some (.ref 79), some (.int 0), some (.int 1), none, none, none] [] (n, L1, ((m_O o_tp o_rd o_fe o_em o_sp o_ac o_td o_sm o_tt (nI (p)) (nI lt) (0) (-1) (nI nw) (nI (C).length) (r_nt) (nI (S).length) (nI (o))) :: ga_i 600 tb :: m81 :: m82 :: m83 :: m84 :: m85 :: m86 :: m87 :: m88 :: m89 :: m90 :: m91 :: m92 :: m93 :: m94 :: m95 :: ga_i 25 (ns) :: ga_i 26 (nb) :: ga_i 1300 (r_sg (C) sg) :: ga_i 250 (na) :: ga_i 25 (nz) :: ga_i 40 (pi) :: ga_z 40 (cm) :: L2), f))) : (∀ (q p : Nat) (S C : List (Nat × Nat)) (pi cm : Nat → Int32), p ≤ lt → x_sk tb lt p = q → r_pil S pi cm → S.length ≤ B → C.length ≤ q → (∀ x S_, S = x :: S_ → x.1 ≤ 12 ∧ ¬ x.1 = 5) → (∀ k pl, R_pr tb lt fac q = .inl (k, pl) → (1 ≤ k ∧ k ≤ 4) → (∀ (b m : Int32) (p : Nat) (pl_ op_ : Int32) (md : Nat) (sg pi cm : Nat → Int32), p ≤ 610 → md ≤ 620 → ga_G E X 0 0 14 [some (.ref 79), some (.int b), some (.int m), none, none, none] [] (n, L1, ((m_O o_tp o_rd o_fe o_em o_sp o_ac o_td o_sm o_tt (nI p) (nI lt) (nI (k)) (nI (pl)) (nI nw) (nI md) (r_nt) (pl_) (op_)) :: ga_i 600 tb :: m81 :: m82 :: m83 :: m84 :: m85 :: m86 :: m87 :: m88 :: m89 :: m90 :: m91 :: m92 :: m93 :: m94 :: m95 :: ga_i 25 (ns) :: ga_i 26 (nb) :: ga_i 1300 (sg) :: ga_i 250 (na) :: ga_i 25 (nz) :: ga_i 40 (pi) :: ga_z 40 (cm) :: L2), f))) → (∀ (q' : Nat) (c : List (Nat × Nat)) (p' : Nat) (pi' cm' : Nat → Int32), R_pr tb lt fac q = .inr (q', c) → p' ≤ lt → x_sk tb lt p' = q' → ∀ (T C' : List (Nat × Nat)), (T = [] ∨ T = [(5, 0)]) → C' ++ r_cd T = C ++ c → r_pil (T ++ S) pi' cm' → ¬ x_tk tb lt q' = 42 → ¬ x_tk tb lt q' = 47 → ga_G E X 0 0 14 [some (.ref 79), some (.int 1), some (.int 1), none, none, none] [] (n, L1, ((m_O o_tp o_rd o_fe o_em o_sp o_ac o_td o_sm o_tt (nI (p')) (nI lt) (0) (-1) (nI nw) (nI (C').length) (r_nt) (nI (T ++ S).length) (nI (o))) :: ga_i 600 tb :: m81 :: m82 :: m83 :: m84 :: m85 :: m86 :: m87 :: m88 :: m89 :: m90 :: m91 :: m92 :: m93 :: m94 :: m95 :: ga_i 25 (ns) :: ga_i 26 (nb) :: ga_i 1300 (r_sg (C') sg) :: ga_i 250 (na) :: ga_i 25 (nz) :: ga_i 40 (pi') :: ga_z 40 (cm') :: L2), f)) → ga_G E X 0 0 14 [some (.ref 79), some (.int 0), some (.int 1), none, none, none] [] (n, L1, ((m_O o_tp o_rd o_fe o_em o_sp o_ac o_td o_sm o_tt (nI (p)) (nI lt) (0) (-1) (nI nw) (nI (C).length) (r_nt) (nI (S).length) (nI (o))) :: ga_i 600 tb :: m81 :: m82 :: m83 :: m84 :: m85 :: m86 :: m87 :: m88 :: m89 :: m90 :: m91 :: m92 :: m93 :: m94 :: m95 :: ga_i 25 (ns) :: ga_i 26 (nb) :: ga_i 1300 (r_sg (C) sg) :: ga_i 250 (na) :: ga_i 25 (nz) :: ga_i 40 (pi) :: ga_z 40 (cm) :: L2), f)) := by
  intro q p S C pi cm hp hq hpl hS hC hA hE kont
  have hql : q ≤ lt := by rw [← hq]; exact (x_sk_le hp).2
  have loop : ∀ (m q p : Nat) (T C' c : List (Nat × Nat)) (pi cm : Nat → Int32), lt - q ≤ m → p ≤ lt → x_sk tb lt p = q → (T = [] ∨ T = [(5, 0)]) → C' ++ r_cd T = C ++ c → r_pil (T ++ S) pi cm → C.length + c.length ≤ q → (∀ k pl, R_pl tb lt fac m q c = .inl (k, pl) → (1 ≤ k ∧ k ≤ 4) → (∀ (b m : Int32) (p : Nat) (pl_ op_ : Int32) (md : Nat) (sg pi cm : Nat → Int32), p ≤ 610 → md ≤ 620 → ga_G E X 0 0 14 [some (.ref 79), some (.int b), some (.int m), none, none, none] [] (n, L1, ((m_O o_tp o_rd o_fe o_em o_sp o_ac o_td o_sm o_tt (nI p) (nI lt) (nI (k)) (nI (pl)) (nI nw) (nI md) (r_nt) (pl_) (op_)) :: ga_i 600 tb :: m81 :: m82 :: m83 :: m84 :: m85 :: m86 :: m87 :: m88 :: m89 :: m90 :: m91 :: m92 :: m93 :: m94 :: m95 :: ga_i 25 (ns) :: ga_i 26 (nb) :: ga_i 1300 (sg) :: ga_i 250 (na) :: ga_i 25 (nz) :: ga_i 40 (pi) :: ga_z 40 (cm) :: L2), f))) → (∀ (q' : Nat) (c_ : List (Nat × Nat)) (p' : Nat) (pi' cm' : Nat → Int32) (T C' : List (Nat × Nat)), R_pl tb lt fac m q c = .inr (q', c_) → p' ≤ lt → x_sk tb lt p' = q' → (T = [] ∨ T = [(5, 0)]) → C' ++ r_cd T = C ++ c_ → r_pil (T ++ S) pi' cm' → ¬ x_tk tb lt q' = 42 → ¬ x_tk tb lt q' = 47 → ga_G E X 0 0 14 [some (.ref 79), some (.int 1), some (.int 1), none, none, none] [] (n, L1, ((m_O o_tp o_rd o_fe o_em o_sp o_ac o_td o_sm o_tt (nI (p')) (nI lt) (0) (-1) (nI nw) (nI (C').length) (r_nt) (nI (T ++ S).length) (nI (o))) :: ga_i 600 tb :: m81 :: m82 :: m83 :: m84 :: m85 :: m86 :: m87 :: m88 :: m89 :: m90 :: m91 :: m92 :: m93 :: m94 :: m95 :: ga_i 25 (ns) :: ga_i 26 (nb) :: ga_i 1300 (r_sg (C') sg) :: ga_i 250 (na) :: ga_i 25 (nz) :: ga_i 40 (pi') :: ga_z 40 (cm') :: L2), f)) → ga_G E X 0 0 14 [some (.ref 79), some (.int 1), some (.int 1), none, none, none] [] (n, L1, ((m_O o_tp o_rd o_fe o_em o_sp o_ac o_td o_sm o_tt (nI (p)) (nI lt) (0) (-1) (nI nw) (nI (C').length) (r_nt) (nI (T ++ S).length) (nI (o))) :: ga_i 600 tb :: m81 :: m82 :: m83 :: m84 :: m85 :: m86 :: m87 :: m88 :: m89 :: m90 :: m91 :: m92 :: m93 :: m94 :: m95 :: ga_i 25 (ns) :: ga_i 26 (nb) :: ga_i 1300 (r_sg (C') sg) :: ga_i 250 (na) :: ga_i 25 (nz) :: ga_i 40 (pi) :: ga_z 40 (cm) :: L2), f) := by
    intro m
    induction m with
    | zero =>
      intro q p T C' c pi cm hm hp hq hT hCc hpl hlen hE kont
      have hql : q ≤ lt := by rw [← hq]; exact (x_sk_le hp).2
      have e : q = lt := by omega
      have ht : x_tk tb lt q = -1 := by rw [e]; exact x_tk_lt
      exact kont q c p pi cm T C' rfl hp hq hT hCc hpl (by rw [ht]; decide) (by rw [ht]; decide)
    | succ m ih =>
      intro q p T C' c pi cm hm hp hq hT hCc hpl hlen hE kont
      have hql : q ≤ lt := by rw [← hq]; exact (x_sk_le hp).2
      have hTl := (t5 hT).2
      have hcl := l_cd hCc
      have hnl := (x_nx_le (tb := tb) hql).2
      have hTS : (T ++ S).length ≤ 39 := by rw [List.length_append]; omega
      by_cases h42 : x_tk tb lt q = 42
      · obtain ⟨hte, hlt, -⟩ := x_te_s1 (by decide) (by decide) (by decide) h42
        have hx : x_sk tb lt (q + 1) = x_nx tb lt q := by unfold x_nx; rw [hte]
        have hnx := x_nx_s (tb := tb) hlt
        refine st_mul hX hd hn hl hp hq h42 hT hA hTS hpl (r_pil_r hpl) (by omega) ?_
        rw [hCc]
        refine hF (x_nx tb lt q) (q + 1) ((5, 0) :: S) (C ++ c) _ _ (by omega) hx (r_pil_p (s := 5) (by omega) (r_pil_r hpl)) (by rw [List.length_cons]; omega) (by rw [List.length_append]; omega) (fun k pl hk hk2 => hE k pl (by rw [R_pl, if_pos h42, hk]) hk2) (fun q1 c1 p1 pi1 cm1 hk hp1 hq1 hpl1 => ?_)
        have hl1 := hln _ _ _ hnl hk
        refine ih q1 p1 [(5, 0)] (C ++ c ++ c1) (c ++ c1 ++ [(4, 0)]) pi1 cm1 (by omega) hp1 hq1 (Or.inr rfl) (by simp [r_cd]) hpl1 (by simp only [List.length_append, List.length_cons, List.length_nil]; omega) (fun k pl hk' hk2 => hE k pl (by rw [R_pl, if_pos h42, hk]; exact hk') hk2) (fun q' c' p' pi' cm' T' C2 hk' => kont q' c' p' pi' cm' T' C2 (by rw [R_pl, if_pos h42, hk]; exact hk'))
      · by_cases h47 : x_tk tb lt q = 47
        · obtain ⟨hte, hlt, -⟩ := x_te_s1 (by decide) (by decide) (by decide) h47
          have hnx := x_nx_s (tb := tb) hlt
          refine st_div hX hd hn hl hp hq h47 hT hA hTS hpl (by omega) (fun k pl hk hk2 => hE k pl (by rw [R_pl, if_neg h42, if_pos h47, hk]) hk2) (fun c2 hk => ?_)
          rw [hCc]
          have hl1 := ln_div _ _ _ hnl hk
          refine ih (x_nx tb lt (x_nx tb lt q)) (x_te tb lt (x_nx tb lt q)) [] (C ++ c ++ [c2]) (c ++ [c2]) pi cm (by omega) (x_te_le hnl).2 rfl (Or.inl rfl) (by simp [r_cd]) (r_pil_r hpl) (by simp only [List.length_append, List.length_cons, List.length_nil] at hl1 ⊢; omega) (fun k pl hk' hk2 => hE k pl (by rw [R_pl, if_neg h42, if_pos h47, hk]; exact hk') hk2) (fun q' c' p' pi' cm' T' C2 hk' => kont q' c' p' pi' cm' T' C2 (by rw [R_pl, if_neg h42, if_pos h47, hk]; exact hk'))
        · exact kont q c p pi cm T C' (by rw [R_pl, if_neg h42, if_neg h47]) hp hq hT hCc hpl h42 h47
  refine hF q p S C pi cm hp hq hpl (by omega) hC (fun k pl hk hk2 => hE k pl (by unfold R_pr; rw [hk]) hk2) (fun q1 c1 p1 pi1 cm1 hk hp1 hq1 hpl1 => ?_)
  have hl1 := hln _ _ _ hql hk
  exact loop 600 q1 p1 [] (C ++ c1) c1 pi1 cm1 (by omega) hp1 hq1 (Or.inl rfl) (by simp [r_cd]) hpl1 (by omega) (fun k pl hk' hk2 => hE k pl (by unfold R_pr; rw [hk]; exact hk') hk2) (fun q' c' p' pi' cm' T' C2 hk' hp' hq' => kont q' c' p' pi' cm' (by unfold R_pr; rw [hk]; exact hk') hp' hq' T' C2)
theorem m_sum (hX : ga_B E d yX11_sum cX11_sum 6 0 0 X) (hd : 3 ≤ d) (hn : 106 ≤ n) (hl : lt ≤ 600) (hln : z_ln lt (R_pr tb lt fac)) (hB : B ≤ 30) (hF : (∀ (q p : Nat) (S C : List (Nat × Nat)) (pi cm : Nat → Int32), p ≤ lt → x_sk tb lt p = q → r_pil S pi cm → S.length ≤ B + 1 → C.length ≤ q → (∀ x S_, S = x :: S_ → x.1 ≤ 12 ∧ ¬ x.1 = 5) → (∀ k pl, R_pr tb lt fac q = .inl (k, pl) → (1 ≤ k ∧ k ≤ 4) → (∀ (b m : Int32) (p : Nat) (pl_ op_ : Int32) (md : Nat) (sg pi cm : Nat → Int32), p ≤ 610 → md ≤ 620 → ga_G E X 0 0 14 [some (.ref 79), some (.int b), some (.int m), none, none, none] [] (n, L1, ((m_O o_tp o_rd o_fe o_em o_sp o_ac o_td o_sm o_tt (nI p) (nI lt) (nI (k)) (nI (pl)) (nI nw) (nI md) (r_nt) (pl_) (op_)) :: ga_i 600 tb :: m81 :: m82 :: m83 :: m84 :: m85 :: m86 :: m87 :: m88 :: m89 :: m90 :: m91 :: m92 :: m93 :: m94 :: m95 :: ga_i 25 (ns) :: ga_i 26 (nb) :: ga_i 1300 (sg) :: ga_i 250 (na) :: ga_i 25 (nz) :: ga_i 40 (pi) :: ga_z 40 (cm) :: L2), f))) → (∀ (q' : Nat) (c : List (Nat × Nat)) (p' : Nat) (pi' cm' : Nat → Int32), R_pr tb lt fac q = .inr (q', c) → p' ≤ lt → x_sk tb lt p' = q' → ∀ (T C' : List (Nat × Nat)), (T = [] ∨ T = [(5, 0)]) → C' ++ r_cd T = C ++ c → r_pil (T ++ S) pi' cm' → ¬ x_tk tb lt q' = 42 → ¬ x_tk tb lt q' = 47 → ga_G E X 0 0 14 [some (.ref 79), some (.int 1), some (.int 1), none, none, none] [] (n, L1, ((m_O o_tp o_rd o_fe o_em o_sp o_ac o_td o_sm o_tt (nI (p')) (nI lt) (0) (-1) (nI nw) (nI (C').length) (r_nt) (nI (T ++ S).length) (nI (o))) :: ga_i 600 tb :: m81 :: m82 :: m83 :: m84 :: m85 :: m86 :: m87 :: m88 :: m89 :: m90 :: m91 :: m92 :: m93 :: m94 :: m95 :: ga_i 25 (ns) :: ga_i 26 (nb) :: ga_i 1300 (r_sg (C') sg) :: ga_i 250 (na) :: ga_i 25 (nz) :: ga_i 40 (pi') :: ga_z 40 (cm') :: L2), f)) → ga_G E X 0 0 14 [some (.ref 79), some (.int 0), some (.int 1), none, none, none] [] (n, L1, ((m_O o_tp o_rd o_fe o_em o_sp o_ac o_td o_sm o_tt (nI (p)) (nI lt) (0) (-1) (nI nw) (nI (C).length) (r_nt) (nI (S).length) (nI (o))) :: ga_i 600 tb :: m81 :: m82 :: m83 :: m84 :: m85 :: m86 :: m87 :: m88 :: m89 :: m90 :: m91 :: m92 :: m93 :: m94 :: m95 :: ga_i 25 (ns) :: ga_i 26 (nb) :: ga_i 1300 (r_sg (C) sg) :: ga_i 250 (na) :: ga_i 25 (nz) :: ga_i 40 (pi) :: ga_z 40 (cm) :: L2), f))) : (∀ (q p : Nat) (S C : List (Nat × Nat)) (pi cm : Nat → Int32), p ≤ lt → x_sk tb lt p = q → r_pil S pi cm → S.length ≤ B → C.length ≤ q → (∀ x S_, S = x :: S_ → r_bk x) → (∀ k pl, R_su tb lt fac q = .inl (k, pl) → (1 ≤ k ∧ k ≤ 4) → (∀ (b m : Int32) (p : Nat) (pl_ op_ : Int32) (md : Nat) (sg pi cm : Nat → Int32), p ≤ 610 → md ≤ 620 → ga_G E X 0 0 14 [some (.ref 79), some (.int b), some (.int m), none, none, none] [] (n, L1, ((m_O o_tp o_rd o_fe o_em o_sp o_ac o_td o_sm o_tt (nI p) (nI lt) (nI (k)) (nI (pl)) (nI nw) (nI md) (r_nt) (pl_) (op_)) :: ga_i 600 tb :: m81 :: m82 :: m83 :: m84 :: m85 :: m86 :: m87 :: m88 :: m89 :: m90 :: m91 :: m92 :: m93 :: m94 :: m95 :: ga_i 25 (ns) :: ga_i 26 (nb) :: ga_i 1300 (sg) :: ga_i 250 (na) :: ga_i 25 (nz) :: ga_i 40 (pi) :: ga_z 40 (cm) :: L2), f))) → (∀ (q' : Nat) (c : List (Nat × Nat)) (p' : Nat) (pi' cm' : Nat → Int32), R_su tb lt fac q = .inr (q', c) → p' ≤ lt → x_sk tb lt p' = q' → ∀ (D C' : List (Nat × Nat)), r_ops D → D.length ≤ 2 → C' ++ r_cd D = C ++ c → r_pil (D ++ S) pi' cm' → ¬ x_tk tb lt q' = 42 → ¬ x_tk tb lt q' = 47 → ¬ x_tk tb lt q' = 43 → ¬ x_tk tb lt q' = 45 → ga_G E X 0 0 14 [some (.ref 79), some (.int 1), some (.int 1), none, none, none] [] (n, L1, ((m_O o_tp o_rd o_fe o_em o_sp o_ac o_td o_sm o_tt (nI (p')) (nI lt) (0) (-1) (nI nw) (nI (C').length) (r_nt) (nI (D ++ S).length) (nI (o))) :: ga_i 600 tb :: m81 :: m82 :: m83 :: m84 :: m85 :: m86 :: m87 :: m88 :: m89 :: m90 :: m91 :: m92 :: m93 :: m94 :: m95 :: ga_i 25 (ns) :: ga_i 26 (nb) :: ga_i 1300 (r_sg (C') sg) :: ga_i 250 (na) :: ga_i 25 (nz) :: ga_i 40 (pi') :: ga_z 40 (cm') :: L2), f)) → ga_G E X 0 0 14 [some (.ref 79), some (.int 0), some (.int 1), none, none, none] [] (n, L1, ((m_O o_tp o_rd o_fe o_em o_sp o_ac o_td o_sm o_tt (nI (p)) (nI lt) (0) (-1) (nI nw) (nI (C).length) (r_nt) (nI (S).length) (nI (o))) :: ga_i 600 tb :: m81 :: m82 :: m83 :: m84 :: m85 :: m86 :: m87 :: m88 :: m89 :: m90 :: m91 :: m92 :: m93 :: m94 :: m95 :: ga_i 25 (ns) :: ga_i 26 (nb) :: ga_i 1300 (r_sg (C) sg) :: ga_i 250 (na) :: ga_i 25 (nz) :: ga_i 40 (pi) :: ga_z 40 (cm) :: L2), f)) := by
  intro q p S C pi cm hp hq hpl hS hC hA hE kont
  have hql : q ≤ lt := by rw [← hq]; exact (x_sk_le hp).2
  have loop : ∀ (m q p : Nat) (D C' c : List (Nat × Nat)) (pi cm : Nat → Int32), lt - q ≤ m → p ≤ lt → x_sk tb lt p = q → r_ops D → D.length ≤ 2 → C' ++ r_cd D = C ++ c → r_pil (D ++ S) pi cm → C.length + c.length ≤ q → ¬ x_tk tb lt q = 42 → ¬ x_tk tb lt q = 47 → (∀ k pl, R_sl tb lt (R_pr tb lt fac) m q c = .inl (k, pl) → (1 ≤ k ∧ k ≤ 4) → (∀ (b m : Int32) (p : Nat) (pl_ op_ : Int32) (md : Nat) (sg pi cm : Nat → Int32), p ≤ 610 → md ≤ 620 → ga_G E X 0 0 14 [some (.ref 79), some (.int b), some (.int m), none, none, none] [] (n, L1, ((m_O o_tp o_rd o_fe o_em o_sp o_ac o_td o_sm o_tt (nI p) (nI lt) (nI (k)) (nI (pl)) (nI nw) (nI md) (r_nt) (pl_) (op_)) :: ga_i 600 tb :: m81 :: m82 :: m83 :: m84 :: m85 :: m86 :: m87 :: m88 :: m89 :: m90 :: m91 :: m92 :: m93 :: m94 :: m95 :: ga_i 25 (ns) :: ga_i 26 (nb) :: ga_i 1300 (sg) :: ga_i 250 (na) :: ga_i 25 (nz) :: ga_i 40 (pi) :: ga_z 40 (cm) :: L2), f))) → (∀ (q' : Nat) (c_ : List (Nat × Nat)) (p' : Nat) (pi' cm' : Nat → Int32) (D C' : List (Nat × Nat)), R_sl tb lt (R_pr tb lt fac) m q c = .inr (q', c_) → p' ≤ lt → x_sk tb lt p' = q' → r_ops D → D.length ≤ 2 → C' ++ r_cd D = C ++ c_ → r_pil (D ++ S) pi' cm' → ¬ x_tk tb lt q' = 42 → ¬ x_tk tb lt q' = 47 → ¬ x_tk tb lt q' = 43 → ¬ x_tk tb lt q' = 45 → ga_G E X 0 0 14 [some (.ref 79), some (.int 1), some (.int 1), none, none, none] [] (n, L1, ((m_O o_tp o_rd o_fe o_em o_sp o_ac o_td o_sm o_tt (nI (p')) (nI lt) (0) (-1) (nI nw) (nI (C').length) (r_nt) (nI (D ++ S).length) (nI (o))) :: ga_i 600 tb :: m81 :: m82 :: m83 :: m84 :: m85 :: m86 :: m87 :: m88 :: m89 :: m90 :: m91 :: m92 :: m93 :: m94 :: m95 :: ga_i 25 (ns) :: ga_i 26 (nb) :: ga_i 1300 (r_sg (C') sg) :: ga_i 250 (na) :: ga_i 25 (nz) :: ga_i 40 (pi') :: ga_z 40 (cm') :: L2), f)) → ga_G E X 0 0 14 [some (.ref 79), some (.int 1), some (.int 1), none, none, none] [] (n, L1, ((m_O o_tp o_rd o_fe o_em o_sp o_ac o_td o_sm o_tt (nI (p)) (nI lt) (0) (-1) (nI nw) (nI (C').length) (r_nt) (nI (D ++ S).length) (nI (o))) :: ga_i 600 tb :: m81 :: m82 :: m83 :: m84 :: m85 :: m86 :: m87 :: m88 :: m89 :: m90 :: m91 :: m92 :: m93 :: m94 :: m95 :: ga_i 25 (ns) :: ga_i 26 (nb) :: ga_i 1300 (r_sg (C') sg) :: ga_i 250 (na) :: ga_i 25 (nz) :: ga_i 40 (pi) :: ga_z 40 (cm) :: L2), f) := by
    intro m
    induction m with
    | zero =>
      intro q p D C' c pi cm hm hp hq hD hD2 hCc hpl hlen h42 h47 hE kont
      have hql : q ≤ lt := by rw [← hq]; exact (x_sk_le hp).2
      have e : q = lt := by omega
      have ht : x_tk tb lt q = -1 := by rw [e]; exact x_tk_lt
      exact kont q c p pi cm D C' rfl hp hq hD hD2 hCc hpl h42 h47 (by rw [ht]; decide) (by rw [ht]; decide)
    | succ m ih =>
      intro q p D C' c pi cm hm hp hq hD hD2 hCc hpl hlen h42 h47 hE kont
      have hql : q ≤ lt := by rw [← hq]; exact (x_sk_le hp).2
      have hcl := l_cd hCc
      have hnl := (x_nx_le (tb := tb) hql).2
      have hDS : (D ++ S).length ≤ 39 := by rw [List.length_append]; omega
      by_cases hs : x_tk tb lt q = 43 ∨ x_tk tb lt q = 45
      · obtain ⟨s, hs2, hs3, hs4⟩ : ∃ s, ((x_tk tb lt q = 43 ∧ s = 3) ∨ (x_tk tb lt q = 45 ∧ s = 4)) ∧ (s = 3 ∨ s = 4) ∧ (if x_tk tb lt q = 43 then 2 else 3) = s - 1 := by
          rcases hs with h | h
          · exact ⟨3, Or.inl ⟨h, rfl⟩, Or.inl rfl, by rw [if_pos h]⟩
          · exact ⟨4, Or.inr ⟨h, rfl⟩, Or.inr rfl, by rw [if_neg (by rw [h]; decide)]⟩
        have hte : x_te tb lt q = q + 1 ∧ q < lt := by
          rcases hs with h | h
          · exact ⟨(x_te_s1 (by decide) (by decide) (by decide) h).1, (x_te_s1 (by decide) (by decide) (by decide) h).2.1⟩
          · exact ⟨(x_te_s1 (by decide) (by decide) (by decide) h).1, (x_te_s1 (by decide) (by decide) (by decide) h).2.1⟩
        have hlt := hte.2
        have hx : x_sk tb lt (q + 1) = x_nx tb lt q := by unfold x_nx; rw [hte.1]
        have hnx := x_nx_s (tb := tb) hlt
        refine st_add (s := s) hX hd hn hl hp hq hs2 hD hA hDS hpl (by omega) ?_
        rw [hCc]
        refine hF (x_nx tb lt q) (q + 1) ((s, 0) :: S) (C ++ c) _ _ (by omega) hx (r_pil_p (by omega) (r_pil_r hpl)) (by rw [List.length_cons]; omega) (by rw [List.length_append]; omega) (fun x S_ e => by cases e; dsimp only; omega) (fun k pl hk hk2 => hE k pl (by rw [R_sl, if_pos hs, hk]) hk2) (fun q1 c1 p1 pi1 cm1 hk hp1 hq1 T C1 hT hC1 hpl1 g42 g47 => ?_)
        have hl1 := hln _ _ _ hnl hk
        have eT : T ++ (s, 0) :: S = (T ++ [(s, 0)]) ++ S := by rw [List.append_assoc]; rfl
        have h5 := t5 hT
        rw [eT] at hpl1 ⊢
        refine ih q1 p1 (T ++ [(s, 0)]) C1 (c ++ c1 ++ [(s - 1, 0)]) pi1 cm1 (by omega) hp1 hq1 (fun x hx => ?_) (by rw [List.length_append, List.length_singleton]; omega) (by rw [r_cd_app, ← List.append_assoc, hC1]; simp [r_cd]) hpl1 (by simp only [List.length_append, List.length_cons, List.length_nil]; omega) g42 g47 (fun k pl hk' hk2 => hE k pl (by rw [R_sl, if_pos hs, hk, hs4]; exact hk') hk2) (fun q' c' p' pi' cm' T' C2 hk' => kont q' c' p' pi' cm' T' C2 (by rw [R_sl, if_pos hs, hk, hs4]; exact hk'))
        rcases List.mem_append.mp hx with z | z
        · exact Or.inl (h5.1 x z)
        · rw [List.mem_singleton.mp z]; exact Or.inr hs3
      · exact kont q c p pi cm D C' (by rw [R_sl, if_neg hs]) hp hq hD hD2 hCc hpl h42 h47 (fun z => hs (Or.inl z)) (fun z => hs (Or.inr z))
  refine hF q p S C pi cm hp hq hpl (by omega) hC (fun x S_ e => by have := (hA x S_ e).1; omega) (fun k pl hk hk2 => hE k pl (by unfold R_su; rw [hk]) hk2) (fun q1 c1 p1 pi1 cm1 hk hp1 hq1 T C1 hT hC1 hpl1 g42 g47 => ?_)
  have hl1 := hln _ _ _ hql hk
  exact loop 600 q1 p1 T C1 c1 pi1 cm1 (by omega) hp1 hq1 (fun x hx => Or.inl ((t5 hT).1 x hx)) (by have := (t5 hT).2; omega) hC1 hpl1 (by omega) g42 g47 (fun k pl hk' hk2 => hE k pl (by unfold R_su; rw [hk]; exact hk') hk2) (fun q' c' p' pi' cm' T' C2 hk' hp' hq' => kont q' c' p' pi' cm' (by unfold R_su; rw [hk]; exact hk') hp' hq' T' C2)
theorem m_fac (hX : ga_B E d yX11_sum cX11_sum 6 0 0 X) (hd : 3 ≤ d) (hn : 106 ≤ n) (hl : lt ≤ 600) (hw : nw ≤ 24) (hN : r_nm tb nm nw ns nz na) (ho : o < 6) (hB : B ≤ 30) (hln : z_ln lt (R_su tb lt fac)) (hF : (∀ (q p : Nat) (S C : List (Nat × Nat)) (pi cm : Nat → Int32), p ≤ lt → x_sk tb lt p = q → r_pil S pi cm → S.length ≤ B + 1 → C.length ≤ q → (∀ x S_, S = x :: S_ → r_bk x) → (∀ k pl, R_su tb lt fac q = .inl (k, pl) → (1 ≤ k ∧ k ≤ 4) → (∀ (b m : Int32) (p : Nat) (pl_ op_ : Int32) (md : Nat) (sg pi cm : Nat → Int32), p ≤ 610 → md ≤ 620 → ga_G E X 0 0 14 [some (.ref 79), some (.int b), some (.int m), none, none, none] [] (n, L1, ((m_O o_tp o_rd o_fe o_em o_sp o_ac o_td o_sm o_tt (nI p) (nI lt) (nI (k)) (nI (pl)) (nI nw) (nI md) (r_nt) (pl_) (op_)) :: ga_i 600 tb :: m81 :: m82 :: m83 :: m84 :: m85 :: m86 :: m87 :: m88 :: m89 :: m90 :: m91 :: m92 :: m93 :: m94 :: m95 :: ga_i 25 (ns) :: ga_i 26 (nb) :: ga_i 1300 (sg) :: ga_i 250 (na) :: ga_i 25 (nz) :: ga_i 40 (pi) :: ga_z 40 (cm) :: L2), f))) → (∀ (q' : Nat) (c : List (Nat × Nat)) (p' : Nat) (pi' cm' : Nat → Int32), R_su tb lt fac q = .inr (q', c) → p' ≤ lt → x_sk tb lt p' = q' → ∀ (D C' : List (Nat × Nat)), r_ops D → D.length ≤ 2 → C' ++ r_cd D = C ++ c → r_pil (D ++ S) pi' cm' → ¬ x_tk tb lt q' = 42 → ¬ x_tk tb lt q' = 47 → ¬ x_tk tb lt q' = 43 → ¬ x_tk tb lt q' = 45 → ga_G E X 0 0 14 [some (.ref 79), some (.int 1), some (.int 1), none, none, none] [] (n, L1, ((m_O o_tp o_rd o_fe o_em o_sp o_ac o_td o_sm o_tt (nI (p')) (nI lt) (0) (-1) (nI nw) (nI (C').length) (r_nt) (nI (D ++ S).length) (nI (o + 1))) :: ga_i 600 tb :: m81 :: m82 :: m83 :: m84 :: m85 :: m86 :: m87 :: m88 :: m89 :: m90 :: m91 :: m92 :: m93 :: m94 :: m95 :: ga_i 25 (ns) :: ga_i 26 (nb) :: ga_i 1300 (r_sg (C') sg) :: ga_i 250 (na) :: ga_i 25 (nz) :: ga_i 40 (pi') :: ga_z 40 (cm') :: L2), f)) → ga_G E X 0 0 14 [some (.ref 79), some (.int 0), some (.int 1), none, none, none] [] (n, L1, ((m_O o_tp o_rd o_fe o_em o_sp o_ac o_td o_sm o_tt (nI (p)) (nI lt) (0) (-1) (nI nw) (nI (C).length) (r_nt) (nI (S).length) (nI (o + 1))) :: ga_i 600 tb :: m81 :: m82 :: m83 :: m84 :: m85 :: m86 :: m87 :: m88 :: m89 :: m90 :: m91 :: m92 :: m93 :: m94 :: m95 :: ga_i 25 (ns) :: ga_i 26 (nb) :: ga_i 1300 (r_sg (C) sg) :: ga_i 250 (na) :: ga_i 25 (nz) :: ga_i 40 (pi) :: ga_z 40 (cm) :: L2), f))) : (∀ (q p : Nat) (S C : List (Nat × Nat)) (pi cm : Nat → Int32), p ≤ lt → x_sk tb lt p = q → r_pil S pi cm → S.length ≤ B → C.length ≤ q → (∀ k pl, R_fa tb lt nm (some (R_su tb lt fac)) q = .inl (k, pl) → (1 ≤ k ∧ k ≤ 4) → (∀ (b m : Int32) (p : Nat) (pl_ op_ : Int32) (md : Nat) (sg pi cm : Nat → Int32), p ≤ 610 → md ≤ 620 → ga_G E X 0 0 14 [some (.ref 79), some (.int b), some (.int m), none, none, none] [] (n, L1, ((m_O o_tp o_rd o_fe o_em o_sp o_ac o_td o_sm o_tt (nI p) (nI lt) (nI (k)) (nI (pl)) (nI nw) (nI md) (r_nt) (pl_) (op_)) :: ga_i 600 tb :: m81 :: m82 :: m83 :: m84 :: m85 :: m86 :: m87 :: m88 :: m89 :: m90 :: m91 :: m92 :: m93 :: m94 :: m95 :: ga_i 25 (ns) :: ga_i 26 (nb) :: ga_i 1300 (sg) :: ga_i 250 (na) :: ga_i 25 (nz) :: ga_i 40 (pi) :: ga_z 40 (cm) :: L2), f))) → (∀ (q' : Nat) (c : List (Nat × Nat)) (p' : Nat) (pi' cm' : Nat → Int32), R_fa tb lt nm (some (R_su tb lt fac)) q = .inr (q', c) → p' ≤ lt → x_sk tb lt p' = q' → r_pil S pi' cm' → ga_G E X 0 0 14 [some (.ref 79), some (.int 1), some (.int 1), none, none, none] [] (n, L1, ((m_O o_tp o_rd o_fe o_em o_sp o_ac o_td o_sm o_tt (nI (p')) (nI lt) (0) (-1) (nI nw) (nI (C ++ c).length) (r_nt) (nI (S).length) (nI (o))) :: ga_i 600 tb :: m81 :: m82 :: m83 :: m84 :: m85 :: m86 :: m87 :: m88 :: m89 :: m90 :: m91 :: m92 :: m93 :: m94 :: m95 :: ga_i 25 (ns) :: ga_i 26 (nb) :: ga_i 1300 (r_sg (C ++ c) sg) :: ga_i 250 (na) :: ga_i 25 (nz) :: ga_i 40 (pi') :: ga_z 40 (cm') :: L2), f)) → ga_G E X 0 0 14 [some (.ref 79), some (.int 0), some (.int 1), none, none, none] [] (n, L1, ((m_O o_tp o_rd o_fe o_em o_sp o_ac o_td o_sm o_tt (nI (p)) (nI lt) (0) (-1) (nI nw) (nI (C).length) (r_nt) (nI (S).length) (nI (o))) :: ga_i 600 tb :: m81 :: m82 :: m83 :: m84 :: m85 :: m86 :: m87 :: m88 :: m89 :: m90 :: m91 :: m92 :: m93 :: m94 :: m95 :: ga_i 25 (ns) :: ga_i 26 (nb) :: ga_i 1300 (r_sg (C) sg) :: ga_i 250 (na) :: ga_i 25 (nz) :: ga_i 40 (pi) :: ga_z 40 (cm) :: L2), f)) := by
  intro q p S C pi cm hp hq hpl hS hC hE kont
  have hql : q ≤ lt := by rw [← hq]; exact (x_sk_le hp).2
  refine st_opd hX hd hn hl hw hN hp hq (by omega) (by omega) hC (fun k pl hk hk2 => hE k pl (x_op_E ⟨fun _ => ⟨_, rfl⟩, fun _ => ho⟩ hk) hk2) (fun c hk => kont _ _ _ pi cm (x_op_1 hk) (x_te_le hql).2 rfl hpl) (fun e q1 hk => ?_)
  obtain ⟨hR, h40, -, he, hqq⟩ := x_op_2 (S := some (R_su tb lt fac)) hk
  obtain ⟨hq1a, hq1b⟩ := hqq hql
  rw [hR] at hE kont
  obtain ⟨hte, hlt, -⟩ := x_te_s1 (by decide) (by decide) (by decide) h40
  have hx : x_sk tb lt (q1 + 1) = x_nx tb lt q1 := by unfold x_nx; rw [hte]
  have hnl := (x_nx_le (tb := tb) hq1b).2
  have hnx := x_nx_s (tb := tb) hlt
  generalize hs : (if e = 0 then 12 else e + 1) = s
  have hsb : s = 12 ∧ e = 0 ∨ (s = 7 ∨ s = 8) ∧ ¬ e = 0 ∧ s = e + 1 := by
    rcases he with h | h | h
    · left; rw [h] at hs; exact ⟨hs.symm, h⟩
    · right; rw [if_neg (by omega)] at hs; omega
    · right; rw [if_neg (by omega)] at hs; omega
  unfold R_br at hE kont
  rw [if_pos h40] at hE kont
  dsimp only at hE kont
  refine hF (x_nx tb lt q1) (q1 + 1) ((s, 0) :: S) C _ _ (by omega) hx (r_pil_b hpl) (by rw [List.length_cons]; omega) (by omega) (fun x S_ e' => by cases e'; exact ⟨by dsimp only; omega, Or.inl rfl⟩) (fun k pl hk hk2 => hE k pl (by rw [hk]) hk2) (fun q2 c2 p2 pi2 cm2 hk hp2 hq2 D C2 hD hD2 hCc hpl2 g1 g2 g3 g4 => ?_)
  rw [hk] at hE kont
  dsimp only at hE kont
  have hl2 := hln _ _ _ hnl hk
  have hcl := l_cd hCc
  have hlen : (D ++ (s, 0) :: S).length ≤ 39 := by rw [List.length_append, List.length_cons]; omega
  have hbk : r_bk (s, 0) := ⟨by dsimp only; omega, Or.inl rfl⟩
  by_cases h41 : x_tk tb lt q2 = 41
  · obtain ⟨hte2, hlt2, -⟩ := x_te_s1 (by decide) (by decide) (by decide) h41
    refine st_clo (x := (s, 0)) hX hd hn hl hp2 hq2 h41 (by omega) hbk hD hlen hpl2 (by omega) (fun hno => ?_) (fun hyes => ?_)
    · refine hE 1 q2 ?_ (by omega)
      have : ¬ e = 0 := fun z => hno (Or.inl (by dsimp only; omega))
      rw [if_neg this, if_neg (by rw [h41]; decide)]
    · have h12 : s = 12 := hyes.resolve_right (by show ¬ (0 : Nat) = 1; omega)
      have e0 : e = 0 := by omega
      rw [if_pos h12, List.append_nil, hCc]
      rw [if_pos e0, if_pos h41] at kont
      exact kont _ _ (q2 + 1) pi2 cm2 rfl (by omega) (by unfold x_nx; rw [hte2]) (r_pil_r hpl2).2.2
  · by_cases h44 : x_tk tb lt q2 = 44
    · obtain ⟨hte2, hlt2, -⟩ := x_te_s1 (by decide) (by decide) (by decide) h44
      refine st_com (x := (s, 0)) hX hd hn hl hp2 hq2 h44 (by omega) hbk hD hlen hpl2 (by omega) (fun hno => ?_) (fun hyes => ?_)
      · refine hE 1 q2 ?_ (by omega)
        have h12 : s = 12 := hno.resolve_right (by show ¬ (0 : Nat) = 1; omega)
        have e0 : e = 0 := by omega
        rw [if_pos e0, if_neg h41]
      · have h12 : ¬ s = 12 := fun z => hyes (Or.inl z)
        have e0 : ¬ e = 0 := by omega
        rw [if_neg e0, if_pos h44] at hE kont
        rw [hCc]
        have hx2 : x_sk tb lt (q2 + 1) = x_nx tb lt q2 := by unfold x_nx; rw [hte2]
        have hnl2 := (x_nx_le (tb := tb) hl2.2).2
        have hnx2 := x_nx_s (tb := tb) hlt2
        have hbk1 : r_bk (s, 1) := ⟨by dsimp only; omega, Or.inr rfl⟩
        refine hF (x_nx tb lt q2) (q2 + 1) ((s, 1) :: S) (C ++ c2) _ _ (by omega) hx2 (r_pil_c (r_pil_r hpl2)) (by rw [List.length_cons]; omega) (by rw [List.length_append]; omega) (fun x S_ e' => by cases e'; exact hbk1) (fun k pl hk' hk2 => hE k pl (by rw [hk']) hk2) (fun q3 c3 p3 pi3 cm3 hk3 hp3 hq3 D3 C3 hD3 hD32 hCc3 hpl3 f1 f2 f3 f4 => ?_)
        rw [hk3] at hE kont
        dsimp only at hE kont
        have hl3 := hln _ _ _ hnl2 hk3
        have hcl3 := l_cd hCc3
        have hlen3 : (D3 ++ (s, 1) :: S).length ≤ 39 := by rw [List.length_append, List.length_cons]; omega
        rw [List.length_append] at hcl3
        by_cases h413 : x_tk tb lt q3 = 41
        · obtain ⟨hte3, hlt3, -⟩ := x_te_s1 (by decide) (by decide) (by decide) h413
          refine st_clo (x := (s, 1)) hX hd hn hl hp3 hq3 h413 (by omega) hbk1 hD3 hlen3 hpl3 (by omega) (fun hno => absurd (Or.inr rfl) hno) (fun _ => ?_)
          rw [if_pos h413] at kont
          rw [if_neg h12, hCc3, show s - 1 = e by omega, show C ++ c2 ++ c3 ++ [(e, 0)] = C ++ (c2 ++ c3 ++ [(e, 0)]) by simp]
          exact kont _ _ (q3 + 1) pi3 cm3 rfl (by omega) (by unfold x_nx; rw [hte3]) (r_pil_r hpl3).2.2
        · by_cases h443 : x_tk tb lt q3 = 44
          · exact st_com (x := (s, 1)) hX hd hn hl hp3 hq3 h443 (by omega) hbk1 hD3 hlen3 hpl3 (by omega) (fun _ => hE 1 q3 (by rw [if_neg h413]) (by omega)) (fun hyes => absurd (Or.inr rfl) hyes)
          · exact st_els hX hd hn hl hp3 hq3 f1 f3 f4 f2 h413 h443 (by omega) (by omega) (hE 1 q3 (by rw [if_neg h413]) (by omega))
    · refine st_els hX hd hn hl hp2 hq2 g1 g3 g4 g2 h41 h44 (by omega) (by omega) (hE 1 q2 ?_ (by omega))
      by_cases e0 : e = 0
      · rw [if_pos e0, if_neg h41]
      · rw [if_neg e0, if_neg h44]
theorem m_fac0 (hX : ga_B E d yX11_sum cX11_sum 6 0 0 X) (hd : 3 ≤ d) (hn : 106 ≤ n) (hl : lt ≤ 600) (hw : nw ≤ 24) (hN : r_nm tb nm nw ns nz na) (hB : B ≤ 30) : (∀ (q p : Nat) (S C : List (Nat × Nat)) (pi cm : Nat → Int32), p ≤ lt → x_sk tb lt p = q → r_pil S pi cm → S.length ≤ B → C.length ≤ q → (∀ k pl, R_fa tb lt nm none q = .inl (k, pl) → (1 ≤ k ∧ k ≤ 4) → (∀ (b m : Int32) (p : Nat) (pl_ op_ : Int32) (md : Nat) (sg pi cm : Nat → Int32), p ≤ 610 → md ≤ 620 → ga_G E X 0 0 14 [some (.ref 79), some (.int b), some (.int m), none, none, none] [] (n, L1, ((m_O o_tp o_rd o_fe o_em o_sp o_ac o_td o_sm o_tt (nI p) (nI lt) (nI (k)) (nI (pl)) (nI nw) (nI md) (r_nt) (pl_) (op_)) :: ga_i 600 tb :: m81 :: m82 :: m83 :: m84 :: m85 :: m86 :: m87 :: m88 :: m89 :: m90 :: m91 :: m92 :: m93 :: m94 :: m95 :: ga_i 25 (ns) :: ga_i 26 (nb) :: ga_i 1300 (sg) :: ga_i 250 (na) :: ga_i 25 (nz) :: ga_i 40 (pi) :: ga_z 40 (cm) :: L2), f))) → (∀ (q' : Nat) (c : List (Nat × Nat)) (p' : Nat) (pi' cm' : Nat → Int32), R_fa tb lt nm none q = .inr (q', c) → p' ≤ lt → x_sk tb lt p' = q' → r_pil S pi' cm' → ga_G E X 0 0 14 [some (.ref 79), some (.int 1), some (.int 1), none, none, none] [] (n, L1, ((m_O o_tp o_rd o_fe o_em o_sp o_ac o_td o_sm o_tt (nI (p')) (nI lt) (0) (-1) (nI nw) (nI (C ++ c).length) (r_nt) (nI (S).length) (nI (6))) :: ga_i 600 tb :: m81 :: m82 :: m83 :: m84 :: m85 :: m86 :: m87 :: m88 :: m89 :: m90 :: m91 :: m92 :: m93 :: m94 :: m95 :: ga_i 25 (ns) :: ga_i 26 (nb) :: ga_i 1300 (r_sg (C ++ c) sg) :: ga_i 250 (na) :: ga_i 25 (nz) :: ga_i 40 (pi') :: ga_z 40 (cm') :: L2), f)) → ga_G E X 0 0 14 [some (.ref 79), some (.int 0), some (.int 1), none, none, none] [] (n, L1, ((m_O o_tp o_rd o_fe o_em o_sp o_ac o_td o_sm o_tt (nI (p)) (nI lt) (0) (-1) (nI nw) (nI (C).length) (r_nt) (nI (S).length) (nI (6))) :: ga_i 600 tb :: m81 :: m82 :: m83 :: m84 :: m85 :: m86 :: m87 :: m88 :: m89 :: m90 :: m91 :: m92 :: m93 :: m94 :: m95 :: ga_i 25 (ns) :: ga_i 26 (nb) :: ga_i 1300 (r_sg (C) sg) :: ga_i 250 (na) :: ga_i 25 (nz) :: ga_i 40 (pi) :: ga_z 40 (cm) :: L2), f)) := by
  intro q p S C pi cm hp hq hpl hS hC hE kont
  have hql : q ≤ lt := by rw [← hq]; exact (x_sk_le hp).2
  refine st_opd hX hd hn hl hw hN hp hq (by omega) (by omega) hC (fun k pl hk hk2 => hE k pl (x_op_E ⟨fun z => absurd z (by omega), fun z => by obtain ⟨F, z⟩ := z; cases z⟩ hk) hk2) (fun c hk => kont _ _ _ pi cm (x_op_1 hk) (x_te_le hql).2 rfl hpl) (fun e q1 hk => ?_)
  exact absurd (x_op_2 (S := none) hk).2.2.1 (by omega)
theorem m_all (hX : ga_B E d yX11_sum cX11_sum 6 0 0 X) (hd : 3 ≤ d) (hn : 106 ≤ n) (hl : lt ≤ 600) (hw : nw ≤ 24) (hN : r_nm tb nm nw ns nz na) : ∀ fu o B, fu + o = 6 → B + 3 * fu = 20 → (∀ (q p : Nat) (S C : List (Nat × Nat)) (pi cm : Nat → Int32), p ≤ lt → x_sk tb lt p = q → r_pil S pi cm → S.length ≤ B → C.length ≤ q → (∀ k pl, R_F tb lt nm fu q = .inl (k, pl) → (1 ≤ k ∧ k ≤ 4) → (∀ (b m : Int32) (p : Nat) (pl_ op_ : Int32) (md : Nat) (sg pi cm : Nat → Int32), p ≤ 610 → md ≤ 620 → ga_G E X 0 0 14 [some (.ref 79), some (.int b), some (.int m), none, none, none] [] (n, L1, ((m_O o_tp o_rd o_fe o_em o_sp o_ac o_td o_sm o_tt (nI p) (nI lt) (nI (k)) (nI (pl)) (nI nw) (nI md) (r_nt) (pl_) (op_)) :: ga_i 600 tb :: m81 :: m82 :: m83 :: m84 :: m85 :: m86 :: m87 :: m88 :: m89 :: m90 :: m91 :: m92 :: m93 :: m94 :: m95 :: ga_i 25 (ns) :: ga_i 26 (nb) :: ga_i 1300 (sg) :: ga_i 250 (na) :: ga_i 25 (nz) :: ga_i 40 (pi) :: ga_z 40 (cm) :: L2), f))) → (∀ (q' : Nat) (c : List (Nat × Nat)) (p' : Nat) (pi' cm' : Nat → Int32), R_F tb lt nm fu q = .inr (q', c) → p' ≤ lt → x_sk tb lt p' = q' → r_pil S pi' cm' → ga_G E X 0 0 14 [some (.ref 79), some (.int 1), some (.int 1), none, none, none] [] (n, L1, ((m_O o_tp o_rd o_fe o_em o_sp o_ac o_td o_sm o_tt (nI (p')) (nI lt) (0) (-1) (nI nw) (nI (C ++ c).length) (r_nt) (nI (S).length) (nI (o))) :: ga_i 600 tb :: m81 :: m82 :: m83 :: m84 :: m85 :: m86 :: m87 :: m88 :: m89 :: m90 :: m91 :: m92 :: m93 :: m94 :: m95 :: ga_i 25 (ns) :: ga_i 26 (nb) :: ga_i 1300 (r_sg (C ++ c) sg) :: ga_i 250 (na) :: ga_i 25 (nz) :: ga_i 40 (pi') :: ga_z 40 (cm') :: L2), f)) → ga_G E X 0 0 14 [some (.ref 79), some (.int 0), some (.int 1), none, none, none] [] (n, L1, ((m_O o_tp o_rd o_fe o_em o_sp o_ac o_td o_sm o_tt (nI (p)) (nI lt) (0) (-1) (nI nw) (nI (C).length) (r_nt) (nI (S).length) (nI (o))) :: ga_i 600 tb :: m81 :: m82 :: m83 :: m84 :: m85 :: m86 :: m87 :: m88 :: m89 :: m90 :: m91 :: m92 :: m93 :: m94 :: m95 :: ga_i 25 (ns) :: ga_i 26 (nb) :: ga_i 1300 (r_sg (C) sg) :: ga_i 250 (na) :: ga_i 25 (nz) :: ga_i 40 (pi) :: ga_z 40 (cm) :: L2), f))
  | 0, o, B, h1, h2 => by
    have e : o = 6 := by omega
    subst e
    exact m_fac0 hX hd hn hl hw hN (by omega)
  | fu + 1, o, B, h1, h2 => m_fac hX hd hn hl hw hN (by omega) (by omega) (ln_su (ln_F fu)) (m_sum hX hd hn hl (ln_pr (ln_F fu)) (by omega) (m_pro hX hd hn hl (ln_F fu) (by omega) (m_all hX hd hn hl hw hN fu (o + 1) (B + 1 + 1 + 1) (by omega) (by omega))))
theorem c_X11_sum (hn : 106 ≤ n) (hl : lt ≤ 600) (hw : nw ≤ 24) (hN : r_nm tb nm nw ns nz na) (hp : p ≤ lt) (hq : x_sk tb lt p = q) (hC : C.length ≤ q) : ga_Mt E 3 yX11_sum cX11_sum 6 none 0 0 [.ref 79] (n, L1, ((m_O o_tp o_rd o_fe o_em o_sp o_ac o_td o_sm o_tt (nI p) (nI lt) (0) (-1) (nI nw) (nI C.length) (r_nt) (r_pl) (r_op)) :: ga_i 600 tb :: m81 :: m82 :: m83 :: m84 :: m85 :: m86 :: m87 :: m88 :: m89 :: m90 :: m91 :: m92 :: m93 :: m94 :: m95 :: ga_i 25 (ns) :: ga_i 26 (nb) :: ga_i 1300 (r_sg C sg) :: ga_i 250 (na) :: ga_i 25 (nz) :: ga_i 40 (pi) :: ga_z 40 (cm) :: L2), f) (fun r M => r = none ∧ ((∃ k pl, R_S tb lt nm q = .inl (k, pl) ∧ (1 ≤ k ∧ k ≤ 4) ∧ (∃ p pl_ op_ md sg pi cm, p ≤ 610 ∧ md ≤ 620 ∧ M = (n, L1, ((m_O o_tp o_rd o_fe o_em o_sp o_ac o_td o_sm o_tt (nI p) (nI lt) (nI (k)) (nI (pl)) (nI nw) (nI md) (r_nt) (pl_) (op_)) :: ga_i 600 tb :: m81 :: m82 :: m83 :: m84 :: m85 :: m86 :: m87 :: m88 :: m89 :: m90 :: m91 :: m92 :: m93 :: m94 :: m95 :: ga_i 25 (ns) :: ga_i 26 (nb) :: ga_i 1300 (sg) :: ga_i 250 (na) :: ga_i 25 (nz) :: ga_i 40 (pi) :: ga_z 40 (cm) :: L2), f))) ∨ ∃ q' c' pi cm, R_S tb lt nm q = .inr (q', c') ∧ x_sk tb lt q' = q' ∧ M = (n, L1, ((m_O o_tp o_rd o_fe o_em o_sp o_ac o_td o_sm o_tt (nI (q')) (nI lt) (0) (-1) (nI nw) (nI (C ++ c').length) (r_nt) (nI ([] : List (Nat × Nat)).length) (nI (0))) :: ga_i 600 tb :: m81 :: m82 :: m83 :: m84 :: m85 :: m86 :: m87 :: m88 :: m89 :: m90 :: m91 :: m92 :: m93 :: m94 :: m95 :: ga_i 25 (ns) :: ga_i 26 (nb) :: ga_i 1300 (r_sg (C ++ c') sg) :: ga_i 250 (na) :: ga_i 25 (nz) :: ga_i 40 (pi) :: ga_z 40 (cm) :: L2), f))) := by
  have hql : q ≤ lt := by rw [← hq]; exact (x_sk_le hp).2
  refine ga_Mt.of (by decide) rfl (fun X hX hP => ?_)
  refine g_less [some (.ref 79), none, none, none, none, none] ⟨rfl, trivial⟩ ?_
  have hsum : ga_G E X 0 0 14 [some (.ref 79), some (.int 0), some (.int 1), none, none, none] [] (n, L1, ((m_O o_tp o_rd o_fe o_em o_sp o_ac o_td o_sm o_tt (nI (p)) (nI lt) (0) (-1) (nI nw) (nI (C).length) (r_nt) (nI ([] : List (Nat × Nat)).length) (nI (0))) :: ga_i 600 tb :: m81 :: m82 :: m83 :: m84 :: m85 :: m86 :: m87 :: m88 :: m89 :: m90 :: m91 :: m92 :: m93 :: m94 :: m95 :: ga_i 25 (ns) :: ga_i 26 (nb) :: ga_i 1300 (r_sg (C) sg) :: ga_i 250 (na) :: ga_i 25 (nz) :: ga_i 40 (pi) :: ga_z 40 (cm) :: L2), f) := by
    refine m_sum (B := 0) (o := 0) hX (Nat.le_refl _) hn hl (ln_pr (ln_F 6)) (by omega) (m_pro hX (Nat.le_refl _) hn hl (ln_F 6) (by omega) (m_all hX (Nat.le_refl _) hn hl hw hN 6 0 2 rfl rfl)) q p [] C pi cm hp hq trivial (Nat.le_refl 0) hC (fun x S_ e => by cases e) (fun k pl hk hk2 b m p pl_ op_ md sg pi cm h1 h2 => ?_) (fun q' c' p' pi' cm' hk hp' hq' D C' hD hD2 hCc hpl g1 g2 g3 g4 => ?_)
    · have hk0 : ¬ nI k = 0 := fun z => absurd (nI_inj (b := 0) z (by omega) (by omega)) (by omega)
      refine g_iload_n (nx := 15) hX 2 dX11_sum_14 rfl rfl rfl ?_
      refine g_if_eq (nx := 18) hX 261 dX11_sum_15 (by decide) rfl (fun h15 => ?_) (fun h15 => ?_)
      · refine g_aload_n (nx := 262) hX 0 dX11_sum_261 rfl rfl rfl ?_
        refine g_getfield (nx := 265) hX dX11_sum_262 rfl fX11_92 (ga_dn hn rfl) rfl rfl ?_
        refine g_if_ne (nx := 268) hX 273 dX11_sum_265 (by decide) rfl (fun h265 => ?_) (fun h265 => ?_)
        · exact g_return hX hP dX11_sum_273 (Nat.le_of_ble_eq_true rfl) (Nat.le_of_ble_eq_true rfl) ⟨rfl, Or.inl ⟨k, pl, hk, hk2, p, pl_, op_, md, sg, pi, cm, h1, h2, rfl⟩⟩
        · exact absurd h265 hk0
      · refine g_aload_n (nx := 19) hX 0 dX11_sum_18 rfl rfl rfl ?_
        refine g_getfield (nx := 22) hX dX11_sum_19 rfl fX11_92 (ga_dn hn rfl) rfl rfl ?_
        refine g_if_ne (nx := 25) hX 261 dX11_sum_22 (by decide) rfl (fun h22 => ?_) (fun h22 => ?_)
        · refine g_aload_n (nx := 262) hX 0 dX11_sum_261 rfl rfl rfl ?_
          refine g_getfield (nx := 265) hX dX11_sum_262 rfl fX11_92 (ga_dn hn rfl) rfl rfl ?_
          refine g_if_ne (nx := 268) hX 273 dX11_sum_265 (by decide) rfl (fun h265 => ?_) (fun h265 => ?_)
          · exact g_return hX hP dX11_sum_273 (Nat.le_of_ble_eq_true rfl) (Nat.le_of_ble_eq_true rfl) ⟨rfl, Or.inl ⟨k, pl, hk, hk2, p, pl_, op_, md, sg, pi, cm, h1, h2, rfl⟩⟩
          · exact absurd h265 hk0
        · exact absurd h22 hk0
    · have hl1 := ln_S (nm := nm) _ _ _ hql hk
      have hcl := l_cd hCc
      rw [List.append_nil] at hpl ⊢
      exact st_end hX hP (Nat.le_refl _) hn hl hp' hq' g1 g3 g4 g2 hD (by omega) hpl (by omega) ⟨rfl, Or.inr ⟨q', c', pi', cm', hk, x_sk_id hp' hq', by rw [hCc]⟩⟩
  refine g_aload_n (nx := 1) hX 0 dX11_sum_0 rfl rfl rfl ?_
  refine g_iconst (nx := 2) hX 0 dX11_sum_1 rfl (by decide) ?_
  refine g_putfield (nx := 5) hX dX11_sum_2 rfl pX11_129 (ga_dn hn rfl) rfl rfl rfl rfl ?_
  refine g_aload_n (nx := 6) hX 0 dX11_sum_5 rfl rfl rfl ?_
  refine g_iconst (nx := 7) hX 0 dX11_sum_6 rfl (by decide) ?_
  refine g_putfield (nx := 10) hX dX11_sum_7 rfl pX11_132 (ga_dn hn rfl) rfl rfl rfl rfl ?_
  refine g_iconst (nx := 11) hX 0 dX11_sum_10 rfl (by decide) ?_
  refine g_istore_n (nx := 12) hX 1 dX11_sum_11 rfl rfl rfl ?_
  refine g_iconst (nx := 13) hX 1 dX11_sum_12 rfl (by decide) ?_
  refine g_istore_n (nx := 14) hX 2 dX11_sum_13 rfl rfl rfl ?_
  exact g_ls hsum ⟨rfl, rfl, rfl, trivial⟩
end
