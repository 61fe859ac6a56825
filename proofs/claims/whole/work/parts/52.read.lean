/-! ===== how far a sum reaches ===== -/
section
variable {tb : Nat → Int32} {lt : Nat} {nm : Nat → Int64} {q q' m p : Nat} {c c' : List (Nat × Nat)}
abbrev z_ln (lt : Nat) (F : Nat → z_R) : Prop := ∀ q q' c', q ≤ lt → F q = .inr (q', c') → q + c'.length ≤ q' ∧ q' ≤ lt
theorem x_tk_n {a : Int32} (h : x_tk tb lt q = a) (ha : ¬ a = -1) : q < lt := x_tk_in (tb := tb) (by rw [h]; exact ha)
theorem ln_div : z_ln lt (R_div tb lt) := by
  intro q q' c' hq h
  unfold R_div at h
  split at h
  · rename_i h48
    have hlt := x_tk_n h48 (by decide)
    have h1 := x_nx_s (tb := tb) hlt
    have h2 := x_nx_le (tb := tb) hq
    split at h
    · cases h
    · split at h
      · cases h
      · cases h; exact ⟨h1, h2.2⟩
  · cases h
theorem ln_br {S : Option (Nat → z_R)} (hS : ∀ S', S = some S' → z_ln lt S') : z_ln lt (R_br tb lt S p) := by
  intro q q' c' hq h
  unfold R_br at h
  split at h
  · rename_i h40
    have hlt := x_tk_n h40 (by decide)
    have hn1 := x_nx_s (tb := tb) hlt
    have hn2 := x_nx_le (tb := tb) hq
    split at h
    · cases h
    · rename_i S'
      split at h
      · cases h
      · rename_i q2 c2 hq2
        have a1 := hS _ rfl _ _ _ hn2.2 hq2
        split at h
        · split at h
          · have := x_nx_le (tb := tb) a1.2
            cases h; omega
          · cases h
        · split at h
          · rename_i h44
            have hlt2 := x_tk_n h44 (by decide)
            have b1 := x_nx_s (tb := tb) hlt2
            have b2 := x_nx_le (tb := tb) a1.2
            split at h
            · cases h
            · rename_i q3 c3 hq3
              have a2 := hS _ rfl _ _ _ b2.2 hq3
              have b3 := x_nx_le (tb := tb) a2.2
              split at h
              · cases h
                simp only [List.length_append, List.length_cons, List.length_nil]
                omega
              · cases h
          · cases h
  · cases h
theorem ln_fa {S : Option (Nat → z_R)} (hS : ∀ S', S = some S' → z_ln lt S') : z_ln lt (R_fa tb lt nm S) := by
  intro q q' c' hq h
  have h2 := x_nx_le (tb := tb) hq
  unfold R_fa at h
  split at h
  · rename_i h48
    have h1 := x_nx_s (tb := tb) (x_tk_n h48 (by decide))
    split at h
    · cases h
    · cases h; exact ⟨h1, h2.2⟩
  · split at h
    · rename_i h97
      have h1 := x_nx_s (tb := tb) (x_tk_n h97.1 (by decide))
      split at h
      · cases h
      · cases h; exact ⟨h1, h2.2⟩
    · have := ln_br hS _ _ _ (by split <;> omega) h
      split at this <;> omega
theorem ln_pl {fac : Nat → z_R} (hF : z_ln lt fac) : ∀ m q c q' c', q ≤ lt → R_pl tb lt fac m q c = .inr (q', c') → q + c'.length ≤ q' + c.length ∧ q' ≤ lt
  | 0, q, c, q', c', hq, h => by rw [R_pl] at h; cases h; omega
  | m + 1, q, c, q', c', hq, h => by
    have h2 := x_nx_le (tb := tb) hq
    rw [R_pl] at h
    split at h
    · rename_i h42
      have h1 := x_nx_s (tb := tb) (x_tk_n h42 (by decide))
      split at h
      · cases h
      · rename_i q1 c1 hq1
        have a1 := hF _ _ _ h2.2 hq1
        have := ln_pl hF m _ _ _ _ a1.2 h
        simp only [List.length_append, List.length_cons, List.length_nil] at this
        omega
    · split at h
      · rename_i h47
        split at h
        · cases h
        · rename_i q1 c1 hq1
          have a1 := ln_div _ _ _ h2.2 hq1
          have := ln_pl hF m _ _ _ _ a1.2 h
          simp only [List.length_append] at this
          omega
      · cases h; omega
theorem ln_pr {fac : Nat → z_R} (hF : z_ln lt fac) : z_ln lt (R_pr tb lt fac) := by
  intro q q' c' hq h
  unfold R_pr at h
  split at h
  · cases h
  · rename_i q1 c1 hq1
    have a1 := hF _ _ _ hq hq1
    have := ln_pl hF _ _ _ _ _ a1.2 h
    omega
theorem ln_sl {pr : Nat → z_R} (hF : z_ln lt pr) : ∀ m q c q' c', q ≤ lt → R_sl tb lt pr m q c = .inr (q', c') → q + c'.length ≤ q' + c.length ∧ q' ≤ lt
  | 0, q, c, q', c', hq, h => by rw [R_sl] at h; cases h; omega
  | m + 1, q, c, q', c', hq, h => by
    have h2 := x_nx_le (tb := tb) hq
    rw [R_sl] at h
    split at h
    · rename_i h42
      have h1 := x_nx_s (tb := tb) (h42.elim (fun z => x_tk_n z (by decide)) (fun z => x_tk_n z (by decide)))
      split at h
      · cases h
      · rename_i q1 c1 hq1
        have a1 := hF _ _ _ h2.2 hq1
        have := ln_sl hF m _ _ _ _ a1.2 h
        simp only [List.length_append, List.length_cons, List.length_nil] at this
        omega
    · cases h; omega
theorem ln_su {fac : Nat → z_R} (hF : z_ln lt fac) : z_ln lt (R_su tb lt fac) := by
  intro q q' c' hq h
  unfold R_su at h
  split at h
  · cases h
  · rename_i q1 c1 hq1
    have a1 := ln_pr hF _ _ _ hq hq1
    have := ln_sl (ln_pr hF) _ _ _ _ _ a1.2 h
    omega
theorem ln_F : ∀ f, z_ln lt (R_F tb lt nm f)
  | 0 => ln_fa (fun _ h => by cases h)
  | f + 1 => ln_fa (fun _ h => by cases h; exact ln_su (ln_F f))
end
/-! ===== factors, products, sums, as the class reads them ===== -/
section
variable {E : ga_E} {X : ga_X} {n : Nat} {c0 c1 c2 c3 c4 c5 c6 c7 c8 c9 c10 c11 c12 c13 c14 c15 c16 c17 c18 c19 c20 c21 c22 c23 c24 c25 c26 c27 c28 c29 c30 m79 m80 m81 m82 m83 m84 m85 m86 m87 m88 m89 m90 m91 m92 m93 m94 m95 m96 m97 m98 m99 m100 m101 m102 m103 m104 m105 : ga_C} {L1 L2 : List ga_C} {f : Nat → ga_C} {o_tp o_rd o_fe o_em o_sp o_ac o_td o_sm o_tt o_at o_sz o_fk o_fp o_nw o_md o_nt o_pl o_op d_at d_tk d_ta d_fd d_fa : Int32} {d_tv : Int64} {d_rl : Value}
variable {z_at z_tk z_ta z_fd z_fa z_sz z_tot z_sm top : Int32} {z_tv : Int64} {nm : Nat → Int64} {tb st_ od eo fo : Nat → Int32} {lt : Nat}
variable {q k pl sz fu d : Nat} {C : List (Nat × Nat)} {ta : Int32} {tv : Int64} {st : Nat → Int32}
theorem x_fac {a : Int32} (hd : 2 ≤ d) (hn : 106 ≤ n) (hk : 1 ≤ k ∧ k ≤ 4) (hs : sz ≤ 600) : ga_Mt E d yX4_readFactor cX4_readFactor 3 none 0 0 [.ref 13, .int a] (n, (c0 :: k_T lt :: ga_i 600 tb :: c3 :: c4 :: c5 :: c6 :: c7 :: c8 :: c9 :: c10 :: c11 :: c12 :: k_D (.ref 21) (nI lt) (-1) (ta) (tv) (nI k) (nI pl) :: ga_l 39 (nm) :: c15 :: c16 :: c17 :: c18 :: c19 :: c20 :: k_U 21 top (nI sz) (z_tot) (z_sm) :: ga_i 600 (st) :: ga_i 600 (od) :: ga_i 24 (eo) :: ga_i 24 (fo) :: L1), L2, f) (fun r M => r = none ∧ (∃ ta tv sz st od, sz ≤ 600 ∧ M = (n, (c0 :: k_T lt :: ga_i 600 tb :: c3 :: c4 :: c5 :: c6 :: c7 :: c8 :: c9 :: c10 :: c11 :: c12 :: k_D (.ref 21) (nI lt) (-1) (ta) (tv) (nI (k)) (nI (pl)) :: ga_l 39 (nm) :: c15 :: c16 :: c17 :: c18 :: c19 :: c20 :: k_U 21 top (nI sz) (z_tot) (z_sm) :: ga_i 600 (st) :: ga_i 600 (od) :: ga_i 24 (eo) :: ga_i 24 (fo) :: L1), L2, f))) := by
  refine ga_Mt.of (by decide) rfl (fun X hX hP => ?_)
  refine g_less [some (.ref 13), some (.int a), none] ⟨rfl, rfl, trivial⟩ ?_
  refine g_aload_n (nx := 1) hX 0 dX4_readFactor_0 rfl rfl rfl ?_
  refine g_V0 (nx := 4) hX dX4_readFactor_1 rfl mX4_156 yX4_pairStep_ok (c_X4_pairStep hn) (ga_dn hn rfl) rfl rfl rfl (by omega) rfl (Nat.le_of_ble_eq_true rfl) (Nat.le_of_ble_eq_true rfl) ?_
  rintro _ _ ⟨rfl, rfl⟩
  rw [show z_ps (-1) tv = -1 from by unfold z_ps; rw [if_neg (fun z => absurd z.1 (by decide)), if_neg (fun z => absurd z.1 (by decide))]]
  refine g_istore_n (nx := 5) hX 2 dX4_readFactor_4 rfl rfl rfl ?_
  refine g_aload_n (nx := 6) hX 0 dX4_readFactor_5 rfl rfl rfl ?_
  refine g_getfield (nx := 9) hX dX4_readFactor_6 rfl fX4_94 (ga_dn hn rfl) rfl rfl ?_
  refine g_bipush (nx := 11) hX 48 dX4_readFactor_9 rfl (by decide) ?_
  refine g_icmp_ne (nx := 14) hX 27 dX4_readFactor_11 (by decide) rfl (fun h11 => ?_) (fun h11 => ?_)
  · refine g_aload_n (nx := 28) hX 0 dX4_readFactor_27 rfl rfl rfl ?_
    refine g_getfield (nx := 31) hX dX4_readFactor_28 rfl fX4_94 (ga_dn hn rfl) rfl rfl ?_
    refine g_bipush (nx := 33) hX 97 dX4_readFactor_31 rfl (by decide) ?_
    refine g_icmp_ne (nx := 36) hX 55 dX4_readFactor_33 (by decide) rfl (fun h33 => ?_) (fun h33 => ?_)
    · refine g_iload_n (nx := 56) hX 2 dX4_readFactor_55 rfl rfl rfl ?_
      refine g_iconst (nx := 57) hX (-1) dX4_readFactor_56 rfl (by decide) ?_
      refine g_icmp_eq (nx := 60) hX 64 dX4_readFactor_57 (by decide) rfl (fun h => ?_) (fun h => absurd h (by decide))
      refine g_aload_n (nx := 65) hX 0 dX4_readFactor_64 rfl rfl rfl ?_
      refine g_getfield (nx := 68) hX dX4_readFactor_65 rfl fX4_94 (ga_dn hn rfl) rfl rfl ?_
      refine g_bipush (nx := 70) hX 40 dX4_readFactor_68 rfl (by decide) ?_
      refine g_icmp_ne (nx := 73) hX 79 dX4_readFactor_70 (by decide) rfl (fun h70 => ?_) (fun h70 => ?_)
      · refine g_aload_n (nx := 80) hX 0 dX4_readFactor_79 rfl rfl rfl ?_
        refine g_iconst (nx := 81) hX 1 dX4_readFactor_80 rfl (by decide) ?_
        refine g_aload_n (nx := 82) hX 0 dX4_readFactor_81 rfl rfl rfl ?_
        refine g_getfield (nx := 85) hX dX4_readFactor_82 rfl fX4_97 (ga_dn hn rfl) rfl rfl ?_
        refine g_V2 (nx := 88) hX dX4_readFactor_85 rfl mX4_100 yX4_fail_ok (x_fail hn hk) (ga_dn hn rfl) rfl rfl rfl (by omega) rfl (Nat.le_of_ble_eq_true rfl) (Nat.le_of_ble_eq_true rfl) ?_
        rintro _ _ ⟨rfl, rfl⟩
        exact g_return hX hP dX4_readFactor_88 (Nat.le_of_ble_eq_true rfl) (Nat.le_of_ble_eq_true rfl) ⟨rfl, _, _, sz, _, _, hs, rfl⟩
      · exact absurd h70 (by decide)
    · exact absurd h33 (by decide)
  · exact absurd h11 (by decide)
theorem x_pro {a : Int32} (hd : 3 ≤ d) (hn : 106 ≤ n) (hk : 1 ≤ k ∧ k ≤ 4) (hs : sz ≤ 600) : ga_Mt E d yX4_readProduct cX4_readProduct 4 none 0 0 [.ref 13, .int a] (n, (c0 :: k_T lt :: ga_i 600 tb :: c3 :: c4 :: c5 :: c6 :: c7 :: c8 :: c9 :: c10 :: c11 :: c12 :: k_D (.ref 21) (nI lt) (-1) (ta) (tv) (nI k) (nI pl) :: ga_l 39 (nm) :: c15 :: c16 :: c17 :: c18 :: c19 :: c20 :: k_U 21 top (nI sz) (z_tot) (z_sm) :: ga_i 600 (st) :: ga_i 600 (od) :: ga_i 24 (eo) :: ga_i 24 (fo) :: L1), L2, f) (fun r M => r = none ∧ (∃ ta tv sz st od, sz ≤ 600 ∧ M = (n, (c0 :: k_T lt :: ga_i 600 tb :: c3 :: c4 :: c5 :: c6 :: c7 :: c8 :: c9 :: c10 :: c11 :: c12 :: k_D (.ref 21) (nI lt) (-1) (ta) (tv) (nI (k)) (nI (pl)) :: ga_l 39 (nm) :: c15 :: c16 :: c17 :: c18 :: c19 :: c20 :: k_U 21 top (nI sz) (z_tot) (z_sm) :: ga_i 600 (st) :: ga_i 600 (od) :: ga_i 24 (eo) :: ga_i 24 (fo) :: L1), L2, f))) := by
  refine ga_Mt.of (by decide) rfl (fun X hX hP => ?_)
  refine g_less [some (.ref 13), some (.int a), none, none] ⟨rfl, rfl, trivial⟩ ?_
  refine g_aload_n (nx := 1) hX 0 dX4_readProduct_0 rfl rfl rfl ?_
  refine g_iload_n (nx := 2) hX 1 dX4_readProduct_1 rfl rfl rfl ?_
  refine g_V1 (nx := 5) hX dX4_readProduct_2 rfl mX4_150 yX4_readFactor_ok (x_fac (d := 2) (by omega) hn hk hs) (ga_dn hn rfl) rfl rfl rfl (by omega) rfl (Nat.le_of_ble_eq_true rfl) (Nat.le_of_ble_eq_true rfl) ?_
  rintro _ _ ⟨rfl, ta', tv', sz', st', od', hs', rfl⟩
  refine g_iconst (nx := 6) hX 0 dX4_readProduct_5 rfl (by decide) ?_
  refine g_istore_n (nx := 7) hX 2 dX4_readProduct_6 rfl rfl rfl ?_
  refine g_iload_n (nx := 8) hX 2 dX4_readProduct_7 rfl rfl rfl ?_
  refine g_sipush (nx := 11) hX 600 dX4_readProduct_8 rfl (by decide) ?_
  refine g_icmp_ge (nx := 14) hX 82 dX4_readProduct_11 (by decide) rfl (fun h11 => ?_) (fun h11 => ?_)
  · exact absurd h11 (by decide)
  · refine g_aload_n (nx := 15) hX 0 dX4_readProduct_14 rfl rfl rfl ?_
    refine g_getfield (nx := 18) hX dX4_readProduct_15 rfl fX4_94 (ga_dn hn rfl) rfl rfl ?_
    refine g_bipush (nx := 20) hX 42 dX4_readProduct_18 rfl (by decide) ?_
    refine g_icmp_eq (nx := 23) hX 32 dX4_readProduct_20 (by decide) rfl (fun h20 => ?_) (fun h20 => ?_)
    · exact absurd h20 (by decide)
    · refine g_aload_n (nx := 24) hX 0 dX4_readProduct_23 rfl rfl rfl ?_
      refine g_getfield (nx := 27) hX dX4_readProduct_24 rfl fX4_94 (ga_dn hn rfl) rfl rfl ?_
      refine g_bipush (nx := 29) hX 47 dX4_readProduct_27 rfl (by decide) ?_
      refine g_icmp_ne (nx := 32) hX 82 dX4_readProduct_29 (by decide) rfl (fun h29 => ?_) (fun h29 => ?_)
      · exact g_return hX hP dX4_readProduct_82 (Nat.le_of_ble_eq_true rfl) (Nat.le_of_ble_eq_true rfl) ⟨rfl, _, _, sz', _, _, hs', rfl⟩
      · exact absurd h29 (by decide)
theorem x_sum {a : Int32} (hd : 4 ≤ d) (hn : 106 ≤ n) (hk : 1 ≤ k ∧ k ≤ 4) (hs : sz ≤ 600) : ga_Mt E d yX4_readSum cX4_readSum 4 none 0 0 [.ref 13, .int a] (n, (c0 :: k_T lt :: ga_i 600 tb :: c3 :: c4 :: c5 :: c6 :: c7 :: c8 :: c9 :: c10 :: c11 :: c12 :: k_D (.ref 21) (nI lt) (-1) (ta) (tv) (nI k) (nI pl) :: ga_l 39 (nm) :: c15 :: c16 :: c17 :: c18 :: c19 :: c20 :: k_U 21 top (nI sz) (z_tot) (z_sm) :: ga_i 600 (st) :: ga_i 600 (od) :: ga_i 24 (eo) :: ga_i 24 (fo) :: L1), L2, f) (fun r M => r = none ∧ (∃ ta tv sz st od, sz ≤ 600 ∧ M = (n, (c0 :: k_T lt :: ga_i 600 tb :: c3 :: c4 :: c5 :: c6 :: c7 :: c8 :: c9 :: c10 :: c11 :: c12 :: k_D (.ref 21) (nI lt) (-1) (ta) (tv) (nI (k)) (nI (pl)) :: ga_l 39 (nm) :: c15 :: c16 :: c17 :: c18 :: c19 :: c20 :: k_U 21 top (nI sz) (z_tot) (z_sm) :: ga_i 600 (st) :: ga_i 600 (od) :: ga_i 24 (eo) :: ga_i 24 (fo) :: L1), L2, f))) := by
  refine ga_Mt.of (by decide) rfl (fun X hX hP => ?_)
  refine g_less [some (.ref 13), some (.int a), none, none] ⟨rfl, rfl, trivial⟩ ?_
  refine g_aload_n (nx := 1) hX 0 dX4_readSum_0 rfl rfl rfl ?_
  refine g_iload_n (nx := 2) hX 1 dX4_readSum_1 rfl rfl rfl ?_
  refine g_V1 (nx := 5) hX dX4_readSum_2 rfl mX4_147 yX4_readProduct_ok (x_pro (d := 3) (by omega) hn hk hs) (ga_dn hn rfl) rfl rfl rfl (by omega) rfl (Nat.le_of_ble_eq_true rfl) (Nat.le_of_ble_eq_true rfl) ?_
  rintro _ _ ⟨rfl, ta', tv', sz', st', od', hs', rfl⟩
  refine g_iconst (nx := 6) hX 0 dX4_readSum_5 rfl (by decide) ?_
  refine g_istore_n (nx := 7) hX 2 dX4_readSum_6 rfl rfl rfl ?_
  refine g_iload_n (nx := 8) hX 2 dX4_readSum_7 rfl rfl rfl ?_
  refine g_sipush (nx := 11) hX 600 dX4_readSum_8 rfl (by decide) ?_
  refine g_icmp_ge (nx := 14) hX 71 dX4_readSum_11 (by decide) rfl (fun h11 => ?_) (fun h11 => ?_)
  · exact absurd h11 (by decide)
  · refine g_aload_n (nx := 15) hX 0 dX4_readSum_14 rfl rfl rfl ?_
    refine g_getfield (nx := 18) hX dX4_readSum_15 rfl fX4_94 (ga_dn hn rfl) rfl rfl ?_
    refine g_bipush (nx := 20) hX 43 dX4_readSum_18 rfl (by decide) ?_
    refine g_icmp_eq (nx := 23) hX 32 dX4_readSum_20 (by decide) rfl (fun h20 => ?_) (fun h20 => ?_)
    · exact absurd h20 (by decide)
    · refine g_aload_n (nx := 24) hX 0 dX4_readSum_23 rfl rfl rfl ?_
      refine g_getfield (nx := 27) hX dX4_readSum_24 rfl fX4_94 (ga_dn hn rfl) rfl rfl ?_
      refine g_bipush (nx := 29) hX 45 dX4_readSum_27 rfl (by decide) ?_
      refine g_icmp_ne (nx := 32) hX 71 dX4_readSum_29 (by decide) rfl (fun h29 => ?_) (fun h29 => ?_)
      · exact g_return hX hP dX4_readSum_71 (Nat.le_of_ble_eq_true rfl) (Nat.le_of_ble_eq_true rfl) ⟨rfl, _, _, sz', _, _, hs', rfl⟩
      · exact absurd h29 (by decide)
end
