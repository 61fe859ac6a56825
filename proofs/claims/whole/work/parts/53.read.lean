/-! ===== factors, products, sums, as the class reads them: the text is good so far ===== -/
section
variable {E : ga_E} {X : ga_X} {n : Nat} {c0 c1 c2 c3 c4 c5 c6 c7 c8 c9 c10 c11 c12 c13 c14 c15 c16 c17 c18 c19 c20 c21 c22 c23 c24 c25 c26 c27 c28 c29 c30 m79 m80 m81 m82 m83 m84 m85 m86 m87 m88 m89 m90 m91 m92 m93 m94 m95 m96 m97 m98 m99 m100 m101 m102 m103 m104 m105 : ga_C} {L1 L2 : List ga_C} {f : Nat → ga_C} {o_tp o_rd o_fe o_em o_sp o_ac o_td o_sm o_tt o_at o_sz o_fk o_fp o_nw o_md o_nt o_pl o_op d_at d_tk d_ta d_fd d_fa : Int32} {d_tv : Int64} {d_rl : Value}
variable {z_at z_tk z_ta z_fd z_fa z_sz z_tot z_sm top : Int32} {z_tv : Int64} {nm : Nat → Int64} {tb st_ od eo fo : Nat → Int32} {lt : Nat}
variable {q fu : Nat} {C : List (Nat × Nat)}
theorem p_fd_or {P : Nat → Bool} {rn : Nat} (h0 : 0 < rn) : ∀ m, p_fd P rn m = -1 ∨ ∃ j, j < rn ∧ P j = true ∧ p_fd P rn m = nI j
  | 0 => Or.inl rfl
  | m + 1 => by
    rw [p_fd]
    by_cases h : P (rn - (m + 1)) = true
    · rw [if_pos h]; exact Or.inr ⟨_, by omega, h, rfl⟩
    · rw [if_neg h]; exact p_fd_or h0 m
theorem x_slot_nI {v : Int64} (h : ¬ x_slot nm v = -1) : x_slot nm v = nI (x_slot nm v).toNatClampNeg := by
  unfold x_slot at h ⊢
  rcases p_fd_or (P := fun j => decide (nm j = v)) (rn := 39) (by omega) 39 with e | ⟨j, hj, _, e⟩
  · exact absurd e h
  · rw [e, nI_clamp (by omega)]
theorem x_pair_n (h : ¬ x_tk tb lt q = 97) : x_pair tb lt q = 0 := by
  unfold x_pair; rw [if_neg (fun z => h z.1), if_neg (fun z => h z.1)]
theorem x_pair_67 (h : ¬ x_pair tb lt q = 0) : x_pair tb lt q = 6 ∨ x_pair tb lt q = 7 := by
  rcases x_pair_3 (tb := tb) (lt := lt) (q := q) with ⟨a, _⟩ | ⟨a, _⟩ | ⟨a, _⟩
  · exact Or.inl a
  · exact Or.inr a
  · exact absurd a h
theorem x_nE_1 (h : x_nE tb lt nm 1 q = none) : ¬ x_kept (x_tv tb lt q) ∧ ¬ 10 < x_te tb lt q - q ∧ ¬ x_slot nm (x_tv tb lt q) = -1 := by
  unfold x_nE at h
  split at h
  · cases h
  · rename_i h1
    split at h
    · cases h
    · rename_i h2
      split at h
      · rw [if_neg (by decide)] at h; cases h
      · rename_i h3; exact ⟨h1, h2, h3⟩
theorem x_nE_0 (h : x_nE tb lt nm 0 q = none) : ¬ x_kept (x_tv tb lt q) ∧ ¬ 10 < x_te tb lt q - q ∧ x_slot nm (x_tv tb lt q) = -1 := by
  unfold x_nE at h
  split at h
  · cases h
  · rename_i h1
    split at h
    · cases h
    · rename_i h2
      split at h
      · rename_i h3; exact ⟨h1, h2, h3⟩
      · rw [if_neg (by decide)] at h; cases h
theorem z_ps_p : z_ps (x_tk tb lt q) (x_tv tb lt q) = if x_pair tb lt q = 0 then -1 else nI (x_pair tb lt q) := by
  unfold z_ps
  rcases x_pair_3 (tb := tb) (lt := lt) (q := q) with ⟨a, b, c⟩ | ⟨a, b, c⟩ | ⟨a, b, c⟩
  · rw [a, if_pos ⟨b, c⟩]; rfl
  · rw [a, if_neg (fun z => by rw [c] at z; exact absurd z.2 (by decide)), if_pos ⟨b, c⟩]; rfl
  · rw [a, if_neg b, if_neg c]; rfl
theorem w_fac {S : Option (Nat → z_R)} (hf : fu ≤ 6) (hn : 106 ≤ n) (hl : lt ≤ 600) (hb : ∀ i, i < lt → 0 ≤ tb i) (hq : q ≤ lt) (hC : C.length ≤ q)
    (hS : (S = none ∧ fu = 0) ∨ ∃ S', S = some S' ∧ 1 ≤ fu ∧ z_ln lt S' ∧ ∀ q C, q ≤ lt → C.length ≤ q → ga_Mt E (1 + 3 * fu) yX4_readSum cX4_readSum 4 none 0 0 [.ref 13, .int (nI (7 - fu))] (n, (c0 :: k_T lt :: ga_i 600 tb :: c3 :: c4 :: c5 :: c6 :: c7 :: c8 :: c9 :: c10 :: c11 :: c12 :: k_D (.ref 21) (nI (x_te tb lt (q))) (x_tk tb lt (q)) (nI (q)) (x_tv tb lt (q)) (0) (-1) :: ga_l 39 (nm) :: c15 :: c16 :: c17 :: c18 :: c19 :: c20 :: k_U 21 top (nI (C).length) (z_tot) (z_sm) :: ga_i 600 (z_st (C) st_) :: ga_i 600 (z_od (C) od) :: ga_i 24 (eo) :: ga_i 24 (fo) :: L1), L2, f) (fun r M => r = none ∧ ((∃ k pl, S' q = .inl (k, pl) ∧ (1 ≤ k ∧ k ≤ 4) ∧ (∃ ta tv sz st od, sz ≤ 600 ∧ M = (n, (c0 :: k_T lt :: ga_i 600 tb :: c3 :: c4 :: c5 :: c6 :: c7 :: c8 :: c9 :: c10 :: c11 :: c12 :: k_D (.ref 21) (nI lt) (-1) (ta) (tv) (nI (k)) (nI (pl)) :: ga_l 39 (nm) :: c15 :: c16 :: c17 :: c18 :: c19 :: c20 :: k_U 21 top (nI sz) (z_tot) (z_sm) :: ga_i 600 (st) :: ga_i 600 (od) :: ga_i 24 (eo) :: ga_i 24 (fo) :: L1), L2, f))) ∨ ∃ q' c', S' q = .inr (q', c') ∧ M = (n, (c0 :: k_T lt :: ga_i 600 tb :: c3 :: c4 :: c5 :: c6 :: c7 :: c8 :: c9 :: c10 :: c11 :: c12 :: k_D (.ref 21) (nI (x_te tb lt (q'))) (x_tk tb lt (q')) (nI (q')) (x_tv tb lt (q')) (0) (-1) :: ga_l 39 (nm) :: c15 :: c16 :: c17 :: c18 :: c19 :: c20 :: k_U 21 top (nI (C ++ c').length) (z_tot) (z_sm) :: ga_i 600 (z_st (C ++ c') st_) :: ga_i 600 (z_od (C ++ c') od) :: ga_i 24 (eo) :: ga_i 24 (fo) :: L1), L2, f)))) :
    ga_Mt E (2 + 3 * fu) yX4_readFactor cX4_readFactor 3 none 0 0 [.ref 13, .int (nI (6 - fu))] (n, (c0 :: k_T lt :: ga_i 600 tb :: c3 :: c4 :: c5 :: c6 :: c7 :: c8 :: c9 :: c10 :: c11 :: c12 :: k_D (.ref 21) (nI (x_te tb lt (q))) (x_tk tb lt (q)) (nI (q)) (x_tv tb lt (q)) (0) (-1) :: ga_l 39 (nm) :: c15 :: c16 :: c17 :: c18 :: c19 :: c20 :: k_U 21 top (nI (C).length) (z_tot) (z_sm) :: ga_i 600 (z_st (C) st_) :: ga_i 600 (z_od (C) od) :: ga_i 24 (eo) :: ga_i 24 (fo) :: L1), L2, f) (fun r M => r = none ∧ ((∃ k pl, R_fa tb lt nm S q = .inl (k, pl) ∧ (1 ≤ k ∧ k ≤ 4) ∧ (∃ ta tv sz st od, sz ≤ 600 ∧ M = (n, (c0 :: k_T lt :: ga_i 600 tb :: c3 :: c4 :: c5 :: c6 :: c7 :: c8 :: c9 :: c10 :: c11 :: c12 :: k_D (.ref 21) (nI lt) (-1) (ta) (tv) (nI (k)) (nI (pl)) :: ga_l 39 (nm) :: c15 :: c16 :: c17 :: c18 :: c19 :: c20 :: k_U 21 top (nI sz) (z_tot) (z_sm) :: ga_i 600 (st) :: ga_i 600 (od) :: ga_i 24 (eo) :: ga_i 24 (fo) :: L1), L2, f))) ∨ ∃ q' c', R_fa tb lt nm S q = .inr (q', c') ∧ M = (n, (c0 :: k_T lt :: ga_i 600 tb :: c3 :: c4 :: c5 :: c6 :: c7 :: c8 :: c9 :: c10 :: c11 :: c12 :: k_D (.ref 21) (nI (x_te tb lt (q'))) (x_tk tb lt (q')) (nI (q')) (x_tv tb lt (q')) (0) (-1) :: ga_l 39 (nm) :: c15 :: c16 :: c17 :: c18 :: c19 :: c20 :: k_U 21 top (nI (C ++ c').length) (z_tot) (z_sm) :: ga_i 600 (z_st (C ++ c') st_) :: ga_i 600 (z_od (C ++ c') od) :: ga_i 24 (eo) :: ga_i 24 (fo) :: L1), L2, f))) := by
  refine ga_Mt.of (by decide) rfl (fun X hX hP => ?_)
  refine g_less [some (.ref 13), some (.int (nI (6 - fu))), none] ⟨rfl, rfl, trivial⟩ ?_
  have e7 : nI (6 - fu) + 1 = nI (7 - fu) := by rw [nI_1, show 6 - fu + 1 = 7 - fu by omega]
  have br0 : ∀ q1, q1 ≤ lt → C.length ≤ q1 → R_fa tb lt nm S q = R_br tb lt S 0 q1 → ga_G E X 0 0 64 [some (.ref 13), some (.int (nI (6 - fu))), some (.int (-1))] [] (n, (c0 :: k_T lt :: ga_i 600 tb :: c3 :: c4 :: c5 :: c6 :: c7 :: c8 :: c9 :: c10 :: c11 :: c12 :: k_D (.ref 21) (nI (x_te tb lt (q1))) (x_tk tb lt (q1)) (nI (q1)) (x_tv tb lt (q1)) (0) (-1) :: ga_l 39 (nm) :: c15 :: c16 :: c17 :: c18 :: c19 :: c20 :: k_U 21 top (nI (C).length) (z_tot) (z_sm) :: ga_i 600 (z_st (C) st_) :: ga_i 600 (z_od (C) od) :: ga_i 24 (eo) :: ga_i 24 (fo) :: L1), L2, f) := by
    intro q1 hq1 hC1 hR
    rcases hS with ⟨rfl, hf0⟩ | ⟨S', rfl, hf1, hln, hS⟩
    · -- no more may be open
      refine g_aload_n (nx := 65) hX 0 dX4_readFactor_64 rfl rfl rfl ?_
      refine g_getfield (nx := 68) hX dX4_readFactor_65 rfl fX4_94 (ga_dn hn rfl) rfl rfl ?_
      refine g_bipush (nx := 70) hX 40 dX4_readFactor_68 rfl (by decide) ?_
      refine g_icmp_ne (nx := 73) hX 79 dX4_readFactor_70 (by decide) rfl (fun h70 => ?_) (fun h70 => ?_)
      · refine g_aload_n (nx := 80) hX 0 dX4_readFactor_79 rfl rfl rfl ?_
        refine g_iconst (nx := 81) hX 1 dX4_readFactor_80 rfl (by decide) ?_
        refine g_aload_n (nx := 82) hX 0 dX4_readFactor_81 rfl rfl rfl ?_
        refine g_getfield (nx := 85) hX dX4_readFactor_82 rfl fX4_97 (ga_dn hn rfl) rfl rfl ?_
        refine g_V2 (nx := 88) hX dX4_readFactor_85 rfl mX4_100 yX4_fail_ok (w_fail (k := 1) hn) (ga_dn hn rfl) rfl rfl rfl (by omega) rfl (Nat.le_of_ble_eq_true rfl) (Nat.le_of_ble_eq_true rfl) ?_
        rintro _ _ ⟨rfl, rfl⟩
        exact g_return hX hP dX4_readFactor_88 (Nat.le_of_ble_eq_true rfl) (Nat.le_of_ble_eq_true rfl) ⟨rfl, Or.inl ⟨1, q1, by rw [hR]; unfold R_br; rw [if_neg h70], by omega, _, _, C.length, _, _, (by omega), rfl⟩⟩
      · refine g_iload_n (nx := 74) hX 1 dX4_readFactor_73 rfl rfl rfl ?_
        refine g_bipush (nx := 76) hX 6 dX4_readFactor_74 rfl (by decide) ?_
        refine g_icmp_lt (nx := 79) hX 89 dX4_readFactor_76 (by decide) rfl (fun h76 => ?_) (fun h76 => ?_)
        · exact absurd ((nI_ltI (b := 6) (by omega) (by omega)).mp h76) (by omega)
        · refine g_aload_n (nx := 80) hX 0 dX4_readFactor_79 rfl rfl rfl ?_
          refine g_iconst (nx := 81) hX 1 dX4_readFactor_80 rfl (by decide) ?_
          refine g_aload_n (nx := 82) hX 0 dX4_readFactor_81 rfl rfl rfl ?_
          refine g_getfield (nx := 85) hX dX4_readFactor_82 rfl fX4_97 (ga_dn hn rfl) rfl rfl ?_
          refine g_V2 (nx := 88) hX dX4_readFactor_85 rfl mX4_100 yX4_fail_ok (w_fail (k := 1) hn) (ga_dn hn rfl) rfl rfl rfl (by omega) rfl (Nat.le_of_ble_eq_true rfl) (Nat.le_of_ble_eq_true rfl) ?_
          rintro _ _ ⟨rfl, rfl⟩
          exact g_return hX hP dX4_readFactor_88 (Nat.le_of_ble_eq_true rfl) (Nat.le_of_ble_eq_true rfl) ⟨rfl, Or.inl ⟨1, q1, by rw [hR]; unfold R_br; rw [if_pos h70], by omega, _, _, C.length, _, _, (by omega), rfl⟩⟩
    · -- one more
      have hnx := x_nx_le (tb := tb) hq1
      refine g_aload_n (nx := 65) hX 0 dX4_readFactor_64 rfl rfl rfl ?_
      refine g_getfield (nx := 68) hX dX4_readFactor_65 rfl fX4_94 (ga_dn hn rfl) rfl rfl ?_
      refine g_bipush (nx := 70) hX 40 dX4_readFactor_68 rfl (by decide) ?_
      refine g_icmp_ne (nx := 73) hX 79 dX4_readFactor_70 (by decide) rfl (fun h70 => ?_) (fun h70 => ?_)
      · refine g_aload_n (nx := 80) hX 0 dX4_readFactor_79 rfl rfl rfl ?_
        refine g_iconst (nx := 81) hX 1 dX4_readFactor_80 rfl (by decide) ?_
        refine g_aload_n (nx := 82) hX 0 dX4_readFactor_81 rfl rfl rfl ?_
        refine g_getfield (nx := 85) hX dX4_readFactor_82 rfl fX4_97 (ga_dn hn rfl) rfl rfl ?_
        refine g_V2 (nx := 88) hX dX4_readFactor_85 rfl mX4_100 yX4_fail_ok (w_fail (k := 1) hn) (ga_dn hn rfl) rfl rfl rfl (by omega) rfl (Nat.le_of_ble_eq_true rfl) (Nat.le_of_ble_eq_true rfl) ?_
        rintro _ _ ⟨rfl, rfl⟩
        exact g_return hX hP dX4_readFactor_88 (Nat.le_of_ble_eq_true rfl) (Nat.le_of_ble_eq_true rfl) ⟨rfl, Or.inl ⟨1, q1, by rw [hR]; unfold R_br; rw [if_neg h70], by omega, _, _, C.length, _, _, (by omega), rfl⟩⟩
      · refine g_iload_n (nx := 74) hX 1 dX4_readFactor_73 rfl rfl rfl ?_
        refine g_bipush (nx := 76) hX 6 dX4_readFactor_74 rfl (by decide) ?_
        refine g_icmp_lt (nx := 79) hX 89 dX4_readFactor_76 (by decide) rfl (fun h76 => ?_) (fun h76 => ?_)
        · refine g_aload_n (nx := 90) hX 0 dX4_readFactor_89 rfl rfl rfl ?_
          refine g_V0 (nx := 93) hX dX4_readFactor_90 rfl mX4_91 yX4_advance_ok (w_adv hn hl hq1 hb) (ga_dn hn rfl) rfl rfl rfl (by omega) rfl (Nat.le_of_ble_eq_true rfl) (Nat.le_of_ble_eq_true rfl) ?_
          rintro _ _ ⟨rfl, rfl⟩
          refine g_aload_n (nx := 94) hX 0 dX4_readFactor_93 rfl rfl rfl ?_
          refine g_iload_n (nx := 95) hX 1 dX4_readFactor_94 rfl rfl rfl ?_
          refine g_iconst (nx := 96) hX 1 dX4_readFactor_95 rfl (by decide) ?_
          refine g_iadd (nx := 97) hX dX4_readFactor_96 rfl ?_
          rw [e7]
          refine g_V1 (nx := 100) hX dX4_readFactor_97 rfl mX4_128 yX4_readSum_ok (hS _ C hnx.2 (by omega)) (ga_dn hn rfl) rfl rfl rfl (by omega) rfl (Nat.le_of_ble_eq_true rfl) (Nat.le_of_ble_eq_true rfl) ?_
          rintro _ _ ⟨rfl, (⟨k, pl, hE, hk, ta, tv, sz, st, od', hs, rfl⟩ | ⟨q2, c2, hE, rfl⟩)⟩
          · refine g_iload_n (nx := 101) hX 2 dX4_readFactor_100 rfl rfl rfl ?_
            refine g_iconst (nx := 102) hX (-1) dX4_readFactor_101 rfl (by decide) ?_
            refine g_icmp_eq (nx := 105) hX 127 dX4_readFactor_102 (by decide) rfl (fun h => ?_) (fun h => absurd h (by decide))
            refine g_aload_n (nx := 128) hX 0 dX4_readFactor_127 rfl rfl rfl ?_
            refine g_bipush (nx := 130) hX 41 dX4_readFactor_128 rfl (by decide) ?_
            refine g_V1 (nx := 133) hX dX4_readFactor_130 rfl mX4_117 yX4_expect_ok (x_exp hn hl hk hb) (ga_dn hn rfl) rfl rfl rfl (by omega) rfl (Nat.le_of_ble_eq_true rfl) (Nat.le_of_ble_eq_true rfl) ?_
            rintro _ _ ⟨rfl, rfl⟩
            exact g_return hX hP dX4_readFactor_133 (Nat.le_of_ble_eq_true rfl) (Nat.le_of_ble_eq_true rfl) ⟨rfl, Or.inl ⟨k, pl, by rw [hR]; unfold R_br; rw [if_pos h70]; dsimp only; rw [hE], hk, _, _, sz, _, _, hs, rfl⟩⟩
          · have hL := hln _ _ _ hnx.2 hE
            refine g_iload_n (nx := 101) hX 2 dX4_readFactor_100 rfl rfl rfl ?_
            refine g_iconst (nx := 102) hX (-1) dX4_readFactor_101 rfl (by decide) ?_
            refine g_icmp_eq (nx := 105) hX 127 dX4_readFactor_102 (by decide) rfl (fun h => ?_) (fun h => absurd h (by decide))
            refine g_aload_n (nx := 128) hX 0 dX4_readFactor_127 rfl rfl rfl ?_
            refine g_bipush (nx := 130) hX 41 dX4_readFactor_128 rfl (by decide) ?_
            refine g_V1 (nx := 133) hX dX4_readFactor_130 rfl mX4_117 yX4_expect_ok (w_exp hn hl hL.2 (by rw [List.length_append]; omega) hb) (ga_dn hn rfl) rfl rfl rfl (by omega) rfl (Nat.le_of_ble_eq_true rfl) (Nat.le_of_ble_eq_true rfl) ?_
            rintro _ _ ⟨rfl, (⟨h41, ta, tv, sz, st, od', hs, rfl⟩ | ⟨h41, rfl⟩)⟩
            · exact g_return hX hP dX4_readFactor_133 (Nat.le_of_ble_eq_true rfl) (Nat.le_of_ble_eq_true rfl) ⟨rfl, Or.inl ⟨1, q2, by rw [hR]; unfold R_br; rw [if_pos h70]; dsimp only; rw [hE]; dsimp only; rw [if_pos rfl, if_neg h41], by omega, _, _, sz, _, _, hs, rfl⟩⟩
            · exact g_return hX hP dX4_readFactor_133 (Nat.le_of_ble_eq_true rfl) (Nat.le_of_ble_eq_true rfl) ⟨rfl, Or.inr ⟨_, _, by rw [hR]; unfold R_br; rw [if_pos h70]; dsimp only; rw [hE]; dsimp only; rw [if_pos rfl, if_pos h41], rfl⟩⟩
        · exact absurd (nI_lt (b := 6) (by omega) (by omega)) h76
  have br1 : ∀ p q1, p = 6 ∨ p = 7 → q1 ≤ lt → C.length ≤ q1 → R_fa tb lt nm S q = R_br tb lt S p q1 → ga_G E X 0 0 64 [some (.ref 13), some (.int (nI (6 - fu))), some (.int (nI p))] [] (n, (c0 :: k_T lt :: ga_i 600 tb :: c3 :: c4 :: c5 :: c6 :: c7 :: c8 :: c9 :: c10 :: c11 :: c12 :: k_D (.ref 21) (nI (x_te tb lt (q1))) (x_tk tb lt (q1)) (nI (q1)) (x_tv tb lt (q1)) (0) (-1) :: ga_l 39 (nm) :: c15 :: c16 :: c17 :: c18 :: c19 :: c20 :: k_U 21 top (nI (C).length) (z_tot) (z_sm) :: ga_i 600 (z_st (C) st_) :: ga_i 600 (z_od (C) od) :: ga_i 24 (eo) :: ga_i 24 (fo) :: L1), L2, f) := by
    intro p q1 hp hq1 hC1 hR
    have hp0 : ¬ p = 0 := by omega
    have hne : ¬ nI p = -1 := nI_neg1 (by omega)
    rcases hS with ⟨rfl, hf0⟩ | ⟨S', rfl, hf1, hln, hS⟩
    · -- no more may be open
      refine g_aload_n (nx := 65) hX 0 dX4_readFactor_64 rfl rfl rfl ?_
      refine g_getfield (nx := 68) hX dX4_readFactor_65 rfl fX4_94 (ga_dn hn rfl) rfl rfl ?_
      refine g_bipush (nx := 70) hX 40 dX4_readFactor_68 rfl (by decide) ?_
      refine g_icmp_ne (nx := 73) hX 79 dX4_readFactor_70 (by decide) rfl (fun h70 => ?_) (fun h70 => ?_)
      · refine g_aload_n (nx := 80) hX 0 dX4_readFactor_79 rfl rfl rfl ?_
        refine g_iconst (nx := 81) hX 1 dX4_readFactor_80 rfl (by decide) ?_
        refine g_aload_n (nx := 82) hX 0 dX4_readFactor_81 rfl rfl rfl ?_
        refine g_getfield (nx := 85) hX dX4_readFactor_82 rfl fX4_97 (ga_dn hn rfl) rfl rfl ?_
        refine g_V2 (nx := 88) hX dX4_readFactor_85 rfl mX4_100 yX4_fail_ok (w_fail (k := 1) hn) (ga_dn hn rfl) rfl rfl rfl (by omega) rfl (Nat.le_of_ble_eq_true rfl) (Nat.le_of_ble_eq_true rfl) ?_
        rintro _ _ ⟨rfl, rfl⟩
        exact g_return hX hP dX4_readFactor_88 (Nat.le_of_ble_eq_true rfl) (Nat.le_of_ble_eq_true rfl) ⟨rfl, Or.inl ⟨1, q1, by rw [hR]; unfold R_br; rw [if_neg h70], by omega, _, _, C.length, _, _, (by omega), rfl⟩⟩
      · refine g_iload_n (nx := 74) hX 1 dX4_readFactor_73 rfl rfl rfl ?_
        refine g_bipush (nx := 76) hX 6 dX4_readFactor_74 rfl (by decide) ?_
        refine g_icmp_lt (nx := 79) hX 89 dX4_readFactor_76 (by decide) rfl (fun h76 => ?_) (fun h76 => ?_)
        · exact absurd ((nI_ltI (b := 6) (by omega) (by omega)).mp h76) (by omega)
        · refine g_aload_n (nx := 80) hX 0 dX4_readFactor_79 rfl rfl rfl ?_
          refine g_iconst (nx := 81) hX 1 dX4_readFactor_80 rfl (by decide) ?_
          refine g_aload_n (nx := 82) hX 0 dX4_readFactor_81 rfl rfl rfl ?_
          refine g_getfield (nx := 85) hX dX4_readFactor_82 rfl fX4_97 (ga_dn hn rfl) rfl rfl ?_
          refine g_V2 (nx := 88) hX dX4_readFactor_85 rfl mX4_100 yX4_fail_ok (w_fail (k := 1) hn) (ga_dn hn rfl) rfl rfl rfl (by omega) rfl (Nat.le_of_ble_eq_true rfl) (Nat.le_of_ble_eq_true rfl) ?_
          rintro _ _ ⟨rfl, rfl⟩
          exact g_return hX hP dX4_readFactor_88 (Nat.le_of_ble_eq_true rfl) (Nat.le_of_ble_eq_true rfl) ⟨rfl, Or.inl ⟨1, q1, by rw [hR]; unfold R_br; rw [if_pos h70], by omega, _, _, C.length, _, _, (by omega), rfl⟩⟩
    · -- one more
      have hnx := x_nx_le (tb := tb) hq1
      refine g_aload_n (nx := 65) hX 0 dX4_readFactor_64 rfl rfl rfl ?_
      refine g_getfield (nx := 68) hX dX4_readFactor_65 rfl fX4_94 (ga_dn hn rfl) rfl rfl ?_
      refine g_bipush (nx := 70) hX 40 dX4_readFactor_68 rfl (by decide) ?_
      refine g_icmp_ne (nx := 73) hX 79 dX4_readFactor_70 (by decide) rfl (fun h70 => ?_) (fun h70 => ?_)
      · refine g_aload_n (nx := 80) hX 0 dX4_readFactor_79 rfl rfl rfl ?_
        refine g_iconst (nx := 81) hX 1 dX4_readFactor_80 rfl (by decide) ?_
        refine g_aload_n (nx := 82) hX 0 dX4_readFactor_81 rfl rfl rfl ?_
        refine g_getfield (nx := 85) hX dX4_readFactor_82 rfl fX4_97 (ga_dn hn rfl) rfl rfl ?_
        refine g_V2 (nx := 88) hX dX4_readFactor_85 rfl mX4_100 yX4_fail_ok (w_fail (k := 1) hn) (ga_dn hn rfl) rfl rfl rfl (by omega) rfl (Nat.le_of_ble_eq_true rfl) (Nat.le_of_ble_eq_true rfl) ?_
        rintro _ _ ⟨rfl, rfl⟩
        exact g_return hX hP dX4_readFactor_88 (Nat.le_of_ble_eq_true rfl) (Nat.le_of_ble_eq_true rfl) ⟨rfl, Or.inl ⟨1, q1, by rw [hR]; unfold R_br; rw [if_neg h70], by omega, _, _, C.length, _, _, (by omega), rfl⟩⟩
      · have hlt1 := x_tk_n h70 (by decide)
        have hnx1 := x_nx_s (tb := tb) hlt1
        refine g_iload_n (nx := 74) hX 1 dX4_readFactor_73 rfl rfl rfl ?_
        refine g_bipush (nx := 76) hX 6 dX4_readFactor_74 rfl (by decide) ?_
        refine g_icmp_lt (nx := 79) hX 89 dX4_readFactor_76 (by decide) rfl (fun h76 => ?_) (fun h76 => ?_)
        · refine g_aload_n (nx := 90) hX 0 dX4_readFactor_89 rfl rfl rfl ?_
          refine g_V0 (nx := 93) hX dX4_readFactor_90 rfl mX4_91 yX4_advance_ok (w_adv hn hl hq1 hb) (ga_dn hn rfl) rfl rfl rfl (by omega) rfl (Nat.le_of_ble_eq_true rfl) (Nat.le_of_ble_eq_true rfl) ?_
          rintro _ _ ⟨rfl, rfl⟩
          refine g_aload_n (nx := 94) hX 0 dX4_readFactor_93 rfl rfl rfl ?_
          refine g_iload_n (nx := 95) hX 1 dX4_readFactor_94 rfl rfl rfl ?_
          refine g_iconst (nx := 96) hX 1 dX4_readFactor_95 rfl (by decide) ?_
          refine g_iadd (nx := 97) hX dX4_readFactor_96 rfl ?_
          rw [e7]
          refine g_V1 (nx := 100) hX dX4_readFactor_97 rfl mX4_128 yX4_readSum_ok (hS _ C hnx.2 (by omega)) (ga_dn hn rfl) rfl rfl rfl (by omega) rfl (Nat.le_of_ble_eq_true rfl) (Nat.le_of_ble_eq_true rfl) ?_
          rintro _ _ ⟨rfl, (⟨k, pl, hE, hk, ta, tv, sz, st, od', hs, rfl⟩ | ⟨q2, c2, hE, rfl⟩)⟩
          · refine g_iload_n (nx := 101) hX 2 dX4_readFactor_100 rfl rfl rfl ?_
            refine g_iconst (nx := 102) hX (-1) dX4_readFactor_101 rfl (by decide) ?_
            refine g_icmp_eq (nx := 105) hX 127 dX4_readFactor_102 (by decide) rfl (fun h102 => ?_) (fun h102 => ?_)
            · exact absurd h102 hne
            · refine g_aload_n (nx := 106) hX 0 dX4_readFactor_105 rfl rfl rfl ?_
              refine g_bipush (nx := 108) hX 44 dX4_readFactor_106 rfl (by decide) ?_
              refine g_V1 (nx := 111) hX dX4_readFactor_108 rfl mX4_117 yX4_expect_ok (x_exp hn hl hk hb) (ga_dn hn rfl) rfl rfl rfl (by omega) rfl (Nat.le_of_ble_eq_true rfl) (Nat.le_of_ble_eq_true rfl) ?_
              rintro _ _ ⟨rfl, rfl⟩
              refine g_aload_n (nx := 112) hX 0 dX4_readFactor_111 rfl rfl rfl ?_
              refine g_iload_n (nx := 113) hX 1 dX4_readFactor_112 rfl rfl rfl ?_
              refine g_iconst (nx := 114) hX 1 dX4_readFactor_113 rfl (by decide) ?_
              refine g_iadd (nx := 115) hX dX4_readFactor_114 rfl ?_
              rw [e7]
              refine g_V1 (nx := 118) hX dX4_readFactor_115 rfl mX4_128 yX4_readSum_ok (x_sum (d := 4) (by omega) hn hk hs) (ga_dn hn rfl) rfl rfl rfl (by omega) rfl (Nat.le_of_ble_eq_true rfl) (Nat.le_of_ble_eq_true rfl) ?_
              rintro _ _ ⟨rfl, ta, tv, sz, st, od', hs, rfl⟩
              refine g_aload_n (nx := 119) hX 0 dX4_readFactor_118 rfl rfl rfl ?_
              refine g_getfield (nx := 122) hX dX4_readFactor_119 rfl fX4_76 (ga_dn hn rfl) rfl rfl ?_
              refine g_iload_n (nx := 123) hX 2 dX4_readFactor_122 rfl rfl rfl ?_
              refine g_iconst (nx := 124) hX 0 dX4_readFactor_123 rfl (by decide) ?_
              refine g_V2 (nx := 127) hX dX4_readFactor_124 rfl mX4_137 yX6_addStep_ok (x_add hn hs) (ga_dn hn rfl) rfl rfl rfl (by omega) rfl (Nat.le_of_ble_eq_true rfl) (Nat.le_of_ble_eq_true rfl) ?_
              rintro _ _ ⟨rfl, sz, st, od', hs, rfl⟩
              refine g_aload_n (nx := 128) hX 0 dX4_readFactor_127 rfl rfl rfl ?_
              refine g_bipush (nx := 130) hX 41 dX4_readFactor_128 rfl (by decide) ?_
              refine g_V1 (nx := 133) hX dX4_readFactor_130 rfl mX4_117 yX4_expect_ok (x_exp hn hl hk hb) (ga_dn hn rfl) rfl rfl rfl (by omega) rfl (Nat.le_of_ble_eq_true rfl) (Nat.le_of_ble_eq_true rfl) ?_
              rintro _ _ ⟨rfl, rfl⟩
              exact g_return hX hP dX4_readFactor_133 (Nat.le_of_ble_eq_true rfl) (Nat.le_of_ble_eq_true rfl) ⟨rfl, Or.inl ⟨k, pl, by rw [hR]; unfold R_br; rw [if_pos h70]; dsimp only; rw [hE], hk, _, _, sz, _, _, hs, rfl⟩⟩
          · have hL := hln _ _ _ hnx.2 hE
            refine g_iload_n (nx := 101) hX 2 dX4_readFactor_100 rfl rfl rfl ?_
            refine g_iconst (nx := 102) hX (-1) dX4_readFactor_101 rfl (by decide) ?_
            refine g_icmp_eq (nx := 105) hX 127 dX4_readFactor_102 (by decide) rfl (fun h102 => ?_) (fun h102 => ?_)
            · exact absurd h102 hne
            · refine g_aload_n (nx := 106) hX 0 dX4_readFactor_105 rfl rfl rfl ?_
              refine g_bipush (nx := 108) hX 44 dX4_readFactor_106 rfl (by decide) ?_
              refine g_V1 (nx := 111) hX dX4_readFactor_108 rfl mX4_117 yX4_expect_ok (w_exp hn hl hL.2 (by rw [List.length_append]; omega) hb) (ga_dn hn rfl) rfl rfl rfl (by omega) rfl (Nat.le_of_ble_eq_true rfl) (Nat.le_of_ble_eq_true rfl) ?_
              rintro _ _ ⟨rfl, (⟨h44, ta, tv, sz, st, od', hs, rfl⟩ | ⟨h44, rfl⟩)⟩
              · refine g_aload_n (nx := 112) hX 0 dX4_readFactor_111 rfl rfl rfl ?_
                refine g_iload_n (nx := 113) hX 1 dX4_readFactor_112 rfl rfl rfl ?_
                refine g_iconst (nx := 114) hX 1 dX4_readFactor_113 rfl (by decide) ?_
                refine g_iadd (nx := 115) hX dX4_readFactor_114 rfl ?_
                rw [e7]
                refine g_V1 (nx := 118) hX dX4_readFactor_115 rfl mX4_128 yX4_readSum_ok (x_sum (k := 1) (d := 4) (by omega) hn (by omega) hs) (ga_dn hn rfl) rfl rfl rfl (by omega) rfl (Nat.le_of_ble_eq_true rfl) (Nat.le_of_ble_eq_true rfl) ?_
                rintro _ _ ⟨rfl, ta, tv, sz, st, od', hs, rfl⟩
                refine g_aload_n (nx := 119) hX 0 dX4_readFactor_118 rfl rfl rfl ?_
                refine g_getfield (nx := 122) hX dX4_readFactor_119 rfl fX4_76 (ga_dn hn rfl) rfl rfl ?_
                refine g_iload_n (nx := 123) hX 2 dX4_readFactor_122 rfl rfl rfl ?_
                refine g_iconst (nx := 124) hX 0 dX4_readFactor_123 rfl (by decide) ?_
                refine g_V2 (nx := 127) hX dX4_readFactor_124 rfl mX4_137 yX6_addStep_ok (x_add hn hs) (ga_dn hn rfl) rfl rfl rfl (by omega) rfl (Nat.le_of_ble_eq_true rfl) (Nat.le_of_ble_eq_true rfl) ?_
                rintro _ _ ⟨rfl, sz, st, od', hs, rfl⟩
                refine g_aload_n (nx := 128) hX 0 dX4_readFactor_127 rfl rfl rfl ?_
                refine g_bipush (nx := 130) hX 41 dX4_readFactor_128 rfl (by decide) ?_
                refine g_V1 (nx := 133) hX dX4_readFactor_130 rfl mX4_117 yX4_expect_ok (x_exp (k := 1) hn hl (by omega) hb) (ga_dn hn rfl) rfl rfl rfl (by omega) rfl (Nat.le_of_ble_eq_true rfl) (Nat.le_of_ble_eq_true rfl) ?_
                rintro _ _ ⟨rfl, rfl⟩
                exact g_return hX hP dX4_readFactor_133 (Nat.le_of_ble_eq_true rfl) (Nat.le_of_ble_eq_true rfl) ⟨rfl, Or.inl ⟨1, q2, by rw [hR]; unfold R_br; rw [if_pos h70]; dsimp only; rw [hE]; dsimp only; rw [if_neg hp0, if_neg h44], by omega, _, _, sz, _, _, hs, rfl⟩⟩
              · have hlt2 := x_tk_n h44 (by decide)
                have hn2 := x_nx_s (tb := tb) hlt2
                have hm2 := x_nx_le (tb := tb) hL.2
                refine g_aload_n (nx := 112) hX 0 dX4_readFactor_111 rfl rfl rfl ?_
                refine g_iload_n (nx := 113) hX 1 dX4_readFactor_112 rfl rfl rfl ?_
                refine g_iconst (nx := 114) hX 1 dX4_readFactor_113 rfl (by decide) ?_
                refine g_iadd (nx := 115) hX dX4_readFactor_114 rfl ?_
                rw [e7]
                refine g_V1 (nx := 118) hX dX4_readFactor_115 rfl mX4_128 yX4_readSum_ok (hS _ (C ++ c2) hm2.2 (by rw [List.length_append]; omega)) (ga_dn hn rfl) rfl rfl rfl (by omega) rfl (Nat.le_of_ble_eq_true rfl) (Nat.le_of_ble_eq_true rfl) ?_
                rintro _ _ ⟨rfl, (⟨k, pl, hE2, hk, ta, tv, sz, st, od', hs, rfl⟩ | ⟨q3, c3, hE2, rfl⟩)⟩
                · refine g_aload_n (nx := 119) hX 0 dX4_readFactor_118 rfl rfl rfl ?_
                  refine g_getfield (nx := 122) hX dX4_readFactor_119 rfl fX4_76 (ga_dn hn rfl) rfl rfl ?_
                  refine g_iload_n (nx := 123) hX 2 dX4_readFactor_122 rfl rfl rfl ?_
                  refine g_iconst (nx := 124) hX 0 dX4_readFactor_123 rfl (by decide) ?_
                  refine g_V2 (nx := 127) hX dX4_readFactor_124 rfl mX4_137 yX6_addStep_ok (x_add hn hs) (ga_dn hn rfl) rfl rfl rfl (by omega) rfl (Nat.le_of_ble_eq_true rfl) (Nat.le_of_ble_eq_true rfl) ?_
                  rintro _ _ ⟨rfl, sz, st, od', hs, rfl⟩
                  refine g_aload_n (nx := 128) hX 0 dX4_readFactor_127 rfl rfl rfl ?_
                  refine g_bipush (nx := 130) hX 41 dX4_readFactor_128 rfl (by decide) ?_
                  refine g_V1 (nx := 133) hX dX4_readFactor_130 rfl mX4_117 yX4_expect_ok (x_exp hn hl hk hb) (ga_dn hn rfl) rfl rfl rfl (by omega) rfl (Nat.le_of_ble_eq_true rfl) (Nat.le_of_ble_eq_true rfl) ?_
                  rintro _ _ ⟨rfl, rfl⟩
                  exact g_return hX hP dX4_readFactor_133 (Nat.le_of_ble_eq_true rfl) (Nat.le_of_ble_eq_true rfl) ⟨rfl, Or.inl ⟨k, pl, by rw [hR]; unfold R_br; rw [if_pos h70]; dsimp only; rw [hE]; dsimp only; rw [if_neg hp0, if_pos h44, hE2], hk, _, _, sz, _, _, hs, rfl⟩⟩
                · have hL3 := hln _ _ _ hm2.2 hE2
                  refine g_aload_n (nx := 119) hX 0 dX4_readFactor_118 rfl rfl rfl ?_
                  refine g_getfield (nx := 122) hX dX4_readFactor_119 rfl fX4_76 (ga_dn hn rfl) rfl rfl ?_
                  refine g_iload_n (nx := 123) hX 2 dX4_readFactor_122 rfl rfl rfl ?_
                  refine g_iconst (nx := 124) hX 0 dX4_readFactor_123 rfl (by decide) ?_
                  refine g_V2 (nx := 127) hX dX4_readFactor_124 rfl mX4_137 yX6_addStep_ok (w_add hn (by simp only [List.length_append]; omega)) (ga_dn hn rfl) rfl rfl rfl (by omega) rfl (Nat.le_of_ble_eq_true rfl) (Nat.le_of_ble_eq_true rfl) ?_
                  rintro _ _ ⟨rfl, rfl⟩
                  refine g_aload_n (nx := 128) hX 0 dX4_readFactor_127 rfl rfl rfl ?_
                  refine g_bipush (nx := 130) hX 41 dX4_readFactor_128 rfl (by decide) ?_
                  refine g_V1 (nx := 133) hX dX4_readFactor_130 rfl mX4_117 yX4_expect_ok (w_exp hn hl hL3.2 (by simp only [List.length_append, List.length_cons, List.length_nil]; omega) hb) (ga_dn hn rfl) rfl rfl rfl (by omega) rfl (Nat.le_of_ble_eq_true rfl) (Nat.le_of_ble_eq_true rfl) ?_
                  rintro _ _ ⟨rfl, (⟨h41, ta, tv, sz, st, od', hs, rfl⟩ | ⟨h41, rfl⟩)⟩
                  · exact g_return hX hP dX4_readFactor_133 (Nat.le_of_ble_eq_true rfl) (Nat.le_of_ble_eq_true rfl) ⟨rfl, Or.inl ⟨1, q3, by rw [hR]; unfold R_br; rw [if_pos h70]; dsimp only; rw [hE]; dsimp only; rw [if_neg hp0, if_pos h44, hE2]; dsimp only; rw [if_neg h41], by omega, _, _, sz, _, _, hs, rfl⟩⟩
                  · exact g_return hX hP dX4_readFactor_133 (Nat.le_of_ble_eq_true rfl) (Nat.le_of_ble_eq_true rfl) ⟨rfl, Or.inr ⟨_, _, by rw [hR]; unfold R_br; rw [if_pos h70]; dsimp only; rw [hE]; dsimp only; rw [if_neg hp0, if_pos h44, hE2]; dsimp only; rw [if_pos h41], by rw [show C ++ c2 ++ c3 ++ [(p, 0)] = C ++ (c2 ++ c3 ++ [(p, 0)]) by simp only [List.append_assoc]] <;> rfl⟩⟩
        · exact absurd (nI_lt (b := 6) (by omega) (by omega)) h76
  have hnx := x_nx_le (tb := tb) hq
  refine g_aload_n (nx := 1) hX 0 dX4_readFactor_0 rfl rfl rfl ?_
  refine g_V0 (nx := 4) hX dX4_readFactor_1 rfl mX4_156 yX4_pairStep_ok (c_X4_pairStep hn) (ga_dn hn rfl) rfl rfl rfl (by omega) rfl (Nat.le_of_ble_eq_true rfl) (Nat.le_of_ble_eq_true rfl) ?_
  rintro _ _ ⟨rfl, rfl⟩
  rw [z_ps_p]
  refine g_istore_n (nx := 5) hX 2 dX4_readFactor_4 rfl rfl rfl ?_
  refine g_aload_n (nx := 6) hX 0 dX4_readFactor_5 rfl rfl rfl ?_
  refine g_getfield (nx := 9) hX dX4_readFactor_6 rfl fX4_94 (ga_dn hn rfl) rfl rfl ?_
  refine g_bipush (nx := 11) hX 48 dX4_readFactor_9 rfl (by decide) ?_
  refine g_icmp_ne (nx := 14) hX 27 dX4_readFactor_11 (by decide) rfl (fun h11 => ?_) (fun h11 => ?_)
  · refine g_aload_n (nx := 28) hX 0 dX4_readFactor_27 rfl rfl rfl ?_
    refine g_getfield (nx := 31) hX dX4_readFactor_28 rfl fX4_94 (ga_dn hn rfl) rfl rfl ?_
    refine g_bipush (nx := 33) hX 97 dX4_readFactor_31 rfl (by decide) ?_
    refine g_icmp_ne (nx := 36) hX 55 dX4_readFactor_33 (by decide) rfl (fun h33 => ?_) (fun h33 => ?_)
    · have hp : x_pair tb lt q = 0 := x_pair_n h33
      refine g_iload_n (nx := 56) hX 2 dX4_readFactor_55 rfl rfl rfl ?_
      refine g_iconst (nx := 57) hX (-1) dX4_readFactor_56 rfl (by decide) ?_
      refine g_icmp_eq (nx := 60) hX 64 dX4_readFactor_57 (by decide) rfl (fun h57 => ?_) (fun h57 => ?_)
      · rw [if_pos hp]
        exact br0 q hq hC (by unfold R_fa; rw [if_neg h11, if_neg (fun z => h33 z.1), hp, if_pos rfl])
      · exact absurd (by rw [if_pos hp]) h57
    · refine g_iload_n (nx := 37) hX 2 dX4_readFactor_36 rfl rfl rfl ?_
      refine g_iconst (nx := 38) hX (-1) dX4_readFactor_37 rfl (by decide) ?_
      refine g_icmp_ne (nx := 41) hX 55 dX4_readFactor_38 (by decide) rfl (fun h38 => ?_) (fun h38 => ?_)
      · have hp : ¬ x_pair tb lt q = 0 := fun z => h38 (by rw [if_pos z])
        refine g_iload_n (nx := 56) hX 2 dX4_readFactor_55 rfl rfl rfl ?_
        refine g_iconst (nx := 57) hX (-1) dX4_readFactor_56 rfl (by decide) ?_
        refine g_icmp_eq (nx := 60) hX 64 dX4_readFactor_57 (by decide) rfl (fun h57 => ?_) (fun h57 => ?_)
        · exact absurd h57 (by rw [if_neg hp]; exact nI_neg1 (by have := x_pair_67 hp; omega))
        · refine g_aload_n (nx := 61) hX 0 dX4_readFactor_60 rfl rfl rfl ?_
          refine g_V0 (nx := 64) hX dX4_readFactor_61 rfl mX4_91 yX4_advance_ok (w_adv hn hl hq hb) (ga_dn hn rfl) rfl rfl rfl (by omega) rfl (Nat.le_of_ble_eq_true rfl) (Nat.le_of_ble_eq_true rfl) ?_
          rintro _ _ ⟨rfl, rfl⟩
          rw [if_neg hp]
          exact br1 _ _ (x_pair_67 hp) hnx.2 (by omega) (by unfold R_fa; rw [if_neg h11, if_neg (fun z => hp z.2), if_neg hp])
      · have hp : x_pair tb lt q = 0 := Classical.byContradiction (fun z => by rw [if_neg z] at h38; exact nI_neg1 (by have := x_pair_67 z; omega) h38)
        have hlt := x_tk_n h33 (by decide)
        refine g_aload_n (nx := 42) hX 0 dX4_readFactor_41 rfl rfl rfl ?_
        refine g_getfield (nx := 45) hX dX4_readFactor_42 rfl fX4_76 (ga_dn hn rfl) rfl rfl ?_
        refine g_iconst (nx := 46) hX 1 dX4_readFactor_45 rfl (by decide) ?_
        refine g_aload_n (nx := 47) hX 0 dX4_readFactor_46 rfl rfl rfl ?_
        refine g_iconst (nx := 48) hX 1 dX4_readFactor_47 rfl (by decide) ?_
        refine g_V1 (nx := 51) hX dX4_readFactor_48 rfl mX4_140 yX4_takeName_ok (w_name (b := 1) hn hl hq (by omega) hb (Or.inr rfl)) (ga_dn hn rfl) rfl rfl rfl (by omega) rfl (Nat.le_of_ble_eq_true rfl) (Nat.le_of_ble_eq_true rfl) ?_
        rintro _ _ ⟨rfl, (⟨k, pl, hE, hk, ta, tv, sz, st, od', hs, rfl⟩ | ⟨hE, rfl⟩)⟩
        · refine g_V2 (nx := 54) hX dX4_readFactor_51 rfl mX4_137 yX6_addStep_ok (x_add hn hs) (ga_dn hn rfl) rfl rfl rfl (by omega) rfl (Nat.le_of_ble_eq_true rfl) (Nat.le_of_ble_eq_true rfl) ?_
          rintro _ _ ⟨rfl, sz', st', od'', hsz', rfl⟩
          exact g_return hX hP dX4_readFactor_54 (Nat.le_of_ble_eq_true rfl) (Nat.le_of_ble_eq_true rfl) ⟨rfl, Or.inl ⟨k, pl, by unfold R_fa; rw [if_neg h11, if_pos ⟨h33, hp⟩, hE], hk, _, _, sz', _, _, hsz', rfl⟩⟩
        · have hsl : x_slot nm (x_tv tb lt q) = nI (x_slot nm (x_tv tb lt q)).toNatClampNeg := x_slot_nI (x_nE_1 hE).2.2
          rw [hsl]
          refine g_V2 (nx := 54) hX dX4_readFactor_51 rfl mX4_137 yX6_addStep_ok (w_add (a := 1) hn (by omega)) (ga_dn hn rfl) rfl rfl rfl (by omega) rfl (Nat.le_of_ble_eq_true rfl) (Nat.le_of_ble_eq_true rfl) ?_
          rintro _ _ ⟨rfl, rfl⟩
          exact g_return hX hP dX4_readFactor_54 (Nat.le_of_ble_eq_true rfl) (Nat.le_of_ble_eq_true rfl) ⟨rfl, Or.inr ⟨_, _, by unfold R_fa; rw [if_neg h11, if_pos ⟨h33, hp⟩, hE], rfl⟩⟩
  · have hlt := x_tk_n h11 (by decide)
    refine g_aload_n (nx := 15) hX 0 dX4_readFactor_14 rfl rfl rfl ?_
    refine g_getfield (nx := 18) hX dX4_readFactor_15 rfl fX4_76 (ga_dn hn rfl) rfl rfl ?_
    refine g_iconst (nx := 19) hX 0 dX4_readFactor_18 rfl (by decide) ?_
    refine g_aload_n (nx := 20) hX 0 dX4_readFactor_19 rfl rfl rfl ?_
    refine g_V0 (nx := 23) hX dX4_readFactor_20 rfl mX4_159 yX4_takeNumber_ok (w_num hn hl hq (by omega) hb h11) (ga_dn hn rfl) rfl rfl rfl (by omega) rfl (Nat.le_of_ble_eq_true rfl) (Nat.le_of_ble_eq_true rfl) ?_
    rintro _ _ (⟨h5, ⟨v, rfl⟩, ta, tv, sz, st, od', hsz, rfl⟩ | ⟨h5, rfl, rfl⟩)
    · refine g_V2 (nx := 26) hX dX4_readFactor_23 rfl mX4_137 yX6_addStep_ok (x_add hn hsz) (ga_dn hn rfl) rfl rfl rfl (by omega) rfl (Nat.le_of_ble_eq_true rfl) (Nat.le_of_ble_eq_true rfl) ?_
      rintro _ _ ⟨rfl, sz', st', od'', hsz', rfl⟩
      exact g_return hX hP dX4_readFactor_26 (Nat.le_of_ble_eq_true rfl) (Nat.le_of_ble_eq_true rfl) ⟨rfl, Or.inl ⟨1, q + 5, by unfold R_fa; rw [if_pos h11, if_pos h5], by omega, _, _, sz', _, _, hsz', rfl⟩⟩
    · refine g_V2 (nx := 26) hX dX4_readFactor_23 rfl mX4_137 yX6_addStep_ok (w_add (a := 0) hn (by omega)) (ga_dn hn rfl) rfl rfl rfl (by omega) rfl (Nat.le_of_ble_eq_true rfl) (Nat.le_of_ble_eq_true rfl) ?_
      rintro _ _ ⟨rfl, rfl⟩
      exact g_return hX hP dX4_readFactor_26 (Nat.le_of_ble_eq_true rfl) (Nat.le_of_ble_eq_true rfl) ⟨rfl, Or.inr ⟨_, _, by unfold R_fa; rw [if_pos h11, if_neg h5], rfl⟩⟩
end
