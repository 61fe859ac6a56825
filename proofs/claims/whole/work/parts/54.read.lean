/-! ===== products and sums of the class; all of a sum ===== -/
section
variable {E : ga_E} {X : ga_X} {n : Nat} {c0 c1 c2 c3 c4 c5 c6 c7 c8 c9 c10 c11 c12 c13 c14 c15 c16 c17 c18 c19 c20 c21 c22 c23 c24 c25 c26 c27 c28 c29 c30 m79 m80 m81 m82 m83 m84 m85 m86 m87 m88 m89 m90 m91 m92 m93 m94 m95 m96 m97 m98 m99 m100 m101 m102 m103 m104 m105 : ga_C} {L1 L2 : List ga_C} {f : Nat → ga_C} {o_tp o_rd o_fe o_em o_sp o_ac o_td o_sm o_tt o_at o_sz o_fk o_fp o_nw o_md o_nt o_pl o_op d_at d_tk d_ta d_fd d_fa : Int32} {d_tv : Int64} {d_rl : Value}
variable {z_at z_tk z_ta z_fd z_fa z_sz z_tot z_sm top : Int32} {z_tv : Int64} {nm : Nat → Int64} {tb st_ od eo fo : Nat → Int32} {lt : Nat}
variable {q fu : Nat} {C : List (Nat × Nat)} {fac pr : Nat → z_R}
theorem w_pro (hf : fu ≤ 6) (hn : 106 ≤ n) (hl : lt ≤ 600) (hb : ∀ i, i < lt → 0 ≤ tb i) (hq : q ≤ lt) (hC : C.length ≤ q) (hln : z_ln lt fac)
    (hF : ∀ q C, q ≤ lt → C.length ≤ q → ga_Mt E (2 + 3 * fu) yX4_readFactor cX4_readFactor 3 none 0 0 [.ref 13, .int (nI (6 - fu))] (n, (c0 :: k_T lt :: ga_i 600 tb :: c3 :: c4 :: c5 :: c6 :: c7 :: c8 :: c9 :: c10 :: c11 :: c12 :: k_D (.ref 21) (nI (x_te tb lt (q))) (x_tk tb lt (q)) (nI (q)) (x_tv tb lt (q)) (0) (-1) :: ga_l 39 (nm) :: c15 :: c16 :: c17 :: c18 :: c19 :: c20 :: k_U 21 top (nI (C).length) (z_tot) (z_sm) :: ga_i 600 (z_st (C) st_) :: ga_i 600 (z_od (C) od) :: ga_i 24 (eo) :: ga_i 24 (fo) :: L1), L2, f) (fun r M => r = none ∧ ((∃ k pl, fac q = .inl (k, pl) ∧ (1 ≤ k ∧ k ≤ 4) ∧ (∃ ta tv sz st od, sz ≤ 600 ∧ M = (n, (c0 :: k_T lt :: ga_i 600 tb :: c3 :: c4 :: c5 :: c6 :: c7 :: c8 :: c9 :: c10 :: c11 :: c12 :: k_D (.ref 21) (nI lt) (-1) (ta) (tv) (nI (k)) (nI (pl)) :: ga_l 39 (nm) :: c15 :: c16 :: c17 :: c18 :: c19 :: c20 :: k_U 21 top (nI sz) (z_tot) (z_sm) :: ga_i 600 (st) :: ga_i 600 (od) :: ga_i 24 (eo) :: ga_i 24 (fo) :: L1), L2, f))) ∨ ∃ q' c', fac q = .inr (q', c') ∧ M = (n, (c0 :: k_T lt :: ga_i 600 tb :: c3 :: c4 :: c5 :: c6 :: c7 :: c8 :: c9 :: c10 :: c11 :: c12 :: k_D (.ref 21) (nI (x_te tb lt (q'))) (x_tk tb lt (q')) (nI (q')) (x_tv tb lt (q')) (0) (-1) :: ga_l 39 (nm) :: c15 :: c16 :: c17 :: c18 :: c19 :: c20 :: k_U 21 top (nI (C ++ c').length) (z_tot) (z_sm) :: ga_i 600 (z_st (C ++ c') st_) :: ga_i 600 (z_od (C ++ c') od) :: ga_i 24 (eo) :: ga_i 24 (fo) :: L1), L2, f)))) :
    ga_Mt E (3 + 3 * fu) yX4_readProduct cX4_readProduct 4 none 0 0 [.ref 13, .int (nI (6 - fu))] (n, (c0 :: k_T lt :: ga_i 600 tb :: c3 :: c4 :: c5 :: c6 :: c7 :: c8 :: c9 :: c10 :: c11 :: c12 :: k_D (.ref 21) (nI (x_te tb lt (q))) (x_tk tb lt (q)) (nI (q)) (x_tv tb lt (q)) (0) (-1) :: ga_l 39 (nm) :: c15 :: c16 :: c17 :: c18 :: c19 :: c20 :: k_U 21 top (nI (C).length) (z_tot) (z_sm) :: ga_i 600 (z_st (C) st_) :: ga_i 600 (z_od (C) od) :: ga_i 24 (eo) :: ga_i 24 (fo) :: L1), L2, f) (fun r M => r = none ∧ ((∃ k pl, R_pr tb lt fac q = .inl (k, pl) ∧ (1 ≤ k ∧ k ≤ 4) ∧ (∃ ta tv sz st od, sz ≤ 600 ∧ M = (n, (c0 :: k_T lt :: ga_i 600 tb :: c3 :: c4 :: c5 :: c6 :: c7 :: c8 :: c9 :: c10 :: c11 :: c12 :: k_D (.ref 21) (nI lt) (-1) (ta) (tv) (nI (k)) (nI (pl)) :: ga_l 39 (nm) :: c15 :: c16 :: c17 :: c18 :: c19 :: c20 :: k_U 21 top (nI sz) (z_tot) (z_sm) :: ga_i 600 (st) :: ga_i 600 (od) :: ga_i 24 (eo) :: ga_i 24 (fo) :: L1), L2, f))) ∨ ∃ q' c', R_pr tb lt fac q = .inr (q', c') ∧ M = (n, (c0 :: k_T lt :: ga_i 600 tb :: c3 :: c4 :: c5 :: c6 :: c7 :: c8 :: c9 :: c10 :: c11 :: c12 :: k_D (.ref 21) (nI (x_te tb lt (q'))) (x_tk tb lt (q')) (nI (q')) (x_tv tb lt (q')) (0) (-1) :: ga_l 39 (nm) :: c15 :: c16 :: c17 :: c18 :: c19 :: c20 :: k_U 21 top (nI (C ++ c').length) (z_tot) (z_sm) :: ga_i 600 (z_st (C ++ c') st_) :: ga_i 600 (z_od (C ++ c') od) :: ga_i 24 (eo) :: ga_i 24 (fo) :: L1), L2, f))) := by
  refine ga_Mt.of (by decide) rfl (fun X hX hP => ?_)
  refine g_less [some (.ref 13), some (.int (nI (6 - fu))), none, none] ⟨rfl, rfl, trivial⟩ ?_
  have ex : ∀ i k pl ta tv sz st od', i ≤ 600 → R_pr tb lt fac q = .inl (k, pl) → (1 ≤ k ∧ k ≤ 4) → sz ≤ 600 → ga_G E X 0 0 7 [some (.ref 13), some (.int (nI (6 - fu))), some (.int (nI i)), none] [] (n, (c0 :: k_T lt :: ga_i 600 tb :: c3 :: c4 :: c5 :: c6 :: c7 :: c8 :: c9 :: c10 :: c11 :: c12 :: k_D (.ref 21) (nI lt) (-1) (ta) (tv) (nI k) (nI pl) :: ga_l 39 (nm) :: c15 :: c16 :: c17 :: c18 :: c19 :: c20 :: k_U 21 top (nI sz) (z_tot) (z_sm) :: ga_i 600 (st) :: ga_i 600 (od') :: ga_i 24 (eo) :: ga_i 24 (fo) :: L1), L2, f) := by
    intro i k pl ta tv sz st od' hi hR hk hs
    refine g_iload_n (nx := 8) hX 2 dX4_readProduct_7 rfl rfl rfl ?_
    refine g_sipush (nx := 11) hX 600 dX4_readProduct_8 rfl (by decide) ?_
    refine g_icmp_ge (nx := 14) hX 82 dX4_readProduct_11 (by decide) rfl (fun h11 => ?_) (fun h11 => ?_)
    · exact g_return hX hP dX4_readProduct_82 (Nat.le_of_ble_eq_true rfl) (Nat.le_of_ble_eq_true rfl) ⟨rfl, Or.inl ⟨k, pl, hR, hk, _, _, sz, _, _, hs, rfl⟩⟩
    · refine g_aload_n (nx := 15) hX 0 dX4_readProduct_14 rfl rfl rfl ?_
      refine g_getfield (nx := 18) hX dX4_readProduct_15 rfl fX4_94 (ga_dn hn rfl) rfl rfl ?_
      refine g_bipush (nx := 20) hX 42 dX4_readProduct_18 rfl (by decide) ?_
      refine g_icmp_eq (nx := 23) hX 32 dX4_readProduct_20 (by decide) rfl (fun h20 => ?_) (fun h20 => ?_)
      · exact absurd h20 (by decide)
      · refine g_aload_n (nx := 24) hX 0 dX4_readProduct_23 rfl rfl rfl ?_
        refine g_getfield (nx := 27) hX dX4_readProduct_24 rfl fX4_94 (ga_dn hn rfl) rfl rfl ?_
        refine g_bipush (nx := 29) hX 47 dX4_readProduct_27 rfl (by decide) ?_
        refine g_icmp_ne (nx := 32) hX 82 dX4_readProduct_29 (by decide) rfl (fun h29 => ?_) (fun h29 => ?_)
        · exact g_return hX hP dX4_readProduct_82 (Nat.le_of_ble_eq_true rfl) (Nat.le_of_ble_eq_true rfl) ⟨rfl, Or.inl ⟨k, pl, hR, hk, _, _, sz, _, _, hs, rfl⟩⟩
        · exact absurd h29 (by decide)
  have loop : ∀ m i q1 c1, i + m = 600 → R_pr tb lt fac q = R_pl tb lt fac m q1 c1 → q1 ≤ lt → C.length + c1.length ≤ q1 → ga_G E X 0 0 7 [some (.ref 13), some (.int (nI (6 - fu))), some (.int (nI i)), none] [] (n, (c0 :: k_T lt :: ga_i 600 tb :: c3 :: c4 :: c5 :: c6 :: c7 :: c8 :: c9 :: c10 :: c11 :: c12 :: k_D (.ref 21) (nI (x_te tb lt (q1))) (x_tk tb lt (q1)) (nI (q1)) (x_tv tb lt (q1)) (0) (-1) :: ga_l 39 (nm) :: c15 :: c16 :: c17 :: c18 :: c19 :: c20 :: k_U 21 top (nI (C ++ c1).length) (z_tot) (z_sm) :: ga_i 600 (z_st (C ++ c1) st_) :: ga_i 600 (z_od (C ++ c1) od) :: ga_i 24 (eo) :: ga_i 24 (fo) :: L1), L2, f) := by
    intro m
    induction m with
    | zero =>
      intro i q1 c1 hi hR hq1 hC1
      refine g_iload_n (nx := 8) hX 2 dX4_readProduct_7 rfl rfl rfl ?_
      refine g_sipush (nx := 11) hX 600 dX4_readProduct_8 rfl (by decide) ?_
      refine g_icmp_ge (nx := 14) hX 82 dX4_readProduct_11 (by decide) rfl (fun h11 => ?_) (fun h11 => ?_)
      · exact g_return hX hP dX4_readProduct_82 (Nat.le_of_ble_eq_true rfl) (Nat.le_of_ble_eq_true rfl) ⟨rfl, Or.inr ⟨_, _, hR, rfl⟩⟩
      · exact absurd (nI_le (a := 600) (by omega) (by omega)) h11
    | succ m ih =>
      intro i q1 c1 hi hR hq1 hC1
      have hnx := x_nx_le (tb := tb) hq1
      rw [R_pl] at hR
      refine g_iload_n (nx := 8) hX 2 dX4_readProduct_7 rfl rfl rfl ?_
      refine g_sipush (nx := 11) hX 600 dX4_readProduct_8 rfl (by decide) ?_
      refine g_icmp_ge (nx := 14) hX 82 dX4_readProduct_11 (by decide) rfl (fun h11 => ?_) (fun h11 => ?_)
      · exact absurd ((nI_leI (a := 600) (by omega) (by omega)).mp h11) (by omega)
      · refine g_aload_n (nx := 15) hX 0 dX4_readProduct_14 rfl rfl rfl ?_
        refine g_getfield (nx := 18) hX dX4_readProduct_15 rfl fX4_94 (ga_dn hn rfl) rfl rfl ?_
        refine g_bipush (nx := 20) hX 42 dX4_readProduct_18 rfl (by decide) ?_
        refine g_icmp_eq (nx := 23) hX 32 dX4_readProduct_20 (by decide) rfl (fun h20 => ?_) (fun h20 => ?_)
        · rw [if_pos h20] at hR
          have hs1 := x_nx_s (tb := tb) (x_tk_n h20 (by decide))
          refine g_aload_n (nx := 33) hX 0 dX4_readProduct_32 rfl rfl rfl ?_
          refine g_getfield (nx := 36) hX dX4_readProduct_33 rfl fX4_94 (ga_dn hn rfl) rfl rfl ?_
          refine g_bipush (nx := 38) hX 42 dX4_readProduct_36 rfl (by decide) ?_
          refine g_icmp_ne (nx := 41) hX 45 dX4_readProduct_38 (by decide) rfl (fun h38 => ?_) (fun h38 => ?_)
          · exact absurd h20 h38
          · refine g_iconst (nx := 42) hX 1 dX4_readProduct_41 rfl (by decide) ?_
            refine g_goto (nx := 46) hX dX4_readProduct_42 (by decide) ?_
            refine g_istore_n (nx := 47) hX 3 dX4_readProduct_46 rfl rfl rfl ?_
            refine g_aload_n (nx := 48) hX 0 dX4_readProduct_47 rfl rfl rfl ?_
            refine g_V0 (nx := 51) hX dX4_readProduct_48 rfl mX4_91 yX4_advance_ok (w_adv hn hl hq1 hb) (ga_dn hn rfl) rfl rfl rfl (by omega) rfl (Nat.le_of_ble_eq_true rfl) (Nat.le_of_ble_eq_true rfl) ?_
            rintro _ _ ⟨rfl, rfl⟩
            refine g_iload_n (nx := 52) hX 3 dX4_readProduct_51 rfl rfl rfl ?_
            refine g_if_eq (nx := 55) hX 72 dX4_readProduct_52 (by decide) rfl (fun h => absurd h (by decide)) (fun h => ?_)
            refine g_aload_n (nx := 56) hX 0 dX4_readProduct_55 rfl rfl rfl ?_
            refine g_iload_n (nx := 57) hX 1 dX4_readProduct_56 rfl rfl rfl ?_
            refine g_V1 (nx := 60) hX dX4_readProduct_57 rfl mX4_150 yX4_readFactor_ok (hF _ (C ++ c1) hnx.2 (by rw [List.length_append]; omega)) (ga_dn hn rfl) rfl rfl rfl (by omega) rfl (Nat.le_of_ble_eq_true rfl) (Nat.le_of_ble_eq_true rfl) ?_
            rintro _ _ ⟨rfl, (⟨k, pl, hE, hk, ta, tv, sz, st, od', hs, rfl⟩ | ⟨q2, c2, hE, rfl⟩)⟩
            all_goals rw [hE] at hR
            · refine g_aload_n (nx := 61) hX 0 dX4_readProduct_60 rfl rfl rfl ?_
              refine g_getfield (nx := 64) hX dX4_readProduct_61 rfl fX4_76 (ga_dn hn rfl) rfl rfl ?_
              refine g_iconst (nx := 65) hX 4 dX4_readProduct_64 rfl (by decide) ?_
              refine g_iconst (nx := 66) hX 0 dX4_readProduct_65 rfl (by decide) ?_
              refine g_V2 (nx := 69) hX dX4_readProduct_66 rfl mX4_137 yX6_addStep_ok (x_add hn hs) (ga_dn hn rfl) rfl rfl rfl (by omega) rfl (Nat.le_of_ble_eq_true rfl) (Nat.le_of_ble_eq_true rfl) ?_
              rintro _ _ ⟨rfl, sz', st', od'', hsz', rfl⟩
              refine g_goto (nx := 76) hX dX4_readProduct_69 (by decide) ?_
              refine g_iinc (nx := 79) hX 2 (nI (i + 1)) dX4_readProduct_76 rfl rfl rfl (nI_1 i) ?_
              refine g_goto (nx := 7) hX dX4_readProduct_79 (by decide) ?_
              exact g_ls (ex _ _ _ _ _ _ _ _ (by omega) hR hk hsz') ⟨rfl, rfl, rfl, trivial⟩
            · have hL := hln _ _ _ hnx.2 hE
              refine g_aload_n (nx := 61) hX 0 dX4_readProduct_60 rfl rfl rfl ?_
              refine g_getfield (nx := 64) hX dX4_readProduct_61 rfl fX4_76 (ga_dn hn rfl) rfl rfl ?_
              refine g_iconst (nx := 65) hX 4 dX4_readProduct_64 rfl (by decide) ?_
              refine g_iconst (nx := 66) hX 0 dX4_readProduct_65 rfl (by decide) ?_
              refine g_V2 (nx := 69) hX dX4_readProduct_66 rfl mX4_137 yX6_addStep_ok (w_add (a := 4) hn (by simp only [List.length_append]; omega)) (ga_dn hn rfl) rfl rfl rfl (by omega) rfl (Nat.le_of_ble_eq_true rfl) (Nat.le_of_ble_eq_true rfl) ?_
              rintro _ _ ⟨rfl, rfl⟩
              refine g_goto (nx := 76) hX dX4_readProduct_69 (by decide) ?_
              refine g_iinc (nx := 79) hX 2 (nI (i + 1)) dX4_readProduct_76 rfl rfl rfl (nI_1 i) ?_
              refine g_goto (nx := 7) hX dX4_readProduct_79 (by decide) ?_
              have e9 : C ++ c1 ++ c2 ++ [(4, 0)] = C ++ (c1 ++ c2 ++ [(4, 0)]) := by simp only [List.append_assoc]
              rw [e9]
              exact g_ls (ih _ _ _ (by omega) hR hL.2 (by simp only [List.length_append, List.length_cons, List.length_nil]; omega)) ⟨rfl, rfl, rfl, trivial⟩
        · refine g_aload_n (nx := 24) hX 0 dX4_readProduct_23 rfl rfl rfl ?_
          refine g_getfield (nx := 27) hX dX4_readProduct_24 rfl fX4_94 (ga_dn hn rfl) rfl rfl ?_
          refine g_bipush (nx := 29) hX 47 dX4_readProduct_27 rfl (by decide) ?_
          refine g_icmp_ne (nx := 32) hX 82 dX4_readProduct_29 (by decide) rfl (fun h29 => ?_) (fun h29 => ?_)
          · exact g_return hX hP dX4_readProduct_82 (Nat.le_of_ble_eq_true rfl) (Nat.le_of_ble_eq_true rfl) ⟨rfl, Or.inr ⟨_, _, by rw [hR, if_neg h20, if_neg h29], rfl⟩⟩
          · rw [if_neg h20, if_pos h29] at hR
            have hs1 := x_nx_s (tb := tb) (x_tk_n h29 (by decide))
            refine g_aload_n (nx := 33) hX 0 dX4_readProduct_32 rfl rfl rfl ?_
            refine g_getfield (nx := 36) hX dX4_readProduct_33 rfl fX4_94 (ga_dn hn rfl) rfl rfl ?_
            refine g_bipush (nx := 38) hX 42 dX4_readProduct_36 rfl (by decide) ?_
            refine g_icmp_ne (nx := 41) hX 45 dX4_readProduct_38 (by decide) rfl (fun h38 => ?_) (fun h38 => ?_)
            · refine g_iconst (nx := 46) hX 0 dX4_readProduct_45 rfl (by decide) ?_
              refine g_istore_n (nx := 47) hX 3 dX4_readProduct_46 rfl rfl rfl ?_
              refine g_aload_n (nx := 48) hX 0 dX4_readProduct_47 rfl rfl rfl ?_
              refine g_V0 (nx := 51) hX dX4_readProduct_48 rfl mX4_91 yX4_advance_ok (w_adv hn hl hq1 hb) (ga_dn hn rfl) rfl rfl rfl (by omega) rfl (Nat.le_of_ble_eq_true rfl) (Nat.le_of_ble_eq_true rfl) ?_
              rintro _ _ ⟨rfl, rfl⟩
              refine g_iload_n (nx := 52) hX 3 dX4_readProduct_51 rfl rfl rfl ?_
              refine g_if_eq (nx := 55) hX 72 dX4_readProduct_52 (by decide) rfl (fun h => ?_) (fun h => absurd h (by decide))
              refine g_aload_n (nx := 73) hX 0 dX4_readProduct_72 rfl rfl rfl ?_
              refine g_V0 (nx := 76) hX dX4_readProduct_73 rfl mX4_153 yX4_readDivisor_ok (w_div hn hl hnx.2 (by rw [List.length_append]; omega) hb) (ga_dn hn rfl) rfl rfl rfl (by omega) rfl (Nat.le_of_ble_eq_true rfl) (Nat.le_of_ble_eq_true rfl) ?_
              rintro _ _ ⟨rfl, (⟨k, pl, hE, hk, ta, tv, sz, st, od', hs, rfl⟩ | ⟨q2, c2, hE, rfl⟩)⟩
              all_goals rw [hE] at hR
              · refine g_iinc (nx := 79) hX 2 (nI (i + 1)) dX4_readProduct_76 rfl rfl rfl (nI_1 i) ?_
                refine g_goto (nx := 7) hX dX4_readProduct_79 (by decide) ?_
                exact g_ls (ex _ _ _ _ _ _ _ _ (by omega) hR hk hs) ⟨rfl, rfl, rfl, trivial⟩
              · have hL := ln_div _ _ _ hnx.2 hE
                refine g_iinc (nx := 79) hX 2 (nI (i + 1)) dX4_readProduct_76 rfl rfl rfl (nI_1 i) ?_
                refine g_goto (nx := 7) hX dX4_readProduct_79 (by decide) ?_
                rw [List.append_assoc]
                exact g_ls (ih _ _ _ (by omega) hR hL.2 (by simp only [List.length_append]; omega)) ⟨rfl, rfl, rfl, trivial⟩
            · exact absurd h38 h20
  refine g_aload_n (nx := 1) hX 0 dX4_readProduct_0 rfl rfl rfl ?_
  refine g_iload_n (nx := 2) hX 1 dX4_readProduct_1 rfl rfl rfl ?_
  refine g_V1 (nx := 5) hX dX4_readProduct_2 rfl mX4_150 yX4_readFactor_ok (hF q C hq hC) (ga_dn hn rfl) rfl rfl rfl (by omega) rfl (Nat.le_of_ble_eq_true rfl) (Nat.le_of_ble_eq_true rfl) ?_
  rintro _ _ ⟨rfl, (⟨k, pl, hE, hk, ta, tv, sz, st, od', hs, rfl⟩ | ⟨q2, c2, hE, rfl⟩)⟩
  · refine g_iconst (nx := 6) hX 0 dX4_readProduct_5 rfl (by decide) ?_
    refine g_istore_n (nx := 7) hX 2 dX4_readProduct_6 rfl rfl rfl ?_
    exact g_ls (ex 0 _ _ _ _ _ _ _ (by omega) (by unfold R_pr; rw [hE]) hk hs) ⟨rfl, rfl, rfl, trivial⟩
  · have hL := hln _ _ _ hq hE
    refine g_iconst (nx := 6) hX 0 dX4_readProduct_5 rfl (by decide) ?_
    refine g_istore_n (nx := 7) hX 2 dX4_readProduct_6 rfl rfl rfl ?_
    exact g_ls (loop 600 0 _ _ rfl (by unfold R_pr; rw [hE]) hL.2 (by omega)) ⟨rfl, rfl, rfl, trivial⟩
theorem w_sum (hf : fu ≤ 6) (hn : 106 ≤ n) (hl : lt ≤ 600) (hb : ∀ i, i < lt → 0 ≤ tb i) (hq : q ≤ lt) (hC : C.length ≤ q) (hln : z_ln lt (R_pr tb lt fac))
    (hF : ∀ q C, q ≤ lt → C.length ≤ q → ga_Mt E (3 + 3 * fu) yX4_readProduct cX4_readProduct 4 none 0 0 [.ref 13, .int (nI (6 - fu))] (n, (c0 :: k_T lt :: ga_i 600 tb :: c3 :: c4 :: c5 :: c6 :: c7 :: c8 :: c9 :: c10 :: c11 :: c12 :: k_D (.ref 21) (nI (x_te tb lt (q))) (x_tk tb lt (q)) (nI (q)) (x_tv tb lt (q)) (0) (-1) :: ga_l 39 (nm) :: c15 :: c16 :: c17 :: c18 :: c19 :: c20 :: k_U 21 top (nI (C).length) (z_tot) (z_sm) :: ga_i 600 (z_st (C) st_) :: ga_i 600 (z_od (C) od) :: ga_i 24 (eo) :: ga_i 24 (fo) :: L1), L2, f) (fun r M => r = none ∧ ((∃ k pl, R_pr tb lt fac q = .inl (k, pl) ∧ (1 ≤ k ∧ k ≤ 4) ∧ (∃ ta tv sz st od, sz ≤ 600 ∧ M = (n, (c0 :: k_T lt :: ga_i 600 tb :: c3 :: c4 :: c5 :: c6 :: c7 :: c8 :: c9 :: c10 :: c11 :: c12 :: k_D (.ref 21) (nI lt) (-1) (ta) (tv) (nI (k)) (nI (pl)) :: ga_l 39 (nm) :: c15 :: c16 :: c17 :: c18 :: c19 :: c20 :: k_U 21 top (nI sz) (z_tot) (z_sm) :: ga_i 600 (st) :: ga_i 600 (od) :: ga_i 24 (eo) :: ga_i 24 (fo) :: L1), L2, f))) ∨ ∃ q' c', R_pr tb lt fac q = .inr (q', c') ∧ M = (n, (c0 :: k_T lt :: ga_i 600 tb :: c3 :: c4 :: c5 :: c6 :: c7 :: c8 :: c9 :: c10 :: c11 :: c12 :: k_D (.ref 21) (nI (x_te tb lt (q'))) (x_tk tb lt (q')) (nI (q')) (x_tv tb lt (q')) (0) (-1) :: ga_l 39 (nm) :: c15 :: c16 :: c17 :: c18 :: c19 :: c20 :: k_U 21 top (nI (C ++ c').length) (z_tot) (z_sm) :: ga_i 600 (z_st (C ++ c') st_) :: ga_i 600 (z_od (C ++ c') od) :: ga_i 24 (eo) :: ga_i 24 (fo) :: L1), L2, f)))) :
    ga_Mt E (4 + 3 * fu) yX4_readSum cX4_readSum 4 none 0 0 [.ref 13, .int (nI (6 - fu))] (n, (c0 :: k_T lt :: ga_i 600 tb :: c3 :: c4 :: c5 :: c6 :: c7 :: c8 :: c9 :: c10 :: c11 :: c12 :: k_D (.ref 21) (nI (x_te tb lt (q))) (x_tk tb lt (q)) (nI (q)) (x_tv tb lt (q)) (0) (-1) :: ga_l 39 (nm) :: c15 :: c16 :: c17 :: c18 :: c19 :: c20 :: k_U 21 top (nI (C).length) (z_tot) (z_sm) :: ga_i 600 (z_st (C) st_) :: ga_i 600 (z_od (C) od) :: ga_i 24 (eo) :: ga_i 24 (fo) :: L1), L2, f) (fun r M => r = none ∧ ((∃ k pl, R_su tb lt fac q = .inl (k, pl) ∧ (1 ≤ k ∧ k ≤ 4) ∧ (∃ ta tv sz st od, sz ≤ 600 ∧ M = (n, (c0 :: k_T lt :: ga_i 600 tb :: c3 :: c4 :: c5 :: c6 :: c7 :: c8 :: c9 :: c10 :: c11 :: c12 :: k_D (.ref 21) (nI lt) (-1) (ta) (tv) (nI (k)) (nI (pl)) :: ga_l 39 (nm) :: c15 :: c16 :: c17 :: c18 :: c19 :: c20 :: k_U 21 top (nI sz) (z_tot) (z_sm) :: ga_i 600 (st) :: ga_i 600 (od) :: ga_i 24 (eo) :: ga_i 24 (fo) :: L1), L2, f))) ∨ ∃ q' c', R_su tb lt fac q = .inr (q', c') ∧ M = (n, (c0 :: k_T lt :: ga_i 600 tb :: c3 :: c4 :: c5 :: c6 :: c7 :: c8 :: c9 :: c10 :: c11 :: c12 :: k_D (.ref 21) (nI (x_te tb lt (q'))) (x_tk tb lt (q')) (nI (q')) (x_tv tb lt (q')) (0) (-1) :: ga_l 39 (nm) :: c15 :: c16 :: c17 :: c18 :: c19 :: c20 :: k_U 21 top (nI (C ++ c').length) (z_tot) (z_sm) :: ga_i 600 (z_st (C ++ c') st_) :: ga_i 600 (z_od (C ++ c') od) :: ga_i 24 (eo) :: ga_i 24 (fo) :: L1), L2, f))) := by
  refine ga_Mt.of (by decide) rfl (fun X hX hP => ?_)
  refine g_less [some (.ref 13), some (.int (nI (6 - fu))), none, none] ⟨rfl, rfl, trivial⟩ ?_
  have ex : ∀ i k pl ta tv sz st od', i ≤ 600 → R_su tb lt fac q = .inl (k, pl) → (1 ≤ k ∧ k ≤ 4) → sz ≤ 600 → ga_G E X 0 0 7 [some (.ref 13), some (.int (nI (6 - fu))), some (.int (nI i)), none] [] (n, (c0 :: k_T lt :: ga_i 600 tb :: c3 :: c4 :: c5 :: c6 :: c7 :: c8 :: c9 :: c10 :: c11 :: c12 :: k_D (.ref 21) (nI lt) (-1) (ta) (tv) (nI k) (nI pl) :: ga_l 39 (nm) :: c15 :: c16 :: c17 :: c18 :: c19 :: c20 :: k_U 21 top (nI sz) (z_tot) (z_sm) :: ga_i 600 (st) :: ga_i 600 (od') :: ga_i 24 (eo) :: ga_i 24 (fo) :: L1), L2, f) := by
    intro i k pl ta tv sz st od' hi hR hk hs
    refine g_iload_n (nx := 8) hX 2 dX4_readSum_7 rfl rfl rfl ?_
    refine g_sipush (nx := 11) hX 600 dX4_readSum_8 rfl (by decide) ?_
    refine g_icmp_ge (nx := 14) hX 71 dX4_readSum_11 (by decide) rfl (fun h11 => ?_) (fun h11 => ?_)
    · exact g_return hX hP dX4_readSum_71 (Nat.le_of_ble_eq_true rfl) (Nat.le_of_ble_eq_true rfl) ⟨rfl, Or.inl ⟨k, pl, hR, hk, _, _, sz, _, _, hs, rfl⟩⟩
    · refine g_aload_n (nx := 15) hX 0 dX4_readSum_14 rfl rfl rfl ?_
      refine g_getfield (nx := 18) hX dX4_readSum_15 rfl fX4_94 (ga_dn hn rfl) rfl rfl ?_
      refine g_bipush (nx := 20) hX 43 dX4_readSum_18 rfl (by decide) ?_
      refine g_icmp_eq (nx := 23) hX 32 dX4_readSum_20 (by decide) rfl (fun h20 => ?_) (fun h20 => ?_)
      · exact absurd h20 (by decide)
      · refine g_aload_n (nx := 24) hX 0 dX4_readSum_23 rfl rfl rfl ?_
        refine g_getfield (nx := 27) hX dX4_readSum_24 rfl fX4_94 (ga_dn hn rfl) rfl rfl ?_
        refine g_bipush (nx := 29) hX 45 dX4_readSum_27 rfl (by decide) ?_
        refine g_icmp_ne (nx := 32) hX 71 dX4_readSum_29 (by decide) rfl (fun h29 => ?_) (fun h29 => ?_)
        · exact g_return hX hP dX4_readSum_71 (Nat.le_of_ble_eq_true rfl) (Nat.le_of_ble_eq_true rfl) ⟨rfl, Or.inl ⟨k, pl, hR, hk, _, _, sz, _, _, hs, rfl⟩⟩
        · exact absurd h29 (by decide)
  have loop : ∀ m i q1 c1, i + m = 600 → R_su tb lt fac q = R_sl tb lt (R_pr tb lt fac) m q1 c1 → q1 ≤ lt → C.length + c1.length ≤ q1 → ga_G E X 0 0 7 [some (.ref 13), some (.int (nI (6 - fu))), some (.int (nI i)), none] [] (n, (c0 :: k_T lt :: ga_i 600 tb :: c3 :: c4 :: c5 :: c6 :: c7 :: c8 :: c9 :: c10 :: c11 :: c12 :: k_D (.ref 21) (nI (x_te tb lt (q1))) (x_tk tb lt (q1)) (nI (q1)) (x_tv tb lt (q1)) (0) (-1) :: ga_l 39 (nm) :: c15 :: c16 :: c17 :: c18 :: c19 :: c20 :: k_U 21 top (nI (C ++ c1).length) (z_tot) (z_sm) :: ga_i 600 (z_st (C ++ c1) st_) :: ga_i 600 (z_od (C ++ c1) od) :: ga_i 24 (eo) :: ga_i 24 (fo) :: L1), L2, f) := by
    intro m
    induction m with
    | zero =>
      intro i q1 c1 hi hR hq1 hC1
      refine g_iload_n (nx := 8) hX 2 dX4_readSum_7 rfl rfl rfl ?_
      refine g_sipush (nx := 11) hX 600 dX4_readSum_8 rfl (by decide) ?_
      refine g_icmp_ge (nx := 14) hX 71 dX4_readSum_11 (by decide) rfl (fun h11 => ?_) (fun h11 => ?_)
      · exact g_return hX hP dX4_readSum_71 (Nat.le_of_ble_eq_true rfl) (Nat.le_of_ble_eq_true rfl) ⟨rfl, Or.inr ⟨_, _, hR, rfl⟩⟩
      · exact absurd (nI_le (a := 600) (by omega) (by omega)) h11
    | succ m ih =>
      intro i q1 c1 hi hR hq1 hC1
      have hnx := x_nx_le (tb := tb) hq1
      rw [R_sl] at hR
      have body : ∀ o : Nat, x_nx tb lt q1 ≤ lt → q1 < x_nx tb lt q1 → (R_su tb lt fac q = match R_pr tb lt fac (x_nx tb lt q1) with | .inl e => .inl e | .inr (q', c') => R_sl tb lt (R_pr tb lt fac) m q' (c1 ++ c' ++ [(o, 0)])) → ga_G E X 0 0 47 [some (.ref 13), some (.int (nI (6 - fu))), some (.int (nI i)), some (.int (nI o))] [] (n, (c0 :: k_T lt :: ga_i 600 tb :: c3 :: c4 :: c5 :: c6 :: c7 :: c8 :: c9 :: c10 :: c11 :: c12 :: k_D (.ref 21) (nI (x_te tb lt (q1))) (x_tk tb lt (q1)) (nI (q1)) (x_tv tb lt (q1)) (0) (-1) :: ga_l 39 (nm) :: c15 :: c16 :: c17 :: c18 :: c19 :: c20 :: k_U 21 top (nI (C ++ c1).length) (z_tot) (z_sm) :: ga_i 600 (z_st (C ++ c1) st_) :: ga_i 600 (z_od (C ++ c1) od) :: ga_i 24 (eo) :: ga_i 24 (fo) :: L1), L2, f) := by
        intro o _ hs1 hR
        refine g_aload_n (nx := 48) hX 0 dX4_readSum_47 rfl rfl rfl ?_
        refine g_V0 (nx := 51) hX dX4_readSum_48 rfl mX4_91 yX4_advance_ok (w_adv hn hl hq1 hb) (ga_dn hn rfl) rfl rfl rfl (by omega) rfl (Nat.le_of_ble_eq_true rfl) (Nat.le_of_ble_eq_true rfl) ?_
        rintro _ _ ⟨rfl, rfl⟩
        refine g_aload_n (nx := 52) hX 0 dX4_readSum_51 rfl rfl rfl ?_
        refine g_iload_n (nx := 53) hX 1 dX4_readSum_52 rfl rfl rfl ?_
        refine g_V1 (nx := 56) hX dX4_readSum_53 rfl mX4_147 yX4_readProduct_ok (hF _ (C ++ c1) hnx.2 (by rw [List.length_append]; omega)) (ga_dn hn rfl) rfl rfl rfl (by omega) rfl (Nat.le_of_ble_eq_true rfl) (Nat.le_of_ble_eq_true rfl) ?_
        rintro _ _ ⟨rfl, (⟨k, pl, hE, hk, ta, tv, sz, st, od', hs, rfl⟩ | ⟨q2, c2, hE, rfl⟩)⟩
        all_goals rw [hE] at hR
        · refine g_aload_n (nx := 57) hX 0 dX4_readSum_56 rfl rfl rfl ?_
          refine g_getfield (nx := 60) hX dX4_readSum_57 rfl fX4_76 (ga_dn hn rfl) rfl rfl ?_
          refine g_iload_n (nx := 61) hX 3 dX4_readSum_60 rfl rfl rfl ?_
          refine g_iconst (nx := 62) hX 0 dX4_readSum_61 rfl (by decide) ?_
          refine g_V2 (nx := 65) hX dX4_readSum_62 rfl mX4_137 yX6_addStep_ok (x_add hn hs) (ga_dn hn rfl) rfl rfl rfl (by omega) rfl (Nat.le_of_ble_eq_true rfl) (Nat.le_of_ble_eq_true rfl) ?_
          rintro _ _ ⟨rfl, sz', st', od'', hsz', rfl⟩
          refine g_iinc (nx := 68) hX 2 (nI (i + 1)) dX4_readSum_65 rfl rfl rfl (nI_1 i) ?_
          refine g_goto (nx := 7) hX dX4_readSum_68 (by decide) ?_
          exact g_ls (ex _ _ _ _ _ _ _ _ (by omega) hR hk hsz') ⟨rfl, rfl, rfl, trivial⟩
        · have hL := hln _ _ _ hnx.2 hE
          refine g_aload_n (nx := 57) hX 0 dX4_readSum_56 rfl rfl rfl ?_
          refine g_getfield (nx := 60) hX dX4_readSum_57 rfl fX4_76 (ga_dn hn rfl) rfl rfl ?_
          refine g_iload_n (nx := 61) hX 3 dX4_readSum_60 rfl rfl rfl ?_
          refine g_iconst (nx := 62) hX 0 dX4_readSum_61 rfl (by decide) ?_
          refine g_V2 (nx := 65) hX dX4_readSum_62 rfl mX4_137 yX6_addStep_ok (w_add hn (by simp only [List.length_append]; omega)) (ga_dn hn rfl) rfl rfl rfl (by omega) rfl (Nat.le_of_ble_eq_true rfl) (Nat.le_of_ble_eq_true rfl) ?_
          rintro _ _ ⟨rfl, rfl⟩
          refine g_iinc (nx := 68) hX 2 (nI (i + 1)) dX4_readSum_65 rfl rfl rfl (nI_1 i) ?_
          refine g_goto (nx := 7) hX dX4_readSum_68 (by decide) ?_
          have e9 : C ++ c1 ++ c2 ++ [(o, 0)] = C ++ (c1 ++ c2 ++ [(o, 0)]) := by simp only [List.append_assoc]
          rw [e9]
          exact g_ls (ih _ _ _ (by omega) hR hL.2 (by simp only [List.length_append, List.length_cons, List.length_nil]; omega)) ⟨rfl, rfl, rfl, trivial⟩
      refine g_iload_n (nx := 8) hX 2 dX4_readSum_7 rfl rfl rfl ?_
      refine g_sipush (nx := 11) hX 600 dX4_readSum_8 rfl (by decide) ?_
      refine g_icmp_ge (nx := 14) hX 71 dX4_readSum_11 (by decide) rfl (fun h11 => ?_) (fun h11 => ?_)
      · exact absurd ((nI_leI (a := 600) (by omega) (by omega)).mp h11) (by omega)
      · refine g_aload_n (nx := 15) hX 0 dX4_readSum_14 rfl rfl rfl ?_
        refine g_getfield (nx := 18) hX dX4_readSum_15 rfl fX4_94 (ga_dn hn rfl) rfl rfl ?_
        refine g_bipush (nx := 20) hX 43 dX4_readSum_18 rfl (by decide) ?_
        refine g_icmp_eq (nx := 23) hX 32 dX4_readSum_20 (by decide) rfl (fun h20 => ?_) (fun h20 => ?_)
        · rw [if_pos (Or.inl h20), if_pos h20] at hR
          have hs1 := x_nx_s (tb := tb) (x_tk_n h20 (by decide))
          refine g_aload_n (nx := 33) hX 0 dX4_readSum_32 rfl rfl rfl ?_
          refine g_getfield (nx := 36) hX dX4_readSum_33 rfl fX4_94 (ga_dn hn rfl) rfl rfl ?_
          refine g_bipush (nx := 38) hX 43 dX4_readSum_36 rfl (by decide) ?_
          refine g_icmp_ne (nx := 41) hX 45 dX4_readSum_38 (by decide) rfl (fun h38 => ?_) (fun h38 => ?_)
          · exact absurd h20 h38
          · refine g_iconst (nx := 42) hX 2 dX4_readSum_41 rfl (by decide) ?_
            refine g_goto (nx := 46) hX dX4_readSum_42 (by decide) ?_
            refine g_istore_n (nx := 47) hX 3 dX4_readSum_46 rfl rfl rfl ?_
            exact body 2 hnx.2 hs1 hR
        · refine g_aload_n (nx := 24) hX 0 dX4_readSum_23 rfl rfl rfl ?_
          refine g_getfield (nx := 27) hX dX4_readSum_24 rfl fX4_94 (ga_dn hn rfl) rfl rfl ?_
          refine g_bipush (nx := 29) hX 45 dX4_readSum_27 rfl (by decide) ?_
          refine g_icmp_ne (nx := 32) hX 71 dX4_readSum_29 (by decide) rfl (fun h29 => ?_) (fun h29 => ?_)
          · exact g_return hX hP dX4_readSum_71 (Nat.le_of_ble_eq_true rfl) (Nat.le_of_ble_eq_true rfl) ⟨rfl, Or.inr ⟨_, _, by rw [hR, if_neg (fun z => z.elim h20 h29)], rfl⟩⟩
          · rw [if_pos (Or.inr h29), if_neg h20] at hR
            have hs1 := x_nx_s (tb := tb) (x_tk_n h29 (by decide))
            refine g_aload_n (nx := 33) hX 0 dX4_readSum_32 rfl rfl rfl ?_
            refine g_getfield (nx := 36) hX dX4_readSum_33 rfl fX4_94 (ga_dn hn rfl) rfl rfl ?_
            refine g_bipush (nx := 38) hX 43 dX4_readSum_36 rfl (by decide) ?_
            refine g_icmp_ne (nx := 41) hX 45 dX4_readSum_38 (by decide) rfl (fun h38 => ?_) (fun h38 => ?_)
            · refine g_iconst (nx := 46) hX 3 dX4_readSum_45 rfl (by decide) ?_
              refine g_istore_n (nx := 47) hX 3 dX4_readSum_46 rfl rfl rfl ?_
              exact body 3 hnx.2 hs1 hR
            · exact absurd h38 h20
  refine g_aload_n (nx := 1) hX 0 dX4_readSum_0 rfl rfl rfl ?_
  refine g_iload_n (nx := 2) hX 1 dX4_readSum_1 rfl rfl rfl ?_
  refine g_V1 (nx := 5) hX dX4_readSum_2 rfl mX4_147 yX4_readProduct_ok (hF q C hq hC) (ga_dn hn rfl) rfl rfl rfl (by omega) rfl (Nat.le_of_ble_eq_true rfl) (Nat.le_of_ble_eq_true rfl) ?_
  rintro _ _ ⟨rfl, (⟨k, pl, hE, hk, ta, tv, sz, st, od', hs, rfl⟩ | ⟨q2, c2, hE, rfl⟩)⟩
  · refine g_iconst (nx := 6) hX 0 dX4_readSum_5 rfl (by decide) ?_
    refine g_istore_n (nx := 7) hX 2 dX4_readSum_6 rfl rfl rfl ?_
    exact g_ls (ex 0 _ _ _ _ _ _ _ (by omega) (by unfold R_su; rw [hE]) hk hs) ⟨rfl, rfl, rfl, trivial⟩
  · have hL := hln _ _ _ hq hE
    refine g_iconst (nx := 6) hX 0 dX4_readSum_5 rfl (by decide) ?_
    refine g_istore_n (nx := 7) hX 2 dX4_readSum_6 rfl rfl rfl ?_
    exact g_ls (loop 600 0 _ _ rfl (by unfold R_su; rw [hE]) hL.2 (by omega)) ⟨rfl, rfl, rfl, trivial⟩
theorem w_all (hn : 106 ≤ n) (hl : lt ≤ 600) (hb : ∀ i, i < lt → 0 ≤ tb i) : ∀ fu, fu ≤ 6 → ∀ q C, q ≤ lt → C.length ≤ q → ga_Mt E (2 + 3 * fu) yX4_readFactor cX4_readFactor 3 none 0 0 [.ref 13, .int (nI (6 - fu))] (n, (c0 :: k_T lt :: ga_i 600 tb :: c3 :: c4 :: c5 :: c6 :: c7 :: c8 :: c9 :: c10 :: c11 :: c12 :: k_D (.ref 21) (nI (x_te tb lt (q))) (x_tk tb lt (q)) (nI (q)) (x_tv tb lt (q)) (0) (-1) :: ga_l 39 (nm) :: c15 :: c16 :: c17 :: c18 :: c19 :: c20 :: k_U 21 top (nI (C).length) (z_tot) (z_sm) :: ga_i 600 (z_st (C) st_) :: ga_i 600 (z_od (C) od) :: ga_i 24 (eo) :: ga_i 24 (fo) :: L1), L2, f) (fun r M => r = none ∧ ((∃ k pl, R_F tb lt nm fu q = .inl (k, pl) ∧ (1 ≤ k ∧ k ≤ 4) ∧ (∃ ta tv sz st od, sz ≤ 600 ∧ M = (n, (c0 :: k_T lt :: ga_i 600 tb :: c3 :: c4 :: c5 :: c6 :: c7 :: c8 :: c9 :: c10 :: c11 :: c12 :: k_D (.ref 21) (nI lt) (-1) (ta) (tv) (nI (k)) (nI (pl)) :: ga_l 39 (nm) :: c15 :: c16 :: c17 :: c18 :: c19 :: c20 :: k_U 21 top (nI sz) (z_tot) (z_sm) :: ga_i 600 (st) :: ga_i 600 (od) :: ga_i 24 (eo) :: ga_i 24 (fo) :: L1), L2, f))) ∨ ∃ q' c', R_F tb lt nm fu q = .inr (q', c') ∧ M = (n, (c0 :: k_T lt :: ga_i 600 tb :: c3 :: c4 :: c5 :: c6 :: c7 :: c8 :: c9 :: c10 :: c11 :: c12 :: k_D (.ref 21) (nI (x_te tb lt (q'))) (x_tk tb lt (q')) (nI (q')) (x_tv tb lt (q')) (0) (-1) :: ga_l 39 (nm) :: c15 :: c16 :: c17 :: c18 :: c19 :: c20 :: k_U 21 top (nI (C ++ c').length) (z_tot) (z_sm) :: ga_i 600 (z_st (C ++ c') st_) :: ga_i 600 (z_od (C ++ c') od) :: ga_i 24 (eo) :: ga_i 24 (fo) :: L1), L2, f)))
  | 0, hf, q, C, hq, hC => w_fac hf hn hl hb hq hC (Or.inl ⟨rfl, rfl⟩)
  | fu + 1, hf, q, C, hq, hC => w_fac hf hn hl hb hq hC (Or.inr ⟨_, rfl, by omega, ln_su (ln_F fu), fun q C hq hC => by
      have h1 := w_sum (E := E) (n := n) (top := top) (z_tot := z_tot) (z_sm := z_sm) (st_ := st_) (od := od) (eo := eo) (fo := fo) (nm := nm) (c0 := c0) (c3 := c3) (c4 := c4) (c5 := c5) (c6 := c6) (c7 := c7) (c8 := c8) (c9 := c9) (c10 := c10) (c11 := c11) (c12 := c12) (c15 := c15) (c16 := c16) (c17 := c17) (c18 := c18) (c19 := c19) (c20 := c20) (L1 := L1) (L2 := L2) (f := f) (fu := fu) (by omega) hn hl hb hq hC (ln_pr (ln_F fu)) (fun q C hq hC => w_pro (by omega) hn hl hb hq hC (ln_F fu) (fun q C hq hC => w_all hn hl hb fu (by omega) q C hq hC))
      rw [show 1 + 3 * (fu + 1) = 4 + 3 * fu by omega, show 7 - (fu + 1) = 6 - fu by omega]
      exact h1⟩)
/-- a sum, no bracket open -/
abbrev R_S (tb : Nat → Int32) (lt : Nat) (nm : Nat → Int64) : Nat → z_R := R_su tb lt (R_F tb lt nm 6)
theorem w_sum0 (hn : 106 ≤ n) (hl : lt ≤ 600) (hb : ∀ i, i < lt → 0 ≤ tb i) (hq : q ≤ lt) (hC : C.length ≤ q) : ga_Mt E 22 yX4_readSum cX4_readSum 4 none 0 0 [.ref 13, .int 0] (n, (c0 :: k_T lt :: ga_i 600 tb :: c3 :: c4 :: c5 :: c6 :: c7 :: c8 :: c9 :: c10 :: c11 :: c12 :: k_D (.ref 21) (nI (x_te tb lt (q))) (x_tk tb lt (q)) (nI (q)) (x_tv tb lt (q)) (0) (-1) :: ga_l 39 (nm) :: c15 :: c16 :: c17 :: c18 :: c19 :: c20 :: k_U 21 top (nI (C).length) (z_tot) (z_sm) :: ga_i 600 (z_st (C) st_) :: ga_i 600 (z_od (C) od) :: ga_i 24 (eo) :: ga_i 24 (fo) :: L1), L2, f) (fun r M => r = none ∧ ((∃ k pl, R_S tb lt nm q = .inl (k, pl) ∧ (1 ≤ k ∧ k ≤ 4) ∧ (∃ ta tv sz st od, sz ≤ 600 ∧ M = (n, (c0 :: k_T lt :: ga_i 600 tb :: c3 :: c4 :: c5 :: c6 :: c7 :: c8 :: c9 :: c10 :: c11 :: c12 :: k_D (.ref 21) (nI lt) (-1) (ta) (tv) (nI (k)) (nI (pl)) :: ga_l 39 (nm) :: c15 :: c16 :: c17 :: c18 :: c19 :: c20 :: k_U 21 top (nI sz) (z_tot) (z_sm) :: ga_i 600 (st) :: ga_i 600 (od) :: ga_i 24 (eo) :: ga_i 24 (fo) :: L1), L2, f))) ∨ ∃ q' c', R_S tb lt nm q = .inr (q', c') ∧ M = (n, (c0 :: k_T lt :: ga_i 600 tb :: c3 :: c4 :: c5 :: c6 :: c7 :: c8 :: c9 :: c10 :: c11 :: c12 :: k_D (.ref 21) (nI (x_te tb lt (q'))) (x_tk tb lt (q')) (nI (q')) (x_tv tb lt (q')) (0) (-1) :: ga_l 39 (nm) :: c15 :: c16 :: c17 :: c18 :: c19 :: c20 :: k_U 21 top (nI (C ++ c').length) (z_tot) (z_sm) :: ga_i 600 (z_st (C ++ c') st_) :: ga_i 600 (z_od (C ++ c') od) :: ga_i 24 (eo) :: ga_i 24 (fo) :: L1), L2, f))) :=
  w_sum (fu := 6) (by omega) hn hl hb hq hC (ln_pr (ln_F 6)) (fun q C hq hC => w_pro (by omega) hn hl hb hq hC (ln_F 6) (fun q C hq hC => w_all hn hl hb 6 (by omega) q C hq hC))
theorem ln_S : z_ln lt (R_S tb lt nm) := ln_su (ln_F 6)
end
