/-! ===== statements of the class ===== -/
section
variable {E : ga_E} {X : ga_X} {n : Nat} {c0 c1 c2 c3 c4 c5 c6 c7 c8 c9 c10 c11 c12 c13 c14 c15 c16 c17 c18 c19 c20 c21 c22 c23 c24 c25 c26 c27 c28 c29 c30 m79 m80 m81 m82 m83 m84 m85 m86 m87 m88 m89 m90 m91 m92 m93 m94 m95 m96 m97 m98 m99 m100 m101 m102 m103 m104 m105 : ga_C} {L1 L2 : List ga_C} {f : Nat → ga_C} {o_tp o_rd o_fe o_em o_sp o_ac o_td o_sm o_tt o_at o_sz o_fk o_fp o_nw o_md o_nt o_pl o_op d_at d_tk d_ta d_fd d_fa : Int32} {d_tv : Int64} {d_rl : Value}
variable {z_at z_tk z_ta z_fd z_fa z_sz z_tot z_sm top : Int32} {z_tv : Int64} {nm : Nat → Int64} {tb st_ od eo fo : Nat → Int32} {lt : Nat}
variable {q : Nat} {C Ls : List (Nat × Nat)} {tot : Int32}
theorem c_X4_readTie (hn : 106 ≤ n) (hl : lt ≤ 600) (hb : ∀ i, i < lt → 0 ≤ tb i) (hq : q ≤ lt) (hC : C.length ≤ q) (hs : Ls.length < 24) : ga_Mt E 23 yX4_readTie cX4_readTie 1 none 0 0 [.ref 13] (n, (c0 :: k_T lt :: ga_i 600 tb :: c3 :: c4 :: c5 :: c6 :: c7 :: c8 :: c9 :: c10 :: c11 :: c12 :: k_D (.ref 21) (nI (x_te tb lt (q))) (x_tk tb lt (q)) (nI (q)) (x_tv tb lt (q)) (0) (-1) :: ga_l 39 (nm) :: c15 :: c16 :: c17 :: c18 :: c19 :: c20 :: k_U 21 top (nI (C).length) (tot) (nI (Ls).length) :: ga_i 600 (z_st (C) st_) :: ga_i 600 (z_od (C) od) :: ga_i 24 (z_st (Ls) eo) :: ga_i 24 (z_od (Ls) fo) :: L1), L2, f) (fun r M => r = none ∧ ((∃ k pl, R_S tb lt nm (x_nx tb lt q) = .inl (k, pl) ∧ (1 ≤ k ∧ k ≤ 4) ∧ (∃ ta tv sz st od tot sm eo fo nm_, sz ≤ 600 ∧ sm ≤ 24 ∧ (∀ i, i < 15 → nm_ i = nm i) ∧ M = (n, (c0 :: k_T lt :: ga_i 600 tb :: c3 :: c4 :: c5 :: c6 :: c7 :: c8 :: c9 :: c10 :: c11 :: c12 :: k_D (.ref 21) (nI lt) (-1) (ta) (tv) (nI (k)) (nI (pl)) :: ga_l 39 (nm_) :: c15 :: c16 :: c17 :: c18 :: c19 :: c20 :: k_U 21 top (nI sz) (tot) (nI sm) :: ga_i 600 (st) :: ga_i 600 (od) :: ga_i 24 (eo) :: ga_i 24 (fo) :: L1), L2, f))) ∨ ∃ q' c', R_S tb lt nm (x_nx tb lt q) = .inr (q', c') ∧ M = (n, (c0 :: k_T lt :: ga_i 600 tb :: c3 :: c4 :: c5 :: c6 :: c7 :: c8 :: c9 :: c10 :: c11 :: c12 :: k_D (.ref 21) (nI (x_te tb lt (q'))) (x_tk tb lt (q')) (nI (q')) (x_tv tb lt (q')) (0) (-1) :: ga_l 39 (nm) :: c15 :: c16 :: c17 :: c18 :: c19 :: c20 :: k_U 21 top (nI (C ++ c').length) (tot) (nI (Ls ++ [((C ++ c').length, 2)]).length) :: ga_i 600 (z_st (C ++ c') st_) :: ga_i 600 (z_od (C ++ c') od) :: ga_i 24 (z_st (Ls ++ [((C ++ c').length, 2)]) eo) :: ga_i 24 (z_od (Ls ++ [((C ++ c').length, 2)]) fo) :: L1), L2, f))) := by
  have hnx := x_nx_le (tb := tb) hq
  refine ga_Mt.of (by decide) rfl (fun X hX hP => ?_)
  refine g_less [some (.ref 13)] ⟨rfl, trivial⟩ ?_
  refine g_aload_n (nx := 1) hX 0 dX4_readTie_0 rfl rfl rfl ?_
  refine g_V0 (nx := 4) hX dX4_readTie_1 rfl mX4_91 yX4_advance_ok (w_adv hn hl hq hb) (ga_dn hn rfl) rfl rfl rfl (by decide) rfl (Nat.le_of_ble_eq_true rfl) (Nat.le_of_ble_eq_true rfl) ?_
  rintro _ _ ⟨rfl, rfl⟩
  refine g_aload_n (nx := 5) hX 0 dX4_readTie_4 rfl rfl rfl ?_
  refine g_iconst (nx := 6) hX 0 dX4_readTie_5 rfl (by decide) ?_
  refine g_V1 (nx := 9) hX dX4_readTie_6 rfl mX4_128 yX4_readSum_ok (w_sum0 hn hl hb hnx.2 (by omega)) (ga_dn hn rfl) rfl rfl rfl (by decide) rfl (Nat.le_of_ble_eq_true rfl) (Nat.le_of_ble_eq_true rfl) ?_
  rintro _ _ ⟨rfl, (⟨k, pl, hE, hk, ta, tv, sz, st, od', hs', rfl⟩ | ⟨q2, c2, hE, rfl⟩)⟩
  · refine g_aload_n (nx := 10) hX 0 dX4_readTie_9 rfl rfl rfl ?_
    refine g_getfield (nx := 13) hX dX4_readTie_10 rfl fX4_76 (ga_dn hn rfl) rfl rfl ?_
    refine g_iconst (nx := 14) hX 2 dX4_readTie_13 rfl (by decide) ?_
    refine g_V1 (nx := 17) hX dX4_readTie_14 rfl mX4_131 yX6_closeStatement_ok (x_clo hn (Nat.le_of_lt hs)) (ga_dn hn rfl) rfl rfl rfl (by decide) rfl (Nat.le_of_ble_eq_true rfl) (Nat.le_of_ble_eq_true rfl) ?_
    rintro _ _ ⟨rfl, sm', eo', fo', hm, rfl⟩
    exact g_return hX hP dX4_readTie_17 (Nat.le_of_ble_eq_true rfl) (Nat.le_of_ble_eq_true rfl) ⟨rfl, Or.inl ⟨k, pl, hE, hk, _, _, sz, _, _, _, sm', _, _, nm, hs', hm, fun _ _ => rfl, rfl⟩⟩
  · refine g_aload_n (nx := 10) hX 0 dX4_readTie_9 rfl rfl rfl ?_
    refine g_getfield (nx := 13) hX dX4_readTie_10 rfl fX4_76 (ga_dn hn rfl) rfl rfl ?_
    refine g_iconst (nx := 14) hX 2 dX4_readTie_13 rfl (by decide) ?_
    refine g_V1 (nx := 17) hX dX4_readTie_14 rfl mX4_131 yX6_closeStatement_ok (w_clo (a := 2) hn hs) (ga_dn hn rfl) rfl rfl rfl (by decide) rfl (Nat.le_of_ble_eq_true rfl) (Nat.le_of_ble_eq_true rfl) ?_
    rintro _ _ ⟨rfl, rfl⟩
    exact g_return hX hP dX4_readTie_17 (Nat.le_of_ble_eq_true rfl) (Nat.le_of_ble_eq_true rfl) ⟨rfl, Or.inr ⟨_, _, hE, rfl⟩⟩
theorem c_X4_readOutIf (hn : 106 ≤ n) (hl : lt ≤ 600) (hb : ∀ i, i < lt → 0 ≤ tb i) (hq : q ≤ lt) (hC : C.length ≤ q) (hs : Ls.length < 24) : ga_Mt E 23 yX4_readOutIf cX4_readOutIf 2 none 0 0 [.ref 13] (n, (c0 :: k_T lt :: ga_i 600 tb :: c3 :: c4 :: c5 :: c6 :: c7 :: c8 :: c9 :: c10 :: c11 :: c12 :: k_D (.ref 21) (nI (x_te tb lt (q))) (x_tk tb lt (q)) (nI (q)) (x_tv tb lt (q)) (0) (-1) :: ga_l 39 (nm) :: c15 :: c16 :: c17 :: c18 :: c19 :: c20 :: k_U 21 top (nI (C).length) (tot) (nI (Ls).length) :: ga_i 600 (z_st (C) st_) :: ga_i 600 (z_od (C) od) :: ga_i 24 (z_st (Ls) eo) :: ga_i 24 (z_od (Ls) fo) :: L1), L2, f) (fun r M => r = none ∧ ((∃ k pl, R_out tb lt nm q = .inl (k, pl) ∧ (1 ≤ k ∧ k ≤ 4) ∧ (∃ ta tv sz st od tot sm eo fo nm_, sz ≤ 600 ∧ sm ≤ 24 ∧ (∀ i, i < 15 → nm_ i = nm i) ∧ M = (n, (c0 :: k_T lt :: ga_i 600 tb :: c3 :: c4 :: c5 :: c6 :: c7 :: c8 :: c9 :: c10 :: c11 :: c12 :: k_D (.ref 21) (nI lt) (-1) (ta) (tv) (nI (k)) (nI (pl)) :: ga_l 39 (nm_) :: c15 :: c16 :: c17 :: c18 :: c19 :: c20 :: k_U 21 top (nI sz) (tot) (nI sm) :: ga_i 600 (st) :: ga_i 600 (od) :: ga_i 24 (eo) :: ga_i 24 (fo) :: L1), L2, f))) ∨ ∃ q' c', R_out tb lt nm q = .inr (q', c') ∧ M = (n, (c0 :: k_T lt :: ga_i 600 tb :: c3 :: c4 :: c5 :: c6 :: c7 :: c8 :: c9 :: c10 :: c11 :: c12 :: k_D (.ref 21) (nI (x_te tb lt (q'))) (x_tk tb lt (q')) (nI (q')) (x_tv tb lt (q')) (0) (-1) :: ga_l 39 (nm) :: c15 :: c16 :: c17 :: c18 :: c19 :: c20 :: k_U 21 top (nI (C ++ c').length) (tot) (nI (Ls ++ [((C ++ c').length, 1)]).length) :: ga_i 600 (z_st (C ++ c') st_) :: ga_i 600 (z_od (C ++ c') od) :: ga_i 24 (z_st (Ls ++ [((C ++ c').length, 1)]) eo) :: ga_i 24 (z_od (Ls ++ [((C ++ c').length, 1)]) fo) :: L1), L2, f))) := by
  have hnx := x_nx_le (tb := tb) hq
  have hn2 := x_nx_le (tb := tb) hnx.2
  refine ga_Mt.of (by decide) rfl (fun X hX hP => ?_)
  refine g_less [some (.ref 13), none] ⟨rfl, trivial⟩ ?_
  have ex : ∀ k pl ta tv sz st od', R_out tb lt nm q = .inl (k, pl) → (1 ≤ k ∧ k ≤ 4) → sz ≤ 600 → ∀ o : Int32, ga_G E X 0 0 52 [some (.ref 13), some (.int o)] [] (n, (c0 :: k_T lt :: ga_i 600 tb :: c3 :: c4 :: c5 :: c6 :: c7 :: c8 :: c9 :: c10 :: c11 :: c12 :: k_D (.ref 21) (nI lt) (-1) (ta) (tv) (nI k) (nI pl) :: ga_l 39 (nm) :: c15 :: c16 :: c17 :: c18 :: c19 :: c20 :: k_U 21 top (nI sz) (tot) (nI Ls.length) :: ga_i 600 (st) :: ga_i 600 (od') :: ga_i 24 (z_st Ls eo) :: ga_i 24 (z_od Ls fo) :: L1), L2, f) := by
    intro k pl ta tv sz st od' hR hk hs' o
    refine g_aload_n (nx := 53) hX 0 dX4_readOutIf_52 rfl rfl rfl ?_
    refine g_iconst (nx := 54) hX 0 dX4_readOutIf_53 rfl (by decide) ?_
    refine g_V1 (nx := 57) hX dX4_readOutIf_54 rfl mX4_128 yX4_readSum_ok (x_sum (d := 22) (by omega) hn hk hs') (ga_dn hn rfl) rfl rfl rfl (by decide) rfl (Nat.le_of_ble_eq_true rfl) (Nat.le_of_ble_eq_true rfl) ?_
    rintro _ _ ⟨rfl, ta, tv, sz, st, od', hs', rfl⟩
    refine g_aload_n (nx := 58) hX 0 dX4_readOutIf_57 rfl rfl rfl ?_
    refine g_getfield (nx := 61) hX dX4_readOutIf_58 rfl fX4_76 (ga_dn hn rfl) rfl rfl ?_
    refine g_iload_n (nx := 62) hX 1 dX4_readOutIf_61 rfl rfl rfl ?_
    refine g_iconst (nx := 63) hX 0 dX4_readOutIf_62 rfl (by decide) ?_
    refine g_V2 (nx := 66) hX dX4_readOutIf_63 rfl mX4_137 yX6_addStep_ok (x_add hn hs') (ga_dn hn rfl) rfl rfl rfl (by decide) rfl (Nat.le_of_ble_eq_true rfl) (Nat.le_of_ble_eq_true rfl) ?_
    rintro _ _ ⟨rfl, sz', st', od'', hsz', rfl⟩
    refine g_aload_n (nx := 67) hX 0 dX4_readOutIf_66 rfl rfl rfl ?_
    refine g_getfield (nx := 70) hX dX4_readOutIf_67 rfl fX4_76 (ga_dn hn rfl) rfl rfl ?_
    refine g_iconst (nx := 71) hX 1 dX4_readOutIf_70 rfl (by decide) ?_
    refine g_V1 (nx := 74) hX dX4_readOutIf_71 rfl mX4_131 yX6_closeStatement_ok (x_clo hn (Nat.le_of_lt hs)) (ga_dn hn rfl) rfl rfl rfl (by decide) rfl (Nat.le_of_ble_eq_true rfl) (Nat.le_of_ble_eq_true rfl) ?_
    rintro _ _ ⟨rfl, sm', eo', fo', hm, rfl⟩
    exact g_return hX hP dX4_readOutIf_74 (Nat.le_of_ble_eq_true rfl) (Nat.le_of_ble_eq_true rfl) ⟨rfl, Or.inl ⟨k, pl, hR, hk, _, _, sz', _, _, _, sm', _, _, nm, hsz', hm, fun _ _ => rfl, rfl⟩⟩
  have ex1 : ∀ k pl ta tv sz st od', R_out tb lt nm q = .inl (k, pl) → (1 ≤ k ∧ k ≤ 4) → sz ≤ 600 → ga_G E X 0 0 43 [some (.ref 13), none] [] (n, (c0 :: k_T lt :: ga_i 600 tb :: c3 :: c4 :: c5 :: c6 :: c7 :: c8 :: c9 :: c10 :: c11 :: c12 :: k_D (.ref 21) (nI lt) (-1) (ta) (tv) (nI k) (nI pl) :: ga_l 39 (nm) :: c15 :: c16 :: c17 :: c18 :: c19 :: c20 :: k_U 21 top (nI sz) (tot) (nI Ls.length) :: ga_i 600 (st) :: ga_i 600 (od') :: ga_i 24 (z_st Ls eo) :: ga_i 24 (z_od Ls fo) :: L1), L2, f) := by
    intro k pl ta tv sz st od' hR hk hs'
    refine g_aload_n (nx := 44) hX 0 dX4_readOutIf_43 rfl rfl rfl ?_
    refine g_V0 (nx := 47) hX dX4_readOutIf_44 rfl mX4_134 yX4_comparison_ok (x_cmp hn hk) (ga_dn hn rfl) rfl rfl rfl (by decide) rfl (Nat.le_of_ble_eq_true rfl) (Nat.le_of_ble_eq_true rfl) ?_
    rintro _ _ ⟨rfl, rfl⟩
    refine g_istore_n (nx := 48) hX 1 dX4_readOutIf_47 rfl rfl rfl ?_
    refine g_aload_n (nx := 49) hX 0 dX4_readOutIf_48 rfl rfl rfl ?_
    refine g_V0 (nx := 52) hX dX4_readOutIf_49 rfl mX4_91 yX4_advance_ok (x_adv hn hl hb) (ga_dn hn rfl) rfl rfl rfl (by decide) rfl (Nat.le_of_ble_eq_true rfl) (Nat.le_of_ble_eq_true rfl) ?_
    rintro _ _ ⟨rfl, rfl⟩
    exact ex _ _ _ _ _ _ _ hR hk hs' _
  have no : R_out tb lt nm q = .inl (1, x_nx tb lt q) → ga_G E X 0 0 25 [some (.ref 13), none] [] (n, (c0 :: k_T lt :: ga_i 600 tb :: c3 :: c4 :: c5 :: c6 :: c7 :: c8 :: c9 :: c10 :: c11 :: c12 :: k_D (.ref 21) (nI (x_te tb lt (x_nx tb lt q))) (x_tk tb lt (x_nx tb lt q)) (nI (x_nx tb lt q)) (x_tv tb lt (x_nx tb lt q)) (0) (-1) :: ga_l 39 (nm) :: c15 :: c16 :: c17 :: c18 :: c19 :: c20 :: k_U 21 top (nI (C).length) (tot) (nI (Ls).length) :: ga_i 600 (z_st (C) st_) :: ga_i 600 (z_od (C) od) :: ga_i 24 (z_st (Ls) eo) :: ga_i 24 (z_od (Ls) fo) :: L1), L2, f) := by
    intro hR
    refine g_aload_n (nx := 26) hX 0 dX4_readOutIf_25 rfl rfl rfl ?_
    refine g_iconst (nx := 27) hX 1 dX4_readOutIf_26 rfl (by decide) ?_
    refine g_aload_n (nx := 28) hX 0 dX4_readOutIf_27 rfl rfl rfl ?_
    refine g_getfield (nx := 31) hX dX4_readOutIf_28 rfl fX4_97 (ga_dn hn rfl) rfl rfl ?_
    refine g_V2 (nx := 34) hX dX4_readOutIf_31 rfl mX4_100 yX4_fail_ok (w_fail (k := 1) hn) (ga_dn hn rfl) rfl rfl rfl (by decide) rfl (Nat.le_of_ble_eq_true rfl) (Nat.le_of_ble_eq_true rfl) ?_
    rintro _ _ ⟨rfl, rfl⟩
    refine g_aload_n (nx := 35) hX 0 dX4_readOutIf_34 rfl rfl rfl ?_
    refine g_V0 (nx := 38) hX dX4_readOutIf_35 rfl mX4_91 yX4_advance_ok (x_adv hn hl hb) (ga_dn hn rfl) rfl rfl rfl (by decide) rfl (Nat.le_of_ble_eq_true rfl) (Nat.le_of_ble_eq_true rfl) ?_
    rintro _ _ ⟨rfl, rfl⟩
    refine g_aload_n (nx := 39) hX 0 dX4_readOutIf_38 rfl rfl rfl ?_
    refine g_iconst (nx := 40) hX 0 dX4_readOutIf_39 rfl (by decide) ?_
    refine g_V1 (nx := 43) hX dX4_readOutIf_40 rfl mX4_128 yX4_readSum_ok (x_sum (k := 1) (d := 22) (sz := C.length) (by omega) hn (by omega) (by omega)) (ga_dn hn rfl) rfl rfl rfl (by decide) rfl (Nat.le_of_ble_eq_true rfl) (Nat.le_of_ble_eq_true rfl) ?_
    rintro _ _ ⟨rfl, ta, tv, sz, st, od', hs', rfl⟩
    exact ex1 _ _ _ _ _ _ _ hR (by omega) hs'
  refine g_aload_n (nx := 1) hX 0 dX4_readOutIf_0 rfl rfl rfl ?_
  refine g_V0 (nx := 4) hX dX4_readOutIf_1 rfl mX4_91 yX4_advance_ok (w_adv hn hl hq hb) (ga_dn hn rfl) rfl rfl rfl (by decide) rfl (Nat.le_of_ble_eq_true rfl) (Nat.le_of_ble_eq_true rfl) ?_
  rintro _ _ ⟨rfl, rfl⟩
  refine g_aload_n (nx := 5) hX 0 dX4_readOutIf_4 rfl rfl rfl ?_
  refine g_getfield (nx := 8) hX dX4_readOutIf_5 rfl fX4_94 (ga_dn hn rfl) rfl rfl ?_
  refine g_bipush (nx := 10) hX 97 dX4_readOutIf_8 rfl (by decide) ?_
  refine g_icmp_ne (nx := 13) hX 25 dX4_readOutIf_10 (by decide) rfl (fun h10 => ?_) (fun h10 => ?_)
  · exact no (by unfold R_out; rw [if_neg (fun z => h10 z.1)])
  · refine g_aload_n (nx := 14) hX 0 dX4_readOutIf_13 rfl rfl rfl ?_
    refine g_getfield (nx := 17) hX dX4_readOutIf_14 rfl fX4_104 (ga_dn hn rfl) rfl rfl ?_
    refine g_aload_n (nx := 18) hX 0 dX4_readOutIf_17 rfl rfl rfl ?_
    refine g_getfield (nx := 21) hX dX4_readOutIf_18 rfl fX4_23 (ga_dn hn rfl) rfl rfl ?_
    refine g_lcmp (nx := 22) hX dX4_readOutIf_21 rfl ?_
    refine g_if_eq (nx := 25) hX 34 dX4_readOutIf_22 (by decide) rfl (fun h22 => ?_) (fun h22 => ?_)
    · have hif : x_tk tb lt (x_nx tb lt q) = 97 ∧ x_tv tb lt (x_nx tb lt q) = 294 := ⟨h10, (lg_cmp_eq _ _).mp h22⟩
      refine g_aload_n (nx := 35) hX 0 dX4_readOutIf_34 rfl rfl rfl ?_
      refine g_V0 (nx := 38) hX dX4_readOutIf_35 rfl mX4_91 yX4_advance_ok (w_adv hn hl hnx.2 hb) (ga_dn hn rfl) rfl rfl rfl (by decide) rfl (Nat.le_of_ble_eq_true rfl) (Nat.le_of_ble_eq_true rfl) ?_
      rintro _ _ ⟨rfl, rfl⟩
      refine g_aload_n (nx := 39) hX 0 dX4_readOutIf_38 rfl rfl rfl ?_
      refine g_iconst (nx := 40) hX 0 dX4_readOutIf_39 rfl (by decide) ?_
      refine g_V1 (nx := 43) hX dX4_readOutIf_40 rfl mX4_128 yX4_readSum_ok (w_sum0 hn hl hb hn2.2 (by omega)) (ga_dn hn rfl) rfl rfl rfl (by decide) rfl (Nat.le_of_ble_eq_true rfl) (Nat.le_of_ble_eq_true rfl) ?_
      rintro _ _ ⟨rfl, (⟨k, pl, hE, hk, ta, tv, sz, st, od', hs', rfl⟩ | ⟨q2, c2, hE, rfl⟩)⟩
      · exact ex1 k pl _ _ _ _ _ (by unfold R_out; rw [if_pos hif, hE]) hk hs'
      · have hL := ln_S _ _ _ hn2.2 hE
        refine g_aload_n (nx := 44) hX 0 dX4_readOutIf_43 rfl rfl rfl ?_
        refine g_V0 (nx := 47) hX dX4_readOutIf_44 rfl mX4_134 yX4_comparison_ok (w_cmp hn (by rw [List.length_append]; omega)) (ga_dn hn rfl) rfl rfl rfl (by decide) rfl (Nat.le_of_ble_eq_true rfl) (Nat.le_of_ble_eq_true rfl) ?_
        rintro _ _ (⟨hc, rfl, ta, tv, sz, st, od', hs', rfl⟩ | ⟨hc, rfl, rfl⟩)
        · refine g_istore_n (nx := 48) hX 1 dX4_readOutIf_47 rfl rfl rfl ?_
          refine g_aload_n (nx := 49) hX 0 dX4_readOutIf_48 rfl rfl rfl ?_
          refine g_V0 (nx := 52) hX dX4_readOutIf_49 rfl mX4_91 yX4_advance_ok (x_adv hn hl hb) (ga_dn hn rfl) rfl rfl rfl (by decide) rfl (Nat.le_of_ble_eq_true rfl) (Nat.le_of_ble_eq_true rfl) ?_
          rintro _ _ ⟨rfl, rfl⟩
          exact ex 1 q2 _ _ _ _ _ (by unfold R_out; rw [if_pos hif, hE]; dsimp only; rw [if_pos hc]) (by omega) hs' _
        · have hlt2 := x_tk_in (x_cm_tk hc)
          have hn3 := x_nx_s (tb := tb) hlt2
          have hn4 := x_nx_le (tb := tb) hL.2
          refine g_istore_n (nx := 48) hX 1 dX4_readOutIf_47 rfl rfl rfl ?_
          refine g_aload_n (nx := 49) hX 0 dX4_readOutIf_48 rfl rfl rfl ?_
          refine g_V0 (nx := 52) hX dX4_readOutIf_49 rfl mX4_91 yX4_advance_ok (w_adv hn hl hL.2 hb) (ga_dn hn rfl) rfl rfl rfl (by decide) rfl (Nat.le_of_ble_eq_true rfl) (Nat.le_of_ble_eq_true rfl) ?_
          rintro _ _ ⟨rfl, rfl⟩
          refine g_aload_n (nx := 53) hX 0 dX4_readOutIf_52 rfl rfl rfl ?_
          refine g_iconst (nx := 54) hX 0 dX4_readOutIf_53 rfl (by decide) ?_
          refine g_V1 (nx := 57) hX dX4_readOutIf_54 rfl mX4_128 yX4_readSum_ok (w_sum0 hn hl hb hn4.2 (by rw [List.length_append]; omega)) (ga_dn hn rfl) rfl rfl rfl (by decide) rfl (Nat.le_of_ble_eq_true rfl) (Nat.le_of_ble_eq_true rfl) ?_
          rintro _ _ ⟨rfl, (⟨k, pl, hE5, hk, ta, tv, sz, st, od', hs', rfl⟩ | ⟨q5, c5, hE5, rfl⟩)⟩
          · refine g_aload_n (nx := 58) hX 0 dX4_readOutIf_57 rfl rfl rfl ?_
            refine g_getfield (nx := 61) hX dX4_readOutIf_58 rfl fX4_76 (ga_dn hn rfl) rfl rfl ?_
            refine g_iload_n (nx := 62) hX 1 dX4_readOutIf_61 rfl rfl rfl ?_
            refine g_iconst (nx := 63) hX 0 dX4_readOutIf_62 rfl (by decide) ?_
            refine g_V2 (nx := 66) hX dX4_readOutIf_63 rfl mX4_137 yX6_addStep_ok (x_add hn hs') (ga_dn hn rfl) rfl rfl rfl (by decide) rfl (Nat.le_of_ble_eq_true rfl) (Nat.le_of_ble_eq_true rfl) ?_
            rintro _ _ ⟨rfl, sz', st', od'', hsz', rfl⟩
            refine g_aload_n (nx := 67) hX 0 dX4_readOutIf_66 rfl rfl rfl ?_
            refine g_getfield (nx := 70) hX dX4_readOutIf_67 rfl fX4_76 (ga_dn hn rfl) rfl rfl ?_
            refine g_iconst (nx := 71) hX 1 dX4_readOutIf_70 rfl (by decide) ?_
            refine g_V1 (nx := 74) hX dX4_readOutIf_71 rfl mX4_131 yX6_closeStatement_ok (x_clo hn (Nat.le_of_lt hs)) (ga_dn hn rfl) rfl rfl rfl (by decide) rfl (Nat.le_of_ble_eq_true rfl) (Nat.le_of_ble_eq_true rfl) ?_
            rintro _ _ ⟨rfl, sm', eo', fo', hm, rfl⟩
            exact g_return hX hP dX4_readOutIf_74 (Nat.le_of_ble_eq_true rfl) (Nat.le_of_ble_eq_true rfl) ⟨rfl, Or.inl ⟨k, pl, by unfold R_out; rw [if_pos hif, hE]; dsimp only; rw [if_neg hc, hE5], hk, _, _, sz', _, _, _, sm', _, _, nm, hsz', hm, fun _ _ => rfl, rfl⟩⟩
          · have hL5 := ln_S _ _ _ hn4.2 hE5
            refine g_aload_n (nx := 58) hX 0 dX4_readOutIf_57 rfl rfl rfl ?_
            refine g_getfield (nx := 61) hX dX4_readOutIf_58 rfl fX4_76 (ga_dn hn rfl) rfl rfl ?_
            refine g_iload_n (nx := 62) hX 1 dX4_readOutIf_61 rfl rfl rfl ?_
            refine g_iconst (nx := 63) hX 0 dX4_readOutIf_62 rfl (by decide) ?_
            refine g_V2 (nx := 66) hX dX4_readOutIf_63 rfl mX4_137 yX6_addStep_ok (w_add hn (by simp only [List.length_append]; omega)) (ga_dn hn rfl) rfl rfl rfl (by decide) rfl (Nat.le_of_ble_eq_true rfl) (Nat.le_of_ble_eq_true rfl) ?_
            rintro _ _ ⟨rfl, rfl⟩
            refine g_aload_n (nx := 67) hX 0 dX4_readOutIf_66 rfl rfl rfl ?_
            refine g_getfield (nx := 70) hX dX4_readOutIf_67 rfl fX4_76 (ga_dn hn rfl) rfl rfl ?_
            refine g_iconst (nx := 71) hX 1 dX4_readOutIf_70 rfl (by decide) ?_
            refine g_V1 (nx := 74) hX dX4_readOutIf_71 rfl mX4_131 yX6_closeStatement_ok (w_clo (a := 1) hn hs) (ga_dn hn rfl) rfl rfl rfl (by decide) rfl (Nat.le_of_ble_eq_true rfl) (Nat.le_of_ble_eq_true rfl) ?_
            rintro _ _ ⟨rfl, rfl⟩
            exact g_return hX hP dX4_readOutIf_74 (Nat.le_of_ble_eq_true rfl) (Nat.le_of_ble_eq_true rfl) ⟨rfl, Or.inr ⟨_, _, by unfold R_out; rw [if_pos hif, hE]; dsimp only; rw [if_neg hc, hE5], by rw [show C ++ c2 ++ c5 ++ [(x_cm (x_tk tb lt q2), 0)] = C ++ (c2 ++ c5 ++ [(x_cm (x_tk tb lt q2), 0)]) by simp only [List.append_assoc]] <;> rfl⟩⟩
    · exact no (by unfold R_out; rw [if_neg (fun z => h22 ((lg_cmp_eq _ _).mpr z.2))])
theorem c_X4_readGiving (hn : 106 ≤ n) (hl : lt ≤ 600) (hb : ∀ i, i < lt → 0 ≤ tb i) (hq : q ≤ lt) (hC : C.length ≤ q) (hs : Ls.length < 24) : ga_Mt E 23 yX4_readGiving cX4_readGiving 4 none 0 0 [.ref 13, .int (nI (15 + Ls.length))] (n, (c0 :: k_T lt :: ga_i 600 tb :: c3 :: c4 :: c5 :: c6 :: c7 :: c8 :: c9 :: c10 :: c11 :: c12 :: k_D (.ref 21) (nI (x_te tb lt (q))) (x_tk tb lt (q)) (nI (q)) (x_tv tb lt (q)) (0) (-1) :: ga_l 39 (nm) :: c15 :: c16 :: c17 :: c18 :: c19 :: c20 :: k_U 21 top (nI (C).length) (tot) (nI (Ls).length) :: ga_i 600 (z_st (C) st_) :: ga_i 600 (z_od (C) od) :: ga_i 24 (z_st (Ls) eo) :: ga_i 24 (z_od (Ls) fo) :: L1), L2, f) (fun r M => r = none ∧ ((∃ k pl, R_giv tb lt nm q = .inl (k, pl) ∧ (1 ≤ k ∧ k ≤ 4) ∧ (∃ ta tv sz st od tot sm eo fo nm_, sz ≤ 600 ∧ sm ≤ 24 ∧ (∀ i, i < 15 → nm_ i = nm i) ∧ M = (n, (c0 :: k_T lt :: ga_i 600 tb :: c3 :: c4 :: c5 :: c6 :: c7 :: c8 :: c9 :: c10 :: c11 :: c12 :: k_D (.ref 21) (nI lt) (-1) (ta) (tv) (nI (k)) (nI (pl)) :: ga_l 39 (nm_) :: c15 :: c16 :: c17 :: c18 :: c19 :: c20 :: k_U 21 top (nI sz) (tot) (nI sm) :: ga_i 600 (st) :: ga_i 600 (od) :: ga_i 24 (eo) :: ga_i 24 (fo) :: L1), L2, f))) ∨ ∃ q' c', R_giv tb lt nm q = .inr (q', c') ∧ M = (n, (c0 :: k_T lt :: ga_i 600 tb :: c3 :: c4 :: c5 :: c6 :: c7 :: c8 :: c9 :: c10 :: c11 :: c12 :: k_D (.ref 21) (nI (x_te tb lt (q'))) (x_tk tb lt (q')) (nI (q')) (x_tv tb lt (q')) (0) (-1) :: ga_l 39 (vp_updL nm (15 + Ls.length) (x_tv tb lt q)) :: c15 :: c16 :: c17 :: c18 :: c19 :: c20 :: k_U 21 top (nI (C ++ c').length) (if x_tv tb lt q = 21483564 then nI (15 + Ls.length) else tot) (nI (Ls ++ [((C ++ c').length, 0)]).length) :: ga_i 600 (z_st (C ++ c') st_) :: ga_i 600 (z_od (C ++ c') od) :: ga_i 24 (z_st (Ls ++ [((C ++ c').length, 0)]) eo) :: ga_i 24 (z_od (Ls ++ [((C ++ c').length, 0)]) fo) :: L1), L2, f))) := by
  have hnx := x_nx_le (tb := tb) hq
  have hn2 := x_nx_le (tb := tb) hnx.2
  have up : ∀ i, i < 15 → vp_updL nm (15 + Ls.length) (x_tv tb lt q) i = nm i := fun i hi => pk_uLn (by omega)
  refine ga_Mt.of (by decide) rfl (fun X hX hP => ?_)
  refine g_less [some (.ref 13), some (.int (nI (15 + Ls.length))), none, none] ⟨rfl, rfl, trivial⟩ ?_
  have ex : ∀ k pl ta tv sz st od', R_giv tb lt nm q = .inl (k, pl) → (1 ≤ k ∧ k ≤ 4) → sz ≤ 600 → ga_G E X 0 0 22 [some (.ref 13), some (.int (nI (15 + Ls.length))), some (.long (x_tv tb lt q)), none] [] (n, (c0 :: k_T lt :: ga_i 600 tb :: c3 :: c4 :: c5 :: c6 :: c7 :: c8 :: c9 :: c10 :: c11 :: c12 :: k_D (.ref 21) (nI lt) (-1) (ta) (tv) (nI k) (nI pl) :: ga_l 39 (nm) :: c15 :: c16 :: c17 :: c18 :: c19 :: c20 :: k_U 21 top (nI sz) (tot) (nI Ls.length) :: ga_i 600 (st) :: ga_i 600 (od') :: ga_i 24 (z_st Ls eo) :: ga_i 24 (z_od Ls fo) :: L1), L2, f) := by
    intro k pl ta tv sz st od' hR hk hs'
    refine g_aload_n (nx := 23) hX 0 dX4_readGiving_22 rfl rfl rfl ?_
    refine g_getfield (nx := 26) hX dX4_readGiving_23 rfl fX4_76 (ga_dn hn rfl) rfl rfl ?_
    refine g_iconst (nx := 27) hX 0 dX4_readGiving_26 rfl (by decide) ?_
    refine g_V1 (nx := 30) hX dX4_readGiving_27 rfl mX4_131 yX6_closeStatement_ok (x_clo hn (Nat.le_of_lt hs)) (ga_dn hn rfl) rfl rfl rfl (by decide) rfl (Nat.le_of_ble_eq_true rfl) (Nat.le_of_ble_eq_true rfl) ?_
    rintro _ _ ⟨rfl, sm', eo', fo', hm, rfl⟩
    refine g_aload_n (nx := 31) hX 0 dX4_readGiving_30 rfl rfl rfl ?_
    refine g_getfield (nx := 34) hX dX4_readGiving_31 rfl fX4_48 (ga_dn hn rfl) rfl rfl ?_
    refine g_iload_n (nx := 35) hX 1 dX4_readGiving_34 rfl rfl rfl ?_
    refine g_lload_n (nx := 36) hX 2 dX4_readGiving_35 rfl rfl rfl ?_
    refine g_lastore (nx := 37) hX dX4_readGiving_36 rfl (ga_dn hn rfl) rfl (ga_ix_of (j := 15 + Ls.length) rfl (by omega) (by omega)) ?_
    refine g_lload_n (nx := 38) hX 2 dX4_readGiving_37 rfl rfl rfl ?_
    refine g_aload_n (nx := 39) hX 0 dX4_readGiving_38 rfl rfl rfl ?_
    refine g_getfield (nx := 42) hX dX4_readGiving_39 rfl fX4_43 (ga_dn hn rfl) rfl rfl ?_
    refine g_lcmp (nx := 43) hX dX4_readGiving_42 rfl ?_
    refine g_if_ne (nx := 46) hX 54 dX4_readGiving_43 (by decide) rfl (fun h43 => ?_) (fun h43 => ?_)
    · exact g_return hX hP dX4_readGiving_54 (Nat.le_of_ble_eq_true rfl) (Nat.le_of_ble_eq_true rfl) ⟨rfl, Or.inl ⟨k, pl, hR, hk, _, _, sz, _, _, _, sm', _, _, _, hs', hm, up, rfl⟩⟩
    · refine g_aload_n (nx := 47) hX 0 dX4_readGiving_46 rfl rfl rfl ?_
      refine g_getfield (nx := 50) hX dX4_readGiving_47 rfl fX4_76 (ga_dn hn rfl) rfl rfl ?_
      refine g_iload_n (nx := 51) hX 1 dX4_readGiving_50 rfl rfl rfl ?_
      refine g_V1 (nx := 54) hX dX4_readGiving_51 rfl mX4_144 yX6_setTotal_ok (c_X6_setTotal hn) (ga_dn hn rfl) rfl rfl rfl (by decide) rfl (Nat.le_of_ble_eq_true rfl) (Nat.le_of_ble_eq_true rfl) ?_
      rintro _ _ ⟨rfl, rfl⟩
      exact g_return hX hP dX4_readGiving_54 (Nat.le_of_ble_eq_true rfl) (Nat.le_of_ble_eq_true rfl) ⟨rfl, Or.inl ⟨k, pl, hR, hk, _, _, sz, _, _, _, sm', _, _, _, hs', hm, up, rfl⟩⟩
  have ex1 : ∀ k pl ta tv sz st od', R_giv tb lt nm q = .inl (k, pl) → (1 ≤ k ∧ k ≤ 4) → sz ≤ 600 → ga_G E X 0 0 17 [some (.ref 13), some (.int (nI (15 + Ls.length))), some (.long (x_tv tb lt q)), none] [] (n, (c0 :: k_T lt :: ga_i 600 tb :: c3 :: c4 :: c5 :: c6 :: c7 :: c8 :: c9 :: c10 :: c11 :: c12 :: k_D (.ref 21) (nI lt) (-1) (ta) (tv) (nI k) (nI pl) :: ga_l 39 (nm) :: c15 :: c16 :: c17 :: c18 :: c19 :: c20 :: k_U 21 top (nI sz) (tot) (nI Ls.length) :: ga_i 600 (st) :: ga_i 600 (od') :: ga_i 24 (z_st Ls eo) :: ga_i 24 (z_od Ls fo) :: L1), L2, f) := by
    intro k pl ta tv sz st od' hR hk hs'
    refine g_aload_n (nx := 18) hX 0 dX4_readGiving_17 rfl rfl rfl ?_
    refine g_iconst (nx := 19) hX 0 dX4_readGiving_18 rfl (by decide) ?_
    refine g_V1 (nx := 22) hX dX4_readGiving_19 rfl mX4_128 yX4_readSum_ok (x_sum (d := 22) (by omega) hn hk hs') (ga_dn hn rfl) rfl rfl rfl (by decide) rfl (Nat.le_of_ble_eq_true rfl) (Nat.le_of_ble_eq_true rfl) ?_
    rintro _ _ ⟨rfl, ta, tv, sz, st, od', hs', rfl⟩
    exact ex _ _ _ _ _ _ _ hR hk hs'
  refine g_aload_n (nx := 1) hX 0 dX4_readGiving_0 rfl rfl rfl ?_
  refine g_getfield (nx := 4) hX dX4_readGiving_1 rfl fX4_104 (ga_dn hn rfl) rfl rfl ?_
  refine g_lstore_n (nx := 5) hX 2 dX4_readGiving_4 rfl rfl rfl ?_
  refine g_aload_n (nx := 6) hX 0 dX4_readGiving_5 rfl rfl rfl ?_
  refine g_iconst (nx := 7) hX 0 dX4_readGiving_6 rfl (by decide) ?_
  refine g_V1 (nx := 10) hX dX4_readGiving_7 rfl mX4_140 yX4_takeName_ok (w_name (b := 0) hn hl hq (by omega) hb (Or.inl rfl)) (ga_dn hn rfl) rfl rfl rfl (by decide) rfl (Nat.le_of_ble_eq_true rfl) (Nat.le_of_ble_eq_true rfl) ?_
  rintro _ _ ⟨rfl, (⟨k, pl, hE, hk, ta, tv, sz, st, od', hs', rfl⟩ | ⟨hE, rfl⟩)⟩
  · refine g_pop (nx := 11) hX dX4_readGiving_10 rfl rfl ?_
    refine g_aload_n (nx := 12) hX 0 dX4_readGiving_11 rfl rfl rfl ?_
    refine g_bipush (nx := 14) hX 61 dX4_readGiving_12 rfl (by decide) ?_
    refine g_V1 (nx := 17) hX dX4_readGiving_14 rfl mX4_117 yX4_expect_ok (x_exp hn hl hk hb) (ga_dn hn rfl) rfl rfl rfl (by decide) rfl (Nat.le_of_ble_eq_true rfl) (Nat.le_of_ble_eq_true rfl) ?_
    rintro _ _ ⟨rfl, rfl⟩
    exact ex1 k pl _ _ _ _ _ (by unfold R_giv; rw [hE]) hk hs'
  · refine g_pop (nx := 11) hX dX4_readGiving_10 rfl rfl ?_
    refine g_aload_n (nx := 12) hX 0 dX4_readGiving_11 rfl rfl rfl ?_
    refine g_bipush (nx := 14) hX 61 dX4_readGiving_12 rfl (by decide) ?_
    refine g_V1 (nx := 17) hX dX4_readGiving_14 rfl mX4_117 yX4_expect_ok (w_exp hn hl hnx.2 (by omega) hb) (ga_dn hn rfl) rfl rfl rfl (by decide) rfl (Nat.le_of_ble_eq_true rfl) (Nat.le_of_ble_eq_true rfl) ?_
    rintro _ _ ⟨rfl, (⟨h61, ta, tv, sz, st, od', hs', rfl⟩ | ⟨h61, rfl⟩)⟩
    · exact ex1 1 (x_nx tb lt q) _ _ _ _ _ (by unfold R_giv; rw [hE]; dsimp only; rw [if_neg h61]) (by omega) hs'
    · refine g_aload_n (nx := 18) hX 0 dX4_readGiving_17 rfl rfl rfl ?_
      refine g_iconst (nx := 19) hX 0 dX4_readGiving_18 rfl (by decide) ?_
      refine g_V1 (nx := 22) hX dX4_readGiving_19 rfl mX4_128 yX4_readSum_ok (w_sum0 hn hl hb hn2.2 (by omega)) (ga_dn hn rfl) rfl rfl rfl (by decide) rfl (Nat.le_of_ble_eq_true rfl) (Nat.le_of_ble_eq_true rfl) ?_
      rintro _ _ ⟨rfl, (⟨k, pl, hE2, hk, ta, tv, sz, st, od', hs', rfl⟩ | ⟨q2, c2, hE2, rfl⟩)⟩
      · exact ex k pl _ _ _ _ _ (by unfold R_giv; rw [hE]; dsimp only; rw [if_pos h61, hE2]) hk hs'
      · refine g_aload_n (nx := 23) hX 0 dX4_readGiving_22 rfl rfl rfl ?_
        refine g_getfield (nx := 26) hX dX4_readGiving_23 rfl fX4_76 (ga_dn hn rfl) rfl rfl ?_
        refine g_iconst (nx := 27) hX 0 dX4_readGiving_26 rfl (by decide) ?_
        refine g_V1 (nx := 30) hX dX4_readGiving_27 rfl mX4_131 yX6_closeStatement_ok (w_clo (a := 0) hn hs) (ga_dn hn rfl) rfl rfl rfl (by decide) rfl (Nat.le_of_ble_eq_true rfl) (Nat.le_of_ble_eq_true rfl) ?_
        rintro _ _ ⟨rfl, rfl⟩
        refine g_aload_n (nx := 31) hX 0 dX4_readGiving_30 rfl rfl rfl ?_
        refine g_getfield (nx := 34) hX dX4_readGiving_31 rfl fX4_48 (ga_dn hn rfl) rfl rfl ?_
        refine g_iload_n (nx := 35) hX 1 dX4_readGiving_34 rfl rfl rfl ?_
        refine g_lload_n (nx := 36) hX 2 dX4_readGiving_35 rfl rfl rfl ?_
        refine g_lastore (nx := 37) hX dX4_readGiving_36 rfl (ga_dn hn rfl) rfl (ga_ix_of (j := 15 + Ls.length) rfl (by omega) (by omega)) ?_
        refine g_lload_n (nx := 38) hX 2 dX4_readGiving_37 rfl rfl rfl ?_
        refine g_aload_n (nx := 39) hX 0 dX4_readGiving_38 rfl rfl rfl ?_
        refine g_getfield (nx := 42) hX dX4_readGiving_39 rfl fX4_43 (ga_dn hn rfl) rfl rfl ?_
        refine g_lcmp (nx := 43) hX dX4_readGiving_42 rfl ?_
        refine g_if_ne (nx := 46) hX 54 dX4_readGiving_43 (by decide) rfl (fun h43 => ?_) (fun h43 => ?_)
        · exact g_return hX hP dX4_readGiving_54 (Nat.le_of_ble_eq_true rfl) (Nat.le_of_ble_eq_true rfl) ⟨rfl, Or.inr ⟨_, _, by unfold R_giv; rw [hE]; dsimp only; rw [if_pos h61, hE2], by rw [if_neg (fun z => h43 ((lg_cmp_eq _ _).mpr z))] <;> rfl⟩⟩
        · refine g_aload_n (nx := 47) hX 0 dX4_readGiving_46 rfl rfl rfl ?_
          refine g_getfield (nx := 50) hX dX4_readGiving_47 rfl fX4_76 (ga_dn hn rfl) rfl rfl ?_
          refine g_iload_n (nx := 51) hX 1 dX4_readGiving_50 rfl rfl rfl ?_
          refine g_V1 (nx := 54) hX dX4_readGiving_51 rfl mX4_144 yX6_setTotal_ok (c_X6_setTotal hn) (ga_dn hn rfl) rfl rfl rfl (by decide) rfl (Nat.le_of_ble_eq_true rfl) (Nat.le_of_ble_eq_true rfl) ?_
          rintro _ _ ⟨rfl, rfl⟩
          exact g_return hX hP dX4_readGiving_54 (Nat.le_of_ble_eq_true rfl) (Nat.le_of_ble_eq_true rfl) ⟨rfl, Or.inr ⟨_, _, by unfold R_giv; rw [hE]; dsimp only; rw [if_pos h61, hE2], by rw [if_pos ((lg_cmp_eq _ _).mp h43)] <;> rfl⟩⟩
end
