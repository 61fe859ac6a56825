/-! ===== the reader of the class: numbers, names, signs, steps ===== -/
section
variable {E : ga_E} {X : ga_X} {n : Nat} {c0 c1 c2 c3 c4 c5 c6 c7 c8 c9 c10 c11 c12 c13 c14 c15 c16 c17 c18 c19 c20 c21 c22 c23 c24 c25 c26 c27 c28 c29 c30 m79 m80 m81 m82 m83 m84 m85 m86 m87 m88 m89 m90 m91 m92 m93 m94 m95 m96 m97 m98 m99 m100 m101 m102 m103 m104 m105 : ga_C} {L1 L2 : List ga_C} {f : Nat → ga_C} {o_tp o_rd o_fe o_em o_sp o_ac o_td o_sm o_tt o_at o_sz o_fk o_fp o_nw o_md o_nt o_pl o_op d_at d_tk d_ta d_fd d_fa : Int32} {d_tv : Int64} {d_rl : Value}
variable {z_at z_tk z_ta z_fd z_fa z_sz z_tot z_sm top : Int32} {z_tv : Int64} {nm : Nat → Int64} {tb st_ od eo fo : Nat → Int32} {lt : Nat}
variable {q k pl sz : Nat} {C : List (Nat × Nat)} {ta : Int32} {tv : Int64} {st : Nat → Int32}
theorem w_num (hn : 106 ≤ n) (hl : lt ≤ 600) (hq : q ≤ lt) (hC : C.length ≤ 600) (hb : ∀ i, i < lt → 0 ≤ tb i) (ht : x_tk tb lt q = 48) : ga_Mt E 1 yX4_takeNumber cX4_takeNumber 2 (some .int) 0 0 [.ref 13] (n, (c0 :: k_T lt :: ga_i 600 tb :: c3 :: c4 :: c5 :: c6 :: c7 :: c8 :: c9 :: c10 :: c11 :: c12 :: k_D (.ref 21) (nI (x_te tb lt (q))) (x_tk tb lt (q)) (nI (q)) (x_tv tb lt (q)) (0) (-1) :: ga_l 39 (nm) :: c15 :: c16 :: c17 :: c18 :: c19 :: c20 :: k_U 21 top (nI (C).length) (z_tot) (z_sm) :: ga_i 600 (z_st (C) st_) :: ga_i 600 (z_od (C) od) :: ga_i 24 (eo) :: ga_i 24 (fo) :: L1), L2, f) (fun r M => (5 < x_te tb lt q - q ∧ (∃ v, r = some (.int v)) ∧ (∃ ta tv sz st od, sz ≤ 600 ∧ M = (n, (c0 :: k_T lt :: ga_i 600 tb :: c3 :: c4 :: c5 :: c6 :: c7 :: c8 :: c9 :: c10 :: c11 :: c12 :: k_D (.ref 21) (nI lt) (-1) (ta) (tv) (nI (1)) (nI (q + 5)) :: ga_l 39 (nm) :: c15 :: c16 :: c17 :: c18 :: c19 :: c20 :: k_U 21 top (nI sz) (z_tot) (z_sm) :: ga_i 600 (st) :: ga_i 600 (od) :: ga_i 24 (eo) :: ga_i 24 (fo) :: L1), L2, f))) ∨ (¬ 5 < x_te tb lt q - q ∧ r = some (.int (nI (x_num tb lt q))) ∧ M = (n, (c0 :: k_T lt :: ga_i 600 tb :: c3 :: c4 :: c5 :: c6 :: c7 :: c8 :: c9 :: c10 :: c11 :: c12 :: k_D (.ref 21) (nI (x_te tb lt (x_nx tb lt q))) (x_tk tb lt (x_nx tb lt q)) (nI (x_nx tb lt q)) (x_tv tb lt (x_nx tb lt q)) (0) (-1) :: ga_l 39 (nm) :: c15 :: c16 :: c17 :: c18 :: c19 :: c20 :: k_U 21 top (nI (C).length) (z_tot) (z_sm) :: ga_i 600 (z_st (C) st_) :: ga_i 600 (z_od (C) od) :: ga_i 24 (eo) :: ga_i 24 (fo) :: L1), L2, f))) := by
  have hte := x_te_le (tb := tb) hq
  have e1 : nI (x_te tb lt q) - nI q = nI (x_te tb lt q - q) := pk_sub hte.1
  refine ga_Mt.of (by decide) rfl (fun X hX hP => ?_)
  refine g_less [some (.ref 13), none] ⟨rfl, trivial⟩ ?_
  refine g_aload_n (nx := 1) hX 0 dX4_takeNumber_0 rfl rfl rfl ?_
  refine g_getfield (nx := 4) hX dX4_takeNumber_1 rfl fX4_88 (ga_dn hn rfl) rfl rfl ?_
  refine g_aload_n (nx := 5) hX 0 dX4_takeNumber_4 rfl rfl rfl ?_
  refine g_getfield (nx := 8) hX dX4_takeNumber_5 rfl fX4_97 (ga_dn hn rfl) rfl rfl ?_
  refine g_isub (nx := 9) hX dX4_takeNumber_8 rfl ?_
  refine g_iconst (nx := 10) hX 5 dX4_takeNumber_9 rfl (by decide) ?_
  rw [e1]
  refine g_icmp_le (nx := 13) hX 24 dX4_takeNumber_10 (by decide) rfl (fun h10 => ?_) (fun h10 => ?_)
  · have h5 : ¬ 5 < x_te tb lt q - q := by have := (nI_leI (b := 5) (by omega) (by omega)).mp h10; omega
    refine g_aload_n (nx := 25) hX 0 dX4_takeNumber_24 rfl rfl rfl ?_
    refine g_getfield (nx := 28) hX dX4_takeNumber_25 rfl fX4_104 (ga_dn hn rfl) rfl rfl ?_
    refine g_l2i (nx := 29) hX dX4_takeNumber_28 rfl ?_
    rw [show (x_tv tb lt q).toInt32 = nI (x_num tb lt q) by rw [(x_num_N ht h5).1, lN_i]]
    refine g_istore_n (nx := 30) hX 1 dX4_takeNumber_29 rfl rfl rfl ?_
    refine g_aload_n (nx := 31) hX 0 dX4_takeNumber_30 rfl rfl rfl ?_
    refine g_V0 (nx := 34) hX dX4_takeNumber_31 rfl mX4_91 yX4_advance_ok (w_adv hn hl hq hb) (ga_dn hn rfl) rfl rfl rfl (by decide) rfl (Nat.le_of_ble_eq_true rfl) (Nat.le_of_ble_eq_true rfl) ?_
    rintro _ _ ⟨rfl, rfl⟩
    refine g_iload_n (nx := 35) hX 1 dX4_takeNumber_34 rfl rfl rfl ?_
    exact g_ireturn hX hP dX4_takeNumber_35 rfl (Nat.le_of_ble_eq_true rfl) (Nat.le_of_ble_eq_true rfl) (Or.inr ⟨h5, rfl, rfl⟩)
  · have h5 : 5 < x_te tb lt q - q := Nat.lt_of_not_le (fun z => h10 (nI_le (b := 5) z (by omega)))
    refine g_aload_n (nx := 14) hX 0 dX4_takeNumber_13 rfl rfl rfl ?_
    refine g_iconst (nx := 15) hX 1 dX4_takeNumber_14 rfl (by decide) ?_
    refine g_aload_n (nx := 16) hX 0 dX4_takeNumber_15 rfl rfl rfl ?_
    refine g_getfield (nx := 19) hX dX4_takeNumber_16 rfl fX4_97 (ga_dn hn rfl) rfl rfl ?_
    refine g_iconst (nx := 20) hX 5 dX4_takeNumber_19 rfl (by decide) ?_
    refine g_iadd (nx := 21) hX dX4_takeNumber_20 rfl ?_
    rw [show nI q + 5 = nI (q + 5) from nI_add q 5]
    refine g_V2 (nx := 24) hX dX4_takeNumber_21 rfl mX4_100 yX4_fail_ok (w_fail (k := 1) hn) (ga_dn hn rfl) rfl rfl rfl (by decide) rfl (Nat.le_of_ble_eq_true rfl) (Nat.le_of_ble_eq_true rfl) ?_
    rintro _ _ ⟨rfl, rfl⟩
    refine g_aload_n (nx := 25) hX 0 dX4_takeNumber_24 rfl rfl rfl ?_
    refine g_getfield (nx := 28) hX dX4_takeNumber_25 rfl fX4_104 (ga_dn hn rfl) rfl rfl ?_
    refine g_l2i (nx := 29) hX dX4_takeNumber_28 rfl ?_
    refine g_istore_n (nx := 30) hX 1 dX4_takeNumber_29 rfl rfl rfl ?_
    refine g_aload_n (nx := 31) hX 0 dX4_takeNumber_30 rfl rfl rfl ?_
    refine g_V0 (nx := 34) hX dX4_takeNumber_31 rfl mX4_91 yX4_advance_ok (x_adv hn hl hb) (ga_dn hn rfl) rfl rfl rfl (by decide) rfl (Nat.le_of_ble_eq_true rfl) (Nat.le_of_ble_eq_true rfl) ?_
    rintro _ _ ⟨rfl, rfl⟩
    refine g_iload_n (nx := 35) hX 1 dX4_takeNumber_34 rfl rfl rfl ?_
    exact g_ireturn hX hP dX4_takeNumber_35 rfl (Nat.le_of_ble_eq_true rfl) (Nat.le_of_ble_eq_true rfl) (Or.inl ⟨h5, ⟨_, rfl⟩, _, _, C.length, _, _, hC, rfl⟩)
theorem x_numE (hn : 106 ≤ n) (hl : lt ≤ 600) (hk : 1 ≤ k ∧ k ≤ 4) (hb : ∀ i, i < lt → 0 ≤ tb i) : ga_Mt E 1 yX4_takeNumber cX4_takeNumber 2 (some .int) 0 0 [.ref 13] (n, (c0 :: k_T lt :: ga_i 600 tb :: c3 :: c4 :: c5 :: c6 :: c7 :: c8 :: c9 :: c10 :: c11 :: c12 :: k_D (.ref 21) (nI lt) (-1) (ta) (tv) (nI k) (nI pl) :: ga_l 39 (nm) :: c15 :: c16 :: c17 :: c18 :: c19 :: c20 :: k_U 21 top (nI sz) (z_tot) (z_sm) :: ga_i 600 (st) :: ga_i 600 (od) :: ga_i 24 (eo) :: ga_i 24 (fo) :: L1), L2, f) (fun r M => (∃ v, r = some (.int v)) ∧ M = (n, (c0 :: k_T lt :: ga_i 600 tb :: c3 :: c4 :: c5 :: c6 :: c7 :: c8 :: c9 :: c10 :: c11 :: c12 :: k_D (.ref 21) (nI lt) (-1) (nI lt) (0) (nI k) (nI pl) :: ga_l 39 (nm) :: c15 :: c16 :: c17 :: c18 :: c19 :: c20 :: k_U 21 top (nI sz) (z_tot) (z_sm) :: ga_i 600 (st) :: ga_i 600 (od) :: ga_i 24 (eo) :: ga_i 24 (fo) :: L1), L2, f)) := by
  refine ga_Mt.of (by decide) rfl (fun X hX hP => ?_)
  refine g_less [some (.ref 13), none] ⟨rfl, trivial⟩ ?_
  refine g_aload_n (nx := 1) hX 0 dX4_takeNumber_0 rfl rfl rfl ?_
  refine g_getfield (nx := 4) hX dX4_takeNumber_1 rfl fX4_88 (ga_dn hn rfl) rfl rfl ?_
  refine g_aload_n (nx := 5) hX 0 dX4_takeNumber_4 rfl rfl rfl ?_
  refine g_getfield (nx := 8) hX dX4_takeNumber_5 rfl fX4_97 (ga_dn hn rfl) rfl rfl ?_
  refine g_isub (nx := 9) hX dX4_takeNumber_8 rfl ?_
  refine g_iconst (nx := 10) hX 5 dX4_takeNumber_9 rfl (by decide) ?_
  refine g_icmp_le (nx := 13) hX 24 dX4_takeNumber_10 (by decide) rfl (fun h10 => ?_) (fun h10 => ?_)
  · refine g_aload_n (nx := 25) hX 0 dX4_takeNumber_24 rfl rfl rfl ?_
    refine g_getfield (nx := 28) hX dX4_takeNumber_25 rfl fX4_104 (ga_dn hn rfl) rfl rfl ?_
    refine g_l2i (nx := 29) hX dX4_takeNumber_28 rfl ?_
    refine g_istore_n (nx := 30) hX 1 dX4_takeNumber_29 rfl rfl rfl ?_
    refine g_aload_n (nx := 31) hX 0 dX4_takeNumber_30 rfl rfl rfl ?_
    refine g_V0 (nx := 34) hX dX4_takeNumber_31 rfl mX4_91 yX4_advance_ok (x_adv hn hl hb) (ga_dn hn rfl) rfl rfl rfl (by decide) rfl (Nat.le_of_ble_eq_true rfl) (Nat.le_of_ble_eq_true rfl) ?_
    rintro _ _ ⟨rfl, rfl⟩
    refine g_iload_n (nx := 35) hX 1 dX4_takeNumber_34 rfl rfl rfl ?_
    exact g_ireturn hX hP dX4_takeNumber_35 rfl (Nat.le_of_ble_eq_true rfl) (Nat.le_of_ble_eq_true rfl) ⟨⟨_, rfl⟩, rfl⟩
  · refine g_aload_n (nx := 14) hX 0 dX4_takeNumber_13 rfl rfl rfl ?_
    refine g_iconst (nx := 15) hX 1 dX4_takeNumber_14 rfl (by decide) ?_
    refine g_aload_n (nx := 16) hX 0 dX4_takeNumber_15 rfl rfl rfl ?_
    refine g_getfield (nx := 19) hX dX4_takeNumber_16 rfl fX4_97 (ga_dn hn rfl) rfl rfl ?_
    refine g_iconst (nx := 20) hX 5 dX4_takeNumber_19 rfl (by decide) ?_
    refine g_iadd (nx := 21) hX dX4_takeNumber_20 rfl ?_
    refine g_V2 (nx := 24) hX dX4_takeNumber_21 rfl mX4_100 yX4_fail_ok (x_fail hn hk) (ga_dn hn rfl) rfl rfl rfl (by decide) rfl (Nat.le_of_ble_eq_true rfl) (Nat.le_of_ble_eq_true rfl) ?_
    rintro _ _ ⟨rfl, rfl⟩
    refine g_aload_n (nx := 25) hX 0 dX4_takeNumber_24 rfl rfl rfl ?_
    refine g_getfield (nx := 28) hX dX4_takeNumber_25 rfl fX4_104 (ga_dn hn rfl) rfl rfl ?_
    refine g_l2i (nx := 29) hX dX4_takeNumber_28 rfl ?_
    refine g_istore_n (nx := 30) hX 1 dX4_takeNumber_29 rfl rfl rfl ?_
    refine g_aload_n (nx := 31) hX 0 dX4_takeNumber_30 rfl rfl rfl ?_
    refine g_V0 (nx := 34) hX dX4_takeNumber_31 rfl mX4_91 yX4_advance_ok (x_adv hn hl hb) (ga_dn hn rfl) rfl rfl rfl (by decide) rfl (Nat.le_of_ble_eq_true rfl) (Nat.le_of_ble_eq_true rfl) ?_
    rintro _ _ ⟨rfl, rfl⟩
    refine g_iload_n (nx := 35) hX 1 dX4_takeNumber_34 rfl rfl rfl ?_
    exact g_ireturn hX hP dX4_takeNumber_35 rfl (Nat.le_of_ble_eq_true rfl) (Nat.le_of_ble_eq_true rfl) ⟨⟨_, rfl⟩, rfl⟩
theorem w_name {b : Int32} (hn : 106 ≤ n) (hl : lt ≤ 600) (hq : q ≤ lt) (hC : C.length ≤ 600) (hb : ∀ i, i < lt → 0 ≤ tb i) (hB : b = 0 ∨ b = 1) : ga_Mt E 1 yX4_takeName cX4_takeName 3 (some .int) 0 0 [.ref 13, .int b] (n, (c0 :: k_T lt :: ga_i 600 tb :: c3 :: c4 :: c5 :: c6 :: c7 :: c8 :: c9 :: c10 :: c11 :: c12 :: k_D (.ref 21) (nI (x_te tb lt (q))) (x_tk tb lt (q)) (nI (q)) (x_tv tb lt (q)) (0) (-1) :: ga_l 39 (nm) :: c15 :: c16 :: c17 :: c18 :: c19 :: c20 :: k_U 21 top (nI (C).length) (z_tot) (z_sm) :: ga_i 600 (z_st (C) st_) :: ga_i 600 (z_od (C) od) :: ga_i 24 (eo) :: ga_i 24 (fo) :: L1), L2, f) (fun r M => r = some (.int (x_slot nm (x_tv tb lt q))) ∧ ((∃ k pl, x_nE tb lt nm b q = some (k, pl) ∧ (1 ≤ k ∧ k ≤ 4) ∧ (∃ ta tv sz st od, sz ≤ 600 ∧ M = (n, (c0 :: k_T lt :: ga_i 600 tb :: c3 :: c4 :: c5 :: c6 :: c7 :: c8 :: c9 :: c10 :: c11 :: c12 :: k_D (.ref 21) (nI lt) (-1) (ta) (tv) (nI (k)) (nI (pl)) :: ga_l 39 (nm) :: c15 :: c16 :: c17 :: c18 :: c19 :: c20 :: k_U 21 top (nI sz) (z_tot) (z_sm) :: ga_i 600 (st) :: ga_i 600 (od) :: ga_i 24 (eo) :: ga_i 24 (fo) :: L1), L2, f))) ∨ (x_nE tb lt nm b q = none ∧ M = (n, (c0 :: k_T lt :: ga_i 600 tb :: c3 :: c4 :: c5 :: c6 :: c7 :: c8 :: c9 :: c10 :: c11 :: c12 :: k_D (.ref 21) (nI (x_te tb lt (x_nx tb lt q))) (x_tk tb lt (x_nx tb lt q)) (nI (x_nx tb lt q)) (x_tv tb lt (x_nx tb lt q)) (0) (-1) :: ga_l 39 (nm) :: c15 :: c16 :: c17 :: c18 :: c19 :: c20 :: k_U 21 top (nI (C).length) (z_tot) (z_sm) :: ga_i 600 (z_st (C) st_) :: ga_i 600 (z_od (C) od) :: ga_i 24 (eo) :: ga_i 24 (fo) :: L1), L2, f)))) := by
  have hte := x_te_le (tb := tb) hq
  have e1 : nI (x_te tb lt q) - nI q = nI (x_te tb lt q - q) := pk_sub hte.1
  refine ga_Mt.of (by decide) rfl (fun X hX hP => ?_)
  refine g_less [some (.ref 13), some (.int b), none] ⟨rfl, rfl, trivial⟩ ?_
  refine g_aload_n (nx := 1) hX 0 dX4_takeName_0 rfl rfl rfl ?_
  refine g_aload_n (nx := 2) hX 0 dX4_takeName_1 rfl rfl rfl ?_
  refine g_getfield (nx := 5) hX dX4_takeName_2 rfl fX4_104 (ga_dn hn rfl) rfl rfl ?_
  refine g_V1 (nx := 8) hX dX4_takeName_5 rfl mX4_162 yX4_slotOf_ok (c_X4_slotOf hn) (ga_dn hn rfl) rfl rfl rfl (by decide) rfl (Nat.le_of_ble_eq_true rfl) (Nat.le_of_ble_eq_true rfl) ?_
  rintro _ _ ⟨rfl, rfl⟩
  refine g_istore_n (nx := 9) hX 2 dX4_takeName_8 rfl rfl rfl ?_
  refine g_aload_n (nx := 10) hX 0 dX4_takeName_9 rfl rfl rfl ?_
  refine g_aload_n (nx := 11) hX 0 dX4_takeName_10 rfl rfl rfl ?_
  refine g_getfield (nx := 14) hX dX4_takeName_11 rfl fX4_104 (ga_dn hn rfl) rfl rfl ?_
  refine g_V1 (nx := 17) hX dX4_takeName_14 rfl mX4_166 yX4_isKept_ok (c_X4_isKept hn) (ga_dn hn rfl) rfl rfl rfl (by decide) rfl (Nat.le_of_ble_eq_true rfl) (Nat.le_of_ble_eq_true rfl) ?_
  rintro _ _ ⟨rfl, rfl⟩
  refine g_if_eq (nx := 20) hX 32 dX4_takeName_17 (by decide) rfl (fun h17 => ?_) (fun h17 => ?_)
  · have hk := ga_b_0 h17
    refine g_aload_n (nx := 33) hX 0 dX4_takeName_32 rfl rfl rfl ?_
    refine g_getfield (nx := 36) hX dX4_takeName_33 rfl fX4_88 (ga_dn hn rfl) rfl rfl ?_
    refine g_aload_n (nx := 37) hX 0 dX4_takeName_36 rfl rfl rfl ?_
    refine g_getfield (nx := 40) hX dX4_takeName_37 rfl fX4_97 (ga_dn hn rfl) rfl rfl ?_
    refine g_isub (nx := 41) hX dX4_takeName_40 rfl ?_
    refine g_bipush (nx := 43) hX 10 dX4_takeName_41 rfl (by decide) ?_
    rw [e1]
    refine g_icmp_le (nx := 46) hX 61 dX4_takeName_43 (by decide) rfl (fun h43 => ?_) (fun h43 => ?_)
    · have h5 : ¬ 10 < x_te tb lt q - q := by have := (nI_leI (b := 10) (by omega) (by omega)).mp h43; omega
      refine g_iload_n (nx := 62) hX 2 dX4_takeName_61 rfl rfl rfl ?_
      refine g_iconst (nx := 63) hX (-1) dX4_takeName_62 rfl (by decide) ?_
      refine g_icmp_eq (nx := 66) hX 70 dX4_takeName_63 (by decide) rfl (fun h63 => ?_) (fun h63 => ?_)
      · refine g_iconst (nx := 71) hX 0 dX4_takeName_70 rfl (by decide) ?_
        refine g_iload_n (nx := 72) hX 1 dX4_takeName_71 rfl rfl rfl ?_
        refine g_icmp_eq (nx := 75) hX 84 dX4_takeName_72 (by decide) rfl (fun h72 => ?_) (fun h72 => ?_)
        · refine g_aload_n (nx := 85) hX 0 dX4_takeName_84 rfl rfl rfl ?_
          refine g_V0 (nx := 88) hX dX4_takeName_85 rfl mX4_91 yX4_advance_ok (w_adv hn hl hq hb) (ga_dn hn rfl) rfl rfl rfl (by decide) rfl (Nat.le_of_ble_eq_true rfl) (Nat.le_of_ble_eq_true rfl) ?_
          rintro _ _ ⟨rfl, rfl⟩
          refine g_iload_n (nx := 89) hX 2 dX4_takeName_88 rfl rfl rfl ?_
          exact g_ireturn hX hP dX4_takeName_89 rfl (Nat.le_of_ble_eq_true rfl) (Nat.le_of_ble_eq_true rfl) ⟨rfl, Or.inr ⟨by unfold x_nE; rw [if_neg hk, if_neg h5, if_pos (by rw [if_pos h63]; exact h72)], rfl⟩⟩
        · refine g_aload_n (nx := 76) hX 0 dX4_takeName_75 rfl rfl rfl ?_
          refine g_iconst (nx := 77) hX 3 dX4_takeName_76 rfl (by decide) ?_
          refine g_aload_n (nx := 78) hX 0 dX4_takeName_77 rfl rfl rfl ?_
          refine g_getfield (nx := 81) hX dX4_takeName_78 rfl fX4_97 (ga_dn hn rfl) rfl rfl ?_
          refine g_V2 (nx := 84) hX dX4_takeName_81 rfl mX4_100 yX4_fail_ok (w_fail (k := 3) hn) (ga_dn hn rfl) rfl rfl rfl (by decide) rfl (Nat.le_of_ble_eq_true rfl) (Nat.le_of_ble_eq_true rfl) ?_
          rintro _ _ ⟨rfl, rfl⟩
          refine g_aload_n (nx := 85) hX 0 dX4_takeName_84 rfl rfl rfl ?_
          refine g_V0 (nx := 88) hX dX4_takeName_85 rfl mX4_91 yX4_advance_ok (x_adv hn hl hb) (ga_dn hn rfl) rfl rfl rfl (by decide) rfl (Nat.le_of_ble_eq_true rfl) (Nat.le_of_ble_eq_true rfl) ?_
          rintro _ _ ⟨rfl, rfl⟩
          refine g_iload_n (nx := 89) hX 2 dX4_takeName_88 rfl rfl rfl ?_
          exact g_ireturn hX hP dX4_takeName_89 rfl (Nat.le_of_ble_eq_true rfl) (Nat.le_of_ble_eq_true rfl) ⟨rfl, Or.inl ⟨3, q, by unfold x_nE; rw [if_neg hk, if_neg h5, if_neg (by rw [if_pos h63]; exact h72)], by omega, _, _, C.length, _, _, hC, rfl⟩⟩
      · refine g_iconst (nx := 67) hX 1 dX4_takeName_66 rfl (by decide) ?_
        refine g_goto (nx := 71) hX dX4_takeName_67 (by decide) ?_
        refine g_iload_n (nx := 72) hX 1 dX4_takeName_71 rfl rfl rfl ?_
        refine g_icmp_eq (nx := 75) hX 84 dX4_takeName_72 (by decide) rfl (fun h72 => ?_) (fun h72 => ?_)
        · refine g_aload_n (nx := 85) hX 0 dX4_takeName_84 rfl rfl rfl ?_
          refine g_V0 (nx := 88) hX dX4_takeName_85 rfl mX4_91 yX4_advance_ok (w_adv hn hl hq hb) (ga_dn hn rfl) rfl rfl rfl (by decide) rfl (Nat.le_of_ble_eq_true rfl) (Nat.le_of_ble_eq_true rfl) ?_
          rintro _ _ ⟨rfl, rfl⟩
          refine g_iload_n (nx := 89) hX 2 dX4_takeName_88 rfl rfl rfl ?_
          exact g_ireturn hX hP dX4_takeName_89 rfl (Nat.le_of_ble_eq_true rfl) (Nat.le_of_ble_eq_true rfl) ⟨rfl, Or.inr ⟨by unfold x_nE; rw [if_neg hk, if_neg h5, if_pos (by rw [if_neg h63]; exact h72)], rfl⟩⟩
        · refine g_aload_n (nx := 76) hX 0 dX4_takeName_75 rfl rfl rfl ?_
          refine g_iconst (nx := 77) hX 3 dX4_takeName_76 rfl (by decide) ?_
          refine g_aload_n (nx := 78) hX 0 dX4_takeName_77 rfl rfl rfl ?_
          refine g_getfield (nx := 81) hX dX4_takeName_78 rfl fX4_97 (ga_dn hn rfl) rfl rfl ?_
          refine g_V2 (nx := 84) hX dX4_takeName_81 rfl mX4_100 yX4_fail_ok (w_fail (k := 3) hn) (ga_dn hn rfl) rfl rfl rfl (by decide) rfl (Nat.le_of_ble_eq_true rfl) (Nat.le_of_ble_eq_true rfl) ?_
          rintro _ _ ⟨rfl, rfl⟩
          refine g_aload_n (nx := 85) hX 0 dX4_takeName_84 rfl rfl rfl ?_
          refine g_V0 (nx := 88) hX dX4_takeName_85 rfl mX4_91 yX4_advance_ok (x_adv hn hl hb) (ga_dn hn rfl) rfl rfl rfl (by decide) rfl (Nat.le_of_ble_eq_true rfl) (Nat.le_of_ble_eq_true rfl) ?_
          rintro _ _ ⟨rfl, rfl⟩
          refine g_iload_n (nx := 89) hX 2 dX4_takeName_88 rfl rfl rfl ?_
          exact g_ireturn hX hP dX4_takeName_89 rfl (Nat.le_of_ble_eq_true rfl) (Nat.le_of_ble_eq_true rfl) ⟨rfl, Or.inl ⟨3, q, by unfold x_nE; rw [if_neg hk, if_neg h5, if_neg (by rw [if_neg h63]; exact h72)], by omega, _, _, C.length, _, _, hC, rfl⟩⟩
    · have h5 : 10 < x_te tb lt q - q := Nat.lt_of_not_le (fun z => h43 (nI_le (b := 10) z (by omega)))
      refine g_aload_n (nx := 47) hX 0 dX4_takeName_46 rfl rfl rfl ?_
      refine g_iconst (nx := 48) hX 1 dX4_takeName_47 rfl (by decide) ?_
      refine g_aload_n (nx := 49) hX 0 dX4_takeName_48 rfl rfl rfl ?_
      refine g_getfield (nx := 52) hX dX4_takeName_49 rfl fX4_97 (ga_dn hn rfl) rfl rfl ?_
      refine g_bipush (nx := 54) hX 10 dX4_takeName_52 rfl (by decide) ?_
      refine g_iadd (nx := 55) hX dX4_takeName_54 rfl ?_
      rw [show nI q + 10 = nI (q + 10) from nI_add q 10]
      refine g_V2 (nx := 58) hX dX4_takeName_55 rfl mX4_100 yX4_fail_ok (w_fail (k := 1) hn) (ga_dn hn rfl) rfl rfl rfl (by decide) rfl (Nat.le_of_ble_eq_true rfl) (Nat.le_of_ble_eq_true rfl) ?_
      rintro _ _ ⟨rfl, rfl⟩
      refine g_goto (nx := 84) hX dX4_takeName_58 (by decide) ?_
      refine g_aload_n (nx := 85) hX 0 dX4_takeName_84 rfl rfl rfl ?_
      refine g_V0 (nx := 88) hX dX4_takeName_85 rfl mX4_91 yX4_advance_ok (x_adv hn hl hb) (ga_dn hn rfl) rfl rfl rfl (by decide) rfl (Nat.le_of_ble_eq_true rfl) (Nat.le_of_ble_eq_true rfl) ?_
      rintro _ _ ⟨rfl, rfl⟩
      refine g_iload_n (nx := 89) hX 2 dX4_takeName_88 rfl rfl rfl ?_
      exact g_ireturn hX hP dX4_takeName_89 rfl (Nat.le_of_ble_eq_true rfl) (Nat.le_of_ble_eq_true rfl) ⟨rfl, Or.inl ⟨1, q + 10, by unfold x_nE; rw [if_neg hk, if_pos h5], by omega, _, _, C.length, _, _, hC, rfl⟩⟩
  · have hk := ga_b_n0 h17
    refine g_aload_n (nx := 21) hX 0 dX4_takeName_20 rfl rfl rfl ?_
    refine g_iconst (nx := 22) hX 1 dX4_takeName_21 rfl (by decide) ?_
    refine g_aload_n (nx := 23) hX 0 dX4_takeName_22 rfl rfl rfl ?_
    refine g_getfield (nx := 26) hX dX4_takeName_23 rfl fX4_97 (ga_dn hn rfl) rfl rfl ?_
    refine g_V2 (nx := 29) hX dX4_takeName_26 rfl mX4_100 yX4_fail_ok (w_fail (k := 1) hn) (ga_dn hn rfl) rfl rfl rfl (by decide) rfl (Nat.le_of_ble_eq_true rfl) (Nat.le_of_ble_eq_true rfl) ?_
    rintro _ _ ⟨rfl, rfl⟩
    refine g_goto (nx := 84) hX dX4_takeName_29 (by decide) ?_
    refine g_aload_n (nx := 85) hX 0 dX4_takeName_84 rfl rfl rfl ?_
    refine g_V0 (nx := 88) hX dX4_takeName_85 rfl mX4_91 yX4_advance_ok (x_adv hn hl hb) (ga_dn hn rfl) rfl rfl rfl (by decide) rfl (Nat.le_of_ble_eq_true rfl) (Nat.le_of_ble_eq_true rfl) ?_
    rintro _ _ ⟨rfl, rfl⟩
    refine g_iload_n (nx := 89) hX 2 dX4_takeName_88 rfl rfl rfl ?_
    exact g_ireturn hX hP dX4_takeName_89 rfl (Nat.le_of_ble_eq_true rfl) (Nat.le_of_ble_eq_true rfl) ⟨rfl, Or.inl ⟨1, q, by unfold x_nE; rw [if_pos hk], by omega, _, _, C.length, _, _, hC, rfl⟩⟩
theorem w_exp {sg : Int32} (hn : 106 ≤ n) (hl : lt ≤ 600) (hq : q ≤ lt) (hC : C.length ≤ 600) (hb : ∀ i, i < lt → 0 ≤ tb i) : ga_Mt E 1 yX4_expect cX4_expect 2 none 0 0 [.ref 13, .int sg] (n, (c0 :: k_T lt :: ga_i 600 tb :: c3 :: c4 :: c5 :: c6 :: c7 :: c8 :: c9 :: c10 :: c11 :: c12 :: k_D (.ref 21) (nI (x_te tb lt (q))) (x_tk tb lt (q)) (nI (q)) (x_tv tb lt (q)) (0) (-1) :: ga_l 39 (nm) :: c15 :: c16 :: c17 :: c18 :: c19 :: c20 :: k_U 21 top (nI (C).length) (z_tot) (z_sm) :: ga_i 600 (z_st (C) st_) :: ga_i 600 (z_od (C) od) :: ga_i 24 (eo) :: ga_i 24 (fo) :: L1), L2, f) (fun r M => r = none ∧ ((¬ x_tk tb lt q = sg ∧ (∃ ta tv sz st od, sz ≤ 600 ∧ M = (n, (c0 :: k_T lt :: ga_i 600 tb :: c3 :: c4 :: c5 :: c6 :: c7 :: c8 :: c9 :: c10 :: c11 :: c12 :: k_D (.ref 21) (nI lt) (-1) (ta) (tv) (nI (1)) (nI (q)) :: ga_l 39 (nm) :: c15 :: c16 :: c17 :: c18 :: c19 :: c20 :: k_U 21 top (nI sz) (z_tot) (z_sm) :: ga_i 600 (st) :: ga_i 600 (od) :: ga_i 24 (eo) :: ga_i 24 (fo) :: L1), L2, f))) ∨ (x_tk tb lt q = sg ∧ M = (n, (c0 :: k_T lt :: ga_i 600 tb :: c3 :: c4 :: c5 :: c6 :: c7 :: c8 :: c9 :: c10 :: c11 :: c12 :: k_D (.ref 21) (nI (x_te tb lt (x_nx tb lt q))) (x_tk tb lt (x_nx tb lt q)) (nI (x_nx tb lt q)) (x_tv tb lt (x_nx tb lt q)) (0) (-1) :: ga_l 39 (nm) :: c15 :: c16 :: c17 :: c18 :: c19 :: c20 :: k_U 21 top (nI (C).length) (z_tot) (z_sm) :: ga_i 600 (z_st (C) st_) :: ga_i 600 (z_od (C) od) :: ga_i 24 (eo) :: ga_i 24 (fo) :: L1), L2, f)))) := by
  refine ga_Mt.of (by decide) rfl (fun X hX hP => ?_)
  refine g_less [some (.ref 13), some (.int sg)] ⟨rfl, rfl, trivial⟩ ?_
  refine g_aload_n (nx := 1) hX 0 dX4_expect_0 rfl rfl rfl ?_
  refine g_getfield (nx := 4) hX dX4_expect_1 rfl fX4_94 (ga_dn hn rfl) rfl rfl ?_
  refine g_iload_n (nx := 5) hX 1 dX4_expect_4 rfl rfl rfl ?_
  refine g_icmp_eq (nx := 8) hX 17 dX4_expect_5 (by decide) rfl (fun h5 => ?_) (fun h5 => ?_)
  · refine g_aload_n (nx := 18) hX 0 dX4_expect_17 rfl rfl rfl ?_
    refine g_V0 (nx := 21) hX dX4_expect_18 rfl mX4_91 yX4_advance_ok (w_adv hn hl hq hb) (ga_dn hn rfl) rfl rfl rfl (by decide) rfl (Nat.le_of_ble_eq_true rfl) (Nat.le_of_ble_eq_true rfl) ?_
    rintro _ _ ⟨rfl, rfl⟩
    exact g_return hX hP dX4_expect_21 (Nat.le_of_ble_eq_true rfl) (Nat.le_of_ble_eq_true rfl) ⟨rfl, Or.inr ⟨h5, rfl⟩⟩
  · refine g_aload_n (nx := 9) hX 0 dX4_expect_8 rfl rfl rfl ?_
    refine g_iconst (nx := 10) hX 1 dX4_expect_9 rfl (by decide) ?_
    refine g_aload_n (nx := 11) hX 0 dX4_expect_10 rfl rfl rfl ?_
    refine g_getfield (nx := 14) hX dX4_expect_11 rfl fX4_97 (ga_dn hn rfl) rfl rfl ?_
    refine g_V2 (nx := 17) hX dX4_expect_14 rfl mX4_100 yX4_fail_ok (w_fail (k := 1) hn) (ga_dn hn rfl) rfl rfl rfl (by decide) rfl (Nat.le_of_ble_eq_true rfl) (Nat.le_of_ble_eq_true rfl) ?_
    rintro _ _ ⟨rfl, rfl⟩
    refine g_aload_n (nx := 18) hX 0 dX4_expect_17 rfl rfl rfl ?_
    refine g_V0 (nx := 21) hX dX4_expect_18 rfl mX4_91 yX4_advance_ok (x_adv hn hl hb) (ga_dn hn rfl) rfl rfl rfl (by decide) rfl (Nat.le_of_ble_eq_true rfl) (Nat.le_of_ble_eq_true rfl) ?_
    rintro _ _ ⟨rfl, rfl⟩
    exact g_return hX hP dX4_expect_21 (Nat.le_of_ble_eq_true rfl) (Nat.le_of_ble_eq_true rfl) ⟨rfl, Or.inl ⟨h5, _, _, C.length, _, _, hC, rfl⟩⟩
theorem x_exp {sg : Int32} (hn : 106 ≤ n) (hl : lt ≤ 600) (hk : 1 ≤ k ∧ k ≤ 4) (hb : ∀ i, i < lt → 0 ≤ tb i) : ga_Mx E 1 yX4_expect cX4_expect 2 none 0 0 [.ref 13, .int sg] (n, (c0 :: k_T lt :: ga_i 600 tb :: c3 :: c4 :: c5 :: c6 :: c7 :: c8 :: c9 :: c10 :: c11 :: c12 :: k_D (.ref 21) (nI lt) (-1) (ta) (tv) (nI k) (nI pl) :: ga_l 39 (nm) :: c15 :: c16 :: c17 :: c18 :: c19 :: c20 :: k_U 21 top (nI sz) (z_tot) (z_sm) :: ga_i 600 (st) :: ga_i 600 (od) :: ga_i 24 (eo) :: ga_i 24 (fo) :: L1), L2, f) none (n, (c0 :: k_T lt :: ga_i 600 tb :: c3 :: c4 :: c5 :: c6 :: c7 :: c8 :: c9 :: c10 :: c11 :: c12 :: k_D (.ref 21) (nI lt) (-1) (nI lt) (0) (nI k) (nI pl) :: ga_l 39 (nm) :: c15 :: c16 :: c17 :: c18 :: c19 :: c20 :: k_U 21 top (nI sz) (z_tot) (z_sm) :: ga_i 600 (st) :: ga_i 600 (od) :: ga_i 24 (eo) :: ga_i 24 (fo) :: L1), L2, f) := by
  refine ga_Mt.of (by decide) rfl (fun X hX hP => ?_)
  refine g_less [some (.ref 13), some (.int sg)] ⟨rfl, rfl, trivial⟩ ?_
  refine g_aload_n (nx := 1) hX 0 dX4_expect_0 rfl rfl rfl ?_
  refine g_getfield (nx := 4) hX dX4_expect_1 rfl fX4_94 (ga_dn hn rfl) rfl rfl ?_
  refine g_iload_n (nx := 5) hX 1 dX4_expect_4 rfl rfl rfl ?_
  refine g_icmp_eq (nx := 8) hX 17 dX4_expect_5 (by decide) rfl (fun h5 => ?_) (fun h5 => ?_)
  · refine g_aload_n (nx := 18) hX 0 dX4_expect_17 rfl rfl rfl ?_
    refine g_V0 (nx := 21) hX dX4_expect_18 rfl mX4_91 yX4_advance_ok (x_adv hn hl hb) (ga_dn hn rfl) rfl rfl rfl (by decide) rfl (Nat.le_of_ble_eq_true rfl) (Nat.le_of_ble_eq_true rfl) ?_
    rintro _ _ ⟨rfl, rfl⟩
    exact g_return hX hP dX4_expect_21 (Nat.le_of_ble_eq_true rfl) (Nat.le_of_ble_eq_true rfl) ⟨rfl, rfl⟩
  · refine g_aload_n (nx := 9) hX 0 dX4_expect_8 rfl rfl rfl ?_
    refine g_iconst (nx := 10) hX 1 dX4_expect_9 rfl (by decide) ?_
    refine g_aload_n (nx := 11) hX 0 dX4_expect_10 rfl rfl rfl ?_
    refine g_getfield (nx := 14) hX dX4_expect_11 rfl fX4_97 (ga_dn hn rfl) rfl rfl ?_
    refine g_V2 (nx := 17) hX dX4_expect_14 rfl mX4_100 yX4_fail_ok (x_fail hn hk) (ga_dn hn rfl) rfl rfl rfl (by decide) rfl (Nat.le_of_ble_eq_true rfl) (Nat.le_of_ble_eq_true rfl) ?_
    rintro _ _ ⟨rfl, rfl⟩
    refine g_aload_n (nx := 18) hX 0 dX4_expect_17 rfl rfl rfl ?_
    refine g_V0 (nx := 21) hX dX4_expect_18 rfl mX4_91 yX4_advance_ok (x_adv hn hl hb) (ga_dn hn rfl) rfl rfl rfl (by decide) rfl (Nat.le_of_ble_eq_true rfl) (Nat.le_of_ble_eq_true rfl) ?_
    rintro _ _ ⟨rfl, rfl⟩
    exact g_return hX hP dX4_expect_21 (Nat.le_of_ble_eq_true rfl) (Nat.le_of_ble_eq_true rfl) ⟨rfl, rfl⟩
theorem c_X6_addStep {a b : Int32} (hn : 106 ≤ n) (hs : sz ≤ 600) : ga_Mx E 0 yX6_addStep cX6_addStep 3 none 0 0 [.ref 21, .int a, .int b] (n, (c0 :: k_T lt :: ga_i 600 tb :: c3 :: c4 :: c5 :: c6 :: c7 :: c8 :: c9 :: c10 :: c11 :: c12 :: k_D (.ref 21) (z_at) (z_tk) (z_ta) (z_tv) (z_fd) (z_fa) :: ga_l 39 (nm) :: c15 :: c16 :: c17 :: c18 :: c19 :: c20 :: k_U 21 top (nI sz) (z_tot) (z_sm) :: ga_i 600 (st) :: ga_i 600 (od) :: ga_i 24 (eo) :: ga_i 24 (fo) :: L1), L2, f) none (n, (c0 :: k_T lt :: ga_i 600 tb :: c3 :: c4 :: c5 :: c6 :: c7 :: c8 :: c9 :: c10 :: c11 :: c12 :: k_D (.ref 21) (z_at) (z_tk) (z_ta) (z_tv) (z_fd) (z_fa) :: ga_l 39 (nm) :: c15 :: c16 :: c17 :: c18 :: c19 :: c20 :: k_U 21 top (nI (if sz < 600 then sz + 1 else sz)) (z_tot) (z_sm) :: ga_i 600 (if sz < 600 then upd st sz a else st) :: ga_i 600 (if sz < 600 then upd od sz b else od) :: ga_i 24 (eo) :: ga_i 24 (fo) :: L1), L2, f) := by
  refine ga_Mt.of (by decide) rfl (fun X hX hP => ?_)
  refine g_less [some (.ref 21), some (.int a), some (.int b)] ⟨rfl, rfl, rfl, trivial⟩ ?_
  refine g_aload_n (nx := 1) hX 0 dX6_addStep_0 rfl rfl rfl ?_
  refine g_getfield (nx := 4) hX dX6_addStep_1 rfl fX6_34 (ga_dn hn rfl) rfl rfl ?_
  refine g_sipush (nx := 7) hX 600 dX6_addStep_4 rfl (by decide) ?_
  refine g_icmp_ge (nx := 10) hX 40 dX6_addStep_7 (by decide) rfl (fun h7 => ?_) (fun h7 => ?_)
  · have h6 : ¬ sz < 600 := by have := (nI_leI (a := 600) (by omega) (by omega)).mp h7; omega
    exact g_return hX hP dX6_addStep_40 (Nat.le_of_ble_eq_true rfl) (Nat.le_of_ble_eq_true rfl) ⟨rfl, by rw [if_neg h6, if_neg h6, if_neg h6] <;> rfl⟩
  · have h6 : sz < 600 := Nat.lt_of_not_le (fun z => h7 (nI_le (a := 600) z (by omega)))
    refine g_aload_n (nx := 11) hX 0 dX6_addStep_10 rfl rfl rfl ?_
    refine g_getfield (nx := 14) hX dX6_addStep_11 rfl fX6_11 (ga_dn hn rfl) rfl rfl ?_
    refine g_aload_n (nx := 15) hX 0 dX6_addStep_14 rfl rfl rfl ?_
    refine g_getfield (nx := 18) hX dX6_addStep_15 rfl fX6_34 (ga_dn hn rfl) rfl rfl ?_
    refine g_iload_n (nx := 19) hX 1 dX6_addStep_18 rfl rfl rfl ?_
    refine g_iastore (nx := 20) hX dX6_addStep_19 rfl (ga_dn hn rfl) rfl (ga_ix_of (j := sz) rfl (by omega) (by omega)) ?_
    refine g_aload_n (nx := 21) hX 0 dX6_addStep_20 rfl rfl rfl ?_
    refine g_getfield (nx := 24) hX dX6_addStep_21 rfl fX6_17 (ga_dn hn rfl) rfl rfl ?_
    refine g_aload_n (nx := 25) hX 0 dX6_addStep_24 rfl rfl rfl ?_
    refine g_getfield (nx := 28) hX dX6_addStep_25 rfl fX6_34 (ga_dn hn rfl) rfl rfl ?_
    refine g_iload_n (nx := 29) hX 2 dX6_addStep_28 rfl rfl rfl ?_
    refine g_iastore (nx := 30) hX dX6_addStep_29 rfl (ga_dn hn rfl) rfl (ga_ix_of (j := sz) rfl (by omega) (by omega)) ?_
    refine g_aload_n (nx := 31) hX 0 dX6_addStep_30 rfl rfl rfl ?_
    refine g_dup (nx := 32) hX dX6_addStep_31 rfl rfl ?_
    refine g_getfield (nx := 35) hX dX6_addStep_32 rfl fX6_34 (ga_dn hn rfl) rfl rfl ?_
    refine g_iconst (nx := 36) hX 1 dX6_addStep_35 rfl (by decide) ?_
    refine g_iadd (nx := 37) hX dX6_addStep_36 rfl ?_
    rw [nI_1]
    refine g_putfield (nx := 40) hX dX6_addStep_37 rfl pX6_34 (ga_dn hn rfl) rfl rfl rfl rfl ?_
    exact g_return hX hP dX6_addStep_40 (Nat.le_of_ble_eq_true rfl) (Nat.le_of_ble_eq_true rfl) ⟨rfl, by rw [if_pos h6, if_pos h6, if_pos h6] <;> rfl⟩
theorem w_add {a b : Nat} (hn : 106 ≤ n) (hC : C.length < 600) : ga_Mx E 0 yX6_addStep cX6_addStep 3 none 0 0 [.ref 21, .int (nI a), .int (nI b)] (n, (c0 :: k_T lt :: ga_i 600 tb :: c3 :: c4 :: c5 :: c6 :: c7 :: c8 :: c9 :: c10 :: c11 :: c12 :: k_D (.ref 21) (nI (x_te tb lt (q))) (x_tk tb lt (q)) (nI (q)) (x_tv tb lt (q)) (0) (-1) :: ga_l 39 (nm) :: c15 :: c16 :: c17 :: c18 :: c19 :: c20 :: k_U 21 top (nI (C).length) (z_tot) (z_sm) :: ga_i 600 (z_st (C) st_) :: ga_i 600 (z_od (C) od) :: ga_i 24 (eo) :: ga_i 24 (fo) :: L1), L2, f) none (n, (c0 :: k_T lt :: ga_i 600 tb :: c3 :: c4 :: c5 :: c6 :: c7 :: c8 :: c9 :: c10 :: c11 :: c12 :: k_D (.ref 21) (nI (x_te tb lt (q))) (x_tk tb lt (q)) (nI (q)) (x_tv tb lt (q)) (0) (-1) :: ga_l 39 (nm) :: c15 :: c16 :: c17 :: c18 :: c19 :: c20 :: k_U 21 top (nI (C ++ [(a, b)]).length) (z_tot) (z_sm) :: ga_i 600 (z_st (C ++ [(a, b)]) st_) :: ga_i 600 (z_od (C ++ [(a, b)]) od) :: ga_i 24 (eo) :: ga_i 24 (fo) :: L1), L2, f) := by
  refine ga_Mt.mono ?_ (c_X6_addStep hn (Nat.le_of_lt hC))
  rintro r M ⟨rfl, rfl⟩
  refine ⟨rfl, ?_⟩
  rw [if_pos hC, if_pos hC, if_pos hC, z_st_add (y := b), z_od_add (x := a), List.length_append]
  rfl
theorem x_add {a b : Int32} (hn : 106 ≤ n) (hs : sz ≤ 600) : ga_Mt E 0 yX6_addStep cX6_addStep 3 none 0 0 [.ref 21, .int a, .int b] (n, (c0 :: k_T lt :: ga_i 600 tb :: c3 :: c4 :: c5 :: c6 :: c7 :: c8 :: c9 :: c10 :: c11 :: c12 :: k_D (.ref 21) (nI lt) (-1) (ta) (tv) (nI k) (nI pl) :: ga_l 39 (nm) :: c15 :: c16 :: c17 :: c18 :: c19 :: c20 :: k_U 21 top (nI sz) (z_tot) (z_sm) :: ga_i 600 (st) :: ga_i 600 (od) :: ga_i 24 (eo) :: ga_i 24 (fo) :: L1), L2, f) (fun r M => r = none ∧ ∃ sz st od, sz ≤ 600 ∧ M = (n, (c0 :: k_T lt :: ga_i 600 tb :: c3 :: c4 :: c5 :: c6 :: c7 :: c8 :: c9 :: c10 :: c11 :: c12 :: k_D (.ref 21) (nI lt) (-1) (ta) (tv) (nI k) (nI pl) :: ga_l 39 (nm) :: c15 :: c16 :: c17 :: c18 :: c19 :: c20 :: k_U 21 top (nI sz) (z_tot) (z_sm) :: ga_i 600 (st) :: ga_i 600 (od) :: ga_i 24 (eo) :: ga_i 24 (fo) :: L1), L2, f)) := by
  refine ga_Mt.mono ?_ (c_X6_addStep hn hs)
  rintro r M ⟨rfl, rfl⟩
  refine ⟨rfl, _, _, _, ?_, rfl⟩
  split <;> omega
theorem w_div (hn : 106 ≤ n) (hl : lt ≤ 600) (hq : q ≤ lt) (hC : C.length < 600) (hb : ∀ i, i < lt → 0 ≤ tb i) : ga_Mt E 2 yX4_readDivisor cX4_readDivisor 3 none 0 0 [.ref 13] (n, (c0 :: k_T lt :: ga_i 600 tb :: c3 :: c4 :: c5 :: c6 :: c7 :: c8 :: c9 :: c10 :: c11 :: c12 :: k_D (.ref 21) (nI (x_te tb lt (q))) (x_tk tb lt (q)) (nI (q)) (x_tv tb lt (q)) (0) (-1) :: ga_l 39 (nm) :: c15 :: c16 :: c17 :: c18 :: c19 :: c20 :: k_U 21 top (nI (C).length) (z_tot) (z_sm) :: ga_i 600 (z_st (C) st_) :: ga_i 600 (z_od (C) od) :: ga_i 24 (eo) :: ga_i 24 (fo) :: L1), L2, f) (fun r M => r = none ∧ ((∃ k pl, R_div tb lt q = .inl (k, pl) ∧ (1 ≤ k ∧ k ≤ 4) ∧ (∃ ta tv sz st od, sz ≤ 600 ∧ M = (n, (c0 :: k_T lt :: ga_i 600 tb :: c3 :: c4 :: c5 :: c6 :: c7 :: c8 :: c9 :: c10 :: c11 :: c12 :: k_D (.ref 21) (nI lt) (-1) (ta) (tv) (nI (k)) (nI (pl)) :: ga_l 39 (nm) :: c15 :: c16 :: c17 :: c18 :: c19 :: c20 :: k_U 21 top (nI sz) (z_tot) (z_sm) :: ga_i 600 (st) :: ga_i 600 (od) :: ga_i 24 (eo) :: ga_i 24 (fo) :: L1), L2, f))) ∨ ∃ q' c', R_div tb lt q = .inr (q', c') ∧ M = (n, (c0 :: k_T lt :: ga_i 600 tb :: c3 :: c4 :: c5 :: c6 :: c7 :: c8 :: c9 :: c10 :: c11 :: c12 :: k_D (.ref 21) (nI (x_te tb lt (q'))) (x_tk tb lt (q')) (nI (q')) (x_tv tb lt (q')) (0) (-1) :: ga_l 39 (nm) :: c15 :: c16 :: c17 :: c18 :: c19 :: c20 :: k_U 21 top (nI (C ++ c').length) (z_tot) (z_sm) :: ga_i 600 (z_st (C ++ c') st_) :: ga_i 600 (z_od (C ++ c') od) :: ga_i 24 (eo) :: ga_i 24 (fo) :: L1), L2, f))) := by
  by_cases ht : x_tk tb lt q = 48
  · -- so
    refine ga_Mt.of (by decide) rfl (fun X hX hP => ?_)
    refine g_less [some (.ref 13), none, none] ⟨rfl, trivial⟩ ?_
    refine g_aload_n (nx := 1) hX 0 dX4_readDivisor_0 rfl rfl rfl ?_
    refine g_getfield (nx := 4) hX dX4_readDivisor_1 rfl fX4_97 (ga_dn hn rfl) rfl rfl ?_
    refine g_istore_n (nx := 5) hX 1 dX4_readDivisor_4 rfl rfl rfl ?_
    refine g_aload_n (nx := 6) hX 0 dX4_readDivisor_5 rfl rfl rfl ?_
    refine g_getfield (nx := 9) hX dX4_readDivisor_6 rfl fX4_94 (ga_dn hn rfl) rfl rfl ?_
    refine g_bipush (nx := 11) hX 48 dX4_readDivisor_9 rfl (by decide) ?_
    refine g_icmp_eq (nx := 14) hX 23 dX4_readDivisor_11 (by decide) rfl (fun h11 => ?_) (fun h11 => ?_)
    · refine g_aload_n (nx := 24) hX 0 dX4_readDivisor_23 rfl rfl rfl ?_
      refine g_V0 (nx := 27) hX dX4_readDivisor_24 rfl mX4_159 yX4_takeNumber_ok (w_num hn hl hq (by omega) hb ht) (ga_dn hn rfl) rfl rfl rfl (by decide) rfl (Nat.le_of_ble_eq_true rfl) (Nat.le_of_ble_eq_true rfl) ?_
      rintro _ _ (⟨h5, ⟨v, rfl⟩, ta, tv, sz, st, od', hsz, rfl⟩ | ⟨h5, rfl, rfl⟩)
      · refine g_istore_n (nx := 28) hX 2 dX4_readDivisor_27 rfl rfl rfl ?_
        refine g_iload_n (nx := 29) hX 2 dX4_readDivisor_28 rfl rfl rfl ?_
        refine g_if_ne (nx := 32) hX 38 dX4_readDivisor_29 (by decide) rfl (fun h29 => ?_) (fun h29 => ?_)
        · refine g_aload_n (nx := 39) hX 0 dX4_readDivisor_38 rfl rfl rfl ?_
          refine g_getfield (nx := 42) hX dX4_readDivisor_39 rfl fX4_76 (ga_dn hn rfl) rfl rfl ?_
          refine g_iconst (nx := 43) hX 5 dX4_readDivisor_42 rfl (by decide) ?_
          refine g_iload_n (nx := 44) hX 2 dX4_readDivisor_43 rfl rfl rfl ?_
          refine g_V2 (nx := 47) hX dX4_readDivisor_44 rfl mX4_137 yX6_addStep_ok (x_add hn hsz) (ga_dn hn rfl) rfl rfl rfl (by decide) rfl (Nat.le_of_ble_eq_true rfl) (Nat.le_of_ble_eq_true rfl) ?_
          rintro _ _ ⟨rfl, sz', st', od'', hsz', rfl⟩
          exact g_return hX hP dX4_readDivisor_47 (Nat.le_of_ble_eq_true rfl) (Nat.le_of_ble_eq_true rfl) ⟨rfl, Or.inl ⟨1, q + 5, by unfold R_div; rw [if_pos ht, if_pos h5], by omega, _, _, sz', _, _, hsz', rfl⟩⟩
        · refine g_aload_n (nx := 33) hX 0 dX4_readDivisor_32 rfl rfl rfl ?_
          refine g_iconst (nx := 34) hX 2 dX4_readDivisor_33 rfl (by decide) ?_
          refine g_iload_n (nx := 35) hX 1 dX4_readDivisor_34 rfl rfl rfl ?_
          refine g_V2 (nx := 38) hX dX4_readDivisor_35 rfl mX4_100 yX4_fail_ok (x_fail (k := 1) hn (by omega)) (ga_dn hn rfl) rfl rfl rfl (by decide) rfl (Nat.le_of_ble_eq_true rfl) (Nat.le_of_ble_eq_true rfl) ?_
          rintro _ _ ⟨rfl, rfl⟩
          refine g_aload_n (nx := 39) hX 0 dX4_readDivisor_38 rfl rfl rfl ?_
          refine g_getfield (nx := 42) hX dX4_readDivisor_39 rfl fX4_76 (ga_dn hn rfl) rfl rfl ?_
          refine g_iconst (nx := 43) hX 5 dX4_readDivisor_42 rfl (by decide) ?_
          refine g_iload_n (nx := 44) hX 2 dX4_readDivisor_43 rfl rfl rfl ?_
          refine g_V2 (nx := 47) hX dX4_readDivisor_44 rfl mX4_137 yX6_addStep_ok (x_add hn hsz) (ga_dn hn rfl) rfl rfl rfl (by decide) rfl (Nat.le_of_ble_eq_true rfl) (Nat.le_of_ble_eq_true rfl) ?_
          rintro _ _ ⟨rfl, sz', st', od'', hsz', rfl⟩
          exact g_return hX hP dX4_readDivisor_47 (Nat.le_of_ble_eq_true rfl) (Nat.le_of_ble_eq_true rfl) ⟨rfl, Or.inl ⟨1, q + 5, by unfold R_div; rw [if_pos ht, if_pos h5], by omega, _, _, sz', _, _, hsz', rfl⟩⟩
      · refine g_istore_n (nx := 28) hX 2 dX4_readDivisor_27 rfl rfl rfl ?_
        refine g_iload_n (nx := 29) hX 2 dX4_readDivisor_28 rfl rfl rfl ?_
        refine g_if_ne (nx := 32) hX 38 dX4_readDivisor_29 (by decide) rfl (fun h29 => ?_) (fun h29 => ?_)
        · have h0 : ¬ x_num tb lt q = 0 := fun z => h29 (by rw [z]; rfl)
          refine g_aload_n (nx := 39) hX 0 dX4_readDivisor_38 rfl rfl rfl ?_
          refine g_getfield (nx := 42) hX dX4_readDivisor_39 rfl fX4_76 (ga_dn hn rfl) rfl rfl ?_
          refine g_iconst (nx := 43) hX 5 dX4_readDivisor_42 rfl (by decide) ?_
          refine g_iload_n (nx := 44) hX 2 dX4_readDivisor_43 rfl rfl rfl ?_
          refine g_V2 (nx := 47) hX dX4_readDivisor_44 rfl mX4_137 yX6_addStep_ok (w_add (a := 5) hn hC) (ga_dn hn rfl) rfl rfl rfl (by decide) rfl (Nat.le_of_ble_eq_true rfl) (Nat.le_of_ble_eq_true rfl) ?_
          rintro _ _ ⟨rfl, rfl⟩
          exact g_return hX hP dX4_readDivisor_47 (Nat.le_of_ble_eq_true rfl) (Nat.le_of_ble_eq_true rfl) ⟨rfl, Or.inr ⟨_, _, by unfold R_div; rw [if_pos ht, if_neg h5, if_neg h0], rfl⟩⟩
        · have h0 : x_num tb lt q = 0 := nI_inj (b := 0) h29 (by have := (x_num_N ht h5).2; omega) (by omega)
          refine g_aload_n (nx := 33) hX 0 dX4_readDivisor_32 rfl rfl rfl ?_
          refine g_iconst (nx := 34) hX 2 dX4_readDivisor_33 rfl (by decide) ?_
          refine g_iload_n (nx := 35) hX 1 dX4_readDivisor_34 rfl rfl rfl ?_
          refine g_V2 (nx := 38) hX dX4_readDivisor_35 rfl mX4_100 yX4_fail_ok (w_fail (k := 2) hn) (ga_dn hn rfl) rfl rfl rfl (by decide) rfl (Nat.le_of_ble_eq_true rfl) (Nat.le_of_ble_eq_true rfl) ?_
          rintro _ _ ⟨rfl, rfl⟩
          refine g_aload_n (nx := 39) hX 0 dX4_readDivisor_38 rfl rfl rfl ?_
          refine g_getfield (nx := 42) hX dX4_readDivisor_39 rfl fX4_76 (ga_dn hn rfl) rfl rfl ?_
          refine g_iconst (nx := 43) hX 5 dX4_readDivisor_42 rfl (by decide) ?_
          refine g_iload_n (nx := 44) hX 2 dX4_readDivisor_43 rfl rfl rfl ?_
          refine g_V2 (nx := 47) hX dX4_readDivisor_44 rfl mX4_137 yX6_addStep_ok (x_add hn (Nat.le_of_lt hC)) (ga_dn hn rfl) rfl rfl rfl (by decide) rfl (Nat.le_of_ble_eq_true rfl) (Nat.le_of_ble_eq_true rfl) ?_
          rintro _ _ ⟨rfl, sz', st', od'', hsz', rfl⟩
          exact g_return hX hP dX4_readDivisor_47 (Nat.le_of_ble_eq_true rfl) (Nat.le_of_ble_eq_true rfl) ⟨rfl, Or.inl ⟨2, q, by unfold R_div; rw [if_pos ht, if_neg h5, if_pos h0], by omega, _, _, sz', _, _, hsz', rfl⟩⟩
    · exact absurd ht h11
  · -- so
    refine ga_Mt.of (by decide) rfl (fun X hX hP => ?_)
    refine g_less [some (.ref 13), none, none] ⟨rfl, trivial⟩ ?_
    refine g_aload_n (nx := 1) hX 0 dX4_readDivisor_0 rfl rfl rfl ?_
    refine g_getfield (nx := 4) hX dX4_readDivisor_1 rfl fX4_97 (ga_dn hn rfl) rfl rfl ?_
    refine g_istore_n (nx := 5) hX 1 dX4_readDivisor_4 rfl rfl rfl ?_
    refine g_aload_n (nx := 6) hX 0 dX4_readDivisor_5 rfl rfl rfl ?_
    refine g_getfield (nx := 9) hX dX4_readDivisor_6 rfl fX4_94 (ga_dn hn rfl) rfl rfl ?_
    refine g_bipush (nx := 11) hX 48 dX4_readDivisor_9 rfl (by decide) ?_
    refine g_icmp_eq (nx := 14) hX 23 dX4_readDivisor_11 (by decide) rfl (fun h11 => ?_) (fun h11 => ?_)
    · exact absurd h11 ht
    · refine g_aload_n (nx := 15) hX 0 dX4_readDivisor_14 rfl rfl rfl ?_
      refine g_iconst (nx := 16) hX 1 dX4_readDivisor_15 rfl (by decide) ?_
      refine g_aload_n (nx := 17) hX 0 dX4_readDivisor_16 rfl rfl rfl ?_
      refine g_getfield (nx := 20) hX dX4_readDivisor_17 rfl fX4_97 (ga_dn hn rfl) rfl rfl ?_
      refine g_V2 (nx := 23) hX dX4_readDivisor_20 rfl mX4_100 yX4_fail_ok (w_fail (k := 1) hn) (ga_dn hn rfl) rfl rfl rfl (by decide) rfl (Nat.le_of_ble_eq_true rfl) (Nat.le_of_ble_eq_true rfl) ?_
      rintro _ _ ⟨rfl, rfl⟩
      refine g_aload_n (nx := 24) hX 0 dX4_readDivisor_23 rfl rfl rfl ?_
      refine g_V0 (nx := 27) hX dX4_readDivisor_24 rfl mX4_159 yX4_takeNumber_ok (x_numE (k := 1) hn hl (by omega) hb) (ga_dn hn rfl) rfl rfl rfl (by decide) rfl (Nat.le_of_ble_eq_true rfl) (Nat.le_of_ble_eq_true rfl) ?_
      rintro _ _ ⟨⟨v, rfl⟩, rfl⟩
      refine g_istore_n (nx := 28) hX 2 dX4_readDivisor_27 rfl rfl rfl ?_
      refine g_iload_n (nx := 29) hX 2 dX4_readDivisor_28 rfl rfl rfl ?_
      refine g_if_ne (nx := 32) hX 38 dX4_readDivisor_29 (by decide) rfl (fun h29 => ?_) (fun h29 => ?_)
      · refine g_aload_n (nx := 39) hX 0 dX4_readDivisor_38 rfl rfl rfl ?_
        refine g_getfield (nx := 42) hX dX4_readDivisor_39 rfl fX4_76 (ga_dn hn rfl) rfl rfl ?_
        refine g_iconst (nx := 43) hX 5 dX4_readDivisor_42 rfl (by decide) ?_
        refine g_iload_n (nx := 44) hX 2 dX4_readDivisor_43 rfl rfl rfl ?_
        refine g_V2 (nx := 47) hX dX4_readDivisor_44 rfl mX4_137 yX6_addStep_ok (x_add hn (Nat.le_of_lt hC)) (ga_dn hn rfl) rfl rfl rfl (by decide) rfl (Nat.le_of_ble_eq_true rfl) (Nat.le_of_ble_eq_true rfl) ?_
        rintro _ _ ⟨rfl, sz', st', od'', hsz', rfl⟩
        exact g_return hX hP dX4_readDivisor_47 (Nat.le_of_ble_eq_true rfl) (Nat.le_of_ble_eq_true rfl) ⟨rfl, Or.inl ⟨1, q, by unfold R_div; rw [if_neg ht], by omega, _, _, sz', _, _, hsz', rfl⟩⟩
      · refine g_aload_n (nx := 33) hX 0 dX4_readDivisor_32 rfl rfl rfl ?_
        refine g_iconst (nx := 34) hX 2 dX4_readDivisor_33 rfl (by decide) ?_
        refine g_iload_n (nx := 35) hX 1 dX4_readDivisor_34 rfl rfl rfl ?_
        refine g_V2 (nx := 38) hX dX4_readDivisor_35 rfl mX4_100 yX4_fail_ok (x_fail (k := 1) hn (by omega)) (ga_dn hn rfl) rfl rfl rfl (by decide) rfl (Nat.le_of_ble_eq_true rfl) (Nat.le_of_ble_eq_true rfl) ?_
        rintro _ _ ⟨rfl, rfl⟩
        refine g_aload_n (nx := 39) hX 0 dX4_readDivisor_38 rfl rfl rfl ?_
        refine g_getfield (nx := 42) hX dX4_readDivisor_39 rfl fX4_76 (ga_dn hn rfl) rfl rfl ?_
        refine g_iconst (nx := 43) hX 5 dX4_readDivisor_42 rfl (by decide) ?_
        refine g_iload_n (nx := 44) hX 2 dX4_readDivisor_43 rfl rfl rfl ?_
        refine g_V2 (nx := 47) hX dX4_readDivisor_44 rfl mX4_137 yX6_addStep_ok (x_add hn (Nat.le_of_lt hC)) (ga_dn hn rfl) rfl rfl rfl (by decide) rfl (Nat.le_of_ble_eq_true rfl) (Nat.le_of_ble_eq_true rfl) ?_
        rintro _ _ ⟨rfl, sz', st', od'', hsz', rfl⟩
        exact g_return hX hP dX4_readDivisor_47 (Nat.le_of_ble_eq_true rfl) (Nat.le_of_ble_eq_true rfl) ⟨rfl, Or.inl ⟨1, q, by unfold R_div; rw [if_neg ht], by omega, _, _, sz', _, _, hsz', rfl⟩⟩
end
