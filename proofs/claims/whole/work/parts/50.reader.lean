/-! ===== the reader of the class: its leaves ===== -/
def z_ps (k : Int32) (v : Int64) : Int32 := if k = 97 ∧ v = 13368 then 6 else if k = 97 ∧ v = 13614 then 7 else -1
section
variable {E : ga_E} {X : ga_X} {n : Nat} {c0 c1 c2 c3 c4 c5 c6 c7 c8 c9 c10 c11 c12 c13 c14 c15 c16 c17 c18 c19 c20 c21 c22 c23 c24 c25 c26 c27 c28 c29 c30 m79 m80 m81 m82 m83 m84 m85 m86 m87 m88 m89 m90 m91 m92 m93 m94 m95 m96 m97 m98 m99 m100 m101 m102 m103 m104 m105 : ga_C} {L1 L2 : List ga_C} {f : Nat → ga_C} {o_tp o_rd o_fe o_em o_sp o_ac o_td o_sm o_tt o_at o_sz o_fk o_fp o_nw o_md o_nt o_pl o_op d_at d_tk d_ta d_fd d_fa : Int32} {d_tv : Int64} {d_rl : Value}
variable {z_at z_tk z_ta z_fd z_fa z_sz z_tot z_sm top : Int32} {z_tv : Int64} {nm : Nat → Int64} {tb st_ od eo fo : Nat → Int32} {lt : Nat}
variable {q k pl sz : Nat} {C : List (Nat × Nat)} {ta : Int32} {tv : Int64} {st : Nat → Int32}
theorem c_X4_pairStep (hn : 106 ≤ n) : ga_Mx E 0 yX4_pairStep cX4_pairStep 1 (some .int) 0 0 [.ref 13] (n, (c0 :: k_T lt :: ga_i 600 tb :: c3 :: c4 :: c5 :: c6 :: c7 :: c8 :: c9 :: c10 :: c11 :: c12 :: k_D (.ref 21) (z_at) (z_tk) (z_ta) (z_tv) (z_fd) (z_fa) :: ga_l 39 (nm) :: c15 :: c16 :: c17 :: c18 :: c19 :: c20 :: k_U 21 top (z_sz) (z_tot) (z_sm) :: ga_i 600 (st_) :: ga_i 600 (od) :: ga_i 24 (eo) :: ga_i 24 (fo) :: L1), L2, f) (some (.int (z_ps z_tk z_tv))) (n, (c0 :: k_T lt :: ga_i 600 tb :: c3 :: c4 :: c5 :: c6 :: c7 :: c8 :: c9 :: c10 :: c11 :: c12 :: k_D (.ref 21) (z_at) (z_tk) (z_ta) (z_tv) (z_fd) (z_fa) :: ga_l 39 (nm) :: c15 :: c16 :: c17 :: c18 :: c19 :: c20 :: k_U 21 top (z_sz) (z_tot) (z_sm) :: ga_i 600 (st_) :: ga_i 600 (od) :: ga_i 24 (eo) :: ga_i 24 (fo) :: L1), L2, f) := by
  refine ga_Mt.of (by decide) rfl (fun X hX hP => ?_)
  refine g_less [some (.ref 13)] ⟨rfl, trivial⟩ ?_
  refine g_aload_n (nx := 1) hX 0 dX4_pairStep_0 rfl rfl rfl ?_
  refine g_getfield (nx := 4) hX dX4_pairStep_1 rfl fX4_94 (ga_dn hn rfl) rfl rfl ?_
  refine g_bipush (nx := 6) hX 97 dX4_pairStep_4 rfl (by decide) ?_
  refine g_icmp_ne (nx := 9) hX 24 dX4_pairStep_6 (by decide) rfl (fun h6 => ?_) (fun h6 => ?_)
  · refine g_aload_n (nx := 25) hX 0 dX4_pairStep_24 rfl rfl rfl ?_
    refine g_getfield (nx := 28) hX dX4_pairStep_25 rfl fX4_94 (ga_dn hn rfl) rfl rfl ?_
    refine g_bipush (nx := 30) hX 97 dX4_pairStep_28 rfl (by decide) ?_
    refine g_icmp_ne (nx := 33) hX 50 dX4_pairStep_30 (by decide) rfl (fun h30 => ?_) (fun h30 => ?_)
    · refine g_iconst (nx := 51) hX (-1) dX4_pairStep_50 rfl (by decide) ?_
      exact g_ireturn hX hP dX4_pairStep_51 rfl (Nat.le_of_ble_eq_true rfl) (Nat.le_of_ble_eq_true rfl) ⟨by unfold z_ps; rw [if_neg (fun z => h6 z.1), if_neg (fun z => h6 z.1)], rfl⟩
    · exact absurd h30 h6
  · refine g_aload_n (nx := 10) hX 0 dX4_pairStep_9 rfl rfl rfl ?_
    refine g_getfield (nx := 13) hX dX4_pairStep_10 rfl fX4_104 (ga_dn hn rfl) rfl rfl ?_
    refine g_aload_n (nx := 14) hX 0 dX4_pairStep_13 rfl rfl rfl ?_
    refine g_getfield (nx := 17) hX dX4_pairStep_14 rfl fX4_33 (ga_dn hn rfl) rfl rfl ?_
    refine g_lcmp (nx := 18) hX dX4_pairStep_17 rfl ?_
    refine g_if_ne (nx := 21) hX 24 dX4_pairStep_18 (by decide) rfl (fun h18 => ?_) (fun h18 => ?_)
    · refine g_aload_n (nx := 25) hX 0 dX4_pairStep_24 rfl rfl rfl ?_
      refine g_getfield (nx := 28) hX dX4_pairStep_25 rfl fX4_94 (ga_dn hn rfl) rfl rfl ?_
      refine g_bipush (nx := 30) hX 97 dX4_pairStep_28 rfl (by decide) ?_
      refine g_icmp_ne (nx := 33) hX 50 dX4_pairStep_30 (by decide) rfl (fun h30 => ?_) (fun h30 => ?_)
      · exact absurd h6 h30
      · refine g_aload_n (nx := 34) hX 0 dX4_pairStep_33 rfl rfl rfl ?_
        refine g_getfield (nx := 37) hX dX4_pairStep_34 rfl fX4_104 (ga_dn hn rfl) rfl rfl ?_
        refine g_aload_n (nx := 38) hX 0 dX4_pairStep_37 rfl rfl rfl ?_
        refine g_getfield (nx := 41) hX dX4_pairStep_38 rfl fX4_38 (ga_dn hn rfl) rfl rfl ?_
        refine g_lcmp (nx := 42) hX dX4_pairStep_41 rfl ?_
        refine g_if_ne (nx := 45) hX 50 dX4_pairStep_42 (by decide) rfl (fun h42 => ?_) (fun h42 => ?_)
        · refine g_iconst (nx := 51) hX (-1) dX4_pairStep_50 rfl (by decide) ?_
          exact g_ireturn hX hP dX4_pairStep_51 rfl (Nat.le_of_ble_eq_true rfl) (Nat.le_of_ble_eq_true rfl) ⟨by unfold z_ps; rw [if_neg (fun z => h18 ((lg_cmp_eq _ _).mpr z.2)), if_neg (fun z => h42 ((lg_cmp_eq _ _).mpr z.2))], rfl⟩
        · refine g_bipush (nx := 47) hX 7 dX4_pairStep_45 rfl (by decide) ?_
          refine g_goto (nx := 51) hX dX4_pairStep_47 (by decide) ?_
          exact g_ireturn hX hP dX4_pairStep_51 rfl (Nat.le_of_ble_eq_true rfl) (Nat.le_of_ble_eq_true rfl) ⟨by unfold z_ps; rw [if_neg (fun z => h18 ((lg_cmp_eq _ _).mpr z.2)), if_pos ⟨h6, (lg_cmp_eq _ _).mp h42⟩], rfl⟩
    · refine g_bipush (nx := 23) hX 6 dX4_pairStep_21 rfl (by decide) ?_
      exact g_ireturn hX hP dX4_pairStep_23 rfl (Nat.le_of_ble_eq_true rfl) (Nat.le_of_ble_eq_true rfl) ⟨by unfold z_ps; rw [if_pos ⟨h6, (lg_cmp_eq _ _).mp h18⟩], rfl⟩
theorem c_X4_isKept {v : Int64} (hn : 106 ≤ n) : ga_Mx E 0 yX4_isKept cX4_isKept 3 (some .boolean) 0 0 [.ref 13, .long v] (n, (c0 :: k_T lt :: ga_i 600 tb :: c3 :: c4 :: c5 :: c6 :: c7 :: c8 :: c9 :: c10 :: c11 :: c12 :: k_D (.ref 21) (z_at) (z_tk) (z_ta) (z_tv) (z_fd) (z_fa) :: ga_l 39 (nm) :: c15 :: c16 :: c17 :: c18 :: c19 :: c20 :: k_U 21 top (z_sz) (z_tot) (z_sm) :: ga_i 600 (st_) :: ga_i 600 (od) :: ga_i 24 (eo) :: ga_i 24 (fo) :: L1), L2, f) (some (.int (ga_b (x_kept v)))) (n, (c0 :: k_T lt :: ga_i 600 tb :: c3 :: c4 :: c5 :: c6 :: c7 :: c8 :: c9 :: c10 :: c11 :: c12 :: k_D (.ref 21) (z_at) (z_tk) (z_ta) (z_tv) (z_fd) (z_fa) :: ga_l 39 (nm) :: c15 :: c16 :: c17 :: c18 :: c19 :: c20 :: k_U 21 top (z_sz) (z_tot) (z_sm) :: ga_i 600 (st_) :: ga_i 600 (od) :: ga_i 24 (eo) :: ga_i 24 (fo) :: L1), L2, f) := by
  refine ga_Mt.of (by decide) rfl (fun X hX hP => ?_)
  refine g_less [some (.ref 13), some (.long v), none] ⟨rfl, rfl, trivial⟩ ?_
  refine g_lload_n (nx := 1) hX 1 dX4_isKept_0 rfl rfl rfl ?_
  refine g_aload_n (nx := 2) hX 0 dX4_isKept_1 rfl rfl rfl ?_
  refine g_getfield (nx := 5) hX dX4_isKept_2 rfl fX4_17 (ga_dn hn rfl) rfl rfl ?_
  refine g_lcmp (nx := 6) hX dX4_isKept_5 rfl ?_
  refine g_if_eq (nx := 9) hX 45 dX4_isKept_6 (by decide) rfl (fun h6 => ?_) (fun h6 => ?_)
  · have hk : x_kept v := Or.inl ((lg_cmp_eq _ _).mp h6)
    refine g_iconst (nx := 46) hX 1 dX4_isKept_45 rfl (by decide) ?_
    refine g_goto (nx := 50) hX dX4_isKept_46 (by decide) ?_
    exact g_ireturn hX hP dX4_isKept_50 rfl (Nat.le_of_ble_eq_true rfl) (Nat.le_of_ble_eq_true rfl) ⟨by rw [ga_b_t hk], rfl⟩
  · refine g_lload_n (nx := 10) hX 1 dX4_isKept_9 rfl rfl rfl ?_
    refine g_aload_n (nx := 11) hX 0 dX4_isKept_10 rfl rfl rfl ?_
    refine g_getfield (nx := 14) hX dX4_isKept_11 rfl fX4_23 (ga_dn hn rfl) rfl rfl ?_
    refine g_lcmp (nx := 15) hX dX4_isKept_14 rfl ?_
    refine g_if_eq (nx := 18) hX 45 dX4_isKept_15 (by decide) rfl (fun h15 => ?_) (fun h15 => ?_)
    · have hk : x_kept v := Or.inr (Or.inl ((lg_cmp_eq _ _).mp h15))
      refine g_iconst (nx := 46) hX 1 dX4_isKept_45 rfl (by decide) ?_
      refine g_goto (nx := 50) hX dX4_isKept_46 (by decide) ?_
      exact g_ireturn hX hP dX4_isKept_50 rfl (Nat.le_of_ble_eq_true rfl) (Nat.le_of_ble_eq_true rfl) ⟨by rw [ga_b_t hk], rfl⟩
    · refine g_lload_n (nx := 19) hX 1 dX4_isKept_18 rfl rfl rfl ?_
      refine g_aload_n (nx := 20) hX 0 dX4_isKept_19 rfl rfl rfl ?_
      refine g_getfield (nx := 23) hX dX4_isKept_20 rfl fX4_28 (ga_dn hn rfl) rfl rfl ?_
      refine g_lcmp (nx := 24) hX dX4_isKept_23 rfl ?_
      refine g_if_eq (nx := 27) hX 45 dX4_isKept_24 (by decide) rfl (fun h24 => ?_) (fun h24 => ?_)
      · have hk : x_kept v := Or.inr (Or.inr (Or.inl ((lg_cmp_eq _ _).mp h24)))
        refine g_iconst (nx := 46) hX 1 dX4_isKept_45 rfl (by decide) ?_
        refine g_goto (nx := 50) hX dX4_isKept_46 (by decide) ?_
        exact g_ireturn hX hP dX4_isKept_50 rfl (Nat.le_of_ble_eq_true rfl) (Nat.le_of_ble_eq_true rfl) ⟨by rw [ga_b_t hk], rfl⟩
      · refine g_lload_n (nx := 28) hX 1 dX4_isKept_27 rfl rfl rfl ?_
        refine g_aload_n (nx := 29) hX 0 dX4_isKept_28 rfl rfl rfl ?_
        refine g_getfield (nx := 32) hX dX4_isKept_29 rfl fX4_33 (ga_dn hn rfl) rfl rfl ?_
        refine g_lcmp (nx := 33) hX dX4_isKept_32 rfl ?_
        refine g_if_eq (nx := 36) hX 45 dX4_isKept_33 (by decide) rfl (fun h33 => ?_) (fun h33 => ?_)
        · have hk : x_kept v := Or.inr (Or.inr (Or.inr (Or.inl ((lg_cmp_eq _ _).mp h33))))
          refine g_iconst (nx := 46) hX 1 dX4_isKept_45 rfl (by decide) ?_
          refine g_goto (nx := 50) hX dX4_isKept_46 (by decide) ?_
          exact g_ireturn hX hP dX4_isKept_50 rfl (Nat.le_of_ble_eq_true rfl) (Nat.le_of_ble_eq_true rfl) ⟨by rw [ga_b_t hk], rfl⟩
        · refine g_lload_n (nx := 37) hX 1 dX4_isKept_36 rfl rfl rfl ?_
          refine g_aload_n (nx := 38) hX 0 dX4_isKept_37 rfl rfl rfl ?_
          refine g_getfield (nx := 41) hX dX4_isKept_38 rfl fX4_38 (ga_dn hn rfl) rfl rfl ?_
          refine g_lcmp (nx := 42) hX dX4_isKept_41 rfl ?_
          refine g_if_ne (nx := 45) hX 49 dX4_isKept_42 (by decide) rfl (fun h42 => ?_) (fun h42 => ?_)
          · refine g_iconst (nx := 50) hX 0 dX4_isKept_49 rfl (by decide) ?_
            exact g_ireturn hX hP dX4_isKept_50 rfl (Nat.le_of_ble_eq_true rfl) (Nat.le_of_ble_eq_true rfl) ⟨by rw [ga_b_f (fun z => z.elim (fun z => h6 ((lg_cmp_eq _ _).mpr z)) (fun z => z.elim (fun z => h15 ((lg_cmp_eq _ _).mpr z)) (fun z => z.elim (fun z => h24 ((lg_cmp_eq _ _).mpr z)) (fun z => z.elim (fun z => h33 ((lg_cmp_eq _ _).mpr z)) (fun z => h42 ((lg_cmp_eq _ _).mpr z))))))], rfl⟩
          · have hk : x_kept v := Or.inr (Or.inr (Or.inr (Or.inr ((lg_cmp_eq _ _).mp h42))))
            refine g_iconst (nx := 46) hX 1 dX4_isKept_45 rfl (by decide) ?_
            refine g_goto (nx := 50) hX dX4_isKept_46 (by decide) ?_
            exact g_ireturn hX hP dX4_isKept_50 rfl (Nat.le_of_ble_eq_true rfl) (Nat.le_of_ble_eq_true rfl) ⟨by rw [ga_b_t hk], rfl⟩
theorem c_X4_slotOf {v : Int64} (hn : 106 ≤ n) : ga_Mx E 0 yX4_slotOf cX4_slotOf 4 (some .int) 0 0 [.ref 13, .long v] (n, (c0 :: k_T lt :: ga_i 600 tb :: c3 :: c4 :: c5 :: c6 :: c7 :: c8 :: c9 :: c10 :: c11 :: c12 :: k_D (.ref 21) (z_at) (z_tk) (z_ta) (z_tv) (z_fd) (z_fa) :: ga_l 39 (nm) :: c15 :: c16 :: c17 :: c18 :: c19 :: c20 :: k_U 21 top (z_sz) (z_tot) (z_sm) :: ga_i 600 (st_) :: ga_i 600 (od) :: ga_i 24 (eo) :: ga_i 24 (fo) :: L1), L2, f) (some (.int (x_slot nm v))) (n, (c0 :: k_T lt :: ga_i 600 tb :: c3 :: c4 :: c5 :: c6 :: c7 :: c8 :: c9 :: c10 :: c11 :: c12 :: k_D (.ref 21) (z_at) (z_tk) (z_ta) (z_tv) (z_fd) (z_fa) :: ga_l 39 (nm) :: c15 :: c16 :: c17 :: c18 :: c19 :: c20 :: k_U 21 top (z_sz) (z_tot) (z_sm) :: ga_i 600 (st_) :: ga_i 600 (od) :: ga_i 24 (eo) :: ga_i 24 (fo) :: L1), L2, f) := by
  refine ga_Mt.of (by decide) rfl (fun X hX hP => ?_)
  refine g_less [some (.ref 13), some (.long v), none, none] ⟨rfl, rfl, trivial⟩ ?_
  have loop : ∀ (m i : Nat), i + m = 39 → x_slot nm v = p_fd (fun j => decide (nm j = v)) 39 m → ga_G E X 0 0 2 [some (.ref 13), some (.long v), none, some (.int (nI i))] [] (n, (c0 :: k_T lt :: ga_i 600 tb :: c3 :: c4 :: c5 :: c6 :: c7 :: c8 :: c9 :: c10 :: c11 :: c12 :: k_D (.ref 21) (z_at) (z_tk) (z_ta) (z_tv) (z_fd) (z_fa) :: ga_l 39 (nm) :: c15 :: c16 :: c17 :: c18 :: c19 :: c20 :: k_U 21 top (z_sz) (z_tot) (z_sm) :: ga_i 600 (st_) :: ga_i 600 (od) :: ga_i 24 (eo) :: ga_i 24 (fo) :: L1), L2, f) := by
    intro m
    induction m with
    | zero =>
      intro i h1 h2
      have e : i = 39 := by omega
      subst e
      refine g_iload_n (nx := 3) hX 3 dX4_slotOf_2 rfl rfl rfl ?_
      refine g_bipush (nx := 5) hX 39 dX4_slotOf_3 rfl (by decide) ?_
      refine g_icmp_ge (nx := 8) hX 27 dX4_slotOf_5 (by decide) rfl (fun h5 => ?_) (fun h5 => ?_)
      · refine g_iconst (nx := 28) hX (-1) dX4_slotOf_27 rfl (by decide) ?_
        exact g_ireturn hX hP dX4_slotOf_28 rfl (Nat.le_of_ble_eq_true rfl) (Nat.le_of_ble_eq_true rfl) ⟨by rw [h2] <;> rfl, rfl⟩
      · exact absurd (by decide) h5
    | succ m ih =>
      intro i h1 h2
      rw [p_fd, show 39 - (m + 1) = i by omega] at h2
      refine g_iload_n (nx := 3) hX 3 dX4_slotOf_2 rfl rfl rfl ?_
      refine g_bipush (nx := 5) hX 39 dX4_slotOf_3 rfl (by decide) ?_
      refine g_icmp_ge (nx := 8) hX 27 dX4_slotOf_5 (by decide) rfl (fun h5 => ?_) (fun h5 => ?_)
      · exact absurd ((nI_leI (a := 39) (by omega) (by omega)).mp h5) (by omega)
      · refine g_aload_n (nx := 9) hX 0 dX4_slotOf_8 rfl rfl rfl ?_
        refine g_getfield (nx := 12) hX dX4_slotOf_9 rfl fX4_48 (ga_dn hn rfl) rfl rfl ?_
        refine g_iload_n (nx := 13) hX 3 dX4_slotOf_12 rfl rfl rfl ?_
        refine g_laload (nx := 14) hX dX4_slotOf_13 rfl (ga_dn hn rfl) rfl (ga_ix_of (j := i) rfl (by omega) (by omega)) ?_
        refine g_lload_n (nx := 15) hX 1 dX4_slotOf_14 rfl rfl rfl ?_
        refine g_lcmp (nx := 16) hX dX4_slotOf_15 rfl ?_
        refine g_if_ne (nx := 19) hX 21 dX4_slotOf_16 (by decide) rfl (fun h16 => ?_) (fun h16 => ?_)
        · rw [if_neg (fun z => h16 ((lg_cmp_eq _ _).mpr (of_decide_eq_true z)))] at h2
          refine g_iinc (nx := 24) hX 3 (nI (i + 1)) dX4_slotOf_21 rfl rfl rfl (nI_1 i) ?_
          refine g_goto (nx := 2) hX dX4_slotOf_24 (by decide) ?_
          exact ih (i + 1) (by omega) h2
        · refine g_iload_n (nx := 20) hX 3 dX4_slotOf_19 rfl rfl rfl ?_
          exact g_ireturn hX hP dX4_slotOf_20 rfl (Nat.le_of_ble_eq_true rfl) (Nat.le_of_ble_eq_true rfl) ⟨by rw [h2, if_pos (decide_eq_true ((lg_cmp_eq _ _).mp h16))], rfl⟩
  refine g_iconst (nx := 1) hX 0 dX4_slotOf_0 rfl (by decide) ?_
  refine g_istore_n (nx := 2) hX 3 dX4_slotOf_1 rfl rfl rfl ?_
  exact loop 39 0 rfl rfl
/-! at a word, number or sign; where the text has failed -/
theorem w_adv (hn : 106 ≤ n) (hl : lt ≤ 600) (hq : q ≤ lt) (hb : ∀ i, i < lt → 0 ≤ tb i) : ga_Mx E 0 yX4_advance cX4_advance 3 none 0 0 [.ref 13] (n, (c0 :: k_T lt :: ga_i 600 tb :: c3 :: c4 :: c5 :: c6 :: c7 :: c8 :: c9 :: c10 :: c11 :: c12 :: k_D (.ref 21) (nI (x_te tb lt (q))) (x_tk tb lt (q)) (nI (q)) (x_tv tb lt (q)) (0) (-1) :: ga_l 39 (nm) :: c15 :: c16 :: c17 :: c18 :: c19 :: c20 :: k_U 21 top (nI (C).length) (z_tot) (z_sm) :: ga_i 600 (z_st (C) st_) :: ga_i 600 (z_od (C) od) :: ga_i 24 (eo) :: ga_i 24 (fo) :: L1), L2, f) none (n, (c0 :: k_T lt :: ga_i 600 tb :: c3 :: c4 :: c5 :: c6 :: c7 :: c8 :: c9 :: c10 :: c11 :: c12 :: k_D (.ref 21) (nI (x_te tb lt (x_nx tb lt q))) (x_tk tb lt (x_nx tb lt q)) (nI (x_nx tb lt q)) (x_tv tb lt (x_nx tb lt q)) (0) (-1) :: ga_l 39 (nm) :: c15 :: c16 :: c17 :: c18 :: c19 :: c20 :: k_U 21 top (nI (C).length) (z_tot) (z_sm) :: ga_i 600 (z_st (C) st_) :: ga_i 600 (z_od (C) od) :: ga_i 24 (eo) :: ga_i 24 (fo) :: L1), L2, f) := c_X4_advance hn hl (x_te_le hq).2 hb
theorem x_adv (hn : 106 ≤ n) (hl : lt ≤ 600) (hb : ∀ i, i < lt → 0 ≤ tb i) : ga_Mx E 0 yX4_advance cX4_advance 3 none 0 0 [.ref 13] (n, (c0 :: k_T lt :: ga_i 600 tb :: c3 :: c4 :: c5 :: c6 :: c7 :: c8 :: c9 :: c10 :: c11 :: c12 :: k_D (.ref 21) (nI lt) (-1) (ta) (tv) (nI k) (nI pl) :: ga_l 39 (nm) :: c15 :: c16 :: c17 :: c18 :: c19 :: c20 :: k_U 21 top (nI sz) (z_tot) (z_sm) :: ga_i 600 (st) :: ga_i 600 (od) :: ga_i 24 (eo) :: ga_i 24 (fo) :: L1), L2, f) none (n, (c0 :: k_T lt :: ga_i 600 tb :: c3 :: c4 :: c5 :: c6 :: c7 :: c8 :: c9 :: c10 :: c11 :: c12 :: k_D (.ref 21) (nI lt) (-1) (nI lt) (0) (nI k) (nI pl) :: ga_l 39 (nm) :: c15 :: c16 :: c17 :: c18 :: c19 :: c20 :: k_U 21 top (nI sz) (z_tot) (z_sm) :: ga_i 600 (st) :: ga_i 600 (od) :: ga_i 24 (eo) :: ga_i 24 (fo) :: L1), L2, f) := by
  have h := c_X4_advance (E := E) (p := lt) (tb := tb) (lt := lt) (z_tk := -1) (z_ta := ta) (z_tv := tv) (z_fd := nI k) (z_fa := nI pl) (z_sz := nI sz) (z_tot := z_tot) (z_sm := z_sm) (top := top) (nm := nm) (st_ := st) (od := od) (eo := eo) (fo := fo) (c0 := c0) (c3 := c3) (c4 := c4) (c5 := c5) (c6 := c6) (c7 := c7) (c8 := c8) (c9 := c9) (c10 := c10) (c11 := c11) (c12 := c12) (c15 := c15) (c16 := c16) (c17 := c17) (c18 := c18) (c19 := c19) (c20 := c20) (L1 := L1) (L2 := L2) (f := f) hn hl (Nat.le_refl lt) hb
  rw [x_sk_lt, x_te_lt, x_tk_lt, x_tv_lt] at h
  exact h
theorem w_fail (hn : 106 ≤ n) : ga_Mx E 0 yX4_fail cX4_fail 3 none 0 0 [.ref 13, .int (nI k), .int (nI pl)] (n, (c0 :: k_T lt :: ga_i 600 tb :: c3 :: c4 :: c5 :: c6 :: c7 :: c8 :: c9 :: c10 :: c11 :: c12 :: k_D (.ref 21) (nI (x_te tb lt (q))) (x_tk tb lt (q)) (nI (q)) (x_tv tb lt (q)) (0) (-1) :: ga_l 39 (nm) :: c15 :: c16 :: c17 :: c18 :: c19 :: c20 :: k_U 21 top (nI (C).length) (z_tot) (z_sm) :: ga_i 600 (z_st (C) st_) :: ga_i 600 (z_od (C) od) :: ga_i 24 (eo) :: ga_i 24 (fo) :: L1), L2, f) none (n, (c0 :: k_T lt :: ga_i 600 tb :: c3 :: c4 :: c5 :: c6 :: c7 :: c8 :: c9 :: c10 :: c11 :: c12 :: k_D (.ref 21) (nI lt) (-1) (nI q) (x_tv tb lt q) (nI k) (nI pl) :: ga_l 39 (nm) :: c15 :: c16 :: c17 :: c18 :: c19 :: c20 :: k_U 21 top (nI C.length) (z_tot) (z_sm) :: ga_i 600 (z_st C st_) :: ga_i 600 (z_od C od) :: ga_i 24 (eo) :: ga_i 24 (fo) :: L1), L2, f) := by
  refine ga_Mt.mono ?_ (c_X4_fail hn)
  rintro r M ⟨rfl, rfl⟩
  exact ⟨rfl, rfl⟩
theorem x_fail {a b : Int32} (hn : 106 ≤ n) (hk : 1 ≤ k ∧ k ≤ 4) : ga_Mx E 0 yX4_fail cX4_fail 3 none 0 0 [.ref 13, .int a, .int b] (n, (c0 :: k_T lt :: ga_i 600 tb :: c3 :: c4 :: c5 :: c6 :: c7 :: c8 :: c9 :: c10 :: c11 :: c12 :: k_D (.ref 21) (nI lt) (-1) (ta) (tv) (nI k) (nI pl) :: ga_l 39 (nm) :: c15 :: c16 :: c17 :: c18 :: c19 :: c20 :: k_U 21 top (nI sz) (z_tot) (z_sm) :: ga_i 600 (st) :: ga_i 600 (od) :: ga_i 24 (eo) :: ga_i 24 (fo) :: L1), L2, f) none (n, (c0 :: k_T lt :: ga_i 600 tb :: c3 :: c4 :: c5 :: c6 :: c7 :: c8 :: c9 :: c10 :: c11 :: c12 :: k_D (.ref 21) (nI lt) (-1) (ta) (tv) (nI k) (nI pl) :: ga_l 39 (nm) :: c15 :: c16 :: c17 :: c18 :: c19 :: c20 :: k_U 21 top (nI sz) (z_tot) (z_sm) :: ga_i 600 (st) :: ga_i 600 (od) :: ga_i 24 (eo) :: ga_i 24 (fo) :: L1), L2, f) := by
  refine ga_Mt.mono ?_ (c_X4_fail hn)
  rintro r M ⟨rfl, rfl⟩
  exact ⟨rfl, by rw [if_neg (nI_ne0 (by omega) (by omega)), if_neg (nI_ne0 (by omega) (by omega))] <;> rfl⟩
end
