/-! ===== report, strike, as, fault, all: the calls themselves ===== -/
section
variable {E : ga_E} {X : ga_X} {n : Nat} {c0 c1 c2 c3 c4 c5 c6 c7 c8 c9 c10 c11 c12 c13 c14 c15 c16 c17 c18 c19 c20 c21 c22 c23 c24 c25 c26 c27 c28 c29 c30 m79 m80 m81 m82 m83 m84 m85 m86 m87 m88 m89 m90 m91 m92 m93 m94 m95 m96 m97 m98 m99 m100 m101 m102 m103 m104 m105 : ga_C} {L1 L2 : List ga_C} {f : Nat → ga_C} {o_tp o_rd o_fe o_em o_sp o_ac o_td o_sm o_tt o_at o_sz o_fk o_fp o_nw o_md o_nt o_pl o_op d_at d_tk d_ta d_fd d_fa : Int32} {d_tv : Int64} {d_rl : Value}
variable {sv : Nat → sh_S} {av : Nat → a_S} {ol nw : Nat → Option Nat} {an rn fn : Nat} {ask fm em sp op : Int32} {ms_ mw mk mf ma mb ou : Nat → Int32}
theorem c_X10_canBe {kd fe a b : Int32} (hn : 106 ≤ n) (hf : fn ≤ 30) : ga_Mx E 2 yX10_canBe cX10_canBe 5 (some .boolean) 0 0 [.ref 0, .int kd, .int fe, .int a, .int b] (n, (k_0 ask :: c1 :: c2 :: c3 :: c4 :: c5 :: k_C fm em sp fn op :: L1), L2, f) (some (.int (q_may fn kd fe a b))) (n, (k_0 ask :: c1 :: c2 :: c3 :: c4 :: c5 :: k_C fm em sp fn op :: L1), L2, f) := by
  refine ga_Mt.of (by decide) rfl (fun X hX hP => ?_)
  refine g_less [some (.ref 0), some (.int kd), some (.int fe), some (.int a), some (.int b)] ⟨rfl, rfl, rfl, rfl, rfl, trivial⟩ ?_
  refine g_iload_n (nx := 1) hX 1 dX10_canBe_0 rfl rfl rfl ?_
  rcases sw_10 kd with hsw | rfl | rfl | rfl | rfl | rfl | rfl | rfl | rfl | rfl | rfl
  · refine g_tableOut hX 123 dX10_canBe_1 hsw (by decide) ?_
    have e0 := sw_ne (j := 0) hsw (by decide) (by decide)
    have e1 := sw_ne (j := 1) hsw (by decide) (by decide)
    have e2 := sw_ne (j := 2) hsw (by decide) (by decide)
    have e3 := sw_ne (j := 3) hsw (by decide) (by decide)
    have e4 := sw_ne (j := 4) hsw (by decide) (by decide)
    have e5 := sw_ne (j := 5) hsw (by decide) (by decide)
    have e6 := sw_ne (j := 6) hsw (by decide) (by decide)
    have e7 := sw_ne (j := 7) hsw (by decide) (by decide)
    have e9 := sw_ne (j := 9) hsw (by decide) (by decide)
    refine g_iload_n (nx := 124) hX 1 dX10_canBe_123 rfl rfl rfl ?_
    refine g_bipush (nx := 126) hX 8 dX10_canBe_124 rfl (by decide) ?_
    refine g_icmp_eq (nx := 129) hX 141 dX10_canBe_126 (by decide) rfl (fun h126 => ?_) (fun h126 => ?_)
    · refine g_iconst (nx := 142) hX 1 dX10_canBe_141 rfl (by decide) ?_
      refine g_goto (nx := 146) hX dX10_canBe_142 (by decide) ?_
      exact g_ireturn hX hP dX10_canBe_146 rfl (Nat.le_of_ble_eq_true rfl) (Nat.le_of_ble_eq_true rfl) ⟨by simp [q_may, *], rfl⟩
    · refine g_iload_n (nx := 130) hX 1 dX10_canBe_129 rfl rfl rfl ?_
      refine g_bipush (nx := 132) hX 10 dX10_canBe_130 rfl (by decide) ?_
      refine g_icmp_eq (nx := 135) hX 141 dX10_canBe_132 (by decide) rfl (fun h132 => ?_) (fun h132 => ?_)
      · refine g_iconst (nx := 142) hX 1 dX10_canBe_141 rfl (by decide) ?_
        refine g_goto (nx := 146) hX dX10_canBe_142 (by decide) ?_
        exact g_ireturn hX hP dX10_canBe_146 rfl (Nat.le_of_ble_eq_true rfl) (Nat.le_of_ble_eq_true rfl) ⟨by simp [q_may, *], rfl⟩
      · refine g_iload_n (nx := 136) hX 1 dX10_canBe_135 rfl rfl rfl ?_
        refine g_bipush (nx := 138) hX 11 dX10_canBe_136 rfl (by decide) ?_
        refine g_icmp_ne (nx := 141) hX 145 dX10_canBe_138 (by decide) rfl (fun h138 => ?_) (fun h138 => ?_)
        · refine g_iconst (nx := 146) hX 0 dX10_canBe_145 rfl (by decide) ?_
          exact g_ireturn hX hP dX10_canBe_146 rfl (Nat.le_of_ble_eq_true rfl) (Nat.le_of_ble_eq_true rfl) ⟨by simp [q_may, *], rfl⟩
        · refine g_iconst (nx := 142) hX 1 dX10_canBe_141 rfl (by decide) ?_
          refine g_goto (nx := 146) hX dX10_canBe_142 (by decide) ?_
          exact g_ireturn hX hP dX10_canBe_146 rfl (Nat.le_of_ble_eq_true rfl) (Nat.le_of_ble_eq_true rfl) ⟨by simp [q_may, *], rfl⟩
  · refine g_tableIn hX 56 dX10_canBe_1 (by decide) (by decide) rfl (by decide) ?_
    refine g_iload_n (nx := 57) hX 3 dX10_canBe_56 rfl rfl rfl ?_
    refine g_iconst (nx := 58) hX 0 dX10_canBe_57 rfl (by decide) ?_
    refine g_sipush (nx := 61) hX 10000 dX10_canBe_58 rfl (by decide) ?_
    refine g_S3 (nx := 64) hX dX10_canBe_61 rfl mX10_122 yX10_isWithin_ok (c_X10_isWithin) (by decide) rfl (Nat.le_of_ble_eq_true rfl) (Nat.le_of_ble_eq_true rfl) ?_
    rintro _ _ ⟨rfl, rfl⟩
    exact g_ireturn hX hP dX10_canBe_64 (ga_b_nar _) (Nat.le_of_ble_eq_true rfl) (Nat.le_of_ble_eq_true rfl) ⟨by simp [q_may], rfl⟩
  · refine g_tableIn hX 65 dX10_canBe_1 (by decide) (by decide) rfl (by decide) ?_
    refine g_iload_n (nx := 66) hX 3 dX10_canBe_65 rfl rfl rfl ?_
    refine g_iconst (nx := 67) hX 0 dX10_canBe_66 rfl (by decide) ?_
    refine g_ldc (nx := 69) hX 86399 dX10_canBe_67 rfl kX10_204 ?_
    refine g_S3 (nx := 72) hX dX10_canBe_69 rfl mX10_122 yX10_isWithin_ok (c_X10_isWithin) (by decide) rfl (Nat.le_of_ble_eq_true rfl) (Nat.le_of_ble_eq_true rfl) ?_
    rintro _ _ ⟨rfl, rfl⟩
    exact g_ireturn hX hP dX10_canBe_72 (ga_b_nar _) (Nat.le_of_ble_eq_true rfl) (Nat.le_of_ble_eq_true rfl) ⟨by simp [q_may], rfl⟩
  · refine g_tableIn hX 65 dX10_canBe_1 (by decide) (by decide) rfl (by decide) ?_
    refine g_iload_n (nx := 66) hX 3 dX10_canBe_65 rfl rfl rfl ?_
    refine g_iconst (nx := 67) hX 0 dX10_canBe_66 rfl (by decide) ?_
    refine g_ldc (nx := 69) hX 86399 dX10_canBe_67 rfl kX10_204 ?_
    refine g_S3 (nx := 72) hX dX10_canBe_69 rfl mX10_122 yX10_isWithin_ok (c_X10_isWithin) (by decide) rfl (Nat.le_of_ble_eq_true rfl) (Nat.le_of_ble_eq_true rfl) ?_
    rintro _ _ ⟨rfl, rfl⟩
    exact g_ireturn hX hP dX10_canBe_72 (ga_b_nar _) (Nat.le_of_ble_eq_true rfl) (Nat.le_of_ble_eq_true rfl) ⟨by simp [q_may], rfl⟩
  · refine g_tableIn hX 73 dX10_canBe_1 (by decide) (by decide) rfl (by decide) ?_
    refine g_aload_n (nx := 74) hX 0 dX10_canBe_73 rfl rfl rfl ?_
    refine g_getfield (nx := 77) hX dX10_canBe_74 rfl fX10_26 (ga_dn hn rfl) rfl rfl ?_
    refine g_iload_n (nx := 78) hX 2 dX10_canBe_77 rfl rfl rfl ?_
    refine g_V1 (nx := 81) hX dX10_canBe_78 rfl mX10_205 yX2_hasFence_ok (c_X2_hasFence hn hf) (ga_dn hn rfl) rfl rfl rfl (by decide) rfl (Nat.le_of_ble_eq_true rfl) (Nat.le_of_ble_eq_true rfl) ?_
    rintro _ _ ⟨rfl, rfl⟩
    exact g_ireturn hX hP dX10_canBe_81 (ga_b_nar _) (Nat.le_of_ble_eq_true rfl) (Nat.le_of_ble_eq_true rfl) ⟨by simp [q_may], rfl⟩
  · refine g_tableIn hX 73 dX10_canBe_1 (by decide) (by decide) rfl (by decide) ?_
    refine g_aload_n (nx := 74) hX 0 dX10_canBe_73 rfl rfl rfl ?_
    refine g_getfield (nx := 77) hX dX10_canBe_74 rfl fX10_26 (ga_dn hn rfl) rfl rfl ?_
    refine g_iload_n (nx := 78) hX 2 dX10_canBe_77 rfl rfl rfl ?_
    refine g_V1 (nx := 81) hX dX10_canBe_78 rfl mX10_205 yX2_hasFence_ok (c_X2_hasFence hn hf) (ga_dn hn rfl) rfl rfl rfl (by decide) rfl (Nat.le_of_ble_eq_true rfl) (Nat.le_of_ble_eq_true rfl) ?_
    rintro _ _ ⟨rfl, rfl⟩
    exact g_ireturn hX hP dX10_canBe_81 (ga_b_nar _) (Nat.le_of_ble_eq_true rfl) (Nat.le_of_ble_eq_true rfl) ⟨by simp [q_may], rfl⟩
  · refine g_tableIn hX 73 dX10_canBe_1 (by decide) (by decide) rfl (by decide) ?_
    refine g_aload_n (nx := 74) hX 0 dX10_canBe_73 rfl rfl rfl ?_
    refine g_getfield (nx := 77) hX dX10_canBe_74 rfl fX10_26 (ga_dn hn rfl) rfl rfl ?_
    refine g_iload_n (nx := 78) hX 2 dX10_canBe_77 rfl rfl rfl ?_
    refine g_V1 (nx := 81) hX dX10_canBe_78 rfl mX10_205 yX2_hasFence_ok (c_X2_hasFence hn hf) (ga_dn hn rfl) rfl rfl rfl (by decide) rfl (Nat.le_of_ble_eq_true rfl) (Nat.le_of_ble_eq_true rfl) ?_
    rintro _ _ ⟨rfl, rfl⟩
    exact g_ireturn hX hP dX10_canBe_81 (ga_b_nar _) (Nat.le_of_ble_eq_true rfl) (Nat.le_of_ble_eq_true rfl) ⟨by simp [q_may], rfl⟩
  · refine g_tableIn hX 73 dX10_canBe_1 (by decide) (by decide) rfl (by decide) ?_
    refine g_aload_n (nx := 74) hX 0 dX10_canBe_73 rfl rfl rfl ?_
    refine g_getfield (nx := 77) hX dX10_canBe_74 rfl fX10_26 (ga_dn hn rfl) rfl rfl ?_
    refine g_iload_n (nx := 78) hX 2 dX10_canBe_77 rfl rfl rfl ?_
    refine g_V1 (nx := 81) hX dX10_canBe_78 rfl mX10_205 yX2_hasFence_ok (c_X2_hasFence hn hf) (ga_dn hn rfl) rfl rfl rfl (by decide) rfl (Nat.le_of_ble_eq_true rfl) (Nat.le_of_ble_eq_true rfl) ?_
    rintro _ _ ⟨rfl, rfl⟩
    exact g_ireturn hX hP dX10_canBe_81 (ga_b_nar _) (Nat.le_of_ble_eq_true rfl) (Nat.le_of_ble_eq_true rfl) ⟨by simp [q_may], rfl⟩
  · refine g_tableIn hX 82 dX10_canBe_1 (by decide) (by decide) rfl (by decide) ?_
    refine g_aload_n (nx := 83) hX 0 dX10_canBe_82 rfl rfl rfl ?_
    refine g_getfield (nx := 86) hX dX10_canBe_83 rfl fX10_26 (ga_dn hn rfl) rfl rfl ?_
    refine g_iload_n (nx := 87) hX 2 dX10_canBe_86 rfl rfl rfl ?_
    refine g_V1 (nx := 90) hX dX10_canBe_87 rfl mX10_205 yX2_hasFence_ok (c_X2_hasFence hn hf) (ga_dn hn rfl) rfl rfl rfl (by decide) rfl (Nat.le_of_ble_eq_true rfl) (Nat.le_of_ble_eq_true rfl) ?_
    rintro _ _ ⟨rfl, rfl⟩
    refine g_if_eq (nx := 93) hX 112 dX10_canBe_90 (by decide) rfl (fun h90 => ?_) (fun h90 => ?_)
    · refine g_iconst (nx := 113) hX 0 dX10_canBe_112 rfl (by decide) ?_
      exact g_ireturn hX hP dX10_canBe_113 rfl (Nat.le_of_ble_eq_true rfl) (Nat.le_of_ble_eq_true rfl) ⟨by simp [q_may, ga_b_f (show ¬ ((0 ≤ fe ∧ fe < nI fn) ∧ 0 ≤ a ∧ a ≤ b ∧ b ≤ 86399) from fun q => ga_b_0 h90 q.1)], rfl⟩
    · refine g_iload_n (nx := 94) hX 3 dX10_canBe_93 rfl rfl rfl ?_
      refine g_if_lt (nx := 97) hX 112 dX10_canBe_94 (by decide) rfl (fun h94 => ?_) (fun h94 => ?_)
      · refine g_iconst (nx := 113) hX 0 dX10_canBe_112 rfl (by decide) ?_
        exact g_ireturn hX hP dX10_canBe_113 rfl (Nat.le_of_ble_eq_true rfl) (Nat.le_of_ble_eq_true rfl) ⟨by simp [q_may, ga_b_f (show ¬ ((0 ≤ fe ∧ fe < nI fn) ∧ 0 ≤ a ∧ a ≤ b ∧ b ≤ 86399) from fun q => ga_ltn h94 q.2.1)], rfl⟩
      · refine g_iload (nx := 99) hX 4 dX10_canBe_97 rfl rfl ?_
        refine g_iload_n (nx := 100) hX 3 dX10_canBe_99 rfl rfl rfl ?_
        refine g_ldc (nx := 102) hX 86399 dX10_canBe_100 rfl kX10_204 ?_
        refine g_S3 (nx := 105) hX dX10_canBe_102 rfl mX10_122 yX10_isWithin_ok (c_X10_isWithin) (by decide) rfl (Nat.le_of_ble_eq_true rfl) (Nat.le_of_ble_eq_true rfl) ?_
        rintro _ _ ⟨rfl, rfl⟩
        refine g_if_eq (nx := 108) hX 112 dX10_canBe_105 (by decide) rfl (fun h105 => ?_) (fun h105 => ?_)
        · refine g_iconst (nx := 113) hX 0 dX10_canBe_112 rfl (by decide) ?_
          exact g_ireturn hX hP dX10_canBe_113 rfl (Nat.le_of_ble_eq_true rfl) (Nat.le_of_ble_eq_true rfl) ⟨by simp [q_may, ga_b_f (show ¬ ((0 ≤ fe ∧ fe < nI fn) ∧ 0 ≤ a ∧ a ≤ b ∧ b ≤ 86399) from fun q => ga_b_0 h105 q.2.2)], rfl⟩
        · refine g_iconst (nx := 109) hX 1 dX10_canBe_108 rfl (by decide) ?_
          refine g_goto (nx := 113) hX dX10_canBe_109 (by decide) ?_
          exact g_ireturn hX hP dX10_canBe_113 rfl (Nat.le_of_ble_eq_true rfl) (Nat.le_of_ble_eq_true rfl) ⟨by simp [q_may, ga_b_t (show (0 ≤ fe ∧ fe < nI fn) ∧ 0 ≤ a ∧ a ≤ b ∧ b ≤ 86399 from ⟨ga_b_n0 h90, ga_nlt h94, ga_b_n0 h105⟩)], rfl⟩
  · refine g_tableIn hX 123 dX10_canBe_1 (by decide) (by decide) rfl (by decide) ?_
    refine g_iload_n (nx := 124) hX 1 dX10_canBe_123 rfl rfl rfl ?_
    refine g_bipush (nx := 126) hX 8 dX10_canBe_124 rfl (by decide) ?_
    refine g_icmp_eq (nx := 129) hX 141 dX10_canBe_126 (by decide) rfl (fun h126 => ?_) (fun h126 => absurd rfl h126)
    refine g_iconst (nx := 142) hX 1 dX10_canBe_141 rfl (by decide) ?_
    refine g_goto (nx := 146) hX dX10_canBe_142 (by decide) ?_
    exact g_ireturn hX hP dX10_canBe_146 rfl (Nat.le_of_ble_eq_true rfl) (Nat.le_of_ble_eq_true rfl) ⟨by simp [q_may], rfl⟩
  · refine g_tableIn hX 114 dX10_canBe_1 (by decide) (by decide) rfl (by decide) ?_
    refine g_iload_n (nx := 115) hX 3 dX10_canBe_114 rfl rfl rfl ?_
    refine g_iconst (nx := 116) hX 0 dX10_canBe_115 rfl (by decide) ?_
    refine g_sipush (nx := 119) hX 9999 dX10_canBe_116 rfl (by decide) ?_
    refine g_S3 (nx := 122) hX dX10_canBe_119 rfl mX10_122 yX10_isWithin_ok (c_X10_isWithin) (by decide) rfl (Nat.le_of_ble_eq_true rfl) (Nat.le_of_ble_eq_true rfl) ?_
    rintro _ _ ⟨rfl, rfl⟩
    exact g_ireturn hX hP dX10_canBe_122 (ga_b_nar _) (Nat.le_of_ble_eq_true rfl) (Nat.le_of_ble_eq_true rfl) ⟨by simp [q_may], rfl⟩
theorem c_X10_toldAct (hn : 106 ≤ n) : ga_Mx E 0 yX10_toldAct cX10_toldAct 1 (some .int) 0 0 [.ref 0] (n, (k_0 ask :: c1 :: c2 :: c3 :: c4 :: c5 :: c6 :: c7 :: c8 :: k_L an :: L1), L2, f) (some (.int (if ask = -1 then nI an else ask))) (n, (k_0 ask :: c1 :: c2 :: c3 :: c4 :: c5 :: c6 :: c7 :: c8 :: k_L an :: L1), L2, f) := by
  refine ga_Mt.of (by decide) rfl (fun X hX hP => ?_)
  refine g_less [some (.ref 0)] ⟨rfl, trivial⟩ ?_
  refine g_aload_n (nx := 1) hX 0 dX10_toldAct_0 rfl rfl rfl ?_
  refine g_getfield (nx := 4) hX dX10_toldAct_1 rfl fX10_65 (ga_dn hn rfl) rfl rfl ?_
  refine g_iconst (nx := 5) hX (-1) dX10_toldAct_4 rfl (by decide) ?_
  refine g_icmp_ne (nx := 8) hX 18 dX10_toldAct_5 (by decide) rfl (fun h5 => ?_) (fun h5 => ?_)
  · refine g_aload_n (nx := 19) hX 0 dX10_toldAct_18 rfl rfl rfl ?_
    refine g_getfield (nx := 22) hX dX10_toldAct_19 rfl fX10_65 (ga_dn hn rfl) rfl rfl ?_
    exact g_ireturn hX hP dX10_toldAct_22 rfl (Nat.le_of_ble_eq_true rfl) (Nat.le_of_ble_eq_true rfl) ⟨by rw [if_neg h5], rfl⟩
  · refine g_aload_n (nx := 9) hX 0 dX10_toldAct_8 rfl rfl rfl ?_
    refine g_getfield (nx := 12) hX dX10_toldAct_9 rfl fX10_33 (ga_dn hn rfl) rfl rfl ?_
    refine g_getfield (nx := 15) hX dX10_toldAct_12 rfl fX10_119 (ga_dn hn rfl) rfl rfl ?_
    refine g_goto (nx := 22) hX dX10_toldAct_15 (by decide) ?_
    exact g_ireturn hX hP dX10_toldAct_22 rfl (Nat.le_of_ble_eq_true rfl) (Nat.le_of_ble_eq_true rfl) ⟨by rw [if_pos h5], rfl⟩
theorem c_X10_report {v kd fe a b : Int32} (hid : ∀ a, 27 ≤ a → E.2.1 a = E.1 + a) (hr : rn ≤ 24) (hf : fn ≤ 30) (ha : an ≤ 400) (hnw : ∀ r, r < rn → nw r = none ∨ ∃ k, 1 ≤ k ∧ k ≤ an ∧ nw r = some (k + 105)) : ga_Mt E 3 yX10_report cX10_report 6 (some .int) 1 8 [.ref 0, .int v, .int kd, .int fe, .int a, .int b] (an + 106, (k_0 ask :: c1 :: c2 :: k_R rn :: c4 :: c5 :: k_C fm em sp fn op :: c7 :: c8 :: k_L an :: ga_r 4 401 (l_w an) :: ga_r 4 24 ol :: ga_r 4 24 nw :: L1), L2, sh_f sv (a_f av))
    (fun z M => (∃ r, r < rn ∧ v = nI r ∧ ¬ q_may fn kd fe a b = 0 ∧ an < 400 ∧ z = some (.int (nI (an + 1))) ∧ M = (an + 107, (k_0 ask :: c1 :: c2 :: k_R rn :: c4 :: c5 :: k_C fm em sp fn op :: c7 :: c8 :: k_L (an + 1) :: ga_r 4 401 (l_w (an + 1)) :: ga_r 4 24 (l_ol ol nw r (an + 106)) :: ga_r 4 24 (va_up nw r (some (an + 106))) :: L1), L2, sh_f sv (a_f (l_av av nw r kd fe a b an)))) ∨
      ¬ (∃ r, r < rn ∧ v = nI r ∧ ¬ q_may fn kd fe a b = 0 ∧ an < 400) ∧ z = some (.int (-1)) ∧ M = (an + 106, (k_0 ask :: c1 :: c2 :: k_R rn :: c4 :: c5 :: k_C fm em sp fn op :: c7 :: c8 :: k_L an :: ga_r 4 401 (l_w an) :: ga_r 4 24 ol :: ga_r 4 24 nw :: L1), L2, sh_f sv (a_f av))) := by
  have hn : 106 ≤ an + 106 := by omega
  refine ga_Mt.of (by decide) rfl (fun X hX hP => ?_)
  refine g_less [some (.ref 0), some (.int v), some (.int kd), some (.int fe), some (.int a), some (.int b)] ⟨rfl, rfl, rfl, rfl, rfl, rfl, trivial⟩ ?_
  refine g_aload_n (nx := 1) hX 0 dX10_report_0 rfl rfl rfl ?_
  refine g_getfield (nx := 4) hX dX10_report_1 rfl fX10_19 (ga_dn hn rfl) rfl rfl ?_
  refine g_iload_n (nx := 5) hX 1 dX10_report_4 rfl rfl rfl ?_
  refine g_V1 (nx := 8) hX dX10_report_5 rfl mX10_105 yX5_has_ok (c_X5_has hn hr) (ga_dn hn rfl) rfl rfl rfl (by decide) rfl (Nat.le_of_ble_eq_true rfl) (Nat.le_of_ble_eq_true rfl) ?_
  rintro _ _ ⟨rfl, rfl⟩
  refine g_if_eq (nx := 11) hX 24 dX10_report_8 (by decide) rfl (fun h8 => ?_) (fun h8 => ?_)
  · refine g_iconst (nx := 25) hX (-1) dX10_report_24 rfl (by decide) ?_
    exact g_ireturn hX hP dX10_report_25 rfl (by decide) (by decide) (Or.inr ⟨fun ⟨r, h1, h2, _⟩ => ga_b_0 h8 (by rw [h2]; exact ⟨nI_pos' (by omega), nI_lt h1 (by omega)⟩), rfl, rfl⟩)
  · refine g_aload_n (nx := 12) hX 0 dX10_report_11 rfl rfl rfl ?_
    refine g_iload_n (nx := 13) hX 2 dX10_report_12 rfl rfl rfl ?_
    refine g_iload_n (nx := 14) hX 3 dX10_report_13 rfl rfl rfl ?_
    refine g_iload (nx := 16) hX 4 dX10_report_14 rfl rfl ?_
    refine g_iload (nx := 18) hX 5 dX10_report_16 rfl rfl ?_
    refine g_V4 (nx := 21) hX dX10_report_18 rfl mX10_108 yX10_canBe_ok (c_X10_canBe hn hf) (ga_dn hn rfl) rfl rfl rfl (by decide) rfl (Nat.le_of_ble_eq_true rfl) (Nat.le_of_ble_eq_true rfl) ?_
    rintro _ _ ⟨rfl, rfl⟩
    refine g_if_ne (nx := 24) hX 26 dX10_report_21 (by decide) rfl (fun h21 => ?_) (fun h21 => ?_)
    · have hb := ga_b_n0 h8
      obtain ⟨r, hr2, e, e2⟩ := v_of hb.1 hb.2 (by omega)
      subst e
      refine g_aload_n (nx := 27) hX 0 dX10_report_26 rfl rfl rfl ?_
      refine g_getfield (nx := 30) hX dX10_report_27 rfl fX10_33 (ga_dn hn rfl) rfl rfl ?_
      refine g_iload_n (nx := 31) hX 1 dX10_report_30 rfl rfl rfl ?_
      refine g_iload_n (nx := 32) hX 2 dX10_report_31 rfl rfl rfl ?_
      refine g_iload_n (nx := 33) hX 3 dX10_report_32 rfl rfl rfl ?_
      refine g_iload (nx := 35) hX 4 dX10_report_33 rfl rfl ?_
      refine g_iload (nx := 37) hX 5 dX10_report_35 rfl rfl ?_
      refine g_V5 (nx := 40) hX dX10_report_37 rfl mX10_112 yX3_addReport_ok (c_X3_addReport hid (by omega) ha (hnw r hr2)) (ga_dn hn rfl) rfl rfl rfl (by decide) rfl (Nat.le_of_ble_eq_true rfl) (Nat.le_of_ble_eq_true rfl) ?_
      rintro z M (⟨h, rfl, rfl⟩ | ⟨h, rfl, rfl⟩)
      · exact g_ireturn hX hP dX10_report_40 rfl (Nat.le_of_ble_eq_true rfl) (Nat.le_of_ble_eq_true rfl) (Or.inl ⟨r, hr2, rfl, h21, h, rfl, rfl⟩)
      · exact g_ireturn hX hP dX10_report_40 rfl (Nat.le_of_ble_eq_true rfl) (Nat.le_of_ble_eq_true rfl) (Or.inr ⟨fun ⟨j, h1, h2, h3, h4⟩ => h h4, rfl, rfl⟩)
    · refine g_iconst (nx := 25) hX (-1) dX10_report_24 rfl (by decide) ?_
      exact g_ireturn hX hP dX10_report_25 rfl (by decide) (by decide) (Or.inr ⟨fun ⟨r, h1, h2, h3, _⟩ => h3 h21, rfl, rfl⟩)
theorem c_X10_strike {v : Int32} (hid : ∀ a, 27 ≤ a → E.2.1 a = E.1 + a) (ha : an ≤ 400) : ga_Mt E 3 yX10_strike cX10_strike 2 (some .int) 1 8 [.ref 0, .int v] (an + 106, (k_0 ask :: c1 :: c2 :: c3 :: c4 :: c5 :: c6 :: c7 :: c8 :: k_L an :: ga_r 4 401 (l_w an) :: L1), L2, sh_f sv (a_f av))
    (fun z M => (∃ k, (1 ≤ k ∧ k ≤ an) ∧ v = nI k ∧ an < 400 ∧ (av k).2.1 ≠ 12 ∧ (av k).2.2.2.2.2.2.1 = -1 ∧ z = some (.int (nI (an + 1))) ∧ M = (an + 107, (k_0 ask :: c1 :: c2 :: c3 :: c4 :: c5 :: c6 :: c7 :: c8 :: k_L (an + 1) :: ga_r 4 401 (l_w (an + 1)) :: L1), L2, sh_f sv (a_f (l_sv av k an)))) ∨ ¬ (∃ k, (1 ≤ k ∧ k ≤ an) ∧ v = nI k ∧ an < 400 ∧ (av k).2.1 ≠ 12 ∧ (av k).2.2.2.2.2.2.1 = -1) ∧ z = some (.int (-1)) ∧ M = (an + 106, (k_0 ask :: c1 :: c2 :: c3 :: c4 :: c5 :: c6 :: c7 :: c8 :: k_L an :: ga_r 4 401 (l_w an) :: L1), L2, sh_f sv (a_f av))) := by
  have hn : 106 ≤ an + 106 := by omega
  refine ga_Mt.of (by decide) rfl (fun X hX hP => ?_)
  refine g_less [some (.ref 0), some (.int v)] ⟨rfl, rfl, trivial⟩ ?_
  refine g_aload_n (nx := 1) hX 0 dX10_strike_0 rfl rfl rfl ?_
  refine g_getfield (nx := 4) hX dX10_strike_1 rfl fX10_33 (ga_dn hn rfl) rfl rfl ?_
  refine g_iload_n (nx := 5) hX 1 dX10_strike_4 rfl rfl rfl ?_
  refine g_V1 (nx := 8) hX dX10_strike_5 rfl mX10_116 yX3_addStrike_ok (c_X3_addStrike hid ha) (ga_dn hn rfl) rfl rfl rfl (by decide) rfl (Nat.le_of_ble_eq_true rfl) (Nat.le_of_ble_eq_true rfl) ?_
  rintro z M (⟨k, h1, h2, h3, h4, h5, rfl, rfl⟩ | ⟨h, rfl, rfl⟩)
  · exact g_ireturn hX hP dX10_strike_8 rfl (Nat.le_of_ble_eq_true rfl) (Nat.le_of_ble_eq_true rfl) (Or.inl ⟨k, h1, h2, h3, h4, h5, rfl, rfl⟩)
  · exact g_ireturn hX hP dX10_strike_8 rfl (Nat.le_of_ble_eq_true rfl) (Nat.le_of_ble_eq_true rfl) (Or.inr ⟨h, rfl, rfl⟩)
theorem c_X10_as {v : Int32} (hn : 106 ≤ n) : ga_Mt E 1 yX10_as cX10_as 2 (some .boolean) 0 0 [.ref 0, .int v] (n, (k_0 ask :: c1 :: c2 :: c3 :: c4 :: c5 :: c6 :: c7 :: c8 :: k_L an :: L1), L2, f)
    (fun z M => (-1 ≤ v ∧ v ≤ nI an) ∧ z = some (.int 1) ∧ M = (n, (k_0 v :: c1 :: c2 :: c3 :: c4 :: c5 :: c6 :: c7 :: c8 :: k_L an :: L1), L2, f) ∨ ¬ (-1 ≤ v ∧ v ≤ nI an) ∧ z = some (.int 0) ∧ M = (n, (k_0 ask :: c1 :: c2 :: c3 :: c4 :: c5 :: c6 :: c7 :: c8 :: k_L an :: L1), L2, f)) := by
  refine ga_Mt.of (by decide) rfl (fun X hX hP => ?_)
  refine g_less [some (.ref 0), some (.int v)] ⟨rfl, rfl, trivial⟩ ?_
  refine g_iload_n (nx := 1) hX 1 dX10_as_0 rfl rfl rfl ?_
  refine g_iconst (nx := 2) hX (-1) dX10_as_1 rfl (by decide) ?_
  refine g_aload_n (nx := 3) hX 0 dX10_as_2 rfl rfl rfl ?_
  refine g_getfield (nx := 6) hX dX10_as_3 rfl fX10_33 (ga_dn hn rfl) rfl rfl ?_
  refine g_getfield (nx := 9) hX dX10_as_6 rfl fX10_119 (ga_dn hn rfl) rfl rfl ?_
  refine g_S3 (nx := 12) hX dX10_as_9 rfl mX10_122 yX10_isWithin_ok (c_X10_isWithin) (by decide) rfl (Nat.le_of_ble_eq_true rfl) (Nat.le_of_ble_eq_true rfl) ?_
  rintro _ _ ⟨rfl, rfl⟩
  refine g_if_ne (nx := 15) hX 17 dX10_as_12 (by decide) rfl (fun h12 => ?_) (fun h12 => ?_)
  · refine g_aload_n (nx := 18) hX 0 dX10_as_17 rfl rfl rfl ?_
    refine g_iload_n (nx := 19) hX 1 dX10_as_18 rfl rfl rfl ?_
    refine g_putfield (nx := 22) hX dX10_as_19 rfl pX10_65 (ga_dn hn rfl) rfl rfl rfl rfl ?_
    refine g_iconst (nx := 23) hX 1 dX10_as_22 rfl (by decide) ?_
    exact g_ireturn hX hP dX10_as_23 rfl (Nat.le_of_ble_eq_true rfl) (Nat.le_of_ble_eq_true rfl) (Or.inl ⟨ga_b_n0 h12, rfl, rfl⟩)
  · refine g_iconst (nx := 16) hX 0 dX10_as_15 rfl (by decide) ?_
    exact g_ireturn hX hP dX10_as_16 rfl (Nat.le_of_ble_eq_true rfl) (Nat.le_of_ble_eq_true rfl) (Or.inr ⟨ga_b_0 h12, rfl, rfl⟩)
theorem c_X10_fault {v : Int32} (hn : 106 ≤ n) : ga_Mx E 0 yX10_fault cX10_fault 2 (some .int) 0 0 [.ref 0, .int v] (n, (k_0 ask :: c1 :: c2 :: c3 :: c4 :: c5 :: c6 :: c7 :: c8 :: c9 :: c10 :: c11 :: c12 :: (k_D d_rl d_at d_tk d_ta d_tv d_fd d_fa) :: L1), L2, f) (some (.int (if v = 0 then d_fd else if v = 1 then d_fa else -1))) (n, (k_0 ask :: c1 :: c2 :: c3 :: c4 :: c5 :: c6 :: c7 :: c8 :: c9 :: c10 :: c11 :: c12 :: (k_D d_rl d_at d_tk d_ta d_tv d_fd d_fa) :: L1), L2, f) := by
  refine ga_Mt.of (by decide) rfl (fun X hX hP => ?_)
  refine g_less [some (.ref 0), some (.int v)] ⟨rfl, rfl, trivial⟩ ?_
  refine g_iload_n (nx := 1) hX 1 dX10_fault_0 rfl rfl rfl ?_
  refine g_if_ne (nx := 4) hX 12 dX10_fault_1 (by decide) rfl (fun h1 => ?_) (fun h1 => ?_)
  · refine g_iload_n (nx := 13) hX 1 dX10_fault_12 rfl rfl rfl ?_
    refine g_iconst (nx := 14) hX 1 dX10_fault_13 rfl (by decide) ?_
    refine g_icmp_ne (nx := 17) hX 27 dX10_fault_14 (by decide) rfl (fun h14 => ?_) (fun h14 => ?_)
    · refine g_iconst (nx := 28) hX (-1) dX10_fault_27 rfl (by decide) ?_
      exact g_ireturn hX hP dX10_fault_28 rfl (Nat.le_of_ble_eq_true rfl) (Nat.le_of_ble_eq_true rfl) ⟨by rw [if_neg h1, if_neg h14], rfl⟩
    · refine g_aload_n (nx := 18) hX 0 dX10_fault_17 rfl rfl rfl ?_
      refine g_getfield (nx := 21) hX dX10_fault_18 rfl fX10_42 (ga_dn hn rfl) rfl rfl ?_
      refine g_getfield (nx := 24) hX dX10_fault_21 rfl fX10_140 (ga_dn hn rfl) rfl rfl ?_
      refine g_goto (nx := 28) hX dX10_fault_24 (by decide) ?_
      exact g_ireturn hX hP dX10_fault_28 rfl (Nat.le_of_ble_eq_true rfl) (Nat.le_of_ble_eq_true rfl) ⟨by rw [if_neg h1, if_pos h14], rfl⟩
  · refine g_aload_n (nx := 5) hX 0 dX10_fault_4 rfl rfl rfl ?_
    refine g_getfield (nx := 8) hX dX10_fault_5 rfl fX10_42 (ga_dn hn rfl) rfl rfl ?_
    refine g_getfield (nx := 11) hX dX10_fault_8 rfl fX10_137 (ga_dn hn rfl) rfl rfl ?_
    exact g_ireturn hX hP dX10_fault_11 rfl (Nat.le_of_ble_eq_true rfl) (Nat.le_of_ble_eq_true rfl) ⟨by rw [if_pos h1], rfl⟩
/-- what all(v) answers -/
def q_all (rn fn an : Nat) (op : Int32) (sm : Int32) (ask : Int32) (v : Int32) : Int32 := if v = 0 then nI rn else if v = 1 then nI fn else if v = 2 then nI an else if v = 3 then op else if v = 4 then sm else if v = 5 then (if ask = -1 then nI an else ask) else -1
theorem c_X10_all {v : Int32} {top size tot sm : Int32} (hn : 106 ≤ n) : ga_Mx E 1 yX10_all cX10_all 2 (some .int) 0 0 [.ref 0, .int v] (n, (k_0 ask :: c1 :: c2 :: k_R rn :: c4 :: c5 :: k_C fm em sp fn op :: c7 :: c8 :: k_L an :: c10 :: c11 :: c12 :: c13 :: c14 :: k_U 15 top size tot sm :: L1), L2, f) (some (.int (q_all rn fn an op sm ask v))) (n, (k_0 ask :: c1 :: c2 :: k_R rn :: c4 :: c5 :: k_C fm em sp fn op :: c7 :: c8 :: k_L an :: c10 :: c11 :: c12 :: c13 :: c14 :: k_U 15 top size tot sm :: L1), L2, f) := by
  refine ga_Mt.of (by decide) rfl (fun X hX hP => ?_)
  refine g_less [some (.ref 0), some (.int v)] ⟨rfl, rfl, trivial⟩ ?_
  refine g_iload_n (nx := 1) hX 1 dX10_all_0 rfl rfl rfl ?_
  rcases sw_6 v with hsw | rfl | rfl | rfl | rfl | rfl | rfl
  · refine g_tableOut hX 85 dX10_all_1 hsw (by decide) ?_
    have e0 := sw_ne (j := 0) hsw (by decide) (by decide)
    have e1 := sw_ne (j := 1) hsw (by decide) (by decide)
    have e2 := sw_ne (j := 2) hsw (by decide) (by decide)
    have e3 := sw_ne (j := 3) hsw (by decide) (by decide)
    have e4 := sw_ne (j := 4) hsw (by decide) (by decide)
    have e5 := sw_ne (j := 5) hsw (by decide) (by decide)
    refine g_iconst (nx := 86) hX (-1) dX10_all_85 rfl (by decide) ?_
    exact g_ireturn hX hP dX10_all_86 rfl (Nat.le_of_ble_eq_true rfl) (Nat.le_of_ble_eq_true rfl) ⟨by simp [q_all, *], rfl⟩
  · refine g_tableIn hX 40 dX10_all_1 (by decide) (by decide) rfl (by decide) ?_
    refine g_aload_n (nx := 41) hX 0 dX10_all_40 rfl rfl rfl ?_
    refine g_getfield (nx := 44) hX dX10_all_41 rfl fX10_19 (ga_dn hn rfl) rfl rfl ?_
    refine g_getfield (nx := 47) hX dX10_all_44 rfl fX10_195 (ga_dn hn rfl) rfl rfl ?_
    exact g_ireturn hX hP dX10_all_47 rfl (Nat.le_of_ble_eq_true rfl) (Nat.le_of_ble_eq_true rfl) ⟨by simp [q_all], rfl⟩
  · refine g_tableIn hX 48 dX10_all_1 (by decide) (by decide) rfl (by decide) ?_
    refine g_aload_n (nx := 49) hX 0 dX10_all_48 rfl rfl rfl ?_
    refine g_getfield (nx := 52) hX dX10_all_49 rfl fX10_26 (ga_dn hn rfl) rfl rfl ?_
    refine g_getfield (nx := 55) hX dX10_all_52 rfl fX10_198 (ga_dn hn rfl) rfl rfl ?_
    exact g_ireturn hX hP dX10_all_55 rfl (Nat.le_of_ble_eq_true rfl) (Nat.le_of_ble_eq_true rfl) ⟨by simp [q_all], rfl⟩
  · refine g_tableIn hX 56 dX10_all_1 (by decide) (by decide) rfl (by decide) ?_
    refine g_aload_n (nx := 57) hX 0 dX10_all_56 rfl rfl rfl ?_
    refine g_getfield (nx := 60) hX dX10_all_57 rfl fX10_33 (ga_dn hn rfl) rfl rfl ?_
    refine g_getfield (nx := 63) hX dX10_all_60 rfl fX10_119 (ga_dn hn rfl) rfl rfl ?_
    exact g_ireturn hX hP dX10_all_63 rfl (Nat.le_of_ble_eq_true rfl) (Nat.le_of_ble_eq_true rfl) ⟨by simp [q_all], rfl⟩
  · refine g_tableIn hX 64 dX10_all_1 (by decide) (by decide) rfl (by decide) ?_
    refine g_aload_n (nx := 65) hX 0 dX10_all_64 rfl rfl rfl ?_
    refine g_getfield (nx := 68) hX dX10_all_65 rfl fX10_26 (ga_dn hn rfl) rfl rfl ?_
    refine g_getfield (nx := 71) hX dX10_all_68 rfl fX10_201 (ga_dn hn rfl) rfl rfl ?_
    exact g_ireturn hX hP dX10_all_71 rfl (Nat.le_of_ble_eq_true rfl) (Nat.le_of_ble_eq_true rfl) ⟨by simp [q_all], rfl⟩
  · refine g_tableIn hX 72 dX10_all_1 (by decide) (by decide) rfl (by decide) ?_
    refine g_aload_n (nx := 73) hX 0 dX10_all_72 rfl rfl rfl ?_
    refine g_getfield (nx := 76) hX dX10_all_73 rfl fX10_49 (ga_dn hn rfl) rfl rfl ?_
    refine g_getfield (nx := 79) hX dX10_all_76 rfl fX10_134 (ga_dn hn rfl) rfl rfl ?_
    exact g_ireturn hX hP dX10_all_79 rfl (Nat.le_of_ble_eq_true rfl) (Nat.le_of_ble_eq_true rfl) ⟨by simp [q_all], rfl⟩
  · refine g_tableIn hX 80 dX10_all_1 (by decide) (by decide) rfl (by decide) ?_
    refine g_aload_n (nx := 81) hX 0 dX10_all_80 rfl rfl rfl ?_
    refine g_V0 (nx := 84) hX dX10_all_81 rfl mX10_143 yX10_toldAct_ok (c_X10_toldAct hn) (ga_dn hn rfl) rfl rfl rfl (by decide) rfl (Nat.le_of_ble_eq_true rfl) (Nat.le_of_ble_eq_true rfl) ?_
    rintro _ _ ⟨rfl, rfl⟩
    exact g_ireturn hX hP dX10_all_84 rfl (Nat.le_of_ble_eq_true rfl) (Nat.le_of_ble_eq_true rfl) ⟨by simp [q_all], rfl⟩
/-! the reference's -/
theorem c_X11_isSecond {v : Int32} {M : ga_M} : ga_Mx E 0 yX11_isSecond cX11_isSecond 1 (some .boolean) 0 0 [.int v] M (some (.int (ga_b (0 ≤ v ∧ v ≤ 86399)))) M := by
  have hc : (86400 : Int32) ≤ v ↔ ¬ v ≤ 86399 := by
    rw [Int32.le_iff_toInt_le, Int32.le_iff_toInt_le, show (86400 : Int32).toInt = 86400 by decide, show (86399 : Int32).toInt = 86399 by decide]; omega
  refine ga_Mt.of (by decide) rfl (fun X hX hP => ?_)
  refine g_less [some (.int v)] ⟨rfl, trivial⟩ ?_
  refine g_iload_n (nx := 1) hX 0 dX11_isSecond_0 rfl rfl rfl ?_
  refine g_if_lt (nx := 4) hX 14 dX11_isSecond_1 (by decide) rfl (fun h1 => ?_) (fun h1 => ?_)
  · refine g_iconst (nx := 15) hX 0 dX11_isSecond_14 rfl (by decide) ?_
    exact g_ireturn hX hP dX11_isSecond_15 rfl (Nat.le_of_ble_eq_true rfl) (Nat.le_of_ble_eq_true rfl) ⟨by rw [ga_b_f (fun q => ga_ltn h1 q.1)], rfl⟩
  · refine g_iload_n (nx := 5) hX 0 dX11_isSecond_4 rfl rfl rfl ?_
    refine g_ldc (nx := 7) hX 86400 dX11_isSecond_5 rfl kX11_158 ?_
    refine g_icmp_ge (nx := 10) hX 14 dX11_isSecond_7 (by decide) rfl (fun h7 => ?_) (fun h7 => ?_)
    · refine g_iconst (nx := 15) hX 0 dX11_isSecond_14 rfl (by decide) ?_
      exact g_ireturn hX hP dX11_isSecond_15 rfl (Nat.le_of_ble_eq_true rfl) (Nat.le_of_ble_eq_true rfl) ⟨by rw [ga_b_f (fun q => hc.mp h7 q.2)], rfl⟩
    · refine g_iconst (nx := 11) hX 1 dX11_isSecond_10 rfl (by decide) ?_
      refine g_goto (nx := 15) hX dX11_isSecond_11 (by decide) ?_
      exact g_ireturn hX hP dX11_isSecond_15 rfl (Nat.le_of_ble_eq_true rfl) (Nat.le_of_ble_eq_true rfl) ⟨by rw [ga_b_t ⟨ga_nlt h1, Classical.byContradiction (fun q => h7 (hc.mpr q))⟩], rfl⟩
theorem c_X11_may {kd fe a b : Int32} (hn : 106 ≤ n) (hf : fn ≤ 30) : ga_Mx E 1 yX11_may cX11_may 6 (some .boolean) 0 0 [.ref 79, .int kd, .int fe, .int a, .int b] (n, L1, ((m_O o_tp o_rd (nI fn) o_em o_sp o_ac o_td o_sm o_tt o_at o_sz o_fk o_fp o_nw o_md o_nt o_pl o_op) :: L2), f) (some (.int (q_may fn kd fe a b))) (n, L1, ((m_O o_tp o_rd (nI fn) o_em o_sp o_ac o_td o_sm o_tt o_at o_sz o_fk o_fp o_nw o_md o_nt o_pl o_op) :: L2), f) := by
  refine ga_Mt.of (by decide) rfl (fun X hX hP => ?_)
  refine g_less [some (.ref 79), some (.int kd), some (.int fe), some (.int a), some (.int b), none] ⟨rfl, rfl, rfl, rfl, rfl, trivial⟩ ?_
  have tail : ga_G E X 0 0 19 [some (.ref 79), some (.int kd), some (.int fe), some (.int a), some (.int b), some (.int (ga_b (0 ≤ fe ∧ fe < nI fn)))] [] (n, L1, ((m_O o_tp o_rd (nI fn) o_em o_sp o_ac o_td o_sm o_tt o_at o_sz o_fk o_fp o_nw o_md o_nt o_pl o_op) :: L2), f) := by
    refine g_iload_n (nx := 20) hX 1 dX11_may_19 rfl rfl rfl ?_
    rcases sw_12 kd with hsw | rfl | rfl | rfl | rfl | rfl | rfl | rfl | rfl | rfl | rfl | rfl | rfl
    · refine g_tableOut hX 144 dX11_may_20 hsw (by decide) ?_
      have e0 := sw_ne (j := 0) hsw (by decide) (by decide)
      have e1 := sw_ne (j := 1) hsw (by decide) (by decide)
      have e2 := sw_ne (j := 2) hsw (by decide) (by decide)
      have e3 := sw_ne (j := 3) hsw (by decide) (by decide)
      have e4 := sw_ne (j := 4) hsw (by decide) (by decide)
      have e5 := sw_ne (j := 5) hsw (by decide) (by decide)
      have e6 := sw_ne (j := 6) hsw (by decide) (by decide)
      have e7 := sw_ne (j := 7) hsw (by decide) (by decide)
      have e8 := sw_ne (j := 8) hsw (by decide) (by decide)
      have e9 := sw_ne (j := 9) hsw (by decide) (by decide)
      have e10 := sw_ne (j := 10) hsw (by decide) (by decide)
      have e11 := sw_ne (j := 11) hsw (by decide) (by decide)
      refine g_iconst (nx := 145) hX 0 dX11_may_144 rfl (by decide) ?_
      exact g_ireturn hX hP dX11_may_145 rfl (Nat.le_of_ble_eq_true rfl) (Nat.le_of_ble_eq_true rfl) ⟨by simp [q_may, *], rfl⟩
    · refine g_tableIn hX 84 dX11_may_20 (by decide) (by decide) rfl (by decide) ?_
      refine g_iload_n (nx := 85) hX 3 dX11_may_84 rfl rfl rfl ?_
      refine g_iconst (nx := 86) hX 0 dX11_may_85 rfl (by decide) ?_
      refine g_sipush (nx := 89) hX 10000 dX11_may_86 rfl (by decide) ?_
      refine g_S3 (nx := 92) hX dX11_may_89 rfl mX11_149 yX11_is_ok (c_X11_is) (by decide) rfl (Nat.le_of_ble_eq_true rfl) (Nat.le_of_ble_eq_true rfl) ?_
      rintro _ _ ⟨rfl, rfl⟩
      exact g_ireturn hX hP dX11_may_92 (ga_b_nar _) (Nat.le_of_ble_eq_true rfl) (Nat.le_of_ble_eq_true rfl) ⟨by simp [q_may], rfl⟩
    · refine g_tableIn hX 93 dX11_may_20 (by decide) (by decide) rfl (by decide) ?_
      refine g_iload_n (nx := 94) hX 3 dX11_may_93 rfl rfl rfl ?_
      refine g_S1 (nx := 97) hX dX11_may_94 rfl mX11_159 yX11_isSecond_ok (c_X11_isSecond) (by decide) rfl (Nat.le_of_ble_eq_true rfl) (Nat.le_of_ble_eq_true rfl) ?_
      rintro _ _ ⟨rfl, rfl⟩
      exact g_ireturn hX hP dX11_may_97 (ga_b_nar _) (Nat.le_of_ble_eq_true rfl) (Nat.le_of_ble_eq_true rfl) ⟨by simp [q_may], rfl⟩
    · refine g_tableIn hX 93 dX11_may_20 (by decide) (by decide) rfl (by decide) ?_
      refine g_iload_n (nx := 94) hX 3 dX11_may_93 rfl rfl rfl ?_
      refine g_S1 (nx := 97) hX dX11_may_94 rfl mX11_159 yX11_isSecond_ok (c_X11_isSecond) (by decide) rfl (Nat.le_of_ble_eq_true rfl) (Nat.le_of_ble_eq_true rfl) ?_
      rintro _ _ ⟨rfl, rfl⟩
      exact g_ireturn hX hP dX11_may_97 (ga_b_nar _) (Nat.le_of_ble_eq_true rfl) (Nat.le_of_ble_eq_true rfl) ⟨by simp [q_may], rfl⟩
    · refine g_tableIn hX 98 dX11_may_20 (by decide) (by decide) rfl (by decide) ?_
      refine g_iload (nx := 100) hX 5 dX11_may_98 rfl rfl ?_
      exact g_ireturn hX hP dX11_may_100 (ga_b_nar _) (Nat.le_of_ble_eq_true rfl) (Nat.le_of_ble_eq_true rfl) ⟨by simp [q_may], rfl⟩
    · refine g_tableIn hX 98 dX11_may_20 (by decide) (by decide) rfl (by decide) ?_
      refine g_iload (nx := 100) hX 5 dX11_may_98 rfl rfl ?_
      exact g_ireturn hX hP dX11_may_100 (ga_b_nar _) (Nat.le_of_ble_eq_true rfl) (Nat.le_of_ble_eq_true rfl) ⟨by simp [q_may], rfl⟩
    · refine g_tableIn hX 98 dX11_may_20 (by decide) (by decide) rfl (by decide) ?_
      refine g_iload (nx := 100) hX 5 dX11_may_98 rfl rfl ?_
      exact g_ireturn hX hP dX11_may_100 (ga_b_nar _) (Nat.le_of_ble_eq_true rfl) (Nat.le_of_ble_eq_true rfl) ⟨by simp [q_may], rfl⟩
    · refine g_tableIn hX 98 dX11_may_20 (by decide) (by decide) rfl (by decide) ?_
      refine g_iload (nx := 100) hX 5 dX11_may_98 rfl rfl ?_
      exact g_ireturn hX hP dX11_may_100 (ga_b_nar _) (Nat.le_of_ble_eq_true rfl) (Nat.le_of_ble_eq_true rfl) ⟨by simp [q_may], rfl⟩
    · refine g_tableIn hX 101 dX11_may_20 (by decide) (by decide) rfl (by decide) ?_
      refine g_iload (nx := 103) hX 5 dX11_may_101 rfl rfl ?_
      refine g_if_eq (nx := 106) hX 131 dX11_may_103 (by decide) rfl (fun h103 => ?_) (fun h103 => ?_)
      · refine g_iconst (nx := 132) hX 0 dX11_may_131 rfl (by decide) ?_
        exact g_ireturn hX hP dX11_may_132 rfl (Nat.le_of_ble_eq_true rfl) (Nat.le_of_ble_eq_true rfl) ⟨by simp [q_may, ga_b_f (show ¬ ((0 ≤ fe ∧ fe < nI fn) ∧ 0 ≤ a ∧ a ≤ b ∧ b ≤ 86399) from fun q => ga_b_0 h103 q.1)], rfl⟩
      · refine g_iload_n (nx := 107) hX 3 dX11_may_106 rfl rfl rfl ?_
        refine g_S1 (nx := 110) hX dX11_may_107 rfl mX11_159 yX11_isSecond_ok (c_X11_isSecond) (by decide) rfl (Nat.le_of_ble_eq_true rfl) (Nat.le_of_ble_eq_true rfl) ?_
        rintro _ _ ⟨rfl, rfl⟩
        refine g_if_eq (nx := 113) hX 131 dX11_may_110 (by decide) rfl (fun h110 => ?_) (fun h110 => ?_)
        · refine g_iconst (nx := 132) hX 0 dX11_may_131 rfl (by decide) ?_
          exact g_ireturn hX hP dX11_may_132 rfl (Nat.le_of_ble_eq_true rfl) (Nat.le_of_ble_eq_true rfl) ⟨by simp [q_may, ga_b_f (show ¬ ((0 ≤ fe ∧ fe < nI fn) ∧ 0 ≤ a ∧ a ≤ b ∧ b ≤ 86399) from fun q => ga_b_0 h110 ⟨q.2.1, v_tr q.2.2.1 q.2.2.2⟩)], rfl⟩
        · refine g_iload (nx := 115) hX 4 dX11_may_113 rfl rfl ?_
          refine g_S1 (nx := 118) hX dX11_may_115 rfl mX11_159 yX11_isSecond_ok (c_X11_isSecond) (by decide) rfl (Nat.le_of_ble_eq_true rfl) (Nat.le_of_ble_eq_true rfl) ?_
          rintro _ _ ⟨rfl, rfl⟩
          refine g_if_eq (nx := 121) hX 131 dX11_may_118 (by decide) rfl (fun h118 => ?_) (fun h118 => ?_)
          · refine g_iconst (nx := 132) hX 0 dX11_may_131 rfl (by decide) ?_
            exact g_ireturn hX hP dX11_may_132 rfl (Nat.le_of_ble_eq_true rfl) (Nat.le_of_ble_eq_true rfl) ⟨by simp [q_may, ga_b_f (show ¬ ((0 ≤ fe ∧ fe < nI fn) ∧ 0 ≤ a ∧ a ≤ b ∧ b ≤ 86399) from fun q => ga_b_0 h118 ⟨v_tr q.2.1 q.2.2.1, q.2.2.2⟩)], rfl⟩
          · refine g_iload_n (nx := 122) hX 3 dX11_may_121 rfl rfl rfl ?_
            refine g_iload (nx := 124) hX 4 dX11_may_122 rfl rfl ?_
            refine g_icmp_gt (nx := 127) hX 131 dX11_may_124 (by decide) rfl (fun h124 => ?_) (fun h124 => ?_)
            · refine g_iconst (nx := 132) hX 0 dX11_may_131 rfl (by decide) ?_
              exact g_ireturn hX hP dX11_may_132 rfl (Nat.le_of_ble_eq_true rfl) (Nat.le_of_ble_eq_true rfl) ⟨by simp [q_may, ga_b_f (show ¬ ((0 ≤ fe ∧ fe < nI fn) ∧ 0 ≤ a ∧ a ≤ b ∧ b ≤ 86399) from fun q => ga_ltn h124 q.2.2.1)], rfl⟩
            · refine g_iconst (nx := 128) hX 1 dX11_may_127 rfl (by decide) ?_
              refine g_goto (nx := 132) hX dX11_may_128 (by decide) ?_
              exact g_ireturn hX hP dX11_may_132 rfl (Nat.le_of_ble_eq_true rfl) (Nat.le_of_ble_eq_true rfl) ⟨by simp [q_may, ga_b_t (show (0 ≤ fe ∧ fe < nI fn) ∧ 0 ≤ a ∧ a ≤ b ∧ b ≤ 86399 from ⟨ga_b_n0 h103, (ga_b_n0 h110).1, ga_nlt h124, (ga_b_n0 h118).2⟩)], rfl⟩
    · refine g_tableIn hX 142 dX11_may_20 (by decide) (by decide) rfl (by decide) ?_
      refine g_iconst (nx := 143) hX 1 dX11_may_142 rfl (by decide) ?_
      exact g_ireturn hX hP dX11_may_143 rfl (Nat.le_of_ble_eq_true rfl) (Nat.le_of_ble_eq_true rfl) ⟨by simp [q_may], rfl⟩
    · refine g_tableIn hX 133 dX11_may_20 (by decide) (by decide) rfl (by decide) ?_
      refine g_iload_n (nx := 134) hX 3 dX11_may_133 rfl rfl rfl ?_
      refine g_iconst (nx := 135) hX 0 dX11_may_134 rfl (by decide) ?_
      refine g_sipush (nx := 138) hX 9999 dX11_may_135 rfl (by decide) ?_
      refine g_S3 (nx := 141) hX dX11_may_138 rfl mX11_149 yX11_is_ok (c_X11_is) (by decide) rfl (Nat.le_of_ble_eq_true rfl) (Nat.le_of_ble_eq_true rfl) ?_
      rintro _ _ ⟨rfl, rfl⟩
      exact g_ireturn hX hP dX11_may_141 (ga_b_nar _) (Nat.le_of_ble_eq_true rfl) (Nat.le_of_ble_eq_true rfl) ⟨by simp [q_may], rfl⟩
    · refine g_tableIn hX 142 dX11_may_20 (by decide) (by decide) rfl (by decide) ?_
      refine g_iconst (nx := 143) hX 1 dX11_may_142 rfl (by decide) ?_
      exact g_ireturn hX hP dX11_may_143 rfl (Nat.le_of_ble_eq_true rfl) (Nat.le_of_ble_eq_true rfl) ⟨by simp [q_may], rfl⟩
    · refine g_tableIn hX 142 dX11_may_20 (by decide) (by decide) rfl (by decide) ?_
      refine g_iconst (nx := 143) hX 1 dX11_may_142 rfl (by decide) ?_
      exact g_ireturn hX hP dX11_may_143 rfl (Nat.le_of_ble_eq_true rfl) (Nat.le_of_ble_eq_true rfl) ⟨by simp [q_may], rfl⟩
  refine g_iload_n (nx := 1) hX 2 dX11_may_0 rfl rfl rfl ?_
  refine g_if_lt (nx := 4) hX 16 dX11_may_1 (by decide) rfl (fun h1 => ?_) (fun h1 => ?_)
  · refine g_iconst (nx := 17) hX 0 dX11_may_16 rfl (by decide) ?_
    refine g_istore (nx := 19) hX 5 dX11_may_17 rfl rfl ?_
    rw [ga_b_f (fun q => ga_ltn h1 q.1)] at tail
    exact tail
  · refine g_iload_n (nx := 5) hX 2 dX11_may_4 rfl rfl rfl ?_
    refine g_aload_n (nx := 6) hX 0 dX11_may_5 rfl rfl rfl ?_
    refine g_getfield (nx := 9) hX dX11_may_6 rfl fX11_23 (ga_dn hn rfl) rfl rfl ?_
    refine g_icmp_ge (nx := 12) hX 16 dX11_may_9 (by decide) rfl (fun h9 => ?_) (fun h9 => ?_)
    · refine g_iconst (nx := 17) hX 0 dX11_may_16 rfl (by decide) ?_
      refine g_istore (nx := 19) hX 5 dX11_may_17 rfl rfl ?_
      rw [ga_b_f (fun q => ga_ltn q.2 h9)] at tail
      exact tail
    · refine g_iconst (nx := 13) hX 1 dX11_may_12 rfl (by decide) ?_
      refine g_goto (nx := 17) hX dX11_may_13 (by decide) ?_
      refine g_istore (nx := 19) hX 5 dX11_may_17 rfl rfl ?_
      rw [ga_b_t ⟨ga_nlt h1, ga_nle h9⟩] at tail
      exact tail
theorem c_X11_report {v kd fe a b : Int32} (hn : 106 ≤ n) (hr : rn ≤ 24) (hf : fn ≤ 30) (ha : an ≤ 400) : ga_Mt E 2 yX11_report cX11_report 6 (some .int) 0 0 [.ref 79, .int v, .int kd, .int fe, .int a, .int b] (n, L1, ((m_O o_tp (nI rn) (nI fn) o_em o_sp (nI an) o_td o_sm o_tt o_at o_sz o_fk o_fp o_nw o_md o_nt o_pl o_op) :: m80 :: m81 :: m82 :: m83 :: m84 :: ga_i 401 mw :: ga_i 401 mk :: ga_i 401 mf :: ga_i 401 ma :: ga_i 401 mb :: ga_i 401 ms_ :: L2), f)
    (fun z M => (∃ r, r < rn ∧ v = nI r ∧ ¬ q_may fn kd fe a b = 0 ∧ an < 400 ∧ z = some (.int (nI (an + 1))) ∧ M = (n, L1, ((m_O o_tp (nI rn) (nI fn) o_em o_sp (nI (an + 1)) o_td o_sm o_tt o_at o_sz o_fk o_fp o_nw o_md o_nt o_pl o_op) :: m80 :: m81 :: m82 :: m83 :: m84 :: ga_i 401 (upd mw (an + 1) v) :: ga_i 401 (upd mk (an + 1) kd) :: ga_i 401 (upd mf (an + 1) fe) :: ga_i 401 (upd ma (an + 1) a) :: ga_i 401 (upd mb (an + 1) b) :: ga_i 401 (upd ms_ (an + 1) 0) :: L2), f)) ∨
      ¬ (∃ r, r < rn ∧ v = nI r ∧ ¬ q_may fn kd fe a b = 0 ∧ an < 400) ∧ z = some (.int (-1)) ∧ M = (n, L1, ((m_O o_tp (nI rn) (nI fn) o_em o_sp (nI an) o_td o_sm o_tt o_at o_sz o_fk o_fp o_nw o_md o_nt o_pl o_op) :: m80 :: m81 :: m82 :: m83 :: m84 :: ga_i 401 mw :: ga_i 401 mk :: ga_i 401 mf :: ga_i 401 ma :: ga_i 401 mb :: ga_i 401 ms_ :: L2), f)) := by
  refine ga_Mt.of (by decide) rfl (fun X hX hP => ?_)
  refine g_less [some (.ref 79), some (.int v), some (.int kd), some (.int fe), some (.int a), some (.int b)] ⟨rfl, rfl, rfl, rfl, rfl, rfl, trivial⟩ ?_
  refine g_iload_n (nx := 1) hX 1 dX11_report_0 rfl rfl rfl ?_
  refine g_if_lt (nx := 4) hX 35 dX11_report_1 (by decide) rfl (fun h1 => ?_) (fun h1 => ?_)
  · refine g_iconst (nx := 36) hX (-1) dX11_report_35 rfl (by decide) ?_
    exact g_ireturn hX hP dX11_report_36 rfl (Nat.le_of_ble_eq_true rfl) (Nat.le_of_ble_eq_true rfl) (Or.inr ⟨fun ⟨r, h1', h2, _⟩ => by rw [h2] at h1; exact nI_pos (by omega) h1, rfl, rfl⟩)
  · refine g_iload_n (nx := 5) hX 1 dX11_report_4 rfl rfl rfl ?_
    refine g_aload_n (nx := 6) hX 0 dX11_report_5 rfl rfl rfl ?_
    refine g_getfield (nx := 9) hX dX11_report_6 rfl fX11_17 (ga_dn hn rfl) rfl rfl ?_
    refine g_icmp_ge (nx := 12) hX 35 dX11_report_9 (by decide) rfl (fun h9 => ?_) (fun h9 => ?_)
    · refine g_iconst (nx := 36) hX (-1) dX11_report_35 rfl (by decide) ?_
      exact g_ireturn hX hP dX11_report_36 rfl (Nat.le_of_ble_eq_true rfl) (Nat.le_of_ble_eq_true rfl) (Or.inr ⟨fun ⟨r, h1', h2, _⟩ => by rw [h2] at h9; exact nI_ge h1' (by omega) h9, rfl, rfl⟩)
    · refine g_aload_n (nx := 13) hX 0 dX11_report_12 rfl rfl rfl ?_
      refine g_getfield (nx := 16) hX dX11_report_13 rfl fX11_41 (ga_dn hn rfl) rfl rfl ?_
      refine g_sipush (nx := 19) hX 400 dX11_report_16 rfl (by decide) ?_
      refine g_icmp_eq (nx := 22) hX 35 dX11_report_19 (by decide) rfl (fun h19 => ?_) (fun h19 => ?_)
      · refine g_iconst (nx := 36) hX (-1) dX11_report_35 rfl (by decide) ?_
        exact g_ireturn hX hP dX11_report_36 rfl (Nat.le_of_ble_eq_true rfl) (Nat.le_of_ble_eq_true rfl) (Or.inr ⟨fun ⟨r, _, _, _, h4⟩ => absurd (nI_inj (b := 400) h19 (by omega) (by omega)) (by omega), rfl, rfl⟩)
      · refine g_aload_n (nx := 23) hX 0 dX11_report_22 rfl rfl rfl ?_
        refine g_iload_n (nx := 24) hX 2 dX11_report_23 rfl rfl rfl ?_
        refine g_iload_n (nx := 25) hX 3 dX11_report_24 rfl rfl rfl ?_
        refine g_iload (nx := 27) hX 4 dX11_report_25 rfl rfl ?_
        refine g_iload (nx := 29) hX 5 dX11_report_27 rfl rfl ?_
        refine g_V4 (nx := 32) hX dX11_report_29 rfl mX11_163 yX11_may_ok (c_X11_may hn hf) (ga_dn hn rfl) rfl rfl rfl (by decide) rfl (Nat.le_of_ble_eq_true rfl) (Nat.le_of_ble_eq_true rfl) ?_
        rintro _ _ ⟨rfl, rfl⟩
        refine g_if_ne (nx := 35) hX 37 dX11_report_32 (by decide) rfl (fun h32 => ?_) (fun h32 => ?_)
        · obtain ⟨r, hr2, e, e2⟩ := v_of (ga_nlt h1) (ga_nle h9) (by omega)
          have hlt : an < 400 := Nat.lt_of_le_of_ne ha (fun q => h19 (by rw [q]; rfl))
          refine g_aload_n (nx := 38) hX 0 dX11_report_37 rfl rfl rfl ?_
          refine g_dup (nx := 39) hX dX11_report_38 rfl rfl ?_
          refine g_getfield (nx := 42) hX dX11_report_39 rfl fX11_41 (ga_dn hn rfl) rfl rfl ?_
          refine g_iconst (nx := 43) hX 1 dX11_report_42 rfl (by decide) ?_
          refine g_iadd (nx := 44) hX dX11_report_43 rfl ?_
          rw [nI_1]
          refine g_putfield (nx := 47) hX dX11_report_44 rfl pX11_41 (ga_dn hn rfl) rfl rfl rfl rfl ?_
          refine g_aload_n (nx := 48) hX 0 dX11_report_47 rfl rfl rfl ?_
          refine g_getfield (nx := 51) hX dX11_report_48 rfl fX11_44 (ga_dn hn rfl) rfl rfl ?_
          refine g_aload_n (nx := 52) hX 0 dX11_report_51 rfl rfl rfl ?_
          refine g_getfield (nx := 55) hX dX11_report_52 rfl fX11_41 (ga_dn hn rfl) rfl rfl ?_
          refine g_iload_n (nx := 56) hX 1 dX11_report_55 rfl rfl rfl ?_
          refine g_iastore (nx := 57) hX dX11_report_56 rfl (ga_dn hn rfl) rfl (ga_ix_of rfl (by omega) (by omega)) ?_
          refine g_aload_n (nx := 58) hX 0 dX11_report_57 rfl rfl rfl ?_
          refine g_getfield (nx := 61) hX dX11_report_58 rfl fX11_47 (ga_dn hn rfl) rfl rfl ?_
          refine g_aload_n (nx := 62) hX 0 dX11_report_61 rfl rfl rfl ?_
          refine g_getfield (nx := 65) hX dX11_report_62 rfl fX11_41 (ga_dn hn rfl) rfl rfl ?_
          refine g_iload_n (nx := 66) hX 2 dX11_report_65 rfl rfl rfl ?_
          refine g_iastore (nx := 67) hX dX11_report_66 rfl (ga_dn hn rfl) rfl (ga_ix_of rfl (by omega) (by omega)) ?_
          refine g_aload_n (nx := 68) hX 0 dX11_report_67 rfl rfl rfl ?_
          refine g_getfield (nx := 71) hX dX11_report_68 rfl fX11_50 (ga_dn hn rfl) rfl rfl ?_
          refine g_aload_n (nx := 72) hX 0 dX11_report_71 rfl rfl rfl ?_
          refine g_getfield (nx := 75) hX dX11_report_72 rfl fX11_41 (ga_dn hn rfl) rfl rfl ?_
          refine g_iload_n (nx := 76) hX 3 dX11_report_75 rfl rfl rfl ?_
          refine g_iastore (nx := 77) hX dX11_report_76 rfl (ga_dn hn rfl) rfl (ga_ix_of rfl (by omega) (by omega)) ?_
          refine g_aload_n (nx := 78) hX 0 dX11_report_77 rfl rfl rfl ?_
          refine g_getfield (nx := 81) hX dX11_report_78 rfl fX11_53 (ga_dn hn rfl) rfl rfl ?_
          refine g_aload_n (nx := 82) hX 0 dX11_report_81 rfl rfl rfl ?_
          refine g_getfield (nx := 85) hX dX11_report_82 rfl fX11_41 (ga_dn hn rfl) rfl rfl ?_
          refine g_iload (nx := 87) hX 4 dX11_report_85 rfl rfl ?_
          refine g_iastore (nx := 88) hX dX11_report_87 rfl (ga_dn hn rfl) rfl (ga_ix_of rfl (by omega) (by omega)) ?_
          refine g_aload_n (nx := 89) hX 0 dX11_report_88 rfl rfl rfl ?_
          refine g_getfield (nx := 92) hX dX11_report_89 rfl fX11_56 (ga_dn hn rfl) rfl rfl ?_
          refine g_aload_n (nx := 93) hX 0 dX11_report_92 rfl rfl rfl ?_
          refine g_getfield (nx := 96) hX dX11_report_93 rfl fX11_41 (ga_dn hn rfl) rfl rfl ?_
          refine g_iload (nx := 98) hX 5 dX11_report_96 rfl rfl ?_
          refine g_iastore (nx := 99) hX dX11_report_98 rfl (ga_dn hn rfl) rfl (ga_ix_of rfl (by omega) (by omega)) ?_
          refine g_aload_n (nx := 100) hX 0 dX11_report_99 rfl rfl rfl ?_
          refine g_getfield (nx := 103) hX dX11_report_100 rfl fX11_59 (ga_dn hn rfl) rfl rfl ?_
          refine g_aload_n (nx := 104) hX 0 dX11_report_103 rfl rfl rfl ?_
          refine g_getfield (nx := 107) hX dX11_report_104 rfl fX11_41 (ga_dn hn rfl) rfl rfl ?_
          refine g_iconst (nx := 108) hX 0 dX11_report_107 rfl (by decide) ?_
          refine g_iastore (nx := 109) hX dX11_report_108 rfl (ga_dn hn rfl) rfl (ga_ix_of rfl (by omega) (by omega)) ?_
          refine g_aload_n (nx := 110) hX 0 dX11_report_109 rfl rfl rfl ?_
          refine g_getfield (nx := 113) hX dX11_report_110 rfl fX11_41 (ga_dn hn rfl) rfl rfl ?_
          exact g_ireturn hX hP dX11_report_113 rfl (Nat.le_of_ble_eq_true rfl) (Nat.le_of_ble_eq_true rfl) (Or.inl ⟨r, hr2, e, h32, hlt, rfl, rfl⟩)
        · refine g_iconst (nx := 36) hX (-1) dX11_report_35 rfl (by decide) ?_
          exact g_ireturn hX hP dX11_report_36 rfl (Nat.le_of_ble_eq_true rfl) (Nat.le_of_ble_eq_true rfl) (Or.inr ⟨fun ⟨r, h1, h2, h3, _⟩ => h3 h32, rfl, rfl⟩)
theorem c_X11_strike {v : Int32} (hn : 106 ≤ n) (ha : an ≤ 400) : ga_Mt E 0 yX11_strike cX11_strike 2 (some .int) 0 0 [.ref 79, .int v] (n, L1, ((m_O o_tp o_rd o_fe o_em o_sp (nI an) o_td o_sm o_tt o_at o_sz o_fk o_fp o_nw o_md o_nt o_pl o_op) :: m80 :: m81 :: m82 :: m83 :: m84 :: m85 :: ga_i 401 mk :: m87 :: m88 :: m89 :: ga_i 401 ms_ :: L2), f)
    (fun z M => (∃ k, (1 ≤ k ∧ k ≤ an) ∧ v = nI k ∧ an < 400 ∧ 0 ≤ mk k ∧ ms_ k ≤ 0 ∧ z = some (.int (nI (an + 1))) ∧ M = (n, L1, ((m_O o_tp o_rd o_fe o_em o_sp (nI (an + 1)) o_td o_sm o_tt o_at o_sz o_fk o_fp o_nw o_md o_nt o_pl o_op) :: m80 :: m81 :: m82 :: m83 :: m84 :: m85 :: ga_i 401 (upd mk (an + 1) (-1)) :: m87 :: m88 :: m89 :: ga_i 401 (upd ms_ k (nI (an + 1))) :: L2), f)) ∨
      ¬ (∃ k, (1 ≤ k ∧ k ≤ an) ∧ v = nI k ∧ an < 400 ∧ 0 ≤ mk k ∧ ms_ k ≤ 0) ∧ z = some (.int (-1)) ∧ M = (n, L1, ((m_O o_tp o_rd o_fe o_em o_sp (nI an) o_td o_sm o_tt o_at o_sz o_fk o_fp o_nw o_md o_nt o_pl o_op) :: m80 :: m81 :: m82 :: m83 :: m84 :: m85 :: ga_i 401 mk :: m87 :: m88 :: m89 :: ga_i 401 ms_ :: L2), f)) := by
  refine ga_Mt.of (by decide) rfl (fun X hX hP => ?_)
  refine g_less [some (.ref 79), some (.int v)] ⟨rfl, rfl, trivial⟩ ?_
  refine g_iload_n (nx := 1) hX 1 dX11_strike_0 rfl rfl rfl ?_
  refine g_iconst (nx := 2) hX 1 dX11_strike_1 rfl (by decide) ?_
  refine g_icmp_lt (nx := 5) hX 41 dX11_strike_2 (by decide) rfl (fun h2 => ?_) (fun h2 => ?_)
  · refine g_iconst (nx := 42) hX (-1) dX11_strike_41 rfl (by decide) ?_
    exact g_ireturn hX hP dX11_strike_42 rfl (Nat.le_of_ble_eq_true rfl) (Nat.le_of_ble_eq_true rfl) (Or.inr ⟨fun ⟨k, h1, h3, _⟩ => by rw [h3] at h2; exact nI_nlt (a := k) (b := 1) h1.1 (by omega) h2, rfl, rfl⟩)
  · have hv1 : 1 ≤ v := ga_nlt h2
    refine g_iload_n (nx := 6) hX 1 dX11_strike_5 rfl rfl rfl ?_
    refine g_aload_n (nx := 7) hX 0 dX11_strike_6 rfl rfl rfl ?_
    refine g_getfield (nx := 10) hX dX11_strike_7 rfl fX11_41 (ga_dn hn rfl) rfl rfl ?_
    refine g_icmp_gt (nx := 13) hX 41 dX11_strike_10 (by decide) rfl (fun h10 => ?_) (fun h10 => ?_)
    · refine g_iconst (nx := 42) hX (-1) dX11_strike_41 rfl (by decide) ?_
      exact g_ireturn hX hP dX11_strike_42 rfl (Nat.le_of_ble_eq_true rfl) (Nat.le_of_ble_eq_true rfl) (Or.inr ⟨fun ⟨k, h1, h3, _⟩ => by rw [h3] at h10; exact nI_nlt (b := k) h1.2 (by omega) h10, rfl, rfl⟩)
    · obtain ⟨k, hk, e, e2⟩ := v_ofle (v_tr (by decide) hv1) (ga_nlt h10) (by omega)
      subst e
      have hk1 : 1 ≤ k := (nI_leI (a := 1) (by omega) (by omega)).mp hv1
      have uniq : ∀ j, 1 ≤ j ∧ j ≤ an → nI k = nI j → j = k := fun j hj e => nI_inj e.symm (by omega) (by omega)
      refine g_aload_n (nx := 14) hX 0 dX11_strike_13 rfl rfl rfl ?_
      refine g_getfield (nx := 17) hX dX11_strike_14 rfl fX11_47 (ga_dn hn rfl) rfl rfl ?_
      refine g_iload_n (nx := 18) hX 1 dX11_strike_17 rfl rfl rfl ?_
      refine g_iaload (nx := 19) hX dX11_strike_18 rfl (ga_dn hn rfl) rfl (ga_ix_of rfl (by omega) (by omega)) ?_
      refine g_if_lt (nx := 22) hX 41 dX11_strike_19 (by decide) rfl (fun h19 => ?_) (fun h19 => ?_)
      · refine g_iconst (nx := 42) hX (-1) dX11_strike_41 rfl (by decide) ?_
        exact g_ireturn hX hP dX11_strike_42 rfl (Nat.le_of_ble_eq_true rfl) (Nat.le_of_ble_eq_true rfl) (Or.inr ⟨fun ⟨j, h1, h3, _, h5, _⟩ => by rw [uniq j h1 h3] at h5; exact ga_ltn h19 h5, rfl, rfl⟩)
      · refine g_aload_n (nx := 23) hX 0 dX11_strike_22 rfl rfl rfl ?_
        refine g_getfield (nx := 26) hX dX11_strike_23 rfl fX11_59 (ga_dn hn rfl) rfl rfl ?_
        refine g_iload_n (nx := 27) hX 1 dX11_strike_26 rfl rfl rfl ?_
        refine g_iaload (nx := 28) hX dX11_strike_27 rfl (ga_dn hn rfl) rfl (ga_ix_of rfl (by omega) (by omega)) ?_
        refine g_if_gt (nx := 31) hX 41 dX11_strike_28 (by decide) rfl (fun h28 => ?_) (fun h28 => ?_)
        · refine g_iconst (nx := 42) hX (-1) dX11_strike_41 rfl (by decide) ?_
          exact g_ireturn hX hP dX11_strike_42 rfl (Nat.le_of_ble_eq_true rfl) (Nat.le_of_ble_eq_true rfl) (Or.inr ⟨fun ⟨j, h1, h3, _, _, h5⟩ => by rw [uniq j h1 h3] at h5; exact ga_ltn h28 h5, rfl, rfl⟩)
        · refine g_aload_n (nx := 32) hX 0 dX11_strike_31 rfl rfl rfl ?_
          refine g_getfield (nx := 35) hX dX11_strike_32 rfl fX11_41 (ga_dn hn rfl) rfl rfl ?_
          refine g_sipush (nx := 38) hX 400 dX11_strike_35 rfl (by decide) ?_
          refine g_icmp_ne (nx := 41) hX 43 dX11_strike_38 (by decide) rfl (fun h38 => ?_) (fun h38 => ?_)
          · have hlt : an < 400 := Nat.lt_of_le_of_ne ha (fun q => h38 (by rw [q]; rfl))
            refine g_aload_n (nx := 44) hX 0 dX11_strike_43 rfl rfl rfl ?_
            refine g_dup (nx := 45) hX dX11_strike_44 rfl rfl ?_
            refine g_getfield (nx := 48) hX dX11_strike_45 rfl fX11_41 (ga_dn hn rfl) rfl rfl ?_
            refine g_iconst (nx := 49) hX 1 dX11_strike_48 rfl (by decide) ?_
            refine g_iadd (nx := 50) hX dX11_strike_49 rfl ?_
            rw [nI_1]
            refine g_putfield (nx := 53) hX dX11_strike_50 rfl pX11_41 (ga_dn hn rfl) rfl rfl rfl rfl ?_
            refine g_aload_n (nx := 54) hX 0 dX11_strike_53 rfl rfl rfl ?_
            refine g_getfield (nx := 57) hX dX11_strike_54 rfl fX11_47 (ga_dn hn rfl) rfl rfl ?_
            refine g_aload_n (nx := 58) hX 0 dX11_strike_57 rfl rfl rfl ?_
            refine g_getfield (nx := 61) hX dX11_strike_58 rfl fX11_41 (ga_dn hn rfl) rfl rfl ?_
            refine g_iconst (nx := 62) hX (-1) dX11_strike_61 rfl (by decide) ?_
            refine g_iastore (nx := 63) hX dX11_strike_62 rfl (ga_dn hn rfl) rfl (ga_ix_of rfl (by omega) (by omega)) ?_
            refine g_aload_n (nx := 64) hX 0 dX11_strike_63 rfl rfl rfl ?_
            refine g_getfield (nx := 67) hX dX11_strike_64 rfl fX11_59 (ga_dn hn rfl) rfl rfl ?_
            refine g_iload_n (nx := 68) hX 1 dX11_strike_67 rfl rfl rfl ?_
            refine g_aload_n (nx := 69) hX 0 dX11_strike_68 rfl rfl rfl ?_
            refine g_getfield (nx := 72) hX dX11_strike_69 rfl fX11_41 (ga_dn hn rfl) rfl rfl ?_
            refine g_iastore (nx := 73) hX dX11_strike_72 rfl (ga_dn hn rfl) rfl (ga_ix_of rfl (by omega) (by omega)) ?_
            refine g_aload_n (nx := 74) hX 0 dX11_strike_73 rfl rfl rfl ?_
            refine g_getfield (nx := 77) hX dX11_strike_74 rfl fX11_41 (ga_dn hn rfl) rfl rfl ?_
            exact g_ireturn hX hP dX11_strike_77 rfl (Nat.le_of_ble_eq_true rfl) (Nat.le_of_ble_eq_true rfl) (Or.inl ⟨k, ⟨hk1, hk⟩, rfl, hlt, ga_nlt h19, ga_nlt h28, rfl, rfl⟩)
          · refine g_iconst (nx := 42) hX (-1) dX11_strike_41 rfl (by decide) ?_
            exact g_ireturn hX hP dX11_strike_42 rfl (Nat.le_of_ble_eq_true rfl) (Nat.le_of_ble_eq_true rfl) (Or.inr ⟨fun ⟨j, h1, h3, h4, _⟩ => absurd (nI_inj (b := 400) h38 (by omega) (by omega)) (by omega), rfl, rfl⟩)
theorem c_X11_as {v : Int32} (hn : 106 ≤ n) : ga_Mt E 1 yX11_as cX11_as 2 (some .boolean) 0 0 [.ref 79, .int v] (n, L1, ((m_O o_tp o_rd o_fe o_em o_sp (nI an) o_td o_sm o_tt o_at o_sz o_fk o_fp o_nw o_md o_nt o_pl o_op) :: L2), f)
    (fun z M => (-1 ≤ v ∧ v ≤ nI an) ∧ z = some (.int 1) ∧ M = (n, L1, ((m_O o_tp o_rd o_fe o_em o_sp (nI an) (v) o_sm o_tt o_at o_sz o_fk o_fp o_nw o_md o_nt o_pl o_op) :: L2), f) ∨ ¬ (-1 ≤ v ∧ v ≤ nI an) ∧ z = some (.int 0) ∧ M = (n, L1, ((m_O o_tp o_rd o_fe o_em o_sp (nI an) o_td o_sm o_tt o_at o_sz o_fk o_fp o_nw o_md o_nt o_pl o_op) :: L2), f)) := by
  refine ga_Mt.of (by decide) rfl (fun X hX hP => ?_)
  refine g_less [some (.ref 79), some (.int v)] ⟨rfl, rfl, trivial⟩ ?_
  refine g_iload_n (nx := 1) hX 1 dX11_as_0 rfl rfl rfl ?_
  refine g_iconst (nx := 2) hX (-1) dX11_as_1 rfl (by decide) ?_
  refine g_aload_n (nx := 3) hX 0 dX11_as_2 rfl rfl rfl ?_
  refine g_getfield (nx := 6) hX dX11_as_3 rfl fX11_41 (ga_dn hn rfl) rfl rfl ?_
  refine g_S3 (nx := 9) hX dX11_as_6 rfl mX11_149 yX11_is_ok (c_X11_is) (by decide) rfl (Nat.le_of_ble_eq_true rfl) (Nat.le_of_ble_eq_true rfl) ?_
  rintro _ _ ⟨rfl, rfl⟩
  refine g_if_ne (nx := 12) hX 14 dX11_as_9 (by decide) rfl (fun h9 => ?_) (fun h9 => ?_)
  · refine g_aload_n (nx := 15) hX 0 dX11_as_14 rfl rfl rfl ?_
    refine g_iload_n (nx := 16) hX 1 dX11_as_15 rfl rfl rfl ?_
    refine g_putfield (nx := 19) hX dX11_as_16 rfl pX11_62 (ga_dn hn rfl) rfl rfl rfl rfl ?_
    refine g_iconst (nx := 20) hX 1 dX11_as_19 rfl (by decide) ?_
    exact g_ireturn hX hP dX11_as_20 rfl (Nat.le_of_ble_eq_true rfl) (Nat.le_of_ble_eq_true rfl) (Or.inl ⟨ga_b_n0 h9, rfl, rfl⟩)
  · refine g_iconst (nx := 13) hX 0 dX11_as_12 rfl (by decide) ?_
    exact g_ireturn hX hP dX11_as_13 rfl (Nat.le_of_ble_eq_true rfl) (Nat.le_of_ble_eq_true rfl) (Or.inr ⟨ga_b_0 h9, rfl, rfl⟩)
theorem c_X11_known (hn : 106 ≤ n) : ga_Mx E 0 yX11_known cX11_known 1 (some .int) 0 0 [.ref 79] (n, L1, ((m_O o_tp o_rd o_fe o_em o_sp o_ac o_td o_sm o_tt o_at o_sz o_fk o_fp o_nw o_md o_nt o_pl o_op) :: L2), f) (some (.int (if o_td = -1 then o_ac else o_td))) (n, L1, ((m_O o_tp o_rd o_fe o_em o_sp o_ac o_td o_sm o_tt o_at o_sz o_fk o_fp o_nw o_md o_nt o_pl o_op) :: L2), f) := by
  refine ga_Mt.of (by decide) rfl (fun X hX hP => ?_)
  refine g_less [some (.ref 79)] ⟨rfl, trivial⟩ ?_
  refine g_aload_n (nx := 1) hX 0 dX11_known_0 rfl rfl rfl ?_
  refine g_getfield (nx := 4) hX dX11_known_1 rfl fX11_62 (ga_dn hn rfl) rfl rfl ?_
  refine g_iconst (nx := 5) hX (-1) dX11_known_4 rfl (by decide) ?_
  refine g_icmp_ne (nx := 8) hX 15 dX11_known_5 (by decide) rfl (fun h5 => ?_) (fun h5 => ?_)
  · refine g_aload_n (nx := 16) hX 0 dX11_known_15 rfl rfl rfl ?_
    refine g_getfield (nx := 19) hX dX11_known_16 rfl fX11_62 (ga_dn hn rfl) rfl rfl ?_
    exact g_ireturn hX hP dX11_known_19 rfl (Nat.le_of_ble_eq_true rfl) (Nat.le_of_ble_eq_true rfl) ⟨by rw [if_neg h5], rfl⟩
  · refine g_aload_n (nx := 9) hX 0 dX11_known_8 rfl rfl rfl ?_
    refine g_getfield (nx := 12) hX dX11_known_9 rfl fX11_41 (ga_dn hn rfl) rfl rfl ?_
    refine g_goto (nx := 19) hX dX11_known_12 (by decide) ?_
    exact g_ireturn hX hP dX11_known_19 rfl (Nat.le_of_ble_eq_true rfl) (Nat.le_of_ble_eq_true rfl) ⟨by rw [if_pos h5], rfl⟩
theorem c_X11_fault {v : Int32} (hn : 106 ≤ n) : ga_Mx E 0 yX11_fault cX11_fault 2 (some .int) 0 0 [.ref 79, .int v] (n, L1, ((m_O o_tp o_rd o_fe o_em o_sp o_ac o_td o_sm o_tt o_at o_sz o_fk o_fp o_nw o_md o_nt o_pl o_op) :: L2), f) (some (.int (if v = 0 then o_fk else if v = 1 then o_fp else -1))) (n, L1, ((m_O o_tp o_rd o_fe o_em o_sp o_ac o_td o_sm o_tt o_at o_sz o_fk o_fp o_nw o_md o_nt o_pl o_op) :: L2), f) := by
  refine ga_Mt.of (by decide) rfl (fun X hX hP => ?_)
  refine g_less [some (.ref 79), some (.int v)] ⟨rfl, rfl, trivial⟩ ?_
  refine g_iload_n (nx := 1) hX 1 dX11_fault_0 rfl rfl rfl ?_
  refine g_if_ne (nx := 4) hX 11 dX11_fault_1 (by decide) rfl (fun h1 => ?_) (fun h1 => ?_)
  · refine g_iload_n (nx := 12) hX 1 dX11_fault_11 rfl rfl rfl ?_
    refine g_iconst (nx := 13) hX 1 dX11_fault_12 rfl (by decide) ?_
    refine g_icmp_ne (nx := 16) hX 23 dX11_fault_13 (by decide) rfl (fun h13 => ?_) (fun h13 => ?_)
    · refine g_iconst (nx := 24) hX (-1) dX11_fault_23 rfl (by decide) ?_
      exact g_ireturn hX hP dX11_fault_24 rfl (Nat.le_of_ble_eq_true rfl) (Nat.le_of_ble_eq_true rfl) ⟨by rw [if_neg h1, if_neg h13], rfl⟩
    · refine g_aload_n (nx := 17) hX 0 dX11_fault_16 rfl rfl rfl ?_
      refine g_getfield (nx := 20) hX dX11_fault_17 rfl fX11_95 (ga_dn hn rfl) rfl rfl ?_
      refine g_goto (nx := 24) hX dX11_fault_20 (by decide) ?_
      exact g_ireturn hX hP dX11_fault_24 rfl (Nat.le_of_ble_eq_true rfl) (Nat.le_of_ble_eq_true rfl) ⟨by rw [if_neg h1, if_pos h13], rfl⟩
  · refine g_aload_n (nx := 5) hX 0 dX11_fault_4 rfl rfl rfl ?_
    refine g_getfield (nx := 8) hX dX11_fault_5 rfl fX11_92 (ga_dn hn rfl) rfl rfl ?_
    refine g_goto (nx := 24) hX dX11_fault_8 (by decide) ?_
    exact g_ireturn hX hP dX11_fault_24 rfl (Nat.le_of_ble_eq_true rfl) (Nat.le_of_ble_eq_true rfl) ⟨by rw [if_pos h1], rfl⟩
theorem c_X11_all {v : Int32} {mt : Nat → Int32} (hn : 106 ≤ n) (hf : fn ≤ 30) (hs : 1 ≤ sp) : ga_Mx E 1 yX11_all cX11_all 2 (some .int) 0 0 [.ref 79, .int v] (n, L1, ((m_O o_tp (nI rn) (nI fn) (em) (sp) (nI an) o_td o_sm o_tt o_at o_sz o_fk o_fp o_nw o_md o_nt o_pl o_op) :: m80 :: m81 :: ga_i 30 mt :: L2), f) (some (.int (q_all rn fn an (w_op (w_s mt fn) em sp) o_sm o_td v))) (n, L1, ((m_O o_tp (nI rn) (nI fn) (em) (sp) (nI an) o_td o_sm o_tt o_at o_sz o_fk o_fp o_nw o_md o_nt o_pl o_op) :: m80 :: m81 :: ga_i 30 mt :: L2), f) := by
  refine ga_Mt.of (by decide) rfl (fun X hX hP => ?_)
  refine g_less [some (.ref 79), some (.int v)] ⟨rfl, rfl, trivial⟩ ?_
  refine g_iload_n (nx := 1) hX 1 dX11_all_0 rfl rfl rfl ?_
  rcases sw_6 v with hsw | rfl | rfl | rfl | rfl | rfl | rfl
  · refine g_tableOut hX 70 dX11_all_1 hsw (by decide) ?_
    have e0 := sw_ne (j := 0) hsw (by decide) (by decide)
    have e1 := sw_ne (j := 1) hsw (by decide) (by decide)
    have e2 := sw_ne (j := 2) hsw (by decide) (by decide)
    have e3 := sw_ne (j := 3) hsw (by decide) (by decide)
    have e4 := sw_ne (j := 4) hsw (by decide) (by decide)
    have e5 := sw_ne (j := 5) hsw (by decide) (by decide)
    refine g_iconst (nx := 71) hX (-1) dX11_all_70 rfl (by decide) ?_
    exact g_ireturn hX hP dX11_all_71 rfl (Nat.le_of_ble_eq_true rfl) (Nat.le_of_ble_eq_true rfl) ⟨by simp [q_all, *], rfl⟩
  · refine g_tableIn hX 40 dX11_all_1 (by decide) (by decide) rfl (by decide) ?_
    refine g_aload_n (nx := 41) hX 0 dX11_all_40 rfl rfl rfl ?_
    refine g_getfield (nx := 44) hX dX11_all_41 rfl fX11_17 (ga_dn hn rfl) rfl rfl ?_
    exact g_ireturn hX hP dX11_all_44 rfl (Nat.le_of_ble_eq_true rfl) (Nat.le_of_ble_eq_true rfl) ⟨by simp [q_all], rfl⟩
  · refine g_tableIn hX 45 dX11_all_1 (by decide) (by decide) rfl (by decide) ?_
    refine g_aload_n (nx := 46) hX 0 dX11_all_45 rfl rfl rfl ?_
    refine g_getfield (nx := 49) hX dX11_all_46 rfl fX11_23 (ga_dn hn rfl) rfl rfl ?_
    exact g_ireturn hX hP dX11_all_49 rfl (Nat.le_of_ble_eq_true rfl) (Nat.le_of_ble_eq_true rfl) ⟨by simp [q_all], rfl⟩
  · refine g_tableIn hX 50 dX11_all_1 (by decide) (by decide) rfl (by decide) ?_
    refine g_aload_n (nx := 51) hX 0 dX11_all_50 rfl rfl rfl ?_
    refine g_getfield (nx := 54) hX dX11_all_51 rfl fX11_41 (ga_dn hn rfl) rfl rfl ?_
    exact g_ireturn hX hP dX11_all_54 rfl (Nat.le_of_ble_eq_true rfl) (Nat.le_of_ble_eq_true rfl) ⟨by simp [q_all], rfl⟩
  · refine g_tableIn hX 55 dX11_all_1 (by decide) (by decide) rfl (by decide) ?_
    refine g_aload_n (nx := 56) hX 0 dX11_all_55 rfl rfl rfl ?_
    refine g_V0 (nx := 59) hX dX11_all_56 rfl mX11_153 yX11_optimum_ok (c_X11_optimum hn hf hs) (ga_dn hn rfl) rfl rfl rfl (by decide) rfl (Nat.le_of_ble_eq_true rfl) (Nat.le_of_ble_eq_true rfl) ?_
    rintro _ _ ⟨rfl, rfl⟩
    exact g_ireturn hX hP dX11_all_59 rfl (Nat.le_of_ble_eq_true rfl) (Nat.le_of_ble_eq_true rfl) ⟨by simp [q_all], rfl⟩
  · refine g_tableIn hX 60 dX11_all_1 (by decide) (by decide) rfl (by decide) ?_
    refine g_aload_n (nx := 61) hX 0 dX11_all_60 rfl rfl rfl ?_
    refine g_getfield (nx := 64) hX dX11_all_61 rfl fX11_71 (ga_dn hn rfl) rfl rfl ?_
    exact g_ireturn hX hP dX11_all_64 rfl (Nat.le_of_ble_eq_true rfl) (Nat.le_of_ble_eq_true rfl) ⟨by simp [q_all], rfl⟩
  · refine g_tableIn hX 65 dX11_all_1 (by decide) (by decide) rfl (by decide) ?_
    refine g_aload_n (nx := 66) hX 0 dX11_all_65 rfl rfl rfl ?_
    refine g_V0 (nx := 69) hX dX11_all_66 rfl mX11_179 yX11_known_ok (c_X11_known hn) (ga_dn hn rfl) rfl rfl rfl (by decide) rfl (Nat.le_of_ble_eq_true rfl) (Nat.le_of_ble_eq_true rfl) ?_
    rintro _ _ ⟨rfl, rfl⟩
    exact g_ireturn hX hP dX11_all_69 rfl (Nat.le_of_ble_eq_true rfl) (Nat.le_of_ble_eq_true rfl) ⟨by simp [q_all], rfl⟩
end
