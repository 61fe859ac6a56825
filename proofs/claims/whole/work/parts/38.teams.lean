/-! ===== teams of the class ===== -/
section
variable {E : ga_E} {X : ga_X} {n : Nat} {c0 c1 c2 c3 c4 c5 c6 c7 c8 c9 c10 c11 c12 c13 c14 c15 c16 c17 c18 c19 c20 c21 c22 c23 c24 c25 c26 c27 c28 c29 c30 m79 m80 m81 m82 m83 m84 m85 m86 m87 m88 m89 m90 m91 m92 m93 m94 m95 m96 m97 m98 m99 m100 m101 m102 m103 m104 m105 : ga_C} {L1 L2 : List ga_C} {f : Nat → ga_C} {o_tp o_rd o_fe o_em o_sp o_ac o_td o_sm o_tt o_at o_sz o_fk o_fp o_nw o_md o_nt o_pl o_op d_at d_tk d_ta d_fd d_fa : Int32} {d_tv : Int64} {d_rl : Value}
variable {size tot fm em sp op ask top hd : Int32} {s : Nat → Int64} {sv : Nat → sh_S} {av : Nat → a_S} {r q rn fn an ka sm : Nat} {cd : Nat → Nat × Nat} {en : Nat → Nat} {fo st_ od eo tm sz ah ou se : Nat → Int32} {ol : Nat → Option Nat}
variable {g : Nat → ga_C}
theorem c_X1_isPlacedFor {k : Nat} {t : Int32} (hn : 106 ≤ n) (hr : rn ≤ 24) (hk : k < rn) : ga_Mx E 3 yX1_isPlacedFor cX1_isPlacedFor 3 (some .boolean) 0 0 [.ref 27, .int t, .int (nI k)] (n, (k_0 ask :: c1 :: c2 :: k_R rn :: ga_i 24 tm :: ga_i 6 sz :: k_C fm em sp fn op :: ga_i 32 ah :: ga_i 30 ou :: k_L an :: ga_r 4 401 (l_w an) :: ga_r 4 24 ol :: c12 :: c13 :: c14 :: k_U 15 top size tot (nI sm) :: ga_i 600 st_ :: ga_i 600 od :: ga_i 24 eo :: ga_i 24 fo :: ga_l 32 s :: c21 :: c22 :: c23 :: c24 :: c25 :: c26 :: k_B ka :: ga_r 3 24 b_w :: k_Y hd :: ga_i 120 se :: []), L2, sh_f sv g) (some (.int (ga_b (p_in tm sv t k)))) (n, (k_0 ask :: c1 :: c2 :: k_R rn :: ga_i 24 tm :: ga_i 6 sz :: k_C fm em sp fn op :: ga_i 32 ah :: ga_i 30 ou :: k_L an :: ga_r 4 401 (l_w an) :: ga_r 4 24 ol :: c12 :: c13 :: c14 :: k_U 15 top size tot (nI sm) :: ga_i 600 st_ :: ga_i 600 od :: ga_i 24 eo :: ga_i 24 fo :: ga_l 32 s :: c21 :: c22 :: c23 :: c24 :: c25 :: c26 :: k_B ka :: ga_r 3 24 b_w :: k_Y hd :: ga_i 120 se :: []), L2, sh_f sv g) := by
  have hk2 : k < 24 := by omega
  have e : (if 0 ≤ nI k ∧ nI k < nI rn then tm (nI k).toNatClampNeg else -1) = tm k := by rw [if_pos ⟨nI_pos' (by omega), nI_lt hk (by omega)⟩, nI_clamp (by omega)]
  refine ga_Mt.of (by decide) rfl (fun X hX hP => ?_)
  refine g_less [some (.ref 27), some (.int t), some (.int (nI k))] ⟨rfl, rfl, rfl, trivial⟩ ?_
  refine g_aload_n (nx := 1) hX 0 dX1_isPlacedFor_0 rfl rfl rfl ?_
  refine g_getfield (nx := 4) hX dX1_isPlacedFor_1 rfl fX1_19 (ga_dn hn rfl) rfl rfl ?_
  refine g_iload_n (nx := 5) hX 2 dX1_isPlacedFor_4 rfl rfl rfl ?_
  refine g_V1 (nx := 8) hX dX1_isPlacedFor_5 rfl mX1_128 yX5_teamOf_ok (c_X5_teamOf hn hr) (ga_dn hn rfl) rfl rfl rfl (by decide) rfl (Nat.le_of_ble_eq_true rfl) (Nat.le_of_ble_eq_true rfl) ?_
  rintro _ _ ⟨rfl, rfl⟩
  rw [e]
  refine g_iload_n (nx := 9) hX 1 dX1_isPlacedFor_8 rfl rfl rfl ?_
  refine g_icmp_ne (nx := 12) hX 28 dX1_isPlacedFor_9 (by decide) rfl (fun h9 => ?_) (fun h9 => ?_)
  · refine g_iconst (nx := 29) hX 0 dX1_isPlacedFor_28 rfl (by decide) ?_
    exact g_ireturn hX hP dX1_isPlacedFor_29 rfl (Nat.le_of_ble_eq_true rfl) (Nat.le_of_ble_eq_true rfl) ⟨by rw [ga_b_f (fun z => h9 z.1)], rfl⟩
  · refine g_aload_n (nx := 13) hX 0 dX1_isPlacedFor_12 rfl rfl rfl ?_
    refine g_getfield (nx := 16) hX dX1_isPlacedFor_13 rfl fX1_13 (ga_dn hn rfl) rfl rfl ?_
    refine g_iload_n (nx := 17) hX 2 dX1_isPlacedFor_16 rfl rfl rfl ?_
    refine g_aaload3 (nx := 18) hX dX1_isPlacedFor_17 rfl (ga_dn hn rfl) rfl (ga_ix_of (j := k) rfl (by omega) (by omega)) ?_
    refine g_getfield (nx := 21) hX dX1_isPlacedFor_18 rfl fX1_99 (dm_o hn hk2) (get_so hk2) rfl ?_
    refine g_if_ne (nx := 24) hX 28 dX1_isPlacedFor_21 (by decide) rfl (fun h21 => ?_) (fun h21 => ?_)
    · refine g_iconst (nx := 29) hX 0 dX1_isPlacedFor_28 rfl (by decide) ?_
      exact g_ireturn hX hP dX1_isPlacedFor_29 rfl (Nat.le_of_ble_eq_true rfl) (Nat.le_of_ble_eq_true rfl) ⟨by rw [ga_b_f (fun z => h21 z.2)], rfl⟩
    · refine g_iconst (nx := 25) hX 1 dX1_isPlacedFor_24 rfl (by decide) ?_
      refine g_goto (nx := 29) hX dX1_isPlacedFor_25 (by decide) ?_
      exact g_ireturn hX hP dX1_isPlacedFor_29 rfl (Nat.le_of_ble_eq_true rfl) (Nat.le_of_ble_eq_true rfl) ⟨by rw [ga_b_t ⟨h9, h21⟩], rfl⟩
theorem c_X1_teamSum {t : Int32} (hn : 106 ≤ n) (hr : rn ≤ 24) : ga_Mx E 4 yX1_teamSum cX1_teamSum 10 (some .long) 0 0 [.ref 27, .int t] (n, (k_0 ask :: c1 :: c2 :: k_R rn :: ga_i 24 tm :: ga_i 6 sz :: k_C fm em sp fn op :: ga_i 32 ah :: ga_i 30 ou :: k_L an :: ga_r 4 401 (l_w an) :: ga_r 4 24 ol :: c12 :: c13 :: c14 :: k_U 15 top size tot (nI sm) :: ga_i 600 st_ :: ga_i 600 od :: ga_i 24 eo :: ga_i 24 fo :: ga_l 32 s :: c21 :: c22 :: c23 :: c24 :: c25 :: c26 :: k_B ka :: ga_r 3 24 b_w :: k_Y hd :: ga_i 120 se :: []), L2, sh_f sv g) (some (.long (p_sum tm sv rn t))) (n, (k_0 ask :: c1 :: c2 :: k_R rn :: ga_i 24 tm :: ga_i 6 sz :: k_C fm em sp fn op :: ga_i 32 ah :: ga_i 30 ou :: k_L an :: ga_r 4 401 (l_w an) :: ga_r 4 24 ol :: c12 :: c13 :: c14 :: k_U 15 top size tot (nI sm) :: ga_i 600 st_ :: ga_i 600 od :: ga_i 24 eo :: ga_i 24 fo :: ga_l 32 s :: c21 :: c22 :: c23 :: c24 :: c25 :: c26 :: k_B ka :: ga_r 3 24 b_w :: k_Y hd :: ga_i 120 se :: []), L2, sh_f sv g) := by
  have hle := p_ts_le tm sv t rn
  refine ga_Mt.of (by decide) rfl (fun X hX hP => ?_)
  refine g_less [some (.ref 27), some (.int t), none, none, none, none, none, none, none, none] ⟨rfl, rfl, trivial⟩ ?_
  have tail : ga_G E X 0 0 78 [some (.ref 27), some (.int t), some (.long (p_ts tm sv t rn).1), none, some (.long (p_ts tm sv t rn).2.1), none, some (.int (nI (p_ts tm sv t rn).2.2)), none, none, none] [] (n, (k_0 ask :: c1 :: c2 :: k_R rn :: ga_i 24 tm :: ga_i 6 sz :: k_C fm em sp fn op :: ga_i 32 ah :: ga_i 30 ou :: k_L an :: ga_r 4 401 (l_w an) :: ga_r 4 24 ol :: c12 :: c13 :: c14 :: k_U 15 top size tot (nI sm) :: ga_i 600 st_ :: ga_i 600 od :: ga_i 24 eo :: ga_i 24 fo :: ga_l 32 s :: c21 :: c22 :: c23 :: c24 :: c25 :: c26 :: k_B ka :: ga_r 3 24 b_w :: k_Y hd :: ga_i 120 se :: []), L2, sh_f sv g) := by
    refine g_iload (nx := 80) hX 6 dX1_teamSum_78 rfl rfl ?_
    refine g_iconst (nx := 81) hX 3 dX1_teamSum_80 rfl (by decide) ?_
    refine g_icmp_le (nx := 84) hX 91 dX1_teamSum_81 (by decide) rfl (fun h81 => ?_) (fun h81 => ?_)
    · have e : ¬ 3 < (p_ts tm sv t rn).2.2 := by have := (nI_leI (b := 3) (by omega) (by omega)).mp h81; omega
      refine g_lload_n (nx := 92) hX 2 dX1_teamSum_91 rfl rfl rfl ?_
      refine g_ldc2_w (nx := 95) hX 10000 dX1_teamSum_92 rfl kX1_124 ?_
      refine g_iconst (nx := 96) hX 3 dX1_teamSum_95 rfl (by decide) ?_
      refine g_iload (nx := 98) hX 6 dX1_teamSum_96 rfl rfl ?_
      refine g_isub (nx := 99) hX dX1_teamSum_98 rfl ?_
      refine g_i2l (nx := 100) hX dX1_teamSum_99 rfl ?_
      refine g_lmul (nx := 101) hX dX1_teamSum_100 rfl ?_
      refine g_ladd (nx := 102) hX dX1_teamSum_101 rfl ?_
      exact g_lreturn hX hP dX1_teamSum_102 (Nat.le_of_ble_eq_true rfl) (Nat.le_of_ble_eq_true rfl) ⟨by unfold p_sum; rw [if_neg e], rfl⟩
    · have e : 3 < (p_ts tm sv t rn).2.2 := Nat.lt_of_not_le (fun z => h81 (nI_le (b := 3) z (by omega)))
      refine g_lload_n (nx := 85) hX 2 dX1_teamSum_84 rfl rfl rfl ?_
      refine g_lload (nx := 87) hX 4 dX1_teamSum_85 rfl rfl ?_
      refine g_lsub (nx := 88) hX dX1_teamSum_87 rfl ?_
      refine g_goto (nx := 102) hX dX1_teamSum_88 (by decide) ?_
      exact g_lreturn hX hP dX1_teamSum_102 (Nat.le_of_ble_eq_true rfl) (Nat.le_of_ble_eq_true rfl) ⟨by unfold p_sum; rw [if_pos e], rfl⟩
  have loop : ∀ (m k : Nat), k ≤ rn → rn - k = m → ga_G E X 0 0 11 [some (.ref 27), some (.int t), some (.long (p_ts tm sv t k).1), none, some (.long (p_ts tm sv t k).2.1), none, some (.int (nI (p_ts tm sv t k).2.2)), some (.int (nI k)), none, none] [] (n, (k_0 ask :: c1 :: c2 :: k_R rn :: ga_i 24 tm :: ga_i 6 sz :: k_C fm em sp fn op :: ga_i 32 ah :: ga_i 30 ou :: k_L an :: ga_r 4 401 (l_w an) :: ga_r 4 24 ol :: c12 :: c13 :: c14 :: k_U 15 top size tot (nI sm) :: ga_i 600 st_ :: ga_i 600 od :: ga_i 24 eo :: ga_i 24 fo :: ga_l 32 s :: c21 :: c22 :: c23 :: c24 :: c25 :: c26 :: k_B ka :: ga_r 3 24 b_w :: k_Y hd :: ga_i 120 se :: []), L2, sh_f sv g) := by
    intro m
    induction m with
    | zero =>
      intro k h1 h2
      have e : k = rn := by omega
      subst e
      refine g_iload (nx := 13) hX 7 dX1_teamSum_11 rfl rfl ?_
      refine g_aload_n (nx := 14) hX 0 dX1_teamSum_13 rfl rfl rfl ?_
      refine g_getfield (nx := 17) hX dX1_teamSum_14 rfl fX1_19 (ga_dn hn rfl) rfl rfl ?_
      refine g_getfield (nx := 20) hX dX1_teamSum_17 rfl fX1_51 (ga_dn hn rfl) rfl rfl ?_
      refine g_icmp_ge (nx := 23) hX 78 dX1_teamSum_20 (by decide) rfl (fun h20 => ?_) (fun h20 => ?_)
      · exact g_ls tail ⟨rfl, rfl, rfl, rfl, rfl, trivial⟩
      · exact absurd (nI_le (Nat.le_refl k) (by omega)) h20
    | succ m ih =>
      intro k h1 h2
      have ih1 := ih (k + 1) (by omega) (by omega)
      have hk0 := p_ts_le tm sv t k
      rw [p_ts] at ih1
      revert ih1 hk0
      generalize p_ts tm sv t k = z
      obtain ⟨zs, zg, zk⟩ := z
      intro ih1 hk0
      dsimp only at ih1 hk0
      refine g_iload (nx := 13) hX 7 dX1_teamSum_11 rfl rfl ?_
      refine g_aload_n (nx := 14) hX 0 dX1_teamSum_13 rfl rfl rfl ?_
      refine g_getfield (nx := 17) hX dX1_teamSum_14 rfl fX1_19 (ga_dn hn rfl) rfl rfl ?_
      refine g_getfield (nx := 20) hX dX1_teamSum_17 rfl fX1_51 (ga_dn hn rfl) rfl rfl ?_
      refine g_icmp_ge (nx := 23) hX 78 dX1_teamSum_20 (by decide) rfl (fun h20 => ?_) (fun h20 => ?_)
      · exact absurd ((nI_leI (a := rn) (b := k) (by omega) (by omega)).mp h20) (by omega)
      · have hlt : k < rn := by omega
        have hk : k < 24 := by omega
        refine g_aload_n (nx := 24) hX 0 dX1_teamSum_23 rfl rfl rfl ?_
        refine g_iload_n (nx := 25) hX 1 dX1_teamSum_24 rfl rfl rfl ?_
        refine g_iload (nx := 27) hX 7 dX1_teamSum_25 rfl rfl ?_
        refine g_V2 (nx := 30) hX dX1_teamSum_27 rfl mX1_113 yX1_isPlacedFor_ok (c_X1_isPlacedFor hn hr hlt) (ga_dn hn rfl) rfl rfl rfl (by decide) rfl (Nat.le_of_ble_eq_true rfl) (Nat.le_of_ble_eq_true rfl) ?_
        rintro _ _ ⟨rfl, rfl⟩
        refine g_if_eq (nx := 33) hX 72 dX1_teamSum_30 (by decide) rfl (fun h30 => ?_) (fun h30 => ?_)
        · rw [if_neg (ga_b_0 h30)] at ih1
          refine g_iinc (nx := 75) hX 7 (nI (k + 1)) dX1_teamSum_72 rfl rfl rfl (nI_1 k) ?_
          refine g_goto (nx := 11) hX dX1_teamSum_75 (by decide) ?_
          exact g_ls ih1 ⟨rfl, rfl, rfl, rfl, rfl, rfl, trivial⟩
        · rw [if_pos (ga_b_n0 h30)] at ih1
          refine g_aload_n (nx := 34) hX 0 dX1_teamSum_33 rfl rfl rfl ?_
          refine g_getfield (nx := 37) hX dX1_teamSum_34 rfl fX1_13 (ga_dn hn rfl) rfl rfl ?_
          refine g_iload (nx := 39) hX 7 dX1_teamSum_37 rfl rfl ?_
          refine g_aaload3 (nx := 40) hX dX1_teamSum_39 rfl (ga_dn hn rfl) rfl (ga_ix_of (j := k) rfl (by omega) (by omega)) ?_
          refine g_getfield (nx := 43) hX dX1_teamSum_40 rfl fX1_117 (dm_o hn hk) (get_so hk) rfl ?_
          refine g_lstore (nx := 45) hX 8 dX1_teamSum_43 rfl rfl ?_
          refine g_iload (nx := 47) hX 6 dX1_teamSum_45 rfl rfl ?_
          refine g_if_ne (nx := 50) hX 55 dX1_teamSum_47 (by decide) rfl (fun h47 => ?_) (fun h47 => ?_)
          · have hz : ¬ zk = 0 := fun z => h47 (by rw [z]; rfl)
            rw [if_neg hz] at ih1
            refine g_lload (nx := 57) hX 4 dX1_teamSum_55 rfl rfl ?_
            refine g_lload (nx := 59) hX 8 dX1_teamSum_57 rfl rfl ?_
            refine g_S2 (nx := 62) hX dX1_teamSum_59 rfl mX1_121 yJ9_max_f86c9_ok (c_J9_max_f86c9) (by decide) rfl (Nat.le_of_ble_eq_true rfl) (Nat.le_of_ble_eq_true rfl) ?_
            rintro _ _ ⟨rfl, rfl⟩
            refine g_lstore (nx := 64) hX 4 dX1_teamSum_62 rfl rfl ?_
            refine g_lload_n (nx := 65) hX 2 dX1_teamSum_64 rfl rfl rfl ?_
            refine g_lload (nx := 67) hX 8 dX1_teamSum_65 rfl rfl ?_
            refine g_ladd (nx := 68) hX dX1_teamSum_67 rfl ?_
            refine g_lstore_n (nx := 69) hX 2 dX1_teamSum_68 rfl rfl rfl ?_
            refine g_iinc (nx := 72) hX 6 (nI (zk + 1)) dX1_teamSum_69 rfl rfl rfl (nI_1 zk) ?_
            refine g_iinc (nx := 75) hX 7 (nI (k + 1)) dX1_teamSum_72 rfl rfl rfl (nI_1 k) ?_
            refine g_goto (nx := 11) hX dX1_teamSum_75 (by decide) ?_
            exact g_ls ih1 ⟨rfl, rfl, rfl, rfl, rfl, rfl, trivial⟩
          · have hz : zk = 0 := nI_inj (b := 0) h47 (by omega) (by omega)
            rw [if_pos hz] at ih1
            refine g_lload (nx := 52) hX 8 dX1_teamSum_50 rfl rfl ?_
            refine g_goto (nx := 62) hX dX1_teamSum_52 (by decide) ?_
            refine g_lstore (nx := 64) hX 4 dX1_teamSum_62 rfl rfl ?_
            refine g_lload_n (nx := 65) hX 2 dX1_teamSum_64 rfl rfl rfl ?_
            refine g_lload (nx := 67) hX 8 dX1_teamSum_65 rfl rfl ?_
            refine g_ladd (nx := 68) hX dX1_teamSum_67 rfl ?_
            refine g_lstore_n (nx := 69) hX 2 dX1_teamSum_68 rfl rfl rfl ?_
            refine g_iinc (nx := 72) hX 6 (nI (zk + 1)) dX1_teamSum_69 rfl rfl rfl (nI_1 zk) ?_
            refine g_iinc (nx := 75) hX 7 (nI (k + 1)) dX1_teamSum_72 rfl rfl rfl (nI_1 k) ?_
            refine g_goto (nx := 11) hX dX1_teamSum_75 (by decide) ?_
            exact g_ls ih1 ⟨rfl, rfl, rfl, rfl, rfl, rfl, trivial⟩
  refine g_lconst (nx := 1) hX 0 dX1_teamSum_0 rfl (by decide) ?_
  refine g_lstore_n (nx := 2) hX 2 dX1_teamSum_1 rfl rfl rfl ?_
  refine g_lconst (nx := 3) hX 0 dX1_teamSum_2 rfl (by decide) ?_
  refine g_lstore (nx := 5) hX 4 dX1_teamSum_3 rfl rfl ?_
  refine g_iconst (nx := 6) hX 0 dX1_teamSum_5 rfl (by decide) ?_
  refine g_istore (nx := 8) hX 6 dX1_teamSum_6 rfl rfl ?_
  refine g_iconst (nx := 9) hX 0 dX1_teamSum_8 rfl (by decide) ?_
  refine g_istore (nx := 11) hX 7 dX1_teamSum_9 rfl rfl ?_
  exact g_ls (loop rn 0 (by omega) (by omega)) ⟨rfl, rfl, rfl, rfl, rfl, rfl, trivial⟩
theorem c_X1_leastOfTeam {t : Int32} (hn : 106 ≤ n) (hr : rn ≤ 24) : ga_Mx E 4 yX1_leastOfTeam cX1_leastOfTeam 8 (some .long) 0 0 [.ref 27, .int t] (n, (k_0 ask :: c1 :: c2 :: k_R rn :: ga_i 24 tm :: ga_i 6 sz :: k_C fm em sp fn op :: ga_i 32 ah :: ga_i 30 ou :: k_L an :: ga_r 4 401 (l_w an) :: ga_r 4 24 ol :: c12 :: c13 :: c14 :: k_U 15 top size tot (nI sm) :: ga_i 600 st_ :: ga_i 600 od :: ga_i 24 eo :: ga_i 24 fo :: ga_l 32 s :: c21 :: c22 :: c23 :: c24 :: c25 :: c26 :: k_B ka :: ga_r 3 24 b_w :: k_Y hd :: ga_i 120 se :: []), L2, sh_f sv g) (some (.long (p_tl tm sv t rn).2)) (n, (k_0 ask :: c1 :: c2 :: k_R rn :: ga_i 24 tm :: ga_i 6 sz :: k_C fm em sp fn op :: ga_i 32 ah :: ga_i 30 ou :: k_L an :: ga_r 4 401 (l_w an) :: ga_r 4 24 ol :: c12 :: c13 :: c14 :: k_U 15 top size tot (nI sm) :: ga_i 600 st_ :: ga_i 600 od :: ga_i 24 eo :: ga_i 24 fo :: ga_l 32 s :: c21 :: c22 :: c23 :: c24 :: c25 :: c26 :: k_B ka :: ga_r 3 24 b_w :: k_Y hd :: ga_i 120 se :: []), L2, sh_f sv g) := by
  refine ga_Mt.of (by decide) rfl (fun X hX hP => ?_)
  refine g_less [some (.ref 27), some (.int t), none, none, none, none, none, none] ⟨rfl, rfl, trivial⟩ ?_
  have loop : ∀ (m k : Nat), k ≤ rn → rn - k = m → ga_G E X 0 0 9 [some (.ref 27), some (.int t), some (.int (p_tl tm sv t k).1), some (.long (p_tl tm sv t k).2), none, some (.int (nI k)), none, none] [] (n, (k_0 ask :: c1 :: c2 :: k_R rn :: ga_i 24 tm :: ga_i 6 sz :: k_C fm em sp fn op :: ga_i 32 ah :: ga_i 30 ou :: k_L an :: ga_r 4 401 (l_w an) :: ga_r 4 24 ol :: c12 :: c13 :: c14 :: k_U 15 top size tot (nI sm) :: ga_i 600 st_ :: ga_i 600 od :: ga_i 24 eo :: ga_i 24 fo :: ga_l 32 s :: c21 :: c22 :: c23 :: c24 :: c25 :: c26 :: k_B ka :: ga_r 3 24 b_w :: k_Y hd :: ga_i 120 se :: []), L2, sh_f sv g) := by
    intro m
    induction m with
    | zero =>
      intro k h1 h2
      have e : k = rn := by omega
      subst e
      refine g_iload (nx := 11) hX 5 dX1_leastOfTeam_9 rfl rfl ?_
      refine g_aload_n (nx := 12) hX 0 dX1_leastOfTeam_11 rfl rfl rfl ?_
      refine g_getfield (nx := 15) hX dX1_leastOfTeam_12 rfl fX1_19 (ga_dn hn rfl) rfl rfl ?_
      refine g_getfield (nx := 18) hX dX1_leastOfTeam_15 rfl fX1_51 (ga_dn hn rfl) rfl rfl ?_
      refine g_icmp_ge (nx := 21) hX 67 dX1_leastOfTeam_18 (by decide) rfl (fun h18 => ?_) (fun h18 => ?_)
      · refine g_lload_n (nx := 68) hX 3 dX1_leastOfTeam_67 rfl rfl rfl ?_
        exact g_lreturn hX hP dX1_leastOfTeam_68 (Nat.le_of_ble_eq_true rfl) (Nat.le_of_ble_eq_true rfl) ⟨rfl, rfl⟩
      · exact absurd (nI_le (Nat.le_refl k) (by omega)) h18
    | succ m ih =>
      intro k h1 h2
      have ih1 := ih (k + 1) (by omega) (by omega)
      rw [p_tl] at ih1
      revert ih1
      generalize p_tl tm sv t k = z
      obtain ⟨zf, zl⟩ := z
      intro ih1
      dsimp only at ih1
      refine g_iload (nx := 11) hX 5 dX1_leastOfTeam_9 rfl rfl ?_
      refine g_aload_n (nx := 12) hX 0 dX1_leastOfTeam_11 rfl rfl rfl ?_
      refine g_getfield (nx := 15) hX dX1_leastOfTeam_12 rfl fX1_19 (ga_dn hn rfl) rfl rfl ?_
      refine g_getfield (nx := 18) hX dX1_leastOfTeam_15 rfl fX1_51 (ga_dn hn rfl) rfl rfl ?_
      refine g_icmp_ge (nx := 21) hX 67 dX1_leastOfTeam_18 (by decide) rfl (fun h18 => ?_) (fun h18 => ?_)
      · exact absurd ((nI_leI (a := rn) (b := k) (by omega) (by omega)).mp h18) (by omega)
      · have hlt : k < rn := by omega
        have hk : k < 24 := by omega
        refine g_aload_n (nx := 22) hX 0 dX1_leastOfTeam_21 rfl rfl rfl ?_
        refine g_iload_n (nx := 23) hX 1 dX1_leastOfTeam_22 rfl rfl rfl ?_
        refine g_iload (nx := 25) hX 5 dX1_leastOfTeam_23 rfl rfl ?_
        refine g_V2 (nx := 28) hX dX1_leastOfTeam_25 rfl mX1_113 yX1_isPlacedFor_ok (c_X1_isPlacedFor hn hr hlt) (ga_dn hn rfl) rfl rfl rfl (by decide) rfl (Nat.le_of_ble_eq_true rfl) (Nat.le_of_ble_eq_true rfl) ?_
        rintro _ _ ⟨rfl, rfl⟩
        refine g_if_eq (nx := 31) hX 61 dX1_leastOfTeam_28 (by decide) rfl (fun h28 => ?_) (fun h28 => ?_)
        · rw [if_neg (ga_b_0 h28)] at ih1
          refine g_iinc (nx := 64) hX 5 (nI (k + 1)) dX1_leastOfTeam_61 rfl rfl rfl (nI_1 k) ?_
          refine g_goto (nx := 9) hX dX1_leastOfTeam_64 (by decide) ?_
          exact g_ls ih1 ⟨rfl, rfl, rfl, rfl, rfl, trivial⟩
        · rw [if_pos (ga_b_n0 h28)] at ih1
          refine g_aload_n (nx := 32) hX 0 dX1_leastOfTeam_31 rfl rfl rfl ?_
          refine g_getfield (nx := 35) hX dX1_leastOfTeam_32 rfl fX1_13 (ga_dn hn rfl) rfl rfl ?_
          refine g_iload (nx := 37) hX 5 dX1_leastOfTeam_35 rfl rfl ?_
          refine g_aaload3 (nx := 38) hX dX1_leastOfTeam_37 rfl (ga_dn hn rfl) rfl (ga_ix_of (j := k) rfl (by omega) (by omega)) ?_
          refine g_getfield (nx := 41) hX dX1_leastOfTeam_38 rfl fX1_117 (dm_o hn hk) (get_so hk) rfl ?_
          refine g_lstore (nx := 43) hX 6 dX1_leastOfTeam_41 rfl rfl ?_
          refine g_iload_n (nx := 44) hX 2 dX1_leastOfTeam_43 rfl rfl rfl ?_
          refine g_if_eq (nx := 47) hX 56 dX1_leastOfTeam_44 (by decide) rfl (fun h44 => ?_) (fun h44 => ?_)
          · rw [if_pos h44] at ih1
            refine g_lload (nx := 58) hX 6 dX1_leastOfTeam_56 rfl rfl ?_
            refine g_lstore_n (nx := 59) hX 3 dX1_leastOfTeam_58 rfl rfl rfl ?_
            refine g_iconst (nx := 60) hX 1 dX1_leastOfTeam_59 rfl (by decide) ?_
            refine g_istore_n (nx := 61) hX 2 dX1_leastOfTeam_60 rfl rfl rfl ?_
            refine g_iinc (nx := 64) hX 5 (nI (k + 1)) dX1_leastOfTeam_61 rfl rfl rfl (nI_1 k) ?_
            refine g_goto (nx := 9) hX dX1_leastOfTeam_64 (by decide) ?_
            exact g_ls ih1 ⟨rfl, rfl, rfl, rfl, rfl, trivial⟩
          · rw [if_neg h44] at ih1
            refine g_lload_n (nx := 48) hX 3 dX1_leastOfTeam_47 rfl rfl rfl ?_
            refine g_lload (nx := 50) hX 6 dX1_leastOfTeam_48 rfl rfl ?_
            refine g_S2 (nx := 53) hX dX1_leastOfTeam_50 rfl mX1_126 yJ9_min_f86c9_ok (c_J9_min_f86c9) (by decide) rfl (Nat.le_of_ble_eq_true rfl) (Nat.le_of_ble_eq_true rfl) ?_
            rintro _ _ ⟨rfl, rfl⟩
            refine g_goto (nx := 58) hX dX1_leastOfTeam_53 (by decide) ?_
            refine g_lstore_n (nx := 59) hX 3 dX1_leastOfTeam_58 rfl rfl rfl ?_
            refine g_iconst (nx := 60) hX 1 dX1_leastOfTeam_59 rfl (by decide) ?_
            refine g_istore_n (nx := 61) hX 2 dX1_leastOfTeam_60 rfl rfl rfl ?_
            refine g_iinc (nx := 64) hX 5 (nI (k + 1)) dX1_leastOfTeam_61 rfl rfl rfl (nI_1 k) ?_
            refine g_goto (nx := 9) hX dX1_leastOfTeam_64 (by decide) ?_
            exact g_ls ih1 ⟨rfl, rfl, rfl, rfl, rfl, trivial⟩
  refine g_iconst (nx := 1) hX 0 dX1_leastOfTeam_0 rfl (by decide) ?_
  refine g_istore_n (nx := 2) hX 2 dX1_leastOfTeam_1 rfl rfl rfl ?_
  refine g_ldc2_w (nx := 5) hX 10000 dX1_leastOfTeam_2 rfl kX1_124 ?_
  refine g_lstore_n (nx := 6) hX 3 dX1_leastOfTeam_5 rfl rfl rfl ?_
  refine g_iconst (nx := 7) hX 0 dX1_leastOfTeam_6 rfl (by decide) ?_
  refine g_istore (nx := 9) hX 5 dX1_leastOfTeam_7 rfl rfl ?_
  exact g_ls (loop rn 0 (by omega) (by omega)) ⟨rfl, rfl, rfl, rfl, rfl, trivial⟩
theorem c_X1_placeOfTeam {t : Int32} (hn : 106 ≤ n) (hr : rn ≤ 24) : ga_Mx E 5 yX1_placeOfTeam cX1_placeOfTeam 11 (some .int) 0 0 [.ref 27, .int t] (n, (k_0 ask :: c1 :: c2 :: k_R rn :: ga_i 24 tm :: ga_i 6 sz :: k_C fm em sp fn op :: ga_i 32 ah :: ga_i 30 ou :: k_L an :: ga_r 4 401 (l_w an) :: ga_r 4 24 ol :: c12 :: c13 :: c14 :: k_U 15 top size tot (nI sm) :: ga_i 600 st_ :: ga_i 600 od :: ga_i 24 eo :: ga_i 24 fo :: ga_l 32 s :: c21 :: c22 :: c23 :: c24 :: c25 :: c26 :: k_B ka :: ga_r 3 24 b_w :: k_Y hd :: ga_i 120 se :: []), L2, sh_f sv g) (some (.int (nI (p_tp tm sz sv rn t 6)))) (n, (k_0 ask :: c1 :: c2 :: k_R rn :: ga_i 24 tm :: ga_i 6 sz :: k_C fm em sp fn op :: ga_i 32 ah :: ga_i 30 ou :: k_L an :: ga_r 4 401 (l_w an) :: ga_r 4 24 ol :: c12 :: c13 :: c14 :: k_U 15 top size tot (nI sm) :: ga_i 600 st_ :: ga_i 600 od :: ga_i 24 eo :: ga_i 24 fo :: ga_l 32 s :: c21 :: c22 :: c23 :: c24 :: c25 :: c26 :: k_B ka :: ga_r 3 24 b_w :: k_Y hd :: ga_i 120 se :: []), L2, sh_f sv g) := by
  refine ga_Mt.of (by decide) rfl (fun X hX hP => ?_)
  refine g_less [some (.ref 27), some (.int t), none, none, none, none, none, none, none, none, none] ⟨rfl, rfl, trivial⟩ ?_
  have loop : ∀ (m k : Nat), k ≤ 6 → 6 - k = m → ga_G E X 0 0 19 [some (.ref 27), some (.int t), some (.long (p_sum tm sv rn t)), none, some (.long (p_tl tm sv t rn).2), none, some (.int (nI (p_tp tm sz sv rn t k))), some (.int (nI k)), none, none, none] [] (n, (k_0 ask :: c1 :: c2 :: k_R rn :: ga_i 24 tm :: ga_i 6 sz :: k_C fm em sp fn op :: ga_i 32 ah :: ga_i 30 ou :: k_L an :: ga_r 4 401 (l_w an) :: ga_r 4 24 ol :: c12 :: c13 :: c14 :: k_U 15 top size tot (nI sm) :: ga_i 600 st_ :: ga_i 600 od :: ga_i 24 eo :: ga_i 24 fo :: ga_l 32 s :: c21 :: c22 :: c23 :: c24 :: c25 :: c26 :: k_B ka :: ga_r 3 24 b_w :: k_Y hd :: ga_i 120 se :: []), L2, sh_f sv g) := by
    intro m
    induction m with
    | zero =>
      intro k h1 h2
      have e : k = 6 := by omega
      subst e
      refine g_iload (nx := 21) hX 7 dX1_placeOfTeam_19 rfl rfl ?_
      refine g_bipush (nx := 23) hX 6 dX1_placeOfTeam_21 rfl (by decide) ?_
      refine g_icmp_ge (nx := 26) hX 93 dX1_placeOfTeam_23 (by decide) rfl (fun h23 => ?_) (fun h23 => ?_)
      · refine g_iload (nx := 95) hX 6 dX1_placeOfTeam_93 rfl rfl ?_
        exact g_ireturn hX hP dX1_placeOfTeam_95 rfl (Nat.le_of_ble_eq_true rfl) (Nat.le_of_ble_eq_true rfl) ⟨rfl, rfl⟩
      · exact absurd (show (6 : Int32) ≤ nI 6 by decide) h23
    | succ m ih =>
      intro k h1 h2
      have ih1 := ih (k + 1) (by omega) (by omega)
      rw [p_tp] at ih1
      have t67 : ∀ (b : Int32), (b = 0 ↔ ¬ (p_sum tm sv rn (nI k) < p_sum tm sv rn t ∨ p_sum tm sv rn (nI k) = p_sum tm sv rn t ∧ (p_tl tm sv (nI k) rn).2 < (p_tl tm sv t rn).2)) → ga_G E X 0 0 67 [some (.ref 27), some (.int t), some (.long (p_sum tm sv rn t)), none, some (.long (p_tl tm sv t rn).2), none, some (.int (nI (p_tp tm sz sv rn t k))), some (.int (nI k)), none, none, some (.int b)] [] (n, (k_0 ask :: c1 :: c2 :: k_R rn :: ga_i 24 tm :: ga_i 6 sz :: k_C fm em sp fn op :: ga_i 32 ah :: ga_i 30 ou :: k_L an :: ga_r 4 401 (l_w an) :: ga_r 4 24 ol :: c12 :: c13 :: c14 :: k_U 15 top size tot (nI sm) :: ga_i 600 st_ :: ga_i 600 od :: ga_i 24 eo :: ga_i 24 fo :: ga_l 32 s :: c21 :: c22 :: c23 :: c24 :: c25 :: c26 :: k_B ka :: ga_r 3 24 b_w :: k_Y hd :: ga_i 120 se :: []), L2, sh_f sv g) := by
        intro b hb
        refine g_aload_n (nx := 68) hX 0 dX1_placeOfTeam_67 rfl rfl rfl ?_
        refine g_getfield (nx := 71) hX dX1_placeOfTeam_68 rfl fX1_19 (ga_dn hn rfl) rfl rfl ?_
        refine g_iload (nx := 73) hX 7 dX1_placeOfTeam_71 rfl rfl ?_
        refine g_V1 (nx := 76) hX dX1_placeOfTeam_73 rfl mX1_138 yX5_sizeOfTeam_ok (c_X5_sizeOfTeam hn) (ga_dn hn rfl) rfl rfl rfl (by decide) rfl (Nat.le_of_ble_eq_true rfl) (Nat.le_of_ble_eq_true rfl) ?_
        rintro _ _ ⟨rfl, rfl⟩
        refine g_if_le (nx := 79) hX 87 dX1_placeOfTeam_76 (by decide) rfl (fun h76 => ?_) (fun h76 => ?_)
        · rw [if_neg (fun z => ga_len h76 z.1), Nat.add_zero] at ih1
          refine g_iinc (nx := 90) hX 7 (nI (k + 1)) dX1_placeOfTeam_87 rfl rfl rfl (nI_1 k) ?_
          refine g_goto (nx := 19) hX dX1_placeOfTeam_90 (by decide) ?_
          exact g_ls ih1 ⟨rfl, rfl, rfl, rfl, rfl, rfl, trivial⟩
        · refine g_iload (nx := 81) hX 10 dX1_placeOfTeam_79 rfl rfl ?_
          refine g_if_eq (nx := 84) hX 87 dX1_placeOfTeam_81 (by decide) rfl (fun h81 => ?_) (fun h81 => ?_)
          · rw [if_neg (fun z => hb.mp h81 z.2), Nat.add_zero] at ih1
            refine g_iinc (nx := 90) hX 7 (nI (k + 1)) dX1_placeOfTeam_87 rfl rfl rfl (nI_1 k) ?_
            refine g_goto (nx := 19) hX dX1_placeOfTeam_90 (by decide) ?_
            exact g_ls ih1 ⟨rfl, rfl, rfl, rfl, rfl, rfl, trivial⟩
          · rw [if_pos ⟨ga_nle h76, Classical.not_not.mp (fun z => h81 (hb.mpr z))⟩] at ih1
            refine g_iinc (nx := 87) hX 6 (nI (p_tp tm sz sv rn t k + 1)) dX1_placeOfTeam_84 rfl rfl rfl (nI_1 _) ?_
            refine g_iinc (nx := 90) hX 7 (nI (k + 1)) dX1_placeOfTeam_87 rfl rfl rfl (nI_1 k) ?_
            refine g_goto (nx := 19) hX dX1_placeOfTeam_90 (by decide) ?_
            exact g_ls ih1 ⟨rfl, rfl, rfl, rfl, rfl, rfl, trivial⟩
      refine g_iload (nx := 21) hX 7 dX1_placeOfTeam_19 rfl rfl ?_
      refine g_bipush (nx := 23) hX 6 dX1_placeOfTeam_21 rfl (by decide) ?_
      refine g_icmp_ge (nx := 26) hX 93 dX1_placeOfTeam_23 (by decide) rfl (fun h23 => ?_) (fun h23 => ?_)
      · exact absurd ((nI_leI (a := 6) (b := k) (by omega) (by omega)).mp h23) (by omega)
      · refine g_aload_n (nx := 27) hX 0 dX1_placeOfTeam_26 rfl rfl rfl ?_
        refine g_iload (nx := 29) hX 7 dX1_placeOfTeam_27 rfl rfl ?_
        refine g_V1 (nx := 32) hX dX1_placeOfTeam_29 rfl mX1_131 yX1_teamSum_ok (c_X1_teamSum hn hr) (ga_dn hn rfl) rfl rfl rfl (by decide) rfl (Nat.le_of_ble_eq_true rfl) (Nat.le_of_ble_eq_true rfl) ?_
        rintro _ _ ⟨rfl, rfl⟩
        refine g_lstore (nx := 34) hX 8 dX1_placeOfTeam_32 rfl rfl ?_
        refine g_lload (nx := 36) hX 8 dX1_placeOfTeam_34 rfl rfl ?_
        refine g_lload_n (nx := 37) hX 2 dX1_placeOfTeam_36 rfl rfl rfl ?_
        refine g_lcmp (nx := 38) hX dX1_placeOfTeam_37 rfl ?_
        refine g_if_lt (nx := 41) hX 60 dX1_placeOfTeam_38 (by decide) rfl (fun h38 => ?_) (fun h38 => ?_)
        · have hx1 := (lg_cmp_lt _ _).mp h38
          refine g_iconst (nx := 61) hX 1 dX1_placeOfTeam_60 rfl (by decide) ?_
          refine g_goto (nx := 65) hX dX1_placeOfTeam_61 (by decide) ?_
          refine g_istore (nx := 67) hX 10 dX1_placeOfTeam_65 rfl rfl ?_
          exact g_ls (t67 1 ⟨fun z => absurd z (by decide), fun z => absurd (Or.inl hx1) z⟩) ⟨rfl, rfl, rfl, rfl, rfl, rfl, rfl, trivial⟩
        · have hx1 : ¬ p_sum tm sv rn (nI k) < p_sum tm sv rn t := fun z => h38 ((lg_cmp_lt _ _).mpr z)
          refine g_lload (nx := 43) hX 8 dX1_placeOfTeam_41 rfl rfl ?_
          refine g_lload_n (nx := 44) hX 2 dX1_placeOfTeam_43 rfl rfl rfl ?_
          refine g_lcmp (nx := 45) hX dX1_placeOfTeam_44 rfl ?_
          refine g_if_ne (nx := 48) hX 64 dX1_placeOfTeam_45 (by decide) rfl (fun h45 => ?_) (fun h45 => ?_)
          · have hx2 : ¬ p_sum tm sv rn (nI k) = p_sum tm sv rn t := fun z => h45 ((lg_cmp_eq _ _).mpr z)
            refine g_iconst (nx := 65) hX 0 dX1_placeOfTeam_64 rfl (by decide) ?_
            refine g_istore (nx := 67) hX 10 dX1_placeOfTeam_65 rfl rfl ?_
            exact g_ls (t67 0 ⟨fun _ z => z.elim hx1 (fun w => hx2 w.1), fun _ => rfl⟩) ⟨rfl, rfl, rfl, rfl, rfl, rfl, rfl, trivial⟩
          · have hx2 := (lg_cmp_eq _ _).mp h45
            refine g_aload_n (nx := 49) hX 0 dX1_placeOfTeam_48 rfl rfl rfl ?_
            refine g_iload (nx := 51) hX 7 dX1_placeOfTeam_49 rfl rfl ?_
            refine g_V1 (nx := 54) hX dX1_placeOfTeam_51 rfl mX1_135 yX1_leastOfTeam_ok (c_X1_leastOfTeam hn hr) (ga_dn hn rfl) rfl rfl rfl (by decide) rfl (Nat.le_of_ble_eq_true rfl) (Nat.le_of_ble_eq_true rfl) ?_
            rintro _ _ ⟨rfl, rfl⟩
            refine g_lload (nx := 56) hX 4 dX1_placeOfTeam_54 rfl rfl ?_
            refine g_lcmp (nx := 57) hX dX1_placeOfTeam_56 rfl ?_
            refine g_if_ge (nx := 60) hX 64 dX1_placeOfTeam_57 (by decide) rfl (fun h57 => ?_) (fun h57 => ?_)
            · have hx3 := l_len ((lg_cmp_ge _ _).mp h57)
              refine g_iconst (nx := 65) hX 0 dX1_placeOfTeam_64 rfl (by decide) ?_
              refine g_istore (nx := 67) hX 10 dX1_placeOfTeam_65 rfl rfl ?_
              exact g_ls (t67 0 ⟨fun _ z => z.elim hx1 (fun w => hx3 w.2), fun _ => rfl⟩) ⟨rfl, rfl, rfl, rfl, rfl, rfl, rfl, trivial⟩
            · have hx3 := l_nle (fun z => h57 ((lg_cmp_ge _ _).mpr z))
              refine g_iconst (nx := 61) hX 1 dX1_placeOfTeam_60 rfl (by decide) ?_
              refine g_goto (nx := 65) hX dX1_placeOfTeam_61 (by decide) ?_
              refine g_istore (nx := 67) hX 10 dX1_placeOfTeam_65 rfl rfl ?_
              exact g_ls (t67 1 ⟨fun z => absurd z (by decide), fun z => absurd (Or.inr ⟨hx2, hx3⟩) z⟩) ⟨rfl, rfl, rfl, rfl, rfl, rfl, rfl, trivial⟩
  refine g_aload_n (nx := 1) hX 0 dX1_placeOfTeam_0 rfl rfl rfl ?_
  refine g_iload_n (nx := 2) hX 1 dX1_placeOfTeam_1 rfl rfl rfl ?_
  refine g_V1 (nx := 5) hX dX1_placeOfTeam_2 rfl mX1_131 yX1_teamSum_ok (c_X1_teamSum hn hr) (ga_dn hn rfl) rfl rfl rfl (by decide) rfl (Nat.le_of_ble_eq_true rfl) (Nat.le_of_ble_eq_true rfl) ?_
  rintro _ _ ⟨rfl, rfl⟩
  refine g_lstore_n (nx := 6) hX 2 dX1_placeOfTeam_5 rfl rfl rfl ?_
  refine g_aload_n (nx := 7) hX 0 dX1_placeOfTeam_6 rfl rfl rfl ?_
  refine g_iload_n (nx := 8) hX 1 dX1_placeOfTeam_7 rfl rfl rfl ?_
  refine g_V1 (nx := 11) hX dX1_placeOfTeam_8 rfl mX1_135 yX1_leastOfTeam_ok (c_X1_leastOfTeam hn hr) (ga_dn hn rfl) rfl rfl rfl (by decide) rfl (Nat.le_of_ble_eq_true rfl) (Nat.le_of_ble_eq_true rfl) ?_
  rintro _ _ ⟨rfl, rfl⟩
  refine g_lstore (nx := 13) hX 4 dX1_placeOfTeam_11 rfl rfl ?_
  refine g_iconst (nx := 14) hX 1 dX1_placeOfTeam_13 rfl (by decide) ?_
  refine g_istore (nx := 16) hX 6 dX1_placeOfTeam_14 rfl rfl ?_
  refine g_iconst (nx := 17) hX 0 dX1_placeOfTeam_16 rfl (by decide) ?_
  refine g_istore (nx := 19) hX 7 dX1_placeOfTeam_17 rfl rfl ?_
  exact g_ls (loop 6 0 (by omega) (by omega)) ⟨rfl, rfl, rfl, rfl, rfl, rfl, trivial⟩
end
