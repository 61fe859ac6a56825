/-! ===== the reference works the statements ===== -/
def e_mop (c : Nat × Nat) : Nat := if c.1 = 0 then 0 else if c.1 = 1 then (if c.2 < 15 then 1 else 2) else c.1 + 1
def e_mar (c : Nat × Nat) : Nat := if c.1 = 1 ∧ 15 ≤ c.2 then c.2 - 15 else c.2
def e_sg (cd : Nat → Nat × Nat) (sg : Nat → Int32) : Prop := ∀ i, i < 600 → sg (2 * i) = nI (e_mop (cd i)) ∧ sg (2 * i + 1) = nI (e_mar (cd i))
def e_bo (en : Nat → Nat) (sm : Nat) (bo : Nat → Int32) : Prop := ∀ k, k ≤ sm → bo k = nI (e_fr en k)
/-- the values as the reference has them -/
def e_vl (vals : Nat → Int64) (ta : Nat → Int32) (gv : Nat → Int64) (r k : Nat) : Prop := (∀ j, j < 15 → (ta j).toInt64 = vals j) ∧ ∀ i, i < k → gv (24 * r + i) = vals (15 + i)
theorem ix_2 {i : Nat} : 2 * nI i = nI (2 * i) := pk_mul 2 i
theorem ix_21 {i : Nat} : 2 * nI i + 1 = nI (2 * i + 1) := by rw [ix_2, nI_1]
theorem ix_24 {r i : Nat} : 24 * nI r + nI i = nI (24 * r + i) := by rw [show (24 : Int32) * nI r = nI (24 * r) from pk_mul 24 r, nI_add]
section
variable {E : ga_E} {X : ga_X} {n : Nat} {c0 c1 c2 c3 c4 c5 c6 c7 c8 c9 c10 c11 c12 c13 c14 c15 c16 c17 c18 c19 c20 c21 c22 c23 c24 c25 c26 c27 c28 c29 c30 m79 m80 m81 m82 m83 m84 m85 m86 m87 m88 m89 m90 m91 m92 m93 m94 m95 m96 m97 m98 m99 m100 m101 m102 m103 m104 m105 : ga_C} {L1 L2 : List ga_C} {f : Nat → ga_C} {o_tp o_rd o_fe o_em o_sp o_ac o_td o_sm o_tt o_at o_sz o_fk o_fp o_nw o_md o_nt o_pl o_op d_at d_tk d_ta d_fd d_fa : Int32} {d_tv : Int64} {d_rl : Value}
variable {em sp ask tt_ : Int32} {rn fn an sm r q t : Nat} {tm mt ou ah mw mq mf ma mb ms_ ta af fo bo sg io : Nat → Int32} {hp gv : Nat → Int64}
variable {cd : Nat → Nat × Nat} {en : Nat → Nat} {vals : Nat → Int64}
set_option maxHeartbeats 4000000 in
theorem wk_step {d mc ms k k1 k2 i dp : Nat} {o5 o6 : Option Value} (hX : ga_B E d yX11_works cX11_works 7 mc ms X) (hd1 : 2 ≤ d) (hn : 106 ≤ n) (hr : r < 24) (hc : e_ok1 (k1, k2) dp) (hpb : e_pb (dp, hp)) (hi : i < 600) (h1 : sg (2 * i) = nI (e_mop (k1, k2))) (h2 : sg (2 * i + 1) = nI (e_mar (k1, k2))) (hv : e_vl vals ta gv r k) (hk : k ≤ 24) (hlt : k1 = 1 → k2 < 15 + k)
    (kont : ga_G E X 0 0 178 [some (.ref 79), some (.int (nI r)), some (.int (nI k)), some (.int (nI (e_stp vals (k1, k2) (dp, hp)).1)), some (.int (nI i)), none, none] [] (n, L1, ((m_O o_tp (nI rn) (nI fn) (em) (sp) (nI an) (ask) (nI sm) (tt_) o_at o_sz o_fk o_fp o_nw o_md o_nt o_pl o_op) :: m80 :: ga_i 24 tm :: ga_i 30 mt :: ga_i 30 ou :: ga_i 32 ah :: ga_i 401 mw :: ga_i 401 mq :: ga_i 401 mf :: ga_i 401 ma :: ga_i 401 mb :: ga_i 401 ms_ :: ga_i 18 ta :: ga_i 120 af :: ga_i 24 fo :: ga_i 25 bo :: ga_i 1300 sg :: m96 :: m97 :: m98 :: m99 :: m100 :: m101 :: m102 :: ga_l 310 (e_stp vals (k1, k2) (dp, hp)).2 :: ga_l 576 gv :: ga_z 24 io :: []), f)) :
    ga_G E X 0 0 23 [some (.ref 79), some (.int (nI r)), some (.int (nI k)), some (.int (nI dp)), some (.int (nI i)), o5, o6] [] (n, L1, ((m_O o_tp (nI rn) (nI fn) (em) (sp) (nI an) (ask) (nI sm) (tt_) o_at o_sz o_fk o_fp o_nw o_md o_nt o_pl o_op) :: m80 :: ga_i 24 tm :: ga_i 30 mt :: ga_i 30 ou :: ga_i 32 ah :: ga_i 401 mw :: ga_i 401 mq :: ga_i 401 mf :: ga_i 401 ma :: ga_i 401 mb :: ga_i 401 ms_ :: ga_i 18 ta :: ga_i 120 af :: ga_i 24 fo :: ga_i 25 bo :: ga_i 1300 sg :: m96 :: m97 :: m98 :: m99 :: m100 :: m101 :: m102 :: ga_l 310 hp :: ga_l 576 gv :: ga_z 24 io :: []), f) := by
  rcases hc with ⟨h0, g1, g2⟩ | ⟨h0, g1, g2⟩ | ⟨h0, g1, g2, g3⟩ | ⟨h0, g1, g2⟩
  · -- a number
    dsimp only at h0 g2
    subst h0
    rw [show e_mop (0, k2) = 0 from rfl] at h1
    rw [show e_mar (0, k2) = k2 from rfl] at h2
    refine g_aload_n (nx := 24) hX 0 dX11_works_23 rfl rfl rfl ?_
    refine g_getfield (nx := 27) hX dX11_works_24 rfl fX11_80 (ga_dn hn rfl) rfl rfl ?_
    refine g_iconst (nx := 28) hX 2 dX11_works_27 rfl (by decide) ?_
    refine g_iload (nx := 30) hX 4 dX11_works_28 rfl rfl ?_
    refine g_imul (nx := 31) hX dX11_works_30 rfl ?_
    refine g_iaload (nx := 32) hX dX11_works_31 rfl (ga_dn hn rfl) rfl (ga_ix_of (j := 2 * i) ix_2 (by omega) (by omega)) ?_
    rw [h1]
    refine g_istore (nx := 34) hX 5 dX11_works_32 rfl rfl ?_
    refine g_aload_n (nx := 35) hX 0 dX11_works_34 rfl rfl rfl ?_
    refine g_getfield (nx := 38) hX dX11_works_35 rfl fX11_80 (ga_dn hn rfl) rfl rfl ?_
    refine g_iconst (nx := 39) hX 2 dX11_works_38 rfl (by decide) ?_
    refine g_iload (nx := 41) hX 4 dX11_works_39 rfl rfl ?_
    refine g_imul (nx := 42) hX dX11_works_41 rfl ?_
    refine g_iconst (nx := 43) hX 1 dX11_works_42 rfl (by decide) ?_
    refine g_iadd (nx := 44) hX dX11_works_43 rfl ?_
    refine g_iaload (nx := 45) hX dX11_works_44 rfl (ga_dn hn rfl) rfl (ga_ix_of (j := 2 * i + 1) ix_21 (by omega) (by omega)) ?_
    rw [h2]
    refine g_istore (nx := 47) hX 6 dX11_works_45 rfl rfl ?_
    refine g_iload (nx := 49) hX 5 dX11_works_47 rfl rfl ?_
    refine g_if_eq (nx := 52) hX 64 dX11_works_49 (by decide) rfl (fun h => ?_) (fun h => absurd h (by decide))
    refine g_aload_n (nx := 65) hX 0 dX11_works_64 rfl rfl rfl ?_
    refine g_getfield (nx := 68) hX dX11_works_65 rfl fX11_135 (ga_dn hn rfl) rfl rfl ?_
    refine g_iload_n (nx := 69) hX 3 dX11_works_68 rfl rfl rfl ?_
    refine g_iload (nx := 71) hX 5 dX11_works_69 rfl rfl ?_
    refine g_if_ne (nx := 74) hX 80 dX11_works_71 (by decide) rfl (fun h => absurd h (by decide)) (fun h => ?_)
    refine g_iload (nx := 76) hX 6 dX11_works_74 rfl rfl ?_
    refine g_i2l (nx := 77) hX dX11_works_76 rfl ?_
    refine g_goto (nx := 109) hX dX11_works_77 (by decide) ?_
    rw [nI_l (by omega)]
    refine g_lastore (nx := 110) hX dX11_works_109 rfl (ga_dn hn rfl) rfl (ga_ix_of (j := dp) rfl (by omega) (by omega)) ?_
    refine g_iinc (nx := 113) hX 3 (nI (dp + 1)) dX11_works_110 rfl rfl rfl (nI_1 dp) ?_
    refine g_goto (nx := 178) hX dX11_works_113 (by decide) ?_
    exact g_ls kont ⟨rfl, rfl, rfl, rfl, rfl, trivial⟩
  · -- a value
    dsimp only at h0 g2
    subst h0
    have hl := hlt rfl
    by_cases h15 : k2 < 15
    · -- a count
      rw [show e_mop (1, k2) = 1 by unfold e_mop; simp [h15]] at h1
      rw [show e_mar (1, k2) = k2 by unfold e_mar; rw [if_neg (by simp; omega)]] at h2
      refine g_aload_n (nx := 24) hX 0 dX11_works_23 rfl rfl rfl ?_
      refine g_getfield (nx := 27) hX dX11_works_24 rfl fX11_80 (ga_dn hn rfl) rfl rfl ?_
      refine g_iconst (nx := 28) hX 2 dX11_works_27 rfl (by decide) ?_
      refine g_iload (nx := 30) hX 4 dX11_works_28 rfl rfl ?_
      refine g_imul (nx := 31) hX dX11_works_30 rfl ?_
      refine g_iaload (nx := 32) hX dX11_works_31 rfl (ga_dn hn rfl) rfl (ga_ix_of (j := 2 * i) ix_2 (by omega) (by omega)) ?_
      rw [h1]
      refine g_istore (nx := 34) hX 5 dX11_works_32 rfl rfl ?_
      refine g_aload_n (nx := 35) hX 0 dX11_works_34 rfl rfl rfl ?_
      refine g_getfield (nx := 38) hX dX11_works_35 rfl fX11_80 (ga_dn hn rfl) rfl rfl ?_
      refine g_iconst (nx := 39) hX 2 dX11_works_38 rfl (by decide) ?_
      refine g_iload (nx := 41) hX 4 dX11_works_39 rfl rfl ?_
      refine g_imul (nx := 42) hX dX11_works_41 rfl ?_
      refine g_iconst (nx := 43) hX 1 dX11_works_42 rfl (by decide) ?_
      refine g_iadd (nx := 44) hX dX11_works_43 rfl ?_
      refine g_iaload (nx := 45) hX dX11_works_44 rfl (ga_dn hn rfl) rfl (ga_ix_of (j := 2 * i + 1) ix_21 (by omega) (by omega)) ?_
      rw [h2]
      refine g_istore (nx := 47) hX 6 dX11_works_45 rfl rfl ?_
      refine g_iload (nx := 49) hX 5 dX11_works_47 rfl rfl ?_
      refine g_if_eq (nx := 52) hX 64 dX11_works_49 (by decide) rfl (fun h => absurd h (by decide)) (fun h => ?_)
      refine g_iload (nx := 54) hX 5 dX11_works_52 rfl rfl ?_
      refine g_iconst (nx := 55) hX 1 dX11_works_54 rfl (by decide) ?_
      refine g_icmp_eq (nx := 58) hX 64 dX11_works_55 (by decide) rfl (fun h => ?_) (fun h => absurd h (by decide))
      refine g_aload_n (nx := 65) hX 0 dX11_works_64 rfl rfl rfl ?_
      refine g_getfield (nx := 68) hX dX11_works_65 rfl fX11_135 (ga_dn hn rfl) rfl rfl ?_
      refine g_iload_n (nx := 69) hX 3 dX11_works_68 rfl rfl rfl ?_
      refine g_iload (nx := 71) hX 5 dX11_works_69 rfl rfl ?_
      refine g_if_ne (nx := 74) hX 80 dX11_works_71 (by decide) rfl (fun h => ?_) (fun h => absurd h (by decide))
      refine g_iload (nx := 82) hX 5 dX11_works_80 rfl rfl ?_
      refine g_iconst (nx := 83) hX 1 dX11_works_82 rfl (by decide) ?_
      refine g_icmp_ne (nx := 86) hX 97 dX11_works_83 (by decide) rfl (fun h => absurd h (by decide)) (fun h => ?_)
      refine g_aload_n (nx := 87) hX 0 dX11_works_86 rfl rfl rfl ?_
      refine g_getfield (nx := 90) hX dX11_works_87 rfl fX11_65 (ga_dn hn rfl) rfl rfl ?_
      refine g_iload (nx := 92) hX 6 dX11_works_90 rfl rfl ?_
      refine g_iaload (nx := 93) hX dX11_works_92 rfl (ga_dn hn rfl) rfl (ga_ix_of (j := k2) rfl (by omega) (by omega)) ?_
      refine g_i2l (nx := 94) hX dX11_works_93 rfl ?_
      refine g_goto (nx := 109) hX dX11_works_94 (by decide) ?_
      rw [hv.1 k2 h15]
      refine g_lastore (nx := 110) hX dX11_works_109 rfl (ga_dn hn rfl) rfl (ga_ix_of (j := dp) rfl (by omega) (by omega)) ?_
      refine g_iinc (nx := 113) hX 3 (nI (dp + 1)) dX11_works_110 rfl rfl rfl (nI_1 dp) ?_
      refine g_goto (nx := 178) hX dX11_works_113 (by decide) ?_
      exact g_ls kont ⟨rfl, rfl, rfl, rfl, rfl, trivial⟩
    · -- what a statement gave
      rw [show e_mop (1, k2) = 2 by unfold e_mop; simp [h15]] at h1
      rw [show e_mar (1, k2) = k2 - 15 by unfold e_mar; rw [if_pos ⟨rfl, by omega⟩]] at h2
      have hg := hv.2 (k2 - 15) (by omega)
      rw [show 15 + (k2 - 15) = k2 by omega] at hg
      refine g_aload_n (nx := 24) hX 0 dX11_works_23 rfl rfl rfl ?_
      refine g_getfield (nx := 27) hX dX11_works_24 rfl fX11_80 (ga_dn hn rfl) rfl rfl ?_
      refine g_iconst (nx := 28) hX 2 dX11_works_27 rfl (by decide) ?_
      refine g_iload (nx := 30) hX 4 dX11_works_28 rfl rfl ?_
      refine g_imul (nx := 31) hX dX11_works_30 rfl ?_
      refine g_iaload (nx := 32) hX dX11_works_31 rfl (ga_dn hn rfl) rfl (ga_ix_of (j := 2 * i) ix_2 (by omega) (by omega)) ?_
      rw [h1]
      refine g_istore (nx := 34) hX 5 dX11_works_32 rfl rfl ?_
      refine g_aload_n (nx := 35) hX 0 dX11_works_34 rfl rfl rfl ?_
      refine g_getfield (nx := 38) hX dX11_works_35 rfl fX11_80 (ga_dn hn rfl) rfl rfl ?_
      refine g_iconst (nx := 39) hX 2 dX11_works_38 rfl (by decide) ?_
      refine g_iload (nx := 41) hX 4 dX11_works_39 rfl rfl ?_
      refine g_imul (nx := 42) hX dX11_works_41 rfl ?_
      refine g_iconst (nx := 43) hX 1 dX11_works_42 rfl (by decide) ?_
      refine g_iadd (nx := 44) hX dX11_works_43 rfl ?_
      refine g_iaload (nx := 45) hX dX11_works_44 rfl (ga_dn hn rfl) rfl (ga_ix_of (j := 2 * i + 1) ix_21 (by omega) (by omega)) ?_
      rw [h2]
      refine g_istore (nx := 47) hX 6 dX11_works_45 rfl rfl ?_
      refine g_iload (nx := 49) hX 5 dX11_works_47 rfl rfl ?_
      refine g_if_eq (nx := 52) hX 64 dX11_works_49 (by decide) rfl (fun h => absurd h (by decide)) (fun h => ?_)
      refine g_iload (nx := 54) hX 5 dX11_works_52 rfl rfl ?_
      refine g_iconst (nx := 55) hX 1 dX11_works_54 rfl (by decide) ?_
      refine g_icmp_eq (nx := 58) hX 64 dX11_works_55 (by decide) rfl (fun h => absurd h (by decide)) (fun h => ?_)
      refine g_iload (nx := 60) hX 5 dX11_works_58 rfl rfl ?_
      refine g_iconst (nx := 61) hX 2 dX11_works_60 rfl (by decide) ?_
      refine g_icmp_ne (nx := 64) hX 116 dX11_works_61 (by decide) rfl (fun h => absurd h (by decide)) (fun h => ?_)
      refine g_aload_n (nx := 65) hX 0 dX11_works_64 rfl rfl rfl ?_
      refine g_getfield (nx := 68) hX dX11_works_65 rfl fX11_135 (ga_dn hn rfl) rfl rfl ?_
      refine g_iload_n (nx := 69) hX 3 dX11_works_68 rfl rfl rfl ?_
      refine g_iload (nx := 71) hX 5 dX11_works_69 rfl rfl ?_
      refine g_if_ne (nx := 74) hX 80 dX11_works_71 (by decide) rfl (fun h => ?_) (fun h => absurd h (by decide))
      refine g_iload (nx := 82) hX 5 dX11_works_80 rfl rfl ?_
      refine g_iconst (nx := 83) hX 1 dX11_works_82 rfl (by decide) ?_
      refine g_icmp_ne (nx := 86) hX 97 dX11_works_83 (by decide) rfl (fun h => ?_) (fun h => absurd h (by decide))
      refine g_aload_n (nx := 98) hX 0 dX11_works_97 rfl rfl rfl ?_
      refine g_getfield (nx := 101) hX dX11_works_98 rfl fX11_139 (ga_dn hn rfl) rfl rfl ?_
      refine g_bipush (nx := 103) hX 24 dX11_works_101 rfl (by decide) ?_
      refine g_iload_n (nx := 104) hX 1 dX11_works_103 rfl rfl rfl ?_
      refine g_imul (nx := 105) hX dX11_works_104 rfl ?_
      refine g_iload (nx := 107) hX 6 dX11_works_105 rfl rfl ?_
      refine g_iadd (nx := 108) hX dX11_works_107 rfl ?_
      refine g_laload (nx := 109) hX dX11_works_108 rfl (ga_dn hn rfl) rfl (ga_ix_of (j := 24 * r + (k2 - 15)) ix_24 (by omega) (by omega)) ?_
      rw [hg]
      refine g_lastore (nx := 110) hX dX11_works_109 rfl (ga_dn hn rfl) rfl (ga_ix_of (j := dp) rfl (by omega) (by omega)) ?_
      refine g_iinc (nx := 113) hX 3 (nI (dp + 1)) dX11_works_110 rfl rfl rfl (nI_1 dp) ?_
      refine g_goto (nx := 178) hX dX11_works_113 (by decide) ?_
      exact g_ls kont ⟨rfl, rfl, rfl, rfl, rfl, trivial⟩
  · -- a quotient
    dsimp only at h0 g2 g3
    subst h0
    rw [show e_mop (5, k2) = 6 from rfl] at h1
    rw [show e_mar (5, k2) = k2 from rfl] at h2
    have e1 : nI dp - 1 = nI (dp - 1) := by have := pk_sub (a := dp) (b := 1) g1.1; exact this
    refine g_aload_n (nx := 24) hX 0 dX11_works_23 rfl rfl rfl ?_
    refine g_getfield (nx := 27) hX dX11_works_24 rfl fX11_80 (ga_dn hn rfl) rfl rfl ?_
    refine g_iconst (nx := 28) hX 2 dX11_works_27 rfl (by decide) ?_
    refine g_iload (nx := 30) hX 4 dX11_works_28 rfl rfl ?_
    refine g_imul (nx := 31) hX dX11_works_30 rfl ?_
    refine g_iaload (nx := 32) hX dX11_works_31 rfl (ga_dn hn rfl) rfl (ga_ix_of (j := 2 * i) ix_2 (by omega) (by omega)) ?_
    rw [h1]
    refine g_istore (nx := 34) hX 5 dX11_works_32 rfl rfl ?_
    refine g_aload_n (nx := 35) hX 0 dX11_works_34 rfl rfl rfl ?_
    refine g_getfield (nx := 38) hX dX11_works_35 rfl fX11_80 (ga_dn hn rfl) rfl rfl ?_
    refine g_iconst (nx := 39) hX 2 dX11_works_38 rfl (by decide) ?_
    refine g_iload (nx := 41) hX 4 dX11_works_39 rfl rfl ?_
    refine g_imul (nx := 42) hX dX11_works_41 rfl ?_
    refine g_iconst (nx := 43) hX 1 dX11_works_42 rfl (by decide) ?_
    refine g_iadd (nx := 44) hX dX11_works_43 rfl ?_
    refine g_iaload (nx := 45) hX dX11_works_44 rfl (ga_dn hn rfl) rfl (ga_ix_of (j := 2 * i + 1) ix_21 (by omega) (by omega)) ?_
    rw [h2]
    refine g_istore (nx := 47) hX 6 dX11_works_45 rfl rfl ?_
    refine g_iload (nx := 49) hX 5 dX11_works_47 rfl rfl ?_
    refine g_if_eq (nx := 52) hX 64 dX11_works_49 (by decide) rfl (fun h => absurd h (by decide)) (fun h => ?_)
    refine g_iload (nx := 54) hX 5 dX11_works_52 rfl rfl ?_
    refine g_iconst (nx := 55) hX 1 dX11_works_54 rfl (by decide) ?_
    refine g_icmp_eq (nx := 58) hX 64 dX11_works_55 (by decide) rfl (fun h => absurd h (by decide)) (fun h => ?_)
    refine g_iload (nx := 60) hX 5 dX11_works_58 rfl rfl ?_
    refine g_iconst (nx := 61) hX 2 dX11_works_60 rfl (by decide) ?_
    refine g_icmp_ne (nx := 64) hX 116 dX11_works_61 (by decide) rfl (fun h => ?_) (fun h => absurd h (by decide))
    refine g_iload (nx := 118) hX 5 dX11_works_116 rfl rfl ?_
    refine g_bipush (nx := 120) hX 6 dX11_works_118 rfl (by decide) ?_
    refine g_icmp_ne (nx := 123) hX 148 dX11_works_120 (by decide) rfl (fun h => absurd h (by decide)) (fun h => ?_)
    refine g_aload_n (nx := 124) hX 0 dX11_works_123 rfl rfl rfl ?_
    refine g_getfield (nx := 127) hX dX11_works_124 rfl fX11_135 (ga_dn hn rfl) rfl rfl ?_
    refine g_iload_n (nx := 128) hX 3 dX11_works_127 rfl rfl rfl ?_
    refine g_iconst (nx := 129) hX 1 dX11_works_128 rfl (by decide) ?_
    refine g_isub (nx := 130) hX dX11_works_129 rfl ?_
    refine g_aload_n (nx := 131) hX 0 dX11_works_130 rfl rfl rfl ?_
    refine g_getfield (nx := 134) hX dX11_works_131 rfl fX11_135 (ga_dn hn rfl) rfl rfl ?_
    refine g_iload_n (nx := 135) hX 3 dX11_works_134 rfl rfl rfl ?_
    refine g_iconst (nx := 136) hX 1 dX11_works_135 rfl (by decide) ?_
    refine g_isub (nx := 137) hX dX11_works_136 rfl ?_
    refine g_laload (nx := 138) hX dX11_works_137 rfl (ga_dn hn rfl) rfl (ga_ix_of (j := dp - 1) e1 (by omega) (by omega)) ?_
    refine g_iload (nx := 140) hX 6 dX11_works_138 rfl rfl ?_
    refine g_i2l (nx := 141) hX dX11_works_140 rfl ?_
    rw [nI_l (by omega)]
    refine g_S2 (nx := 144) hX dX11_works_141 rfl mX11_307 yX11_over_ok (c_X11_over g2 (by omega)) (by omega) rfl (Nat.le_of_ble_eq_true rfl) (Nat.le_of_ble_eq_true rfl) ?_
    rintro _ _ ⟨rfl, rfl⟩
    refine g_lastore (nx := 145) hX dX11_works_144 rfl (ga_dn hn rfl) rfl (ga_ix_of (j := dp - 1) e1 (by omega) (by omega)) ?_
    refine g_goto (nx := 178) hX dX11_works_145 (by decide) ?_
    exact g_ls kont ⟨rfl, rfl, rfl, rfl, rfl, trivial⟩
  · -- two numbers joined
    dsimp only at h0
    have b1 := hpb (dp - 1) (by dsimp only; omega)
    have b2 := hpb (dp - 2) (by dsimp only; omega)
    dsimp only at b1 b2
    have e1 : nI dp + (-1) = nI (dp - 1) := by have := pk_sub (a := dp) (b := 1) (by omega); rw [← this, Int32.sub_eq_add_neg]; rfl
    have e2 : nI (dp - 1) - 1 = nI (dp - 2) := by have := pk_sub (a := dp - 1) (b := 1) (by omega); exact this
    have hop := h0
    have hne : k1 ≠ 0 ∧ k1 ≠ 1 ∧ k1 ≠ 5 := by unfold e_op at h0; omega
    have key : e_stp vals (k1, k2) (dp, hp) = (dp - 1, vp_updL hp (dp - 2) (e_two k1 (hp (dp - 2)) (hp (dp - 1)))) := by
      unfold e_stp
      dsimp only
      rw [if_neg hne.1, if_neg hne.2.1, if_neg hne.2.2]
    rw [key] at kont
    rw [show e_mop (k1, k2) = k1 + 1 by unfold e_mop; rw [if_neg hne.1, if_neg hne.2.1]] at h1
    have q0 : ¬ nI (k1 + 1) = 0 := fun z => by have := nI_inj (b := 0) z (by unfold e_op at h0; omega) (by omega); omega
    have q1 : ¬ nI (k1 + 1) = 1 := fun z => by have := nI_inj (b := 1) z (by unfold e_op at h0; omega) (by omega); omega
    have q2 : ¬ nI (k1 + 1) = 2 := fun z => by have := nI_inj (b := 2) z (by unfold e_op at h0; omega) (by omega); unfold e_op at h0; omega
    have q6 : ¬ nI (k1 + 1) = 6 := fun z => by have := nI_inj (b := 6) z (by unfold e_op at h0; omega) (by omega); omega
    refine g_aload_n (nx := 24) hX 0 dX11_works_23 rfl rfl rfl ?_
    refine g_getfield (nx := 27) hX dX11_works_24 rfl fX11_80 (ga_dn hn rfl) rfl rfl ?_
    refine g_iconst (nx := 28) hX 2 dX11_works_27 rfl (by decide) ?_
    refine g_iload (nx := 30) hX 4 dX11_works_28 rfl rfl ?_
    refine g_imul (nx := 31) hX dX11_works_30 rfl ?_
    refine g_iaload (nx := 32) hX dX11_works_31 rfl (ga_dn hn rfl) rfl (ga_ix_of (j := 2 * i) ix_2 (by omega) (by omega)) ?_
    rw [h1]
    refine g_istore (nx := 34) hX 5 dX11_works_32 rfl rfl ?_
    refine g_aload_n (nx := 35) hX 0 dX11_works_34 rfl rfl rfl ?_
    refine g_getfield (nx := 38) hX dX11_works_35 rfl fX11_80 (ga_dn hn rfl) rfl rfl ?_
    refine g_iconst (nx := 39) hX 2 dX11_works_38 rfl (by decide) ?_
    refine g_iload (nx := 41) hX 4 dX11_works_39 rfl rfl ?_
    refine g_imul (nx := 42) hX dX11_works_41 rfl ?_
    refine g_iconst (nx := 43) hX 1 dX11_works_42 rfl (by decide) ?_
    refine g_iadd (nx := 44) hX dX11_works_43 rfl ?_
    refine g_iaload (nx := 45) hX dX11_works_44 rfl (ga_dn hn rfl) rfl (ga_ix_of (j := 2 * i + 1) ix_21 (by omega) (by omega)) ?_
    refine g_istore (nx := 47) hX 6 dX11_works_45 rfl rfl ?_
    refine g_iload (nx := 49) hX 5 dX11_works_47 rfl rfl ?_
    refine g_if_eq (nx := 52) hX 64 dX11_works_49 (by decide) rfl (fun h49 => ?_) (fun h49 => ?_)
    · exact absurd h49 q0
    · refine g_iload (nx := 54) hX 5 dX11_works_52 rfl rfl ?_
      refine g_iconst (nx := 55) hX 1 dX11_works_54 rfl (by decide) ?_
      refine g_icmp_eq (nx := 58) hX 64 dX11_works_55 (by decide) rfl (fun h55 => ?_) (fun h55 => ?_)
      · exact absurd h55 q1
      · refine g_iload (nx := 60) hX 5 dX11_works_58 rfl rfl ?_
        refine g_iconst (nx := 61) hX 2 dX11_works_60 rfl (by decide) ?_
        refine g_icmp_ne (nx := 64) hX 116 dX11_works_61 (by decide) rfl (fun h61 => ?_) (fun h61 => ?_)
        · refine g_iload (nx := 118) hX 5 dX11_works_116 rfl rfl ?_
          refine g_bipush (nx := 120) hX 6 dX11_works_118 rfl (by decide) ?_
          refine g_icmp_ne (nx := 123) hX 148 dX11_works_120 (by decide) rfl (fun h120 => ?_) (fun h120 => ?_)
          · refine g_iinc (nx := 151) hX 3 (nI (dp - 1)) dX11_works_148 rfl rfl rfl (e1) ?_
            refine g_aload_n (nx := 152) hX 0 dX11_works_151 rfl rfl rfl ?_
            refine g_getfield (nx := 155) hX dX11_works_152 rfl fX11_135 (ga_dn hn rfl) rfl rfl ?_
            refine g_iload_n (nx := 156) hX 3 dX11_works_155 rfl rfl rfl ?_
            refine g_iconst (nx := 157) hX 1 dX11_works_156 rfl (by decide) ?_
            refine g_isub (nx := 158) hX dX11_works_157 rfl ?_
            refine g_iload (nx := 160) hX 5 dX11_works_158 rfl rfl ?_
            refine g_aload_n (nx := 161) hX 0 dX11_works_160 rfl rfl rfl ?_
            refine g_getfield (nx := 164) hX dX11_works_161 rfl fX11_135 (ga_dn hn rfl) rfl rfl ?_
            refine g_iload_n (nx := 165) hX 3 dX11_works_164 rfl rfl rfl ?_
            refine g_iconst (nx := 166) hX 1 dX11_works_165 rfl (by decide) ?_
            refine g_isub (nx := 167) hX dX11_works_166 rfl ?_
            refine g_laload (nx := 168) hX dX11_works_167 rfl (ga_dn hn rfl) rfl (ga_ix_of (j := dp - 2) e2 (by omega) (by omega)) ?_
            refine g_aload_n (nx := 169) hX 0 dX11_works_168 rfl rfl rfl ?_
            refine g_getfield (nx := 172) hX dX11_works_169 rfl fX11_135 (ga_dn hn rfl) rfl rfl ?_
            refine g_iload_n (nx := 173) hX 3 dX11_works_172 rfl rfl rfl ?_
            refine g_laload (nx := 174) hX dX11_works_173 rfl (ga_dn hn rfl) rfl (ga_ix_of (j := dp - 1) rfl (by omega) (by omega)) ?_
            refine g_S3 (nx := 177) hX dX11_works_174 rfl mX11_311 yX11_two_ok (c_X11_two hop b2 b1) (by omega) rfl (Nat.le_of_ble_eq_true rfl) (Nat.le_of_ble_eq_true rfl) ?_
            rintro _ _ ⟨rfl, rfl⟩
            refine g_lastore (nx := 178) hX dX11_works_177 rfl (ga_dn hn rfl) rfl (ga_ix_of (j := dp - 2) e2 (by omega) (by omega)) ?_
            exact g_ls kont ⟨rfl, rfl, rfl, rfl, rfl, trivial⟩
          · exact absurd h120 q6
        · exact absurd h61 q2
theorem c_X11_works {k : Nat} (hn : 106 ≤ n) (hr : r < 24) (hk : k < sm) (hsg : e_sg cd sg) (hbo : e_bo en sm bo) (hR : e_Rok cd en sm) (hv : e_vl vals ta gv r k) (hb : ∀ j, j < 39 → e_bd (vals j)) : ga_Mx E 2 yX11_works cX11_works 7 (some .long) 0 0 [.ref 79, .int (nI r), .int (nI k)] (n, L1, ((m_O o_tp (nI rn) (nI fn) (em) (sp) (nI an) (ask) (nI sm) (tt_) o_at o_sz o_fk o_fp o_nw o_md o_nt o_pl o_op) :: m80 :: ga_i 24 tm :: ga_i 30 mt :: ga_i 30 ou :: ga_i 32 ah :: ga_i 401 mw :: ga_i 401 mq :: ga_i 401 mf :: ga_i 401 ma :: ga_i 401 mb :: ga_i 401 ms_ :: ga_i 18 ta :: ga_i 120 af :: ga_i 24 fo :: ga_i 25 bo :: ga_i 1300 sg :: m96 :: m97 :: m98 :: m99 :: m100 :: m101 :: m102 :: ga_l 310 hp :: ga_l 576 gv :: ga_z 24 io :: []), f) (some (.long (e_val vals cd (e_fr en k) (en k - e_fr en k)))) (n, L1, ((m_O o_tp (nI rn) (nI fn) (em) (sp) (nI an) (ask) (nI sm) (tt_) o_at o_sz o_fk o_fp o_nw o_md o_nt o_pl o_op) :: m80 :: ga_i 24 tm :: ga_i 30 mt :: ga_i 30 ou :: ga_i 32 ah :: ga_i 401 mw :: ga_i 401 mq :: ga_i 401 mf :: ga_i 401 ma :: ga_i 401 mb :: ga_i 401 ms_ :: ga_i 18 ta :: ga_i 120 af :: ga_i 24 fo :: ga_i 25 bo :: ga_i 1300 sg :: m96 :: m97 :: m98 :: m99 :: m100 :: m101 :: m102 :: ga_l 310 (e_run vals cd (e_fr en k) (en k - e_fr en k) (0, hp)).2 :: ga_l 576 gv :: ga_z 24 io :: []), f) := by
  have hs := hR.1
  have ho := hR.2 k hk
  have b1 := hbo k (by omega)
  have b2 := hbo (k + 1) (by omega)
  rw [show e_fr en (k + 1) = en k from rfl] at b2
  have hl := ho.2.2.1
  generalize hL : en k - e_fr en k = len at *
  have hen : en k = e_fr en k + len := by omega
  refine ga_Mt.of (by decide) rfl (fun X hX hP => ?_)
  refine g_less [some (.ref 79), some (.int (nI r)), some (.int (nI k)), none, none, none, none] ⟨rfl, rfl, rfl, trivial⟩ ?_
  have loop : ∀ (m i : Nat), i ≤ len → len - i = m → ga_G E X 0 0 10 [some (.ref 79), some (.int (nI r)), some (.int (nI k)), some (.int (nI (e_d cd (e_fr en k) i))), some (.int (nI (e_fr en k + i))), none, none] [] (n, L1, ((m_O o_tp (nI rn) (nI fn) (em) (sp) (nI an) (ask) (nI sm) (tt_) o_at o_sz o_fk o_fp o_nw o_md o_nt o_pl o_op) :: m80 :: ga_i 24 tm :: ga_i 30 mt :: ga_i 30 ou :: ga_i 32 ah :: ga_i 401 mw :: ga_i 401 mq :: ga_i 401 mf :: ga_i 401 ma :: ga_i 401 mb :: ga_i 401 ms_ :: ga_i 18 ta :: ga_i 120 af :: ga_i 24 fo :: ga_i 25 bo :: ga_i 1300 sg :: m96 :: m97 :: m98 :: m99 :: m100 :: m101 :: m102 :: ga_l 310 (e_run vals cd (e_fr en k) i (0, hp)).2 :: ga_l 576 gv :: ga_z 24 io :: []), f) := by
    intro m
    induction m with
    | zero =>
      intro i h1 h2
      have e : i = len := by omega
      subst e
      refine g_iload (nx := 12) hX 4 dX11_works_10 rfl rfl ?_
      refine g_aload_n (nx := 13) hX 0 dX11_works_12 rfl rfl rfl ?_
      refine g_getfield (nx := 16) hX dX11_works_13 rfl fX11_77 (ga_dn hn rfl) rfl rfl ?_
      refine g_iload_n (nx := 17) hX 2 dX11_works_16 rfl rfl rfl ?_
      refine g_iconst (nx := 18) hX 1 dX11_works_17 rfl (by decide) ?_
      refine g_iadd (nx := 19) hX dX11_works_18 rfl ?_
      refine g_iaload (nx := 20) hX dX11_works_19 rfl (ga_dn hn rfl) rfl (ga_ix_of (j := k + 1) (nI_1 k) (by omega) (by omega)) ?_
      rw [b2, hen]
      refine g_icmp_ge (nx := 23) hX 184 dX11_works_20 (by decide) rfl (fun h20 => ?_) (fun h20 => ?_)
      · refine g_aload_n (nx := 185) hX 0 dX11_works_184 rfl rfl rfl ?_
        refine g_getfield (nx := 188) hX dX11_works_185 rfl fX11_135 (ga_dn hn rfl) rfl rfl ?_
        refine g_iconst (nx := 189) hX 0 dX11_works_188 rfl (by decide) ?_
        refine g_laload (nx := 190) hX dX11_works_189 rfl (ga_dn hn rfl) rfl (ga_ix_of (j := 0) rfl (by decide) (by decide)) ?_
        exact g_lreturn hX hP dX11_works_190 (Nat.le_of_ble_eq_true rfl) (Nat.le_of_ble_eq_true rfl) ⟨by rw [e_val_any hl hp], rfl⟩
      · exact absurd (nI_le (Nat.le_refl _) (by omega)) h20
    | succ m ih =>
      intro i h1 h2
      have ih1 := ih (i + 1) (by omega) (by omega)
      rw [← e_run_d vals cd (e_fr en k) hp (i + 1), e_run] at ih1
      have ok1 := hl.1 i (by omega)
      have pb := e_run_pb (s := hp) hb i (fun i' hi' => hl.1 i' (by omega))
      have ed := e_run_d vals cd (e_fr en k) hp i
      have hcr := hsg (e_fr en k + i) (by omega)
      have har : (cd (e_fr en k + i)).1 = 1 → (cd (e_fr en k + i)).2 < 15 + k := ho.2.2.2 (e_fr en k + i) (by omega) (by omega)
      revert ih1 ok1 pb ed hcr har
      generalize e_run vals cd (e_fr en k) i (0, hp) = z
      generalize e_d cd (e_fr en k) i = dk
      generalize cd (e_fr en k + i) = cc
      obtain ⟨zd, zs⟩ := z
      obtain ⟨k1, k2⟩ := cc
      intro ih1 ok1 pb ed hcr har
      dsimp only at ed har
      subst ed
      have nxt : ga_G E X 0 0 178 [some (.ref 79), some (.int (nI r)), some (.int (nI k)), some (.int (nI (e_stp vals (k1, k2) (zd, zs)).1)), some (.int (nI (e_fr en k + i))), none, none] [] (n, L1, ((m_O o_tp (nI rn) (nI fn) (em) (sp) (nI an) (ask) (nI sm) (tt_) o_at o_sz o_fk o_fp o_nw o_md o_nt o_pl o_op) :: m80 :: ga_i 24 tm :: ga_i 30 mt :: ga_i 30 ou :: ga_i 32 ah :: ga_i 401 mw :: ga_i 401 mq :: ga_i 401 mf :: ga_i 401 ma :: ga_i 401 mb :: ga_i 401 ms_ :: ga_i 18 ta :: ga_i 120 af :: ga_i 24 fo :: ga_i 25 bo :: ga_i 1300 sg :: m96 :: m97 :: m98 :: m99 :: m100 :: m101 :: m102 :: ga_l 310 (e_stp vals (k1, k2) (zd, zs)).2 :: ga_l 576 gv :: ga_z 24 io :: []), f) := by
        refine g_iinc (nx := 181) hX 4 (nI (e_fr en k + (i + 1))) dX11_works_178 rfl rfl rfl (nI_1 (e_fr en k + i)) ?_
        refine g_goto (nx := 10) hX dX11_works_181 (by decide) ?_
        exact g_ls ih1 ⟨rfl, rfl, rfl, rfl, rfl, trivial⟩
      refine g_iload (nx := 12) hX 4 dX11_works_10 rfl rfl ?_
      refine g_aload_n (nx := 13) hX 0 dX11_works_12 rfl rfl rfl ?_
      refine g_getfield (nx := 16) hX dX11_works_13 rfl fX11_77 (ga_dn hn rfl) rfl rfl ?_
      refine g_iload_n (nx := 17) hX 2 dX11_works_16 rfl rfl rfl ?_
      refine g_iconst (nx := 18) hX 1 dX11_works_17 rfl (by decide) ?_
      refine g_iadd (nx := 19) hX dX11_works_18 rfl ?_
      refine g_iaload (nx := 20) hX dX11_works_19 rfl (ga_dn hn rfl) rfl (ga_ix_of (j := k + 1) (nI_1 k) (by omega) (by omega)) ?_
      rw [b2, hen]
      refine g_icmp_ge (nx := 23) hX 184 dX11_works_20 (by decide) rfl (fun h20 => ?_) (fun h20 => ?_)
      · exact absurd ((nI_leI (by omega) (by omega)).mp h20) (by omega)
      · exact wk_step hX (by decide) hn hr ok1 pb (by omega) hcr.1 hcr.2 hv (by omega) har nxt
  refine g_iconst (nx := 1) hX 0 dX11_works_0 rfl (by decide) ?_
  refine g_istore_n (nx := 2) hX 3 dX11_works_1 rfl rfl rfl ?_
  refine g_aload_n (nx := 3) hX 0 dX11_works_2 rfl rfl rfl ?_
  refine g_getfield (nx := 6) hX dX11_works_3 rfl fX11_77 (ga_dn hn rfl) rfl rfl ?_
  refine g_iload_n (nx := 7) hX 2 dX11_works_6 rfl rfl rfl ?_
  refine g_iaload (nx := 8) hX dX11_works_7 rfl (ga_dn hn rfl) rfl (ga_ix_of (j := k) rfl (by omega) (by omega)) ?_
  rw [b1]
  refine g_istore (nx := 10) hX 4 dX11_works_8 rfl rfl ?_
  exact g_ls (loop len 0 (by omega) (by omega)) ⟨rfl, rfl, rfl, rfl, rfl, trivial⟩
end
