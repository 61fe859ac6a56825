/-! ===== the law: rules() ===== -/
section
variable {E : ga_E} {X : ga_X} {d mc ms kc ks L k : Nat} {xs : Nat → Int32} {lnm lds : String}
variable {lt rn fn an sm ka : Nat} {ask fm em sp op top size tot tt_ hd fd fa x1 x2 x3 u1 u2 u3 u4 v1 v2 v3 v4 v5 v6 v7 : Int32} {x4 : Int64} {rl : Value} {tb tm sz ah ou st_ od eo fo fo2 se mt mw mq mf ma mb ms_ ta af bo sg io t1 t2 t3 t4 n1 n2 n3 n4 n5 n6 n7 : Nat → Int32} {nm s t5 hp gv : Nat → Int64} {ol nw : Nat → Option Nat} {sv : Nat → sh_S} {av : Nat → a_S} {cd cd2 : Nat → Nat × Nat} {en : Nat → Nat}
theorem sw_cells {w1 w2 w3 w4 : Int32} (hol : ∀ r q, ol r = some q → 27 ≤ q) (hnw : ∀ r q, nw r = some q → 27 ≤ q) (hnx : ∀ k, 1 ≤ k → k ≤ an → ∀ q, a_nx (av k) = some q → 27 ≤ q) : ∀ a, a < an + 106 → ga_e (E_sw E) (ga_get (an + 106, (k_0 ask :: k_T lt :: ga_i 600 tb :: k_R rn :: ga_i 24 tm :: ga_i 6 sz :: k_C fm em sp fn op :: ga_i 32 ah :: ga_i 30 ou :: k_L an :: ga_r 4 401 (l_w an) :: ga_r 4 24 ol :: ga_r 4 24 nw :: k_D (.ref 15) x1 x2 x3 x4 fd fa :: ga_l 39 nm :: k_U 15 u1 u2 u3 u4 :: ga_i 600 t1 :: ga_i 600 t2 :: ga_i 24 t3 :: ga_i 24 t4 :: ga_l 32 t5 :: k_U 21 top size tot (nI sm) :: ga_i 600 st_ :: ga_i 600 od :: ga_i 24 eo :: ga_i 24 fo :: ga_l 32 s :: k_B ka :: ga_r 3 24 b_w :: k_Y hd :: ga_i 120 se :: []), ((m_O (w2) (nI rn) (nI fn) (em) (sp) (nI an) (ask) (w1) (tt_) (v1) (v2) (w3) (w4) (v3) (v4) (v5) (v6) (v7)) :: ga_i 600 tb :: ga_i 24 tm :: ga_i 30 mt :: ga_i 30 ou :: ga_i 32 ah :: ga_i 401 mw :: ga_i 401 mq :: ga_i 401 mf :: ga_i 401 ma :: ga_i 401 mb :: ga_i 401 ms_ :: ga_i 18 ta :: ga_i 120 af :: ga_i 24 fo2 :: ga_i 25 bo :: ga_i 1300 sg :: ga_i 25 n1 :: ga_i 26 n2 :: ga_i 1300 n3 :: ga_i 250 n4 :: ga_i 25 n5 :: ga_i 40 n6 :: ga_z 40 n7 :: ga_l 310 hp :: ga_l 576 gv :: ga_z 24 io :: []), sh_f sv (a_f av)) a) = ga_e E (ga_get (an + 106, (k_0s ask :: k_T lt :: ga_i 600 tb :: k_R rn :: ga_i 24 tm :: ga_i 6 sz :: k_C fm em sp fn op :: ga_i 32 ah :: ga_i 30 ou :: k_L an :: ga_r 4 401 (l_w an) :: ga_r 4 24 ol :: ga_r 4 24 nw :: k_D (.ref 21) x1 x2 x3 x4 fd fa :: ga_l 39 nm :: k_U 15 top size tot (nI sm) :: ga_i 600 st_ :: ga_i 600 od :: ga_i 24 eo :: ga_i 24 fo :: ga_l 32 s :: k_U 21 u1 u2 u3 u4 :: ga_i 600 t1 :: ga_i 600 t2 :: ga_i 24 t3 :: ga_i 24 t4 :: ga_l 32 t5 :: k_Br (.ref 21) ka :: ga_r 3 24 b_w :: k_Y hd :: ga_i 120 se :: []), ((m_O (w2) (nI rn) (nI fn) (em) (sp) (nI an) (ask) (w1) (tt_) (v1) (v2) (w3) (w4) (v3) (v4) (v5) (v6) (v7)) :: ga_i 600 tb :: ga_i 24 tm :: ga_i 30 mt :: ga_i 30 ou :: ga_i 32 ah :: ga_i 401 mw :: ga_i 401 mq :: ga_i 401 mf :: ga_i 401 ma :: ga_i 401 mb :: ga_i 401 ms_ :: ga_i 18 ta :: ga_i 120 af :: ga_i 24 fo2 :: ga_i 25 bo :: ga_i 1300 sg :: ga_i 25 n1 :: ga_i 26 n2 :: ga_i 1300 n3 :: ga_i 250 n4 :: ga_i 25 n5 :: ga_i 40 n6 :: ga_z 40 n7 :: ga_l 310 hp :: ga_l 576 gv :: ga_z 24 io :: []), sh_f sv (a_f av)) (sw a)) := by
  intro a ha
  rcases ga_reg a with h | ⟨h, h'⟩ | h
  · have hh : a = 0 ∨ a = 1 ∨ a = 2 ∨ a = 3 ∨ a = 4 ∨ a = 5 ∨ a = 6 ∨ a = 7 ∨ a = 8 ∨ a = 9 ∨ a = 10 ∨ a = 11 ∨ a = 12 ∨ a = 13 ∨ a = 14 ∨ a = 15 ∨ a = 16 ∨ a = 17 ∨ a = 18 ∨ a = 19 ∨ a = 20 ∨ a = 21 ∨ a = 22 ∨ a = 23 ∨ a = 24 ∨ a = 25 ∨ a = 26 ∨ a = 27 ∨ a = 28 ∨ a = 29 ∨ a = 30 := by omega
    rcases hh with rfl | rfl | rfl | rfl | rfl | rfl | rfl | rfl | rfl | rfl | rfl | rfl | rfl | rfl | rfl | rfl | rfl | rfl | rfl | rfl | rfl | rfl | rfl | rfl | rfl | rfl | rfl | rfl | rfl | rfl | rfl
    · rfl
    · rfl
    · rfl
    · rfl
    · rfl
    · rfl
    · rfl
    · rfl
    · rfl
    · rfl
    · exact e_arr (fun j q h => by unfold l_w at h; split at h; cases h; omega; cases h)
    · exact e_arr hol
    · exact e_arr hnw
    · rfl
    · rfl
    · rfl
    · rfl
    · rfl
    · rfl
    · rfl
    · rfl
    · rfl
    · rfl
    · rfl
    · rfl
    · rfl
    · rfl
    · rfl
    · exact e_arr (fun j q h => by cases h; omega)
    · rfl
    · rfl
  · have hh : a = 79 ∨ a = 80 ∨ a = 81 ∨ a = 82 ∨ a = 83 ∨ a = 84 ∨ a = 85 ∨ a = 86 ∨ a = 87 ∨ a = 88 ∨ a = 89 ∨ a = 90 ∨ a = 91 ∨ a = 92 ∨ a = 93 ∨ a = 94 ∨ a = 95 ∨ a = 96 ∨ a = 97 ∨ a = 98 ∨ a = 99 ∨ a = 100 ∨ a = 101 ∨ a = 102 ∨ a = 103 ∨ a = 104 ∨ a = 105 := by omega
    rcases hh with rfl | rfl | rfl | rfl | rfl | rfl | rfl | rfl | rfl | rfl | rfl | rfl | rfl | rfl | rfl | rfl | rfl | rfl | rfl | rfl | rfl | rfl | rfl | rfl | rfl | rfl | rfl
    · rfl
    · rfl
    · rfl
    · rfl
    · rfl
    · rfl
    · rfl
    · rfl
    · rfl
    · rfl
    · rfl
    · rfl
    · rfl
    · rfl
    · rfl
    · rfl
    · rfl
    · rfl
    · rfl
    · rfl
    · rfl
    · rfl
    · rfl
    · rfl
    · rfl
    · rfl
    · rfl
  · rw [sw_hi (by omega), ga_get_hi _ h, ga_get_hi _ h]
    show ga_e (E_sw E) (sh_f sv (a_f av) a) = ga_e E (sh_f sv (a_f av) a)
    by_cases h2 : 31 ≤ a ∧ a < 79
    · unfold sh_f
      rw [if_pos h2]
      by_cases h3 : a % 2 = 1
      · rw [if_pos h3]
        simp only [ga_e, ga_v, List.map]
        rw [sw_hi (by omega)]
      · rw [if_neg h3]
        rfl
    · rw [sh_f_g (by omega)]
      unfold a_f
      have hq := hnx (a - 105) (by omega) (by omega)
      generalize av (a - 105) = tt at hq ⊢
      obtain ⟨b1, b2, b3, b4, b5, b6, b7, b8⟩ := tt
      cases b8 with
      | none => rfl
      | some q =>
        simp only [ga_e, ga_v, ga_rf, List.map]
        rw [sw_hi (hq q rfl)]
theorem j_A_nx (J : j_A (mw, mq, mf, ma, mb, ms_) av ol nw an) : ∀ k, 1 ≤ k → k ≤ an → ∀ q, a_nx (av k) = some q → 27 ≤ q := by
  intro k k1 k2 q hq
  by_cases h0 : 0 ≤ mq k
  · obtain ⟨nx, r', e1, e2, e3, e4, -⟩ := J.2.1 k k1 k2 h0
    rw [e3] at hq
    cases nx with
    | none => cases hq
    | some q' =>
      obtain ⟨j, j1, j2, j3, -⟩ := e4
      cases hq
      omega
  · rw [(J.2.2.2.2.2.2.1 k k1 k2 h0).2] at hq
    cases hq
theorem l_rules (hX : ga_B E d (⟨RL, lnm, lds⟩ : MethodName) cL_law 4 mc ms X) (h40 : 40 ≤ d) (hc1 : kc + 1 ≤ mc) (hc2 : ks + 8 ≤ ms) (J : (lt ≤ 600 ∧ ∀ i, i < lt → 0 ≤ tb i) ∧ r_ok tm sz rn ∧ j_C mt ah fn fm em sp op ∧ j_A (mw, mq, mf, ma, mb, ms_) av ol nw an ∧ (ask = -1 ∨ 0 ≤ ask ∧ ask ≤ nI an) ∧ (∀ j, j < 15 → nm j = x_cn j) ∧ j_R cd cd2 en fo fo2 sm tot tt_ st_ od eo sg bo ∧ (rl = .null ∨ rl = .ref 15 ∨ rl = .ref 21) ∧ ka ≤ an ∧ b_ok ((mw, mq, mf, ma, mb, ms_), ah, ou, op, fn) (cd, en, fo, sm, tot) rn ka sv) (kont : ∀ M', lw_I M' → ga_G E X (kc + 1) (ks + 8) 802 [some (.retAddr 0), some (.ref 0), some (.ref 79), some (.int (nI (6 * k)))] [] M') (kontS : ∀ M', lw_I M' → ga_G (E_sw E) X (kc + 1) (ks + 8) 802 [some (.retAddr 0), some (.ref 0), some (.ref 79), some (.int (nI (6 * k)))] [] M') : ga_G E X kc ks 480 [some (.retAddr 0), some (.ref 0), some (.ref 79), some (.int (nI (6 * k)))] [] (an + 106, (k_0 ask :: k_T lt :: ga_i 600 tb :: k_R rn :: ga_i 24 tm :: ga_i 6 sz :: k_C fm em sp fn op :: ga_i 32 ah :: ga_i 30 ou :: k_L an :: ga_r 4 401 (l_w an) :: ga_r 4 24 ol :: ga_r 4 24 nw :: k_D rl x1 x2 x3 x4 fd fa :: ga_l 39 nm :: k_U 15 top size tot (nI sm) :: ga_i 600 st_ :: ga_i 600 od :: ga_i 24 eo :: ga_i 24 fo :: ga_l 32 s :: k_U 21 u1 u2 u3 u4 :: ga_i 600 t1 :: ga_i 600 t2 :: ga_i 24 t3 :: ga_i 24 t4 :: ga_l 32 t5 :: k_B ka :: ga_r 3 24 b_w :: k_Y hd :: ga_i 120 se :: []), ((m_O (nI lt) (nI rn) (nI fn) (em) (sp) (nI an) (ask) (nI sm) (tt_) (v1) (v2) (fd) (fa) (v3) (v4) (v5) (v6) (v7)) :: ga_i 600 tb :: ga_i 24 tm :: ga_i 30 mt :: ga_i 30 ou :: ga_i 32 ah :: ga_i 401 mw :: ga_i 401 mq :: ga_i 401 mf :: ga_i 401 ma :: ga_i 401 mb :: ga_i 401 ms_ :: ga_i 18 ta :: ga_i 120 af :: ga_i 24 fo2 :: ga_i 25 bo :: ga_i 1300 sg :: ga_i 25 n1 :: ga_i 26 n2 :: ga_i 1300 n3 :: ga_i 250 n4 :: ga_i 25 n5 :: ga_i 40 n6 :: ga_z 40 n7 :: ga_l 310 hp :: ga_l 576 gv :: ga_z 24 io :: []), sh_f sv (a_f av)) := by
  have hn : 106 ≤ an + 106 := by omega
  refine g_aload_n (nx := 481) hX 1 dL_law_480 rfl rfl rfl ?_
  refine g_V0 (nx := 484) hX dL_law_481 rfl mL_58 yX10_rules_ok (c_X10_rules hn J.1.1 J.1.2) (ga_dn hn rfl) rfl rfl rfl (by omega) rfl (by omega) (by omega) ?_
  rintro _ _ (⟨k1, pl1, hR1, hk1, rfl, y1, y2, y3, y4, y5, y6, y7, p1, p2, p3, p4, nm2, hnm, rfl⟩ | ⟨Ls, C, nm2, tot2, hR1, rfl, y1, y2, y3, y4, sv2, hsv, hnm, rfl⟩)
  · refine g_aload_n (nx := 485) hX 2 dL_law_484 rfl rfl rfl ?_
    refine g_V0 (nx := 488) hX dL_law_485 rfl mL_62 yX11_rules_ok (c_X11_rules hn J.1.1 J.2.2.2.2.2.1) (ga_dn hn rfl) rfl rfl rfl (by omega) rfl (by omega) (by omega) ?_
    rintro _ _ (⟨k2, pl2, hR2, hk2, rfl, z1, z2, z3, z4, z5, z6, q1, q2, q3, q4, q5, q6, q7, rfl⟩ | ⟨Ls2, C2, nm3, tot3, hR2, rfl, hl24, hC6, hCl, z1, z2, z3, z4, z5, z6, tt3, q1, q2, q3, q4, q5, q6, q7, fo3, bo3, sh3, htt, hbo, hfo, hsg, rfl⟩)
    · have e := hR1.symm.trans hR2
      cases e
      refine g_icmp_eq (nx := 491) hX 802 dL_law_488 (by decide) rfl (fun h488 => ?_) (fun h488 => ?_)
      · exact g_widen (by omega) (by omega) (kont _ (lw_I_of (lt := 0) (cd := cd) (cd2 := cd2) (en := en) ⟨⟨by omega, fun i hi => absurd hi (Nat.not_lt_zero i)⟩, J.2.1, J.2.2.1, J.2.2.2.1, J.2.2.2.2.1, fun j hj => by rw [hnm j hj]; exact J.2.2.2.2.2.1 j hj, J.2.2.2.2.2.2.1, Or.inr (Or.inr rfl), J.2.2.2.2.2.2.2.2⟩))
      · exact absurd rfl h488
    · exact absurd (hR1.symm.trans hR2) (by intro z; cases z)
  · refine g_aload_n (nx := 485) hX 2 dL_law_484 rfl rfl rfl ?_
    refine g_V0 (nx := 488) hX dL_law_485 rfl mL_62 yX11_rules_ok (c_X11_rules hn J.1.1 J.2.2.2.2.2.1) (ga_dn hn rfl) rfl rfl rfl (by omega) rfl (by omega) (by omega) ?_
    rintro _ _ (⟨k2, pl2, hR2, hk2, rfl, z1, z2, z3, z4, z5, z6, q1, q2, q3, q4, q5, q6, q7, rfl⟩ | ⟨Ls2, C2, nm3, tot3, hR2, rfl, hl24, hC6, hCl, z1, z2, z3, z4, z5, z6, tt3, q1, q2, q3, q4, q5, q6, q7, fo3, bo3, sh3, htt, hbo, hfo, hsg, rfl⟩)
    · exact absurd (hR1.symm.trans hR2) (by intro z; cases z)
    · have e := hR1.symm.trans hR2
      cases e
      refine g_icmp_eq (nx := 491) hX 802 dL_law_488 (by decide) rfl (fun h488 => ?_) (fun h488 => ?_)
      · obtain ⟨cd3, cd4, en3, hj⟩ := j_R_new (st0 := t1) (od0 := t2) (eo0 := t3) (fo0 := t4) (z_rd J.1.1 hR1) hl24 hC6 htt hbo hfo hsg
        refine g_swp (M' := (an + 106, (k_0 ask :: k_T 0 :: ga_i 600 tb :: k_R rn :: ga_i 24 tm :: ga_i 6 sz :: k_C fm em sp fn op :: ga_i 32 ah :: ga_i 30 ou :: k_L an :: ga_r 4 401 (l_w an) :: ga_r 4 24 ol :: ga_r 4 24 nw :: k_D (.ref 15) y1 y2 y3 y4 0 (-1) :: ga_l 39 nm2 :: k_U 15 u1 (nI C.length) tot2 (nI Ls.length) :: ga_i 600 (z_st C t1) :: ga_i 600 (z_od C t2) :: ga_i 24 (z_st Ls t3) :: ga_i 24 (z_od Ls t4) :: ga_l 32 t5 :: k_U 21 top size tot (nI sm) :: ga_i 600 st_ :: ga_i 600 od :: ga_i 24 eo :: ga_i 24 fo :: ga_l 32 s :: k_B ka :: ga_r 3 24 b_w :: k_Y hd :: ga_i 120 se :: []), ((m_O (0) (nI rn) (nI fn) (em) (sp) (nI an) (ask) (nI Ls.length) (tt3) (z1) (nI lt) (0) (-1) (z2) (z3) (z4) (z5) (z6)) :: ga_i 600 tb :: ga_i 24 tm :: ga_i 30 mt :: ga_i 30 ou :: ga_i 32 ah :: ga_i 401 mw :: ga_i 401 mq :: ga_i 401 mf :: ga_i 401 ma :: ga_i 401 mb :: ga_i 401 ms_ :: ga_i 18 ta :: ga_i 120 af :: ga_i 24 fo3 :: ga_i 25 bo3 :: ga_i 1300 sh3 :: ga_i 25 q1 :: ga_i 26 q2 :: ga_i 1300 q3 :: ga_i 250 q4 :: ga_i 25 q5 :: ga_i 40 q6 :: ga_z 40 q7 :: ga_l 310 hp :: ga_l 576 gv :: ga_z 24 io :: []), sh_f sv2 (a_f av))) rfl (by show 27 ≤ an + 106; omega) ⟨rfl, rfl⟩ (sw_cells J.2.2.2.1.2.2.2.2.2.2.2.1 J.2.2.2.1.2.2.2.2.2.2.2.2 (j_A_nx J.2.2.2.1)) rfl ?_
        exact g_widen (by omega) (by omega) (kontS _ (lw_I_of (lt := 0) (cd := cd3) (cd2 := cd4) (en := en3) ⟨⟨by omega, fun i hi => absurd hi (Nat.not_lt_zero i)⟩, J.2.1, J.2.2.1, J.2.2.2.1, J.2.2.2.2.1, fun j hj => by rw [hnm j hj]; exact J.2.2.2.2.2.1 j hj, hj, Or.inr (Or.inl rfl), J.2.2.2.2.2.2.2.2.1, b_stale hsv⟩))
      · exact absurd rfl h488
end
