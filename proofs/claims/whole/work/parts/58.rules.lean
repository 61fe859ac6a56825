/-! ===== new rules come into force ===== -/
abbrev k_Br (rl : Value) (ka : Nat) : ga_C := ga_o 1 [.ref 3, .ref 9, .ref 29, .ref 28, rl, .int (nI ka)]
abbrev k_0s (ask : Int32) : ga_C := ga_o 10 [.ref 1, .ref 3, .ref 6, .ref 9, .ref 13, .ref 27, .ref 21, .ref 15, .int ask]
section
variable {E : ga_E} {X : ga_X} {n : Nat} {c0 c1 c2 c3 c4 c5 c6 c7 c8 c9 c10 c11 c12 c13 c14 c15 c16 c17 c18 c19 c20 c21 c22 c23 c24 c25 c26 c27 c28 c29 c30 m79 m80 m81 m82 m83 m84 m85 m86 m87 m88 m89 m90 m91 m92 m93 m94 m95 m96 m97 m98 m99 m100 m101 m102 m103 m104 m105 : ga_C} {L1 L2 : List ga_C} {f : Nat → ga_C} {o_tp o_rd o_fe o_em o_sp o_ac o_td o_sm o_tt o_at o_sz o_fk o_fp o_nw o_md o_nt o_pl o_op d_at d_tk d_ta d_fd d_fa : Int32} {d_tv : Int64} {d_rl : Value}
variable {sv : Nat → sh_S} {g : Nat → ga_C} {r ka : Nat} {rl : Value}
theorem r_markStale {v : Int32} (hn : 106 ≤ n) : ga_Mx E 1 yX1_markStale cX1_markStale 2 none 0 0 [.ref 27, .int v] (n, (c0 :: c1 :: c2 :: c3 :: c4 :: c5 :: c6 :: c7 :: c8 :: c9 :: c10 :: c11 :: c12 :: c13 :: c14 :: c15 :: c16 :: c17 :: c18 :: c19 :: c20 :: c21 :: c22 :: c23 :: c24 :: c25 :: c26 :: k_Br rl ka :: ga_r 3 24 b_w :: L1), L2, sh_f sv g) none (n, (c0 :: c1 :: c2 :: c3 :: c4 :: c5 :: c6 :: c7 :: c8 :: c9 :: c10 :: c11 :: c12 :: c13 :: c14 :: c15 :: c16 :: c17 :: c18 :: c19 :: c20 :: c21 :: c22 :: c23 :: c24 :: c25 :: c26 :: k_Br rl ka :: ga_r 3 24 b_w :: L1), L2, sh_f (s_mk sv v) g) := by
  refine ga_Mt.of (by decide) rfl (fun X hX hP => ?_)
  refine g_less [some (.ref 27), some (.int v)] ⟨rfl, rfl, trivial⟩ ?_
  refine g_iload_n (nx := 1) hX 1 dX1_markStale_0 rfl rfl rfl ?_
  refine g_iconst (nx := 2) hX 0 dX1_markStale_1 rfl (by decide) ?_
  refine g_bipush (nx := 4) hX 23 dX1_markStale_2 rfl (by decide) ?_
  refine g_SN3 (nx := 7) hX dX1_markStale_4 rfl nX1_87 yX10_isWithin_ok (c_X10_isWithin) (by decide) rfl (Nat.le_of_ble_eq_true rfl) (Nat.le_of_ble_eq_true rfl) ?_
  rintro _ _ ⟨rfl, rfl⟩
  refine g_if_eq (nx := 10) hX 20 dX1_markStale_7 (by decide) rfl (fun h7 => ?_) (fun h7 => ?_)
  · exact g_return hX hP dX1_markStale_20 (Nat.le_of_ble_eq_true rfl) (Nat.le_of_ble_eq_true rfl) ⟨rfl, by rw [show s_mk sv v = sv from if_neg (ga_b_0 h7)]⟩
  · have hb := ga_b_n0 h7
    obtain ⟨j, hj, e, e2⟩ := v_ofle (k := 23) hb.1 hb.2 (by omega)
    have em : s_mk sv v = va_up sv j (1, (sv j).2) := by unfold s_mk; rw [if_pos hb, e2]
    clear e2 h7 hb
    subst e
    have hr : j < 24 := by omega
    refine g_aload_n (nx := 11) hX 0 dX1_markStale_10 rfl rfl rfl ?_
    refine g_getfield (nx := 14) hX dX1_markStale_11 rfl fX1_13 (ga_dn hn rfl) rfl rfl ?_
    refine g_iload_n (nx := 15) hX 1 dX1_markStale_14 rfl rfl rfl ?_
    refine g_aaload3 (nx := 16) hX dX1_markStale_15 rfl (ga_dn hn rfl) rfl (ga_ix_of rfl (by omega) (by omega)) ?_
    refine g_iconst (nx := 17) hX 1 dX1_markStale_16 rfl (by decide) ?_
    refine g_putfield (nx := 20) hX dX1_markStale_17 rfl pX1_55 (dm_o hn hr) (get_so hr) rfl rfl rfl ?_
    refine g_mem (put_so hr) ?_
    exact g_return hX hP dX1_markStale_20 (Nat.le_of_ble_eq_true rfl) (Nat.le_of_ble_eq_true rfl) ⟨rfl, by rw [em]⟩
theorem r_forget (hn : 106 ≤ n) : ga_Mt E 2 yX1_forget cX1_forget 2 none 0 0 [.ref 27] (n, (c0 :: c1 :: c2 :: c3 :: c4 :: c5 :: c6 :: c7 :: c8 :: c9 :: c10 :: c11 :: c12 :: c13 :: c14 :: c15 :: c16 :: c17 :: c18 :: c19 :: c20 :: c21 :: c22 :: c23 :: c24 :: c25 :: c26 :: k_Br rl ka :: ga_r 3 24 b_w :: L1), L2, sh_f sv g) (fun w M => w = none ∧ ∃ sv : Nat → sh_S, (∀ r, r < 24 → ¬ (sv r).1 = 0) ∧ M = (n, (c0 :: c1 :: c2 :: c3 :: c4 :: c5 :: c6 :: c7 :: c8 :: c9 :: c10 :: c11 :: c12 :: c13 :: c14 :: c15 :: c16 :: c17 :: c18 :: c19 :: c20 :: c21 :: c22 :: c23 :: c24 :: c25 :: c26 :: k_Br rl ka :: ga_r 3 24 b_w :: L1), L2, sh_f sv g)) := by
  refine ga_Mt.of (by decide) rfl (fun X hX hP => ?_)
  refine g_less [some (.ref 27), none] ⟨rfl, trivial⟩ ?_
  have loop : ∀ (m k : Nat) (sv : Nat → sh_S), k + m = 24 → (∀ r, r < k → ¬ (sv r).1 = 0) → ga_G E X 0 0 2 [some (.ref 27), some (.int (nI k))] [] (n, (c0 :: c1 :: c2 :: c3 :: c4 :: c5 :: c6 :: c7 :: c8 :: c9 :: c10 :: c11 :: c12 :: c13 :: c14 :: c15 :: c16 :: c17 :: c18 :: c19 :: c20 :: c21 :: c22 :: c23 :: c24 :: c25 :: c26 :: k_Br rl ka :: ga_r 3 24 b_w :: L1), L2, sh_f sv g) := by
    intro m
    induction m with
    | zero =>
      intro k sv h1 h3
      have e : k = 24 := by omega
      subst e
      refine g_iload_n (nx := 3) hX 1 dX1_forget_2 rfl rfl rfl ?_
      refine g_bipush (nx := 5) hX 24 dX1_forget_3 rfl (by decide) ?_
      refine g_icmp_ge (nx := 8) hX 19 dX1_forget_5 (by decide) rfl (fun h5 => ?_) (fun h5 => ?_)
      · exact g_return hX hP dX1_forget_19 (Nat.le_of_ble_eq_true rfl) (Nat.le_of_ble_eq_true rfl) ⟨rfl, sv, h3, rfl⟩
      · exact absurd (show (24 : Int32) ≤ nI 24 by decide) h5
    | succ m ih =>
      intro k sv h1 h3
      refine g_iload_n (nx := 3) hX 1 dX1_forget_2 rfl rfl rfl ?_
      refine g_bipush (nx := 5) hX 24 dX1_forget_3 rfl (by decide) ?_
      refine g_icmp_ge (nx := 8) hX 19 dX1_forget_5 (by decide) rfl (fun h5 => ?_) (fun h5 => ?_)
      · exact absurd ((nI_leI (a := 24) (b := k) (by omega) (by omega)).mp h5) (by omega)
      · refine g_aload_n (nx := 9) hX 0 dX1_forget_8 rfl rfl rfl ?_
        refine g_iload_n (nx := 10) hX 1 dX1_forget_9 rfl rfl rfl ?_
        refine g_V1 (nx := 13) hX dX1_forget_10 rfl mX1_41 yX1_markStale_ok (r_markStale hn) (ga_dn hn rfl) rfl rfl rfl (by decide) rfl (Nat.le_of_ble_eq_true rfl) (Nat.le_of_ble_eq_true rfl) ?_
        rintro _ _ ⟨rfl, rfl⟩
        refine g_iinc (nx := 16) hX 1 (nI (k + 1)) dX1_forget_13 rfl rfl rfl (nI_1 k) ?_
        refine g_goto (nx := 2) hX dX1_forget_16 (by decide) ?_
        exact ih (k + 1) _ (by omega) (fun r hr hz => by
          have q := s_mk_0 (by omega) hz
          by_cases e : r = k
          · exact q.2 (by rw [e])
          · rw [q.1] at hz; exact h3 r (by omega) hz)
  refine g_iconst (nx := 1) hX 0 dX1_forget_0 rfl (by decide) ?_
  refine g_istore_n (nx := 2) hX 1 dX1_forget_1 rfl rfl rfl ?_
  exact loop 24 0 sv (by omega) (fun r hr => absurd hr (by omega))
theorem r_follow (hn : 106 ≤ n) : ga_Mt E 3 yX1_follow cX1_follow 2 none 0 0 [.ref 27, .ref 21] (n, (c0 :: c1 :: c2 :: c3 :: c4 :: c5 :: c6 :: c7 :: c8 :: c9 :: c10 :: c11 :: c12 :: c13 :: c14 :: c15 :: c16 :: c17 :: c18 :: c19 :: c20 :: c21 :: c22 :: c23 :: c24 :: c25 :: c26 :: k_B ka :: ga_r 3 24 b_w :: L1), L2, sh_f sv g) (fun w M => w = none ∧ ∃ sv : Nat → sh_S, (∀ r, r < 24 → ¬ (sv r).1 = 0) ∧ M = (n, (c0 :: c1 :: c2 :: c3 :: c4 :: c5 :: c6 :: c7 :: c8 :: c9 :: c10 :: c11 :: c12 :: c13 :: c14 :: c15 :: c16 :: c17 :: c18 :: c19 :: c20 :: c21 :: c22 :: c23 :: c24 :: c25 :: c26 :: k_Br (.ref 21) ka :: ga_r 3 24 b_w :: L1), L2, sh_f sv g)) := by
  refine ga_Mt.of (by decide) rfl (fun X hX hP => ?_)
  refine g_less [some (.ref 27), some (.ref 21)] ⟨rfl, rfl, trivial⟩ ?_
  refine g_aload_n (nx := 1) hX 0 dX1_follow_0 rfl rfl rfl ?_
  refine g_aload_n (nx := 2) hX 1 dX1_follow_1 rfl rfl rfl ?_
  refine g_putfield (nx := 5) hX dX1_follow_2 rfl pX1_27 (ga_dn hn rfl) rfl rfl rfl rfl ?_
  refine g_aload_n (nx := 6) hX 0 dX1_follow_5 rfl rfl rfl ?_
  refine g_V0 (nx := 9) hX dX1_follow_6 rfl mX1_45 yX1_forget_ok (r_forget (rl := .ref 21) hn) (ga_dn hn rfl) rfl rfl rfl (by decide) rfl (Nat.le_of_ble_eq_true rfl) (Nat.le_of_ble_eq_true rfl) ?_
  rintro _ _ ⟨rfl, sv', hsv, rfl⟩
  exact g_return hX hP dX1_follow_9 (Nat.le_of_ble_eq_true rfl) (Nat.le_of_ble_eq_true rfl) ⟨rfl, sv', hsv, rfl⟩
end
section
variable {E : ga_E} {X : ga_X} {n : Nat} {c0 c1 c2 c3 c4 c5 c6 c7 c8 c9 c10 c11 c12 c13 c14 c15 c16 c17 c18 c19 c20 c21 c22 c23 c24 c25 c26 c27 c28 c29 c30 m79 m80 m81 m82 m83 m84 m85 m86 m87 m88 m89 m90 m91 m92 m93 m94 m95 m96 m97 m98 m99 m100 m101 m102 m103 m104 m105 : ga_C} {L1 L2 : List ga_C} {f : Nat → ga_C} {o_tp o_rd o_fe o_em o_sp o_ac o_td o_sm o_tt o_at o_sz o_fk o_fp o_nw o_md o_nt o_pl o_op d_at d_tk d_ta d_fd d_fa : Int32} {d_tv : Int64} {d_rl : Value}
variable {z_at z_tk z_ta z_fd z_fa z_sz z_tot z_sm top : Int32} {z_tv : Int64} {nm : Nat → Int64} {tb st_ od eo fo : Nat → Int32} {lt : Nat}
variable {sv : Nat → sh_S} {g : Nat → ga_C} {ka : Nat} {ask : Int32}
theorem c_X10_rules (hn : 106 ≤ n) (hl : lt ≤ 600) (hb : ∀ i, i < lt → 0 ≤ tb i) : ga_Mt E 25 yX10_rules cX10_rules 3 (some .int) 0 0 [.ref 0] (n, (k_0 ask :: k_T lt :: ga_i 600 tb :: c3 :: c4 :: c5 :: c6 :: c7 :: c8 :: c9 :: c10 :: c11 :: c12 :: (k_D d_rl d_at d_tk d_ta d_tv d_fd d_fa) :: ga_l 39 nm :: c15 :: c16 :: c17 :: c18 :: c19 :: c20 :: k_U 21 top z_sz z_tot z_sm :: ga_i 600 st_ :: ga_i 600 od :: ga_i 24 eo :: ga_i 24 fo :: c26 :: k_B ka :: ga_r 3 24 b_w :: L1), L2, sh_f sv g)
    (fun r M => (∃ k pl, R_rd tb lt nm = .inl (k, pl) ∧ (1 ≤ k ∧ k ≤ 4) ∧ r = some (.int (-1)) ∧ ∃ x1 x2 x3 x4 y1 y2 y3 st od eo fo nm_, (∀ i, i < 15 → nm_ i = nm i) ∧ M = (n, (k_0 ask :: k_T 0 :: ga_i 600 tb :: c3 :: c4 :: c5 :: c6 :: c7 :: c8 :: c9 :: c10 :: c11 :: c12 :: k_D (.ref 21) x1 x2 x3 x4 (nI k) (nI pl) :: ga_l 39 nm_ :: c15 :: c16 :: c17 :: c18 :: c19 :: c20 :: k_U 21 top y1 y2 y3 :: ga_i 600 st :: ga_i 600 od :: ga_i 24 eo :: ga_i 24 fo :: c26 :: k_B ka :: ga_r 3 24 b_w :: L1), L2, sh_f sv g)) ∨
      (∃ Ls C nm_ tot, R_rd tb lt nm = .inr (Ls, C, nm_, tot) ∧ r = some (.int (nI Ls.length)) ∧ ∃ x1 x2 x3 x4, ∃ sv : Nat → sh_S, (∀ r, r < 24 → ¬ (sv r).1 = 0) ∧ (∀ i, i < 15 → nm_ i = nm i) ∧ M = (n, (k_0s ask :: k_T 0 :: ga_i 600 tb :: c3 :: c4 :: c5 :: c6 :: c7 :: c8 :: c9 :: c10 :: c11 :: c12 :: k_D (.ref 21) x1 x2 x3 x4 0 (-1) :: ga_l 39 nm_ :: c15 :: c16 :: c17 :: c18 :: c19 :: c20 :: k_U 21 top (nI C.length) tot (nI Ls.length) :: ga_i 600 (z_st C st_) :: ga_i 600 (z_od C od) :: ga_i 24 (z_st Ls eo) :: ga_i 24 (z_od Ls fo) :: c26 :: k_Br (.ref 21) ka :: ga_r 3 24 b_w :: L1), L2, sh_f sv g))) := by
  have h0 : (0 : Int32) ≤ 0 ∧ (0 : Int32) ≤ nI lt := ⟨by decide, nI_pos' (by omega)⟩
  refine ga_Mt.of (by decide) rfl (fun X hX hP => ?_)
  refine g_less [some (.ref 0), none, none] ⟨rfl, trivial⟩ ?_
  refine g_aload_n (nx := 1) hX 0 dX10_rules_0 rfl rfl rfl ?_
  refine g_getfield (nx := 4) hX dX10_rules_1 rfl fX10_42 (ga_dn hn rfl) rfl rfl ?_
  refine g_aload_n (nx := 5) hX 0 dX10_rules_4 rfl rfl rfl ?_
  refine g_getfield (nx := 8) hX dX10_rules_5 rfl fX10_53 (ga_dn hn rfl) rfl rfl ?_
  refine g_V1 (nx := 11) hX dX10_rules_8 rfl mX10_126 yX4_read_ok (c_X4_read hn hl hb) (ga_dn hn rfl) rfl rfl rfl (by decide) rfl (Nat.le_of_ble_eq_true rfl) (Nat.le_of_ble_eq_true rfl) ?_
  rintro _ _ (⟨k, pl, hE, hk, rfl, ta, tv, sz, st, od', tot, sm, eo', fo', nm', hs, hm, hnm, rfl⟩ | ⟨Ls, C, nm', tot, q, hE, rfl, hnm, rfl⟩)
  · refine g_istore_n (nx := 12) hX 1 dX10_rules_11 rfl rfl rfl ?_
    refine g_aload_n (nx := 13) hX 0 dX10_rules_12 rfl rfl rfl ?_
    refine g_getfield (nx := 16) hX dX10_rules_13 rfl fX10_10 (ga_dn hn rfl) rfl rfl ?_
    refine g_iconst (nx := 17) hX 0 dX10_rules_16 rfl (by decide) ?_
    refine g_V1 (nx := 20) hX dX10_rules_17 rfl mX10_80 yX9_cut_ok (c_X9_cut hn) (ga_dn hn rfl) rfl rfl rfl (by decide) rfl (Nat.le_of_ble_eq_true rfl) (Nat.le_of_ble_eq_true rfl) ?_
    rintro _ _ (⟨hc, rfl, rfl⟩ | ⟨hc, rfl, rfl⟩)
    · refine g_pop (nx := 21) hX dX10_rules_20 rfl rfl ?_
      refine g_iload_n (nx := 22) hX 1 dX10_rules_21 rfl rfl rfl ?_
      refine g_if_ne (nx := 25) hX 27 dX10_rules_22 (by decide) rfl (fun h => absurd h (by decide)) (fun h => ?_)
      refine g_iconst (nx := 26) hX (-1) dX10_rules_25 rfl (by decide) ?_
      exact g_ireturn hX hP dX10_rules_26 rfl (Nat.le_of_ble_eq_true rfl) (Nat.le_of_ble_eq_true rfl) (Or.inl ⟨k, pl, hE, hk, rfl, _, _, _, _, _, _, _, _, _, _, _, nm', hnm, rfl⟩)
    · exact absurd h0 hc
  · refine g_istore_n (nx := 12) hX 1 dX10_rules_11 rfl rfl rfl ?_
    refine g_aload_n (nx := 13) hX 0 dX10_rules_12 rfl rfl rfl ?_
    refine g_getfield (nx := 16) hX dX10_rules_13 rfl fX10_10 (ga_dn hn rfl) rfl rfl ?_
    refine g_iconst (nx := 17) hX 0 dX10_rules_16 rfl (by decide) ?_
    refine g_V1 (nx := 20) hX dX10_rules_17 rfl mX10_80 yX9_cut_ok (c_X9_cut hn) (ga_dn hn rfl) rfl rfl rfl (by decide) rfl (Nat.le_of_ble_eq_true rfl) (Nat.le_of_ble_eq_true rfl) ?_
    rintro _ _ (⟨hc, rfl, rfl⟩ | ⟨hc, rfl, rfl⟩)
    · refine g_pop (nx := 21) hX dX10_rules_20 rfl rfl ?_
      refine g_iload_n (nx := 22) hX 1 dX10_rules_21 rfl rfl rfl ?_
      refine g_if_ne (nx := 25) hX 27 dX10_rules_22 (by decide) rfl (fun h => ?_) (fun h => absurd h (by decide))
      refine g_aload_n (nx := 28) hX 0 dX10_rules_27 rfl rfl rfl ?_
      refine g_getfield (nx := 31) hX dX10_rules_28 rfl fX10_49 (ga_dn hn rfl) rfl rfl ?_
      refine g_astore_n (nx := 32) hX 2 dX10_rules_31 rfl rfl rfl ?_
      refine g_aload_n (nx := 33) hX 0 dX10_rules_32 rfl rfl rfl ?_
      refine g_aload_n (nx := 34) hX 0 dX10_rules_33 rfl rfl rfl ?_
      refine g_getfield (nx := 37) hX dX10_rules_34 rfl fX10_53 (ga_dn hn rfl) rfl rfl ?_
      refine g_putfield (nx := 40) hX dX10_rules_37 rfl pX10_49 (ga_dn hn rfl) rfl rfl rfl rfl ?_
      refine g_aload_n (nx := 41) hX 0 dX10_rules_40 rfl rfl rfl ?_
      refine g_aload_n (nx := 42) hX 2 dX10_rules_41 rfl rfl rfl ?_
      refine g_putfield (nx := 45) hX dX10_rules_42 rfl pX10_53 (ga_dn hn rfl) rfl rfl rfl rfl ?_
      refine g_aload_n (nx := 46) hX 0 dX10_rules_45 rfl rfl rfl ?_
      refine g_getfield (nx := 49) hX dX10_rules_46 rfl fX10_61 (ga_dn hn rfl) rfl rfl ?_
      refine g_aload_n (nx := 50) hX 0 dX10_rules_49 rfl rfl rfl ?_
      refine g_getfield (nx := 53) hX dX10_rules_50 rfl fX10_49 (ga_dn hn rfl) rfl rfl ?_
      refine g_V1 (nx := 56) hX dX10_rules_53 rfl mX10_130 yX1_follow_ok (r_follow hn) (ga_dn hn rfl) rfl rfl rfl (by decide) rfl (Nat.le_of_ble_eq_true rfl) (Nat.le_of_ble_eq_true rfl) ?_
      rintro _ _ ⟨rfl, sv', hsv, rfl⟩
      refine g_aload_n (nx := 57) hX 0 dX10_rules_56 rfl rfl rfl ?_
      refine g_getfield (nx := 60) hX dX10_rules_57 rfl fX10_49 (ga_dn hn rfl) rfl rfl ?_
      refine g_getfield (nx := 63) hX dX10_rules_60 rfl fX10_134 (ga_dn hn rfl) rfl rfl ?_
      exact g_ireturn hX hP dX10_rules_63 rfl (Nat.le_of_ble_eq_true rfl) (Nat.le_of_ble_eq_true rfl) (Or.inr ⟨Ls, C, nm', tot, hE, rfl, _, _, _, _, sv', hsv, hnm, rfl⟩)
    · exact absurd h0 hc
end
