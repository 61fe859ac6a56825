/-! ===== feed and end, of the class and of the reference ===== -/
section
variable {E : ga_E} {X : ga_X} {n : Nat} {c0 c1 c2 c3 c4 c5 c6 c7 c8 c9 c10 c11 c12 c13 c14 c15 c16 c17 c18 c19 c20 c21 c22 c23 c24 c25 c26 c27 c28 c29 c30 m79 m80 m81 m82 m83 m84 m85 m86 m87 m88 m89 m90 m91 m92 m93 m94 m95 m96 m97 m98 m99 m100 m101 m102 m103 m104 m105 : ga_C} {L1 L2 : List ga_C} {f : Nat → ga_C} {o_tp o_rd o_fe o_em o_sp o_ac o_td o_sm o_tt o_at o_sz o_fk o_fp o_nw o_md o_nt o_pl o_op d_at d_tk d_ta d_fd d_fa : Int32} {d_tv : Int64} {d_rl : Value}
variable {tb : Nat → Int32} {ask : Int32}
theorem c_X9_hasRoom {k : Nat} (hn : 106 ≤ n) (hk : k ≤ 600) : ga_Mx E 0 yX9_hasRoom cX9_hasRoom 1 (some .boolean) 0 0 [.ref 1] (n, (c0 :: k_T k :: L1), L2, f) (some (.int (ga_b (k + 20 ≤ 600)))) (n, (c0 :: k_T k :: L1), L2, f) := by
  refine ga_Mt.of (by decide) rfl (fun X hX hP => ?_)
  refine g_less [some (.ref 1)] ⟨rfl, trivial⟩ ?_
  refine g_aload_n (nx := 1) hX 0 dX9_hasRoom_0 rfl rfl rfl ?_
  refine g_getfield (nx := 4) hX dX9_hasRoom_1 rfl fX9_13 (ga_dn hn rfl) rfl rfl ?_
  refine g_sipush (nx := 7) hX 580 dX9_hasRoom_4 rfl (by decide) ?_
  refine g_icmp_gt (nx := 10) hX 14 dX9_hasRoom_7 (by decide) rfl (fun h7 => ?_) (fun h7 => ?_)
  · have h7' := (nI_ltI (a := 580) (b := k) (by omega) (by omega)).mp h7
    refine g_iconst (nx := 15) hX 0 dX9_hasRoom_14 rfl (by decide) ?_
    exact g_ireturn hX hP dX9_hasRoom_15 rfl (Nat.le_of_ble_eq_true rfl) (Nat.le_of_ble_eq_true rfl) ⟨by rw [ga_b_f (by omega)], rfl⟩
  · have h7a : ¬ 580 < k := fun q => h7 ((nI_ltI (a := 580) (b := k) (by omega) (by omega)).mpr q)
    refine g_iconst (nx := 11) hX 1 dX9_hasRoom_10 rfl (by decide) ?_
    refine g_goto (nx := 15) hX dX9_hasRoom_11 (by decide) ?_
    exact g_ireturn hX hP dX9_hasRoom_15 rfl (Nat.le_of_ble_eq_true rfl) (Nat.le_of_ble_eq_true rfl) ⟨by rw [ga_b_t (by omega)], rfl⟩
theorem c_X9_cut {k : Nat} {v : Int32} (hn : 106 ≤ n) : ga_Mt E 1 yX9_cut cX9_cut 2 (some .boolean) 0 0 [.ref 1, .int v] (n, (c0 :: k_T k :: L1), L2, f) (fun r M => (0 ≤ v ∧ v ≤ nI k) ∧ r = some (.int 1) ∧ M = (n, (c0 :: ga_o 9 [.ref 2, .int v] :: L1), L2, f) ∨ ¬ (0 ≤ v ∧ v ≤ nI k) ∧ r = some (.int 0) ∧ M = (n, (c0 :: k_T k :: L1), L2, f)) := by
  refine ga_Mt.of (by decide) rfl (fun X hX hP => ?_)
  refine g_less [some (.ref 1), some (.int v)] ⟨rfl, rfl, trivial⟩ ?_
  refine g_iload_n (nx := 1) hX 1 dX9_cut_0 rfl rfl rfl ?_
  refine g_iconst (nx := 2) hX 0 dX9_cut_1 rfl (by decide) ?_
  refine g_aload_n (nx := 3) hX 0 dX9_cut_2 rfl rfl rfl ?_
  refine g_getfield (nx := 6) hX dX9_cut_3 rfl fX9_13 (ga_dn hn rfl) rfl rfl ?_
  refine g_SN3 (nx := 9) hX dX9_cut_6 rfl nX9_17 yX10_isWithin_ok (c_X10_isWithin) (by decide) rfl (Nat.le_of_ble_eq_true rfl) (Nat.le_of_ble_eq_true rfl) ?_
  rintro _ _ ⟨rfl, rfl⟩
  refine g_if_ne (nx := 12) hX 14 dX9_cut_9 (by decide) rfl (fun h9 => ?_) (fun h9 => ?_)
  · refine g_aload_n (nx := 15) hX 0 dX9_cut_14 rfl rfl rfl ?_
    refine g_iload_n (nx := 16) hX 1 dX9_cut_15 rfl rfl rfl ?_
    refine g_putfield (nx := 19) hX dX9_cut_16 rfl pX9_13 (ga_dn hn rfl) rfl rfl rfl rfl ?_
    refine g_iconst (nx := 20) hX 1 dX9_cut_19 rfl (by decide) ?_
    exact g_ireturn hX hP dX9_cut_20 rfl (Nat.le_of_ble_eq_true rfl) (Nat.le_of_ble_eq_true rfl) (Or.inl ⟨ga_b_n0 h9, rfl, rfl⟩)
  · refine g_iconst (nx := 13) hX 0 dX9_cut_12 rfl (by decide) ?_
    exact g_ireturn hX hP dX9_cut_13 rfl (Nat.le_of_ble_eq_true rfl) (Nat.le_of_ble_eq_true rfl) (Or.inr ⟨ga_b_0 h9, rfl, rfl⟩)
theorem c_X10_feed {k : Nat} {a b c d e : Int32} (hn : 106 ≤ n) (hk : k ≤ 600) : ga_Mt E 1 yX10_feed cX10_feed 6 (some .int) 0 0 [.ref 0, .int a, .int b, .int c, .int d, .int e] (n, (k_0 ask :: k_T k :: ga_i 600 tb :: L1), L2, f)
    (fun r M => k + 20 ≤ 600 ∧ r = some (.int (nI (k + 20))) ∧ M = (n, (k_0 ask :: k_T (k + 20) :: ga_i 600 (t_20 tb k a b c d e) :: L1), L2, f) ∨ ¬ k + 20 ≤ 600 ∧ r = some (.int (-1)) ∧ M = (n, (k_0 ask :: k_T k :: ga_i 600 tb :: L1), L2, f)) := by
  refine ga_Mt.of (by decide) rfl (fun X hX hP => ?_)
  refine g_less [some (.ref 0), some (.int a), some (.int b), some (.int c), some (.int d), some (.int e)] ⟨rfl, rfl, rfl, rfl, rfl, rfl, trivial⟩ ?_
  refine g_aload_n (nx := 1) hX 0 dX10_feed_0 rfl rfl rfl ?_
  refine g_getfield (nx := 4) hX dX10_feed_1 rfl fX10_10 (ga_dn hn rfl) rfl rfl ?_
  refine g_V0 (nx := 7) hX dX10_feed_4 rfl mX10_69 yX9_hasRoom_ok (c_X9_hasRoom (c0 := k_0 ask) hn hk) (ga_dn hn rfl) rfl rfl rfl (by decide) rfl (Nat.le_of_ble_eq_true rfl) (Nat.le_of_ble_eq_true rfl) ?_
  rintro _ _ ⟨rfl, rfl⟩
  refine g_if_ne (nx := 10) hX 12 dX10_feed_7 (by decide) rfl (fun h7 => ?_) (fun h7 => ?_)
  · have hk20 := ga_b_n0 h7
    refine g_aload_n (nx := 13) hX 0 dX10_feed_12 rfl rfl rfl ?_
    refine g_getfield (nx := 16) hX dX10_feed_13 rfl fX10_10 (ga_dn hn rfl) rfl rfl ?_
    refine g_iload_n (nx := 17) hX 1 dX10_feed_16 rfl rfl rfl ?_
    refine g_V1 (nx := 20) hX dX10_feed_17 rfl mX10_73 yX9_append_ok (c_X9_append hn (by omega)) (ga_dn hn rfl) rfl rfl rfl (by decide) rfl (Nat.le_of_ble_eq_true rfl) (Nat.le_of_ble_eq_true rfl) ?_
    rintro _ _ ⟨rfl, rfl⟩
    refine g_aload_n (nx := 21) hX 0 dX10_feed_20 rfl rfl rfl ?_
    refine g_getfield (nx := 24) hX dX10_feed_21 rfl fX10_10 (ga_dn hn rfl) rfl rfl ?_
    refine g_iload_n (nx := 25) hX 2 dX10_feed_24 rfl rfl rfl ?_
    refine g_V1 (nx := 28) hX dX10_feed_25 rfl mX10_73 yX9_append_ok (c_X9_append (k := k + 4) hn (by omega)) (ga_dn hn rfl) rfl rfl rfl (by decide) rfl (Nat.le_of_ble_eq_true rfl) (Nat.le_of_ble_eq_true rfl) ?_
    rintro _ _ ⟨rfl, rfl⟩
    refine g_aload_n (nx := 29) hX 0 dX10_feed_28 rfl rfl rfl ?_
    refine g_getfield (nx := 32) hX dX10_feed_29 rfl fX10_10 (ga_dn hn rfl) rfl rfl ?_
    refine g_iload_n (nx := 33) hX 3 dX10_feed_32 rfl rfl rfl ?_
    refine g_V1 (nx := 36) hX dX10_feed_33 rfl mX10_73 yX9_append_ok (c_X9_append (k := k + 8) hn (by omega)) (ga_dn hn rfl) rfl rfl rfl (by decide) rfl (Nat.le_of_ble_eq_true rfl) (Nat.le_of_ble_eq_true rfl) ?_
    rintro _ _ ⟨rfl, rfl⟩
    refine g_aload_n (nx := 37) hX 0 dX10_feed_36 rfl rfl rfl ?_
    refine g_getfield (nx := 40) hX dX10_feed_37 rfl fX10_10 (ga_dn hn rfl) rfl rfl ?_
    refine g_iload (nx := 42) hX 4 dX10_feed_40 rfl rfl ?_
    refine g_V1 (nx := 45) hX dX10_feed_42 rfl mX10_73 yX9_append_ok (c_X9_append (k := k + 12) hn (by omega)) (ga_dn hn rfl) rfl rfl rfl (by decide) rfl (Nat.le_of_ble_eq_true rfl) (Nat.le_of_ble_eq_true rfl) ?_
    rintro _ _ ⟨rfl, rfl⟩
    refine g_aload_n (nx := 46) hX 0 dX10_feed_45 rfl rfl rfl ?_
    refine g_getfield (nx := 49) hX dX10_feed_46 rfl fX10_10 (ga_dn hn rfl) rfl rfl ?_
    refine g_iload (nx := 51) hX 5 dX10_feed_49 rfl rfl ?_
    refine g_V1 (nx := 54) hX dX10_feed_51 rfl mX10_73 yX9_append_ok (c_X9_append (k := k + 16) hn (by omega)) (ga_dn hn rfl) rfl rfl rfl (by decide) rfl (Nat.le_of_ble_eq_true rfl) (Nat.le_of_ble_eq_true rfl) ?_
    rintro _ _ ⟨rfl, rfl⟩
    refine g_aload_n (nx := 55) hX 0 dX10_feed_54 rfl rfl rfl ?_
    refine g_getfield (nx := 58) hX dX10_feed_55 rfl fX10_10 (ga_dn hn rfl) rfl rfl ?_
    refine g_getfield (nx := 61) hX dX10_feed_58 rfl fX10_77 (ga_dn hn rfl) rfl rfl ?_
    exact g_ireturn hX hP dX10_feed_61 rfl (Nat.le_of_ble_eq_true rfl) (Nat.le_of_ble_eq_true rfl) (Or.inl ⟨hk20, rfl, rfl⟩)
  · refine g_iconst (nx := 11) hX (-1) dX10_feed_10 rfl (by decide) ?_
    exact g_ireturn hX hP dX10_feed_11 rfl (Nat.le_of_ble_eq_true rfl) (Nat.le_of_ble_eq_true rfl) (Or.inr ⟨ga_b_0 h7, rfl, rfl⟩)
theorem c_X10_end {k : Nat} {v : Int32} (hn : 106 ≤ n) : ga_Mt E 2 yX10_end cX10_end 2 (some .boolean) 0 0 [.ref 0, .int v] (n, (k_0 ask :: k_T k :: L1), L2, f) (fun r M => (0 ≤ v ∧ v ≤ nI k) ∧ r = some (.int 1) ∧ M = (n, (k_0 ask :: ga_o 9 [.ref 2, .int v] :: L1), L2, f) ∨ ¬ (0 ≤ v ∧ v ≤ nI k) ∧ r = some (.int 0) ∧ M = (n, (k_0 ask :: k_T k :: L1), L2, f)) := by
  refine ga_Mt.of (by decide) rfl (fun X hX hP => ?_)
  refine g_less [some (.ref 0), some (.int v)] ⟨rfl, rfl, trivial⟩ ?_
  refine g_aload_n (nx := 1) hX 0 dX10_end_0 rfl rfl rfl ?_
  refine g_getfield (nx := 4) hX dX10_end_1 rfl fX10_10 (ga_dn hn rfl) rfl rfl ?_
  refine g_iload_n (nx := 5) hX 1 dX10_end_4 rfl rfl rfl ?_
  refine g_V1 (nx := 8) hX dX10_end_5 rfl mX10_80 yX9_cut_ok (c_X9_cut hn) (ga_dn hn rfl) rfl rfl rfl (by decide) rfl (Nat.le_of_ble_eq_true rfl) (Nat.le_of_ble_eq_true rfl) ?_
  rintro r M (⟨h, rfl, rfl⟩ | ⟨h, rfl, rfl⟩)
  · exact g_ireturn hX hP dX10_end_8 rfl (Nat.le_of_ble_eq_true rfl) (Nat.le_of_ble_eq_true rfl) (Or.inl ⟨h, rfl, rfl⟩)
  · exact g_ireturn hX hP dX10_end_8 rfl (Nat.le_of_ble_eq_true rfl) (Nat.le_of_ble_eq_true rfl) (Or.inr ⟨h, rfl, rfl⟩)
/-! the reference -/
theorem pu_step {k d mc ms : Nat} {v sh sh' w : Int32} (hX : ga_B E d yX11_put cX11_put 3 mc ms X) (hn : 106 ≤ n) (hk : k < 600) (hs : ¬ sh < 0) (hs' : sh + Int32.ofInt (-8) = sh') (hw : (v >>> (sh &&& 31)) &&& 255 = w)
    (kont : ga_G E X 0 0 3 [some (.ref 79), some (.int v), some (.int sh')] [] (n, L1, ((m_O (nI (k + 1)) o_rd o_fe o_em o_sp o_ac o_td o_sm o_tt o_at o_sz o_fk o_fp o_nw o_md o_nt o_pl o_op) :: ga_i 600 (upd tb k w) :: L2), f)) : ga_G E X 0 0 3 [some (.ref 79), some (.int v), some (.int sh)] [] (n, L1, ((m_O (nI k) o_rd o_fe o_em o_sp o_ac o_td o_sm o_tt o_at o_sz o_fk o_fp o_nw o_md o_nt o_pl o_op) :: ga_i 600 tb :: L2), f) := by
  refine g_iload_n (nx := 4) hX 2 dX11_put_3 rfl rfl rfl ?_
  refine g_if_lt (nx := 7) hX 39 dX11_put_4 (by decide) rfl (fun h4 => ?_) (fun h4 => ?_)
  · exact absurd h4 hs
  · refine g_aload_n (nx := 8) hX 0 dX11_put_7 rfl rfl rfl ?_
    refine g_getfield (nx := 11) hX dX11_put_8 rfl fX11_7 (ga_dn hn rfl) rfl rfl ?_
    refine g_aload_n (nx := 12) hX 0 dX11_put_11 rfl rfl rfl ?_
    refine g_getfield (nx := 15) hX dX11_put_12 rfl fX11_13 (ga_dn hn rfl) rfl rfl ?_
    refine g_iload_n (nx := 16) hX 1 dX11_put_15 rfl rfl rfl ?_
    refine g_iload_n (nx := 17) hX 2 dX11_put_16 rfl rfl rfl ?_
    refine g_ishr (nx := 18) hX dX11_put_17 rfl ?_
    refine g_sipush (nx := 21) hX 255 dX11_put_18 rfl (by decide) ?_
    refine g_iand (nx := 22) hX dX11_put_21 rfl ?_
    rw [hw]
    refine g_iastore (nx := 23) hX dX11_put_22 rfl (ga_dn hn rfl) rfl (ga_ix_of rfl (by omega) (by omega)) ?_
    refine g_aload_n (nx := 24) hX 0 dX11_put_23 rfl rfl rfl ?_
    refine g_dup (nx := 25) hX dX11_put_24 rfl rfl ?_
    refine g_getfield (nx := 28) hX dX11_put_25 rfl fX11_13 (ga_dn hn rfl) rfl rfl ?_
    refine g_iconst (nx := 29) hX 1 dX11_put_28 rfl (by decide) ?_
    refine g_iadd (nx := 30) hX dX11_put_29 rfl ?_
    rw [nI_1]
    refine g_putfield (nx := 33) hX dX11_put_30 rfl pX11_13 (ga_dn hn rfl) rfl rfl rfl rfl ?_
    refine g_iinc (nx := 36) hX 2 (sh') dX11_put_33 rfl rfl rfl (hs') ?_
    refine g_goto (nx := 3) hX dX11_put_36 (by decide) ?_
    exact kont
theorem c_X11_put {k : Nat} {v : Int32} (hn : 106 ≤ n) (hk : k + 4 ≤ 600) : ga_Mx E 0 yX11_put cX11_put 3 none 0 0 [.ref 79, .int v] (n, L1, ((m_O (nI k) o_rd o_fe o_em o_sp o_ac o_td o_sm o_tt o_at o_sz o_fk o_fp o_nw o_md o_nt o_pl o_op) :: ga_i 600 tb :: L2), f) none (n, L1, ((m_O (nI (k + 4)) o_rd o_fe o_em o_sp o_ac o_td o_sm o_tt o_at o_sz o_fk o_fp o_nw o_md o_nt o_pl o_op) :: ga_i 600 (t_4 tb k v) :: L2), f) := by
  refine ga_Mt.of (by decide) rfl (fun X hX hP => ?_)
  refine g_less [some (.ref 79), some (.int v), none] ⟨rfl, rfl, trivial⟩ ?_
  refine g_bipush (nx := 2) hX 24 dX11_put_0 rfl (by decide) ?_
  refine g_istore_n (nx := 3) hX 2 dX11_put_2 rfl rfl rfl ?_
  refine pu_step (sh' := 16) hX hn (by omega) (by decide) (by decide) (t_sshr v).1 ?_
  refine pu_step (sh' := 8) hX hn (by omega) (by decide) (by decide) (t_sshr v).2.1 ?_
  refine pu_step (sh' := 0) hX hn (by omega) (by decide) (by decide) (t_sshr v).2.2.1 ?_
  refine pu_step (sh' := (-8)) hX hn (by omega) (by decide) (by decide) (t_sshr v).2.2.2 ?_
  refine g_iload_n (nx := 4) hX 2 dX11_put_3 rfl rfl rfl ?_
  refine g_if_lt (nx := 7) hX 39 dX11_put_4 (by decide) rfl (fun h4 => ?_) (fun h4 => absurd (by decide) h4)
  exact g_return hX hP dX11_put_39 (Nat.le_of_ble_eq_true rfl) (Nat.le_of_ble_eq_true rfl) ⟨rfl, rfl⟩
theorem c_X11_feed {k : Nat} {a b c d e : Int32} (hn : 106 ≤ n) (hk : k ≤ 600) : ga_Mt E 1 yX11_feed cX11_feed 6 (some .int) 0 0 [.ref 79, .int a, .int b, .int c, .int d, .int e] (n, L1, ((m_O (nI k) o_rd o_fe o_em o_sp o_ac o_td o_sm o_tt o_at o_sz o_fk o_fp o_nw o_md o_nt o_pl o_op) :: ga_i 600 tb :: L2), f)
    (fun r M => k + 20 ≤ 600 ∧ r = some (.int (nI (k + 20))) ∧ M = (n, L1, ((m_O (nI (k + 20)) o_rd o_fe o_em o_sp o_ac o_td o_sm o_tt o_at o_sz o_fk o_fp o_nw o_md o_nt o_pl o_op) :: ga_i 600 (t_20 tb k a b c d e) :: L2), f) ∨ ¬ k + 20 ≤ 600 ∧ r = some (.int (-1)) ∧ M = (n, L1, ((m_O (nI k) o_rd o_fe o_em o_sp o_ac o_td o_sm o_tt o_at o_sz o_fk o_fp o_nw o_md o_nt o_pl o_op) :: ga_i 600 tb :: L2), f)) := by
  refine ga_Mt.of (by decide) rfl (fun X hX hP => ?_)
  refine g_less [some (.ref 79), some (.int a), some (.int b), some (.int c), some (.int d), some (.int e)] ⟨rfl, rfl, rfl, rfl, rfl, rfl, trivial⟩ ?_
  refine g_aload_n (nx := 1) hX 0 dX11_feed_0 rfl rfl rfl ?_
  refine g_getfield (nx := 4) hX dX11_feed_1 rfl fX11_13 (ga_dn hn rfl) rfl rfl ?_
  refine g_bipush (nx := 6) hX 20 dX11_feed_4 rfl (by decide) ?_
  refine g_iadd (nx := 7) hX dX11_feed_6 rfl ?_
  refine g_sipush (nx := 10) hX 600 dX11_feed_7 rfl (by decide) ?_
  refine g_icmp_le (nx := 13) hX 15 dX11_feed_10 (by decide) rfl (fun h10 => ?_) (fun h10 => ?_)
  · have hk20 : k + 20 ≤ 600 := (nI_leI (a := k + 20) (b := 600) (by omega) (by omega)).mp (by rw [← nI_add]; exact h10)
    refine g_aload_n (nx := 16) hX 0 dX11_feed_15 rfl rfl rfl ?_
    refine g_iload_n (nx := 17) hX 1 dX11_feed_16 rfl rfl rfl ?_
    refine g_V1 (nx := 20) hX dX11_feed_17 rfl mX11_145 yX11_put_ok (c_X11_put hn (by omega)) (ga_dn hn rfl) rfl rfl rfl (by decide) rfl (Nat.le_of_ble_eq_true rfl) (Nat.le_of_ble_eq_true rfl) ?_
    rintro _ _ ⟨rfl, rfl⟩
    refine g_aload_n (nx := 21) hX 0 dX11_feed_20 rfl rfl rfl ?_
    refine g_iload_n (nx := 22) hX 2 dX11_feed_21 rfl rfl rfl ?_
    refine g_V1 (nx := 25) hX dX11_feed_22 rfl mX11_145 yX11_put_ok (c_X11_put (k := k + 4) hn (by omega)) (ga_dn hn rfl) rfl rfl rfl (by decide) rfl (Nat.le_of_ble_eq_true rfl) (Nat.le_of_ble_eq_true rfl) ?_
    rintro _ _ ⟨rfl, rfl⟩
    refine g_aload_n (nx := 26) hX 0 dX11_feed_25 rfl rfl rfl ?_
    refine g_iload_n (nx := 27) hX 3 dX11_feed_26 rfl rfl rfl ?_
    refine g_V1 (nx := 30) hX dX11_feed_27 rfl mX11_145 yX11_put_ok (c_X11_put (k := k + 8) hn (by omega)) (ga_dn hn rfl) rfl rfl rfl (by decide) rfl (Nat.le_of_ble_eq_true rfl) (Nat.le_of_ble_eq_true rfl) ?_
    rintro _ _ ⟨rfl, rfl⟩
    refine g_aload_n (nx := 31) hX 0 dX11_feed_30 rfl rfl rfl ?_
    refine g_iload (nx := 33) hX 4 dX11_feed_31 rfl rfl ?_
    refine g_V1 (nx := 36) hX dX11_feed_33 rfl mX11_145 yX11_put_ok (c_X11_put (k := k + 12) hn (by omega)) (ga_dn hn rfl) rfl rfl rfl (by decide) rfl (Nat.le_of_ble_eq_true rfl) (Nat.le_of_ble_eq_true rfl) ?_
    rintro _ _ ⟨rfl, rfl⟩
    refine g_aload_n (nx := 37) hX 0 dX11_feed_36 rfl rfl rfl ?_
    refine g_iload (nx := 39) hX 5 dX11_feed_37 rfl rfl ?_
    refine g_V1 (nx := 42) hX dX11_feed_39 rfl mX11_145 yX11_put_ok (c_X11_put (k := k + 16) hn (by omega)) (ga_dn hn rfl) rfl rfl rfl (by decide) rfl (Nat.le_of_ble_eq_true rfl) (Nat.le_of_ble_eq_true rfl) ?_
    rintro _ _ ⟨rfl, rfl⟩
    refine g_aload_n (nx := 43) hX 0 dX11_feed_42 rfl rfl rfl ?_
    refine g_getfield (nx := 46) hX dX11_feed_43 rfl fX11_13 (ga_dn hn rfl) rfl rfl ?_
    exact g_ireturn hX hP dX11_feed_46 rfl (Nat.le_of_ble_eq_true rfl) (Nat.le_of_ble_eq_true rfl) (Or.inl ⟨hk20, rfl, rfl⟩)
  · have hk20 : ¬ k + 20 ≤ 600 := fun q => h10 (by have := (nI_leI (a := k + 20) (b := 600) (by omega) (by omega)).mpr q; rw [← nI_add] at this; exact this)
    refine g_iconst (nx := 14) hX (-1) dX11_feed_13 rfl (by decide) ?_
    exact g_ireturn hX hP dX11_feed_14 rfl (Nat.le_of_ble_eq_true rfl) (Nat.le_of_ble_eq_true rfl) (Or.inr ⟨hk20, rfl, rfl⟩)
theorem c_X11_end {k : Nat} {v : Int32} (hn : 106 ≤ n) : ga_Mt E 0 yX11_end cX11_end 2 (some .boolean) 0 0 [.ref 79, .int v] (n, L1, ((m_O (nI k) o_rd o_fe o_em o_sp o_ac o_td o_sm o_tt o_at o_sz o_fk o_fp o_nw o_md o_nt o_pl o_op) :: L2), f) (fun r M => (0 ≤ v ∧ v ≤ nI k) ∧ r = some (.int 1) ∧ M = (n, L1, ((m_O (v) o_rd o_fe o_em o_sp o_ac o_td o_sm o_tt o_at o_sz o_fk o_fp o_nw o_md o_nt o_pl o_op) :: L2), f) ∨ ¬ (0 ≤ v ∧ v ≤ nI k) ∧ r = some (.int 0) ∧ M = (n, L1, ((m_O (nI k) o_rd o_fe o_em o_sp o_ac o_td o_sm o_tt o_at o_sz o_fk o_fp o_nw o_md o_nt o_pl o_op) :: L2), f)) := by
  refine ga_Mt.of (by decide) rfl (fun X hX hP => ?_)
  refine g_less [some (.ref 79), some (.int v)] ⟨rfl, rfl, trivial⟩ ?_
  refine g_iload_n (nx := 1) hX 1 dX11_end_0 rfl rfl rfl ?_
  refine g_if_lt (nx := 4) hX 12 dX11_end_1 (by decide) rfl (fun h1 => ?_) (fun h1 => ?_)
  · refine g_iconst (nx := 13) hX 0 dX11_end_12 rfl (by decide) ?_
    exact g_ireturn hX hP dX11_end_13 rfl (Nat.le_of_ble_eq_true rfl) (Nat.le_of_ble_eq_true rfl) (Or.inr ⟨fun q => ga_ltn h1 q.1, rfl, rfl⟩)
  · refine g_iload_n (nx := 5) hX 1 dX11_end_4 rfl rfl rfl ?_
    refine g_aload_n (nx := 6) hX 0 dX11_end_5 rfl rfl rfl ?_
    refine g_getfield (nx := 9) hX dX11_end_6 rfl fX11_13 (ga_dn hn rfl) rfl rfl ?_
    refine g_icmp_le (nx := 12) hX 14 dX11_end_9 (by decide) rfl (fun h9 => ?_) (fun h9 => ?_)
    · refine g_aload_n (nx := 15) hX 0 dX11_end_14 rfl rfl rfl ?_
      refine g_iload_n (nx := 16) hX 1 dX11_end_15 rfl rfl rfl ?_
      refine g_putfield (nx := 19) hX dX11_end_16 rfl pX11_13 (ga_dn hn rfl) rfl rfl rfl rfl ?_
      refine g_iconst (nx := 20) hX 1 dX11_end_19 rfl (by decide) ?_
      exact g_ireturn hX hP dX11_end_20 rfl (Nat.le_of_ble_eq_true rfl) (Nat.le_of_ble_eq_true rfl) (Or.inl ⟨⟨ga_nlt h1, h9⟩, rfl, rfl⟩)
    · refine g_iconst (nx := 13) hX 0 dX11_end_12 rfl (by decide) ?_
      exact g_ireturn hX hP dX11_end_13 rfl (Nat.le_of_ble_eq_true rfl) (Nat.le_of_ble_eq_true rfl) (Or.inr ⟨fun q => h9 q.2, rfl, rfl⟩)
end
