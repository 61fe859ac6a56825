/-! ===== what the reference is asked: count, given, total, isOut, against, place, since ===== -/
theorem i64_32 (x : Int32) : x.toInt64.toInt32 = x := by simp
theorem s_cn_F {A : w_A} {ah ou : Nat → Int32} {op : Int32} {fn r t : Nat} {R : e_R} {w : Int32} (ht : t ≤ 400) (hf : fn ≤ 30) : s_cn (s_F (A, ah, ou, op, fn) R r t) w = if 0 ≤ w ∧ w ≤ 17 then m_F A ah ou op fn r t w.toNatClampNeg else -2000000 := by
  have hev : ∀ (v0 : Nat → Int64) (k j : Nat), j < 15 → e_vs R.1 R.2.1 v0 k j = v0 j := by
    intro v0 k j hj
    induction k with
    | zero => rfl
    | succ k ih => rw [e_vs, pk_uLn (by omega), ih]
  unfold s_cn
  by_cases h1 : 0 ≤ w ∧ w ≤ 14
  · obtain ⟨j, hj, e, e2⟩ := v_ofle (k := 14) h1.1 h1.2 (by omega)
    rw [if_pos h1, if_pos ⟨h1.1, v_tr h1.2 (by decide)⟩, e2]
    show (e_vs R.1 R.2.1 (s_v (s_0 (A, ah, ou, op, fn) r t)) R.2.2.2.1 j).toInt32 = _
    rw [hev _ _ j (by omega), ← m_F_v ht hf (by omega), i64_32]
  · rw [if_neg h1]
    have tl : ∀ j, j = 15 ∨ j = 16 ∨ j = 17 → m_F A ah ou op fn r t j = if j = 15 then (s_0 (A, ah, ou, op, fn) r t).2.2.2.1 else if j = 16 then (s_0 (A, ah, ou, op, fn) r t).2.2.2.2.1 else (s_0 (A, ah, ou, op, fn) r t).2.2.2.2.2.1 := by
      intro j hj
      unfold m_F s_0 y_S
      dsimp only
      generalize y_at A ah r t t = T
      obtain ⟨mr, rg, kn, lk, rt, s, fi, hd, sn⟩ := T
      rcases hj with rfl | rfl | rfl <;> rfl
    by_cases h15 : w = 15
    · rw [if_pos h15, h15, if_pos (by decide), tl _ (Or.inl (by decide))]; rfl
    rw [if_neg h15]
    by_cases h16 : w = 16
    · rw [if_pos h16, h16, if_pos (by decide), tl _ (Or.inr (Or.inl (by decide)))]; rfl
    rw [if_neg h16]
    by_cases h17 : w = 17
    · rw [if_pos h17, h17, if_pos (by decide), tl _ (Or.inr (Or.inr (by decide)))]; rfl
    rw [if_neg h17, if_neg]
    rintro ⟨z1, z2⟩
    obtain ⟨j, hj, e, e2⟩ := v_ofle (k := 17) z1 z2 (by omega)
    have : j = 15 ∨ j = 16 ∨ j = 17 ∨ j ≤ 14 := by omega
    rcases this with q | q | q | q
    · exact h15 (by rw [e, q]; rfl)
    · exact h16 (by rw [e, q]; rfl)
    · exact h17 (by rw [e, q]; rfl)
    · exact h1 ⟨z1, by rw [e]; exact nI_le (b := 14) q (by omega)⟩
section
variable {E : ga_E} {X : ga_X} {n : Nat} {c0 c1 c2 c3 c4 c5 c6 c7 c8 c9 c10 c11 c12 c13 c14 c15 c16 c17 c18 c19 c20 c21 c22 c23 c24 c25 c26 c27 c28 c29 c30 m79 m80 m81 m82 m83 m84 m85 m86 m87 m88 m89 m90 m91 m92 m93 m94 m95 m96 m97 m98 m99 m100 m101 m102 m103 m104 m105 : ga_C} {L1 L2 : List ga_C} {f : Nat → ga_C} {o_tp o_rd o_fe o_em o_sp o_ac o_td o_sm o_tt o_at o_sz o_fk o_fp o_nw o_md o_nt o_pl o_op d_at d_tk d_ta d_fd d_fa : Int32} {d_tv : Int64} {d_rl : Value}
variable {em sp ask tt_ : Int32} {rn fn an sm r q t : Nat} {tm mt ou ah mw mq mf ma mb ms_ ta af fo bo sg io : Nat → Int32} {hp gv : Nat → Int64}
variable {cd : Nat → Nat × Nat} {en : Nat → Nat} {vals : Nat → Int64} {tot : Int32} {F : Nat → sh_S} {v w : Int32}
theorem c_X11_count (hn : 106 ≤ n) (H : m_H (mw, mq, mf, ma, mb, ms_) ah mt em sp an rn fn (cd, en, fo, sm, tot) sg bo) (hT : (if ask = -1 then nI an else ask) = nI t) (ht : t ≤ an) : ga_Mt E 2 yX11_count cX11_count 3 (some .int) 0 0 [.ref 79, .int v, .int w] (n, L1, ((m_O o_tp (nI rn) (nI fn) (em) (sp) (nI an) (ask) (nI sm) (tt_) o_at o_sz o_fk o_fp o_nw o_md o_nt o_pl o_op) :: m80 :: ga_i 24 tm :: ga_i 30 mt :: ga_i 30 ou :: ga_i 32 ah :: ga_i 401 mw :: ga_i 401 mq :: ga_i 401 mf :: ga_i 401 ma :: ga_i 401 mb :: ga_i 401 ms_ :: ga_i 18 ta :: ga_i 120 af :: ga_i 24 fo :: ga_i 25 bo :: ga_i 1300 sg :: m96 :: m97 :: m98 :: m99 :: m100 :: m101 :: m102 :: ga_l 310 hp :: ga_l 576 gv :: ga_z 24 io :: []), f)
    (fun o M => o = some (.int (if 0 ≤ v ∧ v < nI rn then s_cn (s_F ((mw, mq, mf, ma, mb, ms_), ah, ou, w_op (w_s mt fn) em sp, fn) (cd, en, fo, sm, tot) v.toNatClampNeg t) w else -2000000)) ∧ ∃ ta af hp gv io, M = (n, L1, ((m_O o_tp (nI rn) (nI fn) (em) (sp) (nI an) (ask) (nI sm) (tt_) o_at o_sz o_fk o_fp o_nw o_md o_nt o_pl o_op) :: m80 :: ga_i 24 tm :: ga_i 30 mt :: ga_i 30 ou :: ga_i 32 ah :: ga_i 401 mw :: ga_i 401 mq :: ga_i 401 mf :: ga_i 401 ma :: ga_i 401 mb :: ga_i 401 ms_ :: ga_i 18 ta :: ga_i 120 af :: ga_i 24 fo :: ga_i 25 bo :: ga_i 1300 sg :: m96 :: m97 :: m98 :: m99 :: m100 :: m101 :: m102 :: ga_l 310 hp :: ga_l 576 gv :: ga_z 24 io :: []), f)) := by
  have hr := H.2.1
  have ha := H.1
  rw [s_cn_F (by omega) H.2.2.1]
  refine ga_Mt.of (by decide) rfl (fun X hX hP => ?_)
  refine g_less [some (.ref 79), some (.int v), some (.int w)] ⟨rfl, rfl, rfl, trivial⟩ ?_
  refine g_aload_n (nx := 1) hX 0 dX11_count_0 rfl rfl rfl ?_
  refine g_iload_n (nx := 2) hX 1 dX11_count_1 rfl rfl rfl ?_
  refine g_V1 (nx := 5) hX dX11_count_2 rfl mX11_175 yX11_isRider_ok (c_X11_isRider hn) (ga_dn hn rfl) rfl rfl rfl (by decide) rfl (Nat.le_of_ble_eq_true rfl) (Nat.le_of_ble_eq_true rfl) ?_
  rintro _ _ ⟨rfl, rfl⟩
  refine g_if_eq (nx := 8) hX 18 dX11_count_5 (by decide) rfl (fun h5 => ?_) (fun h5 => ?_)
  · have hv := ga_b_0 h5
    refine g_ldc (nx := 20) hX (-2000000) dX11_count_18 rfl kX11_178 ?_
    exact g_ireturn hX hP dX11_count_20 rfl (Nat.le_of_ble_eq_true rfl) (Nat.le_of_ble_eq_true rfl) ⟨by rw [if_neg hv], ta, af, hp, gv, io, rfl⟩
  · have hv := ga_b_n0 h5
    obtain ⟨j, hj, e, e2⟩ := v_of hv.1 hv.2 (by omega)
    refine g_iload_n (nx := 9) hX 2 dX11_count_8 rfl rfl rfl ?_
    refine g_iconst (nx := 10) hX 0 dX11_count_9 rfl (by decide) ?_
    refine g_bipush (nx := 12) hX 17 dX11_count_10 rfl (by decide) ?_
    refine g_S3 (nx := 15) hX dX11_count_12 rfl mX11_149 yX11_is_ok (c_X11_is) (by decide) rfl (Nat.le_of_ble_eq_true rfl) (Nat.le_of_ble_eq_true rfl) ?_
    rintro _ _ ⟨rfl, rfl⟩
    refine g_if_ne (nx := 18) hX 21 dX11_count_15 (by decide) rfl (fun h15 => ?_) (fun h15 => ?_)
    · have hw := ga_b_n0 h15
      refine g_aload_n (nx := 22) hX 0 dX11_count_21 rfl rfl rfl ?_
      refine g_iload_n (nx := 23) hX 1 dX11_count_22 rfl rfl rfl ?_
      refine g_aload_n (nx := 24) hX 0 dX11_count_23 rfl rfl rfl ?_
      refine g_V0 (nx := 27) hX dX11_count_24 rfl mX11_179 yX11_known_ok (c_X11_known hn) (ga_dn hn rfl) rfl rfl rfl (by decide) rfl (Nat.le_of_ble_eq_true rfl) (Nat.le_of_ble_eq_true rfl) ?_
      rintro _ _ ⟨rfl, rfl⟩
      rw [hT, e]
      refine g_V2 (nx := 30) hX dX11_count_27 rfl mX11_182 yX11_tallies_ok (c_X11_tallies (r := j) hn ha ht H.2.2.1 H.2.2.2.1 H.2.2.2.2.1 H.2.2.2.2.2.1 H.2.2.2.2.2.2.1 H.2.2.2.2.2.2.2.1) (ga_dn hn rfl) rfl rfl rfl (by decide) rfl (Nat.le_of_ble_eq_true rfl) (Nat.le_of_ble_eq_true rfl) ?_
      rintro _ _ ⟨rfl, rfl⟩
      refine g_aload_n (nx := 31) hX 0 dX11_count_30 rfl rfl rfl ?_
      refine g_getfield (nx := 34) hX dX11_count_31 rfl fX11_65 (ga_dn hn rfl) rfl rfl ?_
      refine g_iload_n (nx := 35) hX 2 dX11_count_34 rfl rfl rfl ?_
      refine g_iaload (nx := 36) hX dX11_count_35 rfl (ga_dn hn rfl) rfl (ix_le (k := 17) hw.1 hw.2 (by omega) (by omega)) ?_
      exact g_ireturn hX hP dX11_count_36 rfl (Nat.le_of_ble_eq_true rfl) (Nat.le_of_ble_eq_true rfl) ⟨by rw [if_pos hv, if_pos hw, e2], _, _, hp, gv, io, rfl⟩
    · have hw := ga_b_0 h15
      refine g_ldc (nx := 20) hX (-2000000) dX11_count_18 rfl kX11_178 ?_
      exact g_ireturn hX hP dX11_count_20 rfl (Nat.le_of_ble_eq_true rfl) (Nat.le_of_ble_eq_true rfl) ⟨by rw [if_pos hv, if_neg hw], ta, af, hp, gv, io, rfl⟩
theorem c_X11_given (hn : 106 ≤ n) (H : m_H (mw, mq, mf, ma, mb, ms_) ah mt em sp an rn fn (cd, en, fo, sm, tot) sg bo) (hT : (if ask = -1 then nI an else ask) = nI t) (ht : t ≤ an) : ga_Mt E 4 yX11_given cX11_given 3 (some .long) 0 0 [.ref 79, .int v, .int w] (n, L1, ((m_O o_tp (nI rn) (nI fn) (em) (sp) (nI an) (ask) (nI sm) (tt_) o_at o_sz o_fk o_fp o_nw o_md o_nt o_pl o_op) :: m80 :: ga_i 24 tm :: ga_i 30 mt :: ga_i 30 ou :: ga_i 32 ah :: ga_i 401 mw :: ga_i 401 mq :: ga_i 401 mf :: ga_i 401 ma :: ga_i 401 mb :: ga_i 401 ms_ :: ga_i 18 ta :: ga_i 120 af :: ga_i 24 fo :: ga_i 25 bo :: ga_i 1300 sg :: m96 :: m97 :: m98 :: m99 :: m100 :: m101 :: m102 :: ga_l 310 hp :: ga_l 576 gv :: ga_z 24 io :: []), f)
    (fun o M => o = some (.long (if 0 ≤ v ∧ v < nI rn then b_gv (s_F ((mw, mq, mf, ma, mb, ms_), ah, ou, w_op (w_s mt fn) em sp, fn) (cd, en, fo, sm, tot) v.toNatClampNeg t) sm w else -2000000000000)) ∧ ∃ ta af hp gv io, M = (n, L1, ((m_O o_tp (nI rn) (nI fn) (em) (sp) (nI an) (ask) (nI sm) (tt_) o_at o_sz o_fk o_fp o_nw o_md o_nt o_pl o_op) :: m80 :: ga_i 24 tm :: ga_i 30 mt :: ga_i 30 ou :: ga_i 32 ah :: ga_i 401 mw :: ga_i 401 mq :: ga_i 401 mf :: ga_i 401 ma :: ga_i 401 mb :: ga_i 401 ms_ :: ga_i 18 ta :: ga_i 120 af :: ga_i 24 fo :: ga_i 25 bo :: ga_i 1300 sg :: m96 :: m97 :: m98 :: m99 :: m100 :: m101 :: m102 :: ga_l 310 hp :: ga_l 576 gv :: ga_z 24 io :: []), f)) := by
  have hr := H.2.1
  have hs : sm ≤ 24 := H.2.2.2.2.2.2.2.2.2.2.1
  refine ga_Mt.of (by decide) rfl (fun X hX hP => ?_)
  refine g_less [some (.ref 79), some (.int v), some (.int w)] ⟨rfl, rfl, rfl, trivial⟩ ?_
  refine g_aload_n (nx := 1) hX 0 dX11_given_0 rfl rfl rfl ?_
  refine g_iload_n (nx := 2) hX 1 dX11_given_1 rfl rfl rfl ?_
  refine g_V1 (nx := 5) hX dX11_given_2 rfl mX11_175 yX11_isRider_ok (c_X11_isRider hn) (ga_dn hn rfl) rfl rfl rfl (by decide) rfl (Nat.le_of_ble_eq_true rfl) (Nat.le_of_ble_eq_true rfl) ?_
  rintro _ _ ⟨rfl, rfl⟩
  refine g_if_eq (nx := 8) hX 20 dX11_given_5 (by decide) rfl (fun h5 => ?_) (fun h5 => ?_)
  · have hv := ga_b_0 h5
    refine g_ldc2_w (nx := 23) hX (-2000000000000) dX11_given_20 rfl kX11_329 ?_
    exact g_lreturn hX hP dX11_given_23 (Nat.le_of_ble_eq_true rfl) (Nat.le_of_ble_eq_true rfl) ⟨by rw [if_neg hv], ta, af, hp, gv, io, rfl⟩
  · have hv := ga_b_n0 h5
    obtain ⟨j, hj, e, e2⟩ := v_of hv.1 hv.2 (by omega)
    refine g_iload_n (nx := 9) hX 2 dX11_given_8 rfl rfl rfl ?_
    refine g_if_lt (nx := 12) hX 20 dX11_given_9 (by decide) rfl (fun h9 => ?_) (fun h9 => ?_)
    · refine g_ldc2_w (nx := 23) hX (-2000000000000) dX11_given_20 rfl kX11_329 ?_
      exact g_lreturn hX hP dX11_given_23 (Nat.le_of_ble_eq_true rfl) (Nat.le_of_ble_eq_true rfl) ⟨by unfold b_gv; rw [if_pos hv, if_neg (fun z => ga_ltn h9 z.1)], ta, af, hp, gv, io, rfl⟩
    · refine g_iload_n (nx := 13) hX 2 dX11_given_12 rfl rfl rfl ?_
      refine g_aload_n (nx := 14) hX 0 dX11_given_13 rfl rfl rfl ?_
      refine g_getfield (nx := 17) hX dX11_given_14 rfl fX11_71 (ga_dn hn rfl) rfl rfl ?_
      refine g_icmp_lt (nx := 20) hX 24 dX11_given_17 (by decide) rfl (fun h17 => ?_) (fun h17 => ?_)
      · obtain ⟨i, hi, ei, ei2⟩ := v_of (ga_nlt h9) h17 (by omega)
        refine g_aload_n (nx := 25) hX 0 dX11_given_24 rfl rfl rfl ?_
        refine g_iload_n (nx := 26) hX 1 dX11_given_25 rfl rfl rfl ?_
        refine g_aload_n (nx := 27) hX 0 dX11_given_26 rfl rfl rfl ?_
        refine g_V0 (nx := 30) hX dX11_given_27 rfl mX11_179 yX11_known_ok (c_X11_known hn) (ga_dn hn rfl) rfl rfl rfl (by decide) rfl (Nat.le_of_ble_eq_true rfl) (Nat.le_of_ble_eq_true rfl) ?_
        rintro _ _ ⟨rfl, rfl⟩
        rw [hT, e]
        refine g_V2 (nx := 33) hX dX11_given_30 rfl mX11_326 yX11_worksAll_ok (c_X11_worksAll (r := j) hn H (by omega) ht) (ga_dn hn rfl) rfl rfl rfl (by decide) rfl (Nat.le_of_ble_eq_true rfl) (Nat.le_of_ble_eq_true rfl) ?_
        rintro _ _ ⟨rfl, ta', af', hp', gv', io', hk, rfl⟩
        refine g_aload_n (nx := 34) hX 0 dX11_given_33 rfl rfl rfl ?_
        refine g_getfield (nx := 37) hX dX11_given_34 rfl fX11_139 (ga_dn hn rfl) rfl rfl ?_
        refine g_bipush (nx := 39) hX 24 dX11_given_37 rfl (by decide) ?_
        refine g_iload_n (nx := 40) hX 1 dX11_given_39 rfl rfl rfl ?_
        refine g_imul (nx := 41) hX dX11_given_40 rfl ?_
        refine g_iload_n (nx := 42) hX 2 dX11_given_41 rfl rfl rfl ?_
        refine g_iadd (nx := 43) hX dX11_given_42 rfl ?_
        rw [ei]
        refine g_laload (nx := 44) hX dX11_given_43 rfl (ga_dn hn rfl) rfl (ga_ix_of (j := 24 * j + i) ix_24 (by omega) (by omega)) ?_
        exact g_lreturn hX hP dX11_given_44 (Nat.le_of_ble_eq_true rfl) (Nat.le_of_ble_eq_true rfl) ⟨by unfold b_gv; rw [if_pos hv, if_pos ⟨ga_nlt h9, h17⟩, e2, ei2, hk.1 i hi], ta', af', hp', gv', io', rfl⟩
      · refine g_ldc2_w (nx := 23) hX (-2000000000000) dX11_given_20 rfl kX11_329 ?_
        exact g_lreturn hX hP dX11_given_23 (Nat.le_of_ble_eq_true rfl) (Nat.le_of_ble_eq_true rfl) ⟨by unfold b_gv; rw [if_pos hv, if_neg (fun z => h17 z.2)], ta, af, hp, gv, io, rfl⟩
theorem F_tt {W : w_W} {R : e_R} {r t : Nat} : s_tt (s_F W R r t) = s_tot (s_v (s_F W R r t)) R.2.2.2.2 := rfl
theorem c_X11_total (hn : 106 ≤ n) (H : m_H (mw, mq, mf, ma, mb, ms_) ah mt em sp an rn fn (cd, en, fo, sm, tot) sg bo) (htt : e_tt tot tt_ sm) (hT : (if ask = -1 then nI an else ask) = nI t) (ht : t ≤ an) : ga_Mt E 4 yX11_total cX11_total 2 (some .long) 0 0 [.ref 79, .int v] (n, L1, ((m_O o_tp (nI rn) (nI fn) (em) (sp) (nI an) (ask) (nI sm) (tt_) o_at o_sz o_fk o_fp o_nw o_md o_nt o_pl o_op) :: m80 :: ga_i 24 tm :: ga_i 30 mt :: ga_i 30 ou :: ga_i 32 ah :: ga_i 401 mw :: ga_i 401 mq :: ga_i 401 mf :: ga_i 401 ma :: ga_i 401 mb :: ga_i 401 ms_ :: ga_i 18 ta :: ga_i 120 af :: ga_i 24 fo :: ga_i 25 bo :: ga_i 1300 sg :: m96 :: m97 :: m98 :: m99 :: m100 :: m101 :: m102 :: ga_l 310 hp :: ga_l 576 gv :: ga_z 24 io :: []), f)
    (fun o M => o = some (.long (if 0 ≤ v ∧ v < nI rn then s_tt (s_F ((mw, mq, mf, ma, mb, ms_), ah, ou, w_op (w_s mt fn) em sp, fn) (cd, en, fo, sm, tot) v.toNatClampNeg t) else -2000000000000)) ∧ ∃ ta af hp gv io, M = (n, L1, ((m_O o_tp (nI rn) (nI fn) (em) (sp) (nI an) (ask) (nI sm) (tt_) o_at o_sz o_fk o_fp o_nw o_md o_nt o_pl o_op) :: m80 :: ga_i 24 tm :: ga_i 30 mt :: ga_i 30 ou :: ga_i 32 ah :: ga_i 401 mw :: ga_i 401 mq :: ga_i 401 mf :: ga_i 401 ma :: ga_i 401 mb :: ga_i 401 ms_ :: ga_i 18 ta :: ga_i 120 af :: ga_i 24 fo :: ga_i 25 bo :: ga_i 1300 sg :: m96 :: m97 :: m98 :: m99 :: m100 :: m101 :: m102 :: ga_l 310 hp :: ga_l 576 gv :: ga_z 24 io :: []), f)) := by
  have hr := H.2.1
  have hs : sm ≤ 24 := H.2.2.2.2.2.2.2.2.2.2.1
  refine ga_Mt.of (by decide) rfl (fun X hX hP => ?_)
  refine g_less [some (.ref 79), some (.int v)] ⟨rfl, rfl, trivial⟩ ?_
  refine g_aload_n (nx := 1) hX 0 dX11_total_0 rfl rfl rfl ?_
  refine g_iload_n (nx := 2) hX 1 dX11_total_1 rfl rfl rfl ?_
  refine g_V1 (nx := 5) hX dX11_total_2 rfl mX11_175 yX11_isRider_ok (c_X11_isRider hn) (ga_dn hn rfl) rfl rfl rfl (by decide) rfl (Nat.le_of_ble_eq_true rfl) (Nat.le_of_ble_eq_true rfl) ?_
  rintro _ _ ⟨rfl, rfl⟩
  refine g_if_ne (nx := 8) hX 12 dX11_total_5 (by decide) rfl (fun h5 => ?_) (fun h5 => ?_)
  · have hv := ga_b_n0 h5
    obtain ⟨j, hj, e, e2⟩ := v_of hv.1 hv.2 (by omega)
    refine g_aload_n (nx := 13) hX 0 dX11_total_12 rfl rfl rfl ?_
    refine g_iload_n (nx := 14) hX 1 dX11_total_13 rfl rfl rfl ?_
    refine g_aload_n (nx := 15) hX 0 dX11_total_14 rfl rfl rfl ?_
    refine g_V0 (nx := 18) hX dX11_total_15 rfl mX11_179 yX11_known_ok (c_X11_known hn) (ga_dn hn rfl) rfl rfl rfl (by decide) rfl (Nat.le_of_ble_eq_true rfl) (Nat.le_of_ble_eq_true rfl) ?_
    rintro _ _ ⟨rfl, rfl⟩
    rw [hT, e]
    refine g_V2 (nx := 21) hX dX11_total_18 rfl mX11_326 yX11_worksAll_ok (c_X11_worksAll (r := j) hn H (by omega) ht) (ga_dn hn rfl) rfl rfl rfl (by decide) rfl (Nat.le_of_ble_eq_true rfl) (Nat.le_of_ble_eq_true rfl) ?_
    rintro _ _ ⟨rfl, ta', af', hp', gv', io', hk, rfl⟩
    refine g_aload_n (nx := 22) hX 0 dX11_total_21 rfl rfl rfl ?_
    refine g_iload_n (nx := 23) hX 1 dX11_total_22 rfl rfl rfl ?_
    refine g_V1 (nx := 26) hX dX11_total_23 rfl mX11_331 yX11_totalOf_ok (c_X11_totalOf (r := j) (F := fun r => s_F ((mw, mq, mf, ma, mb, ms_), ah, ou, w_op (w_s mt fn) em sp, fn) (cd, en, fo, sm, tot) r t) hn (by omega) hs hk.1 F_tt htt) (ga_dn hn rfl) rfl rfl rfl (by decide) rfl (Nat.le_of_ble_eq_true rfl) (Nat.le_of_ble_eq_true rfl) ?_
    rintro _ _ ⟨rfl, rfl⟩
    exact g_lreturn hX hP dX11_total_26 (Nat.le_of_ble_eq_true rfl) (Nat.le_of_ble_eq_true rfl) ⟨by rw [if_pos hv, e2], ta', af', hp', gv', io', rfl⟩
  · have hv := ga_b_0 h5
    refine g_ldc2_w (nx := 11) hX (-2000000000000) dX11_total_8 rfl kX11_329 ?_
    exact g_lreturn hX hP dX11_total_11 (Nat.le_of_ble_eq_true rfl) (Nat.le_of_ble_eq_true rfl) ⟨by rw [if_neg hv], ta, af, hp, gv, io, rfl⟩
theorem c_X11_isOut_ (hn : 106 ≤ n) (H : m_H (mw, mq, mf, ma, mb, ms_) ah mt em sp an rn fn (cd, en, fo, sm, tot) sg bo) (hT : (if ask = -1 then nI an else ask) = nI t) (ht : t ≤ an) : ga_Mt E 4 yX11_isOut_ cX11_isOut_ 2 (some .int) 0 0 [.ref 79, .int v] (n, L1, ((m_O o_tp (nI rn) (nI fn) (em) (sp) (nI an) (ask) (nI sm) (tt_) o_at o_sz o_fk o_fp o_nw o_md o_nt o_pl o_op) :: m80 :: ga_i 24 tm :: ga_i 30 mt :: ga_i 30 ou :: ga_i 32 ah :: ga_i 401 mw :: ga_i 401 mq :: ga_i 401 mf :: ga_i 401 ma :: ga_i 401 mb :: ga_i 401 ms_ :: ga_i 18 ta :: ga_i 120 af :: ga_i 24 fo :: ga_i 25 bo :: ga_i 1300 sg :: m96 :: m97 :: m98 :: m99 :: m100 :: m101 :: m102 :: ga_l 310 hp :: ga_l 576 gv :: ga_z 24 io :: []), f)
    (fun o M => o = some (.int (if 0 ≤ v ∧ v < nI rn then (if s_of (s_F ((mw, mq, mf, ma, mb, ms_), ah, ou, w_op (w_s mt fn) em sp, fn) (cd, en, fo, sm, tot) v.toNatClampNeg t) = 0 then 0 else 1) else -1)) ∧ ∃ ta af hp gv io, M = (n, L1, ((m_O o_tp (nI rn) (nI fn) (em) (sp) (nI an) (ask) (nI sm) (tt_) o_at o_sz o_fk o_fp o_nw o_md o_nt o_pl o_op) :: m80 :: ga_i 24 tm :: ga_i 30 mt :: ga_i 30 ou :: ga_i 32 ah :: ga_i 401 mw :: ga_i 401 mq :: ga_i 401 mf :: ga_i 401 ma :: ga_i 401 mb :: ga_i 401 ms_ :: ga_i 18 ta :: ga_i 120 af :: ga_i 24 fo :: ga_i 25 bo :: ga_i 1300 sg :: m96 :: m97 :: m98 :: m99 :: m100 :: m101 :: m102 :: ga_l 310 hp :: ga_l 576 gv :: ga_z 24 io :: []), f)) := by
  have hr := H.2.1
  refine ga_Mt.of (by decide) rfl (fun X hX hP => ?_)
  refine g_less [some (.ref 79), some (.int v)] ⟨rfl, rfl, trivial⟩ ?_
  refine g_aload_n (nx := 1) hX 0 dX11_isOut__0 rfl rfl rfl ?_
  refine g_iload_n (nx := 2) hX 1 dX11_isOut__1 rfl rfl rfl ?_
  refine g_V1 (nx := 5) hX dX11_isOut__2 rfl mX11_175 yX11_isRider_ok (c_X11_isRider hn) (ga_dn hn rfl) rfl rfl rfl (by decide) rfl (Nat.le_of_ble_eq_true rfl) (Nat.le_of_ble_eq_true rfl) ?_
  rintro _ _ ⟨rfl, rfl⟩
  refine g_if_ne (nx := 8) hX 10 dX11_isOut__5 (by decide) rfl (fun h5 => ?_) (fun h5 => ?_)
  · have hv := ga_b_n0 h5
    obtain ⟨j, hj, e, e2⟩ := v_of hv.1 hv.2 (by omega)
    refine g_aload_n (nx := 11) hX 0 dX11_isOut__10 rfl rfl rfl ?_
    refine g_iload_n (nx := 12) hX 1 dX11_isOut__11 rfl rfl rfl ?_
    refine g_aload_n (nx := 13) hX 0 dX11_isOut__12 rfl rfl rfl ?_
    refine g_V0 (nx := 16) hX dX11_isOut__13 rfl mX11_179 yX11_known_ok (c_X11_known hn) (ga_dn hn rfl) rfl rfl rfl (by decide) rfl (Nat.le_of_ble_eq_true rfl) (Nat.le_of_ble_eq_true rfl) ?_
    rintro _ _ ⟨rfl, rfl⟩
    rw [hT, e]
    refine g_V2 (nx := 19) hX dX11_isOut__16 rfl mX11_326 yX11_worksAll_ok (c_X11_worksAll (r := j) hn H (by omega) ht) (ga_dn hn rfl) rfl rfl rfl (by decide) rfl (Nat.le_of_ble_eq_true rfl) (Nat.le_of_ble_eq_true rfl) ?_
    rintro _ _ ⟨rfl, ta', af', hp', gv', io', hk, rfl⟩
    refine g_aload_n (nx := 20) hX 0 dX11_isOut__19 rfl rfl rfl ?_
    refine g_getfield (nx := 23) hX dX11_isOut__20 rfl fX11_142 (ga_dn hn rfl) rfl rfl ?_
    refine g_iload_n (nx := 24) hX 1 dX11_isOut__23 rfl rfl rfl ?_
    refine g_zaload (nx := 25) hX dX11_isOut__24 rfl (ga_dn hn rfl) rfl (ga_ix_of (j := j) rfl (by omega) (by omega)) ?_
    refine g_if_eq (nx := 28) hX 32 dX11_isOut__25 (by decide) rfl (fun h25 => ?_) (fun h25 => ?_)
    · rw [hk.2.2.1] at h25
      refine g_iconst (nx := 33) hX 0 dX11_isOut__32 rfl (by decide) ?_
      exact g_ireturn hX hP dX11_isOut__33 rfl (Nat.le_of_ble_eq_true rfl) (Nat.le_of_ble_eq_true rfl) ⟨by rw [if_pos hv, e2, if_pos h25], ta', af', hp', gv', io', rfl⟩
    · rw [hk.2.2.1] at h25
      refine g_iconst (nx := 29) hX 1 dX11_isOut__28 rfl (by decide) ?_
      refine g_goto (nx := 33) hX dX11_isOut__29 (by decide) ?_
      exact g_ireturn hX hP dX11_isOut__33 rfl (Nat.le_of_ble_eq_true rfl) (Nat.le_of_ble_eq_true rfl) ⟨by rw [if_pos hv, e2, if_neg h25], ta', af', hp', gv', io', rfl⟩
  · have hv := ga_b_0 h5
    refine g_iconst (nx := 9) hX (-1) dX11_isOut__8 rfl (by decide) ?_
    exact g_ireturn hX hP dX11_isOut__9 rfl (Nat.le_of_ble_eq_true rfl) (Nat.le_of_ble_eq_true rfl) ⟨by rw [if_neg hv], ta, af, hp, gv, io, rfl⟩
theorem c_X11_against (hn : 106 ≤ n) (H : m_H (mw, mq, mf, ma, mb, ms_) ah mt em sp an rn fn (cd, en, fo, sm, tot) sg bo) (htt : e_tt tot tt_ sm) (hT : (if ask = -1 then nI an else ask) = nI t) (ht : t ≤ an) : ga_Mt E 5 yX11_against cX11_against 3 (some .int) 0 0 [.ref 79, .int v, .int w] (n, L1, ((m_O o_tp (nI rn) (nI fn) (em) (sp) (nI an) (ask) (nI sm) (tt_) o_at o_sz o_fk o_fp o_nw o_md o_nt o_pl o_op) :: m80 :: ga_i 24 tm :: ga_i 30 mt :: ga_i 30 ou :: ga_i 32 ah :: ga_i 401 mw :: ga_i 401 mq :: ga_i 401 mf :: ga_i 401 ma :: ga_i 401 mb :: ga_i 401 ms_ :: ga_i 18 ta :: ga_i 120 af :: ga_i 24 fo :: ga_i 25 bo :: ga_i 1300 sg :: m96 :: m97 :: m98 :: m99 :: m100 :: m101 :: m102 :: ga_l 310 hp :: ga_l 576 gv :: ga_z 24 io :: []), f)
    (fun o M => o = some (.int (p_ag fo sm rn (b_F (mw, mq, mf, ma, mb, ms_) ah ou (w_op (w_s mt fn) em sp) fn cd en fo sm tot t) v w)) ∧ ∃ ta af hp gv io, M = (n, L1, ((m_O o_tp (nI rn) (nI fn) (em) (sp) (nI an) (ask) (nI sm) (tt_) o_at o_sz o_fk o_fp o_nw o_md o_nt o_pl o_op) :: m80 :: ga_i 24 tm :: ga_i 30 mt :: ga_i 30 ou :: ga_i 32 ah :: ga_i 401 mw :: ga_i 401 mq :: ga_i 401 mf :: ga_i 401 ma :: ga_i 401 mb :: ga_i 401 ms_ :: ga_i 18 ta :: ga_i 120 af :: ga_i 24 fo :: ga_i 25 bo :: ga_i 1300 sg :: m96 :: m97 :: m98 :: m99 :: m100 :: m101 :: m102 :: ga_l 310 hp :: ga_l 576 gv :: ga_z 24 io :: []), f)) := by
  have hr := H.2.1
  have hs : sm ≤ 24 := H.2.2.2.2.2.2.2.2.2.2.1
  refine ga_Mt.of (by decide) rfl (fun X hX hP => ?_)
  refine g_less [some (.ref 79), some (.int v), some (.int w)] ⟨rfl, rfl, rfl, trivial⟩ ?_
  refine g_aload_n (nx := 1) hX 0 dX11_against_0 rfl rfl rfl ?_
  refine g_iload_n (nx := 2) hX 1 dX11_against_1 rfl rfl rfl ?_
  refine g_V1 (nx := 5) hX dX11_against_2 rfl mX11_175 yX11_isRider_ok (c_X11_isRider hn) (ga_dn hn rfl) rfl rfl rfl (by decide) rfl (Nat.le_of_ble_eq_true rfl) (Nat.le_of_ble_eq_true rfl) ?_
  rintro _ _ ⟨rfl, rfl⟩
  refine g_if_eq (nx := 8) hX 16 dX11_against_5 (by decide) rfl (fun h5 => ?_) (fun h5 => ?_)
  · have hv := ga_b_0 h5
    refine g_bipush (nx := 18) hX (-2) dX11_against_16 rfl (by decide) ?_
    exact g_ireturn hX hP dX11_against_18 rfl (Nat.le_of_ble_eq_true rfl) (Nat.le_of_ble_eq_true rfl) ⟨by unfold p_ag; rw [if_neg (fun z => hv z.1)], ta, af, hp, gv, io, rfl⟩
  · have hv := ga_b_n0 h5
    obtain ⟨j, hj, e, e2⟩ := v_of hv.1 hv.2 (by omega)
    refine g_aload_n (nx := 9) hX 0 dX11_against_8 rfl rfl rfl ?_
    refine g_iload_n (nx := 10) hX 2 dX11_against_9 rfl rfl rfl ?_
    refine g_V1 (nx := 13) hX dX11_against_10 rfl mX11_175 yX11_isRider_ok (c_X11_isRider hn) (ga_dn hn rfl) rfl rfl rfl (by decide) rfl (Nat.le_of_ble_eq_true rfl) (Nat.le_of_ble_eq_true rfl) ?_
    rintro _ _ ⟨rfl, rfl⟩
    refine g_if_ne (nx := 16) hX 19 dX11_against_13 (by decide) rfl (fun h13 => ?_) (fun h13 => ?_)
    · have hw := ga_b_n0 h13
      obtain ⟨i, hi, ei, ei2⟩ := v_of hw.1 hw.2 (by omega)
      refine g_aload_n (nx := 20) hX 0 dX11_against_19 rfl rfl rfl ?_
      refine g_aload_n (nx := 21) hX 0 dX11_against_20 rfl rfl rfl ?_
      refine g_V0 (nx := 24) hX dX11_against_21 rfl mX11_179 yX11_known_ok (c_X11_known hn) (ga_dn hn rfl) rfl rfl rfl (by decide) rfl (Nat.le_of_ble_eq_true rfl) (Nat.le_of_ble_eq_true rfl) ?_
      rintro _ _ ⟨rfl, rfl⟩
      rw [hT]
      refine g_V1 (nx := 27) hX dX11_against_24 rfl mX11_335 yX11_reckons_ok (c_X11_reckons hn H ht) (ga_dn hn rfl) rfl rfl rfl (by decide) rfl (Nat.le_of_ble_eq_true rfl) (Nat.le_of_ble_eq_true rfl) ?_
      rintro _ _ ⟨rfl, ta', af', hp', gv', io', hk, rfl⟩
      refine g_aload_n (nx := 28) hX 0 dX11_against_27 rfl rfl rfl ?_
      refine g_getfield (nx := 31) hX dX11_against_28 rfl fX11_142 (ga_dn hn rfl) rfl rfl ?_
      refine g_iload_n (nx := 32) hX 1 dX11_against_31 rfl rfl rfl ?_
      refine g_zaload (nx := 33) hX dX11_against_32 rfl (ga_dn hn rfl) rfl (ga_ix_of (j := j) e (by omega) (by omega)) ?_
      refine g_if_ne (nx := 36) hX 45 dX11_against_33 (by decide) rfl (fun h33 => ?_) (fun h33 => ?_)
      · rw [(hk j hj).2] at h33
        refine g_bipush (nx := 47) hX (-2) dX11_against_45 rfl (by decide) ?_
        refine g_goto (nx := 56) hX dX11_against_47 (by decide) ?_
        exact g_ireturn hX hP dX11_against_56 rfl (Nat.le_of_ble_eq_true rfl) (Nat.le_of_ble_eq_true rfl) ⟨by unfold p_ag; rw [if_neg (fun z => h33 (by rw [← e2]; exact z.2.2.1))], ta', af', hp', gv', io', rfl⟩
      · rw [(hk j hj).2] at h33
        refine g_aload_n (nx := 37) hX 0 dX11_against_36 rfl rfl rfl ?_
        refine g_getfield (nx := 40) hX dX11_against_37 rfl fX11_142 (ga_dn hn rfl) rfl rfl ?_
        refine g_iload_n (nx := 41) hX 2 dX11_against_40 rfl rfl rfl ?_
        refine g_zaload (nx := 42) hX dX11_against_41 rfl (ga_dn hn rfl) rfl (ga_ix_of (j := i) ei (by omega) (by omega)) ?_
        refine g_if_eq (nx := 45) hX 50 dX11_against_42 (by decide) rfl (fun h42 => ?_) (fun h42 => ?_)
        · rw [(hk i hi).2] at h42
          refine g_aload_n (nx := 51) hX 0 dX11_against_50 rfl rfl rfl ?_
          refine g_iload_n (nx := 52) hX 1 dX11_against_51 rfl rfl rfl ?_
          refine g_iload_n (nx := 53) hX 2 dX11_against_52 rfl rfl rfl ?_
          rw [e, ei]
          refine g_V2 (nx := 56) hX dX11_against_53 rfl mX11_338 yX11_stand_ok (c_X11_stand hn hj hi hr hs hk (fun _ => F_tt) htt) (ga_dn hn rfl) rfl rfl rfl (by decide) rfl (Nat.le_of_ble_eq_true rfl) (Nat.le_of_ble_eq_true rfl) ?_
          rintro _ _ ⟨rfl, rfl⟩
          exact g_ireturn hX hP dX11_against_56 rfl (Nat.le_of_ble_eq_true rfl) (Nat.le_of_ble_eq_true rfl) ⟨by unfold p_ag; rw [if_pos ⟨hv, hw, by rw [e2]; exact h33, by rw [ei2]; exact h42⟩, e2, ei2], ta', af', hp', gv', io', rfl⟩
        · rw [(hk i hi).2] at h42
          refine g_bipush (nx := 47) hX (-2) dX11_against_45 rfl (by decide) ?_
          refine g_goto (nx := 56) hX dX11_against_47 (by decide) ?_
          exact g_ireturn hX hP dX11_against_56 rfl (Nat.le_of_ble_eq_true rfl) (Nat.le_of_ble_eq_true rfl) ⟨by unfold p_ag; rw [if_neg (fun z => h42 (by rw [← ei2]; exact z.2.2.2))], ta', af', hp', gv', io', rfl⟩
    · have hw := ga_b_0 h13
      refine g_bipush (nx := 18) hX (-2) dX11_against_16 rfl (by decide) ?_
      exact g_ireturn hX hP dX11_against_18 rfl (Nat.le_of_ble_eq_true rfl) (Nat.le_of_ble_eq_true rfl) ⟨by unfold p_ag; rw [if_neg (fun z => hw z.2.1)], ta, af, hp, gv, io, rfl⟩
theorem c_X11_placeOf (hn : 106 ≤ n) (hr : r < rn) (hrn : rn ≤ 24) (hs : sm ≤ 24) (hm : m_rk F rn sm gv io) (hF : ∀ r, s_tt (F r) = s_tot (s_v (F r)) tot) (ht : e_tt tot tt_ sm) : ga_Mx E 2 yX11_placeOf cX11_placeOf 4 (some .int) 0 0 [.ref 79, .int (nI r)] (n, L1, ((m_O o_tp (nI rn) (nI fn) (em) (sp) (nI an) (ask) (nI sm) (tt_) o_at o_sz o_fk o_fp o_nw o_md o_nt o_pl o_op) :: m80 :: ga_i 24 tm :: ga_i 30 mt :: ga_i 30 ou :: ga_i 32 ah :: ga_i 401 mw :: ga_i 401 mq :: ga_i 401 mf :: ga_i 401 ma :: ga_i 401 mb :: ga_i 401 ms_ :: ga_i 18 ta :: ga_i 120 af :: ga_i 24 fo :: ga_i 25 bo :: ga_i 1300 sg :: m96 :: m97 :: m98 :: m99 :: m100 :: m101 :: m102 :: ga_l 310 hp :: ga_l 576 gv :: ga_z 24 io :: []), f) (some (.int (p_pl fo sm rn F r))) (n, L1, ((m_O o_tp (nI rn) (nI fn) (em) (sp) (nI an) (ask) (nI sm) (tt_) o_at o_sz o_fk o_fp o_nw o_md o_nt o_pl o_op) :: m80 :: ga_i 24 tm :: ga_i 30 mt :: ga_i 30 ou :: ga_i 32 ah :: ga_i 401 mw :: ga_i 401 mq :: ga_i 401 mf :: ga_i 401 ma :: ga_i 401 mb :: ga_i 401 ms_ :: ga_i 18 ta :: ga_i 120 af :: ga_i 24 fo :: ga_i 25 bo :: ga_i 1300 sg :: m96 :: m97 :: m98 :: m99 :: m100 :: m101 :: m102 :: ga_l 310 hp :: ga_l 576 gv :: ga_z 24 io :: []), f) := by
  have ho := (hm r hr).2
  refine ga_Mt.of (by decide) rfl (fun X hX hP => ?_)
  refine g_less [some (.ref 79), some (.int (nI r)), none, none] ⟨rfl, rfl, trivial⟩ ?_
  have loop : s_of (F r) = 0 → ∀ (m k : Nat), k ≤ rn → rn - k = m → ga_G E X 0 0 15 [some (.ref 79), some (.int (nI r)), some (.int (nI (1 + p_na fo sm F (F r) k))), some (.int (nI k))] [] (n, L1, ((m_O o_tp (nI rn) (nI fn) (em) (sp) (nI an) (ask) (nI sm) (tt_) o_at o_sz o_fk o_fp o_nw o_md o_nt o_pl o_op) :: m80 :: ga_i 24 tm :: ga_i 30 mt :: ga_i 30 ou :: ga_i 32 ah :: ga_i 401 mw :: ga_i 401 mq :: ga_i 401 mf :: ga_i 401 ma :: ga_i 401 mb :: ga_i 401 ms_ :: ga_i 18 ta :: ga_i 120 af :: ga_i 24 fo :: ga_i 25 bo :: ga_i 1300 sg :: m96 :: m97 :: m98 :: m99 :: m100 :: m101 :: m102 :: ga_l 310 hp :: ga_l 576 gv :: ga_z 24 io :: []), f) := by
    intro h0 m
    induction m with
    | zero =>
      intro k g1 g2
      have e : k = rn := by omega
      subst e
      refine g_iload_n (nx := 16) hX 3 dX11_placeOf_15 rfl rfl rfl ?_
      refine g_aload_n (nx := 17) hX 0 dX11_placeOf_16 rfl rfl rfl ?_
      refine g_getfield (nx := 20) hX dX11_placeOf_17 rfl fX11_17 (ga_dn hn rfl) rfl rfl ?_
      refine g_icmp_ge (nx := 23) hX 55 dX11_placeOf_20 (by decide) rfl (fun h20 => ?_) (fun h20 => ?_)
      · refine g_iload_n (nx := 56) hX 2 dX11_placeOf_55 rfl rfl rfl ?_
        exact g_ireturn hX hP dX11_placeOf_56 rfl (Nat.le_of_ble_eq_true rfl) (Nat.le_of_ble_eq_true rfl) ⟨by unfold p_pl; rw [if_pos h0], rfl⟩
      · exact absurd (nI_le (Nat.le_refl k) (by omega)) h20
    | succ m ih =>
      intro k g1 g2
      have ih1 := ih (k + 1) (by omega) (by omega)
      rw [p_na] at ih1
      have hk := (hm k (by omega)).2
      refine g_iload_n (nx := 16) hX 3 dX11_placeOf_15 rfl rfl rfl ?_
      refine g_aload_n (nx := 17) hX 0 dX11_placeOf_16 rfl rfl rfl ?_
      refine g_getfield (nx := 20) hX dX11_placeOf_17 rfl fX11_17 (ga_dn hn rfl) rfl rfl ?_
      refine g_icmp_ge (nx := 23) hX 55 dX11_placeOf_20 (by decide) rfl (fun h20 => ?_) (fun h20 => ?_)
      · exact absurd ((nI_leI (by omega) (by omega)).mp h20) (by omega)
      · refine g_iload_n (nx := 24) hX 2 dX11_placeOf_23 rfl rfl rfl ?_
        refine g_aload_n (nx := 25) hX 0 dX11_placeOf_24 rfl rfl rfl ?_
        refine g_getfield (nx := 28) hX dX11_placeOf_25 rfl fX11_142 (ga_dn hn rfl) rfl rfl ?_
        refine g_iload_n (nx := 29) hX 3 dX11_placeOf_28 rfl rfl rfl ?_
        refine g_zaload (nx := 30) hX dX11_placeOf_29 rfl (ga_dn hn rfl) rfl (ga_ix_of (j := k) rfl (by omega) (by omega)) ?_
        refine g_if_ne (nx := 33) hX 46 dX11_placeOf_30 (by decide) rfl (fun h30 => ?_) (fun h30 => ?_)
        · rw [hk] at h30
          rw [if_neg (fun z => h30 z.1)] at ih1
          refine g_iconst (nx := 47) hX 0 dX11_placeOf_46 rfl (by decide) ?_
          refine g_iadd (nx := 48) hX dX11_placeOf_47 rfl ?_
          rw [show nI (1 + p_na fo sm F (F r) k) + 0 = nI (1 + (p_na fo sm F (F r) k + 0)) by rw [Int32.add_zero]; rfl]
          refine g_istore_n (nx := 49) hX 2 dX11_placeOf_48 rfl rfl rfl ?_
          refine g_iinc (nx := 52) hX 3 (nI (k + 1)) dX11_placeOf_49 rfl rfl rfl (nI_1 k) ?_
          refine g_goto (nx := 15) hX dX11_placeOf_52 (by decide) ?_
          exact ih1
        · rw [hk] at h30
          refine g_aload_n (nx := 34) hX 0 dX11_placeOf_33 rfl rfl rfl ?_
          refine g_iload_n (nx := 35) hX 3 dX11_placeOf_34 rfl rfl rfl ?_
          refine g_iload_n (nx := 36) hX 1 dX11_placeOf_35 rfl rfl rfl ?_
          refine g_V2 (nx := 39) hX dX11_placeOf_36 rfl mX11_338 yX11_stand_ok (c_X11_stand hn (by omega) hr hrn hs hm hF ht) (ga_dn hn rfl) rfl rfl rfl (by decide) rfl (Nat.le_of_ble_eq_true rfl) (Nat.le_of_ble_eq_true rfl) ?_
          rintro _ _ ⟨rfl, rfl⟩
          refine g_if_ge (nx := 42) hX 46 dX11_placeOf_39 (by decide) rfl (fun h39 => ?_) (fun h39 => ?_)
          · rw [if_neg (fun z => ga_len h39 z.2)] at ih1
            refine g_iconst (nx := 47) hX 0 dX11_placeOf_46 rfl (by decide) ?_
            refine g_iadd (nx := 48) hX dX11_placeOf_47 rfl ?_
            rw [show nI (1 + p_na fo sm F (F r) k) + 0 = nI (1 + (p_na fo sm F (F r) k + 0)) by rw [Int32.add_zero]; rfl]
            refine g_istore_n (nx := 49) hX 2 dX11_placeOf_48 rfl rfl rfl ?_
            refine g_iinc (nx := 52) hX 3 (nI (k + 1)) dX11_placeOf_49 rfl rfl rfl (nI_1 k) ?_
            refine g_goto (nx := 15) hX dX11_placeOf_52 (by decide) ?_
            exact ih1
          · rw [if_pos ⟨h30, ga_nle h39⟩] at ih1
            refine g_iconst (nx := 43) hX 1 dX11_placeOf_42 rfl (by decide) ?_
            refine g_goto (nx := 47) hX dX11_placeOf_43 (by decide) ?_
            refine g_iadd (nx := 48) hX dX11_placeOf_47 rfl ?_
            rw [show nI (1 + p_na fo sm F (F r) k) + 1 = nI (1 + (p_na fo sm F (F r) k + 1)) by rw [nI_1]; rfl]
            refine g_istore_n (nx := 49) hX 2 dX11_placeOf_48 rfl rfl rfl ?_
            refine g_iinc (nx := 52) hX 3 (nI (k + 1)) dX11_placeOf_49 rfl rfl rfl (nI_1 k) ?_
            refine g_goto (nx := 15) hX dX11_placeOf_52 (by decide) ?_
            exact ih1
  refine g_aload_n (nx := 1) hX 0 dX11_placeOf_0 rfl rfl rfl ?_
  refine g_getfield (nx := 4) hX dX11_placeOf_1 rfl fX11_142 (ga_dn hn rfl) rfl rfl ?_
  refine g_iload_n (nx := 5) hX 1 dX11_placeOf_4 rfl rfl rfl ?_
  refine g_zaload (nx := 6) hX dX11_placeOf_5 rfl (ga_dn hn rfl) rfl (ga_ix_of (j := r) rfl (by omega) (by omega)) ?_
  refine g_if_eq (nx := 9) hX 11 dX11_placeOf_6 (by decide) rfl (fun h6 => ?_) (fun h6 => ?_)
  · rw [ho] at h6
    refine g_iconst (nx := 12) hX 1 dX11_placeOf_11 rfl (by decide) ?_
    refine g_istore_n (nx := 13) hX 2 dX11_placeOf_12 rfl rfl rfl ?_
    refine g_iconst (nx := 14) hX 0 dX11_placeOf_13 rfl (by decide) ?_
    refine g_istore_n (nx := 15) hX 3 dX11_placeOf_14 rfl rfl rfl ?_
    exact loop h6 rn 0 (by omega) (by omega)
  · rw [ho] at h6
    refine g_iconst (nx := 10) hX 0 dX11_placeOf_9 rfl (by decide) ?_
    exact g_ireturn hX hP dX11_placeOf_10 rfl (Nat.le_of_ble_eq_true rfl) (Nat.le_of_ble_eq_true rfl) ⟨by unfold p_pl; rw [if_neg h6], rfl⟩
theorem c_X11_place (hn : 106 ≤ n) (H : m_H (mw, mq, mf, ma, mb, ms_) ah mt em sp an rn fn (cd, en, fo, sm, tot) sg bo) (htt : e_tt tot tt_ sm) (hT : (if ask = -1 then nI an else ask) = nI t) (ht : t ≤ an) : ga_Mt E 5 yX11_place cX11_place 2 (some .int) 0 0 [.ref 79, .int v] (n, L1, ((m_O o_tp (nI rn) (nI fn) (em) (sp) (nI an) (ask) (nI sm) (tt_) o_at o_sz o_fk o_fp o_nw o_md o_nt o_pl o_op) :: m80 :: ga_i 24 tm :: ga_i 30 mt :: ga_i 30 ou :: ga_i 32 ah :: ga_i 401 mw :: ga_i 401 mq :: ga_i 401 mf :: ga_i 401 ma :: ga_i 401 mb :: ga_i 401 ms_ :: ga_i 18 ta :: ga_i 120 af :: ga_i 24 fo :: ga_i 25 bo :: ga_i 1300 sg :: m96 :: m97 :: m98 :: m99 :: m100 :: m101 :: m102 :: ga_l 310 hp :: ga_l 576 gv :: ga_z 24 io :: []), f)
    (fun o M => o = some (.int (p_pv fo sm rn (b_F (mw, mq, mf, ma, mb, ms_) ah ou (w_op (w_s mt fn) em sp) fn cd en fo sm tot t) v)) ∧ ∃ ta af hp gv io, M = (n, L1, ((m_O o_tp (nI rn) (nI fn) (em) (sp) (nI an) (ask) (nI sm) (tt_) o_at o_sz o_fk o_fp o_nw o_md o_nt o_pl o_op) :: m80 :: ga_i 24 tm :: ga_i 30 mt :: ga_i 30 ou :: ga_i 32 ah :: ga_i 401 mw :: ga_i 401 mq :: ga_i 401 mf :: ga_i 401 ma :: ga_i 401 mb :: ga_i 401 ms_ :: ga_i 18 ta :: ga_i 120 af :: ga_i 24 fo :: ga_i 25 bo :: ga_i 1300 sg :: m96 :: m97 :: m98 :: m99 :: m100 :: m101 :: m102 :: ga_l 310 hp :: ga_l 576 gv :: ga_z 24 io :: []), f)) := by
  have hr := H.2.1
  have hs : sm ≤ 24 := H.2.2.2.2.2.2.2.2.2.2.1
  refine ga_Mt.of (by decide) rfl (fun X hX hP => ?_)
  refine g_less [some (.ref 79), some (.int v)] ⟨rfl, rfl, trivial⟩ ?_
  refine g_aload_n (nx := 1) hX 0 dX11_place_0 rfl rfl rfl ?_
  refine g_iload_n (nx := 2) hX 1 dX11_place_1 rfl rfl rfl ?_
  refine g_V1 (nx := 5) hX dX11_place_2 rfl mX11_175 yX11_isRider_ok (c_X11_isRider hn) (ga_dn hn rfl) rfl rfl rfl (by decide) rfl (Nat.le_of_ble_eq_true rfl) (Nat.le_of_ble_eq_true rfl) ?_
  rintro _ _ ⟨rfl, rfl⟩
  refine g_if_ne (nx := 8) hX 10 dX11_place_5 (by decide) rfl (fun h5 => ?_) (fun h5 => ?_)
  · have hv := ga_b_n0 h5
    obtain ⟨j, hj, e, e2⟩ := v_of hv.1 hv.2 (by omega)
    refine g_aload_n (nx := 11) hX 0 dX11_place_10 rfl rfl rfl ?_
    refine g_aload_n (nx := 12) hX 0 dX11_place_11 rfl rfl rfl ?_
    refine g_V0 (nx := 15) hX dX11_place_12 rfl mX11_179 yX11_known_ok (c_X11_known hn) (ga_dn hn rfl) rfl rfl rfl (by decide) rfl (Nat.le_of_ble_eq_true rfl) (Nat.le_of_ble_eq_true rfl) ?_
    rintro _ _ ⟨rfl, rfl⟩
    rw [hT, e]
    refine g_V1 (nx := 18) hX dX11_place_15 rfl mX11_335 yX11_reckons_ok (c_X11_reckons hn H ht) (ga_dn hn rfl) rfl rfl rfl (by decide) rfl (Nat.le_of_ble_eq_true rfl) (Nat.le_of_ble_eq_true rfl) ?_
    rintro _ _ ⟨rfl, ta', af', hp', gv', io', hk, rfl⟩
    refine g_aload_n (nx := 19) hX 0 dX11_place_18 rfl rfl rfl ?_
    refine g_iload_n (nx := 20) hX 1 dX11_place_19 rfl rfl rfl ?_
    refine g_V1 (nx := 23) hX dX11_place_20 rfl mX11_341 yX11_placeOf_ok (c_X11_placeOf hn hj hr hs hk (fun _ => F_tt) htt) (ga_dn hn rfl) rfl rfl rfl (by decide) rfl (Nat.le_of_ble_eq_true rfl) (Nat.le_of_ble_eq_true rfl) ?_
    rintro _ _ ⟨rfl, rfl⟩
    exact g_ireturn hX hP dX11_place_23 rfl (Nat.le_of_ble_eq_true rfl) (Nat.le_of_ble_eq_true rfl) ⟨by unfold p_pv; rw [if_pos hv, e2], ta', af', hp', gv', io', rfl⟩
  · have hv := ga_b_0 h5
    refine g_iconst (nx := 9) hX (-1) dX11_place_8 rfl (by decide) ?_
    exact g_ireturn hX hP dX11_place_9 rfl (Nat.le_of_ble_eq_true rfl) (Nat.le_of_ble_eq_true rfl) ⟨by unfold p_pv; rw [if_neg hv], ta, af, hp, gv, io, rfl⟩
theorem c_X11_since (hn : 106 ≤ n) (H : m_H (mw, mq, mf, ma, mb, ms_) ah mt em sp an rn fn (cd, en, fo, sm, tot) sg bo) (htt : e_tt tot tt_ sm) (hT : (if ask = -1 then nI an else ask) = nI t) (ht : t ≤ an) : ga_Mt E 5 yX11_since cX11_since 4 (some .int) 0 0 [.ref 79, .int v] (n, L1, ((m_O o_tp (nI rn) (nI fn) (em) (sp) (nI an) (ask) (nI sm) (tt_) o_at o_sz o_fk o_fp o_nw o_md o_nt o_pl o_op) :: m80 :: ga_i 24 tm :: ga_i 30 mt :: ga_i 30 ou :: ga_i 32 ah :: ga_i 401 mw :: ga_i 401 mq :: ga_i 401 mf :: ga_i 401 ma :: ga_i 401 mb :: ga_i 401 ms_ :: ga_i 18 ta :: ga_i 120 af :: ga_i 24 fo :: ga_i 25 bo :: ga_i 1300 sg :: m96 :: m97 :: m98 :: m99 :: m100 :: m101 :: m102 :: ga_l 310 hp :: ga_l 576 gv :: ga_z 24 io :: []), f)
    (fun o M => o = some (.int (if 0 ≤ v ∧ v < nI rn then p_si (fun t => p_pl fo sm rn (b_F (mw, mq, mf, ma, mb, ms_) ah ou (w_op (w_s mt fn) em sp) fn cd en fo sm tot t) v.toNatClampNeg) (p_pl fo sm rn (b_F (mw, mq, mf, ma, mb, ms_) ah ou (w_op (w_s mt fn) em sp) fn cd en fo sm tot t) v.toNatClampNeg) t else -1)) ∧ ∃ ta af hp gv io, M = (n, L1, ((m_O o_tp (nI rn) (nI fn) (em) (sp) (nI an) (ask) (nI sm) (tt_) o_at o_sz o_fk o_fp o_nw o_md o_nt o_pl o_op) :: m80 :: ga_i 24 tm :: ga_i 30 mt :: ga_i 30 ou :: ga_i 32 ah :: ga_i 401 mw :: ga_i 401 mq :: ga_i 401 mf :: ga_i 401 ma :: ga_i 401 mb :: ga_i 401 ms_ :: ga_i 18 ta :: ga_i 120 af :: ga_i 24 fo :: ga_i 25 bo :: ga_i 1300 sg :: m96 :: m97 :: m98 :: m99 :: m100 :: m101 :: m102 :: ga_l 310 hp :: ga_l 576 gv :: ga_z 24 io :: []), f)) := by
  have hr := H.2.1
  have ha := H.1
  have hs : sm ≤ 24 := H.2.2.2.2.2.2.2.2.2.2.1
  refine ga_Mt.of (by decide) rfl (fun X hX hP => ?_)
  refine g_less [some (.ref 79), some (.int v), none, none] ⟨rfl, rfl, trivial⟩ ?_
  have loop : (0 ≤ v ∧ v < nI rn) → ∀ (k : Nat) (ta af : Nat → Int32) (hp gv : Nat → Int64) (io : Nat → Int32), k ≤ an → p_si (fun t => p_pl fo sm rn (b_F (mw, mq, mf, ma, mb, ms_) ah ou (w_op (w_s mt fn) em sp) fn cd en fo sm tot t) v.toNatClampNeg) (p_pl fo sm rn (b_F (mw, mq, mf, ma, mb, ms_) ah ou (w_op (w_s mt fn) em sp) fn cd en fo sm tot t) v.toNatClampNeg) t = p_si (fun t => p_pl fo sm rn (b_F (mw, mq, mf, ma, mb, ms_) ah ou (w_op (w_s mt fn) em sp) fn cd en fo sm tot t) v.toNatClampNeg) (p_pl fo sm rn (b_F (mw, mq, mf, ma, mb, ms_) ah ou (w_op (w_s mt fn) em sp) fn cd en fo sm tot t) v.toNatClampNeg) k → ga_G E X 0 0 31 [some (.ref 79), some (.int v), some (.int (p_pl fo sm rn (b_F (mw, mq, mf, ma, mb, ms_) ah ou (w_op (w_s mt fn) em sp) fn cd en fo sm tot t) v.toNatClampNeg)), some (.int (nI k - 1))] [] (n, L1, ((m_O o_tp (nI rn) (nI fn) (em) (sp) (nI an) (ask) (nI sm) (tt_) o_at o_sz o_fk o_fp o_nw o_md o_nt o_pl o_op) :: m80 :: ga_i 24 tm :: ga_i 30 mt :: ga_i 30 ou :: ga_i 32 ah :: ga_i 401 mw :: ga_i 401 mq :: ga_i 401 mf :: ga_i 401 ma :: ga_i 401 mb :: ga_i 401 ms_ :: ga_i 18 ta :: ga_i 120 af :: ga_i 24 fo :: ga_i 25 bo :: ga_i 1300 sg :: m96 :: m97 :: m98 :: m99 :: m100 :: m101 :: m102 :: ga_l 310 hp :: ga_l 576 gv :: ga_z 24 io :: []), f) := by
    intro hv k
    obtain ⟨j, hj, ej, ej2⟩ := v_of hv.1 hv.2 (by omega)
    induction k with
    | zero =>
      intro ta af hp gv io hk h3
      refine g_iload_n (nx := 32) hX 3 dX11_since_31 rfl rfl rfl ?_
      refine g_if_lt (nx := 35) hX 57 dX11_since_32 (by decide) rfl (fun h32 => ?_) (fun h32 => ?_)
      · refine g_iconst (nx := 58) hX (-1) dX11_since_57 rfl (by decide) ?_
        exact g_ireturn hX hP dX11_since_58 rfl (Nat.le_of_ble_eq_true rfl) (Nat.le_of_ble_eq_true rfl) ⟨by rw [if_pos hv, h3]; rfl, ta, af, hp, gv, io, rfl⟩
      · exact absurd (show nI 0 - 1 < 0 by decide) h32
    | succ k ih =>
      intro ta af hp gv io hk h3
      rw [p_si] at h3
      have ek : nI (k + 1) - 1 = nI k := by have := pk_sub (a := k + 1) (b := 1) (by omega); exact this
      rw [ek]
      rw [ej2] at h3 ih ⊢
      have inc_ : nI k + Int32.ofInt (-1) = nI k - 1 := by rw [Int32.sub_eq_add_neg]; rfl
      refine g_iload_n (nx := 32) hX 3 dX11_since_31 rfl rfl rfl ?_
      refine g_if_lt (nx := 35) hX 57 dX11_since_32 (by decide) rfl (fun h32 => ?_) (fun h32 => ?_)
      · exact absurd h32 (ga_len (nI_pos' (by omega)))
      · refine g_aload_n (nx := 36) hX 0 dX11_since_35 rfl rfl rfl ?_
        refine g_iload_n (nx := 37) hX 3 dX11_since_36 rfl rfl rfl ?_
        refine g_V1 (nx := 40) hX dX11_since_37 rfl mX11_335 yX11_reckons_ok (c_X11_reckons hn H (t := k) (by omega)) (ga_dn hn rfl) rfl rfl rfl (by decide) rfl (Nat.le_of_ble_eq_true rfl) (Nat.le_of_ble_eq_true rfl) ?_
        rintro _ _ ⟨rfl, ta', af', hp', gv', io', hk', rfl⟩
        refine g_aload_n (nx := 41) hX 0 dX11_since_40 rfl rfl rfl ?_
        refine g_iload_n (nx := 42) hX 1 dX11_since_41 rfl rfl rfl ?_
        rw [ej]
        refine g_V1 (nx := 45) hX dX11_since_42 rfl mX11_341 yX11_placeOf_ok (c_X11_placeOf hn hj hr hs hk' (fun _ => F_tt) htt) (ga_dn hn rfl) rfl rfl rfl (by decide) rfl (Nat.le_of_ble_eq_true rfl) (Nat.le_of_ble_eq_true rfl) ?_
        rintro _ _ ⟨rfl, rfl⟩
        rw [← ej]
        refine g_iload_n (nx := 46) hX 2 dX11_since_45 rfl rfl rfl ?_
        refine g_icmp_eq (nx := 49) hX 51 dX11_since_46 (by decide) rfl (fun h46 => ?_) (fun h46 => ?_)
        · rw [if_pos h46] at h3
          refine g_iinc (nx := 54) hX 3 (nI k - 1) dX11_since_51 rfl rfl rfl (inc_) ?_
          refine g_goto (nx := 31) hX dX11_since_54 (by decide) ?_
          exact ih ta' af' hp' gv' io' (by omega) h3
        · rw [if_neg h46] at h3
          refine g_iload_n (nx := 50) hX 3 dX11_since_49 rfl rfl rfl ?_
          exact g_ireturn hX hP dX11_since_50 rfl (Nat.le_of_ble_eq_true rfl) (Nat.le_of_ble_eq_true rfl) ⟨by rw [if_pos hv, ej2, h3], ta', af', hp', gv', io', rfl⟩
  refine g_aload_n (nx := 1) hX 0 dX11_since_0 rfl rfl rfl ?_
  refine g_iload_n (nx := 2) hX 1 dX11_since_1 rfl rfl rfl ?_
  refine g_V1 (nx := 5) hX dX11_since_2 rfl mX11_175 yX11_isRider_ok (c_X11_isRider hn) (ga_dn hn rfl) rfl rfl rfl (by decide) rfl (Nat.le_of_ble_eq_true rfl) (Nat.le_of_ble_eq_true rfl) ?_
  rintro _ _ ⟨rfl, rfl⟩
  refine g_if_ne (nx := 8) hX 10 dX11_since_5 (by decide) rfl (fun h5 => ?_) (fun h5 => ?_)
  · have hv := ga_b_n0 h5
    have loop1 := loop hv t
    obtain ⟨j, hj, e, e2⟩ := v_of hv.1 hv.2 (by omega)
    rw [e2] at loop1
    refine g_aload_n (nx := 11) hX 0 dX11_since_10 rfl rfl rfl ?_
    refine g_aload_n (nx := 12) hX 0 dX11_since_11 rfl rfl rfl ?_
    refine g_V0 (nx := 15) hX dX11_since_12 rfl mX11_179 yX11_known_ok (c_X11_known hn) (ga_dn hn rfl) rfl rfl rfl (by decide) rfl (Nat.le_of_ble_eq_true rfl) (Nat.le_of_ble_eq_true rfl) ?_
    rintro _ _ ⟨rfl, rfl⟩
    rw [hT]
    refine g_V1 (nx := 18) hX dX11_since_15 rfl mX11_335 yX11_reckons_ok (c_X11_reckons hn H ht) (ga_dn hn rfl) rfl rfl rfl (by decide) rfl (Nat.le_of_ble_eq_true rfl) (Nat.le_of_ble_eq_true rfl) ?_
    rintro _ _ ⟨rfl, ta', af', hp', gv', io', hk, rfl⟩
    refine g_aload_n (nx := 19) hX 0 dX11_since_18 rfl rfl rfl ?_
    refine g_iload_n (nx := 20) hX 1 dX11_since_19 rfl rfl rfl ?_
    rw [e]
    refine g_V1 (nx := 23) hX dX11_since_20 rfl mX11_341 yX11_placeOf_ok (c_X11_placeOf hn hj hr hs hk (fun _ => F_tt) htt) (ga_dn hn rfl) rfl rfl rfl (by decide) rfl (Nat.le_of_ble_eq_true rfl) (Nat.le_of_ble_eq_true rfl) ?_
    rintro _ _ ⟨rfl, rfl⟩
    rw [← e]
    refine g_istore_n (nx := 24) hX 2 dX11_since_23 rfl rfl rfl ?_
    refine g_aload_n (nx := 25) hX 0 dX11_since_24 rfl rfl rfl ?_
    refine g_V0 (nx := 28) hX dX11_since_25 rfl mX11_179 yX11_known_ok (c_X11_known hn) (ga_dn hn rfl) rfl rfl rfl (by decide) rfl (Nat.le_of_ble_eq_true rfl) (Nat.le_of_ble_eq_true rfl) ?_
    rintro _ _ ⟨rfl, rfl⟩
    rw [hT]
    refine g_iconst (nx := 29) hX 1 dX11_since_28 rfl (by decide) ?_
    refine g_isub (nx := 30) hX dX11_since_29 rfl ?_
    refine g_istore_n (nx := 31) hX 3 dX11_since_30 rfl rfl rfl ?_
    exact loop1 ta' af' hp' gv' io' ht rfl
  · have hv := ga_b_0 h5
    refine g_iconst (nx := 9) hX (-1) dX11_since_8 rfl (by decide) ?_
    exact g_ireturn hX hP dX11_since_9 rfl (Nat.le_of_ble_eq_true rfl) (Nat.le_of_ble_eq_true rfl) ⟨by rw [if_neg hv], ta, af, hp, gv, io, rfl⟩
end
