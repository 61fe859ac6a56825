/-! ===== acts and the log ===== -/
def l_w (an : Nat) : Nat → Option Nat := fun k => if 1 ≤ k ∧ k ≤ an then some (k + 105) else none
theorem l_w_in {an k : Nat} (h : 1 ≤ k ∧ k ≤ an) : l_w an k = some (k + 105) := if_pos h
theorem l_w_add (an : Nat) : va_up (l_w an) (an + 1) (some (an + 106)) = l_w (an + 1) := by
  funext k
  unfold l_w
  by_cases h : k = an + 1
  · rw [h, up_s, if_pos (by omega)]
  · rw [up_n h]
    by_cases h2 : 1 ≤ k ∧ k ≤ an
    · rw [if_pos h2, if_pos (by omega)]
    · rw [if_neg h2, if_neg (by omega)]
section
variable {E : ga_E} {X : ga_X} {n : Nat} {c0 c1 c2 c3 c4 c5 c6 c7 c8 c9 c10 c11 c12 c13 c14 c15 c16 c17 c18 c19 c20 c21 c22 c23 c24 c25 c26 c27 c28 c29 c30 m79 m80 m81 m82 m83 m84 m85 m86 m87 m88 m89 m90 m91 m92 m93 m94 m95 m96 m97 m98 m99 m100 m101 m102 m103 m104 m105 : ga_C} {L1 L2 : List ga_C} {f : Nat → ga_C} {o_tp o_rd o_fe o_em o_sp o_ac o_td o_sm o_tt o_at o_sz o_fk o_fp o_nw o_md o_nt o_pl o_op d_at d_tk d_ta d_fd d_fa : Int32} {d_tv : Int64} {d_rl : Value}
variable {sv : Nat → sh_S} {av : Nat → a_S} {ol nw : Nat → Option Nat} {an : Nat} {ask : Int32}
theorem c_X0_init {k : Nat} {x1 x2 x3 x4 x5 : Int32} {t : a_S} (hk : 1 ≤ k) (hd : k + 105 < n) : ga_Mx E 1 yX0_init cX0_init 6 none 0 0 [.ref (k + 105), .int x1, .int x2, .int x3, .int x4, .int x5] (n, L1, L2, sh_f sv (a_f (va_up av k t))) none (n, L1, L2, sh_f sv (a_f (va_up av k (x1, x2, x3, x4, x5, t.2.2.2.2.2.1, -1, t.2.2.2.2.2.2.2)))) := by
  refine ga_Mt.of (by decide) rfl (fun X hX hP => ?_)
  refine g_less [some (.ref (k + 105)), some (.int x1), some (.int x2), some (.int x3), some (.int x4), some (.int x5)] ⟨rfl, rfl, rfl, rfl, rfl, rfl, trivial⟩ ?_
  refine g_aload_n (nx := 1) hX 0 dX0_init_0 rfl rfl rfl ?_
  refine g_objInit (nx := 4) hX dX0_init_1 rfl mX0_3 ob_i ob_c (by decide) rfl ?_
  refine g_aload_n (nx := 5) hX 0 dX0_init_4 rfl rfl rfl ?_
  refine g_iconst (nx := 6) hX (-1) dX0_init_5 rfl (by decide) ?_
  refine g_putfield (nx := 9) hX dX0_init_6 rfl pX0_9 hd (get_aF hk) rfl rfl rfl ?_
  refine g_mem (put_aF hk) ?_
  refine g_aload_n (nx := 10) hX 0 dX0_init_9 rfl rfl rfl ?_
  refine g_iload_n (nx := 11) hX 1 dX0_init_10 rfl rfl rfl ?_
  refine g_putfieldF (nx := 14) hX rfl dX0_init_11 rfl pX0_15 hd (get_aF hk) rfl rfl rfl ?_
  refine g_mem (put_aF hk) ?_
  refine g_aload_n (nx := 15) hX 0 dX0_init_14 rfl rfl rfl ?_
  refine g_iload_n (nx := 16) hX 2 dX0_init_15 rfl rfl rfl ?_
  refine g_putfieldF (nx := 19) hX rfl dX0_init_16 rfl pX0_18 hd (get_aF hk) rfl rfl rfl ?_
  refine g_mem (put_aF hk) ?_
  refine g_aload_n (nx := 20) hX 0 dX0_init_19 rfl rfl rfl ?_
  refine g_iload_n (nx := 21) hX 3 dX0_init_20 rfl rfl rfl ?_
  refine g_putfieldF (nx := 24) hX rfl dX0_init_21 rfl pX0_21 hd (get_aF hk) rfl rfl rfl ?_
  refine g_mem (put_aF hk) ?_
  refine g_aload_n (nx := 25) hX 0 dX0_init_24 rfl rfl rfl ?_
  refine g_iload (nx := 27) hX 4 dX0_init_25 rfl rfl ?_
  refine g_putfieldF (nx := 30) hX rfl dX0_init_27 rfl pX0_24 hd (get_aF hk) rfl rfl rfl ?_
  refine g_mem (put_aF hk) ?_
  refine g_aload_n (nx := 31) hX 0 dX0_init_30 rfl rfl rfl ?_
  refine g_iload (nx := 33) hX 5 dX0_init_31 rfl rfl ?_
  refine g_putfieldF (nx := 36) hX rfl dX0_init_33 rfl pX0_27 hd (get_aF hk) rfl rfl rfl ?_
  refine g_mem (put_aF hk) ?_
  exact g_return hX hP dX0_init_36 (Nat.le_of_ble_eq_true rfl) (Nat.le_of_ble_eq_true rfl) ⟨rfl, rfl⟩
theorem c_X0_isKnownAt {k : Nat} {v : Int32} (hk : 1 ≤ k) (hd : k + 105 < n) : ga_Mx E 0 yX0_isKnownAt cX0_isKnownAt 2 (some .boolean) 0 0 [.ref (k + 105), .int v] (n, L1, L2, sh_f sv (a_f av)) (some (.int (ga_b ((av k).2.2.2.2.2.1 ≤ v ∧ ((av k).2.2.2.2.2.2.1 = -1 ∨ v < (av k).2.2.2.2.2.2.1))))) (n, L1, L2, sh_f sv (a_f av)) := by
  refine ga_Mt.of (by decide) rfl (fun X hX hP => ?_)
  refine g_less [some (.ref (k + 105)), some (.int v)] ⟨rfl, rfl, trivial⟩ ?_
  refine g_aload_n (nx := 1) hX 0 dX0_isKnownAt_0 rfl rfl rfl ?_
  refine g_getfield (nx := 4) hX dX0_isKnownAt_1 rfl fX0_30 hd (get_a hk) rfl ?_
  refine g_iload_n (nx := 5) hX 1 dX0_isKnownAt_4 rfl rfl rfl ?_
  refine g_icmp_gt (nx := 8) hX 28 dX0_isKnownAt_5 (by decide) rfl (fun h5 => ?_) (fun h5 => ?_)
  · refine g_iconst (nx := 29) hX 0 dX0_isKnownAt_28 rfl (by decide) ?_
    exact g_ireturn hX hP dX0_isKnownAt_29 rfl (Nat.le_of_ble_eq_true rfl) (Nat.le_of_ble_eq_true rfl) ⟨by rw [ga_b_f (fun q => ga_ltn h5 q.1)], rfl⟩
  · refine g_aload_n (nx := 9) hX 0 dX0_isKnownAt_8 rfl rfl rfl ?_
    refine g_getfield (nx := 12) hX dX0_isKnownAt_9 rfl fX0_9 hd (get_a hk) rfl ?_
    refine g_iconst (nx := 13) hX (-1) dX0_isKnownAt_12 rfl (by decide) ?_
    refine g_icmp_eq (nx := 16) hX 24 dX0_isKnownAt_13 (by decide) rfl (fun h13 => ?_) (fun h13 => ?_)
    · refine g_iconst (nx := 25) hX 1 dX0_isKnownAt_24 rfl (by decide) ?_
      refine g_goto (nx := 29) hX dX0_isKnownAt_25 (by decide) ?_
      exact g_ireturn hX hP dX0_isKnownAt_29 rfl (Nat.le_of_ble_eq_true rfl) (Nat.le_of_ble_eq_true rfl) ⟨by rw [ga_b_t ⟨ga_nlt h5, Or.inl h13⟩], rfl⟩
    · refine g_aload_n (nx := 17) hX 0 dX0_isKnownAt_16 rfl rfl rfl ?_
      refine g_getfield (nx := 20) hX dX0_isKnownAt_17 rfl fX0_9 hd (get_a hk) rfl ?_
      refine g_iload_n (nx := 21) hX 1 dX0_isKnownAt_20 rfl rfl rfl ?_
      refine g_icmp_le (nx := 24) hX 28 dX0_isKnownAt_21 (by decide) rfl (fun h21 => ?_) (fun h21 => ?_)
      · refine g_iconst (nx := 29) hX 0 dX0_isKnownAt_28 rfl (by decide) ?_
        exact g_ireturn hX hP dX0_isKnownAt_29 rfl (Nat.le_of_ble_eq_true rfl) (Nat.le_of_ble_eq_true rfl) ⟨by rw [ga_b_f (fun q => q.2.elim h13 (fun z => ga_len h21 z))], rfl⟩
      · refine g_iconst (nx := 25) hX 1 dX0_isKnownAt_24 rfl (by decide) ?_
        refine g_goto (nx := 29) hX dX0_isKnownAt_25 (by decide) ?_
        exact g_ireturn hX hP dX0_isKnownAt_29 rfl (Nat.le_of_ble_eq_true rfl) (Nat.le_of_ble_eq_true rfl) ⟨by rw [ga_b_t ⟨ga_nlt h5, Or.inr (ga_nle h21)⟩], rfl⟩
theorem c_X3_actAt {v : Int32} (hn : 106 ≤ n) (ha : an ≤ 400) : ga_Mx E 1 yX3_actAt cX3_actAt 2 (some (.object "ThreeDays$Act")) 0 0 [.ref 9, .int v] (n, (c0 :: c1 :: c2 :: c3 :: c4 :: c5 :: c6 :: c7 :: c8 :: k_L an :: ga_r 4 401 (l_w an) :: L1), L2, f) (some (ga_rf (l_w an v.toNatClampNeg))) (n, (c0 :: c1 :: c2 :: c3 :: c4 :: c5 :: c6 :: c7 :: c8 :: k_L an :: ga_r 4 401 (l_w an) :: L1), L2, f) := by
  refine ga_Mt.of (by decide) rfl (fun X hX hP => ?_)
  refine g_less [some (.ref 9), some (.int v)] ⟨rfl, rfl, trivial⟩ ?_
  refine g_iload_n (nx := 1) hX 1 dX3_actAt_0 rfl rfl rfl ?_
  refine g_iconst (nx := 2) hX 1 dX3_actAt_1 rfl (by decide) ?_
  refine g_aload_n (nx := 3) hX 0 dX3_actAt_2 rfl rfl rfl ?_
  refine g_getfield (nx := 6) hX dX3_actAt_3 rfl fX3_25 (ga_dn hn rfl) rfl rfl ?_
  refine g_SN3 (nx := 9) hX dX3_actAt_6 rfl nX3_29 yX10_isWithin_ok (c_X10_isWithin) (by decide) rfl (Nat.le_of_ble_eq_true rfl) (Nat.le_of_ble_eq_true rfl) ?_
  rintro _ _ ⟨rfl, rfl⟩
  refine g_if_eq (nx := 12) hX 21 dX3_actAt_9 (by decide) rfl (fun h9 => ?_) (fun h9 => ?_)
  · refine g_aconst_null (nx := 22) hX dX3_actAt_21 rfl ?_
    exact g_areturn hX hP dX3_actAt_22 (Or.inl rfl) (Nat.le_of_ble_eq_true rfl) (Nat.le_of_ble_eq_true rfl) ⟨by rw [show l_w an v.toNatClampNeg = none from if_neg (fun q => ga_b_0 h9 (v_1 q.1 q.2 (by omega)))]; rfl, rfl⟩
  · have hb := ga_b_n0 h9
    have h0 : 0 ≤ v := v_tr (by decide) hb.1
    refine g_aload_n (nx := 13) hX 0 dX3_actAt_12 rfl rfl rfl ?_
    refine g_getfield (nx := 16) hX dX3_actAt_13 rfl fX3_13 (ga_dn hn rfl) rfl rfl ?_
    refine g_iload_n (nx := 17) hX 1 dX3_actAt_16 rfl rfl rfl ?_
    refine g_aaload4 (nx := 18) hX dX3_actAt_17 rfl (ga_dn hn rfl) rfl (ix_le h0 hb.2 (by omega) (by omega)) ?_
    refine g_goto (nx := 22) hX dX3_actAt_18 (by decide) ?_
    exact g_areturn hX hP dX3_actAt_22 (by cases l_w an v.toNatClampNeg; exact Or.inl rfl; exact Or.inr ⟨_, rfl⟩) (Nat.le_of_ble_eq_true rfl) (Nat.le_of_ble_eq_true rfl) ⟨rfl, rfl⟩
theorem c_X3_riderOf {k : Nat} (ha : an ≤ 400) (hk : 1 ≤ k) (hk2 : k ≤ an) : ga_Mx E 2 yX3_riderOf cX3_riderOf 3 (some .int) 0 0 [.ref 9, .int (nI k)] (an + 106, (c0 :: c1 :: c2 :: c3 :: c4 :: c5 :: c6 :: c7 :: c8 :: k_L an :: ga_r 4 401 (l_w an) :: L1), L2, sh_f sv (a_f av)) (some (.int (av k).1)) (an + 106, (c0 :: c1 :: c2 :: c3 :: c4 :: c5 :: c6 :: c7 :: c8 :: k_L an :: ga_r 4 401 (l_w an) :: L1), L2, sh_f sv (a_f av)) := by
  have hn : 106 ≤ an + 106 := by omega
  have hw : l_w an (nI k).toNatClampNeg = some (k + 105) := by rw [nI_clamp (by omega)]; exact l_w_in ⟨hk, hk2⟩
  refine ga_Mt.of (by decide) rfl (fun X hX hP => ?_)
  refine g_less [some (.ref 9), some (.int (nI k)), none] ⟨rfl, rfl, trivial⟩ ?_
  refine g_aload_n (nx := 1) hX 0 dX3_riderOf_0 rfl rfl rfl ?_
  refine g_iload_n (nx := 2) hX 1 dX3_riderOf_1 rfl rfl rfl ?_
  refine g_V1 (nx := 5) hX dX3_riderOf_2 rfl mX3_44 yX3_actAt_ok (c_X3_actAt hn ha) (ga_dn hn rfl) rfl rfl rfl (by decide) rfl (Nat.le_of_ble_eq_true rfl) (Nat.le_of_ble_eq_true rfl) ?_
  rintro _ _ ⟨rfl, rfl⟩
  rw [hw]
  refine g_astore_n (nx := 6) hX 2 dX3_riderOf_5 rfl rfl rfl ?_
  refine g_aload_n (nx := 7) hX 2 dX3_riderOf_6 rfl rfl rfl ?_
  refine g_ifnonnull hX 14 dX3_riderOf_7 (by decide) ?_
  refine g_aload_n (nx := 15) hX 2 dX3_riderOf_14 rfl rfl rfl ?_
  refine g_getfield (nx := 18) hX dX3_riderOf_15 rfl fX3_54 (by show _ < an + 106; omega) (get_a hk) rfl ?_
  exact g_ireturn hX hP dX3_riderOf_18 rfl (Nat.le_of_ble_eq_true rfl) (Nat.le_of_ble_eq_true rfl) ⟨rfl, rfl⟩
theorem c_X3_oldestOf {k : Nat} (hn : 106 ≤ n) (hk : k < 24) : ga_Mx E 1 yX3_oldestOf cX3_oldestOf 2 (some (.object "ThreeDays$Act")) 0 0 [.ref 9, .int (nI k)] (n, (c0 :: c1 :: c2 :: c3 :: c4 :: c5 :: c6 :: c7 :: c8 :: k_L an :: c10 :: ga_r 4 24 ol :: L1), L2, f) (some (ga_rf (ol k))) (n, (c0 :: c1 :: c2 :: c3 :: c4 :: c5 :: c6 :: c7 :: c8 :: k_L an :: c10 :: ga_r 4 24 ol :: L1), L2, f) := by
  refine ga_Mt.of (by decide) rfl (fun X hX hP => ?_)
  refine g_less [some (.ref 9), some (.int (nI k))] ⟨rfl, rfl, trivial⟩ ?_
  refine g_iload_n (nx := 1) hX 1 dX3_oldestOf_0 rfl rfl rfl ?_
  refine g_iconst (nx := 2) hX 0 dX3_oldestOf_1 rfl (by decide) ?_
  refine g_bipush (nx := 4) hX 23 dX3_oldestOf_2 rfl (by decide) ?_
  refine g_SN3 (nx := 7) hX dX3_oldestOf_4 rfl nX3_29 yX10_isWithin_ok (c_X10_isWithin) (by decide) rfl (Nat.le_of_ble_eq_true rfl) (Nat.le_of_ble_eq_true rfl) ?_
  rintro _ _ ⟨rfl, rfl⟩
  refine g_if_eq (nx := 10) hX 19 dX3_oldestOf_7 (by decide) rfl (fun h7 => ?_) (fun h7 => ?_)
  · exact absurd ⟨nI_pos' (by omega), nI_le (b := 23) (by omega) (by omega)⟩ (ga_b_0 h7)
  · refine g_aload_n (nx := 11) hX 0 dX3_oldestOf_10 rfl rfl rfl ?_
    refine g_getfield (nx := 14) hX dX3_oldestOf_11 rfl fX3_19 (ga_dn hn rfl) rfl rfl ?_
    refine g_iload_n (nx := 15) hX 1 dX3_oldestOf_14 rfl rfl rfl ?_
    refine g_aaload4 (nx := 16) hX dX3_oldestOf_15 rfl (ga_dn hn rfl) rfl (ga_ix_of rfl (by omega) (by omega)) ?_
    refine g_goto (nx := 20) hX dX3_oldestOf_16 (by decide) ?_
    exact g_areturn hX hP dX3_oldestOf_20 (by cases ol k; exact Or.inl rfl; exact Or.inr ⟨_, rfl⟩) (Nat.le_of_ble_eq_true rfl) (Nat.le_of_ble_eq_true rfl) ⟨rfl, rfl⟩
theorem c_X3_write {t : a_S} (ha : an < 400) : ga_Mx E 0 yX3_write cX3_write 2 none 0 0 [.ref 9, .ref (an + 106)] (an + 107, (c0 :: c1 :: c2 :: c3 :: c4 :: c5 :: c6 :: c7 :: c8 :: k_L an :: ga_r 4 401 (l_w an) :: L1), L2, sh_f sv (a_f (va_up av (an + 1) t))) none (an + 107, (c0 :: c1 :: c2 :: c3 :: c4 :: c5 :: c6 :: c7 :: c8 :: k_L (an + 1) :: ga_r 4 401 (l_w (an + 1)) :: L1), L2, sh_f sv (a_f (va_up av (an + 1) (t.1, t.2.1, t.2.2.1, t.2.2.2.1, t.2.2.2.2.1, nI (an + 1), t.2.2.2.2.2.2.1, t.2.2.2.2.2.2.2)))) := by
  have hn : 106 ≤ an + 107 := by omega
  refine ga_Mt.of (by decide) rfl (fun X hX hP => ?_)
  refine g_less [some (.ref 9), some (.ref (an + 106))] ⟨rfl, rfl, trivial⟩ ?_
  refine g_aload_n (nx := 1) hX 0 dX3_write_0 rfl rfl rfl ?_
  refine g_dup (nx := 2) hX dX3_write_1 rfl rfl ?_
  refine g_getfield (nx := 5) hX dX3_write_2 rfl fX3_25 (ga_dn hn rfl) rfl rfl ?_
  refine g_iconst (nx := 6) hX 1 dX3_write_5 rfl (by decide) ?_
  refine g_iadd (nx := 7) hX dX3_write_6 rfl ?_
  rw [nI_1]
  refine g_putfield (nx := 10) hX dX3_write_7 rfl pX3_25 (ga_dn hn rfl) rfl rfl rfl rfl ?_
  refine g_aload_n (nx := 11) hX 1 dX3_write_10 rfl rfl rfl ?_
  refine g_aload_n (nx := 12) hX 0 dX3_write_11 rfl rfl rfl ?_
  refine g_getfield (nx := 15) hX dX3_write_12 rfl fX3_25 (ga_dn hn rfl) rfl rfl ?_
  refine g_putfield (nx := 18) hX dX3_write_15 rfl pX3_57 (by show _ < an + 107; omega) (get_aF (k := an + 1) (by omega)) rfl rfl rfl ?_
  refine g_mem (put_aF (k := an + 1) (by omega)) ?_
  refine g_aload_n (nx := 19) hX 0 dX3_write_18 rfl rfl rfl ?_
  refine g_getfield (nx := 22) hX dX3_write_19 rfl fX3_13 (ga_dn hn rfl) rfl rfl ?_
  refine g_aload_n (nx := 23) hX 0 dX3_write_22 rfl rfl rfl ?_
  refine g_getfield (nx := 26) hX dX3_write_23 rfl fX3_25 (ga_dn hn rfl) rfl rfl ?_
  refine g_aload_n (nx := 27) hX 1 dX3_write_26 rfl rfl rfl ?_
  refine g_aastore4 (nx := 28) hX dX3_write_27 rfl (ga_dn hn rfl) rfl (by show _ < an + 107; omega) (get_aF (k := an + 1) (by omega)) (ga_ix_of rfl (by omega) (by omega)) ?_
  exact g_return hX hP dX3_write_28 (Nat.le_of_ble_eq_true rfl) (Nat.le_of_ble_eq_true rfl) ⟨rfl, by rw [← l_w_add]; rfl⟩
end
