/-! ===== the sheets, the board, the class, the reference are made ===== -/
abbrev s_new : sh_S := (1, 0, 0, 0, 0, 0, 0, 0, fun _ => 0)
section
variable {n a : Nat} {L1 L2 : List ga_C} {f : Nat → ga_C} {c c' v : ga_C} {g : Nat → ga_C}
theorem hi_new (ha : 31 ≤ a ∧ a < 79) : ga_new (a, L1, L2, f) c = (a + 1, L1, L2, va_up f a c) := ga_put_hi _ _ (Or.inl ha)
theorem hi_get2 (ha : 31 ≤ a ∧ a < 79) : ga_get (n, L1, L2, va_up (va_up f a c) (a + 1) v) a = c := by
  rw [ga_get_hi _ (Or.inl ha)]
  show va_up (va_up f a c) (a + 1) v a = c
  rw [up_n (by omega), up_s]
theorem hi_put2 (ha : 31 ≤ a ∧ a < 79) : ga_put (n, L1, L2, va_up (va_up f a c) (a + 1) v) a c' = (n, L1, L2, va_up (va_up f a c') (a + 1) v) := by
  rw [ga_put_hi _ _ (Or.inl ha)]
  show (n, L1, L2, va_up (va_up (va_up f a c) (a + 1) v) a c') = _
  congr 3
  funext j
  by_cases h1 : j = a
  · rw [h1, up_s, up_n (show a ≠ a + 1 by omega), up_s]
  · rw [up_n h1]
    by_cases h2 : j = a + 1
    · rw [h2, up_s, up_s]
    · rw [up_n h2, up_n h2, up_n h1, up_n h1]
theorem sh_same {r : Nat} (hr : r < 24) : va_up (va_up (sh_f (fun _ => s_new) g) (2 * r + 31) (ga_o 7 [.ref (2 * r + 31 + 1), .int 1, .int 0, .int 0, .int 0, .int 0, .int 0, .int 0, .long 0])) (2 * r + 31 + 1) (ga_l 39 (fun _ => 0)) = sh_f (fun _ => s_new) g := by
  funext j
  by_cases h2 : j = 2 * r + 31 + 1
  · rw [h2, up_s]
    unfold sh_f
    rw [if_pos (by omega), if_neg (by omega)]
  · rw [up_n h2]
    by_cases h1 : j = 2 * r + 31
    · rw [h1, up_s]
      unfold sh_f
      rw [if_pos (by omega), if_pos (by omega), show (2 * r + 31 - 31) / 2 = r by omega]
    · rw [up_n h1]
def w_r (r : Nat) : Nat → Option Nat := fun k => if k < r then some (2 * k + 31) else none
theorem w_r_0 : w_r 0 = fun _ => none := by funext k; unfold w_r; rw [if_neg (by omega)]
theorem w_r_s {r : Nat} : va_up (w_r r) r (some (2 * r + 31)) = w_r (r + 1) := by
  funext k
  unfold w_r
  by_cases h : k = r
  · rw [h, up_s, if_pos (by omega)]
  · rw [up_n h]
    by_cases h2 : k < r
    · rw [if_pos h2, if_pos (by omega)]
    · rw [if_neg h2, if_neg (by omega)]
end
section
variable {E : ga_E} {X : ga_X} {n : Nat} {c0 c1 c2 c3 c4 c5 c6 c7 c8 c9 c10 c11 c12 c13 c14 c15 c16 c17 c18 c19 c20 c21 c22 c23 c24 c25 c26 c27 c28 c29 c30 m79 m80 m81 m82 m83 m84 m85 m86 m87 m88 m89 m90 m91 m92 m93 m94 m95 m96 m97 m98 m99 m100 m101 m102 m103 m104 m105 : ga_C} {L1 L2 : List ga_C} {f : Nat → ga_C} {o_tp o_rd o_fe o_em o_sp o_ac o_td o_sm o_tt o_at o_sz o_fk o_fp o_nw o_md o_nt o_pl o_op d_at d_tk d_ta d_fd d_fa : Int32} {d_tv : Int64} {d_rl : Value}
variable {g : Nat → ga_C}
theorem c_X7_init {a : Nat} (hid : ∀ a, E.2.1 a = E.1 + a) (ha : 31 ≤ a) (ha2 : a < 78) : ga_Mt E 1 yX7_init cX7_init 1 none 1 39 [.ref a] (a + 1, L1, L2, va_up f a (ga_o 7 ga_df7)) (fun r M => r = none ∧ M = (a + 2, L1, L2, va_up (va_up f a (ga_o 7 [.ref (a + 1), .int 1, .int 0, .int 0, .int 0, .int 0, .int 0, .int 0, .long 0])) (a + 1) (ga_l 39 (fun _ => 0)))) := by
  refine ga_Mt.of (by decide) rfl (fun X hX hP => ?_)
  refine g_less [some (.ref a)] ⟨rfl, trivial⟩ ?_
  refine g_aload_n (nx := 1) hX 0 dX7_init_0 rfl rfl rfl ?_
  refine g_objInit (nx := 4) hX dX7_init_1 rfl mX7_7 ob_i ob_c (by decide) rfl ?_
  refine g_aload_n (nx := 5) hX 0 dX7_init_4 rfl rfl rfl ?_
  refine g_bipush (nx := 7) hX 39 dX7_init_5 rfl (by decide) ?_
  refine g_newarray_long (nx := 9) hX 39 dX7_init_7 rfl ar_long (by decide) (by decide) (by decide) (by decide) (by decide) (hid _) ?_
  refine g_mem (hi_new (a := a + 1) ⟨by omega, by omega⟩) ?_
  refine g_putfieldF (nx := 12) hX rfl dX7_init_9 rfl pX7_13 (by show a < a + 2; omega) (hi_get2 ⟨ha, by omega⟩) rfl rfl rfl ?_
  refine g_mem (hi_put2 ⟨ha, by omega⟩) ?_
  refine g_aload_n (nx := 13) hX 0 dX7_init_12 rfl rfl rfl ?_
  refine g_iconst (nx := 14) hX 1 dX7_init_13 rfl (by decide) ?_
  refine g_putfield (nx := 17) hX dX7_init_14 rfl pX7_17 (by show a < a + 2; omega) (hi_get2 ⟨ha, by omega⟩) rfl rfl rfl ?_
  refine g_mem (hi_put2 ⟨ha, by omega⟩) ?_
  exact g_return hX hP dX7_init_17 (Nat.le_of_ble_eq_true rfl) (Nat.le_of_ble_eq_true rfl) ⟨rfl, rfl⟩
theorem c_X1_init (hid : ∀ a, E.2.1 a = E.1 + a) : ga_Mt E 2 yX1_init cX1_init 6 none 51 1300 [.ref 27, .ref 3, .ref 6, .ref 9, .ref 15] (28, (c0 :: c1 :: c2 :: c3 :: c4 :: c5 :: c6 :: c7 :: c8 :: c9 :: c10 :: c11 :: c12 :: c13 :: c14 :: c15 :: c16 :: c17 :: c18 :: c19 :: c20 :: c21 :: c22 :: c23 :: c24 :: c25 :: c26 :: ga_o 1 ga_df1 :: c28 :: c29 :: c30 :: []), L2, sh_f (fun _ => s_new) g) (fun r M => r = none ∧ M = (79, (c0 :: c1 :: c2 :: c3 :: c4 :: c5 :: c6 :: c7 :: c8 :: c9 :: c10 :: c11 :: c12 :: c13 :: c14 :: c15 :: c16 :: c17 :: c18 :: c19 :: c20 :: c21 :: c22 :: c23 :: c24 :: c25 :: c26 :: k_B 0 :: ga_r 3 24 b_w :: k_Y 0 :: ga_i 120 (fun _ => 0) :: []), L2, sh_f (fun _ => s_new) g)) := by
  refine ga_Mt.of (by decide) rfl (fun X hX hP => ?_)
  refine g_less [some (.ref 27), some (.ref 3), some (.ref 6), some (.ref 9), some (.ref 15), none] ⟨rfl, rfl, rfl, rfl, rfl, trivial⟩ ?_
  have hV := hX.2.2.2.2.2.2.2.2.1
  have loop : ∀ (m r : Nat), r + m = 24 → ga_G E X (3 + 2 * r) (148 + 48 * r) 45 [some (.ref 27), none, none, none, none, some (.int (nI r))] [] (2 * r + 31, (c0 :: c1 :: c2 :: c3 :: c4 :: c5 :: c6 :: c7 :: c8 :: c9 :: c10 :: c11 :: c12 :: c13 :: c14 :: c15 :: c16 :: c17 :: c18 :: c19 :: c20 :: c21 :: c22 :: c23 :: c24 :: c25 :: c26 :: k_B 0 :: ga_r 3 24 (w_r r) :: k_Y 0 :: ga_i 120 (fun _ => 0) :: []), L2, sh_f (fun _ => s_new) g) := by
    intro m
    induction m with
    | zero =>
      intro r hr
      have e : r = 24 := by omega
      subst e
      refine g_iload (nx := 47) hX 5 dX1_init_45 rfl rfl ?_
      refine g_bipush (nx := 49) hX 24 dX1_init_47 rfl (by decide) ?_
      refine g_icmp_ge (nx := 52) hX 72 dX1_init_49 (by decide) rfl (fun h49 => ?_) (fun h49 => ?_)
      · refine g_ext (a := 28) (t := 3) (m := 24) (f := w_r 24) (f' := b_w) (ga_dl rfl) hV rfl (fun j hj => by unfold w_r; rw [if_pos hj]) ?_
        exact g_return hX hP dX1_init_72 (Nat.le_of_ble_eq_true rfl) (Nat.le_of_ble_eq_true rfl) ⟨rfl, rfl⟩
      · exact absurd (nI_le (a := 24) (b := 24) (by omega) (by omega)) h49
    | succ m ih =>
      intro r hr
      have ih1 := ih (r + 1) (by omega)
      rw [← w_r_s] at ih1
      refine g_iload (nx := 47) hX 5 dX1_init_45 rfl rfl ?_
      refine g_bipush (nx := 49) hX 24 dX1_init_47 rfl (by decide) ?_
      refine g_icmp_ge (nx := 52) hX 72 dX1_init_49 (by decide) rfl (fun h49 => ?_) (fun h49 => ?_)
      · exact absurd ((nI_leI (a := 24) (by omega) (by omega)).mp h49) (by omega)
      · refine g_aload_n (nx := 53) hX 0 dX1_init_52 rfl rfl rfl ?_
        refine g_getfield (nx := 56) hX dX1_init_53 rfl fX1_13 (by show _ < 2 * r + _; omega) rfl rfl ?_
        refine g_iload (nx := 58) hX 5 dX1_init_56 rfl rfl ?_
        refine g_new (nx := 61) hX (ci := 7) (ga_df7) dX1_init_58 rfl rfl lX1_11 qX7 zX7 (ga_df7_ok E) (by omega) (by show 148 + 48 * r + 9 ≤ 1300; omega) (hid _) ?_
        refine g_mem (hi_new (a := 2 * r + 31) ⟨by omega, by omega⟩) ?_
        refine g_dup (nx := 62) hX dX1_init_61 rfl rfl ?_
        refine g_IN0 (nx := 65) hX dX1_init_62 rfl nX1_40 yX7_init_ok (c_X7_init (a := 2 * r + 31) hid (by omega) (by omega)) (by decide) rfl (by omega) (by show 148 + 48 * r + 9 + 39 ≤ 1300; omega) ?_
        rintro _ _ ⟨rfl, rfl⟩
        rw [sh_same (by omega), show 2 * r + 31 + 2 = 2 * (r + 1) + 31 by omega]
        refine g_widen (kc' := 3 + 2 * (r + 1)) (ks' := 148 + 48 * (r + 1)) (by omega) (by show 148 + 48 * r + 9 + 39 ≤ _; omega) ?_
        refine g_aastore3 (nx := 66) hX dX1_init_65 rfl (by show _ < 2 * (r + 1) + 31; omega) rfl (by show _ < 2 * (r + 1) + 31; omega) (get_so (by omega)) (ga_ix_of (j := r) rfl (by omega) (by omega)) ?_
        refine g_iinc (nx := 69) hX 5 (nI (r + 1)) dX1_init_66 rfl rfl rfl (nI_1 r) ?_
        refine g_goto (nx := 45) hX dX1_init_69 (by decide) ?_
        exact g_ls ih1 ⟨rfl, rfl, trivial⟩
  have t0 := loop 24 0 rfl
  rw [w_r_0] at t0
  refine g_aload_n (nx := 1) hX 0 dX1_init_0 rfl rfl rfl ?_
  refine g_objInit (nx := 4) hX dX1_init_1 rfl mX1_3 ob_i ob_c (by decide) rfl ?_
  refine g_aload_n (nx := 5) hX 0 dX1_init_4 rfl rfl rfl ?_
  refine g_bipush (nx := 7) hX 24 dX1_init_5 rfl (by decide) ?_
  refine g_anewarray3 (nx := 10) hX 24 dX1_init_7 rfl lX1_11 (by decide) (by decide) (by decide) (by decide) (by decide) (hid _) ?_
  refine g_putfieldF (nx := 13) hX rfl dX1_init_10 rfl pX1_13 (ga_dl rfl) rfl rfl rfl rfl ?_
  refine g_aload_n (nx := 14) hX 0 dX1_init_13 rfl rfl rfl ?_
  refine g_aload_n (nx := 15) hX 1 dX1_init_14 rfl rfl rfl ?_
  refine g_putfieldF (nx := 18) hX rfl dX1_init_15 rfl pX1_19 (ga_dl rfl) rfl rfl rfl rfl ?_
  refine g_aload_n (nx := 19) hX 0 dX1_init_18 rfl rfl rfl ?_
  refine g_aload_n (nx := 20) hX 3 dX1_init_19 rfl rfl rfl ?_
  refine g_putfieldF (nx := 23) hX rfl dX1_init_20 rfl pX1_23 (ga_dl rfl) rfl rfl rfl rfl ?_
  refine g_aload_n (nx := 24) hX 0 dX1_init_23 rfl rfl rfl ?_
  refine g_aload (nx := 26) hX 4 dX1_init_24 rfl rfl ?_
  refine g_putfield (nx := 29) hX dX1_init_26 rfl pX1_27 (ga_dl rfl) rfl rfl rfl rfl ?_
  refine g_aload_n (nx := 30) hX 0 dX1_init_29 rfl rfl rfl ?_
  refine g_new (nx := 33) hX (ci := 8) (ga_df8) dX1_init_30 rfl rfl lX1_31 qX8 zX8 (ga_df8_ok E) (by decide) (by decide) (hid _) ?_
  refine g_mem (M' := (30, (c0 :: c1 :: c2 :: c3 :: c4 :: c5 :: c6 :: c7 :: c8 :: c9 :: c10 :: c11 :: c12 :: c13 :: c14 :: c15 :: c16 :: c17 :: c18 :: c19 :: c20 :: c21 :: c22 :: c23 :: c24 :: c25 :: c26 :: ga_o 1 [.ref 3, .ref 9, .null, .ref 28, .ref 15, .int 0] :: ga_r 3 24 (fun _ => none) :: ga_o 8 ga_df8 :: c30 :: []), L2, sh_f (fun _ => s_new) g)) rfl ?_
  refine g_dup (nx := 34) hX dX1_init_33 rfl rfl ?_
  refine g_aload_n (nx := 35) hX 2 dX1_init_34 rfl rfl rfl ?_
  refine g_aload_n (nx := 36) hX 3 dX1_init_35 rfl rfl rfl ?_
  refine g_I2 (nx := 39) hX dX1_init_36 rfl mX1_33 yX8_init_ok (c_X8_init hid) (by decide) rfl (Nat.le_of_ble_eq_true rfl) (Nat.le_of_ble_eq_true rfl) ?_
  rintro _ _ ⟨rfl, rfl⟩
  refine g_putfieldF (nx := 42) hX rfl dX1_init_39 rfl pX1_36 (ga_dl rfl) rfl rfl rfl rfl ?_
  refine g_iconst (nx := 43) hX 0 dX1_init_42 rfl (by decide) ?_
  refine g_istore (nx := 45) hX 5 dX1_init_43 rfl rfl ?_
  exact g_ls t0 ⟨rfl, rfl, trivial⟩
theorem c_X10_init (hid : ∀ a, E.2.1 a = E.1 + a) : ga_Mw E 6 yX10_init cX10_init 1 none 78 5200 [.ref 0] (1, (ga_o 10 ga_df10 :: c1 :: c2 :: c3 :: c4 :: c5 :: c6 :: c7 :: c8 :: c9 :: c10 :: c11 :: c12 :: c13 :: c14 :: c15 :: c16 :: c17 :: c18 :: c19 :: c20 :: c21 :: c22 :: c23 :: c24 :: c25 :: c26 :: c27 :: c28 :: c29 :: c30 :: []), L2, sh_f (fun _ => s_new) g) none (79, (k_0 (-1) :: k_T 0 :: ga_i 600 (fun _ => 0) :: k_R 0 :: ga_i 24 (fun _ => 0) :: ga_i 6 (fun _ => 0) :: k_C 0 0 500 0 0 :: ga_i 32 (fun _ => 0) :: ga_i 30 (fun _ => 0) :: k_L 0 :: ga_r 4 401 (fun _ => none) :: ga_r 4 24 (fun _ => none) :: ga_r 4 24 (fun _ => none) :: k_D .null 0 0 0 0 0 (-1) :: ga_l 39 (w_nm (w_st 98).2) :: k_U 15 0 0 (-1) 0 :: ga_i 600 (fun _ => 0) :: ga_i 600 (fun _ => 0) :: ga_i 24 (fun _ => 0) :: ga_i 24 (fun _ => 0) :: ga_l 32 (fun _ => 0) :: k_U 21 0 0 (-1) 0 :: ga_i 600 (fun _ => 0) :: ga_i 600 (fun _ => 0) :: ga_i 24 (fun _ => 0) :: ga_i 24 (fun _ => 0) :: ga_l 32 (fun _ => 0) :: k_B 0 :: ga_r 3 24 b_w :: k_Y 0 :: ga_i 120 (fun _ => 0) :: []), L2, sh_f (fun _ => s_new) g) := by
  refine ga_Ms.of (by decide) rfl (fun X hX hP hs => ?_)
  refine g_less [some (.ref 0)] ⟨rfl, trivial⟩ ?_
  refine g_aload_n (nx := 1) hX 0 dX10_init_0 rfl rfl rfl ?_
  refine g_objInit (nx := 4) hX dX10_init_1 rfl mX10_1 ob_i ob_c (by decide) rfl ?_
  refine g_aload_n (nx := 5) hX 0 dX10_init_4 rfl rfl rfl ?_
  refine g_new (nx := 8) hX (ci := 9) (ga_df9) dX10_init_5 rfl rfl lX10_7 qX9 zX9 (ga_df9_ok E) (Nat.le_of_ble_eq_true rfl) (Nat.le_of_ble_eq_true rfl) (hid _) ?_
  refine g_mem (M' := (2, (ga_o 10 ga_df10 :: ga_o 9 ga_df9 :: c2 :: c3 :: c4 :: c5 :: c6 :: c7 :: c8 :: c9 :: c10 :: c11 :: c12 :: c13 :: c14 :: c15 :: c16 :: c17 :: c18 :: c19 :: c20 :: c21 :: c22 :: c23 :: c24 :: c25 :: c26 :: c27 :: c28 :: c29 :: c30 :: []), L2, sh_f (fun _ => s_new) g)) rfl ?_
  refine g_dup (nx := 9) hX dX10_init_8 rfl rfl ?_
  refine g_IN0 (nx := 12) hX dX10_init_9 rfl nX10_9 yX9_init_ok (c_X9_init hid) (by decide) rfl (Nat.le_of_ble_eq_true rfl) (Nat.le_of_ble_eq_true rfl) ?_
  rintro _ _ ⟨rfl, rfl⟩
  refine g_putfieldF (nx := 15) hX rfl dX10_init_12 rfl pX10_10 (ga_dl rfl) rfl rfl rfl rfl ?_
  refine g_aload_n (nx := 16) hX 0 dX10_init_15 rfl rfl rfl ?_
  refine g_new (nx := 19) hX (ci := 5) (ga_df5) dX10_init_16 rfl rfl lX10_16 qX5 zX5 (ga_df5_ok E) (Nat.le_of_ble_eq_true rfl) (Nat.le_of_ble_eq_true rfl) (hid _) ?_
  refine g_mem (M' := (4, (ga_o 10 [.ref 1, .null, .null, .null, .null, .null, .null, .null, .int 0] :: k_T 0 :: ga_i 600 (fun _ => 0) :: ga_o 5 ga_df5 :: c4 :: c5 :: c6 :: c7 :: c8 :: c9 :: c10 :: c11 :: c12 :: c13 :: c14 :: c15 :: c16 :: c17 :: c18 :: c19 :: c20 :: c21 :: c22 :: c23 :: c24 :: c25 :: c26 :: c27 :: c28 :: c29 :: c30 :: []), L2, sh_f (fun _ => s_new) g)) rfl ?_
  refine g_dup (nx := 20) hX dX10_init_19 rfl rfl ?_
  refine g_IN0 (nx := 23) hX dX10_init_20 rfl nX10_18 yX5_init_ok (c_X5_init hid) (by decide) rfl (Nat.le_of_ble_eq_true rfl) (Nat.le_of_ble_eq_true rfl) ?_
  rintro _ _ ⟨rfl, rfl⟩
  refine g_putfieldF (nx := 26) hX rfl dX10_init_23 rfl pX10_19 (ga_dl rfl) rfl rfl rfl rfl ?_
  refine g_aload_n (nx := 27) hX 0 dX10_init_26 rfl rfl rfl ?_
  refine g_new (nx := 30) hX (ci := 2) (ga_df2) dX10_init_27 rfl rfl lX10_23 qX2 zX2 (ga_df2_ok E) (Nat.le_of_ble_eq_true rfl) (Nat.le_of_ble_eq_true rfl) (hid _) ?_
  refine g_mem (M' := (7, (ga_o 10 [.ref 1, .ref 3, .null, .null, .null, .null, .null, .null, .int 0] :: k_T 0 :: ga_i 600 (fun _ => 0) :: k_R 0 :: ga_i 24 (fun _ => 0) :: ga_i 6 (fun _ => 0) :: ga_o 2 ga_df2 :: c7 :: c8 :: c9 :: c10 :: c11 :: c12 :: c13 :: c14 :: c15 :: c16 :: c17 :: c18 :: c19 :: c20 :: c21 :: c22 :: c23 :: c24 :: c25 :: c26 :: c27 :: c28 :: c29 :: c30 :: []), L2, sh_f (fun _ => s_new) g)) rfl ?_
  refine g_dup (nx := 31) hX dX10_init_30 rfl rfl ?_
  refine g_IN0 (nx := 34) hX dX10_init_31 rfl nX10_25 yX2_init_ok (c_X2_init hid) (by decide) rfl (Nat.le_of_ble_eq_true rfl) (Nat.le_of_ble_eq_true rfl) ?_
  rintro _ _ ⟨rfl, rfl⟩
  refine g_putfieldF (nx := 37) hX rfl dX10_init_34 rfl pX10_26 (ga_dl rfl) rfl rfl rfl rfl ?_
  refine g_aload_n (nx := 38) hX 0 dX10_init_37 rfl rfl rfl ?_
  refine g_new (nx := 41) hX (ci := 3) (ga_df3) dX10_init_38 rfl rfl lX10_30 qX3 zX3 (ga_df3_ok E) (Nat.le_of_ble_eq_true rfl) (Nat.le_of_ble_eq_true rfl) (hid _) ?_
  refine g_mem (M' := (10, (ga_o 10 [.ref 1, .ref 3, .ref 6, .null, .null, .null, .null, .null, .int 0] :: k_T 0 :: ga_i 600 (fun _ => 0) :: k_R 0 :: ga_i 24 (fun _ => 0) :: ga_i 6 (fun _ => 0) :: k_C 0 0 500 0 0 :: ga_i 32 (fun _ => 0) :: ga_i 30 (fun _ => 0) :: ga_o 3 ga_df3 :: c10 :: c11 :: c12 :: c13 :: c14 :: c15 :: c16 :: c17 :: c18 :: c19 :: c20 :: c21 :: c22 :: c23 :: c24 :: c25 :: c26 :: c27 :: c28 :: c29 :: c30 :: []), L2, sh_f (fun _ => s_new) g)) rfl ?_
  refine g_dup (nx := 42) hX dX10_init_41 rfl rfl ?_
  refine g_IN0 (nx := 45) hX dX10_init_42 rfl nX10_32 yX3_init_ok (c_X3_init hid) (by decide) rfl (Nat.le_of_ble_eq_true rfl) (Nat.le_of_ble_eq_true rfl) ?_
  rintro _ _ ⟨rfl, rfl⟩
  refine g_putfieldF (nx := 48) hX rfl dX10_init_45 rfl pX10_33 (ga_dl rfl) rfl rfl rfl rfl ?_
  refine g_aload_n (nx := 49) hX 0 dX10_init_48 rfl rfl rfl ?_
  refine g_new (nx := 52) hX (ci := 4) (ga_df4) dX10_init_49 rfl rfl lX10_37 qX4 zX4 (ga_df4_ok E) (Nat.le_of_ble_eq_true rfl) (Nat.le_of_ble_eq_true rfl) (hid _) ?_
  refine g_mem (M' := (14, (ga_o 10 [.ref 1, .ref 3, .ref 6, .ref 9, .null, .null, .null, .null, .int 0] :: k_T 0 :: ga_i 600 (fun _ => 0) :: k_R 0 :: ga_i 24 (fun _ => 0) :: ga_i 6 (fun _ => 0) :: k_C 0 0 500 0 0 :: ga_i 32 (fun _ => 0) :: ga_i 30 (fun _ => 0) :: k_L 0 :: ga_r 4 401 (fun _ => none) :: ga_r 4 24 (fun _ => none) :: ga_r 4 24 (fun _ => none) :: ga_o 4 ga_df4 :: c14 :: c15 :: c16 :: c17 :: c18 :: c19 :: c20 :: c21 :: c22 :: c23 :: c24 :: c25 :: c26 :: c27 :: c28 :: c29 :: c30 :: []), L2, sh_f (fun _ => s_new) g)) rfl ?_
  refine g_dup (nx := 53) hX dX10_init_52 rfl rfl ?_
  refine g_aload_n (nx := 54) hX 0 dX10_init_53 rfl rfl rfl ?_
  refine g_getfield (nx := 57) hX dX10_init_54 rfl fX10_10 (ga_dl rfl) rfl rfl ?_
  refine g_sI (As := [.ref 1]) (nx := 60) hX hs dX10_init_57 rfl mX10_39 yX4_init_ok (c_X4_init hid) rfl rfl (by decide) rfl (Nat.le_of_ble_eq_true rfl) (Nat.le_of_ble_eq_true rfl) ?_
  rintro _ _ ⟨rfl, rfl⟩
  refine g_putfieldF (nx := 63) hX rfl dX10_init_60 rfl pX10_42 (ga_dl rfl) rfl rfl rfl rfl ?_
  refine g_aload_n (nx := 64) hX 0 dX10_init_63 rfl rfl rfl ?_
  refine g_new (nx := 67) hX (ci := 6) (ga_df6) dX10_init_64 rfl rfl lX10_46 qX6 zX6 (ga_df6_ok E) (Nat.le_of_ble_eq_true rfl) (Nat.le_of_ble_eq_true rfl) (hid _) ?_
  refine g_mem (M' := (16, (ga_o 10 [.ref 1, .ref 3, .ref 6, .ref 9, .ref 13, .null, .null, .null, .int 0] :: k_T 0 :: ga_i 600 (fun _ => 0) :: k_R 0 :: ga_i 24 (fun _ => 0) :: ga_i 6 (fun _ => 0) :: k_C 0 0 500 0 0 :: ga_i 32 (fun _ => 0) :: ga_i 30 (fun _ => 0) :: k_L 0 :: ga_r 4 401 (fun _ => none) :: ga_r 4 24 (fun _ => none) :: ga_r 4 24 (fun _ => none) :: k_D .null 0 0 0 0 0 (-1) :: ga_l 39 (w_nm (w_st 98).2) :: ga_o 6 ga_df6 :: c16 :: c17 :: c18 :: c19 :: c20 :: c21 :: c22 :: c23 :: c24 :: c25 :: c26 :: c27 :: c28 :: c29 :: c30 :: []), L2, sh_f (fun _ => s_new) g)) rfl ?_
  refine g_dup (nx := 68) hX dX10_init_67 rfl rfl ?_
  refine g_IN0 (nx := 71) hX dX10_init_68 rfl nX10_48 yX6_init_ok (c_X6_init_15 hid) (by decide) rfl (Nat.le_of_ble_eq_true rfl) (Nat.le_of_ble_eq_true rfl) ?_
  rintro _ _ ⟨rfl, rfl⟩
  refine g_putfield (nx := 74) hX dX10_init_71 rfl pX10_49 (ga_dl rfl) rfl rfl rfl rfl ?_
  refine g_aload_n (nx := 75) hX 0 dX10_init_74 rfl rfl rfl ?_
  refine g_new (nx := 78) hX (ci := 6) (ga_df6) dX10_init_75 rfl rfl lX10_46 qX6 zX6 (ga_df6_ok E) (Nat.le_of_ble_eq_true rfl) (Nat.le_of_ble_eq_true rfl) (hid _) ?_
  refine g_mem (M' := (22, (ga_o 10 [.ref 1, .ref 3, .ref 6, .ref 9, .ref 13, .null, .ref 15, .null, .int 0] :: k_T 0 :: ga_i 600 (fun _ => 0) :: k_R 0 :: ga_i 24 (fun _ => 0) :: ga_i 6 (fun _ => 0) :: k_C 0 0 500 0 0 :: ga_i 32 (fun _ => 0) :: ga_i 30 (fun _ => 0) :: k_L 0 :: ga_r 4 401 (fun _ => none) :: ga_r 4 24 (fun _ => none) :: ga_r 4 24 (fun _ => none) :: k_D .null 0 0 0 0 0 (-1) :: ga_l 39 (w_nm (w_st 98).2) :: k_U 15 0 0 (-1) 0 :: ga_i 600 (fun _ => 0) :: ga_i 600 (fun _ => 0) :: ga_i 24 (fun _ => 0) :: ga_i 24 (fun _ => 0) :: ga_l 32 (fun _ => 0) :: ga_o 6 ga_df6 :: c22 :: c23 :: c24 :: c25 :: c26 :: c27 :: c28 :: c29 :: c30 :: []), L2, sh_f (fun _ => s_new) g)) rfl ?_
  refine g_dup (nx := 79) hX dX10_init_78 rfl rfl ?_
  refine g_IN0 (nx := 82) hX dX10_init_79 rfl nX10_48 yX6_init_ok (c_X6_init_21 hid) (by decide) rfl (Nat.le_of_ble_eq_true rfl) (Nat.le_of_ble_eq_true rfl) ?_
  rintro _ _ ⟨rfl, rfl⟩
  refine g_putfield (nx := 85) hX dX10_init_82 rfl pX10_53 (ga_dl rfl) rfl rfl rfl rfl ?_
  refine g_aload_n (nx := 86) hX 0 dX10_init_85 rfl rfl rfl ?_
  refine g_new (nx := 89) hX (ci := 1) (ga_df1) dX10_init_86 rfl rfl lX10_56 qX1 zX1 (ga_df1_ok E) (Nat.le_of_ble_eq_true rfl) (Nat.le_of_ble_eq_true rfl) (hid _) ?_
  refine g_mem (M' := (28, (ga_o 10 [.ref 1, .ref 3, .ref 6, .ref 9, .ref 13, .null, .ref 15, .ref 21, .int 0] :: k_T 0 :: ga_i 600 (fun _ => 0) :: k_R 0 :: ga_i 24 (fun _ => 0) :: ga_i 6 (fun _ => 0) :: k_C 0 0 500 0 0 :: ga_i 32 (fun _ => 0) :: ga_i 30 (fun _ => 0) :: k_L 0 :: ga_r 4 401 (fun _ => none) :: ga_r 4 24 (fun _ => none) :: ga_r 4 24 (fun _ => none) :: k_D .null 0 0 0 0 0 (-1) :: ga_l 39 (w_nm (w_st 98).2) :: k_U 15 0 0 (-1) 0 :: ga_i 600 (fun _ => 0) :: ga_i 600 (fun _ => 0) :: ga_i 24 (fun _ => 0) :: ga_i 24 (fun _ => 0) :: ga_l 32 (fun _ => 0) :: k_U 21 0 0 (-1) 0 :: ga_i 600 (fun _ => 0) :: ga_i 600 (fun _ => 0) :: ga_i 24 (fun _ => 0) :: ga_i 24 (fun _ => 0) :: ga_l 32 (fun _ => 0) :: ga_o 1 ga_df1 :: c28 :: c29 :: c30 :: []), L2, sh_f (fun _ => s_new) g)) rfl ?_
  refine g_dup (nx := 90) hX dX10_init_89 rfl rfl ?_
  refine g_aload_n (nx := 91) hX 0 dX10_init_90 rfl rfl rfl ?_
  refine g_getfield (nx := 94) hX dX10_init_91 rfl fX10_19 (ga_dl rfl) rfl rfl ?_
  refine g_aload_n (nx := 95) hX 0 dX10_init_94 rfl rfl rfl ?_
  refine g_getfield (nx := 98) hX dX10_init_95 rfl fX10_26 (ga_dl rfl) rfl rfl ?_
  refine g_aload_n (nx := 99) hX 0 dX10_init_98 rfl rfl rfl ?_
  refine g_getfield (nx := 102) hX dX10_init_99 rfl fX10_33 (ga_dl rfl) rfl rfl ?_
  refine g_aload_n (nx := 103) hX 0 dX10_init_102 rfl rfl rfl ?_
  refine g_getfield (nx := 106) hX dX10_init_103 rfl fX10_49 (ga_dl rfl) rfl rfl ?_
  refine g_I4 (nx := 109) hX dX10_init_106 rfl mX10_58 yX1_init_ok (c_X1_init hid) (by decide) rfl (Nat.le_of_ble_eq_true rfl) (Nat.le_of_ble_eq_true rfl) ?_
  rintro _ _ ⟨rfl, rfl⟩
  refine g_putfieldF (nx := 112) hX rfl dX10_init_109 rfl pX10_61 (ga_dl rfl) rfl rfl rfl rfl ?_
  refine g_aload_n (nx := 113) hX 0 dX10_init_112 rfl rfl rfl ?_
  refine g_iconst (nx := 114) hX (-1) dX10_init_113 rfl (by decide) ?_
  refine g_putfield (nx := 117) hX dX10_init_114 rfl pX10_65 (ga_dl rfl) rfl rfl rfl rfl ?_
  exact g_return hX hP dX10_init_117 (Nat.le_of_ble_eq_true rfl) (Nat.le_of_ble_eq_true rfl) ⟨rfl, rfl⟩
theorem c_X11_init (hid : ∀ a, E.2.1 a = E.1 + a) : ga_Mt E 1 yX11_init cX11_init 1 none 26 7600 [.ref 79] (80, L1, (ga_o 11 ga_df11 :: m80 :: m81 :: m82 :: m83 :: m84 :: m85 :: m86 :: m87 :: m88 :: m89 :: m90 :: m91 :: m92 :: m93 :: m94 :: m95 :: m96 :: m97 :: m98 :: m99 :: m100 :: m101 :: m102 :: m103 :: m104 :: m105 :: []), f) (fun r M => r = none ∧ M = (106, L1, (m_O 0 0 0 0 500 0 (-1) 0 (-1) 0 0 0 (-1) 0 0 (-1) 0 0 :: ga_i 600 (fun _ => 0) :: ga_i 24 (fun _ => 0) :: ga_i 30 (fun _ => 0) :: ga_i 30 (fun _ => 0) :: ga_i 32 (fun _ => 0) :: ga_i 401 (fun _ => 0) :: ga_i 401 (fun _ => 0) :: ga_i 401 (fun _ => 0) :: ga_i 401 (fun _ => 0) :: ga_i 401 (fun _ => 0) :: ga_i 401 (fun _ => 0) :: ga_i 18 (fun _ => 0) :: ga_i 120 (fun _ => 0) :: ga_i 24 (fun _ => 0) :: ga_i 25 (fun _ => 0) :: ga_i 1300 (fun _ => 0) :: ga_i 25 (fun _ => 0) :: ga_i 26 (fun _ => 0) :: ga_i 1300 (fun _ => 0) :: ga_i 250 (fun _ => 0) :: ga_i 25 (fun _ => 0) :: ga_i 40 (fun _ => 0) :: ga_z 40 (fun _ => 0) :: ga_l 310 (fun _ => 0) :: ga_l 576 (fun _ => 0) :: ga_z 24 (fun _ => 0) :: []), f)) := by
  refine ga_Mt.of (by decide) rfl (fun X hX hP => ?_)
  refine g_less [some (.ref 79)] ⟨rfl, trivial⟩ ?_
  refine g_aload_n (nx := 1) hX 0 dX11_init_0 rfl rfl rfl ?_
  refine g_objInit (nx := 4) hX dX11_init_1 rfl mX11_1 ob_i ob_c (by decide) rfl ?_
  refine g_aload_n (nx := 5) hX 0 dX11_init_4 rfl rfl rfl ?_
  refine g_sipush (nx := 8) hX 600 dX11_init_5 rfl (by decide) ?_
  refine g_newarray_int (nx := 10) hX 600 dX11_init_8 rfl ar_int (by decide) (by decide) (by decide) (Nat.le_of_ble_eq_true rfl) (Nat.le_of_ble_eq_true rfl) (hid _) ?_
  refine g_putfieldF (nx := 13) hX rfl dX11_init_10 rfl pX11_7 (ga_dl rfl) rfl rfl rfl rfl ?_
  refine g_mem (M' := (81, L1, (ga_o 11 [.ref 80, .int 0, .int 0, .null, .int 0, .null, .null, .null, .int 0, .int 0, .int 0, .null, .null, .null, .null, .null, .null, .int 0, .null, .null, .int 0, .null, .null, .null, .int 0, .int 0, .int 0, .int 0, .int 0, .int 0, .int 0, .int 0, .null, .null, .null, .null, .null, .null, .null, .int 0, .int 0, .null, .null, .null] :: ga_i 600 (fun _ => 0) :: m81 :: m82 :: m83 :: m84 :: m85 :: m86 :: m87 :: m88 :: m89 :: m90 :: m91 :: m92 :: m93 :: m94 :: m95 :: m96 :: m97 :: m98 :: m99 :: m100 :: m101 :: m102 :: m103 :: m104 :: m105 :: []), f)) rfl ?_
  refine g_aload_n (nx := 14) hX 0 dX11_init_13 rfl rfl rfl ?_
  refine g_iconst (nx := 15) hX 0 dX11_init_14 rfl (by decide) ?_
  refine g_putfield (nx := 18) hX dX11_init_15 rfl pX11_13 (ga_dl rfl) rfl rfl rfl rfl ?_
  refine g_mem (M' := (81, L1, (ga_o 11 [.ref 80, .int 0, .int 0, .null, .int 0, .null, .null, .null, .int 0, .int 0, .int 0, .null, .null, .null, .null, .null, .null, .int 0, .null, .null, .int 0, .null, .null, .null, .int 0, .int 0, .int 0, .int 0, .int 0, .int 0, .int 0, .int 0, .null, .null, .null, .null, .null, .null, .null, .int 0, .int 0, .null, .null, .null] :: ga_i 600 (fun _ => 0) :: m81 :: m82 :: m83 :: m84 :: m85 :: m86 :: m87 :: m88 :: m89 :: m90 :: m91 :: m92 :: m93 :: m94 :: m95 :: m96 :: m97 :: m98 :: m99 :: m100 :: m101 :: m102 :: m103 :: m104 :: m105 :: []), f)) rfl ?_
  refine g_aload_n (nx := 19) hX 0 dX11_init_18 rfl rfl rfl ?_
  refine g_iconst (nx := 20) hX 0 dX11_init_19 rfl (by decide) ?_
  refine g_putfield (nx := 23) hX dX11_init_20 rfl pX11_17 (ga_dl rfl) rfl rfl rfl rfl ?_
  refine g_mem (M' := (81, L1, (ga_o 11 [.ref 80, .int 0, .int 0, .null, .int 0, .null, .null, .null, .int 0, .int 0, .int 0, .null, .null, .null, .null, .null, .null, .int 0, .null, .null, .int 0, .null, .null, .null, .int 0, .int 0, .int 0, .int 0, .int 0, .int 0, .int 0, .int 0, .null, .null, .null, .null, .null, .null, .null, .int 0, .int 0, .null, .null, .null] :: ga_i 600 (fun _ => 0) :: m81 :: m82 :: m83 :: m84 :: m85 :: m86 :: m87 :: m88 :: m89 :: m90 :: m91 :: m92 :: m93 :: m94 :: m95 :: m96 :: m97 :: m98 :: m99 :: m100 :: m101 :: m102 :: m103 :: m104 :: m105 :: []), f)) rfl ?_
  refine g_aload_n (nx := 24) hX 0 dX11_init_23 rfl rfl rfl ?_
  refine g_bipush (nx := 26) hX 24 dX11_init_24 rfl (by decide) ?_
  refine g_newarray_int (nx := 28) hX 24 dX11_init_26 rfl ar_int (by decide) (by decide) (by decide) (Nat.le_of_ble_eq_true rfl) (Nat.le_of_ble_eq_true rfl) (hid _) ?_
  refine g_putfieldF (nx := 31) hX rfl dX11_init_28 rfl pX11_20 (ga_dl rfl) rfl rfl rfl rfl ?_
  refine g_mem (M' := (82, L1, (ga_o 11 [.ref 80, .int 0, .int 0, .ref 81, .int 0, .null, .null, .null, .int 0, .int 0, .int 0, .null, .null, .null, .null, .null, .null, .int 0, .null, .null, .int 0, .null, .null, .null, .int 0, .int 0, .int 0, .int 0, .int 0, .int 0, .int 0, .int 0, .null, .null, .null, .null, .null, .null, .null, .int 0, .int 0, .null, .null, .null] :: ga_i 600 (fun _ => 0) :: ga_i 24 (fun _ => 0) :: m82 :: m83 :: m84 :: m85 :: m86 :: m87 :: m88 :: m89 :: m90 :: m91 :: m92 :: m93 :: m94 :: m95 :: m96 :: m97 :: m98 :: m99 :: m100 :: m101 :: m102 :: m103 :: m104 :: m105 :: []), f)) rfl ?_
  refine g_aload_n (nx := 32) hX 0 dX11_init_31 rfl rfl rfl ?_
  refine g_iconst (nx := 33) hX 0 dX11_init_32 rfl (by decide) ?_
  refine g_putfield (nx := 36) hX dX11_init_33 rfl pX11_23 (ga_dl rfl) rfl rfl rfl rfl ?_
  refine g_mem (M' := (82, L1, (ga_o 11 [.ref 80, .int 0, .int 0, .ref 81, .int 0, .null, .null, .null, .int 0, .int 0, .int 0, .null, .null, .null, .null, .null, .null, .int 0, .null, .null, .int 0, .null, .null, .null, .int 0, .int 0, .int 0, .int 0, .int 0, .int 0, .int 0, .int 0, .null, .null, .null, .null, .null, .null, .null, .int 0, .int 0, .null, .null, .null] :: ga_i 600 (fun _ => 0) :: ga_i 24 (fun _ => 0) :: m82 :: m83 :: m84 :: m85 :: m86 :: m87 :: m88 :: m89 :: m90 :: m91 :: m92 :: m93 :: m94 :: m95 :: m96 :: m97 :: m98 :: m99 :: m100 :: m101 :: m102 :: m103 :: m104 :: m105 :: []), f)) rfl ?_
  refine g_aload_n (nx := 37) hX 0 dX11_init_36 rfl rfl rfl ?_
  refine g_bipush (nx := 39) hX 30 dX11_init_37 rfl (by decide) ?_
  refine g_newarray_int (nx := 41) hX 30 dX11_init_39 rfl ar_int (by decide) (by decide) (by decide) (Nat.le_of_ble_eq_true rfl) (Nat.le_of_ble_eq_true rfl) (hid _) ?_
  refine g_putfieldF (nx := 44) hX rfl dX11_init_41 rfl pX11_26 (ga_dl rfl) rfl rfl rfl rfl ?_
  refine g_mem (M' := (83, L1, (ga_o 11 [.ref 80, .int 0, .int 0, .ref 81, .int 0, .ref 82, .null, .null, .int 0, .int 0, .int 0, .null, .null, .null, .null, .null, .null, .int 0, .null, .null, .int 0, .null, .null, .null, .int 0, .int 0, .int 0, .int 0, .int 0, .int 0, .int 0, .int 0, .null, .null, .null, .null, .null, .null, .null, .int 0, .int 0, .null, .null, .null] :: ga_i 600 (fun _ => 0) :: ga_i 24 (fun _ => 0) :: ga_i 30 (fun _ => 0) :: m83 :: m84 :: m85 :: m86 :: m87 :: m88 :: m89 :: m90 :: m91 :: m92 :: m93 :: m94 :: m95 :: m96 :: m97 :: m98 :: m99 :: m100 :: m101 :: m102 :: m103 :: m104 :: m105 :: []), f)) rfl ?_
  refine g_aload_n (nx := 45) hX 0 dX11_init_44 rfl rfl rfl ?_
  refine g_bipush (nx := 47) hX 30 dX11_init_45 rfl (by decide) ?_
  refine g_newarray_int (nx := 49) hX 30 dX11_init_47 rfl ar_int (by decide) (by decide) (by decide) (Nat.le_of_ble_eq_true rfl) (Nat.le_of_ble_eq_true rfl) (hid _) ?_
  refine g_putfieldF (nx := 52) hX rfl dX11_init_49 rfl pX11_29 (ga_dl rfl) rfl rfl rfl rfl ?_
  refine g_mem (M' := (84, L1, (ga_o 11 [.ref 80, .int 0, .int 0, .ref 81, .int 0, .ref 82, .ref 83, .null, .int 0, .int 0, .int 0, .null, .null, .null, .null, .null, .null, .int 0, .null, .null, .int 0, .null, .null, .null, .int 0, .int 0, .int 0, .int 0, .int 0, .int 0, .int 0, .int 0, .null, .null, .null, .null, .null, .null, .null, .int 0, .int 0, .null, .null, .null] :: ga_i 600 (fun _ => 0) :: ga_i 24 (fun _ => 0) :: ga_i 30 (fun _ => 0) :: ga_i 30 (fun _ => 0) :: m84 :: m85 :: m86 :: m87 :: m88 :: m89 :: m90 :: m91 :: m92 :: m93 :: m94 :: m95 :: m96 :: m97 :: m98 :: m99 :: m100 :: m101 :: m102 :: m103 :: m104 :: m105 :: []), f)) rfl ?_
  refine g_aload_n (nx := 53) hX 0 dX11_init_52 rfl rfl rfl ?_
  refine g_bipush (nx := 55) hX 32 dX11_init_53 rfl (by decide) ?_
  refine g_newarray_int (nx := 57) hX 32 dX11_init_55 rfl ar_int (by decide) (by decide) (by decide) (Nat.le_of_ble_eq_true rfl) (Nat.le_of_ble_eq_true rfl) (hid _) ?_
  refine g_putfieldF (nx := 60) hX rfl dX11_init_57 rfl pX11_32 (ga_dl rfl) rfl rfl rfl rfl ?_
  refine g_mem (M' := (85, L1, (ga_o 11 [.ref 80, .int 0, .int 0, .ref 81, .int 0, .ref 82, .ref 83, .ref 84, .int 0, .int 0, .int 0, .null, .null, .null, .null, .null, .null, .int 0, .null, .null, .int 0, .null, .null, .null, .int 0, .int 0, .int 0, .int 0, .int 0, .int 0, .int 0, .int 0, .null, .null, .null, .null, .null, .null, .null, .int 0, .int 0, .null, .null, .null] :: ga_i 600 (fun _ => 0) :: ga_i 24 (fun _ => 0) :: ga_i 30 (fun _ => 0) :: ga_i 30 (fun _ => 0) :: ga_i 32 (fun _ => 0) :: m85 :: m86 :: m87 :: m88 :: m89 :: m90 :: m91 :: m92 :: m93 :: m94 :: m95 :: m96 :: m97 :: m98 :: m99 :: m100 :: m101 :: m102 :: m103 :: m104 :: m105 :: []), f)) rfl ?_
  refine g_aload_n (nx := 61) hX 0 dX11_init_60 rfl rfl rfl ?_
  refine g_iconst (nx := 62) hX 0 dX11_init_61 rfl (by decide) ?_
  refine g_putfield (nx := 65) hX dX11_init_62 rfl pX11_35 (ga_dl rfl) rfl rfl rfl rfl ?_
  refine g_mem (M' := (85, L1, (ga_o 11 [.ref 80, .int 0, .int 0, .ref 81, .int 0, .ref 82, .ref 83, .ref 84, .int 0, .int 0, .int 0, .null, .null, .null, .null, .null, .null, .int 0, .null, .null, .int 0, .null, .null, .null, .int 0, .int 0, .int 0, .int 0, .int 0, .int 0, .int 0, .int 0, .null, .null, .null, .null, .null, .null, .null, .int 0, .int 0, .null, .null, .null] :: ga_i 600 (fun _ => 0) :: ga_i 24 (fun _ => 0) :: ga_i 30 (fun _ => 0) :: ga_i 30 (fun _ => 0) :: ga_i 32 (fun _ => 0) :: m85 :: m86 :: m87 :: m88 :: m89 :: m90 :: m91 :: m92 :: m93 :: m94 :: m95 :: m96 :: m97 :: m98 :: m99 :: m100 :: m101 :: m102 :: m103 :: m104 :: m105 :: []), f)) rfl ?_
  refine g_aload_n (nx := 66) hX 0 dX11_init_65 rfl rfl rfl ?_
  refine g_sipush (nx := 69) hX 500 dX11_init_66 rfl (by decide) ?_
  refine g_putfield (nx := 72) hX dX11_init_69 rfl pX11_38 (ga_dl rfl) rfl rfl rfl rfl ?_
  refine g_mem (M' := (85, L1, (ga_o 11 [.ref 80, .int 0, .int 0, .ref 81, .int 0, .ref 82, .ref 83, .ref 84, .int 0, .int 500, .int 0, .null, .null, .null, .null, .null, .null, .int 0, .null, .null, .int 0, .null, .null, .null, .int 0, .int 0, .int 0, .int 0, .int 0, .int 0, .int 0, .int 0, .null, .null, .null, .null, .null, .null, .null, .int 0, .int 0, .null, .null, .null] :: ga_i 600 (fun _ => 0) :: ga_i 24 (fun _ => 0) :: ga_i 30 (fun _ => 0) :: ga_i 30 (fun _ => 0) :: ga_i 32 (fun _ => 0) :: m85 :: m86 :: m87 :: m88 :: m89 :: m90 :: m91 :: m92 :: m93 :: m94 :: m95 :: m96 :: m97 :: m98 :: m99 :: m100 :: m101 :: m102 :: m103 :: m104 :: m105 :: []), f)) rfl ?_
  refine g_aload_n (nx := 73) hX 0 dX11_init_72 rfl rfl rfl ?_
  refine g_iconst (nx := 74) hX 0 dX11_init_73 rfl (by decide) ?_
  refine g_putfield (nx := 77) hX dX11_init_74 rfl pX11_41 (ga_dl rfl) rfl rfl rfl rfl ?_
  refine g_mem (M' := (85, L1, (ga_o 11 [.ref 80, .int 0, .int 0, .ref 81, .int 0, .ref 82, .ref 83, .ref 84, .int 0, .int 500, .int 0, .null, .null, .null, .null, .null, .null, .int 0, .null, .null, .int 0, .null, .null, .null, .int 0, .int 0, .int 0, .int 0, .int 0, .int 0, .int 0, .int 0, .null, .null, .null, .null, .null, .null, .null, .int 0, .int 0, .null, .null, .null] :: ga_i 600 (fun _ => 0) :: ga_i 24 (fun _ => 0) :: ga_i 30 (fun _ => 0) :: ga_i 30 (fun _ => 0) :: ga_i 32 (fun _ => 0) :: m85 :: m86 :: m87 :: m88 :: m89 :: m90 :: m91 :: m92 :: m93 :: m94 :: m95 :: m96 :: m97 :: m98 :: m99 :: m100 :: m101 :: m102 :: m103 :: m104 :: m105 :: []), f)) rfl ?_
  refine g_aload_n (nx := 78) hX 0 dX11_init_77 rfl rfl rfl ?_
  refine g_sipush (nx := 81) hX 401 dX11_init_78 rfl (by decide) ?_
  refine g_newarray_int (nx := 83) hX 401 dX11_init_81 rfl ar_int (by decide) (by decide) (by decide) (Nat.le_of_ble_eq_true rfl) (Nat.le_of_ble_eq_true rfl) (hid _) ?_
  refine g_putfieldF (nx := 86) hX rfl dX11_init_83 rfl pX11_44 (ga_dl rfl) rfl rfl rfl rfl ?_
  refine g_mem (M' := (86, L1, (ga_o 11 [.ref 80, .int 0, .int 0, .ref 81, .int 0, .ref 82, .ref 83, .ref 84, .int 0, .int 500, .int 0, .ref 85, .null, .null, .null, .null, .null, .int 0, .null, .null, .int 0, .null, .null, .null, .int 0, .int 0, .int 0, .int 0, .int 0, .int 0, .int 0, .int 0, .null, .null, .null, .null, .null, .null, .null, .int 0, .int 0, .null, .null, .null] :: ga_i 600 (fun _ => 0) :: ga_i 24 (fun _ => 0) :: ga_i 30 (fun _ => 0) :: ga_i 30 (fun _ => 0) :: ga_i 32 (fun _ => 0) :: ga_i 401 (fun _ => 0) :: m86 :: m87 :: m88 :: m89 :: m90 :: m91 :: m92 :: m93 :: m94 :: m95 :: m96 :: m97 :: m98 :: m99 :: m100 :: m101 :: m102 :: m103 :: m104 :: m105 :: []), f)) rfl ?_
  refine g_aload_n (nx := 87) hX 0 dX11_init_86 rfl rfl rfl ?_
  refine g_sipush (nx := 90) hX 401 dX11_init_87 rfl (by decide) ?_
  refine g_newarray_int (nx := 92) hX 401 dX11_init_90 rfl ar_int (by decide) (by decide) (by decide) (Nat.le_of_ble_eq_true rfl) (Nat.le_of_ble_eq_true rfl) (hid _) ?_
  refine g_putfieldF (nx := 95) hX rfl dX11_init_92 rfl pX11_47 (ga_dl rfl) rfl rfl rfl rfl ?_
  refine g_mem (M' := (87, L1, (ga_o 11 [.ref 80, .int 0, .int 0, .ref 81, .int 0, .ref 82, .ref 83, .ref 84, .int 0, .int 500, .int 0, .ref 85, .ref 86, .null, .null, .null, .null, .int 0, .null, .null, .int 0, .null, .null, .null, .int 0, .int 0, .int 0, .int 0, .int 0, .int 0, .int 0, .int 0, .null, .null, .null, .null, .null, .null, .null, .int 0, .int 0, .null, .null, .null] :: ga_i 600 (fun _ => 0) :: ga_i 24 (fun _ => 0) :: ga_i 30 (fun _ => 0) :: ga_i 30 (fun _ => 0) :: ga_i 32 (fun _ => 0) :: ga_i 401 (fun _ => 0) :: ga_i 401 (fun _ => 0) :: m87 :: m88 :: m89 :: m90 :: m91 :: m92 :: m93 :: m94 :: m95 :: m96 :: m97 :: m98 :: m99 :: m100 :: m101 :: m102 :: m103 :: m104 :: m105 :: []), f)) rfl ?_
  refine g_aload_n (nx := 96) hX 0 dX11_init_95 rfl rfl rfl ?_
  refine g_sipush (nx := 99) hX 401 dX11_init_96 rfl (by decide) ?_
  refine g_newarray_int (nx := 101) hX 401 dX11_init_99 rfl ar_int (by decide) (by decide) (by decide) (Nat.le_of_ble_eq_true rfl) (Nat.le_of_ble_eq_true rfl) (hid _) ?_
  refine g_putfieldF (nx := 104) hX rfl dX11_init_101 rfl pX11_50 (ga_dl rfl) rfl rfl rfl rfl ?_
  refine g_mem (M' := (88, L1, (ga_o 11 [.ref 80, .int 0, .int 0, .ref 81, .int 0, .ref 82, .ref 83, .ref 84, .int 0, .int 500, .int 0, .ref 85, .ref 86, .ref 87, .null, .null, .null, .int 0, .null, .null, .int 0, .null, .null, .null, .int 0, .int 0, .int 0, .int 0, .int 0, .int 0, .int 0, .int 0, .null, .null, .null, .null, .null, .null, .null, .int 0, .int 0, .null, .null, .null] :: ga_i 600 (fun _ => 0) :: ga_i 24 (fun _ => 0) :: ga_i 30 (fun _ => 0) :: ga_i 30 (fun _ => 0) :: ga_i 32 (fun _ => 0) :: ga_i 401 (fun _ => 0) :: ga_i 401 (fun _ => 0) :: ga_i 401 (fun _ => 0) :: m88 :: m89 :: m90 :: m91 :: m92 :: m93 :: m94 :: m95 :: m96 :: m97 :: m98 :: m99 :: m100 :: m101 :: m102 :: m103 :: m104 :: m105 :: []), f)) rfl ?_
  refine g_aload_n (nx := 105) hX 0 dX11_init_104 rfl rfl rfl ?_
  refine g_sipush (nx := 108) hX 401 dX11_init_105 rfl (by decide) ?_
  refine g_newarray_int (nx := 110) hX 401 dX11_init_108 rfl ar_int (by decide) (by decide) (by decide) (Nat.le_of_ble_eq_true rfl) (Nat.le_of_ble_eq_true rfl) (hid _) ?_
  refine g_putfieldF (nx := 113) hX rfl dX11_init_110 rfl pX11_53 (ga_dl rfl) rfl rfl rfl rfl ?_
  refine g_mem (M' := (89, L1, (ga_o 11 [.ref 80, .int 0, .int 0, .ref 81, .int 0, .ref 82, .ref 83, .ref 84, .int 0, .int 500, .int 0, .ref 85, .ref 86, .ref 87, .ref 88, .null, .null, .int 0, .null, .null, .int 0, .null, .null, .null, .int 0, .int 0, .int 0, .int 0, .int 0, .int 0, .int 0, .int 0, .null, .null, .null, .null, .null, .null, .null, .int 0, .int 0, .null, .null, .null] :: ga_i 600 (fun _ => 0) :: ga_i 24 (fun _ => 0) :: ga_i 30 (fun _ => 0) :: ga_i 30 (fun _ => 0) :: ga_i 32 (fun _ => 0) :: ga_i 401 (fun _ => 0) :: ga_i 401 (fun _ => 0) :: ga_i 401 (fun _ => 0) :: ga_i 401 (fun _ => 0) :: m89 :: m90 :: m91 :: m92 :: m93 :: m94 :: m95 :: m96 :: m97 :: m98 :: m99 :: m100 :: m101 :: m102 :: m103 :: m104 :: m105 :: []), f)) rfl ?_
  refine g_aload_n (nx := 114) hX 0 dX11_init_113 rfl rfl rfl ?_
  refine g_sipush (nx := 117) hX 401 dX11_init_114 rfl (by decide) ?_
  refine g_newarray_int (nx := 119) hX 401 dX11_init_117 rfl ar_int (by decide) (by decide) (by decide) (Nat.le_of_ble_eq_true rfl) (Nat.le_of_ble_eq_true rfl) (hid _) ?_
  refine g_putfieldF (nx := 122) hX rfl dX11_init_119 rfl pX11_56 (ga_dl rfl) rfl rfl rfl rfl ?_
  refine g_mem (M' := (90, L1, (ga_o 11 [.ref 80, .int 0, .int 0, .ref 81, .int 0, .ref 82, .ref 83, .ref 84, .int 0, .int 500, .int 0, .ref 85, .ref 86, .ref 87, .ref 88, .ref 89, .null, .int 0, .null, .null, .int 0, .null, .null, .null, .int 0, .int 0, .int 0, .int 0, .int 0, .int 0, .int 0, .int 0, .null, .null, .null, .null, .null, .null, .null, .int 0, .int 0, .null, .null, .null] :: ga_i 600 (fun _ => 0) :: ga_i 24 (fun _ => 0) :: ga_i 30 (fun _ => 0) :: ga_i 30 (fun _ => 0) :: ga_i 32 (fun _ => 0) :: ga_i 401 (fun _ => 0) :: ga_i 401 (fun _ => 0) :: ga_i 401 (fun _ => 0) :: ga_i 401 (fun _ => 0) :: ga_i 401 (fun _ => 0) :: m90 :: m91 :: m92 :: m93 :: m94 :: m95 :: m96 :: m97 :: m98 :: m99 :: m100 :: m101 :: m102 :: m103 :: m104 :: m105 :: []), f)) rfl ?_
  refine g_aload_n (nx := 123) hX 0 dX11_init_122 rfl rfl rfl ?_
  refine g_sipush (nx := 126) hX 401 dX11_init_123 rfl (by decide) ?_
  refine g_newarray_int (nx := 128) hX 401 dX11_init_126 rfl ar_int (by decide) (by decide) (by decide) (Nat.le_of_ble_eq_true rfl) (Nat.le_of_ble_eq_true rfl) (hid _) ?_
  refine g_putfieldF (nx := 131) hX rfl dX11_init_128 rfl pX11_59 (ga_dl rfl) rfl rfl rfl rfl ?_
  refine g_mem (M' := (91, L1, (ga_o 11 [.ref 80, .int 0, .int 0, .ref 81, .int 0, .ref 82, .ref 83, .ref 84, .int 0, .int 500, .int 0, .ref 85, .ref 86, .ref 87, .ref 88, .ref 89, .ref 90, .int 0, .null, .null, .int 0, .null, .null, .null, .int 0, .int 0, .int 0, .int 0, .int 0, .int 0, .int 0, .int 0, .null, .null, .null, .null, .null, .null, .null, .int 0, .int 0, .null, .null, .null] :: ga_i 600 (fun _ => 0) :: ga_i 24 (fun _ => 0) :: ga_i 30 (fun _ => 0) :: ga_i 30 (fun _ => 0) :: ga_i 32 (fun _ => 0) :: ga_i 401 (fun _ => 0) :: ga_i 401 (fun _ => 0) :: ga_i 401 (fun _ => 0) :: ga_i 401 (fun _ => 0) :: ga_i 401 (fun _ => 0) :: ga_i 401 (fun _ => 0) :: m91 :: m92 :: m93 :: m94 :: m95 :: m96 :: m97 :: m98 :: m99 :: m100 :: m101 :: m102 :: m103 :: m104 :: m105 :: []), f)) rfl ?_
  refine g_aload_n (nx := 132) hX 0 dX11_init_131 rfl rfl rfl ?_
  refine g_iconst (nx := 133) hX (-1) dX11_init_132 rfl (by decide) ?_
  refine g_putfield (nx := 136) hX dX11_init_133 rfl pX11_62 (ga_dl rfl) rfl rfl rfl rfl ?_
  refine g_mem (M' := (91, L1, (ga_o 11 [.ref 80, .int 0, .int 0, .ref 81, .int 0, .ref 82, .ref 83, .ref 84, .int 0, .int 500, .int 0, .ref 85, .ref 86, .ref 87, .ref 88, .ref 89, .ref 90, .int (-1), .null, .null, .int 0, .null, .null, .null, .int 0, .int 0, .int 0, .int 0, .int 0, .int 0, .int 0, .int 0, .null, .null, .null, .null, .null, .null, .null, .int 0, .int 0, .null, .null, .null] :: ga_i 600 (fun _ => 0) :: ga_i 24 (fun _ => 0) :: ga_i 30 (fun _ => 0) :: ga_i 30 (fun _ => 0) :: ga_i 32 (fun _ => 0) :: ga_i 401 (fun _ => 0) :: ga_i 401 (fun _ => 0) :: ga_i 401 (fun _ => 0) :: ga_i 401 (fun _ => 0) :: ga_i 401 (fun _ => 0) :: ga_i 401 (fun _ => 0) :: m91 :: m92 :: m93 :: m94 :: m95 :: m96 :: m97 :: m98 :: m99 :: m100 :: m101 :: m102 :: m103 :: m104 :: m105 :: []), f)) rfl ?_
  refine g_aload_n (nx := 137) hX 0 dX11_init_136 rfl rfl rfl ?_
  refine g_bipush (nx := 139) hX 18 dX11_init_137 rfl (by decide) ?_
  refine g_newarray_int (nx := 141) hX 18 dX11_init_139 rfl ar_int (by decide) (by decide) (by decide) (Nat.le_of_ble_eq_true rfl) (Nat.le_of_ble_eq_true rfl) (hid _) ?_
  refine g_putfieldF (nx := 144) hX rfl dX11_init_141 rfl pX11_65 (ga_dl rfl) rfl rfl rfl rfl ?_
  refine g_mem (M' := (92, L1, (ga_o 11 [.ref 80, .int 0, .int 0, .ref 81, .int 0, .ref 82, .ref 83, .ref 84, .int 0, .int 500, .int 0, .ref 85, .ref 86, .ref 87, .ref 88, .ref 89, .ref 90, .int (-1), .ref 91, .null, .int 0, .null, .null, .null, .int 0, .int 0, .int 0, .int 0, .int 0, .int 0, .int 0, .int 0, .null, .null, .null, .null, .null, .null, .null, .int 0, .int 0, .null, .null, .null] :: ga_i 600 (fun _ => 0) :: ga_i 24 (fun _ => 0) :: ga_i 30 (fun _ => 0) :: ga_i 30 (fun _ => 0) :: ga_i 32 (fun _ => 0) :: ga_i 401 (fun _ => 0) :: ga_i 401 (fun _ => 0) :: ga_i 401 (fun _ => 0) :: ga_i 401 (fun _ => 0) :: ga_i 401 (fun _ => 0) :: ga_i 401 (fun _ => 0) :: ga_i 18 (fun _ => 0) :: m92 :: m93 :: m94 :: m95 :: m96 :: m97 :: m98 :: m99 :: m100 :: m101 :: m102 :: m103 :: m104 :: m105 :: []), f)) rfl ?_
  refine g_aload_n (nx := 145) hX 0 dX11_init_144 rfl rfl rfl ?_
  refine g_bipush (nx := 147) hX 120 dX11_init_145 rfl (by decide) ?_
  refine g_newarray_int (nx := 149) hX 120 dX11_init_147 rfl ar_int (by decide) (by decide) (by decide) (Nat.le_of_ble_eq_true rfl) (Nat.le_of_ble_eq_true rfl) (hid _) ?_
  refine g_putfieldF (nx := 152) hX rfl dX11_init_149 rfl pX11_68 (ga_dl rfl) rfl rfl rfl rfl ?_
  refine g_mem (M' := (93, L1, (ga_o 11 [.ref 80, .int 0, .int 0, .ref 81, .int 0, .ref 82, .ref 83, .ref 84, .int 0, .int 500, .int 0, .ref 85, .ref 86, .ref 87, .ref 88, .ref 89, .ref 90, .int (-1), .ref 91, .ref 92, .int 0, .null, .null, .null, .int 0, .int 0, .int 0, .int 0, .int 0, .int 0, .int 0, .int 0, .null, .null, .null, .null, .null, .null, .null, .int 0, .int 0, .null, .null, .null] :: ga_i 600 (fun _ => 0) :: ga_i 24 (fun _ => 0) :: ga_i 30 (fun _ => 0) :: ga_i 30 (fun _ => 0) :: ga_i 32 (fun _ => 0) :: ga_i 401 (fun _ => 0) :: ga_i 401 (fun _ => 0) :: ga_i 401 (fun _ => 0) :: ga_i 401 (fun _ => 0) :: ga_i 401 (fun _ => 0) :: ga_i 401 (fun _ => 0) :: ga_i 18 (fun _ => 0) :: ga_i 120 (fun _ => 0) :: m93 :: m94 :: m95 :: m96 :: m97 :: m98 :: m99 :: m100 :: m101 :: m102 :: m103 :: m104 :: m105 :: []), f)) rfl ?_
  refine g_aload_n (nx := 153) hX 0 dX11_init_152 rfl rfl rfl ?_
  refine g_iconst (nx := 154) hX 0 dX11_init_153 rfl (by decide) ?_
  refine g_putfield (nx := 157) hX dX11_init_154 rfl pX11_71 (ga_dl rfl) rfl rfl rfl rfl ?_
  refine g_mem (M' := (93, L1, (ga_o 11 [.ref 80, .int 0, .int 0, .ref 81, .int 0, .ref 82, .ref 83, .ref 84, .int 0, .int 500, .int 0, .ref 85, .ref 86, .ref 87, .ref 88, .ref 89, .ref 90, .int (-1), .ref 91, .ref 92, .int 0, .null, .null, .null, .int 0, .int 0, .int 0, .int 0, .int 0, .int 0, .int 0, .int 0, .null, .null, .null, .null, .null, .null, .null, .int 0, .int 0, .null, .null, .null] :: ga_i 600 (fun _ => 0) :: ga_i 24 (fun _ => 0) :: ga_i 30 (fun _ => 0) :: ga_i 30 (fun _ => 0) :: ga_i 32 (fun _ => 0) :: ga_i 401 (fun _ => 0) :: ga_i 401 (fun _ => 0) :: ga_i 401 (fun _ => 0) :: ga_i 401 (fun _ => 0) :: ga_i 401 (fun _ => 0) :: ga_i 401 (fun _ => 0) :: ga_i 18 (fun _ => 0) :: ga_i 120 (fun _ => 0) :: m93 :: m94 :: m95 :: m96 :: m97 :: m98 :: m99 :: m100 :: m101 :: m102 :: m103 :: m104 :: m105 :: []), f)) rfl ?_
  refine g_aload_n (nx := 158) hX 0 dX11_init_157 rfl rfl rfl ?_
  refine g_bipush (nx := 160) hX 24 dX11_init_158 rfl (by decide) ?_
  refine g_newarray_int (nx := 162) hX 24 dX11_init_160 rfl ar_int (by decide) (by decide) (by decide) (Nat.le_of_ble_eq_true rfl) (Nat.le_of_ble_eq_true rfl) (hid _) ?_
  refine g_putfieldF (nx := 165) hX rfl dX11_init_162 rfl pX11_74 (ga_dl rfl) rfl rfl rfl rfl ?_
  refine g_mem (M' := (94, L1, (ga_o 11 [.ref 80, .int 0, .int 0, .ref 81, .int 0, .ref 82, .ref 83, .ref 84, .int 0, .int 500, .int 0, .ref 85, .ref 86, .ref 87, .ref 88, .ref 89, .ref 90, .int (-1), .ref 91, .ref 92, .int 0, .ref 93, .null, .null, .int 0, .int 0, .int 0, .int 0, .int 0, .int 0, .int 0, .int 0, .null, .null, .null, .null, .null, .null, .null, .int 0, .int 0, .null, .null, .null] :: ga_i 600 (fun _ => 0) :: ga_i 24 (fun _ => 0) :: ga_i 30 (fun _ => 0) :: ga_i 30 (fun _ => 0) :: ga_i 32 (fun _ => 0) :: ga_i 401 (fun _ => 0) :: ga_i 401 (fun _ => 0) :: ga_i 401 (fun _ => 0) :: ga_i 401 (fun _ => 0) :: ga_i 401 (fun _ => 0) :: ga_i 401 (fun _ => 0) :: ga_i 18 (fun _ => 0) :: ga_i 120 (fun _ => 0) :: ga_i 24 (fun _ => 0) :: m94 :: m95 :: m96 :: m97 :: m98 :: m99 :: m100 :: m101 :: m102 :: m103 :: m104 :: m105 :: []), f)) rfl ?_
  refine g_aload_n (nx := 166) hX 0 dX11_init_165 rfl rfl rfl ?_
  refine g_bipush (nx := 168) hX 25 dX11_init_166 rfl (by decide) ?_
  refine g_newarray_int (nx := 170) hX 25 dX11_init_168 rfl ar_int (by decide) (by decide) (by decide) (Nat.le_of_ble_eq_true rfl) (Nat.le_of_ble_eq_true rfl) (hid _) ?_
  refine g_putfieldF (nx := 173) hX rfl dX11_init_170 rfl pX11_77 (ga_dl rfl) rfl rfl rfl rfl ?_
  refine g_mem (M' := (95, L1, (ga_o 11 [.ref 80, .int 0, .int 0, .ref 81, .int 0, .ref 82, .ref 83, .ref 84, .int 0, .int 500, .int 0, .ref 85, .ref 86, .ref 87, .ref 88, .ref 89, .ref 90, .int (-1), .ref 91, .ref 92, .int 0, .ref 93, .ref 94, .null, .int 0, .int 0, .int 0, .int 0, .int 0, .int 0, .int 0, .int 0, .null, .null, .null, .null, .null, .null, .null, .int 0, .int 0, .null, .null, .null] :: ga_i 600 (fun _ => 0) :: ga_i 24 (fun _ => 0) :: ga_i 30 (fun _ => 0) :: ga_i 30 (fun _ => 0) :: ga_i 32 (fun _ => 0) :: ga_i 401 (fun _ => 0) :: ga_i 401 (fun _ => 0) :: ga_i 401 (fun _ => 0) :: ga_i 401 (fun _ => 0) :: ga_i 401 (fun _ => 0) :: ga_i 401 (fun _ => 0) :: ga_i 18 (fun _ => 0) :: ga_i 120 (fun _ => 0) :: ga_i 24 (fun _ => 0) :: ga_i 25 (fun _ => 0) :: m95 :: m96 :: m97 :: m98 :: m99 :: m100 :: m101 :: m102 :: m103 :: m104 :: m105 :: []), f)) rfl ?_
  refine g_aload_n (nx := 174) hX 0 dX11_init_173 rfl rfl rfl ?_
  refine g_sipush (nx := 177) hX 1300 dX11_init_174 rfl (by decide) ?_
  refine g_newarray_int (nx := 179) hX 1300 dX11_init_177 rfl ar_int (by decide) (by decide) (by decide) (Nat.le_of_ble_eq_true rfl) (Nat.le_of_ble_eq_true rfl) (hid _) ?_
  refine g_putfieldF (nx := 182) hX rfl dX11_init_179 rfl pX11_80 (ga_dl rfl) rfl rfl rfl rfl ?_
  refine g_mem (M' := (96, L1, (ga_o 11 [.ref 80, .int 0, .int 0, .ref 81, .int 0, .ref 82, .ref 83, .ref 84, .int 0, .int 500, .int 0, .ref 85, .ref 86, .ref 87, .ref 88, .ref 89, .ref 90, .int (-1), .ref 91, .ref 92, .int 0, .ref 93, .ref 94, .ref 95, .int 0, .int 0, .int 0, .int 0, .int 0, .int 0, .int 0, .int 0, .null, .null, .null, .null, .null, .null, .null, .int 0, .int 0, .null, .null, .null] :: ga_i 600 (fun _ => 0) :: ga_i 24 (fun _ => 0) :: ga_i 30 (fun _ => 0) :: ga_i 30 (fun _ => 0) :: ga_i 32 (fun _ => 0) :: ga_i 401 (fun _ => 0) :: ga_i 401 (fun _ => 0) :: ga_i 401 (fun _ => 0) :: ga_i 401 (fun _ => 0) :: ga_i 401 (fun _ => 0) :: ga_i 401 (fun _ => 0) :: ga_i 18 (fun _ => 0) :: ga_i 120 (fun _ => 0) :: ga_i 24 (fun _ => 0) :: ga_i 25 (fun _ => 0) :: ga_i 1300 (fun _ => 0) :: m96 :: m97 :: m98 :: m99 :: m100 :: m101 :: m102 :: m103 :: m104 :: m105 :: []), f)) rfl ?_
  refine g_aload_n (nx := 183) hX 0 dX11_init_182 rfl rfl rfl ?_
  refine g_iconst (nx := 184) hX (-1) dX11_init_183 rfl (by decide) ?_
  refine g_putfield (nx := 187) hX dX11_init_184 rfl pX11_83 (ga_dl rfl) rfl rfl rfl rfl ?_
  refine g_mem (M' := (96, L1, (ga_o 11 [.ref 80, .int 0, .int 0, .ref 81, .int 0, .ref 82, .ref 83, .ref 84, .int 0, .int 500, .int 0, .ref 85, .ref 86, .ref 87, .ref 88, .ref 89, .ref 90, .int (-1), .ref 91, .ref 92, .int 0, .ref 93, .ref 94, .ref 95, .int (-1), .int 0, .int 0, .int 0, .int 0, .int 0, .int 0, .int 0, .null, .null, .null, .null, .null, .null, .null, .int 0, .int 0, .null, .null, .null] :: ga_i 600 (fun _ => 0) :: ga_i 24 (fun _ => 0) :: ga_i 30 (fun _ => 0) :: ga_i 30 (fun _ => 0) :: ga_i 32 (fun _ => 0) :: ga_i 401 (fun _ => 0) :: ga_i 401 (fun _ => 0) :: ga_i 401 (fun _ => 0) :: ga_i 401 (fun _ => 0) :: ga_i 401 (fun _ => 0) :: ga_i 401 (fun _ => 0) :: ga_i 18 (fun _ => 0) :: ga_i 120 (fun _ => 0) :: ga_i 24 (fun _ => 0) :: ga_i 25 (fun _ => 0) :: ga_i 1300 (fun _ => 0) :: m96 :: m97 :: m98 :: m99 :: m100 :: m101 :: m102 :: m103 :: m104 :: m105 :: []), f)) rfl ?_
  refine g_aload_n (nx := 188) hX 0 dX11_init_187 rfl rfl rfl ?_
  refine g_iconst (nx := 189) hX 0 dX11_init_188 rfl (by decide) ?_
  refine g_putfield (nx := 192) hX dX11_init_189 rfl pX11_86 (ga_dl rfl) rfl rfl rfl rfl ?_
  refine g_mem (M' := (96, L1, (ga_o 11 [.ref 80, .int 0, .int 0, .ref 81, .int 0, .ref 82, .ref 83, .ref 84, .int 0, .int 500, .int 0, .ref 85, .ref 86, .ref 87, .ref 88, .ref 89, .ref 90, .int (-1), .ref 91, .ref 92, .int 0, .ref 93, .ref 94, .ref 95, .int (-1), .int 0, .int 0, .int 0, .int 0, .int 0, .int 0, .int 0, .null, .null, .null, .null, .null, .null, .null, .int 0, .int 0, .null, .null, .null] :: ga_i 600 (fun _ => 0) :: ga_i 24 (fun _ => 0) :: ga_i 30 (fun _ => 0) :: ga_i 30 (fun _ => 0) :: ga_i 32 (fun _ => 0) :: ga_i 401 (fun _ => 0) :: ga_i 401 (fun _ => 0) :: ga_i 401 (fun _ => 0) :: ga_i 401 (fun _ => 0) :: ga_i 401 (fun _ => 0) :: ga_i 401 (fun _ => 0) :: ga_i 18 (fun _ => 0) :: ga_i 120 (fun _ => 0) :: ga_i 24 (fun _ => 0) :: ga_i 25 (fun _ => 0) :: ga_i 1300 (fun _ => 0) :: m96 :: m97 :: m98 :: m99 :: m100 :: m101 :: m102 :: m103 :: m104 :: m105 :: []), f)) rfl ?_
  refine g_aload_n (nx := 193) hX 0 dX11_init_192 rfl rfl rfl ?_
  refine g_iconst (nx := 194) hX 0 dX11_init_193 rfl (by decide) ?_
  refine g_putfield (nx := 197) hX dX11_init_194 rfl pX11_89 (ga_dl rfl) rfl rfl rfl rfl ?_
  refine g_mem (M' := (96, L1, (ga_o 11 [.ref 80, .int 0, .int 0, .ref 81, .int 0, .ref 82, .ref 83, .ref 84, .int 0, .int 500, .int 0, .ref 85, .ref 86, .ref 87, .ref 88, .ref 89, .ref 90, .int (-1), .ref 91, .ref 92, .int 0, .ref 93, .ref 94, .ref 95, .int (-1), .int 0, .int 0, .int 0, .int 0, .int 0, .int 0, .int 0, .null, .null, .null, .null, .null, .null, .null, .int 0, .int 0, .null, .null, .null] :: ga_i 600 (fun _ => 0) :: ga_i 24 (fun _ => 0) :: ga_i 30 (fun _ => 0) :: ga_i 30 (fun _ => 0) :: ga_i 32 (fun _ => 0) :: ga_i 401 (fun _ => 0) :: ga_i 401 (fun _ => 0) :: ga_i 401 (fun _ => 0) :: ga_i 401 (fun _ => 0) :: ga_i 401 (fun _ => 0) :: ga_i 401 (fun _ => 0) :: ga_i 18 (fun _ => 0) :: ga_i 120 (fun _ => 0) :: ga_i 24 (fun _ => 0) :: ga_i 25 (fun _ => 0) :: ga_i 1300 (fun _ => 0) :: m96 :: m97 :: m98 :: m99 :: m100 :: m101 :: m102 :: m103 :: m104 :: m105 :: []), f)) rfl ?_
  refine g_aload_n (nx := 198) hX 0 dX11_init_197 rfl rfl rfl ?_
  refine g_iconst (nx := 199) hX 0 dX11_init_198 rfl (by decide) ?_
  refine g_putfield (nx := 202) hX dX11_init_199 rfl pX11_92 (ga_dl rfl) rfl rfl rfl rfl ?_
  refine g_mem (M' := (96, L1, (ga_o 11 [.ref 80, .int 0, .int 0, .ref 81, .int 0, .ref 82, .ref 83, .ref 84, .int 0, .int 500, .int 0, .ref 85, .ref 86, .ref 87, .ref 88, .ref 89, .ref 90, .int (-1), .ref 91, .ref 92, .int 0, .ref 93, .ref 94, .ref 95, .int (-1), .int 0, .int 0, .int 0, .int 0, .int 0, .int 0, .int 0, .null, .null, .null, .null, .null, .null, .null, .int 0, .int 0, .null, .null, .null] :: ga_i 600 (fun _ => 0) :: ga_i 24 (fun _ => 0) :: ga_i 30 (fun _ => 0) :: ga_i 30 (fun _ => 0) :: ga_i 32 (fun _ => 0) :: ga_i 401 (fun _ => 0) :: ga_i 401 (fun _ => 0) :: ga_i 401 (fun _ => 0) :: ga_i 401 (fun _ => 0) :: ga_i 401 (fun _ => 0) :: ga_i 401 (fun _ => 0) :: ga_i 18 (fun _ => 0) :: ga_i 120 (fun _ => 0) :: ga_i 24 (fun _ => 0) :: ga_i 25 (fun _ => 0) :: ga_i 1300 (fun _ => 0) :: m96 :: m97 :: m98 :: m99 :: m100 :: m101 :: m102 :: m103 :: m104 :: m105 :: []), f)) rfl ?_
  refine g_aload_n (nx := 203) hX 0 dX11_init_202 rfl rfl rfl ?_
  refine g_iconst (nx := 204) hX (-1) dX11_init_203 rfl (by decide) ?_
  refine g_putfield (nx := 207) hX dX11_init_204 rfl pX11_95 (ga_dl rfl) rfl rfl rfl rfl ?_
  refine g_mem (M' := (96, L1, (ga_o 11 [.ref 80, .int 0, .int 0, .ref 81, .int 0, .ref 82, .ref 83, .ref 84, .int 0, .int 500, .int 0, .ref 85, .ref 86, .ref 87, .ref 88, .ref 89, .ref 90, .int (-1), .ref 91, .ref 92, .int 0, .ref 93, .ref 94, .ref 95, .int (-1), .int 0, .int 0, .int 0, .int (-1), .int 0, .int 0, .int 0, .null, .null, .null, .null, .null, .null, .null, .int 0, .int 0, .null, .null, .null] :: ga_i 600 (fun _ => 0) :: ga_i 24 (fun _ => 0) :: ga_i 30 (fun _ => 0) :: ga_i 30 (fun _ => 0) :: ga_i 32 (fun _ => 0) :: ga_i 401 (fun _ => 0) :: ga_i 401 (fun _ => 0) :: ga_i 401 (fun _ => 0) :: ga_i 401 (fun _ => 0) :: ga_i 401 (fun _ => 0) :: ga_i 401 (fun _ => 0) :: ga_i 18 (fun _ => 0) :: ga_i 120 (fun _ => 0) :: ga_i 24 (fun _ => 0) :: ga_i 25 (fun _ => 0) :: ga_i 1300 (fun _ => 0) :: m96 :: m97 :: m98 :: m99 :: m100 :: m101 :: m102 :: m103 :: m104 :: m105 :: []), f)) rfl ?_
  refine g_aload_n (nx := 208) hX 0 dX11_init_207 rfl rfl rfl ?_
  refine g_iconst (nx := 209) hX 0 dX11_init_208 rfl (by decide) ?_
  refine g_putfield (nx := 212) hX dX11_init_209 rfl pX11_98 (ga_dl rfl) rfl rfl rfl rfl ?_
  refine g_mem (M' := (96, L1, (ga_o 11 [.ref 80, .int 0, .int 0, .ref 81, .int 0, .ref 82, .ref 83, .ref 84, .int 0, .int 500, .int 0, .ref 85, .ref 86, .ref 87, .ref 88, .ref 89, .ref 90, .int (-1), .ref 91, .ref 92, .int 0, .ref 93, .ref 94, .ref 95, .int (-1), .int 0, .int 0, .int 0, .int (-1), .int 0, .int 0, .int 0, .null, .null, .null, .null, .null, .null, .null, .int 0, .int 0, .null, .null, .null] :: ga_i 600 (fun _ => 0) :: ga_i 24 (fun _ => 0) :: ga_i 30 (fun _ => 0) :: ga_i 30 (fun _ => 0) :: ga_i 32 (fun _ => 0) :: ga_i 401 (fun _ => 0) :: ga_i 401 (fun _ => 0) :: ga_i 401 (fun _ => 0) :: ga_i 401 (fun _ => 0) :: ga_i 401 (fun _ => 0) :: ga_i 401 (fun _ => 0) :: ga_i 18 (fun _ => 0) :: ga_i 120 (fun _ => 0) :: ga_i 24 (fun _ => 0) :: ga_i 25 (fun _ => 0) :: ga_i 1300 (fun _ => 0) :: m96 :: m97 :: m98 :: m99 :: m100 :: m101 :: m102 :: m103 :: m104 :: m105 :: []), f)) rfl ?_
  refine g_aload_n (nx := 213) hX 0 dX11_init_212 rfl rfl rfl ?_
  refine g_iconst (nx := 214) hX 0 dX11_init_213 rfl (by decide) ?_
  refine g_putfield (nx := 217) hX dX11_init_214 rfl pX11_101 (ga_dl rfl) rfl rfl rfl rfl ?_
  refine g_mem (M' := (96, L1, (ga_o 11 [.ref 80, .int 0, .int 0, .ref 81, .int 0, .ref 82, .ref 83, .ref 84, .int 0, .int 500, .int 0, .ref 85, .ref 86, .ref 87, .ref 88, .ref 89, .ref 90, .int (-1), .ref 91, .ref 92, .int 0, .ref 93, .ref 94, .ref 95, .int (-1), .int 0, .int 0, .int 0, .int (-1), .int 0, .int 0, .int 0, .null, .null, .null, .null, .null, .null, .null, .int 0, .int 0, .null, .null, .null] :: ga_i 600 (fun _ => 0) :: ga_i 24 (fun _ => 0) :: ga_i 30 (fun _ => 0) :: ga_i 30 (fun _ => 0) :: ga_i 32 (fun _ => 0) :: ga_i 401 (fun _ => 0) :: ga_i 401 (fun _ => 0) :: ga_i 401 (fun _ => 0) :: ga_i 401 (fun _ => 0) :: ga_i 401 (fun _ => 0) :: ga_i 401 (fun _ => 0) :: ga_i 18 (fun _ => 0) :: ga_i 120 (fun _ => 0) :: ga_i 24 (fun _ => 0) :: ga_i 25 (fun _ => 0) :: ga_i 1300 (fun _ => 0) :: m96 :: m97 :: m98 :: m99 :: m100 :: m101 :: m102 :: m103 :: m104 :: m105 :: []), f)) rfl ?_
  refine g_aload_n (nx := 218) hX 0 dX11_init_217 rfl rfl rfl ?_
  refine g_iconst (nx := 219) hX (-1) dX11_init_218 rfl (by decide) ?_
  refine g_putfield (nx := 222) hX dX11_init_219 rfl pX11_104 (ga_dl rfl) rfl rfl rfl rfl ?_
  refine g_mem (M' := (96, L1, (ga_o 11 [.ref 80, .int 0, .int 0, .ref 81, .int 0, .ref 82, .ref 83, .ref 84, .int 0, .int 500, .int 0, .ref 85, .ref 86, .ref 87, .ref 88, .ref 89, .ref 90, .int (-1), .ref 91, .ref 92, .int 0, .ref 93, .ref 94, .ref 95, .int (-1), .int 0, .int 0, .int 0, .int (-1), .int 0, .int 0, .int (-1), .null, .null, .null, .null, .null, .null, .null, .int 0, .int 0, .null, .null, .null] :: ga_i 600 (fun _ => 0) :: ga_i 24 (fun _ => 0) :: ga_i 30 (fun _ => 0) :: ga_i 30 (fun _ => 0) :: ga_i 32 (fun _ => 0) :: ga_i 401 (fun _ => 0) :: ga_i 401 (fun _ => 0) :: ga_i 401 (fun _ => 0) :: ga_i 401 (fun _ => 0) :: ga_i 401 (fun _ => 0) :: ga_i 401 (fun _ => 0) :: ga_i 18 (fun _ => 0) :: ga_i 120 (fun _ => 0) :: ga_i 24 (fun _ => 0) :: ga_i 25 (fun _ => 0) :: ga_i 1300 (fun _ => 0) :: m96 :: m97 :: m98 :: m99 :: m100 :: m101 :: m102 :: m103 :: m104 :: m105 :: []), f)) rfl ?_
  refine g_aload_n (nx := 223) hX 0 dX11_init_222 rfl rfl rfl ?_
  refine g_bipush (nx := 225) hX 25 dX11_init_223 rfl (by decide) ?_
  refine g_newarray_int (nx := 227) hX 25 dX11_init_225 rfl ar_int (by decide) (by decide) (by decide) (Nat.le_of_ble_eq_true rfl) (Nat.le_of_ble_eq_true rfl) (hid _) ?_
  refine g_putfieldF (nx := 230) hX rfl dX11_init_227 rfl pX11_107 (ga_dl rfl) rfl rfl rfl rfl ?_
  refine g_mem (M' := (97, L1, (ga_o 11 [.ref 80, .int 0, .int 0, .ref 81, .int 0, .ref 82, .ref 83, .ref 84, .int 0, .int 500, .int 0, .ref 85, .ref 86, .ref 87, .ref 88, .ref 89, .ref 90, .int (-1), .ref 91, .ref 92, .int 0, .ref 93, .ref 94, .ref 95, .int (-1), .int 0, .int 0, .int 0, .int (-1), .int 0, .int 0, .int (-1), .ref 96, .null, .null, .null, .null, .null, .null, .int 0, .int 0, .null, .null, .null] :: ga_i 600 (fun _ => 0) :: ga_i 24 (fun _ => 0) :: ga_i 30 (fun _ => 0) :: ga_i 30 (fun _ => 0) :: ga_i 32 (fun _ => 0) :: ga_i 401 (fun _ => 0) :: ga_i 401 (fun _ => 0) :: ga_i 401 (fun _ => 0) :: ga_i 401 (fun _ => 0) :: ga_i 401 (fun _ => 0) :: ga_i 401 (fun _ => 0) :: ga_i 18 (fun _ => 0) :: ga_i 120 (fun _ => 0) :: ga_i 24 (fun _ => 0) :: ga_i 25 (fun _ => 0) :: ga_i 1300 (fun _ => 0) :: ga_i 25 (fun _ => 0) :: m97 :: m98 :: m99 :: m100 :: m101 :: m102 :: m103 :: m104 :: m105 :: []), f)) rfl ?_
  refine g_aload_n (nx := 231) hX 0 dX11_init_230 rfl rfl rfl ?_
  refine g_bipush (nx := 233) hX 26 dX11_init_231 rfl (by decide) ?_
  refine g_newarray_int (nx := 235) hX 26 dX11_init_233 rfl ar_int (by decide) (by decide) (by decide) (Nat.le_of_ble_eq_true rfl) (Nat.le_of_ble_eq_true rfl) (hid _) ?_
  refine g_putfieldF (nx := 238) hX rfl dX11_init_235 rfl pX11_110 (ga_dl rfl) rfl rfl rfl rfl ?_
  refine g_mem (M' := (98, L1, (ga_o 11 [.ref 80, .int 0, .int 0, .ref 81, .int 0, .ref 82, .ref 83, .ref 84, .int 0, .int 500, .int 0, .ref 85, .ref 86, .ref 87, .ref 88, .ref 89, .ref 90, .int (-1), .ref 91, .ref 92, .int 0, .ref 93, .ref 94, .ref 95, .int (-1), .int 0, .int 0, .int 0, .int (-1), .int 0, .int 0, .int (-1), .ref 96, .ref 97, .null, .null, .null, .null, .null, .int 0, .int 0, .null, .null, .null] :: ga_i 600 (fun _ => 0) :: ga_i 24 (fun _ => 0) :: ga_i 30 (fun _ => 0) :: ga_i 30 (fun _ => 0) :: ga_i 32 (fun _ => 0) :: ga_i 401 (fun _ => 0) :: ga_i 401 (fun _ => 0) :: ga_i 401 (fun _ => 0) :: ga_i 401 (fun _ => 0) :: ga_i 401 (fun _ => 0) :: ga_i 401 (fun _ => 0) :: ga_i 18 (fun _ => 0) :: ga_i 120 (fun _ => 0) :: ga_i 24 (fun _ => 0) :: ga_i 25 (fun _ => 0) :: ga_i 1300 (fun _ => 0) :: ga_i 25 (fun _ => 0) :: ga_i 26 (fun _ => 0) :: m98 :: m99 :: m100 :: m101 :: m102 :: m103 :: m104 :: m105 :: []), f)) rfl ?_
  refine g_aload_n (nx := 239) hX 0 dX11_init_238 rfl rfl rfl ?_
  refine g_sipush (nx := 242) hX 1300 dX11_init_239 rfl (by decide) ?_
  refine g_newarray_int (nx := 244) hX 1300 dX11_init_242 rfl ar_int (by decide) (by decide) (by decide) (Nat.le_of_ble_eq_true rfl) (Nat.le_of_ble_eq_true rfl) (hid _) ?_
  refine g_putfieldF (nx := 247) hX rfl dX11_init_244 rfl pX11_113 (ga_dl rfl) rfl rfl rfl rfl ?_
  refine g_mem (M' := (99, L1, (ga_o 11 [.ref 80, .int 0, .int 0, .ref 81, .int 0, .ref 82, .ref 83, .ref 84, .int 0, .int 500, .int 0, .ref 85, .ref 86, .ref 87, .ref 88, .ref 89, .ref 90, .int (-1), .ref 91, .ref 92, .int 0, .ref 93, .ref 94, .ref 95, .int (-1), .int 0, .int 0, .int 0, .int (-1), .int 0, .int 0, .int (-1), .ref 96, .ref 97, .ref 98, .null, .null, .null, .null, .int 0, .int 0, .null, .null, .null] :: ga_i 600 (fun _ => 0) :: ga_i 24 (fun _ => 0) :: ga_i 30 (fun _ => 0) :: ga_i 30 (fun _ => 0) :: ga_i 32 (fun _ => 0) :: ga_i 401 (fun _ => 0) :: ga_i 401 (fun _ => 0) :: ga_i 401 (fun _ => 0) :: ga_i 401 (fun _ => 0) :: ga_i 401 (fun _ => 0) :: ga_i 401 (fun _ => 0) :: ga_i 18 (fun _ => 0) :: ga_i 120 (fun _ => 0) :: ga_i 24 (fun _ => 0) :: ga_i 25 (fun _ => 0) :: ga_i 1300 (fun _ => 0) :: ga_i 25 (fun _ => 0) :: ga_i 26 (fun _ => 0) :: ga_i 1300 (fun _ => 0) :: m99 :: m100 :: m101 :: m102 :: m103 :: m104 :: m105 :: []), f)) rfl ?_
  refine g_aload_n (nx := 248) hX 0 dX11_init_247 rfl rfl rfl ?_
  refine g_sipush (nx := 251) hX 250 dX11_init_248 rfl (by decide) ?_
  refine g_newarray_int (nx := 253) hX 250 dX11_init_251 rfl ar_int (by decide) (by decide) (by decide) (Nat.le_of_ble_eq_true rfl) (Nat.le_of_ble_eq_true rfl) (hid _) ?_
  refine g_putfieldF (nx := 256) hX rfl dX11_init_253 rfl pX11_116 (ga_dl rfl) rfl rfl rfl rfl ?_
  refine g_mem (M' := (100, L1, (ga_o 11 [.ref 80, .int 0, .int 0, .ref 81, .int 0, .ref 82, .ref 83, .ref 84, .int 0, .int 500, .int 0, .ref 85, .ref 86, .ref 87, .ref 88, .ref 89, .ref 90, .int (-1), .ref 91, .ref 92, .int 0, .ref 93, .ref 94, .ref 95, .int (-1), .int 0, .int 0, .int 0, .int (-1), .int 0, .int 0, .int (-1), .ref 96, .ref 97, .ref 98, .ref 99, .null, .null, .null, .int 0, .int 0, .null, .null, .null] :: ga_i 600 (fun _ => 0) :: ga_i 24 (fun _ => 0) :: ga_i 30 (fun _ => 0) :: ga_i 30 (fun _ => 0) :: ga_i 32 (fun _ => 0) :: ga_i 401 (fun _ => 0) :: ga_i 401 (fun _ => 0) :: ga_i 401 (fun _ => 0) :: ga_i 401 (fun _ => 0) :: ga_i 401 (fun _ => 0) :: ga_i 401 (fun _ => 0) :: ga_i 18 (fun _ => 0) :: ga_i 120 (fun _ => 0) :: ga_i 24 (fun _ => 0) :: ga_i 25 (fun _ => 0) :: ga_i 1300 (fun _ => 0) :: ga_i 25 (fun _ => 0) :: ga_i 26 (fun _ => 0) :: ga_i 1300 (fun _ => 0) :: ga_i 250 (fun _ => 0) :: m100 :: m101 :: m102 :: m103 :: m104 :: m105 :: []), f)) rfl ?_
  refine g_aload_n (nx := 257) hX 0 dX11_init_256 rfl rfl rfl ?_
  refine g_bipush (nx := 259) hX 25 dX11_init_257 rfl (by decide) ?_
  refine g_newarray_int (nx := 261) hX 25 dX11_init_259 rfl ar_int (by decide) (by decide) (by decide) (Nat.le_of_ble_eq_true rfl) (Nat.le_of_ble_eq_true rfl) (hid _) ?_
  refine g_putfieldF (nx := 264) hX rfl dX11_init_261 rfl pX11_119 (ga_dl rfl) rfl rfl rfl rfl ?_
  refine g_mem (M' := (101, L1, (ga_o 11 [.ref 80, .int 0, .int 0, .ref 81, .int 0, .ref 82, .ref 83, .ref 84, .int 0, .int 500, .int 0, .ref 85, .ref 86, .ref 87, .ref 88, .ref 89, .ref 90, .int (-1), .ref 91, .ref 92, .int 0, .ref 93, .ref 94, .ref 95, .int (-1), .int 0, .int 0, .int 0, .int (-1), .int 0, .int 0, .int (-1), .ref 96, .ref 97, .ref 98, .ref 99, .ref 100, .null, .null, .int 0, .int 0, .null, .null, .null] :: ga_i 600 (fun _ => 0) :: ga_i 24 (fun _ => 0) :: ga_i 30 (fun _ => 0) :: ga_i 30 (fun _ => 0) :: ga_i 32 (fun _ => 0) :: ga_i 401 (fun _ => 0) :: ga_i 401 (fun _ => 0) :: ga_i 401 (fun _ => 0) :: ga_i 401 (fun _ => 0) :: ga_i 401 (fun _ => 0) :: ga_i 401 (fun _ => 0) :: ga_i 18 (fun _ => 0) :: ga_i 120 (fun _ => 0) :: ga_i 24 (fun _ => 0) :: ga_i 25 (fun _ => 0) :: ga_i 1300 (fun _ => 0) :: ga_i 25 (fun _ => 0) :: ga_i 26 (fun _ => 0) :: ga_i 1300 (fun _ => 0) :: ga_i 250 (fun _ => 0) :: ga_i 25 (fun _ => 0) :: m101 :: m102 :: m103 :: m104 :: m105 :: []), f)) rfl ?_
  refine g_aload_n (nx := 265) hX 0 dX11_init_264 rfl rfl rfl ?_
  refine g_bipush (nx := 267) hX 40 dX11_init_265 rfl (by decide) ?_
  refine g_newarray_int (nx := 269) hX 40 dX11_init_267 rfl ar_int (by decide) (by decide) (by decide) (Nat.le_of_ble_eq_true rfl) (Nat.le_of_ble_eq_true rfl) (hid _) ?_
  refine g_putfieldF (nx := 272) hX rfl dX11_init_269 rfl pX11_122 (ga_dl rfl) rfl rfl rfl rfl ?_
  refine g_mem (M' := (102, L1, (ga_o 11 [.ref 80, .int 0, .int 0, .ref 81, .int 0, .ref 82, .ref 83, .ref 84, .int 0, .int 500, .int 0, .ref 85, .ref 86, .ref 87, .ref 88, .ref 89, .ref 90, .int (-1), .ref 91, .ref 92, .int 0, .ref 93, .ref 94, .ref 95, .int (-1), .int 0, .int 0, .int 0, .int (-1), .int 0, .int 0, .int (-1), .ref 96, .ref 97, .ref 98, .ref 99, .ref 100, .ref 101, .null, .int 0, .int 0, .null, .null, .null] :: ga_i 600 (fun _ => 0) :: ga_i 24 (fun _ => 0) :: ga_i 30 (fun _ => 0) :: ga_i 30 (fun _ => 0) :: ga_i 32 (fun _ => 0) :: ga_i 401 (fun _ => 0) :: ga_i 401 (fun _ => 0) :: ga_i 401 (fun _ => 0) :: ga_i 401 (fun _ => 0) :: ga_i 401 (fun _ => 0) :: ga_i 401 (fun _ => 0) :: ga_i 18 (fun _ => 0) :: ga_i 120 (fun _ => 0) :: ga_i 24 (fun _ => 0) :: ga_i 25 (fun _ => 0) :: ga_i 1300 (fun _ => 0) :: ga_i 25 (fun _ => 0) :: ga_i 26 (fun _ => 0) :: ga_i 1300 (fun _ => 0) :: ga_i 250 (fun _ => 0) :: ga_i 25 (fun _ => 0) :: ga_i 40 (fun _ => 0) :: m102 :: m103 :: m104 :: m105 :: []), f)) rfl ?_
  refine g_aload_n (nx := 273) hX 0 dX11_init_272 rfl rfl rfl ?_
  refine g_bipush (nx := 275) hX 40 dX11_init_273 rfl (by decide) ?_
  refine g_newarray_boolean (nx := 277) hX 40 dX11_init_275 rfl ar_boolean (by decide) (by decide) (by decide) (Nat.le_of_ble_eq_true rfl) (Nat.le_of_ble_eq_true rfl) (hid _) ?_
  refine g_putfieldF (nx := 280) hX rfl dX11_init_277 rfl pX11_125 (ga_dl rfl) rfl rfl rfl rfl ?_
  refine g_mem (M' := (103, L1, (ga_o 11 [.ref 80, .int 0, .int 0, .ref 81, .int 0, .ref 82, .ref 83, .ref 84, .int 0, .int 500, .int 0, .ref 85, .ref 86, .ref 87, .ref 88, .ref 89, .ref 90, .int (-1), .ref 91, .ref 92, .int 0, .ref 93, .ref 94, .ref 95, .int (-1), .int 0, .int 0, .int 0, .int (-1), .int 0, .int 0, .int (-1), .ref 96, .ref 97, .ref 98, .ref 99, .ref 100, .ref 101, .ref 102, .int 0, .int 0, .null, .null, .null] :: ga_i 600 (fun _ => 0) :: ga_i 24 (fun _ => 0) :: ga_i 30 (fun _ => 0) :: ga_i 30 (fun _ => 0) :: ga_i 32 (fun _ => 0) :: ga_i 401 (fun _ => 0) :: ga_i 401 (fun _ => 0) :: ga_i 401 (fun _ => 0) :: ga_i 401 (fun _ => 0) :: ga_i 401 (fun _ => 0) :: ga_i 401 (fun _ => 0) :: ga_i 18 (fun _ => 0) :: ga_i 120 (fun _ => 0) :: ga_i 24 (fun _ => 0) :: ga_i 25 (fun _ => 0) :: ga_i 1300 (fun _ => 0) :: ga_i 25 (fun _ => 0) :: ga_i 26 (fun _ => 0) :: ga_i 1300 (fun _ => 0) :: ga_i 250 (fun _ => 0) :: ga_i 25 (fun _ => 0) :: ga_i 40 (fun _ => 0) :: ga_z 40 (fun _ => 0) :: m103 :: m104 :: m105 :: []), f)) rfl ?_
  refine g_aload_n (nx := 281) hX 0 dX11_init_280 rfl rfl rfl ?_
  refine g_iconst (nx := 282) hX 0 dX11_init_281 rfl (by decide) ?_
  refine g_putfield (nx := 285) hX dX11_init_282 rfl pX11_129 (ga_dl rfl) rfl rfl rfl rfl ?_
  refine g_mem (M' := (103, L1, (ga_o 11 [.ref 80, .int 0, .int 0, .ref 81, .int 0, .ref 82, .ref 83, .ref 84, .int 0, .int 500, .int 0, .ref 85, .ref 86, .ref 87, .ref 88, .ref 89, .ref 90, .int (-1), .ref 91, .ref 92, .int 0, .ref 93, .ref 94, .ref 95, .int (-1), .int 0, .int 0, .int 0, .int (-1), .int 0, .int 0, .int (-1), .ref 96, .ref 97, .ref 98, .ref 99, .ref 100, .ref 101, .ref 102, .int 0, .int 0, .null, .null, .null] :: ga_i 600 (fun _ => 0) :: ga_i 24 (fun _ => 0) :: ga_i 30 (fun _ => 0) :: ga_i 30 (fun _ => 0) :: ga_i 32 (fun _ => 0) :: ga_i 401 (fun _ => 0) :: ga_i 401 (fun _ => 0) :: ga_i 401 (fun _ => 0) :: ga_i 401 (fun _ => 0) :: ga_i 401 (fun _ => 0) :: ga_i 401 (fun _ => 0) :: ga_i 18 (fun _ => 0) :: ga_i 120 (fun _ => 0) :: ga_i 24 (fun _ => 0) :: ga_i 25 (fun _ => 0) :: ga_i 1300 (fun _ => 0) :: ga_i 25 (fun _ => 0) :: ga_i 26 (fun _ => 0) :: ga_i 1300 (fun _ => 0) :: ga_i 250 (fun _ => 0) :: ga_i 25 (fun _ => 0) :: ga_i 40 (fun _ => 0) :: ga_z 40 (fun _ => 0) :: m103 :: m104 :: m105 :: []), f)) rfl ?_
  refine g_aload_n (nx := 286) hX 0 dX11_init_285 rfl rfl rfl ?_
  refine g_iconst (nx := 287) hX 0 dX11_init_286 rfl (by decide) ?_
  refine g_putfield (nx := 290) hX dX11_init_287 rfl pX11_132 (ga_dl rfl) rfl rfl rfl rfl ?_
  refine g_mem (M' := (103, L1, (ga_o 11 [.ref 80, .int 0, .int 0, .ref 81, .int 0, .ref 82, .ref 83, .ref 84, .int 0, .int 500, .int 0, .ref 85, .ref 86, .ref 87, .ref 88, .ref 89, .ref 90, .int (-1), .ref 91, .ref 92, .int 0, .ref 93, .ref 94, .ref 95, .int (-1), .int 0, .int 0, .int 0, .int (-1), .int 0, .int 0, .int (-1), .ref 96, .ref 97, .ref 98, .ref 99, .ref 100, .ref 101, .ref 102, .int 0, .int 0, .null, .null, .null] :: ga_i 600 (fun _ => 0) :: ga_i 24 (fun _ => 0) :: ga_i 30 (fun _ => 0) :: ga_i 30 (fun _ => 0) :: ga_i 32 (fun _ => 0) :: ga_i 401 (fun _ => 0) :: ga_i 401 (fun _ => 0) :: ga_i 401 (fun _ => 0) :: ga_i 401 (fun _ => 0) :: ga_i 401 (fun _ => 0) :: ga_i 401 (fun _ => 0) :: ga_i 18 (fun _ => 0) :: ga_i 120 (fun _ => 0) :: ga_i 24 (fun _ => 0) :: ga_i 25 (fun _ => 0) :: ga_i 1300 (fun _ => 0) :: ga_i 25 (fun _ => 0) :: ga_i 26 (fun _ => 0) :: ga_i 1300 (fun _ => 0) :: ga_i 250 (fun _ => 0) :: ga_i 25 (fun _ => 0) :: ga_i 40 (fun _ => 0) :: ga_z 40 (fun _ => 0) :: m103 :: m104 :: m105 :: []), f)) rfl ?_
  refine g_aload_n (nx := 291) hX 0 dX11_init_290 rfl rfl rfl ?_
  refine g_sipush (nx := 294) hX 310 dX11_init_291 rfl (by decide) ?_
  refine g_newarray_long (nx := 296) hX 310 dX11_init_294 rfl ar_long (by decide) (by decide) (by decide) (Nat.le_of_ble_eq_true rfl) (Nat.le_of_ble_eq_true rfl) (hid _) ?_
  refine g_putfieldF (nx := 299) hX rfl dX11_init_296 rfl pX11_135 (ga_dl rfl) rfl rfl rfl rfl ?_
  refine g_mem (M' := (104, L1, (ga_o 11 [.ref 80, .int 0, .int 0, .ref 81, .int 0, .ref 82, .ref 83, .ref 84, .int 0, .int 500, .int 0, .ref 85, .ref 86, .ref 87, .ref 88, .ref 89, .ref 90, .int (-1), .ref 91, .ref 92, .int 0, .ref 93, .ref 94, .ref 95, .int (-1), .int 0, .int 0, .int 0, .int (-1), .int 0, .int 0, .int (-1), .ref 96, .ref 97, .ref 98, .ref 99, .ref 100, .ref 101, .ref 102, .int 0, .int 0, .ref 103, .null, .null] :: ga_i 600 (fun _ => 0) :: ga_i 24 (fun _ => 0) :: ga_i 30 (fun _ => 0) :: ga_i 30 (fun _ => 0) :: ga_i 32 (fun _ => 0) :: ga_i 401 (fun _ => 0) :: ga_i 401 (fun _ => 0) :: ga_i 401 (fun _ => 0) :: ga_i 401 (fun _ => 0) :: ga_i 401 (fun _ => 0) :: ga_i 401 (fun _ => 0) :: ga_i 18 (fun _ => 0) :: ga_i 120 (fun _ => 0) :: ga_i 24 (fun _ => 0) :: ga_i 25 (fun _ => 0) :: ga_i 1300 (fun _ => 0) :: ga_i 25 (fun _ => 0) :: ga_i 26 (fun _ => 0) :: ga_i 1300 (fun _ => 0) :: ga_i 250 (fun _ => 0) :: ga_i 25 (fun _ => 0) :: ga_i 40 (fun _ => 0) :: ga_z 40 (fun _ => 0) :: ga_l 310 (fun _ => 0) :: m104 :: m105 :: []), f)) rfl ?_
  refine g_aload_n (nx := 300) hX 0 dX11_init_299 rfl rfl rfl ?_
  refine g_sipush (nx := 303) hX 576 dX11_init_300 rfl (by decide) ?_
  refine g_newarray_long (nx := 305) hX 576 dX11_init_303 rfl ar_long (by decide) (by decide) (by decide) (Nat.le_of_ble_eq_true rfl) (Nat.le_of_ble_eq_true rfl) (hid _) ?_
  refine g_putfieldF (nx := 308) hX rfl dX11_init_305 rfl pX11_139 (ga_dl rfl) rfl rfl rfl rfl ?_
  refine g_mem (M' := (105, L1, (ga_o 11 [.ref 80, .int 0, .int 0, .ref 81, .int 0, .ref 82, .ref 83, .ref 84, .int 0, .int 500, .int 0, .ref 85, .ref 86, .ref 87, .ref 88, .ref 89, .ref 90, .int (-1), .ref 91, .ref 92, .int 0, .ref 93, .ref 94, .ref 95, .int (-1), .int 0, .int 0, .int 0, .int (-1), .int 0, .int 0, .int (-1), .ref 96, .ref 97, .ref 98, .ref 99, .ref 100, .ref 101, .ref 102, .int 0, .int 0, .ref 103, .ref 104, .null] :: ga_i 600 (fun _ => 0) :: ga_i 24 (fun _ => 0) :: ga_i 30 (fun _ => 0) :: ga_i 30 (fun _ => 0) :: ga_i 32 (fun _ => 0) :: ga_i 401 (fun _ => 0) :: ga_i 401 (fun _ => 0) :: ga_i 401 (fun _ => 0) :: ga_i 401 (fun _ => 0) :: ga_i 401 (fun _ => 0) :: ga_i 401 (fun _ => 0) :: ga_i 18 (fun _ => 0) :: ga_i 120 (fun _ => 0) :: ga_i 24 (fun _ => 0) :: ga_i 25 (fun _ => 0) :: ga_i 1300 (fun _ => 0) :: ga_i 25 (fun _ => 0) :: ga_i 26 (fun _ => 0) :: ga_i 1300 (fun _ => 0) :: ga_i 250 (fun _ => 0) :: ga_i 25 (fun _ => 0) :: ga_i 40 (fun _ => 0) :: ga_z 40 (fun _ => 0) :: ga_l 310 (fun _ => 0) :: ga_l 576 (fun _ => 0) :: m105 :: []), f)) rfl ?_
  refine g_aload_n (nx := 309) hX 0 dX11_init_308 rfl rfl rfl ?_
  refine g_bipush (nx := 311) hX 24 dX11_init_309 rfl (by decide) ?_
  refine g_newarray_boolean (nx := 313) hX 24 dX11_init_311 rfl ar_boolean (by decide) (by decide) (by decide) (Nat.le_of_ble_eq_true rfl) (Nat.le_of_ble_eq_true rfl) (hid _) ?_
  refine g_putfieldF (nx := 316) hX rfl dX11_init_313 rfl pX11_142 (ga_dl rfl) rfl rfl rfl rfl ?_
  refine g_mem (M' := (106, L1, (ga_o 11 [.ref 80, .int 0, .int 0, .ref 81, .int 0, .ref 82, .ref 83, .ref 84, .int 0, .int 500, .int 0, .ref 85, .ref 86, .ref 87, .ref 88, .ref 89, .ref 90, .int (-1), .ref 91, .ref 92, .int 0, .ref 93, .ref 94, .ref 95, .int (-1), .int 0, .int 0, .int 0, .int (-1), .int 0, .int 0, .int (-1), .ref 96, .ref 97, .ref 98, .ref 99, .ref 100, .ref 101, .ref 102, .int 0, .int 0, .ref 103, .ref 104, .ref 105] :: ga_i 600 (fun _ => 0) :: ga_i 24 (fun _ => 0) :: ga_i 30 (fun _ => 0) :: ga_i 30 (fun _ => 0) :: ga_i 32 (fun _ => 0) :: ga_i 401 (fun _ => 0) :: ga_i 401 (fun _ => 0) :: ga_i 401 (fun _ => 0) :: ga_i 401 (fun _ => 0) :: ga_i 401 (fun _ => 0) :: ga_i 401 (fun _ => 0) :: ga_i 18 (fun _ => 0) :: ga_i 120 (fun _ => 0) :: ga_i 24 (fun _ => 0) :: ga_i 25 (fun _ => 0) :: ga_i 1300 (fun _ => 0) :: ga_i 25 (fun _ => 0) :: ga_i 26 (fun _ => 0) :: ga_i 1300 (fun _ => 0) :: ga_i 250 (fun _ => 0) :: ga_i 25 (fun _ => 0) :: ga_i 40 (fun _ => 0) :: ga_z 40 (fun _ => 0) :: ga_l 310 (fun _ => 0) :: ga_l 576 (fun _ => 0) :: ga_z 24 (fun _ => 0) :: []), f)) rfl ?_
  exact g_return hX hP dX11_init_316 (Nat.le_of_ble_eq_true rfl) (Nat.le_of_ble_eq_true rfl) ⟨rfl, rfl⟩
end
