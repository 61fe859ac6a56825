/-! ===== the reader is made ===== -/
def w_st : Nat → Nat × List Int64
  | 0 => (0, List.replicate 39 0)
  | k + 1 => if w_c 6 k = 32 then ((w_st k).1 + 1, (w_st k).2) else ((w_st k).1, (w_st k).2.set (w_st k).1 (w_wl ((w_st k).2.getD (w_st k).1 0) (w_c 6 k)))
def w_nm (L : List Int64) : Nat → Int64 := fun j => L.getD j 0
theorem w_rep (n j : Nat) : (List.replicate n (0 : Int64)).getD j 0 = 0 := by
  rw [List.getD_eq_getElem?_getD, List.getElem?_replicate]; split <;> rfl
theorem w_nm_0 : w_nm (List.replicate 39 0) = fun _ => 0 := by
  funext j
  exact w_rep 39 j
theorem w_nm_set {L : List Int64} {s : Nat} {v : Int64} (h : s < L.length) : vp_updL (w_nm L) s v = w_nm (L.set s v) := by
  funext j
  unfold vp_updL w_nm
  by_cases e : j = s
  · rw [if_pos e, e]; simp [List.getD, h]
  · rw [if_neg e]; simp [List.getD, List.getElem?_set, Ne.symm e]
theorem w_st_b : ∀ k, k < 99 → (w_st k).1 < 15 ∧ (w_st k).2.length = 39 := by decide +kernel
theorem w_st_x : ∀ j, j < 15 → w_nm (w_st 98).2 j = x_cn j := by decide +kernel
section
variable {E : ga_E} {X : ga_X} {n : Nat} {c0 c1 c2 c3 c4 c5 c6 c7 c8 c9 c10 c11 c12 c13 c14 c15 c16 c17 c18 c19 c20 c21 c22 c23 c24 c25 c26 c27 c28 c29 c30 m79 m80 m81 m82 m83 m84 m85 m86 m87 m88 m89 m90 m91 m92 m93 m94 m95 m96 m97 m98 m99 m100 m101 m102 m103 m104 m105 : ga_C} {L1 L2 : List ga_C} {f : Nat → ga_C} {o_tp o_rd o_fe o_em o_sp o_ac o_td o_sm o_tt o_at o_sz o_fk o_fp o_nw o_md o_nt o_pl o_op d_at d_tk d_ta d_fd d_fa : Int32} {d_tv : Int64} {d_rl : Value}
theorem c_X4_init (hid : ∀ a, E.2.1 a = E.1 + a) : ga_Mw E 5 yX4_init cX4_init 5 none 1 39 [.ref 13, .ref 1] (14, (c0 :: c1 :: c2 :: c3 :: c4 :: c5 :: c6 :: c7 :: c8 :: c9 :: c10 :: c11 :: c12 :: ga_o 4 ga_df4 :: c14 :: L1), L2, f) none (15, (c0 :: c1 :: c2 :: c3 :: c4 :: c5 :: c6 :: c7 :: c8 :: c9 :: c10 :: c11 :: c12 :: k_D .null 0 0 0 0 0 (-1) :: ga_l 39 (w_nm (w_st 98).2) :: L1), L2, f) := by
  refine ga_Ms.of (by decide) rfl (fun X hX hP hs => ?_)
  refine g_less [some (.ref 13), some (.ref 1), none, none, none] ⟨rfl, rfl, trivial⟩ ?_
  have loop : ∀ (m k : Nat), k + m = 98 → ga_G E X 1 39 80 [some (.ref 13), none, some (.int (nI (w_st k).1)), some (.int (nI k)), none] [] (15, (c0 :: c1 :: c2 :: c3 :: c4 :: c5 :: c6 :: c7 :: c8 :: c9 :: c10 :: c11 :: c12 :: k_D .null 0 0 0 0 0 (-1) :: ga_l 39 (w_nm (w_st k).2) :: L1), L2, f) := by
    intro m
    induction m with
    | zero =>
      intro k hk
      have e : k = 98 := by omega
      subst e
      refine g_iload_n (nx := 81) hX 3 dX4_init_80 rfl rfl rfl ?_
      refine g_sldc (nx := 83) hX hs 6 (by decide) dX4_init_81 rfl rfl rfl ?_
      refine g_sV (As := []) (nx := 86) hX hs (i := 6) (by decide) dX4_init_83 rfl mX4_62 yJ0_length_8abf5_ok rfl (c_J0_length_8abf5 (i := 6) (by decide)) rfl rfl (by decide) rfl (Nat.le_of_ble_eq_true rfl) (Nat.le_of_ble_eq_true rfl) ?_
      rintro _ _ ⟨rfl, rfl⟩
      refine g_icmp_ge (nx := 89) hX 139 dX4_init_86 (by decide) rfl (fun h86 => ?_) (fun h86 => ?_)
      · exact g_return hX hP dX4_init_139 (Nat.le_of_ble_eq_true rfl) (Nat.le_of_ble_eq_true rfl) ⟨rfl, rfl⟩
      · exact absurd (nI_le (a := 98) (b := 98) (by omega) (by omega)) h86
    | succ m ih =>
      intro k hk
      have ih1 := ih (k + 1) (by omega)
      obtain ⟨b1, b2⟩ := w_st_b k (by omega)
      rw [w_st] at ih1
      refine g_iload_n (nx := 81) hX 3 dX4_init_80 rfl rfl rfl ?_
      refine g_sldc (nx := 83) hX hs 6 (by decide) dX4_init_81 rfl rfl rfl ?_
      refine g_sV (As := []) (nx := 86) hX hs (i := 6) (by decide) dX4_init_83 rfl mX4_62 yJ0_length_8abf5_ok rfl (c_J0_length_8abf5 (i := 6) (by decide)) rfl rfl (by decide) rfl (Nat.le_of_ble_eq_true rfl) (Nat.le_of_ble_eq_true rfl) ?_
      rintro _ _ ⟨rfl, rfl⟩
      refine g_icmp_ge (nx := 89) hX 139 dX4_init_86 (by decide) rfl (fun h86 => ?_) (fun h86 => ?_)
      · exact absurd ((nI_leI (a := 98) (by omega) (by omega)).mp h86) (by omega)
      · refine g_iload_n (nx := 90) hX 2 dX4_init_89 rfl rfl rfl ?_
        refine g_bipush (nx := 92) hX 15 dX4_init_90 rfl (by decide) ?_
        refine g_icmp_ge (nx := 95) hX 139 dX4_init_92 (by decide) rfl (fun h92 => ?_) (fun h92 => ?_)
        · exact absurd ((nI_leI (a := 15) (by omega) (by omega)).mp h92) (by omega)
        · refine g_sldc (nx := 97) hX hs 6 (by decide) dX4_init_95 rfl rfl rfl ?_
          refine g_iload_n (nx := 98) hX 3 dX4_init_97 rfl rfl rfl ?_
          refine g_sV (As := [.int (nI k)]) (nx := 101) hX hs (i := 6) (by decide) dX4_init_98 rfl mX4_68 yJ0_charAt_5068e_ok rfl (c_J0_charAt_5068e (i := 6) (j := k) (by decide) (show k < 98 by omega)) rfl rfl (by decide) rfl (Nat.le_of_ble_eq_true rfl) (Nat.le_of_ble_eq_true rfl) ?_
          rintro _ _ ⟨rfl, rfl⟩
          refine g_istore (nx := 103) hX 4 dX4_init_101 rfl rfl ?_
          refine g_iload (nx := 105) hX 4 dX4_init_103 rfl rfl ?_
          refine g_bipush (nx := 107) hX 32 dX4_init_105 rfl (by decide) ?_
          refine g_icmp_ne (nx := 110) hX 116 dX4_init_107 (by decide) rfl (fun h107 => ?_) (fun h107 => ?_)
          · rw [if_neg h107] at ih1
            dsimp only at ih1
            rw [← w_nm_set (by omega)] at ih1
            refine g_aload_n (nx := 117) hX 0 dX4_init_116 rfl rfl rfl ?_
            refine g_getfield (nx := 120) hX dX4_init_117 rfl fX4_48 (ga_dl rfl) rfl rfl ?_
            refine g_iload_n (nx := 121) hX 2 dX4_init_120 rfl rfl rfl ?_
            refine g_aload_n (nx := 122) hX 0 dX4_init_121 rfl rfl rfl ?_
            refine g_getfield (nx := 125) hX dX4_init_122 rfl fX4_48 (ga_dl rfl) rfl rfl ?_
            refine g_iload_n (nx := 126) hX 2 dX4_init_125 rfl rfl rfl ?_
            refine g_laload (nx := 127) hX dX4_init_126 rfl (ga_dl rfl) rfl (ga_ix_of (j := (w_st k).1) rfl (by omega) (by omega)) ?_
            refine g_iload (nx := 129) hX 4 dX4_init_127 rfl rfl ?_
            refine g_S2 (nx := 132) hX dX4_init_129 rfl mX4_72 yX4_withLetter_ok (c_X4_withLetter) (by decide) rfl (Nat.le_of_ble_eq_true rfl) (Nat.le_of_ble_eq_true rfl) ?_
            rintro _ _ ⟨rfl, rfl⟩
            refine g_lastore (nx := 133) hX dX4_init_132 rfl (ga_dl rfl) rfl (ga_ix_of (j := (w_st k).1) rfl (by omega) (by omega)) ?_
            refine g_iinc (nx := 136) hX 3 (nI (k + 1)) dX4_init_133 rfl rfl rfl (nI_1 k) ?_
            refine g_goto (nx := 80) hX dX4_init_136 (by decide) ?_
            exact g_ls ih1 ⟨rfl, rfl, rfl, trivial⟩
          · rw [if_pos h107] at ih1
            refine g_iinc (nx := 113) hX 2 (nI ((w_st k).1 + 1)) dX4_init_110 rfl rfl rfl (nI_1 _) ?_
            refine g_goto (nx := 133) hX dX4_init_113 (by decide) ?_
            refine g_iinc (nx := 136) hX 3 (nI (k + 1)) dX4_init_133 rfl rfl rfl (nI_1 k) ?_
            refine g_goto (nx := 80) hX dX4_init_136 (by decide) ?_
            exact g_ls ih1 ⟨rfl, rfl, rfl, trivial⟩
  have t0 := loop 98 0 rfl
  rw [show (w_st 0).2 = List.replicate 39 0 from rfl, w_nm_0] at t0
  refine g_aload_n (nx := 1) hX 0 dX4_init_0 rfl rfl rfl ?_
  refine g_objInit (nx := 4) hX dX4_init_1 rfl mX4_3 ob_i ob_c (by decide) rfl ?_
  refine g_aload_n (nx := 5) hX 0 dX4_init_4 rfl rfl rfl ?_
  refine g_sldc (nx := 7) hX hs 0 (by decide) dX4_init_5 rfl rfl rfl ?_
  refine g_sS (As := [.retAddr (0 + 1)]) (nx := 10) hX hs dX4_init_7 rfl mX4_11 yX4_packed_ok (c_X4_packed (i := 0) (by decide)) rfl rfl (by decide) rfl (Nat.le_of_ble_eq_true rfl) (Nat.le_of_ble_eq_true rfl) ?_
  rintro _ _ ⟨rfl, rfl⟩
  rw [show w_pk 0 (w_len.getD 0 0) = 16052 from w_pks.1]
  refine g_putfieldF (nx := 13) hX rfl dX4_init_10 rfl pX4_17 (ga_dl rfl) rfl rfl rfl rfl ?_
  refine g_aload_n (nx := 14) hX 0 dX4_init_13 rfl rfl rfl ?_
  refine g_sldc (nx := 16) hX hs 1 (by decide) dX4_init_14 rfl rfl rfl ?_
  refine g_sS (As := [.retAddr (1 + 1)]) (nx := 19) hX hs dX4_init_16 rfl mX4_11 yX4_packed_ok (c_X4_packed (i := 1) (by decide)) rfl rfl (by decide) rfl (Nat.le_of_ble_eq_true rfl) (Nat.le_of_ble_eq_true rfl) ?_
  rintro _ _ ⟨rfl, rfl⟩
  rw [show w_pk 1 (w_len.getD 1 0) = 294 from w_pks.2.1]
  refine g_putfieldF (nx := 22) hX rfl dX4_init_19 rfl pX4_23 (ga_dl rfl) rfl rfl rfl rfl ?_
  refine g_aload_n (nx := 23) hX 0 dX4_init_22 rfl rfl rfl ?_
  refine g_sldc (nx := 25) hX hs 2 (by decide) dX4_init_23 rfl rfl rfl ?_
  refine g_sS (As := [.retAddr (2 + 1)]) (nx := 28) hX hs dX4_init_25 rfl mX4_11 yX4_packed_ok (c_X4_packed (i := 2) (by decide)) rfl rfl (by decide) rfl (Nat.le_of_ble_eq_true rfl) (Nat.le_of_ble_eq_true rfl) ?_
  rintro _ _ ⟨rfl, rfl⟩
  rw [show w_pk 2 (w_len.getD 2 0) = 20773 from w_pks.2.2.1]
  refine g_putfieldF (nx := 31) hX rfl dX4_init_28 rfl pX4_28 (ga_dl rfl) rfl rfl rfl rfl ?_
  refine g_aload_n (nx := 32) hX 0 dX4_init_31 rfl rfl rfl ?_
  refine g_sldc (nx := 34) hX hs 3 (by decide) dX4_init_32 rfl rfl rfl ?_
  refine g_sS (As := [.retAddr (3 + 1)]) (nx := 37) hX hs dX4_init_34 rfl mX4_11 yX4_packed_ok (c_X4_packed (i := 3) (by decide)) rfl rfl (by decide) rfl (Nat.le_of_ble_eq_true rfl) (Nat.le_of_ble_eq_true rfl) ?_
  rintro _ _ ⟨rfl, rfl⟩
  rw [show w_pk 3 (w_len.getD 3 0) = 13368 from w_pks.2.2.2.1]
  refine g_putfieldF (nx := 40) hX rfl dX4_init_37 rfl pX4_33 (ga_dl rfl) rfl rfl rfl rfl ?_
  refine g_aload_n (nx := 41) hX 0 dX4_init_40 rfl rfl rfl ?_
  refine g_sldc (nx := 43) hX hs 4 (by decide) dX4_init_41 rfl rfl rfl ?_
  refine g_sS (As := [.retAddr (4 + 1)]) (nx := 46) hX hs dX4_init_43 rfl mX4_11 yX4_packed_ok (c_X4_packed (i := 4) (by decide)) rfl rfl (by decide) rfl (Nat.le_of_ble_eq_true rfl) (Nat.le_of_ble_eq_true rfl) ?_
  rintro _ _ ⟨rfl, rfl⟩
  rw [show w_pk 4 (w_len.getD 4 0) = 13614 from w_pks.2.2.2.2.1]
  refine g_putfieldF (nx := 49) hX rfl dX4_init_46 rfl pX4_38 (ga_dl rfl) rfl rfl rfl rfl ?_
  refine g_aload_n (nx := 50) hX 0 dX4_init_49 rfl rfl rfl ?_
  refine g_sldc (nx := 52) hX hs 5 (by decide) dX4_init_50 rfl rfl rfl ?_
  refine g_sS (As := [.retAddr (5 + 1)]) (nx := 55) hX hs dX4_init_52 rfl mX4_11 yX4_packed_ok (c_X4_packed (i := 5) (by decide)) rfl rfl (by decide) rfl (Nat.le_of_ble_eq_true rfl) (Nat.le_of_ble_eq_true rfl) ?_
  rintro _ _ ⟨rfl, rfl⟩
  rw [show w_pk 5 (w_len.getD 5 0) = 21483564 from w_pks.2.2.2.2.2]
  refine g_putfieldF (nx := 58) hX rfl dX4_init_55 rfl pX4_43 (ga_dl rfl) rfl rfl rfl rfl ?_
  refine g_aload_n (nx := 59) hX 0 dX4_init_58 rfl rfl rfl ?_
  refine g_bipush (nx := 61) hX 39 dX4_init_59 rfl (by decide) ?_
  refine g_newarray_long (nx := 63) hX 39 dX4_init_61 rfl ar_long (by decide) (by decide) (by decide) (by decide) (by decide) (hid _) ?_
  refine g_mem (M' := (15, (c0 :: c1 :: c2 :: c3 :: c4 :: c5 :: c6 :: c7 :: c8 :: c9 :: c10 :: c11 :: c12 :: ga_o 4 [.long 16052, .long 294, .long 20773, .long 13368, .long 13614, .long 21483564, .null, .null, .null, .int 0, .int 0, .int 0, .long 0, .int 0, .int 0] :: ga_l 39 (fun _ => 0) :: L1), L2, f)) rfl ?_
  refine g_putfieldF (nx := 66) hX rfl dX4_init_63 rfl pX4_48 (ga_dl rfl) rfl rfl rfl rfl ?_
  refine g_aload_n (nx := 67) hX 0 dX4_init_66 rfl rfl rfl ?_
  refine g_iconst (nx := 68) hX (-1) dX4_init_67 rfl (by decide) ?_
  refine g_putfield (nx := 71) hX dX4_init_68 rfl pX4_52 (ga_dl rfl) rfl rfl rfl rfl ?_
  refine g_aload_n (nx := 72) hX 0 dX4_init_71 rfl rfl rfl ?_
  refine g_aload_n (nx := 73) hX 1 dX4_init_72 rfl rfl rfl ?_
  refine g_putfieldF (nx := 76) hX rfl dX4_init_73 rfl pX4_56 (ga_dl rfl) rfl rfl rfl rfl ?_
  refine g_iconst (nx := 77) hX 0 dX4_init_76 rfl (by decide) ?_
  refine g_istore_n (nx := 78) hX 2 dX4_init_77 rfl rfl rfl ?_
  refine g_iconst (nx := 79) hX 0 dX4_init_78 rfl (by decide) ?_
  refine g_istore_n (nx := 80) hX 3 dX4_init_79 rfl rfl rfl ?_
  exact g_ls t0 ⟨rfl, rfl, rfl, trivial⟩
theorem c_X9_init (hid : ∀ a, E.2.1 a = E.1 + a) : ga_Mt E 1 yX9_init cX9_init 1 none 1 600 [.ref 1] (2, (c0 :: ga_o 9 ga_df9 :: c2 :: L1), L2, f) (fun r M => r = none ∧ M = (3, (c0 :: k_T 0 :: ga_i 600 (fun _ => 0) :: L1), L2, f)) := by
  refine ga_Mt.of (by decide) rfl (fun X hX hP => ?_)
  refine g_less [some (.ref 1)] ⟨rfl, trivial⟩ ?_
  refine g_aload_n (nx := 1) hX 0 dX9_init_0 rfl rfl rfl ?_
  refine g_objInit (nx := 4) hX dX9_init_1 rfl mX9_1 ob_i ob_c (by decide) rfl ?_
  refine g_aload_n (nx := 5) hX 0 dX9_init_4 rfl rfl rfl ?_
  refine g_sipush (nx := 8) hX 600 dX9_init_5 rfl (by decide) ?_
  refine g_newarray_int (nx := 10) hX 600 dX9_init_8 rfl ar_int (by decide) (by decide) (by decide) (by decide) (by decide) (hid _) ?_
  refine g_putfieldF (nx := 13) hX rfl dX9_init_10 rfl pX9_9 (ga_dl rfl) rfl rfl rfl rfl ?_
  exact g_return hX hP dX9_init_13 (Nat.le_of_ble_eq_true rfl) (Nat.le_of_ble_eq_true rfl) ⟨rfl, rfl⟩
theorem c_X5_init (hid : ∀ a, E.2.1 a = E.1 + a) : ga_Mt E 1 yX5_init cX5_init 1 none 2 30 [.ref 3] (4, (c0 :: c1 :: c2 :: ga_o 5 ga_df5 :: c4 :: c5 :: L1), L2, f) (fun r M => r = none ∧ M = (6, (c0 :: c1 :: c2 :: k_R 0 :: ga_i 24 (fun _ => 0) :: ga_i 6 (fun _ => 0) :: L1), L2, f)) := by
  refine ga_Mt.of (by decide) rfl (fun X hX hP => ?_)
  refine g_less [some (.ref 3)] ⟨rfl, trivial⟩ ?_
  refine g_aload_n (nx := 1) hX 0 dX5_init_0 rfl rfl rfl ?_
  refine g_objInit (nx := 4) hX dX5_init_1 rfl mX5_3 ob_i ob_c (by decide) rfl ?_
  refine g_aload_n (nx := 5) hX 0 dX5_init_4 rfl rfl rfl ?_
  refine g_bipush (nx := 7) hX 24 dX5_init_5 rfl (by decide) ?_
  refine g_newarray_int (nx := 9) hX 24 dX5_init_7 rfl ar_int (by decide) (by decide) (by decide) (by decide) (by decide) (hid _) ?_
  refine g_putfieldF (nx := 12) hX rfl dX5_init_9 rfl pX5_11 (ga_dl rfl) rfl rfl rfl rfl ?_
  refine g_aload_n (nx := 13) hX 0 dX5_init_12 rfl rfl rfl ?_
  refine g_bipush (nx := 15) hX 6 dX5_init_13 rfl (by decide) ?_
  refine g_newarray_int (nx := 17) hX 6 dX5_init_15 rfl ar_int (by decide) (by decide) (by decide) (by decide) (by decide) (hid _) ?_
  refine g_putfieldF (nx := 20) hX rfl dX5_init_17 rfl pX5_15 (ga_dl rfl) rfl rfl rfl rfl ?_
  exact g_return hX hP dX5_init_20 (Nat.le_of_ble_eq_true rfl) (Nat.le_of_ble_eq_true rfl) ⟨rfl, rfl⟩
theorem c_X2_init (hid : ∀ a, E.2.1 a = E.1 + a) : ga_Mt E 1 yX2_init cX2_init 1 none 2 62 [.ref 6] (7, (c0 :: c1 :: c2 :: c3 :: c4 :: c5 :: ga_o 2 ga_df2 :: c7 :: c8 :: L1), L2, f) (fun r M => r = none ∧ M = (9, (c0 :: c1 :: c2 :: c3 :: c4 :: c5 :: k_C 0 0 500 0 0 :: ga_i 32 (fun _ => 0) :: ga_i 30 (fun _ => 0) :: L1), L2, f)) := by
  refine ga_Mt.of (by decide) rfl (fun X hX hP => ?_)
  refine g_less [some (.ref 6)] ⟨rfl, trivial⟩ ?_
  refine g_aload_n (nx := 1) hX 0 dX2_init_0 rfl rfl rfl ?_
  refine g_objInit (nx := 4) hX dX2_init_1 rfl mX2_3 ob_i ob_c (by decide) rfl ?_
  refine g_aload_n (nx := 5) hX 0 dX2_init_4 rfl rfl rfl ?_
  refine g_bipush (nx := 7) hX 32 dX2_init_5 rfl (by decide) ?_
  refine g_newarray_int (nx := 9) hX 32 dX2_init_7 rfl ar_int (by decide) (by decide) (by decide) (by decide) (by decide) (hid _) ?_
  refine g_putfieldF (nx := 12) hX rfl dX2_init_9 rfl pX2_11 (ga_dl rfl) rfl rfl rfl rfl ?_
  refine g_aload_n (nx := 13) hX 0 dX2_init_12 rfl rfl rfl ?_
  refine g_bipush (nx := 15) hX 30 dX2_init_13 rfl (by decide) ?_
  refine g_newarray_int (nx := 17) hX 30 dX2_init_15 rfl ar_int (by decide) (by decide) (by decide) (by decide) (by decide) (hid _) ?_
  refine g_putfieldF (nx := 20) hX rfl dX2_init_17 rfl pX2_15 (ga_dl rfl) rfl rfl rfl rfl ?_
  refine g_aload_n (nx := 21) hX 0 dX2_init_20 rfl rfl rfl ?_
  refine g_sipush (nx := 24) hX 500 dX2_init_21 rfl (by decide) ?_
  refine g_putfield (nx := 27) hX dX2_init_24 rfl pX2_18 (ga_dl rfl) rfl rfl rfl rfl ?_
  exact g_return hX hP dX2_init_27 (Nat.le_of_ble_eq_true rfl) (Nat.le_of_ble_eq_true rfl) ⟨rfl, rfl⟩
theorem c_X3_init (hid : ∀ a, E.2.1 a = E.1 + a) : ga_Mt E 1 yX3_init cX3_init 1 none 3 449 [.ref 9] (10, (c0 :: c1 :: c2 :: c3 :: c4 :: c5 :: c6 :: c7 :: c8 :: ga_o 3 ga_df3 :: c10 :: c11 :: c12 :: L1), L2, f) (fun r M => r = none ∧ M = (13, (c0 :: c1 :: c2 :: c3 :: c4 :: c5 :: c6 :: c7 :: c8 :: k_L 0 :: ga_r 4 401 (fun _ => none) :: ga_r 4 24 (fun _ => none) :: ga_r 4 24 (fun _ => none) :: L1), L2, f)) := by
  refine ga_Mt.of (by decide) rfl (fun X hX hP => ?_)
  refine g_less [some (.ref 9)] ⟨rfl, trivial⟩ ?_
  refine g_aload_n (nx := 1) hX 0 dX3_init_0 rfl rfl rfl ?_
  refine g_objInit (nx := 4) hX dX3_init_1 rfl mX3_3 ob_i ob_c (by decide) rfl ?_
  refine g_aload_n (nx := 5) hX 0 dX3_init_4 rfl rfl rfl ?_
  refine g_sipush (nx := 8) hX 401 dX3_init_5 rfl (by decide) ?_
  refine g_anewarray4 (nx := 11) hX 401 dX3_init_8 rfl lX3_11 (by decide) (by decide) (by decide) (by decide) (by decide) (hid _) ?_
  refine g_putfieldF (nx := 14) hX rfl dX3_init_11 rfl pX3_13 (ga_dl rfl) rfl rfl rfl rfl ?_
  refine g_aload_n (nx := 15) hX 0 dX3_init_14 rfl rfl rfl ?_
  refine g_bipush (nx := 17) hX 24 dX3_init_15 rfl (by decide) ?_
  refine g_anewarray4 (nx := 20) hX 24 dX3_init_17 rfl lX3_11 (by decide) (by decide) (by decide) (by decide) (by decide) (hid _) ?_
  refine g_putfieldF (nx := 23) hX rfl dX3_init_20 rfl pX3_19 (ga_dl rfl) rfl rfl rfl rfl ?_
  refine g_aload_n (nx := 24) hX 0 dX3_init_23 rfl rfl rfl ?_
  refine g_bipush (nx := 26) hX 24 dX3_init_24 rfl (by decide) ?_
  refine g_anewarray4 (nx := 29) hX 24 dX3_init_26 rfl lX3_11 (by decide) (by decide) (by decide) (by decide) (by decide) (hid _) ?_
  refine g_putfieldF (nx := 32) hX rfl dX3_init_29 rfl pX3_22 (ga_dl rfl) rfl rfl rfl rfl ?_
  exact g_return hX hP dX3_init_32 (Nat.le_of_ble_eq_true rfl) (Nat.le_of_ble_eq_true rfl) ⟨rfl, rfl⟩
theorem c_X6_init_15 (hid : ∀ a, E.2.1 a = E.1 + a) : ga_Mt E 1 yX6_init cX6_init 1 none 5 1280 [.ref 15] (16, (c0 :: c1 :: c2 :: c3 :: c4 :: c5 :: c6 :: c7 :: c8 :: c9 :: c10 :: c11 :: c12 :: c13 :: c14 :: ga_o 6 ga_df6 :: c16 :: c17 :: c18 :: c19 :: c20 :: L1), L2, f) (fun r M => r = none ∧ M = (21, (c0 :: c1 :: c2 :: c3 :: c4 :: c5 :: c6 :: c7 :: c8 :: c9 :: c10 :: c11 :: c12 :: c13 :: c14 :: k_U 15 0 0 (-1) 0 :: ga_i 600 (fun _ => 0) :: ga_i 600 (fun _ => 0) :: ga_i 24 (fun _ => 0) :: ga_i 24 (fun _ => 0) :: ga_l 32 (fun _ => 0) :: L1), L2, f)) := by
  refine ga_Mt.of (by decide) rfl (fun X hX hP => ?_)
  refine g_less [some (.ref 15)] ⟨rfl, trivial⟩ ?_
  refine g_aload_n (nx := 1) hX 0 dX6_init_0 rfl rfl rfl ?_
  refine g_objInit (nx := 4) hX dX6_init_1 rfl mX6_3 ob_i ob_c (by decide) rfl ?_
  refine g_aload_n (nx := 5) hX 0 dX6_init_4 rfl rfl rfl ?_
  refine g_sipush (nx := 8) hX 600 dX6_init_5 rfl (by decide) ?_
  refine g_newarray_int (nx := 10) hX 600 dX6_init_8 rfl ar_int (by decide) (by decide) (by decide) (by decide) (by decide) (hid _) ?_
  refine g_putfieldF (nx := 13) hX rfl dX6_init_10 rfl pX6_11 (ga_dl rfl) rfl rfl rfl rfl ?_
  refine g_aload_n (nx := 14) hX 0 dX6_init_13 rfl rfl rfl ?_
  refine g_sipush (nx := 17) hX 600 dX6_init_14 rfl (by decide) ?_
  refine g_newarray_int (nx := 19) hX 600 dX6_init_17 rfl ar_int (by decide) (by decide) (by decide) (by decide) (by decide) (hid _) ?_
  refine g_putfieldF (nx := 22) hX rfl dX6_init_19 rfl pX6_17 (ga_dl rfl) rfl rfl rfl rfl ?_
  refine g_aload_n (nx := 23) hX 0 dX6_init_22 rfl rfl rfl ?_
  refine g_bipush (nx := 25) hX 24 dX6_init_23 rfl (by decide) ?_
  refine g_newarray_int (nx := 27) hX 24 dX6_init_25 rfl ar_int (by decide) (by decide) (by decide) (by decide) (by decide) (hid _) ?_
  refine g_putfieldF (nx := 30) hX rfl dX6_init_27 rfl pX6_20 (ga_dl rfl) rfl rfl rfl rfl ?_
  refine g_aload_n (nx := 31) hX 0 dX6_init_30 rfl rfl rfl ?_
  refine g_bipush (nx := 33) hX 24 dX6_init_31 rfl (by decide) ?_
  refine g_newarray_int (nx := 35) hX 24 dX6_init_33 rfl ar_int (by decide) (by decide) (by decide) (by decide) (by decide) (hid _) ?_
  refine g_putfieldF (nx := 38) hX rfl dX6_init_35 rfl pX6_23 (ga_dl rfl) rfl rfl rfl rfl ?_
  refine g_aload_n (nx := 39) hX 0 dX6_init_38 rfl rfl rfl ?_
  refine g_bipush (nx := 41) hX 32 dX6_init_39 rfl (by decide) ?_
  refine g_newarray_long (nx := 43) hX 32 dX6_init_41 rfl ar_long (by decide) (by decide) (by decide) (by decide) (by decide) (hid _) ?_
  refine g_putfieldF (nx := 46) hX rfl dX6_init_43 rfl pX6_26 (ga_dl rfl) rfl rfl rfl rfl ?_
  refine g_aload_n (nx := 47) hX 0 dX6_init_46 rfl rfl rfl ?_
  refine g_iconst (nx := 48) hX (-1) dX6_init_47 rfl (by decide) ?_
  refine g_putfield (nx := 51) hX dX6_init_48 rfl pX6_30 (ga_dl rfl) rfl rfl rfl rfl ?_
  exact g_return hX hP dX6_init_51 (Nat.le_of_ble_eq_true rfl) (Nat.le_of_ble_eq_true rfl) ⟨rfl, rfl⟩
theorem c_X6_init_21 (hid : ∀ a, E.2.1 a = E.1 + a) : ga_Mt E 1 yX6_init cX6_init 1 none 5 1280 [.ref 21] (22, (c0 :: c1 :: c2 :: c3 :: c4 :: c5 :: c6 :: c7 :: c8 :: c9 :: c10 :: c11 :: c12 :: c13 :: c14 :: c15 :: c16 :: c17 :: c18 :: c19 :: c20 :: ga_o 6 ga_df6 :: c22 :: c23 :: c24 :: c25 :: c26 :: L1), L2, f) (fun r M => r = none ∧ M = (27, (c0 :: c1 :: c2 :: c3 :: c4 :: c5 :: c6 :: c7 :: c8 :: c9 :: c10 :: c11 :: c12 :: c13 :: c14 :: c15 :: c16 :: c17 :: c18 :: c19 :: c20 :: k_U 21 0 0 (-1) 0 :: ga_i 600 (fun _ => 0) :: ga_i 600 (fun _ => 0) :: ga_i 24 (fun _ => 0) :: ga_i 24 (fun _ => 0) :: ga_l 32 (fun _ => 0) :: L1), L2, f)) := by
  refine ga_Mt.of (by decide) rfl (fun X hX hP => ?_)
  refine g_less [some (.ref 21)] ⟨rfl, trivial⟩ ?_
  refine g_aload_n (nx := 1) hX 0 dX6_init_0 rfl rfl rfl ?_
  refine g_objInit (nx := 4) hX dX6_init_1 rfl mX6_3 ob_i ob_c (by decide) rfl ?_
  refine g_aload_n (nx := 5) hX 0 dX6_init_4 rfl rfl rfl ?_
  refine g_sipush (nx := 8) hX 600 dX6_init_5 rfl (by decide) ?_
  refine g_newarray_int (nx := 10) hX 600 dX6_init_8 rfl ar_int (by decide) (by decide) (by decide) (by decide) (by decide) (hid _) ?_
  refine g_putfieldF (nx := 13) hX rfl dX6_init_10 rfl pX6_11 (ga_dl rfl) rfl rfl rfl rfl ?_
  refine g_aload_n (nx := 14) hX 0 dX6_init_13 rfl rfl rfl ?_
  refine g_sipush (nx := 17) hX 600 dX6_init_14 rfl (by decide) ?_
  refine g_newarray_int (nx := 19) hX 600 dX6_init_17 rfl ar_int (by decide) (by decide) (by decide) (by decide) (by decide) (hid _) ?_
  refine g_putfieldF (nx := 22) hX rfl dX6_init_19 rfl pX6_17 (ga_dl rfl) rfl rfl rfl rfl ?_
  refine g_aload_n (nx := 23) hX 0 dX6_init_22 rfl rfl rfl ?_
  refine g_bipush (nx := 25) hX 24 dX6_init_23 rfl (by decide) ?_
  refine g_newarray_int (nx := 27) hX 24 dX6_init_25 rfl ar_int (by decide) (by decide) (by decide) (by decide) (by decide) (hid _) ?_
  refine g_putfieldF (nx := 30) hX rfl dX6_init_27 rfl pX6_20 (ga_dl rfl) rfl rfl rfl rfl ?_
  refine g_aload_n (nx := 31) hX 0 dX6_init_30 rfl rfl rfl ?_
  refine g_bipush (nx := 33) hX 24 dX6_init_31 rfl (by decide) ?_
  refine g_newarray_int (nx := 35) hX 24 dX6_init_33 rfl ar_int (by decide) (by decide) (by decide) (by decide) (by decide) (hid _) ?_
  refine g_putfieldF (nx := 38) hX rfl dX6_init_35 rfl pX6_23 (ga_dl rfl) rfl rfl rfl rfl ?_
  refine g_aload_n (nx := 39) hX 0 dX6_init_38 rfl rfl rfl ?_
  refine g_bipush (nx := 41) hX 32 dX6_init_39 rfl (by decide) ?_
  refine g_newarray_long (nx := 43) hX 32 dX6_init_41 rfl ar_long (by decide) (by decide) (by decide) (by decide) (by decide) (hid _) ?_
  refine g_putfieldF (nx := 46) hX rfl dX6_init_43 rfl pX6_26 (ga_dl rfl) rfl rfl rfl rfl ?_
  refine g_aload_n (nx := 47) hX 0 dX6_init_46 rfl rfl rfl ?_
  refine g_iconst (nx := 48) hX (-1) dX6_init_47 rfl (by decide) ?_
  refine g_putfield (nx := 51) hX dX6_init_48 rfl pX6_30 (ga_dl rfl) rfl rfl rfl rfl ?_
  exact g_return hX hP dX6_init_51 (Nat.le_of_ble_eq_true rfl) (Nat.le_of_ble_eq_true rfl) ⟨rfl, rfl⟩
theorem c_X8_init (hid : ∀ a, E.2.1 a = E.1 + a) : ga_Mt E 1 yX8_init cX8_init 3 none 1 120 [.ref 29, .ref 6, .ref 9] (30, (c0 :: c1 :: c2 :: c3 :: c4 :: c5 :: c6 :: c7 :: c8 :: c9 :: c10 :: c11 :: c12 :: c13 :: c14 :: c15 :: c16 :: c17 :: c18 :: c19 :: c20 :: c21 :: c22 :: c23 :: c24 :: c25 :: c26 :: c27 :: c28 :: ga_o 8 ga_df8 :: c30 :: []), L2, f) (fun r M => r = none ∧ M = (31, (c0 :: c1 :: c2 :: c3 :: c4 :: c5 :: c6 :: c7 :: c8 :: c9 :: c10 :: c11 :: c12 :: c13 :: c14 :: c15 :: c16 :: c17 :: c18 :: c19 :: c20 :: c21 :: c22 :: c23 :: c24 :: c25 :: c26 :: c27 :: c28 :: k_Y 0 :: ga_i 120 (fun _ => 0) :: []), L2, f)) := by
  refine ga_Mt.of (by decide) rfl (fun X hX hP => ?_)
  refine g_less [some (.ref 29), some (.ref 6), some (.ref 9)] ⟨rfl, rfl, rfl, trivial⟩ ?_
  refine g_aload_n (nx := 1) hX 0 dX8_init_0 rfl rfl rfl ?_
  refine g_objInit (nx := 4) hX dX8_init_1 rfl mX8_3 ob_i ob_c (by decide) rfl ?_
  refine g_aload_n (nx := 5) hX 0 dX8_init_4 rfl rfl rfl ?_
  refine g_bipush (nx := 7) hX 120 dX8_init_5 rfl (by decide) ?_
  refine g_newarray_int (nx := 9) hX 120 dX8_init_7 rfl ar_int (by decide) (by decide) (by decide) (by decide) (by decide) (hid _) ?_
  refine g_putfieldF (nx := 12) hX rfl dX8_init_9 rfl pX8_13 (ga_dl rfl) rfl rfl rfl rfl ?_
  refine g_aload_n (nx := 13) hX 0 dX8_init_12 rfl rfl rfl ?_
  refine g_aload_n (nx := 14) hX 1 dX8_init_13 rfl rfl rfl ?_
  refine g_putfieldF (nx := 17) hX rfl dX8_init_14 rfl pX8_17 (ga_dl rfl) rfl rfl rfl rfl ?_
  refine g_aload_n (nx := 18) hX 0 dX8_init_17 rfl rfl rfl ?_
  refine g_aload_n (nx := 19) hX 2 dX8_init_18 rfl rfl rfl ?_
  refine g_putfieldF (nx := 22) hX rfl dX8_init_19 rfl pX8_21 (ga_dl rfl) rfl rfl rfl rfl ?_
  exact g_return hX hP dX8_init_22 (Nat.le_of_ble_eq_true rfl) (Nat.le_of_ble_eq_true rfl) ⟨rfl, rfl⟩
end
