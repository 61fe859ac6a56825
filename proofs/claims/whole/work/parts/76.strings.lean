/-! ===== texts: length, charAt, packed ===== -/
section
variable {E : ga_E} {X : ga_X} {n : Nat} {c0 c1 c2 c3 c4 c5 c6 c7 c8 c9 c10 c11 c12 c13 c14 c15 c16 c17 c18 c19 c20 c21 c22 c23 c24 c25 c26 c27 c28 c29 c30 m79 m80 m81 m82 m83 m84 m85 m86 m87 m88 m89 m90 m91 m92 m93 m94 m95 m96 m97 m98 m99 m100 m101 m102 m103 m104 m105 : ga_C} {L1 L2 : List ga_C} {f : Nat → ga_C} {o_tp o_rd o_fe o_em o_sp o_ac o_td o_sm o_tt o_at o_sz o_fk o_fp o_nw o_md o_nt o_pl o_op d_at d_tk d_ta d_fd d_fa : Int32} {d_tv : Int64} {d_rl : Value}
variable {M : ga_M} {i j k : Nat}
theorem c_J3_checkIndex_8e157 (hj : j < k) (hk : k < 2147483648) : ga_Mx E 0 yJ3_checkIndex_8e157 cJ3_checkIndex_8e157 3 (some .int) 0 0 [.int (nI j), .int (nI k), .retAddr 15] M (some (.int (nI j))) M := by
  refine ga_Mt.ofF (by decide +kernel) rfl (fun X hX hP => ?_)
  refine g_less [some (.int (nI j)), some (.int (nI k)), some (.retAddr 15)] ⟨rfl, rfl, rfl, trivial⟩ ?_
  refine g_iload_n (nx := 1) hX 0 dJ3_checkIndex_8e157_0 rfl rfl rfl ?_
  refine g_if_lt (nx := 4) hX 9 dJ3_checkIndex_8e157_1 (by decide) rfl (fun h1 => ?_) (fun h1 => ?_)
  · exact absurd h1 (nI_pos (by omega))
  · refine g_iload_n (nx := 5) hX 0 dJ3_checkIndex_8e157_4 rfl rfl rfl ?_
    refine g_iload_n (nx := 6) hX 1 dJ3_checkIndex_8e157_5 rfl rfl rfl ?_
    refine g_icmp_lt (nx := 9) hX 16 dJ3_checkIndex_8e157_6 (by decide) rfl (fun h6 => ?_) (fun h6 => ?_)
    · refine g_iload_n (nx := 17) hX 0 dJ3_checkIndex_8e157_16 rfl rfl rfl ?_
      exact g_ireturn hX hP dJ3_checkIndex_8e157_17 rfl (Nat.le_of_ble_eq_true rfl) (Nat.le_of_ble_eq_true rfl) ⟨rfl, rfl⟩
    · exact absurd (nI_lt hj hk) h6
theorem c_J3_checkIndex_n (hj : j < k) (hk : k < 2147483648) : ga_Mx E 0 yJ3_checkIndex_8e157 cJ3_checkIndex_8e157 3 (some .int) 0 0 [.int (nI j), .int (nI k), .null] M (some (.int (nI j))) M := by
  refine ga_Mt.ofF (by decide +kernel) rfl (fun X hX hP => ?_)
  refine g_less [some (.int (nI j)), some (.int (nI k)), some (.null)] ⟨rfl, rfl, rfl, trivial⟩ ?_
  refine g_iload_n (nx := 1) hX 0 dJ3_checkIndex_8e157_0 rfl rfl rfl ?_
  refine g_if_lt (nx := 4) hX 9 dJ3_checkIndex_8e157_1 (by decide) rfl (fun h1 => ?_) (fun h1 => ?_)
  · exact absurd h1 (nI_pos (by omega))
  · refine g_iload_n (nx := 5) hX 0 dJ3_checkIndex_8e157_4 rfl rfl rfl ?_
    refine g_iload_n (nx := 6) hX 1 dJ3_checkIndex_8e157_5 rfl rfl rfl ?_
    refine g_icmp_lt (nx := 9) hX 16 dJ3_checkIndex_8e157_6 (by decide) rfl (fun h6 => ?_) (fun h6 => ?_)
    · refine g_iload_n (nx := 17) hX 0 dJ3_checkIndex_8e157_16 rfl rfl rfl ?_
      exact g_ireturn hX hP dJ3_checkIndex_8e157_17 rfl (Nat.le_of_ble_eq_true rfl) (Nat.le_of_ble_eq_true rfl) ⟨rfl, rfl⟩
    · exact absurd (nI_lt hj hk) h6
theorem c_J0_checkIndex_df160 (hj : j < k) (hk : k < 2147483648) : ga_Mw E 1 yJ0_checkIndex_df160 cJ0_checkIndex_df160 2 none 0 0 [.int (nI j), .int (nI k)] M none M := by
  refine ga_Ms.ofF (by decide +kernel) rfl (fun X hX hP hs => ?_)
  refine g_less [some (.int (nI j)), some (.int (nI k))] ⟨rfl, rfl, trivial⟩ ?_
  refine g_iload_n (nx := 1) hX 0 dJ0_checkIndex_df160_0 rfl rfl rfl ?_
  refine g_iload_n (nx := 2) hX 1 dJ0_checkIndex_df160_1 rfl rfl rfl ?_
  refine g_sgetF (nx := 5) hX hs dJ0_checkIndex_df160_2 rfl rfl ?_ ?_
  ·
    refine g_S3 (nx := 8) hX dJ0_checkIndex_df160_5 rfl mJ0_1059 yJ3_checkIndex_8e157_ok (c_J3_checkIndex_n hj hk) (by decide) rfl (Nat.le_of_ble_eq_true rfl) (Nat.le_of_ble_eq_true rfl) ?_
    rintro _ _ ⟨rfl, rfl⟩
    refine g_pop (nx := 9) hX dJ0_checkIndex_df160_8 rfl rfl ?_
    exact g_return hX hP dJ0_checkIndex_df160_9 (Nat.le_of_ble_eq_true rfl) (Nat.le_of_ble_eq_true rfl) ⟨rfl, rfl⟩
  ·
    refine g_S3 (nx := 8) hX dJ0_checkIndex_df160_5 rfl mJ0_1059 yJ3_checkIndex_8e157_ok (c_J3_checkIndex_8e157 hj hk) (by decide) rfl (Nat.le_of_ble_eq_true rfl) (Nat.le_of_ble_eq_true rfl) ?_
    rintro _ _ ⟨rfl, rfl⟩
    refine g_pop (nx := 9) hX dJ0_checkIndex_df160_8 rfl rfl ?_
    exact g_return hX hP dJ0_checkIndex_df160_9 (Nat.le_of_ble_eq_true rfl) (Nat.le_of_ble_eq_true rfl) ⟨rfl, rfl⟩
theorem c_J1_charAt_3b067 (hi : i < 7) (hj : j < w_len.getD i 0) : ga_Mw E 2 yJ1_charAt_3b067 cJ1_charAt_3b067 2 (some .char) 0 0 [.retAddr (i + 8), .int (nI j)] M (some (.int (w_c i j))) M := by
  have hw := w_ok i hi
  have hwj := hw.2 j (by omega) hj
  refine ga_Ms.ofF (by decide +kernel) rfl (fun X hX hP hs => ?_)
  refine g_less [some (.retAddr (i + 8)), some (.int (nI j))] ⟨rfl, rfl, trivial⟩ ?_
  refine g_iload_n (nx := 1) hX 1 dJ1_charAt_3b067_0 rfl rfl rfl ?_
  refine g_aload_nR (nx := 2) hX 0 dJ1_charAt_3b067_1 rfl rfl rfl ?_
  refine g_slen (nx := 3) hX hs hi dJ1_charAt_3b067_2 rfl ?_
  refine g_sS (As := [.int (nI j), .int (nI (w_len.getD i 0))]) (nx := 6) hX hs dJ1_charAt_3b067_3 rfl mJ1_9 yJ0_checkIndex_df160_ok (c_J0_checkIndex_df160 hj (by omega)) rfl rfl (by decide) rfl (Nat.le_of_ble_eq_true rfl) (Nat.le_of_ble_eq_true rfl) ?_
  rintro _ _ ⟨rfl, rfl⟩
  refine g_aload_nR (nx := 7) hX 0 dJ1_charAt_3b067_6 rfl rfl rfl ?_
  refine g_iload_n (nx := 8) hX 1 dJ1_charAt_3b067_7 rfl rfl rfl ?_
  refine g_sbald (nx := 9) hX hs hi hj (by omega) dJ1_charAt_3b067_8 rfl ?_
  refine g_sipush (nx := 12) hX 255 dJ1_charAt_3b067_9 rfl (by decide) ?_
  refine g_iand (nx := 13) hX dJ1_charAt_3b067_12 rfl ?_
  refine g_i2c (nx := 14) hX dJ1_charAt_3b067_13 rfl hwj.1 ?_
  exact g_ireturn hX hP dJ1_charAt_3b067_14 hwj.2 (Nat.le_of_ble_eq_true rfl) (Nat.le_of_ble_eq_true rfl) ⟨rfl, rfl⟩
theorem c_J0_isLatin1_aae02 (hi : i < 7) : ga_Mw E 0 yJ0_isLatin1_aae02 cJ0_isLatin1_aae02 1 (some .boolean) 0 0 [.retAddr (i + 1)] M (some (.int 1)) M := by
  refine ga_Ms.ofF (by decide +kernel) rfl (fun X hX hP hs => ?_)
  refine g_less [some (.retAddr (i + 1))] ⟨rfl, trivial⟩ ?_
  refine g_sget (nx := 3) hX hs dJ0_isLatin1_aae02_0 rfl rfl ?_
  refine g_if_eq (nx := 6) hX 17 dJ0_isLatin1_aae02_3 (by decide) rfl (fun h3 => ?_) (fun h3 => ?_)
  · exact absurd h3 (by decide)
  · refine g_aload_nR (nx := 7) hX 0 dJ0_isLatin1_aae02_6 rfl rfl rfl ?_
    refine g_scoder (nx := 10) hX hs hi dJ0_isLatin1_aae02_7 rfl rfl ?_
    refine g_if_ne (nx := 13) hX 17 dJ0_isLatin1_aae02_10 (by decide) rfl (fun h10 => ?_) (fun h10 => ?_)
    · exact absurd rfl h10
    · refine g_iconst (nx := 14) hX 1 dJ0_isLatin1_aae02_13 rfl (by decide) ?_
      refine g_goto (nx := 18) hX dJ0_isLatin1_aae02_14 (by decide) ?_
      exact g_ireturn hX hP dJ0_isLatin1_aae02_18 rfl (Nat.le_of_ble_eq_true rfl) (Nat.le_of_ble_eq_true rfl) ⟨rfl, rfl⟩
theorem c_J0_coder_7d493 (hi : i < 7) : ga_Mw E 0 yJ0_coder_7d493 cJ0_coder_7d493 1 (some .byte) 0 0 [.retAddr (i + 1)] M (some (.int 0)) M := by
  refine ga_Ms.ofF (by decide +kernel) rfl (fun X hX hP hs => ?_)
  refine g_less [some (.retAddr (i + 1))] ⟨rfl, trivial⟩ ?_
  refine g_sget (nx := 3) hX hs dJ0_coder_7d493_0 rfl rfl ?_
  refine g_if_eq (nx := 6) hX 13 dJ0_coder_7d493_3 (by decide) rfl (fun h3 => ?_) (fun h3 => ?_)
  · exact absurd h3 (by decide)
  · refine g_aload_nR (nx := 7) hX 0 dJ0_coder_7d493_6 rfl rfl rfl ?_
    refine g_scoder (nx := 10) hX hs hi dJ0_coder_7d493_7 rfl rfl ?_
    refine g_goto (nx := 14) hX dJ0_coder_7d493_10 (by decide) ?_
    exact g_ireturn hX hP dJ0_coder_7d493_14 rfl (Nat.le_of_ble_eq_true rfl) (Nat.le_of_ble_eq_true rfl) ⟨rfl, rfl⟩
theorem w_sh : ∀ i, i < 7 → (nI (w_len.getD i 0)) >>> ((0 : Int32) &&& 31) = nI (w_len.getD i 0) := by decide +kernel
theorem c_J0_length_8abf5 (hi : i < 7) : ga_Mw E 1 yJ0_length_8abf5 cJ0_length_8abf5 1 (some .int) 0 0 [.retAddr (i + 1)] M (some (.int (nI (w_len.getD i 0)))) M := by
  refine ga_Ms.ofF (by decide +kernel) rfl (fun X hX hP hs => ?_)
  refine g_less [some (.retAddr (i + 1))] ⟨rfl, trivial⟩ ?_
  refine g_aload_nR (nx := 1) hX 0 dJ0_length_8abf5_0 rfl rfl rfl ?_
  refine g_svalue (nx := 4) hX hs hi dJ0_length_8abf5_1 rfl rfl ?_
  refine g_slen (nx := 5) hX hs hi dJ0_length_8abf5_4 rfl ?_
  refine g_aload_nR (nx := 6) hX 0 dJ0_length_8abf5_5 rfl rfl rfl ?_
  refine g_sV (As := []) (nx := 9) hX hs hi dJ0_length_8abf5_6 rfl mJ0_335 yJ0_coder_7d493_ok rfl (c_J0_coder_7d493 hi) rfl rfl (by decide) rfl (Nat.le_of_ble_eq_true rfl) (Nat.le_of_ble_eq_true rfl) ?_
  rintro _ _ ⟨rfl, rfl⟩
  refine g_ishr (nx := 10) hX dJ0_length_8abf5_9 rfl ?_
  rw [w_sh i hi]
  exact g_ireturn hX hP dJ0_length_8abf5_10 rfl (Nat.le_of_ble_eq_true rfl) (Nat.le_of_ble_eq_true rfl) ⟨rfl, rfl⟩
theorem c_J0_charAt_5068e (hi : i < 7) (hj : j < w_len.getD i 0) : ga_Mw E 3 yJ0_charAt_5068e cJ0_charAt_5068e 2 (some .char) 0 0 [.retAddr (i + 1), .int (nI j)] M (some (.int (w_c i j))) M := by
  have hwj := (w_ok i hi).2 j (by have := (w_ok i hi).1; omega) hj
  refine ga_Ms.ofF (by decide +kernel) rfl (fun X hX hP hs => ?_)
  refine g_less [some (.retAddr (i + 1)), some (.int (nI j))] ⟨rfl, rfl, trivial⟩ ?_
  refine g_aload_nR (nx := 1) hX 0 dJ0_charAt_5068e_0 rfl rfl rfl ?_
  refine g_sV (As := []) (nx := 4) hX hs hi dJ0_charAt_5068e_1 rfl mJ0_492 yJ0_isLatin1_aae02_ok rfl (c_J0_isLatin1_aae02 hi) rfl rfl (by decide) rfl (Nat.le_of_ble_eq_true rfl) (Nat.le_of_ble_eq_true rfl) ?_
  rintro _ _ ⟨rfl, rfl⟩
  refine g_if_eq (nx := 7) hX 16 dJ0_charAt_5068e_4 (by decide) rfl (fun h4 => ?_) (fun h4 => ?_)
  · exact absurd h4 (by decide)
  · refine g_aload_nR (nx := 8) hX 0 dJ0_charAt_5068e_7 rfl rfl rfl ?_
    refine g_svalue (nx := 11) hX hs hi dJ0_charAt_5068e_8 rfl rfl ?_
    refine g_iload_n (nx := 12) hX 1 dJ0_charAt_5068e_11 rfl rfl rfl ?_
    refine g_sS (As := [.retAddr (i + 8), .int (nI j)]) (nx := 15) hX hs dJ0_charAt_5068e_12 rfl mJ0_495 yJ1_charAt_3b067_ok (c_J1_charAt_3b067 hi hj) rfl rfl (by decide) rfl (Nat.le_of_ble_eq_true rfl) (Nat.le_of_ble_eq_true rfl) ?_
    rintro _ _ ⟨rfl, rfl⟩
    exact g_ireturn hX hP dJ0_charAt_5068e_15 hwj.2 (Nat.le_of_ble_eq_true rfl) (Nat.le_of_ble_eq_true rfl) ⟨rfl, rfl⟩
def w_wl (w : Int64) (c : Int32) : Int64 := (w <<< ((5 : Int32).toInt64 &&& 63)) ||| (c - 96).toInt64
theorem c_X4_withLetter {w : Int64} {c : Int32} : ga_Mx E 0 yX4_withLetter cX4_withLetter 3 (some .long) 0 0 [.long w, .int c] M (some (.long (w_wl w c))) M := by
  refine ga_Mt.of (by decide) rfl (fun X hX hP => ?_)
  refine g_less [some (.long w), none, some (.int c)] ⟨rfl, rfl, trivial⟩ ?_
  refine g_lload_n (nx := 1) hX 0 dX4_withLetter_0 rfl rfl rfl ?_
  refine g_iconst (nx := 2) hX 5 dX4_withLetter_1 rfl (by decide) ?_
  refine g_lshl (nx := 3) hX dX4_withLetter_2 rfl ?_
  refine g_iload_n (nx := 4) hX 2 dX4_withLetter_3 rfl rfl rfl ?_
  refine g_bipush (nx := 6) hX 96 dX4_withLetter_4 rfl (by decide) ?_
  refine g_isub (nx := 7) hX dX4_withLetter_6 rfl ?_
  refine g_i2l (nx := 8) hX dX4_withLetter_7 rfl ?_
  refine g_lor (nx := 9) hX dX4_withLetter_8 rfl ?_
  exact g_lreturn hX hP dX4_withLetter_9 (Nat.le_of_ble_eq_true rfl) (Nat.le_of_ble_eq_true rfl) ⟨rfl, rfl⟩
def w_pk (i : Nat) : Nat → Int64
  | 0 => 0
  | k + 1 => w_wl (w_pk i k) (w_c i k)
theorem c_X4_packed (hi : i < 7) : ga_Mw E 4 yX4_packed cX4_packed 4 (some .long) 0 0 [.retAddr (i + 1)] M (some (.long (w_pk i (w_len.getD i 0)))) M := by
  have hw := (w_ok i hi).1
  refine ga_Ms.of (by decide) rfl (fun X hX hP hs => ?_)
  refine g_less [some (.retAddr (i + 1)), none, none, none] ⟨rfl, trivial⟩ ?_
  have loop : ∀ (m k : Nat), k + m = w_len.getD i 0 → ga_G E X 0 0 4 [some (.retAddr (i + 1)), some (.long (w_pk i k)), none, some (.int (nI k))] [] M := by
    intro m
    induction m with
    | zero =>
      intro k hk
      have e : k = w_len.getD i 0 := by omega
      refine g_iload_n (nx := 5) hX 3 dX4_packed_4 rfl rfl rfl ?_
      refine g_aload_nR (nx := 6) hX 0 dX4_packed_5 rfl rfl rfl ?_
      refine g_sV (As := []) (nx := 9) hX hs hi dX4_packed_6 rfl mX4_62 yJ0_length_8abf5_ok rfl (c_J0_length_8abf5 hi) rfl rfl (by decide) rfl (Nat.le_of_ble_eq_true rfl) (Nat.le_of_ble_eq_true rfl) ?_
      rintro _ _ ⟨rfl, rfl⟩
      refine g_icmp_ge (nx := 12) hX 28 dX4_packed_9 (by decide) rfl (fun h9 => ?_) (fun h9 => ?_)
      · refine g_lload_n (nx := 29) hX 1 dX4_packed_28 rfl rfl rfl ?_
        exact g_lreturn hX hP dX4_packed_29 (Nat.le_of_ble_eq_true rfl) (Nat.le_of_ble_eq_true rfl) ⟨by rw [e], rfl⟩
      · exact absurd (nI_le (by omega) (by omega)) h9
    | succ m ih =>
      intro k hk
      have ih1 := ih (k + 1) (by omega)
      refine g_iload_n (nx := 5) hX 3 dX4_packed_4 rfl rfl rfl ?_
      refine g_aload_nR (nx := 6) hX 0 dX4_packed_5 rfl rfl rfl ?_
      refine g_sV (As := []) (nx := 9) hX hs hi dX4_packed_6 rfl mX4_62 yJ0_length_8abf5_ok rfl (c_J0_length_8abf5 hi) rfl rfl (by decide) rfl (Nat.le_of_ble_eq_true rfl) (Nat.le_of_ble_eq_true rfl) ?_
      rintro _ _ ⟨rfl, rfl⟩
      refine g_icmp_ge (nx := 12) hX 28 dX4_packed_9 (by decide) rfl (fun h9 => ?_) (fun h9 => ?_)
      · exact absurd ((nI_leI (by omega) (by omega)).mp h9) (by omega)
      · refine g_lload_n (nx := 13) hX 1 dX4_packed_12 rfl rfl rfl ?_
        refine g_aload_nR (nx := 14) hX 0 dX4_packed_13 rfl rfl rfl ?_
        refine g_iload_n (nx := 15) hX 3 dX4_packed_14 rfl rfl rfl ?_
        refine g_sV (As := [.int (nI k)]) (nx := 18) hX hs hi dX4_packed_15 rfl mX4_68 yJ0_charAt_5068e_ok rfl (c_J0_charAt_5068e hi (j := k) (by omega)) rfl rfl (by decide) rfl (Nat.le_of_ble_eq_true rfl) (Nat.le_of_ble_eq_true rfl) ?_
        rintro _ _ ⟨rfl, rfl⟩
        refine g_S2 (nx := 21) hX dX4_packed_18 rfl mX4_72 yX4_withLetter_ok (c_X4_withLetter) (by decide) rfl (Nat.le_of_ble_eq_true rfl) (Nat.le_of_ble_eq_true rfl) ?_
        rintro _ _ ⟨rfl, rfl⟩
        refine g_lstore_n (nx := 22) hX 1 dX4_packed_21 rfl rfl rfl ?_
        refine g_iinc (nx := 25) hX 3 (nI (k + 1)) dX4_packed_22 rfl rfl rfl (nI_1 k) ?_
        refine g_goto (nx := 4) hX dX4_packed_25 (by decide) ?_
        exact g_ls ih1 ⟨rfl, rfl, rfl, trivial⟩
  refine g_lconst (nx := 1) hX 0 dX4_packed_0 rfl (by decide) ?_
  refine g_lstore_n (nx := 2) hX 1 dX4_packed_1 rfl rfl rfl ?_
  refine g_iconst (nx := 3) hX 0 dX4_packed_2 rfl (by decide) ?_
  refine g_istore_n (nx := 4) hX 3 dX4_packed_3 rfl rfl rfl ?_
  exact g_ls (loop (w_len.getD i 0) 0 (by omega)) ⟨rfl, rfl, rfl, trivial⟩
theorem w_pks : w_pk 0 3 = 16052 ∧ w_pk 1 2 = 294 ∧ w_pk 2 3 = 20773 ∧ w_pk 3 3 = 13368 ∧ w_pk 4 3 = 13614 ∧ w_pk 5 5 = 21483564 := by decide +kernel
end
