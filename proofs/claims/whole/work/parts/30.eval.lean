/-! ===== the arithmetic of both, method by method ===== -/
theorem l_nlt {a b : Int64} (h : ¬ a < b) : b ≤ a := by rw [Int64.le_iff_toInt_le]; rw [Int64.lt_iff_toInt_lt] at h; omega
theorem l_nle {a b : Int64} (h : ¬ a ≤ b) : b < a := by rw [Int64.lt_iff_toInt_lt]; rw [Int64.le_iff_toInt_le] at h; omega
theorem l_ltn {a b : Int64} (h : a < b) : ¬ b ≤ a := by rw [Int64.le_iff_toInt_le]; rw [Int64.lt_iff_toInt_lt] at h; omega
theorem l_len {a b : Int64} (h : a ≤ b) : ¬ b < a := by rw [Int64.lt_iff_toInt_lt]; rw [Int64.le_iff_toInt_le] at h; omega
/-- two numbers joined: by the class's numbers of the steps -/
def e_two (op : Nat) (a b : Int64) : Int64 :=
  if op = 2 then e_lim (a + b) else if op = 3 then e_lim (a - b) else if op = 4 then e_pr a b else if op = 6 then e_mxl a b else if op = 7 then e_mnl a b
  else if op = 8 then (if a < b then 1 else 0) else if op = 9 then (if b < a then 1 else 0) else (if a = b then 1 else 0)
theorem e_01 (p : Prop) [Decidable p] : e_bd (if p then 1 else 0) := by
  by_cases h : p
  · rw [if_pos h]; exact ⟨by decide, by decide⟩
  · rw [if_neg h]; exact ⟨by decide, by decide⟩
theorem e_two_bd {op : Nat} {a b : Int64} (ha : e_bd a) (hb : e_bd b) : e_bd (e_two op a b) := by
  unfold e_two
  split
  · exact e_lim_bd _
  split
  · exact e_lim_bd _
  split
  · exact e_pr_bd ha hb
  split
  · unfold e_mxl; split <;> assumption
  split
  · unfold e_mnl; split <;> assumption
  split
  · exact e_01 _
  split
  · exact e_01 _
  · exact e_01 _
section
variable {E : ga_E} {X : ga_X} {n : Nat} {c0 c1 c2 c3 c4 c5 c6 c7 c8 c9 c10 c11 c12 c13 c14 c15 c16 c17 c18 c19 c20 c21 c22 c23 c24 c25 c26 c27 c28 c29 c30 m79 m80 m81 m82 m83 m84 m85 m86 m87 m88 m89 m90 m91 m92 m93 m94 m95 m96 m97 m98 m99 m100 m101 m102 m103 m104 m105 : ga_C} {L1 L2 : List ga_C} {f : Nat → ga_C} {o_tp o_rd o_fe o_em o_sp o_ac o_td o_sm o_tt o_at o_sz o_fk o_fp o_nw o_md o_nt o_pl o_op d_at d_tk d_ta d_fd d_fa : Int32} {d_tv : Int64} {d_rl : Value}
variable {a b : Int64} {M : ga_M}
theorem c_J9_max_f86c9 : ga_Mx E 0 yJ9_max_f86c9 cJ9_max_f86c9 4 (some .long) 0 0 [.long a, .long b] M (some (.long (e_mxl a b))) M := by
  refine ga_Mt.ofF (by decide +kernel) rfl (fun X hX hP => ?_)
  refine g_less [some (.long a), none, some (.long b), none] ⟨rfl, rfl, trivial⟩ ?_
  refine g_lload_n (nx := 1) hX 0 dJ9_max_f86c9_0 rfl rfl rfl ?_
  refine g_lload_n (nx := 2) hX 2 dJ9_max_f86c9_1 rfl rfl rfl ?_
  refine g_lcmp (nx := 3) hX dJ9_max_f86c9_2 rfl ?_
  refine g_if_lt (nx := 6) hX 10 dJ9_max_f86c9_3 (by decide) rfl (fun h3 => ?_) (fun h3 => ?_)
  · refine g_lload_n (nx := 11) hX 2 dJ9_max_f86c9_10 rfl rfl rfl ?_
    exact g_lreturn hX hP dJ9_max_f86c9_11 (Nat.le_of_ble_eq_true rfl) (Nat.le_of_ble_eq_true rfl) ⟨by unfold e_mxl; rw [if_pos ((lg_cmp_lt a b).mp h3)], rfl⟩
  · refine g_lload_n (nx := 7) hX 0 dJ9_max_f86c9_6 rfl rfl rfl ?_
    refine g_goto (nx := 11) hX dJ9_max_f86c9_7 (by decide) ?_
    exact g_lreturn hX hP dJ9_max_f86c9_11 (Nat.le_of_ble_eq_true rfl) (Nat.le_of_ble_eq_true rfl) ⟨by unfold e_mxl; rw [if_neg (fun q => h3 ((lg_cmp_lt a b).mpr q))], rfl⟩
theorem c_J9_min_f86c9 : ga_Mx E 0 yJ9_min_f86c9 cJ9_min_f86c9 4 (some .long) 0 0 [.long a, .long b] M (some (.long (e_mnl a b))) M := by
  refine ga_Mt.ofF (by decide +kernel) rfl (fun X hX hP => ?_)
  refine g_less [some (.long a), none, some (.long b), none] ⟨rfl, rfl, trivial⟩ ?_
  refine g_lload_n (nx := 1) hX 0 dJ9_min_f86c9_0 rfl rfl rfl ?_
  refine g_lload_n (nx := 2) hX 2 dJ9_min_f86c9_1 rfl rfl rfl ?_
  refine g_lcmp (nx := 3) hX dJ9_min_f86c9_2 rfl ?_
  refine g_if_gt (nx := 6) hX 10 dJ9_min_f86c9_3 (by decide) rfl (fun h3 => ?_) (fun h3 => ?_)
  · refine g_lload_n (nx := 11) hX 2 dJ9_min_f86c9_10 rfl rfl rfl ?_
    exact g_lreturn hX hP dJ9_min_f86c9_11 (Nat.le_of_ble_eq_true rfl) (Nat.le_of_ble_eq_true rfl) ⟨by unfold e_mnl; rw [if_pos ((lg_cmp_gt a b).mp h3)], rfl⟩
  · refine g_lload_n (nx := 7) hX 0 dJ9_min_f86c9_6 rfl rfl rfl ?_
    refine g_goto (nx := 11) hX dJ9_min_f86c9_7 (by decide) ?_
    exact g_lreturn hX hP dJ9_min_f86c9_11 (Nat.le_of_ble_eq_true rfl) (Nat.le_of_ble_eq_true rfl) ⟨by unfold e_mnl; rw [if_neg (fun q => h3 ((lg_cmp_gt a b).mpr q))], rfl⟩
theorem c_J9_abs_067f4 : ga_Mx E 0 yJ9_abs_067f4 cJ9_abs_067f4 2 (some .long) 0 0 [.long a] M (some (.long (e_abs a))) M := by
  refine ga_Mt.ofF (by decide +kernel) rfl (fun X hX hP => ?_)
  refine g_less [some (.long a), none] ⟨rfl, trivial⟩ ?_
  refine g_lload_n (nx := 1) hX 0 dJ9_abs_067f4_0 rfl rfl rfl ?_
  refine g_lconst (nx := 2) hX 0 dJ9_abs_067f4_1 rfl (by decide) ?_
  refine g_lcmp (nx := 3) hX dJ9_abs_067f4_2 rfl ?_
  refine g_if_ge (nx := 6) hX 11 dJ9_abs_067f4_3 (by decide) rfl (fun h3 => ?_) (fun h3 => ?_)
  · refine g_lload_n (nx := 12) hX 0 dJ9_abs_067f4_11 rfl rfl rfl ?_
    exact g_lreturn hX hP dJ9_abs_067f4_12 (Nat.le_of_ble_eq_true rfl) (Nat.le_of_ble_eq_true rfl) ⟨by unfold e_abs; rw [if_neg (l_len ((lg_cmp_ge a 0).mp h3))], rfl⟩
  · refine g_lload_n (nx := 7) hX 0 dJ9_abs_067f4_6 rfl rfl rfl ?_
    refine g_lneg (nx := 8) hX dJ9_abs_067f4_7 rfl ?_
    refine g_goto (nx := 12) hX dJ9_abs_067f4_8 (by decide) ?_
    exact g_lreturn hX hP dJ9_abs_067f4_12 (Nat.le_of_ble_eq_true rfl) (Nat.le_of_ble_eq_true rfl) ⟨by unfold e_abs; rw [if_pos (l_nle (fun q => h3 ((lg_cmp_ge a 0).mpr q)))], rfl⟩
theorem c_J9_floorDiv_f86c9 {k : Nat} (hk : 1 ≤ k) (hk2 : k < 2147483648) : ga_Mx E 0 yJ9_floorDiv_f86c9 cJ9_floorDiv_f86c9 6 (some .long) 0 0 [.long a, .long (lN k)] M (some (.long (e_fd a k))) M := by
  have h0 : ¬ lN k = 0 := fun q => by have := congrArg Int64.toInt q; rw [pk_lT (by omega), Int64.toInt_zero] at this; omega
  have hp : (0 : Int64) ≤ lN k := by rw [Int64.le_iff_toInt_le, pk_lT (by omega), Int64.toInt_zero]; omega
  refine ga_Mt.ofF (by decide +kernel) rfl (fun X hX hP => ?_)
  refine g_less [some (.long a), none, some (.long (lN k)), none, none, none] ⟨rfl, rfl, trivial⟩ ?_
  refine g_lload_n (nx := 1) hX 0 dJ9_floorDiv_f86c9_0 rfl rfl rfl ?_
  refine g_lload_n (nx := 2) hX 2 dJ9_floorDiv_f86c9_1 rfl rfl rfl ?_
  refine g_ldiv (nx := 3) hX dJ9_floorDiv_f86c9_2 rfl h0 ?_
  refine g_lstore (nx := 5) hX 4 dJ9_floorDiv_f86c9_3 rfl rfl ?_
  refine g_lload_n (nx := 6) hX 0 dJ9_floorDiv_f86c9_5 rfl rfl rfl ?_
  refine g_lload_n (nx := 7) hX 2 dJ9_floorDiv_f86c9_6 rfl rfl rfl ?_
  refine g_lxor (nx := 8) hX dJ9_floorDiv_f86c9_7 rfl ?_
  refine g_lconst (nx := 9) hX 0 dJ9_floorDiv_f86c9_8 rfl (by decide) ?_
  refine g_lcmp (nx := 10) hX dJ9_floorDiv_f86c9_9 rfl ?_
  refine g_if_ge (nx := 13) hX 27 dJ9_floorDiv_f86c9_10 (by decide) rfl (fun h10 => ?_) (fun h10 => ?_)
  · have hge := (lg_cmp_ge (a ^^^ lN k) 0).mp h10
    refine g_lload (nx := 29) hX 4 dJ9_floorDiv_f86c9_27 rfl rfl ?_
    exact g_lreturn hX hP dJ9_floorDiv_f86c9_29 (Nat.le_of_ble_eq_true rfl) (Nat.le_of_ble_eq_true rfl) ⟨by unfold e_fd; rw [if_neg (fun q => l_len hge ((e_xor hp).mpr q.1))], rfl⟩
  · have hlt : a < 0 := (e_xor hp).mp (l_nle (fun q => h10 ((lg_cmp_ge (a ^^^ lN k) 0).mpr q)))
    refine g_lload (nx := 15) hX 4 dJ9_floorDiv_f86c9_13 rfl rfl ?_
    refine g_lload_n (nx := 16) hX 2 dJ9_floorDiv_f86c9_15 rfl rfl rfl ?_
    refine g_lmul (nx := 17) hX dJ9_floorDiv_f86c9_16 rfl ?_
    refine g_lload_n (nx := 18) hX 0 dJ9_floorDiv_f86c9_17 rfl rfl rfl ?_
    refine g_lcmp (nx := 19) hX dJ9_floorDiv_f86c9_18 rfl ?_
    refine g_if_eq (nx := 22) hX 27 dJ9_floorDiv_f86c9_19 (by decide) rfl (fun h19 => ?_) (fun h19 => ?_)
    · refine g_lload (nx := 29) hX 4 dJ9_floorDiv_f86c9_27 rfl rfl ?_
      exact g_lreturn hX hP dJ9_floorDiv_f86c9_29 (Nat.le_of_ble_eq_true rfl) (Nat.le_of_ble_eq_true rfl) ⟨by unfold e_fd; rw [if_neg (fun q => q.2 ((lg_cmp_eq _ _).mp h19))], rfl⟩
    · refine g_lload (nx := 24) hX 4 dJ9_floorDiv_f86c9_22 rfl rfl ?_
      refine g_lconst (nx := 25) hX 1 dJ9_floorDiv_f86c9_24 rfl (by decide) ?_
      refine g_lsub (nx := 26) hX dJ9_floorDiv_f86c9_25 rfl ?_
      exact g_lreturn hX hP dJ9_floorDiv_f86c9_26 (Nat.le_of_ble_eq_true rfl) (Nat.le_of_ble_eq_true rfl) ⟨by unfold e_fd; rw [if_pos ⟨hlt, fun q => h19 ((lg_cmp_eq _ _).mpr q)⟩], rfl⟩
theorem c_X6_limited : ga_Mx E 1 yX6_limited cX6_limited 2 (some .long) 0 0 [.long a] M (some (.long (e_lim a))) M := by
  refine ga_Mt.of (by decide) rfl (fun X hX hP => ?_)
  refine g_less [some (.long a), none] ⟨rfl, trivial⟩ ?_
  refine g_ldc2_w (nx := 3) hX (-1000000000000) dX6_limited_0 rfl kX6_103 ?_
  refine g_ldc2_w (nx := 6) hX 1000000000000 dX6_limited_3 rfl kX6_105 ?_
  refine g_lload_n (nx := 7) hX 0 dX6_limited_6 rfl rfl rfl ?_
  refine g_S2 (nx := 10) hX dX6_limited_7 rfl mX6_100 yJ9_min_f86c9_ok (c_J9_min_f86c9) (by decide) rfl (Nat.le_of_ble_eq_true rfl) (Nat.le_of_ble_eq_true rfl) ?_
  rintro _ _ ⟨rfl, rfl⟩
  refine g_S2 (nx := 13) hX dX6_limited_10 rfl mX6_97 yJ9_max_f86c9_ok (c_J9_max_f86c9) (by decide) rfl (Nat.le_of_ble_eq_true rfl) (Nat.le_of_ble_eq_true rfl) ?_
  rintro _ _ ⟨rfl, rfl⟩
  exact g_lreturn hX hP dX6_limited_13 (Nat.le_of_ble_eq_true rfl) (Nat.le_of_ble_eq_true rfl) ⟨by rw [e_nL]; exact congrArg (fun z => some (Value.long z)) (e_lim_eq a), rfl⟩
theorem c_X6_product (ha : e_bd a) (hb : e_bd b) : ga_Mx E 1 yX6_product cX6_product 4 (some .long) 0 0 [.long a, .long b] M (some (.long (e_pr a b))) M := by
  refine ga_Mt.of (by decide) rfl (fun X hX hP => ?_)
  refine g_less [some (.long a), none, some (.long b), none] ⟨rfl, rfl, trivial⟩ ?_
  refine g_lload_n (nx := 1) hX 0 dX6_product_0 rfl rfl rfl ?_
  refine g_lconst (nx := 2) hX 0 dX6_product_1 rfl (by decide) ?_
  refine g_lcmp (nx := 3) hX dX6_product_2 rfl ?_
  refine g_if_eq (nx := 6) hX 12 dX6_product_3 (by decide) rfl (fun h3 => ?_) (fun h3 => ?_)
  · refine g_lconst (nx := 13) hX 0 dX6_product_12 rfl (by decide) ?_
    exact g_lreturn hX hP dX6_product_13 (Nat.le_of_ble_eq_true rfl) (Nat.le_of_ble_eq_true rfl) ⟨by unfold e_pr; rw [if_pos (Or.inl ((lg_cmp_eq a 0).mp h3))], rfl⟩
  · refine g_lload_n (nx := 7) hX 2 dX6_product_6 rfl rfl rfl ?_
    refine g_lconst (nx := 8) hX 0 dX6_product_7 rfl (by decide) ?_
    refine g_lcmp (nx := 9) hX dX6_product_8 rfl ?_
    refine g_if_ne (nx := 12) hX 14 dX6_product_9 (by decide) rfl (fun h9 => ?_) (fun h9 => ?_)
    · have ha0 : ¬ a = 0 := fun q => h3 ((lg_cmp_eq a 0).mpr q)
      have hb0 : ¬ b = 0 := fun q => h9 ((lg_cmp_eq b 0).mpr q)
      have h00 : ¬ (a = 0 ∨ b = 0) := fun q => q.elim ha0 hb0
      refine g_lload_n (nx := 15) hX 0 dX6_product_14 rfl rfl rfl ?_
      refine g_S1 (nx := 18) hX dX6_product_15 rfl mX6_107 yJ9_abs_067f4_ok (c_J9_abs_067f4) (by decide) rfl (Nat.le_of_ble_eq_true rfl) (Nat.le_of_ble_eq_true rfl) ?_
      rintro _ _ ⟨rfl, rfl⟩
      refine g_ldc2_w (nx := 21) hX 1000000000000 dX6_product_18 rfl kX6_105 ?_
      refine g_lload_n (nx := 22) hX 2 dX6_product_21 rfl rfl rfl ?_
      refine g_S1 (nx := 25) hX dX6_product_22 rfl mX6_107 yJ9_abs_067f4_ok (c_J9_abs_067f4) (by decide) rfl (Nat.le_of_ble_eq_true rfl) (Nat.le_of_ble_eq_true rfl) ?_
      rintro _ _ ⟨rfl, rfl⟩
      refine g_ldiv (nx := 26) hX dX6_product_25 rfl (e_div0 hb hb0) ?_
      refine g_lcmp (nx := 27) hX dX6_product_26 rfl ?_
      refine g_if_le (nx := 30) hX 65 dX6_product_27 (by decide) rfl (fun h27 => ?_) (fun h27 => ?_)
      · have ht := (e_test ha hb hb0).mp ((lg_cmp_le _ _).mp h27)
        refine g_lload_n (nx := 66) hX 0 dX6_product_65 rfl rfl rfl ?_
        refine g_lload_n (nx := 67) hX 2 dX6_product_66 rfl rfl rfl ?_
        refine g_lmul (nx := 68) hX dX6_product_67 rfl ?_
        exact g_lreturn hX hP dX6_product_68 (Nat.le_of_ble_eq_true rfl) (Nat.le_of_ble_eq_true rfl) ⟨by unfold e_pr; rw [if_neg h00, if_neg ht], rfl⟩
      · have ht : 1000000000000 < a.toInt.natAbs * b.toInt.natAbs := Classical.byContradiction (fun q => h27 ((lg_cmp_le _ _).mpr ((e_test ha hb hb0).mpr q)))
        refine g_lload_n (nx := 31) hX 0 dX6_product_30 rfl rfl rfl ?_
        refine g_lconst (nx := 32) hX 0 dX6_product_31 rfl (by decide) ?_
        refine g_lcmp (nx := 33) hX dX6_product_32 rfl ?_
        refine g_if_ge (nx := 36) hX 40 dX6_product_33 (by decide) rfl (fun h33 => ?_) (fun h33 => ?_)
        · have ga : ¬ a < 0 := l_len ((lg_cmp_ge a 0).mp h33)
          refine g_iconst (nx := 41) hX 0 dX6_product_40 rfl (by decide) ?_
          refine g_lload_n (nx := 42) hX 2 dX6_product_41 rfl rfl rfl ?_
          refine g_lconst (nx := 43) hX 0 dX6_product_42 rfl (by decide) ?_
          refine g_lcmp (nx := 44) hX dX6_product_43 rfl ?_
          refine g_if_ge (nx := 47) hX 51 dX6_product_44 (by decide) rfl (fun h44 => ?_) (fun h44 => ?_)
          · have gb : ¬ b < 0 := l_len ((lg_cmp_ge b 0).mp h44)
            refine g_iconst (nx := 52) hX 0 dX6_product_51 rfl (by decide) ?_
            refine g_icmp_ne (nx := 55) hX 61 dX6_product_52 (by decide) rfl (fun h52 => ?_) (fun h52 => ?_)
            · refine g_ldc2_w (nx := 64) hX (-1000000000000) dX6_product_61 rfl kX6_103 ?_
              exact g_lreturn hX hP dX6_product_64 (Nat.le_of_ble_eq_true rfl) (Nat.le_of_ble_eq_true rfl) (absurd rfl h52)
            · refine g_ldc2_w (nx := 58) hX 1000000000000 dX6_product_55 rfl kX6_105 ?_
              refine g_goto (nx := 64) hX dX6_product_58 (by decide) ?_
              exact g_lreturn hX hP dX6_product_64 (Nat.le_of_ble_eq_true rfl) (Nat.le_of_ble_eq_true rfl) ⟨by unfold e_pr; rw [if_neg h00, if_pos ht, if_pos ⟨fun q => absurd q ga, fun q => absurd q gb⟩]; rfl, rfl⟩
          · have gb : b < 0 := l_nle (fun q => h44 ((lg_cmp_ge b 0).mpr q))
            refine g_iconst (nx := 48) hX 1 dX6_product_47 rfl (by decide) ?_
            refine g_goto (nx := 52) hX dX6_product_48 (by decide) ?_
            refine g_icmp_ne (nx := 55) hX 61 dX6_product_52 (by decide) rfl (fun h52 => ?_) (fun h52 => ?_)
            · refine g_ldc2_w (nx := 64) hX (-1000000000000) dX6_product_61 rfl kX6_103 ?_
              exact g_lreturn hX hP dX6_product_64 (Nat.le_of_ble_eq_true rfl) (Nat.le_of_ble_eq_true rfl) ⟨by unfold e_pr; rw [if_neg h00, if_pos ht, if_neg (fun q => ga (q.mpr gb))]; rfl, rfl⟩
            · refine g_ldc2_w (nx := 58) hX 1000000000000 dX6_product_55 rfl kX6_105 ?_
              refine g_goto (nx := 64) hX dX6_product_58 (by decide) ?_
              exact g_lreturn hX hP dX6_product_64 (Nat.le_of_ble_eq_true rfl) (Nat.le_of_ble_eq_true rfl) (absurd h52 (by decide))
        · have ga : a < 0 := l_nle (fun q => h33 ((lg_cmp_ge a 0).mpr q))
          refine g_iconst (nx := 37) hX 1 dX6_product_36 rfl (by decide) ?_
          refine g_goto (nx := 41) hX dX6_product_37 (by decide) ?_
          refine g_lload_n (nx := 42) hX 2 dX6_product_41 rfl rfl rfl ?_
          refine g_lconst (nx := 43) hX 0 dX6_product_42 rfl (by decide) ?_
          refine g_lcmp (nx := 44) hX dX6_product_43 rfl ?_
          refine g_if_ge (nx := 47) hX 51 dX6_product_44 (by decide) rfl (fun h44 => ?_) (fun h44 => ?_)
          · have gb : ¬ b < 0 := l_len ((lg_cmp_ge b 0).mp h44)
            refine g_iconst (nx := 52) hX 0 dX6_product_51 rfl (by decide) ?_
            refine g_icmp_ne (nx := 55) hX 61 dX6_product_52 (by decide) rfl (fun h52 => ?_) (fun h52 => ?_)
            · refine g_ldc2_w (nx := 64) hX (-1000000000000) dX6_product_61 rfl kX6_103 ?_
              exact g_lreturn hX hP dX6_product_64 (Nat.le_of_ble_eq_true rfl) (Nat.le_of_ble_eq_true rfl) ⟨by unfold e_pr; rw [if_neg h00, if_pos ht, if_neg (fun q => gb (q.mp ga))]; rfl, rfl⟩
            · refine g_ldc2_w (nx := 58) hX 1000000000000 dX6_product_55 rfl kX6_105 ?_
              refine g_goto (nx := 64) hX dX6_product_58 (by decide) ?_
              exact g_lreturn hX hP dX6_product_64 (Nat.le_of_ble_eq_true rfl) (Nat.le_of_ble_eq_true rfl) (absurd h52 (by decide))
          · have gb : b < 0 := l_nle (fun q => h44 ((lg_cmp_ge b 0).mpr q))
            refine g_iconst (nx := 48) hX 1 dX6_product_47 rfl (by decide) ?_
            refine g_goto (nx := 52) hX dX6_product_48 (by decide) ?_
            refine g_icmp_ne (nx := 55) hX 61 dX6_product_52 (by decide) rfl (fun h52 => ?_) (fun h52 => ?_)
            · refine g_ldc2_w (nx := 64) hX (-1000000000000) dX6_product_61 rfl kX6_103 ?_
              exact g_lreturn hX hP dX6_product_64 (Nat.le_of_ble_eq_true rfl) (Nat.le_of_ble_eq_true rfl) (absurd rfl h52)
            · refine g_ldc2_w (nx := 58) hX 1000000000000 dX6_product_55 rfl kX6_105 ?_
              refine g_goto (nx := 64) hX dX6_product_58 (by decide) ?_
              exact g_lreturn hX hP dX6_product_64 (Nat.le_of_ble_eq_true rfl) (Nat.le_of_ble_eq_true rfl) ⟨by unfold e_pr; rw [if_neg h00, if_pos ht, if_pos ⟨fun _ => gb, fun _ => ga⟩]; rfl, rfl⟩
    · refine g_lconst (nx := 13) hX 0 dX6_product_12 rfl (by decide) ?_
      exact g_lreturn hX hP dX6_product_13 (Nat.le_of_ble_eq_true rfl) (Nat.le_of_ble_eq_true rfl) ⟨by unfold e_pr; rw [if_pos (Or.inr ((lg_cmp_eq b 0).mp h9))], rfl⟩
theorem c_X11_held : ga_Mx E 0 yX11_held cX11_held 2 (some .long) 0 0 [.long a] M (some (.long (e_lim a))) M := by
  refine ga_Mt.of (by decide) rfl (fun X hX hP => ?_)
  refine g_less [some (.long a), none] ⟨rfl, trivial⟩ ?_
  refine g_lload_n (nx := 1) hX 0 dX11_held_0 rfl rfl rfl ?_
  refine g_ldc2_w (nx := 4) hX 1000000000000 dX11_held_1 rfl kX11_303 ?_
  refine g_lcmp (nx := 5) hX dX11_held_4 rfl ?_
  refine g_if_le (nx := 8) hX 14 dX11_held_5 (by decide) rfl (fun h5 => ?_) (fun h5 => ?_)
  · have h1 : ¬ e_L < a := l_len ((lg_cmp_le a e_L).mp h5)
    refine g_lload_n (nx := 15) hX 0 dX11_held_14 rfl rfl rfl ?_
    refine g_ldc2_w (nx := 18) hX (-1000000000000) dX11_held_15 rfl kX11_305 ?_
    refine g_lcmp (nx := 19) hX dX11_held_18 rfl ?_
    refine g_if_ge (nx := 22) hX 28 dX11_held_19 (by decide) rfl (fun h19 => ?_) (fun h19 => ?_)
    · refine g_lload_n (nx := 29) hX 0 dX11_held_28 rfl rfl rfl ?_
      exact g_lreturn hX hP dX11_held_29 (Nat.le_of_ble_eq_true rfl) (Nat.le_of_ble_eq_true rfl) ⟨by unfold e_lim; rw [if_neg h1, ← e_nL, if_neg (l_len ((lg_cmp_ge a (-1000000000000)).mp h19))], rfl⟩
    · refine g_ldc2_w (nx := 25) hX (-1000000000000) dX11_held_22 rfl kX11_305 ?_
      refine g_goto (nx := 29) hX dX11_held_25 (by decide) ?_
      exact g_lreturn hX hP dX11_held_29 (Nat.le_of_ble_eq_true rfl) (Nat.le_of_ble_eq_true rfl) ⟨by unfold e_lim; rw [if_neg h1, ← e_nL, if_pos (l_nle (fun q => h19 ((lg_cmp_ge a (-1000000000000)).mpr q)))], rfl⟩
  · have h1 : e_L < a := l_nle (fun q => h5 ((lg_cmp_le a e_L).mpr q))
    refine g_ldc2_w (nx := 11) hX 1000000000000 dX11_held_8 rfl kX11_303 ?_
    refine g_goto (nx := 29) hX dX11_held_11 (by decide) ?_
    exact g_lreturn hX hP dX11_held_29 (Nat.le_of_ble_eq_true rfl) (Nat.le_of_ble_eq_true rfl) ⟨by unfold e_lim; rw [if_pos h1]; rfl, rfl⟩
theorem c_X11_over {k : Nat} (hk : 1 ≤ k) (hk2 : k < 2147483648) : ga_Mx E 0 yX11_over cX11_over 6 (some .long) 0 0 [.long a, .long (lN k)] M (some (.long (e_fd a k))) M := by
  have h0 : ¬ lN k = 0 := fun q => by have := congrArg Int64.toInt q; rw [pk_lT (by omega), Int64.toInt_zero] at this; omega
  refine ga_Mt.of (by decide) rfl (fun X hX hP => ?_)
  refine g_less [some (.long a), none, some (.long (lN k)), none, none, none] ⟨rfl, rfl, trivial⟩ ?_
  refine g_lload_n (nx := 1) hX 0 dX11_over_0 rfl rfl rfl ?_
  refine g_lload_n (nx := 2) hX 2 dX11_over_1 rfl rfl rfl ?_
  refine g_ldiv (nx := 3) hX dX11_over_2 rfl h0 ?_
  refine g_lstore (nx := 5) hX 4 dX11_over_3 rfl rfl ?_
  refine g_lload_n (nx := 6) hX 0 dX11_over_5 rfl rfl rfl ?_
  refine g_lconst (nx := 7) hX 0 dX11_over_6 rfl (by decide) ?_
  refine g_lcmp (nx := 8) hX dX11_over_7 rfl ?_
  refine g_if_ge (nx := 11) hX 27 dX11_over_8 (by decide) rfl (fun h8 => ?_) (fun h8 => ?_)
  · refine g_lload (nx := 29) hX 4 dX11_over_27 rfl rfl ?_
    exact g_lreturn hX hP dX11_over_29 (Nat.le_of_ble_eq_true rfl) (Nat.le_of_ble_eq_true rfl) ⟨by unfold e_fd; rw [if_neg (fun q => l_len ((lg_cmp_ge a 0).mp h8) q.1)], rfl⟩
  · have hlt : a < 0 := l_nle (fun q => h8 ((lg_cmp_ge a 0).mpr q))
    refine g_lload (nx := 13) hX 4 dX11_over_11 rfl rfl ?_
    refine g_lload_n (nx := 14) hX 2 dX11_over_13 rfl rfl rfl ?_
    refine g_lmul (nx := 15) hX dX11_over_14 rfl ?_
    refine g_lload_n (nx := 16) hX 0 dX11_over_15 rfl rfl rfl ?_
    refine g_lcmp (nx := 17) hX dX11_over_16 rfl ?_
    refine g_if_eq (nx := 20) hX 27 dX11_over_17 (by decide) rfl (fun h17 => ?_) (fun h17 => ?_)
    · refine g_lload (nx := 29) hX 4 dX11_over_27 rfl rfl ?_
      exact g_lreturn hX hP dX11_over_29 (Nat.le_of_ble_eq_true rfl) (Nat.le_of_ble_eq_true rfl) ⟨by unfold e_fd; rw [if_neg (fun q => q.2 ((lg_cmp_eq _ _).mp h17))], rfl⟩
    · refine g_lload (nx := 22) hX 4 dX11_over_20 rfl rfl ?_
      refine g_lconst (nx := 23) hX 1 dX11_over_22 rfl (by decide) ?_
      refine g_lsub (nx := 24) hX dX11_over_23 rfl ?_
      refine g_goto (nx := 29) hX dX11_over_24 (by decide) ?_
      exact g_lreturn hX hP dX11_over_29 (Nat.le_of_ble_eq_true rfl) (Nat.le_of_ble_eq_true rfl) ⟨by unfold e_fd; rw [if_pos ⟨hlt, fun q => h17 ((lg_cmp_eq _ _).mpr q)⟩], rfl⟩
theorem c_X11_times (ha : e_bd a) (hb : e_bd b) : ga_Mx E 0 yX11_times cX11_times 8 (some .long) 0 0 [.long a, .long b] M (some (.long (e_pr a b))) M := by
  refine ga_Mt.of (by decide) rfl (fun X hX hP => ?_)
  refine g_less [some (.long a), none, some (.long b), none, none, none, none, none] ⟨rfl, rfl, trivial⟩ ?_
  refine g_lload_n (nx := 1) hX 0 dX11_times_0 rfl rfl rfl ?_
  refine g_lconst (nx := 2) hX 0 dX11_times_1 rfl (by decide) ?_
  refine g_lcmp (nx := 3) hX dX11_times_2 rfl ?_
  refine g_if_eq (nx := 6) hX 12 dX11_times_3 (by decide) rfl (fun h3 => ?_) (fun h3 => ?_)
  · refine g_lconst (nx := 13) hX 0 dX11_times_12 rfl (by decide) ?_
    exact g_lreturn hX hP dX11_times_13 (Nat.le_of_ble_eq_true rfl) (Nat.le_of_ble_eq_true rfl) ⟨by unfold e_pr; rw [if_pos (Or.inl ((lg_cmp_eq a 0).mp h3))], rfl⟩
  · refine g_lload_n (nx := 7) hX 2 dX11_times_6 rfl rfl rfl ?_
    refine g_lconst (nx := 8) hX 0 dX11_times_7 rfl (by decide) ?_
    refine g_lcmp (nx := 9) hX dX11_times_8 rfl ?_
    refine g_if_ne (nx := 12) hX 14 dX11_times_9 (by decide) rfl (fun h9 => ?_) (fun h9 => ?_)
    · have ha0 : ¬ a = 0 := fun q => h3 ((lg_cmp_eq a 0).mpr q)
      have hb0 : ¬ b = 0 := fun q => h9 ((lg_cmp_eq b 0).mpr q)
      have h00 : ¬ (a = 0 ∨ b = 0) := fun q => q.elim ha0 hb0
      have hcm := Nat.mul_comm b.toInt.natAbs a.toInt.natAbs
      refine g_lload_n (nx := 15) hX 0 dX11_times_14 rfl rfl rfl ?_
      refine g_lconst (nx := 16) hX 0 dX11_times_15 rfl (by decide) ?_
      refine g_lcmp (nx := 17) hX dX11_times_16 rfl ?_
      refine g_if_ge (nx := 20) hX 25 dX11_times_17 (by decide) rfl (fun h17 => ?_) (fun h17 => ?_)
      · have ga : ¬ a < 0 := l_len ((lg_cmp_ge a 0).mp h17)
        have ea : e_abs a = a := if_neg ga
        refine g_lload_n (nx := 26) hX 0 dX11_times_25 rfl rfl rfl ?_
        refine g_lstore (nx := 28) hX 4 dX11_times_26 rfl rfl ?_
        refine g_lload_n (nx := 29) hX 2 dX11_times_28 rfl rfl rfl ?_
        refine g_lconst (nx := 30) hX 0 dX11_times_29 rfl (by decide) ?_
        refine g_lcmp (nx := 31) hX dX11_times_30 rfl ?_
        refine g_if_ge (nx := 34) hX 39 dX11_times_31 (by decide) rfl (fun h31 => ?_) (fun h31 => ?_)
        · have gb : ¬ b < 0 := l_len ((lg_cmp_ge b 0).mp h31)
          have eb : e_abs b = b := if_neg gb
          refine g_lload_n (nx := 40) hX 2 dX11_times_39 rfl rfl rfl ?_
          refine g_lstore (nx := 42) hX 6 dX11_times_40 rfl rfl ?_
          refine g_lload (nx := 44) hX 6 dX11_times_42 rfl rfl ?_
          refine g_ldc2_w (nx := 47) hX 1000000000000 dX11_times_44 rfl kX11_303 ?_
          refine g_lload (nx := 49) hX 4 dX11_times_47 rfl rfl ?_
          refine g_ldiv (nx := 50) hX dX11_times_49 rfl (by rw [← ea]; exact e_div0 ha ha0) ?_
          refine g_lcmp (nx := 51) hX dX11_times_50 rfl ?_
          refine g_if_le (nx := 54) hX 89 dX11_times_51 (by decide) rfl (fun h51 => ?_) (fun h51 => ?_)
          · have ht := (e_test hb ha ha0).mp (by rw [ea, eb]; exact (lg_cmp_le _ _).mp h51)
            rw [hcm] at ht
            refine g_lload_n (nx := 90) hX 0 dX11_times_89 rfl rfl rfl ?_
            refine g_lload_n (nx := 91) hX 2 dX11_times_90 rfl rfl rfl ?_
            refine g_lmul (nx := 92) hX dX11_times_91 rfl ?_
            exact g_lreturn hX hP dX11_times_92 (Nat.le_of_ble_eq_true rfl) (Nat.le_of_ble_eq_true rfl) ⟨by unfold e_pr; rw [if_neg h00, if_neg ht], rfl⟩
          · have ht : 1000000000000 < a.toInt.natAbs * b.toInt.natAbs := Classical.byContradiction (fun q => h51 ((lg_cmp_le _ _).mpr (by have := (e_test hb ha ha0).mpr (by rw [hcm]; exact q); rw [ea, eb] at this; exact this)))
            refine g_lload_n (nx := 55) hX 0 dX11_times_54 rfl rfl rfl ?_
            refine g_lconst (nx := 56) hX 0 dX11_times_55 rfl (by decide) ?_
            refine g_lcmp (nx := 57) hX dX11_times_56 rfl ?_
            refine g_if_ge (nx := 60) hX 64 dX11_times_57 (by decide) rfl (fun h57 => ?_) (fun h57 => ?_)
            · refine g_iconst (nx := 65) hX 0 dX11_times_64 rfl (by decide) ?_
              refine g_lload_n (nx := 66) hX 2 dX11_times_65 rfl rfl rfl ?_
              refine g_lconst (nx := 67) hX 0 dX11_times_66 rfl (by decide) ?_
              refine g_lcmp (nx := 68) hX dX11_times_67 rfl ?_
              refine g_if_ge (nx := 71) hX 75 dX11_times_68 (by decide) rfl (fun h68 => ?_) (fun h68 => ?_)
              · refine g_iconst (nx := 76) hX 0 dX11_times_75 rfl (by decide) ?_
                refine g_icmp_ne (nx := 79) hX 85 dX11_times_76 (by decide) rfl (fun h76 => ?_) (fun h76 => ?_)
                · refine g_ldc2_w (nx := 88) hX (-1000000000000) dX11_times_85 rfl kX11_305 ?_
                  exact g_lreturn hX hP dX11_times_88 (Nat.le_of_ble_eq_true rfl) (Nat.le_of_ble_eq_true rfl) (absurd rfl h76)
                · refine g_ldc2_w (nx := 82) hX 1000000000000 dX11_times_79 rfl kX11_303 ?_
                  refine g_goto (nx := 88) hX dX11_times_82 (by decide) ?_
                  exact g_lreturn hX hP dX11_times_88 (Nat.le_of_ble_eq_true rfl) (Nat.le_of_ble_eq_true rfl) ⟨by unfold e_pr; rw [if_neg h00, if_pos ht, if_pos ⟨fun q => absurd q ga, fun q => absurd q gb⟩]; rfl, rfl⟩
              · refine g_iconst (nx := 72) hX 1 dX11_times_71 rfl (by decide) ?_
                refine g_goto (nx := 76) hX dX11_times_72 (by decide) ?_
                refine g_icmp_ne (nx := 79) hX 85 dX11_times_76 (by decide) rfl (fun h76 => ?_) (fun h76 => ?_)
                · refine g_ldc2_w (nx := 88) hX (-1000000000000) dX11_times_85 rfl kX11_305 ?_
                  exact g_lreturn hX hP dX11_times_88 (Nat.le_of_ble_eq_true rfl) (Nat.le_of_ble_eq_true rfl) (absurd ((lg_cmp_ge b 0).mpr (l_nlt gb)) h68)
                · refine g_ldc2_w (nx := 82) hX 1000000000000 dX11_times_79 rfl kX11_303 ?_
                  refine g_goto (nx := 88) hX dX11_times_82 (by decide) ?_
                  exact g_lreturn hX hP dX11_times_88 (Nat.le_of_ble_eq_true rfl) (Nat.le_of_ble_eq_true rfl) (absurd ((lg_cmp_ge b 0).mpr (l_nlt gb)) h68)
            · refine g_iconst (nx := 61) hX 1 dX11_times_60 rfl (by decide) ?_
              refine g_goto (nx := 65) hX dX11_times_61 (by decide) ?_
              refine g_lload_n (nx := 66) hX 2 dX11_times_65 rfl rfl rfl ?_
              refine g_lconst (nx := 67) hX 0 dX11_times_66 rfl (by decide) ?_
              refine g_lcmp (nx := 68) hX dX11_times_67 rfl ?_
              refine g_if_ge (nx := 71) hX 75 dX11_times_68 (by decide) rfl (fun h68 => ?_) (fun h68 => ?_)
              · refine g_iconst (nx := 76) hX 0 dX11_times_75 rfl (by decide) ?_
                refine g_icmp_ne (nx := 79) hX 85 dX11_times_76 (by decide) rfl (fun h76 => ?_) (fun h76 => ?_)
                · refine g_ldc2_w (nx := 88) hX (-1000000000000) dX11_times_85 rfl kX11_305 ?_
                  exact g_lreturn hX hP dX11_times_88 (Nat.le_of_ble_eq_true rfl) (Nat.le_of_ble_eq_true rfl) (absurd ((lg_cmp_ge a 0).mpr (l_nlt ga)) h57)
                · refine g_ldc2_w (nx := 82) hX 1000000000000 dX11_times_79 rfl kX11_303 ?_
                  refine g_goto (nx := 88) hX dX11_times_82 (by decide) ?_
                  exact g_lreturn hX hP dX11_times_88 (Nat.le_of_ble_eq_true rfl) (Nat.le_of_ble_eq_true rfl) (absurd ((lg_cmp_ge a 0).mpr (l_nlt ga)) h57)
              · refine g_iconst (nx := 72) hX 1 dX11_times_71 rfl (by decide) ?_
                refine g_goto (nx := 76) hX dX11_times_72 (by decide) ?_
                refine g_icmp_ne (nx := 79) hX 85 dX11_times_76 (by decide) rfl (fun h76 => ?_) (fun h76 => ?_)
                · refine g_ldc2_w (nx := 88) hX (-1000000000000) dX11_times_85 rfl kX11_305 ?_
                  exact g_lreturn hX hP dX11_times_88 (Nat.le_of_ble_eq_true rfl) (Nat.le_of_ble_eq_true rfl) (absurd ((lg_cmp_ge a 0).mpr (l_nlt ga)) h57)
                · refine g_ldc2_w (nx := 82) hX 1000000000000 dX11_times_79 rfl kX11_303 ?_
                  refine g_goto (nx := 88) hX dX11_times_82 (by decide) ?_
                  exact g_lreturn hX hP dX11_times_88 (Nat.le_of_ble_eq_true rfl) (Nat.le_of_ble_eq_true rfl) (absurd ((lg_cmp_ge a 0).mpr (l_nlt ga)) h57)
        · have gb : b < 0 := l_nle (fun q => h31 ((lg_cmp_ge b 0).mpr q))
          have eb : e_abs b = -b := if_pos gb
          refine g_lload_n (nx := 35) hX 2 dX11_times_34 rfl rfl rfl ?_
          refine g_lneg (nx := 36) hX dX11_times_35 rfl ?_
          refine g_goto (nx := 40) hX dX11_times_36 (by decide) ?_
          refine g_lstore (nx := 42) hX 6 dX11_times_40 rfl rfl ?_
          refine g_lload (nx := 44) hX 6 dX11_times_42 rfl rfl ?_
          refine g_ldc2_w (nx := 47) hX 1000000000000 dX11_times_44 rfl kX11_303 ?_
          refine g_lload (nx := 49) hX 4 dX11_times_47 rfl rfl ?_
          refine g_ldiv (nx := 50) hX dX11_times_49 rfl (by rw [← ea]; exact e_div0 ha ha0) ?_
          refine g_lcmp (nx := 51) hX dX11_times_50 rfl ?_
          refine g_if_le (nx := 54) hX 89 dX11_times_51 (by decide) rfl (fun h51 => ?_) (fun h51 => ?_)
          · have ht := (e_test hb ha ha0).mp (by rw [ea, eb]; exact (lg_cmp_le _ _).mp h51)
            rw [hcm] at ht
            refine g_lload_n (nx := 90) hX 0 dX11_times_89 rfl rfl rfl ?_
            refine g_lload_n (nx := 91) hX 2 dX11_times_90 rfl rfl rfl ?_
            refine g_lmul (nx := 92) hX dX11_times_91 rfl ?_
            exact g_lreturn hX hP dX11_times_92 (Nat.le_of_ble_eq_true rfl) (Nat.le_of_ble_eq_true rfl) ⟨by unfold e_pr; rw [if_neg h00, if_neg ht], rfl⟩
          · have ht : 1000000000000 < a.toInt.natAbs * b.toInt.natAbs := Classical.byContradiction (fun q => h51 ((lg_cmp_le _ _).mpr (by have := (e_test hb ha ha0).mpr (by rw [hcm]; exact q); rw [ea, eb] at this; exact this)))
            refine g_lload_n (nx := 55) hX 0 dX11_times_54 rfl rfl rfl ?_
            refine g_lconst (nx := 56) hX 0 dX11_times_55 rfl (by decide) ?_
            refine g_lcmp (nx := 57) hX dX11_times_56 rfl ?_
            refine g_if_ge (nx := 60) hX 64 dX11_times_57 (by decide) rfl (fun h57 => ?_) (fun h57 => ?_)
            · refine g_iconst (nx := 65) hX 0 dX11_times_64 rfl (by decide) ?_
              refine g_lload_n (nx := 66) hX 2 dX11_times_65 rfl rfl rfl ?_
              refine g_lconst (nx := 67) hX 0 dX11_times_66 rfl (by decide) ?_
              refine g_lcmp (nx := 68) hX dX11_times_67 rfl ?_
              refine g_if_ge (nx := 71) hX 75 dX11_times_68 (by decide) rfl (fun h68 => ?_) (fun h68 => ?_)
              · refine g_iconst (nx := 76) hX 0 dX11_times_75 rfl (by decide) ?_
                refine g_icmp_ne (nx := 79) hX 85 dX11_times_76 (by decide) rfl (fun h76 => ?_) (fun h76 => ?_)
                · refine g_ldc2_w (nx := 88) hX (-1000000000000) dX11_times_85 rfl kX11_305 ?_
                  exact g_lreturn hX hP dX11_times_88 (Nat.le_of_ble_eq_true rfl) (Nat.le_of_ble_eq_true rfl) (absurd ((lg_cmp_ge b 0).mp h68) (l_ltn gb))
                · refine g_ldc2_w (nx := 82) hX 1000000000000 dX11_times_79 rfl kX11_303 ?_
                  refine g_goto (nx := 88) hX dX11_times_82 (by decide) ?_
                  exact g_lreturn hX hP dX11_times_88 (Nat.le_of_ble_eq_true rfl) (Nat.le_of_ble_eq_true rfl) (absurd ((lg_cmp_ge b 0).mp h68) (l_ltn gb))
              · refine g_iconst (nx := 72) hX 1 dX11_times_71 rfl (by decide) ?_
                refine g_goto (nx := 76) hX dX11_times_72 (by decide) ?_
                refine g_icmp_ne (nx := 79) hX 85 dX11_times_76 (by decide) rfl (fun h76 => ?_) (fun h76 => ?_)
                · refine g_ldc2_w (nx := 88) hX (-1000000000000) dX11_times_85 rfl kX11_305 ?_
                  exact g_lreturn hX hP dX11_times_88 (Nat.le_of_ble_eq_true rfl) (Nat.le_of_ble_eq_true rfl) ⟨by unfold e_pr; rw [if_neg h00, if_pos ht, if_neg (fun q => ga (q.mpr gb))]; rfl, rfl⟩
                · refine g_ldc2_w (nx := 82) hX 1000000000000 dX11_times_79 rfl kX11_303 ?_
                  refine g_goto (nx := 88) hX dX11_times_82 (by decide) ?_
                  exact g_lreturn hX hP dX11_times_88 (Nat.le_of_ble_eq_true rfl) (Nat.le_of_ble_eq_true rfl) (absurd h76 (by decide))
            · refine g_iconst (nx := 61) hX 1 dX11_times_60 rfl (by decide) ?_
              refine g_goto (nx := 65) hX dX11_times_61 (by decide) ?_
              refine g_lload_n (nx := 66) hX 2 dX11_times_65 rfl rfl rfl ?_
              refine g_lconst (nx := 67) hX 0 dX11_times_66 rfl (by decide) ?_
              refine g_lcmp (nx := 68) hX dX11_times_67 rfl ?_
              refine g_if_ge (nx := 71) hX 75 dX11_times_68 (by decide) rfl (fun h68 => ?_) (fun h68 => ?_)
              · refine g_iconst (nx := 76) hX 0 dX11_times_75 rfl (by decide) ?_
                refine g_icmp_ne (nx := 79) hX 85 dX11_times_76 (by decide) rfl (fun h76 => ?_) (fun h76 => ?_)
                · refine g_ldc2_w (nx := 88) hX (-1000000000000) dX11_times_85 rfl kX11_305 ?_
                  exact g_lreturn hX hP dX11_times_88 (Nat.le_of_ble_eq_true rfl) (Nat.le_of_ble_eq_true rfl) (absurd ((lg_cmp_ge a 0).mpr (l_nlt ga)) h57)
                · refine g_ldc2_w (nx := 82) hX 1000000000000 dX11_times_79 rfl kX11_303 ?_
                  refine g_goto (nx := 88) hX dX11_times_82 (by decide) ?_
                  exact g_lreturn hX hP dX11_times_88 (Nat.le_of_ble_eq_true rfl) (Nat.le_of_ble_eq_true rfl) (absurd ((lg_cmp_ge a 0).mpr (l_nlt ga)) h57)
              · refine g_iconst (nx := 72) hX 1 dX11_times_71 rfl (by decide) ?_
                refine g_goto (nx := 76) hX dX11_times_72 (by decide) ?_
                refine g_icmp_ne (nx := 79) hX 85 dX11_times_76 (by decide) rfl (fun h76 => ?_) (fun h76 => ?_)
                · refine g_ldc2_w (nx := 88) hX (-1000000000000) dX11_times_85 rfl kX11_305 ?_
                  exact g_lreturn hX hP dX11_times_88 (Nat.le_of_ble_eq_true rfl) (Nat.le_of_ble_eq_true rfl) (absurd ((lg_cmp_ge a 0).mpr (l_nlt ga)) h57)
                · refine g_ldc2_w (nx := 82) hX 1000000000000 dX11_times_79 rfl kX11_303 ?_
                  refine g_goto (nx := 88) hX dX11_times_82 (by decide) ?_
                  exact g_lreturn hX hP dX11_times_88 (Nat.le_of_ble_eq_true rfl) (Nat.le_of_ble_eq_true rfl) (absurd ((lg_cmp_ge a 0).mpr (l_nlt ga)) h57)
      · have ga : a < 0 := l_nle (fun q => h17 ((lg_cmp_ge a 0).mpr q))
        have ea : e_abs a = -a := if_pos ga
        refine g_lload_n (nx := 21) hX 0 dX11_times_20 rfl rfl rfl ?_
        refine g_lneg (nx := 22) hX dX11_times_21 rfl ?_
        refine g_goto (nx := 26) hX dX11_times_22 (by decide) ?_
        refine g_lstore (nx := 28) hX 4 dX11_times_26 rfl rfl ?_
        refine g_lload_n (nx := 29) hX 2 dX11_times_28 rfl rfl rfl ?_
        refine g_lconst (nx := 30) hX 0 dX11_times_29 rfl (by decide) ?_
        refine g_lcmp (nx := 31) hX dX11_times_30 rfl ?_
        refine g_if_ge (nx := 34) hX 39 dX11_times_31 (by decide) rfl (fun h31 => ?_) (fun h31 => ?_)
        · have gb : ¬ b < 0 := l_len ((lg_cmp_ge b 0).mp h31)
          have eb : e_abs b = b := if_neg gb
          refine g_lload_n (nx := 40) hX 2 dX11_times_39 rfl rfl rfl ?_
          refine g_lstore (nx := 42) hX 6 dX11_times_40 rfl rfl ?_
          refine g_lload (nx := 44) hX 6 dX11_times_42 rfl rfl ?_
          refine g_ldc2_w (nx := 47) hX 1000000000000 dX11_times_44 rfl kX11_303 ?_
          refine g_lload (nx := 49) hX 4 dX11_times_47 rfl rfl ?_
          refine g_ldiv (nx := 50) hX dX11_times_49 rfl (by rw [← ea]; exact e_div0 ha ha0) ?_
          refine g_lcmp (nx := 51) hX dX11_times_50 rfl ?_
          refine g_if_le (nx := 54) hX 89 dX11_times_51 (by decide) rfl (fun h51 => ?_) (fun h51 => ?_)
          · have ht := (e_test hb ha ha0).mp (by rw [ea, eb]; exact (lg_cmp_le _ _).mp h51)
            rw [hcm] at ht
            refine g_lload_n (nx := 90) hX 0 dX11_times_89 rfl rfl rfl ?_
            refine g_lload_n (nx := 91) hX 2 dX11_times_90 rfl rfl rfl ?_
            refine g_lmul (nx := 92) hX dX11_times_91 rfl ?_
            exact g_lreturn hX hP dX11_times_92 (Nat.le_of_ble_eq_true rfl) (Nat.le_of_ble_eq_true rfl) ⟨by unfold e_pr; rw [if_neg h00, if_neg ht], rfl⟩
          · have ht : 1000000000000 < a.toInt.natAbs * b.toInt.natAbs := Classical.byContradiction (fun q => h51 ((lg_cmp_le _ _).mpr (by have := (e_test hb ha ha0).mpr (by rw [hcm]; exact q); rw [ea, eb] at this; exact this)))
            refine g_lload_n (nx := 55) hX 0 dX11_times_54 rfl rfl rfl ?_
            refine g_lconst (nx := 56) hX 0 dX11_times_55 rfl (by decide) ?_
            refine g_lcmp (nx := 57) hX dX11_times_56 rfl ?_
            refine g_if_ge (nx := 60) hX 64 dX11_times_57 (by decide) rfl (fun h57 => ?_) (fun h57 => ?_)
            · refine g_iconst (nx := 65) hX 0 dX11_times_64 rfl (by decide) ?_
              refine g_lload_n (nx := 66) hX 2 dX11_times_65 rfl rfl rfl ?_
              refine g_lconst (nx := 67) hX 0 dX11_times_66 rfl (by decide) ?_
              refine g_lcmp (nx := 68) hX dX11_times_67 rfl ?_
              refine g_if_ge (nx := 71) hX 75 dX11_times_68 (by decide) rfl (fun h68 => ?_) (fun h68 => ?_)
              · refine g_iconst (nx := 76) hX 0 dX11_times_75 rfl (by decide) ?_
                refine g_icmp_ne (nx := 79) hX 85 dX11_times_76 (by decide) rfl (fun h76 => ?_) (fun h76 => ?_)
                · refine g_ldc2_w (nx := 88) hX (-1000000000000) dX11_times_85 rfl kX11_305 ?_
                  exact g_lreturn hX hP dX11_times_88 (Nat.le_of_ble_eq_true rfl) (Nat.le_of_ble_eq_true rfl) (absurd ((lg_cmp_ge a 0).mp h57) (l_ltn ga))
                · refine g_ldc2_w (nx := 82) hX 1000000000000 dX11_times_79 rfl kX11_303 ?_
                  refine g_goto (nx := 88) hX dX11_times_82 (by decide) ?_
                  exact g_lreturn hX hP dX11_times_88 (Nat.le_of_ble_eq_true rfl) (Nat.le_of_ble_eq_true rfl) (absurd ((lg_cmp_ge a 0).mp h57) (l_ltn ga))
              · refine g_iconst (nx := 72) hX 1 dX11_times_71 rfl (by decide) ?_
                refine g_goto (nx := 76) hX dX11_times_72 (by decide) ?_
                refine g_icmp_ne (nx := 79) hX 85 dX11_times_76 (by decide) rfl (fun h76 => ?_) (fun h76 => ?_)
                · refine g_ldc2_w (nx := 88) hX (-1000000000000) dX11_times_85 rfl kX11_305 ?_
                  exact g_lreturn hX hP dX11_times_88 (Nat.le_of_ble_eq_true rfl) (Nat.le_of_ble_eq_true rfl) (absurd ((lg_cmp_ge a 0).mp h57) (l_ltn ga))
                · refine g_ldc2_w (nx := 82) hX 1000000000000 dX11_times_79 rfl kX11_303 ?_
                  refine g_goto (nx := 88) hX dX11_times_82 (by decide) ?_
                  exact g_lreturn hX hP dX11_times_88 (Nat.le_of_ble_eq_true rfl) (Nat.le_of_ble_eq_true rfl) (absurd ((lg_cmp_ge a 0).mp h57) (l_ltn ga))
            · refine g_iconst (nx := 61) hX 1 dX11_times_60 rfl (by decide) ?_
              refine g_goto (nx := 65) hX dX11_times_61 (by decide) ?_
              refine g_lload_n (nx := 66) hX 2 dX11_times_65 rfl rfl rfl ?_
              refine g_lconst (nx := 67) hX 0 dX11_times_66 rfl (by decide) ?_
              refine g_lcmp (nx := 68) hX dX11_times_67 rfl ?_
              refine g_if_ge (nx := 71) hX 75 dX11_times_68 (by decide) rfl (fun h68 => ?_) (fun h68 => ?_)
              · refine g_iconst (nx := 76) hX 0 dX11_times_75 rfl (by decide) ?_
                refine g_icmp_ne (nx := 79) hX 85 dX11_times_76 (by decide) rfl (fun h76 => ?_) (fun h76 => ?_)
                · refine g_ldc2_w (nx := 88) hX (-1000000000000) dX11_times_85 rfl kX11_305 ?_
                  exact g_lreturn hX hP dX11_times_88 (Nat.le_of_ble_eq_true rfl) (Nat.le_of_ble_eq_true rfl) ⟨by unfold e_pr; rw [if_neg h00, if_pos ht, if_neg (fun q => gb (q.mp ga))]; rfl, rfl⟩
                · refine g_ldc2_w (nx := 82) hX 1000000000000 dX11_times_79 rfl kX11_303 ?_
                  refine g_goto (nx := 88) hX dX11_times_82 (by decide) ?_
                  exact g_lreturn hX hP dX11_times_88 (Nat.le_of_ble_eq_true rfl) (Nat.le_of_ble_eq_true rfl) (absurd h76 (by decide))
              · refine g_iconst (nx := 72) hX 1 dX11_times_71 rfl (by decide) ?_
                refine g_goto (nx := 76) hX dX11_times_72 (by decide) ?_
                refine g_icmp_ne (nx := 79) hX 85 dX11_times_76 (by decide) rfl (fun h76 => ?_) (fun h76 => ?_)
                · refine g_ldc2_w (nx := 88) hX (-1000000000000) dX11_times_85 rfl kX11_305 ?_
                  exact g_lreturn hX hP dX11_times_88 (Nat.le_of_ble_eq_true rfl) (Nat.le_of_ble_eq_true rfl) (absurd ((lg_cmp_ge b 0).mpr (l_nlt gb)) h68)
                · refine g_ldc2_w (nx := 82) hX 1000000000000 dX11_times_79 rfl kX11_303 ?_
                  refine g_goto (nx := 88) hX dX11_times_82 (by decide) ?_
                  exact g_lreturn hX hP dX11_times_88 (Nat.le_of_ble_eq_true rfl) (Nat.le_of_ble_eq_true rfl) (absurd ((lg_cmp_ge b 0).mpr (l_nlt gb)) h68)
        · have gb : b < 0 := l_nle (fun q => h31 ((lg_cmp_ge b 0).mpr q))
          have eb : e_abs b = -b := if_pos gb
          refine g_lload_n (nx := 35) hX 2 dX11_times_34 rfl rfl rfl ?_
          refine g_lneg (nx := 36) hX dX11_times_35 rfl ?_
          refine g_goto (nx := 40) hX dX11_times_36 (by decide) ?_
          refine g_lstore (nx := 42) hX 6 dX11_times_40 rfl rfl ?_
          refine g_lload (nx := 44) hX 6 dX11_times_42 rfl rfl ?_
          refine g_ldc2_w (nx := 47) hX 1000000000000 dX11_times_44 rfl kX11_303 ?_
          refine g_lload (nx := 49) hX 4 dX11_times_47 rfl rfl ?_
          refine g_ldiv (nx := 50) hX dX11_times_49 rfl (by rw [← ea]; exact e_div0 ha ha0) ?_
          refine g_lcmp (nx := 51) hX dX11_times_50 rfl ?_
          refine g_if_le (nx := 54) hX 89 dX11_times_51 (by decide) rfl (fun h51 => ?_) (fun h51 => ?_)
          · have ht := (e_test hb ha ha0).mp (by rw [ea, eb]; exact (lg_cmp_le _ _).mp h51)
            rw [hcm] at ht
            refine g_lload_n (nx := 90) hX 0 dX11_times_89 rfl rfl rfl ?_
            refine g_lload_n (nx := 91) hX 2 dX11_times_90 rfl rfl rfl ?_
            refine g_lmul (nx := 92) hX dX11_times_91 rfl ?_
            exact g_lreturn hX hP dX11_times_92 (Nat.le_of_ble_eq_true rfl) (Nat.le_of_ble_eq_true rfl) ⟨by unfold e_pr; rw [if_neg h00, if_neg ht], rfl⟩
          · have ht : 1000000000000 < a.toInt.natAbs * b.toInt.natAbs := Classical.byContradiction (fun q => h51 ((lg_cmp_le _ _).mpr (by have := (e_test hb ha ha0).mpr (by rw [hcm]; exact q); rw [ea, eb] at this; exact this)))
            refine g_lload_n (nx := 55) hX 0 dX11_times_54 rfl rfl rfl ?_
            refine g_lconst (nx := 56) hX 0 dX11_times_55 rfl (by decide) ?_
            refine g_lcmp (nx := 57) hX dX11_times_56 rfl ?_
            refine g_if_ge (nx := 60) hX 64 dX11_times_57 (by decide) rfl (fun h57 => ?_) (fun h57 => ?_)
            · refine g_iconst (nx := 65) hX 0 dX11_times_64 rfl (by decide) ?_
              refine g_lload_n (nx := 66) hX 2 dX11_times_65 rfl rfl rfl ?_
              refine g_lconst (nx := 67) hX 0 dX11_times_66 rfl (by decide) ?_
              refine g_lcmp (nx := 68) hX dX11_times_67 rfl ?_
              refine g_if_ge (nx := 71) hX 75 dX11_times_68 (by decide) rfl (fun h68 => ?_) (fun h68 => ?_)
              · refine g_iconst (nx := 76) hX 0 dX11_times_75 rfl (by decide) ?_
                refine g_icmp_ne (nx := 79) hX 85 dX11_times_76 (by decide) rfl (fun h76 => ?_) (fun h76 => ?_)
                · refine g_ldc2_w (nx := 88) hX (-1000000000000) dX11_times_85 rfl kX11_305 ?_
                  exact g_lreturn hX hP dX11_times_88 (Nat.le_of_ble_eq_true rfl) (Nat.le_of_ble_eq_true rfl) (absurd ((lg_cmp_ge a 0).mp h57) (l_ltn ga))
                · refine g_ldc2_w (nx := 82) hX 1000000000000 dX11_times_79 rfl kX11_303 ?_
                  refine g_goto (nx := 88) hX dX11_times_82 (by decide) ?_
                  exact g_lreturn hX hP dX11_times_88 (Nat.le_of_ble_eq_true rfl) (Nat.le_of_ble_eq_true rfl) (absurd ((lg_cmp_ge a 0).mp h57) (l_ltn ga))
              · refine g_iconst (nx := 72) hX 1 dX11_times_71 rfl (by decide) ?_
                refine g_goto (nx := 76) hX dX11_times_72 (by decide) ?_
                refine g_icmp_ne (nx := 79) hX 85 dX11_times_76 (by decide) rfl (fun h76 => ?_) (fun h76 => ?_)
                · refine g_ldc2_w (nx := 88) hX (-1000000000000) dX11_times_85 rfl kX11_305 ?_
                  exact g_lreturn hX hP dX11_times_88 (Nat.le_of_ble_eq_true rfl) (Nat.le_of_ble_eq_true rfl) (absurd ((lg_cmp_ge a 0).mp h57) (l_ltn ga))
                · refine g_ldc2_w (nx := 82) hX 1000000000000 dX11_times_79 rfl kX11_303 ?_
                  refine g_goto (nx := 88) hX dX11_times_82 (by decide) ?_
                  exact g_lreturn hX hP dX11_times_88 (Nat.le_of_ble_eq_true rfl) (Nat.le_of_ble_eq_true rfl) (absurd ((lg_cmp_ge a 0).mp h57) (l_ltn ga))
            · refine g_iconst (nx := 61) hX 1 dX11_times_60 rfl (by decide) ?_
              refine g_goto (nx := 65) hX dX11_times_61 (by decide) ?_
              refine g_lload_n (nx := 66) hX 2 dX11_times_65 rfl rfl rfl ?_
              refine g_lconst (nx := 67) hX 0 dX11_times_66 rfl (by decide) ?_
              refine g_lcmp (nx := 68) hX dX11_times_67 rfl ?_
              refine g_if_ge (nx := 71) hX 75 dX11_times_68 (by decide) rfl (fun h68 => ?_) (fun h68 => ?_)
              · refine g_iconst (nx := 76) hX 0 dX11_times_75 rfl (by decide) ?_
                refine g_icmp_ne (nx := 79) hX 85 dX11_times_76 (by decide) rfl (fun h76 => ?_) (fun h76 => ?_)
                · refine g_ldc2_w (nx := 88) hX (-1000000000000) dX11_times_85 rfl kX11_305 ?_
                  exact g_lreturn hX hP dX11_times_88 (Nat.le_of_ble_eq_true rfl) (Nat.le_of_ble_eq_true rfl) (absurd ((lg_cmp_ge b 0).mp h68) (l_ltn gb))
                · refine g_ldc2_w (nx := 82) hX 1000000000000 dX11_times_79 rfl kX11_303 ?_
                  refine g_goto (nx := 88) hX dX11_times_82 (by decide) ?_
                  exact g_lreturn hX hP dX11_times_88 (Nat.le_of_ble_eq_true rfl) (Nat.le_of_ble_eq_true rfl) (absurd ((lg_cmp_ge b 0).mp h68) (l_ltn gb))
              · refine g_iconst (nx := 72) hX 1 dX11_times_71 rfl (by decide) ?_
                refine g_goto (nx := 76) hX dX11_times_72 (by decide) ?_
                refine g_icmp_ne (nx := 79) hX 85 dX11_times_76 (by decide) rfl (fun h76 => ?_) (fun h76 => ?_)
                · refine g_ldc2_w (nx := 88) hX (-1000000000000) dX11_times_85 rfl kX11_305 ?_
                  exact g_lreturn hX hP dX11_times_88 (Nat.le_of_ble_eq_true rfl) (Nat.le_of_ble_eq_true rfl) (absurd rfl h76)
                · refine g_ldc2_w (nx := 82) hX 1000000000000 dX11_times_79 rfl kX11_303 ?_
                  refine g_goto (nx := 88) hX dX11_times_82 (by decide) ?_
                  exact g_lreturn hX hP dX11_times_88 (Nat.le_of_ble_eq_true rfl) (Nat.le_of_ble_eq_true rfl) ⟨by unfold e_pr; rw [if_neg h00, if_pos ht, if_pos ⟨fun _ => gb, fun _ => ga⟩]; rfl, rfl⟩
    · refine g_lconst (nx := 13) hX 0 dX11_times_12 rfl (by decide) ?_
      exact g_lreturn hX hP dX11_times_13 (Nat.le_of_ble_eq_true rfl) (Nat.le_of_ble_eq_true rfl) ⟨by unfold e_pr; rw [if_pos (Or.inr ((lg_cmp_eq b 0).mp h9))], rfl⟩
end
