/-! ===== apply, compare, countOf of the class ===== -/
abbrev s_of (s : sh_S) : Int32 := s.2.2.2.2.2.2.1
abbrev s_tt (s : sh_S) : Int64 := s.2.2.2.2.2.2.2.1
abbrev s_v (s : sh_S) : Nat → Int64 := s.2.2.2.2.2.2.2.2
def p_ord (a b : Int64) : Int32 := if a = b then 0 else if a < b then -1 else 1
def p_cm (fo : Nat → Int32) (V W : Nat → Int64) (o : Int32) : Nat → Int32
  | 0 => o
  | k + 1 => if p_cm fo V W o k = 0 then (if fo k = 2 then p_ord (V k) (W k) else 0) else p_cm fo V W o k
theorem p_cm_stay {fo : Nat → Int32} {V W : Nat → Int64} {o : Int32} {k : Nat} (h : ¬ p_cm fo V W o k = 0) : ∀ j, k ≤ j → p_cm fo V W o j = p_cm fo V W o k
  | 0, hj => by rw [show k = 0 by omega]
  | j + 1, hj => by
    by_cases e : k = j + 1
    · rw [e]
    · have ih := p_cm_stay h j (by omega)
      rw [p_cm, ih, if_neg h]
def s_cp (fo : Nat → Int32) (sm : Nat) (s t : sh_S) : Int32 := p_cm fo (fun k => s_v s (15 + k)) (fun k => s_v t (15 + k)) (p_ord (s_tt s) (s_tt t)) sm
/-- what is said of a slot -/
def s_tot (v : Nat → Int64) (tot : Int32) : Int64 := if 0 ≤ tot ∧ tot ≤ 38 then v tot.toNatClampNeg else 0
def s_cn (s : sh_S) (w : Int32) : Int32 := if 0 ≤ w ∧ w ≤ 14 then (s_v s w.toNatClampNeg).toInt32 else if w = 15 then s.2.2.2.1 else if w = 16 then s.2.2.2.2.1 else if w = 17 then s.2.2.2.2.2.1 else -2000000
theorem sw_3 (x : Int32) : (x.toInt < 15 ∨ 17 < x.toInt) ∨ x = 15 ∨ x = 16 ∨ x = 17 := by
  by_cases h : x.toInt < 15
  · exact Or.inl (Or.inl h)
  · by_cases h2 : 17 < x.toInt
    · exact Or.inl (Or.inr h2)
    · right
      have h3 : x.toInt = 15 ∨ x.toInt = 16 ∨ x.toInt = 17 := by omega
      rcases h3 with e | e | e
      · exact Or.inl (Int32.toInt_inj.mp (e.trans (by decide)))
      · exact Or.inr (Or.inl (Int32.toInt_inj.mp (e.trans (by decide))))
      · exact Or.inr (Or.inr (Int32.toInt_inj.mp (e.trans (by decide))))
section
variable {E : ga_E} {X : ga_X} {n : Nat} {c0 c1 c2 c3 c4 c5 c6 c7 c8 c9 c10 c11 c12 c13 c14 c15 c16 c17 c18 c19 c20 c21 c22 c23 c24 c25 c26 c27 c28 c29 c30 m79 m80 m81 m82 m83 m84 m85 m86 m87 m88 m89 m90 m91 m92 m93 m94 m95 m96 m97 m98 m99 m100 m101 m102 m103 m104 m105 : ga_C} {L1 L2 : List ga_C} {f : Nat → ga_C} {o_tp o_rd o_fe o_em o_sp o_ac o_td o_sm o_tt o_at o_sz o_fk o_fp o_nw o_md o_nt o_pl o_op d_at d_tk d_ta d_fd d_fa : Int32} {d_tv : Int64} {d_rl : Value}
variable {size tot : Int32} {s : Nat → Int64} {sv : Nat → sh_S} {g : Nat → ga_C} {r q : Nat} {cd : Nat → Nat × Nat} {en : Nat → Nat} {fo st_ od eo : Nat → Int32} {sm : Nat} {a b : Int64} {M : ga_M}
theorem c_X6_orderOf : ga_Mx E 0 yX6_orderOf cX6_orderOf 4 (some .int) 0 0 [.long a, .long b] M (some (.int (p_ord a b))) M := by
  refine ga_Mt.of (by decide) rfl (fun X hX hP => ?_)
  refine g_less [some (.long a), none, some (.long b), none] ⟨rfl, rfl, trivial⟩ ?_
  refine g_lload_n (nx := 1) hX 0 dX6_orderOf_0 rfl rfl rfl ?_
  refine g_lload_n (nx := 2) hX 2 dX6_orderOf_1 rfl rfl rfl ?_
  refine g_lcmp (nx := 3) hX dX6_orderOf_2 rfl ?_
  refine g_if_ne (nx := 6) hX 8 dX6_orderOf_3 (by decide) rfl (fun h3 => ?_) (fun h3 => ?_)
  · have hne : ¬ a = b := fun z => h3 ((lg_cmp_eq a b).mpr z)
    refine g_lload_n (nx := 9) hX 0 dX6_orderOf_8 rfl rfl rfl ?_
    refine g_lload_n (nx := 10) hX 2 dX6_orderOf_9 rfl rfl rfl ?_
    refine g_lcmp (nx := 11) hX dX6_orderOf_10 rfl ?_
    refine g_if_ge (nx := 14) hX 18 dX6_orderOf_11 (by decide) rfl (fun h11 => ?_) (fun h11 => ?_)
    · refine g_iconst (nx := 19) hX 1 dX6_orderOf_18 rfl (by decide) ?_
      exact g_ireturn hX hP dX6_orderOf_19 rfl (Nat.le_of_ble_eq_true rfl) (Nat.le_of_ble_eq_true rfl) ⟨by unfold p_ord; rw [if_neg hne, if_neg (l_len ((lg_cmp_ge a b).mp h11))], rfl⟩
    · refine g_iconst (nx := 15) hX (-1) dX6_orderOf_14 rfl (by decide) ?_
      refine g_goto (nx := 19) hX dX6_orderOf_15 (by decide) ?_
      exact g_ireturn hX hP dX6_orderOf_19 rfl (Nat.le_of_ble_eq_true rfl) (Nat.le_of_ble_eq_true rfl) ⟨by unfold p_ord; rw [if_neg hne, if_pos (l_nle (fun z => h11 ((lg_cmp_ge a b).mpr z)))], rfl⟩
  · refine g_iconst (nx := 7) hX 0 dX6_orderOf_6 rfl (by decide) ?_
    exact g_ireturn hX hP dX6_orderOf_7 rfl (Nat.le_of_ble_eq_true rfl) (Nat.le_of_ble_eq_true rfl) ⟨by unfold p_ord; rw [if_pos ((lg_cmp_eq a b).mp h3)], rfl⟩
theorem cp_loop {d mc ms : Nat} {top : Int32} {o : Int32} (hX : ga_B E d yX6_compare cX6_compare 5 mc ms X) (hd1 : 1 ≤ d) (hn : 106 ≤ n) (hr : r < 24) (hq : q < 24) (hs : sm ≤ 24)
    (kont : ga_G E X 0 0 69 [some (.ref 15), some (.ref (2 * r + 31)), some (.ref (2 * q + 31)), some (.int (p_cm fo (fun k => s_v (sv r) (15 + k)) (fun k => s_v (sv q) (15 + k)) o sm)), none] [] (n, (c0 :: c1 :: c2 :: c3 :: c4 :: c5 :: c6 :: c7 :: c8 :: c9 :: c10 :: c11 :: c12 :: c13 :: c14 :: k_U 15 top size tot (nI sm) :: c16 :: c17 :: c18 :: ga_i 24 fo :: L1), L2, sh_f sv g)) :
    ∀ (m k : Nat), k ≤ sm → sm - k ≤ m → ga_G E X 0 0 15 [some (.ref 15), some (.ref (2 * r + 31)), some (.ref (2 * q + 31)), some (.int (p_cm fo (fun k => s_v (sv r) (15 + k)) (fun k => s_v (sv q) (15 + k)) o k)), some (.int (nI k))] [] (n, (c0 :: c1 :: c2 :: c3 :: c4 :: c5 :: c6 :: c7 :: c8 :: c9 :: c10 :: c11 :: c12 :: c13 :: c14 :: k_U 15 top size tot (nI sm) :: c16 :: c17 :: c18 :: ga_i 24 fo :: L1), L2, sh_f sv g) := by
  intro m
  induction m with
  | zero =>
    intro k h1 h2
    have e : k = sm := by omega
    subst e
    refine g_iload (nx := 17) hX 4 dX6_compare_15 rfl rfl ?_
    refine g_aload_n (nx := 18) hX 0 dX6_compare_17 rfl rfl rfl ?_
    refine g_getfield (nx := 21) hX dX6_compare_18 rfl fX6_37 (ga_dn hn rfl) rfl rfl ?_
    refine g_icmp_ge (nx := 24) hX 69 dX6_compare_21 (by decide) rfl (fun h21 => ?_) (fun h21 => ?_)
    · exact g_ls kont ⟨rfl, rfl, rfl, rfl, trivial⟩
    · exact absurd (nI_le (Nat.le_refl k) (by omega)) h21
  | succ m ih =>
    intro k h1 h2
    refine g_iload (nx := 17) hX 4 dX6_compare_15 rfl rfl ?_
    refine g_aload_n (nx := 18) hX 0 dX6_compare_17 rfl rfl rfl ?_
    refine g_getfield (nx := 21) hX dX6_compare_18 rfl fX6_37 (ga_dn hn rfl) rfl rfl ?_
    refine g_icmp_ge (nx := 24) hX 69 dX6_compare_21 (by decide) rfl (fun h21 => ?_) (fun h21 => ?_)
    · have e : k = sm := by have := (nI_leI (a := sm) (b := k) (by omega) (by omega)).mp h21; omega
      subst e
      exact g_ls kont ⟨rfl, rfl, rfl, rfl, trivial⟩
    · have hlt : k < sm := Nat.lt_of_not_le (fun z => h21 (nI_le z (by omega)))
      refine g_iload_n (nx := 25) hX 3 dX6_compare_24 rfl rfl rfl ?_
      refine g_if_ne (nx := 28) hX 69 dX6_compare_25 (by decide) rfl (fun h25 => ?_) (fun h25 => ?_)
      · have e := p_cm_stay h25 sm (by omega)
        rw [e] at kont
        exact g_ls kont ⟨rfl, rfl, rfl, rfl, trivial⟩
      · have ih1 := ih (k + 1) (by omega) (by omega)
        rw [p_cm, if_pos h25] at ih1
        rw [h25]
        refine g_aload_n (nx := 29) hX 0 dX6_compare_28 rfl rfl rfl ?_
        refine g_getfield (nx := 32) hX dX6_compare_29 rfl fX6_23 (ga_dn hn rfl) rfl rfl ?_
        refine g_iload (nx := 34) hX 4 dX6_compare_32 rfl rfl ?_
        refine g_iaload (nx := 35) hX dX6_compare_34 rfl (ga_dn hn rfl) rfl (ga_ix_of rfl (by omega) (by omega)) ?_
        refine g_iconst (nx := 36) hX 2 dX6_compare_35 rfl (by decide) ?_
        refine g_icmp_ne (nx := 39) hX 63 dX6_compare_36 (by decide) rfl (fun h36 => ?_) (fun h36 => ?_)
        · rw [if_neg h36] at ih1
          refine g_iinc (nx := 66) hX 4 (nI (k + 1)) dX6_compare_63 rfl rfl rfl (nI_1 k) ?_
          refine g_goto (nx := 15) hX dX6_compare_66 (by decide) ?_
          exact ih1
        · rw [if_pos h36] at ih1
          refine g_aload_n (nx := 40) hX 1 dX6_compare_39 rfl rfl rfl ?_
          refine g_getfield (nx := 43) hX dX6_compare_40 rfl fX6_50 (dm_o hn hr) (get_so hr) rfl ?_
          refine g_bipush (nx := 45) hX 15 dX6_compare_43 rfl (by decide) ?_
          refine g_iload (nx := 47) hX 4 dX6_compare_45 rfl rfl ?_
          refine g_iadd (nx := 48) hX dX6_compare_47 rfl ?_
          refine g_laload (nx := 49) hX dX6_compare_48 rfl (dm_v hn hr) (get_sv hr) (ga_ix_of (j := 15 + k) (nI_add 15 k) (by omega) (by omega)) ?_
          refine g_aload_n (nx := 50) hX 2 dX6_compare_49 rfl rfl rfl ?_
          refine g_getfield (nx := 53) hX dX6_compare_50 rfl fX6_50 (dm_o hn hq) (get_so hq) rfl ?_
          refine g_bipush (nx := 55) hX 15 dX6_compare_53 rfl (by decide) ?_
          refine g_iload (nx := 57) hX 4 dX6_compare_55 rfl rfl ?_
          refine g_iadd (nx := 58) hX dX6_compare_57 rfl ?_
          refine g_laload (nx := 59) hX dX6_compare_58 rfl (dm_v hn hq) (get_sv hq) (ga_ix_of (j := 15 + k) (nI_add 15 k) (by omega) (by omega)) ?_
          refine g_S2 (nx := 62) hX dX6_compare_59 rfl mX6_61 yX6_orderOf_ok (c_X6_orderOf) (by omega) rfl (Nat.le_of_ble_eq_true rfl) (Nat.le_of_ble_eq_true rfl) ?_
          rintro _ _ ⟨rfl, rfl⟩
          refine g_istore_n (nx := 63) hX 3 dX6_compare_62 rfl rfl rfl ?_
          refine g_iinc (nx := 66) hX 4 (nI (k + 1)) dX6_compare_63 rfl rfl rfl (nI_1 k) ?_
          refine g_goto (nx := 15) hX dX6_compare_66 (by decide) ?_
          exact ih1
theorem c_X6_compare {top : Int32} (hn : 106 ≤ n) (hr : r < 24) (hq : q < 24) (hs : sm ≤ 24) : ga_Mx E 1 yX6_compare cX6_compare 5 (some .int) 0 0 [.ref 15, .ref (2 * r + 31), .ref (2 * q + 31)] (n, (c0 :: c1 :: c2 :: c3 :: c4 :: c5 :: c6 :: c7 :: c8 :: c9 :: c10 :: c11 :: c12 :: c13 :: c14 :: k_U 15 top size tot (nI sm) :: c16 :: c17 :: c18 :: ga_i 24 fo :: L1), L2, sh_f sv g) (some (.int (s_cp fo sm (sv r) (sv q)))) (n, (c0 :: c1 :: c2 :: c3 :: c4 :: c5 :: c6 :: c7 :: c8 :: c9 :: c10 :: c11 :: c12 :: c13 :: c14 :: k_U 15 top size tot (nI sm) :: c16 :: c17 :: c18 :: ga_i 24 fo :: L1), L2, sh_f sv g) := by
  refine ga_Mt.of (by decide) rfl (fun X hX hP => ?_)
  refine g_less [some (.ref 15), some (.ref (2 * r + 31)), some (.ref (2 * q + 31)), none, none] ⟨rfl, rfl, rfl, trivial⟩ ?_
  have tail : ga_G E X 0 0 69 [some (.ref 15), some (.ref (2 * r + 31)), some (.ref (2 * q + 31)), some (.int (p_cm fo (fun k => s_v (sv r) (15 + k)) (fun k => s_v (sv q) (15 + k)) (p_ord (s_tt (sv r)) (s_tt (sv q))) sm)), none] [] (n, (c0 :: c1 :: c2 :: c3 :: c4 :: c5 :: c6 :: c7 :: c8 :: c9 :: c10 :: c11 :: c12 :: c13 :: c14 :: k_U 15 top size tot (nI sm) :: c16 :: c17 :: c18 :: ga_i 24 fo :: L1), L2, sh_f sv g) := by
    refine g_iload_n (nx := 70) hX 3 dX6_compare_69 rfl rfl rfl ?_
    exact g_ireturn hX hP dX6_compare_70 rfl (Nat.le_of_ble_eq_true rfl) (Nat.le_of_ble_eq_true rfl) ⟨rfl, rfl⟩
  refine g_aload_n (nx := 1) hX 1 dX6_compare_0 rfl rfl rfl ?_
  refine g_getfield (nx := 4) hX dX6_compare_1 rfl fX6_57 (dm_o hn hr) (get_so hr) rfl ?_
  refine g_aload_n (nx := 5) hX 2 dX6_compare_4 rfl rfl rfl ?_
  refine g_getfield (nx := 8) hX dX6_compare_5 rfl fX6_57 (dm_o hn hq) (get_so hq) rfl ?_
  refine g_S2 (nx := 11) hX dX6_compare_8 rfl mX6_61 yX6_orderOf_ok (c_X6_orderOf) (by decide) rfl (Nat.le_of_ble_eq_true rfl) (Nat.le_of_ble_eq_true rfl) ?_
  rintro _ _ ⟨rfl, rfl⟩
  refine g_istore_n (nx := 12) hX 3 dX6_compare_11 rfl rfl rfl ?_
  refine g_iconst (nx := 13) hX 0 dX6_compare_12 rfl (by decide) ?_
  refine g_istore (nx := 15) hX 4 dX6_compare_13 rfl rfl ?_
  exact cp_loop hX (by decide) hn hr hq hs tail sm 0 (by omega) (by omega)
theorem c_X7_countOf {w : Int32} (hn : 106 ≤ n) (hr : r < 24) : ga_Mx E 1 yX7_countOf cX7_countOf 2 (some .int) 0 0 [.ref (2 * r + 31), .int w] (n, L1, L2, sh_f sv g) (some (.int (s_cn (sv r) w))) (n, L1, L2, sh_f sv g) := by
  refine ga_Mt.of (by decide) rfl (fun X hX hP => ?_)
  refine g_less [some (.ref (2 * r + 31)), some (.int w)] ⟨rfl, rfl, trivial⟩ ?_
  refine g_iload_n (nx := 1) hX 1 dX7_countOf_0 rfl rfl rfl ?_
  refine g_iconst (nx := 2) hX 0 dX7_countOf_1 rfl (by decide) ?_
  refine g_bipush (nx := 4) hX 14 dX7_countOf_2 rfl (by decide) ?_
  refine g_SN3 (nx := 7) hX dX7_countOf_4 rfl nX7_38 yX10_isWithin_ok (c_X10_isWithin) (by decide) rfl (Nat.le_of_ble_eq_true rfl) (Nat.le_of_ble_eq_true rfl) ?_
  rintro _ _ ⟨rfl, rfl⟩
  refine g_if_eq (nx := 10) hX 18 dX7_countOf_7 (by decide) rfl (fun h7 => ?_) (fun h7 => ?_)
  · have hb := ga_b_0 h7
    refine g_iload_n (nx := 19) hX 1 dX7_countOf_18 rfl rfl rfl ?_
    rcases sw_3 w with hsw | rfl | rfl | rfl
    · refine g_tableOut hX 59 dX7_countOf_19 hsw (by decide) ?_
      refine g_ldc (nx := 61) hX (-2000000) dX7_countOf_59 rfl kX7_42 ?_
      exact g_ireturn hX hP dX7_countOf_61 rfl (Nat.le_of_ble_eq_true rfl) (Nat.le_of_ble_eq_true rfl) ⟨by unfold s_cn; rw [if_neg hb, if_neg (fun z => by rw [z] at hsw; revert hsw; decide), if_neg (fun z => by rw [z] at hsw; revert hsw; decide), if_neg (fun z => by rw [z] at hsw; revert hsw; decide)], rfl⟩
    · refine g_tableIn hX 44 dX7_countOf_19 (by decide) (by decide) rfl (by decide) ?_
      refine g_aload_n (nx := 45) hX 0 dX7_countOf_44 rfl rfl rfl ?_
      refine g_getfield (nx := 48) hX dX7_countOf_45 rfl fX7_28 (dm_o hn hr) (get_so hr) rfl ?_
      exact g_ireturn hX hP dX7_countOf_48 rfl (Nat.le_of_ble_eq_true rfl) (Nat.le_of_ble_eq_true rfl) ⟨by unfold s_cn; rw [if_neg hb, if_pos rfl], rfl⟩
    · refine g_tableIn hX 49 dX7_countOf_19 (by decide) (by decide) rfl (by decide) ?_
      refine g_aload_n (nx := 50) hX 0 dX7_countOf_49 rfl rfl rfl ?_
      refine g_getfield (nx := 53) hX dX7_countOf_50 rfl fX7_32 (dm_o hn hr) (get_so hr) rfl ?_
      exact g_ireturn hX hP dX7_countOf_53 rfl (Nat.le_of_ble_eq_true rfl) (Nat.le_of_ble_eq_true rfl) ⟨by unfold s_cn; rw [if_neg hb, if_neg (by decide), if_pos rfl], rfl⟩
    · refine g_tableIn hX 54 dX7_countOf_19 (by decide) (by decide) rfl (by decide) ?_
      refine g_aload_n (nx := 55) hX 0 dX7_countOf_54 rfl rfl rfl ?_
      refine g_getfield (nx := 58) hX dX7_countOf_55 rfl fX7_35 (dm_o hn hr) (get_so hr) rfl ?_
      exact g_ireturn hX hP dX7_countOf_58 rfl (Nat.le_of_ble_eq_true rfl) (Nat.le_of_ble_eq_true rfl) ⟨by unfold s_cn; rw [if_neg hb, if_neg (by decide), if_neg (by decide), if_pos rfl], rfl⟩
  · have hb := ga_b_n0 h7
    refine g_aload_n (nx := 11) hX 0 dX7_countOf_10 rfl rfl rfl ?_
    refine g_getfield (nx := 14) hX dX7_countOf_11 rfl fX7_13 (dm_o hn hr) (get_so hr) rfl ?_
    refine g_iload_n (nx := 15) hX 1 dX7_countOf_14 rfl rfl rfl ?_
    refine g_laload (nx := 16) hX dX7_countOf_15 rfl (dm_v hn hr) (get_sv hr) (ix_le (k := 14) hb.1 hb.2 (by omega) (by omega)) ?_
    refine g_l2i (nx := 17) hX dX7_countOf_16 rfl ?_
    exact g_ireturn hX hP dX7_countOf_17 rfl (Nat.le_of_ble_eq_true rfl) (Nat.le_of_ble_eq_true rfl) ⟨by unfold s_cn; rw [if_pos hb], rfl⟩
/-- the ends of the statements, as the array has them -/
def e_eo (en : Nat → Nat) (eo : Nat → Int32) : Prop := ∀ j, j < 24 → eo j = nI (en j)
theorem ap_loop {d mc ms : Nat} {a1 a2 a3 a4 a5 a6 : Int32} {u : Int64} {v0 : Nat → Int64} (hX : ga_B E d yX6_apply cX6_apply 6 mc ms X) (hd1 : 5 ≤ d) (hn : 106 ≤ n) (hr : r < 24) (hcd : e_cd cd st_ od) (heo : e_eo en eo) (hR : e_Rok cd en sm) (hv : ∀ j, j < 39 → e_bd (v0 j))
    (kont : ∀ top s, ga_G E X 0 0 77 [some (.ref 15), some (.ref (2 * r + 31)), none, none, none, none] [] (n, (c0 :: c1 :: c2 :: c3 :: c4 :: c5 :: c6 :: c7 :: c8 :: c9 :: c10 :: c11 :: c12 :: c13 :: c14 :: k_U 15 top size tot (nI sm) :: ga_i 600 st_ :: ga_i 600 od :: ga_i 24 eo :: ga_i 24 fo :: ga_l 32 s :: L1), L2, sh_f (va_up sv r (a1, a2, a3, a4, a5, a6, e_of cd en fo v0 sm, u, e_vs cd en v0 sm)) g)) :
    ∀ (m k : Nat) (top : Int32) (s : Nat → Int64), k ≤ sm → sm - k ≤ m → ga_G E X 0 0 9 [some (.ref 15), some (.ref (2 * r + 31)), some (.int (nI (e_fr en k))), some (.int (nI k)), none, none] [] (n, (c0 :: c1 :: c2 :: c3 :: c4 :: c5 :: c6 :: c7 :: c8 :: c9 :: c10 :: c11 :: c12 :: c13 :: c14 :: k_U 15 top size tot (nI sm) :: ga_i 600 st_ :: ga_i 600 od :: ga_i 24 eo :: ga_i 24 fo :: ga_l 32 s :: L1), L2, sh_f (va_up sv r (a1, a2, a3, a4, a5, a6, e_of cd en fo v0 k, u, e_vs cd en v0 k)) g) := by
  have hs24 := hR.1
  intro m
  induction m with
  | zero =>
    intro k top s h1 h2
    have e : k = sm := by omega
    subst e
    refine g_iload_n (nx := 10) hX 3 dX6_apply_9 rfl rfl rfl ?_
    refine g_aload_n (nx := 11) hX 0 dX6_apply_10 rfl rfl rfl ?_
    refine g_getfield (nx := 14) hX dX6_apply_11 rfl fX6_37 (ga_dn hn rfl) rfl rfl ?_
    refine g_icmp_ge (nx := 17) hX 77 dX6_apply_14 (by decide) rfl (fun h14 => ?_) (fun h14 => ?_)
    · exact g_ls (kont top s) ⟨rfl, rfl, trivial⟩
    · exact absurd (nI_le (Nat.le_refl k) (by omega)) h14
  | succ m ih =>
    intro k top s h1 h2
    refine g_iload_n (nx := 10) hX 3 dX6_apply_9 rfl rfl rfl ?_
    refine g_aload_n (nx := 11) hX 0 dX6_apply_10 rfl rfl rfl ?_
    refine g_getfield (nx := 14) hX dX6_apply_11 rfl fX6_37 (ga_dn hn rfl) rfl rfl ?_
    refine g_icmp_ge (nx := 17) hX 77 dX6_apply_14 (by decide) rfl (fun h14 => ?_) (fun h14 => ?_)
    · have e : k = sm := by have := (nI_leI (a := sm) (b := k) (by omega) (by omega)).mp h14; omega
      subst e
      exact g_ls (kont top s) ⟨rfl, rfl, trivial⟩
    · have hlt : k < sm := Nat.lt_of_not_le (fun z => h14 (nI_le z (by omega)))
      have ho := hR.2 k hlt
      have ek : eo k = nI (e_fr en k + (en k - e_fr en k)) := by rw [heo k (by omega), show e_fr en k + (en k - e_fr en k) = en k by omega]
      have ek2 : eo k = nI (e_fr en (k + 1)) := heo k (by omega)
      have ih1 := fun top s => ih (k + 1) top s (by omega) (by omega)
      rw [e_of, e_vs] at ih1
      refine g_aload_n (nx := 18) hX 0 dX6_apply_17 rfl rfl rfl ?_
      refine g_iload_n (nx := 19) hX 2 dX6_apply_18 rfl rfl rfl ?_
      refine g_aload_n (nx := 20) hX 0 dX6_apply_19 rfl rfl rfl ?_
      refine g_getfield (nx := 23) hX dX6_apply_20 rfl fX6_20 (ga_dn hn rfl) rfl rfl ?_
      refine g_iload_n (nx := 24) hX 3 dX6_apply_23 rfl rfl rfl ?_
      refine g_iaload (nx := 25) hX dX6_apply_24 rfl (ga_dn hn rfl) rfl (ga_ix_of (j := k) rfl (by omega) (by omega)) ?_
      refine g_aload_n (nx := 26) hX 1 dX6_apply_25 rfl rfl rfl ?_
      rw [ek]
      refine g_V3 (nx := 29) hX dX6_apply_26 rfl mX6_46 yX6_run_ok (c_X6_run (len := en k - e_fr en k) hn hr hcd (by omega) ho.2.2.1 (by rw [up_s]) (e_vs_bd hR hv k (by omega))) (ga_dn hn rfl) rfl rfl rfl (by omega) rfl (Nat.le_of_ble_eq_true rfl) (Nat.le_of_ble_eq_true rfl) ?_
      rintro _ _ ⟨rfl, rfl⟩
      refine g_lstore (nx := 31) hX 4 dX6_apply_29 rfl rfl ?_
      refine g_aload_n (nx := 32) hX 1 dX6_apply_31 rfl rfl rfl ?_
      refine g_getfield (nx := 35) hX dX6_apply_32 rfl fX6_50 (dm_o hn hr) (get_soE hr) rfl ?_
      refine g_bipush (nx := 37) hX 15 dX6_apply_35 rfl (by decide) ?_
      refine g_iload_n (nx := 38) hX 3 dX6_apply_37 rfl rfl rfl ?_
      refine g_iadd (nx := 39) hX dX6_apply_38 rfl ?_
      refine g_lload (nx := 41) hX 4 dX6_apply_39 rfl rfl ?_
      refine g_lastore (nx := 42) hX dX6_apply_41 rfl (dm_v hn hr) (get_svE hr) (ga_ix_of (j := 15 + k) (nI_add 15 k) (by omega) (by omega)) ?_
      refine g_mem (put_svF hr) ?_
      refine g_aload_n (nx := 43) hX 0 dX6_apply_42 rfl rfl rfl ?_
      refine g_getfield (nx := 46) hX dX6_apply_43 rfl fX6_23 (ga_dn hn rfl) rfl rfl ?_
      refine g_iload_n (nx := 47) hX 3 dX6_apply_46 rfl rfl rfl ?_
      refine g_iaload (nx := 48) hX dX6_apply_47 rfl (ga_dn hn rfl) rfl (ga_ix_of (j := k) rfl (by omega) (by omega)) ?_
      refine g_iconst (nx := 49) hX 1 dX6_apply_48 rfl (by decide) ?_
      refine g_icmp_ne (nx := 52) hX 64 dX6_apply_49 (by decide) rfl (fun h49 => ?_) (fun h49 => ?_)
      · have ih2 := fun top s => (if_neg (fun z : fo k = 1 ∧ _ => h49 z.1) ▸ ih1 top s)
        refine g_aload_n (nx := 65) hX 0 dX6_apply_64 rfl rfl rfl ?_
        refine g_getfield (nx := 68) hX dX6_apply_65 rfl fX6_20 (ga_dn hn rfl) rfl rfl ?_
        refine g_iload_n (nx := 69) hX 3 dX6_apply_68 rfl rfl rfl ?_
        refine g_iaload (nx := 70) hX dX6_apply_69 rfl (ga_dn hn rfl) rfl (ga_ix_of (j := k) rfl (by omega) (by omega)) ?_
        rw [ek2]
        refine g_istore_n (nx := 71) hX 2 dX6_apply_70 rfl rfl rfl ?_
        refine g_iinc (nx := 74) hX 3 (nI (k + 1)) dX6_apply_71 rfl rfl rfl (nI_1 k) ?_
        refine g_goto (nx := 9) hX dX6_apply_74 (by decide) ?_
        exact g_ls (ih2 _ _) ⟨rfl, rfl, rfl, rfl, trivial⟩
      · refine g_lload (nx := 54) hX 4 dX6_apply_52 rfl rfl ?_
        refine g_lconst (nx := 55) hX 1 dX6_apply_54 rfl (by decide) ?_
        refine g_lcmp (nx := 56) hX dX6_apply_55 rfl ?_
        refine g_if_ne (nx := 59) hX 64 dX6_apply_56 (by decide) rfl (fun h56 => ?_) (fun h56 => ?_)
        · have ih2 := fun top s => (if_neg (fun z : fo k = 1 ∧ _ => h56 ((lg_cmp_eq _ _).mpr z.2)) ▸ ih1 top s)
          refine g_aload_n (nx := 65) hX 0 dX6_apply_64 rfl rfl rfl ?_
          refine g_getfield (nx := 68) hX dX6_apply_65 rfl fX6_20 (ga_dn hn rfl) rfl rfl ?_
          refine g_iload_n (nx := 69) hX 3 dX6_apply_68 rfl rfl rfl ?_
          refine g_iaload (nx := 70) hX dX6_apply_69 rfl (ga_dn hn rfl) rfl (ga_ix_of (j := k) rfl (by omega) (by omega)) ?_
          rw [ek2]
          refine g_istore_n (nx := 71) hX 2 dX6_apply_70 rfl rfl rfl ?_
          refine g_iinc (nx := 74) hX 3 (nI (k + 1)) dX6_apply_71 rfl rfl rfl (nI_1 k) ?_
          refine g_goto (nx := 9) hX dX6_apply_74 (by decide) ?_
          exact g_ls (ih2 _ _) ⟨rfl, rfl, rfl, rfl, trivial⟩
        · have ih2 := fun top s => (if_pos (⟨h49, (lg_cmp_eq _ _).mp h56⟩ : fo k = 1 ∧ _) ▸ ih1 top s)
          refine g_aload_n (nx := 60) hX 1 dX6_apply_59 rfl rfl rfl ?_
          refine g_iconst (nx := 61) hX 1 dX6_apply_60 rfl (by decide) ?_
          refine g_putfield (nx := 64) hX dX6_apply_61 rfl pX6_40 (dm_o hn hr) (get_soE hr) rfl rfl rfl ?_
          refine g_mem (put_soF hr) ?_
          refine g_aload_n (nx := 65) hX 0 dX6_apply_64 rfl rfl rfl ?_
          refine g_getfield (nx := 68) hX dX6_apply_65 rfl fX6_20 (ga_dn hn rfl) rfl rfl ?_
          refine g_iload_n (nx := 69) hX 3 dX6_apply_68 rfl rfl rfl ?_
          refine g_iaload (nx := 70) hX dX6_apply_69 rfl (ga_dn hn rfl) rfl (ga_ix_of (j := k) rfl (by omega) (by omega)) ?_
          rw [ek2]
          refine g_istore_n (nx := 71) hX 2 dX6_apply_70 rfl rfl rfl ?_
          refine g_iinc (nx := 74) hX 3 (nI (k + 1)) dX6_apply_71 rfl rfl rfl (nI_1 k) ?_
          refine g_goto (nx := 9) hX dX6_apply_74 (by decide) ?_
          exact g_ls (ih2 _ _) ⟨rfl, rfl, rfl, rfl, trivial⟩
theorem c_X6_apply {a1 a2 a3 a4 a5 a6 a7 : Int32} {u : Int64} {v0 : Nat → Int64} {top0 : Int32} (hn : 106 ≤ n) (hr : r < 24) (hcd : e_cd cd st_ od) (heo : e_eo en eo) (hR : e_Rok cd en sm) (hv : ∀ j, j < 39 → e_bd (v0 j)) : ga_Mt E 5 yX6_apply cX6_apply 6 none 0 0 [.ref 15, .ref (2 * r + 31)] (n, (c0 :: c1 :: c2 :: c3 :: c4 :: c5 :: c6 :: c7 :: c8 :: c9 :: c10 :: c11 :: c12 :: c13 :: c14 :: k_U 15 top0 size tot (nI sm) :: ga_i 600 st_ :: ga_i 600 od :: ga_i 24 eo :: ga_i 24 fo :: ga_l 32 s :: L1), L2, sh_f (va_up sv r (a1, a2, a3, a4, a5, a6, a7, u, v0)) g)
    (fun w M => ∃ top s, w = none ∧ M = (n, (c0 :: c1 :: c2 :: c3 :: c4 :: c5 :: c6 :: c7 :: c8 :: c9 :: c10 :: c11 :: c12 :: c13 :: c14 :: k_U 15 top size tot (nI sm) :: ga_i 600 st_ :: ga_i 600 od :: ga_i 24 eo :: ga_i 24 fo :: ga_l 32 s :: L1), L2, sh_f (va_up sv r (a1, a2, a3, a4, a5, a6, e_of cd en fo v0 sm, s_tot (e_vs cd en v0 sm) tot, e_vs cd en v0 sm)) g)) := by
  refine ga_Mt.of (by decide) rfl (fun X hX hP => ?_)
  refine g_less [some (.ref 15), some (.ref (2 * r + 31)), none, none, none, none] ⟨rfl, rfl, trivial⟩ ?_
  have tail : ∀ top s, ga_G E X 0 0 77 [some (.ref 15), some (.ref (2 * r + 31)), none, none, none, none] [] (n, (c0 :: c1 :: c2 :: c3 :: c4 :: c5 :: c6 :: c7 :: c8 :: c9 :: c10 :: c11 :: c12 :: c13 :: c14 :: k_U 15 top size tot (nI sm) :: ga_i 600 st_ :: ga_i 600 od :: ga_i 24 eo :: ga_i 24 fo :: ga_l 32 s :: L1), L2, sh_f (va_up sv r (a1, a2, a3, a4, a5, a6, e_of cd en fo v0 sm, u, e_vs cd en v0 sm)) g) := by
    intro top s
    have ht : (if 0 ≤ tot ∧ tot ≤ 38 then (va_up sv r (a1, a2, a3, a4, a5, a6, e_of cd en fo v0 sm, u, e_vs cd en v0 sm) r).2.2.2.2.2.2.2.2 tot.toNatClampNeg else 0) = s_tot (e_vs cd en v0 sm) tot := by rw [up_s]; rfl
    refine g_aload_n (nx := 78) hX 1 dX6_apply_77 rfl rfl rfl ?_
    refine g_aload_n (nx := 79) hX 1 dX6_apply_78 rfl rfl rfl ?_
    refine g_aload_n (nx := 80) hX 0 dX6_apply_79 rfl rfl rfl ?_
    refine g_getfield (nx := 83) hX dX6_apply_80 rfl fX6_30 (ga_dn hn rfl) rfl rfl ?_
    refine g_V1 (nx := 86) hX dX6_apply_83 rfl mX6_53 yX7_valueAt_ok (c_X7_valueAt hn hr) (dm_o hn hr) (get_soE hr) rfl rfl (by decide) rfl (Nat.le_of_ble_eq_true rfl) (Nat.le_of_ble_eq_true rfl) ?_
    rintro _ _ ⟨rfl, rfl⟩
    rw [ht]
    refine g_putfield (nx := 89) hX dX6_apply_86 rfl pX6_57 (dm_o hn hr) (get_soE hr) rfl rfl rfl ?_
    refine g_mem (put_soF hr) ?_
    exact g_return hX hP dX6_apply_89 (Nat.le_of_ble_eq_true rfl) (Nat.le_of_ble_eq_true rfl) ⟨top, s, rfl, rfl⟩
  refine g_aload_n (nx := 1) hX 1 dX6_apply_0 rfl rfl rfl ?_
  refine g_iconst (nx := 2) hX 0 dX6_apply_1 rfl (by decide) ?_
  refine g_putfield (nx := 5) hX dX6_apply_2 rfl pX6_40 (dm_o hn hr) (get_soE hr) rfl rfl rfl ?_
  refine g_mem (put_soF hr) ?_
  refine g_iconst (nx := 6) hX 0 dX6_apply_5 rfl (by decide) ?_
  refine g_istore_n (nx := 7) hX 2 dX6_apply_6 rfl rfl rfl ?_
  refine g_iconst (nx := 8) hX 0 dX6_apply_7 rfl (by decide) ?_
  refine g_istore_n (nx := 9) hX 3 dX6_apply_8 rfl rfl rfl ?_
  exact g_ls (ap_loop hX (by decide) hn hr hcd heo hR hv tail sm 0 top0 s (by omega) (by omega)) ⟨rfl, rfl, rfl, rfl, trivial⟩
end
