/-! ===== riders ===== -/
/-- how many of the first riders are of a team -/
def r_c (tm : Nat → Int32) (t : Int32) : Nat → Nat
  | 0 => 0
  | r + 1 => r_c tm t r + if tm r = t then 1 else 0
theorem r_c_le (tm : Nat → Int32) (t : Int32) : ∀ r, r_c tm t r ≤ r
  | 0 => Nat.le_refl 0
  | r + 1 => by have := r_c_le tm t r; unfold r_c; split <;> omega
def r_so (sz : Nat → Int32) (t : Int32) : Int32 := if 0 ≤ t ∧ t ≤ 5 then sz t.toNatClampNeg else 0
def r_sz (sz : Nat → Int32) (t : Int32) : Nat → Int32 := if t = -1 then sz else upd sz t.toNatClampNeg (sz t.toNatClampNeg + 1)
/-- the sizes of the teams are counts -/
def r_ok (tm sz : Nat → Int32) (rn : Nat) : Prop := rn ≤ 24 ∧ ∀ j, j < 6 → sz j = nI (r_c tm (nI j) rn) ∧ r_c tm (nI j) rn ≤ 4
/-- may a rider of this team come -/
def r_may (tm : Nat → Int32) (rn : Nat) (t : Int32) : Prop := rn < 24 ∧ (-1 ≤ t ∧ t ≤ 5) ∧ (t = -1 ∨ r_c tm t rn ≠ 4)
theorem r_neg {t : Int32} (h : -1 ≤ t) (h2 : ¬ 0 ≤ t) : t = -1 := by
  rw [Int32.le_iff_toInt_le] at h h2
  apply Int32.toInt_inj.mp
  have e1 : (-1 : Int32).toInt = -1 := by decide
  have e2 : (0 : Int32).toInt = 0 := by decide
  rw [e1] at h ⊢
  rw [e2] at h2
  omega
theorem r_so_lt {tm sz : Nat → Int32} {rn : Nat} {t : Int32} (h : r_ok tm sz rn) (ht : -1 ≤ t ∧ t ≤ 5) : r_so sz t < 4 ↔ (t = -1 ∨ r_c tm t rn ≠ 4) := by
  by_cases h0 : 0 ≤ t
  · obtain ⟨j, hj, e, e2⟩ := v_ofle (k := 5) h0 ht.2 (by omega)
    unfold r_so
    rw [if_pos ⟨h0, ht.2⟩, e2, (h.2 j (by omega)).1, ← e]
    have h4 := (h.2 j (by omega)).2
    rw [← e] at h4
    rw [show (4 : Int32) = nI 4 from rfl, nI_ltI (by omega) (by omega)]
    constructor
    · intro q; right; omega
    · rintro (q | q)
      · exact (v_m1 q h0).elim
      · omega
  · have e := r_neg ht.1 h0
    unfold r_so
    rw [if_neg (fun q => h0 q.1)]
    exact ⟨fun _ => Or.inl e, fun _ => by decide⟩
theorem r_ok_add {tm sz : Nat → Int32} {rn : Nat} {t : Int32} (h : r_ok tm sz rn) (hm : r_may tm rn t) : r_ok (upd tm rn t) (r_sz sz t) (rn + 1) := by
  have keep : ∀ (u : Int32) (k : Nat), k ≤ rn → r_c (upd tm rn t) u k = r_c tm u k := by
    intro u k
    induction k with
    | zero => intro _; rfl
    | succ k ih =>
      intro hk
      unfold r_c
      rw [ih (by omega), pk_un (by omega)]
  refine ⟨hm.1, fun j hj => ?_⟩
  have hs : r_c (upd tm rn t) (nI j) (rn + 1) = r_c tm (nI j) rn + if t = nI j then 1 else 0 := by
    rw [r_c, keep _ _ (Nat.le_refl _), pk_us]
  rw [hs]
  by_cases h0 : t = -1
  · unfold r_sz
    rw [if_pos h0, if_neg (by rw [h0]; exact fun q => nI_neg1 (by omega) q.symm)]
    exact h.2 j hj
  · have h0' : 0 ≤ t := Classical.byContradiction (fun q => h0 (r_neg hm.2.1.1 q))
    obtain ⟨i, hi, e, e2⟩ := v_ofle (k := 5) h0' hm.2.1.2 (by omega)
    unfold r_sz
    rw [if_neg h0, e2]
    by_cases hij : j = i
    · subst hij
      rw [pk_us, if_pos e, (h.2 j hj).1, nI_1]
      have h4 := (h.2 j hj).2
      have := hm.2.2.resolve_left h0
      rw [e] at this
      exact ⟨rfl, by omega⟩
    · rw [pk_un hij, if_neg (by rw [e]; exact fun q => hij (nI_inj q (by omega) (by omega)).symm)]
      exact h.2 j hj
section
variable {E : ga_E} {X : ga_X} {n : Nat} {c0 c1 c2 c3 c4 c5 c6 c7 c8 c9 c10 c11 c12 c13 c14 c15 c16 c17 c18 c19 c20 c21 c22 c23 c24 c25 c26 c27 c28 c29 c30 m79 m80 m81 m82 m83 m84 m85 m86 m87 m88 m89 m90 m91 m92 m93 m94 m95 m96 m97 m98 m99 m100 m101 m102 m103 m104 m105 : ga_C} {L1 L2 : List ga_C} {f : Nat → ga_C} {o_tp o_rd o_fe o_em o_sp o_ac o_td o_sm o_tt o_at o_sz o_fk o_fp o_nw o_md o_nt o_pl o_op d_at d_tk d_ta d_fd d_fa : Int32} {d_tv : Int64} {d_rl : Value}
variable {tm sz : Nat → Int32} {rn : Nat} {ask : Int32}
theorem c_X5_sizeOfTeam {t : Int32} (hn : 106 ≤ n) : ga_Mx E 1 yX5_sizeOfTeam cX5_sizeOfTeam 2 (some .int) 0 0 [.ref 3, .int t] (n, (c0 :: c1 :: c2 :: k_R rn :: c4 :: ga_i 6 sz :: L1), L2, f) (some (.int (r_so sz t))) (n, (c0 :: c1 :: c2 :: k_R rn :: c4 :: ga_i 6 sz :: L1), L2, f) := by
  refine ga_Mt.of (by decide) rfl (fun X hX hP => ?_)
  refine g_less [some (.ref 3), some (.int t)] ⟨rfl, rfl, trivial⟩ ?_
  refine g_iload_n (nx := 1) hX 1 dX5_sizeOfTeam_0 rfl rfl rfl ?_
  refine g_iconst (nx := 2) hX 0 dX5_sizeOfTeam_1 rfl (by decide) ?_
  refine g_iconst (nx := 3) hX 5 dX5_sizeOfTeam_2 rfl (by decide) ?_
  refine g_SN3 (nx := 6) hX dX5_sizeOfTeam_3 rfl nX5_22 yX10_isWithin_ok (c_X10_isWithin) (by decide) rfl (Nat.le_of_ble_eq_true rfl) (Nat.le_of_ble_eq_true rfl) ?_
  rintro _ _ ⟨rfl, rfl⟩
  refine g_if_eq (nx := 9) hX 18 dX5_sizeOfTeam_6 (by decide) rfl (fun h6 => ?_) (fun h6 => ?_)
  · refine g_iconst (nx := 19) hX 0 dX5_sizeOfTeam_18 rfl (by decide) ?_
    exact g_ireturn hX hP dX5_sizeOfTeam_19 rfl (Nat.le_of_ble_eq_true rfl) (Nat.le_of_ble_eq_true rfl) ⟨by unfold r_so; rw [if_neg (ga_b_0 h6)], rfl⟩
  · have hb := ga_b_n0 h6
    refine g_aload_n (nx := 10) hX 0 dX5_sizeOfTeam_9 rfl rfl rfl ?_
    refine g_getfield (nx := 13) hX dX5_sizeOfTeam_10 rfl fX5_15 (ga_dn hn rfl) rfl rfl ?_
    refine g_iload_n (nx := 14) hX 1 dX5_sizeOfTeam_13 rfl rfl rfl ?_
    refine g_iaload (nx := 15) hX dX5_sizeOfTeam_14 rfl (ga_dn hn rfl) rfl (ix_le (k := 5) hb.1 hb.2 (by omega) (by omega)) ?_
    refine g_goto (nx := 19) hX dX5_sizeOfTeam_15 (by decide) ?_
    exact g_ireturn hX hP dX5_sizeOfTeam_19 rfl (Nat.le_of_ble_eq_true rfl) (Nat.le_of_ble_eq_true rfl) ⟨by unfold r_so; rw [if_pos hb], rfl⟩
theorem c_X5_has {v : Int32} (hn : 106 ≤ n) (hr : rn ≤ 24) : ga_Mx E 1 yX5_has cX5_has 2 (some .boolean) 0 0 [.ref 3, .int v] (n, (c0 :: c1 :: c2 :: k_R rn :: L1), L2, f) (some (.int (ga_b (0 ≤ v ∧ v < nI rn)))) (n, (c0 :: c1 :: c2 :: k_R rn :: L1), L2, f) := by
  refine ga_Mt.of (by decide) rfl (fun X hX hP => ?_)
  refine g_less [some (.ref 3), some (.int v)] ⟨rfl, rfl, trivial⟩ ?_
  refine g_iload_n (nx := 1) hX 1 dX5_has_0 rfl rfl rfl ?_
  refine g_iconst (nx := 2) hX 0 dX5_has_1 rfl (by decide) ?_
  refine g_aload_n (nx := 3) hX 0 dX5_has_2 rfl rfl rfl ?_
  refine g_getfield (nx := 6) hX dX5_has_3 rfl fX5_18 (ga_dn hn rfl) rfl rfl ?_
  refine g_iconst (nx := 7) hX 1 dX5_has_6 rfl (by decide) ?_
  refine g_isub (nx := 8) hX dX5_has_7 rfl ?_
  refine g_SN3 (nx := 11) hX dX5_has_8 rfl nX5_22 yX10_isWithin_ok (c_X10_isWithin) (by decide) rfl (Nat.le_of_ble_eq_true rfl) (Nat.le_of_ble_eq_true rfl) ?_
  rintro _ _ ⟨rfl, rfl⟩
  exact g_ireturn hX hP dX5_has_11 (ga_b_nar _) (Nat.le_of_ble_eq_true rfl) (Nat.le_of_ble_eq_true rfl) ⟨by rw [ga_b_c (and_congr_right (fun _ => v_lt1 (by omega)))], rfl⟩
theorem c_X5_teamOf {v : Int32} (hn : 106 ≤ n) (hr : rn ≤ 24) : ga_Mx E 2 yX5_teamOf cX5_teamOf 2 (some .int) 0 0 [.ref 3, .int v] (n, (c0 :: c1 :: c2 :: k_R rn :: ga_i 24 tm :: L1), L2, f) (some (.int (if 0 ≤ v ∧ v < nI rn then tm v.toNatClampNeg else -1))) (n, (c0 :: c1 :: c2 :: k_R rn :: ga_i 24 tm :: L1), L2, f) := by
  refine ga_Mt.of (by decide) rfl (fun X hX hP => ?_)
  refine g_less [some (.ref 3), some (.int v)] ⟨rfl, rfl, trivial⟩ ?_
  refine g_aload_n (nx := 1) hX 0 dX5_teamOf_0 rfl rfl rfl ?_
  refine g_iload_n (nx := 2) hX 1 dX5_teamOf_1 rfl rfl rfl ?_
  refine g_V1 (nx := 5) hX dX5_teamOf_2 rfl mX5_30 yX5_has_ok (c_X5_has hn hr) (ga_dn hn rfl) rfl rfl rfl (by decide) rfl (Nat.le_of_ble_eq_true rfl) (Nat.le_of_ble_eq_true rfl) ?_
  rintro _ _ ⟨rfl, rfl⟩
  refine g_if_eq (nx := 8) hX 17 dX5_teamOf_5 (by decide) rfl (fun h5 => ?_) (fun h5 => ?_)
  · refine g_iconst (nx := 18) hX (-1) dX5_teamOf_17 rfl (by decide) ?_
    exact g_ireturn hX hP dX5_teamOf_18 rfl (Nat.le_of_ble_eq_true rfl) (Nat.le_of_ble_eq_true rfl) ⟨by rw [if_neg (ga_b_0 h5)], rfl⟩
  · have hb := ga_b_n0 h5
    refine g_aload_n (nx := 9) hX 0 dX5_teamOf_8 rfl rfl rfl ?_
    refine g_getfield (nx := 12) hX dX5_teamOf_9 rfl fX5_11 (ga_dn hn rfl) rfl rfl ?_
    refine g_iload_n (nx := 13) hX 1 dX5_teamOf_12 rfl rfl rfl ?_
    refine g_iaload (nx := 14) hX dX5_teamOf_13 rfl (ga_dn hn rfl) rfl (ix_lt hb.1 hb.2 hr (by omega)) ?_
    refine g_goto (nx := 18) hX dX5_teamOf_14 (by decide) ?_
    exact g_ireturn hX hP dX5_teamOf_18 rfl (Nat.le_of_ble_eq_true rfl) (Nat.le_of_ble_eq_true rfl) ⟨by rw [if_pos hb], rfl⟩
theorem c_X5_add {t : Int32} (hn : 106 ≤ n) (hz : r_ok tm sz rn) : ga_Mt E 2 yX5_add cX5_add 2 (some .int) 0 0 [.ref 3, .int t] (n, (c0 :: c1 :: c2 :: k_R rn :: ga_i 24 tm :: ga_i 6 sz :: L1), L2, f)
    (fun r M => r_may tm rn t ∧ r = some (.int (nI rn)) ∧ M = (n, (c0 :: c1 :: c2 :: k_R (rn + 1) :: ga_i 24 (upd tm rn t) :: ga_i 6 (r_sz sz t) :: L1), L2, f) ∨ ¬ r_may tm rn t ∧ r = some (.int (-1)) ∧ M = (n, (c0 :: c1 :: c2 :: k_R rn :: ga_i 24 tm :: ga_i 6 sz :: L1), L2, f)) := by
  have hrn := hz.1
  refine ga_Mt.of (by decide) rfl (fun X hX hP => ?_)
  refine g_less [some (.ref 3), some (.int t)] ⟨rfl, rfl, trivial⟩ ?_
  have no : ¬ r_may tm rn t → ga_G E X 0 0 27 [some (.ref 3), some (.int t)] [] (n, (c0 :: c1 :: c2 :: k_R rn :: ga_i 24 tm :: ga_i 6 sz :: L1), L2, f) := by
    intro hno
    refine g_iconst (nx := 28) hX (-1) dX5_add_27 rfl (by decide) ?_
    exact g_ireturn hX hP dX5_add_28 rfl (Nat.le_of_ble_eq_true rfl) (Nat.le_of_ble_eq_true rfl) (Or.inr ⟨hno, rfl, rfl⟩)
  have fin : ∀ sz', sz' = r_sz sz t → r_may tm rn t → ga_G E X 0 0 44 [some (.ref 3), some (.int t)] [] (n, (c0 :: c1 :: c2 :: k_R rn :: ga_i 24 tm :: ga_i 6 sz' :: L1), L2, f) := by
    intro sz' hs hm
    have hrl := hm.1
    refine g_aload_n (nx := 45) hX 0 dX5_add_44 rfl rfl rfl ?_
    refine g_getfield (nx := 48) hX dX5_add_45 rfl fX5_11 (ga_dn hn rfl) rfl rfl ?_
    refine g_aload_n (nx := 49) hX 0 dX5_add_48 rfl rfl rfl ?_
    refine g_getfield (nx := 52) hX dX5_add_49 rfl fX5_18 (ga_dn hn rfl) rfl rfl ?_
    refine g_iload_n (nx := 53) hX 1 dX5_add_52 rfl rfl rfl ?_
    refine g_iastore (nx := 54) hX dX5_add_53 rfl (ga_dn hn rfl) rfl (ga_ix_of rfl (by omega) (by omega)) ?_
    refine g_aload_n (nx := 55) hX 0 dX5_add_54 rfl rfl rfl ?_
    refine g_dup (nx := 56) hX dX5_add_55 rfl rfl ?_
    refine g_getfield (nx := 59) hX dX5_add_56 rfl fX5_18 (ga_dn hn rfl) rfl rfl ?_
    refine g_iconst (nx := 60) hX 1 dX5_add_59 rfl (by decide) ?_
    refine g_iadd (nx := 61) hX dX5_add_60 rfl ?_
    rw [nI_1]
    refine g_putfield (nx := 64) hX dX5_add_61 rfl pX5_18 (ga_dn hn rfl) rfl rfl rfl rfl ?_
    refine g_aload_n (nx := 65) hX 0 dX5_add_64 rfl rfl rfl ?_
    refine g_getfield (nx := 68) hX dX5_add_65 rfl fX5_18 (ga_dn hn rfl) rfl rfl ?_
    refine g_iconst (nx := 69) hX 1 dX5_add_68 rfl (by decide) ?_
    refine g_isub (nx := 70) hX dX5_add_69 rfl ?_
    rw [nI_pred]
    exact g_ireturn hX hP dX5_add_70 rfl (Nat.le_of_ble_eq_true rfl) (Nat.le_of_ble_eq_true rfl) (Or.inl ⟨hm, rfl, by rw [hs]; rfl⟩)
  refine g_aload_n (nx := 1) hX 0 dX5_add_0 rfl rfl rfl ?_
  refine g_getfield (nx := 4) hX dX5_add_1 rfl fX5_18 (ga_dn hn rfl) rfl rfl ?_
  refine g_bipush (nx := 6) hX 24 dX5_add_4 rfl (by decide) ?_
  refine g_icmp_ge (nx := 9) hX 27 dX5_add_6 (by decide) rfl (fun h6 => ?_) (fun h6 => ?_)
  · exact no (fun q => absurd ((nI_leI (a := 24) (b := rn) (by omega) (by omega)).mp h6) (by have := q.1; omega))
  · have hrl : rn < 24 := Nat.lt_of_not_le (fun q => h6 ((nI_leI (a := 24) (b := rn) (by omega) (by omega)).mpr q))
    refine g_iload_n (nx := 10) hX 1 dX5_add_9 rfl rfl rfl ?_
    refine g_iconst (nx := 11) hX (-1) dX5_add_10 rfl (by decide) ?_
    refine g_iconst (nx := 12) hX 5 dX5_add_11 rfl (by decide) ?_
    refine g_SN3 (nx := 15) hX dX5_add_12 rfl nX5_22 yX10_isWithin_ok (c_X10_isWithin) (by decide) rfl (Nat.le_of_ble_eq_true rfl) (Nat.le_of_ble_eq_true rfl) ?_
    rintro _ _ ⟨rfl, rfl⟩
    refine g_if_eq (nx := 18) hX 27 dX5_add_15 (by decide) rfl (fun h15 => ?_) (fun h15 => ?_)
    · exact no (fun q => ga_b_0 h15 q.2.1)
    · have hb := ga_b_n0 h15
      refine g_aload_n (nx := 19) hX 0 dX5_add_18 rfl rfl rfl ?_
      refine g_iload_n (nx := 20) hX 1 dX5_add_19 rfl rfl rfl ?_
      refine g_V1 (nx := 23) hX dX5_add_20 rfl mX5_26 yX5_sizeOfTeam_ok (c_X5_sizeOfTeam hn) (ga_dn hn rfl) rfl rfl rfl (by decide) rfl (Nat.le_of_ble_eq_true rfl) (Nat.le_of_ble_eq_true rfl) ?_
      rintro _ _ ⟨rfl, rfl⟩
      refine g_iconst (nx := 24) hX 4 dX5_add_23 rfl (by decide) ?_
      refine g_icmp_lt (nx := 27) hX 29 dX5_add_24 (by decide) rfl (fun h24 => ?_) (fun h24 => ?_)
      · have hmay : r_may tm rn t := ⟨hrl, hb, (r_so_lt hz hb).mp h24⟩
        refine g_iload_n (nx := 30) hX 1 dX5_add_29 rfl rfl rfl ?_
        refine g_iconst (nx := 31) hX (-1) dX5_add_30 rfl (by decide) ?_
        refine g_icmp_eq (nx := 34) hX 44 dX5_add_31 (by decide) rfl (fun h31 => ?_) (fun h31 => ?_)
        · exact fin sz (by unfold r_sz; rw [if_pos h31]) hmay
        · have h0 : 0 ≤ t := Classical.byContradiction (fun q => h31 (r_neg hb.1 q))
          refine g_aload_n (nx := 35) hX 0 dX5_add_34 rfl rfl rfl ?_
          refine g_getfield (nx := 38) hX dX5_add_35 rfl fX5_15 (ga_dn hn rfl) rfl rfl ?_
          refine g_iload_n (nx := 39) hX 1 dX5_add_38 rfl rfl rfl ?_
          refine g_dup2 (nx := 40) hX dX5_add_39 rfl rfl rfl ?_
          refine g_iaload (nx := 41) hX dX5_add_40 rfl (ga_dn hn rfl) rfl (ix_le (k := 5) h0 hb.2 (by omega) (by omega)) ?_
          refine g_iconst (nx := 42) hX 1 dX5_add_41 rfl (by decide) ?_
          refine g_iadd (nx := 43) hX dX5_add_42 rfl ?_
          refine g_iastore (nx := 44) hX dX5_add_43 rfl (ga_dn hn rfl) rfl (ix_le (k := 5) h0 hb.2 (by omega) (by omega)) ?_
          exact fin _ (by unfold r_sz; rw [if_neg h31]) hmay
      · exact no (fun q => h24 ((r_so_lt hz hb).mpr q.2.2))
theorem c_X10_rider {t : Int32} (hn : 106 ≤ n) (hz : r_ok tm sz rn) : ga_Mt E 3 yX10_rider cX10_rider 2 (some .int) 0 0 [.ref 0, .int t] (n, (k_0 ask :: c1 :: c2 :: k_R rn :: ga_i 24 tm :: ga_i 6 sz :: L1), L2, f)
    (fun r M => r_may tm rn t ∧ r = some (.int (nI rn)) ∧ M = (n, (k_0 ask :: c1 :: c2 :: k_R (rn + 1) :: ga_i 24 (upd tm rn t) :: ga_i 6 (r_sz sz t) :: L1), L2, f) ∨ ¬ r_may tm rn t ∧ r = some (.int (-1)) ∧ M = (n, (k_0 ask :: c1 :: c2 :: k_R rn :: ga_i 24 tm :: ga_i 6 sz :: L1), L2, f)) := by
  refine ga_Mt.of (by decide) rfl (fun X hX hP => ?_)
  refine g_less [some (.ref 0), some (.int t)] ⟨rfl, rfl, trivial⟩ ?_
  refine g_aload_n (nx := 1) hX 0 dX10_rider_0 rfl rfl rfl ?_
  refine g_getfield (nx := 4) hX dX10_rider_1 rfl fX10_19 (ga_dn hn rfl) rfl rfl ?_
  refine g_iload_n (nx := 5) hX 1 dX10_rider_4 rfl rfl rfl ?_
  refine g_V1 (nx := 8) hX dX10_rider_5 rfl mX10_84 yX5_add_ok (c_X5_add hn hz) (ga_dn hn rfl) rfl rfl rfl (by decide) rfl (Nat.le_of_ble_eq_true rfl) (Nat.le_of_ble_eq_true rfl) ?_
  rintro r M (⟨h, rfl, rfl⟩ | ⟨h, rfl, rfl⟩)
  · exact g_ireturn hX hP dX10_rider_8 rfl (Nat.le_of_ble_eq_true rfl) (Nat.le_of_ble_eq_true rfl) (Or.inl ⟨h, rfl, rfl⟩)
  · exact g_ireturn hX hP dX10_rider_8 rfl (Nat.le_of_ble_eq_true rfl) (Nat.le_of_ble_eq_true rfl) (Or.inr ⟨h, rfl, rfl⟩)
theorem rd_loop {t : Int32} {d mc ms : Nat} (hX : ga_B E d yX11_rider cX11_rider 4 mc ms X) (hn : 106 ≤ n) (hr : rn ≤ 24)
    (kont : ga_G E X 0 0 61 [some (.ref 79), some (.int t), some (.int (nI (if t = -1 then 0 else r_c tm t rn))), none] [] (n, L1, ((m_O o_tp (nI rn) o_fe o_em o_sp o_ac o_td o_sm o_tt o_at o_sz o_fk o_fp o_nw o_md o_nt o_pl o_op) :: m80 :: ga_i 24 tm :: L2), f)) :
    ∀ (m r : Nat), r ≤ rn → rn - r ≤ m → ga_G E X 0 0 24 [some (.ref 79), some (.int t), some (.int (nI (if t = -1 then 0 else r_c tm t r))), some (.int (nI r))] [] (n, L1, ((m_O o_tp (nI rn) o_fe o_em o_sp o_ac o_td o_sm o_tt o_at o_sz o_fk o_fp o_nw o_md o_nt o_pl o_op) :: m80 :: ga_i 24 tm :: L2), f) := by
  intro m
  induction m with
  | zero =>
    intro r h1 h2
    have e : r = rn := by omega
    subst e
    refine g_iload_n (nx := 25) hX 3 dX11_rider_24 rfl rfl rfl ?_
    refine g_aload_n (nx := 26) hX 0 dX11_rider_25 rfl rfl rfl ?_
    refine g_getfield (nx := 29) hX dX11_rider_26 rfl fX11_17 (ga_dn hn rfl) rfl rfl ?_
    refine g_icmp_ge (nx := 32) hX 61 dX11_rider_29 (by decide) rfl (fun h29 => ?_) (fun h29 => ?_)
    · exact g_ls kont ⟨rfl, rfl, rfl, trivial⟩
    · exact absurd (nI_le (Nat.le_refl r) (by omega)) h29
  | succ m ih =>
    intro r h1 h2
    refine g_iload_n (nx := 25) hX 3 dX11_rider_24 rfl rfl rfl ?_
    refine g_aload_n (nx := 26) hX 0 dX11_rider_25 rfl rfl rfl ?_
    refine g_getfield (nx := 29) hX dX11_rider_26 rfl fX11_17 (ga_dn hn rfl) rfl rfl ?_
    refine g_icmp_ge (nx := 32) hX 61 dX11_rider_29 (by decide) rfl (fun h29 => ?_) (fun h29 => ?_)
    · have e : r = rn := by have := (nI_leI (a := rn) (b := r) (by omega) (by omega)).mp h29; omega
      subst e
      exact g_ls kont ⟨rfl, rfl, rfl, trivial⟩
    · have hlt : r < rn := Nat.lt_of_not_le (fun q => h29 (nI_le q (by omega)))
      refine g_iload_n (nx := 33) hX 2 dX11_rider_32 rfl rfl rfl ?_
      refine g_iload_n (nx := 34) hX 1 dX11_rider_33 rfl rfl rfl ?_
      refine g_iconst (nx := 35) hX (-1) dX11_rider_34 rfl (by decide) ?_
      refine g_icmp_eq (nx := 38) hX 52 dX11_rider_35 (by decide) rfl (fun h35 => ?_) (fun h35 => ?_)
      · refine g_iconst (nx := 53) hX 0 dX11_rider_52 rfl (by decide) ?_
        refine g_iadd (nx := 54) hX dX11_rider_53 rfl ?_
        refine g_istore_n (nx := 55) hX 2 dX11_rider_54 rfl rfl rfl ?_
        refine g_iinc (nx := 58) hX 3 (nI (r + 1)) dX11_rider_55 rfl rfl rfl (nI_1 r) ?_
        refine g_goto (nx := 24) hX dX11_rider_58 (by decide) ?_
        have := ih (r + 1) (by omega) (by omega)
        rw [if_pos h35] at this
        rw [if_pos h35]
        exact this
      · refine g_aload_n (nx := 39) hX 0 dX11_rider_38 rfl rfl rfl ?_
        refine g_getfield (nx := 42) hX dX11_rider_39 rfl fX11_20 (ga_dn hn rfl) rfl rfl ?_
        refine g_iload_n (nx := 43) hX 3 dX11_rider_42 rfl rfl rfl ?_
        refine g_iaload (nx := 44) hX dX11_rider_43 rfl (ga_dn hn rfl) rfl (ga_ix_of rfl (by omega) (by omega)) ?_
        refine g_iload_n (nx := 45) hX 1 dX11_rider_44 rfl rfl rfl ?_
        refine g_icmp_ne (nx := 48) hX 52 dX11_rider_45 (by decide) rfl (fun h45 => ?_) (fun h45 => ?_)
        · refine g_iconst (nx := 53) hX 0 dX11_rider_52 rfl (by decide) ?_
          refine g_iadd (nx := 54) hX dX11_rider_53 rfl ?_
          refine g_istore_n (nx := 55) hX 2 dX11_rider_54 rfl rfl rfl ?_
          refine g_iinc (nx := 58) hX 3 (nI (r + 1)) dX11_rider_55 rfl rfl rfl (nI_1 r) ?_
          refine g_goto (nx := 24) hX dX11_rider_58 (by decide) ?_
          have := ih (r + 1) (by omega) (by omega)
          rw [if_neg h35, r_c, if_neg h45] at this
          rw [if_neg h35, Int32.add_zero]
          exact this
        · refine g_iconst (nx := 49) hX 1 dX11_rider_48 rfl (by decide) ?_
          refine g_goto (nx := 53) hX dX11_rider_49 (by decide) ?_
          refine g_iadd (nx := 54) hX dX11_rider_53 rfl ?_
          refine g_istore_n (nx := 55) hX 2 dX11_rider_54 rfl rfl rfl ?_
          refine g_iinc (nx := 58) hX 3 (nI (r + 1)) dX11_rider_55 rfl rfl rfl (nI_1 r) ?_
          refine g_goto (nx := 24) hX dX11_rider_58 (by decide) ?_
          have := ih (r + 1) (by omega) (by omega)
          rw [if_neg h35, r_c, if_pos h45] at this
          rw [if_neg h35, nI_1]
          exact this
theorem c_X11_rider {t : Int32} (hn : 106 ≤ n) (hr : rn ≤ 24) : ga_Mt E 1 yX11_rider cX11_rider 4 (some .int) 0 0 [.ref 79, .int t] (n, L1, ((m_O o_tp (nI rn) o_fe o_em o_sp o_ac o_td o_sm o_tt o_at o_sz o_fk o_fp o_nw o_md o_nt o_pl o_op) :: m80 :: ga_i 24 tm :: L2), f)
    (fun r M => r_may tm rn t ∧ r = some (.int (nI rn)) ∧ M = (n, L1, ((m_O o_tp (nI (rn + 1)) o_fe o_em o_sp o_ac o_td o_sm o_tt o_at o_sz o_fk o_fp o_nw o_md o_nt o_pl o_op) :: m80 :: ga_i 24 (upd tm rn t) :: L2), f) ∨ ¬ r_may tm rn t ∧ r = some (.int (-1)) ∧ M = (n, L1, ((m_O o_tp (nI rn) o_fe o_em o_sp o_ac o_td o_sm o_tt o_at o_sz o_fk o_fp o_nw o_md o_nt o_pl o_op) :: m80 :: ga_i 24 tm :: L2), f)) := by
  refine ga_Mt.of (by decide) rfl (fun X hX hP => ?_)
  refine g_less [some (.ref 79), some (.int t), none, none] ⟨rfl, rfl, trivial⟩ ?_
  have tail : rn < 24 → (-1 ≤ t ∧ t ≤ 5) → ga_G E X 0 0 61 [some (.ref 79), some (.int t), some (.int (nI (if t = -1 then 0 else r_c tm t rn))), none] [] (n, L1, ((m_O o_tp (nI rn) o_fe o_em o_sp o_ac o_td o_sm o_tt o_at o_sz o_fk o_fp o_nw o_md o_nt o_pl o_op) :: m80 :: ga_i 24 tm :: L2), f) := by
    intro hrl hb
    have hcl := r_c_le tm t rn
    refine g_iload_n (nx := 62) hX 2 dX11_rider_61 rfl rfl rfl ?_
    refine g_iconst (nx := 63) hX 4 dX11_rider_62 rfl (by decide) ?_
    refine g_icmp_ne (nx := 66) hX 68 dX11_rider_63 (by decide) rfl (fun h63 => ?_) (fun h63 => ?_)
    · have hm : r_may tm rn t := ⟨hrl, hb, by
        by_cases q : t = -1
        · exact Or.inl q
        · right; rw [if_neg q] at h63; exact fun z => h63 (by rw [z]; rfl)⟩
      refine g_aload_n (nx := 69) hX 0 dX11_rider_68 rfl rfl rfl ?_
      refine g_getfield (nx := 72) hX dX11_rider_69 rfl fX11_20 (ga_dn hn rfl) rfl rfl ?_
      refine g_aload_n (nx := 73) hX 0 dX11_rider_72 rfl rfl rfl ?_
      refine g_getfield (nx := 76) hX dX11_rider_73 rfl fX11_17 (ga_dn hn rfl) rfl rfl ?_
      refine g_iload_n (nx := 77) hX 1 dX11_rider_76 rfl rfl rfl ?_
      refine g_iastore (nx := 78) hX dX11_rider_77 rfl (ga_dn hn rfl) rfl (ga_ix_of rfl (by omega) (by omega)) ?_
      refine g_aload_n (nx := 79) hX 0 dX11_rider_78 rfl rfl rfl ?_
      refine g_dup (nx := 80) hX dX11_rider_79 rfl rfl ?_
      refine g_getfield (nx := 83) hX dX11_rider_80 rfl fX11_17 (ga_dn hn rfl) rfl rfl ?_
      refine g_iconst (nx := 84) hX 1 dX11_rider_83 rfl (by decide) ?_
      refine g_iadd (nx := 85) hX dX11_rider_84 rfl ?_
      rw [nI_1]
      refine g_putfield (nx := 88) hX dX11_rider_85 rfl pX11_17 (ga_dn hn rfl) rfl rfl rfl rfl ?_
      refine g_aload_n (nx := 89) hX 0 dX11_rider_88 rfl rfl rfl ?_
      refine g_getfield (nx := 92) hX dX11_rider_89 rfl fX11_17 (ga_dn hn rfl) rfl rfl ?_
      refine g_iconst (nx := 93) hX 1 dX11_rider_92 rfl (by decide) ?_
      refine g_isub (nx := 94) hX dX11_rider_93 rfl ?_
      rw [nI_pred]
      exact g_ireturn hX hP dX11_rider_94 rfl (Nat.le_of_ble_eq_true rfl) (Nat.le_of_ble_eq_true rfl) (Or.inl ⟨hm, rfl, rfl⟩)
    · have hm : ¬ r_may tm rn t := fun q => by
        rcases q.2.2 with q | q
        · rw [if_pos q] at h63; revert h63; decide
        · by_cases z : t = -1
          · rw [if_pos z] at h63; revert h63; decide
          · rw [if_neg z] at h63; exact q (nI_inj (b := 4) h63 (by omega) (by omega))
      refine g_iconst (nx := 67) hX (-1) dX11_rider_66 rfl (by decide) ?_
      exact g_ireturn hX hP dX11_rider_67 rfl (Nat.le_of_ble_eq_true rfl) (Nat.le_of_ble_eq_true rfl) (Or.inr ⟨hm, rfl, rfl⟩)
  refine g_aload_n (nx := 1) hX 0 dX11_rider_0 rfl rfl rfl ?_
  refine g_getfield (nx := 4) hX dX11_rider_1 rfl fX11_17 (ga_dn hn rfl) rfl rfl ?_
  refine g_bipush (nx := 6) hX 24 dX11_rider_4 rfl (by decide) ?_
  refine g_icmp_eq (nx := 9) hX 18 dX11_rider_6 (by decide) rfl (fun h6 => ?_) (fun h6 => ?_)
  · refine g_iconst (nx := 19) hX (-1) dX11_rider_18 rfl (by decide) ?_
    exact g_ireturn hX hP dX11_rider_19 rfl (Nat.le_of_ble_eq_true rfl) (Nat.le_of_ble_eq_true rfl) (Or.inr ⟨fun q => absurd (nI_inj (b := 24) h6 (by omega) (by omega)) (by have := q.1; omega), rfl, rfl⟩)
  · have hrl : rn < 24 := Nat.lt_of_le_of_ne hr (fun q => h6 (by rw [q]; rfl))
    refine g_iload_n (nx := 10) hX 1 dX11_rider_9 rfl rfl rfl ?_
    refine g_iconst (nx := 11) hX (-1) dX11_rider_10 rfl (by decide) ?_
    refine g_iconst (nx := 12) hX 5 dX11_rider_11 rfl (by decide) ?_
    refine g_S3 (nx := 15) hX dX11_rider_12 rfl mX11_149 yX11_is_ok (c_X11_is) (by decide) rfl (Nat.le_of_ble_eq_true rfl) (Nat.le_of_ble_eq_true rfl) ?_
    rintro _ _ ⟨rfl, rfl⟩
    refine g_if_ne (nx := 18) hX 20 dX11_rider_15 (by decide) rfl (fun h15 => ?_) (fun h15 => ?_)
    · have hb := ga_b_n0 h15
      refine g_iconst (nx := 21) hX 0 dX11_rider_20 rfl (by decide) ?_
      refine g_istore_n (nx := 22) hX 2 dX11_rider_21 rfl rfl rfl ?_
      refine g_iconst (nx := 23) hX 0 dX11_rider_22 rfl (by decide) ?_
      refine g_istore_n (nx := 24) hX 3 dX11_rider_23 rfl rfl rfl ?_
      refine g_less [some (.ref 79), some (.int t), some (.int (nI (if t = -1 then 0 else r_c tm t 0))), some (.int (nI 0))] ⟨rfl, rfl, by rw [show (if t = -1 then 0 else r_c tm t 0) = 0 by split <;> rfl]; rfl, rfl, trivial⟩ ?_
      exact rd_loop hX hn hr (tail hrl hb) rn 0 (by omega) (by omega)
    · refine g_iconst (nx := 19) hX (-1) dX11_rider_18 rfl (by decide) ?_
      exact g_ireturn hX hP dX11_rider_19 rfl (Nat.le_of_ble_eq_true rfl) (Nat.le_of_ble_eq_true rfl) (Or.inr ⟨fun q => ga_b_0 h15 q.2.1, rfl, rfl⟩)
end
