/-! ===== the board: markStale, forget, moveTo, knowAt ===== -/
abbrev b_w : Nat → Option Nat := fun r => some (2 * r + 31)
def ga_mn (a b : Int32) : Int32 := if a ≤ b then a else b
theorem put_so {n r : Nat} {L1 L2 : List ga_C} {sv : Nat → sh_S} {g : Nat → ga_C} {b1 b2 b3 b4 b5 b6 b7 : Int32} {w : Int64} (hr : r < 24) : ga_put (n, L1, L2, sh_f sv g) (2 * r + 31) (ga_o 7 [.ref (2 * r + 32), .int b1, .int b2, .int b3, .int b4, .int b5, .int b6, .int b7, .long w]) = (n, L1, L2, sh_f (va_up sv r (b1, b2, b3, b4, b5, b6, b7, w, s_v (sv r))) g) := by
  have e : sv = va_up sv r ((sv r).1, (sv r).2.1, (sv r).2.2.1, (sv r).2.2.2.1, (sv r).2.2.2.2.1, (sv r).2.2.2.2.2.1, (sv r).2.2.2.2.2.2.1, (sv r).2.2.2.2.2.2.2.1, s_v (sv r)) := (up_self sv r).symm
  generalize s_v (sv r) = v at *
  rw [e, put_soF hr, up_up]
section
variable {E : ga_E} {X : ga_X} {n : Nat} {c0 c1 c2 c3 c4 c5 c6 c7 c8 c9 c10 c11 c12 c13 c14 c15 c16 c17 c18 c19 c20 c21 c22 c23 c24 c25 c26 c27 c28 c29 c30 m79 m80 m81 m82 m83 m84 m85 m86 m87 m88 m89 m90 m91 m92 m93 m94 m95 m96 m97 m98 m99 m100 m101 m102 m103 m104 m105 : ga_C} {L1 L2 : List ga_C} {f : Nat → ga_C} {o_tp o_rd o_fe o_em o_sp o_ac o_td o_sm o_tt o_at o_sz o_fk o_fp o_nw o_md o_nt o_pl o_op d_at d_tk d_ta d_fd d_fa : Int32} {d_tv : Int64} {d_rl : Value}
variable {sv : Nat → sh_S} {av : Nat → a_S} {g : Nat → ga_C} {r rn an ka : Nat} {M : ga_M}
theorem c_J9_min_7cf53 {a b : Int32} : ga_Mx E 0 yJ9_min_7cf53 cJ9_min_7cf53 2 (some .int) 0 0 [.int a, .int b] M (some (.int (ga_mn a b))) M := by
  refine ga_Mt.ofF (by decide +kernel) rfl (fun X hX hP => ?_)
  refine g_less [some (.int a), some (.int b)] ⟨rfl, rfl, trivial⟩ ?_
  refine g_iload_n (nx := 1) hX 0 dJ9_min_7cf53_0 rfl rfl rfl ?_
  refine g_iload_n (nx := 2) hX 1 dJ9_min_7cf53_1 rfl rfl rfl ?_
  refine g_icmp_gt (nx := 5) hX 9 dJ9_min_7cf53_2 (by decide) rfl (fun h2 => ?_) (fun h2 => ?_)
  · refine g_iload_n (nx := 10) hX 1 dJ9_min_7cf53_9 rfl rfl rfl ?_
    exact g_ireturn hX hP dJ9_min_7cf53_10 rfl (Nat.le_of_ble_eq_true rfl) (Nat.le_of_ble_eq_true rfl) ⟨by unfold ga_mn; rw [if_neg (ga_ltn h2)], rfl⟩
  · refine g_iload_n (nx := 6) hX 0 dJ9_min_7cf53_5 rfl rfl rfl ?_
    refine g_goto (nx := 10) hX dJ9_min_7cf53_6 (by decide) ?_
    exact g_ireturn hX hP dJ9_min_7cf53_10 rfl (Nat.le_of_ble_eq_true rfl) (Nat.le_of_ble_eq_true rfl) ⟨by unfold ga_mn; rw [if_pos (ga_nlt h2)], rfl⟩
/-- marked as stale -/
def s_mk (sv : Nat → sh_S) (v : Int32) : Nat → sh_S := if 0 ≤ v ∧ v ≤ 23 then va_up sv v.toNatClampNeg (1, (sv v.toNatClampNeg).2) else sv
theorem s_mk_0 {sv : Nat → sh_S} {v : Int32} {r : Nat} (hr : r < 24) (h : (s_mk sv v r).1 = 0) : s_mk sv v r = sv r ∧ v ≠ nI r := by
  unfold s_mk at h ⊢
  by_cases hv : 0 ≤ v ∧ v ≤ 23
  · rw [if_pos hv] at h ⊢
    by_cases e : r = v.toNatClampNeg
    · subst e
      rw [up_s] at h
      exact absurd (show (1 : Int32) = 0 from h) (by decide)
    · rw [up_n e]
      refine ⟨rfl, fun z => e ?_⟩
      rw [z, nI_clamp (by omega)]
  · rw [if_neg hv]
    exact ⟨rfl, fun z => hv (by rw [z]; exact ⟨nI_pos' (by omega), nI_le (b := 23) (by omega) (by omega)⟩)⟩
theorem c_X1_markStale {v : Int32} (hn : 106 ≤ n) : ga_Mx E 1 yX1_markStale cX1_markStale 2 none 0 0 [.ref 27, .int v] (n, (c0 :: c1 :: c2 :: c3 :: c4 :: c5 :: c6 :: c7 :: c8 :: c9 :: c10 :: c11 :: c12 :: c13 :: c14 :: c15 :: c16 :: c17 :: c18 :: c19 :: c20 :: c21 :: c22 :: c23 :: c24 :: c25 :: c26 :: k_B ka :: ga_r 3 24 b_w :: L1), L2, sh_f sv g) none (n, (c0 :: c1 :: c2 :: c3 :: c4 :: c5 :: c6 :: c7 :: c8 :: c9 :: c10 :: c11 :: c12 :: c13 :: c14 :: c15 :: c16 :: c17 :: c18 :: c19 :: c20 :: c21 :: c22 :: c23 :: c24 :: c25 :: c26 :: k_B ka :: ga_r 3 24 b_w :: L1), L2, sh_f (s_mk sv v) g) := by
  refine ga_Mt.of (by decide) rfl (fun X hX hP => ?_)
  refine g_less [some (.ref 27), some (.int v)] ⟨rfl, rfl, trivial⟩ ?_
  refine g_iload_n (nx := 1) hX 1 dX1_markStale_0 rfl rfl rfl ?_
  refine g_iconst (nx := 2) hX 0 dX1_markStale_1 rfl (by decide) ?_
  refine g_bipush (nx := 4) hX 23 dX1_markStale_2 rfl (by decide) ?_
  refine g_SN3 (nx := 7) hX dX1_markStale_4 rfl nX1_87 yX10_isWithin_ok (c_X10_isWithin) (by decide) rfl (Nat.le_of_ble_eq_true rfl) (Nat.le_of_ble_eq_true rfl) ?_
  rintro _ _ ⟨rfl, rfl⟩
  refine g_if_eq (nx := 10) hX 20 dX1_markStale_7 (by decide) rfl (fun h7 => ?_) (fun h7 => ?_)
  · exact g_return hX hP dX1_markStale_20 (Nat.le_of_ble_eq_true rfl) (Nat.le_of_ble_eq_true rfl) ⟨rfl, by rw [show s_mk sv v = sv from if_neg (ga_b_0 h7)]⟩
  · have hb := ga_b_n0 h7
    obtain ⟨j, hj, e, e2⟩ := v_ofle (k := 23) hb.1 hb.2 (by omega)
    have em : s_mk sv v = va_up sv j (1, (sv j).2) := by unfold s_mk; rw [if_pos hb, e2]
    clear e2 h7 hb
    subst e
    have hr : j < 24 := by omega
    refine g_aload_n (nx := 11) hX 0 dX1_markStale_10 rfl rfl rfl ?_
    refine g_getfield (nx := 14) hX dX1_markStale_11 rfl fX1_13 (ga_dn hn rfl) rfl rfl ?_
    refine g_iload_n (nx := 15) hX 1 dX1_markStale_14 rfl rfl rfl ?_
    refine g_aaload3 (nx := 16) hX dX1_markStale_15 rfl (ga_dn hn rfl) rfl (ga_ix_of rfl (by omega) (by omega)) ?_
    refine g_iconst (nx := 17) hX 1 dX1_markStale_16 rfl (by decide) ?_
    refine g_putfield (nx := 20) hX dX1_markStale_17 rfl pX1_55 (dm_o hn hr) (get_so hr) rfl rfl rfl ?_
    refine g_mem (put_so hr) ?_
    exact g_return hX hP dX1_markStale_20 (Nat.le_of_ble_eq_true rfl) (Nat.le_of_ble_eq_true rfl) ⟨rfl, by rw [em]⟩
theorem fg_loop {d mc ms : Nat} (hX : ga_B E d yX1_forget cX1_forget 2 mc ms X) (hd1 : 2 ≤ d) (hn : 106 ≤ n)
    (kont : ∀ sv : Nat → sh_S, (∀ r, r < 24 → ¬ (sv r).1 = 0) → ga_G E X 0 0 19 [some (.ref 27), none] [] (n, (c0 :: c1 :: c2 :: c3 :: c4 :: c5 :: c6 :: c7 :: c8 :: c9 :: c10 :: c11 :: c12 :: c13 :: c14 :: c15 :: c16 :: c17 :: c18 :: c19 :: c20 :: c21 :: c22 :: c23 :: c24 :: c25 :: c26 :: k_B ka :: ga_r 3 24 b_w :: L1), L2, sh_f sv g)) :
    ∀ (m k : Nat) (sv : Nat → sh_S), k ≤ 24 → 24 - k ≤ m → (∀ r, r < k → ¬ (sv r).1 = 0) → ga_G E X 0 0 2 [some (.ref 27), some (.int (nI k))] [] (n, (c0 :: c1 :: c2 :: c3 :: c4 :: c5 :: c6 :: c7 :: c8 :: c9 :: c10 :: c11 :: c12 :: c13 :: c14 :: c15 :: c16 :: c17 :: c18 :: c19 :: c20 :: c21 :: c22 :: c23 :: c24 :: c25 :: c26 :: k_B ka :: ga_r 3 24 b_w :: L1), L2, sh_f sv g) := by
  intro m
  induction m with
  | zero =>
    intro k sv h1 h2 h3
    have e : k = 24 := by omega
    subst e
    refine g_iload_n (nx := 3) hX 1 dX1_forget_2 rfl rfl rfl ?_
    refine g_bipush (nx := 5) hX 24 dX1_forget_3 rfl (by decide) ?_
    refine g_icmp_ge (nx := 8) hX 19 dX1_forget_5 (by decide) rfl (fun h5 => ?_) (fun h5 => ?_)
    · exact g_ls (kont sv h3) ⟨rfl, trivial⟩
    · exact absurd (show (24 : Int32) ≤ nI 24 by decide) h5
  | succ m ih =>
    intro k sv h1 h2 h3
    refine g_iload_n (nx := 3) hX 1 dX1_forget_2 rfl rfl rfl ?_
    refine g_bipush (nx := 5) hX 24 dX1_forget_3 rfl (by decide) ?_
    refine g_icmp_ge (nx := 8) hX 19 dX1_forget_5 (by decide) rfl (fun h5 => ?_) (fun h5 => ?_)
    · have e : k = 24 := by have := (nI_leI (a := 24) (b := k) (by omega) (by omega)).mp h5; omega
      subst e
      exact g_ls (kont sv h3) ⟨rfl, trivial⟩
    · have hlt : k < 24 := Nat.lt_of_not_le (fun q => h5 ((nI_leI (a := 24) (b := k) (by omega) (by omega)).mpr q))
      refine g_aload_n (nx := 9) hX 0 dX1_forget_8 rfl rfl rfl ?_
      refine g_iload_n (nx := 10) hX 1 dX1_forget_9 rfl rfl rfl ?_
      refine g_V1 (nx := 13) hX dX1_forget_10 rfl mX1_41 yX1_markStale_ok (c_X1_markStale hn) (ga_dn hn rfl) rfl rfl rfl (by omega) rfl (Nat.le_of_ble_eq_true rfl) (Nat.le_of_ble_eq_true rfl) ?_
      rintro _ _ ⟨rfl, rfl⟩
      refine g_iinc (nx := 16) hX 1 (nI (k + 1)) dX1_forget_13 rfl rfl rfl (nI_1 k) ?_
      refine g_goto (nx := 2) hX dX1_forget_16 (by decide) ?_
      exact ih (k + 1) _ (by omega) (by omega) (fun r hr hz => by
        have q := s_mk_0 (by omega) hz
        by_cases e : r = k
        · exact q.2 (by rw [e])
        · rw [q.1] at hz; exact h3 r (by omega) hz)
theorem c_X1_forget (hn : 106 ≤ n) : ga_Mt E 2 yX1_forget cX1_forget 2 none 0 0 [.ref 27] (n, (c0 :: c1 :: c2 :: c3 :: c4 :: c5 :: c6 :: c7 :: c8 :: c9 :: c10 :: c11 :: c12 :: c13 :: c14 :: c15 :: c16 :: c17 :: c18 :: c19 :: c20 :: c21 :: c22 :: c23 :: c24 :: c25 :: c26 :: k_B ka :: ga_r 3 24 b_w :: L1), L2, sh_f sv g) (fun w M => w = none ∧ ∃ sv : Nat → sh_S, (∀ r, r < 24 → ¬ (sv r).1 = 0) ∧ M = (n, (c0 :: c1 :: c2 :: c3 :: c4 :: c5 :: c6 :: c7 :: c8 :: c9 :: c10 :: c11 :: c12 :: c13 :: c14 :: c15 :: c16 :: c17 :: c18 :: c19 :: c20 :: c21 :: c22 :: c23 :: c24 :: c25 :: c26 :: k_B ka :: ga_r 3 24 b_w :: L1), L2, sh_f sv g)) := by
  refine ga_Mt.of (by decide) rfl (fun X hX hP => ?_)
  refine g_less [some (.ref 27), none] ⟨rfl, trivial⟩ ?_
  have tail : ∀ sv : Nat → sh_S, (∀ r, r < 24 → ¬ (sv r).1 = 0) → ga_G E X 0 0 19 [some (.ref 27), none] [] (n, (c0 :: c1 :: c2 :: c3 :: c4 :: c5 :: c6 :: c7 :: c8 :: c9 :: c10 :: c11 :: c12 :: c13 :: c14 :: c15 :: c16 :: c17 :: c18 :: c19 :: c20 :: c21 :: c22 :: c23 :: c24 :: c25 :: c26 :: k_B ka :: ga_r 3 24 b_w :: L1), L2, sh_f sv g) := by
    intro sv hs
    exact g_return hX hP dX1_forget_19 (Nat.le_of_ble_eq_true rfl) (Nat.le_of_ble_eq_true rfl) ⟨rfl, sv, hs, rfl⟩
  refine g_iconst (nx := 1) hX 0 dX1_forget_0 rfl (by decide) ?_
  refine g_istore_n (nx := 2) hX 1 dX1_forget_1 rfl rfl rfl ?_
  exact fg_loop hX (by decide) hn tail 24 0 sv (by omega) (by omega) (fun r hr => absurd hr (by omega))
/-- what is not stale is as it was, and no act between was of its rider -/
def b_mv (av : Nat → a_S) (lo hi : Nat) (sv0 sv : Nat → sh_S) : Prop := ∀ r, r < 24 → (sv r).1 = 0 → sv r = sv0 r ∧ ∀ k, lo < k → k ≤ hi → (av k).1 ≠ nI r
theorem mv_loop {d mc ms t mx mn : Nat} {sv0 : Nat → sh_S} (hX : ga_B E d yX1_moveTo cX1_moveTo 4 mc ms X) (hd1 : 3 ≤ d) (ha : an ≤ 400) (hmx : mx ≤ an)
    (kont : ∀ sv, b_mv av mn mx sv0 sv → ga_G E X 0 0 43 [some (.ref 27), some (.int (nI t)), none, none] [] (an + 106, (c0 :: c1 :: c2 :: c3 :: c4 :: c5 :: c6 :: c7 :: c8 :: k_L an :: ga_r 4 401 (l_w an) :: c11 :: c12 :: c13 :: c14 :: c15 :: c16 :: c17 :: c18 :: c19 :: c20 :: c21 :: c22 :: c23 :: c24 :: c25 :: c26 :: k_B ka :: ga_r 3 24 b_w :: L1), L2, sh_f sv (a_f av))) :
    ∀ (m k : Nat) (sv : Nat → sh_S), mn ≤ k → k ≤ mx → mx - k ≤ m → b_mv av mn k sv0 sv → ga_G E X 0 0 20 [some (.ref 27), some (.int (nI t)), some (.int (nI mx)), some (.int (nI (k + 1)))] [] (an + 106, (c0 :: c1 :: c2 :: c3 :: c4 :: c5 :: c6 :: c7 :: c8 :: k_L an :: ga_r 4 401 (l_w an) :: c11 :: c12 :: c13 :: c14 :: c15 :: c16 :: c17 :: c18 :: c19 :: c20 :: c21 :: c22 :: c23 :: c24 :: c25 :: c26 :: k_B ka :: ga_r 3 24 b_w :: L1), L2, sh_f sv (a_f av)) := by
  have hn : 106 ≤ an + 106 := by omega
  intro m
  induction m with
  | zero =>
    intro k sv h0 h1 h2 h3
    have e : k = mx := by omega
    subst e
    refine g_iload_n (nx := 21) hX 3 dX1_moveTo_20 rfl rfl rfl ?_
    refine g_iload_n (nx := 22) hX 2 dX1_moveTo_21 rfl rfl rfl ?_
    refine g_icmp_gt (nx := 25) hX 43 dX1_moveTo_22 (by decide) rfl (fun h22 => ?_) (fun h22 => ?_)
    · exact g_ls (kont sv h3) ⟨rfl, rfl, trivial⟩
    · exact absurd (nI_lt (Nat.lt_succ_self k) (by omega)) h22
  | succ m ih =>
    intro k sv h0 h1 h2 h3
    refine g_iload_n (nx := 21) hX 3 dX1_moveTo_20 rfl rfl rfl ?_
    refine g_iload_n (nx := 22) hX 2 dX1_moveTo_21 rfl rfl rfl ?_
    refine g_icmp_gt (nx := 25) hX 43 dX1_moveTo_22 (by decide) rfl (fun h22 => ?_) (fun h22 => ?_)
    · have e : k = mx := by have := (nI_ltI (a := mx) (b := k + 1) (by omega) (by omega)).mp h22; omega
      subst e
      exact g_ls (kont sv h3) ⟨rfl, rfl, trivial⟩
    · have hlt : k < mx := Nat.lt_of_not_le (fun q => h22 (nI_lt (by omega) (by omega)))
      refine g_aload_n (nx := 26) hX 0 dX1_moveTo_25 rfl rfl rfl ?_
      refine g_aload_n (nx := 27) hX 0 dX1_moveTo_26 rfl rfl rfl ?_
      refine g_getfield (nx := 30) hX dX1_moveTo_27 rfl fX1_23 (ga_dn hn rfl) rfl rfl ?_
      refine g_iload_n (nx := 31) hX 3 dX1_moveTo_30 rfl rfl rfl ?_
      refine g_V1 (nx := 34) hX dX1_moveTo_31 rfl mX1_81 yX3_riderOf_ok (c_X3_riderOf ha (k := k + 1) (by omega) (by omega)) (ga_dn hn rfl) rfl rfl rfl (by omega) rfl (Nat.le_of_ble_eq_true rfl) (Nat.le_of_ble_eq_true rfl) ?_
      rintro _ _ ⟨rfl, rfl⟩
      refine g_V1 (nx := 37) hX dX1_moveTo_34 rfl mX1_41 yX1_markStale_ok (c_X1_markStale hn) (ga_dn hn rfl) rfl rfl rfl (by omega) rfl (Nat.le_of_ble_eq_true rfl) (Nat.le_of_ble_eq_true rfl) ?_
      rintro _ _ ⟨rfl, rfl⟩
      refine g_iinc (nx := 40) hX 3 (nI (k + 1 + 1)) dX1_moveTo_37 rfl rfl rfl (nI_1 (k + 1)) ?_
      refine g_goto (nx := 20) hX dX1_moveTo_40 (by decide) ?_
      exact ih (k + 1) _ (by omega) (by omega) (by omega) (fun r hr hz => by
        have q := s_mk_0 hr hz
        rw [q.1] at hz ⊢
        refine ⟨(h3 r hr hz).1, fun j hj1 hj2 => ?_⟩
        by_cases e : j = k + 1
        · rw [e]; exact q.2
        · exact (h3 r hr hz).2 j hj1 (by omega))
theorem ga_mn_N {a b : Nat} (ha : a < 2147483648) (hb : b < 2147483648) : ga_mn (nI a) (nI b) = nI (min a b) := by
  unfold ga_mn
  by_cases h : a ≤ b
  · rw [if_pos (nI_le h (by omega)), Nat.min_eq_left h]
  · rw [if_neg (fun z => h ((nI_leI (by omega) (by omega)).mp z)), Nat.min_eq_right (by omega)]
theorem ga_mx_N {a b : Nat} (ha : a < 2147483648) (hb : b < 2147483648) : ga_mx (nI a) (nI b) = nI (max a b) := by
  unfold ga_mx
  by_cases h : a < b
  · rw [if_pos (nI_lt h (by omega)), Nat.max_eq_right (by omega)]
  · rw [if_neg (fun z => h ((nI_ltI (by omega) (by omega)).mp z)), Nat.max_eq_left (by omega)]
theorem c_X1_moveTo {t : Nat} (ha : an ≤ 400) (hka : ka ≤ an) (ht : t ≤ an) : ga_Mt E 3 yX1_moveTo cX1_moveTo 4 none 0 0 [.ref 27, .int (nI t)] (an + 106, (c0 :: c1 :: c2 :: c3 :: c4 :: c5 :: c6 :: c7 :: c8 :: k_L an :: ga_r 4 401 (l_w an) :: c11 :: c12 :: c13 :: c14 :: c15 :: c16 :: c17 :: c18 :: c19 :: c20 :: c21 :: c22 :: c23 :: c24 :: c25 :: c26 :: k_B ka :: ga_r 3 24 b_w :: L1), L2, sh_f sv (a_f av)) (fun w M => w = none ∧ ∃ sv', b_mv av (min ka t) (max ka t) sv sv' ∧ M = (an + 106, (c0 :: c1 :: c2 :: c3 :: c4 :: c5 :: c6 :: c7 :: c8 :: k_L an :: ga_r 4 401 (l_w an) :: c11 :: c12 :: c13 :: c14 :: c15 :: c16 :: c17 :: c18 :: c19 :: c20 :: c21 :: c22 :: c23 :: c24 :: c25 :: c26 :: k_B t :: ga_r 3 24 b_w :: L1), L2, sh_f sv' (a_f av))) := by
  have hn : 106 ≤ an + 106 := by omega
  have e1 := ga_mn_N (a := ka) (b := t) (by omega) (by omega)
  have e2 := ga_mx_N (a := ka) (b := t) (by omega) (by omega)
  refine ga_Mt.of (by decide) rfl (fun X hX hP => ?_)
  refine g_less [some (.ref 27), some (.int (nI t)), none, none] ⟨rfl, rfl, trivial⟩ ?_
  have tail : ∀ sv', b_mv av (min ka t) (max ka t) sv sv' → ga_G E X 0 0 43 [some (.ref 27), some (.int (nI t)), none, none] [] (an + 106, (c0 :: c1 :: c2 :: c3 :: c4 :: c5 :: c6 :: c7 :: c8 :: k_L an :: ga_r 4 401 (l_w an) :: c11 :: c12 :: c13 :: c14 :: c15 :: c16 :: c17 :: c18 :: c19 :: c20 :: c21 :: c22 :: c23 :: c24 :: c25 :: c26 :: k_B ka :: ga_r 3 24 b_w :: L1), L2, sh_f sv' (a_f av)) := by
    intro sv' hs
    refine g_aload_n (nx := 44) hX 0 dX1_moveTo_43 rfl rfl rfl ?_
    refine g_iload_n (nx := 45) hX 1 dX1_moveTo_44 rfl rfl rfl ?_
    refine g_putfield (nx := 48) hX dX1_moveTo_45 rfl pX1_69 (ga_dn hn rfl) rfl rfl rfl rfl ?_
    exact g_return hX hP dX1_moveTo_48 (Nat.le_of_ble_eq_true rfl) (Nat.le_of_ble_eq_true rfl) ⟨rfl, sv', hs, rfl⟩
  refine g_aload_n (nx := 1) hX 0 dX1_moveTo_0 rfl rfl rfl ?_
  refine g_getfield (nx := 4) hX dX1_moveTo_1 rfl fX1_69 (ga_dn hn rfl) rfl rfl ?_
  refine g_iload_n (nx := 5) hX 1 dX1_moveTo_4 rfl rfl rfl ?_
  refine g_S2 (nx := 8) hX dX1_moveTo_5 rfl mX1_72 yJ9_max_7cf53_ok (c_J9_max_7cf53) (by decide) rfl (Nat.le_of_ble_eq_true rfl) (Nat.le_of_ble_eq_true rfl) ?_
  rintro _ _ ⟨rfl, rfl⟩
  rw [e2]
  refine g_istore_n (nx := 9) hX 2 dX1_moveTo_8 rfl rfl rfl ?_
  refine g_aload_n (nx := 10) hX 0 dX1_moveTo_9 rfl rfl rfl ?_
  refine g_getfield (nx := 13) hX dX1_moveTo_10 rfl fX1_69 (ga_dn hn rfl) rfl rfl ?_
  refine g_iload_n (nx := 14) hX 1 dX1_moveTo_13 rfl rfl rfl ?_
  refine g_S2 (nx := 17) hX dX1_moveTo_14 rfl mX1_78 yJ9_min_7cf53_ok (c_J9_min_7cf53) (by decide) rfl (Nat.le_of_ble_eq_true rfl) (Nat.le_of_ble_eq_true rfl) ?_
  rintro _ _ ⟨rfl, rfl⟩
  rw [e1]
  refine g_iconst (nx := 18) hX 1 dX1_moveTo_17 rfl (by decide) ?_
  refine g_iadd (nx := 19) hX dX1_moveTo_18 rfl ?_
  rw [nI_1]
  refine g_istore_n (nx := 20) hX 3 dX1_moveTo_19 rfl rfl rfl ?_
  exact mv_loop hX (by decide) ha (by omega) tail _ (min ka t) sv (Nat.le_refl _) (by omega) (Nat.le_refl _) (fun r hr hz => ⟨rfl, fun k h1 h2 => absurd h1 (by omega)⟩)
theorem c_X1_sheetAt {v : Int32} (hn : 106 ≤ n) (hr : rn ≤ 24) : ga_Mx E 2 yX1_sheetAt cX1_sheetAt 2 (some (.object "ThreeDays$Sheet")) 0 0 [.ref 27, .int v] (n, (c0 :: c1 :: c2 :: k_R rn :: c4 :: c5 :: c6 :: c7 :: c8 :: c9 :: c10 :: c11 :: c12 :: c13 :: c14 :: c15 :: c16 :: c17 :: c18 :: c19 :: c20 :: c21 :: c22 :: c23 :: c24 :: c25 :: c26 :: k_B ka :: ga_r 3 24 b_w :: L1), L2, f) (some (ga_rf (if 0 ≤ v ∧ v < nI rn then some (2 * v.toNatClampNeg + 31) else none))) (n, (c0 :: c1 :: c2 :: k_R rn :: c4 :: c5 :: c6 :: c7 :: c8 :: c9 :: c10 :: c11 :: c12 :: c13 :: c14 :: c15 :: c16 :: c17 :: c18 :: c19 :: c20 :: c21 :: c22 :: c23 :: c24 :: c25 :: c26 :: k_B ka :: ga_r 3 24 b_w :: L1), L2, f) := by
  refine ga_Mt.of (by decide) rfl (fun X hX hP => ?_)
  refine g_less [some (.ref 27), some (.int v)] ⟨rfl, rfl, trivial⟩ ?_
  refine g_aload_n (nx := 1) hX 0 dX1_sheetAt_0 rfl rfl rfl ?_
  refine g_getfield (nx := 4) hX dX1_sheetAt_1 rfl fX1_19 (ga_dn hn rfl) rfl rfl ?_
  refine g_iload_n (nx := 5) hX 1 dX1_sheetAt_4 rfl rfl rfl ?_
  refine g_V1 (nx := 8) hX dX1_sheetAt_5 rfl mX1_91 yX5_has_ok (c_X5_has hn hr) (ga_dn hn rfl) rfl rfl rfl (by decide) rfl (Nat.le_of_ble_eq_true rfl) (Nat.le_of_ble_eq_true rfl) ?_
  rintro _ _ ⟨rfl, rfl⟩
  refine g_if_eq (nx := 11) hX 20 dX1_sheetAt_8 (by decide) rfl (fun h8 => ?_) (fun h8 => ?_)
  · refine g_aconst_null (nx := 21) hX dX1_sheetAt_20 rfl ?_
    exact g_areturn hX hP dX1_sheetAt_21 (Or.inl rfl) (Nat.le_of_ble_eq_true rfl) (Nat.le_of_ble_eq_true rfl) ⟨by rw [if_neg (ga_b_0 h8)]; rfl, rfl⟩
  · have hb := ga_b_n0 h8
    refine g_aload_n (nx := 12) hX 0 dX1_sheetAt_11 rfl rfl rfl ?_
    refine g_getfield (nx := 15) hX dX1_sheetAt_12 rfl fX1_13 (ga_dn hn rfl) rfl rfl ?_
    refine g_iload_n (nx := 16) hX 1 dX1_sheetAt_15 rfl rfl rfl ?_
    refine g_aaload3 (nx := 17) hX dX1_sheetAt_16 rfl (ga_dn hn rfl) rfl (ix_lt hb.1 hb.2 hr (by omega)) ?_
    refine g_goto (nx := 21) hX dX1_sheetAt_17 (by decide) ?_
    exact g_areturn hX hP dX1_sheetAt_21 (Or.inr ⟨_, rfl⟩) (Nat.le_of_ble_eq_true rfl) (Nat.le_of_ble_eq_true rfl) ⟨by rw [if_pos hb], rfl⟩
end
