/-! ===== places, ring, teams of the class ===== -/
def p_na (fo : Nat → Int32) (sm : Nat) (sv : Nat → sh_S) (x : sh_S) : Nat → Nat
  | 0 => 0
  | k + 1 => p_na fo sm sv x k + if s_of (sv k) = 0 ∧ s_cp fo sm (sv k) x < 0 then 1 else 0
theorem p_na_le (fo : Nat → Int32) (sm : Nat) (sv : Nat → sh_S) (x : sh_S) : ∀ k, p_na fo sm sv x k ≤ k
  | 0 => Nat.le_refl 0
  | k + 1 => by have := p_na_le fo sm sv x k; unfold p_na; split <;> omega
def p_ne (fo : Nat → Int32) (sm : Nat) (sv : Nat → sh_S) (r : Nat) : Nat → Nat
  | 0 => 0
  | k + 1 => p_ne fo sm sv r k + if s_of (sv k) = 0 ∧ (0 < s_cp fo sm (sv k) (sv r) ∨ s_cp fo sm (sv k) (sv r) = 0 ∧ r < k) then 1 else 0
theorem p_ne_le (fo : Nat → Int32) (sm : Nat) (sv : Nat → sh_S) (r : Nat) : ∀ k, p_ne fo sm sv r k ≤ k
  | 0 => Nat.le_refl 0
  | k + 1 => by have := p_ne_le fo sm sv r k; unfold p_ne; split <;> omega
def p_pl (fo : Nat → Int32) (sm rn : Nat) (sv : Nat → sh_S) (r : Nat) : Int32 := if s_of (sv r) = 0 then nI (1 + p_na fo sm sv (sv r) rn) else 0
/-- the first one, from a place on -/
def p_fd (P : Nat → Bool) (rn : Nat) : Nat → Int32
  | 0 => -1
  | m + 1 => if P (rn - (m + 1)) = true then nI (rn - (m + 1)) else p_fd P rn m
def p_rg (fo : Nat → Int32) (sm rn : Nat) (sv : Nat → sh_S) (i : Int32) : Int32 := p_fd (fun r => decide (s_of (sv r) = 0 ∧ nI (p_ne fo sm sv r rn) = i)) rn rn
abbrev p_in (tm : Nat → Int32) (sv : Nat → sh_S) (t : Int32) (k : Nat) : Prop := tm k = t ∧ s_of (sv k) = 0
def p_ts (tm : Nat → Int32) (sv : Nat → sh_S) (t : Int32) : Nat → Int64 × Int64 × Nat
  | 0 => (0, 0, 0)
  | k + 1 => if p_in tm sv t k then ((p_ts tm sv t k).1 + s_tt (sv k), if (p_ts tm sv t k).2.2 = 0 then s_tt (sv k) else e_mxl (p_ts tm sv t k).2.1 (s_tt (sv k)), (p_ts tm sv t k).2.2 + 1) else p_ts tm sv t k
theorem p_ts_le (tm : Nat → Int32) (sv : Nat → sh_S) (t : Int32) : ∀ k, (p_ts tm sv t k).2.2 ≤ k
  | 0 => Nat.le_refl 0
  | k + 1 => by
    have := p_ts_le tm sv t k
    unfold p_ts
    split
    · show (p_ts tm sv t k).2.2 + 1 ≤ k + 1; omega
    · omega
def p_sum (tm : Nat → Int32) (sv : Nat → sh_S) (rn : Nat) (t : Int32) : Int64 := if 3 < (p_ts tm sv t rn).2.2 then (p_ts tm sv t rn).1 - (p_ts tm sv t rn).2.1 else (p_ts tm sv t rn).1 + 10000 * (3 - nI (p_ts tm sv t rn).2.2).toInt64
def p_tl (tm : Nat → Int32) (sv : Nat → sh_S) (t : Int32) : Nat → Int32 × Int64
  | 0 => (0, 10000)
  | k + 1 => if p_in tm sv t k then (1, if (p_tl tm sv t k).1 = 0 then s_tt (sv k) else e_mnl (p_tl tm sv t k).2 (s_tt (sv k))) else p_tl tm sv t k
abbrev p_ahd (tm sz : Nat → Int32) (sv : Nat → sh_S) (rn : Nat) (t : Int32) (k : Nat) : Prop := 0 < r_so sz (nI k) ∧ (p_sum tm sv rn (nI k) < p_sum tm sv rn t ∨ p_sum tm sv rn (nI k) = p_sum tm sv rn t ∧ (p_tl tm sv (nI k) rn).2 < (p_tl tm sv t rn).2)
def p_tp (tm sz : Nat → Int32) (sv : Nat → sh_S) (rn : Nat) (t : Int32) : Nat → Nat
  | 0 => 1
  | k + 1 => p_tp tm sz sv rn t k + if p_ahd tm sz sv rn t k then 1 else 0
section
variable {E : ga_E} {X : ga_X} {n : Nat} {c0 c1 c2 c3 c4 c5 c6 c7 c8 c9 c10 c11 c12 c13 c14 c15 c16 c17 c18 c19 c20 c21 c22 c23 c24 c25 c26 c27 c28 c29 c30 m79 m80 m81 m82 m83 m84 m85 m86 m87 m88 m89 m90 m91 m92 m93 m94 m95 m96 m97 m98 m99 m100 m101 m102 m103 m104 m105 : ga_C} {L1 L2 : List ga_C} {f : Nat → ga_C} {o_tp o_rd o_fe o_em o_sp o_ac o_td o_sm o_tt o_at o_sz o_fk o_fp o_nw o_md o_nt o_pl o_op d_at d_tk d_ta d_fd d_fa : Int32} {d_tv : Int64} {d_rl : Value}
variable {size tot fm em sp op ask top hd : Int32} {s : Nat → Int64} {sv : Nat → sh_S} {av : Nat → a_S} {r q rn fn an ka sm : Nat} {cd : Nat → Nat × Nat} {en : Nat → Nat} {fo st_ od eo tm sz ah ou se : Nat → Int32} {ol : Nat → Option Nat}
variable {g : Nat → ga_C}
theorem na_loop {d mc ms : Nat} (hX : ga_B E d yX1_numberAhead cX1_numberAhead 4 mc ms X) (hd1 : 2 ≤ d) (hn : 106 ≤ n) (hr : rn ≤ 24) (hq : q < 24) (hs : sm ≤ 24)
    (kont : ga_G E X 0 0 53 [some (.ref 27), some (.ref (2 * q + 31)), some (.int (nI (p_na fo sm sv (sv q) rn))), none] [] (n, (k_0 ask :: c1 :: c2 :: k_R rn :: ga_i 24 tm :: ga_i 6 sz :: k_C fm em sp fn op :: ga_i 32 ah :: ga_i 30 ou :: k_L an :: ga_r 4 401 (l_w an) :: ga_r 4 24 ol :: c12 :: c13 :: c14 :: k_U 15 top size tot (nI sm) :: ga_i 600 st_ :: ga_i 600 od :: ga_i 24 eo :: ga_i 24 fo :: ga_l 32 s :: c21 :: c22 :: c23 :: c24 :: c25 :: c26 :: k_B ka :: ga_r 3 24 b_w :: k_Y hd :: ga_i 120 se :: []), L2, sh_f sv g)) :
    ∀ (m k : Nat), k ≤ rn → rn - k ≤ m → ga_G E X 0 0 4 [some (.ref 27), some (.ref (2 * q + 31)), some (.int (nI (p_na fo sm sv (sv q) k))), some (.int (nI k))] [] (n, (k_0 ask :: c1 :: c2 :: k_R rn :: ga_i 24 tm :: ga_i 6 sz :: k_C fm em sp fn op :: ga_i 32 ah :: ga_i 30 ou :: k_L an :: ga_r 4 401 (l_w an) :: ga_r 4 24 ol :: c12 :: c13 :: c14 :: k_U 15 top size tot (nI sm) :: ga_i 600 st_ :: ga_i 600 od :: ga_i 24 eo :: ga_i 24 fo :: ga_l 32 s :: c21 :: c22 :: c23 :: c24 :: c25 :: c26 :: k_B ka :: ga_r 3 24 b_w :: k_Y hd :: ga_i 120 se :: []), L2, sh_f sv g) := by
  intro m
  induction m with
  | zero =>
    intro k h1 h2
    have e : k = rn := by omega
    subst e
    refine g_iload_n (nx := 5) hX 3 dX1_numberAhead_4 rfl rfl rfl ?_
    refine g_aload_n (nx := 6) hX 0 dX1_numberAhead_5 rfl rfl rfl ?_
    refine g_getfield (nx := 9) hX dX1_numberAhead_6 rfl fX1_19 (ga_dn hn rfl) rfl rfl ?_
    refine g_getfield (nx := 12) hX dX1_numberAhead_9 rfl fX1_51 (ga_dn hn rfl) rfl rfl ?_
    refine g_icmp_ge (nx := 15) hX 53 dX1_numberAhead_12 (by decide) rfl (fun h12 => ?_) (fun h12 => ?_)
    · exact g_ls kont ⟨rfl, rfl, rfl, trivial⟩
    · exact absurd (nI_le (Nat.le_refl k) (by omega)) h12
  | succ m ih =>
    intro k h1 h2
    refine g_iload_n (nx := 5) hX 3 dX1_numberAhead_4 rfl rfl rfl ?_
    refine g_aload_n (nx := 6) hX 0 dX1_numberAhead_5 rfl rfl rfl ?_
    refine g_getfield (nx := 9) hX dX1_numberAhead_6 rfl fX1_19 (ga_dn hn rfl) rfl rfl ?_
    refine g_getfield (nx := 12) hX dX1_numberAhead_9 rfl fX1_51 (ga_dn hn rfl) rfl rfl ?_
    refine g_icmp_ge (nx := 15) hX 53 dX1_numberAhead_12 (by decide) rfl (fun h12 => ?_) (fun h12 => ?_)
    · have e : k = rn := by have := (nI_leI (a := rn) (b := k) (by omega) (by omega)).mp h12; omega
      subst e
      exact g_ls kont ⟨rfl, rfl, rfl, trivial⟩
    · have hlt : k < rn := Nat.lt_of_not_le (fun z => h12 (nI_le z (by omega)))
      have hk : k < 24 := by omega
      have ih1 := ih (k + 1) (by omega) (by omega)
      rw [p_na] at ih1
      refine g_aload_n (nx := 16) hX 0 dX1_numberAhead_15 rfl rfl rfl ?_
      refine g_getfield (nx := 19) hX dX1_numberAhead_16 rfl fX1_13 (ga_dn hn rfl) rfl rfl ?_
      refine g_iload_n (nx := 20) hX 3 dX1_numberAhead_19 rfl rfl rfl ?_
      refine g_aaload3 (nx := 21) hX dX1_numberAhead_20 rfl (ga_dn hn rfl) rfl (ga_ix_of (j := k) rfl (by omega) (by omega)) ?_
      refine g_getfield (nx := 24) hX dX1_numberAhead_21 rfl fX1_99 (dm_o hn hk) (get_so hk) rfl ?_
      refine g_if_ne (nx := 27) hX 47 dX1_numberAhead_24 (by decide) rfl (fun h24 => ?_) (fun h24 => ?_)
      · rw [if_neg (fun z => h24 z.1), Nat.add_zero] at ih1
        refine g_iinc (nx := 50) hX 3 (nI (k + 1)) dX1_numberAhead_47 rfl rfl rfl (nI_1 k) ?_
        refine g_goto (nx := 4) hX dX1_numberAhead_50 (by decide) ?_
        exact ih1
      · refine g_aload_n (nx := 28) hX 0 dX1_numberAhead_27 rfl rfl rfl ?_
        refine g_getfield (nx := 31) hX dX1_numberAhead_28 rfl fX1_27 (ga_dn hn rfl) rfl rfl ?_
        refine g_aload_n (nx := 32) hX 0 dX1_numberAhead_31 rfl rfl rfl ?_
        refine g_getfield (nx := 35) hX dX1_numberAhead_32 rfl fX1_13 (ga_dn hn rfl) rfl rfl ?_
        refine g_iload_n (nx := 36) hX 3 dX1_numberAhead_35 rfl rfl rfl ?_
        refine g_aaload3 (nx := 37) hX dX1_numberAhead_36 rfl (ga_dn hn rfl) rfl (ga_ix_of (j := k) rfl (by omega) (by omega)) ?_
        refine g_aload_n (nx := 38) hX 1 dX1_numberAhead_37 rfl rfl rfl ?_
        refine g_V2 (nx := 41) hX dX1_numberAhead_38 rfl mX1_106 yX6_compare_ok (c_X6_compare hn hk hq hs) (ga_dn hn rfl) rfl rfl rfl (by omega) rfl (Nat.le_of_ble_eq_true rfl) (Nat.le_of_ble_eq_true rfl) ?_
        rintro _ _ ⟨rfl, rfl⟩
        refine g_if_ge (nx := 44) hX 47 dX1_numberAhead_41 (by decide) rfl (fun h41 => ?_) (fun h41 => ?_)
        · rw [if_neg (fun z => ga_len h41 z.2), Nat.add_zero] at ih1
          refine g_iinc (nx := 50) hX 3 (nI (k + 1)) dX1_numberAhead_47 rfl rfl rfl (nI_1 k) ?_
          refine g_goto (nx := 4) hX dX1_numberAhead_50 (by decide) ?_
          exact ih1
        · rw [if_pos ⟨h24, ga_nle h41⟩] at ih1
          refine g_iinc (nx := 47) hX 2 (nI (p_na fo sm sv (sv q) k + 1)) dX1_numberAhead_44 rfl rfl rfl (nI_1 _) ?_
          refine g_iinc (nx := 50) hX 3 (nI (k + 1)) dX1_numberAhead_47 rfl rfl rfl (nI_1 k) ?_
          refine g_goto (nx := 4) hX dX1_numberAhead_50 (by decide) ?_
          exact ih1
theorem c_X1_numberAhead (hn : 106 ≤ n) (hr : rn ≤ 24) (hq : q < 24) (hs : sm ≤ 24) : ga_Mx E 2 yX1_numberAhead cX1_numberAhead 4 (some .int) 0 0 [.ref 27, .ref (2 * q + 31)] (n, (k_0 ask :: c1 :: c2 :: k_R rn :: ga_i 24 tm :: ga_i 6 sz :: k_C fm em sp fn op :: ga_i 32 ah :: ga_i 30 ou :: k_L an :: ga_r 4 401 (l_w an) :: ga_r 4 24 ol :: c12 :: c13 :: c14 :: k_U 15 top size tot (nI sm) :: ga_i 600 st_ :: ga_i 600 od :: ga_i 24 eo :: ga_i 24 fo :: ga_l 32 s :: c21 :: c22 :: c23 :: c24 :: c25 :: c26 :: k_B ka :: ga_r 3 24 b_w :: k_Y hd :: ga_i 120 se :: []), L2, sh_f sv g) (some (.int (nI (p_na fo sm sv (sv q) rn)))) (n, (k_0 ask :: c1 :: c2 :: k_R rn :: ga_i 24 tm :: ga_i 6 sz :: k_C fm em sp fn op :: ga_i 32 ah :: ga_i 30 ou :: k_L an :: ga_r 4 401 (l_w an) :: ga_r 4 24 ol :: c12 :: c13 :: c14 :: k_U 15 top size tot (nI sm) :: ga_i 600 st_ :: ga_i 600 od :: ga_i 24 eo :: ga_i 24 fo :: ga_l 32 s :: c21 :: c22 :: c23 :: c24 :: c25 :: c26 :: k_B ka :: ga_r 3 24 b_w :: k_Y hd :: ga_i 120 se :: []), L2, sh_f sv g) := by
  refine ga_Mt.of (by decide) rfl (fun X hX hP => ?_)
  refine g_less [some (.ref 27), some (.ref (2 * q + 31)), none, none] ⟨rfl, rfl, trivial⟩ ?_
  have tail : ga_G E X 0 0 53 [some (.ref 27), some (.ref (2 * q + 31)), some (.int (nI (p_na fo sm sv (sv q) rn))), none] [] (n, (k_0 ask :: c1 :: c2 :: k_R rn :: ga_i 24 tm :: ga_i 6 sz :: k_C fm em sp fn op :: ga_i 32 ah :: ga_i 30 ou :: k_L an :: ga_r 4 401 (l_w an) :: ga_r 4 24 ol :: c12 :: c13 :: c14 :: k_U 15 top size tot (nI sm) :: ga_i 600 st_ :: ga_i 600 od :: ga_i 24 eo :: ga_i 24 fo :: ga_l 32 s :: c21 :: c22 :: c23 :: c24 :: c25 :: c26 :: k_B ka :: ga_r 3 24 b_w :: k_Y hd :: ga_i 120 se :: []), L2, sh_f sv g) := by
    refine g_iload_n (nx := 54) hX 2 dX1_numberAhead_53 rfl rfl rfl ?_
    exact g_ireturn hX hP dX1_numberAhead_54 rfl (Nat.le_of_ble_eq_true rfl) (Nat.le_of_ble_eq_true rfl) ⟨rfl, rfl⟩
  refine g_iconst (nx := 1) hX 0 dX1_numberAhead_0 rfl (by decide) ?_
  refine g_istore_n (nx := 2) hX 2 dX1_numberAhead_1 rfl rfl rfl ?_
  refine g_iconst (nx := 3) hX 0 dX1_numberAhead_2 rfl (by decide) ?_
  refine g_istore_n (nx := 4) hX 3 dX1_numberAhead_3 rfl rfl rfl ?_
  exact na_loop hX (by decide) hn hr hq hs tail rn 0 (by omega) (by omega)
theorem c_X1_placeOf {v : Int32} (hn : 106 ≤ n) (hr : rn ≤ 24) (hs : sm ≤ 24) : ga_Mx E 3 yX1_placeOf cX1_placeOf 3 (some .int) 0 0 [.ref 27, .int v] (n, (k_0 ask :: c1 :: c2 :: k_R rn :: ga_i 24 tm :: ga_i 6 sz :: k_C fm em sp fn op :: ga_i 32 ah :: ga_i 30 ou :: k_L an :: ga_r 4 401 (l_w an) :: ga_r 4 24 ol :: c12 :: c13 :: c14 :: k_U 15 top size tot (nI sm) :: ga_i 600 st_ :: ga_i 600 od :: ga_i 24 eo :: ga_i 24 fo :: ga_l 32 s :: c21 :: c22 :: c23 :: c24 :: c25 :: c26 :: k_B ka :: ga_r 3 24 b_w :: k_Y hd :: ga_i 120 se :: []), L2, sh_f sv g) (some (.int (if 0 ≤ v ∧ v < nI rn then p_pl fo sm rn sv v.toNatClampNeg else -1))) (n, (k_0 ask :: c1 :: c2 :: k_R rn :: ga_i 24 tm :: ga_i 6 sz :: k_C fm em sp fn op :: ga_i 32 ah :: ga_i 30 ou :: k_L an :: ga_r 4 401 (l_w an) :: ga_r 4 24 ol :: c12 :: c13 :: c14 :: k_U 15 top size tot (nI sm) :: ga_i 600 st_ :: ga_i 600 od :: ga_i 24 eo :: ga_i 24 fo :: ga_l 32 s :: c21 :: c22 :: c23 :: c24 :: c25 :: c26 :: k_B ka :: ga_r 3 24 b_w :: k_Y hd :: ga_i 120 se :: []), L2, sh_f sv g) := by
  by_cases hv : 0 ≤ v ∧ v < nI rn
  · rw [if_pos hv]
    obtain ⟨j, hj, e, e2⟩ := v_of hv.1 hv.2 (by omega)
    rw [e2]
    have hw : (if 0 ≤ v ∧ v < nI rn then some (2 * v.toNatClampNeg + 31) else none) = some (2 * j + 31) := by rw [if_pos hv, e2]
    have hk : j < 24 := by omega
    refine ga_Mt.of (by decide) rfl (fun X hX hP => ?_)
    refine g_less [some (.ref 27), some (.int v), none] ⟨rfl, rfl, trivial⟩ ?_
    refine g_aload_n (nx := 1) hX 0 dX1_placeOf_0 rfl rfl rfl ?_
    refine g_iload_n (nx := 2) hX 1 dX1_placeOf_1 rfl rfl rfl ?_
    refine g_V1 (nx := 5) hX dX1_placeOf_2 rfl mX1_95 yX1_sheetAt_ok (c_X1_sheetAt hn hr) (ga_dn hn rfl) rfl rfl rfl (by decide) rfl (Nat.le_of_ble_eq_true rfl) (Nat.le_of_ble_eq_true rfl) ?_
    rintro _ _ ⟨rfl, rfl⟩
    rw [hw]
    refine g_astore_n (nx := 6) hX 2 dX1_placeOf_5 rfl rfl rfl ?_
    refine g_aload_n (nx := 7) hX 2 dX1_placeOf_6 rfl rfl rfl ?_
    refine g_ifnonnull hX 12 dX1_placeOf_7 (by decide) ?_
    refine g_aload_n (nx := 13) hX 2 dX1_placeOf_12 rfl rfl rfl ?_
    refine g_getfield (nx := 16) hX dX1_placeOf_13 rfl fX1_99 (dm_o hn hk) (get_so hk) rfl ?_
    refine g_if_eq (nx := 19) hX 23 dX1_placeOf_16 (by decide) rfl (fun h16 => ?_) (fun h16 => ?_)
    · refine g_iconst (nx := 24) hX 1 dX1_placeOf_23 rfl (by decide) ?_
      refine g_aload_n (nx := 25) hX 0 dX1_placeOf_24 rfl rfl rfl ?_
      refine g_aload_n (nx := 26) hX 2 dX1_placeOf_25 rfl rfl rfl ?_
      refine g_V1 (nx := 29) hX dX1_placeOf_26 rfl mX1_102 yX1_numberAhead_ok (c_X1_numberAhead hn hr hk hs) (ga_dn hn rfl) rfl rfl rfl (by decide) rfl (Nat.le_of_ble_eq_true rfl) (Nat.le_of_ble_eq_true rfl) ?_
      rintro _ _ ⟨rfl, rfl⟩
      refine g_iadd (nx := 30) hX dX1_placeOf_29 rfl ?_
      exact g_ireturn hX hP dX1_placeOf_30 rfl (Nat.le_of_ble_eq_true rfl) (Nat.le_of_ble_eq_true rfl) ⟨by unfold p_pl; rw [if_pos h16]; rw [show (1 : Int32) = nI 1 from rfl, nI_add], rfl⟩
    · refine g_iconst (nx := 20) hX 0 dX1_placeOf_19 rfl (by decide) ?_
      refine g_goto (nx := 30) hX dX1_placeOf_20 (by decide) ?_
      exact g_ireturn hX hP dX1_placeOf_30 rfl (Nat.le_of_ble_eq_true rfl) (Nat.le_of_ble_eq_true rfl) ⟨by unfold p_pl; rw [if_neg h16], rfl⟩
  · rw [if_neg hv]
    have hw : (if 0 ≤ v ∧ v < nI rn then some (2 * v.toNatClampNeg + 31) else none) = none := by rw [if_neg hv]
    refine ga_Mt.of (by decide) rfl (fun X hX hP => ?_)
    refine g_less [some (.ref 27), some (.int v), none] ⟨rfl, rfl, trivial⟩ ?_
    refine g_aload_n (nx := 1) hX 0 dX1_placeOf_0 rfl rfl rfl ?_
    refine g_iload_n (nx := 2) hX 1 dX1_placeOf_1 rfl rfl rfl ?_
    refine g_V1 (nx := 5) hX dX1_placeOf_2 rfl mX1_95 yX1_sheetAt_ok (c_X1_sheetAt hn hr) (ga_dn hn rfl) rfl rfl rfl (by decide) rfl (Nat.le_of_ble_eq_true rfl) (Nat.le_of_ble_eq_true rfl) ?_
    rintro _ _ ⟨rfl, rfl⟩
    rw [hw]
    refine g_astore_nN (nx := 6) hX 2 dX1_placeOf_5 rfl rfl rfl ?_
    refine g_aload_nN (nx := 7) hX 2 dX1_placeOf_6 rfl rfl rfl ?_
    refine g_ifnonnullN (nx := 10) hX dX1_placeOf_7 rfl ?_
    refine g_iconst (nx := 11) hX (-1) dX1_placeOf_10 rfl (by decide) ?_
    exact g_ireturn hX hP dX1_placeOf_11 rfl (Nat.le_of_ble_eq_true rfl) (Nat.le_of_ble_eq_true rfl) ⟨rfl, rfl⟩
theorem ne_loop {d mc ms : Nat} (hX : ga_B E d yX1_numberEarlier cX1_numberEarlier 5 mc ms X) (hd1 : 2 ≤ d) (hn : 106 ≤ n) (hr : rn ≤ 24) (hq : q < 24) (hs : sm ≤ 24)
    (kont : ga_G E X 0 0 72 [some (.ref 27), some (.int (nI q)), some (.int (nI (p_ne fo sm sv q rn))), none, none] [] (n, (k_0 ask :: c1 :: c2 :: k_R rn :: ga_i 24 tm :: ga_i 6 sz :: k_C fm em sp fn op :: ga_i 32 ah :: ga_i 30 ou :: k_L an :: ga_r 4 401 (l_w an) :: ga_r 4 24 ol :: c12 :: c13 :: c14 :: k_U 15 top size tot (nI sm) :: ga_i 600 st_ :: ga_i 600 od :: ga_i 24 eo :: ga_i 24 fo :: ga_l 32 s :: c21 :: c22 :: c23 :: c24 :: c25 :: c26 :: k_B ka :: ga_r 3 24 b_w :: k_Y hd :: ga_i 120 se :: []), L2, sh_f sv g)) :
    ∀ (m k : Nat), k ≤ rn → rn - k ≤ m → ga_G E X 0 0 4 [some (.ref 27), some (.int (nI q)), some (.int (nI (p_ne fo sm sv q k))), some (.int (nI k)), none] [] (n, (k_0 ask :: c1 :: c2 :: k_R rn :: ga_i 24 tm :: ga_i 6 sz :: k_C fm em sp fn op :: ga_i 32 ah :: ga_i 30 ou :: k_L an :: ga_r 4 401 (l_w an) :: ga_r 4 24 ol :: c12 :: c13 :: c14 :: k_U 15 top size tot (nI sm) :: ga_i 600 st_ :: ga_i 600 od :: ga_i 24 eo :: ga_i 24 fo :: ga_l 32 s :: c21 :: c22 :: c23 :: c24 :: c25 :: c26 :: k_B ka :: ga_r 3 24 b_w :: k_Y hd :: ga_i 120 se :: []), L2, sh_f sv g) := by
  intro m
  induction m with
  | zero =>
    intro k h1 h2
    have e : k = rn := by omega
    subst e
    refine g_iload_n (nx := 5) hX 3 dX1_numberEarlier_4 rfl rfl rfl ?_
    refine g_aload_n (nx := 6) hX 0 dX1_numberEarlier_5 rfl rfl rfl ?_
    refine g_getfield (nx := 9) hX dX1_numberEarlier_6 rfl fX1_19 (ga_dn hn rfl) rfl rfl ?_
    refine g_getfield (nx := 12) hX dX1_numberEarlier_9 rfl fX1_51 (ga_dn hn rfl) rfl rfl ?_
    refine g_icmp_ge (nx := 15) hX 72 dX1_numberEarlier_12 (by decide) rfl (fun h12 => ?_) (fun h12 => ?_)
    · exact g_ls kont ⟨rfl, rfl, rfl, trivial⟩
    · exact absurd (nI_le (Nat.le_refl k) (by omega)) h12
  | succ m ih =>
    intro k h1 h2
    refine g_iload_n (nx := 5) hX 3 dX1_numberEarlier_4 rfl rfl rfl ?_
    refine g_aload_n (nx := 6) hX 0 dX1_numberEarlier_5 rfl rfl rfl ?_
    refine g_getfield (nx := 9) hX dX1_numberEarlier_6 rfl fX1_19 (ga_dn hn rfl) rfl rfl ?_
    refine g_getfield (nx := 12) hX dX1_numberEarlier_9 rfl fX1_51 (ga_dn hn rfl) rfl rfl ?_
    refine g_icmp_ge (nx := 15) hX 72 dX1_numberEarlier_12 (by decide) rfl (fun h12 => ?_) (fun h12 => ?_)
    · have e : k = rn := by have := (nI_leI (a := rn) (b := k) (by omega) (by omega)).mp h12; omega
      subst e
      exact g_ls kont ⟨rfl, rfl, rfl, trivial⟩
    · have hlt : k < rn := Nat.lt_of_not_le (fun z => h12 (nI_le z (by omega)))
      have hk : k < 24 := by omega
      have ih1 := ih (k + 1) (by omega) (by omega)
      rw [p_ne] at ih1
      refine g_aload_n (nx := 16) hX 0 dX1_numberEarlier_15 rfl rfl rfl ?_
      refine g_getfield (nx := 19) hX dX1_numberEarlier_16 rfl fX1_27 (ga_dn hn rfl) rfl rfl ?_
      refine g_aload_n (nx := 20) hX 0 dX1_numberEarlier_19 rfl rfl rfl ?_
      refine g_getfield (nx := 23) hX dX1_numberEarlier_20 rfl fX1_13 (ga_dn hn rfl) rfl rfl ?_
      refine g_iload_n (nx := 24) hX 3 dX1_numberEarlier_23 rfl rfl rfl ?_
      refine g_aaload3 (nx := 25) hX dX1_numberEarlier_24 rfl (ga_dn hn rfl) rfl (ga_ix_of (j := k) rfl (by omega) (by omega)) ?_
      refine g_aload_n (nx := 26) hX 0 dX1_numberEarlier_25 rfl rfl rfl ?_
      refine g_getfield (nx := 29) hX dX1_numberEarlier_26 rfl fX1_13 (ga_dn hn rfl) rfl rfl ?_
      refine g_iload_n (nx := 30) hX 1 dX1_numberEarlier_29 rfl rfl rfl ?_
      refine g_aaload3 (nx := 31) hX dX1_numberEarlier_30 rfl (ga_dn hn rfl) rfl (ga_ix_of (j := q) rfl (by omega) (by omega)) ?_
      refine g_V2 (nx := 34) hX dX1_numberEarlier_31 rfl mX1_106 yX6_compare_ok (c_X6_compare hn hk hq hs) (ga_dn hn rfl) rfl rfl rfl (by omega) rfl (Nat.le_of_ble_eq_true rfl) (Nat.le_of_ble_eq_true rfl) ?_
      rintro _ _ ⟨rfl, rfl⟩
      refine g_istore (nx := 36) hX 4 dX1_numberEarlier_34 rfl rfl ?_
      refine g_aload_n (nx := 37) hX 0 dX1_numberEarlier_36 rfl rfl rfl ?_
      refine g_getfield (nx := 40) hX dX1_numberEarlier_37 rfl fX1_13 (ga_dn hn rfl) rfl rfl ?_
      refine g_iload_n (nx := 41) hX 3 dX1_numberEarlier_40 rfl rfl rfl ?_
      refine g_aaload3 (nx := 42) hX dX1_numberEarlier_41 rfl (ga_dn hn rfl) rfl (ga_ix_of (j := k) rfl (by omega) (by omega)) ?_
      refine g_getfield (nx := 45) hX dX1_numberEarlier_42 rfl fX1_99 (dm_o hn hk) (get_so hk) rfl ?_
      refine g_if_ne (nx := 48) hX 66 dX1_numberEarlier_45 (by decide) rfl (fun h45 => ?_) (fun h45 => ?_)
      · rw [if_neg (fun z => h45 z.1), Nat.add_zero] at ih1
        refine g_iinc (nx := 69) hX 3 (nI (k + 1)) dX1_numberEarlier_66 rfl rfl rfl (nI_1 k) ?_
        refine g_goto (nx := 4) hX dX1_numberEarlier_69 (by decide) ?_
        exact g_ls ih1 ⟨rfl, rfl, rfl, rfl, trivial⟩
      · refine g_iload (nx := 50) hX 4 dX1_numberEarlier_48 rfl rfl ?_
        refine g_if_gt (nx := 53) hX 63 dX1_numberEarlier_50 (by decide) rfl (fun h50 => ?_) (fun h50 => ?_)
        · rw [if_pos ⟨h45, Or.inl h50⟩] at ih1
          refine g_iinc (nx := 66) hX 2 (nI (p_ne fo sm sv q k + 1)) dX1_numberEarlier_63 rfl rfl rfl (nI_1 _) ?_
          refine g_iinc (nx := 69) hX 3 (nI (k + 1)) dX1_numberEarlier_66 rfl rfl rfl (nI_1 k) ?_
          refine g_goto (nx := 4) hX dX1_numberEarlier_69 (by decide) ?_
          exact g_ls ih1 ⟨rfl, rfl, rfl, rfl, trivial⟩
        · refine g_iload (nx := 55) hX 4 dX1_numberEarlier_53 rfl rfl ?_
          refine g_if_ne (nx := 58) hX 66 dX1_numberEarlier_55 (by decide) rfl (fun h55 => ?_) (fun h55 => ?_)
          · rw [if_neg (fun z => z.2.elim h50 (fun w => h55 w.1)), Nat.add_zero] at ih1
            refine g_iinc (nx := 69) hX 3 (nI (k + 1)) dX1_numberEarlier_66 rfl rfl rfl (nI_1 k) ?_
            refine g_goto (nx := 4) hX dX1_numberEarlier_69 (by decide) ?_
            exact g_ls ih1 ⟨rfl, rfl, rfl, rfl, trivial⟩
          · refine g_iload_n (nx := 59) hX 3 dX1_numberEarlier_58 rfl rfl rfl ?_
            refine g_iload_n (nx := 60) hX 1 dX1_numberEarlier_59 rfl rfl rfl ?_
            refine g_icmp_le (nx := 63) hX 66 dX1_numberEarlier_60 (by decide) rfl (fun h60 => ?_) (fun h60 => ?_)
            · rw [if_neg (fun z => z.2.elim h50 (fun w => by have := (nI_leI (by omega) (by omega)).mp h60; omega)), Nat.add_zero] at ih1
              refine g_iinc (nx := 69) hX 3 (nI (k + 1)) dX1_numberEarlier_66 rfl rfl rfl (nI_1 k) ?_
              refine g_goto (nx := 4) hX dX1_numberEarlier_69 (by decide) ?_
              exact g_ls ih1 ⟨rfl, rfl, rfl, rfl, trivial⟩
            · rw [if_pos ⟨h45, Or.inr ⟨h55, Nat.lt_of_not_le (fun z => h60 (nI_le z (by omega)))⟩⟩] at ih1
              refine g_iinc (nx := 66) hX 2 (nI (p_ne fo sm sv q k + 1)) dX1_numberEarlier_63 rfl rfl rfl (nI_1 _) ?_
              refine g_iinc (nx := 69) hX 3 (nI (k + 1)) dX1_numberEarlier_66 rfl rfl rfl (nI_1 k) ?_
              refine g_goto (nx := 4) hX dX1_numberEarlier_69 (by decide) ?_
              exact g_ls ih1 ⟨rfl, rfl, rfl, rfl, trivial⟩
theorem c_X1_numberEarlier (hn : 106 ≤ n) (hr : rn ≤ 24) (hq : q < 24) (hs : sm ≤ 24) : ga_Mx E 2 yX1_numberEarlier cX1_numberEarlier 5 (some .int) 0 0 [.ref 27, .int (nI q)] (n, (k_0 ask :: c1 :: c2 :: k_R rn :: ga_i 24 tm :: ga_i 6 sz :: k_C fm em sp fn op :: ga_i 32 ah :: ga_i 30 ou :: k_L an :: ga_r 4 401 (l_w an) :: ga_r 4 24 ol :: c12 :: c13 :: c14 :: k_U 15 top size tot (nI sm) :: ga_i 600 st_ :: ga_i 600 od :: ga_i 24 eo :: ga_i 24 fo :: ga_l 32 s :: c21 :: c22 :: c23 :: c24 :: c25 :: c26 :: k_B ka :: ga_r 3 24 b_w :: k_Y hd :: ga_i 120 se :: []), L2, sh_f sv g) (some (.int (nI (p_ne fo sm sv q rn)))) (n, (k_0 ask :: c1 :: c2 :: k_R rn :: ga_i 24 tm :: ga_i 6 sz :: k_C fm em sp fn op :: ga_i 32 ah :: ga_i 30 ou :: k_L an :: ga_r 4 401 (l_w an) :: ga_r 4 24 ol :: c12 :: c13 :: c14 :: k_U 15 top size tot (nI sm) :: ga_i 600 st_ :: ga_i 600 od :: ga_i 24 eo :: ga_i 24 fo :: ga_l 32 s :: c21 :: c22 :: c23 :: c24 :: c25 :: c26 :: k_B ka :: ga_r 3 24 b_w :: k_Y hd :: ga_i 120 se :: []), L2, sh_f sv g) := by
  refine ga_Mt.of (by decide) rfl (fun X hX hP => ?_)
  refine g_less [some (.ref 27), some (.int (nI q)), none, none, none] ⟨rfl, rfl, trivial⟩ ?_
  have tail : ga_G E X 0 0 72 [some (.ref 27), some (.int (nI q)), some (.int (nI (p_ne fo sm sv q rn))), none, none] [] (n, (k_0 ask :: c1 :: c2 :: k_R rn :: ga_i 24 tm :: ga_i 6 sz :: k_C fm em sp fn op :: ga_i 32 ah :: ga_i 30 ou :: k_L an :: ga_r 4 401 (l_w an) :: ga_r 4 24 ol :: c12 :: c13 :: c14 :: k_U 15 top size tot (nI sm) :: ga_i 600 st_ :: ga_i 600 od :: ga_i 24 eo :: ga_i 24 fo :: ga_l 32 s :: c21 :: c22 :: c23 :: c24 :: c25 :: c26 :: k_B ka :: ga_r 3 24 b_w :: k_Y hd :: ga_i 120 se :: []), L2, sh_f sv g) := by
    refine g_iload_n (nx := 73) hX 2 dX1_numberEarlier_72 rfl rfl rfl ?_
    exact g_ireturn hX hP dX1_numberEarlier_73 rfl (Nat.le_of_ble_eq_true rfl) (Nat.le_of_ble_eq_true rfl) ⟨rfl, rfl⟩
  refine g_iconst (nx := 1) hX 0 dX1_numberEarlier_0 rfl (by decide) ?_
  refine g_istore_n (nx := 2) hX 2 dX1_numberEarlier_1 rfl rfl rfl ?_
  refine g_iconst (nx := 3) hX 0 dX1_numberEarlier_2 rfl (by decide) ?_
  refine g_istore_n (nx := 4) hX 3 dX1_numberEarlier_3 rfl rfl rfl ?_
  exact ne_loop hX (by decide) hn hr hq hs tail rn 0 (by omega) (by omega)
theorem c_X1_inRing {i : Int32} (hn : 106 ≤ n) (hr : rn ≤ 24) (hs : sm ≤ 24) : ga_Mx E 3 yX1_inRing cX1_inRing 3 (some .int) 0 0 [.ref 27, .int i] (n, (k_0 ask :: c1 :: c2 :: k_R rn :: ga_i 24 tm :: ga_i 6 sz :: k_C fm em sp fn op :: ga_i 32 ah :: ga_i 30 ou :: k_L an :: ga_r 4 401 (l_w an) :: ga_r 4 24 ol :: c12 :: c13 :: c14 :: k_U 15 top size tot (nI sm) :: ga_i 600 st_ :: ga_i 600 od :: ga_i 24 eo :: ga_i 24 fo :: ga_l 32 s :: c21 :: c22 :: c23 :: c24 :: c25 :: c26 :: k_B ka :: ga_r 3 24 b_w :: k_Y hd :: ga_i 120 se :: []), L2, sh_f sv g) (some (.int (p_rg fo sm rn sv i))) (n, (k_0 ask :: c1 :: c2 :: k_R rn :: ga_i 24 tm :: ga_i 6 sz :: k_C fm em sp fn op :: ga_i 32 ah :: ga_i 30 ou :: k_L an :: ga_r 4 401 (l_w an) :: ga_r 4 24 ol :: c12 :: c13 :: c14 :: k_U 15 top size tot (nI sm) :: ga_i 600 st_ :: ga_i 600 od :: ga_i 24 eo :: ga_i 24 fo :: ga_l 32 s :: c21 :: c22 :: c23 :: c24 :: c25 :: c26 :: k_B ka :: ga_r 3 24 b_w :: k_Y hd :: ga_i 120 se :: []), L2, sh_f sv g) := by
  refine ga_Mt.of (by decide) rfl (fun X hX hP => ?_)
  refine g_less [some (.ref 27), some (.int i), none] ⟨rfl, rfl, trivial⟩ ?_
  have loop : ∀ (m k : Nat), k ≤ rn → rn - k = m → p_rg fo sm rn sv i = p_fd (fun r => decide (s_of (sv r) = 0 ∧ nI (p_ne fo sm sv r rn) = i)) rn m → ga_G E X 0 0 2 [some (.ref 27), some (.int i), some (.int (nI k))] [] (n, (k_0 ask :: c1 :: c2 :: k_R rn :: ga_i 24 tm :: ga_i 6 sz :: k_C fm em sp fn op :: ga_i 32 ah :: ga_i 30 ou :: k_L an :: ga_r 4 401 (l_w an) :: ga_r 4 24 ol :: c12 :: c13 :: c14 :: k_U 15 top size tot (nI sm) :: ga_i 600 st_ :: ga_i 600 od :: ga_i 24 eo :: ga_i 24 fo :: ga_l 32 s :: c21 :: c22 :: c23 :: c24 :: c25 :: c26 :: k_B ka :: ga_r 3 24 b_w :: k_Y hd :: ga_i 120 se :: []), L2, sh_f sv g) := by
    intro m
    induction m with
    | zero =>
      intro k h1 h2 h3
      have e : k = rn := by omega
      subst e
      refine g_iload_n (nx := 3) hX 2 dX1_inRing_2 rfl rfl rfl ?_
      refine g_aload_n (nx := 4) hX 0 dX1_inRing_3 rfl rfl rfl ?_
      refine g_getfield (nx := 7) hX dX1_inRing_4 rfl fX1_19 (ga_dn hn rfl) rfl rfl ?_
      refine g_getfield (nx := 10) hX dX1_inRing_7 rfl fX1_51 (ga_dn hn rfl) rfl rfl ?_
      refine g_icmp_ge (nx := 13) hX 42 dX1_inRing_10 (by decide) rfl (fun h10 => ?_) (fun h10 => ?_)
      · refine g_iconst (nx := 43) hX (-1) dX1_inRing_42 rfl (by decide) ?_
        exact g_ireturn hX hP dX1_inRing_43 rfl (Nat.le_of_ble_eq_true rfl) (Nat.le_of_ble_eq_true rfl) ⟨by rw [h3]; rfl, rfl⟩
      · exact absurd (nI_le (Nat.le_refl k) (by omega)) h10
    | succ m ih =>
      intro k h1 h2 h3
      have e : rn - (m + 1) = k := by omega
      rw [p_fd, e] at h3
      refine g_iload_n (nx := 3) hX 2 dX1_inRing_2 rfl rfl rfl ?_
      refine g_aload_n (nx := 4) hX 0 dX1_inRing_3 rfl rfl rfl ?_
      refine g_getfield (nx := 7) hX dX1_inRing_4 rfl fX1_19 (ga_dn hn rfl) rfl rfl ?_
      refine g_getfield (nx := 10) hX dX1_inRing_7 rfl fX1_51 (ga_dn hn rfl) rfl rfl ?_
      refine g_icmp_ge (nx := 13) hX 42 dX1_inRing_10 (by decide) rfl (fun h10 => ?_) (fun h10 => ?_)
      · exact absurd ((nI_leI (a := rn) (b := k) (by omega) (by omega)).mp h10) (by omega)
      · have hlt : k < rn := by omega
        have hk : k < 24 := by omega
        refine g_aload_n (nx := 14) hX 0 dX1_inRing_13 rfl rfl rfl ?_
        refine g_getfield (nx := 17) hX dX1_inRing_14 rfl fX1_13 (ga_dn hn rfl) rfl rfl ?_
        refine g_iload_n (nx := 18) hX 2 dX1_inRing_17 rfl rfl rfl ?_
        refine g_aaload3 (nx := 19) hX dX1_inRing_18 rfl (ga_dn hn rfl) rfl (ga_ix_of (j := k) rfl (by omega) (by omega)) ?_
        refine g_getfield (nx := 22) hX dX1_inRing_19 rfl fX1_99 (dm_o hn hk) (get_so hk) rfl ?_
        refine g_if_ne (nx := 25) hX 36 dX1_inRing_22 (by decide) rfl (fun h22 => ?_) (fun h22 => ?_)
        · rw [if_neg (fun z => h22 (of_decide_eq_true z).1)] at h3
          refine g_iinc (nx := 39) hX 2 (nI (k + 1)) dX1_inRing_36 rfl rfl rfl (nI_1 k) ?_
          refine g_goto (nx := 2) hX dX1_inRing_39 (by decide) ?_
          exact ih (k + 1) (by omega) (by omega) h3
        · refine g_aload_n (nx := 26) hX 0 dX1_inRing_25 rfl rfl rfl ?_
          refine g_iload_n (nx := 27) hX 2 dX1_inRing_26 rfl rfl rfl ?_
          refine g_V1 (nx := 30) hX dX1_inRing_27 rfl mX1_110 yX1_numberEarlier_ok (c_X1_numberEarlier hn hr hk hs) (ga_dn hn rfl) rfl rfl rfl (by decide) rfl (Nat.le_of_ble_eq_true rfl) (Nat.le_of_ble_eq_true rfl) ?_
          rintro _ _ ⟨rfl, rfl⟩
          refine g_iload_n (nx := 31) hX 1 dX1_inRing_30 rfl rfl rfl ?_
          refine g_icmp_ne (nx := 34) hX 36 dX1_inRing_31 (by decide) rfl (fun h31 => ?_) (fun h31 => ?_)
          · rw [if_neg (fun z => h31 (of_decide_eq_true z).2)] at h3
            refine g_iinc (nx := 39) hX 2 (nI (k + 1)) dX1_inRing_36 rfl rfl rfl (nI_1 k) ?_
            refine g_goto (nx := 2) hX dX1_inRing_39 (by decide) ?_
            exact ih (k + 1) (by omega) (by omega) h3
          · rw [if_pos (decide_eq_true ⟨h22, h31⟩)] at h3
            refine g_iload_n (nx := 35) hX 2 dX1_inRing_34 rfl rfl rfl ?_
            exact g_ireturn hX hP dX1_inRing_35 rfl (Nat.le_of_ble_eq_true rfl) (Nat.le_of_ble_eq_true rfl) ⟨by rw [h3], rfl⟩
  refine g_iconst (nx := 1) hX 0 dX1_inRing_0 rfl (by decide) ?_
  refine g_istore_n (nx := 2) hX 2 dX1_inRing_1 rfl rfl rfl ?_
  exact loop rn 0 (by omega) (by omega) rfl
end
