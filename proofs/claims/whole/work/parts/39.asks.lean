/-! ===== what the class is asked ===== -/
def b_H (W : w_W) (R : e_R) (av : Nat → a_S) (an rn ka : Nat) (ol : Nat → Option Nat) (st_ od eo : Nat → Int32) (sv : Nat → sh_S) : Prop :=
  an ≤ 400 ∧ rn ≤ 24 ∧ ka ≤ an ∧ W.2.2.2.2 ≤ 30 ∧ a_ok W.1 av an ∧ a_st W.1 av an ∧ (∀ r, r < rn → a_ch W.1 an r 0 (ol r)) ∧ e_cd R.1 st_ od ∧ e_eo R.2.1 eo ∧ e_Rok R.1 R.2.1 R.2.2.2.1 ∧ b_ok W R rn ka sv
theorem b_H.go {W : w_W} {R : e_R} {av : Nat → a_S} {an rn ka t : Nat} {ol : Nat → Option Nat} {st_ od eo : Nat → Int32} {sv sv' : Nat → sh_S} (h : b_H W R av an rn ka ol st_ od eo sv) (ht : t ≤ an) (hs : b_kn W R rn t rn sv') : b_H W R av an rn t ol st_ od eo sv' :=
  ⟨h.1, h.2.1, ht, h.2.2.2.1, h.2.2.2.2.1, h.2.2.2.2.2.1, h.2.2.2.2.2.2.1, h.2.2.2.2.2.2.2.1, h.2.2.2.2.2.2.2.2.1, h.2.2.2.2.2.2.2.2.2.1, fun r hr hz => by
    by_cases e : r < rn
    · exact ⟨e, hs.1 r e⟩
    · exact hs.2 r (by omega) hr hz⟩
section
variable {fo : Nat → Int32} {sm rn : Nat} {sv sv' : Nat → sh_S}
theorem p_na_c (h : ∀ r, r < rn → sv r = sv' r) {x : sh_S} : ∀ k, k ≤ rn → p_na fo sm sv x k = p_na fo sm sv' x k
  | 0, _ => rfl
  | k + 1, hk => by rw [p_na, p_na, p_na_c h k (by omega), h k (by omega)]
theorem p_ne_c (h : ∀ r, r < rn → sv r = sv' r) {r : Nat} (hr : r < rn) : ∀ k, k ≤ rn → p_ne fo sm sv r k = p_ne fo sm sv' r k
  | 0, _ => rfl
  | k + 1, hk => by rw [p_ne, p_ne, p_ne_c h hr k (by omega), h k (by omega), h r hr]
theorem p_pl_c (h : ∀ r, r < rn → sv r = sv' r) {r : Nat} (hr : r < rn) : p_pl fo sm rn sv r = p_pl fo sm rn sv' r := by
  unfold p_pl; rw [h r hr, p_na_c h rn (Nat.le_refl rn)]
theorem p_fd_c {P P' : Nat → Bool} {rn : Nat} (hp : ∀ r, r < rn → P r = P' r) : ∀ m, m ≤ rn → p_fd P rn m = p_fd P' rn m
  | 0, _ => rfl
  | m + 1, hm => by rw [p_fd, p_fd, p_fd_c hp m (by omega), hp (rn - (m + 1)) (by omega)]
theorem p_rg_c (h : ∀ r, r < rn → sv r = sv' r) {i : Int32} : p_rg fo sm rn sv i = p_rg fo sm rn sv' i := by
  unfold p_rg
  refine p_fd_c (fun r hr => ?_) rn (Nat.le_refl rn)
  rw [h r hr, p_ne_c h hr rn (Nat.le_refl rn)]
theorem p_ts_c (h : ∀ r, r < rn → sv r = sv' r) {tm : Nat → Int32} {t : Int32} : ∀ k, k ≤ rn → p_ts tm sv t k = p_ts tm sv' t k
  | 0, _ => rfl
  | k + 1, hk => by
    rw [p_ts, p_ts, p_ts_c h k (by omega)]
    unfold p_in
    rw [h k (by omega)]
theorem p_tl_c (h : ∀ r, r < rn → sv r = sv' r) {tm : Nat → Int32} {t : Int32} : ∀ k, k ≤ rn → p_tl tm sv t k = p_tl tm sv' t k
  | 0, _ => rfl
  | k + 1, hk => by
    rw [p_tl, p_tl, p_tl_c h k (by omega)]
    unfold p_in
    rw [h k (by omega)]
theorem p_sum_c (h : ∀ r, r < rn → sv r = sv' r) {tm : Nat → Int32} {t : Int32} : p_sum tm sv rn t = p_sum tm sv' rn t := by
  unfold p_sum; rw [p_ts_c h rn (Nat.le_refl rn)]
theorem p_tp_c (h : ∀ r, r < rn → sv r = sv' r) {tm sz : Nat → Int32} {t : Int32} : ∀ k, p_tp tm sz sv rn t k = p_tp tm sz sv' rn t k
  | 0 => rfl
  | k + 1 => by
    rw [p_tp, p_tp, p_tp_c h k]
    unfold p_ahd
    rw [p_sum_c h, p_sum_c h, p_tl_c h rn (Nat.le_refl rn), p_tl_c h rn (Nat.le_refl rn)]
end
def p_si (pl : Nat → Int32) (now : Int32) : Nat → Int32
  | 0 => -1
  | k + 1 => if pl k = now then p_si pl now k else nI k
section
variable {E : ga_E} {X : ga_X} {n : Nat} {c0 c1 c2 c3 c4 c5 c6 c7 c8 c9 c10 c11 c12 c13 c14 c15 c16 c17 c18 c19 c20 c21 c22 c23 c24 c25 c26 c27 c28 c29 c30 m79 m80 m81 m82 m83 m84 m85 m86 m87 m88 m89 m90 m91 m92 m93 m94 m95 m96 m97 m98 m99 m100 m101 m102 m103 m104 m105 : ga_C} {L1 L2 : List ga_C} {f : Nat → ga_C} {o_tp o_rd o_fe o_em o_sp o_ac o_td o_sm o_tt o_at o_sz o_fk o_fp o_nw o_md o_nt o_pl o_op d_at d_tk d_ta d_fd d_fa : Int32} {d_tv : Int64} {d_rl : Value}
variable {size tot fm em sp op ask top hd : Int32} {s : Nat → Int64} {sv : Nat → sh_S} {av : Nat → a_S} {r q rn fn an ka sm : Nat} {cd : Nat → Nat × Nat} {en : Nat → Nat} {fo st_ od eo tm sz ah ou se : Nat → Int32} {ol : Nat → Option Nat}
variable {A : w_A} {t : Nat} {v w : Int32}
theorem ku_knowAt (H : b_H (A, ah, ou, op, fn) (cd, en, fo, sm, tot) av an rn ka ol st_ od eo sv) (ht : t ≤ an) : ga_Mt E 6 yX1_knowAt cX1_knowAt 4 none 0 0 [.ref 27, .int (nI t)] (an + 106, (k_0 ask :: c1 :: c2 :: k_R rn :: ga_i 24 tm :: ga_i 6 sz :: k_C fm em sp fn op :: ga_i 32 ah :: ga_i 30 ou :: k_L an :: ga_r 4 401 (l_w an) :: ga_r 4 24 ol :: c12 :: c13 :: c14 :: k_U 15 top size tot (nI sm) :: ga_i 600 st_ :: ga_i 600 od :: ga_i 24 eo :: ga_i 24 fo :: ga_l 32 s :: c21 :: c22 :: c23 :: c24 :: c25 :: c26 :: k_B ka :: ga_r 3 24 b_w :: k_Y hd :: ga_i 120 se :: []), L2, sh_f sv (a_f av)) (fun w M => w = none ∧ ∃ top s hd se sv, b_kn (A, ah, ou, op, fn) (cd, en, fo, sm, tot) rn t rn sv ∧ M = (an + 106, (k_0 ask :: c1 :: c2 :: k_R rn :: ga_i 24 tm :: ga_i 6 sz :: k_C fm em sp fn op :: ga_i 32 ah :: ga_i 30 ou :: k_L an :: ga_r 4 401 (l_w an) :: ga_r 4 24 ol :: c12 :: c13 :: c14 :: k_U 15 top size tot (nI sm) :: ga_i 600 st_ :: ga_i 600 od :: ga_i 24 eo :: ga_i 24 fo :: ga_l 32 s :: c21 :: c22 :: c23 :: c24 :: c25 :: c26 :: k_B t :: ga_r 3 24 b_w :: k_Y hd :: ga_i 120 se :: []), L2, sh_f sv (a_f av))) :=
  c_X1_knowAt H.1 H.2.1 H.2.2.1 ht H.2.2.2.1 H.2.2.2.2.1 H.2.2.2.2.2.1 H.2.2.2.2.2.2.1 H.2.2.2.2.2.2.2.1 H.2.2.2.2.2.2.2.2.1 H.2.2.2.2.2.2.2.2.2.1 H.2.2.2.2.2.2.2.2.2.2
/-- a sheet, or none -/
theorem sh_at {v : Int32} {rn : Nat} (hr : rn ≤ 24) : ((0 ≤ v ∧ v < nI rn) ∧ ∃ j, j < rn ∧ v = nI j ∧ v.toNatClampNeg = j ∧ (if 0 ≤ v ∧ v < nI rn then some (2 * v.toNatClampNeg + 31) else none) = some (2 * j + 31)) ∨ (¬ (0 ≤ v ∧ v < nI rn) ∧ (if 0 ≤ v ∧ v < nI rn then some (2 * v.toNatClampNeg + 31) else none) = none) := by
  by_cases h : 0 ≤ v ∧ v < nI rn
  · obtain ⟨j, hj, e, e2⟩ := v_of h.1 h.2 (by omega)
    exact Or.inl ⟨h, j, hj, e, e2, by rw [if_pos h, e2]⟩
  · exact Or.inr ⟨h, if_neg h⟩
theorem c_X10_count (H : b_H (A, ah, ou, op, fn) (cd, en, fo, sm, tot) av an rn ka ol st_ od eo sv) (hT : (if ask = -1 then nI an else ask) = nI t) (ht : t ≤ an) : ga_Mt E 7 yX10_count cX10_count 4 (some .int) 0 0 [.ref 0, .int v, .int w] (an + 106, (k_0 ask :: c1 :: c2 :: k_R rn :: ga_i 24 tm :: ga_i 6 sz :: k_C fm em sp fn op :: ga_i 32 ah :: ga_i 30 ou :: k_L an :: ga_r 4 401 (l_w an) :: ga_r 4 24 ol :: c12 :: c13 :: c14 :: k_U 15 top size tot (nI sm) :: ga_i 600 st_ :: ga_i 600 od :: ga_i 24 eo :: ga_i 24 fo :: ga_l 32 s :: c21 :: c22 :: c23 :: c24 :: c25 :: c26 :: k_B ka :: ga_r 3 24 b_w :: k_Y hd :: ga_i 120 se :: []), L2, sh_f sv (a_f av))
    (fun o M => o = some (.int (if 0 ≤ v ∧ v < nI rn then s_cn (s_F (A, ah, ou, op, fn) (cd, en, fo, sm, tot) v.toNatClampNeg t) w else -2000000)) ∧ ∃ top s hd se sv, b_H (A, ah, ou, op, fn) (cd, en, fo, sm, tot) av an rn t ol st_ od eo sv ∧ M = (an + 106, (k_0 ask :: c1 :: c2 :: k_R rn :: ga_i 24 tm :: ga_i 6 sz :: k_C fm em sp fn op :: ga_i 32 ah :: ga_i 30 ou :: k_L an :: ga_r 4 401 (l_w an) :: ga_r 4 24 ol :: c12 :: c13 :: c14 :: k_U 15 top size tot (nI sm) :: ga_i 600 st_ :: ga_i 600 od :: ga_i 24 eo :: ga_i 24 fo :: ga_l 32 s :: c21 :: c22 :: c23 :: c24 :: c25 :: c26 :: k_B t :: ga_r 3 24 b_w :: k_Y hd :: ga_i 120 se :: []), L2, sh_f sv (a_f av))) := by
  have hn : 106 ≤ an + 106 := by omega
  have hr := H.2.1
  rcases sh_at (v := v) hr with ⟨hv, j, hj, e, e2, hw⟩ | ⟨hv, hw⟩
  · -- a rider
    have hk : j < 24 := by omega
    rw [if_pos hv, e2]
    refine ga_Mt.of (by decide) rfl (fun X hX hP => ?_)
    refine g_less [some (.ref 0), some (.int v), some (.int w), none] ⟨rfl, rfl, rfl, trivial⟩ ?_
    refine g_aload_n (nx := 1) hX 0 dX10_count_0 rfl rfl rfl ?_
    refine g_getfield (nx := 4) hX dX10_count_1 rfl fX10_61 (ga_dn hn rfl) rfl rfl ?_
    refine g_aload_n (nx := 5) hX 0 dX10_count_4 rfl rfl rfl ?_
    refine g_V0 (nx := 8) hX dX10_count_5 rfl mX10_143 yX10_toldAct_ok (c_X10_toldAct hn) (ga_dn hn rfl) rfl rfl rfl (by decide) rfl (Nat.le_of_ble_eq_true rfl) (Nat.le_of_ble_eq_true rfl) ?_
    rintro _ _ ⟨rfl, rfl⟩
    rw [hT]
    refine g_V1 (nx := 11) hX dX10_count_8 rfl mX10_147 yX1_knowAt_ok (ku_knowAt H ht) (ga_dn hn rfl) rfl rfl rfl (by decide) rfl (Nat.le_of_ble_eq_true rfl) (Nat.le_of_ble_eq_true rfl) ?_
    rintro _ _ ⟨rfl, top', s', hd', se', sv', hs, rfl⟩
    refine g_aload_n (nx := 12) hX 0 dX10_count_11 rfl rfl rfl ?_
    refine g_getfield (nx := 15) hX dX10_count_12 rfl fX10_61 (ga_dn hn rfl) rfl rfl ?_
    refine g_iload_n (nx := 16) hX 1 dX10_count_15 rfl rfl rfl ?_
    refine g_V1 (nx := 19) hX dX10_count_16 rfl mX10_150 yX1_sheetAt_ok (c_X1_sheetAt hn hr) (ga_dn hn rfl) rfl rfl rfl (by decide) rfl (Nat.le_of_ble_eq_true rfl) (Nat.le_of_ble_eq_true rfl) ?_
    rintro _ _ ⟨rfl, rfl⟩
    rw [hw]
    refine g_astore_n (nx := 20) hX 3 dX10_count_19 rfl rfl rfl ?_
    refine g_aload_n (nx := 21) hX 3 dX10_count_20 rfl rfl rfl ?_
    refine g_ifnonnull hX 29 dX10_count_21 (by decide) ?_
    refine g_aload_n (nx := 30) hX 3 dX10_count_29 rfl rfl rfl ?_
    refine g_iload_n (nx := 31) hX 2 dX10_count_30 rfl rfl rfl ?_
    refine g_V1 (nx := 34) hX dX10_count_31 rfl mX10_155 yX7_countOf_ok (c_X7_countOf hn hk) (dm_o hn hk) (get_so hk) rfl rfl (by decide) rfl (Nat.le_of_ble_eq_true rfl) (Nat.le_of_ble_eq_true rfl) ?_
    rintro _ _ ⟨rfl, rfl⟩
    exact g_ireturn hX hP dX10_count_34 rfl (Nat.le_of_ble_eq_true rfl) (Nat.le_of_ble_eq_true rfl) ⟨by rw [hs.1 j hj], top', s', hd', se', sv', H.go ht hs, rfl⟩
  · -- none
    rw [if_neg hv]
    refine ga_Mt.of (by decide) rfl (fun X hX hP => ?_)
    refine g_less [some (.ref 0), some (.int v), some (.int w), none] ⟨rfl, rfl, rfl, trivial⟩ ?_
    refine g_aload_n (nx := 1) hX 0 dX10_count_0 rfl rfl rfl ?_
    refine g_getfield (nx := 4) hX dX10_count_1 rfl fX10_61 (ga_dn hn rfl) rfl rfl ?_
    refine g_aload_n (nx := 5) hX 0 dX10_count_4 rfl rfl rfl ?_
    refine g_V0 (nx := 8) hX dX10_count_5 rfl mX10_143 yX10_toldAct_ok (c_X10_toldAct hn) (ga_dn hn rfl) rfl rfl rfl (by decide) rfl (Nat.le_of_ble_eq_true rfl) (Nat.le_of_ble_eq_true rfl) ?_
    rintro _ _ ⟨rfl, rfl⟩
    rw [hT]
    refine g_V1 (nx := 11) hX dX10_count_8 rfl mX10_147 yX1_knowAt_ok (ku_knowAt H ht) (ga_dn hn rfl) rfl rfl rfl (by decide) rfl (Nat.le_of_ble_eq_true rfl) (Nat.le_of_ble_eq_true rfl) ?_
    rintro _ _ ⟨rfl, top', s', hd', se', sv', hs, rfl⟩
    refine g_aload_n (nx := 12) hX 0 dX10_count_11 rfl rfl rfl ?_
    refine g_getfield (nx := 15) hX dX10_count_12 rfl fX10_61 (ga_dn hn rfl) rfl rfl ?_
    refine g_iload_n (nx := 16) hX 1 dX10_count_15 rfl rfl rfl ?_
    refine g_V1 (nx := 19) hX dX10_count_16 rfl mX10_150 yX1_sheetAt_ok (c_X1_sheetAt hn hr) (ga_dn hn rfl) rfl rfl rfl (by decide) rfl (Nat.le_of_ble_eq_true rfl) (Nat.le_of_ble_eq_true rfl) ?_
    rintro _ _ ⟨rfl, rfl⟩
    rw [hw]
    refine g_astore_nN (nx := 20) hX 3 dX10_count_19 rfl rfl rfl ?_
    refine g_aload_nN (nx := 21) hX 3 dX10_count_20 rfl rfl rfl ?_
    refine g_ifnonnullN (nx := 24) hX dX10_count_21 rfl ?_
    refine g_ldc (nx := 26) hX (-2000000) dX10_count_24 rfl kX10_154 ?_
    refine g_goto (nx := 34) hX dX10_count_26 (by decide) ?_
    exact g_ireturn hX hP dX10_count_34 rfl (Nat.le_of_ble_eq_true rfl) (Nat.le_of_ble_eq_true rfl) ⟨rfl, top', s', hd', se', sv', H.go ht hs, rfl⟩
def b_gv (F : sh_S) (sm : Nat) (w : Int32) : Int64 := if 0 ≤ w ∧ w < nI sm then s_v F (15 + w.toNatClampNeg) else -2000000000000
theorem c_X10_given (H : b_H (A, ah, ou, op, fn) (cd, en, fo, sm, tot) av an rn ka ol st_ od eo sv) (hT : (if ask = -1 then nI an else ask) = nI t) (ht : t ≤ an) : ga_Mt E 7 yX10_given cX10_given 4 (some .long) 0 0 [.ref 0, .int v, .int w] (an + 106, (k_0 ask :: c1 :: c2 :: k_R rn :: ga_i 24 tm :: ga_i 6 sz :: k_C fm em sp fn op :: ga_i 32 ah :: ga_i 30 ou :: k_L an :: ga_r 4 401 (l_w an) :: ga_r 4 24 ol :: c12 :: c13 :: c14 :: k_U 15 top size tot (nI sm) :: ga_i 600 st_ :: ga_i 600 od :: ga_i 24 eo :: ga_i 24 fo :: ga_l 32 s :: c21 :: c22 :: c23 :: c24 :: c25 :: c26 :: k_B ka :: ga_r 3 24 b_w :: k_Y hd :: ga_i 120 se :: []), L2, sh_f sv (a_f av))
    (fun o M => o = some (.long (if 0 ≤ v ∧ v < nI rn then b_gv (s_F (A, ah, ou, op, fn) (cd, en, fo, sm, tot) v.toNatClampNeg t) sm w else -2000000000000)) ∧ ∃ top s hd se sv, b_H (A, ah, ou, op, fn) (cd, en, fo, sm, tot) av an rn t ol st_ od eo sv ∧ M = (an + 106, (k_0 ask :: c1 :: c2 :: k_R rn :: ga_i 24 tm :: ga_i 6 sz :: k_C fm em sp fn op :: ga_i 32 ah :: ga_i 30 ou :: k_L an :: ga_r 4 401 (l_w an) :: ga_r 4 24 ol :: c12 :: c13 :: c14 :: k_U 15 top size tot (nI sm) :: ga_i 600 st_ :: ga_i 600 od :: ga_i 24 eo :: ga_i 24 fo :: ga_l 32 s :: c21 :: c22 :: c23 :: c24 :: c25 :: c26 :: k_B t :: ga_r 3 24 b_w :: k_Y hd :: ga_i 120 se :: []), L2, sh_f sv (a_f av))) := by
  have hn : 106 ≤ an + 106 := by omega
  have hr := H.2.1
  have hsm : sm ≤ 24 := H.2.2.2.2.2.2.2.2.2.1.1
  rcases sh_at (v := v) hr with ⟨hv, j, hj, e, e2, hw⟩ | ⟨hv, hw⟩
  · -- a rider
    have hk : j < 24 := by omega
    rw [if_pos hv, e2]
    refine ga_Mt.of (by decide) rfl (fun X hX hP => ?_)
    refine g_less [some (.ref 0), some (.int v), some (.int w), none] ⟨rfl, rfl, rfl, trivial⟩ ?_
    refine g_aload_n (nx := 1) hX 0 dX10_given_0 rfl rfl rfl ?_
    refine g_getfield (nx := 4) hX dX10_given_1 rfl fX10_61 (ga_dn hn rfl) rfl rfl ?_
    refine g_aload_n (nx := 5) hX 0 dX10_given_4 rfl rfl rfl ?_
    refine g_V0 (nx := 8) hX dX10_given_5 rfl mX10_143 yX10_toldAct_ok (c_X10_toldAct hn) (ga_dn hn rfl) rfl rfl rfl (by decide) rfl (Nat.le_of_ble_eq_true rfl) (Nat.le_of_ble_eq_true rfl) ?_
    rintro _ _ ⟨rfl, rfl⟩
    rw [hT]
    refine g_V1 (nx := 11) hX dX10_given_8 rfl mX10_147 yX1_knowAt_ok (ku_knowAt H ht) (ga_dn hn rfl) rfl rfl rfl (by decide) rfl (Nat.le_of_ble_eq_true rfl) (Nat.le_of_ble_eq_true rfl) ?_
    rintro _ _ ⟨rfl, top', s', hd', se', sv', hs, rfl⟩
    refine g_aload_n (nx := 12) hX 0 dX10_given_11 rfl rfl rfl ?_
    refine g_getfield (nx := 15) hX dX10_given_12 rfl fX10_61 (ga_dn hn rfl) rfl rfl ?_
    refine g_iload_n (nx := 16) hX 1 dX10_given_15 rfl rfl rfl ?_
    refine g_V1 (nx := 19) hX dX10_given_16 rfl mX10_150 yX1_sheetAt_ok (c_X1_sheetAt hn hr) (ga_dn hn rfl) rfl rfl rfl (by decide) rfl (Nat.le_of_ble_eq_true rfl) (Nat.le_of_ble_eq_true rfl) ?_
    rintro _ _ ⟨rfl, rfl⟩
    rw [hw]
    refine g_astore_n (nx := 20) hX 3 dX10_given_19 rfl rfl rfl ?_
    refine g_aload_n (nx := 21) hX 3 dX10_given_20 rfl rfl rfl ?_
    refine g_ifnull (nx := 24) hX dX10_given_21 rfl ?_
    refine g_iload_n (nx := 25) hX 2 dX10_given_24 rfl rfl rfl ?_
    refine g_iconst (nx := 26) hX 0 dX10_given_25 rfl (by decide) ?_
    refine g_aload_n (nx := 27) hX 0 dX10_given_26 rfl rfl rfl ?_
    refine g_getfield (nx := 30) hX dX10_given_27 rfl fX10_49 (ga_dn hn rfl) rfl rfl ?_
    refine g_getfield (nx := 33) hX dX10_given_30 rfl fX10_134 (ga_dn hn rfl) rfl rfl ?_
    refine g_iconst (nx := 34) hX 1 dX10_given_33 rfl (by decide) ?_
    refine g_isub (nx := 35) hX dX10_given_34 rfl ?_
    refine g_S3 (nx := 38) hX dX10_given_35 rfl mX10_122 yX10_isWithin_ok (c_X10_isWithin) (by decide) rfl (Nat.le_of_ble_eq_true rfl) (Nat.le_of_ble_eq_true rfl) ?_
    rintro _ _ ⟨rfl, rfl⟩
    refine g_if_ne (nx := 41) hX 45 dX10_given_38 (by decide) rfl (fun h38 => ?_) (fun h38 => ?_)
    · have hb0 := ga_b_n0 h38
      have hb : 0 ≤ w ∧ w < nI sm := ⟨hb0.1, (v_lt1 (by omega)).mp hb0.2⟩
      obtain ⟨i, hi, ei, ei2⟩ := v_of hb.1 hb.2 (by omega)
      have hx : (if 0 ≤ 15 + w ∧ 15 + w ≤ 38 then s_v (sv' j) (15 + w).toNatClampNeg else 0) = b_gv (s_F (A, ah, ou, op, fn) (cd, en, fo, sm, tot) j t) sm w := by
        unfold b_gv
        rw [if_pos hb, ei2, ei, show (15 : Int32) + nI i = nI (15 + i) from nI_add 15 i, if_pos ⟨nI_pos' (by omega), nI_le (b := 38) (by omega) (by omega)⟩, nI_clamp (by omega), hs.1 j hj]
      refine g_aload_n (nx := 46) hX 3 dX10_given_45 rfl rfl rfl ?_
      refine g_bipush (nx := 48) hX 15 dX10_given_46 rfl (by decide) ?_
      refine g_iload_n (nx := 49) hX 2 dX10_given_48 rfl rfl rfl ?_
      refine g_iadd (nx := 50) hX dX10_given_49 rfl ?_
      refine g_V1 (nx := 53) hX dX10_given_50 rfl mX10_162 yX7_valueAt_ok (c_X7_valueAt hn hk) (dm_o hn hk) (get_so hk) rfl rfl (by decide) rfl (Nat.le_of_ble_eq_true rfl) (Nat.le_of_ble_eq_true rfl) ?_
      rintro _ _ ⟨rfl, rfl⟩
      exact g_lreturn hX hP dX10_given_53 (Nat.le_of_ble_eq_true rfl) (Nat.le_of_ble_eq_true rfl) ⟨by rw [hx], top', s', hd', se', sv', H.go ht hs, rfl⟩
    · have hb : ¬ (0 ≤ w ∧ w < nI sm) := fun z => ga_b_0 h38 ⟨z.1, (v_lt1 (by omega)).mpr z.2⟩
      refine g_ldc2_w (nx := 44) hX (-2000000000000) dX10_given_41 rfl kX10_160 ?_
      exact g_lreturn hX hP dX10_given_44 (Nat.le_of_ble_eq_true rfl) (Nat.le_of_ble_eq_true rfl) ⟨by unfold b_gv; rw [if_neg hb], top', s', hd', se', sv', H.go ht hs, rfl⟩
  · -- none
    rw [if_neg hv]
    refine ga_Mt.of (by decide) rfl (fun X hX hP => ?_)
    refine g_less [some (.ref 0), some (.int v), some (.int w), none] ⟨rfl, rfl, rfl, trivial⟩ ?_
    refine g_aload_n (nx := 1) hX 0 dX10_given_0 rfl rfl rfl ?_
    refine g_getfield (nx := 4) hX dX10_given_1 rfl fX10_61 (ga_dn hn rfl) rfl rfl ?_
    refine g_aload_n (nx := 5) hX 0 dX10_given_4 rfl rfl rfl ?_
    refine g_V0 (nx := 8) hX dX10_given_5 rfl mX10_143 yX10_toldAct_ok (c_X10_toldAct hn) (ga_dn hn rfl) rfl rfl rfl (by decide) rfl (Nat.le_of_ble_eq_true rfl) (Nat.le_of_ble_eq_true rfl) ?_
    rintro _ _ ⟨rfl, rfl⟩
    rw [hT]
    refine g_V1 (nx := 11) hX dX10_given_8 rfl mX10_147 yX1_knowAt_ok (ku_knowAt H ht) (ga_dn hn rfl) rfl rfl rfl (by decide) rfl (Nat.le_of_ble_eq_true rfl) (Nat.le_of_ble_eq_true rfl) ?_
    rintro _ _ ⟨rfl, top', s', hd', se', sv', hs, rfl⟩
    refine g_aload_n (nx := 12) hX 0 dX10_given_11 rfl rfl rfl ?_
    refine g_getfield (nx := 15) hX dX10_given_12 rfl fX10_61 (ga_dn hn rfl) rfl rfl ?_
    refine g_iload_n (nx := 16) hX 1 dX10_given_15 rfl rfl rfl ?_
    refine g_V1 (nx := 19) hX dX10_given_16 rfl mX10_150 yX1_sheetAt_ok (c_X1_sheetAt hn hr) (ga_dn hn rfl) rfl rfl rfl (by decide) rfl (Nat.le_of_ble_eq_true rfl) (Nat.le_of_ble_eq_true rfl) ?_
    rintro _ _ ⟨rfl, rfl⟩
    rw [hw]
    refine g_astore_nN (nx := 20) hX 3 dX10_given_19 rfl rfl rfl ?_
    refine g_aload_nN (nx := 21) hX 3 dX10_given_20 rfl rfl rfl ?_
    refine g_ifnullN hX 41 dX10_given_21 (by decide) ?_
    refine g_ldc2_w (nx := 44) hX (-2000000000000) dX10_given_41 rfl kX10_160 ?_
    exact g_lreturn hX hP dX10_given_44 (Nat.le_of_ble_eq_true rfl) (Nat.le_of_ble_eq_true rfl) ⟨rfl, top', s', hd', se', sv', H.go ht hs, rfl⟩
theorem c_X10_total (H : b_H (A, ah, ou, op, fn) (cd, en, fo, sm, tot) av an rn ka ol st_ od eo sv) (hT : (if ask = -1 then nI an else ask) = nI t) (ht : t ≤ an) : ga_Mt E 7 yX10_total cX10_total 3 (some .long) 0 0 [.ref 0, .int v] (an + 106, (k_0 ask :: c1 :: c2 :: k_R rn :: ga_i 24 tm :: ga_i 6 sz :: k_C fm em sp fn op :: ga_i 32 ah :: ga_i 30 ou :: k_L an :: ga_r 4 401 (l_w an) :: ga_r 4 24 ol :: c12 :: c13 :: c14 :: k_U 15 top size tot (nI sm) :: ga_i 600 st_ :: ga_i 600 od :: ga_i 24 eo :: ga_i 24 fo :: ga_l 32 s :: c21 :: c22 :: c23 :: c24 :: c25 :: c26 :: k_B ka :: ga_r 3 24 b_w :: k_Y hd :: ga_i 120 se :: []), L2, sh_f sv (a_f av))
    (fun o M => o = some (.long (if 0 ≤ v ∧ v < nI rn then s_tt (s_F (A, ah, ou, op, fn) (cd, en, fo, sm, tot) v.toNatClampNeg t) else -2000000000000)) ∧ ∃ top s hd se sv, b_H (A, ah, ou, op, fn) (cd, en, fo, sm, tot) av an rn t ol st_ od eo sv ∧ M = (an + 106, (k_0 ask :: c1 :: c2 :: k_R rn :: ga_i 24 tm :: ga_i 6 sz :: k_C fm em sp fn op :: ga_i 32 ah :: ga_i 30 ou :: k_L an :: ga_r 4 401 (l_w an) :: ga_r 4 24 ol :: c12 :: c13 :: c14 :: k_U 15 top size tot (nI sm) :: ga_i 600 st_ :: ga_i 600 od :: ga_i 24 eo :: ga_i 24 fo :: ga_l 32 s :: c21 :: c22 :: c23 :: c24 :: c25 :: c26 :: k_B t :: ga_r 3 24 b_w :: k_Y hd :: ga_i 120 se :: []), L2, sh_f sv (a_f av))) := by
  have hn : 106 ≤ an + 106 := by omega
  have hr := H.2.1
  rcases sh_at (v := v) hr with ⟨hv, j, hj, e, e2, hw⟩ | ⟨hv, hw⟩
  · -- a rider
    have hk : j < 24 := by omega
    rw [if_pos hv, e2]
    refine ga_Mt.of (by decide) rfl (fun X hX hP => ?_)
    refine g_less [some (.ref 0), some (.int v), none] ⟨rfl, rfl, trivial⟩ ?_
    refine g_aload_n (nx := 1) hX 0 dX10_total_0 rfl rfl rfl ?_
    refine g_getfield (nx := 4) hX dX10_total_1 rfl fX10_61 (ga_dn hn rfl) rfl rfl ?_
    refine g_aload_n (nx := 5) hX 0 dX10_total_4 rfl rfl rfl ?_
    refine g_V0 (nx := 8) hX dX10_total_5 rfl mX10_143 yX10_toldAct_ok (c_X10_toldAct hn) (ga_dn hn rfl) rfl rfl rfl (by decide) rfl (Nat.le_of_ble_eq_true rfl) (Nat.le_of_ble_eq_true rfl) ?_
    rintro _ _ ⟨rfl, rfl⟩
    rw [hT]
    refine g_V1 (nx := 11) hX dX10_total_8 rfl mX10_147 yX1_knowAt_ok (ku_knowAt H ht) (ga_dn hn rfl) rfl rfl rfl (by decide) rfl (Nat.le_of_ble_eq_true rfl) (Nat.le_of_ble_eq_true rfl) ?_
    rintro _ _ ⟨rfl, top', s', hd', se', sv', hs, rfl⟩
    refine g_aload_n (nx := 12) hX 0 dX10_total_11 rfl rfl rfl ?_
    refine g_getfield (nx := 15) hX dX10_total_12 rfl fX10_61 (ga_dn hn rfl) rfl rfl ?_
    refine g_iload_n (nx := 16) hX 1 dX10_total_15 rfl rfl rfl ?_
    refine g_V1 (nx := 19) hX dX10_total_16 rfl mX10_150 yX1_sheetAt_ok (c_X1_sheetAt hn hr) (ga_dn hn rfl) rfl rfl rfl (by decide) rfl (Nat.le_of_ble_eq_true rfl) (Nat.le_of_ble_eq_true rfl) ?_
    rintro _ _ ⟨rfl, rfl⟩
    rw [hw]
    refine g_astore_n (nx := 20) hX 2 dX10_total_19 rfl rfl rfl ?_
    refine g_aload_n (nx := 21) hX 2 dX10_total_20 rfl rfl rfl ?_
    refine g_ifnonnull hX 30 dX10_total_21 (by decide) ?_
    refine g_aload_n (nx := 31) hX 2 dX10_total_30 rfl rfl rfl ?_
    refine g_getfield (nx := 34) hX dX10_total_31 rfl fX10_166 (dm_o hn hk) (get_so hk) rfl ?_
    exact g_lreturn hX hP dX10_total_34 (Nat.le_of_ble_eq_true rfl) (Nat.le_of_ble_eq_true rfl) ⟨by rw [hs.1 j hj], top', s', hd', se', sv', H.go ht hs, rfl⟩
  · -- none
    rw [if_neg hv]
    refine ga_Mt.of (by decide) rfl (fun X hX hP => ?_)
    refine g_less [some (.ref 0), some (.int v), none] ⟨rfl, rfl, trivial⟩ ?_
    refine g_aload_n (nx := 1) hX 0 dX10_total_0 rfl rfl rfl ?_
    refine g_getfield (nx := 4) hX dX10_total_1 rfl fX10_61 (ga_dn hn rfl) rfl rfl ?_
    refine g_aload_n (nx := 5) hX 0 dX10_total_4 rfl rfl rfl ?_
    refine g_V0 (nx := 8) hX dX10_total_5 rfl mX10_143 yX10_toldAct_ok (c_X10_toldAct hn) (ga_dn hn rfl) rfl rfl rfl (by decide) rfl (Nat.le_of_ble_eq_true rfl) (Nat.le_of_ble_eq_true rfl) ?_
    rintro _ _ ⟨rfl, rfl⟩
    rw [hT]
    refine g_V1 (nx := 11) hX dX10_total_8 rfl mX10_147 yX1_knowAt_ok (ku_knowAt H ht) (ga_dn hn rfl) rfl rfl rfl (by decide) rfl (Nat.le_of_ble_eq_true rfl) (Nat.le_of_ble_eq_true rfl) ?_
    rintro _ _ ⟨rfl, top', s', hd', se', sv', hs, rfl⟩
    refine g_aload_n (nx := 12) hX 0 dX10_total_11 rfl rfl rfl ?_
    refine g_getfield (nx := 15) hX dX10_total_12 rfl fX10_61 (ga_dn hn rfl) rfl rfl ?_
    refine g_iload_n (nx := 16) hX 1 dX10_total_15 rfl rfl rfl ?_
    refine g_V1 (nx := 19) hX dX10_total_16 rfl mX10_150 yX1_sheetAt_ok (c_X1_sheetAt hn hr) (ga_dn hn rfl) rfl rfl rfl (by decide) rfl (Nat.le_of_ble_eq_true rfl) (Nat.le_of_ble_eq_true rfl) ?_
    rintro _ _ ⟨rfl, rfl⟩
    rw [hw]
    refine g_astore_nN (nx := 20) hX 2 dX10_total_19 rfl rfl rfl ?_
    refine g_aload_nN (nx := 21) hX 2 dX10_total_20 rfl rfl rfl ?_
    refine g_ifnonnullN (nx := 24) hX dX10_total_21 rfl ?_
    refine g_ldc2_w (nx := 27) hX (-2000000000000) dX10_total_24 rfl kX10_160 ?_
    refine g_goto (nx := 34) hX dX10_total_27 (by decide) ?_
    exact g_lreturn hX hP dX10_total_34 (Nat.le_of_ble_eq_true rfl) (Nat.le_of_ble_eq_true rfl) ⟨rfl, top', s', hd', se', sv', H.go ht hs, rfl⟩
theorem c_X10_isOut (H : b_H (A, ah, ou, op, fn) (cd, en, fo, sm, tot) av an rn ka ol st_ od eo sv) (hT : (if ask = -1 then nI an else ask) = nI t) (ht : t ≤ an) : ga_Mt E 7 yX10_isOut cX10_isOut 3 (some .int) 0 0 [.ref 0, .int v] (an + 106, (k_0 ask :: c1 :: c2 :: k_R rn :: ga_i 24 tm :: ga_i 6 sz :: k_C fm em sp fn op :: ga_i 32 ah :: ga_i 30 ou :: k_L an :: ga_r 4 401 (l_w an) :: ga_r 4 24 ol :: c12 :: c13 :: c14 :: k_U 15 top size tot (nI sm) :: ga_i 600 st_ :: ga_i 600 od :: ga_i 24 eo :: ga_i 24 fo :: ga_l 32 s :: c21 :: c22 :: c23 :: c24 :: c25 :: c26 :: k_B ka :: ga_r 3 24 b_w :: k_Y hd :: ga_i 120 se :: []), L2, sh_f sv (a_f av))
    (fun o M => o = some (.int (if 0 ≤ v ∧ v < nI rn then (if s_of (s_F (A, ah, ou, op, fn) (cd, en, fo, sm, tot) v.toNatClampNeg t) = 0 then 0 else 1) else -1)) ∧ ∃ top s hd se sv, b_H (A, ah, ou, op, fn) (cd, en, fo, sm, tot) av an rn t ol st_ od eo sv ∧ M = (an + 106, (k_0 ask :: c1 :: c2 :: k_R rn :: ga_i 24 tm :: ga_i 6 sz :: k_C fm em sp fn op :: ga_i 32 ah :: ga_i 30 ou :: k_L an :: ga_r 4 401 (l_w an) :: ga_r 4 24 ol :: c12 :: c13 :: c14 :: k_U 15 top size tot (nI sm) :: ga_i 600 st_ :: ga_i 600 od :: ga_i 24 eo :: ga_i 24 fo :: ga_l 32 s :: c21 :: c22 :: c23 :: c24 :: c25 :: c26 :: k_B t :: ga_r 3 24 b_w :: k_Y hd :: ga_i 120 se :: []), L2, sh_f sv (a_f av))) := by
  have hn : 106 ≤ an + 106 := by omega
  have hr := H.2.1
  rcases sh_at (v := v) hr with ⟨hv, j, hj, e, e2, hw⟩ | ⟨hv, hw⟩
  · -- a rider
    have hk : j < 24 := by omega
    rw [if_pos hv, e2]
    refine ga_Mt.of (by decide) rfl (fun X hX hP => ?_)
    refine g_less [some (.ref 0), some (.int v), none] ⟨rfl, rfl, trivial⟩ ?_
    refine g_aload_n (nx := 1) hX 0 dX10_isOut_0 rfl rfl rfl ?_
    refine g_getfield (nx := 4) hX dX10_isOut_1 rfl fX10_61 (ga_dn hn rfl) rfl rfl ?_
    refine g_aload_n (nx := 5) hX 0 dX10_isOut_4 rfl rfl rfl ?_
    refine g_V0 (nx := 8) hX dX10_isOut_5 rfl mX10_143 yX10_toldAct_ok (c_X10_toldAct hn) (ga_dn hn rfl) rfl rfl rfl (by decide) rfl (Nat.le_of_ble_eq_true rfl) (Nat.le_of_ble_eq_true rfl) ?_
    rintro _ _ ⟨rfl, rfl⟩
    rw [hT]
    refine g_V1 (nx := 11) hX dX10_isOut_8 rfl mX10_147 yX1_knowAt_ok (ku_knowAt H ht) (ga_dn hn rfl) rfl rfl rfl (by decide) rfl (Nat.le_of_ble_eq_true rfl) (Nat.le_of_ble_eq_true rfl) ?_
    rintro _ _ ⟨rfl, top', s', hd', se', sv', hs, rfl⟩
    refine g_aload_n (nx := 12) hX 0 dX10_isOut_11 rfl rfl rfl ?_
    refine g_getfield (nx := 15) hX dX10_isOut_12 rfl fX10_61 (ga_dn hn rfl) rfl rfl ?_
    refine g_iload_n (nx := 16) hX 1 dX10_isOut_15 rfl rfl rfl ?_
    refine g_V1 (nx := 19) hX dX10_isOut_16 rfl mX10_150 yX1_sheetAt_ok (c_X1_sheetAt hn hr) (ga_dn hn rfl) rfl rfl rfl (by decide) rfl (Nat.le_of_ble_eq_true rfl) (Nat.le_of_ble_eq_true rfl) ?_
    rintro _ _ ⟨rfl, rfl⟩
    rw [hw]
    refine g_astore_n (nx := 20) hX 2 dX10_isOut_19 rfl rfl rfl ?_
    refine g_aload_n (nx := 21) hX 2 dX10_isOut_20 rfl rfl rfl ?_
    refine g_ifnonnull hX 26 dX10_isOut_21 (by decide) ?_
    refine g_aload_n (nx := 27) hX 2 dX10_isOut_26 rfl rfl rfl ?_
    refine g_getfield (nx := 30) hX dX10_isOut_27 rfl fX10_170 (dm_o hn hk) (get_so hk) rfl ?_
    refine g_if_eq (nx := 33) hX 37 dX10_isOut_30 (by decide) rfl (fun h30 => ?_) (fun h30 => ?_)
    · rw [hs.1 j hj] at h30
      refine g_iconst (nx := 38) hX 0 dX10_isOut_37 rfl (by decide) ?_
      exact g_ireturn hX hP dX10_isOut_38 rfl (Nat.le_of_ble_eq_true rfl) (Nat.le_of_ble_eq_true rfl) ⟨by rw [if_pos h30], top', s', hd', se', sv', H.go ht hs, rfl⟩
    · rw [hs.1 j hj] at h30
      refine g_iconst (nx := 34) hX 1 dX10_isOut_33 rfl (by decide) ?_
      refine g_goto (nx := 38) hX dX10_isOut_34 (by decide) ?_
      exact g_ireturn hX hP dX10_isOut_38 rfl (Nat.le_of_ble_eq_true rfl) (Nat.le_of_ble_eq_true rfl) ⟨by rw [if_neg h30], top', s', hd', se', sv', H.go ht hs, rfl⟩
  · -- none
    rw [if_neg hv]
    refine ga_Mt.of (by decide) rfl (fun X hX hP => ?_)
    refine g_less [some (.ref 0), some (.int v), none] ⟨rfl, rfl, trivial⟩ ?_
    refine g_aload_n (nx := 1) hX 0 dX10_isOut_0 rfl rfl rfl ?_
    refine g_getfield (nx := 4) hX dX10_isOut_1 rfl fX10_61 (ga_dn hn rfl) rfl rfl ?_
    refine g_aload_n (nx := 5) hX 0 dX10_isOut_4 rfl rfl rfl ?_
    refine g_V0 (nx := 8) hX dX10_isOut_5 rfl mX10_143 yX10_toldAct_ok (c_X10_toldAct hn) (ga_dn hn rfl) rfl rfl rfl (by decide) rfl (Nat.le_of_ble_eq_true rfl) (Nat.le_of_ble_eq_true rfl) ?_
    rintro _ _ ⟨rfl, rfl⟩
    rw [hT]
    refine g_V1 (nx := 11) hX dX10_isOut_8 rfl mX10_147 yX1_knowAt_ok (ku_knowAt H ht) (ga_dn hn rfl) rfl rfl rfl (by decide) rfl (Nat.le_of_ble_eq_true rfl) (Nat.le_of_ble_eq_true rfl) ?_
    rintro _ _ ⟨rfl, top', s', hd', se', sv', hs, rfl⟩
    refine g_aload_n (nx := 12) hX 0 dX10_isOut_11 rfl rfl rfl ?_
    refine g_getfield (nx := 15) hX dX10_isOut_12 rfl fX10_61 (ga_dn hn rfl) rfl rfl ?_
    refine g_iload_n (nx := 16) hX 1 dX10_isOut_15 rfl rfl rfl ?_
    refine g_V1 (nx := 19) hX dX10_isOut_16 rfl mX10_150 yX1_sheetAt_ok (c_X1_sheetAt hn hr) (ga_dn hn rfl) rfl rfl rfl (by decide) rfl (Nat.le_of_ble_eq_true rfl) (Nat.le_of_ble_eq_true rfl) ?_
    rintro _ _ ⟨rfl, rfl⟩
    rw [hw]
    refine g_astore_nN (nx := 20) hX 2 dX10_isOut_19 rfl rfl rfl ?_
    refine g_aload_nN (nx := 21) hX 2 dX10_isOut_20 rfl rfl rfl ?_
    refine g_ifnonnullN (nx := 24) hX dX10_isOut_21 rfl ?_
    refine g_iconst (nx := 25) hX (-1) dX10_isOut_24 rfl (by decide) ?_
    exact g_ireturn hX hP dX10_isOut_25 rfl (Nat.le_of_ble_eq_true rfl) (Nat.le_of_ble_eq_true rfl) ⟨rfl, top', s', hd', se', sv', H.go ht hs, rfl⟩
end
