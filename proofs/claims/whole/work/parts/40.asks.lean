/-! ===== against, place, team, teamPlace, ring, since; fence, course, clock, out ===== -/
section
variable {E : ga_E} {X : ga_X} {n : Nat} {c0 c1 c2 c3 c4 c5 c6 c7 c8 c9 c10 c11 c12 c13 c14 c15 c16 c17 c18 c19 c20 c21 c22 c23 c24 c25 c26 c27 c28 c29 c30 m79 m80 m81 m82 m83 m84 m85 m86 m87 m88 m89 m90 m91 m92 m93 m94 m95 m96 m97 m98 m99 m100 m101 m102 m103 m104 m105 : ga_C} {L1 L2 : List ga_C} {f : Nat → ga_C} {o_tp o_rd o_fe o_em o_sp o_ac o_td o_sm o_tt o_at o_sz o_fk o_fp o_nw o_md o_nt o_pl o_op d_at d_tk d_ta d_fd d_fa : Int32} {d_tv : Int64} {d_rl : Value}
variable {size tot fm em sp op ask top hd : Int32} {s : Nat → Int64} {sv : Nat → sh_S} {av : Nat → a_S} {r q rn fn an ka sm : Nat} {cd : Nat → Nat × Nat} {en : Nat → Nat} {fo st_ od eo tm sz ah ou se : Nat → Int32} {ol : Nat → Option Nat}
variable {A : w_A} {t : Nat} {v w : Int32}
abbrev b_F (A : w_A) (ah ou : Nat → Int32) (op : Int32) (fn : Nat) (cd : Nat → Nat × Nat) (en : Nat → Nat) (fo : Nat → Int32) (sm : Nat) (tot : Int32) (t : Nat) : Nat → sh_S := fun r => s_F (A, ah, ou, op, fn) (cd, en, fo, sm, tot) r t
def p_ag (fo : Nat → Int32) (sm rn : Nat) (F : Nat → sh_S) (v w : Int32) : Int32 := if (0 ≤ v ∧ v < nI rn) ∧ (0 ≤ w ∧ w < nI rn) ∧ s_of (F v.toNatClampNeg) = 0 ∧ s_of (F w.toNatClampNeg) = 0 then s_cp fo sm (F v.toNatClampNeg) (F w.toNatClampNeg) else -2
theorem c_X10_against (H : b_H (A, ah, ou, op, fn) (cd, en, fo, sm, tot) av an rn ka ol st_ od eo sv) (hT : (if ask = -1 then nI an else ask) = nI t) (ht : t ≤ an) : ga_Mt E 7 yX10_against cX10_against 5 (some .int) 0 0 [.ref 0, .int v, .int w] (an + 106, (k_0 ask :: c1 :: c2 :: k_R rn :: ga_i 24 tm :: ga_i 6 sz :: k_C fm em sp fn op :: ga_i 32 ah :: ga_i 30 ou :: k_L an :: ga_r 4 401 (l_w an) :: ga_r 4 24 ol :: c12 :: c13 :: c14 :: k_U 15 top size tot (nI sm) :: ga_i 600 st_ :: ga_i 600 od :: ga_i 24 eo :: ga_i 24 fo :: ga_l 32 s :: c21 :: c22 :: c23 :: c24 :: c25 :: c26 :: k_B ka :: ga_r 3 24 b_w :: k_Y hd :: ga_i 120 se :: []), L2, sh_f sv (a_f av))
    (fun o M => o = some (.int (p_ag fo sm rn (b_F A ah ou op fn cd en fo sm tot t) v w)) ∧ ∃ top s hd se sv, b_H (A, ah, ou, op, fn) (cd, en, fo, sm, tot) av an rn t ol st_ od eo sv ∧ M = (an + 106, (k_0 ask :: c1 :: c2 :: k_R rn :: ga_i 24 tm :: ga_i 6 sz :: k_C fm em sp fn op :: ga_i 32 ah :: ga_i 30 ou :: k_L an :: ga_r 4 401 (l_w an) :: ga_r 4 24 ol :: c12 :: c13 :: c14 :: k_U 15 top size tot (nI sm) :: ga_i 600 st_ :: ga_i 600 od :: ga_i 24 eo :: ga_i 24 fo :: ga_l 32 s :: c21 :: c22 :: c23 :: c24 :: c25 :: c26 :: k_B t :: ga_r 3 24 b_w :: k_Y hd :: ga_i 120 se :: []), L2, sh_f sv (a_f av))) := by
  have hn : 106 ≤ an + 106 := by omega
  have hr := H.2.1
  have hsm : sm ≤ 24 := H.2.2.2.2.2.2.2.2.2.1.1
  rcases sh_at (v := v) hr with ⟨hv, j, hj, e, e2, hw⟩ | ⟨hv, hw⟩
  · -- a rider
    have hk : j < 24 := by omega
    rcases sh_at (v := w) hr with ⟨hv', i, hi, ei, ei2, hw'⟩ | ⟨hv', hw'⟩
    · -- both
      have hk' : i < 24 := by omega
      refine ga_Mt.of (by decide) rfl (fun X hX hP => ?_)
      refine g_less [some (.ref 0), some (.int v), some (.int w), none, none] ⟨rfl, rfl, rfl, trivial⟩ ?_
      refine g_aload_n (nx := 1) hX 0 dX10_against_0 rfl rfl rfl ?_
      refine g_getfield (nx := 4) hX dX10_against_1 rfl fX10_61 (ga_dn hn rfl) rfl rfl ?_
      refine g_aload_n (nx := 5) hX 0 dX10_against_4 rfl rfl rfl ?_
      refine g_V0 (nx := 8) hX dX10_against_5 rfl mX10_143 yX10_toldAct_ok (c_X10_toldAct hn) (ga_dn hn rfl) rfl rfl rfl (by decide) rfl (Nat.le_of_ble_eq_true rfl) (Nat.le_of_ble_eq_true rfl) ?_
      rintro _ _ ⟨rfl, rfl⟩
      rw [hT]
      refine g_V1 (nx := 11) hX dX10_against_8 rfl mX10_147 yX1_knowAt_ok (ku_knowAt H ht) (ga_dn hn rfl) rfl rfl rfl (by decide) rfl (Nat.le_of_ble_eq_true rfl) (Nat.le_of_ble_eq_true rfl) ?_
      rintro _ _ ⟨rfl, top', s', hd', se', sv', hs, rfl⟩
      refine g_aload_n (nx := 12) hX 0 dX10_against_11 rfl rfl rfl ?_
      refine g_getfield (nx := 15) hX dX10_against_12 rfl fX10_61 (ga_dn hn rfl) rfl rfl ?_
      refine g_iload_n (nx := 16) hX 1 dX10_against_15 rfl rfl rfl ?_
      refine g_V1 (nx := 19) hX dX10_against_16 rfl mX10_150 yX1_sheetAt_ok (c_X1_sheetAt hn hr) (ga_dn hn rfl) rfl rfl rfl (by decide) rfl (Nat.le_of_ble_eq_true rfl) (Nat.le_of_ble_eq_true rfl) ?_
      rintro _ _ ⟨rfl, rfl⟩
      rw [hw]
      refine g_astore_n (nx := 20) hX 3 dX10_against_19 rfl rfl rfl ?_
      refine g_aload_n (nx := 21) hX 0 dX10_against_20 rfl rfl rfl ?_
      refine g_getfield (nx := 24) hX dX10_against_21 rfl fX10_61 (ga_dn hn rfl) rfl rfl ?_
      refine g_iload_n (nx := 25) hX 2 dX10_against_24 rfl rfl rfl ?_
      refine g_V1 (nx := 28) hX dX10_against_25 rfl mX10_150 yX1_sheetAt_ok (c_X1_sheetAt hn hr) (ga_dn hn rfl) rfl rfl rfl (by decide) rfl (Nat.le_of_ble_eq_true rfl) (Nat.le_of_ble_eq_true rfl) ?_
      rintro _ _ ⟨rfl, rfl⟩
      rw [hw']
      refine g_astore (nx := 30) hX 4 dX10_against_28 rfl rfl ?_
      refine g_aload_n (nx := 31) hX 3 dX10_against_30 rfl rfl rfl ?_
      refine g_ifnull (nx := 34) hX dX10_against_31 rfl ?_
      refine g_aload (nx := 36) hX 4 dX10_against_34 rfl rfl ?_
      refine g_ifnull (nx := 39) hX dX10_against_36 rfl ?_
      refine g_aload_n (nx := 40) hX 3 dX10_against_39 rfl rfl rfl ?_
      refine g_getfield (nx := 43) hX dX10_against_40 rfl fX10_170 (dm_o hn hk) (get_so hk) rfl ?_
      refine g_if_ne (nx := 46) hX 54 dX10_against_43 (by decide) rfl (fun h43 => ?_) (fun h43 => ?_)
      · rw [hs.1 j hj] at h43
        refine g_bipush (nx := 56) hX (-2) dX10_against_54 rfl (by decide) ?_
        exact g_ireturn hX hP dX10_against_56 rfl (Nat.le_of_ble_eq_true rfl) (Nat.le_of_ble_eq_true rfl) ⟨by unfold p_ag; rw [if_neg (fun z => h43 (by rw [← e2]; exact z.2.2.1))], top', s', hd', se', sv', H.go ht hs, rfl⟩
      · rw [hs.1 j hj] at h43
        refine g_aload (nx := 48) hX 4 dX10_against_46 rfl rfl ?_
        refine g_getfield (nx := 51) hX dX10_against_48 rfl fX10_170 (dm_o hn hk') (get_so hk') rfl ?_
        refine g_if_eq (nx := 54) hX 57 dX10_against_51 (by decide) rfl (fun h51 => ?_) (fun h51 => ?_)
        · rw [hs.1 i hi] at h51
          refine g_aload_n (nx := 58) hX 0 dX10_against_57 rfl rfl rfl ?_
          refine g_getfield (nx := 61) hX dX10_against_58 rfl fX10_49 (ga_dn hn rfl) rfl rfl ?_
          refine g_aload_n (nx := 62) hX 3 dX10_against_61 rfl rfl rfl ?_
          refine g_aload (nx := 64) hX 4 dX10_against_62 rfl rfl ?_
          refine g_V2 (nx := 67) hX dX10_against_64 rfl mX10_174 yX6_compare_ok (c_X6_compare hn hk hk' hsm) (ga_dn hn rfl) rfl rfl rfl (by decide) rfl (Nat.le_of_ble_eq_true rfl) (Nat.le_of_ble_eq_true rfl) ?_
          rintro _ _ ⟨rfl, rfl⟩
          exact g_ireturn hX hP dX10_against_67 rfl (Nat.le_of_ble_eq_true rfl) (Nat.le_of_ble_eq_true rfl) ⟨by unfold p_ag; rw [if_pos ⟨hv, hv', by rw [e2]; exact h43, by rw [ei2]; exact h51⟩, e2, ei2, hs.1 j hj, hs.1 i hi], top', s', hd', se', sv', H.go ht hs, rfl⟩
        · rw [hs.1 i hi] at h51
          refine g_bipush (nx := 56) hX (-2) dX10_against_54 rfl (by decide) ?_
          exact g_ireturn hX hP dX10_against_56 rfl (Nat.le_of_ble_eq_true rfl) (Nat.le_of_ble_eq_true rfl) ⟨by unfold p_ag; rw [if_neg (fun z => h51 (by rw [← ei2]; exact z.2.2.2))], top', s', hd', se', sv', H.go ht hs, rfl⟩
    · -- the other is none
      refine ga_Mt.of (by decide) rfl (fun X hX hP => ?_)
      refine g_less [some (.ref 0), some (.int v), some (.int w), none, none] ⟨rfl, rfl, rfl, trivial⟩ ?_
      refine g_aload_n (nx := 1) hX 0 dX10_against_0 rfl rfl rfl ?_
      refine g_getfield (nx := 4) hX dX10_against_1 rfl fX10_61 (ga_dn hn rfl) rfl rfl ?_
      refine g_aload_n (nx := 5) hX 0 dX10_against_4 rfl rfl rfl ?_
      refine g_V0 (nx := 8) hX dX10_against_5 rfl mX10_143 yX10_toldAct_ok (c_X10_toldAct hn) (ga_dn hn rfl) rfl rfl rfl (by decide) rfl (Nat.le_of_ble_eq_true rfl) (Nat.le_of_ble_eq_true rfl) ?_
      rintro _ _ ⟨rfl, rfl⟩
      rw [hT]
      refine g_V1 (nx := 11) hX dX10_against_8 rfl mX10_147 yX1_knowAt_ok (ku_knowAt H ht) (ga_dn hn rfl) rfl rfl rfl (by decide) rfl (Nat.le_of_ble_eq_true rfl) (Nat.le_of_ble_eq_true rfl) ?_
      rintro _ _ ⟨rfl, top', s', hd', se', sv', hs, rfl⟩
      refine g_aload_n (nx := 12) hX 0 dX10_against_11 rfl rfl rfl ?_
      refine g_getfield (nx := 15) hX dX10_against_12 rfl fX10_61 (ga_dn hn rfl) rfl rfl ?_
      refine g_iload_n (nx := 16) hX 1 dX10_against_15 rfl rfl rfl ?_
      refine g_V1 (nx := 19) hX dX10_against_16 rfl mX10_150 yX1_sheetAt_ok (c_X1_sheetAt hn hr) (ga_dn hn rfl) rfl rfl rfl (by decide) rfl (Nat.le_of_ble_eq_true rfl) (Nat.le_of_ble_eq_true rfl) ?_
      rintro _ _ ⟨rfl, rfl⟩
      rw [hw]
      refine g_astore_n (nx := 20) hX 3 dX10_against_19 rfl rfl rfl ?_
      refine g_aload_n (nx := 21) hX 0 dX10_against_20 rfl rfl rfl ?_
      refine g_getfield (nx := 24) hX dX10_against_21 rfl fX10_61 (ga_dn hn rfl) rfl rfl ?_
      refine g_iload_n (nx := 25) hX 2 dX10_against_24 rfl rfl rfl ?_
      refine g_V1 (nx := 28) hX dX10_against_25 rfl mX10_150 yX1_sheetAt_ok (c_X1_sheetAt hn hr) (ga_dn hn rfl) rfl rfl rfl (by decide) rfl (Nat.le_of_ble_eq_true rfl) (Nat.le_of_ble_eq_true rfl) ?_
      rintro _ _ ⟨rfl, rfl⟩
      rw [hw']
      refine g_astoreN (nx := 30) hX 4 dX10_against_28 rfl rfl ?_
      refine g_aload_n (nx := 31) hX 3 dX10_against_30 rfl rfl rfl ?_
      refine g_ifnull (nx := 34) hX dX10_against_31 rfl ?_
      refine g_aloadN (nx := 36) hX 4 dX10_against_34 rfl rfl ?_
      refine g_ifnullN hX 54 dX10_against_36 (by decide) ?_
      refine g_bipush (nx := 56) hX (-2) dX10_against_54 rfl (by decide) ?_
      exact g_ireturn hX hP dX10_against_56 rfl (Nat.le_of_ble_eq_true rfl) (Nat.le_of_ble_eq_true rfl) ⟨by unfold p_ag; rw [if_neg (fun z => hv' z.2.1)], top', s', hd', se', sv', H.go ht hs, rfl⟩
  · -- none
    have key : ∀ p, ga_rf (if 0 ≤ w ∧ w < nI rn then some (2 * w.toNatClampNeg + 31) else none) = ga_rf p → True := fun _ _ => trivial
    rcases sh_at (v := w) hr with ⟨hv', i, hi, ei, ei2, hw'⟩ | ⟨hv', hw'⟩
    · -- one
      refine ga_Mt.of (by decide) rfl (fun X hX hP => ?_)
      refine g_less [some (.ref 0), some (.int v), some (.int w), none, none] ⟨rfl, rfl, rfl, trivial⟩ ?_
      refine g_aload_n (nx := 1) hX 0 dX10_against_0 rfl rfl rfl ?_
      refine g_getfield (nx := 4) hX dX10_against_1 rfl fX10_61 (ga_dn hn rfl) rfl rfl ?_
      refine g_aload_n (nx := 5) hX 0 dX10_against_4 rfl rfl rfl ?_
      refine g_V0 (nx := 8) hX dX10_against_5 rfl mX10_143 yX10_toldAct_ok (c_X10_toldAct hn) (ga_dn hn rfl) rfl rfl rfl (by decide) rfl (Nat.le_of_ble_eq_true rfl) (Nat.le_of_ble_eq_true rfl) ?_
      rintro _ _ ⟨rfl, rfl⟩
      rw [hT]
      refine g_V1 (nx := 11) hX dX10_against_8 rfl mX10_147 yX1_knowAt_ok (ku_knowAt H ht) (ga_dn hn rfl) rfl rfl rfl (by decide) rfl (Nat.le_of_ble_eq_true rfl) (Nat.le_of_ble_eq_true rfl) ?_
      rintro _ _ ⟨rfl, top', s', hd', se', sv', hs, rfl⟩
      refine g_aload_n (nx := 12) hX 0 dX10_against_11 rfl rfl rfl ?_
      refine g_getfield (nx := 15) hX dX10_against_12 rfl fX10_61 (ga_dn hn rfl) rfl rfl ?_
      refine g_iload_n (nx := 16) hX 1 dX10_against_15 rfl rfl rfl ?_
      refine g_V1 (nx := 19) hX dX10_against_16 rfl mX10_150 yX1_sheetAt_ok (c_X1_sheetAt hn hr) (ga_dn hn rfl) rfl rfl rfl (by decide) rfl (Nat.le_of_ble_eq_true rfl) (Nat.le_of_ble_eq_true rfl) ?_
      rintro _ _ ⟨rfl, rfl⟩
      rw [hw]
      refine g_astore_nN (nx := 20) hX 3 dX10_against_19 rfl rfl rfl ?_
      refine g_aload_n (nx := 21) hX 0 dX10_against_20 rfl rfl rfl ?_
      refine g_getfield (nx := 24) hX dX10_against_21 rfl fX10_61 (ga_dn hn rfl) rfl rfl ?_
      refine g_iload_n (nx := 25) hX 2 dX10_against_24 rfl rfl rfl ?_
      refine g_V1 (nx := 28) hX dX10_against_25 rfl mX10_150 yX1_sheetAt_ok (c_X1_sheetAt hn hr) (ga_dn hn rfl) rfl rfl rfl (by decide) rfl (Nat.le_of_ble_eq_true rfl) (Nat.le_of_ble_eq_true rfl) ?_
      rintro _ _ ⟨rfl, rfl⟩
      rw [hw']
      refine g_astore (nx := 30) hX 4 dX10_against_28 rfl rfl ?_
      refine g_aload_nN (nx := 31) hX 3 dX10_against_30 rfl rfl rfl ?_
      refine g_ifnullN hX 54 dX10_against_31 (by decide) ?_
      refine g_bipush (nx := 56) hX (-2) dX10_against_54 rfl (by decide) ?_
      exact g_ireturn hX hP dX10_against_56 rfl (Nat.le_of_ble_eq_true rfl) (Nat.le_of_ble_eq_true rfl) ⟨by unfold p_ag; rw [if_neg (fun z => hv z.1)], top', s', hd', se', sv', H.go ht hs, rfl⟩
    · -- neither
      refine ga_Mt.of (by decide) rfl (fun X hX hP => ?_)
      refine g_less [some (.ref 0), some (.int v), some (.int w), none, none] ⟨rfl, rfl, rfl, trivial⟩ ?_
      refine g_aload_n (nx := 1) hX 0 dX10_against_0 rfl rfl rfl ?_
      refine g_getfield (nx := 4) hX dX10_against_1 rfl fX10_61 (ga_dn hn rfl) rfl rfl ?_
      refine g_aload_n (nx := 5) hX 0 dX10_against_4 rfl rfl rfl ?_
      refine g_V0 (nx := 8) hX dX10_against_5 rfl mX10_143 yX10_toldAct_ok (c_X10_toldAct hn) (ga_dn hn rfl) rfl rfl rfl (by decide) rfl (Nat.le_of_ble_eq_true rfl) (Nat.le_of_ble_eq_true rfl) ?_
      rintro _ _ ⟨rfl, rfl⟩
      rw [hT]
      refine g_V1 (nx := 11) hX dX10_against_8 rfl mX10_147 yX1_knowAt_ok (ku_knowAt H ht) (ga_dn hn rfl) rfl rfl rfl (by decide) rfl (Nat.le_of_ble_eq_true rfl) (Nat.le_of_ble_eq_true rfl) ?_
      rintro _ _ ⟨rfl, top', s', hd', se', sv', hs, rfl⟩
      refine g_aload_n (nx := 12) hX 0 dX10_against_11 rfl rfl rfl ?_
      refine g_getfield (nx := 15) hX dX10_against_12 rfl fX10_61 (ga_dn hn rfl) rfl rfl ?_
      refine g_iload_n (nx := 16) hX 1 dX10_against_15 rfl rfl rfl ?_
      refine g_V1 (nx := 19) hX dX10_against_16 rfl mX10_150 yX1_sheetAt_ok (c_X1_sheetAt hn hr) (ga_dn hn rfl) rfl rfl rfl (by decide) rfl (Nat.le_of_ble_eq_true rfl) (Nat.le_of_ble_eq_true rfl) ?_
      rintro _ _ ⟨rfl, rfl⟩
      rw [hw]
      refine g_astore_nN (nx := 20) hX 3 dX10_against_19 rfl rfl rfl ?_
      refine g_aload_n (nx := 21) hX 0 dX10_against_20 rfl rfl rfl ?_
      refine g_getfield (nx := 24) hX dX10_against_21 rfl fX10_61 (ga_dn hn rfl) rfl rfl ?_
      refine g_iload_n (nx := 25) hX 2 dX10_against_24 rfl rfl rfl ?_
      refine g_V1 (nx := 28) hX dX10_against_25 rfl mX10_150 yX1_sheetAt_ok (c_X1_sheetAt hn hr) (ga_dn hn rfl) rfl rfl rfl (by decide) rfl (Nat.le_of_ble_eq_true rfl) (Nat.le_of_ble_eq_true rfl) ?_
      rintro _ _ ⟨rfl, rfl⟩
      rw [hw']
      refine g_astoreN (nx := 30) hX 4 dX10_against_28 rfl rfl ?_
      refine g_aload_nN (nx := 31) hX 3 dX10_against_30 rfl rfl rfl ?_
      refine g_ifnullN hX 54 dX10_against_31 (by decide) ?_
      refine g_bipush (nx := 56) hX (-2) dX10_against_54 rfl (by decide) ?_
      exact g_ireturn hX hP dX10_against_56 rfl (Nat.le_of_ble_eq_true rfl) (Nat.le_of_ble_eq_true rfl) ⟨by unfold p_ag; rw [if_neg (fun z => hv z.1)], top', s', hd', se', sv', H.go ht hs, rfl⟩
def p_pv (fo : Nat → Int32) (sm rn : Nat) (F : Nat → sh_S) (v : Int32) : Int32 := if 0 ≤ v ∧ v < nI rn then p_pl fo sm rn F v.toNatClampNeg else -1
theorem p_pv_c {sv sv' : Nat → sh_S} (hr : rn ≤ 24) (h : ∀ r, r < rn → sv r = sv' r) : (if 0 ≤ v ∧ v < nI rn then p_pl fo sm rn sv v.toNatClampNeg else -1) = p_pv fo sm rn sv' v := by
  unfold p_pv
  by_cases hv : 0 ≤ v ∧ v < nI rn
  · obtain ⟨j, hj, e, e2⟩ := v_of hv.1 hv.2 (by omega)
    rw [if_pos hv, if_pos hv, e2, p_pl_c h hj]
  · rw [if_neg hv, if_neg hv]
theorem c_X10_place (H : b_H (A, ah, ou, op, fn) (cd, en, fo, sm, tot) av an rn ka ol st_ od eo sv) (hT : (if ask = -1 then nI an else ask) = nI t) (ht : t ≤ an) : ga_Mt E 7 yX10_place cX10_place 2 (some .int) 0 0 [.ref 0, .int v] (an + 106, (k_0 ask :: c1 :: c2 :: k_R rn :: ga_i 24 tm :: ga_i 6 sz :: k_C fm em sp fn op :: ga_i 32 ah :: ga_i 30 ou :: k_L an :: ga_r 4 401 (l_w an) :: ga_r 4 24 ol :: c12 :: c13 :: c14 :: k_U 15 top size tot (nI sm) :: ga_i 600 st_ :: ga_i 600 od :: ga_i 24 eo :: ga_i 24 fo :: ga_l 32 s :: c21 :: c22 :: c23 :: c24 :: c25 :: c26 :: k_B ka :: ga_r 3 24 b_w :: k_Y hd :: ga_i 120 se :: []), L2, sh_f sv (a_f av))
    (fun o M => o = some (.int (p_pv fo sm rn (b_F A ah ou op fn cd en fo sm tot t) v)) ∧ ∃ top s hd se sv, b_H (A, ah, ou, op, fn) (cd, en, fo, sm, tot) av an rn t ol st_ od eo sv ∧ M = (an + 106, (k_0 ask :: c1 :: c2 :: k_R rn :: ga_i 24 tm :: ga_i 6 sz :: k_C fm em sp fn op :: ga_i 32 ah :: ga_i 30 ou :: k_L an :: ga_r 4 401 (l_w an) :: ga_r 4 24 ol :: c12 :: c13 :: c14 :: k_U 15 top size tot (nI sm) :: ga_i 600 st_ :: ga_i 600 od :: ga_i 24 eo :: ga_i 24 fo :: ga_l 32 s :: c21 :: c22 :: c23 :: c24 :: c25 :: c26 :: k_B t :: ga_r 3 24 b_w :: k_Y hd :: ga_i 120 se :: []), L2, sh_f sv (a_f av))) := by
  have hn : 106 ≤ an + 106 := by omega
  have hr := H.2.1
  have hsm : sm ≤ 24 := H.2.2.2.2.2.2.2.2.2.1.1
  refine ga_Mt.of (by decide) rfl (fun X hX hP => ?_)
  refine g_less [some (.ref 0), some (.int v)] ⟨rfl, rfl, trivial⟩ ?_
  refine g_aload_n (nx := 1) hX 0 dX10_place_0 rfl rfl rfl ?_
  refine g_getfield (nx := 4) hX dX10_place_1 rfl fX10_61 (ga_dn hn rfl) rfl rfl ?_
  refine g_aload_n (nx := 5) hX 0 dX10_place_4 rfl rfl rfl ?_
  refine g_V0 (nx := 8) hX dX10_place_5 rfl mX10_143 yX10_toldAct_ok (c_X10_toldAct hn) (ga_dn hn rfl) rfl rfl rfl (by decide) rfl (Nat.le_of_ble_eq_true rfl) (Nat.le_of_ble_eq_true rfl) ?_
  rintro _ _ ⟨rfl, rfl⟩
  rw [hT]
  refine g_V1 (nx := 11) hX dX10_place_8 rfl mX10_147 yX1_knowAt_ok (ku_knowAt H ht) (ga_dn hn rfl) rfl rfl rfl (by decide) rfl (Nat.le_of_ble_eq_true rfl) (Nat.le_of_ble_eq_true rfl) ?_
  rintro _ _ ⟨rfl, top', s', hd', se', sv', hs, rfl⟩
  refine g_aload_n (nx := 12) hX 0 dX10_place_11 rfl rfl rfl ?_
  refine g_getfield (nx := 15) hX dX10_place_12 rfl fX10_61 (ga_dn hn rfl) rfl rfl ?_
  refine g_iload_n (nx := 16) hX 1 dX10_place_15 rfl rfl rfl ?_
  refine g_V1 (nx := 19) hX dX10_place_16 rfl mX10_178 yX1_placeOf_ok (c_X1_placeOf hn hr hsm) (ga_dn hn rfl) rfl rfl rfl (by decide) rfl (Nat.le_of_ble_eq_true rfl) (Nat.le_of_ble_eq_true rfl) ?_
  rintro _ _ ⟨rfl, rfl⟩
  exact g_ireturn hX hP dX10_place_19 rfl (Nat.le_of_ble_eq_true rfl) (Nat.le_of_ble_eq_true rfl) ⟨by rw [p_pv_c hr hs.1], top', s', hd', se', sv', H.go ht hs, rfl⟩
theorem c_X10_ring (H : b_H (A, ah, ou, op, fn) (cd, en, fo, sm, tot) av an rn ka ol st_ od eo sv) (hT : (if ask = -1 then nI an else ask) = nI t) (ht : t ≤ an) : ga_Mt E 7 yX10_ring cX10_ring 2 (some .int) 0 0 [.ref 0, .int v] (an + 106, (k_0 ask :: c1 :: c2 :: k_R rn :: ga_i 24 tm :: ga_i 6 sz :: k_C fm em sp fn op :: ga_i 32 ah :: ga_i 30 ou :: k_L an :: ga_r 4 401 (l_w an) :: ga_r 4 24 ol :: c12 :: c13 :: c14 :: k_U 15 top size tot (nI sm) :: ga_i 600 st_ :: ga_i 600 od :: ga_i 24 eo :: ga_i 24 fo :: ga_l 32 s :: c21 :: c22 :: c23 :: c24 :: c25 :: c26 :: k_B ka :: ga_r 3 24 b_w :: k_Y hd :: ga_i 120 se :: []), L2, sh_f sv (a_f av))
    (fun o M => o = some (.int (p_rg fo sm rn (b_F A ah ou op fn cd en fo sm tot t) v)) ∧ ∃ top s hd se sv, b_H (A, ah, ou, op, fn) (cd, en, fo, sm, tot) av an rn t ol st_ od eo sv ∧ M = (an + 106, (k_0 ask :: c1 :: c2 :: k_R rn :: ga_i 24 tm :: ga_i 6 sz :: k_C fm em sp fn op :: ga_i 32 ah :: ga_i 30 ou :: k_L an :: ga_r 4 401 (l_w an) :: ga_r 4 24 ol :: c12 :: c13 :: c14 :: k_U 15 top size tot (nI sm) :: ga_i 600 st_ :: ga_i 600 od :: ga_i 24 eo :: ga_i 24 fo :: ga_l 32 s :: c21 :: c22 :: c23 :: c24 :: c25 :: c26 :: k_B t :: ga_r 3 24 b_w :: k_Y hd :: ga_i 120 se :: []), L2, sh_f sv (a_f av))) := by
  have hn : 106 ≤ an + 106 := by omega
  have hr := H.2.1
  have hsm : sm ≤ 24 := H.2.2.2.2.2.2.2.2.2.1.1
  refine ga_Mt.of (by decide) rfl (fun X hX hP => ?_)
  refine g_less [some (.ref 0), some (.int v)] ⟨rfl, rfl, trivial⟩ ?_
  refine g_aload_n (nx := 1) hX 0 dX10_ring_0 rfl rfl rfl ?_
  refine g_getfield (nx := 4) hX dX10_ring_1 rfl fX10_61 (ga_dn hn rfl) rfl rfl ?_
  refine g_aload_n (nx := 5) hX 0 dX10_ring_4 rfl rfl rfl ?_
  refine g_V0 (nx := 8) hX dX10_ring_5 rfl mX10_143 yX10_toldAct_ok (c_X10_toldAct hn) (ga_dn hn rfl) rfl rfl rfl (by decide) rfl (Nat.le_of_ble_eq_true rfl) (Nat.le_of_ble_eq_true rfl) ?_
  rintro _ _ ⟨rfl, rfl⟩
  rw [hT]
  refine g_V1 (nx := 11) hX dX10_ring_8 rfl mX10_147 yX1_knowAt_ok (ku_knowAt H ht) (ga_dn hn rfl) rfl rfl rfl (by decide) rfl (Nat.le_of_ble_eq_true rfl) (Nat.le_of_ble_eq_true rfl) ?_
  rintro _ _ ⟨rfl, top', s', hd', se', sv', hs, rfl⟩
  refine g_aload_n (nx := 12) hX 0 dX10_ring_11 rfl rfl rfl ?_
  refine g_getfield (nx := 15) hX dX10_ring_12 rfl fX10_61 (ga_dn hn rfl) rfl rfl ?_
  refine g_iload_n (nx := 16) hX 1 dX10_ring_15 rfl rfl rfl ?_
  refine g_V1 (nx := 19) hX dX10_ring_16 rfl mX10_192 yX1_inRing_ok (c_X1_inRing hn hr hsm) (ga_dn hn rfl) rfl rfl rfl (by decide) rfl (Nat.le_of_ble_eq_true rfl) (Nat.le_of_ble_eq_true rfl) ?_
  rintro _ _ ⟨rfl, rfl⟩
  exact g_ireturn hX hP dX10_ring_19 rfl (Nat.le_of_ble_eq_true rfl) (Nat.le_of_ble_eq_true rfl) ⟨by rw [p_rg_c hs.1], top', s', hd', se', sv', H.go ht hs, rfl⟩
theorem c_X10_team (H : b_H (A, ah, ou, op, fn) (cd, en, fo, sm, tot) av an rn ka ol st_ od eo sv) (hT : (if ask = -1 then nI an else ask) = nI t) (ht : t ≤ an) : ga_Mt E 7 yX10_team cX10_team 2 (some .long) 0 0 [.ref 0, .int v] (an + 106, (k_0 ask :: c1 :: c2 :: k_R rn :: ga_i 24 tm :: ga_i 6 sz :: k_C fm em sp fn op :: ga_i 32 ah :: ga_i 30 ou :: k_L an :: ga_r 4 401 (l_w an) :: ga_r 4 24 ol :: c12 :: c13 :: c14 :: k_U 15 top size tot (nI sm) :: ga_i 600 st_ :: ga_i 600 od :: ga_i 24 eo :: ga_i 24 fo :: ga_l 32 s :: c21 :: c22 :: c23 :: c24 :: c25 :: c26 :: k_B ka :: ga_r 3 24 b_w :: k_Y hd :: ga_i 120 se :: []), L2, sh_f sv (a_f av))
    (fun o M => o = some (.long (if r_so sz v = 0 then -1 else p_sum tm (b_F A ah ou op fn cd en fo sm tot t) rn v)) ∧ ∃ top s hd se sv, b_H (A, ah, ou, op, fn) (cd, en, fo, sm, tot) av an rn t ol st_ od eo sv ∧ M = (an + 106, (k_0 ask :: c1 :: c2 :: k_R rn :: ga_i 24 tm :: ga_i 6 sz :: k_C fm em sp fn op :: ga_i 32 ah :: ga_i 30 ou :: k_L an :: ga_r 4 401 (l_w an) :: ga_r 4 24 ol :: c12 :: c13 :: c14 :: k_U 15 top size tot (nI sm) :: ga_i 600 st_ :: ga_i 600 od :: ga_i 24 eo :: ga_i 24 fo :: ga_l 32 s :: c21 :: c22 :: c23 :: c24 :: c25 :: c26 :: k_B t :: ga_r 3 24 b_w :: k_Y hd :: ga_i 120 se :: []), L2, sh_f sv (a_f av))) := by
  have hn : 106 ≤ an + 106 := by omega
  have hr := H.2.1
  refine ga_Mt.of (by decide) rfl (fun X hX hP => ?_)
  refine g_less [some (.ref 0), some (.int v)] ⟨rfl, rfl, trivial⟩ ?_
  refine g_aload_n (nx := 1) hX 0 dX10_team_0 rfl rfl rfl ?_
  refine g_getfield (nx := 4) hX dX10_team_1 rfl fX10_61 (ga_dn hn rfl) rfl rfl ?_
  refine g_aload_n (nx := 5) hX 0 dX10_team_4 rfl rfl rfl ?_
  refine g_V0 (nx := 8) hX dX10_team_5 rfl mX10_143 yX10_toldAct_ok (c_X10_toldAct hn) (ga_dn hn rfl) rfl rfl rfl (by decide) rfl (Nat.le_of_ble_eq_true rfl) (Nat.le_of_ble_eq_true rfl) ?_
  rintro _ _ ⟨rfl, rfl⟩
  rw [hT]
  refine g_V1 (nx := 11) hX dX10_team_8 rfl mX10_147 yX1_knowAt_ok (ku_knowAt H ht) (ga_dn hn rfl) rfl rfl rfl (by decide) rfl (Nat.le_of_ble_eq_true rfl) (Nat.le_of_ble_eq_true rfl) ?_
  rintro _ _ ⟨rfl, top', s', hd', se', sv', hs, rfl⟩
  refine g_aload_n (nx := 12) hX 0 dX10_team_11 rfl rfl rfl ?_
  refine g_getfield (nx := 15) hX dX10_team_12 rfl fX10_19 (ga_dn hn rfl) rfl rfl ?_
  refine g_iload_n (nx := 16) hX 1 dX10_team_15 rfl rfl rfl ?_
  refine g_V1 (nx := 19) hX dX10_team_16 rfl mX10_181 yX5_sizeOfTeam_ok (c_X5_sizeOfTeam hn) (ga_dn hn rfl) rfl rfl rfl (by decide) rfl (Nat.le_of_ble_eq_true rfl) (Nat.le_of_ble_eq_true rfl) ?_
  rintro _ _ ⟨rfl, rfl⟩
  refine g_if_ne (nx := 22) hX 28 dX10_team_19 (by decide) rfl (fun h19 => ?_) (fun h19 => ?_)
  · refine g_aload_n (nx := 29) hX 0 dX10_team_28 rfl rfl rfl ?_
    refine g_getfield (nx := 32) hX dX10_team_29 rfl fX10_61 (ga_dn hn rfl) rfl rfl ?_
    refine g_iload_n (nx := 33) hX 1 dX10_team_32 rfl rfl rfl ?_
    refine g_V1 (nx := 36) hX dX10_team_33 rfl mX10_186 yX1_teamSum_ok (c_X1_teamSum hn hr) (ga_dn hn rfl) rfl rfl rfl (by decide) rfl (Nat.le_of_ble_eq_true rfl) (Nat.le_of_ble_eq_true rfl) ?_
    rintro _ _ ⟨rfl, rfl⟩
    exact g_lreturn hX hP dX10_team_36 (Nat.le_of_ble_eq_true rfl) (Nat.le_of_ble_eq_true rfl) ⟨by rw [if_neg h19, p_sum_c hs.1], top', s', hd', se', sv', H.go ht hs, rfl⟩
  · refine g_ldc2_w (nx := 25) hX (-1) dX10_team_22 rfl kX10_184 ?_
    refine g_goto (nx := 36) hX dX10_team_25 (by decide) ?_
    exact g_lreturn hX hP dX10_team_36 (Nat.le_of_ble_eq_true rfl) (Nat.le_of_ble_eq_true rfl) ⟨by rw [if_pos h19], top', s', hd', se', sv', H.go ht hs, rfl⟩
theorem c_X10_teamPlace (H : b_H (A, ah, ou, op, fn) (cd, en, fo, sm, tot) av an rn ka ol st_ od eo sv) (hT : (if ask = -1 then nI an else ask) = nI t) (ht : t ≤ an) : ga_Mt E 7 yX10_teamPlace cX10_teamPlace 2 (some .int) 0 0 [.ref 0, .int v] (an + 106, (k_0 ask :: c1 :: c2 :: k_R rn :: ga_i 24 tm :: ga_i 6 sz :: k_C fm em sp fn op :: ga_i 32 ah :: ga_i 30 ou :: k_L an :: ga_r 4 401 (l_w an) :: ga_r 4 24 ol :: c12 :: c13 :: c14 :: k_U 15 top size tot (nI sm) :: ga_i 600 st_ :: ga_i 600 od :: ga_i 24 eo :: ga_i 24 fo :: ga_l 32 s :: c21 :: c22 :: c23 :: c24 :: c25 :: c26 :: k_B ka :: ga_r 3 24 b_w :: k_Y hd :: ga_i 120 se :: []), L2, sh_f sv (a_f av))
    (fun o M => o = some (.int (if r_so sz v = 0 then -1 else nI (p_tp tm sz (b_F A ah ou op fn cd en fo sm tot t) rn v 6))) ∧ ∃ top s hd se sv, b_H (A, ah, ou, op, fn) (cd, en, fo, sm, tot) av an rn t ol st_ od eo sv ∧ M = (an + 106, (k_0 ask :: c1 :: c2 :: k_R rn :: ga_i 24 tm :: ga_i 6 sz :: k_C fm em sp fn op :: ga_i 32 ah :: ga_i 30 ou :: k_L an :: ga_r 4 401 (l_w an) :: ga_r 4 24 ol :: c12 :: c13 :: c14 :: k_U 15 top size tot (nI sm) :: ga_i 600 st_ :: ga_i 600 od :: ga_i 24 eo :: ga_i 24 fo :: ga_l 32 s :: c21 :: c22 :: c23 :: c24 :: c25 :: c26 :: k_B t :: ga_r 3 24 b_w :: k_Y hd :: ga_i 120 se :: []), L2, sh_f sv (a_f av))) := by
  have hn : 106 ≤ an + 106 := by omega
  have hr := H.2.1
  refine ga_Mt.of (by decide) rfl (fun X hX hP => ?_)
  refine g_less [some (.ref 0), some (.int v)] ⟨rfl, rfl, trivial⟩ ?_
  refine g_aload_n (nx := 1) hX 0 dX10_teamPlace_0 rfl rfl rfl ?_
  refine g_getfield (nx := 4) hX dX10_teamPlace_1 rfl fX10_61 (ga_dn hn rfl) rfl rfl ?_
  refine g_aload_n (nx := 5) hX 0 dX10_teamPlace_4 rfl rfl rfl ?_
  refine g_V0 (nx := 8) hX dX10_teamPlace_5 rfl mX10_143 yX10_toldAct_ok (c_X10_toldAct hn) (ga_dn hn rfl) rfl rfl rfl (by decide) rfl (Nat.le_of_ble_eq_true rfl) (Nat.le_of_ble_eq_true rfl) ?_
  rintro _ _ ⟨rfl, rfl⟩
  rw [hT]
  refine g_V1 (nx := 11) hX dX10_teamPlace_8 rfl mX10_147 yX1_knowAt_ok (ku_knowAt H ht) (ga_dn hn rfl) rfl rfl rfl (by decide) rfl (Nat.le_of_ble_eq_true rfl) (Nat.le_of_ble_eq_true rfl) ?_
  rintro _ _ ⟨rfl, top', s', hd', se', sv', hs, rfl⟩
  refine g_aload_n (nx := 12) hX 0 dX10_teamPlace_11 rfl rfl rfl ?_
  refine g_getfield (nx := 15) hX dX10_teamPlace_12 rfl fX10_19 (ga_dn hn rfl) rfl rfl ?_
  refine g_iload_n (nx := 16) hX 1 dX10_teamPlace_15 rfl rfl rfl ?_
  refine g_V1 (nx := 19) hX dX10_teamPlace_16 rfl mX10_181 yX5_sizeOfTeam_ok (c_X5_sizeOfTeam hn) (ga_dn hn rfl) rfl rfl rfl (by decide) rfl (Nat.le_of_ble_eq_true rfl) (Nat.le_of_ble_eq_true rfl) ?_
  rintro _ _ ⟨rfl, rfl⟩
  refine g_if_ne (nx := 22) hX 26 dX10_teamPlace_19 (by decide) rfl (fun h19 => ?_) (fun h19 => ?_)
  · refine g_aload_n (nx := 27) hX 0 dX10_teamPlace_26 rfl rfl rfl ?_
    refine g_getfield (nx := 30) hX dX10_teamPlace_27 rfl fX10_61 (ga_dn hn rfl) rfl rfl ?_
    refine g_iload_n (nx := 31) hX 1 dX10_teamPlace_30 rfl rfl rfl ?_
    refine g_V1 (nx := 34) hX dX10_teamPlace_31 rfl mX10_189 yX1_placeOfTeam_ok (c_X1_placeOfTeam hn hr) (ga_dn hn rfl) rfl rfl rfl (by decide) rfl (Nat.le_of_ble_eq_true rfl) (Nat.le_of_ble_eq_true rfl) ?_
    rintro _ _ ⟨rfl, rfl⟩
    exact g_ireturn hX hP dX10_teamPlace_34 rfl (Nat.le_of_ble_eq_true rfl) (Nat.le_of_ble_eq_true rfl) ⟨by rw [if_neg h19, p_tp_c hs.1], top', s', hd', se', sv', H.go ht hs, rfl⟩
  · refine g_iconst (nx := 23) hX (-1) dX10_teamPlace_22 rfl (by decide) ?_
    refine g_goto (nx := 34) hX dX10_teamPlace_23 (by decide) ?_
    exact g_ireturn hX hP dX10_teamPlace_34 rfl (Nat.le_of_ble_eq_true rfl) (Nat.le_of_ble_eq_true rfl) ⟨by rw [if_pos h19], top', s', hd', se', sv', H.go ht hs, rfl⟩
theorem p_pl_0 {F : Nat → sh_S} {r : Nat} (hr : rn ≤ 24) : ¬ p_pl fo sm rn F r = -1 := by
  have := p_na_le fo sm F (F r) rn
  unfold p_pl
  split
  · exact nI_neg1 (by omega)
  · decide
theorem c_X10_since (H : b_H (A, ah, ou, op, fn) (cd, en, fo, sm, tot) av an rn ka ol st_ od eo sv) (hT : (if ask = -1 then nI an else ask) = nI t) (ht : t ≤ an) : ga_Mt E 7 yX10_since cX10_since 5 (some .int) 0 0 [.ref 0, .int v] (an + 106, (k_0 ask :: c1 :: c2 :: k_R rn :: ga_i 24 tm :: ga_i 6 sz :: k_C fm em sp fn op :: ga_i 32 ah :: ga_i 30 ou :: k_L an :: ga_r 4 401 (l_w an) :: ga_r 4 24 ol :: c12 :: c13 :: c14 :: k_U 15 top size tot (nI sm) :: ga_i 600 st_ :: ga_i 600 od :: ga_i 24 eo :: ga_i 24 fo :: ga_l 32 s :: c21 :: c22 :: c23 :: c24 :: c25 :: c26 :: k_B ka :: ga_r 3 24 b_w :: k_Y hd :: ga_i 120 se :: []), L2, sh_f sv (a_f av))
    (fun o M => o = some (.int (if 0 ≤ v ∧ v < nI rn then p_si (fun t => p_pl fo sm rn (b_F A ah ou op fn cd en fo sm tot t) v.toNatClampNeg) (p_pl fo sm rn (b_F A ah ou op fn cd en fo sm tot t) v.toNatClampNeg) t else -1)) ∧ ∃ top s hd se ka sv, b_H (A, ah, ou, op, fn) (cd, en, fo, sm, tot) av an rn ka ol st_ od eo sv ∧ M = (an + 106, (k_0 ask :: c1 :: c2 :: k_R rn :: ga_i 24 tm :: ga_i 6 sz :: k_C fm em sp fn op :: ga_i 32 ah :: ga_i 30 ou :: k_L an :: ga_r 4 401 (l_w an) :: ga_r 4 24 ol :: c12 :: c13 :: c14 :: k_U 15 top size tot (nI sm) :: ga_i 600 st_ :: ga_i 600 od :: ga_i 24 eo :: ga_i 24 fo :: ga_l 32 s :: c21 :: c22 :: c23 :: c24 :: c25 :: c26 :: k_B ka :: ga_r 3 24 b_w :: k_Y hd :: ga_i 120 se :: []), L2, sh_f sv (a_f av))) := by
  have hn : 106 ≤ an + 106 := by omega
  have hr := H.2.1
  have ha := H.1
  have hsm : sm ≤ 24 := H.2.2.2.2.2.2.2.2.2.1.1
  refine ga_Mt.of (by decide) rfl (fun X hX hP => ?_)
  refine g_less [some (.ref 0), some (.int v), none, none, none] ⟨rfl, rfl, trivial⟩ ?_
  have loop : (0 ≤ v ∧ v < nI rn) → ∀ (k : Nat) (top : Int32) (s : Nat → Int64) (hd : Int32) (se : Nat → Int32) (ka : Nat) (sv : Nat → sh_S), b_H (A, ah, ou, op, fn) (cd, en, fo, sm, tot) av an rn ka ol st_ od eo sv → k ≤ an → p_si (fun t => p_pl fo sm rn (b_F A ah ou op fn cd en fo sm tot t) v.toNatClampNeg) (p_pl fo sm rn (b_F A ah ou op fn cd en fo sm tot t) v.toNatClampNeg) t = p_si (fun t => p_pl fo sm rn (b_F A ah ou op fn cd en fo sm tot t) v.toNatClampNeg) (p_pl fo sm rn (b_F A ah ou op fn cd en fo sm tot t) v.toNatClampNeg) k → ga_G E X 0 0 34 [some (.ref 0), some (.int v), none, some (.int (p_pl fo sm rn (b_F A ah ou op fn cd en fo sm tot t) v.toNatClampNeg)), some (.int (nI k - 1))] [] (an + 106, (k_0 ask :: c1 :: c2 :: k_R rn :: ga_i 24 tm :: ga_i 6 sz :: k_C fm em sp fn op :: ga_i 32 ah :: ga_i 30 ou :: k_L an :: ga_r 4 401 (l_w an) :: ga_r 4 24 ol :: c12 :: c13 :: c14 :: k_U 15 top size tot (nI sm) :: ga_i 600 st_ :: ga_i 600 od :: ga_i 24 eo :: ga_i 24 fo :: ga_l 32 s :: c21 :: c22 :: c23 :: c24 :: c25 :: c26 :: k_B ka :: ga_r 3 24 b_w :: k_Y hd :: ga_i 120 se :: []), L2, sh_f sv (a_f av)) := by
    intro hv k
    obtain ⟨j, hj, ej, ej2⟩ := v_of hv.1 hv.2 (by omega)
    induction k with
    | zero =>
      intro top s hd se ka sv H hk h3
      refine g_iload (nx := 36) hX 4 dX10_since_34 rfl rfl ?_
      refine g_if_lt (nx := 39) hX 69 dX10_since_36 (by decide) rfl (fun h36 => ?_) (fun h36 => ?_)
      · refine g_iconst (nx := 70) hX (-1) dX10_since_69 rfl (by decide) ?_
        exact g_ireturn hX hP dX10_since_70 rfl (Nat.le_of_ble_eq_true rfl) (Nat.le_of_ble_eq_true rfl) ⟨by rw [if_pos hv, h3]; rfl, top, s, hd, se, ka, sv, H, rfl⟩
      · exact absurd (show nI 0 - 1 < 0 by decide) h36
    | succ k ih =>
      intro top s hd se ka sv H hk h3
      rw [p_si] at h3
      have ek : nI (k + 1) - 1 = nI k := by have := pk_sub (a := k + 1) (b := 1) (by omega); exact this
      rw [ek]
      refine g_iload (nx := 36) hX 4 dX10_since_34 rfl rfl ?_
      refine g_if_lt (nx := 39) hX 69 dX10_since_36 (by decide) rfl (fun h36 => ?_) (fun h36 => ?_)
      · exact absurd h36 (ga_len (nI_pos' (by omega)))
      · refine g_aload_n (nx := 40) hX 0 dX10_since_39 rfl rfl rfl ?_
        refine g_getfield (nx := 43) hX dX10_since_40 rfl fX10_61 (ga_dn hn rfl) rfl rfl ?_
        refine g_iload (nx := 45) hX 4 dX10_since_43 rfl rfl ?_
        refine g_V1 (nx := 48) hX dX10_since_45 rfl mX10_147 yX1_knowAt_ok (ku_knowAt H (t := k) (by omega)) (ga_dn hn rfl) rfl rfl rfl (by decide) rfl (Nat.le_of_ble_eq_true rfl) (Nat.le_of_ble_eq_true rfl) ?_
        rintro _ _ ⟨rfl, top', s', hd', se', sv', hs, rfl⟩
        refine g_aload_n (nx := 49) hX 0 dX10_since_48 rfl rfl rfl ?_
        refine g_getfield (nx := 52) hX dX10_since_49 rfl fX10_61 (ga_dn hn rfl) rfl rfl ?_
        refine g_iload_n (nx := 53) hX 1 dX10_since_52 rfl rfl rfl ?_
        refine g_V1 (nx := 56) hX dX10_since_53 rfl mX10_178 yX1_placeOf_ok (c_X1_placeOf hn hr hsm) (ga_dn hn rfl) rfl rfl rfl (by decide) rfl (Nat.le_of_ble_eq_true rfl) (Nat.le_of_ble_eq_true rfl) ?_
        rintro _ _ ⟨rfl, rfl⟩
        rw [if_pos hv, ej2, p_pl_c hs.1 hj]
        rw [ej2] at h3 ih
        refine g_iload_n (nx := 57) hX 3 dX10_since_56 rfl rfl rfl ?_
        refine g_icmp_eq (nx := 60) hX 63 dX10_since_57 (by decide) rfl (fun h57 => ?_) (fun h57 => ?_)
        · rw [if_pos h57] at h3
          refine g_iinc (nx := 66) hX 4 (nI k - 1) dX10_since_63 rfl rfl rfl (by rw [Int32.sub_eq_add_neg]; rfl) ?_
          refine g_goto (nx := 34) hX dX10_since_66 (by decide) ?_
          exact ih top' s' hd' se' k sv' (H.go (by omega) hs) (by omega) h3
        · rw [if_neg h57] at h3
          refine g_iload (nx := 62) hX 4 dX10_since_60 rfl rfl ?_
          exact g_ireturn hX hP dX10_since_62 rfl (Nat.le_of_ble_eq_true rfl) (Nat.le_of_ble_eq_true rfl) ⟨by rw [if_pos hv, ej2, h3], top', s', hd', se', k, sv', H.go (by omega) hs, rfl⟩
  refine g_aload_n (nx := 1) hX 0 dX10_since_0 rfl rfl rfl ?_
  refine g_V0 (nx := 4) hX dX10_since_1 rfl mX10_143 yX10_toldAct_ok (c_X10_toldAct hn) (ga_dn hn rfl) rfl rfl rfl (by decide) rfl (Nat.le_of_ble_eq_true rfl) (Nat.le_of_ble_eq_true rfl) ?_
  rintro _ _ ⟨rfl, rfl⟩
  rw [hT]
  refine g_istore_n (nx := 5) hX 2 dX10_since_4 rfl rfl rfl ?_
  refine g_aload_n (nx := 6) hX 0 dX10_since_5 rfl rfl rfl ?_
  refine g_getfield (nx := 9) hX dX10_since_6 rfl fX10_61 (ga_dn hn rfl) rfl rfl ?_
  refine g_iload_n (nx := 10) hX 2 dX10_since_9 rfl rfl rfl ?_
  refine g_V1 (nx := 13) hX dX10_since_10 rfl mX10_147 yX1_knowAt_ok (ku_knowAt H ht) (ga_dn hn rfl) rfl rfl rfl (by decide) rfl (Nat.le_of_ble_eq_true rfl) (Nat.le_of_ble_eq_true rfl) ?_
  rintro _ _ ⟨rfl, top', s', hd', se', sv', hs, rfl⟩
  refine g_aload_n (nx := 14) hX 0 dX10_since_13 rfl rfl rfl ?_
  refine g_getfield (nx := 17) hX dX10_since_14 rfl fX10_61 (ga_dn hn rfl) rfl rfl ?_
  refine g_iload_n (nx := 18) hX 1 dX10_since_17 rfl rfl rfl ?_
  refine g_V1 (nx := 21) hX dX10_since_18 rfl mX10_178 yX1_placeOf_ok (c_X1_placeOf hn hr hsm) (ga_dn hn rfl) rfl rfl rfl (by decide) rfl (Nat.le_of_ble_eq_true rfl) (Nat.le_of_ble_eq_true rfl) ?_
  rintro _ _ ⟨rfl, rfl⟩
  rw [p_pv_c hr hs.1]
  refine g_istore_n (nx := 22) hX 3 dX10_since_21 rfl rfl rfl ?_
  refine g_iload_n (nx := 23) hX 3 dX10_since_22 rfl rfl rfl ?_
  refine g_iconst (nx := 24) hX (-1) dX10_since_23 rfl (by decide) ?_
  refine g_icmp_ne (nx := 27) hX 29 dX10_since_24 (by decide) rfl (fun h24 => ?_) (fun h24 => ?_)
  · have hv : 0 ≤ v ∧ v < nI rn := Classical.byContradiction (fun z => h24 (by unfold p_pv; rw [if_neg z]))
    unfold p_pv
    rw [if_pos hv]
    refine g_iload_n (nx := 30) hX 2 dX10_since_29 rfl rfl rfl ?_
    refine g_iconst (nx := 31) hX 1 dX10_since_30 rfl (by decide) ?_
    refine g_isub (nx := 32) hX dX10_since_31 rfl ?_
    refine g_istore (nx := 34) hX 4 dX10_since_32 rfl rfl ?_
    exact g_ls (loop hv t top' s' hd' se' t sv' (H.go ht hs) ht rfl) ⟨rfl, rfl, rfl, rfl, trivial⟩
  · have hv : ¬ (0 ≤ v ∧ v < nI rn) := fun z => by unfold p_pv at h24; rw [if_pos z] at h24; exact p_pl_0 hr h24
    refine g_iconst (nx := 28) hX (-1) dX10_since_27 rfl (by decide) ?_
    exact g_ireturn hX hP dX10_since_28 rfl (Nat.le_of_ble_eq_true rfl) (Nat.le_of_ble_eq_true rfl) ⟨by rw [if_neg hv], top', s', hd', se', t, sv', H.go ht hs, rfl⟩
theorem c_X10_fence (hn : 106 ≤ n) (hf : fn ≤ 30) (hs : 1 ≤ sp) {g : Nat → ga_C} : ga_Mt E 3 yX10_fence cX10_fence 3 (some .int) 0 0 [.ref 0, .int v] (n, (k_0 ask :: c1 :: c2 :: k_R rn :: ga_i 24 tm :: ga_i 6 sz :: k_C fm em sp fn op :: ga_i 32 ah :: ga_i 30 ou :: k_L an :: ga_r 4 401 (l_w an) :: ga_r 4 24 ol :: c12 :: c13 :: c14 :: k_U 15 top size tot (nI sm) :: ga_i 600 st_ :: ga_i 600 od :: ga_i 24 eo :: ga_i 24 fo :: ga_l 32 s :: c21 :: c22 :: c23 :: c24 :: c25 :: c26 :: k_B ka :: ga_r 3 24 b_w :: k_Y hd :: ga_i 120 se :: []), L2, sh_f sv g)
    (fun o M => ∃ sv : Nat → sh_S, (∀ r, r < 24 → ¬ (sv r).1 = 0) ∧ ((fn < 30 ∧ 0 ≤ v ∧ v ≤ 2000) ∧ o = some (.int (nI (fn + 1))) ∧ M = (n, (k_0 ask :: c1 :: c2 :: k_R rn :: ga_i 24 tm :: ga_i 6 sz :: k_C (fm + v) em sp (fn + 1) (w_op (fm + v) em sp) :: ga_i 32 ah :: ga_i 30 (upd ou fn (-1)) :: k_L an :: ga_r 4 401 (l_w an) :: ga_r 4 24 ol :: c12 :: c13 :: c14 :: k_U 15 top size tot (nI sm) :: ga_i 600 st_ :: ga_i 600 od :: ga_i 24 eo :: ga_i 24 fo :: ga_l 32 s :: c21 :: c22 :: c23 :: c24 :: c25 :: c26 :: k_B ka :: ga_r 3 24 b_w :: k_Y hd :: ga_i 120 se :: []), L2, sh_f sv g) ∨ ¬ (fn < 30 ∧ 0 ≤ v ∧ v ≤ 2000) ∧ o = some (.int (-1)) ∧ M = (n, (k_0 ask :: c1 :: c2 :: k_R rn :: ga_i 24 tm :: ga_i 6 sz :: k_C fm em sp fn op :: ga_i 32 ah :: ga_i 30 ou :: k_L an :: ga_r 4 401 (l_w an) :: ga_r 4 24 ol :: c12 :: c13 :: c14 :: k_U 15 top size tot (nI sm) :: ga_i 600 st_ :: ga_i 600 od :: ga_i 24 eo :: ga_i 24 fo :: ga_l 32 s :: c21 :: c22 :: c23 :: c24 :: c25 :: c26 :: k_B ka :: ga_r 3 24 b_w :: k_Y hd :: ga_i 120 se :: []), L2, sh_f sv g))) := by
  refine ga_Mt.of (by decide) rfl (fun X hX hP => ?_)
  refine g_less [some (.ref 0), some (.int v), none] ⟨rfl, rfl, trivial⟩ ?_
  refine g_aload_n (nx := 1) hX 0 dX10_fence_0 rfl rfl rfl ?_
  refine g_getfield (nx := 4) hX dX10_fence_1 rfl fX10_26 (ga_dn hn rfl) rfl rfl ?_
  refine g_iload_n (nx := 5) hX 1 dX10_fence_4 rfl rfl rfl ?_
  refine g_V1 (nx := 8) hX dX10_fence_5 rfl mX10_88 yX2_addFence_ok (c_X2_addFence hn hf hs) (ga_dn hn rfl) rfl rfl rfl (by decide) rfl (Nat.le_of_ble_eq_true rfl) (Nat.le_of_ble_eq_true rfl) ?_
  rintro _ _ (⟨hc, rfl, rfl⟩ | ⟨hc, rfl, rfl⟩)
  · refine g_istore_n (nx := 9) hX 2 dX10_fence_8 rfl rfl rfl ?_
    refine g_aload_n (nx := 10) hX 0 dX10_fence_9 rfl rfl rfl ?_
    refine g_getfield (nx := 13) hX dX10_fence_10 rfl fX10_61 (ga_dn hn rfl) rfl rfl ?_
    refine g_V0 (nx := 16) hX dX10_fence_13 rfl mX10_91 yX1_forget_ok (c_X1_forget hn) (ga_dn hn rfl) rfl rfl rfl (by decide) rfl (Nat.le_of_ble_eq_true rfl) (Nat.le_of_ble_eq_true rfl) ?_
    rintro _ _ ⟨rfl, sv', hsv, rfl⟩
    refine g_iload_n (nx := 17) hX 2 dX10_fence_16 rfl rfl rfl ?_
    exact g_ireturn hX hP dX10_fence_17 rfl (Nat.le_of_ble_eq_true rfl) (Nat.le_of_ble_eq_true rfl) ⟨sv', hsv, Or.inl ⟨hc, rfl, rfl⟩⟩
  · refine g_istore_n (nx := 9) hX 2 dX10_fence_8 rfl rfl rfl ?_
    refine g_aload_n (nx := 10) hX 0 dX10_fence_9 rfl rfl rfl ?_
    refine g_getfield (nx := 13) hX dX10_fence_10 rfl fX10_61 (ga_dn hn rfl) rfl rfl ?_
    refine g_V0 (nx := 16) hX dX10_fence_13 rfl mX10_91 yX1_forget_ok (c_X1_forget hn) (ga_dn hn rfl) rfl rfl rfl (by decide) rfl (Nat.le_of_ble_eq_true rfl) (Nat.le_of_ble_eq_true rfl) ?_
    rintro _ _ ⟨rfl, sv', hsv, rfl⟩
    refine g_iload_n (nx := 17) hX 2 dX10_fence_16 rfl rfl rfl ?_
    exact g_ireturn hX hP dX10_fence_17 rfl (Nat.le_of_ble_eq_true rfl) (Nat.le_of_ble_eq_true rfl) ⟨sv', hsv, Or.inr ⟨hc, rfl, rfl⟩⟩
theorem c_X10_course (hn : 106 ≤ n) {g : Nat → ga_C} : ga_Mt E 3 yX10_course cX10_course 4 (some .int) 0 0 [.ref 0, .int v, .int w] (n, (k_0 ask :: c1 :: c2 :: k_R rn :: ga_i 24 tm :: ga_i 6 sz :: k_C fm em sp fn op :: ga_i 32 ah :: ga_i 30 ou :: k_L an :: ga_r 4 401 (l_w an) :: ga_r 4 24 ol :: c12 :: c13 :: c14 :: k_U 15 top size tot (nI sm) :: ga_i 600 st_ :: ga_i 600 od :: ga_i 24 eo :: ga_i 24 fo :: ga_l 32 s :: c21 :: c22 :: c23 :: c24 :: c25 :: c26 :: k_B ka :: ga_r 3 24 b_w :: k_Y hd :: ga_i 120 se :: []), L2, sh_f sv g)
    (fun o M => ∃ sv : Nat → sh_S, (∀ r, r < 24 → ¬ (sv r).1 = 0) ∧ (((0 ≤ v ∧ v ≤ 2000) ∧ 100 ≤ w ∧ w ≤ 700) ∧ o = some (.int (w_op fm v w)) ∧ M = (n, (k_0 ask :: c1 :: c2 :: k_R rn :: ga_i 24 tm :: ga_i 6 sz :: k_C fm v w fn (w_op fm v w) :: ga_i 32 ah :: ga_i 30 ou :: k_L an :: ga_r 4 401 (l_w an) :: ga_r 4 24 ol :: c12 :: c13 :: c14 :: k_U 15 top size tot (nI sm) :: ga_i 600 st_ :: ga_i 600 od :: ga_i 24 eo :: ga_i 24 fo :: ga_l 32 s :: c21 :: c22 :: c23 :: c24 :: c25 :: c26 :: k_B ka :: ga_r 3 24 b_w :: k_Y hd :: ga_i 120 se :: []), L2, sh_f sv g) ∨ ¬ ((0 ≤ v ∧ v ≤ 2000) ∧ 100 ≤ w ∧ w ≤ 700) ∧ o = some (.int (-1)) ∧ M = (n, (k_0 ask :: c1 :: c2 :: k_R rn :: ga_i 24 tm :: ga_i 6 sz :: k_C fm em sp fn op :: ga_i 32 ah :: ga_i 30 ou :: k_L an :: ga_r 4 401 (l_w an) :: ga_r 4 24 ol :: c12 :: c13 :: c14 :: k_U 15 top size tot (nI sm) :: ga_i 600 st_ :: ga_i 600 od :: ga_i 24 eo :: ga_i 24 fo :: ga_l 32 s :: c21 :: c22 :: c23 :: c24 :: c25 :: c26 :: k_B ka :: ga_r 3 24 b_w :: k_Y hd :: ga_i 120 se :: []), L2, sh_f sv g))) := by
  refine ga_Mt.of (by decide) rfl (fun X hX hP => ?_)
  refine g_less [some (.ref 0), some (.int v), some (.int w), none] ⟨rfl, rfl, rfl, trivial⟩ ?_
  refine g_aload_n (nx := 1) hX 0 dX10_course_0 rfl rfl rfl ?_
  refine g_getfield (nx := 4) hX dX10_course_1 rfl fX10_26 (ga_dn hn rfl) rfl rfl ?_
  refine g_iload_n (nx := 5) hX 1 dX10_course_4 rfl rfl rfl ?_
  refine g_iload_n (nx := 6) hX 2 dX10_course_5 rfl rfl rfl ?_
  refine g_V2 (nx := 9) hX dX10_course_6 rfl mX10_94 yX2_measure_ok (c_X2_measure hn) (ga_dn hn rfl) rfl rfl rfl (by decide) rfl (Nat.le_of_ble_eq_true rfl) (Nat.le_of_ble_eq_true rfl) ?_
  rintro _ _ (⟨hc, rfl, rfl⟩ | ⟨hc, rfl, rfl⟩)
  · refine g_istore_n (nx := 10) hX 3 dX10_course_9 rfl rfl rfl ?_
    refine g_aload_n (nx := 11) hX 0 dX10_course_10 rfl rfl rfl ?_
    refine g_getfield (nx := 14) hX dX10_course_11 rfl fX10_61 (ga_dn hn rfl) rfl rfl ?_
    refine g_V0 (nx := 17) hX dX10_course_14 rfl mX10_91 yX1_forget_ok (c_X1_forget hn) (ga_dn hn rfl) rfl rfl rfl (by decide) rfl (Nat.le_of_ble_eq_true rfl) (Nat.le_of_ble_eq_true rfl) ?_
    rintro _ _ ⟨rfl, sv', hsv, rfl⟩
    refine g_iload_n (nx := 18) hX 3 dX10_course_17 rfl rfl rfl ?_
    exact g_ireturn hX hP dX10_course_18 rfl (Nat.le_of_ble_eq_true rfl) (Nat.le_of_ble_eq_true rfl) ⟨sv', hsv, Or.inl ⟨hc, rfl, rfl⟩⟩
  · refine g_istore_n (nx := 10) hX 3 dX10_course_9 rfl rfl rfl ?_
    refine g_aload_n (nx := 11) hX 0 dX10_course_10 rfl rfl rfl ?_
    refine g_getfield (nx := 14) hX dX10_course_11 rfl fX10_61 (ga_dn hn rfl) rfl rfl ?_
    refine g_V0 (nx := 17) hX dX10_course_14 rfl mX10_91 yX1_forget_ok (c_X1_forget hn) (ga_dn hn rfl) rfl rfl rfl (by decide) rfl (Nat.le_of_ble_eq_true rfl) (Nat.le_of_ble_eq_true rfl) ?_
    rintro _ _ ⟨rfl, sv', hsv, rfl⟩
    refine g_iload_n (nx := 18) hX 3 dX10_course_17 rfl rfl rfl ?_
    exact g_ireturn hX hP dX10_course_18 rfl (Nat.le_of_ble_eq_true rfl) (Nat.le_of_ble_eq_true rfl) ⟨sv', hsv, Or.inr ⟨hc, rfl, rfl⟩⟩
theorem c_X10_clock (hn : 106 ≤ n) (hf : fn ≤ 30) {g : Nat → ga_C} : ga_Mt E 3 yX10_clock cX10_clock 4 (some .boolean) 0 0 [.ref 0, .int v, .int w] (n, (k_0 ask :: c1 :: c2 :: k_R rn :: ga_i 24 tm :: ga_i 6 sz :: k_C fm em sp fn op :: ga_i 32 ah :: ga_i 30 ou :: k_L an :: ga_r 4 401 (l_w an) :: ga_r 4 24 ol :: c12 :: c13 :: c14 :: k_U 15 top size tot (nI sm) :: ga_i 600 st_ :: ga_i 600 od :: ga_i 24 eo :: ga_i 24 fo :: ga_l 32 s :: c21 :: c22 :: c23 :: c24 :: c25 :: c26 :: k_B ka :: ga_r 3 24 b_w :: k_Y hd :: ga_i 120 se :: []), L2, sh_f sv g)
    (fun o M => ∃ sv : Nat → sh_S, (∀ r, r < 24 → ¬ (sv r).1 = 0) ∧ (((0 ≤ v ∧ v < nI (fn + 2)) ∧ -600 ≤ w ∧ w ≤ 600) ∧ o = some (.int 1) ∧ M = (n, (k_0 ask :: c1 :: c2 :: k_R rn :: ga_i 24 tm :: ga_i 6 sz :: k_C fm em sp fn op :: ga_i 32 (upd ah v.toNatClampNeg w) :: ga_i 30 ou :: k_L an :: ga_r 4 401 (l_w an) :: ga_r 4 24 ol :: c12 :: c13 :: c14 :: k_U 15 top size tot (nI sm) :: ga_i 600 st_ :: ga_i 600 od :: ga_i 24 eo :: ga_i 24 fo :: ga_l 32 s :: c21 :: c22 :: c23 :: c24 :: c25 :: c26 :: k_B ka :: ga_r 3 24 b_w :: k_Y hd :: ga_i 120 se :: []), L2, sh_f sv g) ∨ ¬ ((0 ≤ v ∧ v < nI (fn + 2)) ∧ -600 ≤ w ∧ w ≤ 600) ∧ o = some (.int 0) ∧ M = (n, (k_0 ask :: c1 :: c2 :: k_R rn :: ga_i 24 tm :: ga_i 6 sz :: k_C fm em sp fn op :: ga_i 32 ah :: ga_i 30 ou :: k_L an :: ga_r 4 401 (l_w an) :: ga_r 4 24 ol :: c12 :: c13 :: c14 :: k_U 15 top size tot (nI sm) :: ga_i 600 st_ :: ga_i 600 od :: ga_i 24 eo :: ga_i 24 fo :: ga_l 32 s :: c21 :: c22 :: c23 :: c24 :: c25 :: c26 :: k_B ka :: ga_r 3 24 b_w :: k_Y hd :: ga_i 120 se :: []), L2, sh_f sv g))) := by
  refine ga_Mt.of (by decide) rfl (fun X hX hP => ?_)
  refine g_less [some (.ref 0), some (.int v), some (.int w), none] ⟨rfl, rfl, rfl, trivial⟩ ?_
  refine g_aload_n (nx := 1) hX 0 dX10_clock_0 rfl rfl rfl ?_
  refine g_getfield (nx := 4) hX dX10_clock_1 rfl fX10_26 (ga_dn hn rfl) rfl rfl ?_
  refine g_iload_n (nx := 5) hX 1 dX10_clock_4 rfl rfl rfl ?_
  refine g_iload_n (nx := 6) hX 2 dX10_clock_5 rfl rfl rfl ?_
  refine g_V2 (nx := 9) hX dX10_clock_6 rfl mX10_98 yX2_setClock_ok (c_X2_setClock hn hf) (ga_dn hn rfl) rfl rfl rfl (by decide) rfl (Nat.le_of_ble_eq_true rfl) (Nat.le_of_ble_eq_true rfl) ?_
  rintro _ _ (⟨hc, rfl, rfl⟩ | ⟨hc, rfl, rfl⟩)
  · refine g_istore_n (nx := 10) hX 3 dX10_clock_9 rfl rfl rfl ?_
    refine g_aload_n (nx := 11) hX 0 dX10_clock_10 rfl rfl rfl ?_
    refine g_getfield (nx := 14) hX dX10_clock_11 rfl fX10_61 (ga_dn hn rfl) rfl rfl ?_
    refine g_V0 (nx := 17) hX dX10_clock_14 rfl mX10_91 yX1_forget_ok (c_X1_forget hn) (ga_dn hn rfl) rfl rfl rfl (by decide) rfl (Nat.le_of_ble_eq_true rfl) (Nat.le_of_ble_eq_true rfl) ?_
    rintro _ _ ⟨rfl, sv', hsv, rfl⟩
    refine g_iload_n (nx := 18) hX 3 dX10_clock_17 rfl rfl rfl ?_
    exact g_ireturn hX hP dX10_clock_18 rfl (Nat.le_of_ble_eq_true rfl) (Nat.le_of_ble_eq_true rfl) ⟨sv', hsv, Or.inl ⟨hc, rfl, rfl⟩⟩
  · refine g_istore_n (nx := 10) hX 3 dX10_clock_9 rfl rfl rfl ?_
    refine g_aload_n (nx := 11) hX 0 dX10_clock_10 rfl rfl rfl ?_
    refine g_getfield (nx := 14) hX dX10_clock_11 rfl fX10_61 (ga_dn hn rfl) rfl rfl ?_
    refine g_V0 (nx := 17) hX dX10_clock_14 rfl mX10_91 yX1_forget_ok (c_X1_forget hn) (ga_dn hn rfl) rfl rfl rfl (by decide) rfl (Nat.le_of_ble_eq_true rfl) (Nat.le_of_ble_eq_true rfl) ?_
    rintro _ _ ⟨rfl, sv', hsv, rfl⟩
    refine g_iload_n (nx := 18) hX 3 dX10_clock_17 rfl rfl rfl ?_
    exact g_ireturn hX hP dX10_clock_18 rfl (Nat.le_of_ble_eq_true rfl) (Nat.le_of_ble_eq_true rfl) ⟨sv', hsv, Or.inr ⟨hc, rfl, rfl⟩⟩
theorem c_X10_out (hn : 106 ≤ n) (hf : fn ≤ 30) {g : Nat → ga_C} : ga_Mt E 3 yX10_out cX10_out 4 (some .boolean) 0 0 [.ref 0, .int v, .int w] (n, (k_0 ask :: c1 :: c2 :: k_R rn :: ga_i 24 tm :: ga_i 6 sz :: k_C fm em sp fn op :: ga_i 32 ah :: ga_i 30 ou :: k_L an :: ga_r 4 401 (l_w an) :: ga_r 4 24 ol :: c12 :: c13 :: c14 :: k_U 15 top size tot (nI sm) :: ga_i 600 st_ :: ga_i 600 od :: ga_i 24 eo :: ga_i 24 fo :: ga_l 32 s :: c21 :: c22 :: c23 :: c24 :: c25 :: c26 :: k_B ka :: ga_r 3 24 b_w :: k_Y hd :: ga_i 120 se :: []), L2, sh_f sv g)
    (fun o M => ∃ sv : Nat → sh_S, (∀ r, r < 24 → ¬ (sv r).1 = 0) ∧ (((0 ≤ v ∧ v < nI fn) ∧ -1 ≤ w ∧ w ≤ 86399) ∧ o = some (.int 1) ∧ M = (n, (k_0 ask :: c1 :: c2 :: k_R rn :: ga_i 24 tm :: ga_i 6 sz :: k_C fm em sp fn op :: ga_i 32 ah :: ga_i 30 (upd ou v.toNatClampNeg w) :: k_L an :: ga_r 4 401 (l_w an) :: ga_r 4 24 ol :: c12 :: c13 :: c14 :: k_U 15 top size tot (nI sm) :: ga_i 600 st_ :: ga_i 600 od :: ga_i 24 eo :: ga_i 24 fo :: ga_l 32 s :: c21 :: c22 :: c23 :: c24 :: c25 :: c26 :: k_B ka :: ga_r 3 24 b_w :: k_Y hd :: ga_i 120 se :: []), L2, sh_f sv g) ∨ ¬ ((0 ≤ v ∧ v < nI fn) ∧ -1 ≤ w ∧ w ≤ 86399) ∧ o = some (.int 0) ∧ M = (n, (k_0 ask :: c1 :: c2 :: k_R rn :: ga_i 24 tm :: ga_i 6 sz :: k_C fm em sp fn op :: ga_i 32 ah :: ga_i 30 ou :: k_L an :: ga_r 4 401 (l_w an) :: ga_r 4 24 ol :: c12 :: c13 :: c14 :: k_U 15 top size tot (nI sm) :: ga_i 600 st_ :: ga_i 600 od :: ga_i 24 eo :: ga_i 24 fo :: ga_l 32 s :: c21 :: c22 :: c23 :: c24 :: c25 :: c26 :: k_B ka :: ga_r 3 24 b_w :: k_Y hd :: ga_i 120 se :: []), L2, sh_f sv g))) := by
  refine ga_Mt.of (by decide) rfl (fun X hX hP => ?_)
  refine g_less [some (.ref 0), some (.int v), some (.int w), none] ⟨rfl, rfl, rfl, trivial⟩ ?_
  refine g_aload_n (nx := 1) hX 0 dX10_out_0 rfl rfl rfl ?_
  refine g_getfield (nx := 4) hX dX10_out_1 rfl fX10_26 (ga_dn hn rfl) rfl rfl ?_
  refine g_iload_n (nx := 5) hX 1 dX10_out_4 rfl rfl rfl ?_
  refine g_iload_n (nx := 6) hX 2 dX10_out_5 rfl rfl rfl ?_
  refine g_V2 (nx := 9) hX dX10_out_6 rfl mX10_102 yX2_takeOut_ok (c_X2_takeOut hn hf) (ga_dn hn rfl) rfl rfl rfl (by decide) rfl (Nat.le_of_ble_eq_true rfl) (Nat.le_of_ble_eq_true rfl) ?_
  rintro _ _ (⟨hc, rfl, rfl⟩ | ⟨hc, rfl, rfl⟩)
  · refine g_istore_n (nx := 10) hX 3 dX10_out_9 rfl rfl rfl ?_
    refine g_aload_n (nx := 11) hX 0 dX10_out_10 rfl rfl rfl ?_
    refine g_getfield (nx := 14) hX dX10_out_11 rfl fX10_61 (ga_dn hn rfl) rfl rfl ?_
    refine g_V0 (nx := 17) hX dX10_out_14 rfl mX10_91 yX1_forget_ok (c_X1_forget hn) (ga_dn hn rfl) rfl rfl rfl (by decide) rfl (Nat.le_of_ble_eq_true rfl) (Nat.le_of_ble_eq_true rfl) ?_
    rintro _ _ ⟨rfl, sv', hsv, rfl⟩
    refine g_iload_n (nx := 18) hX 3 dX10_out_17 rfl rfl rfl ?_
    exact g_ireturn hX hP dX10_out_18 rfl (Nat.le_of_ble_eq_true rfl) (Nat.le_of_ble_eq_true rfl) ⟨sv', hsv, Or.inl ⟨hc, rfl, rfl⟩⟩
  · refine g_istore_n (nx := 10) hX 3 dX10_out_9 rfl rfl rfl ?_
    refine g_aload_n (nx := 11) hX 0 dX10_out_10 rfl rfl rfl ?_
    refine g_getfield (nx := 14) hX dX10_out_11 rfl fX10_61 (ga_dn hn rfl) rfl rfl ?_
    refine g_V0 (nx := 17) hX dX10_out_14 rfl mX10_91 yX1_forget_ok (c_X1_forget hn) (ga_dn hn rfl) rfl rfl rfl (by decide) rfl (Nat.le_of_ble_eq_true rfl) (Nat.le_of_ble_eq_true rfl) ?_
    rintro _ _ ⟨rfl, sv', hsv, rfl⟩
    refine g_iload_n (nx := 18) hX 3 dX10_out_17 rfl rfl rfl ?_
    exact g_ireturn hX hP dX10_out_18 rfl (Nat.le_of_ble_eq_true rfl) (Nat.le_of_ble_eq_true rfl) ⟨sv', hsv, Or.inr ⟨hc, rfl, rfl⟩⟩
end
