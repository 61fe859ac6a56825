/-! ===== takeTime, takeFence, isFenceFor, fill ===== -/
theorem z_32 : (0 : Int32).toInt64 = 0 := by decide
theorem lN_0a (n : Nat) : lN n + 0 = lN n := Int64.add_zero _
theorem nI_tl {a : Nat} (h : a < 2147483648) : (nI a).toInt64 = lN a := nI_l h
section
variable {E : ga_E} {X : ga_X} {n : Nat} {c0 c1 c2 c3 c4 c5 c6 c7 c8 c9 c10 c11 c12 c13 c14 c15 c16 c17 c18 c19 c20 c21 c22 c23 c24 c25 c26 c27 c28 c29 c30 m79 m80 m81 m82 m83 m84 m85 m86 m87 m88 m89 m90 m91 m92 m93 m94 m95 m96 m97 m98 m99 m100 m101 m102 m103 m104 m105 : ga_C} {L1 L2 : List ga_C} {f : Nat → ga_C} {o_tp o_rd o_fe o_em o_sp o_ac o_td o_sm o_tt o_at o_sz o_fk o_fp o_nw o_md o_nt o_pl o_op d_at d_tk d_ta d_fd d_fa : Int32} {d_tv : Int64} {d_rl : Value}
variable {sv : Nat → sh_S} {av : Nat → a_S} {g : Nat → ga_C} {r : Nat} {ah ou : Nat → Int32} {fm em sp op : Int32} {fn an : Nat} {ol nw : Nat → Option Nat}
variable {mr rg : Int32} {kn lk rt : Nat} {s fi : Option Int32} {hd : Int32} {sn : Nat → Nat → Nat} {sst stm sof : Int32} {stt : Int64}
theorem c_X8_takeTime {T : y_T} (hn : 106 ≤ n) (hr : r < 24) (hT : T = (mr, rg, kn, lk, rt, s, fi, hd, sn)) : ga_Mx E 1 yX8_takeTime cX8_takeTime 3 none 0 0 [.ref 29, .ref (2 * r + 31)] (n, (c0 :: c1 :: c2 :: c3 :: c4 :: c5 :: k_C fm em sp fn op :: c7 :: c8 :: c9 :: c10 :: c11 :: c12 :: c13 :: c14 :: c15 :: c16 :: c17 :: c18 :: c19 :: c20 :: c21 :: c22 :: c23 :: c24 :: c25 :: c26 :: c27 :: c28 :: k_Y hd :: L1), L2, sh_f (va_up sv r (y_sh sst (-1) sof stt T)) g) none (n, (c0 :: c1 :: c2 :: c3 :: c4 :: c5 :: k_C fm em sp fn op :: c7 :: c8 :: c9 :: c10 :: c11 :: c12 :: c13 :: c14 :: c15 :: c16 :: c17 :: c18 :: c19 :: c20 :: c21 :: c22 :: c23 :: c24 :: c25 :: c26 :: c27 :: c28 :: k_Y hd :: L1), L2, sh_f (va_up sv r (sst, y_h s, y_h fi, y_g s, y_g fi, y_tm s fi hd, sof, stt, y_vt T op)) g) := by
  subst hT
  have hvt : ∀ v : Nat → Int64, (∀ j, v j = y_vt (mr, rg, kn, lk, rt, s, fi, hd, sn) op j) → v = y_vt (mr, rg, kn, lk, rt, s, fi, hd, sn) op := fun v h => funext h
  refine ga_Mt.of (by decide) rfl (fun X hX hP => ?_)
  refine g_less [some (.ref 29), some (.ref (2 * r + 31)), none] ⟨rfl, rfl, trivial⟩ ?_
  rw [show y_sh sst (-1) sof stt (mr, rg, kn, lk, rt, s, fi, hd, sn) = (sst, y_h s, y_h fi, y_g s, y_g fi, -1, sof, stt, y_v (mr, rg, kn, lk, rt, s, fi, hd, sn)) from rfl]
  have none1 : ∀ lv, (s = none ∨ fi = none) → ga_G E X 0 0 31 lv [] (n, (c0 :: c1 :: c2 :: c3 :: c4 :: c5 :: k_C fm em sp fn op :: c7 :: c8 :: c9 :: c10 :: c11 :: c12 :: c13 :: c14 :: c15 :: c16 :: c17 :: c18 :: c19 :: c20 :: c21 :: c22 :: c23 :: c24 :: c25 :: c26 :: c27 :: c28 :: k_Y hd :: L1), L2, sh_f (va_up sv r (sst, y_h s, y_h fi, y_g s, y_g fi, -1, sof, stt, vp_updL (y_v (mr, rg, kn, lk, rt, s, fi, hd, sn)) 14 op.toInt64)) g) := by
    intro lv hz
    have e1 : y_tm s fi hd = -1 := by rcases hz with rfl | rfl <;> (try cases s) <;> (try cases fi) <;> rfl
    have e2 : y_ov s fi hd op = 0 := by rcases hz with rfl | rfl <;> (try cases s) <;> (try cases fi) <;> rfl
    have e3 : y_un s fi hd op = 0 := by rcases hz with rfl | rfl <;> (try cases s) <;> (try cases fi) <;> rfl
    refine g_return hX hP dX8_takeTime_31 (Nat.le_of_ble_eq_true rfl) (Nat.le_of_ble_eq_true rfl) ⟨rfl, ?_⟩
    rw [e1, hvt (vp_updL (y_v (mr, rg, kn, lk, rt, s, fi, hd, sn)) 14 op.toInt64) (fun j => by
      unfold y_vt vp_updL
      dsimp only
      rw [e2, e3, z_32]
      by_cases h12 : j = 12
      · subst h12; simp [y_v]
      · by_cases h13 : j = 13
        · subst h13; simp [y_v]
        · rw [if_neg h12, if_neg h13])]
  cases hs : s with
  | none =>
    subst hs
    refine g_aload_n (nx := 1) hX 0 dX8_takeTime_0 rfl rfl rfl ?_
    refine g_getfield (nx := 4) hX dX8_takeTime_1 rfl fX8_17 (ga_dn hn rfl) rfl rfl ?_
    refine g_getfield (nx := 7) hX dX8_takeTime_4 rfl fX8_113 (ga_dn hn rfl) rfl rfl ?_
    refine g_istore_n (nx := 8) hX 2 dX8_takeTime_7 rfl rfl rfl ?_
    refine g_aload_n (nx := 9) hX 1 dX8_takeTime_8 rfl rfl rfl ?_
    refine g_getfield (nx := 12) hX dX8_takeTime_9 rfl fX8_65 (dm_o hn hr) (get_soE hr) rfl ?_
    refine g_bipush (nx := 14) hX 14 dX8_takeTime_12 rfl (by decide) ?_
    refine g_iload_n (nx := 15) hX 2 dX8_takeTime_14 rfl rfl rfl ?_
    refine g_i2l (nx := 16) hX dX8_takeTime_15 rfl ?_
    refine g_lastore (nx := 17) hX dX8_takeTime_16 rfl (dm_v hn hr) (get_svE hr) (ga_ix_of (j := 14) rfl (by decide) (by decide)) ?_
    refine g_mem (put_svF hr) ?_
    refine g_aload_n (nx := 18) hX 1 dX8_takeTime_17 rfl rfl rfl ?_
    refine g_getfield (nx := 21) hX dX8_takeTime_18 rfl fX8_79 (dm_o hn hr) (get_soE hr) rfl ?_
    refine g_if_eq (nx := 24) hX 31 dX8_takeTime_21 (by decide) rfl (fun h21 => ?_) (fun h21 => ?_)
    · exact none1 _ (Or.inl rfl)
    · exact absurd rfl h21
  | some x =>
    cases hf : fi with
    | none =>
      subst hs
      subst hf
      refine g_aload_n (nx := 1) hX 0 dX8_takeTime_0 rfl rfl rfl ?_
      refine g_getfield (nx := 4) hX dX8_takeTime_1 rfl fX8_17 (ga_dn hn rfl) rfl rfl ?_
      refine g_getfield (nx := 7) hX dX8_takeTime_4 rfl fX8_113 (ga_dn hn rfl) rfl rfl ?_
      refine g_istore_n (nx := 8) hX 2 dX8_takeTime_7 rfl rfl rfl ?_
      refine g_aload_n (nx := 9) hX 1 dX8_takeTime_8 rfl rfl rfl ?_
      refine g_getfield (nx := 12) hX dX8_takeTime_9 rfl fX8_65 (dm_o hn hr) (get_soE hr) rfl ?_
      refine g_bipush (nx := 14) hX 14 dX8_takeTime_12 rfl (by decide) ?_
      refine g_iload_n (nx := 15) hX 2 dX8_takeTime_14 rfl rfl rfl ?_
      refine g_i2l (nx := 16) hX dX8_takeTime_15 rfl ?_
      refine g_lastore (nx := 17) hX dX8_takeTime_16 rfl (dm_v hn hr) (get_svE hr) (ga_ix_of (j := 14) rfl (by decide) (by decide)) ?_
      refine g_mem (put_svF hr) ?_
      refine g_aload_n (nx := 18) hX 1 dX8_takeTime_17 rfl rfl rfl ?_
      refine g_getfield (nx := 21) hX dX8_takeTime_18 rfl fX8_79 (dm_o hn hr) (get_soE hr) rfl ?_
      refine g_if_eq (nx := 24) hX 31 dX8_takeTime_21 (by decide) rfl (fun h21 => ?_) (fun h21 => ?_)
      · exact none1 _ (Or.inr rfl)
      · refine g_aload_n (nx := 25) hX 1 dX8_takeTime_24 rfl rfl rfl ?_
        refine g_getfield (nx := 28) hX dX8_takeTime_25 rfl fX8_90 (dm_o hn hr) (get_soE hr) rfl ?_
        refine g_if_ne (nx := 31) hX 32 dX8_takeTime_28 (by decide) rfl (fun h28 => ?_) (fun h28 => ?_)
        · exact absurd rfl h28
        · exact none1 _ (Or.inr rfl)
    | some z =>
      subst hs
      subst hf
      refine g_aload_n (nx := 1) hX 0 dX8_takeTime_0 rfl rfl rfl ?_
      refine g_getfield (nx := 4) hX dX8_takeTime_1 rfl fX8_17 (ga_dn hn rfl) rfl rfl ?_
      refine g_getfield (nx := 7) hX dX8_takeTime_4 rfl fX8_113 (ga_dn hn rfl) rfl rfl ?_
      refine g_istore_n (nx := 8) hX 2 dX8_takeTime_7 rfl rfl rfl ?_
      refine g_aload_n (nx := 9) hX 1 dX8_takeTime_8 rfl rfl rfl ?_
      refine g_getfield (nx := 12) hX dX8_takeTime_9 rfl fX8_65 (dm_o hn hr) (get_soE hr) rfl ?_
      refine g_bipush (nx := 14) hX 14 dX8_takeTime_12 rfl (by decide) ?_
      refine g_iload_n (nx := 15) hX 2 dX8_takeTime_14 rfl rfl rfl ?_
      refine g_i2l (nx := 16) hX dX8_takeTime_15 rfl ?_
      refine g_lastore (nx := 17) hX dX8_takeTime_16 rfl (dm_v hn hr) (get_svE hr) (ga_ix_of (j := 14) rfl (by decide) (by decide)) ?_
      refine g_mem (put_svF hr) ?_
      refine g_aload_n (nx := 18) hX 1 dX8_takeTime_17 rfl rfl rfl ?_
      refine g_getfield (nx := 21) hX dX8_takeTime_18 rfl fX8_79 (dm_o hn hr) (get_soE hr) rfl ?_
      refine g_if_eq (nx := 24) hX 31 dX8_takeTime_21 (by decide) rfl (fun h21 => ?_) (fun h21 => ?_)
      · exact absurd (show (1 : Int32) = 0 from h21) (by decide)
      · refine g_aload_n (nx := 25) hX 1 dX8_takeTime_24 rfl rfl rfl ?_
        refine g_getfield (nx := 28) hX dX8_takeTime_25 rfl fX8_90 (dm_o hn hr) (get_soE hr) rfl ?_
        refine g_if_ne (nx := 31) hX 32 dX8_takeTime_28 (by decide) rfl (fun h28 => ?_) (fun h28 => ?_)
        · refine g_aload_n (nx := 33) hX 1 dX8_takeTime_32 rfl rfl rfl ?_
          refine g_iconst (nx := 34) hX 0 dX8_takeTime_33 rfl (by decide) ?_
          refine g_aload_n (nx := 35) hX 1 dX8_takeTime_34 rfl rfl rfl ?_
          refine g_getfield (nx := 38) hX dX8_takeTime_35 rfl fX8_93 (dm_o hn hr) (get_soE hr) rfl ?_
          refine g_aload_n (nx := 39) hX 1 dX8_takeTime_38 rfl rfl rfl ?_
          refine g_getfield (nx := 42) hX dX8_takeTime_39 rfl fX8_87 (dm_o hn hr) (get_soE hr) rfl ?_
          refine g_isub (nx := 43) hX dX8_takeTime_42 rfl ?_
          refine g_aload_n (nx := 44) hX 0 dX8_takeTime_43 rfl rfl rfl ?_
          refine g_getfield (nx := 47) hX dX8_takeTime_44 rfl fX8_30 (ga_dn hn rfl) rfl rfl ?_
          refine g_isub (nx := 48) hX dX8_takeTime_47 rfl ?_
          refine g_S2 (nx := 51) hX dX8_takeTime_48 rfl mX8_116 yJ9_max_7cf53_ok (c_J9_max_7cf53) (by decide) rfl (Nat.le_of_ble_eq_true rfl) (Nat.le_of_ble_eq_true rfl) ?_
          rintro _ _ ⟨rfl, rfl⟩
          refine g_putfield (nx := 54) hX dX8_takeTime_51 rfl pX8_121 (dm_o hn hr) (get_soE hr) rfl rfl rfl ?_
          refine g_mem (put_soF hr) ?_
          refine g_aload_n (nx := 55) hX 1 dX8_takeTime_54 rfl rfl rfl ?_
          refine g_getfield (nx := 58) hX dX8_takeTime_55 rfl fX8_65 (dm_o hn hr) (get_soE hr) rfl ?_
          refine g_bipush (nx := 60) hX 12 dX8_takeTime_58 rfl (by decide) ?_
          refine g_iconst (nx := 61) hX 0 dX8_takeTime_60 rfl (by decide) ?_
          refine g_aload_n (nx := 62) hX 1 dX8_takeTime_61 rfl rfl rfl ?_
          refine g_getfield (nx := 65) hX dX8_takeTime_62 rfl fX8_121 (dm_o hn hr) (get_soE hr) rfl ?_
          refine g_iload_n (nx := 66) hX 2 dX8_takeTime_65 rfl rfl rfl ?_
          refine g_isub (nx := 67) hX dX8_takeTime_66 rfl ?_
          refine g_S2 (nx := 70) hX dX8_takeTime_67 rfl mX8_116 yJ9_max_7cf53_ok (c_J9_max_7cf53) (by decide) rfl (Nat.le_of_ble_eq_true rfl) (Nat.le_of_ble_eq_true rfl) ?_
          rintro _ _ ⟨rfl, rfl⟩
          refine g_i2l (nx := 71) hX dX8_takeTime_70 rfl ?_
          refine g_lastore (nx := 72) hX dX8_takeTime_71 rfl (dm_v hn hr) (get_svE hr) (ga_ix_of (j := 12) rfl (by decide) (by decide)) ?_
          refine g_mem (put_svF hr) ?_
          refine g_aload_n (nx := 73) hX 1 dX8_takeTime_72 rfl rfl rfl ?_
          refine g_getfield (nx := 76) hX dX8_takeTime_73 rfl fX8_65 (dm_o hn hr) (get_soE hr) rfl ?_
          refine g_bipush (nx := 78) hX 13 dX8_takeTime_76 rfl (by decide) ?_
          refine g_iconst (nx := 79) hX 0 dX8_takeTime_78 rfl (by decide) ?_
          refine g_iload_n (nx := 80) hX 2 dX8_takeTime_79 rfl rfl rfl ?_
          refine g_aload_n (nx := 81) hX 1 dX8_takeTime_80 rfl rfl rfl ?_
          refine g_getfield (nx := 84) hX dX8_takeTime_81 rfl fX8_121 (dm_o hn hr) (get_soE hr) rfl ?_
          refine g_isub (nx := 85) hX dX8_takeTime_84 rfl ?_
          refine g_S2 (nx := 88) hX dX8_takeTime_85 rfl mX8_116 yJ9_max_7cf53_ok (c_J9_max_7cf53) (by decide) rfl (Nat.le_of_ble_eq_true rfl) (Nat.le_of_ble_eq_true rfl) ?_
          rintro _ _ ⟨rfl, rfl⟩
          refine g_i2l (nx := 89) hX dX8_takeTime_88 rfl ?_
          refine g_lastore (nx := 90) hX dX8_takeTime_89 rfl (dm_v hn hr) (get_svE hr) (ga_ix_of (j := 13) rfl (by decide) (by decide)) ?_
          refine g_mem (put_svF hr) ?_
          exact g_return hX hP dX8_takeTime_90 (Nat.le_of_ble_eq_true rfl) (Nat.le_of_ble_eq_true rfl) ⟨rfl, by
  show (n, _, L2, sh_f (va_up sv r (sst, 1, 1, x, z, y_mx (z - x - hd), sof, stt, vp_updL (vp_updL (vp_updL (y_v (mr, rg, kn, lk, rt, some x, some z, hd, sn)) 14 op.toInt64) 12 (y_mx (y_mx (z - x - hd) - op)).toInt64) 13 (y_mx (op - y_mx (z - x - hd))).toInt64)) g) = _
  rw [hvt (vp_updL (vp_updL (vp_updL (y_v (mr, rg, kn, lk, rt, some x, some z, hd, sn)) 14 op.toInt64) 12 (y_mx (y_mx (z - x - hd) - op)).toInt64) 13 (y_mx (op - y_mx (z - x - hd))).toInt64) (fun j => by
    unfold y_vt vp_updL
    dsimp only
    by_cases h13 : j = 13
    · subst h13; simp [y_un]
    · rw [if_neg h13]
      by_cases h12 : j = 12
      · subst h12; simp [y_ov]
      · rw [if_neg h12, if_neg h12, if_neg h13])]
  rfl⟩
        · exact absurd (show (1 : Int32) = 0 from h28) (by decide)
theorem c_X2_isFenceFor {k : Nat} {a1 a6 a7 : Int32} {u : Int64} {v : Nat → Int64} (hn : 106 ≤ n) (hr : r < 24) (hk : k < fn) (hf : fn ≤ 30) : ga_Mx E 2 yX2_isFenceFor cX2_isFenceFor 3 (some .boolean) 0 0 [.ref 6, .ref (2 * r + 31), .int (nI k)] (n, (c0 :: c1 :: c2 :: c3 :: c4 :: c5 :: k_C fm em sp fn op :: c7 :: ga_i 30 ou :: L1), L2, sh_f (va_up sv r (a1, y_h s, y_h fi, y_g s, y_g fi, a6, a7, u, v)) g) (some (.int (ga_b (y_cnt ou s k = true)))) (n, (c0 :: c1 :: c2 :: c3 :: c4 :: c5 :: k_C fm em sp fn op :: c7 :: ga_i 30 ou :: L1), L2, sh_f (va_up sv r (a1, y_h s, y_h fi, y_g s, y_g fi, a6, a7, u, v)) g) := by
  refine ga_Mt.of (by decide) rfl (fun X hX hP => ?_)
  refine g_less [some (.ref 6), some (.ref (2 * r + 31)), some (.int (nI k))] ⟨rfl, rfl, rfl, trivial⟩ ?_
  cases hs : s with
  | none =>
    subst hs
    refine g_aload_n (nx := 1) hX 0 dX2_isFenceFor_0 rfl rfl rfl ?_
    refine g_iload_n (nx := 2) hX 2 dX2_isFenceFor_1 rfl rfl rfl ?_
    refine g_V1 (nx := 5) hX dX2_isFenceFor_2 rfl mX2_41 yX2_hasFence_ok (c_X2_hasFence hn hf) (ga_dn hn rfl) rfl rfl rfl (by decide) rfl (Nat.le_of_ble_eq_true rfl) (Nat.le_of_ble_eq_true rfl) ?_
    rintro _ _ ⟨rfl, rfl⟩
    refine g_if_eq (nx := 8) hX 42 dX2_isFenceFor_5 (by decide) rfl (fun h5 => ?_) (fun h5 => ?_)
    · exact absurd ⟨nI_pos' (by omega), nI_lt hk (by omega)⟩ (ga_b_0 h5)
    · refine g_aload_n (nx := 9) hX 0 dX2_isFenceFor_8 rfl rfl rfl ?_
      refine g_getfield (nx := 12) hX dX2_isFenceFor_9 rfl fX2_15 (ga_dn hn rfl) rfl rfl ?_
      refine g_iload_n (nx := 13) hX 2 dX2_isFenceFor_12 rfl rfl rfl ?_
      refine g_iaload (nx := 14) hX dX2_isFenceFor_13 rfl (ga_dn hn rfl) rfl (ga_ix_of rfl (by omega) (by omega)) ?_
      refine g_iconst (nx := 15) hX (-1) dX2_isFenceFor_14 rfl (by decide) ?_
      refine g_icmp_eq (nx := 18) hX 38 dX2_isFenceFor_15 (by decide) rfl (fun h15 => ?_) (fun h15 => ?_)
      · refine g_iconst (nx := 39) hX 1 dX2_isFenceFor_38 rfl (by decide) ?_
        refine g_goto (nx := 43) hX dX2_isFenceFor_39 (by decide) ?_
        exact g_ireturn hX hP dX2_isFenceFor_43 rfl (Nat.le_of_ble_eq_true rfl) (Nat.le_of_ble_eq_true rfl) ⟨by rw [ga_b_t (show y_cnt ou none k = true from rfl)], rfl⟩
      · refine g_aload_n (nx := 19) hX 1 dX2_isFenceFor_18 rfl rfl rfl ?_
        refine g_getfield (nx := 22) hX dX2_isFenceFor_19 rfl fX2_46 (dm_o hn hr) (get_soE hr) rfl ?_
        refine g_if_eq (nx := 25) hX 38 dX2_isFenceFor_22 (by decide) rfl (fun h22 => ?_) (fun h22 => ?_)
        · refine g_iconst (nx := 39) hX 1 dX2_isFenceFor_38 rfl (by decide) ?_
          refine g_goto (nx := 43) hX dX2_isFenceFor_39 (by decide) ?_
          exact g_ireturn hX hP dX2_isFenceFor_43 rfl (Nat.le_of_ble_eq_true rfl) (Nat.le_of_ble_eq_true rfl) ⟨by rw [ga_b_t (show y_cnt ou none k = true from rfl)], rfl⟩
        · exact absurd rfl h22
  | some x =>
    subst hs
    refine g_aload_n (nx := 1) hX 0 dX2_isFenceFor_0 rfl rfl rfl ?_
    refine g_iload_n (nx := 2) hX 2 dX2_isFenceFor_1 rfl rfl rfl ?_
    refine g_V1 (nx := 5) hX dX2_isFenceFor_2 rfl mX2_41 yX2_hasFence_ok (c_X2_hasFence hn hf) (ga_dn hn rfl) rfl rfl rfl (by decide) rfl (Nat.le_of_ble_eq_true rfl) (Nat.le_of_ble_eq_true rfl) ?_
    rintro _ _ ⟨rfl, rfl⟩
    refine g_if_eq (nx := 8) hX 42 dX2_isFenceFor_5 (by decide) rfl (fun h5 => ?_) (fun h5 => ?_)
    · exact absurd ⟨nI_pos' (by omega), nI_lt hk (by omega)⟩ (ga_b_0 h5)
    · refine g_aload_n (nx := 9) hX 0 dX2_isFenceFor_8 rfl rfl rfl ?_
      refine g_getfield (nx := 12) hX dX2_isFenceFor_9 rfl fX2_15 (ga_dn hn rfl) rfl rfl ?_
      refine g_iload_n (nx := 13) hX 2 dX2_isFenceFor_12 rfl rfl rfl ?_
      refine g_iaload (nx := 14) hX dX2_isFenceFor_13 rfl (ga_dn hn rfl) rfl (ga_ix_of rfl (by omega) (by omega)) ?_
      refine g_iconst (nx := 15) hX (-1) dX2_isFenceFor_14 rfl (by decide) ?_
      refine g_icmp_eq (nx := 18) hX 38 dX2_isFenceFor_15 (by decide) rfl (fun h15 => ?_) (fun h15 => ?_)
      · refine g_iconst (nx := 39) hX 1 dX2_isFenceFor_38 rfl (by decide) ?_
        refine g_goto (nx := 43) hX dX2_isFenceFor_39 (by decide) ?_
        exact g_ireturn hX hP dX2_isFenceFor_43 rfl (Nat.le_of_ble_eq_true rfl) (Nat.le_of_ble_eq_true rfl) ⟨by rw [ga_b_t (show y_cnt ou (some x) k = true from decide_eq_true (Or.inl h15))], rfl⟩
      · refine g_aload_n (nx := 19) hX 1 dX2_isFenceFor_18 rfl rfl rfl ?_
        refine g_getfield (nx := 22) hX dX2_isFenceFor_19 rfl fX2_46 (dm_o hn hr) (get_soE hr) rfl ?_
        refine g_if_eq (nx := 25) hX 38 dX2_isFenceFor_22 (by decide) rfl (fun h22 => ?_) (fun h22 => ?_)
        · exact absurd (show (1 : Int32) = 0 from h22) (by decide)
        · refine g_aload_n (nx := 26) hX 1 dX2_isFenceFor_25 rfl rfl rfl ?_
          refine g_getfield (nx := 29) hX dX2_isFenceFor_26 rfl fX2_52 (dm_o hn hr) (get_soE hr) rfl ?_
          refine g_aload_n (nx := 30) hX 0 dX2_isFenceFor_29 rfl rfl rfl ?_
          refine g_getfield (nx := 33) hX dX2_isFenceFor_30 rfl fX2_15 (ga_dn hn rfl) rfl rfl ?_
          refine g_iload_n (nx := 34) hX 2 dX2_isFenceFor_33 rfl rfl rfl ?_
          refine g_iaload (nx := 35) hX dX2_isFenceFor_34 rfl (ga_dn hn rfl) rfl (ga_ix_of rfl (by omega) (by omega)) ?_
          refine g_icmp_ge (nx := 38) hX 42 dX2_isFenceFor_35 (by decide) rfl (fun h35 => ?_) (fun h35 => ?_)
          · refine g_iconst (nx := 43) hX 0 dX2_isFenceFor_42 rfl (by decide) ?_
            exact g_ireturn hX hP dX2_isFenceFor_43 rfl (Nat.le_of_ble_eq_true rfl) (Nat.le_of_ble_eq_true rfl) ⟨by rw [ga_b_f (show ¬ y_cnt ou (some x) k = true from fun q => (of_decide_eq_true q).elim h15 (fun z => ga_ltn z h35))], rfl⟩
          · refine g_iconst (nx := 39) hX 1 dX2_isFenceFor_38 rfl (by decide) ?_
            refine g_goto (nx := 43) hX dX2_isFenceFor_39 (by decide) ?_
            exact g_ireturn hX hP dX2_isFenceFor_43 rfl (Nat.le_of_ble_eq_true rfl) (Nat.le_of_ble_eq_true rfl) ⟨by rw [ga_b_t (show y_cnt ou (some x) k = true from decide_eq_true (Or.inr (ga_nle h35)))], rfl⟩
end
