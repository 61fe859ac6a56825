/-! ===== the tally of the class: take, takeTime, takeFence ===== -/
section
variable {mr rg : Int32} {kn lk rt : Nat} {s fi : Option Int32} {hd : Int32} {sn : Nat → Nat → Nat} {ah : Nat → Int32} {fe a b : Int32}
theorem y_st0 : y_st ah (mr, rg, kn, lk, rt, s, fi, hd, sn) 0 fe a b = (a, rg, kn, lk, rt, s, fi, hd, sn) := rfl
theorem y_st1 : y_st ah (mr, rg, kn, lk, rt, s, fi, hd, sn) 1 fe a b = (mr, rg, kn, lk, rt, some (a - ah 0), fi, hd, sn) := rfl
theorem y_st2 : y_st ah (mr, rg, kn, lk, rt, s, fi, hd, sn) 2 fe a b = (mr, rg, kn, lk, rt, s, some (a - ah 1), hd, sn) := rfl
theorem y_st7 : y_st ah (mr, rg, kn, lk, rt, s, fi, hd, sn) 7 fe a b = (mr, rg, kn, lk, rt, s, fi, hd + (b - a), sn) := rfl
theorem y_st8 : y_st ah (mr, rg, kn, lk, rt, s, fi, hd, sn) 8 fe a b = (mr, rg, kn + 1, lk, rt, s, fi, hd, sn) := rfl
theorem y_st9 : y_st ah (mr, rg, kn, lk, rt, s, fi, hd, sn) 9 fe a b = (mr, a, kn, lk, rt, s, fi, hd, sn) := rfl
theorem y_st10 : y_st ah (mr, rg, kn, lk, rt, s, fi, hd, sn) 10 fe a b = (mr, rg, kn, lk + 1, rt, s, fi, hd, sn) := rfl
theorem y_st11 : y_st ah (mr, rg, kn, lk, rt, s, fi, hd, sn) 11 fe a b = (mr, rg, kn, lk, rt + 1, s, fi, hd, sn) := rfl
theorem y_stS {i k : Nat} (hi : i < 4) (hk : k < 30) : y_st ah (mr, rg, kn, lk, rt, s, fi, hd, sn) (nI (i + 3)) (nI k) a b = (mr, rg, kn, lk, rt, s, fi, hd, y_u2 sn i k) := by
  have ne : ∀ j : Nat, j < 3 ∨ 6 < j → j < 2147483648 → ¬ nI (i + 3) = nI j := fun j hj h2 e => by have := nI_inj e (by omega) h2; omega
  have e0 : ¬ nI (i + 3) = 0 := ne 0 (by omega) (by omega)
  have e1 : ¬ nI (i + 3) = 1 := ne 1 (by omega) (by omega)
  have e2 : ¬ nI (i + 3) = 2 := ne 2 (by omega) (by omega)
  have e7 : ¬ nI (i + 3) = 7 := ne 7 (by omega) (by omega)
  have e8 : ¬ nI (i + 3) = 8 := ne 8 (by omega) (by omega)
  have e9 : ¬ nI (i + 3) = 9 := ne 9 (by omega) (by omega)
  have e10 : ¬ nI (i + 3) = 10 := ne 10 (by omega) (by omega)
  have e11 : ¬ nI (i + 3) = 11 := ne 11 (by omega) (by omega)
  unfold y_st
  dsimp only
  rw [if_neg e0, if_neg e1, if_neg e2, if_neg e7, if_neg e8, if_neg e9, if_neg e10, if_neg e11, nI_clamp (by omega), nI_clamp (by omega), show i + 3 - 3 = i by omega]
theorem y_v0 : vp_updL (y_v (mr, rg, kn, lk, rt, s, fi, hd, sn)) 0 a.toInt64 = y_v (a, rg, kn, lk, rt, s, fi, hd, sn) := by
  funext j; unfold y_v vp_updL
  by_cases h : j = 0 <;> simp [h]
theorem y_v1 : vp_updL (y_v (mr, rg, kn, lk, rt, s, fi, hd, sn)) 1 a.toInt64 = y_v (mr, a, kn, lk, rt, s, fi, hd, sn) := by
  funext j; unfold y_v vp_updL
  by_cases h : j = 1 <;> simp [h]
theorem y_v8 : vp_updL (y_v (mr, rg, kn, lk, rt, s, fi, hd, sn)) 8 (y_v (mr, rg, kn, lk, rt, s, fi, hd, sn) 8 + 1) = y_v (mr, rg, kn + 1, lk, rt, s, fi, hd, sn) := by
  funext j; unfold y_v vp_updL
  by_cases h : j = 8 <;> simp [h, lN_1]
theorem y_v9 : vp_updL (y_v (mr, rg, kn, lk, rt, s, fi, hd, sn)) 9 (y_v (mr, rg, kn, lk, rt, s, fi, hd, sn) 9 + 1) = y_v (mr, rg, kn, lk + 1, rt, s, fi, hd, sn) := by
  funext j; unfold y_v vp_updL
  by_cases h : j = 9 <;> simp [h, lN_1]
theorem y_v10 : vp_updL (y_v (mr, rg, kn, lk, rt, s, fi, hd, sn)) 10 (y_v (mr, rg, kn, lk, rt, s, fi, hd, sn) 10 + 1) = y_v (mr, rg, kn, lk, rt + 1, s, fi, hd, sn) := by
  funext j; unfold y_v vp_updL
  by_cases h : j = 10 <;> simp [h, lN_1]
end
/-- the counts of the fences among the others -/
def y_w (v : Nat → Int64) (q : Nat → Nat) : Nat → Int64 := fun j => if (2 ≤ j ∧ j ≤ 7) ∨ j = 11 then lN (q j) else v j
/-- the values when the time is taken -/
def y_vt (T : y_T) (op : Int32) : Nat → Int64 := match T with
  | (mr, rg, kn, lk, rt, s, fi, hd, sn) => fun j => if j = 12 then (y_ov s fi hd op).toInt64 else if j = 13 then (y_un s fi hd op).toInt64 else if j = 14 then op.toInt64 else y_v (mr, rg, kn, lk, rt, s, fi, hd, sn) j
theorem y_w0 (T : y_T) (op : Int32) : y_w (y_vt T op) (fun _ => 0) = y_vt T op := by
  obtain ⟨mr, rg, kn, lk, rt, s, fi, hd, sn⟩ := T
  funext j
  unfold y_w
  split
  · unfold y_vt y_v
    dsimp only
    rw [if_neg (by omega), if_neg (by omega), if_neg (by omega), if_neg (by omega), if_neg (by omega), if_neg (by omega), if_neg (by omega), if_neg (by omega)]; rfl
  · rfl
theorem y_mx0 (x : Int32) : ga_mx 0 x = y_mx x := rfl
section
variable {E : ga_E} {X : ga_X} {n : Nat} {c0 c1 c2 c3 c4 c5 c6 c7 c8 c9 c10 c11 c12 c13 c14 c15 c16 c17 c18 c19 c20 c21 c22 c23 c24 c25 c26 c27 c28 c29 c30 m79 m80 m81 m82 m83 m84 m85 m86 m87 m88 m89 m90 m91 m92 m93 m94 m95 m96 m97 m98 m99 m100 m101 m102 m103 m104 m105 : ga_C} {L1 L2 : List ga_C} {f : Nat → ga_C} {o_tp o_rd o_fe o_em o_sp o_ac o_td o_sm o_tt o_at o_sz o_fk o_fp o_nw o_md o_nt o_pl o_op d_at d_tk d_ta d_fd d_fa : Int32} {d_tv : Int64} {d_rl : Value}
variable {sv : Nat → sh_S} {av : Nat → a_S} {g : Nat → ga_C} {r : Nat} {ah ou : Nat → Int32} {fm em sp op : Int32} {fn an : Nat}
variable {mr rg : Int32} {kn lk rt : Nat} {s fi : Option Int32} {hd : Int32} {sn : Nat → Nat → Nat} {sst stm sof : Int32} {stt : Int64}
set_option maxHeartbeats 4000000 in
theorem c_X8_take {k : Nat} {rd kd fe a b nb sb : Int32} {nx : Option Nat} {T : y_T} (hn : 106 ≤ n) (hr : r < 24) (hk : 1 ≤ k) (hdm : k + 105 < n) (hav : av k = (rd, kd, fe, a, b, nb, sb, nx)) (hok : y_ok kd fe) (hT : T = (mr, rg, kn, lk, rt, s, fi, hd, sn)) :
    ga_Mx E 3 yX8_take cX8_take 3 none 0 0 [.ref 29, .ref (k + 105), .ref (2 * r + 31)] (n, (c0 :: c1 :: c2 :: c3 :: c4 :: c5 :: k_C fm em sp fn op :: ga_i 32 ah :: c8 :: c9 :: c10 :: c11 :: c12 :: c13 :: c14 :: c15 :: c16 :: c17 :: c18 :: c19 :: c20 :: c21 :: c22 :: c23 :: c24 :: c25 :: c26 :: c27 :: c28 :: k_Y T.2.2.2.2.2.2.2.1 :: ga_i 120 (y_se T.2.2.2.2.2.2.2.2) :: []), L2, sh_f (va_up sv r (y_sh sst stm sof stt T)) (a_f av)) none
      (n, (c0 :: c1 :: c2 :: c3 :: c4 :: c5 :: k_C fm em sp fn op :: ga_i 32 ah :: c8 :: c9 :: c10 :: c11 :: c12 :: c13 :: c14 :: c15 :: c16 :: c17 :: c18 :: c19 :: c20 :: c21 :: c22 :: c23 :: c24 :: c25 :: c26 :: c27 :: c28 :: k_Y (y_st ah T kd fe a b).2.2.2.2.2.2.2.1 :: ga_i 120 (y_se (y_st ah T kd fe a b).2.2.2.2.2.2.2.2) :: []), L2, sh_f (va_up sv r (y_sh sst stm sof stt (y_st ah T kd fe a b))) (a_f av)) := by
  subst hT
  refine ga_Mt.of (by decide) rfl (fun X hX hP => ?_)
  refine g_less [some (.ref 29), some (.ref (k + 105)), some (.ref (2 * r + 31))] ⟨rfl, rfl, rfl, trivial⟩ ?_
  have see : ∀ i j, i < 4 → j < 30 → kd = nI (i + 3) → fe = nI j → ga_G E X 0 0 207 [some (.ref 29), some (.ref (k + 105)), some (.ref (2 * r + 31))] [] (n, (c0 :: c1 :: c2 :: c3 :: c4 :: c5 :: k_C fm em sp fn op :: ga_i 32 ah :: c8 :: c9 :: c10 :: c11 :: c12 :: c13 :: c14 :: c15 :: c16 :: c17 :: c18 :: c19 :: c20 :: c21 :: c22 :: c23 :: c24 :: c25 :: c26 :: c27 :: c28 :: k_Y hd :: ga_i 120 (y_se sn) :: []), L2, sh_f (va_up sv r (y_sh sst stm sof stt (mr, rg, kn, lk, rt, s, fi, hd, sn))) (a_f av)) := by
    intro i j hi hj e1 e2
    subst e1
    subst e2
    refine g_aload_n (nx := 208) hX 0 dX8_take_207 rfl rfl rfl ?_
    refine g_aload_n (nx := 209) hX 1 dX8_take_208 rfl rfl rfl ?_
    refine g_getfield (nx := 212) hX dX8_take_209 rfl fX8_73 hdm (get_aE hk hav) rfl ?_
    refine g_aload_n (nx := 213) hX 1 dX8_take_212 rfl rfl rfl ?_
    refine g_getfield (nx := 216) hX dX8_take_213 rfl fX8_99 hdm (get_aE hk hav) rfl ?_
    refine g_V2 (nx := 219) hX dX8_take_216 rfl mX8_102 yX8_see_ok (c_X8_see hn hi hj) (ga_dn hn rfl) rfl rfl rfl (by decide) rfl (Nat.le_of_ble_eq_true rfl) (Nat.le_of_ble_eq_true rfl) ?_
    rintro _ _ ⟨rfl, rfl⟩
    exact g_return hX hP dX8_take_219 (Nat.le_of_ble_eq_true rfl) (Nat.le_of_ble_eq_true rfl) ⟨rfl, by rw [y_stS hi hj]; rfl⟩
  have sm : ∀ j : Nat, 3 ≤ j → j ≤ 6 → kd = nI j → ∃ i f, i < 4 ∧ f < 30 ∧ kd = nI (i + 3) ∧ fe = nI f := by
    intro j h1 h2 e
    have ne : ∀ q : Nat, q < 3 ∨ 6 < q → q < 2147483648 → ¬ kd = nI q := fun q hq h3 e' => by have := nI_inj (e.symm.trans e') (by omega) h3; omega
    rcases hok with h | h | h | h | h | h | h | h | h
    · exact absurd h (ne 0 (by omega) (by omega))
    · exact absurd h (ne 1 (by omega) (by omega))
    · exact absurd h (ne 2 (by omega) (by omega))
    · exact h
    · exact absurd h (ne 7 (by omega) (by omega))
    · exact absurd h (ne 8 (by omega) (by omega))
    · exact absurd h (ne 9 (by omega) (by omega))
    · exact absurd h (ne 10 (by omega) (by omega))
    · exact absurd h (ne 11 (by omega) (by omega))
  refine g_aload_n (nx := 1) hX 1 dX8_take_0 rfl rfl rfl ?_
  refine g_getfield (nx := 4) hX dX8_take_1 rfl fX8_73 hdm (get_aE hk hav) rfl ?_
  rcases sw_12 kd with hsw | rfl | rfl | rfl | rfl | rfl | rfl | rfl | rfl | rfl | rfl | rfl | rfl
  · refine g_tableOut hX 207 dX8_take_4 hsw (by decide) ?_
    exfalso
    rcases hok with h | h | h | ⟨i, j, h1, h2, h, h4⟩ | h | h | h | h | h <;> first | (subst h; revert hsw; decide) | (rw [h, nI_toInt (by omega)] at hsw; omega)
  · refine g_tableIn hX 68 dX8_take_4 (by decide) (by decide) rfl (by decide) ?_
    rw [show y_sh sst stm sof stt (mr, rg, kn, lk, rt, s, fi, hd, sn) = (sst, y_h s, y_h fi, y_g s, y_g fi, stm, sof, stt, y_v (mr, rg, kn, lk, rt, s, fi, hd, sn)) from rfl]
    refine g_aload_n (nx := 69) hX 2 dX8_take_68 rfl rfl rfl ?_
    refine g_getfield (nx := 72) hX dX8_take_69 rfl fX8_65 (dm_o hn hr) (get_soE hr) rfl ?_
    refine g_iconst (nx := 73) hX 0 dX8_take_72 rfl (by decide) ?_
    refine g_aload_n (nx := 74) hX 1 dX8_take_73 rfl rfl rfl ?_
    refine g_getfield (nx := 77) hX dX8_take_74 rfl fX8_76 hdm (get_aE hk hav) rfl ?_
    refine g_i2l (nx := 78) hX dX8_take_77 rfl ?_
    refine g_lastore (nx := 79) hX dX8_take_78 rfl (dm_v hn hr) (get_svE hr) (ga_ix_of (j := 0) rfl (by decide) (by decide)) ?_
    refine g_mem (put_svF hr) ?_
    refine g_goto (nx := 219) hX dX8_take_79 (by decide) ?_
    exact g_return hX hP dX8_take_219 (Nat.le_of_ble_eq_true rfl) (Nat.le_of_ble_eq_true rfl) ⟨rfl, by rw [y_st0]; show _ = (n, _, L2, sh_f (va_up sv r (sst, y_h s, y_h fi, y_g s, y_g fi, stm, sof, stt, y_v (a, rg, kn, lk, rt, s, fi, hd, sn))) (a_f av)); rw [← y_v0 (mr := mr) (a := a)]⟩
  · refine g_tableIn hX 82 dX8_take_4 (by decide) (by decide) rfl (by decide) ?_
    rw [show y_sh sst stm sof stt (mr, rg, kn, lk, rt, s, fi, hd, sn) = (sst, y_h s, y_h fi, y_g s, y_g fi, stm, sof, stt, y_v (mr, rg, kn, lk, rt, s, fi, hd, sn)) from rfl]
    refine g_aload_n (nx := 83) hX 2 dX8_take_82 rfl rfl rfl ?_
    refine g_iconst (nx := 84) hX 1 dX8_take_83 rfl (by decide) ?_
    refine g_putfield (nx := 87) hX dX8_take_84 rfl pX8_79 (dm_o hn hr) (get_soE hr) rfl rfl rfl ?_
    refine g_mem (put_soF hr) ?_
    refine g_aload_n (nx := 88) hX 2 dX8_take_87 rfl rfl rfl ?_
    refine g_aload_n (nx := 89) hX 0 dX8_take_88 rfl rfl rfl ?_
    refine g_getfield (nx := 92) hX dX8_take_89 rfl fX8_17 (ga_dn hn rfl) rfl rfl ?_
    refine g_iconst (nx := 93) hX 0 dX8_take_92 rfl (by decide) ?_
    refine g_aload_n (nx := 94) hX 1 dX8_take_93 rfl rfl rfl ?_
    refine g_getfield (nx := 97) hX dX8_take_94 rfl fX8_76 hdm (get_aE hk hav) rfl ?_
    refine g_V2 (nx := 100) hX dX8_take_97 rfl mX8_83 yX2_putRight_ok (c_X2_putRight hn) (ga_dn hn rfl) rfl rfl rfl (by decide) rfl (Nat.le_of_ble_eq_true rfl) (Nat.le_of_ble_eq_true rfl) ?_
    rintro _ _ ⟨rfl, rfl⟩
    refine g_putfield (nx := 103) hX dX8_take_100 rfl pX8_87 (dm_o hn hr) (get_soE hr) rfl rfl rfl ?_
    refine g_mem (put_soF hr) ?_
    refine g_goto (nx := 219) hX dX8_take_103 (by decide) ?_
    exact g_return hX hP dX8_take_219 (Nat.le_of_ble_eq_true rfl) (Nat.le_of_ble_eq_true rfl) ⟨rfl, by rw [y_st1]; rfl⟩
  · refine g_tableIn hX 106 dX8_take_4 (by decide) (by decide) rfl (by decide) ?_
    rw [show y_sh sst stm sof stt (mr, rg, kn, lk, rt, s, fi, hd, sn) = (sst, y_h s, y_h fi, y_g s, y_g fi, stm, sof, stt, y_v (mr, rg, kn, lk, rt, s, fi, hd, sn)) from rfl]
    refine g_aload_n (nx := 107) hX 2 dX8_take_106 rfl rfl rfl ?_
    refine g_iconst (nx := 108) hX 1 dX8_take_107 rfl (by decide) ?_
    refine g_putfield (nx := 111) hX dX8_take_108 rfl pX8_90 (dm_o hn hr) (get_soE hr) rfl rfl rfl ?_
    refine g_mem (put_soF hr) ?_
    refine g_aload_n (nx := 112) hX 2 dX8_take_111 rfl rfl rfl ?_
    refine g_aload_n (nx := 113) hX 0 dX8_take_112 rfl rfl rfl ?_
    refine g_getfield (nx := 116) hX dX8_take_113 rfl fX8_17 (ga_dn hn rfl) rfl rfl ?_
    refine g_iconst (nx := 117) hX 1 dX8_take_116 rfl (by decide) ?_
    refine g_aload_n (nx := 118) hX 1 dX8_take_117 rfl rfl rfl ?_
    refine g_getfield (nx := 121) hX dX8_take_118 rfl fX8_76 hdm (get_aE hk hav) rfl ?_
    refine g_V2 (nx := 124) hX dX8_take_121 rfl mX8_83 yX2_putRight_ok (c_X2_putRight hn) (ga_dn hn rfl) rfl rfl rfl (by decide) rfl (Nat.le_of_ble_eq_true rfl) (Nat.le_of_ble_eq_true rfl) ?_
    rintro _ _ ⟨rfl, rfl⟩
    refine g_putfield (nx := 127) hX dX8_take_124 rfl pX8_93 (dm_o hn hr) (get_soE hr) rfl rfl rfl ?_
    refine g_mem (put_soF hr) ?_
    refine g_goto (nx := 219) hX dX8_take_127 (by decide) ?_
    exact g_return hX hP dX8_take_219 (Nat.le_of_ble_eq_true rfl) (Nat.le_of_ble_eq_true rfl) ⟨rfl, by rw [y_st2]; rfl⟩
  · refine g_tableIn hX 207 dX8_take_4 (by decide) (by decide) rfl (by decide) ?_
    obtain ⟨i, j, h1, h2, h3, h4⟩ := sm 3 (by omega) (by omega) rfl; exact see i j h1 h2 h3 h4
  · refine g_tableIn hX 207 dX8_take_4 (by decide) (by decide) rfl (by decide) ?_
    obtain ⟨i, j, h1, h2, h3, h4⟩ := sm 4 (by omega) (by omega) rfl; exact see i j h1 h2 h3 h4
  · refine g_tableIn hX 207 dX8_take_4 (by decide) (by decide) rfl (by decide) ?_
    obtain ⟨i, j, h1, h2, h3, h4⟩ := sm 5 (by omega) (by omega) rfl; exact see i j h1 h2 h3 h4
  · refine g_tableIn hX 207 dX8_take_4 (by decide) (by decide) rfl (by decide) ?_
    obtain ⟨i, j, h1, h2, h3, h4⟩ := sm 6 (by omega) (by omega) rfl; exact see i j h1 h2 h3 h4
  · refine g_tableIn hX 130 dX8_take_4 (by decide) (by decide) rfl (by decide) ?_
    refine g_aload_n (nx := 131) hX 0 dX8_take_130 rfl rfl rfl ?_
    refine g_dup (nx := 132) hX dX8_take_131 rfl rfl ?_
    refine g_getfield (nx := 135) hX dX8_take_132 rfl fX8_30 (ga_dn hn rfl) rfl rfl ?_
    refine g_aload_n (nx := 136) hX 1 dX8_take_135 rfl rfl rfl ?_
    refine g_getfield (nx := 139) hX dX8_take_136 rfl fX8_96 hdm (get_aE hk hav) rfl ?_
    refine g_aload_n (nx := 140) hX 1 dX8_take_139 rfl rfl rfl ?_
    refine g_getfield (nx := 143) hX dX8_take_140 rfl fX8_76 hdm (get_aE hk hav) rfl ?_
    refine g_isub (nx := 144) hX dX8_take_143 rfl ?_
    refine g_iadd (nx := 145) hX dX8_take_144 rfl ?_
    refine g_putfield (nx := 148) hX dX8_take_145 rfl pX8_30 (ga_dn hn rfl) rfl rfl rfl rfl ?_
    refine g_goto (nx := 219) hX dX8_take_148 (by decide) ?_
    exact g_return hX hP dX8_take_219 (Nat.le_of_ble_eq_true rfl) (Nat.le_of_ble_eq_true rfl) ⟨rfl, by rw [y_st7]; rfl⟩
  · refine g_tableIn hX 151 dX8_take_4 (by decide) (by decide) rfl (by decide) ?_
    rw [show y_sh sst stm sof stt (mr, rg, kn, lk, rt, s, fi, hd, sn) = (sst, y_h s, y_h fi, y_g s, y_g fi, stm, sof, stt, y_v (mr, rg, kn, lk, rt, s, fi, hd, sn)) from rfl]
    refine g_aload_n (nx := 152) hX 2 dX8_take_151 rfl rfl rfl ?_
    refine g_getfield (nx := 155) hX dX8_take_152 rfl fX8_65 (dm_o hn hr) (get_soE hr) rfl ?_
    refine g_bipush (nx := 157) hX 8 dX8_take_155 rfl (by decide) ?_
    refine g_dup2 (nx := 158) hX dX8_take_157 rfl rfl rfl ?_
    refine g_laload (nx := 159) hX dX8_take_158 rfl (dm_v hn hr) (get_svE hr) (ga_ix_of (j := 8) rfl (by decide) (by decide)) ?_
    refine g_lconst (nx := 160) hX 1 dX8_take_159 rfl (by decide) ?_
    refine g_ladd (nx := 161) hX dX8_take_160 rfl ?_
    refine g_lastore (nx := 162) hX dX8_take_161 rfl (dm_v hn hr) (get_svE hr) (ga_ix_of (j := 8) rfl (by decide) (by decide)) ?_
    refine g_mem (put_svF hr) ?_
    refine g_goto (nx := 219) hX dX8_take_162 (by decide) ?_
    exact g_return hX hP dX8_take_219 (Nat.le_of_ble_eq_true rfl) (Nat.le_of_ble_eq_true rfl) ⟨rfl, by rw [y_st8]; show _ = (n, _, L2, sh_f (va_up sv r (sst, y_h s, y_h fi, y_g s, y_g fi, stm, sof, stt, y_v (mr, rg, kn + 1, lk, rt, s, fi, hd, sn))) (a_f av)); rw [← y_v8]⟩
  · refine g_tableIn hX 165 dX8_take_4 (by decide) (by decide) rfl (by decide) ?_
    rw [show y_sh sst stm sof stt (mr, rg, kn, lk, rt, s, fi, hd, sn) = (sst, y_h s, y_h fi, y_g s, y_g fi, stm, sof, stt, y_v (mr, rg, kn, lk, rt, s, fi, hd, sn)) from rfl]
    refine g_aload_n (nx := 166) hX 2 dX8_take_165 rfl rfl rfl ?_
    refine g_getfield (nx := 169) hX dX8_take_166 rfl fX8_65 (dm_o hn hr) (get_soE hr) rfl ?_
    refine g_iconst (nx := 170) hX 1 dX8_take_169 rfl (by decide) ?_
    refine g_aload_n (nx := 171) hX 1 dX8_take_170 rfl rfl rfl ?_
    refine g_getfield (nx := 174) hX dX8_take_171 rfl fX8_76 hdm (get_aE hk hav) rfl ?_
    refine g_i2l (nx := 175) hX dX8_take_174 rfl ?_
    refine g_lastore (nx := 176) hX dX8_take_175 rfl (dm_v hn hr) (get_svE hr) (ga_ix_of (j := 1) rfl (by decide) (by decide)) ?_
    refine g_mem (put_svF hr) ?_
    refine g_goto (nx := 219) hX dX8_take_176 (by decide) ?_
    exact g_return hX hP dX8_take_219 (Nat.le_of_ble_eq_true rfl) (Nat.le_of_ble_eq_true rfl) ⟨rfl, by rw [y_st9]; show _ = (n, _, L2, sh_f (va_up sv r (sst, y_h s, y_h fi, y_g s, y_g fi, stm, sof, stt, y_v (mr, a, kn, lk, rt, s, fi, hd, sn))) (a_f av)); rw [← y_v1 (rg := rg) (a := a)]⟩
  · refine g_tableIn hX 179 dX8_take_4 (by decide) (by decide) rfl (by decide) ?_
    rw [show y_sh sst stm sof stt (mr, rg, kn, lk, rt, s, fi, hd, sn) = (sst, y_h s, y_h fi, y_g s, y_g fi, stm, sof, stt, y_v (mr, rg, kn, lk, rt, s, fi, hd, sn)) from rfl]
    refine g_aload_n (nx := 180) hX 2 dX8_take_179 rfl rfl rfl ?_
    refine g_getfield (nx := 183) hX dX8_take_180 rfl fX8_65 (dm_o hn hr) (get_soE hr) rfl ?_
    refine g_bipush (nx := 185) hX 9 dX8_take_183 rfl (by decide) ?_
    refine g_dup2 (nx := 186) hX dX8_take_185 rfl rfl rfl ?_
    refine g_laload (nx := 187) hX dX8_take_186 rfl (dm_v hn hr) (get_svE hr) (ga_ix_of (j := 9) rfl (by decide) (by decide)) ?_
    refine g_lconst (nx := 188) hX 1 dX8_take_187 rfl (by decide) ?_
    refine g_ladd (nx := 189) hX dX8_take_188 rfl ?_
    refine g_lastore (nx := 190) hX dX8_take_189 rfl (dm_v hn hr) (get_svE hr) (ga_ix_of (j := 9) rfl (by decide) (by decide)) ?_
    refine g_mem (put_svF hr) ?_
    refine g_goto (nx := 219) hX dX8_take_190 (by decide) ?_
    exact g_return hX hP dX8_take_219 (Nat.le_of_ble_eq_true rfl) (Nat.le_of_ble_eq_true rfl) ⟨rfl, by rw [y_st10]; show _ = (n, _, L2, sh_f (va_up sv r (sst, y_h s, y_h fi, y_g s, y_g fi, stm, sof, stt, y_v (mr, rg, kn, lk + 1, rt, s, fi, hd, sn))) (a_f av)); rw [← y_v9]⟩
  · refine g_tableIn hX 193 dX8_take_4 (by decide) (by decide) rfl (by decide) ?_
    rw [show y_sh sst stm sof stt (mr, rg, kn, lk, rt, s, fi, hd, sn) = (sst, y_h s, y_h fi, y_g s, y_g fi, stm, sof, stt, y_v (mr, rg, kn, lk, rt, s, fi, hd, sn)) from rfl]
    refine g_aload_n (nx := 194) hX 2 dX8_take_193 rfl rfl rfl ?_
    refine g_getfield (nx := 197) hX dX8_take_194 rfl fX8_65 (dm_o hn hr) (get_soE hr) rfl ?_
    refine g_bipush (nx := 199) hX 10 dX8_take_197 rfl (by decide) ?_
    refine g_dup2 (nx := 200) hX dX8_take_199 rfl rfl rfl ?_
    refine g_laload (nx := 201) hX dX8_take_200 rfl (dm_v hn hr) (get_svE hr) (ga_ix_of (j := 10) rfl (by decide) (by decide)) ?_
    refine g_lconst (nx := 202) hX 1 dX8_take_201 rfl (by decide) ?_
    refine g_ladd (nx := 203) hX dX8_take_202 rfl ?_
    refine g_lastore (nx := 204) hX dX8_take_203 rfl (dm_v hn hr) (get_svE hr) (ga_ix_of (j := 10) rfl (by decide) (by decide)) ?_
    refine g_mem (put_svF hr) ?_
    refine g_goto (nx := 219) hX dX8_take_204 (by decide) ?_
    exact g_return hX hP dX8_take_219 (Nat.le_of_ble_eq_true rfl) (Nat.le_of_ble_eq_true rfl) ⟨rfl, by rw [y_st11]; show _ = (n, _, L2, sh_f (va_up sv r (sst, y_h s, y_h fi, y_g s, y_g fi, stm, sof, stt, y_v (mr, rg, kn, lk, rt + 1, s, fi, hd, sn))) (a_f av)); rw [← y_v10]⟩
end
