/-! ===== the tally of the reference ===== -/
def m_t (T : y_T) : Nat → Int32 := match T with
  | (mr, rg, kn, lk, rt, s, fi, _, _) => fun j => if j = 0 then mr else if j = 1 then rg else if j = 8 then nI kn else if j = 9 then nI lk else if j = 10 then nI rt else if j = 15 then y_g s else if j = 16 then y_g fi else 0
def m_af (sn : Nat → Nat → Nat) : Nat → Int32 := fun j => nI (sn (j % 4) (j / 4))
theorem z_id (f : Nat → Int32) (k : Nat) : upd f k (f k + 0) = f := by
  funext j
  unfold upd
  by_cases h : j = k
  · rw [if_pos h, h, Int32.add_zero]
  · rw [if_neg h]
theorem m_af_up {sn : Nat → Nat → Nat} {i f : Nat} (hi : i < 4) : upd (m_af sn) (4 * f + i) (m_af sn (4 * f + i) + 1) = m_af (y_u2 sn i f) := by
  funext j
  unfold m_af y_u2
  by_cases h : j = 4 * f + i
  · rw [h, pk_us, show (4 * f + i) % 4 = i by omega, show (4 * f + i) / 4 = f by omega, if_pos ⟨rfl, rfl⟩, nI_1]
  · rw [pk_un h, if_neg (fun q => h (by omega))]
theorem m_t_0 : upd (upd (fun _ => 0) 15 (-1000000)) 16 (-1000000) = m_t y_0 := by
  funext j
  unfold upd m_t y_0
  by_cases h16 : j = 16
  · subst h16; rfl
  · by_cases h15 : j = 15
    · subst h15; rfl
    · simp [h15, h16]
      intros
      repeat' split
      all_goals rfl
section
variable {mr rg : Int32} {kn lk rt : Nat} {s fi : Option Int32} {hd : Int32} {sn : Nat → Nat → Nat} {a : Int32}
theorem m_t0 : upd (m_t (mr, rg, kn, lk, rt, s, fi, hd, sn)) 0 a = m_t (a, rg, kn, lk, rt, s, fi, hd, sn) := by
  funext j; unfold m_t upd; by_cases h : j = 0 <;> simp [h]
theorem m_t1 : upd (m_t (mr, rg, kn, lk, rt, s, fi, hd, sn)) 1 a = m_t (mr, a, kn, lk, rt, s, fi, hd, sn) := by
  funext j; unfold m_t upd; by_cases h : j = 1 <;> simp [h]
theorem m_t8 : upd (m_t (mr, rg, kn, lk, rt, s, fi, hd, sn)) 8 (m_t (mr, rg, kn, lk, rt, s, fi, hd, sn) 8 + 1) = m_t (mr, rg, kn + 1, lk, rt, s, fi, hd, sn) := by
  funext j; unfold m_t upd; by_cases h : j = 8 <;> simp [h, nI_1]
theorem m_t9 : upd (m_t (mr, rg, kn, lk, rt, s, fi, hd, sn)) 9 (m_t (mr, rg, kn, lk, rt, s, fi, hd, sn) 9 + 1) = m_t (mr, rg, kn, lk + 1, rt, s, fi, hd, sn) := by
  funext j; unfold m_t upd; by_cases h : j = 9 <;> simp [h, nI_1]
theorem m_t10 : upd (m_t (mr, rg, kn, lk, rt, s, fi, hd, sn)) 10 (m_t (mr, rg, kn, lk, rt, s, fi, hd, sn) 10 + 1) = m_t (mr, rg, kn, lk, rt + 1, s, fi, hd, sn) := by
  funext j; unfold m_t upd; by_cases h : j = 10 <;> simp [h, nI_1]
theorem m_t15 : upd (m_t (mr, rg, kn, lk, rt, s, fi, hd, sn)) 15 a = m_t (mr, rg, kn, lk, rt, some a, fi, hd, sn) := by
  funext j; unfold m_t upd; by_cases h : j = 15 <;> simp [h, y_g]
theorem m_t16 : upd (m_t (mr, rg, kn, lk, rt, s, fi, hd, sn)) 16 a = m_t (mr, rg, kn, lk, rt, s, some a, hd, sn) := by
  funext j; unfold m_t upd; by_cases h : j = 16 <;> simp [h, y_g]
end
section
variable {E : ga_E} {X : ga_X} {n : Nat} {c0 c1 c2 c3 c4 c5 c6 c7 c8 c9 c10 c11 c12 c13 c14 c15 c16 c17 c18 c19 c20 c21 c22 c23 c24 c25 c26 c27 c28 c29 c30 m79 m80 m81 m82 m83 m84 m85 m86 m87 m88 m89 m90 m91 m92 m93 m94 m95 m96 m97 m98 m99 m100 m101 m102 m103 m104 m105 : ga_C} {L1 L2 : List ga_C} {f : Nat → ga_C} {o_tp o_rd o_fe o_em o_sp o_ac o_td o_sm o_tt o_at o_sz o_fk o_fp o_nw o_md o_nt o_pl o_op d_at d_tk d_ta d_fd d_fa : Int32} {d_tv : Int64} {d_rl : Value}
variable {mt ou ah mw mq mf ma mb ms_ : Nat → Int32} {em sp : Int32} {fn r t : Nat}
variable {mr rg : Int32} {kn lk rt : Nat} {s fi : Option Int32} {hd : Int32} {sn : Nat → Nat → Nat}
theorem c_X11_stands {k : Nat} {v w : Int32} (hn : 106 ≤ n) (hk : k < 401) : ga_Mx E 0 yX11_stands cX11_stands 4 (some .boolean) 0 0 [.ref 79, .int (nI k), .int v, .int w] (n, L1, ((m_O o_tp o_rd o_fe o_em o_sp o_ac o_td o_sm o_tt o_at o_sz o_fk o_fp o_nw o_md o_nt o_pl o_op) :: m80 :: m81 :: m82 :: m83 :: m84 :: ga_i 401 mw :: ga_i 401 mq :: m87 :: m88 :: m89 :: ga_i 401 ms_ :: L2), f) (some (.int (ga_b (0 ≤ mq k ∧ mw k = v ∧ (ms_ k = 0 ∨ w < ms_ k))))) (n, L1, ((m_O o_tp o_rd o_fe o_em o_sp o_ac o_td o_sm o_tt o_at o_sz o_fk o_fp o_nw o_md o_nt o_pl o_op) :: m80 :: m81 :: m82 :: m83 :: m84 :: ga_i 401 mw :: ga_i 401 mq :: m87 :: m88 :: m89 :: ga_i 401 ms_ :: L2), f) := by
  refine ga_Mt.of (by decide) rfl (fun X hX hP => ?_)
  refine g_less [some (.ref 79), some (.int (nI k)), some (.int v), some (.int w)] ⟨rfl, rfl, rfl, rfl, trivial⟩ ?_
  refine g_aload_n (nx := 1) hX 0 dX11_stands_0 rfl rfl rfl ?_
  refine g_getfield (nx := 4) hX dX11_stands_1 rfl fX11_47 (ga_dn hn rfl) rfl rfl ?_
  refine g_iload_n (nx := 5) hX 1 dX11_stands_4 rfl rfl rfl ?_
  refine g_iaload (nx := 6) hX dX11_stands_5 rfl (ga_dn hn rfl) rfl (ga_ix_of rfl (by omega) (by omega)) ?_
  refine g_if_lt (nx := 9) hX 42 dX11_stands_6 (by decide) rfl (fun h6 => ?_) (fun h6 => ?_)
  · refine g_iconst (nx := 43) hX 0 dX11_stands_42 rfl (by decide) ?_
    exact g_ireturn hX hP dX11_stands_43 rfl (Nat.le_of_ble_eq_true rfl) (Nat.le_of_ble_eq_true rfl) ⟨by rw [ga_b_f (fun q => ga_ltn h6 q.1)], rfl⟩
  · refine g_aload_n (nx := 10) hX 0 dX11_stands_9 rfl rfl rfl ?_
    refine g_getfield (nx := 13) hX dX11_stands_10 rfl fX11_44 (ga_dn hn rfl) rfl rfl ?_
    refine g_iload_n (nx := 14) hX 1 dX11_stands_13 rfl rfl rfl ?_
    refine g_iaload (nx := 15) hX dX11_stands_14 rfl (ga_dn hn rfl) rfl (ga_ix_of rfl (by omega) (by omega)) ?_
    refine g_iload_n (nx := 16) hX 2 dX11_stands_15 rfl rfl rfl ?_
    refine g_icmp_ne (nx := 19) hX 42 dX11_stands_16 (by decide) rfl (fun h16 => ?_) (fun h16 => ?_)
    · refine g_iconst (nx := 43) hX 0 dX11_stands_42 rfl (by decide) ?_
      exact g_ireturn hX hP dX11_stands_43 rfl (Nat.le_of_ble_eq_true rfl) (Nat.le_of_ble_eq_true rfl) ⟨by rw [ga_b_f (fun q => h16 q.2.1)], rfl⟩
    · refine g_aload_n (nx := 20) hX 0 dX11_stands_19 rfl rfl rfl ?_
      refine g_getfield (nx := 23) hX dX11_stands_20 rfl fX11_59 (ga_dn hn rfl) rfl rfl ?_
      refine g_iload_n (nx := 24) hX 1 dX11_stands_23 rfl rfl rfl ?_
      refine g_iaload (nx := 25) hX dX11_stands_24 rfl (ga_dn hn rfl) rfl (ga_ix_of rfl (by omega) (by omega)) ?_
      refine g_if_eq (nx := 28) hX 38 dX11_stands_25 (by decide) rfl (fun h25 => ?_) (fun h25 => ?_)
      · refine g_iconst (nx := 39) hX 1 dX11_stands_38 rfl (by decide) ?_
        refine g_goto (nx := 43) hX dX11_stands_39 (by decide) ?_
        exact g_ireturn hX hP dX11_stands_43 rfl (Nat.le_of_ble_eq_true rfl) (Nat.le_of_ble_eq_true rfl) ⟨by rw [ga_b_t ⟨ga_nlt h6, h16, Or.inl h25⟩], rfl⟩
      · refine g_aload_n (nx := 29) hX 0 dX11_stands_28 rfl rfl rfl ?_
        refine g_getfield (nx := 32) hX dX11_stands_29 rfl fX11_59 (ga_dn hn rfl) rfl rfl ?_
        refine g_iload_n (nx := 33) hX 1 dX11_stands_32 rfl rfl rfl ?_
        refine g_iaload (nx := 34) hX dX11_stands_33 rfl (ga_dn hn rfl) rfl (ga_ix_of rfl (by omega) (by omega)) ?_
        refine g_iload_n (nx := 35) hX 3 dX11_stands_34 rfl rfl rfl ?_
        refine g_icmp_le (nx := 38) hX 42 dX11_stands_35 (by decide) rfl (fun h35 => ?_) (fun h35 => ?_)
        · refine g_iconst (nx := 43) hX 0 dX11_stands_42 rfl (by decide) ?_
          exact g_ireturn hX hP dX11_stands_43 rfl (Nat.le_of_ble_eq_true rfl) (Nat.le_of_ble_eq_true rfl) ⟨by rw [ga_b_f (fun q => q.2.2.elim h25 (fun z => ga_len h35 z))], rfl⟩
        · refine g_iconst (nx := 39) hX 1 dX11_stands_38 rfl (by decide) ?_
          refine g_goto (nx := 43) hX dX11_stands_39 (by decide) ?_
          exact g_ireturn hX hP dX11_stands_43 rfl (Nat.le_of_ble_eq_true rfl) (Nat.le_of_ble_eq_true rfl) ⟨by rw [ga_b_t ⟨ga_nlt h6, h16, Or.inr (ga_nle h35)⟩], rfl⟩
set_option maxHeartbeats 4000000 in
theorem tl_body {k : Nat} {kd : Int32} {d mc ms : Nat} {q1 q2 : Int32} (hX : ga_B E d yX11_tallies cX11_tallies 6 mc ms X) (hn : 106 ≤ n) (hk : k < 401) (hok : y_ok kd (mf k))
    (kont : ∀ T, T = y_st ah (mr, rg, kn, lk, rt, s, fi, hd, sn) kd (mf k) (ma k) (mb k) → ga_G E X 0 0 298 [some (.ref 79), some (.int q1), some (.int q2), some (.int T.2.2.2.2.2.2.2.1), some (.int (nI k)), none] [] (n, L1, ((m_O o_tp (o_rd) (nI fn) (em) (sp) o_ac o_td o_sm o_tt o_at o_sz o_fk o_fp o_nw o_md o_nt o_pl o_op) :: m80 :: m81 :: ga_i 30 mt :: ga_i 30 ou :: ga_i 32 ah :: ga_i 401 mw :: ga_i 401 mq :: ga_i 401 mf :: ga_i 401 ma :: ga_i 401 mb :: ga_i 401 ms_ :: ga_i 18 (m_t T) :: ga_i 120 (m_af T.2.2.2.2.2.2.2.2) :: L2), f)) :
    ga_G E X 0 0 94 [some (.ref 79), some (.int q1), some (.int q2), some (.int hd), some (.int (nI k)), some (.int kd)] [] (n, L1, ((m_O o_tp (o_rd) (nI fn) (em) (sp) o_ac o_td o_sm o_tt o_at o_sz o_fk o_fp o_nw o_md o_nt o_pl o_op) :: m80 :: m81 :: ga_i 30 mt :: ga_i 30 ou :: ga_i 32 ah :: ga_i 401 mw :: ga_i 401 mq :: ga_i 401 mf :: ga_i 401 ma :: ga_i 401 mb :: ga_i 401 ms_ :: ga_i 18 (m_t (mr, rg, kn, lk, rt, s, fi, hd, sn)) :: ga_i 120 (m_af sn) :: L2), f) := by
  rcases sw_12 kd with hsw | rfl | rfl | rfl | rfl | rfl | rfl | rfl | rfl | rfl | rfl | rfl | rfl
  · exfalso
    rcases hok with h | h | h | ⟨i, j, h1, h2, h, h4⟩ | h | h | h | h | h <;> first | (subst h; revert hsw; decide) | (rw [h, nI_toInt (by omega)] at hsw; omega)
  · -- kind 0
    have k9 := kont _ rfl
    rw [y_st0] at k9
    refine g_iload (nx := 96) hX 5 dX11_tallies_94 rfl rfl ?_
    refine g_if_ne (nx := 99) hX 112 dX11_tallies_96 (by decide) rfl (fun h => absurd h (by decide)) (fun h => ?_)
    refine g_aload_n (nx := 100) hX 0 dX11_tallies_99 rfl rfl rfl ?_
    refine g_getfield (nx := 103) hX dX11_tallies_100 rfl fX11_65 (ga_dn hn rfl) rfl rfl ?_
    refine g_iconst (nx := 104) hX 0 dX11_tallies_103 rfl (by decide) ?_
    refine g_aload_n (nx := 105) hX 0 dX11_tallies_104 rfl rfl rfl ?_
    refine g_getfield (nx := 108) hX dX11_tallies_105 rfl fX11_53 (ga_dn hn rfl) rfl rfl ?_
    refine g_iload (nx := 110) hX 4 dX11_tallies_108 rfl rfl ?_
    refine g_iaload (nx := 111) hX dX11_tallies_110 rfl (ga_dn hn rfl) rfl (ga_ix_of rfl (by omega) (by omega)) ?_
    refine g_iastore (nx := 112) hX dX11_tallies_111 rfl (ga_dn hn rfl) rfl (ga_ix_of (j := 0) rfl (by decide) (by decide)) ?_
    refine g_iload (nx := 114) hX 5 dX11_tallies_112 rfl rfl ?_
    refine g_bipush (nx := 116) hX 9 dX11_tallies_114 rfl (by decide) ?_
    refine g_icmp_ne (nx := 119) hX 132 dX11_tallies_116 (by decide) rfl (fun h => ?_) (fun h => absurd h (by decide))
    refine g_iload (nx := 134) hX 5 dX11_tallies_132 rfl rfl ?_
    refine g_iconst (nx := 135) hX 1 dX11_tallies_134 rfl (by decide) ?_
    refine g_icmp_eq (nx := 138) hX 144 dX11_tallies_135 (by decide) rfl (fun h => absurd h (by decide)) (fun h => ?_)
    refine g_iload (nx := 140) hX 5 dX11_tallies_138 rfl rfl ?_
    refine g_iconst (nx := 141) hX 2 dX11_tallies_140 rfl (by decide) ?_
    refine g_icmp_ne (nx := 144) hX 171 dX11_tallies_141 (by decide) rfl (fun h => ?_) (fun h => absurd h (by decide))
    refine g_iload (nx := 173) hX 5 dX11_tallies_171 rfl rfl ?_
    refine g_iconst (nx := 174) hX 3 dX11_tallies_173 rfl (by decide) ?_
    refine g_icmp_lt (nx := 177) hX 207 dX11_tallies_174 (by decide) rfl (fun h => ?_) (fun h => absurd h (by decide))
    refine g_iload (nx := 209) hX 5 dX11_tallies_207 rfl rfl ?_
    refine g_bipush (nx := 211) hX 7 dX11_tallies_209 rfl (by decide) ?_
    refine g_icmp_ne (nx := 214) hX 232 dX11_tallies_211 (by decide) rfl (fun h => ?_) (fun h => absurd h (by decide))
    refine g_aload_n (nx := 233) hX 0 dX11_tallies_232 rfl rfl rfl ?_
    refine g_getfield (nx := 236) hX dX11_tallies_233 rfl fX11_65 (ga_dn hn rfl) rfl rfl ?_
    refine g_bipush (nx := 238) hX 8 dX11_tallies_236 rfl (by decide) ?_
    refine g_dup2 (nx := 239) hX dX11_tallies_238 rfl rfl rfl ?_
    refine g_iaload (nx := 240) hX dX11_tallies_239 rfl (ga_dn hn rfl) rfl (ga_ix_of (j := 8) rfl (by decide) (by decide)) ?_
    refine g_iload (nx := 242) hX 5 dX11_tallies_240 rfl rfl ?_
    refine g_bipush (nx := 244) hX 8 dX11_tallies_242 rfl (by decide) ?_
    refine g_icmp_ne (nx := 247) hX 251 dX11_tallies_244 (by decide) rfl (fun h => ?_) (fun h => absurd h (by decide))
    refine g_iconst (nx := 252) hX 0 dX11_tallies_251 rfl (by decide) ?_
    refine g_iadd (nx := 253) hX dX11_tallies_252 rfl ?_
    refine g_iastore (nx := 254) hX dX11_tallies_253 rfl (ga_dn hn rfl) rfl (ga_ix_of (j := 8) rfl (by decide) (by decide)) ?_
    refine g_aload_n (nx := 255) hX 0 dX11_tallies_254 rfl rfl rfl ?_
    refine g_getfield (nx := 258) hX dX11_tallies_255 rfl fX11_65 (ga_dn hn rfl) rfl rfl ?_
    refine g_bipush (nx := 260) hX 9 dX11_tallies_258 rfl (by decide) ?_
    refine g_dup2 (nx := 261) hX dX11_tallies_260 rfl rfl rfl ?_
    refine g_iaload (nx := 262) hX dX11_tallies_261 rfl (ga_dn hn rfl) rfl (ga_ix_of (j := 9) rfl (by decide) (by decide)) ?_
    refine g_iload (nx := 264) hX 5 dX11_tallies_262 rfl rfl ?_
    refine g_bipush (nx := 266) hX 10 dX11_tallies_264 rfl (by decide) ?_
    refine g_icmp_ne (nx := 269) hX 273 dX11_tallies_266 (by decide) rfl (fun h => ?_) (fun h => absurd h (by decide))
    refine g_iconst (nx := 274) hX 0 dX11_tallies_273 rfl (by decide) ?_
    refine g_iadd (nx := 275) hX dX11_tallies_274 rfl ?_
    refine g_iastore (nx := 276) hX dX11_tallies_275 rfl (ga_dn hn rfl) rfl (ga_ix_of (j := 9) rfl (by decide) (by decide)) ?_
    refine g_aload_n (nx := 277) hX 0 dX11_tallies_276 rfl rfl rfl ?_
    refine g_getfield (nx := 280) hX dX11_tallies_277 rfl fX11_65 (ga_dn hn rfl) rfl rfl ?_
    refine g_bipush (nx := 282) hX 10 dX11_tallies_280 rfl (by decide) ?_
    refine g_dup2 (nx := 283) hX dX11_tallies_282 rfl rfl rfl ?_
    refine g_iaload (nx := 284) hX dX11_tallies_283 rfl (ga_dn hn rfl) rfl (ga_ix_of (j := 10) rfl (by decide) (by decide)) ?_
    refine g_iload (nx := 286) hX 5 dX11_tallies_284 rfl rfl ?_
    refine g_bipush (nx := 288) hX 11 dX11_tallies_286 rfl (by decide) ?_
    refine g_icmp_ne (nx := 291) hX 295 dX11_tallies_288 (by decide) rfl (fun h => ?_) (fun h => absurd h (by decide))
    refine g_iconst (nx := 296) hX 0 dX11_tallies_295 rfl (by decide) ?_
    refine g_iadd (nx := 297) hX dX11_tallies_296 rfl ?_
    refine g_iastore (nx := 298) hX dX11_tallies_297 rfl (ga_dn hn rfl) rfl (ga_ix_of (j := 10) rfl (by decide) (by decide)) ?_
    simp only [z_id]
    rw [m_t0]
    exact g_ls k9 ⟨rfl, rfl, rfl, rfl, rfl, trivial⟩
  · -- kind 1
    have k9 := kont _ rfl
    rw [y_st1] at k9
    refine g_iload (nx := 96) hX 5 dX11_tallies_94 rfl rfl ?_
    refine g_if_ne (nx := 99) hX 112 dX11_tallies_96 (by decide) rfl (fun h => ?_) (fun h => absurd h (by decide))
    refine g_iload (nx := 114) hX 5 dX11_tallies_112 rfl rfl ?_
    refine g_bipush (nx := 116) hX 9 dX11_tallies_114 rfl (by decide) ?_
    refine g_icmp_ne (nx := 119) hX 132 dX11_tallies_116 (by decide) rfl (fun h => ?_) (fun h => absurd h (by decide))
    refine g_iload (nx := 134) hX 5 dX11_tallies_132 rfl rfl ?_
    refine g_iconst (nx := 135) hX 1 dX11_tallies_134 rfl (by decide) ?_
    refine g_icmp_eq (nx := 138) hX 144 dX11_tallies_135 (by decide) rfl (fun h => ?_) (fun h => absurd h (by decide))
    refine g_aload_n (nx := 145) hX 0 dX11_tallies_144 rfl rfl rfl ?_
    refine g_getfield (nx := 148) hX dX11_tallies_145 rfl fX11_65 (ga_dn hn rfl) rfl rfl ?_
    refine g_bipush (nx := 150) hX 14 dX11_tallies_148 rfl (by decide) ?_
    refine g_iload (nx := 152) hX 5 dX11_tallies_150 rfl rfl ?_
    refine g_iadd (nx := 153) hX dX11_tallies_152 rfl ?_
    refine g_aload_n (nx := 154) hX 0 dX11_tallies_153 rfl rfl rfl ?_
    refine g_getfield (nx := 157) hX dX11_tallies_154 rfl fX11_53 (ga_dn hn rfl) rfl rfl ?_
    refine g_iload (nx := 159) hX 4 dX11_tallies_157 rfl rfl ?_
    refine g_iaload (nx := 160) hX dX11_tallies_159 rfl (ga_dn hn rfl) rfl (ga_ix_of rfl (by omega) (by omega)) ?_
    refine g_aload_n (nx := 161) hX 0 dX11_tallies_160 rfl rfl rfl ?_
    refine g_getfield (nx := 164) hX dX11_tallies_161 rfl fX11_32 (ga_dn hn rfl) rfl rfl ?_
    refine g_iload (nx := 166) hX 5 dX11_tallies_164 rfl rfl ?_
    refine g_iconst (nx := 167) hX 1 dX11_tallies_166 rfl (by decide) ?_
    refine g_isub (nx := 168) hX dX11_tallies_167 rfl ?_
    refine g_iaload (nx := 169) hX dX11_tallies_168 rfl (ga_dn hn rfl) rfl (ga_ix_of (j := 0) (by decide) (by decide) (by decide)) ?_
    refine g_isub (nx := 170) hX dX11_tallies_169 rfl ?_
    refine g_iastore (nx := 171) hX dX11_tallies_170 rfl (ga_dn hn rfl) rfl (ga_ix_of (j := 15) (by decide) (by decide) (by decide)) ?_
    refine g_iload (nx := 173) hX 5 dX11_tallies_171 rfl rfl ?_
    refine g_iconst (nx := 174) hX 3 dX11_tallies_173 rfl (by decide) ?_
    refine g_icmp_lt (nx := 177) hX 207 dX11_tallies_174 (by decide) rfl (fun h => ?_) (fun h => absurd h (by decide))
    refine g_iload (nx := 209) hX 5 dX11_tallies_207 rfl rfl ?_
    refine g_bipush (nx := 211) hX 7 dX11_tallies_209 rfl (by decide) ?_
    refine g_icmp_ne (nx := 214) hX 232 dX11_tallies_211 (by decide) rfl (fun h => ?_) (fun h => absurd h (by decide))
    refine g_aload_n (nx := 233) hX 0 dX11_tallies_232 rfl rfl rfl ?_
    refine g_getfield (nx := 236) hX dX11_tallies_233 rfl fX11_65 (ga_dn hn rfl) rfl rfl ?_
    refine g_bipush (nx := 238) hX 8 dX11_tallies_236 rfl (by decide) ?_
    refine g_dup2 (nx := 239) hX dX11_tallies_238 rfl rfl rfl ?_
    refine g_iaload (nx := 240) hX dX11_tallies_239 rfl (ga_dn hn rfl) rfl (ga_ix_of (j := 8) rfl (by decide) (by decide)) ?_
    refine g_iload (nx := 242) hX 5 dX11_tallies_240 rfl rfl ?_
    refine g_bipush (nx := 244) hX 8 dX11_tallies_242 rfl (by decide) ?_
    refine g_icmp_ne (nx := 247) hX 251 dX11_tallies_244 (by decide) rfl (fun h => ?_) (fun h => absurd h (by decide))
    refine g_iconst (nx := 252) hX 0 dX11_tallies_251 rfl (by decide) ?_
    refine g_iadd (nx := 253) hX dX11_tallies_252 rfl ?_
    refine g_iastore (nx := 254) hX dX11_tallies_253 rfl (ga_dn hn rfl) rfl (ga_ix_of (j := 8) rfl (by decide) (by decide)) ?_
    refine g_aload_n (nx := 255) hX 0 dX11_tallies_254 rfl rfl rfl ?_
    refine g_getfield (nx := 258) hX dX11_tallies_255 rfl fX11_65 (ga_dn hn rfl) rfl rfl ?_
    refine g_bipush (nx := 260) hX 9 dX11_tallies_258 rfl (by decide) ?_
    refine g_dup2 (nx := 261) hX dX11_tallies_260 rfl rfl rfl ?_
    refine g_iaload (nx := 262) hX dX11_tallies_261 rfl (ga_dn hn rfl) rfl (ga_ix_of (j := 9) rfl (by decide) (by decide)) ?_
    refine g_iload (nx := 264) hX 5 dX11_tallies_262 rfl rfl ?_
    refine g_bipush (nx := 266) hX 10 dX11_tallies_264 rfl (by decide) ?_
    refine g_icmp_ne (nx := 269) hX 273 dX11_tallies_266 (by decide) rfl (fun h => ?_) (fun h => absurd h (by decide))
    refine g_iconst (nx := 274) hX 0 dX11_tallies_273 rfl (by decide) ?_
    refine g_iadd (nx := 275) hX dX11_tallies_274 rfl ?_
    refine g_iastore (nx := 276) hX dX11_tallies_275 rfl (ga_dn hn rfl) rfl (ga_ix_of (j := 9) rfl (by decide) (by decide)) ?_
    refine g_aload_n (nx := 277) hX 0 dX11_tallies_276 rfl rfl rfl ?_
    refine g_getfield (nx := 280) hX dX11_tallies_277 rfl fX11_65 (ga_dn hn rfl) rfl rfl ?_
    refine g_bipush (nx := 282) hX 10 dX11_tallies_280 rfl (by decide) ?_
    refine g_dup2 (nx := 283) hX dX11_tallies_282 rfl rfl rfl ?_
    refine g_iaload (nx := 284) hX dX11_tallies_283 rfl (ga_dn hn rfl) rfl (ga_ix_of (j := 10) rfl (by decide) (by decide)) ?_
    refine g_iload (nx := 286) hX 5 dX11_tallies_284 rfl rfl ?_
    refine g_bipush (nx := 288) hX 11 dX11_tallies_286 rfl (by decide) ?_
    refine g_icmp_ne (nx := 291) hX 295 dX11_tallies_288 (by decide) rfl (fun h => ?_) (fun h => absurd h (by decide))
    refine g_iconst (nx := 296) hX 0 dX11_tallies_295 rfl (by decide) ?_
    refine g_iadd (nx := 297) hX dX11_tallies_296 rfl ?_
    refine g_iastore (nx := 298) hX dX11_tallies_297 rfl (ga_dn hn rfl) rfl (ga_ix_of (j := 10) rfl (by decide) (by decide)) ?_
    simp only [z_id]
    rw [m_t15]
    exact g_ls k9 ⟨rfl, rfl, rfl, rfl, rfl, trivial⟩
  · -- kind 2
    have k9 := kont _ rfl
    rw [y_st2] at k9
    refine g_iload (nx := 96) hX 5 dX11_tallies_94 rfl rfl ?_
    refine g_if_ne (nx := 99) hX 112 dX11_tallies_96 (by decide) rfl (fun h => ?_) (fun h => absurd h (by decide))
    refine g_iload (nx := 114) hX 5 dX11_tallies_112 rfl rfl ?_
    refine g_bipush (nx := 116) hX 9 dX11_tallies_114 rfl (by decide) ?_
    refine g_icmp_ne (nx := 119) hX 132 dX11_tallies_116 (by decide) rfl (fun h => ?_) (fun h => absurd h (by decide))
    refine g_iload (nx := 134) hX 5 dX11_tallies_132 rfl rfl ?_
    refine g_iconst (nx := 135) hX 1 dX11_tallies_134 rfl (by decide) ?_
    refine g_icmp_eq (nx := 138) hX 144 dX11_tallies_135 (by decide) rfl (fun h => absurd h (by decide)) (fun h => ?_)
    refine g_iload (nx := 140) hX 5 dX11_tallies_138 rfl rfl ?_
    refine g_iconst (nx := 141) hX 2 dX11_tallies_140 rfl (by decide) ?_
    refine g_icmp_ne (nx := 144) hX 171 dX11_tallies_141 (by decide) rfl (fun h => absurd h (by decide)) (fun h => ?_)
    refine g_aload_n (nx := 145) hX 0 dX11_tallies_144 rfl rfl rfl ?_
    refine g_getfield (nx := 148) hX dX11_tallies_145 rfl fX11_65 (ga_dn hn rfl) rfl rfl ?_
    refine g_bipush (nx := 150) hX 14 dX11_tallies_148 rfl (by decide) ?_
    refine g_iload (nx := 152) hX 5 dX11_tallies_150 rfl rfl ?_
    refine g_iadd (nx := 153) hX dX11_tallies_152 rfl ?_
    refine g_aload_n (nx := 154) hX 0 dX11_tallies_153 rfl rfl rfl ?_
    refine g_getfield (nx := 157) hX dX11_tallies_154 rfl fX11_53 (ga_dn hn rfl) rfl rfl ?_
    refine g_iload (nx := 159) hX 4 dX11_tallies_157 rfl rfl ?_
    refine g_iaload (nx := 160) hX dX11_tallies_159 rfl (ga_dn hn rfl) rfl (ga_ix_of rfl (by omega) (by omega)) ?_
    refine g_aload_n (nx := 161) hX 0 dX11_tallies_160 rfl rfl rfl ?_
    refine g_getfield (nx := 164) hX dX11_tallies_161 rfl fX11_32 (ga_dn hn rfl) rfl rfl ?_
    refine g_iload (nx := 166) hX 5 dX11_tallies_164 rfl rfl ?_
    refine g_iconst (nx := 167) hX 1 dX11_tallies_166 rfl (by decide) ?_
    refine g_isub (nx := 168) hX dX11_tallies_167 rfl ?_
    refine g_iaload (nx := 169) hX dX11_tallies_168 rfl (ga_dn hn rfl) rfl (ga_ix_of (j := 1) (by decide) (by decide) (by decide)) ?_
    refine g_isub (nx := 170) hX dX11_tallies_169 rfl ?_
    refine g_iastore (nx := 171) hX dX11_tallies_170 rfl (ga_dn hn rfl) rfl (ga_ix_of (j := 16) (by decide) (by decide) (by decide)) ?_
    refine g_iload (nx := 173) hX 5 dX11_tallies_171 rfl rfl ?_
    refine g_iconst (nx := 174) hX 3 dX11_tallies_173 rfl (by decide) ?_
    refine g_icmp_lt (nx := 177) hX 207 dX11_tallies_174 (by decide) rfl (fun h => ?_) (fun h => absurd h (by decide))
    refine g_iload (nx := 209) hX 5 dX11_tallies_207 rfl rfl ?_
    refine g_bipush (nx := 211) hX 7 dX11_tallies_209 rfl (by decide) ?_
    refine g_icmp_ne (nx := 214) hX 232 dX11_tallies_211 (by decide) rfl (fun h => ?_) (fun h => absurd h (by decide))
    refine g_aload_n (nx := 233) hX 0 dX11_tallies_232 rfl rfl rfl ?_
    refine g_getfield (nx := 236) hX dX11_tallies_233 rfl fX11_65 (ga_dn hn rfl) rfl rfl ?_
    refine g_bipush (nx := 238) hX 8 dX11_tallies_236 rfl (by decide) ?_
    refine g_dup2 (nx := 239) hX dX11_tallies_238 rfl rfl rfl ?_
    refine g_iaload (nx := 240) hX dX11_tallies_239 rfl (ga_dn hn rfl) rfl (ga_ix_of (j := 8) rfl (by decide) (by decide)) ?_
    refine g_iload (nx := 242) hX 5 dX11_tallies_240 rfl rfl ?_
    refine g_bipush (nx := 244) hX 8 dX11_tallies_242 rfl (by decide) ?_
    refine g_icmp_ne (nx := 247) hX 251 dX11_tallies_244 (by decide) rfl (fun h => ?_) (fun h => absurd h (by decide))
    refine g_iconst (nx := 252) hX 0 dX11_tallies_251 rfl (by decide) ?_
    refine g_iadd (nx := 253) hX dX11_tallies_252 rfl ?_
    refine g_iastore (nx := 254) hX dX11_tallies_253 rfl (ga_dn hn rfl) rfl (ga_ix_of (j := 8) rfl (by decide) (by decide)) ?_
    refine g_aload_n (nx := 255) hX 0 dX11_tallies_254 rfl rfl rfl ?_
    refine g_getfield (nx := 258) hX dX11_tallies_255 rfl fX11_65 (ga_dn hn rfl) rfl rfl ?_
    refine g_bipush (nx := 260) hX 9 dX11_tallies_258 rfl (by decide) ?_
    refine g_dup2 (nx := 261) hX dX11_tallies_260 rfl rfl rfl ?_
    refine g_iaload (nx := 262) hX dX11_tallies_261 rfl (ga_dn hn rfl) rfl (ga_ix_of (j := 9) rfl (by decide) (by decide)) ?_
    refine g_iload (nx := 264) hX 5 dX11_tallies_262 rfl rfl ?_
    refine g_bipush (nx := 266) hX 10 dX11_tallies_264 rfl (by decide) ?_
    refine g_icmp_ne (nx := 269) hX 273 dX11_tallies_266 (by decide) rfl (fun h => ?_) (fun h => absurd h (by decide))
    refine g_iconst (nx := 274) hX 0 dX11_tallies_273 rfl (by decide) ?_
    refine g_iadd (nx := 275) hX dX11_tallies_274 rfl ?_
    refine g_iastore (nx := 276) hX dX11_tallies_275 rfl (ga_dn hn rfl) rfl (ga_ix_of (j := 9) rfl (by decide) (by decide)) ?_
    refine g_aload_n (nx := 277) hX 0 dX11_tallies_276 rfl rfl rfl ?_
    refine g_getfield (nx := 280) hX dX11_tallies_277 rfl fX11_65 (ga_dn hn rfl) rfl rfl ?_
    refine g_bipush (nx := 282) hX 10 dX11_tallies_280 rfl (by decide) ?_
    refine g_dup2 (nx := 283) hX dX11_tallies_282 rfl rfl rfl ?_
    refine g_iaload (nx := 284) hX dX11_tallies_283 rfl (ga_dn hn rfl) rfl (ga_ix_of (j := 10) rfl (by decide) (by decide)) ?_
    refine g_iload (nx := 286) hX 5 dX11_tallies_284 rfl rfl ?_
    refine g_bipush (nx := 288) hX 11 dX11_tallies_286 rfl (by decide) ?_
    refine g_icmp_ne (nx := 291) hX 295 dX11_tallies_288 (by decide) rfl (fun h => ?_) (fun h => absurd h (by decide))
    refine g_iconst (nx := 296) hX 0 dX11_tallies_295 rfl (by decide) ?_
    refine g_iadd (nx := 297) hX dX11_tallies_296 rfl ?_
    refine g_iastore (nx := 298) hX dX11_tallies_297 rfl (ga_dn hn rfl) rfl (ga_ix_of (j := 10) rfl (by decide) (by decide)) ?_
    simp only [z_id]
    rw [m_t16]
    exact g_ls k9 ⟨rfl, rfl, rfl, rfl, rfl, trivial⟩
  · -- kind 3
    obtain ⟨j, hj, e⟩ : ∃ j, j < 30 ∧ mf k = nI j := by
      rcases hok with h | h | h | ⟨i, j, h1, h2, h, h4⟩ | h | h | h | h | h
      · exact absurd h (by decide)
      · exact absurd h (by decide)
      · exact absurd h (by decide)
      · exact ⟨j, h2, h4⟩
      · exact absurd h (by decide)
      · exact absurd h (by decide)
      · exact absurd h (by decide)
      · exact absurd h (by decide)
      · exact absurd h (by decide)
    have hst := y_stS (mr := mr) (rg := rg) (kn := kn) (lk := lk) (rt := rt) (s := s) (fi := fi) (hd := hd) (sn := sn) (ah := ah) (a := ma k) (b := mb k) (i := 0) (k := j) (by omega) hj
    have k9 := kont _ rfl
    rw [e, show y_st ah (mr, rg, kn, lk, rt, s, fi, hd, sn) 3 (nI j) (ma k) (mb k) = _ from hst] at k9
    have hix : 4 * mf k + 3 - 3 = nI (4 * j + 0) := by
      rw [e, show (4 : Int32) * nI j = nI (4 * j) from pk_mul 4 j, show nI (4 * j) + 3 = nI (4 * j + 3) from nI_add (4 * j) 3]
      have := pk_sub (a := 4 * j + 3) (b := 3) (by omega)
      exact this
    refine g_iload (nx := 96) hX 5 dX11_tallies_94 rfl rfl ?_
    refine g_if_ne (nx := 99) hX 112 dX11_tallies_96 (by decide) rfl (fun h => ?_) (fun h => absurd h (by decide))
    refine g_iload (nx := 114) hX 5 dX11_tallies_112 rfl rfl ?_
    refine g_bipush (nx := 116) hX 9 dX11_tallies_114 rfl (by decide) ?_
    refine g_icmp_ne (nx := 119) hX 132 dX11_tallies_116 (by decide) rfl (fun h => ?_) (fun h => absurd h (by decide))
    refine g_iload (nx := 134) hX 5 dX11_tallies_132 rfl rfl ?_
    refine g_iconst (nx := 135) hX 1 dX11_tallies_134 rfl (by decide) ?_
    refine g_icmp_eq (nx := 138) hX 144 dX11_tallies_135 (by decide) rfl (fun h => absurd h (by decide)) (fun h => ?_)
    refine g_iload (nx := 140) hX 5 dX11_tallies_138 rfl rfl ?_
    refine g_iconst (nx := 141) hX 2 dX11_tallies_140 rfl (by decide) ?_
    refine g_icmp_ne (nx := 144) hX 171 dX11_tallies_141 (by decide) rfl (fun h => ?_) (fun h => absurd h (by decide))
    refine g_iload (nx := 173) hX 5 dX11_tallies_171 rfl rfl ?_
    refine g_iconst (nx := 174) hX 3 dX11_tallies_173 rfl (by decide) ?_
    refine g_icmp_lt (nx := 177) hX 207 dX11_tallies_174 (by decide) rfl (fun h => absurd h (by decide)) (fun h => ?_)
    refine g_iload (nx := 179) hX 5 dX11_tallies_177 rfl rfl ?_
    refine g_bipush (nx := 181) hX 6 dX11_tallies_179 rfl (by decide) ?_
    refine g_icmp_gt (nx := 184) hX 207 dX11_tallies_181 (by decide) rfl (fun h => absurd h (by decide)) (fun h => ?_)
    refine g_aload_n (nx := 185) hX 0 dX11_tallies_184 rfl rfl rfl ?_
    refine g_getfield (nx := 188) hX dX11_tallies_185 rfl fX11_68 (ga_dn hn rfl) rfl rfl ?_
    refine g_iconst (nx := 189) hX 4 dX11_tallies_188 rfl (by decide) ?_
    refine g_aload_n (nx := 190) hX 0 dX11_tallies_189 rfl rfl rfl ?_
    refine g_getfield (nx := 193) hX dX11_tallies_190 rfl fX11_50 (ga_dn hn rfl) rfl rfl ?_
    refine g_iload (nx := 195) hX 4 dX11_tallies_193 rfl rfl ?_
    refine g_iaload (nx := 196) hX dX11_tallies_195 rfl (ga_dn hn rfl) rfl (ga_ix_of rfl (by omega) (by omega)) ?_
    refine g_imul (nx := 197) hX dX11_tallies_196 rfl ?_
    refine g_iload (nx := 199) hX 5 dX11_tallies_197 rfl rfl ?_
    refine g_iadd (nx := 200) hX dX11_tallies_199 rfl ?_
    refine g_iconst (nx := 201) hX 3 dX11_tallies_200 rfl (by decide) ?_
    refine g_isub (nx := 202) hX dX11_tallies_201 rfl ?_
    refine g_dup2 (nx := 203) hX dX11_tallies_202 rfl rfl rfl ?_
    refine g_iaload (nx := 204) hX dX11_tallies_203 rfl (ga_dn hn rfl) rfl (ga_ix_of hix (by omega) (by omega)) ?_
    refine g_iconst (nx := 205) hX 1 dX11_tallies_204 rfl (by decide) ?_
    refine g_iadd (nx := 206) hX dX11_tallies_205 rfl ?_
    refine g_iastore (nx := 207) hX dX11_tallies_206 rfl (ga_dn hn rfl) rfl (ga_ix_of hix (by omega) (by omega)) ?_
    refine g_iload (nx := 209) hX 5 dX11_tallies_207 rfl rfl ?_
    refine g_bipush (nx := 211) hX 7 dX11_tallies_209 rfl (by decide) ?_
    refine g_icmp_ne (nx := 214) hX 232 dX11_tallies_211 (by decide) rfl (fun h => ?_) (fun h => absurd h (by decide))
    refine g_aload_n (nx := 233) hX 0 dX11_tallies_232 rfl rfl rfl ?_
    refine g_getfield (nx := 236) hX dX11_tallies_233 rfl fX11_65 (ga_dn hn rfl) rfl rfl ?_
    refine g_bipush (nx := 238) hX 8 dX11_tallies_236 rfl (by decide) ?_
    refine g_dup2 (nx := 239) hX dX11_tallies_238 rfl rfl rfl ?_
    refine g_iaload (nx := 240) hX dX11_tallies_239 rfl (ga_dn hn rfl) rfl (ga_ix_of (j := 8) rfl (by decide) (by decide)) ?_
    refine g_iload (nx := 242) hX 5 dX11_tallies_240 rfl rfl ?_
    refine g_bipush (nx := 244) hX 8 dX11_tallies_242 rfl (by decide) ?_
    refine g_icmp_ne (nx := 247) hX 251 dX11_tallies_244 (by decide) rfl (fun h => ?_) (fun h => absurd h (by decide))
    refine g_iconst (nx := 252) hX 0 dX11_tallies_251 rfl (by decide) ?_
    refine g_iadd (nx := 253) hX dX11_tallies_252 rfl ?_
    refine g_iastore (nx := 254) hX dX11_tallies_253 rfl (ga_dn hn rfl) rfl (ga_ix_of (j := 8) rfl (by decide) (by decide)) ?_
    refine g_aload_n (nx := 255) hX 0 dX11_tallies_254 rfl rfl rfl ?_
    refine g_getfield (nx := 258) hX dX11_tallies_255 rfl fX11_65 (ga_dn hn rfl) rfl rfl ?_
    refine g_bipush (nx := 260) hX 9 dX11_tallies_258 rfl (by decide) ?_
    refine g_dup2 (nx := 261) hX dX11_tallies_260 rfl rfl rfl ?_
    refine g_iaload (nx := 262) hX dX11_tallies_261 rfl (ga_dn hn rfl) rfl (ga_ix_of (j := 9) rfl (by decide) (by decide)) ?_
    refine g_iload (nx := 264) hX 5 dX11_tallies_262 rfl rfl ?_
    refine g_bipush (nx := 266) hX 10 dX11_tallies_264 rfl (by decide) ?_
    refine g_icmp_ne (nx := 269) hX 273 dX11_tallies_266 (by decide) rfl (fun h => ?_) (fun h => absurd h (by decide))
    refine g_iconst (nx := 274) hX 0 dX11_tallies_273 rfl (by decide) ?_
    refine g_iadd (nx := 275) hX dX11_tallies_274 rfl ?_
    refine g_iastore (nx := 276) hX dX11_tallies_275 rfl (ga_dn hn rfl) rfl (ga_ix_of (j := 9) rfl (by decide) (by decide)) ?_
    refine g_aload_n (nx := 277) hX 0 dX11_tallies_276 rfl rfl rfl ?_
    refine g_getfield (nx := 280) hX dX11_tallies_277 rfl fX11_65 (ga_dn hn rfl) rfl rfl ?_
    refine g_bipush (nx := 282) hX 10 dX11_tallies_280 rfl (by decide) ?_
    refine g_dup2 (nx := 283) hX dX11_tallies_282 rfl rfl rfl ?_
    refine g_iaload (nx := 284) hX dX11_tallies_283 rfl (ga_dn hn rfl) rfl (ga_ix_of (j := 10) rfl (by decide) (by decide)) ?_
    refine g_iload (nx := 286) hX 5 dX11_tallies_284 rfl rfl ?_
    refine g_bipush (nx := 288) hX 11 dX11_tallies_286 rfl (by decide) ?_
    refine g_icmp_ne (nx := 291) hX 295 dX11_tallies_288 (by decide) rfl (fun h => ?_) (fun h => absurd h (by decide))
    refine g_iconst (nx := 296) hX 0 dX11_tallies_295 rfl (by decide) ?_
    refine g_iadd (nx := 297) hX dX11_tallies_296 rfl ?_
    refine g_iastore (nx := 298) hX dX11_tallies_297 rfl (ga_dn hn rfl) rfl (ga_ix_of (j := 10) rfl (by decide) (by decide)) ?_
    simp only [z_id]
    rw [m_af_up (by omega)]
    exact g_ls k9 ⟨rfl, rfl, rfl, rfl, rfl, trivial⟩
  · -- kind 4
    obtain ⟨j, hj, e⟩ : ∃ j, j < 30 ∧ mf k = nI j := by
      rcases hok with h | h | h | ⟨i, j, h1, h2, h, h4⟩ | h | h | h | h | h
      · exact absurd h (by decide)
      · exact absurd h (by decide)
      · exact absurd h (by decide)
      · exact ⟨j, h2, h4⟩
      · exact absurd h (by decide)
      · exact absurd h (by decide)
      · exact absurd h (by decide)
      · exact absurd h (by decide)
      · exact absurd h (by decide)
    have hst := y_stS (mr := mr) (rg := rg) (kn := kn) (lk := lk) (rt := rt) (s := s) (fi := fi) (hd := hd) (sn := sn) (ah := ah) (a := ma k) (b := mb k) (i := 1) (k := j) (by omega) hj
    have k9 := kont _ rfl
    rw [e, show y_st ah (mr, rg, kn, lk, rt, s, fi, hd, sn) 4 (nI j) (ma k) (mb k) = _ from hst] at k9
    have hix : 4 * mf k + 4 - 3 = nI (4 * j + 1) := by
      rw [e, show (4 : Int32) * nI j = nI (4 * j) from pk_mul 4 j, show nI (4 * j) + 4 = nI (4 * j + 4) from nI_add (4 * j) 4]
      have := pk_sub (a := 4 * j + 4) (b := 3) (by omega)
      exact this
    refine g_iload (nx := 96) hX 5 dX11_tallies_94 rfl rfl ?_
    refine g_if_ne (nx := 99) hX 112 dX11_tallies_96 (by decide) rfl (fun h => ?_) (fun h => absurd h (by decide))
    refine g_iload (nx := 114) hX 5 dX11_tallies_112 rfl rfl ?_
    refine g_bipush (nx := 116) hX 9 dX11_tallies_114 rfl (by decide) ?_
    refine g_icmp_ne (nx := 119) hX 132 dX11_tallies_116 (by decide) rfl (fun h => ?_) (fun h => absurd h (by decide))
    refine g_iload (nx := 134) hX 5 dX11_tallies_132 rfl rfl ?_
    refine g_iconst (nx := 135) hX 1 dX11_tallies_134 rfl (by decide) ?_
    refine g_icmp_eq (nx := 138) hX 144 dX11_tallies_135 (by decide) rfl (fun h => absurd h (by decide)) (fun h => ?_)
    refine g_iload (nx := 140) hX 5 dX11_tallies_138 rfl rfl ?_
    refine g_iconst (nx := 141) hX 2 dX11_tallies_140 rfl (by decide) ?_
    refine g_icmp_ne (nx := 144) hX 171 dX11_tallies_141 (by decide) rfl (fun h => ?_) (fun h => absurd h (by decide))
    refine g_iload (nx := 173) hX 5 dX11_tallies_171 rfl rfl ?_
    refine g_iconst (nx := 174) hX 3 dX11_tallies_173 rfl (by decide) ?_
    refine g_icmp_lt (nx := 177) hX 207 dX11_tallies_174 (by decide) rfl (fun h => absurd h (by decide)) (fun h => ?_)
    refine g_iload (nx := 179) hX 5 dX11_tallies_177 rfl rfl ?_
    refine g_bipush (nx := 181) hX 6 dX11_tallies_179 rfl (by decide) ?_
    refine g_icmp_gt (nx := 184) hX 207 dX11_tallies_181 (by decide) rfl (fun h => absurd h (by decide)) (fun h => ?_)
    refine g_aload_n (nx := 185) hX 0 dX11_tallies_184 rfl rfl rfl ?_
    refine g_getfield (nx := 188) hX dX11_tallies_185 rfl fX11_68 (ga_dn hn rfl) rfl rfl ?_
    refine g_iconst (nx := 189) hX 4 dX11_tallies_188 rfl (by decide) ?_
    refine g_aload_n (nx := 190) hX 0 dX11_tallies_189 rfl rfl rfl ?_
    refine g_getfield (nx := 193) hX dX11_tallies_190 rfl fX11_50 (ga_dn hn rfl) rfl rfl ?_
    refine g_iload (nx := 195) hX 4 dX11_tallies_193 rfl rfl ?_
    refine g_iaload (nx := 196) hX dX11_tallies_195 rfl (ga_dn hn rfl) rfl (ga_ix_of rfl (by omega) (by omega)) ?_
    refine g_imul (nx := 197) hX dX11_tallies_196 rfl ?_
    refine g_iload (nx := 199) hX 5 dX11_tallies_197 rfl rfl ?_
    refine g_iadd (nx := 200) hX dX11_tallies_199 rfl ?_
    refine g_iconst (nx := 201) hX 3 dX11_tallies_200 rfl (by decide) ?_
    refine g_isub (nx := 202) hX dX11_tallies_201 rfl ?_
    refine g_dup2 (nx := 203) hX dX11_tallies_202 rfl rfl rfl ?_
    refine g_iaload (nx := 204) hX dX11_tallies_203 rfl (ga_dn hn rfl) rfl (ga_ix_of hix (by omega) (by omega)) ?_
    refine g_iconst (nx := 205) hX 1 dX11_tallies_204 rfl (by decide) ?_
    refine g_iadd (nx := 206) hX dX11_tallies_205 rfl ?_
    refine g_iastore (nx := 207) hX dX11_tallies_206 rfl (ga_dn hn rfl) rfl (ga_ix_of hix (by omega) (by omega)) ?_
    refine g_iload (nx := 209) hX 5 dX11_tallies_207 rfl rfl ?_
    refine g_bipush (nx := 211) hX 7 dX11_tallies_209 rfl (by decide) ?_
    refine g_icmp_ne (nx := 214) hX 232 dX11_tallies_211 (by decide) rfl (fun h => ?_) (fun h => absurd h (by decide))
    refine g_aload_n (nx := 233) hX 0 dX11_tallies_232 rfl rfl rfl ?_
    refine g_getfield (nx := 236) hX dX11_tallies_233 rfl fX11_65 (ga_dn hn rfl) rfl rfl ?_
    refine g_bipush (nx := 238) hX 8 dX11_tallies_236 rfl (by decide) ?_
    refine g_dup2 (nx := 239) hX dX11_tallies_238 rfl rfl rfl ?_
    refine g_iaload (nx := 240) hX dX11_tallies_239 rfl (ga_dn hn rfl) rfl (ga_ix_of (j := 8) rfl (by decide) (by decide)) ?_
    refine g_iload (nx := 242) hX 5 dX11_tallies_240 rfl rfl ?_
    refine g_bipush (nx := 244) hX 8 dX11_tallies_242 rfl (by decide) ?_
    refine g_icmp_ne (nx := 247) hX 251 dX11_tallies_244 (by decide) rfl (fun h => ?_) (fun h => absurd h (by decide))
    refine g_iconst (nx := 252) hX 0 dX11_tallies_251 rfl (by decide) ?_
    refine g_iadd (nx := 253) hX dX11_tallies_252 rfl ?_
    refine g_iastore (nx := 254) hX dX11_tallies_253 rfl (ga_dn hn rfl) rfl (ga_ix_of (j := 8) rfl (by decide) (by decide)) ?_
    refine g_aload_n (nx := 255) hX 0 dX11_tallies_254 rfl rfl rfl ?_
    refine g_getfield (nx := 258) hX dX11_tallies_255 rfl fX11_65 (ga_dn hn rfl) rfl rfl ?_
    refine g_bipush (nx := 260) hX 9 dX11_tallies_258 rfl (by decide) ?_
    refine g_dup2 (nx := 261) hX dX11_tallies_260 rfl rfl rfl ?_
    refine g_iaload (nx := 262) hX dX11_tallies_261 rfl (ga_dn hn rfl) rfl (ga_ix_of (j := 9) rfl (by decide) (by decide)) ?_
    refine g_iload (nx := 264) hX 5 dX11_tallies_262 rfl rfl ?_
    refine g_bipush (nx := 266) hX 10 dX11_tallies_264 rfl (by decide) ?_
    refine g_icmp_ne (nx := 269) hX 273 dX11_tallies_266 (by decide) rfl (fun h => ?_) (fun h => absurd h (by decide))
    refine g_iconst (nx := 274) hX 0 dX11_tallies_273 rfl (by decide) ?_
    refine g_iadd (nx := 275) hX dX11_tallies_274 rfl ?_
    refine g_iastore (nx := 276) hX dX11_tallies_275 rfl (ga_dn hn rfl) rfl (ga_ix_of (j := 9) rfl (by decide) (by decide)) ?_
    refine g_aload_n (nx := 277) hX 0 dX11_tallies_276 rfl rfl rfl ?_
    refine g_getfield (nx := 280) hX dX11_tallies_277 rfl fX11_65 (ga_dn hn rfl) rfl rfl ?_
    refine g_bipush (nx := 282) hX 10 dX11_tallies_280 rfl (by decide) ?_
    refine g_dup2 (nx := 283) hX dX11_tallies_282 rfl rfl rfl ?_
    refine g_iaload (nx := 284) hX dX11_tallies_283 rfl (ga_dn hn rfl) rfl (ga_ix_of (j := 10) rfl (by decide) (by decide)) ?_
    refine g_iload (nx := 286) hX 5 dX11_tallies_284 rfl rfl ?_
    refine g_bipush (nx := 288) hX 11 dX11_tallies_286 rfl (by decide) ?_
    refine g_icmp_ne (nx := 291) hX 295 dX11_tallies_288 (by decide) rfl (fun h => ?_) (fun h => absurd h (by decide))
    refine g_iconst (nx := 296) hX 0 dX11_tallies_295 rfl (by decide) ?_
    refine g_iadd (nx := 297) hX dX11_tallies_296 rfl ?_
    refine g_iastore (nx := 298) hX dX11_tallies_297 rfl (ga_dn hn rfl) rfl (ga_ix_of (j := 10) rfl (by decide) (by decide)) ?_
    simp only [z_id]
    rw [m_af_up (by omega)]
    exact g_ls k9 ⟨rfl, rfl, rfl, rfl, rfl, trivial⟩
  · -- kind 5
    obtain ⟨j, hj, e⟩ : ∃ j, j < 30 ∧ mf k = nI j := by
      rcases hok with h | h | h | ⟨i, j, h1, h2, h, h4⟩ | h | h | h | h | h
      · exact absurd h (by decide)
      · exact absurd h (by decide)
      · exact absurd h (by decide)
      · exact ⟨j, h2, h4⟩
      · exact absurd h (by decide)
      · exact absurd h (by decide)
      · exact absurd h (by decide)
      · exact absurd h (by decide)
      · exact absurd h (by decide)
    have hst := y_stS (mr := mr) (rg := rg) (kn := kn) (lk := lk) (rt := rt) (s := s) (fi := fi) (hd := hd) (sn := sn) (ah := ah) (a := ma k) (b := mb k) (i := 2) (k := j) (by omega) hj
    have k9 := kont _ rfl
    rw [e, show y_st ah (mr, rg, kn, lk, rt, s, fi, hd, sn) 5 (nI j) (ma k) (mb k) = _ from hst] at k9
    have hix : 4 * mf k + 5 - 3 = nI (4 * j + 2) := by
      rw [e, show (4 : Int32) * nI j = nI (4 * j) from pk_mul 4 j, show nI (4 * j) + 5 = nI (4 * j + 5) from nI_add (4 * j) 5]
      have := pk_sub (a := 4 * j + 5) (b := 3) (by omega)
      exact this
    refine g_iload (nx := 96) hX 5 dX11_tallies_94 rfl rfl ?_
    refine g_if_ne (nx := 99) hX 112 dX11_tallies_96 (by decide) rfl (fun h => ?_) (fun h => absurd h (by decide))
    refine g_iload (nx := 114) hX 5 dX11_tallies_112 rfl rfl ?_
    refine g_bipush (nx := 116) hX 9 dX11_tallies_114 rfl (by decide) ?_
    refine g_icmp_ne (nx := 119) hX 132 dX11_tallies_116 (by decide) rfl (fun h => ?_) (fun h => absurd h (by decide))
    refine g_iload (nx := 134) hX 5 dX11_tallies_132 rfl rfl ?_
    refine g_iconst (nx := 135) hX 1 dX11_tallies_134 rfl (by decide) ?_
    refine g_icmp_eq (nx := 138) hX 144 dX11_tallies_135 (by decide) rfl (fun h => absurd h (by decide)) (fun h => ?_)
    refine g_iload (nx := 140) hX 5 dX11_tallies_138 rfl rfl ?_
    refine g_iconst (nx := 141) hX 2 dX11_tallies_140 rfl (by decide) ?_
    refine g_icmp_ne (nx := 144) hX 171 dX11_tallies_141 (by decide) rfl (fun h => ?_) (fun h => absurd h (by decide))
    refine g_iload (nx := 173) hX 5 dX11_tallies_171 rfl rfl ?_
    refine g_iconst (nx := 174) hX 3 dX11_tallies_173 rfl (by decide) ?_
    refine g_icmp_lt (nx := 177) hX 207 dX11_tallies_174 (by decide) rfl (fun h => absurd h (by decide)) (fun h => ?_)
    refine g_iload (nx := 179) hX 5 dX11_tallies_177 rfl rfl ?_
    refine g_bipush (nx := 181) hX 6 dX11_tallies_179 rfl (by decide) ?_
    refine g_icmp_gt (nx := 184) hX 207 dX11_tallies_181 (by decide) rfl (fun h => absurd h (by decide)) (fun h => ?_)
    refine g_aload_n (nx := 185) hX 0 dX11_tallies_184 rfl rfl rfl ?_
    refine g_getfield (nx := 188) hX dX11_tallies_185 rfl fX11_68 (ga_dn hn rfl) rfl rfl ?_
    refine g_iconst (nx := 189) hX 4 dX11_tallies_188 rfl (by decide) ?_
    refine g_aload_n (nx := 190) hX 0 dX11_tallies_189 rfl rfl rfl ?_
    refine g_getfield (nx := 193) hX dX11_tallies_190 rfl fX11_50 (ga_dn hn rfl) rfl rfl ?_
    refine g_iload (nx := 195) hX 4 dX11_tallies_193 rfl rfl ?_
    refine g_iaload (nx := 196) hX dX11_tallies_195 rfl (ga_dn hn rfl) rfl (ga_ix_of rfl (by omega) (by omega)) ?_
    refine g_imul (nx := 197) hX dX11_tallies_196 rfl ?_
    refine g_iload (nx := 199) hX 5 dX11_tallies_197 rfl rfl ?_
    refine g_iadd (nx := 200) hX dX11_tallies_199 rfl ?_
    refine g_iconst (nx := 201) hX 3 dX11_tallies_200 rfl (by decide) ?_
    refine g_isub (nx := 202) hX dX11_tallies_201 rfl ?_
    refine g_dup2 (nx := 203) hX dX11_tallies_202 rfl rfl rfl ?_
    refine g_iaload (nx := 204) hX dX11_tallies_203 rfl (ga_dn hn rfl) rfl (ga_ix_of hix (by omega) (by omega)) ?_
    refine g_iconst (nx := 205) hX 1 dX11_tallies_204 rfl (by decide) ?_
    refine g_iadd (nx := 206) hX dX11_tallies_205 rfl ?_
    refine g_iastore (nx := 207) hX dX11_tallies_206 rfl (ga_dn hn rfl) rfl (ga_ix_of hix (by omega) (by omega)) ?_
    refine g_iload (nx := 209) hX 5 dX11_tallies_207 rfl rfl ?_
    refine g_bipush (nx := 211) hX 7 dX11_tallies_209 rfl (by decide) ?_
    refine g_icmp_ne (nx := 214) hX 232 dX11_tallies_211 (by decide) rfl (fun h => ?_) (fun h => absurd h (by decide))
    refine g_aload_n (nx := 233) hX 0 dX11_tallies_232 rfl rfl rfl ?_
    refine g_getfield (nx := 236) hX dX11_tallies_233 rfl fX11_65 (ga_dn hn rfl) rfl rfl ?_
    refine g_bipush (nx := 238) hX 8 dX11_tallies_236 rfl (by decide) ?_
    refine g_dup2 (nx := 239) hX dX11_tallies_238 rfl rfl rfl ?_
    refine g_iaload (nx := 240) hX dX11_tallies_239 rfl (ga_dn hn rfl) rfl (ga_ix_of (j := 8) rfl (by decide) (by decide)) ?_
    refine g_iload (nx := 242) hX 5 dX11_tallies_240 rfl rfl ?_
    refine g_bipush (nx := 244) hX 8 dX11_tallies_242 rfl (by decide) ?_
    refine g_icmp_ne (nx := 247) hX 251 dX11_tallies_244 (by decide) rfl (fun h => ?_) (fun h => absurd h (by decide))
    refine g_iconst (nx := 252) hX 0 dX11_tallies_251 rfl (by decide) ?_
    refine g_iadd (nx := 253) hX dX11_tallies_252 rfl ?_
    refine g_iastore (nx := 254) hX dX11_tallies_253 rfl (ga_dn hn rfl) rfl (ga_ix_of (j := 8) rfl (by decide) (by decide)) ?_
    refine g_aload_n (nx := 255) hX 0 dX11_tallies_254 rfl rfl rfl ?_
    refine g_getfield (nx := 258) hX dX11_tallies_255 rfl fX11_65 (ga_dn hn rfl) rfl rfl ?_
    refine g_bipush (nx := 260) hX 9 dX11_tallies_258 rfl (by decide) ?_
    refine g_dup2 (nx := 261) hX dX11_tallies_260 rfl rfl rfl ?_
    refine g_iaload (nx := 262) hX dX11_tallies_261 rfl (ga_dn hn rfl) rfl (ga_ix_of (j := 9) rfl (by decide) (by decide)) ?_
    refine g_iload (nx := 264) hX 5 dX11_tallies_262 rfl rfl ?_
    refine g_bipush (nx := 266) hX 10 dX11_tallies_264 rfl (by decide) ?_
    refine g_icmp_ne (nx := 269) hX 273 dX11_tallies_266 (by decide) rfl (fun h => ?_) (fun h => absurd h (by decide))
    refine g_iconst (nx := 274) hX 0 dX11_tallies_273 rfl (by decide) ?_
    refine g_iadd (nx := 275) hX dX11_tallies_274 rfl ?_
    refine g_iastore (nx := 276) hX dX11_tallies_275 rfl (ga_dn hn rfl) rfl (ga_ix_of (j := 9) rfl (by decide) (by decide)) ?_
    refine g_aload_n (nx := 277) hX 0 dX11_tallies_276 rfl rfl rfl ?_
    refine g_getfield (nx := 280) hX dX11_tallies_277 rfl fX11_65 (ga_dn hn rfl) rfl rfl ?_
    refine g_bipush (nx := 282) hX 10 dX11_tallies_280 rfl (by decide) ?_
    refine g_dup2 (nx := 283) hX dX11_tallies_282 rfl rfl rfl ?_
    refine g_iaload (nx := 284) hX dX11_tallies_283 rfl (ga_dn hn rfl) rfl (ga_ix_of (j := 10) rfl (by decide) (by decide)) ?_
    refine g_iload (nx := 286) hX 5 dX11_tallies_284 rfl rfl ?_
    refine g_bipush (nx := 288) hX 11 dX11_tallies_286 rfl (by decide) ?_
    refine g_icmp_ne (nx := 291) hX 295 dX11_tallies_288 (by decide) rfl (fun h => ?_) (fun h => absurd h (by decide))
    refine g_iconst (nx := 296) hX 0 dX11_tallies_295 rfl (by decide) ?_
    refine g_iadd (nx := 297) hX dX11_tallies_296 rfl ?_
    refine g_iastore (nx := 298) hX dX11_tallies_297 rfl (ga_dn hn rfl) rfl (ga_ix_of (j := 10) rfl (by decide) (by decide)) ?_
    simp only [z_id]
    rw [m_af_up (by omega)]
    exact g_ls k9 ⟨rfl, rfl, rfl, rfl, rfl, trivial⟩
  · -- kind 6
    obtain ⟨j, hj, e⟩ : ∃ j, j < 30 ∧ mf k = nI j := by
      rcases hok with h | h | h | ⟨i, j, h1, h2, h, h4⟩ | h | h | h | h | h
      · exact absurd h (by decide)
      · exact absurd h (by decide)
      · exact absurd h (by decide)
      · exact ⟨j, h2, h4⟩
      · exact absurd h (by decide)
      · exact absurd h (by decide)
      · exact absurd h (by decide)
      · exact absurd h (by decide)
      · exact absurd h (by decide)
    have hst := y_stS (mr := mr) (rg := rg) (kn := kn) (lk := lk) (rt := rt) (s := s) (fi := fi) (hd := hd) (sn := sn) (ah := ah) (a := ma k) (b := mb k) (i := 3) (k := j) (by omega) hj
    have k9 := kont _ rfl
    rw [e, show y_st ah (mr, rg, kn, lk, rt, s, fi, hd, sn) 6 (nI j) (ma k) (mb k) = _ from hst] at k9
    have hix : 4 * mf k + 6 - 3 = nI (4 * j + 3) := by
      rw [e, show (4 : Int32) * nI j = nI (4 * j) from pk_mul 4 j, show nI (4 * j) + 6 = nI (4 * j + 6) from nI_add (4 * j) 6]
      have := pk_sub (a := 4 * j + 6) (b := 3) (by omega)
      exact this
    refine g_iload (nx := 96) hX 5 dX11_tallies_94 rfl rfl ?_
    refine g_if_ne (nx := 99) hX 112 dX11_tallies_96 (by decide) rfl (fun h => ?_) (fun h => absurd h (by decide))
    refine g_iload (nx := 114) hX 5 dX11_tallies_112 rfl rfl ?_
    refine g_bipush (nx := 116) hX 9 dX11_tallies_114 rfl (by decide) ?_
    refine g_icmp_ne (nx := 119) hX 132 dX11_tallies_116 (by decide) rfl (fun h => ?_) (fun h => absurd h (by decide))
    refine g_iload (nx := 134) hX 5 dX11_tallies_132 rfl rfl ?_
    refine g_iconst (nx := 135) hX 1 dX11_tallies_134 rfl (by decide) ?_
    refine g_icmp_eq (nx := 138) hX 144 dX11_tallies_135 (by decide) rfl (fun h => absurd h (by decide)) (fun h => ?_)
    refine g_iload (nx := 140) hX 5 dX11_tallies_138 rfl rfl ?_
    refine g_iconst (nx := 141) hX 2 dX11_tallies_140 rfl (by decide) ?_
    refine g_icmp_ne (nx := 144) hX 171 dX11_tallies_141 (by decide) rfl (fun h => ?_) (fun h => absurd h (by decide))
    refine g_iload (nx := 173) hX 5 dX11_tallies_171 rfl rfl ?_
    refine g_iconst (nx := 174) hX 3 dX11_tallies_173 rfl (by decide) ?_
    refine g_icmp_lt (nx := 177) hX 207 dX11_tallies_174 (by decide) rfl (fun h => absurd h (by decide)) (fun h => ?_)
    refine g_iload (nx := 179) hX 5 dX11_tallies_177 rfl rfl ?_
    refine g_bipush (nx := 181) hX 6 dX11_tallies_179 rfl (by decide) ?_
    refine g_icmp_gt (nx := 184) hX 207 dX11_tallies_181 (by decide) rfl (fun h => absurd h (by decide)) (fun h => ?_)
    refine g_aload_n (nx := 185) hX 0 dX11_tallies_184 rfl rfl rfl ?_
    refine g_getfield (nx := 188) hX dX11_tallies_185 rfl fX11_68 (ga_dn hn rfl) rfl rfl ?_
    refine g_iconst (nx := 189) hX 4 dX11_tallies_188 rfl (by decide) ?_
    refine g_aload_n (nx := 190) hX 0 dX11_tallies_189 rfl rfl rfl ?_
    refine g_getfield (nx := 193) hX dX11_tallies_190 rfl fX11_50 (ga_dn hn rfl) rfl rfl ?_
    refine g_iload (nx := 195) hX 4 dX11_tallies_193 rfl rfl ?_
    refine g_iaload (nx := 196) hX dX11_tallies_195 rfl (ga_dn hn rfl) rfl (ga_ix_of rfl (by omega) (by omega)) ?_
    refine g_imul (nx := 197) hX dX11_tallies_196 rfl ?_
    refine g_iload (nx := 199) hX 5 dX11_tallies_197 rfl rfl ?_
    refine g_iadd (nx := 200) hX dX11_tallies_199 rfl ?_
    refine g_iconst (nx := 201) hX 3 dX11_tallies_200 rfl (by decide) ?_
    refine g_isub (nx := 202) hX dX11_tallies_201 rfl ?_
    refine g_dup2 (nx := 203) hX dX11_tallies_202 rfl rfl rfl ?_
    refine g_iaload (nx := 204) hX dX11_tallies_203 rfl (ga_dn hn rfl) rfl (ga_ix_of hix (by omega) (by omega)) ?_
    refine g_iconst (nx := 205) hX 1 dX11_tallies_204 rfl (by decide) ?_
    refine g_iadd (nx := 206) hX dX11_tallies_205 rfl ?_
    refine g_iastore (nx := 207) hX dX11_tallies_206 rfl (ga_dn hn rfl) rfl (ga_ix_of hix (by omega) (by omega)) ?_
    refine g_iload (nx := 209) hX 5 dX11_tallies_207 rfl rfl ?_
    refine g_bipush (nx := 211) hX 7 dX11_tallies_209 rfl (by decide) ?_
    refine g_icmp_ne (nx := 214) hX 232 dX11_tallies_211 (by decide) rfl (fun h => ?_) (fun h => absurd h (by decide))
    refine g_aload_n (nx := 233) hX 0 dX11_tallies_232 rfl rfl rfl ?_
    refine g_getfield (nx := 236) hX dX11_tallies_233 rfl fX11_65 (ga_dn hn rfl) rfl rfl ?_
    refine g_bipush (nx := 238) hX 8 dX11_tallies_236 rfl (by decide) ?_
    refine g_dup2 (nx := 239) hX dX11_tallies_238 rfl rfl rfl ?_
    refine g_iaload (nx := 240) hX dX11_tallies_239 rfl (ga_dn hn rfl) rfl (ga_ix_of (j := 8) rfl (by decide) (by decide)) ?_
    refine g_iload (nx := 242) hX 5 dX11_tallies_240 rfl rfl ?_
    refine g_bipush (nx := 244) hX 8 dX11_tallies_242 rfl (by decide) ?_
    refine g_icmp_ne (nx := 247) hX 251 dX11_tallies_244 (by decide) rfl (fun h => ?_) (fun h => absurd h (by decide))
    refine g_iconst (nx := 252) hX 0 dX11_tallies_251 rfl (by decide) ?_
    refine g_iadd (nx := 253) hX dX11_tallies_252 rfl ?_
    refine g_iastore (nx := 254) hX dX11_tallies_253 rfl (ga_dn hn rfl) rfl (ga_ix_of (j := 8) rfl (by decide) (by decide)) ?_
    refine g_aload_n (nx := 255) hX 0 dX11_tallies_254 rfl rfl rfl ?_
    refine g_getfield (nx := 258) hX dX11_tallies_255 rfl fX11_65 (ga_dn hn rfl) rfl rfl ?_
    refine g_bipush (nx := 260) hX 9 dX11_tallies_258 rfl (by decide) ?_
    refine g_dup2 (nx := 261) hX dX11_tallies_260 rfl rfl rfl ?_
    refine g_iaload (nx := 262) hX dX11_tallies_261 rfl (ga_dn hn rfl) rfl (ga_ix_of (j := 9) rfl (by decide) (by decide)) ?_
    refine g_iload (nx := 264) hX 5 dX11_tallies_262 rfl rfl ?_
    refine g_bipush (nx := 266) hX 10 dX11_tallies_264 rfl (by decide) ?_
    refine g_icmp_ne (nx := 269) hX 273 dX11_tallies_266 (by decide) rfl (fun h => ?_) (fun h => absurd h (by decide))
    refine g_iconst (nx := 274) hX 0 dX11_tallies_273 rfl (by decide) ?_
    refine g_iadd (nx := 275) hX dX11_tallies_274 rfl ?_
    refine g_iastore (nx := 276) hX dX11_tallies_275 rfl (ga_dn hn rfl) rfl (ga_ix_of (j := 9) rfl (by decide) (by decide)) ?_
    refine g_aload_n (nx := 277) hX 0 dX11_tallies_276 rfl rfl rfl ?_
    refine g_getfield (nx := 280) hX dX11_tallies_277 rfl fX11_65 (ga_dn hn rfl) rfl rfl ?_
    refine g_bipush (nx := 282) hX 10 dX11_tallies_280 rfl (by decide) ?_
    refine g_dup2 (nx := 283) hX dX11_tallies_282 rfl rfl rfl ?_
    refine g_iaload (nx := 284) hX dX11_tallies_283 rfl (ga_dn hn rfl) rfl (ga_ix_of (j := 10) rfl (by decide) (by decide)) ?_
    refine g_iload (nx := 286) hX 5 dX11_tallies_284 rfl rfl ?_
    refine g_bipush (nx := 288) hX 11 dX11_tallies_286 rfl (by decide) ?_
    refine g_icmp_ne (nx := 291) hX 295 dX11_tallies_288 (by decide) rfl (fun h => ?_) (fun h => absurd h (by decide))
    refine g_iconst (nx := 296) hX 0 dX11_tallies_295 rfl (by decide) ?_
    refine g_iadd (nx := 297) hX dX11_tallies_296 rfl ?_
    refine g_iastore (nx := 298) hX dX11_tallies_297 rfl (ga_dn hn rfl) rfl (ga_ix_of (j := 10) rfl (by decide) (by decide)) ?_
    simp only [z_id]
    rw [m_af_up (by omega)]
    exact g_ls k9 ⟨rfl, rfl, rfl, rfl, rfl, trivial⟩
  · -- kind 7
    have k9 := kont _ rfl
    rw [y_st7] at k9
    refine g_iload (nx := 96) hX 5 dX11_tallies_94 rfl rfl ?_
    refine g_if_ne (nx := 99) hX 112 dX11_tallies_96 (by decide) rfl (fun h => ?_) (fun h => absurd h (by decide))
    refine g_iload (nx := 114) hX 5 dX11_tallies_112 rfl rfl ?_
    refine g_bipush (nx := 116) hX 9 dX11_tallies_114 rfl (by decide) ?_
    refine g_icmp_ne (nx := 119) hX 132 dX11_tallies_116 (by decide) rfl (fun h => ?_) (fun h => absurd h (by decide))
    refine g_iload (nx := 134) hX 5 dX11_tallies_132 rfl rfl ?_
    refine g_iconst (nx := 135) hX 1 dX11_tallies_134 rfl (by decide) ?_
    refine g_icmp_eq (nx := 138) hX 144 dX11_tallies_135 (by decide) rfl (fun h => absurd h (by decide)) (fun h => ?_)
    refine g_iload (nx := 140) hX 5 dX11_tallies_138 rfl rfl ?_
    refine g_iconst (nx := 141) hX 2 dX11_tallies_140 rfl (by decide) ?_
    refine g_icmp_ne (nx := 144) hX 171 dX11_tallies_141 (by decide) rfl (fun h => ?_) (fun h => absurd h (by decide))
    refine g_iload (nx := 173) hX 5 dX11_tallies_171 rfl rfl ?_
    refine g_iconst (nx := 174) hX 3 dX11_tallies_173 rfl (by decide) ?_
    refine g_icmp_lt (nx := 177) hX 207 dX11_tallies_174 (by decide) rfl (fun h => absurd h (by decide)) (fun h => ?_)
    refine g_iload (nx := 179) hX 5 dX11_tallies_177 rfl rfl ?_
    refine g_bipush (nx := 181) hX 6 dX11_tallies_179 rfl (by decide) ?_
    refine g_icmp_gt (nx := 184) hX 207 dX11_tallies_181 (by decide) rfl (fun h => ?_) (fun h => absurd h (by decide))
    refine g_iload (nx := 209) hX 5 dX11_tallies_207 rfl rfl ?_
    refine g_bipush (nx := 211) hX 7 dX11_tallies_209 rfl (by decide) ?_
    refine g_icmp_ne (nx := 214) hX 232 dX11_tallies_211 (by decide) rfl (fun h => absurd h (by decide)) (fun h => ?_)
    refine g_iload_n (nx := 215) hX 3 dX11_tallies_214 rfl rfl rfl ?_
    refine g_aload_n (nx := 216) hX 0 dX11_tallies_215 rfl rfl rfl ?_
    refine g_getfield (nx := 219) hX dX11_tallies_216 rfl fX11_56 (ga_dn hn rfl) rfl rfl ?_
    refine g_iload (nx := 221) hX 4 dX11_tallies_219 rfl rfl ?_
    refine g_iaload (nx := 222) hX dX11_tallies_221 rfl (ga_dn hn rfl) rfl (ga_ix_of rfl (by omega) (by omega)) ?_
    refine g_aload_n (nx := 223) hX 0 dX11_tallies_222 rfl rfl rfl ?_
    refine g_getfield (nx := 226) hX dX11_tallies_223 rfl fX11_53 (ga_dn hn rfl) rfl rfl ?_
    refine g_iload (nx := 228) hX 4 dX11_tallies_226 rfl rfl ?_
    refine g_iaload (nx := 229) hX dX11_tallies_228 rfl (ga_dn hn rfl) rfl (ga_ix_of rfl (by omega) (by omega)) ?_
    refine g_isub (nx := 230) hX dX11_tallies_229 rfl ?_
    refine g_iadd (nx := 231) hX dX11_tallies_230 rfl ?_
    refine g_istore_n (nx := 232) hX 3 dX11_tallies_231 rfl rfl rfl ?_
    refine g_aload_n (nx := 233) hX 0 dX11_tallies_232 rfl rfl rfl ?_
    refine g_getfield (nx := 236) hX dX11_tallies_233 rfl fX11_65 (ga_dn hn rfl) rfl rfl ?_
    refine g_bipush (nx := 238) hX 8 dX11_tallies_236 rfl (by decide) ?_
    refine g_dup2 (nx := 239) hX dX11_tallies_238 rfl rfl rfl ?_
    refine g_iaload (nx := 240) hX dX11_tallies_239 rfl (ga_dn hn rfl) rfl (ga_ix_of (j := 8) rfl (by decide) (by decide)) ?_
    refine g_iload (nx := 242) hX 5 dX11_tallies_240 rfl rfl ?_
    refine g_bipush (nx := 244) hX 8 dX11_tallies_242 rfl (by decide) ?_
    refine g_icmp_ne (nx := 247) hX 251 dX11_tallies_244 (by decide) rfl (fun h => ?_) (fun h => absurd h (by decide))
    refine g_iconst (nx := 252) hX 0 dX11_tallies_251 rfl (by decide) ?_
    refine g_iadd (nx := 253) hX dX11_tallies_252 rfl ?_
    refine g_iastore (nx := 254) hX dX11_tallies_253 rfl (ga_dn hn rfl) rfl (ga_ix_of (j := 8) rfl (by decide) (by decide)) ?_
    refine g_aload_n (nx := 255) hX 0 dX11_tallies_254 rfl rfl rfl ?_
    refine g_getfield (nx := 258) hX dX11_tallies_255 rfl fX11_65 (ga_dn hn rfl) rfl rfl ?_
    refine g_bipush (nx := 260) hX 9 dX11_tallies_258 rfl (by decide) ?_
    refine g_dup2 (nx := 261) hX dX11_tallies_260 rfl rfl rfl ?_
    refine g_iaload (nx := 262) hX dX11_tallies_261 rfl (ga_dn hn rfl) rfl (ga_ix_of (j := 9) rfl (by decide) (by decide)) ?_
    refine g_iload (nx := 264) hX 5 dX11_tallies_262 rfl rfl ?_
    refine g_bipush (nx := 266) hX 10 dX11_tallies_264 rfl (by decide) ?_
    refine g_icmp_ne (nx := 269) hX 273 dX11_tallies_266 (by decide) rfl (fun h => ?_) (fun h => absurd h (by decide))
    refine g_iconst (nx := 274) hX 0 dX11_tallies_273 rfl (by decide) ?_
    refine g_iadd (nx := 275) hX dX11_tallies_274 rfl ?_
    refine g_iastore (nx := 276) hX dX11_tallies_275 rfl (ga_dn hn rfl) rfl (ga_ix_of (j := 9) rfl (by decide) (by decide)) ?_
    refine g_aload_n (nx := 277) hX 0 dX11_tallies_276 rfl rfl rfl ?_
    refine g_getfield (nx := 280) hX dX11_tallies_277 rfl fX11_65 (ga_dn hn rfl) rfl rfl ?_
    refine g_bipush (nx := 282) hX 10 dX11_tallies_280 rfl (by decide) ?_
    refine g_dup2 (nx := 283) hX dX11_tallies_282 rfl rfl rfl ?_
    refine g_iaload (nx := 284) hX dX11_tallies_283 rfl (ga_dn hn rfl) rfl (ga_ix_of (j := 10) rfl (by decide) (by decide)) ?_
    refine g_iload (nx := 286) hX 5 dX11_tallies_284 rfl rfl ?_
    refine g_bipush (nx := 288) hX 11 dX11_tallies_286 rfl (by decide) ?_
    refine g_icmp_ne (nx := 291) hX 295 dX11_tallies_288 (by decide) rfl (fun h => ?_) (fun h => absurd h (by decide))
    refine g_iconst (nx := 296) hX 0 dX11_tallies_295 rfl (by decide) ?_
    refine g_iadd (nx := 297) hX dX11_tallies_296 rfl ?_
    refine g_iastore (nx := 298) hX dX11_tallies_297 rfl (ga_dn hn rfl) rfl (ga_ix_of (j := 10) rfl (by decide) (by decide)) ?_
    simp only [z_id]
    exact g_ls k9 ⟨rfl, rfl, rfl, rfl, rfl, trivial⟩
  · -- kind 8
    have k9 := kont _ rfl
    rw [y_st8] at k9
    refine g_iload (nx := 96) hX 5 dX11_tallies_94 rfl rfl ?_
    refine g_if_ne (nx := 99) hX 112 dX11_tallies_96 (by decide) rfl (fun h => ?_) (fun h => absurd h (by decide))
    refine g_iload (nx := 114) hX 5 dX11_tallies_112 rfl rfl ?_
    refine g_bipush (nx := 116) hX 9 dX11_tallies_114 rfl (by decide) ?_
    refine g_icmp_ne (nx := 119) hX 132 dX11_tallies_116 (by decide) rfl (fun h => ?_) (fun h => absurd h (by decide))
    refine g_iload (nx := 134) hX 5 dX11_tallies_132 rfl rfl ?_
    refine g_iconst (nx := 135) hX 1 dX11_tallies_134 rfl (by decide) ?_
    refine g_icmp_eq (nx := 138) hX 144 dX11_tallies_135 (by decide) rfl (fun h => absurd h (by decide)) (fun h => ?_)
    refine g_iload (nx := 140) hX 5 dX11_tallies_138 rfl rfl ?_
    refine g_iconst (nx := 141) hX 2 dX11_tallies_140 rfl (by decide) ?_
    refine g_icmp_ne (nx := 144) hX 171 dX11_tallies_141 (by decide) rfl (fun h => ?_) (fun h => absurd h (by decide))
    refine g_iload (nx := 173) hX 5 dX11_tallies_171 rfl rfl ?_
    refine g_iconst (nx := 174) hX 3 dX11_tallies_173 rfl (by decide) ?_
    refine g_icmp_lt (nx := 177) hX 207 dX11_tallies_174 (by decide) rfl (fun h => absurd h (by decide)) (fun h => ?_)
    refine g_iload (nx := 179) hX 5 dX11_tallies_177 rfl rfl ?_
    refine g_bipush (nx := 181) hX 6 dX11_tallies_179 rfl (by decide) ?_
    refine g_icmp_gt (nx := 184) hX 207 dX11_tallies_181 (by decide) rfl (fun h => ?_) (fun h => absurd h (by decide))
    refine g_iload (nx := 209) hX 5 dX11_tallies_207 rfl rfl ?_
    refine g_bipush (nx := 211) hX 7 dX11_tallies_209 rfl (by decide) ?_
    refine g_icmp_ne (nx := 214) hX 232 dX11_tallies_211 (by decide) rfl (fun h => ?_) (fun h => absurd h (by decide))
    refine g_aload_n (nx := 233) hX 0 dX11_tallies_232 rfl rfl rfl ?_
    refine g_getfield (nx := 236) hX dX11_tallies_233 rfl fX11_65 (ga_dn hn rfl) rfl rfl ?_
    refine g_bipush (nx := 238) hX 8 dX11_tallies_236 rfl (by decide) ?_
    refine g_dup2 (nx := 239) hX dX11_tallies_238 rfl rfl rfl ?_
    refine g_iaload (nx := 240) hX dX11_tallies_239 rfl (ga_dn hn rfl) rfl (ga_ix_of (j := 8) rfl (by decide) (by decide)) ?_
    refine g_iload (nx := 242) hX 5 dX11_tallies_240 rfl rfl ?_
    refine g_bipush (nx := 244) hX 8 dX11_tallies_242 rfl (by decide) ?_
    refine g_icmp_ne (nx := 247) hX 251 dX11_tallies_244 (by decide) rfl (fun h => absurd h (by decide)) (fun h => ?_)
    refine g_iconst (nx := 248) hX 1 dX11_tallies_247 rfl (by decide) ?_
    refine g_goto (nx := 252) hX dX11_tallies_248 (by decide) ?_
    refine g_iadd (nx := 253) hX dX11_tallies_252 rfl ?_
    refine g_iastore (nx := 254) hX dX11_tallies_253 rfl (ga_dn hn rfl) rfl (ga_ix_of (j := 8) rfl (by decide) (by decide)) ?_
    refine g_aload_n (nx := 255) hX 0 dX11_tallies_254 rfl rfl rfl ?_
    refine g_getfield (nx := 258) hX dX11_tallies_255 rfl fX11_65 (ga_dn hn rfl) rfl rfl ?_
    refine g_bipush (nx := 260) hX 9 dX11_tallies_258 rfl (by decide) ?_
    refine g_dup2 (nx := 261) hX dX11_tallies_260 rfl rfl rfl ?_
    refine g_iaload (nx := 262) hX dX11_tallies_261 rfl (ga_dn hn rfl) rfl (ga_ix_of (j := 9) rfl (by decide) (by decide)) ?_
    refine g_iload (nx := 264) hX 5 dX11_tallies_262 rfl rfl ?_
    refine g_bipush (nx := 266) hX 10 dX11_tallies_264 rfl (by decide) ?_
    refine g_icmp_ne (nx := 269) hX 273 dX11_tallies_266 (by decide) rfl (fun h => ?_) (fun h => absurd h (by decide))
    refine g_iconst (nx := 274) hX 0 dX11_tallies_273 rfl (by decide) ?_
    refine g_iadd (nx := 275) hX dX11_tallies_274 rfl ?_
    refine g_iastore (nx := 276) hX dX11_tallies_275 rfl (ga_dn hn rfl) rfl (ga_ix_of (j := 9) rfl (by decide) (by decide)) ?_
    refine g_aload_n (nx := 277) hX 0 dX11_tallies_276 rfl rfl rfl ?_
    refine g_getfield (nx := 280) hX dX11_tallies_277 rfl fX11_65 (ga_dn hn rfl) rfl rfl ?_
    refine g_bipush (nx := 282) hX 10 dX11_tallies_280 rfl (by decide) ?_
    refine g_dup2 (nx := 283) hX dX11_tallies_282 rfl rfl rfl ?_
    refine g_iaload (nx := 284) hX dX11_tallies_283 rfl (ga_dn hn rfl) rfl (ga_ix_of (j := 10) rfl (by decide) (by decide)) ?_
    refine g_iload (nx := 286) hX 5 dX11_tallies_284 rfl rfl ?_
    refine g_bipush (nx := 288) hX 11 dX11_tallies_286 rfl (by decide) ?_
    refine g_icmp_ne (nx := 291) hX 295 dX11_tallies_288 (by decide) rfl (fun h => ?_) (fun h => absurd h (by decide))
    refine g_iconst (nx := 296) hX 0 dX11_tallies_295 rfl (by decide) ?_
    refine g_iadd (nx := 297) hX dX11_tallies_296 rfl ?_
    refine g_iastore (nx := 298) hX dX11_tallies_297 rfl (ga_dn hn rfl) rfl (ga_ix_of (j := 10) rfl (by decide) (by decide)) ?_
    simp only [z_id]
    rw [m_t8]
    exact g_ls k9 ⟨rfl, rfl, rfl, rfl, rfl, trivial⟩
  · -- kind 9
    have k9 := kont _ rfl
    rw [y_st9] at k9
    refine g_iload (nx := 96) hX 5 dX11_tallies_94 rfl rfl ?_
    refine g_if_ne (nx := 99) hX 112 dX11_tallies_96 (by decide) rfl (fun h => ?_) (fun h => absurd h (by decide))
    refine g_iload (nx := 114) hX 5 dX11_tallies_112 rfl rfl ?_
    refine g_bipush (nx := 116) hX 9 dX11_tallies_114 rfl (by decide) ?_
    refine g_icmp_ne (nx := 119) hX 132 dX11_tallies_116 (by decide) rfl (fun h => absurd h (by decide)) (fun h => ?_)
    refine g_aload_n (nx := 120) hX 0 dX11_tallies_119 rfl rfl rfl ?_
    refine g_getfield (nx := 123) hX dX11_tallies_120 rfl fX11_65 (ga_dn hn rfl) rfl rfl ?_
    refine g_iconst (nx := 124) hX 1 dX11_tallies_123 rfl (by decide) ?_
    refine g_aload_n (nx := 125) hX 0 dX11_tallies_124 rfl rfl rfl ?_
    refine g_getfield (nx := 128) hX dX11_tallies_125 rfl fX11_53 (ga_dn hn rfl) rfl rfl ?_
    refine g_iload (nx := 130) hX 4 dX11_tallies_128 rfl rfl ?_
    refine g_iaload (nx := 131) hX dX11_tallies_130 rfl (ga_dn hn rfl) rfl (ga_ix_of rfl (by omega) (by omega)) ?_
    refine g_iastore (nx := 132) hX dX11_tallies_131 rfl (ga_dn hn rfl) rfl (ga_ix_of (j := 1) rfl (by decide) (by decide)) ?_
    refine g_iload (nx := 134) hX 5 dX11_tallies_132 rfl rfl ?_
    refine g_iconst (nx := 135) hX 1 dX11_tallies_134 rfl (by decide) ?_
    refine g_icmp_eq (nx := 138) hX 144 dX11_tallies_135 (by decide) rfl (fun h => absurd h (by decide)) (fun h => ?_)
    refine g_iload (nx := 140) hX 5 dX11_tallies_138 rfl rfl ?_
    refine g_iconst (nx := 141) hX 2 dX11_tallies_140 rfl (by decide) ?_
    refine g_icmp_ne (nx := 144) hX 171 dX11_tallies_141 (by decide) rfl (fun h => ?_) (fun h => absurd h (by decide))
    refine g_iload (nx := 173) hX 5 dX11_tallies_171 rfl rfl ?_
    refine g_iconst (nx := 174) hX 3 dX11_tallies_173 rfl (by decide) ?_
    refine g_icmp_lt (nx := 177) hX 207 dX11_tallies_174 (by decide) rfl (fun h => absurd h (by decide)) (fun h => ?_)
    refine g_iload (nx := 179) hX 5 dX11_tallies_177 rfl rfl ?_
    refine g_bipush (nx := 181) hX 6 dX11_tallies_179 rfl (by decide) ?_
    refine g_icmp_gt (nx := 184) hX 207 dX11_tallies_181 (by decide) rfl (fun h => ?_) (fun h => absurd h (by decide))
    refine g_iload (nx := 209) hX 5 dX11_tallies_207 rfl rfl ?_
    refine g_bipush (nx := 211) hX 7 dX11_tallies_209 rfl (by decide) ?_
    refine g_icmp_ne (nx := 214) hX 232 dX11_tallies_211 (by decide) rfl (fun h => ?_) (fun h => absurd h (by decide))
    refine g_aload_n (nx := 233) hX 0 dX11_tallies_232 rfl rfl rfl ?_
    refine g_getfield (nx := 236) hX dX11_tallies_233 rfl fX11_65 (ga_dn hn rfl) rfl rfl ?_
    refine g_bipush (nx := 238) hX 8 dX11_tallies_236 rfl (by decide) ?_
    refine g_dup2 (nx := 239) hX dX11_tallies_238 rfl rfl rfl ?_
    refine g_iaload (nx := 240) hX dX11_tallies_239 rfl (ga_dn hn rfl) rfl (ga_ix_of (j := 8) rfl (by decide) (by decide)) ?_
    refine g_iload (nx := 242) hX 5 dX11_tallies_240 rfl rfl ?_
    refine g_bipush (nx := 244) hX 8 dX11_tallies_242 rfl (by decide) ?_
    refine g_icmp_ne (nx := 247) hX 251 dX11_tallies_244 (by decide) rfl (fun h => ?_) (fun h => absurd h (by decide))
    refine g_iconst (nx := 252) hX 0 dX11_tallies_251 rfl (by decide) ?_
    refine g_iadd (nx := 253) hX dX11_tallies_252 rfl ?_
    refine g_iastore (nx := 254) hX dX11_tallies_253 rfl (ga_dn hn rfl) rfl (ga_ix_of (j := 8) rfl (by decide) (by decide)) ?_
    refine g_aload_n (nx := 255) hX 0 dX11_tallies_254 rfl rfl rfl ?_
    refine g_getfield (nx := 258) hX dX11_tallies_255 rfl fX11_65 (ga_dn hn rfl) rfl rfl ?_
    refine g_bipush (nx := 260) hX 9 dX11_tallies_258 rfl (by decide) ?_
    refine g_dup2 (nx := 261) hX dX11_tallies_260 rfl rfl rfl ?_
    refine g_iaload (nx := 262) hX dX11_tallies_261 rfl (ga_dn hn rfl) rfl (ga_ix_of (j := 9) rfl (by decide) (by decide)) ?_
    refine g_iload (nx := 264) hX 5 dX11_tallies_262 rfl rfl ?_
    refine g_bipush (nx := 266) hX 10 dX11_tallies_264 rfl (by decide) ?_
    refine g_icmp_ne (nx := 269) hX 273 dX11_tallies_266 (by decide) rfl (fun h => ?_) (fun h => absurd h (by decide))
    refine g_iconst (nx := 274) hX 0 dX11_tallies_273 rfl (by decide) ?_
    refine g_iadd (nx := 275) hX dX11_tallies_274 rfl ?_
    refine g_iastore (nx := 276) hX dX11_tallies_275 rfl (ga_dn hn rfl) rfl (ga_ix_of (j := 9) rfl (by decide) (by decide)) ?_
    refine g_aload_n (nx := 277) hX 0 dX11_tallies_276 rfl rfl rfl ?_
    refine g_getfield (nx := 280) hX dX11_tallies_277 rfl fX11_65 (ga_dn hn rfl) rfl rfl ?_
    refine g_bipush (nx := 282) hX 10 dX11_tallies_280 rfl (by decide) ?_
    refine g_dup2 (nx := 283) hX dX11_tallies_282 rfl rfl rfl ?_
    refine g_iaload (nx := 284) hX dX11_tallies_283 rfl (ga_dn hn rfl) rfl (ga_ix_of (j := 10) rfl (by decide) (by decide)) ?_
    refine g_iload (nx := 286) hX 5 dX11_tallies_284 rfl rfl ?_
    refine g_bipush (nx := 288) hX 11 dX11_tallies_286 rfl (by decide) ?_
    refine g_icmp_ne (nx := 291) hX 295 dX11_tallies_288 (by decide) rfl (fun h => ?_) (fun h => absurd h (by decide))
    refine g_iconst (nx := 296) hX 0 dX11_tallies_295 rfl (by decide) ?_
    refine g_iadd (nx := 297) hX dX11_tallies_296 rfl ?_
    refine g_iastore (nx := 298) hX dX11_tallies_297 rfl (ga_dn hn rfl) rfl (ga_ix_of (j := 10) rfl (by decide) (by decide)) ?_
    simp only [z_id]
    rw [m_t1]
    exact g_ls k9 ⟨rfl, rfl, rfl, rfl, rfl, trivial⟩
  · -- kind 10
    have k9 := kont _ rfl
    rw [y_st10] at k9
    refine g_iload (nx := 96) hX 5 dX11_tallies_94 rfl rfl ?_
    refine g_if_ne (nx := 99) hX 112 dX11_tallies_96 (by decide) rfl (fun h => ?_) (fun h => absurd h (by decide))
    refine g_iload (nx := 114) hX 5 dX11_tallies_112 rfl rfl ?_
    refine g_bipush (nx := 116) hX 9 dX11_tallies_114 rfl (by decide) ?_
    refine g_icmp_ne (nx := 119) hX 132 dX11_tallies_116 (by decide) rfl (fun h => ?_) (fun h => absurd h (by decide))
    refine g_iload (nx := 134) hX 5 dX11_tallies_132 rfl rfl ?_
    refine g_iconst (nx := 135) hX 1 dX11_tallies_134 rfl (by decide) ?_
    refine g_icmp_eq (nx := 138) hX 144 dX11_tallies_135 (by decide) rfl (fun h => absurd h (by decide)) (fun h => ?_)
    refine g_iload (nx := 140) hX 5 dX11_tallies_138 rfl rfl ?_
    refine g_iconst (nx := 141) hX 2 dX11_tallies_140 rfl (by decide) ?_
    refine g_icmp_ne (nx := 144) hX 171 dX11_tallies_141 (by decide) rfl (fun h => ?_) (fun h => absurd h (by decide))
    refine g_iload (nx := 173) hX 5 dX11_tallies_171 rfl rfl ?_
    refine g_iconst (nx := 174) hX 3 dX11_tallies_173 rfl (by decide) ?_
    refine g_icmp_lt (nx := 177) hX 207 dX11_tallies_174 (by decide) rfl (fun h => absurd h (by decide)) (fun h => ?_)
    refine g_iload (nx := 179) hX 5 dX11_tallies_177 rfl rfl ?_
    refine g_bipush (nx := 181) hX 6 dX11_tallies_179 rfl (by decide) ?_
    refine g_icmp_gt (nx := 184) hX 207 dX11_tallies_181 (by decide) rfl (fun h => ?_) (fun h => absurd h (by decide))
    refine g_iload (nx := 209) hX 5 dX11_tallies_207 rfl rfl ?_
    refine g_bipush (nx := 211) hX 7 dX11_tallies_209 rfl (by decide) ?_
    refine g_icmp_ne (nx := 214) hX 232 dX11_tallies_211 (by decide) rfl (fun h => ?_) (fun h => absurd h (by decide))
    refine g_aload_n (nx := 233) hX 0 dX11_tallies_232 rfl rfl rfl ?_
    refine g_getfield (nx := 236) hX dX11_tallies_233 rfl fX11_65 (ga_dn hn rfl) rfl rfl ?_
    refine g_bipush (nx := 238) hX 8 dX11_tallies_236 rfl (by decide) ?_
    refine g_dup2 (nx := 239) hX dX11_tallies_238 rfl rfl rfl ?_
    refine g_iaload (nx := 240) hX dX11_tallies_239 rfl (ga_dn hn rfl) rfl (ga_ix_of (j := 8) rfl (by decide) (by decide)) ?_
    refine g_iload (nx := 242) hX 5 dX11_tallies_240 rfl rfl ?_
    refine g_bipush (nx := 244) hX 8 dX11_tallies_242 rfl (by decide) ?_
    refine g_icmp_ne (nx := 247) hX 251 dX11_tallies_244 (by decide) rfl (fun h => ?_) (fun h => absurd h (by decide))
    refine g_iconst (nx := 252) hX 0 dX11_tallies_251 rfl (by decide) ?_
    refine g_iadd (nx := 253) hX dX11_tallies_252 rfl ?_
    refine g_iastore (nx := 254) hX dX11_tallies_253 rfl (ga_dn hn rfl) rfl (ga_ix_of (j := 8) rfl (by decide) (by decide)) ?_
    refine g_aload_n (nx := 255) hX 0 dX11_tallies_254 rfl rfl rfl ?_
    refine g_getfield (nx := 258) hX dX11_tallies_255 rfl fX11_65 (ga_dn hn rfl) rfl rfl ?_
    refine g_bipush (nx := 260) hX 9 dX11_tallies_258 rfl (by decide) ?_
    refine g_dup2 (nx := 261) hX dX11_tallies_260 rfl rfl rfl ?_
    refine g_iaload (nx := 262) hX dX11_tallies_261 rfl (ga_dn hn rfl) rfl (ga_ix_of (j := 9) rfl (by decide) (by decide)) ?_
    refine g_iload (nx := 264) hX 5 dX11_tallies_262 rfl rfl ?_
    refine g_bipush (nx := 266) hX 10 dX11_tallies_264 rfl (by decide) ?_
    refine g_icmp_ne (nx := 269) hX 273 dX11_tallies_266 (by decide) rfl (fun h => absurd h (by decide)) (fun h => ?_)
    refine g_iconst (nx := 270) hX 1 dX11_tallies_269 rfl (by decide) ?_
    refine g_goto (nx := 274) hX dX11_tallies_270 (by decide) ?_
    refine g_iadd (nx := 275) hX dX11_tallies_274 rfl ?_
    refine g_iastore (nx := 276) hX dX11_tallies_275 rfl (ga_dn hn rfl) rfl (ga_ix_of (j := 9) rfl (by decide) (by decide)) ?_
    refine g_aload_n (nx := 277) hX 0 dX11_tallies_276 rfl rfl rfl ?_
    refine g_getfield (nx := 280) hX dX11_tallies_277 rfl fX11_65 (ga_dn hn rfl) rfl rfl ?_
    refine g_bipush (nx := 282) hX 10 dX11_tallies_280 rfl (by decide) ?_
    refine g_dup2 (nx := 283) hX dX11_tallies_282 rfl rfl rfl ?_
    refine g_iaload (nx := 284) hX dX11_tallies_283 rfl (ga_dn hn rfl) rfl (ga_ix_of (j := 10) rfl (by decide) (by decide)) ?_
    refine g_iload (nx := 286) hX 5 dX11_tallies_284 rfl rfl ?_
    refine g_bipush (nx := 288) hX 11 dX11_tallies_286 rfl (by decide) ?_
    refine g_icmp_ne (nx := 291) hX 295 dX11_tallies_288 (by decide) rfl (fun h => ?_) (fun h => absurd h (by decide))
    refine g_iconst (nx := 296) hX 0 dX11_tallies_295 rfl (by decide) ?_
    refine g_iadd (nx := 297) hX dX11_tallies_296 rfl ?_
    refine g_iastore (nx := 298) hX dX11_tallies_297 rfl (ga_dn hn rfl) rfl (ga_ix_of (j := 10) rfl (by decide) (by decide)) ?_
    simp only [z_id]
    rw [m_t9]
    exact g_ls k9 ⟨rfl, rfl, rfl, rfl, rfl, trivial⟩
  · -- kind 11
    have k9 := kont _ rfl
    rw [y_st11] at k9
    refine g_iload (nx := 96) hX 5 dX11_tallies_94 rfl rfl ?_
    refine g_if_ne (nx := 99) hX 112 dX11_tallies_96 (by decide) rfl (fun h => ?_) (fun h => absurd h (by decide))
    refine g_iload (nx := 114) hX 5 dX11_tallies_112 rfl rfl ?_
    refine g_bipush (nx := 116) hX 9 dX11_tallies_114 rfl (by decide) ?_
    refine g_icmp_ne (nx := 119) hX 132 dX11_tallies_116 (by decide) rfl (fun h => ?_) (fun h => absurd h (by decide))
    refine g_iload (nx := 134) hX 5 dX11_tallies_132 rfl rfl ?_
    refine g_iconst (nx := 135) hX 1 dX11_tallies_134 rfl (by decide) ?_
    refine g_icmp_eq (nx := 138) hX 144 dX11_tallies_135 (by decide) rfl (fun h => absurd h (by decide)) (fun h => ?_)
    refine g_iload (nx := 140) hX 5 dX11_tallies_138 rfl rfl ?_
    refine g_iconst (nx := 141) hX 2 dX11_tallies_140 rfl (by decide) ?_
    refine g_icmp_ne (nx := 144) hX 171 dX11_tallies_141 (by decide) rfl (fun h => ?_) (fun h => absurd h (by decide))
    refine g_iload (nx := 173) hX 5 dX11_tallies_171 rfl rfl ?_
    refine g_iconst (nx := 174) hX 3 dX11_tallies_173 rfl (by decide) ?_
    refine g_icmp_lt (nx := 177) hX 207 dX11_tallies_174 (by decide) rfl (fun h => absurd h (by decide)) (fun h => ?_)
    refine g_iload (nx := 179) hX 5 dX11_tallies_177 rfl rfl ?_
    refine g_bipush (nx := 181) hX 6 dX11_tallies_179 rfl (by decide) ?_
    refine g_icmp_gt (nx := 184) hX 207 dX11_tallies_181 (by decide) rfl (fun h => ?_) (fun h => absurd h (by decide))
    refine g_iload (nx := 209) hX 5 dX11_tallies_207 rfl rfl ?_
    refine g_bipush (nx := 211) hX 7 dX11_tallies_209 rfl (by decide) ?_
    refine g_icmp_ne (nx := 214) hX 232 dX11_tallies_211 (by decide) rfl (fun h => ?_) (fun h => absurd h (by decide))
    refine g_aload_n (nx := 233) hX 0 dX11_tallies_232 rfl rfl rfl ?_
    refine g_getfield (nx := 236) hX dX11_tallies_233 rfl fX11_65 (ga_dn hn rfl) rfl rfl ?_
    refine g_bipush (nx := 238) hX 8 dX11_tallies_236 rfl (by decide) ?_
    refine g_dup2 (nx := 239) hX dX11_tallies_238 rfl rfl rfl ?_
    refine g_iaload (nx := 240) hX dX11_tallies_239 rfl (ga_dn hn rfl) rfl (ga_ix_of (j := 8) rfl (by decide) (by decide)) ?_
    refine g_iload (nx := 242) hX 5 dX11_tallies_240 rfl rfl ?_
    refine g_bipush (nx := 244) hX 8 dX11_tallies_242 rfl (by decide) ?_
    refine g_icmp_ne (nx := 247) hX 251 dX11_tallies_244 (by decide) rfl (fun h => ?_) (fun h => absurd h (by decide))
    refine g_iconst (nx := 252) hX 0 dX11_tallies_251 rfl (by decide) ?_
    refine g_iadd (nx := 253) hX dX11_tallies_252 rfl ?_
    refine g_iastore (nx := 254) hX dX11_tallies_253 rfl (ga_dn hn rfl) rfl (ga_ix_of (j := 8) rfl (by decide) (by decide)) ?_
    refine g_aload_n (nx := 255) hX 0 dX11_tallies_254 rfl rfl rfl ?_
    refine g_getfield (nx := 258) hX dX11_tallies_255 rfl fX11_65 (ga_dn hn rfl) rfl rfl ?_
    refine g_bipush (nx := 260) hX 9 dX11_tallies_258 rfl (by decide) ?_
    refine g_dup2 (nx := 261) hX dX11_tallies_260 rfl rfl rfl ?_
    refine g_iaload (nx := 262) hX dX11_tallies_261 rfl (ga_dn hn rfl) rfl (ga_ix_of (j := 9) rfl (by decide) (by decide)) ?_
    refine g_iload (nx := 264) hX 5 dX11_tallies_262 rfl rfl ?_
    refine g_bipush (nx := 266) hX 10 dX11_tallies_264 rfl (by decide) ?_
    refine g_icmp_ne (nx := 269) hX 273 dX11_tallies_266 (by decide) rfl (fun h => ?_) (fun h => absurd h (by decide))
    refine g_iconst (nx := 274) hX 0 dX11_tallies_273 rfl (by decide) ?_
    refine g_iadd (nx := 275) hX dX11_tallies_274 rfl ?_
    refine g_iastore (nx := 276) hX dX11_tallies_275 rfl (ga_dn hn rfl) rfl (ga_ix_of (j := 9) rfl (by decide) (by decide)) ?_
    refine g_aload_n (nx := 277) hX 0 dX11_tallies_276 rfl rfl rfl ?_
    refine g_getfield (nx := 280) hX dX11_tallies_277 rfl fX11_65 (ga_dn hn rfl) rfl rfl ?_
    refine g_bipush (nx := 282) hX 10 dX11_tallies_280 rfl (by decide) ?_
    refine g_dup2 (nx := 283) hX dX11_tallies_282 rfl rfl rfl ?_
    refine g_iaload (nx := 284) hX dX11_tallies_283 rfl (ga_dn hn rfl) rfl (ga_ix_of (j := 10) rfl (by decide) (by decide)) ?_
    refine g_iload (nx := 286) hX 5 dX11_tallies_284 rfl rfl ?_
    refine g_bipush (nx := 288) hX 11 dX11_tallies_286 rfl (by decide) ?_
    refine g_icmp_ne (nx := 291) hX 295 dX11_tallies_288 (by decide) rfl (fun h => absurd h (by decide)) (fun h => ?_)
    refine g_iconst (nx := 292) hX 1 dX11_tallies_291 rfl (by decide) ?_
    refine g_goto (nx := 296) hX dX11_tallies_292 (by decide) ?_
    refine g_iadd (nx := 297) hX dX11_tallies_296 rfl ?_
    refine g_iastore (nx := 298) hX dX11_tallies_297 rfl (ga_dn hn rfl) rfl (ga_ix_of (j := 10) rfl (by decide) (by decide)) ?_
    simp only [z_id]
    rw [m_t10]
    exact g_ls k9 ⟨rfl, rfl, rfl, rfl, rfl, trivial⟩
end
