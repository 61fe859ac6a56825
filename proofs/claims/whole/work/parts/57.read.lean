/-! ===== all of the text, as the class reads it ===== -/
theorem z_st_nil {s : Nat → Int32} : z_st [] s = s := by
  funext i; unfold z_st; rw [if_neg (by simp)]
theorem z_od_nil {s : Nat → Int32} : z_od [] s = s := by
  funext i; unfold z_od; rw [if_neg (by simp)]
def x_n0k (nm : Nat → Int64) (k : Nat) : Nat → Int64 := fun i => if 15 ≤ i ∧ i < k then 0 else nm i
theorem x_n0_up {nm : Nat → Int64} {k : Nat} (h : 15 ≤ k) : vp_updL (x_n0k nm k) k 0 = x_n0k nm (k + 1) := by
  funext i
  by_cases e : i = k
  · rw [e, pk_uLs]; unfold x_n0k; rw [if_pos (by omega)]
  · rw [pk_uLn e]; unfold x_n0k
    by_cases g : 15 ≤ i ∧ i < k
    · rw [if_pos g, if_pos (by omega)]
    · rw [if_neg g, if_neg (by omega)]
theorem x_fm_n {nm : Nat → Int64} {k i : Nat} {v : Int64} (hi : i < 15) : x_nm nm k v i = nm i := by
  unfold x_nm; split
  · exact pk_uLn (by omega)
  · rfl
section
variable {E : ga_E} {X : ga_X} {n : Nat} {c0 c1 c2 c3 c4 c5 c6 c7 c8 c9 c10 c11 c12 c13 c14 c15 c16 c17 c18 c19 c20 c21 c22 c23 c24 c25 c26 c27 c28 c29 c30 m79 m80 m81 m82 m83 m84 m85 m86 m87 m88 m89 m90 m91 m92 m93 m94 m95 m96 m97 m98 m99 m100 m101 m102 m103 m104 m105 : ga_C} {L1 L2 : List ga_C} {f : Nat → ga_C} {o_tp o_rd o_fe o_em o_sp o_ac o_td o_sm o_tt o_at o_sz o_fk o_fp o_nw o_md o_nt o_pl o_op d_at d_tk d_ta d_fd d_fa : Int32} {d_tv : Int64} {d_rl : Value}
variable {z_at z_tk z_ta z_fd z_fa z_sz z_tot z_sm top : Int32} {z_tv : Int64} {nm : Nat → Int64} {tb st_ od eo fo : Nat → Int32} {lt : Nat}
theorem c_X4_read (hn : 106 ≤ n) (hl : lt ≤ 600) (hb : ∀ i, i < lt → 0 ≤ tb i) : ga_Mt E 24 yX4_read cX4_read 3 (some .boolean) 0 0 [.ref 13, .ref 21] (n, (c0 :: k_T lt :: ga_i 600 tb :: c3 :: c4 :: c5 :: c6 :: c7 :: c8 :: c9 :: c10 :: c11 :: c12 :: (k_D d_rl d_at d_tk d_ta d_tv d_fd d_fa) :: ga_l 39 nm :: c15 :: c16 :: c17 :: c18 :: c19 :: c20 :: k_U 21 top z_sz z_tot z_sm :: ga_i 600 st_ :: ga_i 600 od :: ga_i 24 eo :: ga_i 24 fo :: L1), L2, f)
    (fun r M => (∃ k pl, R_rd tb lt nm = .inl (k, pl) ∧ (1 ≤ k ∧ k ≤ 4) ∧ r = some (.int 0) ∧ (∃ ta tv sz st od tot sm eo fo nm_, sz ≤ 600 ∧ sm ≤ 24 ∧ (∀ i, i < 15 → nm_ i = nm i) ∧ M = (n, (c0 :: k_T lt :: ga_i 600 tb :: c3 :: c4 :: c5 :: c6 :: c7 :: c8 :: c9 :: c10 :: c11 :: c12 :: k_D (.ref 21) (nI lt) (-1) (ta) (tv) (nI (k)) (nI (pl)) :: ga_l 39 (nm_) :: c15 :: c16 :: c17 :: c18 :: c19 :: c20 :: k_U 21 top (nI sz) (tot) (nI sm) :: ga_i 600 (st) :: ga_i 600 (od) :: ga_i 24 (eo) :: ga_i 24 (fo) :: L1), L2, f))) ∨ (∃ Ls C nm' tot q, R_rd tb lt nm = .inr (Ls, C, nm', tot) ∧ r = some (.int 1) ∧ (∀ i, i < 15 → nm' i = nm i) ∧ M = (n, (c0 :: k_T lt :: ga_i 600 tb :: c3 :: c4 :: c5 :: c6 :: c7 :: c8 :: c9 :: c10 :: c11 :: c12 :: k_D (.ref 21) (nI (x_te tb lt (q))) (x_tk tb lt (q)) (nI (q)) (x_tv tb lt (q)) (0) (-1) :: ga_l 39 (nm') :: c15 :: c16 :: c17 :: c18 :: c19 :: c20 :: k_U 21 top (nI (C).length) (tot) (nI (Ls).length) :: ga_i 600 (z_st (C) st_) :: ga_i 600 (z_od (C) od) :: ga_i 24 (z_st (Ls) eo) :: ga_i 24 (z_od (Ls) fo) :: L1), L2, f))) := by
  refine ga_Mt.of (by decide) rfl (fun X hX hP => ?_)
  refine g_less [some (.ref 13), some (.ref 21), none] ⟨rfl, rfl, trivial⟩ ?_
  have er : ∀ k pl ta tv sz st od' tot sm eo fo nm', R_rd tb lt nm = .inl (k, pl) → (1 ≤ k ∧ k ≤ 4) → sz ≤ 600 → sm ≤ 24 → (∀ i, i < 15 → nm' i = nm i) → ga_G E X 0 0 154 [some (.ref 13), none, none] [] (n, (c0 :: k_T lt :: ga_i 600 tb :: c3 :: c4 :: c5 :: c6 :: c7 :: c8 :: c9 :: c10 :: c11 :: c12 :: k_D (.ref 21) (nI lt) (-1) (ta) (tv) (nI k) (nI pl) :: ga_l 39 (nm') :: c15 :: c16 :: c17 :: c18 :: c19 :: c20 :: k_U 21 top (nI sz) (tot) (nI sm) :: ga_i 600 (st) :: ga_i 600 (od') :: ga_i 24 (eo) :: ga_i 24 (fo) :: L1), L2, f) := by
    intro k pl ta tv sz st od' tot sm eo fo nm' hR hk hs hm hnm
    refine g_aload_n (nx := 155) hX 0 dX4_read_154 rfl rfl rfl ?_
    refine g_getfield (nx := 158) hX dX4_read_155 rfl fX4_76 (ga_dn hn rfl) rfl rfl ?_
    refine g_V0 (nx := 161) hX dX4_read_158 rfl mX4_120 yX6_hasTotal_ok (c_X6_hasTotal hn) (ga_dn hn rfl) rfl rfl rfl (by decide) rfl (Nat.le_of_ble_eq_true rfl) (Nat.le_of_ble_eq_true rfl) ?_
    rintro _ _ ⟨rfl, rfl⟩
    refine g_if_ne (nx := 164) hX 176 dX4_read_161 (by decide) rfl (fun h161 => ?_) (fun h161 => ?_)
    · refine g_aload_n (nx := 177) hX 0 dX4_read_176 rfl rfl rfl ?_
      refine g_getfield (nx := 180) hX dX4_read_177 rfl fX4_85 (ga_dn hn rfl) rfl rfl ?_
      refine g_if_ne (nx := 183) hX 187 dX4_read_180 (by decide) rfl (fun h180 => ?_) (fun h180 => ?_)
      · refine g_iconst (nx := 188) hX 0 dX4_read_187 rfl (by decide) ?_
        exact g_ireturn hX hP dX4_read_188 rfl (Nat.le_of_ble_eq_true rfl) (Nat.le_of_ble_eq_true rfl) (Or.inl ⟨k, pl, hR, hk, rfl, _, _, sz, _, _, _, sm, _, _, _, hs, hm, hnm, rfl⟩)
      · exact absurd h180 (nI_ne0 (by omega) (by omega))
    · refine g_aload_n (nx := 165) hX 0 dX4_read_164 rfl rfl rfl ?_
      refine g_iconst (nx := 166) hX 4 dX4_read_165 rfl (by decide) ?_
      refine g_aload_n (nx := 167) hX 0 dX4_read_166 rfl rfl rfl ?_
      refine g_getfield (nx := 170) hX dX4_read_167 rfl fX4_56 (ga_dn hn rfl) rfl rfl ?_
      refine g_getfield (nx := 173) hX dX4_read_170 rfl fX4_124 (ga_dn hn rfl) rfl rfl ?_
      refine g_V2 (nx := 176) hX dX4_read_173 rfl mX4_100 yX4_fail_ok (x_fail hn hk) (ga_dn hn rfl) rfl rfl rfl (by decide) rfl (Nat.le_of_ble_eq_true rfl) (Nat.le_of_ble_eq_true rfl) ?_
      rintro _ _ ⟨rfl, rfl⟩
      refine g_aload_n (nx := 177) hX 0 dX4_read_176 rfl rfl rfl ?_
      refine g_getfield (nx := 180) hX dX4_read_177 rfl fX4_85 (ga_dn hn rfl) rfl rfl ?_
      refine g_if_ne (nx := 183) hX 187 dX4_read_180 (by decide) rfl (fun h180 => ?_) (fun h180 => ?_)
      · refine g_iconst (nx := 188) hX 0 dX4_read_187 rfl (by decide) ?_
        exact g_ireturn hX hP dX4_read_188 rfl (Nat.le_of_ble_eq_true rfl) (Nat.le_of_ble_eq_true rfl) (Or.inl ⟨k, pl, hR, hk, rfl, _, _, sz, _, _, _, sm, _, _, _, hs, hm, hnm, rfl⟩)
      · exact absurd h180 (nI_ne0 (by omega) (by omega))
  have ex : ∀ i k pl ta tv sz st od' tot sm eo fo nm', i ≤ 25 → R_rd tb lt nm = .inl (k, pl) → (1 ≤ k ∧ k ≤ 4) → sz ≤ 600 → sm ≤ 24 → (∀ i, i < 15 → nm' i = nm i) → ga_G E X 0 0 55 [some (.ref 13), none, some (.int (nI i))] [] (n, (c0 :: k_T lt :: ga_i 600 tb :: c3 :: c4 :: c5 :: c6 :: c7 :: c8 :: c9 :: c10 :: c11 :: c12 :: k_D (.ref 21) (nI lt) (-1) (ta) (tv) (nI k) (nI pl) :: ga_l 39 (nm') :: c15 :: c16 :: c17 :: c18 :: c19 :: c20 :: k_U 21 top (nI sz) (tot) (nI sm) :: ga_i 600 (st) :: ga_i 600 (od') :: ga_i 24 (eo) :: ga_i 24 (fo) :: L1), L2, f) := by
    intro i k pl ta tv sz st od' tot sm eo fo nm' hi hR hk hs hm hnm
    refine g_iload_n (nx := 56) hX 2 dX4_read_55 rfl rfl rfl ?_
    refine g_bipush (nx := 58) hX 24 dX4_read_56 rfl (by decide) ?_
    refine g_icmp_gt (nx := 61) hX 154 dX4_read_58 (by decide) rfl (fun h58 => ?_) (fun h58 => ?_)
    · exact g_ls (er _ _ _ _ _ _ _ _ _ _ _ _ hR hk hs hm hnm) ⟨rfl, trivial⟩
    · refine g_aload_n (nx := 62) hX 0 dX4_read_61 rfl rfl rfl ?_
      refine g_getfield (nx := 65) hX dX4_read_62 rfl fX4_94 (ga_dn hn rfl) rfl rfl ?_
      refine g_iconst (nx := 66) hX (-1) dX4_read_65 rfl (by decide) ?_
      refine g_icmp_eq (nx := 69) hX 154 dX4_read_66 (by decide) rfl (fun h66 => ?_) (fun h66 => ?_)
      · exact g_ls (er _ _ _ _ _ _ _ _ _ _ _ _ hR hk hs hm hnm) ⟨rfl, trivial⟩
      · exact absurd rfl h66
  have e1 : ∀ i k pl ta tv sz st od' tot sm eo fo nm', i ≤ 24 → R_rd tb lt nm = .inl (k, pl) → (1 ≤ k ∧ k ≤ 4) → sz ≤ 600 → sm ≤ 24 → (∀ i, i < 15 → nm' i = nm i) → ga_G E X 0 0 142 [some (.ref 13), none, some (.int (nI i))] [] (n, (c0 :: k_T lt :: ga_i 600 tb :: c3 :: c4 :: c5 :: c6 :: c7 :: c8 :: c9 :: c10 :: c11 :: c12 :: k_D (.ref 21) (nI lt) (-1) (ta) (tv) (nI k) (nI pl) :: ga_l 39 (nm') :: c15 :: c16 :: c17 :: c18 :: c19 :: c20 :: k_U 21 top (nI sz) (tot) (nI sm) :: ga_i 600 (st) :: ga_i 600 (od') :: ga_i 24 (eo) :: ga_i 24 (fo) :: L1), L2, f) := by
    intro i k pl ta tv sz st od' tot sm eo fo nm' hi hR hk hs hm hnm
    refine g_aload_n (nx := 143) hX 0 dX4_read_142 rfl rfl rfl ?_
    refine g_bipush (nx := 145) hX 59 dX4_read_143 rfl (by decide) ?_
    refine g_V1 (nx := 148) hX dX4_read_145 rfl mX4_117 yX4_expect_ok (x_exp hn hl hk hb) (ga_dn hn rfl) rfl rfl rfl (by decide) rfl (Nat.le_of_ble_eq_true rfl) (Nat.le_of_ble_eq_true rfl) ?_
    rintro _ _ ⟨rfl, rfl⟩
    refine g_iinc (nx := 151) hX 2 (nI (i + 1)) dX4_read_148 rfl rfl rfl (nI_1 i) ?_
    refine g_goto (nx := 55) hX dX4_read_151 (by decide) ?_
    exact ex _ _ _ _ _ _ _ _ _ _ _ _ _ (by omega) hR hk hs hm hnm
  have fin : ∀ Ls C nm1 tot q, (R_rd tb lt nm = if tot = -1 then .inl (4, lt) else .inr (Ls, C, nm1, tot)) → C.length ≤ 600 → Ls.length ≤ 24 → (∀ i, i < 15 → nm1 i = nm i) → ga_G E X 0 0 154 [some (.ref 13), none, none] [] (n, (c0 :: k_T lt :: ga_i 600 tb :: c3 :: c4 :: c5 :: c6 :: c7 :: c8 :: c9 :: c10 :: c11 :: c12 :: k_D (.ref 21) (nI (x_te tb lt (q))) (x_tk tb lt (q)) (nI (q)) (x_tv tb lt (q)) (0) (-1) :: ga_l 39 (nm1) :: c15 :: c16 :: c17 :: c18 :: c19 :: c20 :: k_U 21 top (nI (C).length) (tot) (nI (Ls).length) :: ga_i 600 (z_st (C) st_) :: ga_i 600 (z_od (C) od) :: ga_i 24 (z_st (Ls) eo) :: ga_i 24 (z_od (Ls) fo) :: L1), L2, f) := by
    intro Ls C nm1 tot q hR hC hs hnm
    by_cases ht : tot = -1
    · rw [if_pos ht] at hR
      have hw := w_fail (E := E) (k := 4) (pl := lt) (tb := tb) (lt := lt) (q := q) (C := C) (st_ := st_) (od := od) (n := n) (c0 := c0) (c3 := c3) (c4 := c4) (c5 := c5) (c6 := c6) (c7 := c7) (c8 := c8) (c9 := c9) (c10 := c10) (c11 := c11) (c12 := c12) (c15 := c15) (c16 := c16) (c17 := c17) (c18 := c18) (c19 := c19) (c20 := c20) (L1 := L1) (L2 := L2) (f := f) (nm := nm1) (top := top) (z_tot := tot) (z_sm := nI Ls.length) (eo := z_st Ls eo) (fo := z_od Ls fo) hn
      refine g_aload_n (nx := 155) hX 0 dX4_read_154 rfl rfl rfl ?_
      refine g_getfield (nx := 158) hX dX4_read_155 rfl fX4_76 (ga_dn hn rfl) rfl rfl ?_
      refine g_V0 (nx := 161) hX dX4_read_158 rfl mX4_120 yX6_hasTotal_ok (c_X6_hasTotal hn) (ga_dn hn rfl) rfl rfl rfl (by decide) rfl (Nat.le_of_ble_eq_true rfl) (Nat.le_of_ble_eq_true rfl) ?_
      rintro _ _ ⟨rfl, rfl⟩
      refine g_if_ne (nx := 164) hX 176 dX4_read_161 (by decide) rfl (fun h161 => ?_) (fun h161 => ?_)
      · exact absurd (by rw [if_pos ht]) h161
      · refine g_aload_n (nx := 165) hX 0 dX4_read_164 rfl rfl rfl ?_
        refine g_iconst (nx := 166) hX 4 dX4_read_165 rfl (by decide) ?_
        refine g_aload_n (nx := 167) hX 0 dX4_read_166 rfl rfl rfl ?_
        refine g_getfield (nx := 170) hX dX4_read_167 rfl fX4_56 (ga_dn hn rfl) rfl rfl ?_
        refine g_getfield (nx := 173) hX dX4_read_170 rfl fX4_124 (ga_dn hn rfl) rfl rfl ?_
        refine g_V2 (nx := 176) hX dX4_read_173 rfl mX4_100 yX4_fail_ok (hw) (ga_dn hn rfl) rfl rfl rfl (by decide) rfl (Nat.le_of_ble_eq_true rfl) (Nat.le_of_ble_eq_true rfl) ?_
        rintro _ _ ⟨rfl, rfl⟩
        refine g_aload_n (nx := 177) hX 0 dX4_read_176 rfl rfl rfl ?_
        refine g_getfield (nx := 180) hX dX4_read_177 rfl fX4_85 (ga_dn hn rfl) rfl rfl ?_
        refine g_if_ne (nx := 183) hX 187 dX4_read_180 (by decide) rfl (fun h180 => ?_) (fun h180 => ?_)
        · refine g_iconst (nx := 188) hX 0 dX4_read_187 rfl (by decide) ?_
          exact g_ireturn hX hP dX4_read_188 rfl (Nat.le_of_ble_eq_true rfl) (Nat.le_of_ble_eq_true rfl) (Or.inl ⟨4, lt, hR, by omega, rfl, _, _, C.length, _, _, _, Ls.length, _, _, _, hC, hs, hnm, rfl⟩)
        · exact absurd h180 (by decide)
    · rw [if_neg ht] at hR
      refine g_aload_n (nx := 155) hX 0 dX4_read_154 rfl rfl rfl ?_
      refine g_getfield (nx := 158) hX dX4_read_155 rfl fX4_76 (ga_dn hn rfl) rfl rfl ?_
      refine g_V0 (nx := 161) hX dX4_read_158 rfl mX4_120 yX6_hasTotal_ok (c_X6_hasTotal hn) (ga_dn hn rfl) rfl rfl rfl (by decide) rfl (Nat.le_of_ble_eq_true rfl) (Nat.le_of_ble_eq_true rfl) ?_
      rintro _ _ ⟨rfl, rfl⟩
      refine g_if_ne (nx := 164) hX 176 dX4_read_161 (by decide) rfl (fun h161 => ?_) (fun h161 => ?_)
      · refine g_aload_n (nx := 177) hX 0 dX4_read_176 rfl rfl rfl ?_
        refine g_getfield (nx := 180) hX dX4_read_177 rfl fX4_85 (ga_dn hn rfl) rfl rfl ?_
        refine g_if_ne (nx := 183) hX 187 dX4_read_180 (by decide) rfl (fun h180 => ?_) (fun h180 => ?_)
        · exact absurd rfl h180
        · refine g_iconst (nx := 184) hX 1 dX4_read_183 rfl (by decide) ?_
          refine g_goto (nx := 188) hX dX4_read_184 (by decide) ?_
          exact g_ireturn hX hP dX4_read_188 rfl (Nat.le_of_ble_eq_true rfl) (Nat.le_of_ble_eq_true rfl) (Or.inr ⟨Ls, C, nm1, tot, q, hR, rfl, hnm, rfl⟩)
      · exact absurd h161 (by rw [if_neg ht]; decide)
  have loop : ∀ m q Ls C nm1 tot, m + Ls.length = 24 → q ≤ lt → C.length ≤ q → (∀ i, i < 15 → nm1 i = nm i) → (R_rd tb lt nm = match R_al tb lt m q Ls C nm1 tot with | .inl e => .inl e | .inr (Ls, C, nm, tot) => if tot = -1 then .inl (4, lt) else .inr (Ls, C, nm, tot)) → ga_G E X 0 0 55 [some (.ref 13), none, some (.int (nI Ls.length))] [] (n, (c0 :: k_T lt :: ga_i 600 tb :: c3 :: c4 :: c5 :: c6 :: c7 :: c8 :: c9 :: c10 :: c11 :: c12 :: k_D (.ref 21) (nI (x_te tb lt (q))) (x_tk tb lt (q)) (nI (q)) (x_tv tb lt (q)) (0) (-1) :: ga_l 39 (nm1) :: c15 :: c16 :: c17 :: c18 :: c19 :: c20 :: k_U 21 top (nI (C).length) (tot) (nI (Ls).length) :: ga_i 600 (z_st (C) st_) :: ga_i 600 (z_od (C) od) :: ga_i 24 (z_st (Ls) eo) :: ga_i 24 (z_od (Ls) fo) :: L1), L2, f) := by
    intro m
    induction m with
    | zero =>
      intro q Ls C nm1 tot hm hq hC hnm hR
      rw [R_al] at hR
      refine g_iload_n (nx := 56) hX 2 dX4_read_55 rfl rfl rfl ?_
      refine g_bipush (nx := 58) hX 24 dX4_read_56 rfl (by decide) ?_
      refine g_icmp_gt (nx := 61) hX 154 dX4_read_58 (by decide) rfl (fun h58 => ?_) (fun h58 => ?_)
      · exact absurd ((nI_ltI (a := 24) (by omega) (by omega)).mp h58) (by omega)
      · refine g_aload_n (nx := 62) hX 0 dX4_read_61 rfl rfl rfl ?_
        refine g_getfield (nx := 65) hX dX4_read_62 rfl fX4_94 (ga_dn hn rfl) rfl rfl ?_
        refine g_iconst (nx := 66) hX (-1) dX4_read_65 rfl (by decide) ?_
        refine g_icmp_eq (nx := 69) hX 154 dX4_read_66 (by decide) rfl (fun h66 => ?_) (fun h66 => ?_)
        · rw [if_pos h66] at hR
          exact g_ls (fin _ _ _ _ _ hR (by omega) (by omega) hnm) ⟨rfl, trivial⟩
        · rw [if_neg h66] at hR
          refine g_iload_n (nx := 70) hX 2 dX4_read_69 rfl rfl rfl ?_
          refine g_bipush (nx := 72) hX 24 dX4_read_70 rfl (by decide) ?_
          refine g_icmp_eq (nx := 75) hX 84 dX4_read_72 (by decide) rfl (fun h72 => ?_) (fun h72 => ?_)
          · refine g_aload_n (nx := 85) hX 0 dX4_read_84 rfl rfl rfl ?_
            refine g_iconst (nx := 86) hX 1 dX4_read_85 rfl (by decide) ?_
            refine g_aload_n (nx := 87) hX 0 dX4_read_86 rfl rfl rfl ?_
            refine g_getfield (nx := 90) hX dX4_read_87 rfl fX4_97 (ga_dn hn rfl) rfl rfl ?_
            refine g_V2 (nx := 93) hX dX4_read_90 rfl mX4_100 yX4_fail_ok (w_fail (k := 1) hn) (ga_dn hn rfl) rfl rfl rfl (by decide) rfl (Nat.le_of_ble_eq_true rfl) (Nat.le_of_ble_eq_true rfl) ?_
            rintro _ _ ⟨rfl, rfl⟩
            refine g_goto (nx := 142) hX dX4_read_93 (by decide) ?_
            exact e1 _ 1 q _ _ _ _ _ _ _ _ _ _ (by omega) hR (by omega) (by omega) (by omega) hnm
          · exact absurd (by rw [show Ls.length = 24 by omega]; rfl) h72
    | succ m ih =>
      intro q Ls C nm1 tot hm hq hC hnm hR
      rw [R_al] at hR
      have st : ∀ q2 c2 nm2 tot2 fm, R_stm tb lt nm1 q = .inr (q2, c2) → (∀ i, i < 15 → nm2 i = nm i) → ¬ x_tk tb lt q = -1 → x_tk tb lt q = 97 → x_nm nm1 Ls.length (x_tv tb lt q) = nm2 → x_tt tot Ls.length (x_tv tb lt q) = tot2 → x_fm (x_tv tb lt q) = fm → ga_G E X 0 0 142 [some (.ref 13), none, some (.int (nI Ls.length))] [] (n, (c0 :: k_T lt :: ga_i 600 tb :: c3 :: c4 :: c5 :: c6 :: c7 :: c8 :: c9 :: c10 :: c11 :: c12 :: k_D (.ref 21) (nI (x_te tb lt (q2))) (x_tk tb lt (q2)) (nI (q2)) (x_tv tb lt (q2)) (0) (-1) :: ga_l 39 (nm2) :: c15 :: c16 :: c17 :: c18 :: c19 :: c20 :: k_U 21 top (nI (C ++ c2).length) (tot2) (nI (Ls ++ [((C ++ c2).length, fm)]).length) :: ga_i 600 (z_st (C ++ c2) st_) :: ga_i 600 (z_od (C ++ c2) od) :: ga_i 24 (z_st (Ls ++ [((C ++ c2).length, fm)]) eo) :: ga_i 24 (z_od (Ls ++ [((C ++ c2).length, fm)]) fo) :: L1), L2, f) := by
        intro q2 c2 nm2 tot2 fm hE hnm2 h66 h97 k1 k2 k3
        rw [if_neg h66, if_pos h97] at hR
        have hL := ln_stm _ _ _ hq hE
        have hx := x_nx_le (tb := tb) hL.2
        refine g_aload_n (nx := 143) hX 0 dX4_read_142 rfl rfl rfl ?_
        refine g_bipush (nx := 145) hX 59 dX4_read_143 rfl (by decide) ?_
        refine g_V1 (nx := 148) hX dX4_read_145 rfl mX4_117 yX4_expect_ok (w_exp hn hl hL.2 (by rw [List.length_append]; omega) hb) (ga_dn hn rfl) rfl rfl rfl (by decide) rfl (Nat.le_of_ble_eq_true rfl) (Nat.le_of_ble_eq_true rfl) ?_
        rintro _ _ ⟨rfl, (⟨h59, ta, tv, sz, st, od', hs', rfl⟩ | ⟨h59, rfl⟩)⟩
        · rw [show R_one tb lt nm1 q = .inl (1, q2) by unfold R_one; rw [hE]; dsimp only; rw [if_neg h59]] at hR
          refine g_iinc (nx := 151) hX 2 (nI (Ls.length + 1)) dX4_read_148 rfl rfl rfl (nI_1 Ls.length) ?_
          refine g_goto (nx := 55) hX dX4_read_151 (by decide) ?_
          exact ex _ 1 q2 _ _ _ _ _ _ _ _ _ _ (by omega) hR (by omega) hs' (by simp only [List.length_append, List.length_cons, List.length_nil]; omega) hnm2
        · rw [show R_one tb lt nm1 q = .inr (x_nx tb lt q2, c2) by unfold R_one; rw [hE]; dsimp only; rw [if_pos h59]] at hR
          refine g_iinc (nx := 151) hX 2 (nI (Ls.length + 1)) dX4_read_148 rfl rfl rfl (nI_1 Ls.length) ?_
          refine g_goto (nx := 55) hX dX4_read_151 (by decide) ?_
          have h := ih (x_nx tb lt q2) (Ls ++ [((C ++ c2).length, fm)]) (C ++ c2) nm2 tot2 (by simp only [List.length_append, List.length_cons, List.length_nil]; omega) hx.2 (by rw [List.length_append]; omega) hnm2 (by rw [← k1, ← k2, ← k3]; exact hR)
          rw [show (Ls ++ [((C ++ c2).length, fm)]).length = Ls.length + 1 by simp only [List.length_append, List.length_cons, List.length_nil]] at h ⊢
          exact h
      have sE : ∀ k pl, R_stm tb lt nm1 q = .inl (k, pl) → ¬ x_tk tb lt q = -1 → x_tk tb lt q = 97 → R_rd tb lt nm = .inl (k, pl) := by
        intro k pl hE h66 h97
        rw [if_neg h66, if_pos h97, show R_one tb lt nm1 q = .inl (k, pl) by unfold R_one; rw [hE]] at hR
        exact hR
      refine g_iload_n (nx := 56) hX 2 dX4_read_55 rfl rfl rfl ?_
      refine g_bipush (nx := 58) hX 24 dX4_read_56 rfl (by decide) ?_
      refine g_icmp_gt (nx := 61) hX 154 dX4_read_58 (by decide) rfl (fun h58 => ?_) (fun h58 => ?_)
      · exact absurd ((nI_ltI (a := 24) (by omega) (by omega)).mp h58) (by omega)
      · refine g_aload_n (nx := 62) hX 0 dX4_read_61 rfl rfl rfl ?_
        refine g_getfield (nx := 65) hX dX4_read_62 rfl fX4_94 (ga_dn hn rfl) rfl rfl ?_
        refine g_iconst (nx := 66) hX (-1) dX4_read_65 rfl (by decide) ?_
        refine g_icmp_eq (nx := 69) hX 154 dX4_read_66 (by decide) rfl (fun h66 => ?_) (fun h66 => ?_)
        · rw [if_pos h66] at hR
          exact g_ls (fin _ _ _ _ _ hR (by omega) (by omega) hnm) ⟨rfl, trivial⟩
        · refine g_iload_n (nx := 70) hX 2 dX4_read_69 rfl rfl rfl ?_
          refine g_bipush (nx := 72) hX 24 dX4_read_70 rfl (by decide) ?_
          refine g_icmp_eq (nx := 75) hX 84 dX4_read_72 (by decide) rfl (fun h72 => ?_) (fun h72 => ?_)
          · exact absurd (nI_inj (b := 24) h72 (by omega) (by omega)) (by omega)
          · refine g_aload_n (nx := 76) hX 0 dX4_read_75 rfl rfl rfl ?_
            refine g_getfield (nx := 79) hX dX4_read_76 rfl fX4_94 (ga_dn hn rfl) rfl rfl ?_
            refine g_bipush (nx := 81) hX 97 dX4_read_79 rfl (by decide) ?_
            refine g_icmp_eq (nx := 84) hX 96 dX4_read_81 (by decide) rfl (fun h81 => ?_) (fun h81 => ?_)
            · refine g_aload_n (nx := 97) hX 0 dX4_read_96 rfl rfl rfl ?_
              refine g_getfield (nx := 100) hX dX4_read_97 rfl fX4_104 (ga_dn hn rfl) rfl rfl ?_
              refine g_aload_n (nx := 101) hX 0 dX4_read_100 rfl rfl rfl ?_
              refine g_getfield (nx := 104) hX dX4_read_101 rfl fX4_17 (ga_dn hn rfl) rfl rfl ?_
              refine g_lcmp (nx := 105) hX dX4_read_104 rfl ?_
              refine g_if_ne (nx := 108) hX 115 dX4_read_105 (by decide) rfl (fun h105 => ?_) (fun h105 => ?_)
              · have hv1 : ¬ x_tv tb lt q = 16052 := fun z => h105 ((lg_cmp_eq _ _).mpr z)
                refine g_aload_n (nx := 116) hX 0 dX4_read_115 rfl rfl rfl ?_
                refine g_getfield (nx := 119) hX dX4_read_116 rfl fX4_104 (ga_dn hn rfl) rfl rfl ?_
                refine g_aload_n (nx := 120) hX 0 dX4_read_119 rfl rfl rfl ?_
                refine g_getfield (nx := 123) hX dX4_read_120 rfl fX4_28 (ga_dn hn rfl) rfl rfl ?_
                refine g_lcmp (nx := 124) hX dX4_read_123 rfl ?_
                refine g_if_ne (nx := 127) hX 134 dX4_read_124 (by decide) rfl (fun h124 => ?_) (fun h124 => ?_)
                · have hv2 : ¬ x_tv tb lt q = 20773 := fun z => h124 ((lg_cmp_eq _ _).mpr z)
                  have eR : R_stm tb lt nm1 q = R_giv tb lt nm1 q := by unfold R_stm; rw [if_neg hv1, if_neg hv2]
                  have e0 : x_fm (x_tv tb lt q) = 0 := by unfold x_fm; rw [if_neg hv1, if_neg hv2]
                  refine g_aload_n (nx := 135) hX 0 dX4_read_134 rfl rfl rfl ?_
                  refine g_bipush (nx := 137) hX 15 dX4_read_135 rfl (by decide) ?_
                  refine g_iload_n (nx := 138) hX 2 dX4_read_137 rfl rfl rfl ?_
                  refine g_iadd (nx := 139) hX dX4_read_138 rfl ?_
                  rw [show (15 : Int32) + nI Ls.length = nI (15 + Ls.length) from nI_add 15 Ls.length]
                  refine g_V1 (nx := 142) hX dX4_read_139 rfl mX4_113 yX4_readGiving_ok (c_X4_readGiving hn hl hb hq hC (by omega)) (ga_dn hn rfl) rfl rfl rfl (by decide) rfl (Nat.le_of_ble_eq_true rfl) (Nat.le_of_ble_eq_true rfl) ?_
                  rintro _ _ ⟨rfl, (⟨k, pl, hE, hk, ta, tv, sz, st', od', tot', sm', eo', fo', nm2, hs', hm', hnm2, rfl⟩ | ⟨q2, c2, hE, rfl⟩)⟩
                  · exact e1 _ k pl _ _ _ _ _ _ _ _ _ _ (by omega) (sE _ _ (eR.trans hE) h66 h81) hk hs' hm' (fun i hi => (hnm2 i hi).trans (hnm i hi))
                  · exact st q2 c2 _ _ 0 (eR.trans hE) (fun i hi => (pk_uLn (by omega)).trans (hnm i hi)) h66 h81 (by unfold x_nm; rw [if_pos e0]) (by unfold x_tt; simp only [e0, true_and]) e0
                · have hv := (lg_cmp_eq _ _).mp h124
                  have eR : R_stm tb lt nm1 q = R_S tb lt nm1 (x_nx tb lt q) := by unfold R_stm; rw [if_neg hv1, if_pos hv]
                  refine g_aload_n (nx := 128) hX 0 dX4_read_127 rfl rfl rfl ?_
                  refine g_V0 (nx := 131) hX dX4_read_128 rfl mX4_110 yX4_readTie_ok (c_X4_readTie hn hl hb hq hC (by omega)) (ga_dn hn rfl) rfl rfl rfl (by decide) rfl (Nat.le_of_ble_eq_true rfl) (Nat.le_of_ble_eq_true rfl) ?_
                  rintro _ _ ⟨rfl, (⟨k, pl, hE, hk, ta, tv, sz, st', od', tot', sm', eo', fo', nm2, hs', hm', hnm2, rfl⟩ | ⟨q2, c2, hE, rfl⟩)⟩
                  · refine g_goto (nx := 142) hX dX4_read_131 (by decide) ?_
                    exact e1 _ k pl _ _ _ _ _ _ _ _ _ _ (by omega) (sE _ _ (eR.trans hE) h66 h81) hk hs' hm' (fun i hi => (hnm2 i hi).trans (hnm i hi))
                  · refine g_goto (nx := 142) hX dX4_read_131 (by decide) ?_
                    exact st q2 c2 nm1 tot 2 (eR.trans hE) hnm h66 h81 (by unfold x_nm; rw [hv]; exact if_neg (by decide)) (by unfold x_tt; rw [hv]; exact if_neg (by decide)) (by rw [hv]; decide)
              · have hv := (lg_cmp_eq _ _).mp h105
                have eR : R_stm tb lt nm1 q = R_out tb lt nm1 q := by unfold R_stm; rw [if_pos hv]
                refine g_aload_n (nx := 109) hX 0 dX4_read_108 rfl rfl rfl ?_
                refine g_V0 (nx := 112) hX dX4_read_109 rfl mX4_107 yX4_readOutIf_ok (c_X4_readOutIf hn hl hb hq hC (by omega)) (ga_dn hn rfl) rfl rfl rfl (by decide) rfl (Nat.le_of_ble_eq_true rfl) (Nat.le_of_ble_eq_true rfl) ?_
                rintro _ _ ⟨rfl, (⟨k, pl, hE, hk, ta, tv, sz, st', od', tot', sm', eo', fo', nm2, hs', hm', hnm2, rfl⟩ | ⟨q2, c2, hE, rfl⟩)⟩
                · refine g_goto (nx := 142) hX dX4_read_112 (by decide) ?_
                  exact e1 _ k pl _ _ _ _ _ _ _ _ _ _ (by omega) (sE _ _ (eR.trans hE) h66 h81) hk hs' hm' (fun i hi => (hnm2 i hi).trans (hnm i hi))
                · refine g_goto (nx := 142) hX dX4_read_112 (by decide) ?_
                  exact st q2 c2 nm1 tot 1 (eR.trans hE) hnm h66 h81 (by unfold x_nm; rw [hv]; exact if_neg (by decide)) (by unfold x_tt; rw [hv]; exact if_neg (by decide)) (by rw [hv]; decide)
            · refine g_aload_n (nx := 85) hX 0 dX4_read_84 rfl rfl rfl ?_
              refine g_iconst (nx := 86) hX 1 dX4_read_85 rfl (by decide) ?_
              refine g_aload_n (nx := 87) hX 0 dX4_read_86 rfl rfl rfl ?_
              refine g_getfield (nx := 90) hX dX4_read_87 rfl fX4_97 (ga_dn hn rfl) rfl rfl ?_
              refine g_V2 (nx := 93) hX dX4_read_90 rfl mX4_100 yX4_fail_ok (w_fail (k := 1) hn) (ga_dn hn rfl) rfl rfl rfl (by decide) rfl (Nat.le_of_ble_eq_true rfl) (Nat.le_of_ble_eq_true rfl) ?_
              rintro _ _ ⟨rfl, rfl⟩
              refine g_goto (nx := 142) hX dX4_read_93 (by decide) ?_
              exact e1 _ 1 q _ _ _ _ _ _ _ _ _ _ (by omega) (by rw [if_neg h66, if_neg h81] at hR; exact hR) (by omega) (by omega) (by omega) hnm
  have nl : ∀ m k, m + k = 39 → 15 ≤ k → ga_G E X 0 0 15 [some (.ref 13), none, some (.int (nI k))] [] (n, (c0 :: k_T lt :: ga_i 600 tb :: c3 :: c4 :: c5 :: c6 :: c7 :: c8 :: c9 :: c10 :: c11 :: c12 :: (k_D (.ref 21) d_at d_tk d_ta d_tv d_fd d_fa) :: ga_l 39 (x_n0k nm k) :: c15 :: c16 :: c17 :: c18 :: c19 :: c20 :: k_U 21 top 0 (-1) 0 :: ga_i 600 st_ :: ga_i 600 od :: ga_i 24 eo :: ga_i 24 fo :: L1), L2, f) := by
    intro m
    induction m with
    | zero =>
      intro k hk hk2
      have e : k = 39 := by omega
      subst e
      have hL := loop 24 (x_sk tb lt 0) [] [] (x_n0 nm) (-1) rfl (x_sk_le (Nat.zero_le lt)).2 (Nat.zero_le _) (fun i hi => by unfold x_n0; rw [if_neg (by omega)]) rfl
      rw [z_st_nil, z_st_nil, z_od_nil, z_od_nil] at hL
      refine g_iload_n (nx := 16) hX 2 dX4_read_15 rfl rfl rfl ?_
      refine g_bipush (nx := 18) hX 39 dX4_read_16 rfl (by decide) ?_
      refine g_icmp_ge (nx := 21) hX 34 dX4_read_18 (by decide) rfl (fun h18 => ?_) (fun h18 => ?_)
      · refine g_aload_n (nx := 35) hX 0 dX4_read_34 rfl rfl rfl ?_
        refine g_iconst (nx := 36) hX 0 dX4_read_35 rfl (by decide) ?_
        refine g_putfield (nx := 39) hX dX4_read_36 rfl pX4_85 (ga_dn hn rfl) rfl rfl rfl rfl ?_
        refine g_aload_n (nx := 40) hX 0 dX4_read_39 rfl rfl rfl ?_
        refine g_iconst (nx := 41) hX (-1) dX4_read_40 rfl (by decide) ?_
        refine g_putfield (nx := 44) hX dX4_read_41 rfl pX4_52 (ga_dn hn rfl) rfl rfl rfl rfl ?_
        refine g_aload_n (nx := 45) hX 0 dX4_read_44 rfl rfl rfl ?_
        refine g_iconst (nx := 46) hX 0 dX4_read_45 rfl (by decide) ?_
        refine g_putfield (nx := 49) hX dX4_read_46 rfl pX4_88 (ga_dn hn rfl) rfl rfl rfl rfl ?_
        refine g_aload_n (nx := 50) hX 0 dX4_read_49 rfl rfl rfl ?_
        refine g_V0 (nx := 53) hX dX4_read_50 rfl mX4_91 yX4_advance_ok (c_X4_advance (p := 0) hn hl (Nat.zero_le lt) hb) (ga_dn hn rfl) rfl rfl rfl (by decide) rfl (Nat.le_of_ble_eq_true rfl) (Nat.le_of_ble_eq_true rfl) ?_
        rintro _ _ ⟨rfl, rfl⟩
        refine g_iconst (nx := 54) hX 0 dX4_read_53 rfl (by decide) ?_
        refine g_istore_n (nx := 55) hX 2 dX4_read_54 rfl rfl rfl ?_
        exact g_ls hL ⟨rfl, rfl, trivial⟩
      · exact absurd (by decide) h18
    | succ m ih =>
      intro k hk hk2
      have h1 := ih (k + 1) (by omega) (by omega)
      rw [← x_n0_up hk2] at h1
      refine g_iload_n (nx := 16) hX 2 dX4_read_15 rfl rfl rfl ?_
      refine g_bipush (nx := 18) hX 39 dX4_read_16 rfl (by decide) ?_
      refine g_icmp_ge (nx := 21) hX 34 dX4_read_18 (by decide) rfl (fun h18 => ?_) (fun h18 => ?_)
      · exact absurd ((nI_leI (a := 39) (by omega) (by omega)).mp h18) (by omega)
      · refine g_aload_n (nx := 22) hX 0 dX4_read_21 rfl rfl rfl ?_
        refine g_getfield (nx := 25) hX dX4_read_22 rfl fX4_48 (ga_dn hn rfl) rfl rfl ?_
        refine g_iload_n (nx := 26) hX 2 dX4_read_25 rfl rfl rfl ?_
        refine g_lconst (nx := 27) hX 0 dX4_read_26 rfl (by decide) ?_
        refine g_lastore (nx := 28) hX dX4_read_27 rfl (ga_dn hn rfl) rfl (ga_ix_of (j := k) rfl (by omega) (by omega)) ?_
        refine g_iinc (nx := 31) hX 2 (nI (k + 1)) dX4_read_28 rfl rfl rfl (nI_1 k) ?_
        refine g_goto (nx := 15) hX dX4_read_31 (by decide) ?_
        exact h1
  have n15 : x_n0k nm 15 = nm := by funext i; unfold x_n0k; rw [if_neg (by omega)]
  have h0 := nl 24 15 rfl (by omega)
  rw [n15] at h0
  refine g_aload_n (nx := 1) hX 0 dX4_read_0 rfl rfl rfl ?_
  refine g_aload_n (nx := 2) hX 1 dX4_read_1 rfl rfl rfl ?_
  refine g_putfield (nx := 5) hX dX4_read_2 rfl pX4_76 (ga_dn hn rfl) rfl rfl rfl rfl ?_
  refine g_aload_n (nx := 6) hX 0 dX4_read_5 rfl rfl rfl ?_
  refine g_getfield (nx := 9) hX dX4_read_6 rfl fX4_76 (ga_dn hn rfl) rfl rfl ?_
  refine g_V0 (nx := 12) hX dX4_read_9 rfl mX4_80 yX6_clear_ok (c_X6_clear (z_at := d_at) (z_tk := d_tk) (z_ta := d_ta) (z_tv := d_tv) (z_fd := d_fd) (z_fa := d_fa) hn) (ga_dn hn rfl) rfl rfl rfl (by decide) rfl (Nat.le_of_ble_eq_true rfl) (Nat.le_of_ble_eq_true rfl) ?_
  rintro _ _ ⟨rfl, rfl⟩
  refine g_bipush (nx := 14) hX 15 dX4_read_12 rfl (by decide) ?_
  refine g_istore_n (nx := 15) hX 2 dX4_read_14 rfl rfl rfl ?_
  exact g_ls h0 ⟨rfl, rfl, trivial⟩
end
