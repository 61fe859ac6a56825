/-! ===== statements, as the class reads them ===== -/
section
variable (tb : Nat → Int32) (lt : Nat) (nm : Nat → Int64)
def x_cm (t : Int32) : Nat := if t = 60 then 8 else if t = 62 then 9 else if t = 61 then 10 else 0
def x_fm (v : Int64) : Nat := if v = 16052 then 1 else if v = 20773 then 2 else 0
def R_out (q : Nat) : z_R := if x_tk tb lt (x_nx tb lt q) = 97 ∧ x_tv tb lt (x_nx tb lt q) = 294 then
    match R_S tb lt nm (x_nx tb lt (x_nx tb lt q)) with
    | .inl e => .inl e
    | .inr (q3, c3) => if x_cm (x_tk tb lt q3) = 0 then .inl (1, q3) else
      match R_S tb lt nm (x_nx tb lt q3) with
      | .inl e => .inl e
      | .inr (q5, c5) => .inr (q5, c3 ++ c5 ++ [(x_cm (x_tk tb lt q3), 0)])
  else .inl (1, x_nx tb lt q)
def R_giv (q : Nat) : z_R := match x_nE tb lt nm 0 q with
  | some e => .inl e
  | none => if x_tk tb lt (x_nx tb lt q) = 61 then R_S tb lt nm (x_nx tb lt (x_nx tb lt q)) else .inl (1, x_nx tb lt q)
def R_stm (q : Nat) : z_R := if x_tv tb lt q = 16052 then R_out tb lt nm q else if x_tv tb lt q = 20773 then R_S tb lt nm (x_nx tb lt q) else R_giv tb lt nm q
def R_one (q : Nat) : z_R := match R_stm tb lt nm q with
  | .inl e => .inl e
  | .inr (q', c) => if x_tk tb lt q' = 59 then .inr (x_nx tb lt q', c) else .inl (1, q')
end
/-- the names, and which statement is the total, behind a statement -/
def x_nm (nm : Nat → Int64) (k : Nat) (v : Int64) : Nat → Int64 := if x_fm v = 0 then vp_updL nm (15 + k) v else nm
def x_tt (tot : Int32) (k : Nat) (v : Int64) : Int32 := if x_fm v = 0 ∧ v = 21483564 then nI (15 + k) else tot
abbrev z_F : Type := (Nat × Nat) ⊕ (List (Nat × Nat) × List (Nat × Nat) × (Nat → Int64) × Int32)
def R_al (tb : Nat → Int32) (lt : Nat) : Nat → Nat → List (Nat × Nat) → List (Nat × Nat) → (Nat → Int64) → Int32 → z_F
  | 0, q, Ls, C, nm, tot => if x_tk tb lt q = -1 then .inr (Ls, C, nm, tot) else .inl (1, q)
  | m + 1, q, Ls, C, nm, tot => if x_tk tb lt q = -1 then .inr (Ls, C, nm, tot) else if x_tk tb lt q = 97 then
      match R_one tb lt nm q with
      | .inl e => .inl e
      | .inr (q', c) => R_al tb lt m q' (Ls ++ [((C ++ c).length, x_fm (x_tv tb lt q))]) (C ++ c) (x_nm nm Ls.length (x_tv tb lt q)) (x_tt tot Ls.length (x_tv tb lt q))
    else .inl (1, q)
def x_n0 (nm : Nat → Int64) : Nat → Int64 := fun i => if 15 ≤ i ∧ i < 39 then 0 else nm i
def R_rd (tb : Nat → Int32) (lt : Nat) (nm : Nat → Int64) : z_F := match R_al tb lt 24 (x_sk tb lt 0) [] [] (x_n0 nm) (-1) with
  | .inl e => .inl e
  | .inr (Ls, C, nm, tot) => if tot = -1 then .inl (4, lt) else .inr (Ls, C, nm, tot)
section
variable {tb : Nat → Int32} {lt : Nat} {nm : Nat → Int64} {q q' : Nat} {c' : List (Nat × Nat)}
theorem x_cm_tk {t : Int32} (h : ¬ x_cm t = 0) : ¬ t = -1 := fun z => h (by rw [z]; decide)
theorem ln_out : z_ln lt (R_out tb lt nm) := by
  intro q q' c' hq h
  unfold R_out at h
  have h1 := x_nx_le (tb := tb) hq
  have h2 := x_nx_le (tb := tb) h1.2
  split at h
  · split at h
    · cases h
    · rename_i q3 c3 hE
      have a1 := ln_S _ _ _ h2.2 hE
      split at h
      · cases h
      · rename_i hc
        have hlt := x_tk_in (x_cm_tk hc)
        have b1 := x_nx_s (tb := tb) hlt
        have b2 := x_nx_le (tb := tb) a1.2
        split at h
        · cases h
        · rename_i q5 c5 hE5
          have a5 := ln_S _ _ _ b2.2 hE5
          cases h
          simp only [List.length_append, List.length_cons, List.length_nil]
          omega
  · cases h
theorem ln_giv : z_ln lt (R_giv tb lt nm) := by
  intro q q' c' hq h
  unfold R_giv at h
  have h1 := x_nx_le (tb := tb) hq
  have h2 := x_nx_le (tb := tb) h1.2
  split at h
  · cases h
  · split at h
    · have a1 := ln_S _ _ _ h2.2 h
      omega
    · cases h
theorem ln_stm : z_ln lt (R_stm tb lt nm) := by
  intro q q' c' hq h
  unfold R_stm at h
  split at h
  · exact ln_out _ _ _ hq h
  · split at h
    · have h1 := x_nx_le (tb := tb) hq
      have a1 := ln_S _ _ _ h1.2 h
      omega
    · exact ln_giv _ _ _ hq h
theorem ln_one : z_ln lt (R_one tb lt nm) := by
  intro q q' c' hq h
  unfold R_one at h
  split at h
  · cases h
  · rename_i q1 c1 hE
    have a1 := ln_stm _ _ _ hq hE
    have h1 := x_nx_le (tb := tb) a1.2
    split at h
    · cases h; omega
    · cases h
end
section
variable {E : ga_E} {X : ga_X} {n : Nat} {c0 c1 c2 c3 c4 c5 c6 c7 c8 c9 c10 c11 c12 c13 c14 c15 c16 c17 c18 c19 c20 c21 c22 c23 c24 c25 c26 c27 c28 c29 c30 m79 m80 m81 m82 m83 m84 m85 m86 m87 m88 m89 m90 m91 m92 m93 m94 m95 m96 m97 m98 m99 m100 m101 m102 m103 m104 m105 : ga_C} {L1 L2 : List ga_C} {f : Nat → ga_C} {o_tp o_rd o_fe o_em o_sp o_ac o_td o_sm o_tt o_at o_sz o_fk o_fp o_nw o_md o_nt o_pl o_op d_at d_tk d_ta d_fd d_fa : Int32} {d_tv : Int64} {d_rl : Value}
variable {z_at z_tk z_ta z_fd z_fa z_sz z_tot z_sm top : Int32} {z_tv : Int64} {nm : Nat → Int64} {tb st_ od eo fo : Nat → Int32} {lt : Nat}
variable {q k pl sz sm : Nat} {C Ls : List (Nat × Nat)} {ta tot : Int32} {tv : Int64} {st : Nat → Int32} {nm_ : Nat → Int64}
theorem c_X6_closeStatement {a : Int32} (hn : 106 ≤ n) (hs : sm ≤ 24) : ga_Mx E 0 yX6_closeStatement cX6_closeStatement 2 none 0 0 [.ref 21, .int a] (n, (c0 :: k_T lt :: ga_i 600 tb :: c3 :: c4 :: c5 :: c6 :: c7 :: c8 :: c9 :: c10 :: c11 :: c12 :: k_D (.ref 21) (z_at) (z_tk) (z_ta) (z_tv) (z_fd) (z_fa) :: ga_l 39 (nm) :: c15 :: c16 :: c17 :: c18 :: c19 :: c20 :: k_U 21 top (z_sz) (z_tot) (nI sm) :: ga_i 600 (st_) :: ga_i 600 (od) :: ga_i 24 (eo) :: ga_i 24 (fo) :: L1), L2, f) none (n, (c0 :: k_T lt :: ga_i 600 tb :: c3 :: c4 :: c5 :: c6 :: c7 :: c8 :: c9 :: c10 :: c11 :: c12 :: k_D (.ref 21) (z_at) (z_tk) (z_ta) (z_tv) (z_fd) (z_fa) :: ga_l 39 (nm) :: c15 :: c16 :: c17 :: c18 :: c19 :: c20 :: k_U 21 top (z_sz) (z_tot) (nI (if sm < 24 then sm + 1 else sm)) :: ga_i 600 (st_) :: ga_i 600 (od) :: ga_i 24 (if sm < 24 then upd eo sm z_sz else eo) :: ga_i 24 (if sm < 24 then upd fo sm a else fo) :: L1), L2, f) := by
  refine ga_Mt.of (by decide) rfl (fun X hX hP => ?_)
  refine g_less [some (.ref 21), some (.int a)] ⟨rfl, rfl, trivial⟩ ?_
  refine g_aload_n (nx := 1) hX 0 dX6_closeStatement_0 rfl rfl rfl ?_
  refine g_getfield (nx := 4) hX dX6_closeStatement_1 rfl fX6_37 (ga_dn hn rfl) rfl rfl ?_
  refine g_bipush (nx := 6) hX 24 dX6_closeStatement_4 rfl (by decide) ?_
  refine g_icmp_ge (nx := 9) hX 42 dX6_closeStatement_6 (by decide) rfl (fun h6 => ?_) (fun h6 => ?_)
  · have h7 : ¬ sm < 24 := by have := (nI_leI (a := 24) (by omega) (by omega)).mp h6; omega
    exact g_return hX hP dX6_closeStatement_42 (Nat.le_of_ble_eq_true rfl) (Nat.le_of_ble_eq_true rfl) ⟨rfl, by rw [if_neg h7, if_neg h7, if_neg h7] <;> rfl⟩
  · have h7 : sm < 24 := Nat.lt_of_not_le (fun z => h6 (nI_le (a := 24) z (by omega)))
    refine g_aload_n (nx := 10) hX 0 dX6_closeStatement_9 rfl rfl rfl ?_
    refine g_getfield (nx := 13) hX dX6_closeStatement_10 rfl fX6_23 (ga_dn hn rfl) rfl rfl ?_
    refine g_aload_n (nx := 14) hX 0 dX6_closeStatement_13 rfl rfl rfl ?_
    refine g_getfield (nx := 17) hX dX6_closeStatement_14 rfl fX6_37 (ga_dn hn rfl) rfl rfl ?_
    refine g_iload_n (nx := 18) hX 1 dX6_closeStatement_17 rfl rfl rfl ?_
    refine g_iastore (nx := 19) hX dX6_closeStatement_18 rfl (ga_dn hn rfl) rfl (ga_ix_of (j := sm) rfl (by omega) (by omega)) ?_
    refine g_aload_n (nx := 20) hX 0 dX6_closeStatement_19 rfl rfl rfl ?_
    refine g_getfield (nx := 23) hX dX6_closeStatement_20 rfl fX6_20 (ga_dn hn rfl) rfl rfl ?_
    refine g_aload_n (nx := 24) hX 0 dX6_closeStatement_23 rfl rfl rfl ?_
    refine g_getfield (nx := 27) hX dX6_closeStatement_24 rfl fX6_37 (ga_dn hn rfl) rfl rfl ?_
    refine g_aload_n (nx := 28) hX 0 dX6_closeStatement_27 rfl rfl rfl ?_
    refine g_getfield (nx := 31) hX dX6_closeStatement_28 rfl fX6_34 (ga_dn hn rfl) rfl rfl ?_
    refine g_iastore (nx := 32) hX dX6_closeStatement_31 rfl (ga_dn hn rfl) rfl (ga_ix_of (j := sm) rfl (by omega) (by omega)) ?_
    refine g_aload_n (nx := 33) hX 0 dX6_closeStatement_32 rfl rfl rfl ?_
    refine g_dup (nx := 34) hX dX6_closeStatement_33 rfl rfl ?_
    refine g_getfield (nx := 37) hX dX6_closeStatement_34 rfl fX6_37 (ga_dn hn rfl) rfl rfl ?_
    refine g_iconst (nx := 38) hX 1 dX6_closeStatement_37 rfl (by decide) ?_
    refine g_iadd (nx := 39) hX dX6_closeStatement_38 rfl ?_
    rw [nI_1]
    refine g_putfield (nx := 42) hX dX6_closeStatement_39 rfl pX6_37 (ga_dn hn rfl) rfl rfl rfl rfl ?_
    exact g_return hX hP dX6_closeStatement_42 (Nat.le_of_ble_eq_true rfl) (Nat.le_of_ble_eq_true rfl) ⟨rfl, by rw [if_pos h7, if_pos h7, if_pos h7] <;> rfl⟩
theorem w_clo {a : Nat} (hn : 106 ≤ n) (hs : Ls.length < 24) : ga_Mx E 0 yX6_closeStatement cX6_closeStatement 2 none 0 0 [.ref 21, .int (nI a)] (n, (c0 :: k_T lt :: ga_i 600 tb :: c3 :: c4 :: c5 :: c6 :: c7 :: c8 :: c9 :: c10 :: c11 :: c12 :: k_D (.ref 21) (nI (x_te tb lt (q))) (x_tk tb lt (q)) (nI (q)) (x_tv tb lt (q)) (0) (-1) :: ga_l 39 (nm) :: c15 :: c16 :: c17 :: c18 :: c19 :: c20 :: k_U 21 top (nI (C).length) (tot) (nI (Ls).length) :: ga_i 600 (z_st (C) st_) :: ga_i 600 (z_od (C) od) :: ga_i 24 (z_st (Ls) eo) :: ga_i 24 (z_od (Ls) fo) :: L1), L2, f) none (n, (c0 :: k_T lt :: ga_i 600 tb :: c3 :: c4 :: c5 :: c6 :: c7 :: c8 :: c9 :: c10 :: c11 :: c12 :: k_D (.ref 21) (nI (x_te tb lt (q))) (x_tk tb lt (q)) (nI (q)) (x_tv tb lt (q)) (0) (-1) :: ga_l 39 (nm) :: c15 :: c16 :: c17 :: c18 :: c19 :: c20 :: k_U 21 top (nI (C).length) (tot) (nI (Ls ++ [(C.length, a)]).length) :: ga_i 600 (z_st (C) st_) :: ga_i 600 (z_od (C) od) :: ga_i 24 (z_st (Ls ++ [(C.length, a)]) eo) :: ga_i 24 (z_od (Ls ++ [(C.length, a)]) fo) :: L1), L2, f) := by
  refine ga_Mt.mono ?_ (c_X6_closeStatement hn (Nat.le_of_lt hs))
  rintro r M ⟨rfl, rfl⟩
  refine ⟨rfl, ?_⟩
  rw [if_pos hs, if_pos hs, if_pos hs, z_st_add (y := a), z_od_add (x := C.length), List.length_append]
  rfl
theorem x_clo {a : Int32} (hn : 106 ≤ n) (hs : sm ≤ 24) : ga_Mt E 0 yX6_closeStatement cX6_closeStatement 2 none 0 0 [.ref 21, .int a] (n, (c0 :: k_T lt :: ga_i 600 tb :: c3 :: c4 :: c5 :: c6 :: c7 :: c8 :: c9 :: c10 :: c11 :: c12 :: k_D (.ref 21) (nI lt) (-1) (ta) (tv) (nI k) (nI pl) :: ga_l 39 (nm) :: c15 :: c16 :: c17 :: c18 :: c19 :: c20 :: k_U 21 top (nI sz) (z_tot) (nI sm) :: ga_i 600 (st) :: ga_i 600 (od) :: ga_i 24 (eo) :: ga_i 24 (fo) :: L1), L2, f) (fun r M => r = none ∧ ∃ sm eo fo, sm ≤ 24 ∧ M = (n, (c0 :: k_T lt :: ga_i 600 tb :: c3 :: c4 :: c5 :: c6 :: c7 :: c8 :: c9 :: c10 :: c11 :: c12 :: k_D (.ref 21) (nI lt) (-1) (ta) (tv) (nI k) (nI pl) :: ga_l 39 (nm) :: c15 :: c16 :: c17 :: c18 :: c19 :: c20 :: k_U 21 top (nI sz) (z_tot) (nI sm) :: ga_i 600 (st) :: ga_i 600 (od) :: ga_i 24 (eo) :: ga_i 24 (fo) :: L1), L2, f)) := by
  refine ga_Mt.mono ?_ (c_X6_closeStatement hn hs)
  rintro r M ⟨rfl, rfl⟩
  refine ⟨rfl, _, _, _, ?_, rfl⟩
  split <;> omega
theorem c_X6_setTotal {a : Int32} (hn : 106 ≤ n) : ga_Mx E 0 yX6_setTotal cX6_setTotal 2 none 0 0 [.ref 21, .int a] (n, (c0 :: k_T lt :: ga_i 600 tb :: c3 :: c4 :: c5 :: c6 :: c7 :: c8 :: c9 :: c10 :: c11 :: c12 :: k_D (.ref 21) (z_at) (z_tk) (z_ta) (z_tv) (z_fd) (z_fa) :: ga_l 39 (nm) :: c15 :: c16 :: c17 :: c18 :: c19 :: c20 :: k_U 21 top (z_sz) (z_tot) (z_sm) :: ga_i 600 (st_) :: ga_i 600 (od) :: ga_i 24 (eo) :: ga_i 24 (fo) :: L1), L2, f) none (n, (c0 :: k_T lt :: ga_i 600 tb :: c3 :: c4 :: c5 :: c6 :: c7 :: c8 :: c9 :: c10 :: c11 :: c12 :: k_D (.ref 21) (z_at) (z_tk) (z_ta) (z_tv) (z_fd) (z_fa) :: ga_l 39 (nm) :: c15 :: c16 :: c17 :: c18 :: c19 :: c20 :: k_U 21 top (z_sz) (a) (z_sm) :: ga_i 600 (st_) :: ga_i 600 (od) :: ga_i 24 (eo) :: ga_i 24 (fo) :: L1), L2, f) := by
  refine ga_Mt.of (by decide) rfl (fun X hX hP => ?_)
  refine g_less [some (.ref 21), some (.int a)] ⟨rfl, rfl, trivial⟩ ?_
  refine g_aload_n (nx := 1) hX 0 dX6_setTotal_0 rfl rfl rfl ?_
  refine g_iload_n (nx := 2) hX 1 dX6_setTotal_1 rfl rfl rfl ?_
  refine g_putfield (nx := 5) hX dX6_setTotal_2 rfl pX6_30 (ga_dn hn rfl) rfl rfl rfl rfl ?_
  exact g_return hX hP dX6_setTotal_5 (Nat.le_of_ble_eq_true rfl) (Nat.le_of_ble_eq_true rfl) ⟨rfl, rfl⟩
theorem c_X6_hasTotal (hn : 106 ≤ n) : ga_Mx E 0 yX6_hasTotal cX6_hasTotal 1 (some .boolean) 0 0 [.ref 21] (n, (c0 :: k_T lt :: ga_i 600 tb :: c3 :: c4 :: c5 :: c6 :: c7 :: c8 :: c9 :: c10 :: c11 :: c12 :: k_D (.ref 21) (z_at) (z_tk) (z_ta) (z_tv) (z_fd) (z_fa) :: ga_l 39 (nm) :: c15 :: c16 :: c17 :: c18 :: c19 :: c20 :: k_U 21 top (z_sz) (z_tot) (z_sm) :: ga_i 600 (st_) :: ga_i 600 (od) :: ga_i 24 (eo) :: ga_i 24 (fo) :: L1), L2, f) (some (.int (if z_tot = -1 then 0 else 1))) (n, (c0 :: k_T lt :: ga_i 600 tb :: c3 :: c4 :: c5 :: c6 :: c7 :: c8 :: c9 :: c10 :: c11 :: c12 :: k_D (.ref 21) (z_at) (z_tk) (z_ta) (z_tv) (z_fd) (z_fa) :: ga_l 39 (nm) :: c15 :: c16 :: c17 :: c18 :: c19 :: c20 :: k_U 21 top (z_sz) (z_tot) (z_sm) :: ga_i 600 (st_) :: ga_i 600 (od) :: ga_i 24 (eo) :: ga_i 24 (fo) :: L1), L2, f) := by
  refine ga_Mt.of (by decide) rfl (fun X hX hP => ?_)
  refine g_less [some (.ref 21)] ⟨rfl, trivial⟩ ?_
  refine g_aload_n (nx := 1) hX 0 dX6_hasTotal_0 rfl rfl rfl ?_
  refine g_getfield (nx := 4) hX dX6_hasTotal_1 rfl fX6_30 (ga_dn hn rfl) rfl rfl ?_
  refine g_iconst (nx := 5) hX (-1) dX6_hasTotal_4 rfl (by decide) ?_
  refine g_icmp_eq (nx := 8) hX 12 dX6_hasTotal_5 (by decide) rfl (fun h5 => ?_) (fun h5 => ?_)
  · refine g_iconst (nx := 13) hX 0 dX6_hasTotal_12 rfl (by decide) ?_
    exact g_ireturn hX hP dX6_hasTotal_13 rfl (Nat.le_of_ble_eq_true rfl) (Nat.le_of_ble_eq_true rfl) ⟨by rw [if_pos h5], rfl⟩
  · refine g_iconst (nx := 9) hX 1 dX6_hasTotal_8 rfl (by decide) ?_
    refine g_goto (nx := 13) hX dX6_hasTotal_9 (by decide) ?_
    exact g_ireturn hX hP dX6_hasTotal_13 rfl (Nat.le_of_ble_eq_true rfl) (Nat.le_of_ble_eq_true rfl) ⟨by rw [if_neg h5], rfl⟩
theorem c_X6_clear (hn : 106 ≤ n) : ga_Mx E 0 yX6_clear cX6_clear 1 none 0 0 [.ref 21] (n, (c0 :: k_T lt :: ga_i 600 tb :: c3 :: c4 :: c5 :: c6 :: c7 :: c8 :: c9 :: c10 :: c11 :: c12 :: k_D (.ref 21) (z_at) (z_tk) (z_ta) (z_tv) (z_fd) (z_fa) :: ga_l 39 (nm) :: c15 :: c16 :: c17 :: c18 :: c19 :: c20 :: k_U 21 top (z_sz) (z_tot) (z_sm) :: ga_i 600 (st_) :: ga_i 600 (od) :: ga_i 24 (eo) :: ga_i 24 (fo) :: L1), L2, f) none (n, (c0 :: k_T lt :: ga_i 600 tb :: c3 :: c4 :: c5 :: c6 :: c7 :: c8 :: c9 :: c10 :: c11 :: c12 :: k_D (.ref 21) (z_at) (z_tk) (z_ta) (z_tv) (z_fd) (z_fa) :: ga_l 39 (nm) :: c15 :: c16 :: c17 :: c18 :: c19 :: c20 :: k_U 21 top (0) (-1) (0) :: ga_i 600 (st_) :: ga_i 600 (od) :: ga_i 24 (eo) :: ga_i 24 (fo) :: L1), L2, f) := by
  refine ga_Mt.of (by decide) rfl (fun X hX hP => ?_)
  refine g_less [some (.ref 21)] ⟨rfl, trivial⟩ ?_
  refine g_aload_n (nx := 1) hX 0 dX6_clear_0 rfl rfl rfl ?_
  refine g_iconst (nx := 2) hX 0 dX6_clear_1 rfl (by decide) ?_
  refine g_putfield (nx := 5) hX dX6_clear_2 rfl pX6_34 (ga_dn hn rfl) rfl rfl rfl rfl ?_
  refine g_aload_n (nx := 6) hX 0 dX6_clear_5 rfl rfl rfl ?_
  refine g_iconst (nx := 7) hX 0 dX6_clear_6 rfl (by decide) ?_
  refine g_putfield (nx := 10) hX dX6_clear_7 rfl pX6_37 (ga_dn hn rfl) rfl rfl rfl rfl ?_
  refine g_aload_n (nx := 11) hX 0 dX6_clear_10 rfl rfl rfl ?_
  refine g_iconst (nx := 12) hX (-1) dX6_clear_11 rfl (by decide) ?_
  refine g_putfield (nx := 15) hX dX6_clear_12 rfl pX6_30 (ga_dn hn rfl) rfl rfl rfl rfl ?_
  exact g_return hX hP dX6_clear_15 (Nat.le_of_ble_eq_true rfl) (Nat.le_of_ble_eq_true rfl) ⟨rfl, rfl⟩
theorem sw_60 (x : Int32) : (x.toInt < 60 ∨ 62 < x.toInt) ∨ x = 60 ∨ x = 61 ∨ x = 62 := by
  by_cases h : x.toInt < 60 ∨ 62 < x.toInt
  · exact Or.inl h
  · right
    have e60 : (60 : Int32).toInt = 60 := by decide
    have e61 : (61 : Int32).toInt = 61 := by decide
    have e62 : (62 : Int32).toInt = 62 := by decide
    rcases (by omega : x.toInt = 60 ∨ x.toInt = 61 ∨ x.toInt = 62) with g | g | g
    · left; exact Int32.toInt_inj.mp (g.trans e60.symm)
    · right; left; exact Int32.toInt_inj.mp (g.trans e61.symm)
    · right; right; exact Int32.toInt_inj.mp (g.trans e62.symm)
theorem x_cm_0 {t : Int32} (h : t.toInt < 60 ∨ 62 < t.toInt) : x_cm t = 0 := by
  unfold x_cm
  rw [if_neg (fun z => by rw [z] at h; revert h; decide), if_neg (fun z => by rw [z] at h; revert h; decide), if_neg (fun z => by rw [z] at h; revert h; decide)]
theorem w_cmp (hn : 106 ≤ n) (hC : C.length ≤ 600) : ga_Mt E 1 yX4_comparison cX4_comparison 1 (some .int) 0 0 [.ref 13] (n, (c0 :: k_T lt :: ga_i 600 tb :: c3 :: c4 :: c5 :: c6 :: c7 :: c8 :: c9 :: c10 :: c11 :: c12 :: k_D (.ref 21) (nI (x_te tb lt (q))) (x_tk tb lt (q)) (nI (q)) (x_tv tb lt (q)) (0) (-1) :: ga_l 39 (nm) :: c15 :: c16 :: c17 :: c18 :: c19 :: c20 :: k_U 21 top (nI (C).length) (z_tot) (z_sm) :: ga_i 600 (z_st (C) st_) :: ga_i 600 (z_od (C) od) :: ga_i 24 (eo) :: ga_i 24 (fo) :: L1), L2, f) (fun r M => (x_cm (x_tk tb lt q) = 0 ∧ r = some (.int 10) ∧ (∃ ta tv sz st od, sz ≤ 600 ∧ M = (n, (c0 :: k_T lt :: ga_i 600 tb :: c3 :: c4 :: c5 :: c6 :: c7 :: c8 :: c9 :: c10 :: c11 :: c12 :: k_D (.ref 21) (nI lt) (-1) (ta) (tv) (nI (1)) (nI (q)) :: ga_l 39 (nm) :: c15 :: c16 :: c17 :: c18 :: c19 :: c20 :: k_U 21 top (nI sz) (z_tot) (z_sm) :: ga_i 600 (st) :: ga_i 600 (od) :: ga_i 24 (eo) :: ga_i 24 (fo) :: L1), L2, f))) ∨ (¬ x_cm (x_tk tb lt q) = 0 ∧ r = some (.int (nI (x_cm (x_tk tb lt q)))) ∧ M = (n, (c0 :: k_T lt :: ga_i 600 tb :: c3 :: c4 :: c5 :: c6 :: c7 :: c8 :: c9 :: c10 :: c11 :: c12 :: k_D (.ref 21) (nI (x_te tb lt (q))) (x_tk tb lt (q)) (nI (q)) (x_tv tb lt (q)) (0) (-1) :: ga_l 39 (nm) :: c15 :: c16 :: c17 :: c18 :: c19 :: c20 :: k_U 21 top (nI (C).length) (z_tot) (z_sm) :: ga_i 600 (z_st (C) st_) :: ga_i 600 (z_od (C) od) :: ga_i 24 (eo) :: ga_i 24 (fo) :: L1), L2, f))) := by
  have key : ∀ t, x_tk tb lt q = t → ga_Mt E 1 yX4_comparison cX4_comparison 1 (some .int) 0 0 [.ref 13] (n, (c0 :: k_T lt :: ga_i 600 tb :: c3 :: c4 :: c5 :: c6 :: c7 :: c8 :: c9 :: c10 :: c11 :: c12 :: k_D (.ref 21) (nI (x_te tb lt (q))) (t) (nI (q)) (x_tv tb lt (q)) (0) (-1) :: ga_l 39 (nm) :: c15 :: c16 :: c17 :: c18 :: c19 :: c20 :: k_U 21 top (nI (C).length) (z_tot) (z_sm) :: ga_i 600 (z_st (C) st_) :: ga_i 600 (z_od (C) od) :: ga_i 24 (eo) :: ga_i 24 (fo) :: L1), L2, f) (fun r M => (x_cm t = 0 ∧ r = some (.int 10) ∧ (∃ ta tv sz st od, sz ≤ 600 ∧ M = (n, (c0 :: k_T lt :: ga_i 600 tb :: c3 :: c4 :: c5 :: c6 :: c7 :: c8 :: c9 :: c10 :: c11 :: c12 :: k_D (.ref 21) (nI lt) (-1) (ta) (tv) (nI (1)) (nI (q)) :: ga_l 39 (nm) :: c15 :: c16 :: c17 :: c18 :: c19 :: c20 :: k_U 21 top (nI sz) (z_tot) (z_sm) :: ga_i 600 (st) :: ga_i 600 (od) :: ga_i 24 (eo) :: ga_i 24 (fo) :: L1), L2, f))) ∨ (¬ x_cm t = 0 ∧ r = some (.int (nI (x_cm t))) ∧ M = (n, (c0 :: k_T lt :: ga_i 600 tb :: c3 :: c4 :: c5 :: c6 :: c7 :: c8 :: c9 :: c10 :: c11 :: c12 :: k_D (.ref 21) (nI (x_te tb lt (q))) (t) (nI (q)) (x_tv tb lt (q)) (0) (-1) :: ga_l 39 (nm) :: c15 :: c16 :: c17 :: c18 :: c19 :: c20 :: k_U 21 top (nI (C).length) (z_tot) (z_sm) :: ga_i 600 (z_st (C) st_) :: ga_i 600 (z_od (C) od) :: ga_i 24 (eo) :: ga_i 24 (fo) :: L1), L2, f))) := by
    intro t ht
    refine ga_Mt.of (by decide) rfl (fun X hX hP => ?_)
    refine g_less [some (.ref 13)] ⟨rfl, trivial⟩ ?_
    refine g_aload_n (nx := 1) hX 0 dX4_comparison_0 rfl rfl rfl ?_
    refine g_getfield (nx := 4) hX dX4_comparison_1 rfl fX4_94 (ga_dn hn rfl) rfl rfl ?_
    rcases sw_60 t with hsw | rfl | rfl | rfl
    · refine g_tableOut hX 41 dX4_comparison_4 hsw (by decide) ?_
      refine g_aload_n (nx := 42) hX 0 dX4_comparison_41 rfl rfl rfl ?_
      refine g_iconst (nx := 43) hX 1 dX4_comparison_42 rfl (by decide) ?_
      refine g_aload_n (nx := 44) hX 0 dX4_comparison_43 rfl rfl rfl ?_
      refine g_getfield (nx := 47) hX dX4_comparison_44 rfl fX4_97 (ga_dn hn rfl) rfl rfl ?_
      refine g_V2 (nx := 50) hX dX4_comparison_47 rfl mX4_100 yX4_fail_ok (c_X4_fail hn) (ga_dn hn rfl) rfl rfl rfl (by decide) rfl (Nat.le_of_ble_eq_true rfl) (Nat.le_of_ble_eq_true rfl) ?_
      rintro _ _ ⟨rfl, rfl⟩
      refine g_bipush (nx := 52) hX 10 dX4_comparison_50 rfl (by decide) ?_
      exact g_ireturn hX hP dX4_comparison_52 rfl (Nat.le_of_ble_eq_true rfl) (Nat.le_of_ble_eq_true rfl) (Or.inl ⟨x_cm_0 hsw, rfl, _, _, C.length, _, _, hC, rfl⟩)
    · refine g_tableIn hX 32 dX4_comparison_4 (by decide) (by decide) rfl (by decide) ?_
      refine g_bipush (nx := 34) hX 8 dX4_comparison_32 rfl (by decide) ?_
      exact g_ireturn hX hP dX4_comparison_34 rfl (Nat.le_of_ble_eq_true rfl) (Nat.le_of_ble_eq_true rfl) (Or.inr ⟨by decide, rfl, rfl⟩)
    · refine g_tableIn hX 38 dX4_comparison_4 (by decide) (by decide) rfl (by decide) ?_
      refine g_bipush (nx := 40) hX 10 dX4_comparison_38 rfl (by decide) ?_
      exact g_ireturn hX hP dX4_comparison_40 rfl (Nat.le_of_ble_eq_true rfl) (Nat.le_of_ble_eq_true rfl) (Or.inr ⟨by decide, rfl, rfl⟩)
    · refine g_tableIn hX 35 dX4_comparison_4 (by decide) (by decide) rfl (by decide) ?_
      refine g_bipush (nx := 37) hX 9 dX4_comparison_35 rfl (by decide) ?_
      exact g_ireturn hX hP dX4_comparison_37 rfl (Nat.le_of_ble_eq_true rfl) (Nat.le_of_ble_eq_true rfl) (Or.inr ⟨by decide, rfl, rfl⟩)
  exact key _ rfl
theorem x_cmp (hn : 106 ≤ n) (hk : 1 ≤ k ∧ k ≤ 4) : ga_Mx E 1 yX4_comparison cX4_comparison 1 (some .int) 0 0 [.ref 13] (n, (c0 :: k_T lt :: ga_i 600 tb :: c3 :: c4 :: c5 :: c6 :: c7 :: c8 :: c9 :: c10 :: c11 :: c12 :: k_D (.ref 21) (nI lt) (-1) (ta) (tv) (nI k) (nI pl) :: ga_l 39 (nm) :: c15 :: c16 :: c17 :: c18 :: c19 :: c20 :: k_U 21 top (nI sz) (z_tot) (z_sm) :: ga_i 600 (st) :: ga_i 600 (od) :: ga_i 24 (eo) :: ga_i 24 (fo) :: L1), L2, f) (some (.int 10)) (n, (c0 :: k_T lt :: ga_i 600 tb :: c3 :: c4 :: c5 :: c6 :: c7 :: c8 :: c9 :: c10 :: c11 :: c12 :: k_D (.ref 21) (nI lt) (-1) (ta) (tv) (nI k) (nI pl) :: ga_l 39 (nm) :: c15 :: c16 :: c17 :: c18 :: c19 :: c20 :: k_U 21 top (nI sz) (z_tot) (z_sm) :: ga_i 600 (st) :: ga_i 600 (od) :: ga_i 24 (eo) :: ga_i 24 (fo) :: L1), L2, f) := by
  refine ga_Mt.of (by decide) rfl (fun X hX hP => ?_)
  refine g_less [some (.ref 13)] ⟨rfl, trivial⟩ ?_
  refine g_aload_n (nx := 1) hX 0 dX4_comparison_0 rfl rfl rfl ?_
  refine g_getfield (nx := 4) hX dX4_comparison_1 rfl fX4_94 (ga_dn hn rfl) rfl rfl ?_
  refine g_tableOut hX 41 dX4_comparison_4 (by decide) (by decide) ?_
  refine g_aload_n (nx := 42) hX 0 dX4_comparison_41 rfl rfl rfl ?_
  refine g_iconst (nx := 43) hX 1 dX4_comparison_42 rfl (by decide) ?_
  refine g_aload_n (nx := 44) hX 0 dX4_comparison_43 rfl rfl rfl ?_
  refine g_getfield (nx := 47) hX dX4_comparison_44 rfl fX4_97 (ga_dn hn rfl) rfl rfl ?_
  refine g_V2 (nx := 50) hX dX4_comparison_47 rfl mX4_100 yX4_fail_ok (x_fail hn hk) (ga_dn hn rfl) rfl rfl rfl (by decide) rfl (Nat.le_of_ble_eq_true rfl) (Nat.le_of_ble_eq_true rfl) ?_
  rintro _ _ ⟨rfl, rfl⟩
  refine g_bipush (nx := 52) hX 10 dX4_comparison_50 rfl (by decide) ?_
  exact g_ireturn hX hP dX4_comparison_52 rfl (Nat.le_of_ble_eq_true rfl) (Nat.le_of_ble_eq_true rfl) ⟨rfl, rfl⟩
end
