/-! ===== the reference: a statement ===== -/
section
variable {E : ga_E} {X : ga_X} {n : Nat} {c0 c1 c2 c3 c4 c5 c6 c7 c8 c9 c10 c11 c12 c13 c14 c15 c16 c17 c18 c19 c20 c21 c22 c23 c24 c25 c26 c27 c28 c29 c30 m79 m80 m81 m82 m83 m84 m85 m86 m87 m88 m89 m90 m91 m92 m93 m94 m95 m96 m97 m98 m99 m100 m101 m102 m103 m104 m105 : ga_C} {L1 L2 : List ga_C} {f : Nat → ga_C} {o_tp o_rd o_fe o_em o_sp o_ac o_td o_sm o_tt o_at o_sz o_fk o_fp o_nw o_md o_nt o_pl o_op d_at d_tk d_ta d_fd d_fa : Int32} {d_tv : Int64} {d_rl : Value}
variable {r_at r_fk r_fp r_nt r_pl r_op : Int32} {nw md lt : Nat} {tb ns nb sg na nz pi cm : Nat → Int32}
variable {p q d k pl m : Nat} {C : List (Nat × Nat)} {nm : Nat → Int64} {Post : Option Value → ga_M → Prop}
theorem s_cmp {c : Int32} {C : List (Nat × Nat)} {k : Nat} (hX : ga_B E d yX11_statement cX11_statement 5 0 0 X) (hd : 4 ≤ d) (hn : 106 ≤ n) (hC : C.length < 650) (hc : x_cm c = k) (hk : ¬ k = 0)
    (kont : ga_G E X 0 0 427 [some (.ref 79), none, none, none, none] [] (n, L1, ((m_O o_tp o_rd o_fe o_em o_sp o_ac o_td o_sm o_tt (r_at) (nI lt) (r_fk) (r_fp) (nI nw) (nI (C ++ [(k, 0)]).length) (r_nt) (r_pl) (r_op)) :: ga_i 600 tb :: m81 :: m82 :: m83 :: m84 :: m85 :: m86 :: m87 :: m88 :: m89 :: m90 :: m91 :: m92 :: m93 :: m94 :: m95 :: ga_i 25 (ns) :: ga_i 26 (nb) :: ga_i 1300 (r_sg (C ++ [(k, 0)]) sg) :: ga_i 250 (na) :: ga_i 25 (nz) :: ga_i 40 (pi) :: ga_z 40 (cm) :: L2), f)) : ga_G E X 0 0 240 [some (.ref 79), none, none, none, some (.int c)] [] (n, L1, ((m_O o_tp o_rd o_fe o_em o_sp o_ac o_td o_sm o_tt (r_at) (nI lt) (r_fk) (r_fp) (nI nw) (nI C.length) (r_nt) (r_pl) (r_op)) :: ga_i 600 tb :: m81 :: m82 :: m83 :: m84 :: m85 :: m86 :: m87 :: m88 :: m89 :: m90 :: m91 :: m92 :: m93 :: m94 :: m95 :: ga_i 25 (ns) :: ga_i 26 (nb) :: ga_i 1300 (r_sg C sg) :: ga_i 250 (na) :: ga_i 25 (nz) :: ga_i 40 (pi) :: ga_z 40 (cm) :: L2), f) := by
  subst hc
  rcases x_cm_c (c := c) with ⟨a, b⟩ | ⟨a1, a, b⟩ | ⟨a1, a2, a, b⟩ | ⟨a1, a2, a3, b⟩
  · rw [b] at kont
    refine g_aload_n (nx := 241) hX 0 dX11_statement_240 rfl rfl rfl ?_
    refine g_iload (nx := 243) hX 4 dX11_statement_241 rfl rfl ?_
    refine g_bipush (nx := 245) hX 60 dX11_statement_243 rfl (by decide) ?_
    refine g_icmp_ne (nx := 248) hX 253 dX11_statement_245 (by decide) rfl (fun h245 => ?_) (fun h245 => ?_)
    · exact absurd a h245
    · refine g_bipush (nx := 250) hX 9 dX11_statement_248 rfl (by decide) ?_
      refine g_goto (nx := 267) hX dX11_statement_250 (by decide) ?_
      refine g_iconst (nx := 268) hX 0 dX11_statement_267 rfl (by decide) ?_
      refine g_V2 (nx := 271) hX dX11_statement_268 rfl mX11_244 yX11_add_ok (m_addx (C := C) (x := (8, 0)) hn hC rfl rfl) (ga_dn hn rfl) rfl rfl rfl (by omega) rfl (Nat.le_of_ble_eq_true rfl) (Nat.le_of_ble_eq_true rfl) ?_
      rintro _ _ ⟨rfl, rfl⟩
      refine g_goto (nx := 427) hX dX11_statement_271 (by decide) ?_
      exact g_ls kont ⟨rfl, trivial⟩
  · rw [b] at kont
    refine g_aload_n (nx := 241) hX 0 dX11_statement_240 rfl rfl rfl ?_
    refine g_iload (nx := 243) hX 4 dX11_statement_241 rfl rfl ?_
    refine g_bipush (nx := 245) hX 60 dX11_statement_243 rfl (by decide) ?_
    refine g_icmp_ne (nx := 248) hX 253 dX11_statement_245 (by decide) rfl (fun h245 => ?_) (fun h245 => ?_)
    · refine g_iload (nx := 255) hX 4 dX11_statement_253 rfl rfl ?_
      refine g_bipush (nx := 257) hX 62 dX11_statement_255 rfl (by decide) ?_
      refine g_icmp_ne (nx := 260) hX 265 dX11_statement_257 (by decide) rfl (fun h257 => ?_) (fun h257 => ?_)
      · exact absurd a h257
      · refine g_bipush (nx := 262) hX 10 dX11_statement_260 rfl (by decide) ?_
        refine g_goto (nx := 267) hX dX11_statement_262 (by decide) ?_
        refine g_iconst (nx := 268) hX 0 dX11_statement_267 rfl (by decide) ?_
        refine g_V2 (nx := 271) hX dX11_statement_268 rfl mX11_244 yX11_add_ok (m_addx (C := C) (x := (9, 0)) hn hC rfl rfl) (ga_dn hn rfl) rfl rfl rfl (by omega) rfl (Nat.le_of_ble_eq_true rfl) (Nat.le_of_ble_eq_true rfl) ?_
        rintro _ _ ⟨rfl, rfl⟩
        refine g_goto (nx := 427) hX dX11_statement_271 (by decide) ?_
        exact g_ls kont ⟨rfl, trivial⟩
    · exact absurd h245 a1
  · rw [b] at kont
    refine g_aload_n (nx := 241) hX 0 dX11_statement_240 rfl rfl rfl ?_
    refine g_iload (nx := 243) hX 4 dX11_statement_241 rfl rfl ?_
    refine g_bipush (nx := 245) hX 60 dX11_statement_243 rfl (by decide) ?_
    refine g_icmp_ne (nx := 248) hX 253 dX11_statement_245 (by decide) rfl (fun h245 => ?_) (fun h245 => ?_)
    · refine g_iload (nx := 255) hX 4 dX11_statement_253 rfl rfl ?_
      refine g_bipush (nx := 257) hX 62 dX11_statement_255 rfl (by decide) ?_
      refine g_icmp_ne (nx := 260) hX 265 dX11_statement_257 (by decide) rfl (fun h257 => ?_) (fun h257 => ?_)
      · refine g_bipush (nx := 267) hX 11 dX11_statement_265 rfl (by decide) ?_
        refine g_iconst (nx := 268) hX 0 dX11_statement_267 rfl (by decide) ?_
        refine g_V2 (nx := 271) hX dX11_statement_268 rfl mX11_244 yX11_add_ok (m_addx (C := C) (x := (10, 0)) hn hC rfl rfl) (ga_dn hn rfl) rfl rfl rfl (by omega) rfl (Nat.le_of_ble_eq_true rfl) (Nat.le_of_ble_eq_true rfl) ?_
        rintro _ _ ⟨rfl, rfl⟩
        refine g_goto (nx := 427) hX dX11_statement_271 (by decide) ?_
        exact g_ls kont ⟨rfl, trivial⟩
      · exact absurd h257 a2
    · exact absurd h245 a1
  · exact absurd b hk
theorem e_240 {c : Int32} (hX : ga_B E d yX11_statement cX11_statement 5 0 0 X) (hP : ga_P E none 0 0 Post X) (hd : 4 ≤ d) (hn : 106 ≤ n) (hk : 1 ≤ k ∧ k ≤ 4) (hp : p ≤ 700) (hm : md < 650) (hI : ∀ M, (∃ p pl_ op_ nw md r_nt sg pi cm ns nb na nz, p ≤ 700 ∧ M = (n, L1, ((m_O o_tp o_rd o_fe o_em o_sp o_ac o_td o_sm o_tt (nI p) (nI lt) (nI (k)) (nI (pl)) (nI nw) (nI md) (r_nt) (pl_) (op_)) :: ga_i 600 tb :: m81 :: m82 :: m83 :: m84 :: m85 :: m86 :: m87 :: m88 :: m89 :: m90 :: m91 :: m92 :: m93 :: m94 :: m95 :: ga_i 25 (ns) :: ga_i 26 (nb) :: ga_i 1300 (sg) :: ga_i 250 (na) :: ga_i 25 (nz) :: ga_i 40 (pi) :: ga_z 40 (cm) :: L2), f)) → Post none M) : ga_G E X 0 0 240 [some (.ref 79), none, none, none, some (.int c)] [] (n, L1, ((m_O o_tp o_rd o_fe o_em o_sp o_ac o_td o_sm o_tt (nI p) (nI lt) (nI k) (nI pl) (nI nw) (nI md) (r_nt) (r_pl) (r_op)) :: ga_i 600 tb :: m81 :: m82 :: m83 :: m84 :: m85 :: m86 :: m87 :: m88 :: m89 :: m90 :: m91 :: m92 :: m93 :: m94 :: m95 :: ga_i 25 (ns) :: ga_i 26 (nb) :: ga_i 1300 (sg) :: ga_i 250 (na) :: ga_i 25 (nz) :: ga_i 40 (pi) :: ga_z 40 (cm) :: L2), f) := by
  refine g_aload_n (nx := 241) hX 0 dX11_statement_240 rfl rfl rfl ?_
  refine g_iload (nx := 243) hX 4 dX11_statement_241 rfl rfl ?_
  refine g_bipush (nx := 245) hX 60 dX11_statement_243 rfl (by decide) ?_
  refine g_icmp_ne (nx := 248) hX 253 dX11_statement_245 (by decide) rfl (fun h245 => ?_) (fun h245 => ?_)
  · refine g_iload (nx := 255) hX 4 dX11_statement_253 rfl rfl ?_
    refine g_bipush (nx := 257) hX 62 dX11_statement_255 rfl (by decide) ?_
    refine g_icmp_ne (nx := 260) hX 265 dX11_statement_257 (by decide) rfl (fun h257 => ?_) (fun h257 => ?_)
    · refine g_bipush (nx := 267) hX 11 dX11_statement_265 rfl (by decide) ?_
      refine g_iconst (nx := 268) hX 0 dX11_statement_267 rfl (by decide) ?_
      refine g_V2 (nx := 271) hX dX11_statement_268 rfl mX11_244 yX11_add_ok (c_X11_add hn hm) (ga_dn hn rfl) rfl rfl rfl (by omega) rfl (Nat.le_of_ble_eq_true rfl) (Nat.le_of_ble_eq_true rfl) ?_
      rintro _ _ ⟨rfl, rfl⟩
      refine g_goto (nx := 427) hX dX11_statement_271 (by decide) ?_
      exact g_ls (e_427 (md := md + 1) hX hP hd hn hk hp hI) ⟨rfl, trivial⟩
    · refine g_bipush (nx := 262) hX 10 dX11_statement_260 rfl (by decide) ?_
      refine g_goto (nx := 267) hX dX11_statement_262 (by decide) ?_
      refine g_iconst (nx := 268) hX 0 dX11_statement_267 rfl (by decide) ?_
      refine g_V2 (nx := 271) hX dX11_statement_268 rfl mX11_244 yX11_add_ok (c_X11_add hn hm) (ga_dn hn rfl) rfl rfl rfl (by omega) rfl (Nat.le_of_ble_eq_true rfl) (Nat.le_of_ble_eq_true rfl) ?_
      rintro _ _ ⟨rfl, rfl⟩
      refine g_goto (nx := 427) hX dX11_statement_271 (by decide) ?_
      exact g_ls (e_427 (md := md + 1) hX hP hd hn hk hp hI) ⟨rfl, trivial⟩
  · refine g_bipush (nx := 250) hX 9 dX11_statement_248 rfl (by decide) ?_
    refine g_goto (nx := 267) hX dX11_statement_250 (by decide) ?_
    refine g_iconst (nx := 268) hX 0 dX11_statement_267 rfl (by decide) ?_
    refine g_V2 (nx := 271) hX dX11_statement_268 rfl mX11_244 yX11_add_ok (c_X11_add hn hm) (ga_dn hn rfl) rfl rfl rfl (by omega) rfl (Nat.le_of_ble_eq_true rfl) (Nat.le_of_ble_eq_true rfl) ?_
    rintro _ _ ⟨rfl, rfl⟩
    refine g_goto (nx := 427) hX dX11_statement_271 (by decide) ?_
    exact g_ls (e_427 (md := md + 1) hX hP hd hn hk hp hI) ⟨rfl, trivial⟩
theorem s_out (hX : ga_B E d yX11_statement cX11_statement 5 0 0 X) (hP : ga_P E none 0 0 Post X) (hd : 4 ≤ d) (hn : 106 ≤ n) (hl : lt ≤ 600) (hw : nw < 24) (hN : r_nm tb nm nw ns nz na) (hq : q ≤ lt) (hC : C.length ≤ q)
    (hE : ∀ k pl, R_out tb lt nm q = .inl (k, pl) → (1 ≤ k ∧ k ≤ 4) → ∀ M, (∃ p pl_ op_ nw md r_nt sg pi cm ns nb na nz, p ≤ 700 ∧ M = (n, L1, ((m_O o_tp o_rd o_fe o_em o_sp o_ac o_td o_sm o_tt (nI p) (nI lt) (nI (k)) (nI (pl)) (nI nw) (nI md) (r_nt) (pl_) (op_)) :: ga_i 600 tb :: m81 :: m82 :: m83 :: m84 :: m85 :: m86 :: m87 :: m88 :: m89 :: m90 :: m91 :: m92 :: m93 :: m94 :: m95 :: ga_i 25 (ns) :: ga_i 26 (nb) :: ga_i 1300 (sg) :: ga_i 250 (na) :: ga_i 25 (nz) :: ga_i 40 (pi) :: ga_z 40 (cm) :: L2), f)) → Post none M)
    (kont : ∀ q' c' pi cm, R_out tb lt nm q = .inr (q', c') → x_sk tb lt q' = q' → ga_G E X 0 0 427 [some (.ref 79), none, none, none, none] [] (n, L1, ((m_O o_tp o_rd o_fe o_em o_sp o_ac o_td o_sm o_tt (nI (q')) (nI lt) (0) (-1) (nI nw) (nI (C ++ c').length) (r_nt) (nI ([] : List (Nat × Nat)).length) (nI (0))) :: ga_i 600 tb :: m81 :: m82 :: m83 :: m84 :: m85 :: m86 :: m87 :: m88 :: m89 :: m90 :: m91 :: m92 :: m93 :: m94 :: m95 :: ga_i 25 (upd ns nw 1) :: ga_i 26 (nb) :: ga_i 1300 (r_sg (C ++ c') sg) :: ga_i 250 (na) :: ga_i 25 (nz) :: ga_i 40 (pi) :: ga_z 40 (cm) :: L2), f)) : ga_G E X 0 0 117 [some (.ref 79), none, none, none, none] [] (n, L1, ((m_O o_tp o_rd o_fe o_em o_sp o_ac o_td o_sm o_tt (nI (x_te tb lt q)) (nI lt) (0) (-1) (nI nw) (nI C.length) (r_nt) (r_pl) (r_op)) :: ga_i 600 tb :: m81 :: m82 :: m83 :: m84 :: m85 :: m86 :: m87 :: m88 :: m89 :: m90 :: m91 :: m92 :: m93 :: m94 :: m95 :: ga_i 25 (ns) :: ga_i 26 (nb) :: ga_i 1300 (r_sg C sg) :: ga_i 250 (na) :: ga_i 25 (nz) :: ga_i 40 (pi) :: ga_z 40 (cm) :: L2), f) := by
  have hte := x_te_le (tb := tb) hq
  have hq1 := x_nx_le (tb := tb) hq
  have hid1 : x_sk tb lt (x_nx tb lt q) = x_nx tb lt q := x_sk_id hte.2 rfl
  have hsk : x_sk tb lt (x_te tb lt q) = x_nx tb lt q := rfl
  have hif := x_if (tb := tb) hq1.2 hl
  obtain ⟨hm1, hl1⟩ := x_word2 (tb := tb) hq1.2 hl
  unfold R_out at hE kont
  generalize x_nx tb lt q = q1 at *
  have hq2 := x_nx_le (tb := tb) hq1.2
  have hte1 := x_te_le (tb := tb) hq1.2
  have hN1 := r_nm_s (s := 1) hN
  have t229 : ∀ (q3 : Nat) (c3 : List (Nat × Nat)) (c : Int32) (pi cm : Nat → Int32), (x_tk tb lt q1 = 97 ∧ x_tv tb lt q1 = 294) → R_S tb lt nm (x_nx tb lt q1) = .inr (q3, c3) → x_sk tb lt q3 = q3 → c = x_c tb lt q3 → ¬ x_cm c = 0 → ga_G E X 0 0 219 [some (.ref 79), none, none, none, some (.int c)] [] (n, L1, ((m_O o_tp o_rd o_fe o_em o_sp o_ac o_td o_sm o_tt (nI (q3)) (nI lt) (0) (-1) (nI nw) (nI (C ++ c3).length) (r_nt) (nI ([] : List (Nat × Nat)).length) (nI (0))) :: ga_i 600 tb :: m81 :: m82 :: m83 :: m84 :: m85 :: m86 :: m87 :: m88 :: m89 :: m90 :: m91 :: m92 :: m93 :: m94 :: m95 :: ga_i 25 (upd ns nw 1) :: ga_i 26 (nb) :: ga_i 1300 (r_sg (C ++ c3) sg) :: ga_i 250 (na) :: ga_i 25 (nz) :: ga_i 40 (pi) :: ga_z 40 (cm) :: L2), f) := by
    intro q3 c3 c pi cm h294 hR3 hid3 hc hc0
    rw [if_pos h294, hR3] at hE kont
    dsimp only at hE kont
    have hl3 := ln_S (nm := nm) _ _ _ hq2.2 hR3
    rw [hc, x_cm_x] at hc0
    have hlt : q3 < lt := x_tk_in (tb := tb) (x_cm_tk hc0)
    have hx3 : x_sk tb lt (q3 + 1) = x_nx tb lt q3 := by
      have : x_te tb lt q3 = q3 + 1 := by
        rcases x_cm_c (c := x_tk tb lt q3) with ⟨a, b⟩ | ⟨a1, a, b⟩ | ⟨a1, a2, a, b⟩ | ⟨a1, a2, a3, b⟩
        · exact (x_te_s1 (by decide) (by decide) (by decide) a).1
        · exact (x_te_s1 (by decide) (by decide) (by decide) a).1
        · exact (x_te_s1 (by decide) (by decide) (by decide) a).1
        · exact absurd b hc0
      unfold x_nx; rw [this]
    have hnx3 := x_nx_s (tb := tb) hlt
    have hnl3 := (x_nx_le (tb := tb) hl3.2).2
    rw [if_neg hc0] at hE kont
    have hcc : x_cm c = x_cm (x_tk tb lt q3) := by rw [hc, x_cm_x]
    refine g_aload_n (nx := 220) hX 0 dX11_statement_219 rfl rfl rfl ?_
    refine g_dup (nx := 221) hX dX11_statement_220 rfl rfl ?_
    refine g_getfield (nx := 224) hX dX11_statement_221 rfl fX11_86 (ga_dn hn rfl) rfl rfl ?_
    refine g_iconst (nx := 225) hX 1 dX11_statement_224 rfl (by decide) ?_
    refine g_iadd (nx := 226) hX dX11_statement_225 rfl ?_
    rw [nI_1]
    refine g_putfield (nx := 229) hX dX11_statement_226 rfl pX11_86 (ga_dn hn rfl) rfl rfl rfl rfl ?_
    refine g_aload_n (nx := 230) hX 0 dX11_statement_229 rfl rfl rfl ?_
    refine g_getfield (nx := 233) hX dX11_statement_230 rfl fX11_92 (ga_dn hn rfl) rfl rfl ?_
    refine g_if_ne (nx := 236) hX 240 dX11_statement_233 (by decide) rfl (fun h233 => ?_) (fun h233 => ?_)
    · exact absurd rfl h233
    · refine g_aload_n (nx := 237) hX 0 dX11_statement_236 rfl rfl rfl ?_
      refine g_V0 (nx := 240) hX dX11_statement_237 rfl mX11_292 yX11_sum_ok (c_X11_sum (C := C ++ c3) hn hl (by omega) hN1 (by omega) hx3 (by rw [List.length_append]; omega)) (ga_dn hn rfl) rfl rfl rfl (by omega) rfl (Nat.le_of_ble_eq_true rfl) (Nat.le_of_ble_eq_true rfl) ?_
      rintro _ _ ⟨rfl, (⟨k, pl, hR, hk, p', pl_, op_, md', sg', pi', cm', h1, h2, rfl⟩ | ⟨q', c', pi', cm', hR, hid, rfl⟩)⟩
      · exact g_ls (e_240 hX hP hd hn hk (by omega) (by omega) (hE k pl (by rw [hR]) hk)) ⟨rfl, rfl, trivial⟩
      · have hl5 := ln_S (nm := nm) _ _ _ hnl3 hR
        refine g_ls (s_cmp (C := C ++ c3 ++ c') hX hd hn (by simp only [List.length_append]; omega) hcc hc0 ?_) ⟨rfl, rfl, trivial⟩
        rw [show C ++ c3 ++ c' ++ [(x_cm (x_tk tb lt q3), 0)] = C ++ (c3 ++ c' ++ [(x_cm (x_tk tb lt q3), 0)]) by simp]
        exact kont q' _ pi' cm' (by rw [hR]) hid
  have t183 : ∀ (q3 : Nat) (c3 : List (Nat × Nat)) (pi cm : Nat → Int32), (x_tk tb lt q1 = 97 ∧ x_tv tb lt q1 = 294) → R_S tb lt nm (x_nx tb lt q1) = .inr (q3, c3) → x_sk tb lt q3 = q3 → ga_G E X 0 0 183 [some (.ref 79), none, none, none, none] [] (n, L1, ((m_O o_tp o_rd o_fe o_em o_sp o_ac o_td o_sm o_tt (nI (q3)) (nI lt) (0) (-1) (nI nw) (nI (C ++ c3).length) (r_nt) (nI ([] : List (Nat × Nat)).length) (nI (0))) :: ga_i 600 tb :: m81 :: m82 :: m83 :: m84 :: m85 :: m86 :: m87 :: m88 :: m89 :: m90 :: m91 :: m92 :: m93 :: m94 :: m95 :: ga_i 25 (upd ns nw 1) :: ga_i 26 (nb) :: ga_i 1300 (r_sg (C ++ c3) sg) :: ga_i 250 (na) :: ga_i 25 (nz) :: ga_i 40 (pi) :: ga_z 40 (cm) :: L2), f) := by
    intro q3 c3 pi cm h294 hR3 hid3
    have hl3 := ln_S (nm := nm) _ _ _ hq2.2 hR3
    have tt := t229 q3 c3 (x_c tb lt q3) pi cm h294 hR3 hid3 rfl
    have bad : x_cm (x_c tb lt q3) = 0 → ∀ M, (∃ p pl_ op_ nw md r_nt sg pi cm ns nb na nz, p ≤ 700 ∧ M = (n, L1, ((m_O o_tp o_rd o_fe o_em o_sp o_ac o_td o_sm o_tt (nI p) (nI lt) (nI (1)) (nI (q3)) (nI nw) (nI md) (r_nt) (pl_) (op_)) :: ga_i 600 tb :: m81 :: m82 :: m83 :: m84 :: m85 :: m86 :: m87 :: m88 :: m89 :: m90 :: m91 :: m92 :: m93 :: m94 :: m95 :: ga_i 25 (ns) :: ga_i 26 (nb) :: ga_i 1300 (sg) :: ga_i 250 (na) :: ga_i 25 (nz) :: ga_i 40 (pi) :: ga_z 40 (cm) :: L2), f)) → Post none M := fun h0 => hE 1 q3 (by rw [if_pos h294, hR3]; dsimp only; rw [if_pos (by rw [← x_cm_x]; exact h0)]) (by omega)
    generalize hc : x_c tb lt q3 = c at tt bad
    refine g_aload_n (nx := 184) hX 0 dX11_statement_183 rfl rfl rfl ?_
    refine g_V0 (nx := 187) hX dX11_statement_184 rfl mX11_186 yX11_here_ok (c_X11_here hn hl (by omega)) (ga_dn hn rfl) rfl rfl rfl (by omega) rfl (Nat.le_of_ble_eq_true rfl) (Nat.le_of_ble_eq_true rfl) ?_
    rintro _ _ ⟨rfl, rfl⟩
    rw [hid3, hc]
    refine g_istore (nx := 189) hX 4 dX11_statement_187 rfl rfl ?_
    refine g_iload (nx := 191) hX 4 dX11_statement_189 rfl rfl ?_
    refine g_bipush (nx := 193) hX 60 dX11_statement_191 rfl (by decide) ?_
    refine g_icmp_eq (nx := 196) hX 219 dX11_statement_193 (by decide) rfl (fun h193 => ?_) (fun h193 => ?_)
    · exact g_ls (tt (by rw [h193]; decide)) ⟨rfl, rfl, trivial⟩
    · refine g_iload (nx := 198) hX 4 dX11_statement_196 rfl rfl ?_
      refine g_bipush (nx := 200) hX 62 dX11_statement_198 rfl (by decide) ?_
      refine g_icmp_eq (nx := 203) hX 219 dX11_statement_200 (by decide) rfl (fun h200 => ?_) (fun h200 => ?_)
      · exact g_ls (tt (by rw [h200]; decide)) ⟨rfl, rfl, trivial⟩
      · refine g_iload (nx := 205) hX 4 dX11_statement_203 rfl rfl ?_
        refine g_bipush (nx := 207) hX 61 dX11_statement_205 rfl (by decide) ?_
        refine g_icmp_eq (nx := 210) hX 219 dX11_statement_207 (by decide) rfl (fun h207 => ?_) (fun h207 => ?_)
        · exact g_ls (tt (by rw [h207]; decide)) ⟨rfl, rfl, trivial⟩
        · refine g_aload_n (nx := 211) hX 0 dX11_statement_210 rfl rfl rfl ?_
          refine g_iconst (nx := 212) hX 1 dX11_statement_211 rfl (by decide) ?_
          refine g_aload_n (nx := 213) hX 0 dX11_statement_212 rfl rfl rfl ?_
          refine g_getfield (nx := 216) hX dX11_statement_213 rfl fX11_86 (ga_dn hn rfl) rfl rfl ?_
          refine g_V2 (nx := 219) hX dX11_statement_216 rfl mX11_189 yX11_blame_ok (m_blame hn) (ga_dn hn rfl) rfl rfl rfl (by omega) rfl (Nat.le_of_ble_eq_true rfl) (Nat.le_of_ble_eq_true rfl) ?_
          rintro _ _ ⟨rfl, rfl⟩
          refine g_aload_n (nx := 220) hX 0 dX11_statement_219 rfl rfl rfl ?_
          refine g_dup (nx := 221) hX dX11_statement_220 rfl rfl ?_
          refine g_getfield (nx := 224) hX dX11_statement_221 rfl fX11_86 (ga_dn hn rfl) rfl rfl ?_
          refine g_iconst (nx := 225) hX 1 dX11_statement_224 rfl (by decide) ?_
          refine g_iadd (nx := 226) hX dX11_statement_225 rfl ?_
          rw [nI_1]
          refine g_putfield (nx := 229) hX dX11_statement_226 rfl pX11_86 (ga_dn hn rfl) rfl rfl rfl rfl ?_
          refine g_aload_n (nx := 230) hX 0 dX11_statement_229 rfl rfl rfl ?_
          refine g_getfield (nx := 233) hX dX11_statement_230 rfl fX11_92 (ga_dn hn rfl) rfl rfl ?_
          refine g_if_ne (nx := 236) hX 240 dX11_statement_233 (by decide) rfl (fun h233 => ?_) (fun h233 => ?_)
          · exact g_ls (e_240 (k := 1) (pl := q3) (p := q3 + 1) (md := (C ++ c3).length) hX hP hd hn (by omega) (by omega) (by rw [List.length_append]; omega) (bad (by unfold x_cm; rw [if_neg h193, if_neg h200, if_neg h207]))) ⟨rfl, rfl, trivial⟩
          · exact absurd h233 (by decide)
  refine g_aload_n (nx := 118) hX 0 dX11_statement_117 rfl rfl rfl ?_
  refine g_getfield (nx := 121) hX dX11_statement_118 rfl fX11_107 (ga_dn hn rfl) rfl rfl ?_
  refine g_aload_n (nx := 122) hX 0 dX11_statement_121 rfl rfl rfl ?_
  refine g_getfield (nx := 125) hX dX11_statement_122 rfl fX11_98 (ga_dn hn rfl) rfl rfl ?_
  refine g_iconst (nx := 126) hX 1 dX11_statement_125 rfl (by decide) ?_
  refine g_iastore (nx := 127) hX dX11_statement_126 rfl (ga_dn hn rfl) rfl (ga_ix_of (j := nw) rfl (by omega) (by omega)) ?_
  refine g_aload_n (nx := 128) hX 0 dX11_statement_127 rfl rfl rfl ?_
  refine g_V0 (nx := 131) hX dX11_statement_128 rfl mX11_253 yX11_wordSize_ok (c_X11_wordSize hn hl hte.2) (ga_dn hn rfl) rfl rfl rfl (by omega) rfl (Nat.le_of_ble_eq_true rfl) (Nat.le_of_ble_eq_true rfl) ?_
  rintro _ _ ⟨rfl, rfl⟩
  rw [hsk]
  refine g_istore_n (nx := 132) hX 3 dX11_statement_131 rfl rfl rfl ?_
  refine g_aload_n (nx := 133) hX 0 dX11_statement_132 rfl rfl rfl ?_
  refine g_aload_n (nx := 134) hX 0 dX11_statement_133 rfl rfl rfl ?_
  refine g_getfield (nx := 137) hX dX11_statement_134 rfl fX11_86 (ga_dn hn rfl) rfl rfl ?_
  refine g_iload_n (nx := 138) hX 3 dX11_statement_137 rfl rfl rfl ?_
  refine g_V2 (nx := 141) hX dX11_statement_138 rfl mX11_259 yX11_isIf_ok (c_X11_isIf hn hm1 hl1) (ga_dn hn rfl) rfl rfl rfl (by omega) rfl (Nat.le_of_ble_eq_true rfl) (Nat.le_of_ble_eq_true rfl) ?_
  rintro _ _ ⟨rfl, rfl⟩
  refine g_if_ne (nx := 144) hX 153 dX11_statement_141 (by decide) rfl (fun h141 => ?_) (fun h141 => ?_)
  · have h294 : x_tk tb lt q1 = 97 ∧ x_tv tb lt q1 = 294 := hif.mp (ga_b_n0 h141)
    refine g_aload_n (nx := 154) hX 0 dX11_statement_153 rfl rfl rfl ?_
    refine g_getfield (nx := 157) hX dX11_statement_154 rfl fX11_92 (ga_dn hn rfl) rfl rfl ?_
    refine g_if_le (nx := 160) hX 161 dX11_statement_157 (by decide) rfl (fun h157 => ?_) (fun h157 => ?_)
    · refine g_aload_n (nx := 162) hX 0 dX11_statement_161 rfl rfl rfl ?_
      refine g_dup (nx := 163) hX dX11_statement_162 rfl rfl ?_
      refine g_getfield (nx := 166) hX dX11_statement_163 rfl fX11_86 (ga_dn hn rfl) rfl rfl ?_
      refine g_iload_n (nx := 167) hX 3 dX11_statement_166 rfl rfl rfl ?_
      refine g_iadd (nx := 168) hX dX11_statement_167 rfl ?_
      rw [nI_add, show q1 + (x_we tb lt q1 - q1) = x_te tb lt q1 by obtain ⟨w1, w2, w3, w4, w5, w6⟩ := x_word h294.1 hl; omega]
      refine g_putfield (nx := 171) hX dX11_statement_168 rfl pX11_86 (ga_dn hn rfl) rfl rfl rfl rfl ?_
      refine g_aload_n (nx := 172) hX 0 dX11_statement_171 rfl rfl rfl ?_
      refine g_V0 (nx := 175) hX dX11_statement_172 rfl mX11_292 yX11_sum_ok (c_X11_sum (C := C) hn hl (by omega) hN1 hte1.2 rfl (by show C.length ≤ x_nx tb lt q1; omega)) (ga_dn hn rfl) rfl rfl rfl (by omega) rfl (Nat.le_of_ble_eq_true rfl) (Nat.le_of_ble_eq_true rfl) ?_
      rintro _ _ ⟨rfl, (⟨k, pl, hR, hk, p', pl_, op_, md', sg', pi', cm', h1, h2, rfl⟩ | ⟨q', c', pi', cm', hR, hid, rfl⟩)⟩
      · refine g_aload_n (nx := 176) hX 0 dX11_statement_175 rfl rfl rfl ?_
        refine g_getfield (nx := 179) hX dX11_statement_176 rfl fX11_92 (ga_dn hn rfl) rfl rfl ?_
        refine g_if_le (nx := 182) hX 183 dX11_statement_179 (by decide) rfl (fun h179 => ?_) (fun h179 => ?_)
        · exact absurd ((nI_leI (b := 0) (by omega) (by omega)).mp h179) (by omega)
        · exact g_return hX hP dX11_statement_182 (Nat.le_of_ble_eq_true rfl) (Nat.le_of_ble_eq_true rfl) (hE k pl (by rw [if_pos h294]; change R_S tb lt nm (x_nx tb lt q1) = _ at hR; rw [hR]) hk _ ⟨p', _, _, nw, md', _, _, _, _, _, _, _, _, by omega, rfl⟩)
      · refine g_aload_n (nx := 176) hX 0 dX11_statement_175 rfl rfl rfl ?_
        refine g_getfield (nx := 179) hX dX11_statement_176 rfl fX11_92 (ga_dn hn rfl) rfl rfl ?_
        refine g_if_le (nx := 182) hX 183 dX11_statement_179 (by decide) rfl (fun h179 => ?_) (fun h179 => ?_)
        · exact g_ls (t183 q' c' pi' cm' h294 hR hid) ⟨rfl, trivial⟩
        · exact absurd (by decide) h179
    · exact absurd (by decide) h157
  · have h294 : ¬ (x_tk tb lt q1 = 97 ∧ x_tv tb lt q1 = 294) := fun z => ga_b_0 h141 (hif.mpr z)
    refine g_aload_n (nx := 145) hX 0 dX11_statement_144 rfl rfl rfl ?_
    refine g_iconst (nx := 146) hX 1 dX11_statement_145 rfl (by decide) ?_
    refine g_aload_n (nx := 147) hX 0 dX11_statement_146 rfl rfl rfl ?_
    refine g_getfield (nx := 150) hX dX11_statement_147 rfl fX11_86 (ga_dn hn rfl) rfl rfl ?_
    refine g_V2 (nx := 153) hX dX11_statement_150 rfl mX11_189 yX11_blame_ok (m_blame hn) (ga_dn hn rfl) rfl rfl rfl (by omega) rfl (Nat.le_of_ble_eq_true rfl) (Nat.le_of_ble_eq_true rfl) ?_
    rintro _ _ ⟨rfl, rfl⟩
    refine g_aload_n (nx := 154) hX 0 dX11_statement_153 rfl rfl rfl ?_
    refine g_getfield (nx := 157) hX dX11_statement_154 rfl fX11_92 (ga_dn hn rfl) rfl rfl ?_
    refine g_if_le (nx := 160) hX 161 dX11_statement_157 (by decide) rfl (fun h157 => ?_) (fun h157 => ?_)
    · exact absurd h157 (by decide)
    · exact g_return hX hP dX11_statement_160 (Nat.le_of_ble_eq_true rfl) (Nat.le_of_ble_eq_true rfl) (hE 1 q1 (by rw [if_neg h294]) (by omega) _ ⟨q1, _, _, nw, C.length, _, _, _, _, _, _, _, _, by omega, rfl⟩)
def r_na (tb na : Nat → Int32) (q b m : Nat) : Nat → Int32 := fun i => if b ≤ i ∧ i < b + m then tb (q + (i - b)) else na i
theorem r_na_0 {tb na : Nat → Int32} {q b : Nat} : r_na tb na q b 0 = na := by
  funext i; unfold r_na; rw [if_neg (by omega)]
theorem r_na_s {tb na : Nat → Int32} {q b m : Nat} : upd (r_na tb na q b m) (b + m) (tb (q + m)) = r_na tb na q b (m + 1) := by
  funext i
  unfold upd r_na
  by_cases h : i = b + m
  · rw [if_pos h, if_pos (by omega), h, show q + (b + m - b) = q + m by omega]
  · rw [if_neg h]
    by_cases h2 : b ≤ i ∧ i < b + m
    · rw [if_pos h2, if_pos (by omega)]
    · rw [if_neg h2, if_neg (by omega)]
theorem s_giv (hX : ga_B E d yX11_statement cX11_statement 5 0 0 X) (hP : ga_P E none 0 0 Post X) (hd : 4 ≤ d) (hn : 106 ≤ n) (hl : lt ≤ 600) (hw : nw < 24) (hN : r_nm tb nm nw ns nz na) (hq : q ≤ lt) (hC : C.length ≤ q) (h97 : x_tk tb lt q = 97) (hkp : ¬ x_kept (x_tv tb lt q)) (h10 : ¬ 10 < x_te tb lt q - q)
    (hE : ∀ k pl, R_giv tb lt nm q = .inl (k, pl) → (1 ≤ k ∧ k ≤ 4) → ∀ M, (∃ p pl_ op_ nw md r_nt sg pi cm ns nb na nz, p ≤ 700 ∧ M = (n, L1, ((m_O o_tp o_rd o_fe o_em o_sp o_ac o_td o_sm o_tt (nI p) (nI lt) (nI (k)) (nI (pl)) (nI nw) (nI md) (r_nt) (pl_) (op_)) :: ga_i 600 tb :: m81 :: m82 :: m83 :: m84 :: m85 :: m86 :: m87 :: m88 :: m89 :: m90 :: m91 :: m92 :: m93 :: m94 :: m95 :: ga_i 25 (ns) :: ga_i 26 (nb) :: ga_i 1300 (sg) :: ga_i 250 (na) :: ga_i 25 (nz) :: ga_i 40 (pi) :: ga_z 40 (cm) :: L2), f)) → Post none M)
    (kont : ∀ q' c' pi cm, R_giv tb lt nm q = .inr (q', c') → x_sk tb lt q' = q' → ga_G E X 0 0 427 [some (.ref 79), none, none, none, none] [] (n, L1, ((m_O o_tp o_rd o_fe o_em o_sp o_ac o_td o_sm o_tt (nI (q')) (nI lt) (0) (-1) (nI nw) (nI (C ++ c').length) (if x_tv tb lt q = 21483564 then nI nw else r_nt) (nI ([] : List (Nat × Nat)).length) (nI (0))) :: ga_i 600 tb :: m81 :: m82 :: m83 :: m84 :: m85 :: m86 :: m87 :: m88 :: m89 :: m90 :: m91 :: m92 :: m93 :: m94 :: m95 :: ga_i 25 (upd ns nw 0) :: ga_i 26 (nb) :: ga_i 1300 (r_sg (C ++ c') sg) :: ga_i 250 (r_na tb na q (10 * nw) (x_we tb lt q - q)) :: ga_i 25 (upd nz nw (nI (x_we tb lt q - q))) :: ga_i 40 (pi) :: ga_z 40 (cm) :: L2), f)) : ga_G E X 0 0 300 [some (.ref 79), some (.int (nI (x_we tb lt q - q))), some (.int (nI q)), none, none] [] (n, L1, ((m_O o_tp o_rd o_fe o_em o_sp o_ac o_td o_sm o_tt (nI (x_te tb lt q)) (nI lt) (0) (-1) (nI nw) (nI C.length) (r_nt) (r_pl) (r_op)) :: ga_i 600 tb :: m81 :: m82 :: m83 :: m84 :: m85 :: m86 :: m87 :: m88 :: m89 :: m90 :: m91 :: m92 :: m93 :: m94 :: m95 :: ga_i 25 (ns) :: ga_i 26 (nb) :: ga_i 1300 (r_sg C sg) :: ga_i 250 (na) :: ga_i 25 (nz) :: ga_i 40 (pi) :: ga_z 40 (cm) :: L2), f) := by
  obtain ⟨w1, w2, w3, w4, w5, w6⟩ := x_word h97 hl
  have hm : q + (x_we tb lt q - q) ≤ 600 := by omega
  have hte := x_te_le (tb := tb) hq
  have hq1 := x_nx_le (tb := tb) hq
  have hnE : x_nE tb lt nm 0 q = if x_slot nm (x_tv tb lt q) = -1 then none else some (3, q) := by
    unfold x_nE; rw [if_neg hkp, if_neg h10]
    by_cases h : x_slot nm (x_tv tb lt q) = -1
    · rw [if_pos h, if_pos h, if_pos rfl]
    · rw [if_neg h, if_neg h, if_neg (by decide)]
  have hv0 := x_wv_0 w6 w3
  have hs3 := x_slot3 hN (Nat.le_of_lt hw) hv0
  rw [← w2] at hs3
  unfold R_giv at hE kont
  rw [hnE] at hE kont
  have hsp : ∀ {r_at r_fk r_fp r_nt r_pl r_op : Int32} {nw md : Nat} {ns nb sg na nz pi cm : Nat → Int32}, ga_Mx E 0 yX11_spells cX11_spells 8 (some .boolean) 0 0 [.ref 79, .int (nI q), .int (nI (x_we tb lt q - q)), .long 500086104428, .int 5] (n, L1, ((m_O o_tp o_rd o_fe o_em o_sp o_ac o_td o_sm o_tt (r_at) (nI lt) (r_fk) (r_fp) (nI nw) (nI md) (r_nt) (r_pl) (r_op)) :: ga_i 600 tb :: m81 :: m82 :: m83 :: m84 :: m85 :: m86 :: m87 :: m88 :: m89 :: m90 :: m91 :: m92 :: m93 :: m94 :: m95 :: ga_i 25 (ns) :: ga_i 26 (nb) :: ga_i 1300 (sg) :: ga_i 250 (na) :: ga_i 25 (nz) :: ga_i 40 (pi) :: ga_z 40 (cm) :: L2), f) (some (.int (ga_b (x_tv tb lt q = 21483564)))) (n, L1, ((m_O o_tp o_rd o_fe o_em o_sp o_ac o_td o_sm o_tt (r_at) (nI lt) (r_fk) (r_fp) (nI nw) (nI md) (r_nt) (r_pl) (r_op)) :: ga_i 600 tb :: m81 :: m82 :: m83 :: m84 :: m85 :: m86 :: m87 :: m88 :: m89 :: m90 :: m91 :: m92 :: m93 :: m94 :: m95 :: ga_i 25 (ns) :: ga_i 26 (nb) :: ga_i 1300 (sg) :: ga_i 250 (na) :: ga_i 25 (nz) :: ga_i 40 (pi) :: ga_z 40 (cm) :: L2), f) := by
    intro r_at r_fk r_fp r_nt r_pl r_op nw md ns nb sg na nz pi cm
    rw [w2]
    exact c_X11_spells (l := 5) (K := 21483564) (h := wL [20, 15, 20, 1, 12]) (by decide) (by omega) (by decide +kernel) (by decide +kernel) hn hm w6
  have e406 : ∀ (k pl p : Nat) (pl_ op_ : Int32) (md : Nat) (sg pi cm ns na nz : Nat → Int32), (1 ≤ k ∧ k ≤ 4) → p ≤ 700 → (∀ M, (∃ p pl_ op_ nw md r_nt sg pi cm ns nb na nz, p ≤ 700 ∧ M = (n, L1, ((m_O o_tp o_rd o_fe o_em o_sp o_ac o_td o_sm o_tt (nI p) (nI lt) (nI (k)) (nI (pl)) (nI nw) (nI md) (r_nt) (pl_) (op_)) :: ga_i 600 tb :: m81 :: m82 :: m83 :: m84 :: m85 :: m86 :: m87 :: m88 :: m89 :: m90 :: m91 :: m92 :: m93 :: m94 :: m95 :: ga_i 25 (ns) :: ga_i 26 (nb) :: ga_i 1300 (sg) :: ga_i 250 (na) :: ga_i 25 (nz) :: ga_i 40 (pi) :: ga_z 40 (cm) :: L2), f)) → Post none M) → ga_G E X 0 0 406 [some (.ref 79), some (.int (nI (x_we tb lt q - q))), some (.int (nI q)), none, none] [] (n, L1, ((m_O o_tp o_rd o_fe o_em o_sp o_ac o_td o_sm o_tt (nI p) (nI lt) (nI k) (nI pl) (nI nw) (nI md) (r_nt) (pl_) (op_)) :: ga_i 600 tb :: m81 :: m82 :: m83 :: m84 :: m85 :: m86 :: m87 :: m88 :: m89 :: m90 :: m91 :: m92 :: m93 :: m94 :: m95 :: ga_i 25 (ns) :: ga_i 26 (nb) :: ga_i 1300 (sg) :: ga_i 250 (na) :: ga_i 25 (nz) :: ga_i 40 (pi) :: ga_z 40 (cm) :: L2), f) := by
    intro k pl p pl_ op_ md sg pi cm ns na nz hk hp hI
    refine g_aload_n (nx := 407) hX 0 dX11_statement_406 rfl rfl rfl ?_
    refine g_iload_n (nx := 408) hX 2 dX11_statement_407 rfl rfl rfl ?_
    refine g_iload_n (nx := 409) hX 1 dX11_statement_408 rfl rfl rfl ?_
    refine g_ldc2_w (nx := 412) hX 500086104428 dX11_statement_409 rfl kX11_298 ?_
    refine g_iconst (nx := 413) hX 5 dX11_statement_412 rfl (by decide) ?_
    refine g_V4 (nx := 416) hX dX11_statement_413 rfl mX11_199 yX11_spells_ok (hsp) (ga_dn hn rfl) rfl rfl rfl (by omega) rfl (Nat.le_of_ble_eq_true rfl) (Nat.le_of_ble_eq_true rfl) ?_
    rintro _ _ ⟨rfl, rfl⟩
    refine g_if_eq (nx := 419) hX 427 dX11_statement_416 (by decide) rfl (fun h416 => ?_) (fun h416 => ?_)
    · exact g_ls (e_427 hX hP hd hn hk hp hI) ⟨rfl, trivial⟩
    · refine g_aload_n (nx := 420) hX 0 dX11_statement_419 rfl rfl rfl ?_
      refine g_aload_n (nx := 421) hX 0 dX11_statement_420 rfl rfl rfl ?_
      refine g_getfield (nx := 424) hX dX11_statement_421 rfl fX11_98 (ga_dn hn rfl) rfl rfl ?_
      refine g_putfield (nx := 427) hX dX11_statement_424 rfl pX11_104 (ga_dn hn rfl) rfl rfl rfl rfl ?_
      exact g_ls (e_427 hX hP hd hn hk hp hI) ⟨rfl, trivial⟩
  have t389 : x_slot nm (x_tv tb lt q) = -1 → ga_G E X 0 0 389 [some (.ref 79), some (.int (nI (x_we tb lt q - q))), some (.int (nI q)), none, none] [] (n, L1, ((m_O o_tp o_rd o_fe o_em o_sp o_ac o_td o_sm o_tt (nI (x_te tb lt q)) (nI lt) (0) (-1) (nI nw) (nI C.length) (r_nt) (r_pl) (r_op)) :: ga_i 600 tb :: m81 :: m82 :: m83 :: m84 :: m85 :: m86 :: m87 :: m88 :: m89 :: m90 :: m91 :: m92 :: m93 :: m94 :: m95 :: ga_i 25 (upd ns nw 0) :: ga_i 26 (nb) :: ga_i 1300 (r_sg C sg) :: ga_i 250 (r_na tb na q (10 * nw) (x_we tb lt q - q)) :: ga_i 25 (upd nz nw (nI (x_we tb lt q - q))) :: ga_i 40 (pi) :: ga_z 40 (cm) :: L2), f) := by
    intro hsl
    rw [if_pos hsl] at hE kont
    dsimp only at hE kont
    have hN1 := r_nm_up (s := 0) (z := nI (x_we tb lt q - q)) (na' := r_na tb na q (10 * nw) (x_we tb lt q - q)) hN (fun i hi => by unfold r_na; rw [if_neg (by omega)])
    refine g_aload_n (nx := 390) hX 0 dX11_statement_389 rfl rfl rfl ?_
    refine g_bipush (nx := 392) hX 61 dX11_statement_390 rfl (by decide) ?_
    refine g_V1 (nx := 395) hX dX11_statement_392 rfl mX11_295 yX11_must_ok (m_must (c := 61) (q := x_nx tb lt q) hn hl hte.2 rfl (by decide) (by decide)) (ga_dn hn rfl) rfl rfl rfl (by omega) rfl (Nat.le_of_ble_eq_true rfl) (Nat.le_of_ble_eq_true rfl) ?_
    rintro _ _ ⟨rfl, (⟨hno, rfl⟩ | ⟨hyes, rfl⟩)⟩
    · refine g_aload_n (nx := 396) hX 0 dX11_statement_395 rfl rfl rfl ?_
      refine g_getfield (nx := 399) hX dX11_statement_396 rfl fX11_92 (ga_dn hn rfl) rfl rfl ?_
      refine g_if_ne (nx := 402) hX 406 dX11_statement_399 (by decide) rfl (fun h399 => ?_) (fun h399 => ?_)
      · exact g_ls (e406 1 (x_nx tb lt q) (x_nx tb lt q + 1) _ _ C.length _ _ _ _ _ _ (by omega) (by omega) (hE 1 (x_nx tb lt q) (by rw [if_neg hno]) (by omega))) ⟨rfl, rfl, rfl, trivial⟩
      · exact absurd h399 (by decide)
    · refine g_aload_n (nx := 396) hX 0 dX11_statement_395 rfl rfl rfl ?_
      refine g_getfield (nx := 399) hX dX11_statement_396 rfl fX11_92 (ga_dn hn rfl) rfl rfl ?_
      refine g_if_ne (nx := 402) hX 406 dX11_statement_399 (by decide) rfl (fun h399 => ?_) (fun h399 => ?_)
      · exact absurd rfl h399
      · refine g_aload_n (nx := 403) hX 0 dX11_statement_402 rfl rfl rfl ?_
        have hs1 := x_te_s1 (by decide) (by decide) (by decide) hyes
        have hx1 : x_sk tb lt (x_nx tb lt q + 1) = x_nx tb lt (x_nx tb lt q) := by rw [← hs1.1]; rfl
        have hnx1 := x_nx_s (tb := tb) hs1.2.1
        refine g_V0 (nx := 406) hX dX11_statement_403 rfl mX11_292 yX11_sum_ok (c_X11_sum (C := C) hn hl (by omega) hN1 (by omega) hx1 (by omega)) (ga_dn hn rfl) rfl rfl rfl (by omega) rfl (Nat.le_of_ble_eq_true rfl) (Nat.le_of_ble_eq_true rfl) ?_
        rintro _ _ ⟨rfl, (⟨k, pl, hR, hk, p', pl_, op_, md', sg', pi', cm', h1, h2, rfl⟩ | ⟨q', c', pi', cm', hR, hid, rfl⟩)⟩
        · exact g_ls (e406 k pl p' pl_ op_ md' sg' pi' cm' _ _ _ hk (by omega) (hE k pl (by rw [if_pos hyes]; exact hR) hk)) ⟨rfl, rfl, rfl, trivial⟩
        · have kk := kont q' c' pi' cm' (by rw [if_pos hyes]; exact hR) hid
          refine g_aload_n (nx := 407) hX 0 dX11_statement_406 rfl rfl rfl ?_
          refine g_iload_n (nx := 408) hX 2 dX11_statement_407 rfl rfl rfl ?_
          refine g_iload_n (nx := 409) hX 1 dX11_statement_408 rfl rfl rfl ?_
          refine g_ldc2_w (nx := 412) hX 500086104428 dX11_statement_409 rfl kX11_298 ?_
          refine g_iconst (nx := 413) hX 5 dX11_statement_412 rfl (by decide) ?_
          refine g_V4 (nx := 416) hX dX11_statement_413 rfl mX11_199 yX11_spells_ok (hsp) (ga_dn hn rfl) rfl rfl rfl (by omega) rfl (Nat.le_of_ble_eq_true rfl) (Nat.le_of_ble_eq_true rfl) ?_
          rintro _ _ ⟨rfl, rfl⟩
          refine g_if_eq (nx := 419) hX 427 dX11_statement_416 (by decide) rfl (fun h416 => ?_) (fun h416 => ?_)
          · rw [if_neg (ga_b_0 h416)] at kk
            exact g_ls kk ⟨rfl, trivial⟩
          · rw [if_pos (ga_b_n0 h416)] at kk
            refine g_aload_n (nx := 420) hX 0 dX11_statement_419 rfl rfl rfl ?_
            refine g_aload_n (nx := 421) hX 0 dX11_statement_420 rfl rfl rfl ?_
            refine g_getfield (nx := 424) hX dX11_statement_421 rfl fX11_98 (ga_dn hn rfl) rfl rfl ?_
            refine g_putfield (nx := 427) hX dX11_statement_424 rfl pX11_104 (ga_dn hn rfl) rfl rfl rfl rfl ?_
            exact g_ls kk ⟨rfl, trivial⟩
  have loop : x_slot nm (x_tv tb lt q) = -1 → ∀ j i, i + j = x_we tb lt q - q → ga_G E X 0 0 356 [some (.ref 79), some (.int (nI (x_we tb lt q - q))), some (.int (nI q)), some (.int (nI i)), none] [] (n, L1, ((m_O o_tp o_rd o_fe o_em o_sp o_ac o_td o_sm o_tt (nI (x_te tb lt q)) (nI lt) (0) (-1) (nI nw) (nI C.length) (r_nt) (r_pl) (r_op)) :: ga_i 600 tb :: m81 :: m82 :: m83 :: m84 :: m85 :: m86 :: m87 :: m88 :: m89 :: m90 :: m91 :: m92 :: m93 :: m94 :: m95 :: ga_i 25 (upd ns nw 0) :: ga_i 26 (nb) :: ga_i 1300 (r_sg C sg) :: ga_i 250 (r_na tb na q (10 * nw) i) :: ga_i 25 (upd nz nw (nI (x_we tb lt q - q))) :: ga_i 40 (pi) :: ga_z 40 (cm) :: L2), f) := by
    intro hsl j
    induction j with
    | zero =>
      intro i hi
      have t := t389 hsl
      rw [show x_we tb lt q - q = i by omega] at t ⊢
      refine g_iload_n (nx := 357) hX 3 dX11_statement_356 rfl rfl rfl ?_
      refine g_iload_n (nx := 358) hX 1 dX11_statement_357 rfl rfl rfl ?_
      refine g_icmp_ge (nx := 361) hX 389 dX11_statement_358 (by decide) rfl (fun h358 => ?_) (fun h358 => ?_)
      · exact g_ls t ⟨rfl, rfl, rfl, trivial⟩
      · exact absurd (nI_le (Nat.le_refl i) (by omega)) h358
    | succ j ih =>
      intro i hi
      have ih1 := ih (i + 1) (by omega)
      rw [← r_na_s] at ih1
      refine g_iload_n (nx := 357) hX 3 dX11_statement_356 rfl rfl rfl ?_
      refine g_iload_n (nx := 358) hX 1 dX11_statement_357 rfl rfl rfl ?_
      refine g_icmp_ge (nx := 361) hX 389 dX11_statement_358 (by decide) rfl (fun h358 => ?_) (fun h358 => ?_)
      · exact absurd ((nI_leI (by omega) (by omega)).mp h358) (by omega)
      · refine g_aload_n (nx := 362) hX 0 dX11_statement_361 rfl rfl rfl ?_
        refine g_getfield (nx := 365) hX dX11_statement_362 rfl fX11_116 (ga_dn hn rfl) rfl rfl ?_
        refine g_bipush (nx := 367) hX 10 dX11_statement_365 rfl (by decide) ?_
        refine g_aload_n (nx := 368) hX 0 dX11_statement_367 rfl rfl rfl ?_
        refine g_getfield (nx := 371) hX dX11_statement_368 rfl fX11_98 (ga_dn hn rfl) rfl rfl ?_
        refine g_imul (nx := 372) hX dX11_statement_371 rfl ?_
        refine g_iload_n (nx := 373) hX 3 dX11_statement_372 rfl rfl rfl ?_
        refine g_iadd (nx := 374) hX dX11_statement_373 rfl ?_
        refine g_aload_n (nx := 375) hX 0 dX11_statement_374 rfl rfl rfl ?_
        refine g_getfield (nx := 378) hX dX11_statement_375 rfl fX11_7 (ga_dn hn rfl) rfl rfl ?_
        refine g_iload_n (nx := 379) hX 2 dX11_statement_378 rfl rfl rfl ?_
        refine g_iload_n (nx := 380) hX 3 dX11_statement_379 rfl rfl rfl ?_
        refine g_iadd (nx := 381) hX dX11_statement_380 rfl ?_
        refine g_iaload (nx := 382) hX dX11_statement_381 rfl (ga_dn hn rfl) rfl (ga_ix_of (j := q + i) (nI_add q i) (by omega) (by omega)) ?_
        refine g_iastore (nx := 383) hX dX11_statement_382 rfl (ga_dn hn rfl) rfl (ga_ix_of (j := 10 * nw + i) (by rw [show (10 : Int32) * nI nw = nI (10 * nw) from pk_mul 10 nw, nI_add]) (by omega) (by omega)) ?_
        refine g_iinc (nx := 386) hX 3 (nI (i + 1)) dX11_statement_383 rfl rfl rfl (nI_1 i) ?_
        refine g_goto (nx := 356) hX dX11_statement_386 (by decide) ?_
        exact ih1
  generalize hg : x_wg nm nw (x_tv tb lt q) = g at hs3
  generalize hc : x_wc (x_tv tb lt q) = c at hs3
  refine g_aload_n (nx := 301) hX 0 dX11_statement_300 rfl rfl rfl ?_
  refine g_iload_n (nx := 302) hX 2 dX11_statement_301 rfl rfl rfl ?_
  refine g_iload_n (nx := 303) hX 1 dX11_statement_302 rfl rfl rfl ?_
  refine g_V2 (nx := 306) hX dX11_statement_303 rfl mX11_271 yX11_whichCount_ok (c_X11_whichCount hn hm w6 w2.symm) (ga_dn hn rfl) rfl rfl rfl (by omega) rfl (Nat.le_of_ble_eq_true rfl) (Nat.le_of_ble_eq_true rfl) ?_
  rintro _ _ ⟨rfl, rfl⟩
  rw [hc]
  refine g_iconst (nx := 307) hX (-1) dX11_statement_306 rfl (by decide) ?_
  refine g_icmp_ne (nx := 310) hX 320 dX11_statement_307 (by decide) rfl (fun h307 => ?_) (fun h307 => ?_)
  · have hsl : ¬ x_slot nm (x_tv tb lt q) = -1 := by
      rcases hs3 with ⟨j, hj, a, b⟩ | ⟨a, j, hj, b, d⟩ | ⟨a, b, d⟩
      · rw [b]; exact nI_neg1 (by omega)
      · exact absurd a h307
      · exact absurd a h307
    refine g_aload_n (nx := 321) hX 0 dX11_statement_320 rfl rfl rfl ?_
    refine g_iconst (nx := 322) hX 3 dX11_statement_321 rfl (by decide) ?_
    refine g_iload_n (nx := 323) hX 2 dX11_statement_322 rfl rfl rfl ?_
    refine g_V2 (nx := 326) hX dX11_statement_323 rfl mX11_189 yX11_blame_ok (m_blame hn) (ga_dn hn rfl) rfl rfl rfl (by omega) rfl (Nat.le_of_ble_eq_true rfl) (Nat.le_of_ble_eq_true rfl) ?_
    rintro _ _ ⟨rfl, rfl⟩
    refine g_aload_n (nx := 327) hX 0 dX11_statement_326 rfl rfl rfl ?_
    refine g_getfield (nx := 330) hX dX11_statement_327 rfl fX11_92 (ga_dn hn rfl) rfl rfl ?_
    refine g_if_le (nx := 333) hX 334 dX11_statement_330 (by decide) rfl (fun h330 => ?_) (fun h330 => ?_)
    · exact absurd h330 (by decide)
    · exact g_return hX hP dX11_statement_333 (Nat.le_of_ble_eq_true rfl) (Nat.le_of_ble_eq_true rfl) (hE 3 q (by rw [if_neg hsl]) (by omega) _ ⟨x_te tb lt q, _, _, nw, C.length, _, _, _, _, _, _, _, _, by omega, rfl⟩)
  · refine g_aload_n (nx := 311) hX 0 dX11_statement_310 rfl rfl rfl ?_
    refine g_iload_n (nx := 312) hX 2 dX11_statement_311 rfl rfl rfl ?_
    refine g_iload_n (nx := 313) hX 1 dX11_statement_312 rfl rfl rfl ?_
    refine g_V2 (nx := 316) hX dX11_statement_313 rfl mX11_275 yX11_whichGiven_ok (c_X11_whichGiven hn (Nat.le_of_lt hw) hm w3 w6 w2.symm hN) (ga_dn hn rfl) rfl rfl rfl (by omega) rfl (Nat.le_of_ble_eq_true rfl) (Nat.le_of_ble_eq_true rfl) ?_
    rintro _ _ ⟨rfl, rfl⟩
    rw [hg]
    refine g_iconst (nx := 317) hX (-1) dX11_statement_316 rfl (by decide) ?_
    refine g_icmp_eq (nx := 320) hX 326 dX11_statement_317 (by decide) rfl (fun h317 => ?_) (fun h317 => ?_)
    · have hsl : x_slot nm (x_tv tb lt q) = -1 := by
        rcases hs3 with ⟨j, hj, a, b⟩ | ⟨a, j, hj, b, d⟩ | ⟨a, b, d⟩
        · exact absurd (a.symm.trans h307) (nI_neg1 (by omega))
        · exact absurd (b.symm.trans h317) (nI_neg1 (by omega))
        · exact d
      refine g_aload_n (nx := 327) hX 0 dX11_statement_326 rfl rfl rfl ?_
      refine g_getfield (nx := 330) hX dX11_statement_327 rfl fX11_92 (ga_dn hn rfl) rfl rfl ?_
      refine g_if_le (nx := 333) hX 334 dX11_statement_330 (by decide) rfl (fun h330 => ?_) (fun h330 => ?_)
      · refine g_aload_n (nx := 335) hX 0 dX11_statement_334 rfl rfl rfl ?_
        refine g_getfield (nx := 338) hX dX11_statement_335 rfl fX11_107 (ga_dn hn rfl) rfl rfl ?_
        refine g_aload_n (nx := 339) hX 0 dX11_statement_338 rfl rfl rfl ?_
        refine g_getfield (nx := 342) hX dX11_statement_339 rfl fX11_98 (ga_dn hn rfl) rfl rfl ?_
        refine g_iconst (nx := 343) hX 0 dX11_statement_342 rfl (by decide) ?_
        refine g_iastore (nx := 344) hX dX11_statement_343 rfl (ga_dn hn rfl) rfl (ga_ix_of (j := nw) rfl (by omega) (by omega)) ?_
        refine g_aload_n (nx := 345) hX 0 dX11_statement_344 rfl rfl rfl ?_
        refine g_getfield (nx := 348) hX dX11_statement_345 rfl fX11_119 (ga_dn hn rfl) rfl rfl ?_
        refine g_aload_n (nx := 349) hX 0 dX11_statement_348 rfl rfl rfl ?_
        refine g_getfield (nx := 352) hX dX11_statement_349 rfl fX11_98 (ga_dn hn rfl) rfl rfl ?_
        refine g_iload_n (nx := 353) hX 1 dX11_statement_352 rfl rfl rfl ?_
        refine g_iastore (nx := 354) hX dX11_statement_353 rfl (ga_dn hn rfl) rfl (ga_ix_of (j := nw) rfl (by omega) (by omega)) ?_
        refine g_iconst (nx := 355) hX 0 dX11_statement_354 rfl (by decide) ?_
        refine g_istore_n (nx := 356) hX 3 dX11_statement_355 rfl rfl rfl ?_
        have t0 := loop hsl (x_we tb lt q - q) 0 (by omega)
        rw [r_na_0] at t0
        exact g_ls t0 ⟨rfl, rfl, rfl, rfl, trivial⟩
      · exact absurd (by decide) h330
    · have hsl : ¬ x_slot nm (x_tv tb lt q) = -1 := by
        rcases hs3 with ⟨j, hj, a, b⟩ | ⟨a, j, hj, b, d⟩ | ⟨a, b, d⟩
        · rw [b]; exact nI_neg1 (by omega)
        · rw [d]; exact nI_neg1 (by omega)
        · exact absurd b h317
      refine g_aload_n (nx := 321) hX 0 dX11_statement_320 rfl rfl rfl ?_
      refine g_iconst (nx := 322) hX 3 dX11_statement_321 rfl (by decide) ?_
      refine g_iload_n (nx := 323) hX 2 dX11_statement_322 rfl rfl rfl ?_
      refine g_V2 (nx := 326) hX dX11_statement_323 rfl mX11_189 yX11_blame_ok (m_blame hn) (ga_dn hn rfl) rfl rfl rfl (by omega) rfl (Nat.le_of_ble_eq_true rfl) (Nat.le_of_ble_eq_true rfl) ?_
      rintro _ _ ⟨rfl, rfl⟩
      refine g_aload_n (nx := 327) hX 0 dX11_statement_326 rfl rfl rfl ?_
      refine g_getfield (nx := 330) hX dX11_statement_327 rfl fX11_92 (ga_dn hn rfl) rfl rfl ?_
      refine g_if_le (nx := 333) hX 334 dX11_statement_330 (by decide) rfl (fun h330 => ?_) (fun h330 => ?_)
      · exact absurd h330 (by decide)
      · exact g_return hX hP dX11_statement_333 (Nat.le_of_ble_eq_true rfl) (Nat.le_of_ble_eq_true rfl) (hE 3 q (by rw [if_neg hsl]) (by omega) _ ⟨x_te tb lt q, _, _, nw, C.length, _, _, _, _, _, _, _, _, by omega, rfl⟩)
end
