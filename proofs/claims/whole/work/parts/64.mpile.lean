/-! ===== the reference: joins, opens, closes, commas ===== -/
section
variable {E : ga_E} {X : ga_X} {n : Nat} {c0 c1 c2 c3 c4 c5 c6 c7 c8 c9 c10 c11 c12 c13 c14 c15 c16 c17 c18 c19 c20 c21 c22 c23 c24 c25 c26 c27 c28 c29 c30 m79 m80 m81 m82 m83 m84 m85 m86 m87 m88 m89 m90 m91 m92 m93 m94 m95 m96 m97 m98 m99 m100 m101 m102 m103 m104 m105 : ga_C} {L1 L2 : List ga_C} {f : Nat → ga_C} {o_tp o_rd o_fe o_em o_sp o_ac o_td o_sm o_tt o_at o_sz o_fk o_fp o_nw o_md o_nt o_pl o_op d_at d_tk d_ta d_fd d_fa : Int32} {d_tv : Int64} {d_rl : Value}
variable {r_at r_fk r_fp r_nt r_pl r_op : Int32} {nw md lt : Nat} {tb ns nb sg na nz pi cm : Nat → Int32}
variable {p q o : Nat} {C : List (Nat × Nat)} {b : Int32}
theorem r_cd_mop {x : Nat × Nat} (h : 3 ≤ x.1 ∧ x.1 ≤ 11) : e_mop (x.1 - 1, 0) = x.1 ∧ e_mar (x.1 - 1, 0) = 0 := by
  unfold e_mop e_mar
  refine ⟨?_, ?_⟩
  · dsimp only; rw [if_neg (by omega), if_neg (by omega)]; omega
  · dsimp only; rw [if_neg (by omega)]
theorem m_addx {x : Nat × Nat} {a c : Int32} (hn : 106 ≤ n) (hC : C.length < 650) (ha : a = nI (e_mop x)) (hc : c = nI (e_mar x)) : ga_Mx E 0 yX11_add cX11_add 3 none 0 0 [.ref 79, .int a, .int c] (n, L1, ((m_O o_tp o_rd o_fe o_em o_sp o_ac o_td o_sm o_tt (r_at) (nI lt) (r_fk) (r_fp) (nI nw) (nI C.length) (r_nt) (r_pl) (r_op)) :: ga_i 600 tb :: m81 :: m82 :: m83 :: m84 :: m85 :: m86 :: m87 :: m88 :: m89 :: m90 :: m91 :: m92 :: m93 :: m94 :: m95 :: ga_i 25 (ns) :: ga_i 26 (nb) :: ga_i 1300 (r_sg C sg) :: ga_i 250 (na) :: ga_i 25 (nz) :: ga_i 40 (pi) :: ga_z 40 (cm) :: L2), f) none (n, L1, ((m_O o_tp o_rd o_fe o_em o_sp o_ac o_td o_sm o_tt (r_at) (nI lt) (r_fk) (r_fp) (nI nw) (nI (C ++ [x]).length) (r_nt) (r_pl) (r_op)) :: ga_i 600 tb :: m81 :: m82 :: m83 :: m84 :: m85 :: m86 :: m87 :: m88 :: m89 :: m90 :: m91 :: m92 :: m93 :: m94 :: m95 :: ga_i 25 (ns) :: ga_i 26 (nb) :: ga_i 1300 (r_sg (C ++ [x]) sg) :: ga_i 250 (na) :: ga_i 25 (nz) :: ga_i 40 (pi) :: ga_z 40 (cm) :: L2), f) := by
  subst ha hc; exact m_add hn hC
theorem c_X11_joins {T A : List (Nat × Nat)} (hn : 106 ≤ n) (hb : b = 0 ∨ b = 1) (hA : ∀ x S, A = x :: S → x.1 ≤ 12 ∧ ¬ x.1 = 5 ∧ (b = 1 → ¬ x.1 = 3 ∧ ¬ x.1 = 4)) (hT : ∀ x ∈ T, x.1 = 5 ∨ (b = 1 ∧ (x.1 = 3 ∨ x.1 = 4))) (hl : (T ++ A).length ≤ 40) (hp : r_pil (T ++ A) pi cm) (hC : C.length + T.length < 650) : ga_Mx E 1 yX11_joins cX11_joins 2 none 0 0 [.ref 79, .int b] (n, L1, ((m_O o_tp o_rd o_fe o_em o_sp o_ac o_td o_sm o_tt (r_at) (nI lt) (r_fk) (r_fp) (nI nw) (nI C.length) (r_nt) (nI (T ++ A).length) (r_op)) :: ga_i 600 tb :: m81 :: m82 :: m83 :: m84 :: m85 :: m86 :: m87 :: m88 :: m89 :: m90 :: m91 :: m92 :: m93 :: m94 :: m95 :: ga_i 25 (ns) :: ga_i 26 (nb) :: ga_i 1300 (r_sg C sg) :: ga_i 250 (na) :: ga_i 25 (nz) :: ga_i 40 (pi) :: ga_z 40 (cm) :: L2), f) none (n, L1, ((m_O o_tp o_rd o_fe o_em o_sp o_ac o_td o_sm o_tt (r_at) (nI lt) (r_fk) (r_fp) (nI nw) (nI (C ++ r_cd T).length) (r_nt) (nI A.length) (r_op)) :: ga_i 600 tb :: m81 :: m82 :: m83 :: m84 :: m85 :: m86 :: m87 :: m88 :: m89 :: m90 :: m91 :: m92 :: m93 :: m94 :: m95 :: ga_i 25 (ns) :: ga_i 26 (nb) :: ga_i 1300 (r_sg (C ++ r_cd T) sg) :: ga_i 250 (na) :: ga_i 25 (nz) :: ga_i 40 (pi) :: ga_z 40 (cm) :: L2), f) := by
  refine ga_Mt.of (by decide) rfl (fun X hX hP => ?_)
  refine g_less [some (.ref 79), some (.int b)] ⟨rfl, rfl, trivial⟩ ?_
  generalize hC0 : C ++ r_cd T = C0 at *
  have loop : ∀ (T C : List (Nat × Nat)), C ++ r_cd T = C0 → (∀ x ∈ T, x.1 = 5 ∨ (b = 1 ∧ (x.1 = 3 ∨ x.1 = 4))) → (T ++ A).length ≤ 40 → r_pil (T ++ A) pi cm → C.length + T.length < 650 → ga_G E X 0 0 0 [some (.ref 79), some (.int b)] [] (n, L1, ((m_O o_tp o_rd o_fe o_em o_sp o_ac o_td o_sm o_tt (r_at) (nI lt) (r_fk) (r_fp) (nI nw) (nI C.length) (r_nt) (nI (T ++ A).length) (r_op)) :: ga_i 600 tb :: m81 :: m82 :: m83 :: m84 :: m85 :: m86 :: m87 :: m88 :: m89 :: m90 :: m91 :: m92 :: m93 :: m94 :: m95 :: ga_i 25 (ns) :: ga_i 26 (nb) :: ga_i 1300 (r_sg C sg) :: ga_i 250 (na) :: ga_i 25 (nz) :: ga_i 40 (pi) :: ga_z 40 (cm) :: L2), f) := by
    intro T
    induction T with
    | nil =>
      intro C hC hT hl hp hlen
      rw [show C ++ r_cd [] = C from List.append_nil C] at hC
      subst hC
      rw [List.nil_append] at *
      match A, hA, hl, hp with
      | [], _, _, _ =>
        refine g_aload_n (nx := 1) hX 0 dX11_joins_0 rfl rfl rfl ?_
        refine g_getfield (nx := 4) hX dX11_joins_1 rfl fX11_129 (ga_dn hn rfl) rfl rfl ?_
        refine g_if_le (nx := 7) hX 83 dX11_joins_4 (by decide) rfl (fun h4 => ?_) (fun h4 => ?_)
        · exact g_return hX hP dX11_joins_83 (Nat.le_of_ble_eq_true rfl) (Nat.le_of_ble_eq_true rfl) ⟨rfl, rfl⟩
        · exact absurd (by decide) h4
      | x :: S, hA, hl, hp =>
        obtain ⟨a1, a2, a3⟩ := hA x S rfl
        have e1 : nI (x :: S).length - 1 = nI S.length := nI_pred S.length
        simp only [List.length_cons] at hl
        refine g_aload_n (nx := 1) hX 0 dX11_joins_0 rfl rfl rfl ?_
        refine g_getfield (nx := 4) hX dX11_joins_1 rfl fX11_129 (ga_dn hn rfl) rfl rfl ?_
        refine g_if_le (nx := 7) hX 83 dX11_joins_4 (by decide) rfl (fun h4 => ?_) (fun h4 => ?_)
        · exact g_return hX hP dX11_joins_83 (Nat.le_of_ble_eq_true rfl) (Nat.le_of_ble_eq_true rfl) ⟨rfl, rfl⟩
        · refine g_aload_n (nx := 8) hX 0 dX11_joins_7 rfl rfl rfl ?_
          refine g_getfield (nx := 11) hX dX11_joins_8 rfl fX11_122 (ga_dn hn rfl) rfl rfl ?_
          refine g_aload_n (nx := 12) hX 0 dX11_joins_11 rfl rfl rfl ?_
          refine g_getfield (nx := 15) hX dX11_joins_12 rfl fX11_129 (ga_dn hn rfl) rfl rfl ?_
          refine g_iconst (nx := 16) hX 1 dX11_joins_15 rfl (by decide) ?_
          refine g_isub (nx := 17) hX dX11_joins_16 rfl ?_
          refine g_iaload (nx := 18) hX dX11_joins_17 rfl (ga_dn hn rfl) rfl (ga_ix_of (j := S.length) e1 (by omega) (by omega)) ?_
          rw [hp.1]
          refine g_iconst (nx := 19) hX 5 dX11_joins_18 rfl (by decide) ?_
          refine g_icmp_eq (nx := 22) hX 56 dX11_joins_19 (by decide) rfl (fun h19 => ?_) (fun h19 => ?_)
          · exact absurd (nI_inj (b := 5) h19 (by omega) (by omega)) a2
          · refine g_iload_n (nx := 23) hX 1 dX11_joins_22 rfl rfl rfl ?_
            refine g_if_eq (nx := 26) hX 83 dX11_joins_23 (by decide) rfl (fun h23 => ?_) (fun h23 => ?_)
            · exact g_return hX hP dX11_joins_83 (Nat.le_of_ble_eq_true rfl) (Nat.le_of_ble_eq_true rfl) ⟨rfl, rfl⟩
            · have hb1 := a3 (hb.resolve_left h23)
              refine g_aload_n (nx := 27) hX 0 dX11_joins_26 rfl rfl rfl ?_
              refine g_getfield (nx := 30) hX dX11_joins_27 rfl fX11_122 (ga_dn hn rfl) rfl rfl ?_
              refine g_aload_n (nx := 31) hX 0 dX11_joins_30 rfl rfl rfl ?_
              refine g_getfield (nx := 34) hX dX11_joins_31 rfl fX11_129 (ga_dn hn rfl) rfl rfl ?_
              refine g_iconst (nx := 35) hX 1 dX11_joins_34 rfl (by decide) ?_
              refine g_isub (nx := 36) hX dX11_joins_35 rfl ?_
              refine g_iaload (nx := 37) hX dX11_joins_36 rfl (ga_dn hn rfl) rfl (ga_ix_of (j := S.length) e1 (by omega) (by omega)) ?_
              rw [hp.1]
              refine g_iconst (nx := 38) hX 3 dX11_joins_37 rfl (by decide) ?_
              refine g_icmp_eq (nx := 41) hX 56 dX11_joins_38 (by decide) rfl (fun h38 => ?_) (fun h38 => ?_)
              · exact absurd (nI_inj (b := 3) h38 (by omega) (by omega)) hb1.1
              · refine g_aload_n (nx := 42) hX 0 dX11_joins_41 rfl rfl rfl ?_
                refine g_getfield (nx := 45) hX dX11_joins_42 rfl fX11_122 (ga_dn hn rfl) rfl rfl ?_
                refine g_aload_n (nx := 46) hX 0 dX11_joins_45 rfl rfl rfl ?_
                refine g_getfield (nx := 49) hX dX11_joins_46 rfl fX11_129 (ga_dn hn rfl) rfl rfl ?_
                refine g_iconst (nx := 50) hX 1 dX11_joins_49 rfl (by decide) ?_
                refine g_isub (nx := 51) hX dX11_joins_50 rfl ?_
                refine g_iaload (nx := 52) hX dX11_joins_51 rfl (ga_dn hn rfl) rfl (ga_ix_of (j := S.length) e1 (by omega) (by omega)) ?_
                rw [hp.1]
                refine g_iconst (nx := 53) hX 4 dX11_joins_52 rfl (by decide) ?_
                refine g_icmp_ne (nx := 56) hX 83 dX11_joins_53 (by decide) rfl (fun h53 => ?_) (fun h53 => ?_)
                · exact g_return hX hP dX11_joins_83 (Nat.le_of_ble_eq_true rfl) (Nat.le_of_ble_eq_true rfl) ⟨rfl, rfl⟩
                · exact absurd (nI_inj (b := 4) h53 (by omega) (by omega)) hb1.2
    | cons x T ih =>
      intro C hC hT hl hp hlen
      have hx := hT x List.mem_cons_self
      rw [List.cons_append] at *
      have e1 : nI (x :: (T ++ A)).length - 1 = nI (T ++ A).length := nI_pred _
      simp only [List.length_cons] at hl hlen
      have hm := r_cd_mop (x := x) (by omega)
      have ih1 := ih (C ++ [(x.1 - 1, 0)]) (by rw [← hC]; simp [r_cd]) (fun y hy => hT y (List.mem_cons_of_mem _ hy)) (by omega) hp.2.2 (by simp only [List.length_append, List.length_cons, List.length_nil]; omega)
      have t56 : ga_G E X 0 0 56 [some (.ref 79), some (.int b)] [] (n, L1, ((m_O o_tp o_rd o_fe o_em o_sp o_ac o_td o_sm o_tt (r_at) (nI lt) (r_fk) (r_fp) (nI nw) (nI C.length) (r_nt) (nI (x :: (T ++ A)).length) (r_op)) :: ga_i 600 tb :: m81 :: m82 :: m83 :: m84 :: m85 :: m86 :: m87 :: m88 :: m89 :: m90 :: m91 :: m92 :: m93 :: m94 :: m95 :: ga_i 25 (ns) :: ga_i 26 (nb) :: ga_i 1300 (r_sg C sg) :: ga_i 250 (na) :: ga_i 25 (nz) :: ga_i 40 (pi) :: ga_z 40 (cm) :: L2), f) := by
        refine g_aload_n (nx := 57) hX 0 dX11_joins_56 rfl rfl rfl ?_
        refine g_dup (nx := 58) hX dX11_joins_57 rfl rfl ?_
        refine g_getfield (nx := 61) hX dX11_joins_58 rfl fX11_129 (ga_dn hn rfl) rfl rfl ?_
        refine g_iconst (nx := 62) hX 1 dX11_joins_61 rfl (by decide) ?_
        refine g_isub (nx := 63) hX dX11_joins_62 rfl ?_
        rw [e1]
        refine g_putfield (nx := 66) hX dX11_joins_63 rfl pX11_129 (ga_dn hn rfl) rfl rfl rfl rfl ?_
        refine g_aload_n (nx := 67) hX 0 dX11_joins_66 rfl rfl rfl ?_
        refine g_aload_n (nx := 68) hX 0 dX11_joins_67 rfl rfl rfl ?_
        refine g_getfield (nx := 71) hX dX11_joins_68 rfl fX11_122 (ga_dn hn rfl) rfl rfl ?_
        refine g_aload_n (nx := 72) hX 0 dX11_joins_71 rfl rfl rfl ?_
        refine g_getfield (nx := 75) hX dX11_joins_72 rfl fX11_129 (ga_dn hn rfl) rfl rfl ?_
        refine g_iaload (nx := 76) hX dX11_joins_75 rfl (ga_dn hn rfl) rfl (ga_ix_of (j := (T ++ A).length) rfl (by omega) (by omega)) ?_
        rw [hp.1]
        refine g_iconst (nx := 77) hX 0 dX11_joins_76 rfl (by decide) ?_
        refine g_V2 (nx := 80) hX dX11_joins_77 rfl mX11_244 yX11_add_ok (m_addx (C := C) (x := (x.1 - 1, 0)) hn (by omega) (by rw [hm.1]) (by rw [hm.2]; rfl)) (ga_dn hn rfl) rfl rfl rfl (by decide) rfl (Nat.le_of_ble_eq_true rfl) (Nat.le_of_ble_eq_true rfl) ?_
        rintro _ _ ⟨rfl, rfl⟩
        refine g_goto (nx := 0) hX dX11_joins_80 (by decide) ?_
        exact ih1
      refine g_aload_n (nx := 1) hX 0 dX11_joins_0 rfl rfl rfl ?_
      refine g_getfield (nx := 4) hX dX11_joins_1 rfl fX11_129 (ga_dn hn rfl) rfl rfl ?_
      refine g_if_le (nx := 7) hX 83 dX11_joins_4 (by decide) rfl (fun h4 => ?_) (fun h4 => ?_)
      · exact absurd ((nI_leI (b := 0) (by simp only [List.length_cons]; omega) (by omega)).mp h4) (by simp)
      · refine g_aload_n (nx := 8) hX 0 dX11_joins_7 rfl rfl rfl ?_
        refine g_getfield (nx := 11) hX dX11_joins_8 rfl fX11_122 (ga_dn hn rfl) rfl rfl ?_
        refine g_aload_n (nx := 12) hX 0 dX11_joins_11 rfl rfl rfl ?_
        refine g_getfield (nx := 15) hX dX11_joins_12 rfl fX11_129 (ga_dn hn rfl) rfl rfl ?_
        refine g_iconst (nx := 16) hX 1 dX11_joins_15 rfl (by decide) ?_
        refine g_isub (nx := 17) hX dX11_joins_16 rfl ?_
        refine g_iaload (nx := 18) hX dX11_joins_17 rfl (ga_dn hn rfl) rfl (ga_ix_of (j := (T ++ A).length) e1 (by omega) (by omega)) ?_
        rw [hp.1]
        refine g_iconst (nx := 19) hX 5 dX11_joins_18 rfl (by decide) ?_
        refine g_icmp_eq (nx := 22) hX 56 dX11_joins_19 (by decide) rfl (fun h19 => ?_) (fun h19 => ?_)
        · exact t56
        · have hx' := hx.resolve_left (fun z => h19 (by rw [z]; rfl))
          refine g_iload_n (nx := 23) hX 1 dX11_joins_22 rfl rfl rfl ?_
          refine g_if_eq (nx := 26) hX 83 dX11_joins_23 (by decide) rfl (fun h23 => ?_) (fun h23 => ?_)
          · exact absurd (hx'.1.symm.trans h23) (by decide)
          · refine g_aload_n (nx := 27) hX 0 dX11_joins_26 rfl rfl rfl ?_
            refine g_getfield (nx := 30) hX dX11_joins_27 rfl fX11_122 (ga_dn hn rfl) rfl rfl ?_
            refine g_aload_n (nx := 31) hX 0 dX11_joins_30 rfl rfl rfl ?_
            refine g_getfield (nx := 34) hX dX11_joins_31 rfl fX11_129 (ga_dn hn rfl) rfl rfl ?_
            refine g_iconst (nx := 35) hX 1 dX11_joins_34 rfl (by decide) ?_
            refine g_isub (nx := 36) hX dX11_joins_35 rfl ?_
            refine g_iaload (nx := 37) hX dX11_joins_36 rfl (ga_dn hn rfl) rfl (ga_ix_of (j := (T ++ A).length) e1 (by omega) (by omega)) ?_
            rw [hp.1]
            refine g_iconst (nx := 38) hX 3 dX11_joins_37 rfl (by decide) ?_
            refine g_icmp_eq (nx := 41) hX 56 dX11_joins_38 (by decide) rfl (fun h38 => ?_) (fun h38 => ?_)
            · exact t56
            · refine g_aload_n (nx := 42) hX 0 dX11_joins_41 rfl rfl rfl ?_
              refine g_getfield (nx := 45) hX dX11_joins_42 rfl fX11_122 (ga_dn hn rfl) rfl rfl ?_
              refine g_aload_n (nx := 46) hX 0 dX11_joins_45 rfl rfl rfl ?_
              refine g_getfield (nx := 49) hX dX11_joins_46 rfl fX11_129 (ga_dn hn rfl) rfl rfl ?_
              refine g_iconst (nx := 50) hX 1 dX11_joins_49 rfl (by decide) ?_
              refine g_isub (nx := 51) hX dX11_joins_50 rfl ?_
              refine g_iaload (nx := 52) hX dX11_joins_51 rfl (ga_dn hn rfl) rfl (ga_ix_of (j := (T ++ A).length) e1 (by omega) (by omega)) ?_
              rw [hp.1]
              refine g_iconst (nx := 53) hX 4 dX11_joins_52 rfl (by decide) ?_
              refine g_icmp_ne (nx := 56) hX 83 dX11_joins_53 (by decide) rfl (fun h53 => ?_) (fun h53 => ?_)
              · exact absurd (hx'.2.elim (fun z => absurd (by rw [z]; rfl) h38) (fun z => by rw [z]; rfl)) h53
              · exact t56
  exact loop T C hC0 hT hl hp hC
theorem m_opens {s : Nat} {S : List (Nat × Nat)} (hn : 106 ≤ n) (hl : lt ≤ 600) (hp : p ≤ lt) (hq : x_sk tb lt p = q) (ho : o ≤ 6) (hS : S.length < 40) : ga_Mt E 1 yX11_opens cX11_opens 2 none 0 0 [.ref 79, .int (nI s)] (n, L1, ((m_O o_tp o_rd o_fe o_em o_sp o_ac o_td o_sm o_tt (nI (p)) (nI lt) (0) (-1) (nI nw) (nI (C).length) (r_nt) (nI (S).length) (nI (o))) :: ga_i 600 tb :: m81 :: m82 :: m83 :: m84 :: m85 :: m86 :: m87 :: m88 :: m89 :: m90 :: m91 :: m92 :: m93 :: m94 :: m95 :: ga_i 25 (ns) :: ga_i 26 (nb) :: ga_i 1300 (r_sg (C) sg) :: ga_i 250 (na) :: ga_i 25 (nz) :: ga_i 40 (pi) :: ga_z 40 (cm) :: L2), f) (fun r M => r = none ∧ ((¬ (x_tk tb lt q = 40 ∧ o < 6) ∧ M = (n, L1, ((m_O o_tp o_rd o_fe o_em o_sp o_ac o_td o_sm o_tt (nI (q)) (nI lt) (1) (nI q) (nI nw) (nI (C).length) (r_nt) (nI (S).length) (nI (o))) :: ga_i 600 tb :: m81 :: m82 :: m83 :: m84 :: m85 :: m86 :: m87 :: m88 :: m89 :: m90 :: m91 :: m92 :: m93 :: m94 :: m95 :: ga_i 25 (ns) :: ga_i 26 (nb) :: ga_i 1300 (r_sg (C) sg) :: ga_i 250 (na) :: ga_i 25 (nz) :: ga_i 40 (pi) :: ga_z 40 (cm) :: L2), f)) ∨ ((x_tk tb lt q = 40 ∧ o < 6) ∧ M = (n, L1, ((m_O o_tp o_rd o_fe o_em o_sp o_ac o_td o_sm o_tt (nI (q + 1)) (nI lt) (0) (-1) (nI nw) (nI (C).length) (r_nt) (nI (S.length + 1)) (nI (o + 1))) :: ga_i 600 tb :: m81 :: m82 :: m83 :: m84 :: m85 :: m86 :: m87 :: m88 :: m89 :: m90 :: m91 :: m92 :: m93 :: m94 :: m95 :: ga_i 25 (ns) :: ga_i 26 (nb) :: ga_i 1300 (r_sg (C) sg) :: ga_i 250 (na) :: ga_i 25 (nz) :: ga_i 40 (upd pi S.length (nI s)) :: ga_z 40 (upd cm S.length 0) :: L2), f)))) := by
  subst hq
  have hql := (x_sk_le (tb := tb) hp).2
  generalize hq0 : x_sk tb lt p = q at *
  refine ga_Mt.of (by decide) rfl (fun X hX hP => ?_)
  refine g_less [some (.ref 79), some (.int (nI s))] ⟨rfl, rfl, trivial⟩ ?_
  refine g_aload_n (nx := 1) hX 0 dX11_opens_0 rfl rfl rfl ?_
  refine g_V0 (nx := 4) hX dX11_opens_1 rfl mX11_186 yX11_here_ok (c_X11_here hn hl (by omega)) (ga_dn hn rfl) rfl rfl rfl (by decide) rfl (Nat.le_of_ble_eq_true rfl) (Nat.le_of_ble_eq_true rfl) ?_
  rintro _ _ ⟨rfl, rfl⟩
  rw [hq0]
  refine g_bipush (nx := 6) hX 40 dX11_opens_4 rfl (by decide) ?_
  refine g_icmp_ne (nx := 9) hX 18 dX11_opens_6 (by decide) rfl (fun h6 => ?_) (fun h6 => ?_)
  · have hno : ¬ (x_tk tb lt q = 40 ∧ o < 6) := fun z => h6 ((x_ct (by decide) (by decide)).mpr z.1)
    refine g_aload_n (nx := 19) hX 0 dX11_opens_18 rfl rfl rfl ?_
    refine g_iconst (nx := 20) hX 1 dX11_opens_19 rfl (by decide) ?_
    refine g_aload_n (nx := 21) hX 0 dX11_opens_20 rfl rfl rfl ?_
    refine g_getfield (nx := 24) hX dX11_opens_21 rfl fX11_86 (ga_dn hn rfl) rfl rfl ?_
    refine g_V2 (nx := 27) hX dX11_opens_24 rfl mX11_189 yX11_blame_ok (m_blame hn) (ga_dn hn rfl) rfl rfl rfl (by decide) rfl (Nat.le_of_ble_eq_true rfl) (Nat.le_of_ble_eq_true rfl) ?_
    rintro _ _ ⟨rfl, rfl⟩
    refine g_aload_n (nx := 28) hX 0 dX11_opens_27 rfl rfl rfl ?_
    refine g_getfield (nx := 31) hX dX11_opens_28 rfl fX11_92 (ga_dn hn rfl) rfl rfl ?_
    refine g_if_le (nx := 34) hX 35 dX11_opens_31 (by decide) rfl (fun h31 => ?_) (fun h31 => ?_)
    · exact absurd h31 (by decide)
    · exact g_return hX hP dX11_opens_34 (Nat.le_of_ble_eq_true rfl) (Nat.le_of_ble_eq_true rfl) ⟨rfl, Or.inl ⟨hno, rfl⟩⟩
  · have h40 := (x_ct (by decide) (by decide)).mp h6
    refine g_aload_n (nx := 10) hX 0 dX11_opens_9 rfl rfl rfl ?_
    refine g_getfield (nx := 13) hX dX11_opens_10 rfl fX11_132 (ga_dn hn rfl) rfl rfl ?_
    refine g_bipush (nx := 15) hX 6 dX11_opens_13 rfl (by decide) ?_
    refine g_icmp_ne (nx := 18) hX 27 dX11_opens_15 (by decide) rfl (fun h15 => ?_) (fun h15 => ?_)
    · have hyes : x_tk tb lt q = 40 ∧ o < 6 := ⟨h40, Nat.lt_of_le_of_ne ho (fun z => h15 (by rw [z]; rfl))⟩
      refine g_aload_n (nx := 28) hX 0 dX11_opens_27 rfl rfl rfl ?_
      refine g_getfield (nx := 31) hX dX11_opens_28 rfl fX11_92 (ga_dn hn rfl) rfl rfl ?_
      refine g_if_le (nx := 34) hX 35 dX11_opens_31 (by decide) rfl (fun h31 => ?_) (fun h31 => ?_)
      · refine g_aload_n (nx := 36) hX 0 dX11_opens_35 rfl rfl rfl ?_
        refine g_dup (nx := 37) hX dX11_opens_36 rfl rfl ?_
        refine g_getfield (nx := 40) hX dX11_opens_37 rfl fX11_86 (ga_dn hn rfl) rfl rfl ?_
        refine g_iconst (nx := 41) hX 1 dX11_opens_40 rfl (by decide) ?_
        refine g_iadd (nx := 42) hX dX11_opens_41 rfl ?_
        rw [nI_1]
        refine g_putfield (nx := 45) hX dX11_opens_42 rfl pX11_86 (ga_dn hn rfl) rfl rfl rfl rfl ?_
        refine g_aload_n (nx := 46) hX 0 dX11_opens_45 rfl rfl rfl ?_
        refine g_dup (nx := 47) hX dX11_opens_46 rfl rfl ?_
        refine g_getfield (nx := 50) hX dX11_opens_47 rfl fX11_132 (ga_dn hn rfl) rfl rfl ?_
        refine g_iconst (nx := 51) hX 1 dX11_opens_50 rfl (by decide) ?_
        refine g_iadd (nx := 52) hX dX11_opens_51 rfl ?_
        rw [nI_1]
        refine g_putfield (nx := 55) hX dX11_opens_52 rfl pX11_132 (ga_dn hn rfl) rfl rfl rfl rfl ?_
        refine g_aload_n (nx := 56) hX 0 dX11_opens_55 rfl rfl rfl ?_
        refine g_getfield (nx := 59) hX dX11_opens_56 rfl fX11_122 (ga_dn hn rfl) rfl rfl ?_
        refine g_aload_n (nx := 60) hX 0 dX11_opens_59 rfl rfl rfl ?_
        refine g_getfield (nx := 63) hX dX11_opens_60 rfl fX11_129 (ga_dn hn rfl) rfl rfl ?_
        refine g_iload_n (nx := 64) hX 1 dX11_opens_63 rfl rfl rfl ?_
        refine g_iastore (nx := 65) hX dX11_opens_64 rfl (ga_dn hn rfl) rfl (ga_ix_of (j := S.length) rfl (by omega) (by omega)) ?_
        refine g_aload_n (nx := 66) hX 0 dX11_opens_65 rfl rfl rfl ?_
        refine g_getfield (nx := 69) hX dX11_opens_66 rfl fX11_125 (ga_dn hn rfl) rfl rfl ?_
        refine g_aload_n (nx := 70) hX 0 dX11_opens_69 rfl rfl rfl ?_
        refine g_getfield (nx := 73) hX dX11_opens_70 rfl fX11_129 (ga_dn hn rfl) rfl rfl ?_
        refine g_iconst (nx := 74) hX 0 dX11_opens_73 rfl (by decide) ?_
        refine g_zastore (nx := 75) hX dX11_opens_74 rfl (ga_dn hn rfl) rfl (ga_ix_of (j := S.length) rfl (by omega) (by omega)) rfl ?_
        refine g_aload_n (nx := 76) hX 0 dX11_opens_75 rfl rfl rfl ?_
        refine g_dup (nx := 77) hX dX11_opens_76 rfl rfl ?_
        refine g_getfield (nx := 80) hX dX11_opens_77 rfl fX11_129 (ga_dn hn rfl) rfl rfl ?_
        refine g_iconst (nx := 81) hX 1 dX11_opens_80 rfl (by decide) ?_
        refine g_iadd (nx := 82) hX dX11_opens_81 rfl ?_
        rw [nI_1]
        refine g_putfield (nx := 85) hX dX11_opens_82 rfl pX11_129 (ga_dn hn rfl) rfl rfl rfl rfl ?_
        exact g_return hX hP dX11_opens_85 (Nat.le_of_ble_eq_true rfl) (Nat.le_of_ble_eq_true rfl) ⟨rfl, Or.inr ⟨hyes, rfl⟩⟩
      · exact absurd (by decide) h31
    · have hno : ¬ (x_tk tb lt q = 40 ∧ o < 6) := fun z => absurd (nI_inj (b := 6) h15 (by omega) (by omega)) (by omega)
      refine g_aload_n (nx := 19) hX 0 dX11_opens_18 rfl rfl rfl ?_
      refine g_iconst (nx := 20) hX 1 dX11_opens_19 rfl (by decide) ?_
      refine g_aload_n (nx := 21) hX 0 dX11_opens_20 rfl rfl rfl ?_
      refine g_getfield (nx := 24) hX dX11_opens_21 rfl fX11_86 (ga_dn hn rfl) rfl rfl ?_
      refine g_V2 (nx := 27) hX dX11_opens_24 rfl mX11_189 yX11_blame_ok (m_blame hn) (ga_dn hn rfl) rfl rfl rfl (by decide) rfl (Nat.le_of_ble_eq_true rfl) (Nat.le_of_ble_eq_true rfl) ?_
      rintro _ _ ⟨rfl, rfl⟩
      refine g_aload_n (nx := 28) hX 0 dX11_opens_27 rfl rfl rfl ?_
      refine g_getfield (nx := 31) hX dX11_opens_28 rfl fX11_92 (ga_dn hn rfl) rfl rfl ?_
      refine g_if_le (nx := 34) hX 35 dX11_opens_31 (by decide) rfl (fun h31 => ?_) (fun h31 => ?_)
      · exact absurd h31 (by decide)
      · exact g_return hX hP dX11_opens_34 (Nat.le_of_ble_eq_true rfl) (Nat.le_of_ble_eq_true rfl) ⟨rfl, Or.inl ⟨hno, rfl⟩⟩
/-- only what joins two numbers is piled upon -/
def r_ops (D : List (Nat × Nat)) : Prop := ∀ x ∈ D, x.1 = 5 ∨ x.1 = 3 ∨ x.1 = 4
def r_bk (x : Nat × Nat) : Prop := (x.1 = 7 ∨ x.1 = 8 ∨ x.1 = 12) ∧ (x.2 = 0 ∨ x.2 = 1)
theorem j_all {D A : List (Nat × Nat)} (hn : 106 ≤ n) (hA : ∀ x S, A = x :: S → r_bk x) (hT : r_ops D) (hl : (D ++ A).length ≤ 40) (hp : r_pil (D ++ A) pi cm) (hC : C.length + D.length < 650) : ga_Mx E 1 yX11_joins cX11_joins 2 none 0 0 [.ref 79, .int 1] (n, L1, ((m_O o_tp o_rd o_fe o_em o_sp o_ac o_td o_sm o_tt (r_at) (nI lt) (r_fk) (r_fp) (nI nw) (nI C.length) (r_nt) (nI (D ++ A).length) (r_op)) :: ga_i 600 tb :: m81 :: m82 :: m83 :: m84 :: m85 :: m86 :: m87 :: m88 :: m89 :: m90 :: m91 :: m92 :: m93 :: m94 :: m95 :: ga_i 25 (ns) :: ga_i 26 (nb) :: ga_i 1300 (r_sg C sg) :: ga_i 250 (na) :: ga_i 25 (nz) :: ga_i 40 (pi) :: ga_z 40 (cm) :: L2), f) none (n, L1, ((m_O o_tp o_rd o_fe o_em o_sp o_ac o_td o_sm o_tt (r_at) (nI lt) (r_fk) (r_fp) (nI nw) (nI (C ++ r_cd D).length) (r_nt) (nI A.length) (r_op)) :: ga_i 600 tb :: m81 :: m82 :: m83 :: m84 :: m85 :: m86 :: m87 :: m88 :: m89 :: m90 :: m91 :: m92 :: m93 :: m94 :: m95 :: ga_i 25 (ns) :: ga_i 26 (nb) :: ga_i 1300 (r_sg (C ++ r_cd D) sg) :: ga_i 250 (na) :: ga_i 25 (nz) :: ga_i 40 (pi) :: ga_z 40 (cm) :: L2), f) :=
  c_X11_joins hn (Or.inr rfl) (fun x S e => by have := (hA x S e).1; exact ⟨by omega, by omega, fun _ => ⟨by omega, by omega⟩⟩) (fun x hx => (hT x hx).imp id (fun z => ⟨rfl, z⟩)) hl hp hC
theorem m_closes {D S : List (Nat × Nat)} {x : Nat × Nat} (hn : 106 ≤ n) (hx : r_bk x) (hD : r_ops D) (hl : (D ++ x :: S).length ≤ 40) (hp : r_pil (D ++ x :: S) pi cm) (hpx : r_pil (x :: S) pi cm) (hC : C.length + D.length < 640) (hq : q ≤ 600) (ho : 1 ≤ o) : ga_Mt E 2 yX11_closes cX11_closes 2 none 0 0 [.ref 79] (n, L1, ((m_O o_tp o_rd o_fe o_em o_sp o_ac o_td o_sm o_tt (nI (q)) (nI lt) (0) (-1) (nI nw) (nI (C).length) (r_nt) (nI (D ++ x :: S).length) (nI (o))) :: ga_i 600 tb :: m81 :: m82 :: m83 :: m84 :: m85 :: m86 :: m87 :: m88 :: m89 :: m90 :: m91 :: m92 :: m93 :: m94 :: m95 :: ga_i 25 (ns) :: ga_i 26 (nb) :: ga_i 1300 (r_sg (C) sg) :: ga_i 250 (na) :: ga_i 25 (nz) :: ga_i 40 (pi) :: ga_z 40 (cm) :: L2), f) (fun r M => r = none ∧ ((¬ (x.1 = 12 ∨ x.2 = 1) ∧ M = (n, L1, ((m_O o_tp o_rd o_fe o_em o_sp o_ac o_td o_sm o_tt (nI (q)) (nI lt) (1) (nI q) (nI nw) (nI (C ++ r_cd D).length) (r_nt) (nI (x :: S).length) (nI (o))) :: ga_i 600 tb :: m81 :: m82 :: m83 :: m84 :: m85 :: m86 :: m87 :: m88 :: m89 :: m90 :: m91 :: m92 :: m93 :: m94 :: m95 :: ga_i 25 (ns) :: ga_i 26 (nb) :: ga_i 1300 (r_sg (C ++ r_cd D) sg) :: ga_i 250 (na) :: ga_i 25 (nz) :: ga_i 40 (pi) :: ga_z 40 (cm) :: L2), f)) ∨ ((x.1 = 12 ∨ x.2 = 1) ∧ M = (n, L1, ((m_O o_tp o_rd o_fe o_em o_sp o_ac o_td o_sm o_tt (nI (q + 1)) (nI lt) (0) (-1) (nI nw) (nI (C ++ r_cd D ++ (if x.1 = 12 then [] else [(x.1 - 1, 0)])).length) (r_nt) (nI (S).length) (nI (o - 1))) :: ga_i 600 tb :: m81 :: m82 :: m83 :: m84 :: m85 :: m86 :: m87 :: m88 :: m89 :: m90 :: m91 :: m92 :: m93 :: m94 :: m95 :: ga_i 25 (ns) :: ga_i 26 (nb) :: ga_i 1300 (r_sg (C ++ r_cd D ++ (if x.1 = 12 then [] else [(x.1 - 1, 0)])) sg) :: ga_i 250 (na) :: ga_i 25 (nz) :: ga_i 40 (pi) :: ga_z 40 (cm) :: L2), f)))) := by
  have e1 : nI (x :: S).length - 1 = nI S.length := nI_pred S.length
  have hlS : S.length < 40 := by simp only [List.length_append, List.length_cons] at hl; omega
  have eo : nI o - 1 = nI (o - 1) := by have := pk_sub (a := o) (b := 1) ho; exact this
  have hcx : ¬ x.1 = 12 → cm S.length = nI x.2 := fun z => hpx.2.1 (by have := hx.1; omega)
  have hm := r_cd_mop (x := x)
  have hCd : (C ++ r_cd D).length < 640 := by simp only [List.length_append, r_cd, List.length_map]; omega
  refine ga_Mt.of (by decide) rfl (fun X hX hP => ?_)
  refine g_less [some (.ref 79), none] ⟨rfl, trivial⟩ ?_
  refine g_aload_n (nx := 1) hX 0 dX11_closes_0 rfl rfl rfl ?_
  refine g_iconst (nx := 2) hX 1 dX11_closes_1 rfl (by decide) ?_
  refine g_V1 (nx := 5) hX dX11_closes_2 rfl mX11_278 yX11_joins_ok (j_all (A := x :: S) hn (fun y S' e => by cases e; exact hx) hD hl hp (by omega)) (ga_dn hn rfl) rfl rfl rfl (by decide) rfl (Nat.le_of_ble_eq_true rfl) (Nat.le_of_ble_eq_true rfl) ?_
  rintro _ _ ⟨rfl, rfl⟩
  refine g_aload_n (nx := 6) hX 0 dX11_closes_5 rfl rfl rfl ?_
  refine g_getfield (nx := 9) hX dX11_closes_6 rfl fX11_122 (ga_dn hn rfl) rfl rfl ?_
  refine g_aload_n (nx := 10) hX 0 dX11_closes_9 rfl rfl rfl ?_
  refine g_getfield (nx := 13) hX dX11_closes_10 rfl fX11_129 (ga_dn hn rfl) rfl rfl ?_
  refine g_iconst (nx := 14) hX 1 dX11_closes_13 rfl (by decide) ?_
  refine g_isub (nx := 15) hX dX11_closes_14 rfl ?_
  refine g_iaload (nx := 16) hX dX11_closes_15 rfl (ga_dn hn rfl) rfl (ga_ix_of (j := S.length) e1 (by omega) (by omega)) ?_
  rw [hpx.1]
  refine g_istore_n (nx := 17) hX 1 dX11_closes_16 rfl rfl rfl ?_
  refine g_iload_n (nx := 18) hX 1 dX11_closes_17 rfl rfl rfl ?_
  refine g_bipush (nx := 20) hX 12 dX11_closes_18 rfl (by decide) ?_
  refine g_icmp_eq (nx := 23) hX 46 dX11_closes_20 (by decide) rfl (fun h20 => ?_) (fun h20 => ?_)
  · have h12 : x.1 = 12 := nI_inj (b := 12) h20 (by have := hx.1; omega) (by omega)
    have hy : x.1 = 12 ∨ x.2 = 1 := Or.inl h12
    refine g_aload_n (nx := 47) hX 0 dX11_closes_46 rfl rfl rfl ?_
    refine g_getfield (nx := 50) hX dX11_closes_47 rfl fX11_92 (ga_dn hn rfl) rfl rfl ?_
    refine g_if_le (nx := 53) hX 54 dX11_closes_50 (by decide) rfl (fun h50 => ?_) (fun h50 => ?_)
    · refine g_aload_n (nx := 55) hX 0 dX11_closes_54 rfl rfl rfl ?_
      refine g_dup (nx := 56) hX dX11_closes_55 rfl rfl ?_
      refine g_getfield (nx := 59) hX dX11_closes_56 rfl fX11_129 (ga_dn hn rfl) rfl rfl ?_
      refine g_iconst (nx := 60) hX 1 dX11_closes_59 rfl (by decide) ?_
      refine g_isub (nx := 61) hX dX11_closes_60 rfl ?_
      rw [e1]
      refine g_putfield (nx := 64) hX dX11_closes_61 rfl pX11_129 (ga_dn hn rfl) rfl rfl rfl rfl ?_
      refine g_aload_n (nx := 65) hX 0 dX11_closes_64 rfl rfl rfl ?_
      refine g_dup (nx := 66) hX dX11_closes_65 rfl rfl ?_
      refine g_getfield (nx := 69) hX dX11_closes_66 rfl fX11_132 (ga_dn hn rfl) rfl rfl ?_
      refine g_iconst (nx := 70) hX 1 dX11_closes_69 rfl (by decide) ?_
      refine g_isub (nx := 71) hX dX11_closes_70 rfl ?_
      rw [eo]
      refine g_putfield (nx := 74) hX dX11_closes_71 rfl pX11_132 (ga_dn hn rfl) rfl rfl rfl rfl ?_
      refine g_aload_n (nx := 75) hX 0 dX11_closes_74 rfl rfl rfl ?_
      refine g_dup (nx := 76) hX dX11_closes_75 rfl rfl ?_
      refine g_getfield (nx := 79) hX dX11_closes_76 rfl fX11_86 (ga_dn hn rfl) rfl rfl ?_
      refine g_iconst (nx := 80) hX 1 dX11_closes_79 rfl (by decide) ?_
      refine g_iadd (nx := 81) hX dX11_closes_80 rfl ?_
      rw [nI_1]
      refine g_putfield (nx := 84) hX dX11_closes_81 rfl pX11_86 (ga_dn hn rfl) rfl rfl rfl rfl ?_
      refine g_iload_n (nx := 85) hX 1 dX11_closes_84 rfl rfl rfl ?_
      refine g_bipush (nx := 87) hX 12 dX11_closes_85 rfl (by decide) ?_
      refine g_icmp_eq (nx := 90) hX 96 dX11_closes_87 (by decide) rfl (fun h87 => ?_) (fun h87 => ?_)
      · exact g_return hX hP dX11_closes_96 (Nat.le_of_ble_eq_true rfl) (Nat.le_of_ble_eq_true rfl) ⟨rfl, Or.inr ⟨hy, by rw [if_pos h12, List.append_nil] <;> rfl⟩⟩
      · exact absurd (by rw [h12]; rfl) h87
    · exact absurd (by decide) h50
  · have h12 : ¬ x.1 = 12 := fun z => h20 (by rw [z]; rfl)
    refine g_aload_n (nx := 24) hX 0 dX11_closes_23 rfl rfl rfl ?_
    refine g_getfield (nx := 27) hX dX11_closes_24 rfl fX11_125 (ga_dn hn rfl) rfl rfl ?_
    refine g_aload_n (nx := 28) hX 0 dX11_closes_27 rfl rfl rfl ?_
    refine g_getfield (nx := 31) hX dX11_closes_28 rfl fX11_129 (ga_dn hn rfl) rfl rfl ?_
    refine g_iconst (nx := 32) hX 1 dX11_closes_31 rfl (by decide) ?_
    refine g_isub (nx := 33) hX dX11_closes_32 rfl ?_
    refine g_zaload (nx := 34) hX dX11_closes_33 rfl (ga_dn hn rfl) rfl (ga_ix_of (j := S.length) e1 (by omega) (by omega)) ?_
    rw [hcx h12]
    refine g_if_ne (nx := 37) hX 46 dX11_closes_34 (by decide) rfl (fun h34 => ?_) (fun h34 => ?_)
    · have hy : x.1 = 12 ∨ x.2 = 1 := Or.inr (hx.2.resolve_left (fun z => h34 (by rw [z]; rfl)))
      refine g_aload_n (nx := 47) hX 0 dX11_closes_46 rfl rfl rfl ?_
      refine g_getfield (nx := 50) hX dX11_closes_47 rfl fX11_92 (ga_dn hn rfl) rfl rfl ?_
      refine g_if_le (nx := 53) hX 54 dX11_closes_50 (by decide) rfl (fun h50 => ?_) (fun h50 => ?_)
      · refine g_aload_n (nx := 55) hX 0 dX11_closes_54 rfl rfl rfl ?_
        refine g_dup (nx := 56) hX dX11_closes_55 rfl rfl ?_
        refine g_getfield (nx := 59) hX dX11_closes_56 rfl fX11_129 (ga_dn hn rfl) rfl rfl ?_
        refine g_iconst (nx := 60) hX 1 dX11_closes_59 rfl (by decide) ?_
        refine g_isub (nx := 61) hX dX11_closes_60 rfl ?_
        rw [e1]
        refine g_putfield (nx := 64) hX dX11_closes_61 rfl pX11_129 (ga_dn hn rfl) rfl rfl rfl rfl ?_
        refine g_aload_n (nx := 65) hX 0 dX11_closes_64 rfl rfl rfl ?_
        refine g_dup (nx := 66) hX dX11_closes_65 rfl rfl ?_
        refine g_getfield (nx := 69) hX dX11_closes_66 rfl fX11_132 (ga_dn hn rfl) rfl rfl ?_
        refine g_iconst (nx := 70) hX 1 dX11_closes_69 rfl (by decide) ?_
        refine g_isub (nx := 71) hX dX11_closes_70 rfl ?_
        rw [eo]
        refine g_putfield (nx := 74) hX dX11_closes_71 rfl pX11_132 (ga_dn hn rfl) rfl rfl rfl rfl ?_
        refine g_aload_n (nx := 75) hX 0 dX11_closes_74 rfl rfl rfl ?_
        refine g_dup (nx := 76) hX dX11_closes_75 rfl rfl ?_
        refine g_getfield (nx := 79) hX dX11_closes_76 rfl fX11_86 (ga_dn hn rfl) rfl rfl ?_
        refine g_iconst (nx := 80) hX 1 dX11_closes_79 rfl (by decide) ?_
        refine g_iadd (nx := 81) hX dX11_closes_80 rfl ?_
        rw [nI_1]
        refine g_putfield (nx := 84) hX dX11_closes_81 rfl pX11_86 (ga_dn hn rfl) rfl rfl rfl rfl ?_
        refine g_iload_n (nx := 85) hX 1 dX11_closes_84 rfl rfl rfl ?_
        refine g_bipush (nx := 87) hX 12 dX11_closes_85 rfl (by decide) ?_
        refine g_icmp_eq (nx := 90) hX 96 dX11_closes_87 (by decide) rfl (fun h87 => ?_) (fun h87 => ?_)
        · exact absurd (nI_inj (b := 12) h87 (by have := hx.1; omega) (by omega)) h12
        · have hm' := hm (by have := hx.1; omega)
          refine g_aload_n (nx := 91) hX 0 dX11_closes_90 rfl rfl rfl ?_
          refine g_iload_n (nx := 92) hX 1 dX11_closes_91 rfl rfl rfl ?_
          refine g_iconst (nx := 93) hX 0 dX11_closes_92 rfl (by decide) ?_
          refine g_V2 (nx := 96) hX dX11_closes_93 rfl mX11_244 yX11_add_ok (m_addx (C := C ++ r_cd D) (x := (x.1 - 1, 0)) hn (by omega) (by rw [hm'.1]) (by rw [hm'.2]; rfl)) (ga_dn hn rfl) rfl rfl rfl (by decide) rfl (Nat.le_of_ble_eq_true rfl) (Nat.le_of_ble_eq_true rfl) ?_
          rintro _ _ ⟨rfl, rfl⟩
          exact g_return hX hP dX11_closes_96 (Nat.le_of_ble_eq_true rfl) (Nat.le_of_ble_eq_true rfl) ⟨rfl, Or.inr ⟨hy, by rw [if_neg h12] <;> rfl⟩⟩
      · exact absurd (by decide) h50
    · have hno : ¬ (x.1 = 12 ∨ x.2 = 1) := fun z => z.elim h12 (fun z => by rw [z] at h34; exact absurd h34 (by decide))
      refine g_aload_n (nx := 38) hX 0 dX11_closes_37 rfl rfl rfl ?_
      refine g_iconst (nx := 39) hX 1 dX11_closes_38 rfl (by decide) ?_
      refine g_aload_n (nx := 40) hX 0 dX11_closes_39 rfl rfl rfl ?_
      refine g_getfield (nx := 43) hX dX11_closes_40 rfl fX11_86 (ga_dn hn rfl) rfl rfl ?_
      refine g_V2 (nx := 46) hX dX11_closes_43 rfl mX11_189 yX11_blame_ok (m_blame hn) (ga_dn hn rfl) rfl rfl rfl (by decide) rfl (Nat.le_of_ble_eq_true rfl) (Nat.le_of_ble_eq_true rfl) ?_
      rintro _ _ ⟨rfl, rfl⟩
      refine g_aload_n (nx := 47) hX 0 dX11_closes_46 rfl rfl rfl ?_
      refine g_getfield (nx := 50) hX dX11_closes_47 rfl fX11_92 (ga_dn hn rfl) rfl rfl ?_
      refine g_if_le (nx := 53) hX 54 dX11_closes_50 (by decide) rfl (fun h50 => ?_) (fun h50 => ?_)
      · exact absurd h50 (by decide)
      · exact g_return hX hP dX11_closes_53 (Nat.le_of_ble_eq_true rfl) (Nat.le_of_ble_eq_true rfl) ⟨rfl, Or.inl ⟨hno, rfl⟩⟩
theorem m_commas {D S : List (Nat × Nat)} {x : Nat × Nat} (hn : 106 ≤ n) (hx : r_bk x) (hD : r_ops D) (hl : (D ++ x :: S).length ≤ 40) (hp : r_pil (D ++ x :: S) pi cm) (hpx : r_pil (x :: S) pi cm) (hC : C.length + D.length < 640) (hq : q ≤ 600) : ga_Mt E 2 yX11_commas cX11_commas 1 none 0 0 [.ref 79] (n, L1, ((m_O o_tp o_rd o_fe o_em o_sp o_ac o_td o_sm o_tt (nI (q)) (nI lt) (0) (-1) (nI nw) (nI (C).length) (r_nt) (nI (D ++ x :: S).length) (nI (o))) :: ga_i 600 tb :: m81 :: m82 :: m83 :: m84 :: m85 :: m86 :: m87 :: m88 :: m89 :: m90 :: m91 :: m92 :: m93 :: m94 :: m95 :: ga_i 25 (ns) :: ga_i 26 (nb) :: ga_i 1300 (r_sg (C) sg) :: ga_i 250 (na) :: ga_i 25 (nz) :: ga_i 40 (pi) :: ga_z 40 (cm) :: L2), f) (fun r M => r = none ∧ (((x.1 = 12 ∨ x.2 = 1) ∧ M = (n, L1, ((m_O o_tp o_rd o_fe o_em o_sp o_ac o_td o_sm o_tt (nI (q)) (nI lt) (1) (nI q) (nI nw) (nI (C ++ r_cd D).length) (r_nt) (nI (x :: S).length) (nI (o))) :: ga_i 600 tb :: m81 :: m82 :: m83 :: m84 :: m85 :: m86 :: m87 :: m88 :: m89 :: m90 :: m91 :: m92 :: m93 :: m94 :: m95 :: ga_i 25 (ns) :: ga_i 26 (nb) :: ga_i 1300 (r_sg (C ++ r_cd D) sg) :: ga_i 250 (na) :: ga_i 25 (nz) :: ga_i 40 (pi) :: ga_z 40 (cm) :: L2), f)) ∨ (¬ (x.1 = 12 ∨ x.2 = 1) ∧ M = (n, L1, ((m_O o_tp o_rd o_fe o_em o_sp o_ac o_td o_sm o_tt (nI (q + 1)) (nI lt) (0) (-1) (nI nw) (nI (C ++ r_cd D).length) (r_nt) (nI (x :: S).length) (nI (o))) :: ga_i 600 tb :: m81 :: m82 :: m83 :: m84 :: m85 :: m86 :: m87 :: m88 :: m89 :: m90 :: m91 :: m92 :: m93 :: m94 :: m95 :: ga_i 25 (ns) :: ga_i 26 (nb) :: ga_i 1300 (r_sg (C ++ r_cd D) sg) :: ga_i 250 (na) :: ga_i 25 (nz) :: ga_i 40 (pi) :: ga_z 40 (upd cm S.length 1) :: L2), f)))) := by
  have e1 : nI (x :: S).length - 1 = nI S.length := nI_pred S.length
  have hlS : S.length < 40 := by simp only [List.length_append, List.length_cons] at hl; omega
  have hcx : ¬ x.1 = 12 → cm S.length = nI x.2 := fun z => hpx.2.1 (by have := hx.1; omega)
  refine ga_Mt.of (by decide) rfl (fun X hX hP => ?_)
  refine g_less [some (.ref 79)] ⟨rfl, trivial⟩ ?_
  refine g_aload_n (nx := 1) hX 0 dX11_commas_0 rfl rfl rfl ?_
  refine g_iconst (nx := 2) hX 1 dX11_commas_1 rfl (by decide) ?_
  refine g_V1 (nx := 5) hX dX11_commas_2 rfl mX11_278 yX11_joins_ok (j_all (A := x :: S) hn (fun y S' e => by cases e; exact hx) hD hl hp (by omega)) (ga_dn hn rfl) rfl rfl rfl (by decide) rfl (Nat.le_of_ble_eq_true rfl) (Nat.le_of_ble_eq_true rfl) ?_
  rintro _ _ ⟨rfl, rfl⟩
  refine g_aload_n (nx := 6) hX 0 dX11_commas_5 rfl rfl rfl ?_
  refine g_getfield (nx := 9) hX dX11_commas_6 rfl fX11_122 (ga_dn hn rfl) rfl rfl ?_
  refine g_aload_n (nx := 10) hX 0 dX11_commas_9 rfl rfl rfl ?_
  refine g_getfield (nx := 13) hX dX11_commas_10 rfl fX11_129 (ga_dn hn rfl) rfl rfl ?_
  refine g_iconst (nx := 14) hX 1 dX11_commas_13 rfl (by decide) ?_
  refine g_isub (nx := 15) hX dX11_commas_14 rfl ?_
  refine g_iaload (nx := 16) hX dX11_commas_15 rfl (ga_dn hn rfl) rfl (ga_ix_of (j := S.length) e1 (by omega) (by omega)) ?_
  rw [hpx.1]
  refine g_bipush (nx := 18) hX 12 dX11_commas_16 rfl (by decide) ?_
  refine g_icmp_eq (nx := 21) hX 35 dX11_commas_18 (by decide) rfl (fun h18 => ?_) (fun h18 => ?_)
  · have h12 : x.1 = 12 := nI_inj (b := 12) h18 (by have := hx.1; omega) (by omega)
    have hy : x.1 = 12 ∨ x.2 = 1 := Or.inl h12
    refine g_aload_n (nx := 36) hX 0 dX11_commas_35 rfl rfl rfl ?_
    refine g_iconst (nx := 37) hX 1 dX11_commas_36 rfl (by decide) ?_
    refine g_aload_n (nx := 38) hX 0 dX11_commas_37 rfl rfl rfl ?_
    refine g_getfield (nx := 41) hX dX11_commas_38 rfl fX11_86 (ga_dn hn rfl) rfl rfl ?_
    refine g_V2 (nx := 44) hX dX11_commas_41 rfl mX11_189 yX11_blame_ok (m_blame hn) (ga_dn hn rfl) rfl rfl rfl (by decide) rfl (Nat.le_of_ble_eq_true rfl) (Nat.le_of_ble_eq_true rfl) ?_
    rintro _ _ ⟨rfl, rfl⟩
    refine g_aload_n (nx := 45) hX 0 dX11_commas_44 rfl rfl rfl ?_
    refine g_getfield (nx := 48) hX dX11_commas_45 rfl fX11_92 (ga_dn hn rfl) rfl rfl ?_
    refine g_if_le (nx := 51) hX 52 dX11_commas_48 (by decide) rfl (fun h48 => ?_) (fun h48 => ?_)
    · exact absurd h48 (by decide)
    · exact g_return hX hP dX11_commas_51 (Nat.le_of_ble_eq_true rfl) (Nat.le_of_ble_eq_true rfl) ⟨rfl, Or.inl ⟨hy, rfl⟩⟩
  · have h12 : ¬ x.1 = 12 := fun z => h18 (by rw [z]; rfl)
    refine g_aload_n (nx := 22) hX 0 dX11_commas_21 rfl rfl rfl ?_
    refine g_getfield (nx := 25) hX dX11_commas_22 rfl fX11_125 (ga_dn hn rfl) rfl rfl ?_
    refine g_aload_n (nx := 26) hX 0 dX11_commas_25 rfl rfl rfl ?_
    refine g_getfield (nx := 29) hX dX11_commas_26 rfl fX11_129 (ga_dn hn rfl) rfl rfl ?_
    refine g_iconst (nx := 30) hX 1 dX11_commas_29 rfl (by decide) ?_
    refine g_isub (nx := 31) hX dX11_commas_30 rfl ?_
    refine g_zaload (nx := 32) hX dX11_commas_31 rfl (ga_dn hn rfl) rfl (ga_ix_of (j := S.length) e1 (by omega) (by omega)) ?_
    rw [hcx h12]
    refine g_if_eq (nx := 35) hX 44 dX11_commas_32 (by decide) rfl (fun h32 => ?_) (fun h32 => ?_)
    · have hno : ¬ (x.1 = 12 ∨ x.2 = 1) := fun z => z.elim h12 (fun z => by rw [z] at h32; exact absurd h32 (by decide))
      refine g_aload_n (nx := 45) hX 0 dX11_commas_44 rfl rfl rfl ?_
      refine g_getfield (nx := 48) hX dX11_commas_45 rfl fX11_92 (ga_dn hn rfl) rfl rfl ?_
      refine g_if_le (nx := 51) hX 52 dX11_commas_48 (by decide) rfl (fun h48 => ?_) (fun h48 => ?_)
      · refine g_aload_n (nx := 53) hX 0 dX11_commas_52 rfl rfl rfl ?_
        refine g_getfield (nx := 56) hX dX11_commas_53 rfl fX11_125 (ga_dn hn rfl) rfl rfl ?_
        refine g_aload_n (nx := 57) hX 0 dX11_commas_56 rfl rfl rfl ?_
        refine g_getfield (nx := 60) hX dX11_commas_57 rfl fX11_129 (ga_dn hn rfl) rfl rfl ?_
        refine g_iconst (nx := 61) hX 1 dX11_commas_60 rfl (by decide) ?_
        refine g_isub (nx := 62) hX dX11_commas_61 rfl ?_
        refine g_iconst (nx := 63) hX 1 dX11_commas_62 rfl (by decide) ?_
        refine g_zastore (nx := 64) hX dX11_commas_63 rfl (ga_dn hn rfl) rfl (ga_ix_of (j := S.length) e1 (by omega) (by omega)) rfl ?_
        refine g_aload_n (nx := 65) hX 0 dX11_commas_64 rfl rfl rfl ?_
        refine g_dup (nx := 66) hX dX11_commas_65 rfl rfl ?_
        refine g_getfield (nx := 69) hX dX11_commas_66 rfl fX11_86 (ga_dn hn rfl) rfl rfl ?_
        refine g_iconst (nx := 70) hX 1 dX11_commas_69 rfl (by decide) ?_
        refine g_iadd (nx := 71) hX dX11_commas_70 rfl ?_
        rw [nI_1]
        refine g_putfield (nx := 74) hX dX11_commas_71 rfl pX11_86 (ga_dn hn rfl) rfl rfl rfl rfl ?_
        exact g_return hX hP dX11_commas_74 (Nat.le_of_ble_eq_true rfl) (Nat.le_of_ble_eq_true rfl) ⟨rfl, Or.inr ⟨hno, rfl⟩⟩
      · exact absurd (by decide) h48
    · have hy : x.1 = 12 ∨ x.2 = 1 := Or.inr (hx.2.resolve_left (fun z => h32 (by rw [z]; rfl)))
      refine g_aload_n (nx := 36) hX 0 dX11_commas_35 rfl rfl rfl ?_
      refine g_iconst (nx := 37) hX 1 dX11_commas_36 rfl (by decide) ?_
      refine g_aload_n (nx := 38) hX 0 dX11_commas_37 rfl rfl rfl ?_
      refine g_getfield (nx := 41) hX dX11_commas_38 rfl fX11_86 (ga_dn hn rfl) rfl rfl ?_
      refine g_V2 (nx := 44) hX dX11_commas_41 rfl mX11_189 yX11_blame_ok (m_blame hn) (ga_dn hn rfl) rfl rfl rfl (by decide) rfl (Nat.le_of_ble_eq_true rfl) (Nat.le_of_ble_eq_true rfl) ?_
      rintro _ _ ⟨rfl, rfl⟩
      refine g_aload_n (nx := 45) hX 0 dX11_commas_44 rfl rfl rfl ?_
      refine g_getfield (nx := 48) hX dX11_commas_45 rfl fX11_92 (ga_dn hn rfl) rfl rfl ?_
      refine g_if_le (nx := 51) hX 52 dX11_commas_48 (by decide) rfl (fun h48 => ?_) (fun h48 => ?_)
      · exact absurd h48 (by decide)
      · exact g_return hX hP dX11_commas_51 (Nat.le_of_ble_eq_true rfl) (Nat.le_of_ble_eq_true rfl) ⟨rfl, Or.inl ⟨hy, rfl⟩⟩
end
