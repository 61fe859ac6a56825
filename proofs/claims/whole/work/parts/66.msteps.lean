/-! ===== the reference: a sum, sign by sign ===== -/
section
variable {E : ga_E} {X : ga_X} {n : Nat} {c0 c1 c2 c3 c4 c5 c6 c7 c8 c9 c10 c11 c12 c13 c14 c15 c16 c17 c18 c19 c20 c21 c22 c23 c24 c25 c26 c27 c28 c29 c30 m79 m80 m81 m82 m83 m84 m85 m86 m87 m88 m89 m90 m91 m92 m93 m94 m95 m96 m97 m98 m99 m100 m101 m102 m103 m104 m105 : ga_C} {L1 L2 : List ga_C} {f : Nat → ga_C} {o_tp o_rd o_fe o_em o_sp o_ac o_td o_sm o_tt o_at o_sz o_fk o_fp o_nw o_md o_nt o_pl o_op d_at d_tk d_ta d_fd d_fa : Int32} {d_tv : Int64} {d_rl : Value}
variable {r_at r_fk r_fp r_nt r_pl r_op : Int32} {nw md lt : Nat} {tb ns nb sg na nz pi cm : Nat → Int32}
variable {p q o d : Nat} {C : List (Nat × Nat)}
theorem x_te_1 (hc : ¬ x_let (x_c tb lt q)) (hd : ¬ x_dig (x_c tb lt q)) (hq : q < lt) : x_te tb lt q = q + 1 := by
  unfold x_c at hc hd
  rw [if_pos hq] at hc hd
  unfold x_te; rw [if_pos hq, if_neg hc, if_neg hd]
/-- a sign takes one place -/
theorem x_te_s1 {s : Int32} (h1 : ¬ x_let s) (h2 : ¬ x_dig s) (hs : ¬ s = -1) (h : x_tk tb lt q = s) : x_te tb lt q = q + 1 ∧ q < lt ∧ x_c tb lt q = s := by
  have hc := (x_ct (tb := tb) (lt := lt) (q := q) h1 h2).mpr h
  have hq := x_tk_n h hs
  exact ⟨x_te_1 (by rw [hc]; exact h1) (by rw [hc]; exact h2) hq, hq, hc⟩
theorem t5 {T : List (Nat × Nat)} (hT : T = [] ∨ T = [(5, 0)]) : (∀ x ∈ T, x.1 = 5) ∧ T.length ≤ 1 := by
  rcases hT with rfl | rfl
  · exact ⟨fun x hx => (List.not_mem_nil hx).elim, by simp⟩
  · exact ⟨fun x hx => by rw [List.mem_singleton.mp hx], by simp⟩
theorem st_mul {T A : List (Nat × Nat)} (hX : ga_B E d yX11_sum cX11_sum 6 0 0 X) (hd : 3 ≤ d) (hn : 106 ≤ n) (hl : lt ≤ 600) (hp : p ≤ lt) (hq : x_sk tb lt p = q) (ht : x_tk tb lt q = 42) (hT : T = [] ∨ T = [(5, 0)]) (hA : ∀ x S, A = x :: S → x.1 ≤ 12 ∧ ¬ x.1 = 5) (hlen : (T ++ A).length ≤ 39) (hpl : r_pil (T ++ A) pi cm) (hpA : r_pil A pi cm) (hC : C.length ≤ 600)
    (kont : ga_G E X 0 0 14 [some (.ref 79), some (.int 0), some (.int 1), none, none, none] [] (n, L1, ((m_O o_tp o_rd o_fe o_em o_sp o_ac o_td o_sm o_tt (nI (q + 1)) (nI lt) (0) (-1) (nI nw) (nI (C ++ r_cd T).length) (r_nt) (nI ((5, 0) :: A).length) (nI (o))) :: ga_i 600 tb :: m81 :: m82 :: m83 :: m84 :: m85 :: m86 :: m87 :: m88 :: m89 :: m90 :: m91 :: m92 :: m93 :: m94 :: m95 :: ga_i 25 (ns) :: ga_i 26 (nb) :: ga_i 1300 (r_sg (C ++ r_cd T) sg) :: ga_i 250 (na) :: ga_i 25 (nz) :: ga_i 40 (upd pi A.length 5) :: ga_z 40 (cm) :: L2), f)) : ga_G E X 0 0 14 [some (.ref 79), some (.int 1), some (.int 1), none, none, none] [] (n, L1, ((m_O o_tp o_rd o_fe o_em o_sp o_ac o_td o_sm o_tt (nI (p)) (nI lt) (0) (-1) (nI nw) (nI (C).length) (r_nt) (nI (T ++ A).length) (nI (o))) :: ga_i 600 tb :: m81 :: m82 :: m83 :: m84 :: m85 :: m86 :: m87 :: m88 :: m89 :: m90 :: m91 :: m92 :: m93 :: m94 :: m95 :: ga_i 25 (ns) :: ga_i 26 (nb) :: ga_i 1300 (r_sg (C) sg) :: ga_i 250 (na) :: ga_i 25 (nz) :: ga_i 40 (pi) :: ga_z 40 (cm) :: L2), f) := by
  obtain ⟨-, hlt, hc⟩ := x_te_s1 (by decide) (by decide) (by decide) ht
  obtain ⟨hT5, hTl⟩ := t5 hT
  have hAl : A.length ≤ 39 := by rw [List.length_append] at hlen; omega
  refine g_iload_n (nx := 15) hX 2 dX11_sum_14 rfl rfl rfl ?_
  refine g_if_eq (nx := 18) hX 261 dX11_sum_15 (by decide) rfl (fun h => absurd h (by decide)) (fun h => ?_)
  refine g_aload_n (nx := 19) hX 0 dX11_sum_18 rfl rfl rfl ?_
  refine g_getfield (nx := 22) hX dX11_sum_19 rfl fX11_92 (ga_dn hn rfl) rfl rfl ?_
  refine g_if_ne (nx := 25) hX 261 dX11_sum_22 (by decide) rfl (fun h22 => ?_) (fun h22 => ?_)
  · exact absurd rfl h22
  · refine g_iload_n (nx := 26) hX 1 dX11_sum_25 rfl rfl rfl ?_
    refine g_if_ne (nx := 29) hX 37 dX11_sum_26 (by decide) rfl (fun h => ?_) (fun h => absurd h (by decide))
    refine g_aload_n (nx := 38) hX 0 dX11_sum_37 rfl rfl rfl ?_
    refine g_V0 (nx := 41) hX dX11_sum_38 rfl mX11_186 yX11_here_ok (c_X11_here hn hl (by omega)) (ga_dn hn rfl) rfl rfl rfl (by omega) rfl (Nat.le_of_ble_eq_true rfl) (Nat.le_of_ble_eq_true rfl) ?_
    rintro _ _ ⟨rfl, rfl⟩
    rw [hq, hc]
    refine g_istore_n (nx := 42) hX 3 dX11_sum_41 rfl rfl rfl ?_
    refine g_iload_n (nx := 43) hX 3 dX11_sum_42 rfl rfl rfl ?_
    refine g_bipush (nx := 45) hX 43 dX11_sum_43 rfl (by decide) ?_
    refine g_icmp_eq (nx := 48) hX 60 dX11_sum_45 (by decide) rfl (fun h => absurd h (by decide)) (fun h => ?_)
    refine g_iload_n (nx := 49) hX 3 dX11_sum_48 rfl rfl rfl ?_
    refine g_bipush (nx := 51) hX 45 dX11_sum_49 rfl (by decide) ?_
    refine g_icmp_eq (nx := 54) hX 60 dX11_sum_51 (by decide) rfl (fun h => absurd h (by decide)) (fun h => ?_)
    refine g_iload_n (nx := 55) hX 3 dX11_sum_54 rfl rfl rfl ?_
    refine g_bipush (nx := 57) hX 42 dX11_sum_55 rfl (by decide) ?_
    refine g_icmp_ne (nx := 60) hX 130 dX11_sum_57 (by decide) rfl (fun h => absurd h (by decide)) (fun h => ?_)
    refine g_aload_n (nx := 61) hX 0 dX11_sum_60 rfl rfl rfl ?_
    refine g_iload_n (nx := 62) hX 3 dX11_sum_61 rfl rfl rfl ?_
    refine g_bipush (nx := 64) hX 42 dX11_sum_62 rfl (by decide) ?_
    refine g_icmp_eq (nx := 67) hX 71 dX11_sum_64 (by decide) rfl (fun h => ?_) (fun h => absurd h (by decide))
    refine g_iconst (nx := 72) hX 0 dX11_sum_71 rfl (by decide) ?_
    refine g_V1 (nx := 75) hX dX11_sum_72 rfl mX11_278 yX11_joins_ok (c_X11_joins (b := 0) hn (Or.inl rfl) (fun x S e => ⟨(hA x S e).1, (hA x S e).2, fun z => absurd z (by decide)⟩) (fun x hx => Or.inl (hT5 x hx)) (by omega) hpl (by omega)) (ga_dn hn rfl) rfl rfl rfl (by omega) rfl (Nat.le_of_ble_eq_true rfl) (Nat.le_of_ble_eq_true rfl) ?_
    rintro _ _ ⟨rfl, rfl⟩
    refine g_aload_n (nx := 76) hX 0 dX11_sum_75 rfl rfl rfl ?_
    refine g_getfield (nx := 79) hX dX11_sum_76 rfl fX11_122 (ga_dn hn rfl) rfl rfl ?_
    refine g_aload_n (nx := 80) hX 0 dX11_sum_79 rfl rfl rfl ?_
    refine g_getfield (nx := 83) hX dX11_sum_80 rfl fX11_129 (ga_dn hn rfl) rfl rfl ?_
    refine g_iload_n (nx := 84) hX 3 dX11_sum_83 rfl rfl rfl ?_
    refine g_bipush (nx := 86) hX 43 dX11_sum_84 rfl (by decide) ?_
    refine g_icmp_ne (nx := 89) hX 93 dX11_sum_86 (by decide) rfl (fun h => ?_) (fun h => absurd h (by decide))
    refine g_iload_n (nx := 94) hX 3 dX11_sum_93 rfl rfl rfl ?_
    refine g_bipush (nx := 96) hX 45 dX11_sum_94 rfl (by decide) ?_
    refine g_icmp_ne (nx := 99) hX 103 dX11_sum_96 (by decide) rfl (fun h => ?_) (fun h => absurd h (by decide))
    refine g_iconst (nx := 104) hX 5 dX11_sum_103 rfl (by decide) ?_
    refine g_iastore (nx := 105) hX dX11_sum_104 rfl (ga_dn hn rfl) rfl (ga_ix_of (j := A.length) rfl (by omega) (by omega)) ?_
    refine g_aload_n (nx := 106) hX 0 dX11_sum_105 rfl rfl rfl ?_
    refine g_dup (nx := 107) hX dX11_sum_106 rfl rfl ?_
    refine g_getfield (nx := 110) hX dX11_sum_107 rfl fX11_129 (ga_dn hn rfl) rfl rfl ?_
    refine g_iconst (nx := 111) hX 1 dX11_sum_110 rfl (by decide) ?_
    refine g_iadd (nx := 112) hX dX11_sum_111 rfl ?_
    rw [nI_1]
    refine g_putfield (nx := 115) hX dX11_sum_112 rfl pX11_129 (ga_dn hn rfl) rfl rfl rfl rfl ?_
    refine g_aload_n (nx := 116) hX 0 dX11_sum_115 rfl rfl rfl ?_
    refine g_dup (nx := 117) hX dX11_sum_116 rfl rfl ?_
    refine g_getfield (nx := 120) hX dX11_sum_117 rfl fX11_86 (ga_dn hn rfl) rfl rfl ?_
    refine g_iconst (nx := 121) hX 1 dX11_sum_120 rfl (by decide) ?_
    refine g_iadd (nx := 122) hX dX11_sum_121 rfl ?_
    rw [nI_1]
    refine g_putfield (nx := 125) hX dX11_sum_122 rfl pX11_86 (ga_dn hn rfl) rfl rfl rfl rfl ?_
    refine g_iconst (nx := 126) hX 0 dX11_sum_125 rfl (by decide) ?_
    refine g_istore_n (nx := 127) hX 1 dX11_sum_126 rfl rfl rfl ?_
    refine g_goto (nx := 258) hX dX11_sum_127 (by decide) ?_
    refine g_goto (nx := 14) hX dX11_sum_258 (by decide) ?_
    exact g_ls kont ⟨rfl, rfl, rfl, trivial⟩
theorem st_add {D A : List (Nat × Nat)} {s : Nat} (hX : ga_B E d yX11_sum cX11_sum 6 0 0 X) (hd : 3 ≤ d) (hn : 106 ≤ n) (hl : lt ≤ 600) (hp : p ≤ lt) (hq : x_sk tb lt p = q) (ht : (x_tk tb lt q = 43 ∧ s = 3) ∨ (x_tk tb lt q = 45 ∧ s = 4)) (hD : r_ops D) (hA : ∀ x S, A = x :: S → r_bk x) (hlen : (D ++ A).length ≤ 39) (hpl : r_pil (D ++ A) pi cm) (hC : C.length ≤ 600)
    (kont : ga_G E X 0 0 14 [some (.ref 79), some (.int 0), some (.int 1), none, none, none] [] (n, L1, ((m_O o_tp o_rd o_fe o_em o_sp o_ac o_td o_sm o_tt (nI (q + 1)) (nI lt) (0) (-1) (nI nw) (nI (C ++ r_cd D).length) (r_nt) (nI ((s, 0) :: A).length) (nI (o))) :: ga_i 600 tb :: m81 :: m82 :: m83 :: m84 :: m85 :: m86 :: m87 :: m88 :: m89 :: m90 :: m91 :: m92 :: m93 :: m94 :: m95 :: ga_i 25 (ns) :: ga_i 26 (nb) :: ga_i 1300 (r_sg (C ++ r_cd D) sg) :: ga_i 250 (na) :: ga_i 25 (nz) :: ga_i 40 (upd pi A.length (nI s)) :: ga_z 40 (cm) :: L2), f)) : ga_G E X 0 0 14 [some (.ref 79), some (.int 1), some (.int 1), none, none, none] [] (n, L1, ((m_O o_tp o_rd o_fe o_em o_sp o_ac o_td o_sm o_tt (nI (p)) (nI lt) (0) (-1) (nI nw) (nI (C).length) (r_nt) (nI (D ++ A).length) (nI (o))) :: ga_i 600 tb :: m81 :: m82 :: m83 :: m84 :: m85 :: m86 :: m87 :: m88 :: m89 :: m90 :: m91 :: m92 :: m93 :: m94 :: m95 :: ga_i 25 (ns) :: ga_i 26 (nb) :: ga_i 1300 (r_sg (C) sg) :: ga_i 250 (na) :: ga_i 25 (nz) :: ga_i 40 (pi) :: ga_z 40 (cm) :: L2), f) := by
  have hql : q ≤ lt := by rw [← hq]; exact (x_sk_le hp).2
  have hAl : A.length + D.length ≤ 39 := by rw [List.length_append] at hlen; omega
  have hj := j_all (E := E) (n := n) (L1 := L1) (L2 := L2) (f := f) (C := C) (sg := sg) (D := D) (A := A) (pi := pi) (cm := cm) (r_at := nI q) (r_fk := 0) (r_fp := -1) (r_nt := r_nt) (r_op := nI o) (nw := nw) (lt := lt) (tb := tb) (ns := ns) (nb := nb) (na := na) (nz := nz) (o_tp := o_tp) (o_rd := o_rd) (o_fe := o_fe) (o_em := o_em) (o_sp := o_sp) (o_ac := o_ac) (o_td := o_td) (o_sm := o_sm) (o_tt := o_tt) (m81 := m81) (m82 := m82) (m83 := m83) (m84 := m84) (m85 := m85) (m86 := m86) (m87 := m87) (m88 := m88) (m89 := m89) (m90 := m90) (m91 := m91) (m92 := m92) (m93 := m93) (m94 := m94) (m95 := m95) hn hA hD (by omega) hpl (by omega)
  rcases ht with ⟨ht, rfl⟩ | ⟨ht, rfl⟩
  · obtain ⟨-, hlt, hc⟩ := x_te_s1 (by decide) (by decide) (by decide) ht
    refine g_iload_n (nx := 15) hX 2 dX11_sum_14 rfl rfl rfl ?_
    refine g_if_eq (nx := 18) hX 261 dX11_sum_15 (by decide) rfl (fun h => absurd h (by decide)) (fun h => ?_)
    refine g_aload_n (nx := 19) hX 0 dX11_sum_18 rfl rfl rfl ?_
    refine g_getfield (nx := 22) hX dX11_sum_19 rfl fX11_92 (ga_dn hn rfl) rfl rfl ?_
    refine g_if_ne (nx := 25) hX 261 dX11_sum_22 (by decide) rfl (fun h22 => ?_) (fun h22 => ?_)
    · exact absurd rfl h22
    · refine g_iload_n (nx := 26) hX 1 dX11_sum_25 rfl rfl rfl ?_
      refine g_if_ne (nx := 29) hX 37 dX11_sum_26 (by decide) rfl (fun h => ?_) (fun h => absurd h (by decide))
      refine g_aload_n (nx := 38) hX 0 dX11_sum_37 rfl rfl rfl ?_
      refine g_V0 (nx := 41) hX dX11_sum_38 rfl mX11_186 yX11_here_ok (c_X11_here hn hl (by omega)) (ga_dn hn rfl) rfl rfl rfl (by omega) rfl (Nat.le_of_ble_eq_true rfl) (Nat.le_of_ble_eq_true rfl) ?_
      rintro _ _ ⟨rfl, rfl⟩
      rw [hq, hc]
      refine g_istore_n (nx := 42) hX 3 dX11_sum_41 rfl rfl rfl ?_
      refine g_iload_n (nx := 43) hX 3 dX11_sum_42 rfl rfl rfl ?_
      refine g_bipush (nx := 45) hX 43 dX11_sum_43 rfl (by decide) ?_
      refine g_icmp_eq (nx := 48) hX 60 dX11_sum_45 (by decide) rfl (fun h => ?_) (fun h => absurd h (by decide))
      refine g_aload_n (nx := 61) hX 0 dX11_sum_60 rfl rfl rfl ?_
      refine g_iload_n (nx := 62) hX 3 dX11_sum_61 rfl rfl rfl ?_
      refine g_bipush (nx := 64) hX 42 dX11_sum_62 rfl (by decide) ?_
      refine g_icmp_eq (nx := 67) hX 71 dX11_sum_64 (by decide) rfl (fun h => absurd h (by decide)) (fun h => ?_)
      refine g_iconst (nx := 68) hX 1 dX11_sum_67 rfl (by decide) ?_
      refine g_goto (nx := 72) hX dX11_sum_68 (by decide) ?_
      refine g_V1 (nx := 75) hX dX11_sum_72 rfl mX11_278 yX11_joins_ok (hj) (ga_dn hn rfl) rfl rfl rfl (by omega) rfl (Nat.le_of_ble_eq_true rfl) (Nat.le_of_ble_eq_true rfl) ?_
      rintro _ _ ⟨rfl, rfl⟩
      refine g_aload_n (nx := 76) hX 0 dX11_sum_75 rfl rfl rfl ?_
      refine g_getfield (nx := 79) hX dX11_sum_76 rfl fX11_122 (ga_dn hn rfl) rfl rfl ?_
      refine g_aload_n (nx := 80) hX 0 dX11_sum_79 rfl rfl rfl ?_
      refine g_getfield (nx := 83) hX dX11_sum_80 rfl fX11_129 (ga_dn hn rfl) rfl rfl ?_
      refine g_iload_n (nx := 84) hX 3 dX11_sum_83 rfl rfl rfl ?_
      refine g_bipush (nx := 86) hX 43 dX11_sum_84 rfl (by decide) ?_
      refine g_icmp_ne (nx := 89) hX 93 dX11_sum_86 (by decide) rfl (fun h => absurd h (by decide)) (fun h => ?_)
      refine g_iconst (nx := 90) hX 3 dX11_sum_89 rfl (by decide) ?_
      refine g_goto (nx := 104) hX dX11_sum_90 (by decide) ?_
      refine g_iastore (nx := 105) hX dX11_sum_104 rfl (ga_dn hn rfl) rfl (ga_ix_of (j := A.length) rfl (by omega) (by omega)) ?_
      refine g_aload_n (nx := 106) hX 0 dX11_sum_105 rfl rfl rfl ?_
      refine g_dup (nx := 107) hX dX11_sum_106 rfl rfl ?_
      refine g_getfield (nx := 110) hX dX11_sum_107 rfl fX11_129 (ga_dn hn rfl) rfl rfl ?_
      refine g_iconst (nx := 111) hX 1 dX11_sum_110 rfl (by decide) ?_
      refine g_iadd (nx := 112) hX dX11_sum_111 rfl ?_
      rw [nI_1]
      refine g_putfield (nx := 115) hX dX11_sum_112 rfl pX11_129 (ga_dn hn rfl) rfl rfl rfl rfl ?_
      refine g_aload_n (nx := 116) hX 0 dX11_sum_115 rfl rfl rfl ?_
      refine g_dup (nx := 117) hX dX11_sum_116 rfl rfl ?_
      refine g_getfield (nx := 120) hX dX11_sum_117 rfl fX11_86 (ga_dn hn rfl) rfl rfl ?_
      refine g_iconst (nx := 121) hX 1 dX11_sum_120 rfl (by decide) ?_
      refine g_iadd (nx := 122) hX dX11_sum_121 rfl ?_
      rw [nI_1]
      refine g_putfield (nx := 125) hX dX11_sum_122 rfl pX11_86 (ga_dn hn rfl) rfl rfl rfl rfl ?_
      refine g_iconst (nx := 126) hX 0 dX11_sum_125 rfl (by decide) ?_
      refine g_istore_n (nx := 127) hX 1 dX11_sum_126 rfl rfl rfl ?_
      refine g_goto (nx := 258) hX dX11_sum_127 (by decide) ?_
      refine g_goto (nx := 14) hX dX11_sum_258 (by decide) ?_
      exact g_ls kont ⟨rfl, rfl, rfl, trivial⟩
  · obtain ⟨-, hlt, hc⟩ := x_te_s1 (by decide) (by decide) (by decide) ht
    refine g_iload_n (nx := 15) hX 2 dX11_sum_14 rfl rfl rfl ?_
    refine g_if_eq (nx := 18) hX 261 dX11_sum_15 (by decide) rfl (fun h => absurd h (by decide)) (fun h => ?_)
    refine g_aload_n (nx := 19) hX 0 dX11_sum_18 rfl rfl rfl ?_
    refine g_getfield (nx := 22) hX dX11_sum_19 rfl fX11_92 (ga_dn hn rfl) rfl rfl ?_
    refine g_if_ne (nx := 25) hX 261 dX11_sum_22 (by decide) rfl (fun h22 => ?_) (fun h22 => ?_)
    · exact absurd rfl h22
    · refine g_iload_n (nx := 26) hX 1 dX11_sum_25 rfl rfl rfl ?_
      refine g_if_ne (nx := 29) hX 37 dX11_sum_26 (by decide) rfl (fun h => ?_) (fun h => absurd h (by decide))
      refine g_aload_n (nx := 38) hX 0 dX11_sum_37 rfl rfl rfl ?_
      refine g_V0 (nx := 41) hX dX11_sum_38 rfl mX11_186 yX11_here_ok (c_X11_here hn hl (by omega)) (ga_dn hn rfl) rfl rfl rfl (by omega) rfl (Nat.le_of_ble_eq_true rfl) (Nat.le_of_ble_eq_true rfl) ?_
      rintro _ _ ⟨rfl, rfl⟩
      rw [hq, hc]
      refine g_istore_n (nx := 42) hX 3 dX11_sum_41 rfl rfl rfl ?_
      refine g_iload_n (nx := 43) hX 3 dX11_sum_42 rfl rfl rfl ?_
      refine g_bipush (nx := 45) hX 43 dX11_sum_43 rfl (by decide) ?_
      refine g_icmp_eq (nx := 48) hX 60 dX11_sum_45 (by decide) rfl (fun h => absurd h (by decide)) (fun h => ?_)
      refine g_iload_n (nx := 49) hX 3 dX11_sum_48 rfl rfl rfl ?_
      refine g_bipush (nx := 51) hX 45 dX11_sum_49 rfl (by decide) ?_
      refine g_icmp_eq (nx := 54) hX 60 dX11_sum_51 (by decide) rfl (fun h => ?_) (fun h => absurd h (by decide))
      refine g_aload_n (nx := 61) hX 0 dX11_sum_60 rfl rfl rfl ?_
      refine g_iload_n (nx := 62) hX 3 dX11_sum_61 rfl rfl rfl ?_
      refine g_bipush (nx := 64) hX 42 dX11_sum_62 rfl (by decide) ?_
      refine g_icmp_eq (nx := 67) hX 71 dX11_sum_64 (by decide) rfl (fun h => absurd h (by decide)) (fun h => ?_)
      refine g_iconst (nx := 68) hX 1 dX11_sum_67 rfl (by decide) ?_
      refine g_goto (nx := 72) hX dX11_sum_68 (by decide) ?_
      refine g_V1 (nx := 75) hX dX11_sum_72 rfl mX11_278 yX11_joins_ok (hj) (ga_dn hn rfl) rfl rfl rfl (by omega) rfl (Nat.le_of_ble_eq_true rfl) (Nat.le_of_ble_eq_true rfl) ?_
      rintro _ _ ⟨rfl, rfl⟩
      refine g_aload_n (nx := 76) hX 0 dX11_sum_75 rfl rfl rfl ?_
      refine g_getfield (nx := 79) hX dX11_sum_76 rfl fX11_122 (ga_dn hn rfl) rfl rfl ?_
      refine g_aload_n (nx := 80) hX 0 dX11_sum_79 rfl rfl rfl ?_
      refine g_getfield (nx := 83) hX dX11_sum_80 rfl fX11_129 (ga_dn hn rfl) rfl rfl ?_
      refine g_iload_n (nx := 84) hX 3 dX11_sum_83 rfl rfl rfl ?_
      refine g_bipush (nx := 86) hX 43 dX11_sum_84 rfl (by decide) ?_
      refine g_icmp_ne (nx := 89) hX 93 dX11_sum_86 (by decide) rfl (fun h => ?_) (fun h => absurd h (by decide))
      refine g_iload_n (nx := 94) hX 3 dX11_sum_93 rfl rfl rfl ?_
      refine g_bipush (nx := 96) hX 45 dX11_sum_94 rfl (by decide) ?_
      refine g_icmp_ne (nx := 99) hX 103 dX11_sum_96 (by decide) rfl (fun h => absurd h (by decide)) (fun h => ?_)
      refine g_iconst (nx := 100) hX 4 dX11_sum_99 rfl (by decide) ?_
      refine g_goto (nx := 104) hX dX11_sum_100 (by decide) ?_
      refine g_iastore (nx := 105) hX dX11_sum_104 rfl (ga_dn hn rfl) rfl (ga_ix_of (j := A.length) rfl (by omega) (by omega)) ?_
      refine g_aload_n (nx := 106) hX 0 dX11_sum_105 rfl rfl rfl ?_
      refine g_dup (nx := 107) hX dX11_sum_106 rfl rfl ?_
      refine g_getfield (nx := 110) hX dX11_sum_107 rfl fX11_129 (ga_dn hn rfl) rfl rfl ?_
      refine g_iconst (nx := 111) hX 1 dX11_sum_110 rfl (by decide) ?_
      refine g_iadd (nx := 112) hX dX11_sum_111 rfl ?_
      rw [nI_1]
      refine g_putfield (nx := 115) hX dX11_sum_112 rfl pX11_129 (ga_dn hn rfl) rfl rfl rfl rfl ?_
      refine g_aload_n (nx := 116) hX 0 dX11_sum_115 rfl rfl rfl ?_
      refine g_dup (nx := 117) hX dX11_sum_116 rfl rfl ?_
      refine g_getfield (nx := 120) hX dX11_sum_117 rfl fX11_86 (ga_dn hn rfl) rfl rfl ?_
      refine g_iconst (nx := 121) hX 1 dX11_sum_120 rfl (by decide) ?_
      refine g_iadd (nx := 122) hX dX11_sum_121 rfl ?_
      rw [nI_1]
      refine g_putfield (nx := 125) hX dX11_sum_122 rfl pX11_86 (ga_dn hn rfl) rfl rfl rfl rfl ?_
      refine g_iconst (nx := 126) hX 0 dX11_sum_125 rfl (by decide) ?_
      refine g_istore_n (nx := 127) hX 1 dX11_sum_126 rfl rfl rfl ?_
      refine g_goto (nx := 258) hX dX11_sum_127 (by decide) ?_
      refine g_goto (nx := 14) hX dX11_sum_258 (by decide) ?_
      exact g_ls kont ⟨rfl, rfl, rfl, trivial⟩
theorem st_div {T A : List (Nat × Nat)} (hX : ga_B E d yX11_sum cX11_sum 6 0 0 X) (hd : 3 ≤ d) (hn : 106 ≤ n) (hl : lt ≤ 600) (hp : p ≤ lt) (hq : x_sk tb lt p = q) (ht : x_tk tb lt q = 47) (hT : T = [] ∨ T = [(5, 0)]) (hA : ∀ x S, A = x :: S → x.1 ≤ 12 ∧ ¬ x.1 = 5) (hlen : (T ++ A).length ≤ 39) (hpl : r_pil (T ++ A) pi cm) (hC : C.length ≤ 600)
    (hE : ∀ k pl, R_div tb lt (x_nx tb lt q) = .inl (k, pl) → (1 ≤ k ∧ k ≤ 4) → (∀ (b m : Int32) (p : Nat) (pl_ op_ : Int32) (md : Nat) (sg pi cm : Nat → Int32), p ≤ 610 → md ≤ 620 → ga_G E X 0 0 14 [some (.ref 79), some (.int b), some (.int m), none, none, none] [] (n, L1, ((m_O o_tp o_rd o_fe o_em o_sp o_ac o_td o_sm o_tt (nI p) (nI lt) (nI (k)) (nI (pl)) (nI nw) (nI md) (r_nt) (pl_) (op_)) :: ga_i 600 tb :: m81 :: m82 :: m83 :: m84 :: m85 :: m86 :: m87 :: m88 :: m89 :: m90 :: m91 :: m92 :: m93 :: m94 :: m95 :: ga_i 25 (ns) :: ga_i 26 (nb) :: ga_i 1300 (sg) :: ga_i 250 (na) :: ga_i 25 (nz) :: ga_i 40 (pi) :: ga_z 40 (cm) :: L2), f)))
    (kont : ∀ c, R_div tb lt (x_nx tb lt q) = .inr (x_nx tb lt (x_nx tb lt q), [c]) → ga_G E X 0 0 14 [some (.ref 79), some (.int 1), some (.int 1), none, none, none] [] (n, L1, ((m_O o_tp o_rd o_fe o_em o_sp o_ac o_td o_sm o_tt (nI (x_te tb lt (x_nx tb lt q))) (nI lt) (0) (-1) (nI nw) (nI (C ++ r_cd T ++ [c]).length) (r_nt) (nI (A).length) (nI (o))) :: ga_i 600 tb :: m81 :: m82 :: m83 :: m84 :: m85 :: m86 :: m87 :: m88 :: m89 :: m90 :: m91 :: m92 :: m93 :: m94 :: m95 :: ga_i 25 (ns) :: ga_i 26 (nb) :: ga_i 1300 (r_sg (C ++ r_cd T ++ [c]) sg) :: ga_i 250 (na) :: ga_i 25 (nz) :: ga_i 40 (pi) :: ga_z 40 (cm) :: L2), f)) : ga_G E X 0 0 14 [some (.ref 79), some (.int 1), some (.int 1), none, none, none] [] (n, L1, ((m_O o_tp o_rd o_fe o_em o_sp o_ac o_td o_sm o_tt (nI (p)) (nI lt) (0) (-1) (nI nw) (nI (C).length) (r_nt) (nI (T ++ A).length) (nI (o))) :: ga_i 600 tb :: m81 :: m82 :: m83 :: m84 :: m85 :: m86 :: m87 :: m88 :: m89 :: m90 :: m91 :: m92 :: m93 :: m94 :: m95 :: ga_i 25 (ns) :: ga_i 26 (nb) :: ga_i 1300 (r_sg (C) sg) :: ga_i 250 (na) :: ga_i 25 (nz) :: ga_i 40 (pi) :: ga_z 40 (cm) :: L2), f) := by
  obtain ⟨hte, hlt, hc⟩ := x_te_s1 (by decide) (by decide) (by decide) ht
  obtain ⟨hT5, hTl⟩ := t5 hT
  have hAl : A.length ≤ 39 := by rw [List.length_append] at hlen; omega
  have hCl : (C ++ r_cd T).length ≤ 601 := by simp only [List.length_append, r_cd, List.length_map]; omega
  have hx : x_sk tb lt (q + 1) = x_nx tb lt q := by unfold x_nx; rw [hte]
  have hnl := (x_nx_le (tb := tb) (Nat.le_of_lt hlt)).2
  have hid := x_sk_id (tb := tb) (p := q + 1) (by omega) hx
  generalize hy : x_nx tb lt q = y at *
  refine g_iload_n (nx := 15) hX 2 dX11_sum_14 rfl rfl rfl ?_
  refine g_if_eq (nx := 18) hX 261 dX11_sum_15 (by decide) rfl (fun h => absurd h (by decide)) (fun h => ?_)
  refine g_aload_n (nx := 19) hX 0 dX11_sum_18 rfl rfl rfl ?_
  refine g_getfield (nx := 22) hX dX11_sum_19 rfl fX11_92 (ga_dn hn rfl) rfl rfl ?_
  refine g_if_ne (nx := 25) hX 261 dX11_sum_22 (by decide) rfl (fun h22 => ?_) (fun h22 => ?_)
  · exact absurd rfl h22
  · refine g_iload_n (nx := 26) hX 1 dX11_sum_25 rfl rfl rfl ?_
    refine g_if_ne (nx := 29) hX 37 dX11_sum_26 (by decide) rfl (fun h => ?_) (fun h => absurd h (by decide))
    refine g_aload_n (nx := 38) hX 0 dX11_sum_37 rfl rfl rfl ?_
    refine g_V0 (nx := 41) hX dX11_sum_38 rfl mX11_186 yX11_here_ok (c_X11_here hn hl (by omega)) (ga_dn hn rfl) rfl rfl rfl (by omega) rfl (Nat.le_of_ble_eq_true rfl) (Nat.le_of_ble_eq_true rfl) ?_
    rintro _ _ ⟨rfl, rfl⟩
    rw [hq, hc]
    refine g_istore_n (nx := 42) hX 3 dX11_sum_41 rfl rfl rfl ?_
    refine g_iload_n (nx := 43) hX 3 dX11_sum_42 rfl rfl rfl ?_
    refine g_bipush (nx := 45) hX 43 dX11_sum_43 rfl (by decide) ?_
    refine g_icmp_eq (nx := 48) hX 60 dX11_sum_45 (by decide) rfl (fun h => absurd h (by decide)) (fun h => ?_)
    refine g_iload_n (nx := 49) hX 3 dX11_sum_48 rfl rfl rfl ?_
    refine g_bipush (nx := 51) hX 45 dX11_sum_49 rfl (by decide) ?_
    refine g_icmp_eq (nx := 54) hX 60 dX11_sum_51 (by decide) rfl (fun h => absurd h (by decide)) (fun h => ?_)
    refine g_iload_n (nx := 55) hX 3 dX11_sum_54 rfl rfl rfl ?_
    refine g_bipush (nx := 57) hX 42 dX11_sum_55 rfl (by decide) ?_
    refine g_icmp_ne (nx := 60) hX 130 dX11_sum_57 (by decide) rfl (fun h => ?_) (fun h => absurd h (by decide))
    refine g_iload_n (nx := 131) hX 3 dX11_sum_130 rfl rfl rfl ?_
    refine g_bipush (nx := 133) hX 47 dX11_sum_131 rfl (by decide) ?_
    refine g_icmp_ne (nx := 136) hX 198 dX11_sum_133 (by decide) rfl (fun h => absurd h (by decide)) (fun h => ?_)
    refine g_aload_n (nx := 137) hX 0 dX11_sum_136 rfl rfl rfl ?_
    refine g_iconst (nx := 138) hX 0 dX11_sum_137 rfl (by decide) ?_
    refine g_V1 (nx := 141) hX dX11_sum_138 rfl mX11_278 yX11_joins_ok (c_X11_joins (b := 0) hn (Or.inl rfl) (fun x S e => ⟨(hA x S e).1, (hA x S e).2, fun z => absurd z (by decide)⟩) (fun x hx => Or.inl (hT5 x hx)) (by omega) hpl (by omega)) (ga_dn hn rfl) rfl rfl rfl (by omega) rfl (Nat.le_of_ble_eq_true rfl) (Nat.le_of_ble_eq_true rfl) ?_
    rintro _ _ ⟨rfl, rfl⟩
    refine g_aload_n (nx := 142) hX 0 dX11_sum_141 rfl rfl rfl ?_
    refine g_dup (nx := 143) hX dX11_sum_142 rfl rfl ?_
    refine g_getfield (nx := 146) hX dX11_sum_143 rfl fX11_86 (ga_dn hn rfl) rfl rfl ?_
    refine g_iconst (nx := 147) hX 1 dX11_sum_146 rfl (by decide) ?_
    refine g_iadd (nx := 148) hX dX11_sum_147 rfl ?_
    rw [nI_1]
    refine g_putfield (nx := 151) hX dX11_sum_148 rfl pX11_86 (ga_dn hn rfl) rfl rfl rfl rfl ?_
    refine g_aload_n (nx := 152) hX 0 dX11_sum_151 rfl rfl rfl ?_
    refine g_V0 (nx := 155) hX dX11_sum_152 rfl mX11_186 yX11_here_ok (c_X11_here hn hl (by omega)) (ga_dn hn rfl) rfl rfl rfl (by omega) rfl (Nat.le_of_ble_eq_true rfl) (Nat.le_of_ble_eq_true rfl) ?_
    rintro _ _ ⟨rfl, rfl⟩
    rw [hx]
    refine g_pop (nx := 156) hX dX11_sum_155 rfl rfl ?_
    refine g_aload_n (nx := 157) hX 0 dX11_sum_156 rfl rfl rfl ?_
    refine g_getfield (nx := 160) hX dX11_sum_157 rfl fX11_86 (ga_dn hn rfl) rfl rfl ?_
    refine g_istore (nx := 162) hX 4 dX11_sum_160 rfl rfl ?_
    refine g_aload_n (nx := 163) hX 0 dX11_sum_162 rfl rfl rfl ?_
    refine g_V0 (nx := 166) hX dX11_sum_163 rfl mX11_247 yX11_digits_ok (m_digits hn hl hnl hid) (ga_dn hn rfl) rfl rfl rfl (by omega) rfl (Nat.le_of_ble_eq_true rfl) (Nat.le_of_ble_eq_true rfl) ?_
    rintro _ _ (⟨hno, rfl, rfl⟩ | ⟨h48, h5, ⟨v, rfl⟩, rfl⟩ | ⟨h48, h5, rfl, rfl⟩)
    · refine g_istore (nx := 168) hX 5 dX11_sum_166 rfl rfl ?_
      refine g_aload_n (nx := 169) hX 0 dX11_sum_168 rfl rfl rfl ?_
      refine g_getfield (nx := 172) hX dX11_sum_169 rfl fX11_92 (ga_dn hn rfl) rfl rfl ?_
      refine g_if_ne (nx := 175) hX 187 dX11_sum_172 (by decide) rfl (fun h172 => ?_) (fun h172 => ?_)
      · refine g_aload_n (nx := 188) hX 0 dX11_sum_187 rfl rfl rfl ?_
        refine g_bipush (nx := 190) hX 6 dX11_sum_188 rfl (by decide) ?_
        refine g_iload (nx := 192) hX 5 dX11_sum_190 rfl rfl ?_
        refine g_V2 (nx := 195) hX dX11_sum_192 rfl mX11_244 yX11_add_ok (c_X11_add hn (by omega)) (ga_dn hn rfl) rfl rfl rfl (by omega) rfl (Nat.le_of_ble_eq_true rfl) (Nat.le_of_ble_eq_true rfl) ?_
        rintro _ _ ⟨rfl, rfl⟩
        refine g_goto (nx := 258) hX dX11_sum_195 (by decide) ?_
        refine g_goto (nx := 14) hX dX11_sum_258 (by decide) ?_
        exact g_ls (hE 1 y (by unfold R_div; rw [if_neg hno]) (by omega) 1 1 y _ _ _ _ _ _ (by omega) (by omega)) ⟨rfl, rfl, rfl, trivial⟩
      · exact absurd h172 (by decide)
    · refine g_istore (nx := 168) hX 5 dX11_sum_166 rfl rfl ?_
      refine g_aload_n (nx := 169) hX 0 dX11_sum_168 rfl rfl rfl ?_
      refine g_getfield (nx := 172) hX dX11_sum_169 rfl fX11_92 (ga_dn hn rfl) rfl rfl ?_
      refine g_if_ne (nx := 175) hX 187 dX11_sum_172 (by decide) rfl (fun h172 => ?_) (fun h172 => ?_)
      · refine g_aload_n (nx := 188) hX 0 dX11_sum_187 rfl rfl rfl ?_
        refine g_bipush (nx := 190) hX 6 dX11_sum_188 rfl (by decide) ?_
        refine g_iload (nx := 192) hX 5 dX11_sum_190 rfl rfl ?_
        refine g_V2 (nx := 195) hX dX11_sum_192 rfl mX11_244 yX11_add_ok (c_X11_add hn (by omega)) (ga_dn hn rfl) rfl rfl rfl (by omega) rfl (Nat.le_of_ble_eq_true rfl) (Nat.le_of_ble_eq_true rfl) ?_
        rintro _ _ ⟨rfl, rfl⟩
        refine g_goto (nx := 258) hX dX11_sum_195 (by decide) ?_
        refine g_goto (nx := 14) hX dX11_sum_258 (by decide) ?_
        exact g_ls (hE 1 (y + 5) (by unfold R_div; rw [if_pos h48, if_pos h5]) (by omega) 1 1 (y + 6) _ _ _ _ _ _ (by omega) (by omega)) ⟨rfl, rfl, rfl, trivial⟩
      · exact absurd h172 (by decide)
    · refine g_istore (nx := 168) hX 5 dX11_sum_166 rfl rfl ?_
      refine g_aload_n (nx := 169) hX 0 dX11_sum_168 rfl rfl rfl ?_
      refine g_getfield (nx := 172) hX dX11_sum_169 rfl fX11_92 (ga_dn hn rfl) rfl rfl ?_
      refine g_if_ne (nx := 175) hX 187 dX11_sum_172 (by decide) rfl (fun h172 => ?_) (fun h172 => ?_)
      · exact absurd rfl h172
      · refine g_iload (nx := 177) hX 5 dX11_sum_175 rfl rfl ?_
        refine g_if_ne (nx := 180) hX 187 dX11_sum_177 (by decide) rfl (fun h177 => ?_) (fun h177 => ?_)
        · have h0 : ¬ x_num tb lt y = 0 := fun z => h177 (by rw [z]; rfl)
          refine g_aload_n (nx := 188) hX 0 dX11_sum_187 rfl rfl rfl ?_
          refine g_bipush (nx := 190) hX 6 dX11_sum_188 rfl (by decide) ?_
          refine g_iload (nx := 192) hX 5 dX11_sum_190 rfl rfl ?_
          refine g_V2 (nx := 195) hX dX11_sum_192 rfl mX11_244 yX11_add_ok (m_addx (C := C ++ r_cd T) (x := (5, x_num tb lt y)) hn (by omega) rfl rfl) (ga_dn hn rfl) rfl rfl rfl (by omega) rfl (Nat.le_of_ble_eq_true rfl) (Nat.le_of_ble_eq_true rfl) ?_
          rintro _ _ ⟨rfl, rfl⟩
          refine g_goto (nx := 258) hX dX11_sum_195 (by decide) ?_
          refine g_goto (nx := 14) hX dX11_sum_258 (by decide) ?_
          exact g_ls (kont (5, x_num tb lt y) (by unfold R_div; rw [if_pos h48, if_neg h5, if_neg h0])) ⟨rfl, rfl, rfl, trivial⟩
        · have h0 : x_num tb lt y = 0 := nI_inj (b := 0) h177 (by have := (x_num_N h48 h5).2; omega) (by omega)
          refine g_aload_n (nx := 181) hX 0 dX11_sum_180 rfl rfl rfl ?_
          refine g_iconst (nx := 182) hX 2 dX11_sum_181 rfl (by decide) ?_
          refine g_iload (nx := 184) hX 4 dX11_sum_182 rfl rfl ?_
          refine g_V2 (nx := 187) hX dX11_sum_184 rfl mX11_189 yX11_blame_ok (m_blame hn) (ga_dn hn rfl) rfl rfl rfl (by omega) rfl (Nat.le_of_ble_eq_true rfl) (Nat.le_of_ble_eq_true rfl) ?_
          rintro _ _ ⟨rfl, rfl⟩
          refine g_aload_n (nx := 188) hX 0 dX11_sum_187 rfl rfl rfl ?_
          refine g_bipush (nx := 190) hX 6 dX11_sum_188 rfl (by decide) ?_
          refine g_iload (nx := 192) hX 5 dX11_sum_190 rfl rfl ?_
          refine g_V2 (nx := 195) hX dX11_sum_192 rfl mX11_244 yX11_add_ok (c_X11_add hn (by omega)) (ga_dn hn rfl) rfl rfl rfl (by omega) rfl (Nat.le_of_ble_eq_true rfl) (Nat.le_of_ble_eq_true rfl) ?_
          rintro _ _ ⟨rfl, rfl⟩
          refine g_goto (nx := 258) hX dX11_sum_195 (by decide) ?_
          refine g_goto (nx := 14) hX dX11_sum_258 (by decide) ?_
          exact g_ls (hE 2 y (by unfold R_div; rw [if_pos h48, if_neg h5, if_pos h0]) (by omega) 1 1 (x_te tb lt y) _ _ _ _ _ _ (by have := (x_te_le (tb := tb) hnl).2; omega) (by omega)) ⟨rfl, rfl, rfl, trivial⟩
end
