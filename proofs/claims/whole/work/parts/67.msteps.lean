/-! ===== the reference: a sum, operands and brackets ===== -/
theorem r_pil_r {A : List (Nat × Nat)} {pi cm : Nat → Int32} : ∀ {T : List (Nat × Nat)}, r_pil (T ++ A) pi cm → r_pil A pi cm
  | [], h => h
  | _ :: _, h => r_pil_r h.2.2
theorem r_pil_p {A : List (Nat × Nat)} {pi cm : Nat → Int32} {s : Nat} (hs : s < 7) (h : r_pil A pi cm) : r_pil ((s, 0) :: A) (upd pi A.length (nI s)) cm :=
  ⟨if_pos rfl, fun z => absurd z (by show ¬ 7 ≤ s; omega), r_pl_pi (Nat.le_refl _) h⟩
theorem r_pil_b {A : List (Nat × Nat)} {pi cm : Nat → Int32} {s : Nat} (h : r_pil A pi cm) : r_pil ((s, 0) :: A) (upd pi A.length (nI s)) (upd cm A.length 0) :=
  ⟨if_pos rfl, fun _ => if_pos rfl, r_pl_cm (Nat.le_refl _) (r_pl_pi (Nat.le_refl _) h)⟩
theorem r_pil_c {A : List (Nat × Nat)} {pi cm : Nat → Int32} {x : Nat × Nat} (h : r_pil (x :: A) pi cm) : r_pil ((x.1, 1) :: A) pi (upd cm A.length 1) :=
  ⟨h.1, fun _ => if_pos rfl, r_pl_cm (Nat.le_refl _) h.2.2⟩
section
variable {E : ga_E} {X : ga_X} {n : Nat} {c0 c1 c2 c3 c4 c5 c6 c7 c8 c9 c10 c11 c12 c13 c14 c15 c16 c17 c18 c19 c20 c21 c22 c23 c24 c25 c26 c27 c28 c29 c30 m79 m80 m81 m82 m83 m84 m85 m86 m87 m88 m89 m90 m91 m92 m93 m94 m95 m96 m97 m98 m99 m100 m101 m102 m103 m104 m105 : ga_C} {L1 L2 : List ga_C} {f : Nat → ga_C} {o_tp o_rd o_fe o_em o_sp o_ac o_td o_sm o_tt o_at o_sz o_fk o_fp o_nw o_md o_nt o_pl o_op d_at d_tk d_ta d_fd d_fa : Int32} {d_tv : Int64} {d_rl : Value}
variable {r_at r_fk r_fp r_nt r_pl r_op : Int32} {nw md lt : Nat} {tb ns nb sg na nz pi cm : Nat → Int32}
variable {p q o d : Nat} {C S : List (Nat × Nat)} {nm : Nat → Int64}
theorem st_opd (hX : ga_B E d yX11_sum cX11_sum 6 0 0 X) (hd : 3 ≤ d) (hn : 106 ≤ n) (hl : lt ≤ 600) (hw : nw ≤ 24) (hN : r_nm tb nm nw ns nz na) (hp : p ≤ lt) (hq : x_sk tb lt p = q) (ho : o ≤ 6) (hS : S.length < 40) (hC : C.length ≤ q)
    (hE : ∀ k pl, x_op tb lt nm o q = .inl (k, pl) → (1 ≤ k ∧ k ≤ 4) → (∀ (b m : Int32) (p : Nat) (pl_ op_ : Int32) (md : Nat) (sg pi cm : Nat → Int32), p ≤ 610 → md ≤ 620 → ga_G E X 0 0 14 [some (.ref 79), some (.int b), some (.int m), none, none, none] [] (n, L1, ((m_O o_tp o_rd o_fe o_em o_sp o_ac o_td o_sm o_tt (nI p) (nI lt) (nI (k)) (nI (pl)) (nI nw) (nI md) (r_nt) (pl_) (op_)) :: ga_i 600 tb :: m81 :: m82 :: m83 :: m84 :: m85 :: m86 :: m87 :: m88 :: m89 :: m90 :: m91 :: m92 :: m93 :: m94 :: m95 :: ga_i 25 (ns) :: ga_i 26 (nb) :: ga_i 1300 (sg) :: ga_i 250 (na) :: ga_i 25 (nz) :: ga_i 40 (pi) :: ga_z 40 (cm) :: L2), f)))
    (k1 : ∀ c, x_op tb lt nm o q = .inr (.inl c) → ga_G E X 0 0 14 [some (.ref 79), some (.int 1), some (.int 1), none, none, none] [] (n, L1, ((m_O o_tp o_rd o_fe o_em o_sp o_ac o_td o_sm o_tt (nI (x_te tb lt q)) (nI lt) (0) (-1) (nI nw) (nI (C ++ [c]).length) (r_nt) (nI (S).length) (nI (o))) :: ga_i 600 tb :: m81 :: m82 :: m83 :: m84 :: m85 :: m86 :: m87 :: m88 :: m89 :: m90 :: m91 :: m92 :: m93 :: m94 :: m95 :: ga_i 25 (ns) :: ga_i 26 (nb) :: ga_i 1300 (r_sg (C ++ [c]) sg) :: ga_i 250 (na) :: ga_i 25 (nz) :: ga_i 40 (pi) :: ga_z 40 (cm) :: L2), f))
    (k2 : ∀ e q1, x_op tb lt nm o q = .inr (.inr (e, q1)) → ga_G E X 0 0 14 [some (.ref 79), some (.int 0), some (.int 1), none, none, none] [] (n, L1, ((m_O o_tp o_rd o_fe o_em o_sp o_ac o_td o_sm o_tt (nI (q1 + 1)) (nI lt) (0) (-1) (nI nw) (nI (C).length) (r_nt) (nI ((if e = 0 then 12 else e + 1, 0) :: S).length) (nI (o + 1))) :: ga_i 600 tb :: m81 :: m82 :: m83 :: m84 :: m85 :: m86 :: m87 :: m88 :: m89 :: m90 :: m91 :: m92 :: m93 :: m94 :: m95 :: ga_i 25 (ns) :: ga_i 26 (nb) :: ga_i 1300 (r_sg (C) sg) :: ga_i 250 (na) :: ga_i 25 (nz) :: ga_i 40 (upd pi S.length (nI (if e = 0 then 12 else e + 1))) :: ga_z 40 (upd cm S.length 0) :: L2), f)) : ga_G E X 0 0 14 [some (.ref 79), some (.int 0), some (.int 1), none, none, none] [] (n, L1, ((m_O o_tp o_rd o_fe o_em o_sp o_ac o_td o_sm o_tt (nI (p)) (nI lt) (0) (-1) (nI nw) (nI (C).length) (r_nt) (nI (S).length) (nI (o))) :: ga_i 600 tb :: m81 :: m82 :: m83 :: m84 :: m85 :: m86 :: m87 :: m88 :: m89 :: m90 :: m91 :: m92 :: m93 :: m94 :: m95 :: ga_i 25 (ns) :: ga_i 26 (nb) :: ga_i 1300 (r_sg (C) sg) :: ga_i 250 (na) :: ga_i 25 (nz) :: ga_i 40 (pi) :: ga_z 40 (cm) :: L2), f) := by
  refine g_iload_n (nx := 15) hX 2 dX11_sum_14 rfl rfl rfl ?_
  refine g_if_eq (nx := 18) hX 261 dX11_sum_15 (by decide) rfl (fun h => absurd h (by decide)) (fun h => ?_)
  refine g_aload_n (nx := 19) hX 0 dX11_sum_18 rfl rfl rfl ?_
  refine g_getfield (nx := 22) hX dX11_sum_19 rfl fX11_92 (ga_dn hn rfl) rfl rfl ?_
  refine g_if_ne (nx := 25) hX 261 dX11_sum_22 (by decide) rfl (fun h22 => ?_) (fun h22 => ?_)
  · exact absurd rfl h22
  · refine g_iload_n (nx := 26) hX 1 dX11_sum_25 rfl rfl rfl ?_
    refine g_if_ne (nx := 29) hX 37 dX11_sum_26 (by decide) rfl (fun h => absurd h (by decide)) (fun h => ?_)
    refine g_aload_n (nx := 30) hX 0 dX11_sum_29 rfl rfl rfl ?_
    refine g_V0 (nx := 33) hX dX11_sum_30 rfl mX11_282 yX11_operand_ok (m_operand hn hl hw hN hp hq ho hS hC) (ga_dn hn rfl) rfl rfl rfl (by omega) rfl (Nat.le_of_ble_eq_true rfl) (Nat.le_of_ble_eq_true rfl) ?_
    rintro _ _ (⟨k, pl, hR, hk, ⟨v, rfl⟩, p', pl_, op_, md', sg', pi', cm', h1, h2, rfl⟩ | ⟨c, hR, rfl, rfl⟩ | ⟨e, q1, hR, rfl, rfl⟩)
    · refine g_istore_n (nx := 34) hX 1 dX11_sum_33 rfl rfl rfl ?_
      refine g_goto (nx := 14) hX dX11_sum_34 (by decide) ?_
      exact g_ls (hE k pl hR hk v 1 p' pl_ op_ md' sg' pi' cm' h1 h2) ⟨rfl, rfl, rfl, trivial⟩
    · refine g_istore_n (nx := 34) hX 1 dX11_sum_33 rfl rfl rfl ?_
      refine g_goto (nx := 14) hX dX11_sum_34 (by decide) ?_
      exact g_ls (k1 c hR) ⟨rfl, rfl, rfl, trivial⟩
    · refine g_istore_n (nx := 34) hX 1 dX11_sum_33 rfl rfl rfl ?_
      refine g_goto (nx := 14) hX dX11_sum_34 (by decide) ?_
      exact g_ls (k2 e q1 hR) ⟨rfl, rfl, rfl, trivial⟩
theorem st_clo {D : List (Nat × Nat)} {x : Nat × Nat} (hX : ga_B E d yX11_sum cX11_sum 6 0 0 X) (hd : 3 ≤ d) (hn : 106 ≤ n) (hl : lt ≤ 600) (hp : p ≤ lt) (hq : x_sk tb lt p = q) (ht : x_tk tb lt q = 41) (ho : 1 ≤ o ∧ o ≤ 6) (hx : r_bk x) (hD : r_ops D) (hlen : (D ++ x :: S).length ≤ 39) (hpl : r_pil (D ++ x :: S) pi cm) (hC : C.length + D.length ≤ 600)
    (hE : ¬ (x.1 = 12 ∨ x.2 = 1) → (∀ (b m : Int32) (p : Nat) (pl_ op_ : Int32) (md : Nat) (sg pi cm : Nat → Int32), p ≤ 610 → md ≤ 620 → ga_G E X 0 0 14 [some (.ref 79), some (.int b), some (.int m), none, none, none] [] (n, L1, ((m_O o_tp o_rd o_fe o_em o_sp o_ac o_td o_sm o_tt (nI p) (nI lt) (nI (1)) (nI (q)) (nI nw) (nI md) (r_nt) (pl_) (op_)) :: ga_i 600 tb :: m81 :: m82 :: m83 :: m84 :: m85 :: m86 :: m87 :: m88 :: m89 :: m90 :: m91 :: m92 :: m93 :: m94 :: m95 :: ga_i 25 (ns) :: ga_i 26 (nb) :: ga_i 1300 (sg) :: ga_i 250 (na) :: ga_i 25 (nz) :: ga_i 40 (pi) :: ga_z 40 (cm) :: L2), f)))
    (kont : (x.1 = 12 ∨ x.2 = 1) → ga_G E X 0 0 14 [some (.ref 79), some (.int 1), some (.int 1), none, none, none] [] (n, L1, ((m_O o_tp o_rd o_fe o_em o_sp o_ac o_td o_sm o_tt (nI (q + 1)) (nI lt) (0) (-1) (nI nw) (nI (C ++ r_cd D ++ (if x.1 = 12 then [] else [(x.1 - 1, 0)])).length) (r_nt) (nI (S).length) (nI (o - 1))) :: ga_i 600 tb :: m81 :: m82 :: m83 :: m84 :: m85 :: m86 :: m87 :: m88 :: m89 :: m90 :: m91 :: m92 :: m93 :: m94 :: m95 :: ga_i 25 (ns) :: ga_i 26 (nb) :: ga_i 1300 (r_sg (C ++ r_cd D ++ (if x.1 = 12 then [] else [(x.1 - 1, 0)])) sg) :: ga_i 250 (na) :: ga_i 25 (nz) :: ga_i 40 (pi) :: ga_z 40 (cm) :: L2), f)) : ga_G E X 0 0 14 [some (.ref 79), some (.int 1), some (.int 1), none, none, none] [] (n, L1, ((m_O o_tp o_rd o_fe o_em o_sp o_ac o_td o_sm o_tt (nI (p)) (nI lt) (0) (-1) (nI nw) (nI (C).length) (r_nt) (nI (D ++ x :: S).length) (nI (o))) :: ga_i 600 tb :: m81 :: m82 :: m83 :: m84 :: m85 :: m86 :: m87 :: m88 :: m89 :: m90 :: m91 :: m92 :: m93 :: m94 :: m95 :: ga_i 25 (ns) :: ga_i 26 (nb) :: ga_i 1300 (r_sg (C) sg) :: ga_i 250 (na) :: ga_i 25 (nz) :: ga_i 40 (pi) :: ga_z 40 (cm) :: L2), f) := by
  obtain ⟨-, hlt, hc⟩ := x_te_s1 (by decide) (by decide) (by decide) ht
  have hDl : D.length ≤ 39 := by rw [List.length_append] at hlen; omega
  have hCl : (C ++ r_cd D).length = C.length + D.length := by simp only [List.length_append, r_cd, List.length_map]
  refine g_iload_n (nx := 15) hX 2 dX11_sum_14 rfl rfl rfl ?_
  refine g_if_eq (nx := 18) hX 261 dX11_sum_15 (by decide) rfl (fun h => absurd h (by decide)) (fun h => ?_)
  refine g_aload_n (nx := 19) hX 0 dX11_sum_18 rfl rfl rfl ?_
  refine g_getfield (nx := 22) hX dX11_sum_19 rfl fX11_92 (ga_dn hn rfl) rfl rfl ?_
  refine g_if_ne (nx := 25) hX 261 dX11_sum_22 (by decide) rfl (fun h22 => ?_) (fun h22 => ?_)
  · exact absurd rfl h22
  · refine g_iload_n (nx := 26) hX 1 dX11_sum_25 rfl rfl rfl ?_
    refine g_if_ne (nx := 29) hX 37 dX11_sum_26 (by decide) rfl (fun h => ?_) (fun h => absurd h (by decide))
    refine g_aload_n (nx := 38) hX 0 dX11_sum_37 rfl rfl rfl ?_
    refine g_V0 (nx := 41) hX dX11_sum_38 rfl mX11_186 yX11_here_ok (c_X11_here hn hl (by omega)) (ga_dn hn rfl) rfl rfl rfl (by omega) rfl (Nat.le_of_ble_eq_true rfl) (Nat.le_of_ble_eq_true rfl) ?_
    rintro _ _ ⟨rfl, rfl⟩
    rw [hq, hc]
    refine g_istore_n (nx := 42) hX 3 dX11_sum_41 rfl rfl rfl ?_
    refine g_iload_n (nx := 43) hX 3 dX11_sum_42 rfl rfl rfl ?_
    refine g_bipush (nx := 45) hX 43 dX11_sum_43 rfl (by decide) ?_
    refine g_icmp_eq (nx := 48) hX 60 dX11_sum_45 (by decide) rfl (fun h => absurd h (by decide)) (fun h => ?_)
    refine g_iload_n (nx := 49) hX 3 dX11_sum_48 rfl rfl rfl ?_
    refine g_bipush (nx := 51) hX 45 dX11_sum_49 rfl (by decide) ?_
    refine g_icmp_eq (nx := 54) hX 60 dX11_sum_51 (by decide) rfl (fun h => absurd h (by decide)) (fun h => ?_)
    refine g_iload_n (nx := 55) hX 3 dX11_sum_54 rfl rfl rfl ?_
    refine g_bipush (nx := 57) hX 42 dX11_sum_55 rfl (by decide) ?_
    refine g_icmp_ne (nx := 60) hX 130 dX11_sum_57 (by decide) rfl (fun h => ?_) (fun h => absurd h (by decide))
    refine g_iload_n (nx := 131) hX 3 dX11_sum_130 rfl rfl rfl ?_
    refine g_bipush (nx := 133) hX 47 dX11_sum_131 rfl (by decide) ?_
    refine g_icmp_ne (nx := 136) hX 198 dX11_sum_133 (by decide) rfl (fun h => ?_) (fun h => absurd h (by decide))
    refine g_iload_n (nx := 199) hX 3 dX11_sum_198 rfl rfl rfl ?_
    refine g_bipush (nx := 201) hX 41 dX11_sum_199 rfl (by decide) ?_
    refine g_icmp_ne (nx := 204) hX 218 dX11_sum_201 (by decide) rfl (fun h => absurd h (by decide)) (fun h => ?_)
    refine g_aload_n (nx := 205) hX 0 dX11_sum_204 rfl rfl rfl ?_
    refine g_getfield (nx := 208) hX dX11_sum_205 rfl fX11_132 (ga_dn hn rfl) rfl rfl ?_
    refine g_if_le (nx := 211) hX 218 dX11_sum_208 (by decide) rfl (fun h208 => ?_) (fun h208 => ?_)
    · exact absurd ((nI_leI (b := 0) (by omega) (by omega)).mp h208) (by omega)
    · refine g_aload_n (nx := 212) hX 0 dX11_sum_211 rfl rfl rfl ?_
      refine g_V0 (nx := 215) hX dX11_sum_212 rfl mX11_286 yX11_closes_ok (m_closes hn hx hD (by omega) hpl (r_pil_r hpl) (by omega) (by omega) ho.1) (ga_dn hn rfl) rfl rfl rfl (by omega) rfl (Nat.le_of_ble_eq_true rfl) (Nat.le_of_ble_eq_true rfl) ?_
      rintro _ _ ⟨rfl, (⟨hno, rfl⟩ | ⟨hyes, rfl⟩)⟩
      · refine g_goto (nx := 258) hX dX11_sum_215 (by decide) ?_
        refine g_goto (nx := 14) hX dX11_sum_258 (by decide) ?_
        exact g_ls (hE hno 1 1 q _ _ _ _ _ _ (by omega) (by omega)) ⟨rfl, rfl, rfl, trivial⟩
      · refine g_goto (nx := 258) hX dX11_sum_215 (by decide) ?_
        refine g_goto (nx := 14) hX dX11_sum_258 (by decide) ?_
        exact g_ls (kont hyes) ⟨rfl, rfl, rfl, trivial⟩
theorem st_com {D : List (Nat × Nat)} {x : Nat × Nat} (hX : ga_B E d yX11_sum cX11_sum 6 0 0 X) (hd : 3 ≤ d) (hn : 106 ≤ n) (hl : lt ≤ 600) (hp : p ≤ lt) (hq : x_sk tb lt p = q) (ht : x_tk tb lt q = 44) (ho : 1 ≤ o ∧ o ≤ 6) (hx : r_bk x) (hD : r_ops D) (hlen : (D ++ x :: S).length ≤ 39) (hpl : r_pil (D ++ x :: S) pi cm) (hC : C.length + D.length ≤ 600)
    (hE : (x.1 = 12 ∨ x.2 = 1) → (∀ (b m : Int32) (p : Nat) (pl_ op_ : Int32) (md : Nat) (sg pi cm : Nat → Int32), p ≤ 610 → md ≤ 620 → ga_G E X 0 0 14 [some (.ref 79), some (.int b), some (.int m), none, none, none] [] (n, L1, ((m_O o_tp o_rd o_fe o_em o_sp o_ac o_td o_sm o_tt (nI p) (nI lt) (nI (1)) (nI (q)) (nI nw) (nI md) (r_nt) (pl_) (op_)) :: ga_i 600 tb :: m81 :: m82 :: m83 :: m84 :: m85 :: m86 :: m87 :: m88 :: m89 :: m90 :: m91 :: m92 :: m93 :: m94 :: m95 :: ga_i 25 (ns) :: ga_i 26 (nb) :: ga_i 1300 (sg) :: ga_i 250 (na) :: ga_i 25 (nz) :: ga_i 40 (pi) :: ga_z 40 (cm) :: L2), f)))
    (kont : ¬ (x.1 = 12 ∨ x.2 = 1) → ga_G E X 0 0 14 [some (.ref 79), some (.int 0), some (.int 1), none, none, none] [] (n, L1, ((m_O o_tp o_rd o_fe o_em o_sp o_ac o_td o_sm o_tt (nI (q + 1)) (nI lt) (0) (-1) (nI nw) (nI (C ++ r_cd D).length) (r_nt) (nI (x :: S).length) (nI (o))) :: ga_i 600 tb :: m81 :: m82 :: m83 :: m84 :: m85 :: m86 :: m87 :: m88 :: m89 :: m90 :: m91 :: m92 :: m93 :: m94 :: m95 :: ga_i 25 (ns) :: ga_i 26 (nb) :: ga_i 1300 (r_sg (C ++ r_cd D) sg) :: ga_i 250 (na) :: ga_i 25 (nz) :: ga_i 40 (pi) :: ga_z 40 (upd cm S.length 1) :: L2), f)) : ga_G E X 0 0 14 [some (.ref 79), some (.int 1), some (.int 1), none, none, none] [] (n, L1, ((m_O o_tp o_rd o_fe o_em o_sp o_ac o_td o_sm o_tt (nI (p)) (nI lt) (0) (-1) (nI nw) (nI (C).length) (r_nt) (nI (D ++ x :: S).length) (nI (o))) :: ga_i 600 tb :: m81 :: m82 :: m83 :: m84 :: m85 :: m86 :: m87 :: m88 :: m89 :: m90 :: m91 :: m92 :: m93 :: m94 :: m95 :: ga_i 25 (ns) :: ga_i 26 (nb) :: ga_i 1300 (r_sg (C) sg) :: ga_i 250 (na) :: ga_i 25 (nz) :: ga_i 40 (pi) :: ga_z 40 (cm) :: L2), f) := by
  obtain ⟨-, hlt, hc⟩ := x_te_s1 (by decide) (by decide) (by decide) ht
  have hDl : D.length ≤ 39 := by rw [List.length_append] at hlen; omega
  have hCl : (C ++ r_cd D).length = C.length + D.length := by simp only [List.length_append, r_cd, List.length_map]
  refine g_iload_n (nx := 15) hX 2 dX11_sum_14 rfl rfl rfl ?_
  refine g_if_eq (nx := 18) hX 261 dX11_sum_15 (by decide) rfl (fun h => absurd h (by decide)) (fun h => ?_)
  refine g_aload_n (nx := 19) hX 0 dX11_sum_18 rfl rfl rfl ?_
  refine g_getfield (nx := 22) hX dX11_sum_19 rfl fX11_92 (ga_dn hn rfl) rfl rfl ?_
  refine g_if_ne (nx := 25) hX 261 dX11_sum_22 (by decide) rfl (fun h22 => ?_) (fun h22 => ?_)
  · exact absurd rfl h22
  · refine g_iload_n (nx := 26) hX 1 dX11_sum_25 rfl rfl rfl ?_
    refine g_if_ne (nx := 29) hX 37 dX11_sum_26 (by decide) rfl (fun h => ?_) (fun h => absurd h (by decide))
    refine g_aload_n (nx := 38) hX 0 dX11_sum_37 rfl rfl rfl ?_
    refine g_V0 (nx := 41) hX dX11_sum_38 rfl mX11_186 yX11_here_ok (c_X11_here hn hl (by omega)) (ga_dn hn rfl) rfl rfl rfl (by omega) rfl (Nat.le_of_ble_eq_true rfl) (Nat.le_of_ble_eq_true rfl) ?_
    rintro _ _ ⟨rfl, rfl⟩
    rw [hq, hc]
    refine g_istore_n (nx := 42) hX 3 dX11_sum_41 rfl rfl rfl ?_
    refine g_iload_n (nx := 43) hX 3 dX11_sum_42 rfl rfl rfl ?_
    refine g_bipush (nx := 45) hX 43 dX11_sum_43 rfl (by decide) ?_
    refine g_icmp_eq (nx := 48) hX 60 dX11_sum_45 (by decide) rfl (fun h => absurd h (by decide)) (fun h => ?_)
    refine g_iload_n (nx := 49) hX 3 dX11_sum_48 rfl rfl rfl ?_
    refine g_bipush (nx := 51) hX 45 dX11_sum_49 rfl (by decide) ?_
    refine g_icmp_eq (nx := 54) hX 60 dX11_sum_51 (by decide) rfl (fun h => absurd h (by decide)) (fun h => ?_)
    refine g_iload_n (nx := 55) hX 3 dX11_sum_54 rfl rfl rfl ?_
    refine g_bipush (nx := 57) hX 42 dX11_sum_55 rfl (by decide) ?_
    refine g_icmp_ne (nx := 60) hX 130 dX11_sum_57 (by decide) rfl (fun h => ?_) (fun h => absurd h (by decide))
    refine g_iload_n (nx := 131) hX 3 dX11_sum_130 rfl rfl rfl ?_
    refine g_bipush (nx := 133) hX 47 dX11_sum_131 rfl (by decide) ?_
    refine g_icmp_ne (nx := 136) hX 198 dX11_sum_133 (by decide) rfl (fun h => ?_) (fun h => absurd h (by decide))
    refine g_iload_n (nx := 199) hX 3 dX11_sum_198 rfl rfl rfl ?_
    refine g_bipush (nx := 201) hX 41 dX11_sum_199 rfl (by decide) ?_
    refine g_icmp_ne (nx := 204) hX 218 dX11_sum_201 (by decide) rfl (fun h => ?_) (fun h => absurd h (by decide))
    refine g_iload_n (nx := 219) hX 3 dX11_sum_218 rfl rfl rfl ?_
    refine g_bipush (nx := 221) hX 44 dX11_sum_219 rfl (by decide) ?_
    refine g_icmp_ne (nx := 224) hX 240 dX11_sum_221 (by decide) rfl (fun h => absurd h (by decide)) (fun h => ?_)
    refine g_aload_n (nx := 225) hX 0 dX11_sum_224 rfl rfl rfl ?_
    refine g_getfield (nx := 228) hX dX11_sum_225 rfl fX11_132 (ga_dn hn rfl) rfl rfl ?_
    refine g_if_le (nx := 231) hX 240 dX11_sum_228 (by decide) rfl (fun h228 => ?_) (fun h228 => ?_)
    · exact absurd ((nI_leI (b := 0) (by omega) (by omega)).mp h228) (by omega)
    · refine g_aload_n (nx := 232) hX 0 dX11_sum_231 rfl rfl rfl ?_
      refine g_V0 (nx := 235) hX dX11_sum_232 rfl mX11_289 yX11_commas_ok (m_commas hn hx hD (by omega) hpl (r_pil_r hpl) (by omega) (by omega)) (ga_dn hn rfl) rfl rfl rfl (by omega) rfl (Nat.le_of_ble_eq_true rfl) (Nat.le_of_ble_eq_true rfl) ?_
      rintro _ _ ⟨rfl, (⟨hno, rfl⟩ | ⟨hyes, rfl⟩)⟩
      · refine g_iconst (nx := 236) hX 0 dX11_sum_235 rfl (by decide) ?_
        refine g_istore_n (nx := 237) hX 1 dX11_sum_236 rfl rfl rfl ?_
        refine g_goto (nx := 258) hX dX11_sum_237 (by decide) ?_
        refine g_goto (nx := 14) hX dX11_sum_258 (by decide) ?_
        exact g_ls (hE hno 0 1 q _ _ _ _ _ _ (by omega) (by omega)) ⟨rfl, rfl, rfl, trivial⟩
      · refine g_iconst (nx := 236) hX 0 dX11_sum_235 rfl (by decide) ?_
        refine g_istore_n (nx := 237) hX 1 dX11_sum_236 rfl rfl rfl ?_
        refine g_goto (nx := 258) hX dX11_sum_237 (by decide) ?_
        refine g_goto (nx := 14) hX dX11_sum_258 (by decide) ?_
        exact g_ls (kont hyes) ⟨rfl, rfl, rfl, trivial⟩
theorem st_els (hX : ga_B E d yX11_sum cX11_sum 6 0 0 X) (hd : 3 ≤ d) (hn : 106 ≤ n) (hl : lt ≤ 600) (hp : p ≤ lt) (hq : x_sk tb lt p = q) (h1 : ¬ x_tk tb lt q = 42) (h2 : ¬ x_tk tb lt q = 43) (h3 : ¬ x_tk tb lt q = 45) (h4 : ¬ x_tk tb lt q = 47) (h5 : ¬ x_tk tb lt q = 41) (h6 : ¬ x_tk tb lt q = 44) (ho : 1 ≤ o ∧ o ≤ 6) (hC : C.length ≤ 600)
    (hE : (∀ (b m : Int32) (p : Nat) (pl_ op_ : Int32) (md : Nat) (sg pi cm : Nat → Int32), p ≤ 610 → md ≤ 620 → ga_G E X 0 0 14 [some (.ref 79), some (.int b), some (.int m), none, none, none] [] (n, L1, ((m_O o_tp o_rd o_fe o_em o_sp o_ac o_td o_sm o_tt (nI p) (nI lt) (nI (1)) (nI (q)) (nI nw) (nI md) (r_nt) (pl_) (op_)) :: ga_i 600 tb :: m81 :: m82 :: m83 :: m84 :: m85 :: m86 :: m87 :: m88 :: m89 :: m90 :: m91 :: m92 :: m93 :: m94 :: m95 :: ga_i 25 (ns) :: ga_i 26 (nb) :: ga_i 1300 (sg) :: ga_i 250 (na) :: ga_i 25 (nz) :: ga_i 40 (pi) :: ga_z 40 (cm) :: L2), f))) : ga_G E X 0 0 14 [some (.ref 79), some (.int 1), some (.int 1), none, none, none] [] (n, L1, ((m_O o_tp o_rd o_fe o_em o_sp o_ac o_td o_sm o_tt (nI (p)) (nI lt) (0) (-1) (nI nw) (nI (C).length) (r_nt) (nI (S).length) (nI (o))) :: ga_i 600 tb :: m81 :: m82 :: m83 :: m84 :: m85 :: m86 :: m87 :: m88 :: m89 :: m90 :: m91 :: m92 :: m93 :: m94 :: m95 :: ga_i 25 (ns) :: ga_i 26 (nb) :: ga_i 1300 (r_sg (C) sg) :: ga_i 250 (na) :: ga_i 25 (nz) :: ga_i 40 (pi) :: ga_z 40 (cm) :: L2), f) := by
  have hql : q ≤ lt := by rw [← hq]; exact (x_sk_le hp).2
  have g1 : ¬ x_c tb lt q = 42 := fun z => h1 ((x_ct (by decide) (by decide)).mp z)
  have g2 : ¬ x_c tb lt q = 43 := fun z => h2 ((x_ct (by decide) (by decide)).mp z)
  have g3 : ¬ x_c tb lt q = 45 := fun z => h3 ((x_ct (by decide) (by decide)).mp z)
  have g4 : ¬ x_c tb lt q = 47 := fun z => h4 ((x_ct (by decide) (by decide)).mp z)
  have g5 : ¬ x_c tb lt q = 41 := fun z => h5 ((x_ct (by decide) (by decide)).mp z)
  have g6 : ¬ x_c tb lt q = 44 := fun z => h6 ((x_ct (by decide) (by decide)).mp z)
  refine g_iload_n (nx := 15) hX 2 dX11_sum_14 rfl rfl rfl ?_
  refine g_if_eq (nx := 18) hX 261 dX11_sum_15 (by decide) rfl (fun h => absurd h (by decide)) (fun h => ?_)
  refine g_aload_n (nx := 19) hX 0 dX11_sum_18 rfl rfl rfl ?_
  refine g_getfield (nx := 22) hX dX11_sum_19 rfl fX11_92 (ga_dn hn rfl) rfl rfl ?_
  refine g_if_ne (nx := 25) hX 261 dX11_sum_22 (by decide) rfl (fun h22 => ?_) (fun h22 => ?_)
  · exact absurd rfl h22
  · refine g_iload_n (nx := 26) hX 1 dX11_sum_25 rfl rfl rfl ?_
    refine g_if_ne (nx := 29) hX 37 dX11_sum_26 (by decide) rfl (fun h => ?_) (fun h => absurd h (by decide))
    refine g_aload_n (nx := 38) hX 0 dX11_sum_37 rfl rfl rfl ?_
    refine g_V0 (nx := 41) hX dX11_sum_38 rfl mX11_186 yX11_here_ok (c_X11_here hn hl (by omega)) (ga_dn hn rfl) rfl rfl rfl (by omega) rfl (Nat.le_of_ble_eq_true rfl) (Nat.le_of_ble_eq_true rfl) ?_
    rintro _ _ ⟨rfl, rfl⟩
    rw [hq]
    refine g_istore_n (nx := 42) hX 3 dX11_sum_41 rfl rfl rfl ?_
    refine g_iload_n (nx := 43) hX 3 dX11_sum_42 rfl rfl rfl ?_
    refine g_bipush (nx := 45) hX 43 dX11_sum_43 rfl (by decide) ?_
    refine g_icmp_eq (nx := 48) hX 60 dX11_sum_45 (by decide) rfl (fun h45 => ?_) (fun h45 => ?_)
    · exact absurd h45 g2
    · refine g_iload_n (nx := 49) hX 3 dX11_sum_48 rfl rfl rfl ?_
      refine g_bipush (nx := 51) hX 45 dX11_sum_49 rfl (by decide) ?_
      refine g_icmp_eq (nx := 54) hX 60 dX11_sum_51 (by decide) rfl (fun h51 => ?_) (fun h51 => ?_)
      · exact absurd h51 g3
      · refine g_iload_n (nx := 55) hX 3 dX11_sum_54 rfl rfl rfl ?_
        refine g_bipush (nx := 57) hX 42 dX11_sum_55 rfl (by decide) ?_
        refine g_icmp_ne (nx := 60) hX 130 dX11_sum_57 (by decide) rfl (fun h57 => ?_) (fun h57 => ?_)
        · refine g_iload_n (nx := 131) hX 3 dX11_sum_130 rfl rfl rfl ?_
          refine g_bipush (nx := 133) hX 47 dX11_sum_131 rfl (by decide) ?_
          refine g_icmp_ne (nx := 136) hX 198 dX11_sum_133 (by decide) rfl (fun h133 => ?_) (fun h133 => ?_)
          · refine g_iload_n (nx := 199) hX 3 dX11_sum_198 rfl rfl rfl ?_
            refine g_bipush (nx := 201) hX 41 dX11_sum_199 rfl (by decide) ?_
            refine g_icmp_ne (nx := 204) hX 218 dX11_sum_201 (by decide) rfl (fun h201 => ?_) (fun h201 => ?_)
            · refine g_iload_n (nx := 219) hX 3 dX11_sum_218 rfl rfl rfl ?_
              refine g_bipush (nx := 221) hX 44 dX11_sum_219 rfl (by decide) ?_
              refine g_icmp_ne (nx := 224) hX 240 dX11_sum_221 (by decide) rfl (fun h221 => ?_) (fun h221 => ?_)
              · refine g_iconst (nx := 241) hX 0 dX11_sum_240 rfl (by decide) ?_
                refine g_istore_n (nx := 242) hX 2 dX11_sum_241 rfl rfl rfl ?_
                refine g_aload_n (nx := 243) hX 0 dX11_sum_242 rfl rfl rfl ?_
                refine g_getfield (nx := 246) hX dX11_sum_243 rfl fX11_132 (ga_dn hn rfl) rfl rfl ?_
                refine g_if_le (nx := 249) hX 258 dX11_sum_246 (by decide) rfl (fun h246 => ?_) (fun h246 => ?_)
                · exact absurd ((nI_leI (b := 0) (by omega) (by omega)).mp h246) (by omega)
                · refine g_aload_n (nx := 250) hX 0 dX11_sum_249 rfl rfl rfl ?_
                  refine g_iconst (nx := 251) hX 1 dX11_sum_250 rfl (by decide) ?_
                  refine g_aload_n (nx := 252) hX 0 dX11_sum_251 rfl rfl rfl ?_
                  refine g_getfield (nx := 255) hX dX11_sum_252 rfl fX11_86 (ga_dn hn rfl) rfl rfl ?_
                  refine g_V2 (nx := 258) hX dX11_sum_255 rfl mX11_189 yX11_blame_ok (m_blame hn) (ga_dn hn rfl) rfl rfl rfl (by omega) rfl (Nat.le_of_ble_eq_true rfl) (Nat.le_of_ble_eq_true rfl) ?_
                  rintro _ _ ⟨rfl, rfl⟩
                  refine g_goto (nx := 14) hX dX11_sum_258 (by decide) ?_
                  exact g_ls (hE 1 0 q _ _ _ _ _ _ (by omega) (by omega)) ⟨rfl, rfl, rfl, trivial⟩
              · exact absurd h221 g6
            · exact absurd h201 g5
          · exact absurd h133 g4
        · exact absurd h57 g1
/-- behind the sum: nothing is open -/
theorem st_end {D : List (Nat × Nat)} {Post : Option Value → ga_M → Prop} (hX : ga_B E d yX11_sum cX11_sum 6 0 0 X) (hP : ga_P E none 0 0 Post X) (hd : 3 ≤ d) (hn : 106 ≤ n) (hl : lt ≤ 600) (hp : p ≤ lt) (hq : x_sk tb lt p = q) (h1 : ¬ x_tk tb lt q = 42) (h2 : ¬ x_tk tb lt q = 43) (h3 : ¬ x_tk tb lt q = 45) (h4 : ¬ x_tk tb lt q = 47) (hD : r_ops D) (hlen : D.length ≤ 20) (hpl : r_pil D pi cm) (hC : C.length + D.length ≤ 600)
    (hR : Post none (n, L1, ((m_O o_tp o_rd o_fe o_em o_sp o_ac o_td o_sm o_tt (nI (q)) (nI lt) (0) (-1) (nI nw) (nI (C ++ r_cd D).length) (r_nt) (nI ([] : List (Nat × Nat)).length) (nI (0))) :: ga_i 600 tb :: m81 :: m82 :: m83 :: m84 :: m85 :: m86 :: m87 :: m88 :: m89 :: m90 :: m91 :: m92 :: m93 :: m94 :: m95 :: ga_i 25 (ns) :: ga_i 26 (nb) :: ga_i 1300 (r_sg (C ++ r_cd D) sg) :: ga_i 250 (na) :: ga_i 25 (nz) :: ga_i 40 (pi) :: ga_z 40 (cm) :: L2), f)) : ga_G E X 0 0 14 [some (.ref 79), some (.int 1), some (.int 1), none, none, none] [] (n, L1, ((m_O o_tp o_rd o_fe o_em o_sp o_ac o_td o_sm o_tt (nI (p)) (nI lt) (0) (-1) (nI nw) (nI (C).length) (r_nt) (nI (D).length) (nI (0))) :: ga_i 600 tb :: m81 :: m82 :: m83 :: m84 :: m85 :: m86 :: m87 :: m88 :: m89 :: m90 :: m91 :: m92 :: m93 :: m94 :: m95 :: ga_i 25 (ns) :: ga_i 26 (nb) :: ga_i 1300 (r_sg (C) sg) :: ga_i 250 (na) :: ga_i 25 (nz) :: ga_i 40 (pi) :: ga_z 40 (cm) :: L2), f) := by
  have hql : q ≤ lt := by rw [← hq]; exact (x_sk_le hp).2
  have g1 : ¬ x_c tb lt q = 42 := fun z => h1 ((x_ct (by decide) (by decide)).mp z)
  have g2 : ¬ x_c tb lt q = 43 := fun z => h2 ((x_ct (by decide) (by decide)).mp z)
  have g3 : ¬ x_c tb lt q = 45 := fun z => h3 ((x_ct (by decide) (by decide)).mp z)
  have g4 : ¬ x_c tb lt q = 47 := fun z => h4 ((x_ct (by decide) (by decide)).mp z)
  have hpl2 : r_pil (D ++ []) pi cm := by rw [List.append_nil]; exact hpl
  have t : ga_G E X 0 0 14 [some (.ref 79), some (.int 1), some (.int 0), none, none, none] [] (n, L1, ((m_O o_tp o_rd o_fe o_em o_sp o_ac o_td o_sm o_tt (nI (q)) (nI lt) (0) (-1) (nI nw) (nI (C).length) (r_nt) (nI (D ++ []).length) (nI (0))) :: ga_i 600 tb :: m81 :: m82 :: m83 :: m84 :: m85 :: m86 :: m87 :: m88 :: m89 :: m90 :: m91 :: m92 :: m93 :: m94 :: m95 :: ga_i 25 (ns) :: ga_i 26 (nb) :: ga_i 1300 (r_sg (C) sg) :: ga_i 250 (na) :: ga_i 25 (nz) :: ga_i 40 (pi) :: ga_z 40 (cm) :: L2), f) := by
    refine g_iload_n (nx := 15) hX 2 dX11_sum_14 rfl rfl rfl ?_
    refine g_if_eq (nx := 18) hX 261 dX11_sum_15 (by decide) rfl (fun h => ?_) (fun h => absurd h (by decide))
    refine g_aload_n (nx := 262) hX 0 dX11_sum_261 rfl rfl rfl ?_
    refine g_getfield (nx := 265) hX dX11_sum_262 rfl fX11_92 (ga_dn hn rfl) rfl rfl ?_
    refine g_if_ne (nx := 268) hX 273 dX11_sum_265 (by decide) rfl (fun h265 => ?_) (fun h265 => ?_)
    · exact absurd rfl h265
    · refine g_aload_n (nx := 269) hX 0 dX11_sum_268 rfl rfl rfl ?_
      refine g_iconst (nx := 270) hX 1 dX11_sum_269 rfl (by decide) ?_
      refine g_V1 (nx := 273) hX dX11_sum_270 rfl mX11_278 yX11_joins_ok (j_all (A := []) hn (fun y S' e => by cases e) hD (by rw [List.append_nil]; omega) hpl2 (by omega)) (ga_dn hn rfl) rfl rfl rfl (by omega) rfl (Nat.le_of_ble_eq_true rfl) (Nat.le_of_ble_eq_true rfl) ?_
      rintro _ _ ⟨rfl, rfl⟩
      exact g_return hX hP dX11_sum_273 (Nat.le_of_ble_eq_true rfl) (Nat.le_of_ble_eq_true rfl) hR
  rw [List.append_nil] at t
  have t240 : ga_G E X 0 0 240 [some (.ref 79), some (.int 1), none, none, none, none] [] (n, L1, ((m_O o_tp o_rd o_fe o_em o_sp o_ac o_td o_sm o_tt (nI (q)) (nI lt) (0) (-1) (nI nw) (nI (C).length) (r_nt) (nI (D).length) (nI (0))) :: ga_i 600 tb :: m81 :: m82 :: m83 :: m84 :: m85 :: m86 :: m87 :: m88 :: m89 :: m90 :: m91 :: m92 :: m93 :: m94 :: m95 :: ga_i 25 (ns) :: ga_i 26 (nb) :: ga_i 1300 (r_sg (C) sg) :: ga_i 250 (na) :: ga_i 25 (nz) :: ga_i 40 (pi) :: ga_z 40 (cm) :: L2), f) := by
    refine g_iconst (nx := 241) hX 0 dX11_sum_240 rfl (by decide) ?_
    refine g_istore_n (nx := 242) hX 2 dX11_sum_241 rfl rfl rfl ?_
    refine g_aload_n (nx := 243) hX 0 dX11_sum_242 rfl rfl rfl ?_
    refine g_getfield (nx := 246) hX dX11_sum_243 rfl fX11_132 (ga_dn hn rfl) rfl rfl ?_
    refine g_if_le (nx := 249) hX 258 dX11_sum_246 (by decide) rfl (fun h246 => ?_) (fun h246 => ?_)
    · refine g_goto (nx := 14) hX dX11_sum_258 (by decide) ?_
      exact g_ls t ⟨rfl, rfl, rfl, trivial⟩
    · exact absurd (by decide) h246
  refine g_iload_n (nx := 15) hX 2 dX11_sum_14 rfl rfl rfl ?_
  refine g_if_eq (nx := 18) hX 261 dX11_sum_15 (by decide) rfl (fun h => absurd h (by decide)) (fun h => ?_)
  refine g_aload_n (nx := 19) hX 0 dX11_sum_18 rfl rfl rfl ?_
  refine g_getfield (nx := 22) hX dX11_sum_19 rfl fX11_92 (ga_dn hn rfl) rfl rfl ?_
  refine g_if_ne (nx := 25) hX 261 dX11_sum_22 (by decide) rfl (fun h22 => ?_) (fun h22 => ?_)
  · exact absurd rfl h22
  · refine g_iload_n (nx := 26) hX 1 dX11_sum_25 rfl rfl rfl ?_
    refine g_if_ne (nx := 29) hX 37 dX11_sum_26 (by decide) rfl (fun h => ?_) (fun h => absurd h (by decide))
    refine g_aload_n (nx := 38) hX 0 dX11_sum_37 rfl rfl rfl ?_
    refine g_V0 (nx := 41) hX dX11_sum_38 rfl mX11_186 yX11_here_ok (c_X11_here hn hl (by omega)) (ga_dn hn rfl) rfl rfl rfl (by omega) rfl (Nat.le_of_ble_eq_true rfl) (Nat.le_of_ble_eq_true rfl) ?_
    rintro _ _ ⟨rfl, rfl⟩
    rw [hq]
    refine g_istore_n (nx := 42) hX 3 dX11_sum_41 rfl rfl rfl ?_
    refine g_iload_n (nx := 43) hX 3 dX11_sum_42 rfl rfl rfl ?_
    refine g_bipush (nx := 45) hX 43 dX11_sum_43 rfl (by decide) ?_
    refine g_icmp_eq (nx := 48) hX 60 dX11_sum_45 (by decide) rfl (fun h45 => ?_) (fun h45 => ?_)
    · exact absurd h45 g2
    · refine g_iload_n (nx := 49) hX 3 dX11_sum_48 rfl rfl rfl ?_
      refine g_bipush (nx := 51) hX 45 dX11_sum_49 rfl (by decide) ?_
      refine g_icmp_eq (nx := 54) hX 60 dX11_sum_51 (by decide) rfl (fun h51 => ?_) (fun h51 => ?_)
      · exact absurd h51 g3
      · refine g_iload_n (nx := 55) hX 3 dX11_sum_54 rfl rfl rfl ?_
        refine g_bipush (nx := 57) hX 42 dX11_sum_55 rfl (by decide) ?_
        refine g_icmp_ne (nx := 60) hX 130 dX11_sum_57 (by decide) rfl (fun h57 => ?_) (fun h57 => ?_)
        · refine g_iload_n (nx := 131) hX 3 dX11_sum_130 rfl rfl rfl ?_
          refine g_bipush (nx := 133) hX 47 dX11_sum_131 rfl (by decide) ?_
          refine g_icmp_ne (nx := 136) hX 198 dX11_sum_133 (by decide) rfl (fun h133 => ?_) (fun h133 => ?_)
          · refine g_iload_n (nx := 199) hX 3 dX11_sum_198 rfl rfl rfl ?_
            refine g_bipush (nx := 201) hX 41 dX11_sum_199 rfl (by decide) ?_
            refine g_icmp_ne (nx := 204) hX 218 dX11_sum_201 (by decide) rfl (fun h201 => ?_) (fun h201 => ?_)
            · refine g_iload_n (nx := 219) hX 3 dX11_sum_218 rfl rfl rfl ?_
              refine g_bipush (nx := 221) hX 44 dX11_sum_219 rfl (by decide) ?_
              refine g_icmp_ne (nx := 224) hX 240 dX11_sum_221 (by decide) rfl (fun h221 => ?_) (fun h221 => ?_)
              · exact g_ls t240 ⟨rfl, rfl, trivial⟩
              · refine g_aload_n (nx := 225) hX 0 dX11_sum_224 rfl rfl rfl ?_
                refine g_getfield (nx := 228) hX dX11_sum_225 rfl fX11_132 (ga_dn hn rfl) rfl rfl ?_
                refine g_if_le (nx := 231) hX 240 dX11_sum_228 (by decide) rfl (fun h228 => ?_) (fun h228 => ?_)
                · exact g_ls t240 ⟨rfl, rfl, trivial⟩
                · exact absurd (by decide) h228
            · refine g_aload_n (nx := 205) hX 0 dX11_sum_204 rfl rfl rfl ?_
              refine g_getfield (nx := 208) hX dX11_sum_205 rfl fX11_132 (ga_dn hn rfl) rfl rfl ?_
              refine g_if_le (nx := 211) hX 218 dX11_sum_208 (by decide) rfl (fun h208 => ?_) (fun h208 => ?_)
              · refine g_iload_n (nx := 219) hX 3 dX11_sum_218 rfl rfl rfl ?_
                refine g_bipush (nx := 221) hX 44 dX11_sum_219 rfl (by decide) ?_
                refine g_icmp_ne (nx := 224) hX 240 dX11_sum_221 (by decide) rfl (fun h221 => ?_) (fun h221 => ?_)
                · exact g_ls t240 ⟨rfl, rfl, trivial⟩
                · refine g_aload_n (nx := 225) hX 0 dX11_sum_224 rfl rfl rfl ?_
                  refine g_getfield (nx := 228) hX dX11_sum_225 rfl fX11_132 (ga_dn hn rfl) rfl rfl ?_
                  refine g_if_le (nx := 231) hX 240 dX11_sum_228 (by decide) rfl (fun h228 => ?_) (fun h228 => ?_)
                  · exact g_ls t240 ⟨rfl, rfl, trivial⟩
                  · exact absurd (by decide) h228
              · exact absurd (by decide) h208
          · exact absurd h133 g4
        · exact absurd h57 g1
end
