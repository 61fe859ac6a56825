/-! ===== the reference: signs made, numbers read, what is piled ===== -/
def r_sg (C : List (Nat × Nat)) (s : Nat → Int32) : Nat → Int32 := fun i => if i < 2 * C.length then nI (if i % 2 = 0 then e_mop (C.getD (i / 2) (0, 0)) else e_mar (C.getD (i / 2) (0, 0))) else s i
theorem r_sg_add {C : List (Nat × Nat)} {s : Nat → Int32} {x : Nat × Nat} : upd (upd (r_sg C s) (2 * C.length) (nI (e_mop x))) (2 * C.length + 1) (nI (e_mar x)) = r_sg (C ++ [x]) s := by
  funext i
  unfold upd r_sg
  simp only [List.length_append, List.length_cons, List.length_nil]
  by_cases h1 : i = 2 * C.length + 1
  · rw [if_pos h1, if_pos (by omega), if_neg (by omega), h1, show (2 * C.length + 1) / 2 = C.length by omega]
    simp [List.getD]
  · rw [if_neg h1]
    by_cases h2 : i = 2 * C.length
    · rw [if_pos h2, if_pos (by omega), if_pos (by omega), h2, show (2 * C.length) / 2 = C.length by omega]
      simp [List.getD]
    · rw [if_neg h2]
      by_cases h3 : i < 2 * C.length
      · have h4 : i / 2 < C.length := by omega
        rw [if_pos h3, if_pos (show i < 2 * (C.length + 1) by omega)]
        simp [List.getD, List.getElem?_append, h4]
      · rw [if_neg h3, if_neg (by omega)]
/-- what is piled, the last first; the comma of an open one -/
def r_pil : List (Nat × Nat) → (Nat → Int32) → (Nat → Int32) → Prop
  | [], _, _ => True
  | x :: S, pi, cm => pi S.length = nI x.1 ∧ (7 ≤ x.1 → cm S.length = nI x.2) ∧ r_pil S pi cm
theorem r_pl_pi {v : Int32} : ∀ {S : List (Nat × Nat)} {pi cm : Nat → Int32} {k : Nat}, S.length ≤ k → r_pil S pi cm → r_pil S (upd pi k v) cm
  | [], _, _, _, _, _ => trivial
  | x :: S, pi, cm, k, hk, h => ⟨by rw [pk_un (by simp only [List.length_cons] at hk; omega)]; exact h.1, h.2.1, r_pl_pi (by simp only [List.length_cons] at hk; omega) h.2.2⟩
theorem r_pl_cm {v : Int32} : ∀ {S : List (Nat × Nat)} {pi cm : Nat → Int32} {k : Nat}, S.length ≤ k → r_pil S pi cm → r_pil S pi (upd cm k v)
  | [], _, _, _, _, _ => trivial
  | x :: S, pi, cm, k, hk, h => ⟨h.1, fun z => by rw [pk_un (by simp only [List.length_cons] at hk; omega)]; exact h.2.1 z, r_pl_cm (by simp only [List.length_cons] at hk; omega) h.2.2⟩
def r_cd (T : List (Nat × Nat)) : List (Nat × Nat) := T.map (fun x => (x.1 - 1, 0))
section
variable {E : ga_E} {X : ga_X} {n : Nat} {c0 c1 c2 c3 c4 c5 c6 c7 c8 c9 c10 c11 c12 c13 c14 c15 c16 c17 c18 c19 c20 c21 c22 c23 c24 c25 c26 c27 c28 c29 c30 m79 m80 m81 m82 m83 m84 m85 m86 m87 m88 m89 m90 m91 m92 m93 m94 m95 m96 m97 m98 m99 m100 m101 m102 m103 m104 m105 : ga_C} {L1 L2 : List ga_C} {f : Nat → ga_C} {o_tp o_rd o_fe o_em o_sp o_ac o_td o_sm o_tt o_at o_sz o_fk o_fp o_nw o_md o_nt o_pl o_op d_at d_tk d_ta d_fd d_fa : Int32} {d_tv : Int64} {d_rl : Value}
variable {r_at r_fk r_fp r_nt r_pl r_op : Int32} {nw md lt : Nat} {tb ns nb sg na nz pi cm : Nat → Int32}
variable {p q : Nat} {C : List (Nat × Nat)}
theorem c_X11_add {a b : Int32} (hn : 106 ≤ n) (hm : md < 650) : ga_Mx E 0 yX11_add cX11_add 3 none 0 0 [.ref 79, .int a, .int b] (n, L1, ((m_O o_tp o_rd o_fe o_em o_sp o_ac o_td o_sm o_tt (r_at) (nI lt) (r_fk) (r_fp) (nI nw) (nI md) (r_nt) (r_pl) (r_op)) :: ga_i 600 tb :: m81 :: m82 :: m83 :: m84 :: m85 :: m86 :: m87 :: m88 :: m89 :: m90 :: m91 :: m92 :: m93 :: m94 :: m95 :: ga_i 25 (ns) :: ga_i 26 (nb) :: ga_i 1300 (sg) :: ga_i 250 (na) :: ga_i 25 (nz) :: ga_i 40 (pi) :: ga_z 40 (cm) :: L2), f) none (n, L1, ((m_O o_tp o_rd o_fe o_em o_sp o_ac o_td o_sm o_tt (r_at) (nI lt) (r_fk) (r_fp) (nI nw) (nI (md + 1)) (r_nt) (r_pl) (r_op)) :: ga_i 600 tb :: m81 :: m82 :: m83 :: m84 :: m85 :: m86 :: m87 :: m88 :: m89 :: m90 :: m91 :: m92 :: m93 :: m94 :: m95 :: ga_i 25 (ns) :: ga_i 26 (nb) :: ga_i 1300 (upd (upd sg (2 * md) a) (2 * md + 1) b) :: ga_i 250 (na) :: ga_i 25 (nz) :: ga_i 40 (pi) :: ga_z 40 (cm) :: L2), f) := by
  refine ga_Mt.of (by decide) rfl (fun X hX hP => ?_)
  refine g_less [some (.ref 79), some (.int a), some (.int b)] ⟨rfl, rfl, rfl, trivial⟩ ?_
  refine g_aload_n (nx := 1) hX 0 dX11_add_0 rfl rfl rfl ?_
  refine g_getfield (nx := 4) hX dX11_add_1 rfl fX11_113 (ga_dn hn rfl) rfl rfl ?_
  refine g_iconst (nx := 5) hX 2 dX11_add_4 rfl (by decide) ?_
  refine g_aload_n (nx := 6) hX 0 dX11_add_5 rfl rfl rfl ?_
  refine g_getfield (nx := 9) hX dX11_add_6 rfl fX11_101 (ga_dn hn rfl) rfl rfl ?_
  refine g_imul (nx := 10) hX dX11_add_9 rfl ?_
  refine g_iload_n (nx := 11) hX 1 dX11_add_10 rfl rfl rfl ?_
  refine g_iastore (nx := 12) hX dX11_add_11 rfl (ga_dn hn rfl) rfl (ga_ix_of (j := 2 * md) ix_2 (by omega) (by omega)) ?_
  refine g_aload_n (nx := 13) hX 0 dX11_add_12 rfl rfl rfl ?_
  refine g_getfield (nx := 16) hX dX11_add_13 rfl fX11_113 (ga_dn hn rfl) rfl rfl ?_
  refine g_iconst (nx := 17) hX 2 dX11_add_16 rfl (by decide) ?_
  refine g_aload_n (nx := 18) hX 0 dX11_add_17 rfl rfl rfl ?_
  refine g_getfield (nx := 21) hX dX11_add_18 rfl fX11_101 (ga_dn hn rfl) rfl rfl ?_
  refine g_imul (nx := 22) hX dX11_add_21 rfl ?_
  refine g_iconst (nx := 23) hX 1 dX11_add_22 rfl (by decide) ?_
  refine g_iadd (nx := 24) hX dX11_add_23 rfl ?_
  refine g_iload_n (nx := 25) hX 2 dX11_add_24 rfl rfl rfl ?_
  refine g_iastore (nx := 26) hX dX11_add_25 rfl (ga_dn hn rfl) rfl (ga_ix_of (j := 2 * md + 1) ix_21 (by omega) (by omega)) ?_
  refine g_aload_n (nx := 27) hX 0 dX11_add_26 rfl rfl rfl ?_
  refine g_dup (nx := 28) hX dX11_add_27 rfl rfl ?_
  refine g_getfield (nx := 31) hX dX11_add_28 rfl fX11_101 (ga_dn hn rfl) rfl rfl ?_
  refine g_iconst (nx := 32) hX 1 dX11_add_31 rfl (by decide) ?_
  refine g_iadd (nx := 33) hX dX11_add_32 rfl ?_
  rw [nI_1]
  refine g_putfield (nx := 36) hX dX11_add_33 rfl pX11_101 (ga_dn hn rfl) rfl rfl rfl rfl ?_
  exact g_return hX hP dX11_add_36 (Nat.le_of_ble_eq_true rfl) (Nat.le_of_ble_eq_true rfl) ⟨rfl, rfl⟩
theorem m_add {x : Nat × Nat} (hn : 106 ≤ n) (hC : C.length < 650) : ga_Mx E 0 yX11_add cX11_add 3 none 0 0 [.ref 79, .int (nI (e_mop x)), .int (nI (e_mar x))] (n, L1, ((m_O o_tp o_rd o_fe o_em o_sp o_ac o_td o_sm o_tt (r_at) (nI lt) (r_fk) (r_fp) (nI nw) (nI C.length) (r_nt) (r_pl) (r_op)) :: ga_i 600 tb :: m81 :: m82 :: m83 :: m84 :: m85 :: m86 :: m87 :: m88 :: m89 :: m90 :: m91 :: m92 :: m93 :: m94 :: m95 :: ga_i 25 (ns) :: ga_i 26 (nb) :: ga_i 1300 (r_sg C sg) :: ga_i 250 (na) :: ga_i 25 (nz) :: ga_i 40 (pi) :: ga_z 40 (cm) :: L2), f) none (n, L1, ((m_O o_tp o_rd o_fe o_em o_sp o_ac o_td o_sm o_tt (r_at) (nI lt) (r_fk) (r_fp) (nI nw) (nI (C ++ [x]).length) (r_nt) (r_pl) (r_op)) :: ga_i 600 tb :: m81 :: m82 :: m83 :: m84 :: m85 :: m86 :: m87 :: m88 :: m89 :: m90 :: m91 :: m92 :: m93 :: m94 :: m95 :: ga_i 25 (ns) :: ga_i 26 (nb) :: ga_i 1300 (r_sg (C ++ [x]) sg) :: ga_i 250 (na) :: ga_i 25 (nz) :: ga_i 40 (pi) :: ga_z 40 (cm) :: L2), f) := by
  refine ga_Mt.mono ?_ (c_X11_add hn hC)
  rintro r M ⟨rfl, rfl⟩
  exact ⟨rfl, by rw [r_sg_add, List.length_append] <;> rfl⟩
theorem m_must {c : Int32} (hn : 106 ≤ n) (hl : lt ≤ 600) (hp : p ≤ lt) (hq : x_sk tb lt p = q) (h1 : ¬ x_let c) (h2 : ¬ x_dig c) : ga_Mt E 1 yX11_must cX11_must 2 none 0 0 [.ref 79, .int c] (n, L1, ((m_O o_tp o_rd o_fe o_em o_sp o_ac o_td o_sm o_tt (nI p) (nI lt) (0) (-1) (nI nw) (nI md) (r_nt) (r_pl) (r_op)) :: ga_i 600 tb :: m81 :: m82 :: m83 :: m84 :: m85 :: m86 :: m87 :: m88 :: m89 :: m90 :: m91 :: m92 :: m93 :: m94 :: m95 :: ga_i 25 (ns) :: ga_i 26 (nb) :: ga_i 1300 (sg) :: ga_i 250 (na) :: ga_i 25 (nz) :: ga_i 40 (pi) :: ga_z 40 (cm) :: L2), f) (fun r M => r = none ∧ ((¬ x_tk tb lt q = c ∧ M = (n, L1, ((m_O o_tp o_rd o_fe o_em o_sp o_ac o_td o_sm o_tt (nI (q + 1)) (nI lt) (1) (nI q) (nI nw) (nI md) (r_nt) (r_pl) (r_op)) :: ga_i 600 tb :: m81 :: m82 :: m83 :: m84 :: m85 :: m86 :: m87 :: m88 :: m89 :: m90 :: m91 :: m92 :: m93 :: m94 :: m95 :: ga_i 25 (ns) :: ga_i 26 (nb) :: ga_i 1300 (sg) :: ga_i 250 (na) :: ga_i 25 (nz) :: ga_i 40 (pi) :: ga_z 40 (cm) :: L2), f)) ∨ (x_tk tb lt q = c ∧ M = (n, L1, ((m_O o_tp o_rd o_fe o_em o_sp o_ac o_td o_sm o_tt (nI (q + 1)) (nI lt) (0) (-1) (nI nw) (nI md) (r_nt) (r_pl) (r_op)) :: ga_i 600 tb :: m81 :: m82 :: m83 :: m84 :: m85 :: m86 :: m87 :: m88 :: m89 :: m90 :: m91 :: m92 :: m93 :: m94 :: m95 :: ga_i 25 (ns) :: ga_i 26 (nb) :: ga_i 1300 (sg) :: ga_i 250 (na) :: ga_i 25 (nz) :: ga_i 40 (pi) :: ga_z 40 (cm) :: L2), f)))) := by
  subst hq
  refine ga_Mt.of (by decide) rfl (fun X hX hP => ?_)
  refine g_less [some (.ref 79), some (.int c)] ⟨rfl, rfl, trivial⟩ ?_
  refine g_aload_n (nx := 1) hX 0 dX11_must_0 rfl rfl rfl ?_
  refine g_V0 (nx := 4) hX dX11_must_1 rfl mX11_186 yX11_here_ok (c_X11_here hn hl (by omega)) (ga_dn hn rfl) rfl rfl rfl (by decide) rfl (Nat.le_of_ble_eq_true rfl) (Nat.le_of_ble_eq_true rfl) ?_
  rintro _ _ ⟨rfl, rfl⟩
  refine g_iload_n (nx := 5) hX 1 dX11_must_4 rfl rfl rfl ?_
  refine g_icmp_eq (nx := 8) hX 17 dX11_must_5 (by decide) rfl (fun h5 => ?_) (fun h5 => ?_)
  · have h := (x_ct h1 h2).mp h5
    refine g_aload_n (nx := 18) hX 0 dX11_must_17 rfl rfl rfl ?_
    refine g_dup (nx := 19) hX dX11_must_18 rfl rfl ?_
    refine g_getfield (nx := 22) hX dX11_must_19 rfl fX11_86 (ga_dn hn rfl) rfl rfl ?_
    refine g_iconst (nx := 23) hX 1 dX11_must_22 rfl (by decide) ?_
    refine g_iadd (nx := 24) hX dX11_must_23 rfl ?_
    rw [nI_1]
    refine g_putfield (nx := 27) hX dX11_must_24 rfl pX11_86 (ga_dn hn rfl) rfl rfl rfl rfl ?_
    exact g_return hX hP dX11_must_27 (Nat.le_of_ble_eq_true rfl) (Nat.le_of_ble_eq_true rfl) ⟨rfl, Or.inr ⟨h, rfl⟩⟩
  · have h : ¬ x_tk tb lt (x_sk tb lt p) = c := fun z => h5 ((x_ct h1 h2).mpr z)
    refine g_aload_n (nx := 9) hX 0 dX11_must_8 rfl rfl rfl ?_
    refine g_iconst (nx := 10) hX 1 dX11_must_9 rfl (by decide) ?_
    refine g_aload_n (nx := 11) hX 0 dX11_must_10 rfl rfl rfl ?_
    refine g_getfield (nx := 14) hX dX11_must_11 rfl fX11_86 (ga_dn hn rfl) rfl rfl ?_
    refine g_V2 (nx := 17) hX dX11_must_14 rfl mX11_189 yX11_blame_ok (m_blame hn) (ga_dn hn rfl) rfl rfl rfl (by decide) rfl (Nat.le_of_ble_eq_true rfl) (Nat.le_of_ble_eq_true rfl) ?_
    rintro _ _ ⟨rfl, rfl⟩
    refine g_aload_n (nx := 18) hX 0 dX11_must_17 rfl rfl rfl ?_
    refine g_dup (nx := 19) hX dX11_must_18 rfl rfl ?_
    refine g_getfield (nx := 22) hX dX11_must_19 rfl fX11_86 (ga_dn hn rfl) rfl rfl ?_
    refine g_iconst (nx := 23) hX 1 dX11_must_22 rfl (by decide) ?_
    refine g_iadd (nx := 24) hX dX11_must_23 rfl ?_
    rw [nI_1]
    refine g_putfield (nx := 27) hX dX11_must_24 rfl pX11_86 (ga_dn hn rfl) rfl rfl rfl rfl ?_
    exact g_return hX hP dX11_must_27 (Nat.le_of_ble_eq_true rfl) (Nat.le_of_ble_eq_true rfl) ⟨rfl, Or.inl ⟨h, rfl⟩⟩
theorem m_digits (hn : 106 ≤ n) (hl : lt ≤ 600) (hp : p ≤ lt) (hq : x_sk tb lt p = q) : ga_Mt E 1 yX11_digits cX11_digits 3 (some .int) 0 0 [.ref 79] (n, L1, ((m_O o_tp o_rd o_fe o_em o_sp o_ac o_td o_sm o_tt (nI p) (nI lt) (0) (-1) (nI nw) (nI md) (r_nt) (r_pl) (r_op)) :: ga_i 600 tb :: m81 :: m82 :: m83 :: m84 :: m85 :: m86 :: m87 :: m88 :: m89 :: m90 :: m91 :: m92 :: m93 :: m94 :: m95 :: ga_i 25 (ns) :: ga_i 26 (nb) :: ga_i 1300 (sg) :: ga_i 250 (na) :: ga_i 25 (nz) :: ga_i 40 (pi) :: ga_z 40 (cm) :: L2), f) (fun r M => (¬ x_tk tb lt q = 48 ∧ r = some (.int 0) ∧ M = (n, L1, ((m_O o_tp o_rd o_fe o_em o_sp o_ac o_td o_sm o_tt (nI q) (nI lt) (1) (nI q) (nI nw) (nI md) (r_nt) (r_pl) (r_op)) :: ga_i 600 tb :: m81 :: m82 :: m83 :: m84 :: m85 :: m86 :: m87 :: m88 :: m89 :: m90 :: m91 :: m92 :: m93 :: m94 :: m95 :: ga_i 25 (ns) :: ga_i 26 (nb) :: ga_i 1300 (sg) :: ga_i 250 (na) :: ga_i 25 (nz) :: ga_i 40 (pi) :: ga_z 40 (cm) :: L2), f)) ∨ (x_tk tb lt q = 48 ∧ 5 < x_te tb lt q - q ∧ (∃ v, r = some (.int v)) ∧ M = (n, L1, ((m_O o_tp o_rd o_fe o_em o_sp o_ac o_td o_sm o_tt (nI (q + 6)) (nI lt) (1) (nI (q + 5)) (nI nw) (nI md) (r_nt) (r_pl) (r_op)) :: ga_i 600 tb :: m81 :: m82 :: m83 :: m84 :: m85 :: m86 :: m87 :: m88 :: m89 :: m90 :: m91 :: m92 :: m93 :: m94 :: m95 :: ga_i 25 (ns) :: ga_i 26 (nb) :: ga_i 1300 (sg) :: ga_i 250 (na) :: ga_i 25 (nz) :: ga_i 40 (pi) :: ga_z 40 (cm) :: L2), f)) ∨ (x_tk tb lt q = 48 ∧ ¬ 5 < x_te tb lt q - q ∧ r = some (.int (nI (x_num tb lt q))) ∧ M = (n, L1, ((m_O o_tp o_rd o_fe o_em o_sp o_ac o_td o_sm o_tt (nI (x_te tb lt q)) (nI lt) (0) (-1) (nI nw) (nI md) (r_nt) (r_pl) (r_op)) :: ga_i 600 tb :: m81 :: m82 :: m83 :: m84 :: m85 :: m86 :: m87 :: m88 :: m89 :: m90 :: m91 :: m92 :: m93 :: m94 :: m95 :: ga_i 25 (ns) :: ga_i 26 (nb) :: ga_i 1300 (sg) :: ga_i 250 (na) :: ga_i 25 (nz) :: ga_i 40 (pi) :: ga_z 40 (cm) :: L2), f))) := by
  subst hq
  have hql := (x_sk_le (tb := tb) hp).2
  generalize hq0 : x_sk tb lt p = q at *
  refine ga_Mt.of (by decide) rfl (fun X hX hP => ?_)
  refine g_less [some (.ref 79), none, none] ⟨rfl, trivial⟩ ?_
  have ex : ∀ (v w : Int32), x_tk tb lt q = 48 → 5 < x_te tb lt q - q → q + 5 < lt → ga_G E X 0 0 25 [some (.ref 79), some (.int v), some (.int w)] [] (n, L1, ((m_O o_tp o_rd o_fe o_em o_sp o_ac o_td o_sm o_tt (nI (q + 6)) (nI lt) (1) (nI (q + 5)) (nI nw) (nI md) (r_nt) (r_pl) (r_op)) :: ga_i 600 tb :: m81 :: m82 :: m83 :: m84 :: m85 :: m86 :: m87 :: m88 :: m89 :: m90 :: m91 :: m92 :: m93 :: m94 :: m95 :: ga_i 25 (ns) :: ga_i 26 (nb) :: ga_i 1300 (sg) :: ga_i 250 (na) :: ga_i 25 (nz) :: ga_i 40 (pi) :: ga_z 40 (cm) :: L2), f) := by
    intro v w hD h5 hlt
    refine g_aload_n (nx := 26) hX 0 dX11_digits_25 rfl rfl rfl ?_
    refine g_getfield (nx := 29) hX dX11_digits_26 rfl fX11_86 (ga_dn hn rfl) rfl rfl ?_
    refine g_aload_n (nx := 30) hX 0 dX11_digits_29 rfl rfl rfl ?_
    refine g_getfield (nx := 33) hX dX11_digits_30 rfl fX11_89 (ga_dn hn rfl) rfl rfl ?_
    refine g_icmp_ge (nx := 36) hX 106 dX11_digits_33 (by decide) rfl (fun h33 => ?_) (fun h33 => ?_)
    · refine g_iload_n (nx := 107) hX 1 dX11_digits_106 rfl rfl rfl ?_
      exact g_ireturn hX hP dX11_digits_107 rfl (Nat.le_of_ble_eq_true rfl) (Nat.le_of_ble_eq_true rfl) (Or.inr (Or.inl ⟨hD, h5, ⟨_, rfl⟩, rfl⟩))
    · have hlt2 : q + 6 < lt := Nat.lt_of_not_le (fun z => h33 (nI_le z (by omega)))
      refine g_aload_n (nx := 37) hX 0 dX11_digits_36 rfl rfl rfl ?_
      refine g_getfield (nx := 40) hX dX11_digits_37 rfl fX11_7 (ga_dn hn rfl) rfl rfl ?_
      refine g_aload_n (nx := 41) hX 0 dX11_digits_40 rfl rfl rfl ?_
      refine g_getfield (nx := 44) hX dX11_digits_41 rfl fX11_86 (ga_dn hn rfl) rfl rfl ?_
      refine g_iaload (nx := 45) hX dX11_digits_44 rfl (ga_dn hn rfl) rfl (ga_ix_of (j := q + 6) rfl (by omega) (by omega)) ?_
      refine g_S1 (nx := 48) hX dX11_digits_45 rfl mX11_241 yX11_isDigit_ok (c_X11_isDigit) (by decide) rfl (Nat.le_of_ble_eq_true rfl) (Nat.le_of_ble_eq_true rfl) ?_
      rintro _ _ ⟨rfl, rfl⟩
      refine g_if_eq (nx := 51) hX 106 dX11_digits_48 (by decide) rfl (fun h48 => ?_) (fun h48 => ?_)
      · refine g_iload_n (nx := 107) hX 1 dX11_digits_106 rfl rfl rfl ?_
        exact g_ireturn hX hP dX11_digits_107 rfl (Nat.le_of_ble_eq_true rfl) (Nat.le_of_ble_eq_true rfl) (Or.inr (Or.inl ⟨hD, h5, ⟨_, rfl⟩, rfl⟩))
      · refine g_aload_n (nx := 52) hX 0 dX11_digits_51 rfl rfl rfl ?_
        refine g_getfield (nx := 55) hX dX11_digits_52 rfl fX11_92 (ga_dn hn rfl) rfl rfl ?_
        refine g_if_ne (nx := 58) hX 106 dX11_digits_55 (by decide) rfl (fun h55 => ?_) (fun h55 => ?_)
        · refine g_iload_n (nx := 107) hX 1 dX11_digits_106 rfl rfl rfl ?_
          exact g_ireturn hX hP dX11_digits_107 rfl (Nat.le_of_ble_eq_true rfl) (Nat.le_of_ble_eq_true rfl) (Or.inr (Or.inl ⟨hD, h5, ⟨_, rfl⟩, rfl⟩))
        · exact absurd h55 (by decide)
  have loop : x_tk tb lt q = 48 → x_te tb lt q = x_de tb lt q → ∀ (j i : Nat), i ≤ 5 → q + i ≤ x_de tb lt q → x_de tb lt q - (q + i) = j → ga_G E X 0 0 25 [some (.ref 79), some (.int (nI (x_dN tb q i))), some (.int (nI i))] [] (n, L1, ((m_O o_tp o_rd o_fe o_em o_sp o_ac o_td o_sm o_tt (nI (q + i)) (nI lt) (0) (-1) (nI nw) (nI md) (r_nt) (r_pl) (r_op)) :: ga_i 600 tb :: m81 :: m82 :: m83 :: m84 :: m85 :: m86 :: m87 :: m88 :: m89 :: m90 :: m91 :: m92 :: m93 :: m94 :: m95 :: ga_i 25 (ns) :: ga_i 26 (nb) :: ga_i 1300 (sg) :: ga_i 250 (na) :: ga_i 25 (nz) :: ga_i 40 (pi) :: ga_z 40 (cm) :: L2), f) := by
    intro hD ete j
    have hw := x_de_le (tb := tb) hql
    induction j with
    | zero =>
      intro i hi h1 h2
      have hk : q + i = x_de tb lt q := by omega
      have hno : q + i < lt → ¬ x_dig (tb (q + i)) := fun z => by
        have := x_end_at (fun i => decide (x_dig (tb i))) (lt - q) q (by show x_de tb lt q < _; omega)
        rw [show x_end (fun i => decide (x_dig (tb i))) (lt - q) q = q + i from hk.symm] at this
        exact of_decide_eq_false this
      have e6 : x_num tb lt q = x_dN tb q i := by unfold x_num; rw [ete, ← hk, show q + i - q = i by omega]
      refine g_aload_n (nx := 26) hX 0 dX11_digits_25 rfl rfl rfl ?_
      refine g_getfield (nx := 29) hX dX11_digits_26 rfl fX11_86 (ga_dn hn rfl) rfl rfl ?_
      refine g_aload_n (nx := 30) hX 0 dX11_digits_29 rfl rfl rfl ?_
      refine g_getfield (nx := 33) hX dX11_digits_30 rfl fX11_89 (ga_dn hn rfl) rfl rfl ?_
      refine g_icmp_ge (nx := 36) hX 106 dX11_digits_33 (by decide) rfl (fun h33 => ?_) (fun h33 => ?_)
      · refine g_iload_n (nx := 107) hX 1 dX11_digits_106 rfl rfl rfl ?_
        exact g_ireturn hX hP dX11_digits_107 rfl (Nat.le_of_ble_eq_true rfl) (Nat.le_of_ble_eq_true rfl) (Or.inr (Or.inr ⟨hD, by omega, by rw [e6], by rw [ete, hk] <;> rfl⟩))
      · have hlt2 : q + i < lt := Nat.lt_of_not_le (fun z => h33 (nI_le z (by omega)))
        refine g_aload_n (nx := 37) hX 0 dX11_digits_36 rfl rfl rfl ?_
        refine g_getfield (nx := 40) hX dX11_digits_37 rfl fX11_7 (ga_dn hn rfl) rfl rfl ?_
        refine g_aload_n (nx := 41) hX 0 dX11_digits_40 rfl rfl rfl ?_
        refine g_getfield (nx := 44) hX dX11_digits_41 rfl fX11_86 (ga_dn hn rfl) rfl rfl ?_
        refine g_iaload (nx := 45) hX dX11_digits_44 rfl (ga_dn hn rfl) rfl (ga_ix_of (j := q + i) rfl (by omega) (by omega)) ?_
        refine g_S1 (nx := 48) hX dX11_digits_45 rfl mX11_241 yX11_isDigit_ok (c_X11_isDigit) (by decide) rfl (Nat.le_of_ble_eq_true rfl) (Nat.le_of_ble_eq_true rfl) ?_
        rintro _ _ ⟨rfl, rfl⟩
        refine g_if_eq (nx := 51) hX 106 dX11_digits_48 (by decide) rfl (fun h48 => ?_) (fun h48 => ?_)
        · refine g_iload_n (nx := 107) hX 1 dX11_digits_106 rfl rfl rfl ?_
          exact g_ireturn hX hP dX11_digits_107 rfl (Nat.le_of_ble_eq_true rfl) (Nat.le_of_ble_eq_true rfl) (Or.inr (Or.inr ⟨hD, by omega, by rw [e6], by rw [ete, hk] <;> rfl⟩))
        · exact absurd (ga_b_n0 h48) (hno hlt2)
    | succ j ih =>
      intro i hi h1 h2
      have hlt2 : q + i < lt := by omega
      have hyes : x_dig (tb (q + i)) := of_decide_eq_true (x_end_in (fun i => decide (x_dig (tb i))) (lt - q) q (q + i) (by omega) (by show q + i < x_de tb lt q; omega))
      refine g_aload_n (nx := 26) hX 0 dX11_digits_25 rfl rfl rfl ?_
      refine g_getfield (nx := 29) hX dX11_digits_26 rfl fX11_86 (ga_dn hn rfl) rfl rfl ?_
      refine g_aload_n (nx := 30) hX 0 dX11_digits_29 rfl rfl rfl ?_
      refine g_getfield (nx := 33) hX dX11_digits_30 rfl fX11_89 (ga_dn hn rfl) rfl rfl ?_
      refine g_icmp_ge (nx := 36) hX 106 dX11_digits_33 (by decide) rfl (fun h33 => ?_) (fun h33 => ?_)
      · exact absurd ((nI_leI (by omega) (by omega)).mp h33) (by omega)
      · refine g_aload_n (nx := 37) hX 0 dX11_digits_36 rfl rfl rfl ?_
        refine g_getfield (nx := 40) hX dX11_digits_37 rfl fX11_7 (ga_dn hn rfl) rfl rfl ?_
        refine g_aload_n (nx := 41) hX 0 dX11_digits_40 rfl rfl rfl ?_
        refine g_getfield (nx := 44) hX dX11_digits_41 rfl fX11_86 (ga_dn hn rfl) rfl rfl ?_
        refine g_iaload (nx := 45) hX dX11_digits_44 rfl (ga_dn hn rfl) rfl (ga_ix_of (j := q + i) rfl (by omega) (by omega)) ?_
        refine g_S1 (nx := 48) hX dX11_digits_45 rfl mX11_241 yX11_isDigit_ok (c_X11_isDigit) (by decide) rfl (Nat.le_of_ble_eq_true rfl) (Nat.le_of_ble_eq_true rfl) ?_
        rintro _ _ ⟨rfl, rfl⟩
        refine g_if_eq (nx := 51) hX 106 dX11_digits_48 (by decide) rfl (fun h48 => ?_) (fun h48 => ?_)
        · exact absurd hyes (ga_b_0 h48)
        · refine g_aload_n (nx := 52) hX 0 dX11_digits_51 rfl rfl rfl ?_
          refine g_getfield (nx := 55) hX dX11_digits_52 rfl fX11_92 (ga_dn hn rfl) rfl rfl ?_
          refine g_if_ne (nx := 58) hX 106 dX11_digits_55 (by decide) rfl (fun h55 => ?_) (fun h55 => ?_)
          · exact absurd rfl h55
          · refine g_iload_n (nx := 59) hX 2 dX11_digits_58 rfl rfl rfl ?_
            refine g_iconst (nx := 60) hX 5 dX11_digits_59 rfl (by decide) ?_
            refine g_icmp_ne (nx := 63) hX 72 dX11_digits_60 (by decide) rfl (fun h60 => ?_) (fun h60 => ?_)
            · have hi5 : i < 5 := Nat.lt_of_le_of_ne hi (fun z => h60 (by rw [z]; rfl))
              have ih1 := ih (i + 1) (by omega) (by omega) (by omega)
              obtain ⟨c9, c1, c2, c3⟩ := x_d9 hyes
              have e7 : (10 : Int32) * nI (x_dN tb q i) + tb (q + i) - 48 = nI (x_dN tb q (i + 1)) := by
                rw [c3, show (10 : Int32) * nI (x_dN tb q i) = nI (10 * x_dN tb q i) from pk_mul 10 _, nI_add]
                have := pk_sub (a := 10 * x_dN tb q i + c9) (b := 48) (by omega)
                rw [x_dN, c3, nI_clamp (by omega), show x_dN tb q i * 10 + (c9 - 48) = 10 * x_dN tb q i + c9 - 48 by omega, ← this]
                rfl
              refine g_bipush (nx := 74) hX 10 dX11_digits_72 rfl (by decide) ?_
              refine g_iload_n (nx := 75) hX 1 dX11_digits_74 rfl rfl rfl ?_
              refine g_imul (nx := 76) hX dX11_digits_75 rfl ?_
              refine g_aload_n (nx := 77) hX 0 dX11_digits_76 rfl rfl rfl ?_
              refine g_getfield (nx := 80) hX dX11_digits_77 rfl fX11_7 (ga_dn hn rfl) rfl rfl ?_
              refine g_aload_n (nx := 81) hX 0 dX11_digits_80 rfl rfl rfl ?_
              refine g_getfield (nx := 84) hX dX11_digits_81 rfl fX11_86 (ga_dn hn rfl) rfl rfl ?_
              refine g_iaload (nx := 85) hX dX11_digits_84 rfl (ga_dn hn rfl) rfl (ga_ix_of (j := q + i) rfl (by omega) (by omega)) ?_
              refine g_iadd (nx := 86) hX dX11_digits_85 rfl ?_
              refine g_bipush (nx := 88) hX 48 dX11_digits_86 rfl (by decide) ?_
              refine g_isub (nx := 89) hX dX11_digits_88 rfl ?_
              rw [e7]
              refine g_istore_n (nx := 90) hX 1 dX11_digits_89 rfl rfl rfl ?_
              refine g_aload_n (nx := 91) hX 0 dX11_digits_90 rfl rfl rfl ?_
              refine g_dup (nx := 92) hX dX11_digits_91 rfl rfl ?_
              refine g_getfield (nx := 95) hX dX11_digits_92 rfl fX11_86 (ga_dn hn rfl) rfl rfl ?_
              refine g_iconst (nx := 96) hX 1 dX11_digits_95 rfl (by decide) ?_
              refine g_iadd (nx := 97) hX dX11_digits_96 rfl ?_
              rw [nI_1]
              refine g_putfield (nx := 100) hX dX11_digits_97 rfl pX11_86 (ga_dn hn rfl) rfl rfl rfl rfl ?_
              refine g_iinc (nx := 103) hX 2 (nI (i + 1)) dX11_digits_100 rfl rfl rfl (nI_1 i) ?_
              refine g_goto (nx := 25) hX dX11_digits_103 (by decide) ?_
              exact ih1
            · have e5 : i = 5 := nI_inj (b := 5) h60 (by omega) (by omega)
              subst e5
              refine g_aload_n (nx := 64) hX 0 dX11_digits_63 rfl rfl rfl ?_
              refine g_iconst (nx := 65) hX 1 dX11_digits_64 rfl (by decide) ?_
              refine g_aload_n (nx := 66) hX 0 dX11_digits_65 rfl rfl rfl ?_
              refine g_getfield (nx := 69) hX dX11_digits_66 rfl fX11_86 (ga_dn hn rfl) rfl rfl ?_
              refine g_V2 (nx := 72) hX dX11_digits_69 rfl mX11_189 yX11_blame_ok (m_blame hn) (ga_dn hn rfl) rfl rfl rfl (by decide) rfl (Nat.le_of_ble_eq_true rfl) (Nat.le_of_ble_eq_true rfl) ?_
              rintro _ _ ⟨rfl, rfl⟩
              refine g_bipush (nx := 74) hX 10 dX11_digits_72 rfl (by decide) ?_
              refine g_iload_n (nx := 75) hX 1 dX11_digits_74 rfl rfl rfl ?_
              refine g_imul (nx := 76) hX dX11_digits_75 rfl ?_
              refine g_aload_n (nx := 77) hX 0 dX11_digits_76 rfl rfl rfl ?_
              refine g_getfield (nx := 80) hX dX11_digits_77 rfl fX11_7 (ga_dn hn rfl) rfl rfl ?_
              refine g_aload_n (nx := 81) hX 0 dX11_digits_80 rfl rfl rfl ?_
              refine g_getfield (nx := 84) hX dX11_digits_81 rfl fX11_86 (ga_dn hn rfl) rfl rfl ?_
              refine g_iaload (nx := 85) hX dX11_digits_84 rfl (ga_dn hn rfl) rfl (ga_ix_of (j := q + 5) rfl (by omega) (by omega)) ?_
              refine g_iadd (nx := 86) hX dX11_digits_85 rfl ?_
              refine g_bipush (nx := 88) hX 48 dX11_digits_86 rfl (by decide) ?_
              refine g_isub (nx := 89) hX dX11_digits_88 rfl ?_
              refine g_istore_n (nx := 90) hX 1 dX11_digits_89 rfl rfl rfl ?_
              refine g_aload_n (nx := 91) hX 0 dX11_digits_90 rfl rfl rfl ?_
              refine g_dup (nx := 92) hX dX11_digits_91 rfl rfl ?_
              refine g_getfield (nx := 95) hX dX11_digits_92 rfl fX11_86 (ga_dn hn rfl) rfl rfl ?_
              refine g_iconst (nx := 96) hX 1 dX11_digits_95 rfl (by decide) ?_
              refine g_iadd (nx := 97) hX dX11_digits_96 rfl ?_
              rw [nI_1]
              refine g_putfield (nx := 100) hX dX11_digits_97 rfl pX11_86 (ga_dn hn rfl) rfl rfl rfl rfl ?_
              refine g_iinc (nx := 103) hX 2 (nI (5 + 1)) dX11_digits_100 rfl rfl rfl (nI_1 5) ?_
              refine g_goto (nx := 25) hX dX11_digits_103 (by decide) ?_
              exact ex _ _ hD (by omega) hlt2
  refine g_aload_n (nx := 1) hX 0 dX11_digits_0 rfl rfl rfl ?_
  refine g_V0 (nx := 4) hX dX11_digits_1 rfl mX11_186 yX11_here_ok (c_X11_here hn hl (by omega)) (ga_dn hn rfl) rfl rfl rfl (by decide) rfl (Nat.le_of_ble_eq_true rfl) (Nat.le_of_ble_eq_true rfl) ?_
  rintro _ _ ⟨rfl, rfl⟩
  rw [hq0]
  refine g_S1 (nx := 7) hX dX11_digits_4 rfl mX11_241 yX11_isDigit_ok (c_X11_isDigit) (by decide) rfl (Nat.le_of_ble_eq_true rfl) (Nat.le_of_ble_eq_true rfl) ?_
  rintro _ _ ⟨rfl, rfl⟩
  refine g_if_ne (nx := 10) hX 21 dX11_digits_7 (by decide) rfl (fun h7 => ?_) (fun h7 => ?_)
  · have hd : x_tk tb lt q = 48 := x_cd.mp (ga_b_n0 h7)
    refine g_iconst (nx := 22) hX 0 dX11_digits_21 rfl (by decide) ?_
    refine g_istore_n (nx := 23) hX 1 dX11_digits_22 rfl rfl rfl ?_
    refine g_iconst (nx := 24) hX 0 dX11_digits_23 rfl (by decide) ?_
    refine g_istore_n (nx := 25) hX 2 dX11_digits_24 rfl rfl rfl ?_
    have g := x_tk_dig hd
    exact loop hd (by unfold x_te; rw [if_pos g.1, if_neg g.2.1, if_pos g.2.2]) _ 0 (by omega) (x_de_le hql).1 rfl
  · have hd : ¬ x_tk tb lt q = 48 := fun z => ga_b_0 h7 (x_cd.mpr z)
    refine g_aload_n (nx := 11) hX 0 dX11_digits_10 rfl rfl rfl ?_
    refine g_iconst (nx := 12) hX 1 dX11_digits_11 rfl (by decide) ?_
    refine g_aload_n (nx := 13) hX 0 dX11_digits_12 rfl rfl rfl ?_
    refine g_getfield (nx := 16) hX dX11_digits_13 rfl fX11_86 (ga_dn hn rfl) rfl rfl ?_
    refine g_V2 (nx := 19) hX dX11_digits_16 rfl mX11_189 yX11_blame_ok (m_blame hn) (ga_dn hn rfl) rfl rfl rfl (by decide) rfl (Nat.le_of_ble_eq_true rfl) (Nat.le_of_ble_eq_true rfl) ?_
    rintro _ _ ⟨rfl, rfl⟩
    refine g_iconst (nx := 20) hX 0 dX11_digits_19 rfl (by decide) ?_
    exact g_ireturn hX hP dX11_digits_20 rfl (Nat.le_of_ble_eq_true rfl) (Nat.le_of_ble_eq_true rfl) (Or.inl ⟨hd, rfl, rfl⟩)
end
