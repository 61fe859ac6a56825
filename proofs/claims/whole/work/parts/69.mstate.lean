/-! ===== the reference: a statement, branch by branch ===== -/
section
variable {tb : Nat → Int32} {nm : Nat → Int64} {nw : Nat} {ns nz na : Nat → Int32}
theorem r_nm_up {s z : Int32} {na' : Nat → Int32} (h : r_nm tb nm nw ns nz na) (ha : ∀ i, i < 10 * nw → na' i = na i) : r_nm tb nm nw (upd ns nw s) (upd nz nw z) na' := by
  refine ⟨h.1, fun k hk => ?_, h.2.2⟩
  rw [pk_un (show k ≠ nw by omega), pk_un (show k ≠ nw by omega)]
  rcases h.2.1 k hk with ⟨a, q, m, b1, b2, b3, b4, b5⟩ | ⟨a, b⟩
  · exact Or.inl ⟨a, q, m, b1, b2, b3, fun i hi => ⟨(b4 i hi).1, by rw [ha _ (by omega)]; exact (b4 i hi).2⟩, b5⟩
  · exact Or.inr ⟨a, b⟩
theorem r_nm_s {s : Int32} (h : r_nm tb nm nw ns nz na) : r_nm tb nm nw (upd ns nw s) nz na := by
  refine ⟨h.1, fun k hk => ?_, h.2.2⟩
  rw [pk_un (show k ≠ nw by omega)]
  exact h.2.1 k hk
theorem r_nm_n {s : Int32} (h : r_nm tb nm nw ns nz na) (h24 : nw < 24) (hs : ¬ s = 0) : r_nm tb nm (nw + 1) (upd ns nw s) nz na := by
  refine ⟨h.1, fun k hk => ?_, fun k h1 h2 => h.2.2 k (by omega) h2⟩
  by_cases e : k = nw
  · subst e
    exact Or.inr ⟨by rw [show upd ns k s k = s from if_pos rfl]; exact hs, h.2.2 k (Nat.le_refl k) h24⟩
  · rw [pk_un e]
    exact h.2.1 k (by omega)
theorem r_nm_g {q m : Nat} {na' : Nat → Int32} (h : r_nm tb nm nw ns nz na) (h24 : nw < 24) (h1 : 1 ≤ m) (h10 : m ≤ 10) (hl : ∀ i, i < m → x_let (tb (q + i))) (ha : ∀ i, i < 10 * nw → na' i = na i) (hb : ∀ i, i < m → na' (10 * nw + i) = tb (q + i)) : r_nm tb (vp_updL nm (15 + nw) (x_wv tb q m)) (nw + 1) (upd ns nw 0) (upd nz nw (nI m)) na' := by
  have hu : ∀ j, ¬ j = 15 + nw → vp_updL nm (15 + nw) (x_wv tb q m) j = nm j := fun j hj => by unfold vp_updL; rw [if_neg hj]
  refine ⟨fun j hj => by rw [hu j (by omega)]; exact h.1 j hj, fun k hk => ?_, fun k g1 g2 => by rw [hu _ (by omega)]; exact h.2.2 k (by omega) g2⟩
  by_cases e : k = nw
  · subst e
    exact Or.inl ⟨if_pos rfl, q, m, h1, h10, if_pos rfl, fun i hi => ⟨hl i hi, hb i hi⟩, by unfold vp_updL; rw [if_pos rfl]⟩
  · have := (r_nm_up (s := 0) (z := nI m) h ha).2.1 k (by omega)
    rw [hu _ (by omega)]
    exact this
end
section
variable {E : ga_E} {X : ga_X} {n : Nat} {c0 c1 c2 c3 c4 c5 c6 c7 c8 c9 c10 c11 c12 c13 c14 c15 c16 c17 c18 c19 c20 c21 c22 c23 c24 c25 c26 c27 c28 c29 c30 m79 m80 m81 m82 m83 m84 m85 m86 m87 m88 m89 m90 m91 m92 m93 m94 m95 m96 m97 m98 m99 m100 m101 m102 m103 m104 m105 : ga_C} {L1 L2 : List ga_C} {f : Nat → ga_C} {o_tp o_rd o_fe o_em o_sp o_ac o_td o_sm o_tt o_at o_sz o_fk o_fp o_nw o_md o_nt o_pl o_op d_at d_tk d_ta d_fd d_fa : Int32} {d_tv : Int64} {d_rl : Value}
variable {r_at r_fk r_fp r_nt r_pl r_op : Int32} {nw md lt : Nat} {tb ns nb sg na nz pi cm : Nat → Int32}
variable {p q d k pl m : Nat} {C : List (Nat × Nat)} {nm : Nat → Int64} {Post : Option Value → ga_M → Prop}
theorem e_427 (hX : ga_B E d yX11_statement cX11_statement 5 0 0 X) (hP : ga_P E none 0 0 Post X) (hd : 4 ≤ d) (hn : 106 ≤ n) (hk : 1 ≤ k ∧ k ≤ 4) (hp : p ≤ 700) (hI : ∀ M, (∃ p pl_ op_ nw md r_nt sg pi cm ns nb na nz, p ≤ 700 ∧ M = (n, L1, ((m_O o_tp o_rd o_fe o_em o_sp o_ac o_td o_sm o_tt (nI p) (nI lt) (nI (k)) (nI (pl)) (nI nw) (nI md) (r_nt) (pl_) (op_)) :: ga_i 600 tb :: m81 :: m82 :: m83 :: m84 :: m85 :: m86 :: m87 :: m88 :: m89 :: m90 :: m91 :: m92 :: m93 :: m94 :: m95 :: ga_i 25 (ns) :: ga_i 26 (nb) :: ga_i 1300 (sg) :: ga_i 250 (na) :: ga_i 25 (nz) :: ga_i 40 (pi) :: ga_z 40 (cm) :: L2), f)) → Post none M) : ga_G E X 0 0 427 [some (.ref 79), none, none, none, none] [] (n, L1, ((m_O o_tp o_rd o_fe o_em o_sp o_ac o_td o_sm o_tt (nI p) (nI lt) (nI k) (nI pl) (nI nw) (nI md) (r_nt) (r_pl) (r_op)) :: ga_i 600 tb :: m81 :: m82 :: m83 :: m84 :: m85 :: m86 :: m87 :: m88 :: m89 :: m90 :: m91 :: m92 :: m93 :: m94 :: m95 :: ga_i 25 (ns) :: ga_i 26 (nb) :: ga_i 1300 (sg) :: ga_i 250 (na) :: ga_i 25 (nz) :: ga_i 40 (pi) :: ga_z 40 (cm) :: L2), f) := by
  have hk0 : ¬ nI k = 0 := fun z => absurd (nI_inj (b := 0) z (by omega) (by omega)) (by omega)
  refine g_aload_n (nx := 428) hX 0 dX11_statement_427 rfl rfl rfl ?_
  refine g_getfield (nx := 431) hX dX11_statement_428 rfl fX11_92 (ga_dn hn rfl) rfl rfl ?_
  refine g_if_ne (nx := 434) hX 440 dX11_statement_431 (by decide) rfl (fun h431 => ?_) (fun h431 => ?_)
  · refine g_aload_n (nx := 441) hX 0 dX11_statement_440 rfl rfl rfl ?_
    refine g_dup (nx := 442) hX dX11_statement_441 rfl rfl ?_
    refine g_getfield (nx := 445) hX dX11_statement_442 rfl fX11_98 (ga_dn hn rfl) rfl rfl ?_
    refine g_iconst (nx := 446) hX 1 dX11_statement_445 rfl (by decide) ?_
    refine g_iadd (nx := 447) hX dX11_statement_446 rfl ?_
    rw [nI_1]
    refine g_putfield (nx := 450) hX dX11_statement_447 rfl pX11_98 (ga_dn hn rfl) rfl rfl rfl rfl ?_
    exact g_return hX hP dX11_statement_450 (Nat.le_of_ble_eq_true rfl) (Nat.le_of_ble_eq_true rfl) (hI _ ⟨p, _, _, nw + 1, md, _, _, _, _, _, _, _, _, hp, rfl⟩)
  · exact absurd h431 hk0
theorem e_77 (hX : ga_B E d yX11_statement cX11_statement 5 0 0 X) (hP : ga_P E none 0 0 Post X) (hd : 4 ≤ d) (hn : 106 ≤ n) (hk : 1 ≤ k ∧ k ≤ 4) (hp : p ≤ 700) (hI : ∀ M, (∃ p pl_ op_ nw md r_nt sg pi cm ns nb na nz, p ≤ 700 ∧ M = (n, L1, ((m_O o_tp o_rd o_fe o_em o_sp o_ac o_td o_sm o_tt (nI p) (nI lt) (nI (k)) (nI (pl)) (nI nw) (nI md) (r_nt) (pl_) (op_)) :: ga_i 600 tb :: m81 :: m82 :: m83 :: m84 :: m85 :: m86 :: m87 :: m88 :: m89 :: m90 :: m91 :: m92 :: m93 :: m94 :: m95 :: ga_i 25 (ns) :: ga_i 26 (nb) :: ga_i 1300 (sg) :: ga_i 250 (na) :: ga_i 25 (nz) :: ga_i 40 (pi) :: ga_z 40 (cm) :: L2), f)) → Post none M) : ga_G E X 0 0 77 [some (.ref 79), none, none, none, none] [] (n, L1, ((m_O o_tp o_rd o_fe o_em o_sp o_ac o_td o_sm o_tt (nI p) (nI lt) (nI k) (nI pl) (nI nw) (nI md) (r_nt) (r_pl) (r_op)) :: ga_i 600 tb :: m81 :: m82 :: m83 :: m84 :: m85 :: m86 :: m87 :: m88 :: m89 :: m90 :: m91 :: m92 :: m93 :: m94 :: m95 :: ga_i 25 (ns) :: ga_i 26 (nb) :: ga_i 1300 (sg) :: ga_i 250 (na) :: ga_i 25 (nz) :: ga_i 40 (pi) :: ga_z 40 (cm) :: L2), f) := by
  refine g_aload_n (nx := 78) hX 0 dX11_statement_77 rfl rfl rfl ?_
  refine g_getfield (nx := 81) hX dX11_statement_78 rfl fX11_92 (ga_dn hn rfl) rfl rfl ?_
  refine g_if_le (nx := 84) hX 85 dX11_statement_81 (by decide) rfl (fun h81 => ?_) (fun h81 => ?_)
  · exact absurd ((nI_leI (b := 0) (by omega) (by omega)).mp h81) (by omega)
  · exact g_return hX hP dX11_statement_84 (Nat.le_of_ble_eq_true rfl) (Nat.le_of_ble_eq_true rfl) (hI _ ⟨p, _, _, nw, md, _, _, _, _, _, _, _, _, hp, rfl⟩)
theorem e_62 (hX : ga_B E d yX11_statement cX11_statement 5 0 0 X) (hP : ga_P E none 0 0 Post X) (hd : 4 ≤ d) (hn : 106 ≤ n) (hk : 1 ≤ k ∧ k ≤ 4) (hp : p ≤ 700) (hI : ∀ M, (∃ p pl_ op_ nw md r_nt sg pi cm ns nb na nz, p ≤ 700 ∧ M = (n, L1, ((m_O o_tp o_rd o_fe o_em o_sp o_ac o_td o_sm o_tt (nI p) (nI lt) (nI (k)) (nI (pl)) (nI nw) (nI md) (r_nt) (pl_) (op_)) :: ga_i 600 tb :: m81 :: m82 :: m83 :: m84 :: m85 :: m86 :: m87 :: m88 :: m89 :: m90 :: m91 :: m92 :: m93 :: m94 :: m95 :: ga_i 25 (ns) :: ga_i 26 (nb) :: ga_i 1300 (sg) :: ga_i 250 (na) :: ga_i 25 (nz) :: ga_i 40 (pi) :: ga_z 40 (cm) :: L2), f)) → Post none M) : ga_G E X 0 0 62 [some (.ref 79), some (.int (nI m)), some (.int (nI q)), none, none] [] (n, L1, ((m_O o_tp o_rd o_fe o_em o_sp o_ac o_td o_sm o_tt (nI p) (nI lt) (nI k) (nI pl) (nI nw) (nI md) (r_nt) (r_pl) (r_op)) :: ga_i 600 tb :: m81 :: m82 :: m83 :: m84 :: m85 :: m86 :: m87 :: m88 :: m89 :: m90 :: m91 :: m92 :: m93 :: m94 :: m95 :: ga_i 25 (ns) :: ga_i 26 (nb) :: ga_i 1300 (sg) :: ga_i 250 (na) :: ga_i 25 (nz) :: ga_i 40 (pi) :: ga_z 40 (cm) :: L2), f) := by
  refine g_iload_n (nx := 63) hX 1 dX11_statement_62 rfl rfl rfl ?_
  refine g_bipush (nx := 65) hX 10 dX11_statement_63 rfl (by decide) ?_
  refine g_icmp_le (nx := 68) hX 77 dX11_statement_65 (by decide) rfl (fun h65 => ?_) (fun h65 => ?_)
  · exact g_ls (e_77 hX hP hd hn hk hp hI) ⟨rfl, trivial⟩
  · refine g_aload_n (nx := 69) hX 0 dX11_statement_68 rfl rfl rfl ?_
    refine g_iconst (nx := 70) hX 1 dX11_statement_69 rfl (by decide) ?_
    refine g_iload_n (nx := 71) hX 2 dX11_statement_70 rfl rfl rfl ?_
    refine g_bipush (nx := 73) hX 10 dX11_statement_71 rfl (by decide) ?_
    refine g_iadd (nx := 74) hX dX11_statement_73 rfl ?_
    refine g_V2 (nx := 77) hX dX11_statement_74 rfl mX11_189 yX11_blame_ok (e_blame hn hk) (ga_dn hn rfl) rfl rfl rfl (by omega) rfl (Nat.le_of_ble_eq_true rfl) (Nat.le_of_ble_eq_true rfl) ?_
    rintro _ _ ⟨rfl, rfl⟩
    exact g_ls (e_77 hX hP hd hn hk hp hI) ⟨rfl, trivial⟩
theorem e_29 (hX : ga_B E d yX11_statement cX11_statement 5 0 0 X) (hP : ga_P E none 0 0 Post X) (hd : 4 ≤ d) (hn : 106 ≤ n) (hk : 1 ≤ k ∧ k ≤ 4) (hp : p ≤ 700) (hm : q + m ≤ 600) (hl : ∀ i, i < m → x_let (tb (q + i))) (hI : ∀ M, (∃ p pl_ op_ nw md r_nt sg pi cm ns nb na nz, p ≤ 700 ∧ M = (n, L1, ((m_O o_tp o_rd o_fe o_em o_sp o_ac o_td o_sm o_tt (nI p) (nI lt) (nI (k)) (nI (pl)) (nI nw) (nI md) (r_nt) (pl_) (op_)) :: ga_i 600 tb :: m81 :: m82 :: m83 :: m84 :: m85 :: m86 :: m87 :: m88 :: m89 :: m90 :: m91 :: m92 :: m93 :: m94 :: m95 :: ga_i 25 (ns) :: ga_i 26 (nb) :: ga_i 1300 (sg) :: ga_i 250 (na) :: ga_i 25 (nz) :: ga_i 40 (pi) :: ga_z 40 (cm) :: L2), f)) → Post none M) : ga_G E X 0 0 29 [some (.ref 79), some (.int (nI m)), some (.int (nI q)), none, none] [] (n, L1, ((m_O o_tp o_rd o_fe o_em o_sp o_ac o_td o_sm o_tt (nI p) (nI lt) (nI k) (nI pl) (nI nw) (nI md) (r_nt) (r_pl) (r_op)) :: ga_i 600 tb :: m81 :: m82 :: m83 :: m84 :: m85 :: m86 :: m87 :: m88 :: m89 :: m90 :: m91 :: m92 :: m93 :: m94 :: m95 :: ga_i 25 (ns) :: ga_i 26 (nb) :: ga_i 1300 (sg) :: ga_i 250 (na) :: ga_i 25 (nz) :: ga_i 40 (pi) :: ga_z 40 (cm) :: L2), f) := by
  refine g_aload_n (nx := 30) hX 0 dX11_statement_29 rfl rfl rfl ?_
  refine g_iload_n (nx := 31) hX 2 dX11_statement_30 rfl rfl rfl ?_
  refine g_iload_n (nx := 32) hX 1 dX11_statement_31 rfl rfl rfl ?_
  refine g_V2 (nx := 35) hX dX11_statement_32 rfl mX11_259 yX11_isIf_ok (c_X11_isIf hn hm hl) (ga_dn hn rfl) rfl rfl rfl (by omega) rfl (Nat.le_of_ble_eq_true rfl) (Nat.le_of_ble_eq_true rfl) ?_
  rintro _ _ ⟨rfl, rfl⟩
  refine g_if_ne (nx := 38) hX 56 dX11_statement_35 (by decide) rfl (fun h35 => ?_) (fun h35 => ?_)
  · refine g_aload_n (nx := 57) hX 0 dX11_statement_56 rfl rfl rfl ?_
    refine g_iconst (nx := 58) hX 1 dX11_statement_57 rfl (by decide) ?_
    refine g_iload_n (nx := 59) hX 2 dX11_statement_58 rfl rfl rfl ?_
    refine g_V2 (nx := 62) hX dX11_statement_59 rfl mX11_189 yX11_blame_ok (e_blame hn hk) (ga_dn hn rfl) rfl rfl rfl (by omega) rfl (Nat.le_of_ble_eq_true rfl) (Nat.le_of_ble_eq_true rfl) ?_
    rintro _ _ ⟨rfl, rfl⟩
    exact g_ls (e_62 hX hP hd hn hk hp hI) ⟨rfl, rfl, rfl, trivial⟩
  · refine g_aload_n (nx := 39) hX 0 dX11_statement_38 rfl rfl rfl ?_
    refine g_iload_n (nx := 40) hX 2 dX11_statement_39 rfl rfl rfl ?_
    refine g_iload_n (nx := 41) hX 1 dX11_statement_40 rfl rfl rfl ?_
    refine g_V2 (nx := 44) hX dX11_statement_41 rfl mX11_265 yX11_isMax_ok (c_X11_isMax hn hm hl) (ga_dn hn rfl) rfl rfl rfl (by omega) rfl (Nat.le_of_ble_eq_true rfl) (Nat.le_of_ble_eq_true rfl) ?_
    rintro _ _ ⟨rfl, rfl⟩
    refine g_if_ne (nx := 47) hX 56 dX11_statement_44 (by decide) rfl (fun h44 => ?_) (fun h44 => ?_)
    · refine g_aload_n (nx := 57) hX 0 dX11_statement_56 rfl rfl rfl ?_
      refine g_iconst (nx := 58) hX 1 dX11_statement_57 rfl (by decide) ?_
      refine g_iload_n (nx := 59) hX 2 dX11_statement_58 rfl rfl rfl ?_
      refine g_V2 (nx := 62) hX dX11_statement_59 rfl mX11_189 yX11_blame_ok (e_blame hn hk) (ga_dn hn rfl) rfl rfl rfl (by omega) rfl (Nat.le_of_ble_eq_true rfl) (Nat.le_of_ble_eq_true rfl) ?_
      rintro _ _ ⟨rfl, rfl⟩
      exact g_ls (e_62 hX hP hd hn hk hp hI) ⟨rfl, rfl, rfl, trivial⟩
    · refine g_aload_n (nx := 48) hX 0 dX11_statement_47 rfl rfl rfl ?_
      refine g_iload_n (nx := 49) hX 2 dX11_statement_48 rfl rfl rfl ?_
      refine g_iload_n (nx := 50) hX 1 dX11_statement_49 rfl rfl rfl ?_
      refine g_V2 (nx := 53) hX dX11_statement_50 rfl mX11_268 yX11_isMin_ok (c_X11_isMin hn hm hl) (ga_dn hn rfl) rfl rfl rfl (by omega) rfl (Nat.le_of_ble_eq_true rfl) (Nat.le_of_ble_eq_true rfl) ?_
      rintro _ _ ⟨rfl, rfl⟩
      refine g_if_eq (nx := 56) hX 62 dX11_statement_53 (by decide) rfl (fun h53 => ?_) (fun h53 => ?_)
      · exact g_ls (e_62 hX hP hd hn hk hp hI) ⟨rfl, rfl, rfl, trivial⟩
      · refine g_aload_n (nx := 57) hX 0 dX11_statement_56 rfl rfl rfl ?_
        refine g_iconst (nx := 58) hX 1 dX11_statement_57 rfl (by decide) ?_
        refine g_iload_n (nx := 59) hX 2 dX11_statement_58 rfl rfl rfl ?_
        refine g_V2 (nx := 62) hX dX11_statement_59 rfl mX11_189 yX11_blame_ok (e_blame hn hk) (ga_dn hn rfl) rfl rfl rfl (by omega) rfl (Nat.le_of_ble_eq_true rfl) (Nat.le_of_ble_eq_true rfl) ?_
        rintro _ _ ⟨rfl, rfl⟩
        exact g_ls (e_62 hX hP hd hn hk hp hI) ⟨rfl, rfl, rfl, trivial⟩
/-- behind a good statement stands ; -/
theorem s_427 (hX : ga_B E d yX11_statement cX11_statement 5 0 0 X) (hP : ga_P E none 0 0 Post X) (hd : 4 ≤ d) (hn : 106 ≤ n) (hl : lt ≤ 600) (hq : q ≤ lt) (hid : x_sk tb lt q = q) (hE : ¬ x_tk tb lt q = 59 → ∀ M, (∃ p pl_ op_ nw md r_nt sg pi cm ns nb na nz, p ≤ 700 ∧ M = (n, L1, ((m_O o_tp o_rd o_fe o_em o_sp o_ac o_td o_sm o_tt (nI p) (nI lt) (nI (1)) (nI (q)) (nI nw) (nI md) (r_nt) (pl_) (op_)) :: ga_i 600 tb :: m81 :: m82 :: m83 :: m84 :: m85 :: m86 :: m87 :: m88 :: m89 :: m90 :: m91 :: m92 :: m93 :: m94 :: m95 :: ga_i 25 (ns) :: ga_i 26 (nb) :: ga_i 1300 (sg) :: ga_i 250 (na) :: ga_i 25 (nz) :: ga_i 40 (pi) :: ga_z 40 (cm) :: L2), f)) → Post none M) (kont : x_tk tb lt q = 59 → Post none (n, L1, ((m_O o_tp o_rd o_fe o_em o_sp o_ac o_td o_sm o_tt (nI (q + 1)) (nI lt) (0) (-1) (nI (nw + 1)) (nI md) (r_nt) (r_pl) (r_op)) :: ga_i 600 tb :: m81 :: m82 :: m83 :: m84 :: m85 :: m86 :: m87 :: m88 :: m89 :: m90 :: m91 :: m92 :: m93 :: m94 :: m95 :: ga_i 25 (ns) :: ga_i 26 (nb) :: ga_i 1300 (sg) :: ga_i 250 (na) :: ga_i 25 (nz) :: ga_i 40 (pi) :: ga_z 40 (cm) :: L2), f)) : ga_G E X 0 0 427 [some (.ref 79), none, none, none, none] [] (n, L1, ((m_O o_tp o_rd o_fe o_em o_sp o_ac o_td o_sm o_tt (nI q) (nI lt) (0) (-1) (nI nw) (nI md) (r_nt) (r_pl) (r_op)) :: ga_i 600 tb :: m81 :: m82 :: m83 :: m84 :: m85 :: m86 :: m87 :: m88 :: m89 :: m90 :: m91 :: m92 :: m93 :: m94 :: m95 :: ga_i 25 (ns) :: ga_i 26 (nb) :: ga_i 1300 (sg) :: ga_i 250 (na) :: ga_i 25 (nz) :: ga_i 40 (pi) :: ga_z 40 (cm) :: L2), f) := by
  refine g_aload_n (nx := 428) hX 0 dX11_statement_427 rfl rfl rfl ?_
  refine g_getfield (nx := 431) hX dX11_statement_428 rfl fX11_92 (ga_dn hn rfl) rfl rfl ?_
  refine g_if_ne (nx := 434) hX 440 dX11_statement_431 (by decide) rfl (fun h431 => ?_) (fun h431 => ?_)
  · exact absurd rfl h431
  · refine g_aload_n (nx := 435) hX 0 dX11_statement_434 rfl rfl rfl ?_
    refine g_bipush (nx := 437) hX 59 dX11_statement_435 rfl (by decide) ?_
    refine g_V1 (nx := 440) hX dX11_statement_437 rfl mX11_295 yX11_must_ok (m_must (c := 59) hn hl hq hid (by decide) (by decide)) (ga_dn hn rfl) rfl rfl rfl (by omega) rfl (Nat.le_of_ble_eq_true rfl) (Nat.le_of_ble_eq_true rfl) ?_
    rintro _ _ ⟨rfl, (⟨hno, rfl⟩ | ⟨hyes, rfl⟩)⟩
    · refine g_aload_n (nx := 441) hX 0 dX11_statement_440 rfl rfl rfl ?_
      refine g_dup (nx := 442) hX dX11_statement_441 rfl rfl ?_
      refine g_getfield (nx := 445) hX dX11_statement_442 rfl fX11_98 (ga_dn hn rfl) rfl rfl ?_
      refine g_iconst (nx := 446) hX 1 dX11_statement_445 rfl (by decide) ?_
      refine g_iadd (nx := 447) hX dX11_statement_446 rfl ?_
      rw [nI_1]
      refine g_putfield (nx := 450) hX dX11_statement_447 rfl pX11_98 (ga_dn hn rfl) rfl rfl rfl rfl ?_
      exact g_return hX hP dX11_statement_450 (Nat.le_of_ble_eq_true rfl) (Nat.le_of_ble_eq_true rfl) (hE hno _ ⟨q + 1, _, _, nw + 1, md, _, _, _, _, _, _, _, _, by omega, rfl⟩)
    · refine g_aload_n (nx := 441) hX 0 dX11_statement_440 rfl rfl rfl ?_
      refine g_dup (nx := 442) hX dX11_statement_441 rfl rfl ?_
      refine g_getfield (nx := 445) hX dX11_statement_442 rfl fX11_98 (ga_dn hn rfl) rfl rfl ?_
      refine g_iconst (nx := 446) hX 1 dX11_statement_445 rfl (by decide) ?_
      refine g_iadd (nx := 447) hX dX11_statement_446 rfl ?_
      rw [nI_1]
      refine g_putfield (nx := 450) hX dX11_statement_447 rfl pX11_98 (ga_dn hn rfl) rfl rfl rfl rfl ?_
      exact g_return hX hP dX11_statement_450 (Nat.le_of_ble_eq_true rfl) (Nat.le_of_ble_eq_true rfl) (kont hyes)
theorem s_tie (hX : ga_B E d yX11_statement cX11_statement 5 0 0 X) (hP : ga_P E none 0 0 Post X) (hd : 4 ≤ d) (hn : 106 ≤ n) (hl : lt ≤ 600) (hw : nw < 24) (hN : r_nm tb nm nw ns nz na) (hp : p ≤ lt) (hq : x_sk tb lt p = q) (hC : C.length ≤ q)
    (hE : ∀ k pl, R_S tb lt nm q = .inl (k, pl) → (1 ≤ k ∧ k ≤ 4) → ∀ M, (∃ p pl_ op_ nw md r_nt sg pi cm ns nb na nz, p ≤ 700 ∧ M = (n, L1, ((m_O o_tp o_rd o_fe o_em o_sp o_ac o_td o_sm o_tt (nI p) (nI lt) (nI (k)) (nI (pl)) (nI nw) (nI md) (r_nt) (pl_) (op_)) :: ga_i 600 tb :: m81 :: m82 :: m83 :: m84 :: m85 :: m86 :: m87 :: m88 :: m89 :: m90 :: m91 :: m92 :: m93 :: m94 :: m95 :: ga_i 25 (ns) :: ga_i 26 (nb) :: ga_i 1300 (sg) :: ga_i 250 (na) :: ga_i 25 (nz) :: ga_i 40 (pi) :: ga_z 40 (cm) :: L2), f)) → Post none M)
    (kont : ∀ q' c' pi cm, R_S tb lt nm q = .inr (q', c') → x_sk tb lt q' = q' → ga_G E X 0 0 427 [some (.ref 79), none, none, none, none] [] (n, L1, ((m_O o_tp o_rd o_fe o_em o_sp o_ac o_td o_sm o_tt (nI (q')) (nI lt) (0) (-1) (nI nw) (nI (C ++ c').length) (r_nt) (nI ([] : List (Nat × Nat)).length) (nI (0))) :: ga_i 600 tb :: m81 :: m82 :: m83 :: m84 :: m85 :: m86 :: m87 :: m88 :: m89 :: m90 :: m91 :: m92 :: m93 :: m94 :: m95 :: ga_i 25 (upd ns nw 2) :: ga_i 26 (nb) :: ga_i 1300 (r_sg (C ++ c') sg) :: ga_i 250 (na) :: ga_i 25 (nz) :: ga_i 40 (pi) :: ga_z 40 (cm) :: L2), f)) : ga_G E X 0 0 283 [some (.ref 79), none, none, none, none] [] (n, L1, ((m_O o_tp o_rd o_fe o_em o_sp o_ac o_td o_sm o_tt (nI p) (nI lt) (0) (-1) (nI nw) (nI C.length) (r_nt) (r_pl) (r_op)) :: ga_i 600 tb :: m81 :: m82 :: m83 :: m84 :: m85 :: m86 :: m87 :: m88 :: m89 :: m90 :: m91 :: m92 :: m93 :: m94 :: m95 :: ga_i 25 (ns) :: ga_i 26 (nb) :: ga_i 1300 (r_sg C sg) :: ga_i 250 (na) :: ga_i 25 (nz) :: ga_i 40 (pi) :: ga_z 40 (cm) :: L2), f) := by
  refine g_aload_n (nx := 284) hX 0 dX11_statement_283 rfl rfl rfl ?_
  refine g_getfield (nx := 287) hX dX11_statement_284 rfl fX11_107 (ga_dn hn rfl) rfl rfl ?_
  refine g_aload_n (nx := 288) hX 0 dX11_statement_287 rfl rfl rfl ?_
  refine g_getfield (nx := 291) hX dX11_statement_288 rfl fX11_98 (ga_dn hn rfl) rfl rfl ?_
  refine g_iconst (nx := 292) hX 2 dX11_statement_291 rfl (by decide) ?_
  refine g_iastore (nx := 293) hX dX11_statement_292 rfl (ga_dn hn rfl) rfl (ga_ix_of (j := nw) rfl (by omega) (by omega)) ?_
  refine g_aload_n (nx := 294) hX 0 dX11_statement_293 rfl rfl rfl ?_
  refine g_V0 (nx := 297) hX dX11_statement_294 rfl mX11_292 yX11_sum_ok (c_X11_sum (C := C) hn hl (by omega) (r_nm_s hN) hp hq hC) (ga_dn hn rfl) rfl rfl rfl (by omega) rfl (Nat.le_of_ble_eq_true rfl) (Nat.le_of_ble_eq_true rfl) ?_
  rintro _ _ ⟨rfl, (⟨k, pl, hR, hk, p', pl_, op_, md', sg', pi', cm', h1, h2, rfl⟩ | ⟨q', c', pi', cm', hR, hid, rfl⟩)⟩
  · refine g_goto (nx := 427) hX dX11_statement_297 (by decide) ?_
    exact g_ls (e_427 hX hP hd hn hk (by omega) (hE k pl hR hk)) ⟨rfl, trivial⟩
  · refine g_goto (nx := 427) hX dX11_statement_297 (by decide) ?_
    exact g_ls (kont q' c' pi' cm' hR hid) ⟨rfl, trivial⟩
theorem x_word2 (hq : q ≤ lt) (hl : lt ≤ 600) : q + (x_we tb lt q - q) ≤ 600 ∧ ∀ i, i < x_we tb lt q - q → x_let (tb (q + i)) := by
  have hw := x_we_le (tb := tb) hq
  refine ⟨by omega, fun i hi => ?_⟩
  exact of_decide_eq_true (x_end_in (fun i => decide (x_let (tb i))) (lt - q) q (q + i) (by omega) (by show q + i < x_we tb lt q; omega))
theorem x_if (hq : q ≤ lt) (hl : lt ≤ 600) : x_wv tb q (x_we tb lt q - q) = 294 ↔ (x_tk tb lt q = 97 ∧ x_tv tb lt q = 294) := by
  by_cases h97 : x_tk tb lt q = 97
  · obtain ⟨w1, w2, w3, w4, w5, w6⟩ := x_word h97 hl
    rw [w2]
    exact ⟨fun z => ⟨h97, z⟩, fun z => z.2⟩
  · rw [x_nword h97 hq]
    exact ⟨fun z => absurd (show (0 : Int64) = 294 from z) (by decide), fun z => absurd z.1 h97⟩
theorem x_cm_c {c : Int32} : (c = 60 ∧ x_cm c = 8) ∨ (¬ c = 60 ∧ c = 62 ∧ x_cm c = 9) ∨ (¬ c = 60 ∧ ¬ c = 62 ∧ c = 61 ∧ x_cm c = 10) ∨ (¬ c = 60 ∧ ¬ c = 62 ∧ ¬ c = 61 ∧ x_cm c = 0) := by
  unfold x_cm
  by_cases h1 : c = 60
  · left; exact ⟨h1, if_pos h1⟩
  · right
    by_cases h2 : c = 62
    · left; exact ⟨h1, h2, by rw [if_neg h1, if_pos h2]⟩
    · right
      by_cases h3 : c = 61
      · left; exact ⟨h1, h2, h3, by rw [if_neg h1, if_neg h2, if_pos h3]⟩
      · right; exact ⟨h1, h2, h3, by rw [if_neg h1, if_neg h2, if_neg h3]⟩
theorem x_cm_x : x_cm (x_c tb lt q) = x_cm (x_tk tb lt q) := by
  have e : ∀ s : Int32, ¬ x_let s → ¬ x_dig s → (x_c tb lt q = s ↔ x_tk tb lt q = s) := fun s h1 h2 => x_ct h1 h2
  have e1 := e 60 (by decide) (by decide)
  have e2 := e 62 (by decide) (by decide)
  have e3 := e 61 (by decide) (by decide)
  rcases x_cm_c (c := x_tk tb lt q) with ⟨a, b⟩ | ⟨a1, a, b⟩ | ⟨a1, a2, a, b⟩ | ⟨a1, a2, a3, b⟩
  · rw [a, e1.mpr a]
  · rw [a, e2.mpr a]
  · rw [a, e3.mpr a]
  · rw [b]; unfold x_cm; rw [if_neg (fun z => a1 (e1.mp z)), if_neg (fun z => a2 (e2.mp z)), if_neg (fun z => a3 (e3.mp z))]
end
