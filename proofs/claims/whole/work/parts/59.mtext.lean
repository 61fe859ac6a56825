/-! ===== the text, as the reference reads it: leaves ===== -/
def x_c (tb : Nat → Int32) (lt q : Nat) : Int32 := if q < lt then tb q else -1
section
variable {tb : Nat → Int32} {lt q p : Nat}
theorem x_sk_gt (h : lt ≤ p) : x_sk tb lt p = p := by unfold x_sk; rw [show lt - p = 0 by omega]; rfl
theorem x_ct {s : Int32} (h1 : ¬ x_let s) (h2 : ¬ x_dig s) : x_c tb lt q = s ↔ x_tk tb lt q = s := by
  unfold x_c x_tk
  by_cases h : q < lt
  · rw [if_pos h, if_pos h]
    by_cases g1 : x_let (tb q)
    · rw [if_pos g1]
      exact ⟨fun z => absurd (z ▸ g1) h1, fun z => absurd (z ▸ (by decide : x_let 97)) h1⟩
    · rw [if_neg g1]
      by_cases g2 : x_dig (tb q)
      · rw [if_pos g2]
        exact ⟨fun z => absurd (z ▸ g2) h2, fun z => absurd (z ▸ (by decide : x_dig 48)) h2⟩
      · rw [if_neg g2]
  · rw [if_neg h, if_neg h]
theorem x_cd : x_dig (x_c tb lt q) ↔ x_tk tb lt q = 48 := by
  unfold x_c
  by_cases h : q < lt
  · rw [if_pos h]
    constructor
    · intro z
      unfold x_tk
      rw [if_pos h, if_neg (fun g : x_let (tb q) => absurd (v_tr g.1 z.2) (by decide)), if_pos z]
    · intro z; exact (x_tk_dig z).2.2
  · rw [if_neg h]
    constructor
    · intro z; exact absurd z.1 (by decide)
    · intro z; exact absurd (x_tk_dig z).1 h
theorem x_cl : x_let (x_c tb lt q) ↔ x_tk tb lt q = 97 := by
  unfold x_c
  by_cases h : q < lt
  · rw [if_pos h]
    constructor
    · intro z; unfold x_tk; rw [if_pos h, if_pos z]
    · intro z; exact (x_tk_let z).2
  · rw [if_neg h]
    constructor
    · intro z; exact absurd z.1 (by decide)
    · intro z; exact absurd (x_tk_let z).1 h
end
section
variable {E : ga_E} {X : ga_X} {n : Nat} {c0 c1 c2 c3 c4 c5 c6 c7 c8 c9 c10 c11 c12 c13 c14 c15 c16 c17 c18 c19 c20 c21 c22 c23 c24 c25 c26 c27 c28 c29 c30 m79 m80 m81 m82 m83 m84 m85 m86 m87 m88 m89 m90 m91 m92 m93 m94 m95 m96 m97 m98 m99 m100 m101 m102 m103 m104 m105 : ga_C} {L1 L2 : List ga_C} {f : Nat → ga_C} {o_tp o_rd o_fe o_em o_sp o_ac o_td o_sm o_tt o_at o_sz o_fk o_fp o_nw o_md o_nt o_pl o_op d_at d_tk d_ta d_fd d_fa : Int32} {d_tv : Int64} {d_rl : Value}
variable {r_at r_fk r_fp r_nt r_pl r_op : Int32} {nw md lt : Nat} {tb ns nb sg na nz pi cm : Nat → Int32}
variable {p q : Nat} {M : ga_M}
theorem c_X11_isLetter {c : Int32} : ga_Mx E 0 yX11_isLetter cX11_isLetter 1 (some .boolean) 0 0 [.int c] M (some (.int (ga_b (x_let c)))) M := by
  refine ga_Mt.of (by decide) rfl (fun X hX hP => ?_)
  refine g_less [some (.int c)] ⟨rfl, trivial⟩ ?_
  refine g_iload_n (nx := 1) hX 0 dX11_isLetter_0 rfl rfl rfl ?_
  refine g_bipush (nx := 3) hX 97 dX11_isLetter_1 rfl (by decide) ?_
  refine g_icmp_lt (nx := 6) hX 16 dX11_isLetter_3 (by decide) rfl (fun h3 => ?_) (fun h3 => ?_)
  · refine g_iconst (nx := 17) hX 0 dX11_isLetter_16 rfl (by decide) ?_
    exact g_ireturn hX hP dX11_isLetter_17 rfl (Nat.le_of_ble_eq_true rfl) (Nat.le_of_ble_eq_true rfl) ⟨by rw [ga_b_f (fun z => ga_len z.1 h3)], rfl⟩
  · refine g_iload_n (nx := 7) hX 0 dX11_isLetter_6 rfl rfl rfl ?_
    refine g_bipush (nx := 9) hX 122 dX11_isLetter_7 rfl (by decide) ?_
    refine g_icmp_gt (nx := 12) hX 16 dX11_isLetter_9 (by decide) rfl (fun h9 => ?_) (fun h9 => ?_)
    · refine g_iconst (nx := 17) hX 0 dX11_isLetter_16 rfl (by decide) ?_
      exact g_ireturn hX hP dX11_isLetter_17 rfl (Nat.le_of_ble_eq_true rfl) (Nat.le_of_ble_eq_true rfl) ⟨by rw [ga_b_f (fun z => ga_len z.2 h9)], rfl⟩
    · refine g_iconst (nx := 13) hX 1 dX11_isLetter_12 rfl (by decide) ?_
      refine g_goto (nx := 17) hX dX11_isLetter_13 (by decide) ?_
      exact g_ireturn hX hP dX11_isLetter_17 rfl (Nat.le_of_ble_eq_true rfl) (Nat.le_of_ble_eq_true rfl) ⟨by rw [ga_b_t ⟨ga_nlt h3, ga_nlt h9⟩], rfl⟩
theorem c_X11_isDigit {c : Int32} : ga_Mx E 0 yX11_isDigit cX11_isDigit 1 (some .boolean) 0 0 [.int c] M (some (.int (ga_b (x_dig c)))) M := by
  refine ga_Mt.of (by decide) rfl (fun X hX hP => ?_)
  refine g_less [some (.int c)] ⟨rfl, trivial⟩ ?_
  refine g_iload_n (nx := 1) hX 0 dX11_isDigit_0 rfl rfl rfl ?_
  refine g_bipush (nx := 3) hX 48 dX11_isDigit_1 rfl (by decide) ?_
  refine g_icmp_lt (nx := 6) hX 16 dX11_isDigit_3 (by decide) rfl (fun h3 => ?_) (fun h3 => ?_)
  · refine g_iconst (nx := 17) hX 0 dX11_isDigit_16 rfl (by decide) ?_
    exact g_ireturn hX hP dX11_isDigit_17 rfl (Nat.le_of_ble_eq_true rfl) (Nat.le_of_ble_eq_true rfl) ⟨by rw [ga_b_f (fun z => ga_len z.1 h3)], rfl⟩
  · refine g_iload_n (nx := 7) hX 0 dX11_isDigit_6 rfl rfl rfl ?_
    refine g_bipush (nx := 9) hX 57 dX11_isDigit_7 rfl (by decide) ?_
    refine g_icmp_gt (nx := 12) hX 16 dX11_isDigit_9 (by decide) rfl (fun h9 => ?_) (fun h9 => ?_)
    · refine g_iconst (nx := 17) hX 0 dX11_isDigit_16 rfl (by decide) ?_
      exact g_ireturn hX hP dX11_isDigit_17 rfl (Nat.le_of_ble_eq_true rfl) (Nat.le_of_ble_eq_true rfl) ⟨by rw [ga_b_f (fun z => ga_len z.2 h9)], rfl⟩
    · refine g_iconst (nx := 13) hX 1 dX11_isDigit_12 rfl (by decide) ?_
      refine g_goto (nx := 17) hX dX11_isDigit_13 (by decide) ?_
      exact g_ireturn hX hP dX11_isDigit_17 rfl (Nat.le_of_ble_eq_true rfl) (Nat.le_of_ble_eq_true rfl) ⟨by rw [ga_b_t ⟨ga_nlt h3, ga_nlt h9⟩], rfl⟩
theorem m_blame {k pl : Int32} (hn : 106 ≤ n) : ga_Mx E 0 yX11_blame cX11_blame 3 none 0 0 [.ref 79, .int k, .int pl] (n, L1, ((m_O o_tp o_rd o_fe o_em o_sp o_ac o_td o_sm o_tt (r_at) (nI lt) (0) (-1) (nI nw) (nI md) (r_nt) (r_pl) (r_op)) :: ga_i 600 tb :: m81 :: m82 :: m83 :: m84 :: m85 :: m86 :: m87 :: m88 :: m89 :: m90 :: m91 :: m92 :: m93 :: m94 :: m95 :: ga_i 25 (ns) :: ga_i 26 (nb) :: ga_i 1300 (sg) :: ga_i 250 (na) :: ga_i 25 (nz) :: ga_i 40 (pi) :: ga_z 40 (cm) :: L2), f) none (n, L1, ((m_O o_tp o_rd o_fe o_em o_sp o_ac o_td o_sm o_tt (r_at) (nI lt) (k) (pl) (nI nw) (nI md) (r_nt) (r_pl) (r_op)) :: ga_i 600 tb :: m81 :: m82 :: m83 :: m84 :: m85 :: m86 :: m87 :: m88 :: m89 :: m90 :: m91 :: m92 :: m93 :: m94 :: m95 :: ga_i 25 (ns) :: ga_i 26 (nb) :: ga_i 1300 (sg) :: ga_i 250 (na) :: ga_i 25 (nz) :: ga_i 40 (pi) :: ga_z 40 (cm) :: L2), f) := by
  refine ga_Mt.of (by decide) rfl (fun X hX hP => ?_)
  refine g_less [some (.ref 79), some (.int k), some (.int pl)] ⟨rfl, rfl, rfl, trivial⟩ ?_
  refine g_aload_n (nx := 1) hX 0 dX11_blame_0 rfl rfl rfl ?_
  refine g_getfield (nx := 4) hX dX11_blame_1 rfl fX11_92 (ga_dn hn rfl) rfl rfl ?_
  refine g_if_le (nx := 7) hX 8 dX11_blame_4 (by decide) rfl (fun h4 => ?_) (fun h4 => ?_)
  · refine g_aload_n (nx := 9) hX 0 dX11_blame_8 rfl rfl rfl ?_
    refine g_iload_n (nx := 10) hX 1 dX11_blame_9 rfl rfl rfl ?_
    refine g_putfield (nx := 13) hX dX11_blame_10 rfl pX11_92 (ga_dn hn rfl) rfl rfl rfl rfl ?_
    refine g_aload_n (nx := 14) hX 0 dX11_blame_13 rfl rfl rfl ?_
    refine g_iload_n (nx := 15) hX 2 dX11_blame_14 rfl rfl rfl ?_
    refine g_putfield (nx := 18) hX dX11_blame_15 rfl pX11_95 (ga_dn hn rfl) rfl rfl rfl rfl ?_
    exact g_return hX hP dX11_blame_18 (Nat.le_of_ble_eq_true rfl) (Nat.le_of_ble_eq_true rfl) ⟨rfl, rfl⟩
  · exact absurd (show (0 : Int32) ≤ 0 by decide) h4
theorem e_blame {a b : Int32} {k pl : Nat} (hn : 106 ≤ n) (hk : 1 ≤ k ∧ k ≤ 4) : ga_Mx E 0 yX11_blame cX11_blame 3 none 0 0 [.ref 79, .int a, .int b] (n, L1, ((m_O o_tp o_rd o_fe o_em o_sp o_ac o_td o_sm o_tt (r_at) (nI lt) (nI k) (nI pl) (nI nw) (nI md) (r_nt) (r_pl) (r_op)) :: ga_i 600 tb :: m81 :: m82 :: m83 :: m84 :: m85 :: m86 :: m87 :: m88 :: m89 :: m90 :: m91 :: m92 :: m93 :: m94 :: m95 :: ga_i 25 (ns) :: ga_i 26 (nb) :: ga_i 1300 (sg) :: ga_i 250 (na) :: ga_i 25 (nz) :: ga_i 40 (pi) :: ga_z 40 (cm) :: L2), f) none (n, L1, ((m_O o_tp o_rd o_fe o_em o_sp o_ac o_td o_sm o_tt (r_at) (nI lt) (nI k) (nI pl) (nI nw) (nI md) (r_nt) (r_pl) (r_op)) :: ga_i 600 tb :: m81 :: m82 :: m83 :: m84 :: m85 :: m86 :: m87 :: m88 :: m89 :: m90 :: m91 :: m92 :: m93 :: m94 :: m95 :: ga_i 25 (ns) :: ga_i 26 (nb) :: ga_i 1300 (sg) :: ga_i 250 (na) :: ga_i 25 (nz) :: ga_i 40 (pi) :: ga_z 40 (cm) :: L2), f) := by
  refine ga_Mt.of (by decide) rfl (fun X hX hP => ?_)
  refine g_less [some (.ref 79), some (.int a), some (.int b)] ⟨rfl, rfl, rfl, trivial⟩ ?_
  refine g_aload_n (nx := 1) hX 0 dX11_blame_0 rfl rfl rfl ?_
  refine g_getfield (nx := 4) hX dX11_blame_1 rfl fX11_92 (ga_dn hn rfl) rfl rfl ?_
  refine g_if_le (nx := 7) hX 8 dX11_blame_4 (by decide) rfl (fun h4 => ?_) (fun h4 => ?_)
  · exact absurd ((nI_leI (b := 0) (by omega) (by omega)).mp h4) (by omega)
  · exact g_return hX hP dX11_blame_7 (Nat.le_of_ble_eq_true rfl) (Nat.le_of_ble_eq_true rfl) ⟨rfl, rfl⟩
theorem c_X11_here (hn : 106 ≤ n) (hl : lt ≤ 600) (hp : p ≤ 1000) : ga_Mx E 0 yX11_here cX11_here 1 (some .int) 0 0 [.ref 79] (n, L1, ((m_O o_tp o_rd o_fe o_em o_sp o_ac o_td o_sm o_tt (nI p) (nI lt) (r_fk) (r_fp) (nI nw) (nI md) (r_nt) (r_pl) (r_op)) :: ga_i 600 tb :: m81 :: m82 :: m83 :: m84 :: m85 :: m86 :: m87 :: m88 :: m89 :: m90 :: m91 :: m92 :: m93 :: m94 :: m95 :: ga_i 25 (ns) :: ga_i 26 (nb) :: ga_i 1300 (sg) :: ga_i 250 (na) :: ga_i 25 (nz) :: ga_i 40 (pi) :: ga_z 40 (cm) :: L2), f) (some (.int (x_c tb lt (x_sk tb lt p)))) (n, L1, ((m_O o_tp o_rd o_fe o_em o_sp o_ac o_td o_sm o_tt (nI (x_sk tb lt p)) (nI lt) (r_fk) (r_fp) (nI nw) (nI md) (r_nt) (r_pl) (r_op)) :: ga_i 600 tb :: m81 :: m82 :: m83 :: m84 :: m85 :: m86 :: m87 :: m88 :: m89 :: m90 :: m91 :: m92 :: m93 :: m94 :: m95 :: ga_i 25 (ns) :: ga_i 26 (nb) :: ga_i 1300 (sg) :: ga_i 250 (na) :: ga_i 25 (nz) :: ga_i 40 (pi) :: ga_z 40 (cm) :: L2), f) := by
  refine ga_Mt.of (by decide) rfl (fun X hX hP => ?_)
  refine g_less [some (.ref 79)] ⟨rfl, trivial⟩ ?_
  have t52 : x_sk tb lt p ≤ 1000 → ga_G E X 0 0 52 [some (.ref 79)] [] (n, L1, ((m_O o_tp o_rd o_fe o_em o_sp o_ac o_td o_sm o_tt (nI (x_sk tb lt p)) (nI lt) (r_fk) (r_fp) (nI nw) (nI md) (r_nt) (r_pl) (r_op)) :: ga_i 600 tb :: m81 :: m82 :: m83 :: m84 :: m85 :: m86 :: m87 :: m88 :: m89 :: m90 :: m91 :: m92 :: m93 :: m94 :: m95 :: ga_i 25 (ns) :: ga_i 26 (nb) :: ga_i 1300 (sg) :: ga_i 250 (na) :: ga_i 25 (nz) :: ga_i 40 (pi) :: ga_z 40 (cm) :: L2), f) := by
    intro hb
    generalize x_sk tb lt p = q at *
    refine g_aload_n (nx := 53) hX 0 dX11_here_52 rfl rfl rfl ?_
    refine g_getfield (nx := 56) hX dX11_here_53 rfl fX11_86 (ga_dn hn rfl) rfl rfl ?_
    refine g_aload_n (nx := 57) hX 0 dX11_here_56 rfl rfl rfl ?_
    refine g_getfield (nx := 60) hX dX11_here_57 rfl fX11_89 (ga_dn hn rfl) rfl rfl ?_
    refine g_icmp_ge (nx := 63) hX 75 dX11_here_60 (by decide) rfl (fun h60 => ?_) (fun h60 => ?_)
    · have hge : ¬ q < lt := by have := (nI_leI (by omega) (by omega)).mp h60; omega
      refine g_iconst (nx := 76) hX (-1) dX11_here_75 rfl (by decide) ?_
      exact g_ireturn hX hP dX11_here_76 rfl (Nat.le_of_ble_eq_true rfl) (Nat.le_of_ble_eq_true rfl) ⟨by unfold x_c; rw [if_neg hge], rfl⟩
    · have hlt : q < lt := Nat.lt_of_not_le (fun z => h60 (nI_le z (by omega)))
      refine g_aload_n (nx := 64) hX 0 dX11_here_63 rfl rfl rfl ?_
      refine g_getfield (nx := 67) hX dX11_here_64 rfl fX11_7 (ga_dn hn rfl) rfl rfl ?_
      refine g_aload_n (nx := 68) hX 0 dX11_here_67 rfl rfl rfl ?_
      refine g_getfield (nx := 71) hX dX11_here_68 rfl fX11_86 (ga_dn hn rfl) rfl rfl ?_
      refine g_iaload (nx := 72) hX dX11_here_71 rfl (ga_dn hn rfl) rfl (ga_ix_of (j := q) rfl (by omega) (by omega)) ?_
      refine g_goto (nx := 76) hX dX11_here_72 (by decide) ?_
      exact g_ireturn hX hP dX11_here_76 rfl (Nat.le_of_ble_eq_true rfl) (Nat.le_of_ble_eq_true rfl) ⟨by unfold x_c; rw [if_pos hlt], rfl⟩
  by_cases hpl : p ≤ lt
  · -- within
    have hw := x_sk_le (tb := tb) hpl
    have loop : ∀ (m i : Nat), p ≤ i → i ≤ x_sk tb lt p → x_sk tb lt p - i = m → ga_G E X 0 0 0 [some (.ref 79)] [] (n, L1, ((m_O o_tp o_rd o_fe o_em o_sp o_ac o_td o_sm o_tt (nI i) (nI lt) (r_fk) (r_fp) (nI nw) (nI md) (r_nt) (r_pl) (r_op)) :: ga_i 600 tb :: m81 :: m82 :: m83 :: m84 :: m85 :: m86 :: m87 :: m88 :: m89 :: m90 :: m91 :: m92 :: m93 :: m94 :: m95 :: ga_i 25 (ns) :: ga_i 26 (nb) :: ga_i 1300 (sg) :: ga_i 250 (na) :: ga_i 25 (nz) :: ga_i 40 (pi) :: ga_z 40 (cm) :: L2), f) := by
      intro m
      induction m with
      | zero =>
        intro i h0 h1 h2
        have hk : i = x_sk tb lt p := by omega
        have hno : i < lt → ¬ x_bl (tb i) := fun z => by
          have := x_end_at (fun i => decide (x_bl (tb i))) (lt - p) p (by show x_sk tb lt p < _; omega)
          rw [show x_end (fun i => decide (x_bl (tb i))) (lt - p) p = i from hk.symm] at this
          exact of_decide_eq_false this
        have t := t52 (by omega)
        rw [← hk] at t
        refine g_aload_n (nx := 1) hX 0 dX11_here_0 rfl rfl rfl ?_
        refine g_getfield (nx := 4) hX dX11_here_1 rfl fX11_86 (ga_dn hn rfl) rfl rfl ?_
        refine g_aload_n (nx := 5) hX 0 dX11_here_4 rfl rfl rfl ?_
        refine g_getfield (nx := 8) hX dX11_here_5 rfl fX11_89 (ga_dn hn rfl) rfl rfl ?_
        refine g_icmp_ge (nx := 11) hX 52 dX11_here_8 (by decide) rfl (fun h8 => ?_) (fun h8 => ?_)
        · exact t
        · have hlt2 : i < lt := Nat.lt_of_not_le (fun z => h8 (nI_le z (by omega)))
          refine g_aload_n (nx := 12) hX 0 dX11_here_11 rfl rfl rfl ?_
          refine g_getfield (nx := 15) hX dX11_here_12 rfl fX11_7 (ga_dn hn rfl) rfl rfl ?_
          refine g_aload_n (nx := 16) hX 0 dX11_here_15 rfl rfl rfl ?_
          refine g_getfield (nx := 19) hX dX11_here_16 rfl fX11_86 (ga_dn hn rfl) rfl rfl ?_
          refine g_iaload (nx := 20) hX dX11_here_19 rfl (ga_dn hn rfl) rfl (ga_ix_of (j := i) rfl (by omega) (by omega)) ?_
          refine g_bipush (nx := 22) hX 32 dX11_here_20 rfl (by decide) ?_
          refine g_icmp_eq (nx := 25) hX 39 dX11_here_22 (by decide) rfl (fun h22 => ?_) (fun h22 => ?_)
          · exact absurd (Or.inl h22) (hno hlt2)
          · refine g_aload_n (nx := 26) hX 0 dX11_here_25 rfl rfl rfl ?_
            refine g_getfield (nx := 29) hX dX11_here_26 rfl fX11_7 (ga_dn hn rfl) rfl rfl ?_
            refine g_aload_n (nx := 30) hX 0 dX11_here_29 rfl rfl rfl ?_
            refine g_getfield (nx := 33) hX dX11_here_30 rfl fX11_86 (ga_dn hn rfl) rfl rfl ?_
            refine g_iaload (nx := 34) hX dX11_here_33 rfl (ga_dn hn rfl) rfl (ga_ix_of (j := i) rfl (by omega) (by omega)) ?_
            refine g_bipush (nx := 36) hX 10 dX11_here_34 rfl (by decide) ?_
            refine g_icmp_ne (nx := 39) hX 52 dX11_here_36 (by decide) rfl (fun h36 => ?_) (fun h36 => ?_)
            · exact t
            · exact absurd (Or.inr h36) (hno hlt2)
      | succ m ih =>
        intro i h0 h1 h2
        have hlt2 : i < lt := by omega
        have hyes : x_bl (tb i) := of_decide_eq_true (x_end_in (fun i => decide (x_bl (tb i))) (lt - p) p i (by omega) (by show i < x_sk tb lt p; omega))
        have ih1 := ih (i + 1) (by omega) (by omega) (by omega)
        refine g_aload_n (nx := 1) hX 0 dX11_here_0 rfl rfl rfl ?_
        refine g_getfield (nx := 4) hX dX11_here_1 rfl fX11_86 (ga_dn hn rfl) rfl rfl ?_
        refine g_aload_n (nx := 5) hX 0 dX11_here_4 rfl rfl rfl ?_
        refine g_getfield (nx := 8) hX dX11_here_5 rfl fX11_89 (ga_dn hn rfl) rfl rfl ?_
        refine g_icmp_ge (nx := 11) hX 52 dX11_here_8 (by decide) rfl (fun h8 => ?_) (fun h8 => ?_)
        · exact absurd ((nI_leI (by omega) (by omega)).mp h8) (by omega)
        · refine g_aload_n (nx := 12) hX 0 dX11_here_11 rfl rfl rfl ?_
          refine g_getfield (nx := 15) hX dX11_here_12 rfl fX11_7 (ga_dn hn rfl) rfl rfl ?_
          refine g_aload_n (nx := 16) hX 0 dX11_here_15 rfl rfl rfl ?_
          refine g_getfield (nx := 19) hX dX11_here_16 rfl fX11_86 (ga_dn hn rfl) rfl rfl ?_
          refine g_iaload (nx := 20) hX dX11_here_19 rfl (ga_dn hn rfl) rfl (ga_ix_of (j := i) rfl (by omega) (by omega)) ?_
          refine g_bipush (nx := 22) hX 32 dX11_here_20 rfl (by decide) ?_
          refine g_icmp_eq (nx := 25) hX 39 dX11_here_22 (by decide) rfl (fun h22 => ?_) (fun h22 => ?_)
          · refine g_aload_n (nx := 40) hX 0 dX11_here_39 rfl rfl rfl ?_
            refine g_dup (nx := 41) hX dX11_here_40 rfl rfl ?_
            refine g_getfield (nx := 44) hX dX11_here_41 rfl fX11_86 (ga_dn hn rfl) rfl rfl ?_
            refine g_iconst (nx := 45) hX 1 dX11_here_44 rfl (by decide) ?_
            refine g_iadd (nx := 46) hX dX11_here_45 rfl ?_
            rw [nI_1]
            refine g_putfield (nx := 49) hX dX11_here_46 rfl pX11_86 (ga_dn hn rfl) rfl rfl rfl rfl ?_
            refine g_goto (nx := 0) hX dX11_here_49 (by decide) ?_
            exact ih1
          · refine g_aload_n (nx := 26) hX 0 dX11_here_25 rfl rfl rfl ?_
            refine g_getfield (nx := 29) hX dX11_here_26 rfl fX11_7 (ga_dn hn rfl) rfl rfl ?_
            refine g_aload_n (nx := 30) hX 0 dX11_here_29 rfl rfl rfl ?_
            refine g_getfield (nx := 33) hX dX11_here_30 rfl fX11_86 (ga_dn hn rfl) rfl rfl ?_
            refine g_iaload (nx := 34) hX dX11_here_33 rfl (ga_dn hn rfl) rfl (ga_ix_of (j := i) rfl (by omega) (by omega)) ?_
            refine g_bipush (nx := 36) hX 10 dX11_here_34 rfl (by decide) ?_
            refine g_icmp_ne (nx := 39) hX 52 dX11_here_36 (by decide) rfl (fun h36 => ?_) (fun h36 => ?_)
            · exact absurd hyes (fun z => z.elim h22 h36)
            · refine g_aload_n (nx := 40) hX 0 dX11_here_39 rfl rfl rfl ?_
              refine g_dup (nx := 41) hX dX11_here_40 rfl rfl ?_
              refine g_getfield (nx := 44) hX dX11_here_41 rfl fX11_86 (ga_dn hn rfl) rfl rfl ?_
              refine g_iconst (nx := 45) hX 1 dX11_here_44 rfl (by decide) ?_
              refine g_iadd (nx := 46) hX dX11_here_45 rfl ?_
              rw [nI_1]
              refine g_putfield (nx := 49) hX dX11_here_46 rfl pX11_86 (ga_dn hn rfl) rfl rfl rfl rfl ?_
              refine g_goto (nx := 0) hX dX11_here_49 (by decide) ?_
              exact ih1
    exact loop _ p (Nat.le_refl p) hw.1 rfl
  · -- behind the end
    have e := x_sk_gt (tb := tb) (lt := lt) (p := p) (by omega)
    have t := t52 (by omega)
    rw [e] at t
    refine g_aload_n (nx := 1) hX 0 dX11_here_0 rfl rfl rfl ?_
    refine g_getfield (nx := 4) hX dX11_here_1 rfl fX11_86 (ga_dn hn rfl) rfl rfl ?_
    refine g_aload_n (nx := 5) hX 0 dX11_here_4 rfl rfl rfl ?_
    refine g_getfield (nx := 8) hX dX11_here_5 rfl fX11_89 (ga_dn hn rfl) rfl rfl ?_
    refine g_icmp_ge (nx := 11) hX 52 dX11_here_8 (by decide) rfl (fun h8 => ?_) (fun h8 => ?_)
    · exact t
    · exact absurd (nI_le (by omega) (by omega)) h8
theorem c_X11_wordSize (hn : 106 ≤ n) (hl : lt ≤ 600) (hp : p ≤ lt) : ga_Mx E 1 yX11_wordSize cX11_wordSize 2 (some .int) 0 0 [.ref 79] (n, L1, ((m_O o_tp o_rd o_fe o_em o_sp o_ac o_td o_sm o_tt (nI p) (nI lt) (r_fk) (r_fp) (nI nw) (nI md) (r_nt) (r_pl) (r_op)) :: ga_i 600 tb :: m81 :: m82 :: m83 :: m84 :: m85 :: m86 :: m87 :: m88 :: m89 :: m90 :: m91 :: m92 :: m93 :: m94 :: m95 :: ga_i 25 (ns) :: ga_i 26 (nb) :: ga_i 1300 (sg) :: ga_i 250 (na) :: ga_i 25 (nz) :: ga_i 40 (pi) :: ga_z 40 (cm) :: L2), f) (some (.int (nI (x_we tb lt (x_sk tb lt p) - x_sk tb lt p)))) (n, L1, ((m_O o_tp o_rd o_fe o_em o_sp o_ac o_td o_sm o_tt (nI (x_sk tb lt p)) (nI lt) (r_fk) (r_fp) (nI nw) (nI md) (r_nt) (r_pl) (r_op)) :: ga_i 600 tb :: m81 :: m82 :: m83 :: m84 :: m85 :: m86 :: m87 :: m88 :: m89 :: m90 :: m91 :: m92 :: m93 :: m94 :: m95 :: ga_i 25 (ns) :: ga_i 26 (nb) :: ga_i 1300 (sg) :: ga_i 250 (na) :: ga_i 25 (nz) :: ga_i 40 (pi) :: ga_z 40 (cm) :: L2), f) := by
  have hq := x_sk_le (tb := tb) hp
  refine ga_Mt.of (by decide) rfl (fun X hX hP => ?_)
  refine g_less [some (.ref 79), none] ⟨rfl, trivial⟩ ?_
  have loop : ∀ q, x_sk tb lt p = q → ∀ (m i : Nat), q + i ≤ x_we tb lt q → x_we tb lt q - (q + i) = m → ga_G E X 0 0 7 [some (.ref 79), some (.int (nI i))] [] (n, L1, ((m_O o_tp o_rd o_fe o_em o_sp o_ac o_td o_sm o_tt (nI q) (nI lt) (r_fk) (r_fp) (nI nw) (nI md) (r_nt) (r_pl) (r_op)) :: ga_i 600 tb :: m81 :: m82 :: m83 :: m84 :: m85 :: m86 :: m87 :: m88 :: m89 :: m90 :: m91 :: m92 :: m93 :: m94 :: m95 :: ga_i 25 (ns) :: ga_i 26 (nb) :: ga_i 1300 (sg) :: ga_i 250 (na) :: ga_i 25 (nz) :: ga_i 40 (pi) :: ga_z 40 (cm) :: L2), f) := by
    intro q eq m
    rw [eq] at hq
    have hw := x_we_le (tb := tb) hq.2
    rw [eq] at hP
    induction m with
    | zero =>
      intro i h1 h2
      have hk : q + i = x_we tb lt q := by omega
      have hno : q + i < lt → ¬ x_let (tb (q + i)) := fun z => by
        have := x_end_at (fun i => decide (x_let (tb i))) (lt - q) q (by show x_we tb lt q < _; omega)
        rw [show x_end (fun i => decide (x_let (tb i))) (lt - q) q = q + i from hk.symm] at this
        exact of_decide_eq_false this
      refine g_aload_n (nx := 8) hX 0 dX11_wordSize_7 rfl rfl rfl ?_
      refine g_getfield (nx := 11) hX dX11_wordSize_8 rfl fX11_86 (ga_dn hn rfl) rfl rfl ?_
      refine g_iload_n (nx := 12) hX 1 dX11_wordSize_11 rfl rfl rfl ?_
      refine g_iadd (nx := 13) hX dX11_wordSize_12 rfl ?_
      refine g_aload_n (nx := 14) hX 0 dX11_wordSize_13 rfl rfl rfl ?_
      refine g_getfield (nx := 17) hX dX11_wordSize_14 rfl fX11_89 (ga_dn hn rfl) rfl rfl ?_
      rw [nI_add]
      refine g_icmp_ge (nx := 20) hX 43 dX11_wordSize_17 (by decide) rfl (fun h17 => ?_) (fun h17 => ?_)
      · refine g_iload_n (nx := 44) hX 1 dX11_wordSize_43 rfl rfl rfl ?_
        exact g_ireturn hX hP dX11_wordSize_44 rfl (Nat.le_of_ble_eq_true rfl) (Nat.le_of_ble_eq_true rfl) ⟨by rw [← hk, show q + i - q = i by omega], rfl⟩
      · have hlt2 : q + i < lt := Nat.lt_of_not_le (fun z => h17 (nI_le z (by omega)))
        refine g_aload_n (nx := 21) hX 0 dX11_wordSize_20 rfl rfl rfl ?_
        refine g_getfield (nx := 24) hX dX11_wordSize_21 rfl fX11_7 (ga_dn hn rfl) rfl rfl ?_
        refine g_aload_n (nx := 25) hX 0 dX11_wordSize_24 rfl rfl rfl ?_
        refine g_getfield (nx := 28) hX dX11_wordSize_25 rfl fX11_86 (ga_dn hn rfl) rfl rfl ?_
        refine g_iload_n (nx := 29) hX 1 dX11_wordSize_28 rfl rfl rfl ?_
        refine g_iadd (nx := 30) hX dX11_wordSize_29 rfl ?_
        refine g_iaload (nx := 31) hX dX11_wordSize_30 rfl (ga_dn hn rfl) rfl (ga_ix_of (j := q + i) (nI_add q i) (by omega) (by omega)) ?_
        refine g_S1 (nx := 34) hX dX11_wordSize_31 rfl mX11_192 yX11_isLetter_ok (c_X11_isLetter) (by decide) rfl (Nat.le_of_ble_eq_true rfl) (Nat.le_of_ble_eq_true rfl) ?_
        rintro _ _ ⟨rfl, rfl⟩
        refine g_if_eq (nx := 37) hX 43 dX11_wordSize_34 (by decide) rfl (fun h34 => ?_) (fun h34 => ?_)
        · refine g_iload_n (nx := 44) hX 1 dX11_wordSize_43 rfl rfl rfl ?_
          exact g_ireturn hX hP dX11_wordSize_44 rfl (Nat.le_of_ble_eq_true rfl) (Nat.le_of_ble_eq_true rfl) ⟨by rw [← hk, show q + i - q = i by omega], rfl⟩
        · exact absurd (ga_b_n0 h34) (hno hlt2)
    | succ m ih =>
      intro i h1 h2
      have hlt2 : q + i < lt := by omega
      have hyes : x_let (tb (q + i)) := of_decide_eq_true (x_end_in (fun i => decide (x_let (tb i))) (lt - q) q (q + i) (by omega) (by show q + i < x_we tb lt q; omega))
      have ih1 := ih (i + 1) (by omega) (by omega)
      refine g_aload_n (nx := 8) hX 0 dX11_wordSize_7 rfl rfl rfl ?_
      refine g_getfield (nx := 11) hX dX11_wordSize_8 rfl fX11_86 (ga_dn hn rfl) rfl rfl ?_
      refine g_iload_n (nx := 12) hX 1 dX11_wordSize_11 rfl rfl rfl ?_
      refine g_iadd (nx := 13) hX dX11_wordSize_12 rfl ?_
      refine g_aload_n (nx := 14) hX 0 dX11_wordSize_13 rfl rfl rfl ?_
      refine g_getfield (nx := 17) hX dX11_wordSize_14 rfl fX11_89 (ga_dn hn rfl) rfl rfl ?_
      rw [nI_add]
      refine g_icmp_ge (nx := 20) hX 43 dX11_wordSize_17 (by decide) rfl (fun h17 => ?_) (fun h17 => ?_)
      · exact absurd ((nI_leI (by omega) (by omega)).mp h17) (by omega)
      · refine g_aload_n (nx := 21) hX 0 dX11_wordSize_20 rfl rfl rfl ?_
        refine g_getfield (nx := 24) hX dX11_wordSize_21 rfl fX11_7 (ga_dn hn rfl) rfl rfl ?_
        refine g_aload_n (nx := 25) hX 0 dX11_wordSize_24 rfl rfl rfl ?_
        refine g_getfield (nx := 28) hX dX11_wordSize_25 rfl fX11_86 (ga_dn hn rfl) rfl rfl ?_
        refine g_iload_n (nx := 29) hX 1 dX11_wordSize_28 rfl rfl rfl ?_
        refine g_iadd (nx := 30) hX dX11_wordSize_29 rfl ?_
        refine g_iaload (nx := 31) hX dX11_wordSize_30 rfl (ga_dn hn rfl) rfl (ga_ix_of (j := q + i) (nI_add q i) (by omega) (by omega)) ?_
        refine g_S1 (nx := 34) hX dX11_wordSize_31 rfl mX11_192 yX11_isLetter_ok (c_X11_isLetter) (by decide) rfl (Nat.le_of_ble_eq_true rfl) (Nat.le_of_ble_eq_true rfl) ?_
        rintro _ _ ⟨rfl, rfl⟩
        refine g_if_eq (nx := 37) hX 43 dX11_wordSize_34 (by decide) rfl (fun h34 => ?_) (fun h34 => ?_)
        · exact absurd hyes (ga_b_0 h34)
        · refine g_iinc (nx := 40) hX 1 (nI (i + 1)) dX11_wordSize_37 rfl rfl rfl (nI_1 i) ?_
          refine g_goto (nx := 7) hX dX11_wordSize_40 (by decide) ?_
          exact ih1
  refine g_iconst (nx := 1) hX 0 dX11_wordSize_0 rfl (by decide) ?_
  refine g_istore_n (nx := 2) hX 1 dX11_wordSize_1 rfl rfl rfl ?_
  refine g_aload_n (nx := 3) hX 0 dX11_wordSize_2 rfl rfl rfl ?_
  refine g_V0 (nx := 6) hX dX11_wordSize_3 rfl mX11_186 yX11_here_ok (c_X11_here hn hl (by omega)) (ga_dn hn rfl) rfl rfl rfl (by decide) rfl (Nat.le_of_ble_eq_true rfl) (Nat.le_of_ble_eq_true rfl) ?_
  rintro _ _ ⟨rfl, rfl⟩
  refine g_pop (nx := 7) hX dX11_wordSize_6 rfl rfl ?_
  exact loop _ rfl _ 0 (x_we_le hq.2).1 rfl
end
