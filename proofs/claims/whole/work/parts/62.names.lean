/-! ===== names: which slot is meant, as both sides look it up ===== -/
theorem p_fd_c3 {P : Nat → Bool} {rn : Nat} : ∀ m, m ≤ rn → (∃ j, rn - m ≤ j ∧ j < rn ∧ (∀ i, rn - m ≤ i → i < j → P i = false) ∧ P j = true ∧ p_fd P rn m = nI j) ∨ ((∀ i, rn - m ≤ i → i < rn → P i = false) ∧ p_fd P rn m = -1)
  | 0, _ => Or.inr ⟨fun i h1 h2 => by omega, rfl⟩
  | m + 1, hm => by
    rw [p_fd]
    by_cases h : P (rn - (m + 1)) = true
    · left
      exact ⟨rn - (m + 1), Nat.le_refl _, by omega, fun i h1 h2 => by omega, h, if_pos h⟩
    · rw [if_neg h]
      have hf : P (rn - (m + 1)) = false := Bool.eq_false_iff.mpr h
      have ext : ∀ i, rn - (m + 1) ≤ i → ¬ rn - m ≤ i → P i = false := fun i h1 h2 => by
        rw [show i = rn - (m + 1) by omega]; exact hf
      rcases p_fd_c3 (P := P) (rn := rn) m (by omega) with ⟨j, a, b, c, d, e⟩ | ⟨a, b⟩
      · left
        exact ⟨j, by omega, b, fun i h1 h2 => by
          by_cases g : rn - m ≤ i
          · exact c i g h2
          · exact ext i h1 g, d, e⟩
      · right
        exact ⟨fun i h1 h2 => by
          by_cases g : rn - m ≤ i
          · exact a i g h2
          · exact ext i h1 g, b⟩
theorem p_fd_2 {P : Nat → Bool} (rn : Nat) : (∃ j, j < rn ∧ (∀ i, i < j → P i = false) ∧ P j = true ∧ p_fd P rn rn = nI j) ∨ ((∀ i, i < rn → P i = false) ∧ p_fd P rn rn = -1) := by
  rcases p_fd_c3 (P := P) rn (Nat.le_refl rn) with ⟨j, a, b, c, d, e⟩ | ⟨a, b⟩
  · exact Or.inl ⟨j, b, fun i hi => c i (by omega) hi, d, e⟩
  · exact Or.inr ⟨fun i hi => a i (by omega) hi, b⟩
theorem p_fd_hit {P : Nat → Bool} {rn j : Nat} (hj : j < rn) (h1 : ∀ i, i < j → P i = false) (h2 : P j = true) : p_fd P rn rn = nI j := by
  rcases p_fd_2 (P := P) rn with ⟨i, a, b, c, d⟩ | ⟨a, b⟩
  · rcases Nat.lt_trichotomy i j with g | g | g
    · rw [h1 i g] at c; cases c
    · rw [← g]; exact d
    · rw [b j g] at h2; cases h2
  · rw [a j hj] at h2; cases h2
theorem p_fd_miss {P : Nat → Bool} {rn : Nat} (h1 : ∀ i, i < rn → P i = false) : p_fd P rn rn = -1 := by
  rcases p_fd_2 (P := P) rn with ⟨i, a, b, c, d⟩ | ⟨a, b⟩
  · rw [h1 i a] at c; cases c
  · exact b
/-- the names, as both sides keep them -/
def r_nm (tb : Nat → Int32) (nm : Nat → Int64) (nw : Nat) (ns nz na : Nat → Int32) : Prop :=
  (∀ j, j < 15 → nm j = x_cn j) ∧ (∀ k, k < nw → (ns k = 0 ∧ ∃ q m, 1 ≤ m ∧ m ≤ 10 ∧ nz k = nI m ∧ (∀ i, i < m → x_let (tb (q + i)) ∧ na (10 * k + i) = tb (q + i)) ∧ nm (15 + k) = x_wv tb q m) ∨ (¬ ns k = 0 ∧ nm (15 + k) = 0)) ∧ (∀ k, nw ≤ k → k < 24 → nm (15 + k) = 0)
def x_wg (nm : Nat → Int64) (nw : Nat) (v : Int64) : Int32 := p_fd (fun k => decide (nm (15 + k) = v)) nw nw
theorem x_slot3 {tb : Nat → Int32} {nm : Nat → Int64} {nw : Nat} {ns nz na : Nat → Int32} {v : Int64} (h : r_nm tb nm nw ns nz na) (hw : nw ≤ 24) (h0 : ¬ v = 0) : (∃ j, j < 15 ∧ x_wc v = nI j ∧ x_slot nm v = nI j) ∨ (x_wc v = -1 ∧ ∃ j, j < nw ∧ x_wg nm nw v = nI j ∧ x_slot nm v = nI (15 + j)) ∨ (x_wc v = -1 ∧ x_wg nm nw v = -1 ∧ x_slot nm v = -1) := by
  unfold x_wg x_slot
  rw [← x_wc_fd]
  rcases p_fd_2 (P := fun j => decide (x_cn j = v)) 15 with ⟨j, a, b, c, d⟩ | ⟨a, b⟩
  · left
    refine ⟨j, a, d, p_fd_hit (by omega) (fun i hi => ?_) ?_⟩
    · have := b i hi
      rw [← h.1 i (by omega)] at this; exact this
    · rw [← h.1 j (by omega)] at c; exact c
  · right
    rcases p_fd_2 (P := fun k => decide (nm (15 + k) = v)) nw with ⟨j, a', b', c', d'⟩ | ⟨a', b'⟩
    · left
      refine ⟨b, j, a', d', p_fd_hit (by omega) (fun i hi => ?_) c'⟩
      by_cases g : i < 15
      · have := a i g
        rw [← h.1 i g] at this; exact this
      · have := b' (i - 15) (by omega)
        rw [show 15 + (i - 15) = i by omega] at this; exact this
    · right
      refine ⟨b, b', p_fd_miss (fun i hi => ?_)⟩
      by_cases g : i < 15
      · have := a i g
        rw [← h.1 i g] at this; exact this
      · by_cases g2 : i < 15 + nw
        · have := a' (i - 15) (by omega)
          rw [show 15 + (i - 15) = i by omega] at this; exact this
        · have := h.2.2 (i - 15) (by omega) (by omega)
          rw [show 15 + (i - 15) = i by omega] at this
          rw [this]; exact decide_eq_false (fun z => h0 z.symm)
section
variable {E : ga_E} {X : ga_X} {n : Nat} {c0 c1 c2 c3 c4 c5 c6 c7 c8 c9 c10 c11 c12 c13 c14 c15 c16 c17 c18 c19 c20 c21 c22 c23 c24 c25 c26 c27 c28 c29 c30 m79 m80 m81 m82 m83 m84 m85 m86 m87 m88 m89 m90 m91 m92 m93 m94 m95 m96 m97 m98 m99 m100 m101 m102 m103 m104 m105 : ga_C} {L1 L2 : List ga_C} {f : Nat → ga_C} {o_tp o_rd o_fe o_em o_sp o_ac o_td o_sm o_tt o_at o_sz o_fk o_fp o_nw o_md o_nt o_pl o_op d_at d_tk d_ta d_fd d_fa : Int32} {d_tv : Int64} {d_rl : Value}
variable {r_at r_fk r_fp r_nt r_pl r_op : Int32} {nw md lt : Nat} {tb ns nb sg na nz pi cm : Nat → Int32}
variable {p q m : Nat} {nm : Nat → Int64} {v : Int64}
theorem c_X11_whichGiven (hn : 106 ≤ n) (hw : nw ≤ 24) (hm : q + m ≤ 600) (hm1 : 1 ≤ m) (hl : ∀ i, i < m → x_let (tb (q + i))) (hv : x_wv tb q m = v) (hN : r_nm tb nm nw ns nz na) : ga_Mx E 0 yX11_whichGiven cX11_whichGiven 6 (some .int) 0 0 [.ref 79, .int (nI q), .int (nI m)] (n, L1, ((m_O o_tp o_rd o_fe o_em o_sp o_ac o_td o_sm o_tt (r_at) (nI lt) (r_fk) (r_fp) (nI nw) (nI md) (r_nt) (r_pl) (r_op)) :: ga_i 600 tb :: m81 :: m82 :: m83 :: m84 :: m85 :: m86 :: m87 :: m88 :: m89 :: m90 :: m91 :: m92 :: m93 :: m94 :: m95 :: ga_i 25 (ns) :: ga_i 26 (nb) :: ga_i 1300 (sg) :: ga_i 250 (na) :: ga_i 25 (nz) :: ga_i 40 (pi) :: ga_z 40 (cm) :: L2), f) (some (.int (x_wg nm nw v))) (n, L1, ((m_O o_tp o_rd o_fe o_em o_sp o_ac o_td o_sm o_tt (r_at) (nI lt) (r_fk) (r_fp) (nI nw) (nI md) (r_nt) (r_pl) (r_op)) :: ga_i 600 tb :: m81 :: m82 :: m83 :: m84 :: m85 :: m86 :: m87 :: m88 :: m89 :: m90 :: m91 :: m92 :: m93 :: m94 :: m95 :: ga_i 25 (ns) :: ga_i 26 (nb) :: ga_i 1300 (sg) :: ga_i 250 (na) :: ga_i 25 (nz) :: ga_i 40 (pi) :: ga_z 40 (cm) :: L2), f) := by
  subst hv
  have hv0 := x_wv_0 hl (by omega)
  refine ga_Mt.of (by decide) rfl (fun X hX hP => ?_)
  refine g_less [some (.ref 79), some (.int (nI q)), some (.int (nI m)), none, none, none] ⟨rfl, rfl, rfl, trivial⟩ ?_
  have inner : ∀ k, k < nw → (ga_G E X 0 0 87 [some (.ref 79), some (.int (nI q)), some (.int (nI m)), some (.int (nI k)), some (.int (ga_b (nm (15 + k) = x_wv tb q m))), none] [] (n, L1, ((m_O o_tp o_rd o_fe o_em o_sp o_ac o_td o_sm o_tt (r_at) (nI lt) (r_fk) (r_fp) (nI nw) (nI md) (r_nt) (r_pl) (r_op)) :: ga_i 600 tb :: m81 :: m82 :: m83 :: m84 :: m85 :: m86 :: m87 :: m88 :: m89 :: m90 :: m91 :: m92 :: m93 :: m94 :: m95 :: ga_i 25 (ns) :: ga_i 26 (nb) :: ga_i 1300 (sg) :: ga_i 250 (na) :: ga_i 25 (nz) :: ga_i 40 (pi) :: ga_z 40 (cm) :: L2), f)) → ga_G E X 0 0 10 [some (.ref 79), some (.int (nI q)), some (.int (nI m)), some (.int (nI k)), none, none] [] (n, L1, ((m_O o_tp o_rd o_fe o_em o_sp o_ac o_td o_sm o_tt (r_at) (nI lt) (r_fk) (r_fp) (nI nw) (nI md) (r_nt) (r_pl) (r_op)) :: ga_i 600 tb :: m81 :: m82 :: m83 :: m84 :: m85 :: m86 :: m87 :: m88 :: m89 :: m90 :: m91 :: m92 :: m93 :: m94 :: m95 :: ga_i 25 (ns) :: ga_i 26 (nb) :: ga_i 1300 (sg) :: ga_i 250 (na) :: ga_i 25 (nz) :: ga_i 40 (pi) :: ga_z 40 (cm) :: L2), f) := by
    intro k hk kont
    rcases hN.2.1 k hk with ⟨hs, q2, m2, h1, h2, hz, hc, hnm⟩ | ⟨hs, hnm⟩
    · have key := x_sp2 (q := q) (m := m) (l := m2) (q2 := q2) hl (fun i hi => (hc i hi).1) h2
      rw [hnm] at kont
      have loop : m = m2 → ∀ (j i : Nat), i + j = m → (∀ i', i' < i → tb (q + i') = tb (q2 + i')) → ga_G E X 0 0 39 [some (.ref 79), some (.int (nI q)), some (.int (nI m)), some (.int (nI k)), some (.int 1), some (.int (nI i))] [] (n, L1, ((m_O o_tp o_rd o_fe o_em o_sp o_ac o_td o_sm o_tt (r_at) (nI lt) (r_fk) (r_fp) (nI nw) (nI md) (r_nt) (r_pl) (r_op)) :: ga_i 600 tb :: m81 :: m82 :: m83 :: m84 :: m85 :: m86 :: m87 :: m88 :: m89 :: m90 :: m91 :: m92 :: m93 :: m94 :: m95 :: ga_i 25 (ns) :: ga_i 26 (nb) :: ga_i 1300 (sg) :: ga_i 250 (na) :: ga_i 25 (nz) :: ga_i 40 (pi) :: ga_z 40 (cm) :: L2), f) := by
        intro hml
        subst hml
        intro j
        induction j with
        | zero =>
          intro i hi hall
          have e : i = m := by omega
          subst e
          rw [ga_b_t (key.mp ⟨rfl, hall⟩).symm] at kont
          refine g_iload (nx := 41) hX 5 dX11_whichGiven_39 rfl rfl ?_
          refine g_iload_n (nx := 42) hX 2 dX11_whichGiven_41 rfl rfl rfl ?_
          refine g_icmp_ge (nx := 45) hX 87 dX11_whichGiven_42 (by decide) rfl (fun h42 => ?_) (fun h42 => ?_)
          · exact g_ls kont ⟨rfl, rfl, rfl, rfl, rfl, trivial⟩
          · exact absurd (nI_le (Nat.le_refl i) (by omega)) h42
        | succ j ih =>
          intro i hi hall
          have hci := hc i (by omega)
          refine g_iload (nx := 41) hX 5 dX11_whichGiven_39 rfl rfl ?_
          refine g_iload_n (nx := 42) hX 2 dX11_whichGiven_41 rfl rfl rfl ?_
          refine g_icmp_ge (nx := 45) hX 87 dX11_whichGiven_42 (by decide) rfl (fun h42 => ?_) (fun h42 => ?_)
          · exact absurd ((nI_leI (by omega) (by omega)).mp h42) (by omega)
          · refine g_iload (nx := 47) hX 4 dX11_whichGiven_45 rfl rfl ?_
            refine g_if_eq (nx := 50) hX 87 dX11_whichGiven_47 (by decide) rfl (fun h => absurd h (by decide)) (fun h => ?_)
            refine g_aload_n (nx := 51) hX 0 dX11_whichGiven_50 rfl rfl rfl ?_
            refine g_getfield (nx := 54) hX dX11_whichGiven_51 rfl fX11_116 (ga_dn hn rfl) rfl rfl ?_
            refine g_bipush (nx := 56) hX 10 dX11_whichGiven_54 rfl (by decide) ?_
            refine g_iload_n (nx := 57) hX 3 dX11_whichGiven_56 rfl rfl rfl ?_
            refine g_imul (nx := 58) hX dX11_whichGiven_57 rfl ?_
            refine g_iload (nx := 60) hX 5 dX11_whichGiven_58 rfl rfl ?_
            refine g_iadd (nx := 61) hX dX11_whichGiven_60 rfl ?_
            refine g_iaload (nx := 62) hX dX11_whichGiven_61 rfl (ga_dn hn rfl) rfl (ga_ix_of (j := 10 * k + i) (by rw [show (10 : Int32) * nI k = nI (10 * k) from pk_mul 10 k, nI_add]) (by omega) (by omega)) ?_
            refine g_aload_n (nx := 63) hX 0 dX11_whichGiven_62 rfl rfl rfl ?_
            refine g_getfield (nx := 66) hX dX11_whichGiven_63 rfl fX11_7 (ga_dn hn rfl) rfl rfl ?_
            refine g_iload_n (nx := 67) hX 1 dX11_whichGiven_66 rfl rfl rfl ?_
            refine g_iload (nx := 69) hX 5 dX11_whichGiven_67 rfl rfl ?_
            refine g_iadd (nx := 70) hX dX11_whichGiven_69 rfl ?_
            refine g_iaload (nx := 71) hX dX11_whichGiven_70 rfl (ga_dn hn rfl) rfl (ga_ix_of (j := q + i) (nI_add q i) (by omega) (by omega)) ?_
            rw [hci.2]
            refine g_icmp_ne (nx := 74) hX 78 dX11_whichGiven_71 (by decide) rfl (fun h71 => ?_) (fun h71 => ?_)
            · rw [ga_b_f (fun z => h71 ((key.mpr z.symm).2 i (by omega)).symm)] at kont
              refine g_iconst (nx := 79) hX 0 dX11_whichGiven_78 rfl (by decide) ?_
              refine g_istore (nx := 81) hX 4 dX11_whichGiven_79 rfl rfl ?_
              refine g_iinc (nx := 84) hX 5 (nI (i + 1)) dX11_whichGiven_81 rfl rfl rfl (nI_1 i) ?_
              refine g_goto (nx := 39) hX dX11_whichGiven_84 (by decide) ?_
              refine g_iload (nx := 41) hX 5 dX11_whichGiven_39 rfl rfl ?_
              refine g_iload_n (nx := 42) hX 2 dX11_whichGiven_41 rfl rfl rfl ?_
              refine g_icmp_ge (nx := 45) hX 87 dX11_whichGiven_42 (by decide) rfl (fun _ => ?_) (fun _ => ?_)
              · exact g_ls kont ⟨rfl, rfl, rfl, rfl, rfl, trivial⟩
              refine g_iload (nx := 47) hX 4 dX11_whichGiven_45 rfl rfl ?_
              refine g_if_eq (nx := 50) hX 87 dX11_whichGiven_47 (by decide) rfl (fun _ => ?_) (fun h => absurd rfl h)
              exact g_ls kont ⟨rfl, rfl, rfl, rfl, rfl, trivial⟩
            · have ih1 := ih (i + 1) (by omega) (fun i' hi' => by
                by_cases e : i' = i
                · rw [e]; exact h71.symm
                · exact hall i' (by omega))
              refine g_iconst (nx := 75) hX 1 dX11_whichGiven_74 rfl (by decide) ?_
              refine g_goto (nx := 79) hX dX11_whichGiven_75 (by decide) ?_
              refine g_istore (nx := 81) hX 4 dX11_whichGiven_79 rfl rfl ?_
              refine g_iinc (nx := 84) hX 5 (nI (i + 1)) dX11_whichGiven_81 rfl rfl rfl (nI_1 i) ?_
              refine g_goto (nx := 39) hX dX11_whichGiven_84 (by decide) ?_
              exact ih1
      refine g_aload_n (nx := 11) hX 0 dX11_whichGiven_10 rfl rfl rfl ?_
      refine g_getfield (nx := 14) hX dX11_whichGiven_11 rfl fX11_107 (ga_dn hn rfl) rfl rfl ?_
      refine g_iload_n (nx := 15) hX 3 dX11_whichGiven_14 rfl rfl rfl ?_
      refine g_iaload (nx := 16) hX dX11_whichGiven_15 rfl (ga_dn hn rfl) rfl (ga_ix_of (j := k) rfl (by omega) (by omega)) ?_
      refine g_if_ne (nx := 19) hX 33 dX11_whichGiven_16 (by decide) rfl (fun h16 => ?_) (fun h16 => ?_)
      · exact absurd hs h16
      · refine g_aload_n (nx := 20) hX 0 dX11_whichGiven_19 rfl rfl rfl ?_
        refine g_getfield (nx := 23) hX dX11_whichGiven_20 rfl fX11_119 (ga_dn hn rfl) rfl rfl ?_
        refine g_iload_n (nx := 24) hX 3 dX11_whichGiven_23 rfl rfl rfl ?_
        refine g_iaload (nx := 25) hX dX11_whichGiven_24 rfl (ga_dn hn rfl) rfl (ga_ix_of (j := k) rfl (by omega) (by omega)) ?_
        refine g_iload_n (nx := 26) hX 2 dX11_whichGiven_25 rfl rfl rfl ?_
        rw [hz]
        refine g_icmp_ne (nx := 29) hX 33 dX11_whichGiven_26 (by decide) rfl (fun h26 => ?_) (fun h26 => ?_)
        · have hml : ¬ m = m2 := fun z => h26 (by rw [z])
          rw [ga_b_f (fun z => hml (key.mpr z.symm).1)] at kont
          refine g_iconst (nx := 34) hX 0 dX11_whichGiven_33 rfl (by decide) ?_
          refine g_istore (nx := 36) hX 4 dX11_whichGiven_34 rfl rfl ?_
          refine g_iconst (nx := 37) hX 0 dX11_whichGiven_36 rfl (by decide) ?_
          refine g_istore (nx := 39) hX 5 dX11_whichGiven_37 rfl rfl ?_
          refine g_iload (nx := 41) hX 5 dX11_whichGiven_39 rfl rfl ?_
          refine g_iload_n (nx := 42) hX 2 dX11_whichGiven_41 rfl rfl rfl ?_
          refine g_icmp_ge (nx := 45) hX 87 dX11_whichGiven_42 (by decide) rfl (fun h42 => ?_) (fun h42 => ?_)
          · exact absurd ((nI_leI (b := 0) (by omega) (by omega)).mp h42) (by omega)
          · refine g_iload (nx := 47) hX 4 dX11_whichGiven_45 rfl rfl ?_
            refine g_if_eq (nx := 50) hX 87 dX11_whichGiven_47 (by decide) rfl (fun h => ?_) (fun h => absurd h (by decide))
            exact g_ls kont ⟨rfl, rfl, rfl, rfl, rfl, trivial⟩
        · have hml : m = m2 := (nI_inj h26 (by omega) (by omega)).symm
          refine g_iconst (nx := 30) hX 1 dX11_whichGiven_29 rfl (by decide) ?_
          refine g_goto (nx := 34) hX dX11_whichGiven_30 (by decide) ?_
          refine g_istore (nx := 36) hX 4 dX11_whichGiven_34 rfl rfl ?_
          refine g_iconst (nx := 37) hX 0 dX11_whichGiven_36 rfl (by decide) ?_
          refine g_istore (nx := 39) hX 5 dX11_whichGiven_37 rfl rfl ?_
          exact loop hml m 0 (by omega) (fun i hi => absurd hi (Nat.not_lt_zero i))
    · rw [hnm, ga_b_f (fun z => hv0 z.symm)] at kont
      refine g_aload_n (nx := 11) hX 0 dX11_whichGiven_10 rfl rfl rfl ?_
      refine g_getfield (nx := 14) hX dX11_whichGiven_11 rfl fX11_107 (ga_dn hn rfl) rfl rfl ?_
      refine g_iload_n (nx := 15) hX 3 dX11_whichGiven_14 rfl rfl rfl ?_
      refine g_iaload (nx := 16) hX dX11_whichGiven_15 rfl (ga_dn hn rfl) rfl (ga_ix_of (j := k) rfl (by omega) (by omega)) ?_
      refine g_if_ne (nx := 19) hX 33 dX11_whichGiven_16 (by decide) rfl (fun h16 => ?_) (fun h16 => ?_)
      · refine g_iconst (nx := 34) hX 0 dX11_whichGiven_33 rfl (by decide) ?_
        refine g_istore (nx := 36) hX 4 dX11_whichGiven_34 rfl rfl ?_
        refine g_iconst (nx := 37) hX 0 dX11_whichGiven_36 rfl (by decide) ?_
        refine g_istore (nx := 39) hX 5 dX11_whichGiven_37 rfl rfl ?_
        refine g_iload (nx := 41) hX 5 dX11_whichGiven_39 rfl rfl ?_
        refine g_iload_n (nx := 42) hX 2 dX11_whichGiven_41 rfl rfl rfl ?_
        refine g_icmp_ge (nx := 45) hX 87 dX11_whichGiven_42 (by decide) rfl (fun h42 => ?_) (fun h42 => ?_)
        · exact absurd ((nI_leI (b := 0) (by omega) (by omega)).mp h42) (by omega)
        · refine g_iload (nx := 47) hX 4 dX11_whichGiven_45 rfl rfl ?_
          refine g_if_eq (nx := 50) hX 87 dX11_whichGiven_47 (by decide) rfl (fun h => ?_) (fun h => absurd h (by decide))
          exact g_ls kont ⟨rfl, rfl, rfl, rfl, rfl, trivial⟩
      · exact absurd h16 hs
  have loop : ∀ (j k : Nat), k + j = nw → x_wg nm nw (x_wv tb q m) = p_fd (fun k => decide (nm (15 + k) = x_wv tb q m)) nw j → ga_G E X 0 0 2 [some (.ref 79), some (.int (nI q)), some (.int (nI m)), some (.int (nI k)), none, none] [] (n, L1, ((m_O o_tp o_rd o_fe o_em o_sp o_ac o_td o_sm o_tt (r_at) (nI lt) (r_fk) (r_fp) (nI nw) (nI md) (r_nt) (r_pl) (r_op)) :: ga_i 600 tb :: m81 :: m82 :: m83 :: m84 :: m85 :: m86 :: m87 :: m88 :: m89 :: m90 :: m91 :: m92 :: m93 :: m94 :: m95 :: ga_i 25 (ns) :: ga_i 26 (nb) :: ga_i 1300 (sg) :: ga_i 250 (na) :: ga_i 25 (nz) :: ga_i 40 (pi) :: ga_z 40 (cm) :: L2), f) := by
    intro j
    induction j with
    | zero =>
      intro k hk hR
      refine g_iload_n (nx := 3) hX 3 dX11_whichGiven_2 rfl rfl rfl ?_
      refine g_aload_n (nx := 4) hX 0 dX11_whichGiven_3 rfl rfl rfl ?_
      refine g_getfield (nx := 7) hX dX11_whichGiven_4 rfl fX11_98 (ga_dn hn rfl) rfl rfl ?_
      refine g_icmp_ge (nx := 10) hX 100 dX11_whichGiven_7 (by decide) rfl (fun h7 => ?_) (fun h7 => ?_)
      · refine g_iconst (nx := 101) hX (-1) dX11_whichGiven_100 rfl (by decide) ?_
        exact g_ireturn hX hP dX11_whichGiven_101 rfl (Nat.le_of_ble_eq_true rfl) (Nat.le_of_ble_eq_true rfl) ⟨by rw [hR] <;> rfl, rfl⟩
      · exact absurd (nI_le (by omega) (by omega)) h7
    | succ j ih =>
      intro k hk hR
      rw [p_fd, show nw - (j + 1) = k by omega] at hR
      have t87 : ga_G E X 0 0 87 [some (.ref 79), some (.int (nI q)), some (.int (nI m)), some (.int (nI k)), some (.int (ga_b (nm (15 + k) = x_wv tb q m))), none] [] (n, L1, ((m_O o_tp o_rd o_fe o_em o_sp o_ac o_td o_sm o_tt (r_at) (nI lt) (r_fk) (r_fp) (nI nw) (nI md) (r_nt) (r_pl) (r_op)) :: ga_i 600 tb :: m81 :: m82 :: m83 :: m84 :: m85 :: m86 :: m87 :: m88 :: m89 :: m90 :: m91 :: m92 :: m93 :: m94 :: m95 :: ga_i 25 (ns) :: ga_i 26 (nb) :: ga_i 1300 (sg) :: ga_i 250 (na) :: ga_i 25 (nz) :: ga_i 40 (pi) :: ga_z 40 (cm) :: L2), f) := by
        refine g_iload (nx := 89) hX 4 dX11_whichGiven_87 rfl rfl ?_
        refine g_if_eq (nx := 92) hX 94 dX11_whichGiven_89 (by decide) rfl (fun h89 => ?_) (fun h89 => ?_)
        · rw [if_neg (fun z => ga_b_0 h89 (of_decide_eq_true z))] at hR
          refine g_iinc (nx := 97) hX 3 (nI (k + 1)) dX11_whichGiven_94 rfl rfl rfl (nI_1 k) ?_
          refine g_goto (nx := 2) hX dX11_whichGiven_97 (by decide) ?_
          exact g_ls (ih (k + 1) (by omega) hR) ⟨rfl, rfl, rfl, rfl, trivial⟩
        · refine g_iload_n (nx := 93) hX 3 dX11_whichGiven_92 rfl rfl rfl ?_
          exact g_ireturn hX hP dX11_whichGiven_93 rfl (Nat.le_of_ble_eq_true rfl) (Nat.le_of_ble_eq_true rfl) ⟨by rw [hR, if_pos (decide_eq_true (ga_b_n0 h89))], rfl⟩
      refine g_iload_n (nx := 3) hX 3 dX11_whichGiven_2 rfl rfl rfl ?_
      refine g_aload_n (nx := 4) hX 0 dX11_whichGiven_3 rfl rfl rfl ?_
      refine g_getfield (nx := 7) hX dX11_whichGiven_4 rfl fX11_98 (ga_dn hn rfl) rfl rfl ?_
      refine g_icmp_ge (nx := 10) hX 100 dX11_whichGiven_7 (by decide) rfl (fun h7 => ?_) (fun h7 => ?_)
      · exact absurd ((nI_leI (by omega) (by omega)).mp h7) (by omega)
      · exact inner k (by omega) t87
  refine g_iconst (nx := 1) hX 0 dX11_whichGiven_0 rfl (by decide) ?_
  refine g_istore_n (nx := 2) hX 3 dX11_whichGiven_1 rfl rfl rfl ?_
  exact g_ls (loop nw 0 (by omega) rfl) ⟨rfl, rfl, rfl, rfl, trivial⟩
end
