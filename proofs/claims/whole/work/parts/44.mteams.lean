/-! ===== hasRiders, least, teamOf, team, teamPlace, ring of the reference ===== -/
def m_nl (tm : Nat → Int32) (F : Nat → sh_S) (t : Int32) (r : Nat) : Nat → Nat
  | 0 => 0
  | k + 1 => m_nl tm F t r k + if p_in tm F t k ∧ (s_tt (F k) < s_tt (F r) ∨ s_tt (F k) = s_tt (F r) ∧ k < r) then 1 else 0
def m_ls (P : Nat → Bool) (g : Nat → Int64) (rn : Nat) : Nat → Int64
  | 0 => 10000
  | m + 1 => if P (rn - (m + 1)) = true then g (rn - (m + 1)) else m_ls P g rn m
def m_le (tm : Nat → Int32) (F : Nat → sh_S) (rn : Nat) (t : Int32) (a : Nat) : Int64 := m_ls (fun r => decide (p_in tm F t r ∧ m_nl tm F t r rn = a)) (fun r => s_tt (F r)) rn rn
def m_to (tm : Nat → Int32) (F : Nat → sh_S) (rn : Nat) (t : Int32) : Int64 := m_le tm F rn t 0 + m_le tm F rn t 1 + m_le tm F rn t 2
theorem m_nl_le (tm : Nat → Int32) (F : Nat → sh_S) (t : Int32) (r : Nat) : ∀ k, m_nl tm F t r k ≤ k
  | 0 => Nat.le_refl 0
  | k + 1 => by have := m_nl_le tm F t r k; unfold m_nl; split <;> omega
abbrev m_ahd (tm : Nat → Int32) (F : Nat → sh_S) (rn : Nat) (t : Int32) (k : Nat) : Prop := 0 < r_c tm (nI k) rn ∧ (m_to tm F rn (nI k) < m_to tm F rn t ∨ m_to tm F rn (nI k) = m_to tm F rn t ∧ m_le tm F rn (nI k) 0 < m_le tm F rn t 0)
def m_tp (tm : Nat → Int32) (F : Nat → sh_S) (rn : Nat) (t : Int32) : Nat → Nat
  | 0 => 1
  | k + 1 => m_tp tm F rn t k + if m_ahd tm F rn t k then 1 else 0
def m_nr (pl : Nat → Int32) (F : Nat → sh_S) (r : Nat) : Nat → Nat
  | 0 => 0
  | k + 1 => m_nr pl F r k + if s_of (F k) = 0 ∧ (pl r < pl k ∨ pl k = pl r ∧ r < k) then 1 else 0
theorem m_nr_le (pl : Nat → Int32) (F : Nat → sh_S) (r : Nat) : ∀ k, m_nr pl F r k ≤ k
  | 0 => Nat.le_refl 0
  | k + 1 => by have := m_nr_le pl F r k; unfold m_nr; split <;> omega
def m_rg (pl : Nat → Int32) (F : Nat → sh_S) (rn : Nat) (i : Int32) : Int32 := p_fd (fun r => decide (s_of (F r) = 0 ∧ nI (m_nr pl F r rn) = i)) rn rn
section
variable {E : ga_E} {X : ga_X} {n : Nat} {c0 c1 c2 c3 c4 c5 c6 c7 c8 c9 c10 c11 c12 c13 c14 c15 c16 c17 c18 c19 c20 c21 c22 c23 c24 c25 c26 c27 c28 c29 c30 m79 m80 m81 m82 m83 m84 m85 m86 m87 m88 m89 m90 m91 m92 m93 m94 m95 m96 m97 m98 m99 m100 m101 m102 m103 m104 m105 : ga_C} {L1 L2 : List ga_C} {f : Nat → ga_C} {o_tp o_rd o_fe o_em o_sp o_ac o_td o_sm o_tt o_at o_sz o_fk o_fp o_nw o_md o_nt o_pl o_op d_at d_tk d_ta d_fd d_fa : Int32} {d_tv : Int64} {d_rl : Value}
variable {em sp ask tt_ : Int32} {rn fn an sm r q t : Nat} {tm mt ou ah mw mq mf ma mb ms_ ta af fo bo sg io : Nat → Int32} {hp gv : Nat → Int64}
variable {cd : Nat → Nat × Nat} {en : Nat → Nat} {vals : Nat → Int64} {tot : Int32} {F : Nat → sh_S} {v w : Int32}
theorem c_X11_hasRiders (hn : 106 ≤ n) (hrn : rn ≤ 24) : ga_Mx E 0 yX11_hasRiders cX11_hasRiders 4 (some .boolean) 0 0 [.ref 79, .int v] (n, L1, ((m_O o_tp (nI rn) (nI fn) (em) (sp) (nI an) (ask) (nI sm) (tt_) o_at o_sz o_fk o_fp o_nw o_md o_nt o_pl o_op) :: m80 :: ga_i 24 tm :: ga_i 30 mt :: ga_i 30 ou :: ga_i 32 ah :: ga_i 401 mw :: ga_i 401 mq :: ga_i 401 mf :: ga_i 401 ma :: ga_i 401 mb :: ga_i 401 ms_ :: ga_i 18 ta :: ga_i 120 af :: ga_i 24 fo :: ga_i 25 bo :: ga_i 1300 sg :: m96 :: m97 :: m98 :: m99 :: m100 :: m101 :: m102 :: ga_l 310 hp :: ga_l 576 gv :: ga_z 24 io :: []), f) (some (.int (ga_b (0 < r_c tm v rn ∧ 0 ≤ v)))) (n, L1, ((m_O o_tp (nI rn) (nI fn) (em) (sp) (nI an) (ask) (nI sm) (tt_) o_at o_sz o_fk o_fp o_nw o_md o_nt o_pl o_op) :: m80 :: ga_i 24 tm :: ga_i 30 mt :: ga_i 30 ou :: ga_i 32 ah :: ga_i 401 mw :: ga_i 401 mq :: ga_i 401 mf :: ga_i 401 ma :: ga_i 401 mb :: ga_i 401 ms_ :: ga_i 18 ta :: ga_i 120 af :: ga_i 24 fo :: ga_i 25 bo :: ga_i 1300 sg :: m96 :: m97 :: m98 :: m99 :: m100 :: m101 :: m102 :: ga_l 310 hp :: ga_l 576 gv :: ga_z 24 io :: []), f) := by
  refine ga_Mt.of (by decide) rfl (fun X hX hP => ?_)
  refine g_less [some (.ref 79), some (.int v), none, none] ⟨rfl, rfl, trivial⟩ ?_
  have loop : ∀ (m k : Nat) (b : Int32), k ≤ rn → rn - k = m → (b = 0 ↔ r_c tm v k = 0) → ga_G E X 0 0 4 [some (.ref 79), some (.int v), some (.int b), some (.int (nI k))] [] (n, L1, ((m_O o_tp (nI rn) (nI fn) (em) (sp) (nI an) (ask) (nI sm) (tt_) o_at o_sz o_fk o_fp o_nw o_md o_nt o_pl o_op) :: m80 :: ga_i 24 tm :: ga_i 30 mt :: ga_i 30 ou :: ga_i 32 ah :: ga_i 401 mw :: ga_i 401 mq :: ga_i 401 mf :: ga_i 401 ma :: ga_i 401 mb :: ga_i 401 ms_ :: ga_i 18 ta :: ga_i 120 af :: ga_i 24 fo :: ga_i 25 bo :: ga_i 1300 sg :: m96 :: m97 :: m98 :: m99 :: m100 :: m101 :: m102 :: ga_l 310 hp :: ga_l 576 gv :: ga_z 24 io :: []), f) := by
    intro m
    induction m with
    | zero =>
      intro k b g1 g2 g3
      have e : k = rn := by omega
      subst e
      refine g_iload_n (nx := 5) hX 3 dX11_hasRiders_4 rfl rfl rfl ?_
      refine g_aload_n (nx := 6) hX 0 dX11_hasRiders_5 rfl rfl rfl ?_
      refine g_getfield (nx := 9) hX dX11_hasRiders_6 rfl fX11_17 (ga_dn hn rfl) rfl rfl ?_
      refine g_icmp_ge (nx := 12) hX 38 dX11_hasRiders_9 (by decide) rfl (fun h9 => ?_) (fun h9 => ?_)
      · refine g_iload_n (nx := 39) hX 2 dX11_hasRiders_38 rfl rfl rfl ?_
        refine g_if_eq (nx := 42) hX 50 dX11_hasRiders_39 (by decide) rfl (fun h39 => ?_) (fun h39 => ?_)
        · refine g_iconst (nx := 51) hX 0 dX11_hasRiders_50 rfl (by decide) ?_
          exact g_ireturn hX hP dX11_hasRiders_51 rfl (Nat.le_of_ble_eq_true rfl) (Nat.le_of_ble_eq_true rfl) ⟨by rw [ga_b_f (fun z => by have := g3.mp h39; omega)], rfl⟩
        · refine g_iload_n (nx := 43) hX 1 dX11_hasRiders_42 rfl rfl rfl ?_
          refine g_if_lt (nx := 46) hX 50 dX11_hasRiders_43 (by decide) rfl (fun h43 => ?_) (fun h43 => ?_)
          · refine g_iconst (nx := 51) hX 0 dX11_hasRiders_50 rfl (by decide) ?_
            exact g_ireturn hX hP dX11_hasRiders_51 rfl (Nat.le_of_ble_eq_true rfl) (Nat.le_of_ble_eq_true rfl) ⟨by rw [ga_b_f (fun z => ga_ltn h43 z.2)], rfl⟩
          · refine g_iconst (nx := 47) hX 1 dX11_hasRiders_46 rfl (by decide) ?_
            refine g_goto (nx := 51) hX dX11_hasRiders_47 (by decide) ?_
            exact g_ireturn hX hP dX11_hasRiders_51 rfl (Nat.le_of_ble_eq_true rfl) (Nat.le_of_ble_eq_true rfl) ⟨by rw [ga_b_t ⟨Nat.pos_of_ne_zero (fun z => h39 (g3.mpr z)), ga_nlt h43⟩], rfl⟩
      · exact absurd (nI_le (Nat.le_refl k) (by omega)) h9
    | succ m ih =>
      intro k b g1 g2 g3
      have ih1 := fun b => ih (k + 1) b (by omega) (by omega)
      rw [r_c] at ih1
      refine g_iload_n (nx := 5) hX 3 dX11_hasRiders_4 rfl rfl rfl ?_
      refine g_aload_n (nx := 6) hX 0 dX11_hasRiders_5 rfl rfl rfl ?_
      refine g_getfield (nx := 9) hX dX11_hasRiders_6 rfl fX11_17 (ga_dn hn rfl) rfl rfl ?_
      refine g_icmp_ge (nx := 12) hX 38 dX11_hasRiders_9 (by decide) rfl (fun h9 => ?_) (fun h9 => ?_)
      · exact absurd ((nI_leI (by omega) (by omega)).mp h9) (by omega)
      · refine g_iload_n (nx := 13) hX 2 dX11_hasRiders_12 rfl rfl rfl ?_
        refine g_if_ne (nx := 16) hX 26 dX11_hasRiders_13 (by decide) rfl (fun h13 => ?_) (fun h13 => ?_)
        · refine g_iconst (nx := 27) hX 1 dX11_hasRiders_26 rfl (by decide) ?_
          refine g_goto (nx := 31) hX dX11_hasRiders_27 (by decide) ?_
          refine g_istore_n (nx := 32) hX 2 dX11_hasRiders_31 rfl rfl rfl ?_
          refine g_iinc (nx := 35) hX 3 (nI (k + 1)) dX11_hasRiders_32 rfl rfl rfl (nI_1 k) ?_
          refine g_goto (nx := 4) hX dX11_hasRiders_35 (by decide) ?_
          exact ih1 1 ⟨fun z => absurd z (by decide), fun z => absurd (g3.mpr (by omega)) h13⟩
        · refine g_aload_n (nx := 17) hX 0 dX11_hasRiders_16 rfl rfl rfl ?_
          refine g_getfield (nx := 20) hX dX11_hasRiders_17 rfl fX11_20 (ga_dn hn rfl) rfl rfl ?_
          refine g_iload_n (nx := 21) hX 3 dX11_hasRiders_20 rfl rfl rfl ?_
          refine g_iaload (nx := 22) hX dX11_hasRiders_21 rfl (ga_dn hn rfl) rfl (ga_ix_of (j := k) rfl (by omega) (by omega)) ?_
          refine g_iload_n (nx := 23) hX 1 dX11_hasRiders_22 rfl rfl rfl ?_
          refine g_icmp_ne (nx := 26) hX 30 dX11_hasRiders_23 (by decide) rfl (fun h23 => ?_) (fun h23 => ?_)
          · refine g_iconst (nx := 31) hX 0 dX11_hasRiders_30 rfl (by decide) ?_
            refine g_istore_n (nx := 32) hX 2 dX11_hasRiders_31 rfl rfl rfl ?_
            refine g_iinc (nx := 35) hX 3 (nI (k + 1)) dX11_hasRiders_32 rfl rfl rfl (nI_1 k) ?_
            refine g_goto (nx := 4) hX dX11_hasRiders_35 (by decide) ?_
            exact ih1 0 ⟨fun _ => by rw [if_neg h23, g3.mp h13], fun _ => rfl⟩
          · refine g_iconst (nx := 27) hX 1 dX11_hasRiders_26 rfl (by decide) ?_
            refine g_goto (nx := 31) hX dX11_hasRiders_27 (by decide) ?_
            refine g_istore_n (nx := 32) hX 2 dX11_hasRiders_31 rfl rfl rfl ?_
            refine g_iinc (nx := 35) hX 3 (nI (k + 1)) dX11_hasRiders_32 rfl rfl rfl (nI_1 k) ?_
            refine g_goto (nx := 4) hX dX11_hasRiders_35 (by decide) ?_
            exact ih1 1 ⟨fun z => absurd z (by decide), fun z => by rw [if_pos h23] at z; omega⟩
  refine g_iconst (nx := 1) hX 0 dX11_hasRiders_0 rfl (by decide) ?_
  refine g_istore_n (nx := 2) hX 2 dX11_hasRiders_1 rfl rfl rfl ?_
  refine g_iconst (nx := 3) hX 0 dX11_hasRiders_2 rfl (by decide) ?_
  refine g_istore_n (nx := 4) hX 3 dX11_hasRiders_3 rfl rfl rfl ?_
  exact loop rn 0 0 (by omega) (by omega) ⟨fun _ => rfl, fun _ => rfl⟩
theorem c_X11_least {a : Nat} (hn : 106 ≤ n) (hrn : rn ≤ 24) (hs : sm ≤ 24) (ha : a < 100) (hm : m_rk F rn sm gv io) (hF : ∀ r, s_tt (F r) = s_tot (s_v (F r)) tot) (ht : e_tt tot tt_ sm) : ga_Mx E 1 yX11_least cX11_least 6 (some .long) 0 0 [.ref 79, .int v, .int (nI a)] (n, L1, ((m_O o_tp (nI rn) (nI fn) (em) (sp) (nI an) (ask) (nI sm) (tt_) o_at o_sz o_fk o_fp o_nw o_md o_nt o_pl o_op) :: m80 :: ga_i 24 tm :: ga_i 30 mt :: ga_i 30 ou :: ga_i 32 ah :: ga_i 401 mw :: ga_i 401 mq :: ga_i 401 mf :: ga_i 401 ma :: ga_i 401 mb :: ga_i 401 ms_ :: ga_i 18 ta :: ga_i 120 af :: ga_i 24 fo :: ga_i 25 bo :: ga_i 1300 sg :: m96 :: m97 :: m98 :: m99 :: m100 :: m101 :: m102 :: ga_l 310 hp :: ga_l 576 gv :: ga_z 24 io :: []), f) (some (.long (m_le tm F rn v a))) (n, L1, ((m_O o_tp (nI rn) (nI fn) (em) (sp) (nI an) (ask) (nI sm) (tt_) o_at o_sz o_fk o_fp o_nw o_md o_nt o_pl o_op) :: m80 :: ga_i 24 tm :: ga_i 30 mt :: ga_i 30 ou :: ga_i 32 ah :: ga_i 401 mw :: ga_i 401 mq :: ga_i 401 mf :: ga_i 401 ma :: ga_i 401 mb :: ga_i 401 ms_ :: ga_i 18 ta :: ga_i 120 af :: ga_i 24 fo :: ga_i 25 bo :: ga_i 1300 sg :: m96 :: m97 :: m98 :: m99 :: m100 :: m101 :: m102 :: ga_l 310 hp :: ga_l 576 gv :: ga_z 24 io :: []), f) := by
  refine ga_Mt.of (by decide) rfl (fun X hX hP => ?_)
  refine g_less [some (.ref 79), some (.int v), some (.int (nI a)), none, none, none] ⟨rfl, rfl, rfl, trivial⟩ ?_
  have inner : ∀ (r : Nat), r < rn → p_in tm F v r → ga_G E X 0 0 120 [some (.ref 79), some (.int v), some (.int (nI a)), some (.int (nI r)), some (.int (nI (m_nl tm F v r rn))), none] [] (n, L1, ((m_O o_tp (nI rn) (nI fn) (em) (sp) (nI an) (ask) (nI sm) (tt_) o_at o_sz o_fk o_fp o_nw o_md o_nt o_pl o_op) :: m80 :: ga_i 24 tm :: ga_i 30 mt :: ga_i 30 ou :: ga_i 32 ah :: ga_i 401 mw :: ga_i 401 mq :: ga_i 401 mf :: ga_i 401 ma :: ga_i 401 mb :: ga_i 401 ms_ :: ga_i 18 ta :: ga_i 120 af :: ga_i 24 fo :: ga_i 25 bo :: ga_i 1300 sg :: m96 :: m97 :: m98 :: m99 :: m100 :: m101 :: m102 :: ga_l 310 hp :: ga_l 576 gv :: ga_z 24 io :: []), f) → ∀ (m k : Nat), k ≤ rn → rn - k = m → ga_G E X 0 0 38 [some (.ref 79), some (.int v), some (.int (nI a)), some (.int (nI r)), some (.int (nI (m_nl tm F v r k))), some (.int (nI k))] [] (n, L1, ((m_O o_tp (nI rn) (nI fn) (em) (sp) (nI an) (ask) (nI sm) (tt_) o_at o_sz o_fk o_fp o_nw o_md o_nt o_pl o_op) :: m80 :: ga_i 24 tm :: ga_i 30 mt :: ga_i 30 ou :: ga_i 32 ah :: ga_i 401 mw :: ga_i 401 mq :: ga_i 401 mf :: ga_i 401 ma :: ga_i 401 mb :: ga_i 401 ms_ :: ga_i 18 ta :: ga_i 120 af :: ga_i 24 fo :: ga_i 25 bo :: ga_i 1300 sg :: m96 :: m97 :: m98 :: m99 :: m100 :: m101 :: m102 :: ga_l 310 hp :: ga_l 576 gv :: ga_z 24 io :: []), f) := by
    intro r hr hp_ kont m
    induction m with
    | zero =>
      intro k g1 g2
      have e : k = rn := by omega
      subst e
      refine g_iload (nx := 40) hX 5 dX11_least_38 rfl rfl ?_
      refine g_aload_n (nx := 41) hX 0 dX11_least_40 rfl rfl rfl ?_
      refine g_getfield (nx := 44) hX dX11_least_41 rfl fX11_17 (ga_dn hn rfl) rfl rfl ?_
      refine g_icmp_ge (nx := 47) hX 120 dX11_least_44 (by decide) rfl (fun h44 => ?_) (fun h44 => ?_)
      · exact g_ls kont ⟨rfl, rfl, rfl, rfl, rfl, trivial⟩
      · exact absurd (nI_le (Nat.le_refl k) (by omega)) h44
    | succ m ih =>
      intro k g1 g2
      have ih1 := ih (k + 1) (by omega) (by omega)
      rw [m_nl] at ih1
      have hk := (hm k (by omega)).2
      refine g_iload (nx := 40) hX 5 dX11_least_38 rfl rfl ?_
      refine g_aload_n (nx := 41) hX 0 dX11_least_40 rfl rfl rfl ?_
      refine g_getfield (nx := 44) hX dX11_least_41 rfl fX11_17 (ga_dn hn rfl) rfl rfl ?_
      refine g_icmp_ge (nx := 47) hX 120 dX11_least_44 (by decide) rfl (fun h44 => ?_) (fun h44 => ?_)
      · exact absurd ((nI_leI (by omega) (by omega)).mp h44) (by omega)
      · refine g_iload (nx := 49) hX 4 dX11_least_47 rfl rfl ?_
        refine g_aload_n (nx := 50) hX 0 dX11_least_49 rfl rfl rfl ?_
        refine g_getfield (nx := 53) hX dX11_least_50 rfl fX11_20 (ga_dn hn rfl) rfl rfl ?_
        refine g_iload (nx := 55) hX 5 dX11_least_53 rfl rfl ?_
        refine g_iaload (nx := 56) hX dX11_least_55 rfl (ga_dn hn rfl) rfl (ga_ix_of (j := k) rfl (by omega) (by omega)) ?_
        refine g_iload_n (nx := 57) hX 1 dX11_least_56 rfl rfl rfl ?_
        refine g_icmp_ne (nx := 60) hX 110 dX11_least_57 (by decide) rfl (fun h57 => ?_) (fun h57 => ?_)
        · rw [if_neg (fun z => h57 z.1.1)] at ih1
          refine g_iconst (nx := 111) hX 0 dX11_least_110 rfl (by decide) ?_
          refine g_iadd (nx := 112) hX dX11_least_111 rfl ?_
          rw [Int32.add_zero]
          refine g_istore (nx := 114) hX 4 dX11_least_112 rfl rfl ?_
          refine g_iinc (nx := 117) hX 5 (nI (k + 1)) dX11_least_114 rfl rfl rfl (nI_1 k) ?_
          refine g_goto (nx := 38) hX dX11_least_117 (by decide) ?_
          exact ih1
        · refine g_aload_n (nx := 61) hX 0 dX11_least_60 rfl rfl rfl ?_
          refine g_getfield (nx := 64) hX dX11_least_61 rfl fX11_142 (ga_dn hn rfl) rfl rfl ?_
          refine g_iload (nx := 66) hX 5 dX11_least_64 rfl rfl ?_
          refine g_zaload (nx := 67) hX dX11_least_66 rfl (ga_dn hn rfl) rfl (ga_ix_of (j := k) rfl (by omega) (by omega)) ?_
          refine g_if_ne (nx := 70) hX 110 dX11_least_67 (by decide) rfl (fun h67 => ?_) (fun h67 => ?_)
          · rw [hk] at h67
            rw [if_neg (fun z => h67 z.1.2)] at ih1
            refine g_iconst (nx := 111) hX 0 dX11_least_110 rfl (by decide) ?_
            refine g_iadd (nx := 112) hX dX11_least_111 rfl ?_
            rw [Int32.add_zero]
            refine g_istore (nx := 114) hX 4 dX11_least_112 rfl rfl ?_
            refine g_iinc (nx := 117) hX 5 (nI (k + 1)) dX11_least_114 rfl rfl rfl (nI_1 k) ?_
            refine g_goto (nx := 38) hX dX11_least_117 (by decide) ?_
            exact ih1
          · rw [hk] at h67
            refine g_aload_n (nx := 71) hX 0 dX11_least_70 rfl rfl rfl ?_
            refine g_iload (nx := 73) hX 5 dX11_least_71 rfl rfl ?_
            refine g_V1 (nx := 76) hX dX11_least_73 rfl mX11_331 yX11_totalOf_ok (c_X11_totalOf hn (by omega) hs (hm k (by omega)).1 (hF k) ht) (ga_dn hn rfl) rfl rfl rfl (by decide) rfl (Nat.le_of_ble_eq_true rfl) (Nat.le_of_ble_eq_true rfl) ?_
            rintro _ _ ⟨rfl, rfl⟩
            refine g_aload_n (nx := 77) hX 0 dX11_least_76 rfl rfl rfl ?_
            refine g_iload_n (nx := 78) hX 3 dX11_least_77 rfl rfl rfl ?_
            refine g_V1 (nx := 81) hX dX11_least_78 rfl mX11_331 yX11_totalOf_ok (c_X11_totalOf hn (by omega) hs (hm r hr).1 (hF r) ht) (ga_dn hn rfl) rfl rfl rfl (by decide) rfl (Nat.le_of_ble_eq_true rfl) (Nat.le_of_ble_eq_true rfl) ?_
            rintro _ _ ⟨rfl, rfl⟩
            refine g_lcmp (nx := 82) hX dX11_least_81 rfl ?_
            refine g_if_lt (nx := 85) hX 106 dX11_least_82 (by decide) rfl (fun h82 => ?_) (fun h82 => ?_)
            · rw [if_pos ⟨⟨h57, h67⟩, Or.inl ((lg_cmp_lt _ _).mp h82)⟩] at ih1
              refine g_iconst (nx := 107) hX 1 dX11_least_106 rfl (by decide) ?_
              refine g_goto (nx := 111) hX dX11_least_107 (by decide) ?_
              refine g_iadd (nx := 112) hX dX11_least_111 rfl ?_
              rw [nI_1]
              refine g_istore (nx := 114) hX 4 dX11_least_112 rfl rfl ?_
              refine g_iinc (nx := 117) hX 5 (nI (k + 1)) dX11_least_114 rfl rfl rfl (nI_1 k) ?_
              refine g_goto (nx := 38) hX dX11_least_117 (by decide) ?_
              exact ih1
            · have hx1 : ¬ s_tt (F k) < s_tt (F r) := fun z => h82 ((lg_cmp_lt _ _).mpr z)
              refine g_aload_n (nx := 86) hX 0 dX11_least_85 rfl rfl rfl ?_
              refine g_iload (nx := 88) hX 5 dX11_least_86 rfl rfl ?_
              refine g_V1 (nx := 91) hX dX11_least_88 rfl mX11_331 yX11_totalOf_ok (c_X11_totalOf hn (by omega) hs (hm k (by omega)).1 (hF k) ht) (ga_dn hn rfl) rfl rfl rfl (by decide) rfl (Nat.le_of_ble_eq_true rfl) (Nat.le_of_ble_eq_true rfl) ?_
              rintro _ _ ⟨rfl, rfl⟩
              refine g_aload_n (nx := 92) hX 0 dX11_least_91 rfl rfl rfl ?_
              refine g_iload_n (nx := 93) hX 3 dX11_least_92 rfl rfl rfl ?_
              refine g_V1 (nx := 96) hX dX11_least_93 rfl mX11_331 yX11_totalOf_ok (c_X11_totalOf hn (by omega) hs (hm r hr).1 (hF r) ht) (ga_dn hn rfl) rfl rfl rfl (by decide) rfl (Nat.le_of_ble_eq_true rfl) (Nat.le_of_ble_eq_true rfl) ?_
              rintro _ _ ⟨rfl, rfl⟩
              refine g_lcmp (nx := 97) hX dX11_least_96 rfl ?_
              refine g_if_ne (nx := 100) hX 110 dX11_least_97 (by decide) rfl (fun h97 => ?_) (fun h97 => ?_)
              · rw [if_neg (fun z => z.2.elim hx1 (fun y => h97 ((lg_cmp_eq _ _).mpr y.1)))] at ih1
                refine g_iconst (nx := 111) hX 0 dX11_least_110 rfl (by decide) ?_
                refine g_iadd (nx := 112) hX dX11_least_111 rfl ?_
                rw [Int32.add_zero]
                refine g_istore (nx := 114) hX 4 dX11_least_112 rfl rfl ?_
                refine g_iinc (nx := 117) hX 5 (nI (k + 1)) dX11_least_114 rfl rfl rfl (nI_1 k) ?_
                refine g_goto (nx := 38) hX dX11_least_117 (by decide) ?_
                exact ih1
              · refine g_iload (nx := 102) hX 5 dX11_least_100 rfl rfl ?_
                refine g_iload_n (nx := 103) hX 3 dX11_least_102 rfl rfl rfl ?_
                refine g_icmp_ge (nx := 106) hX 110 dX11_least_103 (by decide) rfl (fun h103 => ?_) (fun h103 => ?_)
                · rw [if_neg (fun z => z.2.elim hx1 (fun y => by have := (nI_leI (by omega) (by omega)).mp h103; omega))] at ih1
                  refine g_iconst (nx := 111) hX 0 dX11_least_110 rfl (by decide) ?_
                  refine g_iadd (nx := 112) hX dX11_least_111 rfl ?_
                  rw [Int32.add_zero]
                  refine g_istore (nx := 114) hX 4 dX11_least_112 rfl rfl ?_
                  refine g_iinc (nx := 117) hX 5 (nI (k + 1)) dX11_least_114 rfl rfl rfl (nI_1 k) ?_
                  refine g_goto (nx := 38) hX dX11_least_117 (by decide) ?_
                  exact ih1
                · rw [if_pos ⟨⟨h57, h67⟩, Or.inr ⟨(lg_cmp_eq _ _).mp h97, Nat.lt_of_not_le (fun z => h103 (nI_le z (by omega)))⟩⟩] at ih1
                  refine g_iconst (nx := 107) hX 1 dX11_least_106 rfl (by decide) ?_
                  refine g_goto (nx := 111) hX dX11_least_107 (by decide) ?_
                  refine g_iadd (nx := 112) hX dX11_least_111 rfl ?_
                  rw [nI_1]
                  refine g_istore (nx := 114) hX 4 dX11_least_112 rfl rfl ?_
                  refine g_iinc (nx := 117) hX 5 (nI (k + 1)) dX11_least_114 rfl rfl rfl (nI_1 k) ?_
                  refine g_goto (nx := 38) hX dX11_least_117 (by decide) ?_
                  exact ih1
  have loop : ∀ (m k : Nat), k ≤ rn → rn - k = m → m_le tm F rn v a = m_ls (fun r => decide (p_in tm F v r ∧ m_nl tm F v r rn = a)) (fun r => s_tt (F r)) rn m → ga_G E X 0 0 2 [some (.ref 79), some (.int v), some (.int (nI a)), some (.int (nI k)), none, none] [] (n, L1, ((m_O o_tp (nI rn) (nI fn) (em) (sp) (nI an) (ask) (nI sm) (tt_) o_at o_sz o_fk o_fp o_nw o_md o_nt o_pl o_op) :: m80 :: ga_i 24 tm :: ga_i 30 mt :: ga_i 30 ou :: ga_i 32 ah :: ga_i 401 mw :: ga_i 401 mq :: ga_i 401 mf :: ga_i 401 ma :: ga_i 401 mb :: ga_i 401 ms_ :: ga_i 18 ta :: ga_i 120 af :: ga_i 24 fo :: ga_i 25 bo :: ga_i 1300 sg :: m96 :: m97 :: m98 :: m99 :: m100 :: m101 :: m102 :: ga_l 310 hp :: ga_l 576 gv :: ga_z 24 io :: []), f) := by
    intro m
    induction m with
    | zero =>
      intro k g1 g2 g3
      have e : k = rn := by omega
      subst e
      refine g_iload_n (nx := 3) hX 3 dX11_least_2 rfl rfl rfl ?_
      refine g_aload_n (nx := 4) hX 0 dX11_least_3 rfl rfl rfl ?_
      refine g_getfield (nx := 7) hX dX11_least_4 rfl fX11_17 (ga_dn hn rfl) rfl rfl ?_
      refine g_icmp_ge (nx := 10) hX 138 dX11_least_7 (by decide) rfl (fun h7 => ?_) (fun h7 => ?_)
      · refine g_ldc2_w (nx := 141) hX 10000 dX11_least_138 rfl kX11_345 ?_
        exact g_lreturn hX hP dX11_least_141 (Nat.le_of_ble_eq_true rfl) (Nat.le_of_ble_eq_true rfl) ⟨by rw [g3]; rfl, rfl⟩
      · exact absurd (nI_le (Nat.le_refl k) (by omega)) h7
    | succ m ih =>
      intro k g1 g2 g3
      have e : rn - (m + 1) = k := by omega
      rw [m_ls, e] at g3
      have hk := (hm k (by omega)).2
      have hle := m_nl_le tm F v k rn
      have nxt : ¬ (p_in tm F v k ∧ m_nl tm F v k rn = a) → ∀ o4 o5, ga_G E X 0 0 132 [some (.ref 79), some (.int v), some (.int (nI a)), some (.int (nI k)), o4, o5] [] (n, L1, ((m_O o_tp (nI rn) (nI fn) (em) (sp) (nI an) (ask) (nI sm) (tt_) o_at o_sz o_fk o_fp o_nw o_md o_nt o_pl o_op) :: m80 :: ga_i 24 tm :: ga_i 30 mt :: ga_i 30 ou :: ga_i 32 ah :: ga_i 401 mw :: ga_i 401 mq :: ga_i 401 mf :: ga_i 401 ma :: ga_i 401 mb :: ga_i 401 ms_ :: ga_i 18 ta :: ga_i 120 af :: ga_i 24 fo :: ga_i 25 bo :: ga_i 1300 sg :: m96 :: m97 :: m98 :: m99 :: m100 :: m101 :: m102 :: ga_l 310 hp :: ga_l 576 gv :: ga_z 24 io :: []), f) := by
        intro hc o4 o5
        rw [if_neg (fun z => hc (of_decide_eq_true z))] at g3
        refine g_iinc (nx := 135) hX 3 (nI (k + 1)) dX11_least_132 rfl rfl rfl (nI_1 k) ?_
        refine g_goto (nx := 2) hX dX11_least_135 (by decide) ?_
        exact g_ls (ih (k + 1) (by omega) (by omega) g3) ⟨rfl, rfl, rfl, rfl, trivial⟩
      have t120 : p_in tm F v k → ga_G E X 0 0 120 [some (.ref 79), some (.int v), some (.int (nI a)), some (.int (nI k)), some (.int (nI (m_nl tm F v k rn))), none] [] (n, L1, ((m_O o_tp (nI rn) (nI fn) (em) (sp) (nI an) (ask) (nI sm) (tt_) o_at o_sz o_fk o_fp o_nw o_md o_nt o_pl o_op) :: m80 :: ga_i 24 tm :: ga_i 30 mt :: ga_i 30 ou :: ga_i 32 ah :: ga_i 401 mw :: ga_i 401 mq :: ga_i 401 mf :: ga_i 401 ma :: ga_i 401 mb :: ga_i 401 ms_ :: ga_i 18 ta :: ga_i 120 af :: ga_i 24 fo :: ga_i 25 bo :: ga_i 1300 sg :: m96 :: m97 :: m98 :: m99 :: m100 :: m101 :: m102 :: ga_l 310 hp :: ga_l 576 gv :: ga_z 24 io :: []), f) := by
        intro hp_
        refine g_iload (nx := 122) hX 4 dX11_least_120 rfl rfl ?_
        refine g_iload_n (nx := 123) hX 2 dX11_least_122 rfl rfl rfl ?_
        refine g_icmp_ne (nx := 126) hX 132 dX11_least_123 (by decide) rfl (fun h123 => ?_) (fun h123 => ?_)
        · exact nxt (fun z => h123 (by rw [z.2])) _ _
        · refine g_aload_n (nx := 127) hX 0 dX11_least_126 rfl rfl rfl ?_
          refine g_iload_n (nx := 128) hX 3 dX11_least_127 rfl rfl rfl ?_
          refine g_V1 (nx := 131) hX dX11_least_128 rfl mX11_331 yX11_totalOf_ok (c_X11_totalOf hn (by omega) hs (hm k (by omega)).1 (hF k) ht) (ga_dn hn rfl) rfl rfl rfl (by decide) rfl (Nat.le_of_ble_eq_true rfl) (Nat.le_of_ble_eq_true rfl) ?_
          rintro _ _ ⟨rfl, rfl⟩
          exact g_lreturn hX hP dX11_least_131 (Nat.le_of_ble_eq_true rfl) (Nat.le_of_ble_eq_true rfl) ⟨by rw [g3, if_pos (decide_eq_true ⟨hp_, nI_inj h123 (by omega) (by omega)⟩)], rfl⟩
      refine g_iload_n (nx := 3) hX 3 dX11_least_2 rfl rfl rfl ?_
      refine g_aload_n (nx := 4) hX 0 dX11_least_3 rfl rfl rfl ?_
      refine g_getfield (nx := 7) hX dX11_least_4 rfl fX11_17 (ga_dn hn rfl) rfl rfl ?_
      refine g_icmp_ge (nx := 10) hX 138 dX11_least_7 (by decide) rfl (fun h7 => ?_) (fun h7 => ?_)
      · exact absurd ((nI_leI (by omega) (by omega)).mp h7) (by omega)
      · refine g_aload_n (nx := 11) hX 0 dX11_least_10 rfl rfl rfl ?_
        refine g_getfield (nx := 14) hX dX11_least_11 rfl fX11_20 (ga_dn hn rfl) rfl rfl ?_
        refine g_iload_n (nx := 15) hX 3 dX11_least_14 rfl rfl rfl ?_
        refine g_iaload (nx := 16) hX dX11_least_15 rfl (ga_dn hn rfl) rfl (ga_ix_of (j := k) rfl (by omega) (by omega)) ?_
        refine g_iload_n (nx := 17) hX 1 dX11_least_16 rfl rfl rfl ?_
        refine g_icmp_ne (nx := 20) hX 132 dX11_least_17 (by decide) rfl (fun h17 => ?_) (fun h17 => ?_)
        · exact nxt (fun z => h17 z.1.1) _ _
        · refine g_aload_n (nx := 21) hX 0 dX11_least_20 rfl rfl rfl ?_
          refine g_getfield (nx := 24) hX dX11_least_21 rfl fX11_142 (ga_dn hn rfl) rfl rfl ?_
          refine g_iload_n (nx := 25) hX 3 dX11_least_24 rfl rfl rfl ?_
          refine g_zaload (nx := 26) hX dX11_least_25 rfl (ga_dn hn rfl) rfl (ga_ix_of (j := k) rfl (by omega) (by omega)) ?_
          refine g_if_eq (nx := 29) hX 32 dX11_least_26 (by decide) rfl (fun h26 => ?_) (fun h26 => ?_)
          · rw [hk] at h26
            refine g_iconst (nx := 33) hX 0 dX11_least_32 rfl (by decide) ?_
            refine g_istore (nx := 35) hX 4 dX11_least_33 rfl rfl ?_
            refine g_iconst (nx := 36) hX 0 dX11_least_35 rfl (by decide) ?_
            refine g_istore (nx := 38) hX 5 dX11_least_36 rfl rfl ?_
            exact inner k (by omega) ⟨h17, h26⟩ (t120 ⟨h17, h26⟩) rn 0 (by omega) (by omega)
          · rw [hk] at h26
            refine g_goto (nx := 132) hX dX11_least_29 (by decide) ?_
            exact nxt (fun z => h26 z.1.2) _ _
  refine g_iconst (nx := 1) hX 0 dX11_least_0 rfl (by decide) ?_
  refine g_istore_n (nx := 2) hX 3 dX11_least_1 rfl rfl rfl ?_
  exact loop rn 0 (by omega) (by omega) rfl
theorem c_X11_teamOf (hn : 106 ≤ n) (hrn : rn ≤ 24) (hs : sm ≤ 24) (hm : m_rk F rn sm gv io) (hF : ∀ r, s_tt (F r) = s_tot (s_v (F r)) tot) (ht : e_tt tot tt_ sm) : ga_Mx E 2 yX11_teamOf cX11_teamOf 2 (some .long) 0 0 [.ref 79, .int v] (n, L1, ((m_O o_tp (nI rn) (nI fn) (em) (sp) (nI an) (ask) (nI sm) (tt_) o_at o_sz o_fk o_fp o_nw o_md o_nt o_pl o_op) :: m80 :: ga_i 24 tm :: ga_i 30 mt :: ga_i 30 ou :: ga_i 32 ah :: ga_i 401 mw :: ga_i 401 mq :: ga_i 401 mf :: ga_i 401 ma :: ga_i 401 mb :: ga_i 401 ms_ :: ga_i 18 ta :: ga_i 120 af :: ga_i 24 fo :: ga_i 25 bo :: ga_i 1300 sg :: m96 :: m97 :: m98 :: m99 :: m100 :: m101 :: m102 :: ga_l 310 hp :: ga_l 576 gv :: ga_z 24 io :: []), f) (some (.long (m_to tm F rn v))) (n, L1, ((m_O o_tp (nI rn) (nI fn) (em) (sp) (nI an) (ask) (nI sm) (tt_) o_at o_sz o_fk o_fp o_nw o_md o_nt o_pl o_op) :: m80 :: ga_i 24 tm :: ga_i 30 mt :: ga_i 30 ou :: ga_i 32 ah :: ga_i 401 mw :: ga_i 401 mq :: ga_i 401 mf :: ga_i 401 ma :: ga_i 401 mb :: ga_i 401 ms_ :: ga_i 18 ta :: ga_i 120 af :: ga_i 24 fo :: ga_i 25 bo :: ga_i 1300 sg :: m96 :: m97 :: m98 :: m99 :: m100 :: m101 :: m102 :: ga_l 310 hp :: ga_l 576 gv :: ga_z 24 io :: []), f) := by
  refine ga_Mt.of (by decide) rfl (fun X hX hP => ?_)
  refine g_less [some (.ref 79), some (.int v)] ⟨rfl, rfl, trivial⟩ ?_
  refine g_aload_n (nx := 1) hX 0 dX11_teamOf_0 rfl rfl rfl ?_
  refine g_iload_n (nx := 2) hX 1 dX11_teamOf_1 rfl rfl rfl ?_
  refine g_iconst (nx := 3) hX 0 dX11_teamOf_2 rfl (by decide) ?_
  refine g_V2 (nx := 6) hX dX11_teamOf_3 rfl mX11_347 yX11_least_ok (c_X11_least (a := 0) hn hrn hs (by omega) hm hF ht) (ga_dn hn rfl) rfl rfl rfl (by decide) rfl (Nat.le_of_ble_eq_true rfl) (Nat.le_of_ble_eq_true rfl) ?_
  rintro _ _ ⟨rfl, rfl⟩
  refine g_aload_n (nx := 7) hX 0 dX11_teamOf_6 rfl rfl rfl ?_
  refine g_iload_n (nx := 8) hX 1 dX11_teamOf_7 rfl rfl rfl ?_
  refine g_iconst (nx := 9) hX 1 dX11_teamOf_8 rfl (by decide) ?_
  refine g_V2 (nx := 12) hX dX11_teamOf_9 rfl mX11_347 yX11_least_ok (c_X11_least (a := 1) hn hrn hs (by omega) hm hF ht) (ga_dn hn rfl) rfl rfl rfl (by decide) rfl (Nat.le_of_ble_eq_true rfl) (Nat.le_of_ble_eq_true rfl) ?_
  rintro _ _ ⟨rfl, rfl⟩
  refine g_ladd (nx := 13) hX dX11_teamOf_12 rfl ?_
  refine g_aload_n (nx := 14) hX 0 dX11_teamOf_13 rfl rfl rfl ?_
  refine g_iload_n (nx := 15) hX 1 dX11_teamOf_14 rfl rfl rfl ?_
  refine g_iconst (nx := 16) hX 2 dX11_teamOf_15 rfl (by decide) ?_
  refine g_V2 (nx := 19) hX dX11_teamOf_16 rfl mX11_347 yX11_least_ok (c_X11_least (a := 2) hn hrn hs (by omega) hm hF ht) (ga_dn hn rfl) rfl rfl rfl (by decide) rfl (Nat.le_of_ble_eq_true rfl) (Nat.le_of_ble_eq_true rfl) ?_
  rintro _ _ ⟨rfl, rfl⟩
  refine g_ladd (nx := 20) hX dX11_teamOf_19 rfl ?_
  exact g_lreturn hX hP dX11_teamOf_20 (Nat.le_of_ble_eq_true rfl) (Nat.le_of_ble_eq_true rfl) ⟨rfl, rfl⟩
theorem c_X11_team (hn : 106 ≤ n) (H : m_H (mw, mq, mf, ma, mb, ms_) ah mt em sp an rn fn (cd, en, fo, sm, tot) sg bo) (htt : e_tt tot tt_ sm) (hT : (if ask = -1 then nI an else ask) = nI t) (ht : t ≤ an) : ga_Mt E 5 yX11_team cX11_team 2 (some .long) 0 0 [.ref 79, .int v] (n, L1, ((m_O o_tp (nI rn) (nI fn) (em) (sp) (nI an) (ask) (nI sm) (tt_) o_at o_sz o_fk o_fp o_nw o_md o_nt o_pl o_op) :: m80 :: ga_i 24 tm :: ga_i 30 mt :: ga_i 30 ou :: ga_i 32 ah :: ga_i 401 mw :: ga_i 401 mq :: ga_i 401 mf :: ga_i 401 ma :: ga_i 401 mb :: ga_i 401 ms_ :: ga_i 18 ta :: ga_i 120 af :: ga_i 24 fo :: ga_i 25 bo :: ga_i 1300 sg :: m96 :: m97 :: m98 :: m99 :: m100 :: m101 :: m102 :: ga_l 310 hp :: ga_l 576 gv :: ga_z 24 io :: []), f)
    (fun o M => o = some (.long (if (0 ≤ v ∧ v ≤ 5) ∧ 0 < r_c tm v rn then m_to tm (b_F (mw, mq, mf, ma, mb, ms_) ah ou (w_op (w_s mt fn) em sp) fn cd en fo sm tot t) rn v else -1)) ∧ ∃ ta af hp gv io, M = (n, L1, ((m_O o_tp (nI rn) (nI fn) (em) (sp) (nI an) (ask) (nI sm) (tt_) o_at o_sz o_fk o_fp o_nw o_md o_nt o_pl o_op) :: m80 :: ga_i 24 tm :: ga_i 30 mt :: ga_i 30 ou :: ga_i 32 ah :: ga_i 401 mw :: ga_i 401 mq :: ga_i 401 mf :: ga_i 401 ma :: ga_i 401 mb :: ga_i 401 ms_ :: ga_i 18 ta :: ga_i 120 af :: ga_i 24 fo :: ga_i 25 bo :: ga_i 1300 sg :: m96 :: m97 :: m98 :: m99 :: m100 :: m101 :: m102 :: ga_l 310 hp :: ga_l 576 gv :: ga_z 24 io :: []), f)) := by
  have hr := H.2.1
  have hs : sm ≤ 24 := H.2.2.2.2.2.2.2.2.2.2.1
  refine ga_Mt.of (by decide) rfl (fun X hX hP => ?_)
  refine g_less [some (.ref 79), some (.int v)] ⟨rfl, rfl, trivial⟩ ?_
  refine g_iload_n (nx := 1) hX 1 dX11_team_0 rfl rfl rfl ?_
  refine g_iconst (nx := 2) hX 0 dX11_team_1 rfl (by decide) ?_
  refine g_iconst (nx := 3) hX 5 dX11_team_2 rfl (by decide) ?_
  refine g_S3 (nx := 6) hX dX11_team_3 rfl mX11_149 yX11_is_ok (c_X11_is) (by decide) rfl (Nat.le_of_ble_eq_true rfl) (Nat.le_of_ble_eq_true rfl) ?_
  rintro _ _ ⟨rfl, rfl⟩
  refine g_if_eq (nx := 9) hX 17 dX11_team_6 (by decide) rfl (fun h6 => ?_) (fun h6 => ?_)
  · have hv := ga_b_0 h6
    refine g_ldc2_w (nx := 20) hX (-1) dX11_team_17 rfl kX11_353 ?_
    exact g_lreturn hX hP dX11_team_20 (Nat.le_of_ble_eq_true rfl) (Nat.le_of_ble_eq_true rfl) ⟨by rw [if_neg (fun z => hv z.1)], ta, af, hp, gv, io, rfl⟩
  · have hv := ga_b_n0 h6
    refine g_aload_n (nx := 10) hX 0 dX11_team_9 rfl rfl rfl ?_
    refine g_iload_n (nx := 11) hX 1 dX11_team_10 rfl rfl rfl ?_
    refine g_V1 (nx := 14) hX dX11_team_11 rfl mX11_350 yX11_hasRiders_ok (c_X11_hasRiders hn hr) (ga_dn hn rfl) rfl rfl rfl (by decide) rfl (Nat.le_of_ble_eq_true rfl) (Nat.le_of_ble_eq_true rfl) ?_
    rintro _ _ ⟨rfl, rfl⟩
    refine g_if_ne (nx := 17) hX 21 dX11_team_14 (by decide) rfl (fun h14 => ?_) (fun h14 => ?_)
    · have hw := ga_b_n0 h14
      refine g_aload_n (nx := 22) hX 0 dX11_team_21 rfl rfl rfl ?_
      refine g_aload_n (nx := 23) hX 0 dX11_team_22 rfl rfl rfl ?_
      refine g_V0 (nx := 26) hX dX11_team_23 rfl mX11_179 yX11_known_ok (c_X11_known hn) (ga_dn hn rfl) rfl rfl rfl (by decide) rfl (Nat.le_of_ble_eq_true rfl) (Nat.le_of_ble_eq_true rfl) ?_
      rintro _ _ ⟨rfl, rfl⟩
      rw [hT]
      refine g_V1 (nx := 29) hX dX11_team_26 rfl mX11_335 yX11_reckons_ok (c_X11_reckons hn H ht) (ga_dn hn rfl) rfl rfl rfl (by decide) rfl (Nat.le_of_ble_eq_true rfl) (Nat.le_of_ble_eq_true rfl) ?_
      rintro _ _ ⟨rfl, ta', af', hp', gv', io', hk, rfl⟩
      refine g_aload_n (nx := 30) hX 0 dX11_team_29 rfl rfl rfl ?_
      refine g_iload_n (nx := 31) hX 1 dX11_team_30 rfl rfl rfl ?_
      refine g_V1 (nx := 34) hX dX11_team_31 rfl mX11_355 yX11_teamOf_ok (c_X11_teamOf hn hr hs hk (fun _ => F_tt) htt) (ga_dn hn rfl) rfl rfl rfl (by decide) rfl (Nat.le_of_ble_eq_true rfl) (Nat.le_of_ble_eq_true rfl) ?_
      rintro _ _ ⟨rfl, rfl⟩
      exact g_lreturn hX hP dX11_team_34 (Nat.le_of_ble_eq_true rfl) (Nat.le_of_ble_eq_true rfl) ⟨by rw [if_pos ⟨hv, hw.1⟩], ta', af', hp', gv', io', rfl⟩
    · have hw := ga_b_0 h14
      refine g_ldc2_w (nx := 20) hX (-1) dX11_team_17 rfl kX11_353 ?_
      exact g_lreturn hX hP dX11_team_20 (Nat.le_of_ble_eq_true rfl) (Nat.le_of_ble_eq_true rfl) ⟨by rw [if_neg (fun z => hw ⟨z.2, z.1.1⟩)], ta, af, hp, gv, io, rfl⟩
theorem c_X11_teamPlace (hn : 106 ≤ n) (H : m_H (mw, mq, mf, ma, mb, ms_) ah mt em sp an rn fn (cd, en, fo, sm, tot) sg bo) (htt : e_tt tot tt_ sm) (hT : (if ask = -1 then nI an else ask) = nI t) (ht : t ≤ an) : ga_Mt E 5 yX11_teamPlace cX11_teamPlace 5 (some .int) 0 0 [.ref 79, .int v] (n, L1, ((m_O o_tp (nI rn) (nI fn) (em) (sp) (nI an) (ask) (nI sm) (tt_) o_at o_sz o_fk o_fp o_nw o_md o_nt o_pl o_op) :: m80 :: ga_i 24 tm :: ga_i 30 mt :: ga_i 30 ou :: ga_i 32 ah :: ga_i 401 mw :: ga_i 401 mq :: ga_i 401 mf :: ga_i 401 ma :: ga_i 401 mb :: ga_i 401 ms_ :: ga_i 18 ta :: ga_i 120 af :: ga_i 24 fo :: ga_i 25 bo :: ga_i 1300 sg :: m96 :: m97 :: m98 :: m99 :: m100 :: m101 :: m102 :: ga_l 310 hp :: ga_l 576 gv :: ga_z 24 io :: []), f)
    (fun o M => o = some (.int (if (0 ≤ v ∧ v ≤ 5) ∧ 0 < r_c tm v rn then nI (m_tp tm (b_F (mw, mq, mf, ma, mb, ms_) ah ou (w_op (w_s mt fn) em sp) fn cd en fo sm tot t) rn v 6) else -1)) ∧ ∃ ta af hp gv io, M = (n, L1, ((m_O o_tp (nI rn) (nI fn) (em) (sp) (nI an) (ask) (nI sm) (tt_) o_at o_sz o_fk o_fp o_nw o_md o_nt o_pl o_op) :: m80 :: ga_i 24 tm :: ga_i 30 mt :: ga_i 30 ou :: ga_i 32 ah :: ga_i 401 mw :: ga_i 401 mq :: ga_i 401 mf :: ga_i 401 ma :: ga_i 401 mb :: ga_i 401 ms_ :: ga_i 18 ta :: ga_i 120 af :: ga_i 24 fo :: ga_i 25 bo :: ga_i 1300 sg :: m96 :: m97 :: m98 :: m99 :: m100 :: m101 :: m102 :: ga_l 310 hp :: ga_l 576 gv :: ga_z 24 io :: []), f)) := by
  have hr := H.2.1
  have hs : sm ≤ 24 := H.2.2.2.2.2.2.2.2.2.2.1
  refine ga_Mt.of (by decide) rfl (fun X hX hP => ?_)
  refine g_less [some (.ref 79), some (.int v), none, none, none] ⟨rfl, rfl, trivial⟩ ?_
  have loop : ((0 ≤ v ∧ v ≤ 5) ∧ 0 < r_c tm v rn) → ∀ (ta af : Nat → Int32) (hp gv : Nat → Int64) (io : Nat → Int32), m_rk (b_F (mw, mq, mf, ma, mb, ms_) ah ou (w_op (w_s mt fn) em sp) fn cd en fo sm tot t) rn sm gv io → ∀ (m k : Nat), k ≤ 6 → 6 - k = m → ga_G E X 0 0 31 [some (.ref 79), some (.int v), some (.int (nI (m_tp tm (b_F (mw, mq, mf, ma, mb, ms_) ah ou (w_op (w_s mt fn) em sp) fn cd en fo sm tot t) rn v k))), some (.int (nI k)), none] [] (n, L1, ((m_O o_tp (nI rn) (nI fn) (em) (sp) (nI an) (ask) (nI sm) (tt_) o_at o_sz o_fk o_fp o_nw o_md o_nt o_pl o_op) :: m80 :: ga_i 24 tm :: ga_i 30 mt :: ga_i 30 ou :: ga_i 32 ah :: ga_i 401 mw :: ga_i 401 mq :: ga_i 401 mf :: ga_i 401 ma :: ga_i 401 mb :: ga_i 401 ms_ :: ga_i 18 ta :: ga_i 120 af :: ga_i 24 fo :: ga_i 25 bo :: ga_i 1300 sg :: m96 :: m97 :: m98 :: m99 :: m100 :: m101 :: m102 :: ga_l 310 hp :: ga_l 576 gv :: ga_z 24 io :: []), f) := by
    intro hv ta af hp gv io hk m
    have hF : ∀ r, s_tt (b_F (mw, mq, mf, ma, mb, ms_) ah ou (w_op (w_s mt fn) em sp) fn cd en fo sm tot t r) = s_tot (s_v (b_F (mw, mq, mf, ma, mb, ms_) ah ou (w_op (w_s mt fn) em sp) fn cd en fo sm tot t r)) tot := fun _ => F_tt
    induction m with
    | zero =>
      intro k g1 g2
      have e : k = 6 := by omega
      subst e
      refine g_iload_n (nx := 32) hX 3 dX11_teamPlace_31 rfl rfl rfl ?_
      refine g_bipush (nx := 34) hX 6 dX11_teamPlace_32 rfl (by decide) ?_
      refine g_icmp_ge (nx := 37) hX 115 dX11_teamPlace_34 (by decide) rfl (fun h34 => ?_) (fun h34 => ?_)
      · refine g_iload_n (nx := 116) hX 2 dX11_teamPlace_115 rfl rfl rfl ?_
        exact g_ireturn hX hP dX11_teamPlace_116 rfl (Nat.le_of_ble_eq_true rfl) (Nat.le_of_ble_eq_true rfl) ⟨by rw [if_pos hv], ta, af, hp, gv, io, rfl⟩
      · exact absurd (show (6 : Int32) ≤ nI 6 by decide) h34
    | succ m ih =>
      intro k g1 g2
      have ih1 := ih (k + 1) (by omega) (by omega)
      rw [m_tp] at ih1
      have t96 : ∀ (b : Int32), (b = 0 ↔ ¬ m_ahd tm (b_F (mw, mq, mf, ma, mb, ms_) ah ou (w_op (w_s mt fn) em sp) fn cd en fo sm tot t) rn v k) → ga_G E X 0 0 96 [some (.ref 79), some (.int v), some (.int (nI (m_tp tm (b_F (mw, mq, mf, ma, mb, ms_) ah ou (w_op (w_s mt fn) em sp) fn cd en fo sm tot t) rn v k))), some (.int (nI k)), some (.int b)] [] (n, L1, ((m_O o_tp (nI rn) (nI fn) (em) (sp) (nI an) (ask) (nI sm) (tt_) o_at o_sz o_fk o_fp o_nw o_md o_nt o_pl o_op) :: m80 :: ga_i 24 tm :: ga_i 30 mt :: ga_i 30 ou :: ga_i 32 ah :: ga_i 401 mw :: ga_i 401 mq :: ga_i 401 mf :: ga_i 401 ma :: ga_i 401 mb :: ga_i 401 ms_ :: ga_i 18 ta :: ga_i 120 af :: ga_i 24 fo :: ga_i 25 bo :: ga_i 1300 sg :: m96 :: m97 :: m98 :: m99 :: m100 :: m101 :: m102 :: ga_l 310 hp :: ga_l 576 gv :: ga_z 24 io :: []), f) := by
        intro b hb
        refine g_iload_n (nx := 97) hX 2 dX11_teamPlace_96 rfl rfl rfl ?_
        refine g_iload (nx := 99) hX 4 dX11_teamPlace_97 rfl rfl ?_
        refine g_if_eq (nx := 102) hX 106 dX11_teamPlace_99 (by decide) rfl (fun h99 => ?_) (fun h99 => ?_)
        · rw [if_neg (hb.mp h99)] at ih1
          refine g_iconst (nx := 107) hX 0 dX11_teamPlace_106 rfl (by decide) ?_
          refine g_iadd (nx := 108) hX dX11_teamPlace_107 rfl ?_
          rw [Int32.add_zero]
          refine g_istore_n (nx := 109) hX 2 dX11_teamPlace_108 rfl rfl rfl ?_
          refine g_iinc (nx := 112) hX 3 (nI (k + 1)) dX11_teamPlace_109 rfl rfl rfl (nI_1 k) ?_
          refine g_goto (nx := 31) hX dX11_teamPlace_112 (by decide) ?_
          exact g_ls ih1 ⟨rfl, rfl, rfl, rfl, trivial⟩
        · rw [if_pos (Classical.not_not.mp (fun z => h99 (hb.mpr z)))] at ih1
          refine g_iconst (nx := 103) hX 1 dX11_teamPlace_102 rfl (by decide) ?_
          refine g_goto (nx := 107) hX dX11_teamPlace_103 (by decide) ?_
          refine g_iadd (nx := 108) hX dX11_teamPlace_107 rfl ?_
          rw [nI_1]
          refine g_istore_n (nx := 109) hX 2 dX11_teamPlace_108 rfl rfl rfl ?_
          refine g_iinc (nx := 112) hX 3 (nI (k + 1)) dX11_teamPlace_109 rfl rfl rfl (nI_1 k) ?_
          refine g_goto (nx := 31) hX dX11_teamPlace_112 (by decide) ?_
          exact g_ls ih1 ⟨rfl, rfl, rfl, rfl, trivial⟩
      refine g_iload_n (nx := 32) hX 3 dX11_teamPlace_31 rfl rfl rfl ?_
      refine g_bipush (nx := 34) hX 6 dX11_teamPlace_32 rfl (by decide) ?_
      refine g_icmp_ge (nx := 37) hX 115 dX11_teamPlace_34 (by decide) rfl (fun h34 => ?_) (fun h34 => ?_)
      · exact absurd ((nI_leI (a := 6) (by omega) (by omega)).mp h34) (by omega)
      · refine g_aload_n (nx := 38) hX 0 dX11_teamPlace_37 rfl rfl rfl ?_
        refine g_iload_n (nx := 39) hX 3 dX11_teamPlace_38 rfl rfl rfl ?_
        refine g_V1 (nx := 42) hX dX11_teamPlace_39 rfl mX11_350 yX11_hasRiders_ok (c_X11_hasRiders hn hr) (ga_dn hn rfl) rfl rfl rfl (by decide) rfl (Nat.le_of_ble_eq_true rfl) (Nat.le_of_ble_eq_true rfl) ?_
        rintro _ _ ⟨rfl, rfl⟩
        refine g_if_eq (nx := 45) hX 93 dX11_teamPlace_42 (by decide) rfl (fun h42 => ?_) (fun h42 => ?_)
        · have hw := ga_b_0 h42
          refine g_iconst (nx := 94) hX 0 dX11_teamPlace_93 rfl (by decide) ?_
          refine g_istore (nx := 96) hX 4 dX11_teamPlace_94 rfl rfl ?_
          exact t96 0 ⟨fun _ z => hw ⟨z.1, nI_pos' (by omega)⟩, fun _ => rfl⟩
        · have hw := ga_b_n0 h42
          refine g_aload_n (nx := 46) hX 0 dX11_teamPlace_45 rfl rfl rfl ?_
          refine g_iload_n (nx := 47) hX 3 dX11_teamPlace_46 rfl rfl rfl ?_
          refine g_V1 (nx := 50) hX dX11_teamPlace_47 rfl mX11_355 yX11_teamOf_ok (c_X11_teamOf hn hr hs hk hF htt) (ga_dn hn rfl) rfl rfl rfl (by decide) rfl (Nat.le_of_ble_eq_true rfl) (Nat.le_of_ble_eq_true rfl) ?_
          rintro _ _ ⟨rfl, rfl⟩
          refine g_aload_n (nx := 51) hX 0 dX11_teamPlace_50 rfl rfl rfl ?_
          refine g_iload_n (nx := 52) hX 1 dX11_teamPlace_51 rfl rfl rfl ?_
          refine g_V1 (nx := 55) hX dX11_teamPlace_52 rfl mX11_355 yX11_teamOf_ok (c_X11_teamOf hn hr hs hk hF htt) (ga_dn hn rfl) rfl rfl rfl (by decide) rfl (Nat.le_of_ble_eq_true rfl) (Nat.le_of_ble_eq_true rfl) ?_
          rintro _ _ ⟨rfl, rfl⟩
          refine g_lcmp (nx := 56) hX dX11_teamPlace_55 rfl ?_
          refine g_if_lt (nx := 59) hX 89 dX11_teamPlace_56 (by decide) rfl (fun h56 => ?_) (fun h56 => ?_)
          · have hx1 := (lg_cmp_lt _ _).mp h56
            refine g_iconst (nx := 90) hX 1 dX11_teamPlace_89 rfl (by decide) ?_
            refine g_goto (nx := 94) hX dX11_teamPlace_90 (by decide) ?_
            refine g_istore (nx := 96) hX 4 dX11_teamPlace_94 rfl rfl ?_
            exact t96 1 ⟨fun z => absurd z (by decide), fun z => absurd ⟨hw.1, Or.inl hx1⟩ z⟩
          · have hx1 := fun z => h56 ((lg_cmp_lt _ _).mpr z)
            refine g_aload_n (nx := 60) hX 0 dX11_teamPlace_59 rfl rfl rfl ?_
            refine g_iload_n (nx := 61) hX 3 dX11_teamPlace_60 rfl rfl rfl ?_
            refine g_V1 (nx := 64) hX dX11_teamPlace_61 rfl mX11_355 yX11_teamOf_ok (c_X11_teamOf hn hr hs hk hF htt) (ga_dn hn rfl) rfl rfl rfl (by decide) rfl (Nat.le_of_ble_eq_true rfl) (Nat.le_of_ble_eq_true rfl) ?_
            rintro _ _ ⟨rfl, rfl⟩
            refine g_aload_n (nx := 65) hX 0 dX11_teamPlace_64 rfl rfl rfl ?_
            refine g_iload_n (nx := 66) hX 1 dX11_teamPlace_65 rfl rfl rfl ?_
            refine g_V1 (nx := 69) hX dX11_teamPlace_66 rfl mX11_355 yX11_teamOf_ok (c_X11_teamOf hn hr hs hk hF htt) (ga_dn hn rfl) rfl rfl rfl (by decide) rfl (Nat.le_of_ble_eq_true rfl) (Nat.le_of_ble_eq_true rfl) ?_
            rintro _ _ ⟨rfl, rfl⟩
            refine g_lcmp (nx := 70) hX dX11_teamPlace_69 rfl ?_
            refine g_if_ne (nx := 73) hX 93 dX11_teamPlace_70 (by decide) rfl (fun h70 => ?_) (fun h70 => ?_)
            · have hx2 := fun z => h70 ((lg_cmp_eq _ _).mpr z)
              refine g_iconst (nx := 94) hX 0 dX11_teamPlace_93 rfl (by decide) ?_
              refine g_istore (nx := 96) hX 4 dX11_teamPlace_94 rfl rfl ?_
              exact t96 0 ⟨fun _ z => z.2.elim hx1 (fun y => hx2 y.1), fun _ => rfl⟩
            · have hx2 := (lg_cmp_eq _ _).mp h70
              refine g_aload_n (nx := 74) hX 0 dX11_teamPlace_73 rfl rfl rfl ?_
              refine g_iload_n (nx := 75) hX 3 dX11_teamPlace_74 rfl rfl rfl ?_
              refine g_iconst (nx := 76) hX 0 dX11_teamPlace_75 rfl (by decide) ?_
              refine g_V2 (nx := 79) hX dX11_teamPlace_76 rfl mX11_347 yX11_least_ok (c_X11_least (a := 0) hn hr hs (by omega) hk hF htt) (ga_dn hn rfl) rfl rfl rfl (by decide) rfl (Nat.le_of_ble_eq_true rfl) (Nat.le_of_ble_eq_true rfl) ?_
              rintro _ _ ⟨rfl, rfl⟩
              refine g_aload_n (nx := 80) hX 0 dX11_teamPlace_79 rfl rfl rfl ?_
              refine g_iload_n (nx := 81) hX 1 dX11_teamPlace_80 rfl rfl rfl ?_
              refine g_iconst (nx := 82) hX 0 dX11_teamPlace_81 rfl (by decide) ?_
              refine g_V2 (nx := 85) hX dX11_teamPlace_82 rfl mX11_347 yX11_least_ok (c_X11_least (a := 0) hn hr hs (by omega) hk hF htt) (ga_dn hn rfl) rfl rfl rfl (by decide) rfl (Nat.le_of_ble_eq_true rfl) (Nat.le_of_ble_eq_true rfl) ?_
              rintro _ _ ⟨rfl, rfl⟩
              refine g_lcmp (nx := 86) hX dX11_teamPlace_85 rfl ?_
              refine g_if_ge (nx := 89) hX 93 dX11_teamPlace_86 (by decide) rfl (fun h86 => ?_) (fun h86 => ?_)
              · have hx3 := l_len ((lg_cmp_ge _ _).mp h86)
                refine g_iconst (nx := 94) hX 0 dX11_teamPlace_93 rfl (by decide) ?_
                refine g_istore (nx := 96) hX 4 dX11_teamPlace_94 rfl rfl ?_
                exact t96 0 ⟨fun _ z => z.2.elim hx1 (fun y => hx3 y.2), fun _ => rfl⟩
              · have hx3 := l_nle (fun z => h86 ((lg_cmp_ge _ _).mpr z))
                refine g_iconst (nx := 90) hX 1 dX11_teamPlace_89 rfl (by decide) ?_
                refine g_goto (nx := 94) hX dX11_teamPlace_90 (by decide) ?_
                refine g_istore (nx := 96) hX 4 dX11_teamPlace_94 rfl rfl ?_
                exact t96 1 ⟨fun z => absurd z (by decide), fun z => absurd ⟨hw.1, Or.inr ⟨hx2, hx3⟩⟩ z⟩
  refine g_iload_n (nx := 1) hX 1 dX11_teamPlace_0 rfl rfl rfl ?_
  refine g_iconst (nx := 2) hX 0 dX11_teamPlace_1 rfl (by decide) ?_
  refine g_iconst (nx := 3) hX 5 dX11_teamPlace_2 rfl (by decide) ?_
  refine g_S3 (nx := 6) hX dX11_teamPlace_3 rfl mX11_149 yX11_is_ok (c_X11_is) (by decide) rfl (Nat.le_of_ble_eq_true rfl) (Nat.le_of_ble_eq_true rfl) ?_
  rintro _ _ ⟨rfl, rfl⟩
  refine g_if_eq (nx := 9) hX 17 dX11_teamPlace_6 (by decide) rfl (fun h6 => ?_) (fun h6 => ?_)
  · have hv := ga_b_0 h6
    refine g_iconst (nx := 18) hX (-1) dX11_teamPlace_17 rfl (by decide) ?_
    exact g_ireturn hX hP dX11_teamPlace_18 rfl (Nat.le_of_ble_eq_true rfl) (Nat.le_of_ble_eq_true rfl) ⟨by rw [if_neg (fun z => hv z.1)], ta, af, hp, gv, io, rfl⟩
  · have hv := ga_b_n0 h6
    refine g_aload_n (nx := 10) hX 0 dX11_teamPlace_9 rfl rfl rfl ?_
    refine g_iload_n (nx := 11) hX 1 dX11_teamPlace_10 rfl rfl rfl ?_
    refine g_V1 (nx := 14) hX dX11_teamPlace_11 rfl mX11_350 yX11_hasRiders_ok (c_X11_hasRiders hn hr) (ga_dn hn rfl) rfl rfl rfl (by decide) rfl (Nat.le_of_ble_eq_true rfl) (Nat.le_of_ble_eq_true rfl) ?_
    rintro _ _ ⟨rfl, rfl⟩
    refine g_if_ne (nx := 17) hX 19 dX11_teamPlace_14 (by decide) rfl (fun h14 => ?_) (fun h14 => ?_)
    · have hw := ga_b_n0 h14
      refine g_aload_n (nx := 20) hX 0 dX11_teamPlace_19 rfl rfl rfl ?_
      refine g_aload_n (nx := 21) hX 0 dX11_teamPlace_20 rfl rfl rfl ?_
      refine g_V0 (nx := 24) hX dX11_teamPlace_21 rfl mX11_179 yX11_known_ok (c_X11_known hn) (ga_dn hn rfl) rfl rfl rfl (by decide) rfl (Nat.le_of_ble_eq_true rfl) (Nat.le_of_ble_eq_true rfl) ?_
      rintro _ _ ⟨rfl, rfl⟩
      rw [hT]
      refine g_V1 (nx := 27) hX dX11_teamPlace_24 rfl mX11_335 yX11_reckons_ok (c_X11_reckons hn H ht) (ga_dn hn rfl) rfl rfl rfl (by decide) rfl (Nat.le_of_ble_eq_true rfl) (Nat.le_of_ble_eq_true rfl) ?_
      rintro _ _ ⟨rfl, ta', af', hp', gv', io', hk, rfl⟩
      refine g_iconst (nx := 28) hX 1 dX11_teamPlace_27 rfl (by decide) ?_
      refine g_istore_n (nx := 29) hX 2 dX11_teamPlace_28 rfl rfl rfl ?_
      refine g_iconst (nx := 30) hX 0 dX11_teamPlace_29 rfl (by decide) ?_
      refine g_istore_n (nx := 31) hX 3 dX11_teamPlace_30 rfl rfl rfl ?_
      exact loop ⟨hv, hw.1⟩ ta' af' hp' gv' io' hk 6 0 (by omega) (by omega)
    · have hw := ga_b_0 h14
      refine g_iconst (nx := 18) hX (-1) dX11_teamPlace_17 rfl (by decide) ?_
      exact g_ireturn hX hP dX11_teamPlace_18 rfl (Nat.le_of_ble_eq_true rfl) (Nat.le_of_ble_eq_true rfl) ⟨by rw [if_neg (fun z => hw ⟨z.2, z.1.1⟩)], ta, af, hp, gv, io, rfl⟩
end
