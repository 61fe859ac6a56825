/-! ===== ring of the reference ===== -/
section
variable {E : ga_E} {X : ga_X} {n : Nat} {c0 c1 c2 c3 c4 c5 c6 c7 c8 c9 c10 c11 c12 c13 c14 c15 c16 c17 c18 c19 c20 c21 c22 c23 c24 c25 c26 c27 c28 c29 c30 m79 m80 m81 m82 m83 m84 m85 m86 m87 m88 m89 m90 m91 m92 m93 m94 m95 m96 m97 m98 m99 m100 m101 m102 m103 m104 m105 : ga_C} {L1 L2 : List ga_C} {f : Nat → ga_C} {o_tp o_rd o_fe o_em o_sp o_ac o_td o_sm o_tt o_at o_sz o_fk o_fp o_nw o_md o_nt o_pl o_op d_at d_tk d_ta d_fd d_fa : Int32} {d_tv : Int64} {d_rl : Value}
variable {em sp ask tt_ : Int32} {rn fn an sm r q t : Nat} {tm mt ou ah mw mq mf ma mb ms_ ta af fo bo sg io : Nat → Int32} {hp gv : Nat → Int64}
variable {cd : Nat → Nat × Nat} {en : Nat → Nat} {vals : Nat → Int64} {tot : Int32} {F : Nat → sh_S} {v w : Int32}
theorem c_X11_ring (hn : 106 ≤ n) (H : m_H (mw, mq, mf, ma, mb, ms_) ah mt em sp an rn fn (cd, en, fo, sm, tot) sg bo) (htt : e_tt tot tt_ sm) (hT : (if ask = -1 then nI an else ask) = nI t) (ht : t ≤ an) : ga_Mt E 5 yX11_ring cX11_ring 5 (some .int) 0 0 [.ref 79, .int v] (n, L1, ((m_O o_tp (nI rn) (nI fn) (em) (sp) (nI an) (ask) (nI sm) (tt_) o_at o_sz o_fk o_fp o_nw o_md o_nt o_pl o_op) :: m80 :: ga_i 24 tm :: ga_i 30 mt :: ga_i 30 ou :: ga_i 32 ah :: ga_i 401 mw :: ga_i 401 mq :: ga_i 401 mf :: ga_i 401 ma :: ga_i 401 mb :: ga_i 401 ms_ :: ga_i 18 ta :: ga_i 120 af :: ga_i 24 fo :: ga_i 25 bo :: ga_i 1300 sg :: m96 :: m97 :: m98 :: m99 :: m100 :: m101 :: m102 :: ga_l 310 hp :: ga_l 576 gv :: ga_z 24 io :: []), f)
    (fun o M => o = some (.int (m_rg (p_pl fo sm rn (b_F (mw, mq, mf, ma, mb, ms_) ah ou (w_op (w_s mt fn) em sp) fn cd en fo sm tot t)) (b_F (mw, mq, mf, ma, mb, ms_) ah ou (w_op (w_s mt fn) em sp) fn cd en fo sm tot t) rn v)) ∧ ∃ ta af hp gv io, M = (n, L1, ((m_O o_tp (nI rn) (nI fn) (em) (sp) (nI an) (ask) (nI sm) (tt_) o_at o_sz o_fk o_fp o_nw o_md o_nt o_pl o_op) :: m80 :: ga_i 24 tm :: ga_i 30 mt :: ga_i 30 ou :: ga_i 32 ah :: ga_i 401 mw :: ga_i 401 mq :: ga_i 401 mf :: ga_i 401 ma :: ga_i 401 mb :: ga_i 401 ms_ :: ga_i 18 ta :: ga_i 120 af :: ga_i 24 fo :: ga_i 25 bo :: ga_i 1300 sg :: m96 :: m97 :: m98 :: m99 :: m100 :: m101 :: m102 :: ga_l 310 hp :: ga_l 576 gv :: ga_z 24 io :: []), f)) := by
  have hr := H.2.1
  have hs : sm ≤ 24 := H.2.2.2.2.2.2.2.2.2.2.1
  refine ga_Mt.of (by decide) rfl (fun X hX hP => ?_)
  refine g_less [some (.ref 79), some (.int v), none, none, none] ⟨rfl, rfl, trivial⟩ ?_
  have go : ∀ (ta af : Nat → Int32) (hp gv : Nat → Int64) (io : Nat → Int32), m_rk (b_F (mw, mq, mf, ma, mb, ms_) ah ou (w_op (w_s mt fn) em sp) fn cd en fo sm tot t) rn sm gv io → ga_G E X 0 0 10 [some (.ref 79), some (.int v), some (.int (nI 0)), none, none] [] (n, L1, ((m_O o_tp (nI rn) (nI fn) (em) (sp) (nI an) (ask) (nI sm) (tt_) o_at o_sz o_fk o_fp o_nw o_md o_nt o_pl o_op) :: m80 :: ga_i 24 tm :: ga_i 30 mt :: ga_i 30 ou :: ga_i 32 ah :: ga_i 401 mw :: ga_i 401 mq :: ga_i 401 mf :: ga_i 401 ma :: ga_i 401 mb :: ga_i 401 ms_ :: ga_i 18 ta :: ga_i 120 af :: ga_i 24 fo :: ga_i 25 bo :: ga_i 1300 sg :: m96 :: m97 :: m98 :: m99 :: m100 :: m101 :: m102 :: ga_l 310 hp :: ga_l 576 gv :: ga_z 24 io :: []), f) := by
    intro ta af hp gv io hm
    have hF : ∀ r, s_tt (b_F (mw, mq, mf, ma, mb, ms_) ah ou (w_op (w_s mt fn) em sp) fn cd en fo sm tot t r) = s_tot (s_v (b_F (mw, mq, mf, ma, mb, ms_) ah ou (w_op (w_s mt fn) em sp) fn cd en fo sm tot t r)) tot := fun _ => F_tt
    revert hm hF hP
    generalize b_F (mw, mq, mf, ma, mb, ms_) ah ou (w_op (w_s mt fn) em sp) fn cd en fo sm tot t = F
    intro hP hm hF
    have inner : ∀ (r : Nat), r < rn → ga_G E X 0 0 102 [some (.ref 79), some (.int v), some (.int (nI r)), some (.int (nI (m_nr (p_pl fo sm rn F) F r rn))), none] [] (n, L1, ((m_O o_tp (nI rn) (nI fn) (em) (sp) (nI an) (ask) (nI sm) (tt_) o_at o_sz o_fk o_fp o_nw o_md o_nt o_pl o_op) :: m80 :: ga_i 24 tm :: ga_i 30 mt :: ga_i 30 ou :: ga_i 32 ah :: ga_i 401 mw :: ga_i 401 mq :: ga_i 401 mf :: ga_i 401 ma :: ga_i 401 mb :: ga_i 401 ms_ :: ga_i 18 ta :: ga_i 120 af :: ga_i 24 fo :: ga_i 25 bo :: ga_i 1300 sg :: m96 :: m97 :: m98 :: m99 :: m100 :: m101 :: m102 :: ga_l 310 hp :: ga_l 576 gv :: ga_z 24 io :: []), f) → ∀ (m k : Nat), k ≤ rn → rn - k = m → ga_G E X 0 0 35 [some (.ref 79), some (.int v), some (.int (nI r)), some (.int (nI (m_nr (p_pl fo sm rn F) F r k))), some (.int (nI k))] [] (n, L1, ((m_O o_tp (nI rn) (nI fn) (em) (sp) (nI an) (ask) (nI sm) (tt_) o_at o_sz o_fk o_fp o_nw o_md o_nt o_pl o_op) :: m80 :: ga_i 24 tm :: ga_i 30 mt :: ga_i 30 ou :: ga_i 32 ah :: ga_i 401 mw :: ga_i 401 mq :: ga_i 401 mf :: ga_i 401 ma :: ga_i 401 mb :: ga_i 401 ms_ :: ga_i 18 ta :: ga_i 120 af :: ga_i 24 fo :: ga_i 25 bo :: ga_i 1300 sg :: m96 :: m97 :: m98 :: m99 :: m100 :: m101 :: m102 :: ga_l 310 hp :: ga_l 576 gv :: ga_z 24 io :: []), f) := by
      intro r hr' kont m
      induction m with
      | zero =>
        intro k g1 g2
        have e : k = rn := by omega
        subst e
        refine g_iload (nx := 37) hX 4 dX11_ring_35 rfl rfl ?_
        refine g_aload_n (nx := 38) hX 0 dX11_ring_37 rfl rfl rfl ?_
        refine g_getfield (nx := 41) hX dX11_ring_38 rfl fX11_17 (ga_dn hn rfl) rfl rfl ?_
        refine g_icmp_ge (nx := 44) hX 102 dX11_ring_41 (by decide) rfl (fun h41 => ?_) (fun h41 => ?_)
        · exact g_ls kont ⟨rfl, rfl, rfl, rfl, trivial⟩
        · exact absurd (nI_le (Nat.le_refl k) (by omega)) h41
      | succ m ih =>
        intro k g1 g2
        have ih1 := ih (k + 1) (by omega) (by omega)
        rw [m_nr] at ih1
        have hk := (hm k (by omega)).2
        refine g_iload (nx := 37) hX 4 dX11_ring_35 rfl rfl ?_
        refine g_aload_n (nx := 38) hX 0 dX11_ring_37 rfl rfl rfl ?_
        refine g_getfield (nx := 41) hX dX11_ring_38 rfl fX11_17 (ga_dn hn rfl) rfl rfl ?_
        refine g_icmp_ge (nx := 44) hX 102 dX11_ring_41 (by decide) rfl (fun h41 => ?_) (fun h41 => ?_)
        · exact absurd ((nI_leI (by omega) (by omega)).mp h41) (by omega)
        · refine g_iload_n (nx := 45) hX 3 dX11_ring_44 rfl rfl rfl ?_
          refine g_aload_n (nx := 46) hX 0 dX11_ring_45 rfl rfl rfl ?_
          refine g_getfield (nx := 49) hX dX11_ring_46 rfl fX11_142 (ga_dn hn rfl) rfl rfl ?_
          refine g_iload (nx := 51) hX 4 dX11_ring_49 rfl rfl ?_
          refine g_zaload (nx := 52) hX dX11_ring_51 rfl (ga_dn hn rfl) rfl (ga_ix_of (j := k) rfl (by omega) (by omega)) ?_
          refine g_if_ne (nx := 55) hX 93 dX11_ring_52 (by decide) rfl (fun h52 => ?_) (fun h52 => ?_)
          · rw [hk] at h52
            rw [if_neg (fun z => h52 z.1)] at ih1
            refine g_iconst (nx := 94) hX 0 dX11_ring_93 rfl (by decide) ?_
            refine g_iadd (nx := 95) hX dX11_ring_94 rfl ?_
            rw [Int32.add_zero]
            refine g_istore_n (nx := 96) hX 3 dX11_ring_95 rfl rfl rfl ?_
            refine g_iinc (nx := 99) hX 4 (nI (k + 1)) dX11_ring_96 rfl rfl rfl (nI_1 k) ?_
            refine g_goto (nx := 35) hX dX11_ring_99 (by decide) ?_
            exact ih1
          · rw [hk] at h52
            refine g_aload_n (nx := 56) hX 0 dX11_ring_55 rfl rfl rfl ?_
            refine g_iload (nx := 58) hX 4 dX11_ring_56 rfl rfl ?_
            refine g_V1 (nx := 61) hX dX11_ring_58 rfl mX11_341 yX11_placeOf_ok (c_X11_placeOf hn (by omega) hr hs hm hF htt) (ga_dn hn rfl) rfl rfl rfl (by decide) rfl (Nat.le_of_ble_eq_true rfl) (Nat.le_of_ble_eq_true rfl) ?_
            rintro _ _ ⟨rfl, rfl⟩
            refine g_aload_n (nx := 62) hX 0 dX11_ring_61 rfl rfl rfl ?_
            refine g_iload_n (nx := 63) hX 2 dX11_ring_62 rfl rfl rfl ?_
            refine g_V1 (nx := 66) hX dX11_ring_63 rfl mX11_341 yX11_placeOf_ok (c_X11_placeOf hn hr' hr hs hm hF htt) (ga_dn hn rfl) rfl rfl rfl (by decide) rfl (Nat.le_of_ble_eq_true rfl) (Nat.le_of_ble_eq_true rfl) ?_
            rintro _ _ ⟨rfl, rfl⟩
            refine g_icmp_gt (nx := 69) hX 89 dX11_ring_66 (by decide) rfl (fun h66 => ?_) (fun h66 => ?_)
            · rw [if_pos ⟨h52, Or.inl h66⟩] at ih1
              refine g_iconst (nx := 90) hX 1 dX11_ring_89 rfl (by decide) ?_
              refine g_goto (nx := 94) hX dX11_ring_90 (by decide) ?_
              refine g_iadd (nx := 95) hX dX11_ring_94 rfl ?_
              rw [nI_1]
              refine g_istore_n (nx := 96) hX 3 dX11_ring_95 rfl rfl rfl ?_
              refine g_iinc (nx := 99) hX 4 (nI (k + 1)) dX11_ring_96 rfl rfl rfl (nI_1 k) ?_
              refine g_goto (nx := 35) hX dX11_ring_99 (by decide) ?_
              exact ih1
            · refine g_aload_n (nx := 70) hX 0 dX11_ring_69 rfl rfl rfl ?_
              refine g_iload (nx := 72) hX 4 dX11_ring_70 rfl rfl ?_
              refine g_V1 (nx := 75) hX dX11_ring_72 rfl mX11_341 yX11_placeOf_ok (c_X11_placeOf hn (by omega) hr hs hm hF htt) (ga_dn hn rfl) rfl rfl rfl (by decide) rfl (Nat.le_of_ble_eq_true rfl) (Nat.le_of_ble_eq_true rfl) ?_
              rintro _ _ ⟨rfl, rfl⟩
              refine g_aload_n (nx := 76) hX 0 dX11_ring_75 rfl rfl rfl ?_
              refine g_iload_n (nx := 77) hX 2 dX11_ring_76 rfl rfl rfl ?_
              refine g_V1 (nx := 80) hX dX11_ring_77 rfl mX11_341 yX11_placeOf_ok (c_X11_placeOf hn hr' hr hs hm hF htt) (ga_dn hn rfl) rfl rfl rfl (by decide) rfl (Nat.le_of_ble_eq_true rfl) (Nat.le_of_ble_eq_true rfl) ?_
              rintro _ _ ⟨rfl, rfl⟩
              refine g_icmp_ne (nx := 83) hX 93 dX11_ring_80 (by decide) rfl (fun h80 => ?_) (fun h80 => ?_)
              · rw [if_neg (fun z => z.2.elim h66 (fun y => h80 y.1))] at ih1
                refine g_iconst (nx := 94) hX 0 dX11_ring_93 rfl (by decide) ?_
                refine g_iadd (nx := 95) hX dX11_ring_94 rfl ?_
                rw [Int32.add_zero]
                refine g_istore_n (nx := 96) hX 3 dX11_ring_95 rfl rfl rfl ?_
                refine g_iinc (nx := 99) hX 4 (nI (k + 1)) dX11_ring_96 rfl rfl rfl (nI_1 k) ?_
                refine g_goto (nx := 35) hX dX11_ring_99 (by decide) ?_
                exact ih1
              · refine g_iload (nx := 85) hX 4 dX11_ring_83 rfl rfl ?_
                refine g_iload_n (nx := 86) hX 2 dX11_ring_85 rfl rfl rfl ?_
                refine g_icmp_le (nx := 89) hX 93 dX11_ring_86 (by decide) rfl (fun h86 => ?_) (fun h86 => ?_)
                · rw [if_neg (fun z => z.2.elim h66 (fun y => by have := (nI_leI (by omega) (by omega)).mp h86; omega))] at ih1
                  refine g_iconst (nx := 94) hX 0 dX11_ring_93 rfl (by decide) ?_
                  refine g_iadd (nx := 95) hX dX11_ring_94 rfl ?_
                  rw [Int32.add_zero]
                  refine g_istore_n (nx := 96) hX 3 dX11_ring_95 rfl rfl rfl ?_
                  refine g_iinc (nx := 99) hX 4 (nI (k + 1)) dX11_ring_96 rfl rfl rfl (nI_1 k) ?_
                  refine g_goto (nx := 35) hX dX11_ring_99 (by decide) ?_
                  exact ih1
                · rw [if_pos ⟨h52, Or.inr ⟨h80, Nat.lt_of_not_le (fun z => h86 (nI_le z (by omega)))⟩⟩] at ih1
                  refine g_iconst (nx := 90) hX 1 dX11_ring_89 rfl (by decide) ?_
                  refine g_goto (nx := 94) hX dX11_ring_90 (by decide) ?_
                  refine g_iadd (nx := 95) hX dX11_ring_94 rfl ?_
                  rw [nI_1]
                  refine g_istore_n (nx := 96) hX 3 dX11_ring_95 rfl rfl rfl ?_
                  refine g_iinc (nx := 99) hX 4 (nI (k + 1)) dX11_ring_96 rfl rfl rfl (nI_1 k) ?_
                  refine g_goto (nx := 35) hX dX11_ring_99 (by decide) ?_
                  exact ih1
    have loop : ∀ (m k : Nat), k ≤ rn → rn - k = m → m_rg (p_pl fo sm rn F) F rn v = p_fd (fun r => decide (s_of (F r) = 0 ∧ nI (m_nr (p_pl fo sm rn F) F r rn) = v)) rn m → ga_G E X 0 0 10 [some (.ref 79), some (.int v), some (.int (nI k)), none, none] [] (n, L1, ((m_O o_tp (nI rn) (nI fn) (em) (sp) (nI an) (ask) (nI sm) (tt_) o_at o_sz o_fk o_fp o_nw o_md o_nt o_pl o_op) :: m80 :: ga_i 24 tm :: ga_i 30 mt :: ga_i 30 ou :: ga_i 32 ah :: ga_i 401 mw :: ga_i 401 mq :: ga_i 401 mf :: ga_i 401 ma :: ga_i 401 mb :: ga_i 401 ms_ :: ga_i 18 ta :: ga_i 120 af :: ga_i 24 fo :: ga_i 25 bo :: ga_i 1300 sg :: m96 :: m97 :: m98 :: m99 :: m100 :: m101 :: m102 :: ga_l 310 hp :: ga_l 576 gv :: ga_z 24 io :: []), f) := by
      intro m
      induction m with
      | zero =>
        intro k g1 g2 g3
        have e : k = rn := by omega
        subst e
        refine g_iload_n (nx := 11) hX 2 dX11_ring_10 rfl rfl rfl ?_
        refine g_aload_n (nx := 12) hX 0 dX11_ring_11 rfl rfl rfl ?_
        refine g_getfield (nx := 15) hX dX11_ring_12 rfl fX11_17 (ga_dn hn rfl) rfl rfl ?_
        refine g_icmp_ge (nx := 18) hX 115 dX11_ring_15 (by decide) rfl (fun h15 => ?_) (fun h15 => ?_)
        · refine g_iconst (nx := 116) hX (-1) dX11_ring_115 rfl (by decide) ?_
          exact g_ireturn hX hP dX11_ring_116 rfl (Nat.le_of_ble_eq_true rfl) (Nat.le_of_ble_eq_true rfl) ⟨by rw [g3]; rfl, ta, af, hp, gv, io, rfl⟩
        · exact absurd (nI_le (Nat.le_refl k) (by omega)) h15
      | succ m ih =>
        intro k g1 g2 g3
        have e : rn - (m + 1) = k := by omega
        rw [p_fd, e] at g3
        have hk := (hm k (by omega)).2
        have nxt : ¬ (s_of (F k) = 0 ∧ nI (m_nr (p_pl fo sm rn F) F k rn) = v) → ∀ o4 o5, ga_G E X 0 0 109 [some (.ref 79), some (.int v), some (.int (nI k)), o4, o5] [] (n, L1, ((m_O o_tp (nI rn) (nI fn) (em) (sp) (nI an) (ask) (nI sm) (tt_) o_at o_sz o_fk o_fp o_nw o_md o_nt o_pl o_op) :: m80 :: ga_i 24 tm :: ga_i 30 mt :: ga_i 30 ou :: ga_i 32 ah :: ga_i 401 mw :: ga_i 401 mq :: ga_i 401 mf :: ga_i 401 ma :: ga_i 401 mb :: ga_i 401 ms_ :: ga_i 18 ta :: ga_i 120 af :: ga_i 24 fo :: ga_i 25 bo :: ga_i 1300 sg :: m96 :: m97 :: m98 :: m99 :: m100 :: m101 :: m102 :: ga_l 310 hp :: ga_l 576 gv :: ga_z 24 io :: []), f) := by
          intro hc o4 o5
          rw [if_neg (fun z => hc (of_decide_eq_true z))] at g3
          refine g_iinc (nx := 112) hX 2 (nI (k + 1)) dX11_ring_109 rfl rfl rfl (nI_1 k) ?_
          refine g_goto (nx := 10) hX dX11_ring_112 (by decide) ?_
          exact g_ls (ih (k + 1) (by omega) (by omega) g3) ⟨rfl, rfl, rfl, trivial⟩
        have t102 : s_of (F k) = 0 → ga_G E X 0 0 102 [some (.ref 79), some (.int v), some (.int (nI k)), some (.int (nI (m_nr (p_pl fo sm rn F) F k rn))), none] [] (n, L1, ((m_O o_tp (nI rn) (nI fn) (em) (sp) (nI an) (ask) (nI sm) (tt_) o_at o_sz o_fk o_fp o_nw o_md o_nt o_pl o_op) :: m80 :: ga_i 24 tm :: ga_i 30 mt :: ga_i 30 ou :: ga_i 32 ah :: ga_i 401 mw :: ga_i 401 mq :: ga_i 401 mf :: ga_i 401 ma :: ga_i 401 mb :: ga_i 401 ms_ :: ga_i 18 ta :: ga_i 120 af :: ga_i 24 fo :: ga_i 25 bo :: ga_i 1300 sg :: m96 :: m97 :: m98 :: m99 :: m100 :: m101 :: m102 :: ga_l 310 hp :: ga_l 576 gv :: ga_z 24 io :: []), f) := by
          intro h0
          refine g_iload_n (nx := 103) hX 3 dX11_ring_102 rfl rfl rfl ?_
          refine g_iload_n (nx := 104) hX 1 dX11_ring_103 rfl rfl rfl ?_
          refine g_icmp_ne (nx := 107) hX 109 dX11_ring_104 (by decide) rfl (fun h104 => ?_) (fun h104 => ?_)
          · exact nxt (fun z => h104 z.2) _ _
          · refine g_iload_n (nx := 108) hX 2 dX11_ring_107 rfl rfl rfl ?_
            exact g_ireturn hX hP dX11_ring_108 rfl (Nat.le_of_ble_eq_true rfl) (Nat.le_of_ble_eq_true rfl) ⟨by rw [g3, if_pos (decide_eq_true ⟨h0, h104⟩)], ta, af, hp, gv, io, rfl⟩
        refine g_iload_n (nx := 11) hX 2 dX11_ring_10 rfl rfl rfl ?_
        refine g_aload_n (nx := 12) hX 0 dX11_ring_11 rfl rfl rfl ?_
        refine g_getfield (nx := 15) hX dX11_ring_12 rfl fX11_17 (ga_dn hn rfl) rfl rfl ?_
        refine g_icmp_ge (nx := 18) hX 115 dX11_ring_15 (by decide) rfl (fun h15 => ?_) (fun h15 => ?_)
        · exact absurd ((nI_leI (by omega) (by omega)).mp h15) (by omega)
        · refine g_aload_n (nx := 19) hX 0 dX11_ring_18 rfl rfl rfl ?_
          refine g_getfield (nx := 22) hX dX11_ring_19 rfl fX11_142 (ga_dn hn rfl) rfl rfl ?_
          refine g_iload_n (nx := 23) hX 2 dX11_ring_22 rfl rfl rfl ?_
          refine g_zaload (nx := 24) hX dX11_ring_23 rfl (ga_dn hn rfl) rfl (ga_ix_of (j := k) rfl (by omega) (by omega)) ?_
          refine g_if_eq (nx := 27) hX 30 dX11_ring_24 (by decide) rfl (fun h24 => ?_) (fun h24 => ?_)
          · rw [hk] at h24
            refine g_iconst (nx := 31) hX 0 dX11_ring_30 rfl (by decide) ?_
            refine g_istore_n (nx := 32) hX 3 dX11_ring_31 rfl rfl rfl ?_
            refine g_iconst (nx := 33) hX 0 dX11_ring_32 rfl (by decide) ?_
            refine g_istore (nx := 35) hX 4 dX11_ring_33 rfl rfl ?_
            exact inner k (by omega) (t102 h24) rn 0 (by omega) (by omega)
          · rw [hk] at h24
            refine g_goto (nx := 109) hX dX11_ring_27 (by decide) ?_
            exact nxt (fun z => h24 z.1) _ _
    exact loop rn 0 (by omega) (by omega) rfl
  refine g_aload_n (nx := 1) hX 0 dX11_ring_0 rfl rfl rfl ?_
  refine g_aload_n (nx := 2) hX 0 dX11_ring_1 rfl rfl rfl ?_
  refine g_V0 (nx := 5) hX dX11_ring_2 rfl mX11_179 yX11_known_ok (c_X11_known hn) (ga_dn hn rfl) rfl rfl rfl (by decide) rfl (Nat.le_of_ble_eq_true rfl) (Nat.le_of_ble_eq_true rfl) ?_
  rintro _ _ ⟨rfl, rfl⟩
  rw [hT]
  refine g_V1 (nx := 8) hX dX11_ring_5 rfl mX11_335 yX11_reckons_ok (c_X11_reckons hn H ht) (ga_dn hn rfl) rfl rfl rfl (by decide) rfl (Nat.le_of_ble_eq_true rfl) (Nat.le_of_ble_eq_true rfl) ?_
  rintro _ _ ⟨rfl, ta', af', hp', gv', io', hk, rfl⟩
  refine g_iconst (nx := 9) hX 0 dX11_ring_8 rfl (by decide) ?_
  refine g_istore_n (nx := 10) hX 2 dX11_ring_9 rfl rfl rfl ?_
  exact go ta' af' hp' gv' io' hk
end
