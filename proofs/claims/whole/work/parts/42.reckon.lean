/-! ===== worksAll, reckons, totalOf, stand of the reference ===== -/
def m_H (A : w_A) (ah mt : Nat → Int32) (em sp : Int32) (an rn fn : Nat) (R : e_R) (sg bo : Nat → Int32) : Prop :=
  an ≤ 400 ∧ rn ≤ 24 ∧ fn ≤ 30 ∧ 1 ≤ sp ∧ 0 ≤ w_op (w_s mt fn) em sp ∧ (∀ k, 1 ≤ k → k ≤ an → 0 ≤ A.2.1 k → y_ok (A.2.1 k) (A.2.2.1 k)) ∧ a_sec A an ∧ w_600 ah ∧ e_sg R.1 sg ∧ e_bo R.2.1 R.2.2.2.1 bo ∧ e_Rok R.1 R.2.1 R.2.2.2.1
theorem m_F_v {A : w_A} {ah ou : Nat → Int32} {op : Int32} {fn r t : Nat} (ht : t ≤ 400) (hf : fn ≤ 30) {j : Nat} (hj : j < 15) : (m_F A ah ou op fn r t j).toInt64 = s_v (s_0 (A, ah, ou, op, fn) r t) j := by
  have hsm := y_sm_at (A := A) (ah := ah) (r := r) (t := t) t
  unfold m_F s_0 y_S
  dsimp only
  revert hsm
  generalize y_at A ah r t t = T
  obtain ⟨mr, rg, kn, lk, rt, s, fi, hd, sn⟩ := T
  rintro ⟨h1, h2, h3, h4⟩
  have hq := y_q_le (ou := ou) (s := s) (sn := sn) (fun i f => by have := h4 i f; omega) fn j
  have hq2 : 400 * fn ≤ 12000 := by omega
  show (m_f (mr, rg, kn, lk, rt, s, fi, hd, sn) (y_q ou s sn fn) op j).toInt64 = y_w (y_vt (mr, rg, kn, lk, rt, s, fi, hd, sn) op) (y_q ou s sn fn) j
  unfold m_f y_c y_w y_vt y_v
  dsimp only
  rw [if_neg (by omega), if_neg (by omega), if_neg (by omega)]
  by_cases hc : 2 ≤ j ∧ j ≤ 7 ∨ j = 11
  · rw [if_pos hc, if_pos hc, nI_l (by omega)]
  · rw [if_neg hc, if_neg hc]
    have hj2 : j = 0 ∨ j = 1 ∨ j = 8 ∨ j = 9 ∨ j = 10 ∨ j = 12 ∨ j = 13 ∨ j = 14 := by omega
    have k1 := nI_l (n := kn) (by omega)
    have k2 := nI_l (n := lk) (by omega)
    have k3 := nI_l (n := rt) (by omega)
    rcases hj2 with rfl | rfl | rfl | rfl | rfl | rfl | rfl | rfl
    · rfl
    · rfl
    · exact k1
    · exact k2
    · exact k3
    · rfl
    · rfl
    · rfl
def m_ki (F : sh_S) (sm r : Nat) (gv : Nat → Int64) (io : Nat → Int32) (gv' : Nat → Int64) (io' : Nat → Int32) : Prop :=
  (∀ i, i < sm → gv' (24 * r + i) = s_v F (15 + i)) ∧ (∀ j, j < 24 * r ∨ 24 * r + 24 ≤ j → gv' j = gv j) ∧ io' r = s_of F ∧ ∀ j, j ≠ r → io' j = io j
def m_rk (F : Nat → sh_S) (rn sm : Nat) (gv : Nat → Int64) (io : Nat → Int32) : Prop := ∀ r, r < rn → (∀ i, i < sm → gv (24 * r + i) = s_v (F r) (15 + i)) ∧ io r = s_of (F r)
def e_tt (tot tt_ : Int32) (sm : Nat) : Prop := (tot = -1 ∧ tt_ = -1) ∨ ∃ k, k < sm ∧ tt_ = nI k ∧ tot = nI (15 + k)
section
variable {E : ga_E} {X : ga_X} {n : Nat} {c0 c1 c2 c3 c4 c5 c6 c7 c8 c9 c10 c11 c12 c13 c14 c15 c16 c17 c18 c19 c20 c21 c22 c23 c24 c25 c26 c27 c28 c29 c30 m79 m80 m81 m82 m83 m84 m85 m86 m87 m88 m89 m90 m91 m92 m93 m94 m95 m96 m97 m98 m99 m100 m101 m102 m103 m104 m105 : ga_C} {L1 L2 : List ga_C} {f : Nat → ga_C} {o_tp o_rd o_fe o_em o_sp o_ac o_td o_sm o_tt o_at o_sz o_fk o_fp o_nw o_md o_nt o_pl o_op d_at d_tk d_ta d_fd d_fa : Int32} {d_tv : Int64} {d_rl : Value}
variable {em sp ask tt_ : Int32} {rn fn an sm r q t : Nat} {tm mt ou ah mw mq mf ma mb ms_ ta af fo bo sg io : Nat → Int32} {hp gv : Nat → Int64}
variable {cd : Nat → Nat × Nat} {en : Nat → Nat} {vals : Nat → Int64} {tot : Int32} {F : Nat → sh_S}
theorem c_X11_worksAll (hn : 106 ≤ n) (H : m_H (mw, mq, mf, ma, mb, ms_) ah mt em sp an rn fn (cd, en, fo, sm, tot) sg bo) (hr : r < 24) (ht : t ≤ an) : ga_Mt E 3 yX11_worksAll cX11_worksAll 4 none 0 0 [.ref 79, .int (nI r), .int (nI t)] (n, L1, ((m_O o_tp (nI rn) (nI fn) (em) (sp) (nI an) (ask) (nI sm) (tt_) o_at o_sz o_fk o_fp o_nw o_md o_nt o_pl o_op) :: m80 :: ga_i 24 tm :: ga_i 30 mt :: ga_i 30 ou :: ga_i 32 ah :: ga_i 401 mw :: ga_i 401 mq :: ga_i 401 mf :: ga_i 401 ma :: ga_i 401 mb :: ga_i 401 ms_ :: ga_i 18 ta :: ga_i 120 af :: ga_i 24 fo :: ga_i 25 bo :: ga_i 1300 sg :: m96 :: m97 :: m98 :: m99 :: m100 :: m101 :: m102 :: ga_l 310 hp :: ga_l 576 gv :: ga_z 24 io :: []), f)
    (fun w M => w = none ∧ ∃ ta af hp gv' io', m_ki (s_F ((mw, mq, mf, ma, mb, ms_), ah, ou, w_op (w_s mt fn) em sp, fn) (cd, en, fo, sm, tot) r t) sm r gv io gv' io' ∧ M = (n, L1, ((m_O o_tp (nI rn) (nI fn) (em) (sp) (nI an) (ask) (nI sm) (tt_) o_at o_sz o_fk o_fp o_nw o_md o_nt o_pl o_op) :: m80 :: ga_i 24 tm :: ga_i 30 mt :: ga_i 30 ou :: ga_i 32 ah :: ga_i 401 mw :: ga_i 401 mq :: ga_i 401 mf :: ga_i 401 ma :: ga_i 401 mb :: ga_i 401 ms_ :: ga_i 18 ta :: ga_i 120 af :: ga_i 24 fo :: ga_i 25 bo :: ga_i 1300 sg :: m96 :: m97 :: m98 :: m99 :: m100 :: m101 :: m102 :: ga_l 310 hp :: ga_l 576 gv' :: ga_z 24 io' :: []), f)) := by
  obtain ⟨H1, H2, H3, H4, H5, H6, H7, H8, H9, H10, H11⟩ := H
  have hs := H11.1
  dsimp only at hs H9 H10 H11
  have hbd : ∀ j, j < 39 → e_bd (s_v (s_0 ((mw, mq, mf, ma, mb, ms_), ah, ou, w_op (w_s mt fn) em sp, fn) r t) j) := fun j _ => s_0_bd (W := ((mw, mq, mf, ma, mb, ms_), ah, ou, w_op (w_s mt fn) em sp, fn)) (by omega) H3 j
  have hFv := fun j hj => m_F_v (A := (mw, mq, mf, ma, mb, ms_)) (ah := ah) (ou := ou) (op := w_op (w_s mt fn) em sp) (fn := fn) (r := r) (t := t) (by omega) H3 (j := j) hj
  have hF1 : s_v (s_F ((mw, mq, mf, ma, mb, ms_), ah, ou, w_op (w_s mt fn) em sp, fn) (cd, en, fo, sm, tot) r t) = e_vs cd en (s_v (s_0 ((mw, mq, mf, ma, mb, ms_), ah, ou, w_op (w_s mt fn) em sp, fn) r t)) sm := rfl
  have hF2 : s_of (s_F ((mw, mq, mf, ma, mb, ms_), ah, ou, w_op (w_s mt fn) em sp, fn) (cd, en, fo, sm, tot) r t) = e_of cd en fo (s_v (s_0 ((mw, mq, mf, ma, mb, ms_), ah, ou, w_op (w_s mt fn) em sp, fn) r t)) sm := rfl
  revert hbd hFv hF1 hF2
  generalize s_v (s_0 ((mw, mq, mf, ma, mb, ms_), ah, ou, w_op (w_s mt fn) em sp, fn) r t) = v0
  intro hbd hFv hF1 hF2
  refine ga_Mt.of (by decide) rfl (fun X hX hP => ?_)
  refine g_less [some (.ref 79), some (.int (nI r)), some (.int (nI t)), none] ⟨rfl, rfl, rfl, trivial⟩ ?_
  have loop : ∀ (m k : Nat) (hp gv' : Nat → Int64) (io' : Nat → Int32), k ≤ sm → sm - k = m → (∀ i, i < k → gv' (24 * r + i) = e_vs cd en v0 k (15 + i)) → (∀ j, j < 24 * r ∨ 24 * r + 24 ≤ j → gv' j = gv j) → io' r = e_of cd en fo v0 k → (∀ j, j ≠ r → io' j = io j) → ga_G E X 0 0 15 [some (.ref 79), some (.int (nI r)), some (.int (nI t)), some (.int (nI k))] [] (n, L1, ((m_O o_tp (nI rn) (nI fn) (em) (sp) (nI an) (ask) (nI sm) (tt_) o_at o_sz o_fk o_fp o_nw o_md o_nt o_pl o_op) :: m80 :: ga_i 24 tm :: ga_i 30 mt :: ga_i 30 ou :: ga_i 32 ah :: ga_i 401 mw :: ga_i 401 mq :: ga_i 401 mf :: ga_i 401 ma :: ga_i 401 mb :: ga_i 401 ms_ :: ga_i 18 (m_F (mw, mq, mf, ma, mb, ms_) ah ou (w_op (w_s mt fn) em sp) fn r t) :: ga_i 120 (m_af (y_at (mw, mq, mf, ma, mb, ms_) ah r t t).2.2.2.2.2.2.2.2) :: ga_i 24 fo :: ga_i 25 bo :: ga_i 1300 sg :: m96 :: m97 :: m98 :: m99 :: m100 :: m101 :: m102 :: ga_l 310 hp :: ga_l 576 gv' :: ga_z 24 io' :: []), f) := by
    intro m
    induction m with
    | zero =>
      intro k hp gv' io' h1 h2 g1 g2 g3 g4
      have e : k = sm := by omega
      subst e
      refine g_iload_n (nx := 16) hX 3 dX11_worksAll_15 rfl rfl rfl ?_
      refine g_aload_n (nx := 17) hX 0 dX11_worksAll_16 rfl rfl rfl ?_
      refine g_getfield (nx := 20) hX dX11_worksAll_17 rfl fX11_71 (ga_dn hn rfl) rfl rfl ?_
      refine g_icmp_ge (nx := 23) hX 79 dX11_worksAll_20 (by decide) rfl (fun h20 => ?_) (fun h20 => ?_)
      · exact g_return hX hP dX11_worksAll_79 (Nat.le_of_ble_eq_true rfl) (Nat.le_of_ble_eq_true rfl) ⟨rfl, _, _, hp, gv', io', ⟨by rw [hF1]; exact g1, g2, by rw [hF2]; exact g3, g4⟩, rfl⟩
      · exact absurd (nI_le (Nat.le_refl k) (by omega)) h20
    | succ m ih =>
      intro k hp gv' io' h1 h2 g1 g2 g3 g4
      have hvl : e_vl (e_vs cd en v0 k) (m_F (mw, mq, mf, ma, mb, ms_) ah ou (w_op (w_s mt fn) em sp) fn r t) gv' r k := by
        refine ⟨fun j hj => ?_, g1⟩
        rw [hFv j hj]
        have : ∀ k, e_vs cd en v0 k j = v0 j := by
          intro k
          induction k with
          | zero => rfl
          | succ k ih => rw [e_vs, pk_uLn (by omega), ih]
        rw [this]
      have eq := e_of.eq_2 cd en fo v0 k
      have vq := e_vs.eq_2 cd en v0 k
      have gn : ∀ x, x = e_val (e_vs cd en v0 k) cd (e_fr en k) (en k - e_fr en k) → (∀ i, i < k + 1 → vp_updL gv' (24 * r + k) x (24 * r + i) = e_vs cd en v0 (k + 1) (15 + i)) ∧ (∀ j, j < 24 * r ∨ 24 * r + 24 ≤ j → vp_updL gv' (24 * r + k) x j = gv j) := by
        intro x hx
        refine ⟨fun i hi => ?_, fun j hj => ?_⟩
        · rw [vq]
          by_cases e : i = k
          · rw [e, pk_uLs, pk_uLs, hx]
          · rw [pk_uLn (by omega), pk_uLn (by omega), g1 i (by omega)]
        · rw [pk_uLn (by omega)]; exact g2 j hj
      refine g_iload_n (nx := 16) hX 3 dX11_worksAll_15 rfl rfl rfl ?_
      refine g_aload_n (nx := 17) hX 0 dX11_worksAll_16 rfl rfl rfl ?_
      refine g_getfield (nx := 20) hX dX11_worksAll_17 rfl fX11_71 (ga_dn hn rfl) rfl rfl ?_
      refine g_icmp_ge (nx := 23) hX 79 dX11_worksAll_20 (by decide) rfl (fun h20 => ?_) (fun h20 => ?_)
      · exact absurd ((nI_leI (by omega) (by omega)).mp h20) (by omega)
      · refine g_aload_n (nx := 24) hX 0 dX11_worksAll_23 rfl rfl rfl ?_
        refine g_getfield (nx := 27) hX dX11_worksAll_24 rfl fX11_139 (ga_dn hn rfl) rfl rfl ?_
        refine g_bipush (nx := 29) hX 24 dX11_worksAll_27 rfl (by decide) ?_
        refine g_iload_n (nx := 30) hX 1 dX11_worksAll_29 rfl rfl rfl ?_
        refine g_imul (nx := 31) hX dX11_worksAll_30 rfl ?_
        refine g_iload_n (nx := 32) hX 3 dX11_worksAll_31 rfl rfl rfl ?_
        refine g_iadd (nx := 33) hX dX11_worksAll_32 rfl ?_
        refine g_aload_n (nx := 34) hX 0 dX11_worksAll_33 rfl rfl rfl ?_
        refine g_iload_n (nx := 35) hX 1 dX11_worksAll_34 rfl rfl rfl ?_
        refine g_iload_n (nx := 36) hX 3 dX11_worksAll_35 rfl rfl rfl ?_
        refine g_V2 (nx := 39) hX dX11_worksAll_36 rfl mX11_322 yX11_works_ok (c_X11_works hn hr (by omega) H9 H10 H11 hvl (e_vs_bd H11 hbd k (by omega))) (ga_dn hn rfl) rfl rfl rfl (by decide) rfl (Nat.le_of_ble_eq_true rfl) (Nat.le_of_ble_eq_true rfl) ?_
        rintro _ _ ⟨rfl, rfl⟩
        refine g_lastore (nx := 40) hX dX11_worksAll_39 rfl (ga_dn hn rfl) rfl (ga_ix_of (j := 24 * r + k) ix_24 (by omega) (by omega)) ?_
        refine g_aload_n (nx := 41) hX 0 dX11_worksAll_40 rfl rfl rfl ?_
        refine g_getfield (nx := 44) hX dX11_worksAll_41 rfl fX11_74 (ga_dn hn rfl) rfl rfl ?_
        refine g_iload_n (nx := 45) hX 3 dX11_worksAll_44 rfl rfl rfl ?_
        refine g_iaload (nx := 46) hX dX11_worksAll_45 rfl (ga_dn hn rfl) rfl (ga_ix_of (j := k) rfl (by omega) (by omega)) ?_
        refine g_iconst (nx := 47) hX 1 dX11_worksAll_46 rfl (by decide) ?_
        refine g_icmp_ne (nx := 50) hX 73 dX11_worksAll_47 (by decide) rfl (fun h47 => ?_) (fun h47 => ?_)
        · have e47 : io' r = e_of cd en fo v0 (k + 1) := by rw [eq, if_neg (fun z => h47 z.1)]; exact g3
          refine g_iinc (nx := 76) hX 3 (nI (k + 1)) dX11_worksAll_73 rfl rfl rfl (nI_1 k) ?_
          refine g_goto (nx := 15) hX dX11_worksAll_76 (by decide) ?_
          exact ih (k + 1) _ _ io' (by omega) (by omega) (gn _ rfl).1 (gn _ rfl).2 e47 g4
        · refine g_aload_n (nx := 51) hX 0 dX11_worksAll_50 rfl rfl rfl ?_
          refine g_getfield (nx := 54) hX dX11_worksAll_51 rfl fX11_139 (ga_dn hn rfl) rfl rfl ?_
          refine g_bipush (nx := 56) hX 24 dX11_worksAll_54 rfl (by decide) ?_
          refine g_iload_n (nx := 57) hX 1 dX11_worksAll_56 rfl rfl rfl ?_
          refine g_imul (nx := 58) hX dX11_worksAll_57 rfl ?_
          refine g_iload_n (nx := 59) hX 3 dX11_worksAll_58 rfl rfl rfl ?_
          refine g_iadd (nx := 60) hX dX11_worksAll_59 rfl ?_
          refine g_laload (nx := 61) hX dX11_worksAll_60 rfl (ga_dn hn rfl) rfl (ga_ix_of (j := 24 * r + k) ix_24 (by omega) (by omega)) ?_
          rw [pk_uLs]
          refine g_lconst (nx := 62) hX 1 dX11_worksAll_61 rfl (by decide) ?_
          refine g_lcmp (nx := 63) hX dX11_worksAll_62 rfl ?_
          refine g_if_ne (nx := 66) hX 73 dX11_worksAll_63 (by decide) rfl (fun h63 => ?_) (fun h63 => ?_)
          · have e63 : io' r = e_of cd en fo v0 (k + 1) := by rw [eq, if_neg (fun z => h63 ((lg_cmp_eq _ _).mpr z.2))]; exact g3
            refine g_iinc (nx := 76) hX 3 (nI (k + 1)) dX11_worksAll_73 rfl rfl rfl (nI_1 k) ?_
            refine g_goto (nx := 15) hX dX11_worksAll_76 (by decide) ?_
            exact ih (k + 1) _ _ io' (by omega) (by omega) (gn _ rfl).1 (gn _ rfl).2 e63 g4
          · refine g_aload_n (nx := 67) hX 0 dX11_worksAll_66 rfl rfl rfl ?_
            refine g_getfield (nx := 70) hX dX11_worksAll_67 rfl fX11_142 (ga_dn hn rfl) rfl rfl ?_
            refine g_iload_n (nx := 71) hX 1 dX11_worksAll_70 rfl rfl rfl ?_
            refine g_iconst (nx := 72) hX 1 dX11_worksAll_71 rfl (by decide) ?_
            refine g_zastore (nx := 73) hX dX11_worksAll_72 rfl (ga_dn hn rfl) rfl (ga_ix_of (j := r) rfl (by omega) (by omega)) rfl ?_
            refine g_iinc (nx := 76) hX 3 (nI (k + 1)) dX11_worksAll_73 rfl rfl rfl (nI_1 k) ?_
            refine g_goto (nx := 15) hX dX11_worksAll_76 (by decide) ?_
            exact ih (k + 1) _ _ _ (by omega) (by omega) (gn _ rfl).1 (gn _ rfl).2 (by rw [pk_us, eq, if_pos ⟨h47, (lg_cmp_eq _ _).mp h63⟩]) (fun j hj => by rw [pk_un hj]; exact g4 j hj)
  refine g_aload_n (nx := 1) hX 0 dX11_worksAll_0 rfl rfl rfl ?_
  refine g_getfield (nx := 4) hX dX11_worksAll_1 rfl fX11_142 (ga_dn hn rfl) rfl rfl ?_
  refine g_iload_n (nx := 5) hX 1 dX11_worksAll_4 rfl rfl rfl ?_
  refine g_iconst (nx := 6) hX 0 dX11_worksAll_5 rfl (by decide) ?_
  refine g_zastore (nx := 7) hX dX11_worksAll_6 rfl (ga_dn hn rfl) rfl (ga_ix_of (j := r) rfl (by omega) (by omega)) rfl ?_
  refine g_aload_n (nx := 8) hX 0 dX11_worksAll_7 rfl rfl rfl ?_
  refine g_iload_n (nx := 9) hX 1 dX11_worksAll_8 rfl rfl rfl ?_
  refine g_iload_n (nx := 10) hX 2 dX11_worksAll_9 rfl rfl rfl ?_
  refine g_V2 (nx := 13) hX dX11_worksAll_10 rfl mX11_182 yX11_tallies_ok (c_X11_tallies hn H1 ht H3 H4 H5 H6 H7 H8) (ga_dn hn rfl) rfl rfl rfl (by decide) rfl (Nat.le_of_ble_eq_true rfl) (Nat.le_of_ble_eq_true rfl) ?_
  rintro _ _ ⟨rfl, rfl⟩
  refine g_iconst (nx := 14) hX 0 dX11_worksAll_13 rfl (by decide) ?_
  refine g_istore_n (nx := 15) hX 3 dX11_worksAll_14 rfl rfl rfl ?_
  exact loop sm 0 hp gv _ (by omega) (by omega) (fun i hi => absurd hi (by omega)) (fun j _ => rfl) (by rw [pk_us]; rfl) (fun j hj => by rw [pk_un hj])
theorem c_X11_reckons (hn : 106 ≤ n) (H : m_H (mw, mq, mf, ma, mb, ms_) ah mt em sp an rn fn (cd, en, fo, sm, tot) sg bo) (ht : t ≤ an) : ga_Mt E 4 yX11_reckons cX11_reckons 3 none 0 0 [.ref 79, .int (nI t)] (n, L1, ((m_O o_tp (nI rn) (nI fn) (em) (sp) (nI an) (ask) (nI sm) (tt_) o_at o_sz o_fk o_fp o_nw o_md o_nt o_pl o_op) :: m80 :: ga_i 24 tm :: ga_i 30 mt :: ga_i 30 ou :: ga_i 32 ah :: ga_i 401 mw :: ga_i 401 mq :: ga_i 401 mf :: ga_i 401 ma :: ga_i 401 mb :: ga_i 401 ms_ :: ga_i 18 ta :: ga_i 120 af :: ga_i 24 fo :: ga_i 25 bo :: ga_i 1300 sg :: m96 :: m97 :: m98 :: m99 :: m100 :: m101 :: m102 :: ga_l 310 hp :: ga_l 576 gv :: ga_z 24 io :: []), f)
    (fun w M => w = none ∧ ∃ ta af hp gv io, m_rk (b_F (mw, mq, mf, ma, mb, ms_) ah ou (w_op (w_s mt fn) em sp) fn cd en fo sm tot t) rn sm gv io ∧ M = (n, L1, ((m_O o_tp (nI rn) (nI fn) (em) (sp) (nI an) (ask) (nI sm) (tt_) o_at o_sz o_fk o_fp o_nw o_md o_nt o_pl o_op) :: m80 :: ga_i 24 tm :: ga_i 30 mt :: ga_i 30 ou :: ga_i 32 ah :: ga_i 401 mw :: ga_i 401 mq :: ga_i 401 mf :: ga_i 401 ma :: ga_i 401 mb :: ga_i 401 ms_ :: ga_i 18 ta :: ga_i 120 af :: ga_i 24 fo :: ga_i 25 bo :: ga_i 1300 sg :: m96 :: m97 :: m98 :: m99 :: m100 :: m101 :: m102 :: ga_l 310 hp :: ga_l 576 gv :: ga_z 24 io :: []), f)) := by
  have hr := H.2.1
  have hs : sm ≤ 24 := H.2.2.2.2.2.2.2.2.2.2.1
  refine ga_Mt.of (by decide) rfl (fun X hX hP => ?_)
  refine g_less [some (.ref 79), some (.int (nI t)), none] ⟨rfl, rfl, trivial⟩ ?_
  have loop : ∀ (m k : Nat) (ta af : Nat → Int32) (hp gv : Nat → Int64) (io : Nat → Int32), k ≤ rn → rn - k = m → m_rk (b_F (mw, mq, mf, ma, mb, ms_) ah ou (w_op (w_s mt fn) em sp) fn cd en fo sm tot t) k sm gv io → ga_G E X 0 0 2 [some (.ref 79), some (.int (nI t)), some (.int (nI k))] [] (n, L1, ((m_O o_tp (nI rn) (nI fn) (em) (sp) (nI an) (ask) (nI sm) (tt_) o_at o_sz o_fk o_fp o_nw o_md o_nt o_pl o_op) :: m80 :: ga_i 24 tm :: ga_i 30 mt :: ga_i 30 ou :: ga_i 32 ah :: ga_i 401 mw :: ga_i 401 mq :: ga_i 401 mf :: ga_i 401 ma :: ga_i 401 mb :: ga_i 401 ms_ :: ga_i 18 ta :: ga_i 120 af :: ga_i 24 fo :: ga_i 25 bo :: ga_i 1300 sg :: m96 :: m97 :: m98 :: m99 :: m100 :: m101 :: m102 :: ga_l 310 hp :: ga_l 576 gv :: ga_z 24 io :: []), f) := by
    intro m
    induction m with
    | zero =>
      intro k ta af hp gv io h1 h2 h3
      have e : k = rn := by omega
      subst e
      refine g_iload_n (nx := 3) hX 2 dX11_reckons_2 rfl rfl rfl ?_
      refine g_aload_n (nx := 4) hX 0 dX11_reckons_3 rfl rfl rfl ?_
      refine g_getfield (nx := 7) hX dX11_reckons_4 rfl fX11_17 (ga_dn hn rfl) rfl rfl ?_
      refine g_icmp_ge (nx := 10) hX 22 dX11_reckons_7 (by decide) rfl (fun h7 => ?_) (fun h7 => ?_)
      · exact g_return hX hP dX11_reckons_22 (Nat.le_of_ble_eq_true rfl) (Nat.le_of_ble_eq_true rfl) ⟨rfl, ta, af, hp, gv, io, h3, rfl⟩
      · exact absurd (nI_le (Nat.le_refl k) (by omega)) h7
    | succ m ih =>
      intro k ta af hp gv io h1 h2 h3
      refine g_iload_n (nx := 3) hX 2 dX11_reckons_2 rfl rfl rfl ?_
      refine g_aload_n (nx := 4) hX 0 dX11_reckons_3 rfl rfl rfl ?_
      refine g_getfield (nx := 7) hX dX11_reckons_4 rfl fX11_17 (ga_dn hn rfl) rfl rfl ?_
      refine g_icmp_ge (nx := 10) hX 22 dX11_reckons_7 (by decide) rfl (fun h7 => ?_) (fun h7 => ?_)
      · exact absurd ((nI_leI (by omega) (by omega)).mp h7) (by omega)
      · refine g_aload_n (nx := 11) hX 0 dX11_reckons_10 rfl rfl rfl ?_
        refine g_iload_n (nx := 12) hX 2 dX11_reckons_11 rfl rfl rfl ?_
        refine g_iload_n (nx := 13) hX 1 dX11_reckons_12 rfl rfl rfl ?_
        refine g_V2 (nx := 16) hX dX11_reckons_13 rfl mX11_326 yX11_worksAll_ok (c_X11_worksAll hn H (by omega) ht) (ga_dn hn rfl) rfl rfl rfl (by decide) rfl (Nat.le_of_ble_eq_true rfl) (Nat.le_of_ble_eq_true rfl) ?_
        rintro _ _ ⟨rfl, ta', af', hp', gv', io', hk, rfl⟩
        refine g_iinc (nx := 19) hX 2 (nI (k + 1)) dX11_reckons_16 rfl rfl rfl (nI_1 k) ?_
        refine g_goto (nx := 2) hX dX11_reckons_19 (by decide) ?_
        exact ih (k + 1) ta' af' hp' gv' io' (by omega) (by omega) (fun r hr' => by
          by_cases e : r = k
          · rw [e]; exact ⟨hk.1, hk.2.2.1⟩
          · refine ⟨fun i hi => ?_, ?_⟩
            · rw [hk.2.1 _ (by omega)]; exact (h3 r (by omega)).1 i hi
            · rw [hk.2.2.2 r e]; exact (h3 r (by omega)).2)
  refine g_iconst (nx := 1) hX 0 dX11_reckons_0 rfl (by decide) ?_
  refine g_istore_n (nx := 2) hX 2 dX11_reckons_1 rfl rfl rfl ?_
  exact loop rn 0 ta af hp gv io (by omega) (by omega) (fun r hr' => absurd hr' (by omega))
theorem tt_at {v : Nat → Int64} {w : Nat → Int64} (h : e_tt tot tt_ sm) (hs : sm ≤ 24) (hv : ∀ i, i < sm → v (24 * r + i) = w (15 + i)) : (tt_ = -1 ∧ s_tot w tot = 0) ∨ ∃ k, k < sm ∧ tt_ = nI k ∧ s_tot w tot = v (24 * r + k) := by
  rcases h with ⟨e1, e2⟩ | ⟨k, hk, e1, e2⟩
  · left
    refine ⟨e2, ?_⟩
    unfold s_tot
    rw [e1, if_neg (by decide)]
  · right
    refine ⟨k, hk, e1, ?_⟩
    unfold s_tot
    rw [e2, if_pos ⟨nI_pos' (by omega), nI_le (b := 38) (by omega) (by omega)⟩, nI_clamp (by omega), hv k hk]
theorem c_X11_totalOf (hn : 106 ≤ n) (hr : r < 24) (hs : sm ≤ 24) (hm : ∀ i, i < sm → gv (24 * r + i) = s_v (F r) (15 + i)) (hF : s_tt (F r) = s_tot (s_v (F r)) tot) (ht : e_tt tot tt_ sm) : ga_Mx E 0 yX11_totalOf cX11_totalOf 2 (some .long) 0 0 [.ref 79, .int (nI r)] (n, L1, ((m_O o_tp (nI rn) (nI fn) (em) (sp) (nI an) (ask) (nI sm) (tt_) o_at o_sz o_fk o_fp o_nw o_md o_nt o_pl o_op) :: m80 :: ga_i 24 tm :: ga_i 30 mt :: ga_i 30 ou :: ga_i 32 ah :: ga_i 401 mw :: ga_i 401 mq :: ga_i 401 mf :: ga_i 401 ma :: ga_i 401 mb :: ga_i 401 ms_ :: ga_i 18 ta :: ga_i 120 af :: ga_i 24 fo :: ga_i 25 bo :: ga_i 1300 sg :: m96 :: m97 :: m98 :: m99 :: m100 :: m101 :: m102 :: ga_l 310 hp :: ga_l 576 gv :: ga_z 24 io :: []), f) (some (.long (s_tt (F r)))) (n, L1, ((m_O o_tp (nI rn) (nI fn) (em) (sp) (nI an) (ask) (nI sm) (tt_) o_at o_sz o_fk o_fp o_nw o_md o_nt o_pl o_op) :: m80 :: ga_i 24 tm :: ga_i 30 mt :: ga_i 30 ou :: ga_i 32 ah :: ga_i 401 mw :: ga_i 401 mq :: ga_i 401 mf :: ga_i 401 ma :: ga_i 401 mb :: ga_i 401 ms_ :: ga_i 18 ta :: ga_i 120 af :: ga_i 24 fo :: ga_i 25 bo :: ga_i 1300 sg :: m96 :: m97 :: m98 :: m99 :: m100 :: m101 :: m102 :: ga_l 310 hp :: ga_l 576 gv :: ga_z 24 io :: []), f) := by
  rcases tt_at ht hs hm with ⟨e1, e2⟩ | ⟨k, hk, e1, e2⟩
  · rw [hF, e2, e1]
    refine ga_Mt.of (by decide) rfl (fun X hX hP => ?_)
    refine g_less [some (.ref 79), some (.int (nI r))] ⟨rfl, rfl, trivial⟩ ?_
    refine g_aload_n (nx := 1) hX 0 dX11_totalOf_0 rfl rfl rfl ?_
    refine g_getfield (nx := 4) hX dX11_totalOf_1 rfl fX11_83 (ga_dn hn rfl) rfl rfl ?_
    refine g_iconst (nx := 5) hX (-1) dX11_totalOf_4 rfl (by decide) ?_
    refine g_icmp_ne (nx := 8) hX 12 dX11_totalOf_5 (by decide) rfl (fun h5 => ?_) (fun h5 => ?_)
    · exact absurd rfl h5
    · refine g_lconst (nx := 9) hX 0 dX11_totalOf_8 rfl (by decide) ?_
      refine g_goto (nx := 26) hX dX11_totalOf_9 (by decide) ?_
      exact g_lreturn hX hP dX11_totalOf_26 (Nat.le_of_ble_eq_true rfl) (Nat.le_of_ble_eq_true rfl) ⟨rfl, rfl⟩
  · rw [hF, e2, e1]
    have hne : ¬ nI k = -1 := nI_neg1 (by omega)
    refine ga_Mt.of (by decide) rfl (fun X hX hP => ?_)
    refine g_less [some (.ref 79), some (.int (nI r))] ⟨rfl, rfl, trivial⟩ ?_
    refine g_aload_n (nx := 1) hX 0 dX11_totalOf_0 rfl rfl rfl ?_
    refine g_getfield (nx := 4) hX dX11_totalOf_1 rfl fX11_83 (ga_dn hn rfl) rfl rfl ?_
    refine g_iconst (nx := 5) hX (-1) dX11_totalOf_4 rfl (by decide) ?_
    refine g_icmp_ne (nx := 8) hX 12 dX11_totalOf_5 (by decide) rfl (fun h5 => ?_) (fun h5 => ?_)
    · refine g_aload_n (nx := 13) hX 0 dX11_totalOf_12 rfl rfl rfl ?_
      refine g_getfield (nx := 16) hX dX11_totalOf_13 rfl fX11_139 (ga_dn hn rfl) rfl rfl ?_
      refine g_bipush (nx := 18) hX 24 dX11_totalOf_16 rfl (by decide) ?_
      refine g_iload_n (nx := 19) hX 1 dX11_totalOf_18 rfl rfl rfl ?_
      refine g_imul (nx := 20) hX dX11_totalOf_19 rfl ?_
      refine g_aload_n (nx := 21) hX 0 dX11_totalOf_20 rfl rfl rfl ?_
      refine g_getfield (nx := 24) hX dX11_totalOf_21 rfl fX11_83 (ga_dn hn rfl) rfl rfl ?_
      refine g_iadd (nx := 25) hX dX11_totalOf_24 rfl ?_
      refine g_laload (nx := 26) hX dX11_totalOf_25 rfl (ga_dn hn rfl) rfl (ga_ix_of (j := 24 * r + k) ix_24 (by omega) (by omega)) ?_
      exact g_lreturn hX hP dX11_totalOf_26 (Nat.le_of_ble_eq_true rfl) (Nat.le_of_ble_eq_true rfl) ⟨rfl, rfl⟩
    · exact absurd h5 hne
theorem c_X11_stand (hn : 106 ≤ n) (hr : r < rn) (hq : q < rn) (hrn : rn ≤ 24) (hs : sm ≤ 24) (hm : m_rk F rn sm gv io) (hF : ∀ r, s_tt (F r) = s_tot (s_v (F r)) tot) (ht : e_tt tot tt_ sm) : ga_Mx E 1 yX11_stand cX11_stand 4 (some .int) 0 0 [.ref 79, .int (nI r), .int (nI q)] (n, L1, ((m_O o_tp (nI rn) (nI fn) (em) (sp) (nI an) (ask) (nI sm) (tt_) o_at o_sz o_fk o_fp o_nw o_md o_nt o_pl o_op) :: m80 :: ga_i 24 tm :: ga_i 30 mt :: ga_i 30 ou :: ga_i 32 ah :: ga_i 401 mw :: ga_i 401 mq :: ga_i 401 mf :: ga_i 401 ma :: ga_i 401 mb :: ga_i 401 ms_ :: ga_i 18 ta :: ga_i 120 af :: ga_i 24 fo :: ga_i 25 bo :: ga_i 1300 sg :: m96 :: m97 :: m98 :: m99 :: m100 :: m101 :: m102 :: ga_l 310 hp :: ga_l 576 gv :: ga_z 24 io :: []), f) (some (.int (s_cp fo sm (F r) (F q)))) (n, L1, ((m_O o_tp (nI rn) (nI fn) (em) (sp) (nI an) (ask) (nI sm) (tt_) o_at o_sz o_fk o_fp o_nw o_md o_nt o_pl o_op) :: m80 :: ga_i 24 tm :: ga_i 30 mt :: ga_i 30 ou :: ga_i 32 ah :: ga_i 401 mw :: ga_i 401 mq :: ga_i 401 mf :: ga_i 401 ma :: ga_i 401 mb :: ga_i 401 ms_ :: ga_i 18 ta :: ga_i 120 af :: ga_i 24 fo :: ga_i 25 bo :: ga_i 1300 sg :: m96 :: m97 :: m98 :: m99 :: m100 :: m101 :: m102 :: ga_l 310 hp :: ga_l 576 gv :: ga_z 24 io :: []), f) := by
  have h1 := (hm r hr).1
  have h2 := (hm q hq).1
  have hcp : s_cp fo sm (F r) (F q) = p_cm fo (fun k => s_v (F r) (15 + k)) (fun k => s_v (F q) (15 + k)) (p_ord (s_tt (F r)) (s_tt (F q))) sm := rfl
  refine ga_Mt.of (by decide) rfl (fun X hX hP => ?_)
  refine g_less [some (.ref 79), some (.int (nI r)), some (.int (nI q)), none] ⟨rfl, rfl, rfl, trivial⟩ ?_
  have loop : s_tt (F r) = s_tt (F q) → ∀ (m k : Nat), k ≤ sm → sm - k = m → p_cm fo (fun k => s_v (F r) (15 + k)) (fun k => s_v (F q) (15 + k)) (p_ord (s_tt (F r)) (s_tt (F q))) k = 0 → ga_G E X 0 0 36 [some (.ref 79), some (.int (nI r)), some (.int (nI q)), some (.int (nI k))] [] (n, L1, ((m_O o_tp (nI rn) (nI fn) (em) (sp) (nI an) (ask) (nI sm) (tt_) o_at o_sz o_fk o_fp o_nw o_md o_nt o_pl o_op) :: m80 :: ga_i 24 tm :: ga_i 30 mt :: ga_i 30 ou :: ga_i 32 ah :: ga_i 401 mw :: ga_i 401 mq :: ga_i 401 mf :: ga_i 401 ma :: ga_i 401 mb :: ga_i 401 ms_ :: ga_i 18 ta :: ga_i 120 af :: ga_i 24 fo :: ga_i 25 bo :: ga_i 1300 sg :: m96 :: m97 :: m98 :: m99 :: m100 :: m101 :: m102 :: ga_l 310 hp :: ga_l 576 gv :: ga_z 24 io :: []), f) := by
    intro hE m
    induction m with
    | zero =>
      intro k g1 g2 g3
      have e : k = sm := by omega
      subst e
      refine g_iload_n (nx := 37) hX 3 dX11_stand_36 rfl rfl rfl ?_
      refine g_aload_n (nx := 38) hX 0 dX11_stand_37 rfl rfl rfl ?_
      refine g_getfield (nx := 41) hX dX11_stand_38 rfl fX11_71 (ga_dn hn rfl) rfl rfl ?_
      refine g_icmp_ge (nx := 44) hX 121 dX11_stand_41 (by decide) rfl (fun h41 => ?_) (fun h41 => ?_)
      · refine g_iconst (nx := 122) hX 0 dX11_stand_121 rfl (by decide) ?_
        exact g_ireturn hX hP dX11_stand_122 rfl (Nat.le_of_ble_eq_true rfl) (Nat.le_of_ble_eq_true rfl) ⟨by rw [hcp, g3], rfl⟩
      · exact absurd (nI_le (Nat.le_refl k) (by omega)) h41
    | succ m ih =>
      intro k g1 g2 g3
      have ih1 := ih (k + 1) (by omega) (by omega)
      have stay := fun hne => p_cm_stay (fo := fo) (V := fun k => s_v (F r) (15 + k)) (W := fun k => s_v (F q) (15 + k)) (o := p_ord (s_tt (F r)) (s_tt (F q))) (k := k + 1) hne sm (by omega)
      rw [p_cm, if_pos g3] at ih1 stay
      have ex := h1 k (by omega)
      have ey := h2 k (by omega)
      refine g_iload_n (nx := 37) hX 3 dX11_stand_36 rfl rfl rfl ?_
      refine g_aload_n (nx := 38) hX 0 dX11_stand_37 rfl rfl rfl ?_
      refine g_getfield (nx := 41) hX dX11_stand_38 rfl fX11_71 (ga_dn hn rfl) rfl rfl ?_
      refine g_icmp_ge (nx := 44) hX 121 dX11_stand_41 (by decide) rfl (fun h41 => ?_) (fun h41 => ?_)
      · exact absurd ((nI_leI (by omega) (by omega)).mp h41) (by omega)
      · refine g_aload_n (nx := 45) hX 0 dX11_stand_44 rfl rfl rfl ?_
        refine g_getfield (nx := 48) hX dX11_stand_45 rfl fX11_74 (ga_dn hn rfl) rfl rfl ?_
        refine g_iload_n (nx := 49) hX 3 dX11_stand_48 rfl rfl rfl ?_
        refine g_iaload (nx := 50) hX dX11_stand_49 rfl (ga_dn hn rfl) rfl (ga_ix_of (j := k) rfl (by omega) (by omega)) ?_
        refine g_iconst (nx := 51) hX 2 dX11_stand_50 rfl (by decide) ?_
        refine g_icmp_ne (nx := 54) hX 115 dX11_stand_51 (by decide) rfl (fun h51 => ?_) (fun h51 => ?_)
        · rw [if_neg h51] at ih1
          refine g_iinc (nx := 118) hX 3 (nI (k + 1)) dX11_stand_115 rfl rfl rfl (nI_1 k) ?_
          refine g_goto (nx := 36) hX dX11_stand_118 (by decide) ?_
          exact ih1 rfl
        · rw [if_pos h51] at ih1 stay
          refine g_aload_n (nx := 55) hX 0 dX11_stand_54 rfl rfl rfl ?_
          refine g_getfield (nx := 58) hX dX11_stand_55 rfl fX11_139 (ga_dn hn rfl) rfl rfl ?_
          refine g_bipush (nx := 60) hX 24 dX11_stand_58 rfl (by decide) ?_
          refine g_iload_n (nx := 61) hX 1 dX11_stand_60 rfl rfl rfl ?_
          refine g_imul (nx := 62) hX dX11_stand_61 rfl ?_
          refine g_iload_n (nx := 63) hX 3 dX11_stand_62 rfl rfl rfl ?_
          refine g_iadd (nx := 64) hX dX11_stand_63 rfl ?_
          refine g_laload (nx := 65) hX dX11_stand_64 rfl (ga_dn hn rfl) rfl (ga_ix_of (j := 24 * r + k) ix_24 (by omega) (by omega)) ?_
          refine g_aload_n (nx := 66) hX 0 dX11_stand_65 rfl rfl rfl ?_
          refine g_getfield (nx := 69) hX dX11_stand_66 rfl fX11_139 (ga_dn hn rfl) rfl rfl ?_
          refine g_bipush (nx := 71) hX 24 dX11_stand_69 rfl (by decide) ?_
          refine g_iload_n (nx := 72) hX 2 dX11_stand_71 rfl rfl rfl ?_
          refine g_imul (nx := 73) hX dX11_stand_72 rfl ?_
          refine g_iload_n (nx := 74) hX 3 dX11_stand_73 rfl rfl rfl ?_
          refine g_iadd (nx := 75) hX dX11_stand_74 rfl ?_
          refine g_laload (nx := 76) hX dX11_stand_75 rfl (ga_dn hn rfl) rfl (ga_ix_of (j := 24 * q + k) ix_24 (by omega) (by omega)) ?_
          refine g_lcmp (nx := 77) hX dX11_stand_76 rfl ?_
          refine g_if_ne (nx := 80) hX 83 dX11_stand_77 (by decide) rfl (fun h77 => ?_) (fun h77 => ?_)
          · have hne : ¬ s_v (F r) (15 + k) = s_v (F q) (15 + k) := fun z => h77 ((lg_cmp_eq _ _).mpr (by rw [ex, ey]; exact z))
            refine g_aload_n (nx := 84) hX 0 dX11_stand_83 rfl rfl rfl ?_
            refine g_getfield (nx := 87) hX dX11_stand_84 rfl fX11_139 (ga_dn hn rfl) rfl rfl ?_
            refine g_bipush (nx := 89) hX 24 dX11_stand_87 rfl (by decide) ?_
            refine g_iload_n (nx := 90) hX 1 dX11_stand_89 rfl rfl rfl ?_
            refine g_imul (nx := 91) hX dX11_stand_90 rfl ?_
            refine g_iload_n (nx := 92) hX 3 dX11_stand_91 rfl rfl rfl ?_
            refine g_iadd (nx := 93) hX dX11_stand_92 rfl ?_
            refine g_laload (nx := 94) hX dX11_stand_93 rfl (ga_dn hn rfl) rfl (ga_ix_of (j := 24 * r + k) ix_24 (by omega) (by omega)) ?_
            refine g_aload_n (nx := 95) hX 0 dX11_stand_94 rfl rfl rfl ?_
            refine g_getfield (nx := 98) hX dX11_stand_95 rfl fX11_139 (ga_dn hn rfl) rfl rfl ?_
            refine g_bipush (nx := 100) hX 24 dX11_stand_98 rfl (by decide) ?_
            refine g_iload_n (nx := 101) hX 2 dX11_stand_100 rfl rfl rfl ?_
            refine g_imul (nx := 102) hX dX11_stand_101 rfl ?_
            refine g_iload_n (nx := 103) hX 3 dX11_stand_102 rfl rfl rfl ?_
            refine g_iadd (nx := 104) hX dX11_stand_103 rfl ?_
            refine g_laload (nx := 105) hX dX11_stand_104 rfl (ga_dn hn rfl) rfl (ga_ix_of (j := 24 * q + k) ix_24 (by omega) (by omega)) ?_
            refine g_lcmp (nx := 106) hX dX11_stand_105 rfl ?_
            refine g_if_ge (nx := 109) hX 113 dX11_stand_106 (by decide) rfl (fun h106 => ?_) (fun h106 => ?_)
            · have hp0 : p_ord (s_v (F r) (15 + k)) (s_v (F q) (15 + k)) = 1 := by unfold p_ord; rw [if_neg hne, if_neg (by rw [← ex, ← ey]; exact l_len ((lg_cmp_ge _ _).mp h106))]
              refine g_iconst (nx := 114) hX 1 dX11_stand_113 rfl (by decide) ?_
              exact g_ireturn hX hP dX11_stand_114 rfl (Nat.le_of_ble_eq_true rfl) (Nat.le_of_ble_eq_true rfl) ⟨by rw [hcp, stay (by rw [hp0]; decide), hp0], rfl⟩
            · have hp0 : p_ord (s_v (F r) (15 + k)) (s_v (F q) (15 + k)) = -1 := by unfold p_ord; rw [if_neg hne, if_pos (by rw [← ex, ← ey]; exact l_nle (fun z => h106 ((lg_cmp_ge _ _).mpr z)))]
              refine g_iconst (nx := 110) hX (-1) dX11_stand_109 rfl (by decide) ?_
              refine g_goto (nx := 114) hX dX11_stand_110 (by decide) ?_
              exact g_ireturn hX hP dX11_stand_114 rfl (Nat.le_of_ble_eq_true rfl) (Nat.le_of_ble_eq_true rfl) ⟨by rw [hcp, stay (by rw [hp0]; decide), hp0], rfl⟩
          · refine g_goto (nx := 115) hX dX11_stand_80 (by decide) ?_
            refine g_iinc (nx := 118) hX 3 (nI (k + 1)) dX11_stand_115 rfl rfl rfl (nI_1 k) ?_
            refine g_goto (nx := 36) hX dX11_stand_118 (by decide) ?_
            exact ih1 (by unfold p_ord; rw [if_pos]; rw [← ex, ← ey]; exact (lg_cmp_eq _ _).mp h77)
  have st0 := fun hne => p_cm_stay (fo := fo) (V := fun k => s_v (F r) (15 + k)) (W := fun k => s_v (F q) (15 + k)) (o := p_ord (s_tt (F r)) (s_tt (F q))) (k := 0) hne sm (by omega)
  rw [p_cm] at st0
  refine g_aload_n (nx := 1) hX 0 dX11_stand_0 rfl rfl rfl ?_
  refine g_iload_n (nx := 2) hX 1 dX11_stand_1 rfl rfl rfl ?_
  refine g_V1 (nx := 5) hX dX11_stand_2 rfl mX11_331 yX11_totalOf_ok (c_X11_totalOf hn (by omega) hs h1 (hF r) ht) (ga_dn hn rfl) rfl rfl rfl (by decide) rfl (Nat.le_of_ble_eq_true rfl) (Nat.le_of_ble_eq_true rfl) ?_
  rintro _ _ ⟨rfl, rfl⟩
  refine g_aload_n (nx := 6) hX 0 dX11_stand_5 rfl rfl rfl ?_
  refine g_iload_n (nx := 7) hX 2 dX11_stand_6 rfl rfl rfl ?_
  refine g_V1 (nx := 10) hX dX11_stand_7 rfl mX11_331 yX11_totalOf_ok (c_X11_totalOf hn (by omega) hs h2 (hF q) ht) (ga_dn hn rfl) rfl rfl rfl (by decide) rfl (Nat.le_of_ble_eq_true rfl) (Nat.le_of_ble_eq_true rfl) ?_
  rintro _ _ ⟨rfl, rfl⟩
  refine g_lcmp (nx := 11) hX dX11_stand_10 rfl ?_
  refine g_if_eq (nx := 14) hX 34 dX11_stand_11 (by decide) rfl (fun h11 => ?_) (fun h11 => ?_)
  · have hE := (lg_cmp_eq _ _).mp h11
    refine g_iconst (nx := 35) hX 0 dX11_stand_34 rfl (by decide) ?_
    refine g_istore_n (nx := 36) hX 3 dX11_stand_35 rfl rfl rfl ?_
    exact loop hE sm 0 (by omega) (by omega) (by rw [p_cm]; unfold p_ord; rw [if_pos hE])
  · have hE : ¬ s_tt (F r) = s_tt (F q) := fun z => h11 ((lg_cmp_eq _ _).mpr z)
    refine g_aload_n (nx := 15) hX 0 dX11_stand_14 rfl rfl rfl ?_
    refine g_iload_n (nx := 16) hX 1 dX11_stand_15 rfl rfl rfl ?_
    refine g_V1 (nx := 19) hX dX11_stand_16 rfl mX11_331 yX11_totalOf_ok (c_X11_totalOf hn (by omega) hs h1 (hF r) ht) (ga_dn hn rfl) rfl rfl rfl (by decide) rfl (Nat.le_of_ble_eq_true rfl) (Nat.le_of_ble_eq_true rfl) ?_
    rintro _ _ ⟨rfl, rfl⟩
    refine g_aload_n (nx := 20) hX 0 dX11_stand_19 rfl rfl rfl ?_
    refine g_iload_n (nx := 21) hX 2 dX11_stand_20 rfl rfl rfl ?_
    refine g_V1 (nx := 24) hX dX11_stand_21 rfl mX11_331 yX11_totalOf_ok (c_X11_totalOf hn (by omega) hs h2 (hF q) ht) (ga_dn hn rfl) rfl rfl rfl (by decide) rfl (Nat.le_of_ble_eq_true rfl) (Nat.le_of_ble_eq_true rfl) ?_
    rintro _ _ ⟨rfl, rfl⟩
    refine g_lcmp (nx := 25) hX dX11_stand_24 rfl ?_
    refine g_if_ge (nx := 28) hX 32 dX11_stand_25 (by decide) rfl (fun h25 => ?_) (fun h25 => ?_)
    · have hp0 : p_ord (s_tt (F r)) (s_tt (F q)) = 1 := by unfold p_ord; rw [if_neg hE, if_neg (l_len ((lg_cmp_ge _ _).mp h25))]
      refine g_iconst (nx := 33) hX 1 dX11_stand_32 rfl (by decide) ?_
      exact g_ireturn hX hP dX11_stand_33 rfl (Nat.le_of_ble_eq_true rfl) (Nat.le_of_ble_eq_true rfl) ⟨by rw [hcp, st0 (by rw [hp0]; decide), hp0], rfl⟩
    · have hp0 : p_ord (s_tt (F r)) (s_tt (F q)) = -1 := by unfold p_ord; rw [if_neg hE, if_pos (l_nle (fun z => h25 ((lg_cmp_ge _ _).mpr z)))]
      refine g_iconst (nx := 29) hX (-1) dX11_stand_28 rfl (by decide) ?_
      refine g_goto (nx := 33) hX dX11_stand_29 (by decide) ?_
      exact g_ireturn hX hP dX11_stand_33 rfl (Nat.le_of_ble_eq_true rfl) (Nat.le_of_ble_eq_true rfl) ⟨by rw [hcp, st0 (by rw [hp0]; decide), hp0], rfl⟩
end
