/-! ===== the tally of the reference, whole ===== -/
theorem v_600 {a h : Int32} (h1 : 0 ≤ a ∧ a ≤ 86399) (h2 : -600 ≤ h ∧ h ≤ 600) : ¬ a - h = -1000000 := by
  intro e
  have e2 : (a - h).toInt = a.toInt - h.toInt := by
    rw [Int32.toInt_sub]
    rw [Int32.le_iff_toInt_le, Int32.le_iff_toInt_le] at h1 h2
    rw [show (0 : Int32).toInt = 0 by decide, show (86399 : Int32).toInt = 86399 by decide] at h1
    rw [show (-600 : Int32).toInt = -600 by decide, show (600 : Int32).toInt = 600 by decide] at h2
    apply Int.bmod_eq_of_le <;> omega
  rw [e] at e2
  rw [Int32.le_iff_toInt_le, Int32.le_iff_toInt_le] at h1 h2
  rw [show (0 : Int32).toInt = 0 by decide, show (86399 : Int32).toInt = 86399 by decide] at h1
  rw [show (-600 : Int32).toInt = -600 by decide, show (600 : Int32).toInt = 600 by decide] at h2
  rw [show (-1000000 : Int32).toInt = -1000000 by decide] at e2
  omega
/-- starts and finishes are seconds of the day -/
def a_sec (A : w_A) (an : Nat) : Prop := ∀ k, 1 ≤ k → k ≤ an → (A.2.1 k = 1 ∨ A.2.1 k = 2) → 0 ≤ A.2.2.2.1 k ∧ A.2.2.2.1 k ≤ 86399
def w_600 (ah : Nat → Int32) : Prop := ∀ j, j < 32 → -600 ≤ ah j ∧ ah j ≤ 600
theorem y_nz_at {A : w_A} {ah : Nat → Int32} {r t an : Nat} (hA : a_sec A an) (hah : w_600 ah) : ∀ k, k ≤ an → y_nz (y_at A ah r t k).2.2.2.2.2.1 ∧ y_nz (y_at A ah r t k).2.2.2.2.2.2.1
  | 0, _ => ⟨fun x h => (by cases h), fun x h => (by cases h)⟩
  | k + 1, hk => by
    have ih := y_nz_at (A := A) (ah := ah) (r := r) (t := t) (an := an) hA hah k (by omega)
    have hs := hA (k + 1) (by omega) hk
    obtain ⟨mw, mq, mf, ma, mb, ms⟩ := A
    rw [y_at]
    split
    · revert ih
      generalize y_at (mw, mq, mf, ma, mb, ms) ah r t k = T
      obtain ⟨mr, rg, kn, lk, rt, s, fi, hd, sn⟩ := T
      intro ih
      unfold y_st
      dsimp only at hs ⊢
      split
      · exact ih
      · split
        · rename_i h1
          exact ⟨fun x h => by cases h; exact v_600 (hs (Or.inl h1)) (hah 0 (by omega)), ih.2⟩
        · split
          · rename_i h1
            exact ⟨ih.1, fun x h => by cases h; exact v_600 (hs (Or.inr h1)) (hah 1 (by omega))⟩
          · repeat' split
            all_goals exact ih
    · exact ih
def m_F (A : w_A) (ah ou : Nat → Int32) (op : Int32) (fn r t : Nat) : Nat → Int32 := match y_at A ah r t t with
  | (mr, rg, kn, lk, rt, s, fi, hd, sn) => m_f (mr, rg, kn, lk, rt, s, fi, hd, sn) (y_q ou s sn fn) op
section
variable {E : ga_E} {X : ga_X} {n : Nat} {c0 c1 c2 c3 c4 c5 c6 c7 c8 c9 c10 c11 c12 c13 c14 c15 c16 c17 c18 c19 c20 c21 c22 c23 c24 c25 c26 c27 c28 c29 c30 m79 m80 m81 m82 m83 m84 m85 m86 m87 m88 m89 m90 m91 m92 m93 m94 m95 m96 m97 m98 m99 m100 m101 m102 m103 m104 m105 : ga_C} {L1 L2 : List ga_C} {f : Nat → ga_C} {o_tp o_rd o_fe o_em o_sp o_ac o_td o_sm o_tt o_at o_sz o_fk o_fp o_nw o_md o_nt o_pl o_op d_at d_tk d_ta d_fd d_fa : Int32} {d_tv : Int64} {d_rl : Value}
variable {mt ou ah mw mq mf ma mb ms_ : Nat → Int32} {em sp : Int32} {fn r t an : Nat} {ta0 af0 : Nat → Int32}
theorem tl_z1 {d mc ms : Nat} {q1 q2 : Int32} (hX : ga_B E d yX11_tallies cX11_tallies 6 mc ms X) (hn : 106 ≤ n)
    (kont : ga_G E X 0 0 21 [some (.ref 79), some (.int q1), some (.int q2), none, none, none] [] (n, L1, ((m_O o_tp o_rd o_fe o_em o_sp o_ac o_td o_sm o_tt o_at o_sz o_fk o_fp o_nw o_md o_nt o_pl o_op) :: m80 :: m81 :: m82 :: m83 :: m84 :: m85 :: m86 :: m87 :: m88 :: m89 :: m90 :: ga_i 18 (fun _ => 0) :: L2), f)) :
    ∀ (m k : Nat) (ta : Nat → Int32), k ≤ 18 → 18 - k ≤ m → (∀ j, j < k → ta j = 0) → ga_G E X 0 0 2 [some (.ref 79), some (.int q1), some (.int q2), some (.int (nI k)), none, none] [] (n, L1, ((m_O o_tp o_rd o_fe o_em o_sp o_ac o_td o_sm o_tt o_at o_sz o_fk o_fp o_nw o_md o_nt o_pl o_op) :: m80 :: m81 :: m82 :: m83 :: m84 :: m85 :: m86 :: m87 :: m88 :: m89 :: m90 :: ga_i 18 ta :: L2), f) := by
  intro m
  induction m with
  | zero =>
    intro k ta h1 h2 h3
    have e : k = 18 := by omega
    subst e
    refine g_iload_n (nx := 3) hX 3 dX11_tallies_2 rfl rfl rfl ?_
    refine g_bipush (nx := 5) hX 18 dX11_tallies_3 rfl (by decide) ?_
    refine g_icmp_ge (nx := 8) hX 21 dX11_tallies_5 (by decide) rfl (fun h5 => ?_) (fun h5 => ?_)
    · refine g_exti (a := 91) (f' := fun _ => 0) hX (ga_dn hn rfl) rfl (fun j hj => h3 j hj) ?_
      exact g_ls kont ⟨rfl, rfl, rfl, trivial⟩
    · exact absurd (show (18 : Int32) ≤ nI 18 by decide) h5
  | succ m ih =>
    intro k ta h1 h2 h3
    refine g_iload_n (nx := 3) hX 3 dX11_tallies_2 rfl rfl rfl ?_
    refine g_bipush (nx := 5) hX 18 dX11_tallies_3 rfl (by decide) ?_
    refine g_icmp_ge (nx := 8) hX 21 dX11_tallies_5 (by decide) rfl (fun h5 => ?_) (fun h5 => ?_)
    · have e : k = 18 := by have := (nI_leI (a := 18) (b := k) (by omega) (by omega)).mp h5; omega
      subst e
      refine g_exti (a := 91) (f' := fun _ => 0) hX (ga_dn hn rfl) rfl (fun j hj => h3 j hj) ?_
      exact g_ls kont ⟨rfl, rfl, rfl, trivial⟩
    · have hlt : k < 18 := Nat.lt_of_not_le (fun q => h5 ((nI_leI (a := 18) (b := k) (by omega) (by omega)).mpr q))
      refine g_aload_n (nx := 9) hX 0 dX11_tallies_8 rfl rfl rfl ?_
      refine g_getfield (nx := 12) hX dX11_tallies_9 rfl fX11_65 (ga_dn hn rfl) rfl rfl ?_
      refine g_iload_n (nx := 13) hX 3 dX11_tallies_12 rfl rfl rfl ?_
      refine g_iconst (nx := 14) hX 0 dX11_tallies_13 rfl (by decide) ?_
      refine g_iastore (nx := 15) hX dX11_tallies_14 rfl (ga_dn hn rfl) rfl (ga_ix_of rfl (by omega) (by omega)) ?_
      refine g_iinc (nx := 18) hX 3 (nI (k + 1)) dX11_tallies_15 rfl rfl rfl (nI_1 k) ?_
      refine g_goto (nx := 2) hX dX11_tallies_18 (by decide) ?_
      exact ih (k + 1) (upd ta k 0) (by omega) (by omega) (fun j hj => by
        by_cases e : j = k
        · rw [e, pk_us]
        · rw [pk_un e]; exact h3 j (by omega))
theorem tl_z2 {d mc ms : Nat} {q1 q2 : Int32} (hX : ga_B E d yX11_tallies cX11_tallies 6 mc ms X) (hn : 106 ≤ n)
    (kont : ga_G E X 0 0 42 [some (.ref 79), some (.int q1), some (.int q2), none, none, none] [] (n, L1, ((m_O o_tp o_rd o_fe o_em o_sp o_ac o_td o_sm o_tt o_at o_sz o_fk o_fp o_nw o_md o_nt o_pl o_op) :: m80 :: m81 :: m82 :: m83 :: m84 :: m85 :: m86 :: m87 :: m88 :: m89 :: m90 :: m91 :: ga_i 120 (fun _ => 0) :: L2), f)) :
    ∀ (m k : Nat) (ta : Nat → Int32), k ≤ 120 → 120 - k ≤ m → (∀ j, j < k → ta j = 0) → ga_G E X 0 0 23 [some (.ref 79), some (.int q1), some (.int q2), some (.int (nI k)), none, none] [] (n, L1, ((m_O o_tp o_rd o_fe o_em o_sp o_ac o_td o_sm o_tt o_at o_sz o_fk o_fp o_nw o_md o_nt o_pl o_op) :: m80 :: m81 :: m82 :: m83 :: m84 :: m85 :: m86 :: m87 :: m88 :: m89 :: m90 :: m91 :: ga_i 120 ta :: L2), f) := by
  intro m
  induction m with
  | zero =>
    intro k ta h1 h2 h3
    have e : k = 120 := by omega
    subst e
    refine g_iload_n (nx := 24) hX 3 dX11_tallies_23 rfl rfl rfl ?_
    refine g_bipush (nx := 26) hX 120 dX11_tallies_24 rfl (by decide) ?_
    refine g_icmp_ge (nx := 29) hX 42 dX11_tallies_26 (by decide) rfl (fun h26 => ?_) (fun h26 => ?_)
    · refine g_exti (a := 92) (f' := fun _ => 0) hX (ga_dn hn rfl) rfl (fun j hj => h3 j hj) ?_
      exact g_ls kont ⟨rfl, rfl, rfl, trivial⟩
    · exact absurd (show (120 : Int32) ≤ nI 120 by decide) h26
  | succ m ih =>
    intro k ta h1 h2 h3
    refine g_iload_n (nx := 24) hX 3 dX11_tallies_23 rfl rfl rfl ?_
    refine g_bipush (nx := 26) hX 120 dX11_tallies_24 rfl (by decide) ?_
    refine g_icmp_ge (nx := 29) hX 42 dX11_tallies_26 (by decide) rfl (fun h26 => ?_) (fun h26 => ?_)
    · have e : k = 120 := by have := (nI_leI (a := 120) (b := k) (by omega) (by omega)).mp h26; omega
      subst e
      refine g_exti (a := 92) (f' := fun _ => 0) hX (ga_dn hn rfl) rfl (fun j hj => h3 j hj) ?_
      exact g_ls kont ⟨rfl, rfl, rfl, trivial⟩
    · have hlt : k < 120 := Nat.lt_of_not_le (fun q => h26 ((nI_leI (a := 120) (b := k) (by omega) (by omega)).mpr q))
      refine g_aload_n (nx := 30) hX 0 dX11_tallies_29 rfl rfl rfl ?_
      refine g_getfield (nx := 33) hX dX11_tallies_30 rfl fX11_68 (ga_dn hn rfl) rfl rfl ?_
      refine g_iload_n (nx := 34) hX 3 dX11_tallies_33 rfl rfl rfl ?_
      refine g_iconst (nx := 35) hX 0 dX11_tallies_34 rfl (by decide) ?_
      refine g_iastore (nx := 36) hX dX11_tallies_35 rfl (ga_dn hn rfl) rfl (ga_ix_of rfl (by omega) (by omega)) ?_
      refine g_iinc (nx := 39) hX 3 (nI (k + 1)) dX11_tallies_36 rfl rfl rfl (nI_1 k) ?_
      refine g_goto (nx := 23) hX dX11_tallies_39 (by decide) ?_
      exact ih (k + 1) (upd ta k 0) (by omega) (by omega) (fun j hj => by
        by_cases e : j = k
        · rw [e, pk_us]
        · rw [pk_un e]; exact h3 j (by omega))
theorem c_X11_tallies (hn : 106 ≤ n) (ha : an ≤ 400) (ht : t ≤ an) (hf : fn ≤ 30) (hs1 : 1 ≤ sp) (hop : 0 ≤ w_op (w_s mt fn) em sp) (hok : ∀ k, 1 ≤ k → k ≤ an → 0 ≤ mq k → y_ok (mq k) (mf k)) (hsec : a_sec (mw, mq, mf, ma, mb, ms_) an) (hah : w_600 ah) :
    ga_Mx E 1 yX11_tallies cX11_tallies 6 none 0 0 [.ref 79, .int (nI r), .int (nI t)] (n, L1, ((m_O o_tp (o_rd) (nI fn) (em) (sp) o_ac o_td o_sm o_tt o_at o_sz o_fk o_fp o_nw o_md o_nt o_pl o_op) :: m80 :: m81 :: ga_i 30 mt :: ga_i 30 ou :: ga_i 32 ah :: ga_i 401 mw :: ga_i 401 mq :: ga_i 401 mf :: ga_i 401 ma :: ga_i 401 mb :: ga_i 401 ms_ :: ga_i 18 (ta0) :: ga_i 120 (af0) :: L2), f) none (n, L1, ((m_O o_tp (o_rd) (nI fn) (em) (sp) o_ac o_td o_sm o_tt o_at o_sz o_fk o_fp o_nw o_md o_nt o_pl o_op) :: m80 :: m81 :: ga_i 30 mt :: ga_i 30 ou :: ga_i 32 ah :: ga_i 401 mw :: ga_i 401 mq :: ga_i 401 mf :: ga_i 401 ma :: ga_i 401 mb :: ga_i 401 ms_ :: ga_i 18 (m_F (mw, mq, mf, ma, mb, ms_) ah ou (w_op (w_s mt fn) em sp) fn r t) :: ga_i 120 (m_af (y_at (mw, mq, mf, ma, mb, ms_) ah r t t).2.2.2.2.2.2.2.2) :: L2), f) := by
  have hsm := y_sm_at (A := (mw, mq, mf, ma, mb, ms_)) (ah := ah) (r := r) (t := t) t
  have hnz := y_nz_at (r := r) (t := t) hsec hah t ht
  refine ga_Mt.of (by decide) rfl (fun X hX hP => ?_)
  refine g_less [some (.ref 79), some (.int (nI r)), some (.int (nI t)), none, none, none] ⟨rfl, rfl, rfl, trivial⟩ ?_
  have t304 : ∀ T, T = y_at (mw, mq, mf, ma, mb, ms_) ah r t t → ga_G E X 0 0 304 [some (.ref 79), some (.int (nI r)), some (.int (nI t)), some (.int T.2.2.2.2.2.2.2.1), none, none] [] (n, L1, ((m_O o_tp (o_rd) (nI fn) (em) (sp) o_ac o_td o_sm o_tt o_at o_sz o_fk o_fp o_nw o_md o_nt o_pl o_op) :: m80 :: m81 :: ga_i 30 mt :: ga_i 30 ou :: ga_i 32 ah :: ga_i 401 mw :: ga_i 401 mq :: ga_i 401 mf :: ga_i 401 ma :: ga_i 401 mb :: ga_i 401 ms_ :: ga_i 18 (m_t T) :: ga_i 120 (m_af T.2.2.2.2.2.2.2.2) :: L2), f) := by
    intro T hT
    obtain ⟨mr, rg, kn, lk, rt, s, fi, hd, sn⟩ := T
    rw [← hT] at hsm hnz
    have hsn : ∀ i f, sn i f ≤ 400 := fun i f => by have := hsm.2.2.2 i f; omega
    have hmw : m_t (mr, rg, kn, lk, rt, s, fi, hd, sn) 15 = y_g s := by unfold m_t; simp
    have w0 := m_w0 (mr, rg, kn, lk, rt, s, fi, hd, sn)
    have t370 := tl_end (q := y_q ou s sn fn) (q1 := nI r) (q2 := nI t) (mr := mr) (rg := rg) (kn := kn) (lk := lk) (rt := rt) (sn := sn) hX hP (by decide) hn hf hs1 hop hnz.1 hnz.2 ⟨rfl, by unfold m_F; rw [← hT]⟩
    rw [← w0]
    refine g_iconst (nx := 305) hX 0 dX11_tallies_304 rfl (by decide) ?_
    refine g_istore (nx := 307) hX 4 dX11_tallies_305 rfl rfl ?_
    exact g_ls (tl_fences hX (by decide) hn hf hsn hmw hnz.1 t370 fn 0 (by omega) (by omega)) ⟨rfl, rfl, rfl, rfl, rfl, trivial⟩
  have t65 := tl_acts hX (by decide) hn (by omega) (fun k h1 h2 h3 => hok k h1 (by omega) h3) t304 t 1 y_0 (by omega) (by omega) (by omega) rfl
  have t42 : ga_G E X 0 0 42 [some (.ref 79), some (.int (nI r)), some (.int (nI t)), none, none, none] [] (n, L1, ((m_O o_tp (o_rd) (nI fn) (em) (sp) o_ac o_td o_sm o_tt o_at o_sz o_fk o_fp o_nw o_md o_nt o_pl o_op) :: m80 :: m81 :: ga_i 30 mt :: ga_i 30 ou :: ga_i 32 ah :: ga_i 401 mw :: ga_i 401 mq :: ga_i 401 mf :: ga_i 401 ma :: ga_i 401 mb :: ga_i 401 ms_ :: ga_i 18 (fun _ => 0) :: ga_i 120 (fun _ => 0) :: L2), f) := by
    refine g_aload_n (nx := 43) hX 0 dX11_tallies_42 rfl rfl rfl ?_
    refine g_getfield (nx := 46) hX dX11_tallies_43 rfl fX11_65 (ga_dn hn rfl) rfl rfl ?_
    refine g_bipush (nx := 48) hX 15 dX11_tallies_46 rfl (by decide) ?_
    refine g_ldc (nx := 50) hX (-1000000) dX11_tallies_48 rfl kX11_167 ?_
    refine g_iastore (nx := 51) hX dX11_tallies_50 rfl (ga_dn hn rfl) rfl (ga_ix_of (j := 15) rfl (by decide) (by decide)) ?_
    refine g_aload_n (nx := 52) hX 0 dX11_tallies_51 rfl rfl rfl ?_
    refine g_getfield (nx := 55) hX dX11_tallies_52 rfl fX11_65 (ga_dn hn rfl) rfl rfl ?_
    refine g_bipush (nx := 57) hX 16 dX11_tallies_55 rfl (by decide) ?_
    refine g_ldc (nx := 59) hX (-1000000) dX11_tallies_57 rfl kX11_167 ?_
    refine g_iastore (nx := 60) hX dX11_tallies_59 rfl (ga_dn hn rfl) rfl (ga_ix_of (j := 16) rfl (by decide) (by decide)) ?_
    refine g_iconst (nx := 61) hX 0 dX11_tallies_60 rfl (by decide) ?_
    refine g_istore_n (nx := 62) hX 3 dX11_tallies_61 rfl rfl rfl ?_
    refine g_iconst (nx := 63) hX 1 dX11_tallies_62 rfl (by decide) ?_
    refine g_istore (nx := 65) hX 4 dX11_tallies_63 rfl rfl ?_
    rw [m_t_0]
    exact g_ls t65 ⟨rfl, rfl, rfl, rfl, rfl, trivial⟩
  have t21 : ga_G E X 0 0 21 [some (.ref 79), some (.int (nI r)), some (.int (nI t)), none, none, none] [] (n, L1, ((m_O o_tp (o_rd) (nI fn) (em) (sp) o_ac o_td o_sm o_tt o_at o_sz o_fk o_fp o_nw o_md o_nt o_pl o_op) :: m80 :: m81 :: ga_i 30 mt :: ga_i 30 ou :: ga_i 32 ah :: ga_i 401 mw :: ga_i 401 mq :: ga_i 401 mf :: ga_i 401 ma :: ga_i 401 mb :: ga_i 401 ms_ :: ga_i 18 (fun _ => 0) :: ga_i 120 (af0) :: L2), f) := by
    refine g_iconst (nx := 22) hX 0 dX11_tallies_21 rfl (by decide) ?_
    refine g_istore_n (nx := 23) hX 3 dX11_tallies_22 rfl rfl rfl ?_
    exact g_ls (tl_z2 hX hn t42 120 0 af0 (by omega) (by omega) (fun j hj => absurd hj (by omega))) ⟨rfl, rfl, rfl, rfl, trivial⟩
  refine g_iconst (nx := 1) hX 0 dX11_tallies_0 rfl (by decide) ?_
  refine g_istore_n (nx := 2) hX 3 dX11_tallies_1 rfl rfl rfl ?_
  exact g_ls (tl_z1 hX hn t21 18 0 ta0 (by omega) (by omega) (fun j hj => absurd hj (by omega))) ⟨rfl, rfl, rfl, rfl, trivial⟩
theorem c_X11_isRider {rn : Nat} {v : Int32} (hn : 106 ≤ n) : ga_Mx E 0 yX11_isRider cX11_isRider 2 (some .boolean) 0 0 [.ref 79, .int v] (n, L1, ((m_O o_tp (nI rn) o_fe o_em o_sp o_ac o_td o_sm o_tt o_at o_sz o_fk o_fp o_nw o_md o_nt o_pl o_op) :: L2), f) (some (.int (ga_b (0 ≤ v ∧ v < nI rn)))) (n, L1, ((m_O o_tp (nI rn) o_fe o_em o_sp o_ac o_td o_sm o_tt o_at o_sz o_fk o_fp o_nw o_md o_nt o_pl o_op) :: L2), f) := by
  refine ga_Mt.of (by decide) rfl (fun X hX hP => ?_)
  refine g_less [some (.ref 79), some (.int v)] ⟨rfl, rfl, trivial⟩ ?_
  refine g_iload_n (nx := 1) hX 1 dX11_isRider_0 rfl rfl rfl ?_
  refine g_if_lt (nx := 4) hX 16 dX11_isRider_1 (by decide) rfl (fun h1 => ?_) (fun h1 => ?_)
  · refine g_iconst (nx := 17) hX 0 dX11_isRider_16 rfl (by decide) ?_
    exact g_ireturn hX hP dX11_isRider_17 rfl (Nat.le_of_ble_eq_true rfl) (Nat.le_of_ble_eq_true rfl) ⟨by rw [ga_b_f (fun q => ga_ltn h1 q.1)], rfl⟩
  · refine g_iload_n (nx := 5) hX 1 dX11_isRider_4 rfl rfl rfl ?_
    refine g_aload_n (nx := 6) hX 0 dX11_isRider_5 rfl rfl rfl ?_
    refine g_getfield (nx := 9) hX dX11_isRider_6 rfl fX11_17 (ga_dn hn rfl) rfl rfl ?_
    refine g_icmp_ge (nx := 12) hX 16 dX11_isRider_9 (by decide) rfl (fun h9 => ?_) (fun h9 => ?_)
    · refine g_iconst (nx := 17) hX 0 dX11_isRider_16 rfl (by decide) ?_
      exact g_ireturn hX hP dX11_isRider_17 rfl (Nat.le_of_ble_eq_true rfl) (Nat.le_of_ble_eq_true rfl) ⟨by rw [ga_b_f (fun q => ga_ltn q.2 h9)], rfl⟩
    · refine g_iconst (nx := 13) hX 1 dX11_isRider_12 rfl (by decide) ?_
      refine g_goto (nx := 17) hX dX11_isRider_13 (by decide) ?_
      exact g_ireturn hX hP dX11_isRider_17 rfl (Nat.le_of_ble_eq_true rfl) (Nat.le_of_ble_eq_true rfl) ⟨by rw [ga_b_t ⟨ga_nlt h1, ga_nle h9⟩], rfl⟩
end
