/-! ===== report, strike, as, fault, all ===== -/
/-- may there be such a report -/
def q_may (fn : Nat) (kd fe a b : Int32) : Int32 :=
  if kd = 0 then ga_b (0 ≤ a ∧ a ≤ 10000) else if kd = 1 ∨ kd = 2 then ga_b (0 ≤ a ∧ a ≤ 86399)
  else if kd = 3 ∨ kd = 4 ∨ kd = 5 ∨ kd = 6 then ga_b (0 ≤ fe ∧ fe < nI fn) else if kd = 7 then ga_b ((0 ≤ fe ∧ fe < nI fn) ∧ 0 ≤ a ∧ a ≤ b ∧ b ≤ 86399)
  else if kd = 9 then ga_b (0 ≤ a ∧ a ≤ 9999) else if kd = 8 ∨ kd = 10 ∨ kd = 11 then 1 else 0
theorem q_may_nar (fn : Nat) (kd fe a b : Int32) : narrow .boolean (.int (q_may fn kd fe a b)) = .int (q_may fn kd fe a b) := by
  unfold q_may
  repeat' split
  all_goals first | exact ga_b_nar _ | rfl
theorem sw_ne {x j : Int32} {m : Int} (h : x.toInt < 0 ∨ m < x.toInt) (h1 : 0 ≤ j.toInt) (h2 : j.toInt ≤ m) : x ≠ j := fun e => by subst e; omega
def l_new (r : Nat) (kd fe a b : Int32) (an : Nat) : a_S := (nI r, kd, fe, a, b, nI (an + 1), -1, none)
def l_nx (t : a_S) (q : Nat) : a_S := (t.1, t.2.1, t.2.2.1, t.2.2.2.1, t.2.2.2.2.1, t.2.2.2.2.2.1, t.2.2.2.2.2.2.1, some q)
def l_ol (ol nw : Nat → Option Nat) (r q : Nat) : Nat → Option Nat := match nw r with
  | none => va_up ol r (some q)
  | some _ => ol
def l_av (av : Nat → a_S) (nw : Nat → Option Nat) (r : Nat) (kd fe a b : Int32) (an : Nat) : Nat → a_S := match nw r with
  | none => va_up av (an + 1) (l_new r kd fe a b an)
  | some q => va_up (va_up av (an + 1) (l_new r kd fe a b an)) (q - 105) (l_nx (av (q - 105)) (an + 106))
/-- a strike: of act k, the new act an + 1 -/
def l_sv (av : Nat → a_S) (k an : Nat) : Nat → a_S := va_up (va_up av (an + 1) ((av k).1, 12, -1, 0, 0, nI (an + 1), -1, none)) k ((av k).1, (av k).2.1, (av k).2.2.1, (av k).2.2.2.1, (av k).2.2.2.2.1, (av k).2.2.2.2.2.1, nI (an + 1), (av k).2.2.2.2.2.2.2)
section
variable {E : ga_E} {X : ga_X} {n : Nat} {c0 c1 c2 c3 c4 c5 c6 c7 c8 c9 c10 c11 c12 c13 c14 c15 c16 c17 c18 c19 c20 c21 c22 c23 c24 c25 c26 c27 c28 c29 c30 m79 m80 m81 m82 m83 m84 m85 m86 m87 m88 m89 m90 m91 m92 m93 m94 m95 m96 m97 m98 m99 m100 m101 m102 m103 m104 m105 : ga_C} {L1 L2 : List ga_C} {f : Nat → ga_C} {o_tp o_rd o_fe o_em o_sp o_ac o_td o_sm o_tt o_at o_sz o_fk o_fp o_nw o_md o_nt o_pl o_op d_at d_tk d_ta d_fd d_fa : Int32} {d_tv : Int64} {d_rl : Value}
variable {sv : Nat → sh_S} {av : Nat → a_S} {ol nw : Nat → Option Nat} {an rn fn : Nat} {ask fm em sp op : Int32}
theorem c_X3_addReport {r : Nat} {kd fe a b : Int32} (hid : ∀ a, 27 ≤ a → E.2.1 a = E.1 + a) (hr : r < 24) (ha : an ≤ 400) (hnw : nw r = none ∨ ∃ k, 1 ≤ k ∧ k ≤ an ∧ nw r = some (k + 105)) : ga_Mt E 2 yX3_addReport cX3_addReport 8 (some .int) 1 8 [.ref 9, .int (nI r), .int kd, .int fe, .int a, .int b] (an + 106, (c0 :: c1 :: c2 :: c3 :: c4 :: c5 :: c6 :: c7 :: c8 :: k_L an :: ga_r 4 401 (l_w an) :: ga_r 4 24 ol :: ga_r 4 24 nw :: L1), L2, sh_f sv (a_f av))
    (fun z M => an < 400 ∧ z = some (.int (nI (an + 1))) ∧ M = (an + 107, (c0 :: c1 :: c2 :: c3 :: c4 :: c5 :: c6 :: c7 :: c8 :: k_L (an + 1) :: ga_r 4 401 (l_w (an + 1)) :: ga_r 4 24 (l_ol ol nw r (an + 106)) :: ga_r 4 24 (va_up nw r (some (an + 106))) :: L1), L2, sh_f sv (a_f (l_av av nw r kd fe a b an))) ∨ ¬ an < 400 ∧ z = some (.int (-1)) ∧ M = (an + 106, (c0 :: c1 :: c2 :: c3 :: c4 :: c5 :: c6 :: c7 :: c8 :: k_L an :: ga_r 4 401 (l_w an) :: ga_r 4 24 ol :: ga_r 4 24 nw :: L1), L2, sh_f sv (a_f av))) := by
  have hn : 106 ≤ an + 106 := by omega
  refine ga_Mt.of (by decide) rfl (fun X hX hP => ?_)
  refine g_less [some (.ref 9), some (.int (nI r)), some (.int kd), some (.int fe), some (.int a), some (.int b), none, none] ⟨rfl, rfl, rfl, rfl, rfl, rfl, trivial⟩ ?_
  have t0 : an < 400 → nw r = none → ga_G E X 1 8 44 [some (.ref 9), some (.int (nI r)), some (.int kd), some (.int fe), some (.int a), some (.int b), some (.ref (an + 106)), none] [] (an + 107, (c0 :: c1 :: c2 :: c3 :: c4 :: c5 :: c6 :: c7 :: c8 :: k_L (an + 1) :: ga_r 4 401 (l_w (an + 1)) :: ga_r 4 24 ol :: ga_r 4 24 nw :: L1), L2, sh_f sv (a_f (va_up av (an + 1) (l_new r kd fe a b an)))) := by
    intro hlt h0
    have hn : 106 ≤ an + 107 := by omega
    refine g_aload_n (nx := 45) hX 0 dX3_addReport_44 rfl rfl rfl ?_
    refine g_getfield (nx := 48) hX dX3_addReport_45 rfl fX3_22 (ga_dn hn rfl) rfl rfl ?_
    refine g_iload_n (nx := 49) hX 1 dX3_addReport_48 rfl rfl rfl ?_
    refine g_aaload4 (nx := 50) hX dX3_addReport_49 rfl (ga_dn hn rfl) rfl (ga_ix_of rfl (by omega) (by omega)) ?_
    rw [h0]
    refine g_astoreN (nx := 52) hX 7 dX3_addReport_50 rfl rfl ?_
    refine g_aloadN (nx := 54) hX 7 dX3_addReport_52 rfl rfl ?_
    refine g_ifnonnullN (nx := 57) hX dX3_addReport_54 rfl ?_
    refine g_aload_n (nx := 58) hX 0 dX3_addReport_57 rfl rfl rfl ?_
    refine g_getfield (nx := 61) hX dX3_addReport_58 rfl fX3_19 (ga_dn hn rfl) rfl rfl ?_
    refine g_iload_n (nx := 62) hX 1 dX3_addReport_61 rfl rfl rfl ?_
    refine g_aload (nx := 64) hX 6 dX3_addReport_62 rfl rfl ?_
    refine g_aastore4 (nx := 65) hX dX3_addReport_64 rfl (ga_dn hn rfl) rfl (by show _ < an + 107; omega) (get_aF (k := an + 1) (by omega)) (ga_ix_of rfl (by omega) (by omega)) ?_
    refine g_goto (nx := 75) hX dX3_addReport_65 (by decide) ?_
    refine g_aload_n (nx := 76) hX 0 dX3_addReport_75 rfl rfl rfl ?_
    refine g_getfield (nx := 79) hX dX3_addReport_76 rfl fX3_22 (ga_dn hn rfl) rfl rfl ?_
    refine g_iload_n (nx := 80) hX 1 dX3_addReport_79 rfl rfl rfl ?_
    refine g_aload (nx := 82) hX 6 dX3_addReport_80 rfl rfl ?_
    refine g_aastore4 (nx := 83) hX dX3_addReport_82 rfl (ga_dn hn rfl) rfl (by show _ < an + 107; omega) (get_aF (k := an + 1) (by omega)) (ga_ix_of rfl (by omega) (by omega)) ?_
    refine g_aload_n (nx := 84) hX 0 dX3_addReport_83 rfl rfl rfl ?_
    refine g_getfield (nx := 87) hX dX3_addReport_84 rfl fX3_25 (ga_dn hn rfl) rfl rfl ?_
    exact g_ireturn hX hP dX3_addReport_87 rfl (Nat.le_of_ble_eq_true rfl) (Nat.le_of_ble_eq_true rfl) (Or.inl ⟨hlt, rfl, by unfold l_ol l_av; rw [h0]; rfl⟩)
  have t1 : an < 400 → ∀ k, 1 ≤ k → k ≤ an → nw r = some (k + 105) → ga_G E X 1 8 44 [some (.ref 9), some (.int (nI r)), some (.int kd), some (.int fe), some (.int a), some (.int b), some (.ref (an + 106)), none] [] (an + 107, (c0 :: c1 :: c2 :: c3 :: c4 :: c5 :: c6 :: c7 :: c8 :: k_L (an + 1) :: ga_r 4 401 (l_w (an + 1)) :: ga_r 4 24 ol :: ga_r 4 24 nw :: L1), L2, sh_f sv (a_f (va_up av (an + 1) (l_new r kd fe a b an)))) := by
    intro hlt k hk1 hk2 h0
    have hn : 106 ≤ an + 107 := by omega
    refine g_aload_n (nx := 45) hX 0 dX3_addReport_44 rfl rfl rfl ?_
    refine g_getfield (nx := 48) hX dX3_addReport_45 rfl fX3_22 (ga_dn hn rfl) rfl rfl ?_
    refine g_iload_n (nx := 49) hX 1 dX3_addReport_48 rfl rfl rfl ?_
    refine g_aaload4 (nx := 50) hX dX3_addReport_49 rfl (ga_dn hn rfl) rfl (ga_ix_of rfl (by omega) (by omega)) ?_
    rw [h0]
    refine g_astore (nx := 52) hX 7 dX3_addReport_50 rfl rfl ?_
    refine g_aload (nx := 54) hX 7 dX3_addReport_52 rfl rfl ?_
    refine g_ifnonnull hX 68 dX3_addReport_54 (by decide) ?_
    refine g_aload (nx := 70) hX 7 dX3_addReport_68 rfl rfl ?_
    refine g_aload (nx := 72) hX 6 dX3_addReport_70 rfl rfl ?_
    refine g_putfield (nx := 75) hX dX3_addReport_72 rfl pX3_40 (by show _ < an + 107; omega) (get_a (k := k) hk1) rfl rfl rfl ?_
    refine g_mem (put_a (k := k) (b8 := some (an + 106)) hk1) ?_
    refine g_aload_n (nx := 76) hX 0 dX3_addReport_75 rfl rfl rfl ?_
    refine g_getfield (nx := 79) hX dX3_addReport_76 rfl fX3_22 (ga_dn hn rfl) rfl rfl ?_
    refine g_iload_n (nx := 80) hX 1 dX3_addReport_79 rfl rfl rfl ?_
    refine g_aload (nx := 82) hX 6 dX3_addReport_80 rfl rfl ?_
    refine g_aastore4 (nx := 83) hX dX3_addReport_82 rfl (ga_dn hn rfl) rfl (by show _ < an + 107; omega) ((get_a (k := an + 1) (by omega)).trans rfl) (ga_ix_of rfl (by omega) (by omega)) ?_
    refine g_aload_n (nx := 84) hX 0 dX3_addReport_83 rfl rfl rfl ?_
    refine g_getfield (nx := 87) hX dX3_addReport_84 rfl fX3_25 (ga_dn hn rfl) rfl rfl ?_
    exact g_ireturn hX hP dX3_addReport_87 rfl (Nat.le_of_ble_eq_true rfl) (Nat.le_of_ble_eq_true rfl) (Or.inl ⟨hlt, rfl, by unfold l_ol l_av; rw [h0, up_n (show k ≠ an + 1 by omega)]; dsimp only; rw [show k + 105 - 105 = k by omega]; rfl⟩)
  refine g_aload_n (nx := 1) hX 0 dX3_addReport_0 rfl rfl rfl ?_
  refine g_getfield (nx := 4) hX dX3_addReport_1 rfl fX3_25 (ga_dn hn rfl) rfl rfl ?_
  refine g_sipush (nx := 7) hX 400 dX3_addReport_4 rfl (by decide) ?_
  refine g_icmp_ge (nx := 10) hX 20 dX3_addReport_7 (by decide) rfl (fun h7 => ?_) (fun h7 => ?_)
  · refine g_iconst (nx := 21) hX (-1) dX3_addReport_20 rfl (by decide) ?_
    exact g_ireturn hX hP dX3_addReport_21 rfl (by decide) (by decide) (Or.inr ⟨fun q => absurd ((nI_leI (a := 400) (b := an) (by omega) (by omega)).mp h7) (by omega), rfl, rfl⟩)
  · have hlt : an < 400 := Nat.lt_of_not_le (fun q => h7 ((nI_leI (a := 400) (b := an) (by omega) (by omega)).mpr q))
    refine g_iload_n (nx := 11) hX 1 dX3_addReport_10 rfl rfl rfl ?_
    refine g_iconst (nx := 12) hX 0 dX3_addReport_11 rfl (by decide) ?_
    refine g_bipush (nx := 14) hX 23 dX3_addReport_12 rfl (by decide) ?_
    refine g_SN3 (nx := 17) hX dX3_addReport_14 rfl nX3_29 yX10_isWithin_ok (c_X10_isWithin) (by decide) rfl (Nat.le_of_ble_eq_true rfl) (Nat.le_of_ble_eq_true rfl) ?_
    rintro _ _ ⟨rfl, rfl⟩
    refine g_if_ne (nx := 20) hX 22 dX3_addReport_17 (by decide) rfl (fun h17 => ?_) (fun h17 => ?_)
    · refine g_new (nx := 25) hX (ci := 0) (ga_df0) dX3_addReport_22 rfl rfl lX3_11 qX0 zX0 (ga_df0_ok E) (by decide) (by decide) (hid _ (by show 27 ≤ an + 106; omega)) ?_
      refine g_mem (new_a (b8 := none)) ?_
      refine g_dup (nx := 26) hX dX3_addReport_25 rfl rfl ?_
      refine g_iload_n (nx := 27) hX 1 dX3_addReport_26 rfl rfl rfl ?_
      refine g_iload_n (nx := 28) hX 2 dX3_addReport_27 rfl rfl rfl ?_
      refine g_iload_n (nx := 29) hX 3 dX3_addReport_28 rfl rfl rfl ?_
      refine g_iload (nx := 31) hX 4 dX3_addReport_29 rfl rfl ?_
      refine g_iload (nx := 33) hX 5 dX3_addReport_31 rfl rfl ?_
      refine g_I5 (nx := 36) hX dX3_addReport_33 rfl mX3_33 yX0_init_ok (c_X0_init (k := an + 1) (by omega) (by show _ < an + 107; omega)) (by decide) rfl (Nat.le_of_ble_eq_true rfl) (Nat.le_of_ble_eq_true rfl) ?_
      rintro _ _ ⟨rfl, rfl⟩
      refine g_astore (nx := 38) hX 6 dX3_addReport_36 rfl rfl ?_
      refine g_aload_n (nx := 39) hX 0 dX3_addReport_38 rfl rfl rfl ?_
      refine g_aload (nx := 41) hX 6 dX3_addReport_39 rfl rfl ?_
      refine g_V1 (nx := 44) hX dX3_addReport_41 rfl mX3_36 yX3_write_ok (c_X3_write hlt) (by show 9 < an + 107; omega) rfl rfl rfl (by decide) rfl (Nat.le_of_ble_eq_true rfl) (Nat.le_of_ble_eq_true rfl) ?_
      rintro _ _ ⟨rfl, rfl⟩
      exact hnw.elim (t0 hlt) (fun ⟨k, h1, h2, h3⟩ => t1 hlt k h1 h2 h3)
    · exact absurd ⟨nI_pos' (by omega), nI_le (b := 23) (by omega) (by omega)⟩ (ga_b_0 h17)
theorem c_X3_addStrike {v : Int32} (hid : ∀ a, 27 ≤ a → E.2.1 a = E.1 + a) (ha : an ≤ 400) : ga_Mt E 2 yX3_addStrike cX3_addStrike 3 (some .int) 1 8 [.ref 9, .int v] (an + 106, (c0 :: c1 :: c2 :: c3 :: c4 :: c5 :: c6 :: c7 :: c8 :: k_L an :: ga_r 4 401 (l_w an) :: L1), L2, sh_f sv (a_f av))
    (fun z M => (∃ k, (1 ≤ k ∧ k ≤ an) ∧ v = nI k ∧ an < 400 ∧ (av k).2.1 ≠ 12 ∧ (av k).2.2.2.2.2.2.1 = -1 ∧ z = some (.int (nI (an + 1))) ∧ M = (an + 107, (c0 :: c1 :: c2 :: c3 :: c4 :: c5 :: c6 :: c7 :: c8 :: k_L (an + 1) :: ga_r 4 401 (l_w (an + 1)) :: L1), L2, sh_f sv (a_f (l_sv av k an)))) ∨ ¬ (∃ k, (1 ≤ k ∧ k ≤ an) ∧ v = nI k ∧ an < 400 ∧ (av k).2.1 ≠ 12 ∧ (av k).2.2.2.2.2.2.1 = -1) ∧ z = some (.int (-1)) ∧ M = (an + 106, (c0 :: c1 :: c2 :: c3 :: c4 :: c5 :: c6 :: c7 :: c8 :: k_L an :: ga_r 4 401 (l_w an) :: L1), L2, sh_f sv (a_f av))) := by
  have hn : 106 ≤ an + 106 := by omega
  refine ga_Mt.of (by decide) rfl (fun X hX hP => ?_)
  refine g_less [some (.ref 9), some (.int v), none] ⟨rfl, rfl, trivial⟩ ?_
  have no : ∀ o2, ¬ (∃ k, (1 ≤ k ∧ k ≤ an) ∧ v = nI k ∧ an < 400 ∧ (av k).2.1 ≠ 12 ∧ (av k).2.2.2.2.2.2.1 = -1) → ga_G E X 0 0 37 [some (.ref 9), some (.int v), o2] [] (an + 106, (c0 :: c1 :: c2 :: c3 :: c4 :: c5 :: c6 :: c7 :: c8 :: k_L an :: ga_r 4 401 (l_w an) :: L1), L2, sh_f sv (a_f av)) := by
    intro o2 hno
    refine g_iconst (nx := 38) hX (-1) dX3_addStrike_37 rfl (by decide) ?_
    exact g_ireturn hX hP dX3_addStrike_38 rfl (by decide) (by decide) (Or.inr ⟨hno, rfl, rfl⟩)
  have yes : ∀ k, 1 ≤ k → k ≤ an → v = nI k → ga_G E X 0 0 6 [some (.ref 9), some (.int v), some (.ref (k + 105))] [] (an + 106, (c0 :: c1 :: c2 :: c3 :: c4 :: c5 :: c6 :: c7 :: c8 :: k_L an :: ga_r 4 401 (l_w an) :: L1), L2, sh_f sv (a_f av)) := by
    intro k hk1 hk2 hv
    have uniq : ∀ j, 1 ≤ j ∧ j ≤ an → v = nI j → j = k := fun j hj e => nI_inj (e.symm.trans hv) (by omega) (by omega)
    refine g_aload_n (nx := 7) hX 0 dX3_addStrike_6 rfl rfl rfl ?_
    refine g_getfield (nx := 10) hX dX3_addStrike_7 rfl fX3_25 (ga_dn hn rfl) rfl rfl ?_
    refine g_sipush (nx := 13) hX 400 dX3_addStrike_10 rfl (by decide) ?_
    refine g_icmp_ge (nx := 16) hX 37 dX3_addStrike_13 (by decide) rfl (fun h13 => ?_) (fun h13 => ?_)
    · exact no _ (fun ⟨j, h1, h2, h3, _⟩ => absurd ((nI_leI (a := 400) (b := an) (by omega) (by omega)).mp h13) (by omega))
    · have hlt : an < 400 := Nat.lt_of_not_le (fun q => h13 ((nI_leI (a := 400) (b := an) (by omega) (by omega)).mpr q))
      refine g_aload_n (nx := 17) hX 2 dX3_addStrike_16 rfl rfl rfl ?_
      refine g_ifnull (nx := 20) hX dX3_addStrike_17 rfl ?_
      refine g_aload_n (nx := 21) hX 2 dX3_addStrike_20 rfl rfl rfl ?_
      refine g_getfield (nx := 24) hX dX3_addStrike_21 rfl fX3_48 (by show _ < an + 106; omega) (get_a hk1) rfl ?_
      refine g_bipush (nx := 26) hX 12 dX3_addStrike_24 rfl (by decide) ?_
      refine g_icmp_eq (nx := 29) hX 37 dX3_addStrike_26 (by decide) rfl (fun h26 => ?_) (fun h26 => ?_)
      · exact no _ (fun ⟨j, h1, h2, _, h4, _⟩ => by rw [uniq j h1 h2] at h4; exact h4 h26)
      · refine g_aload_n (nx := 30) hX 2 dX3_addStrike_29 rfl rfl rfl ?_
        refine g_getfield (nx := 33) hX dX3_addStrike_30 rfl fX3_51 (by show _ < an + 106; omega) (get_a hk1) rfl ?_
        refine g_iconst (nx := 34) hX (-1) dX3_addStrike_33 rfl (by decide) ?_
        refine g_icmp_eq (nx := 37) hX 39 dX3_addStrike_34 (by decide) rfl (fun h34 => ?_) (fun h34 => ?_)
        · refine g_aload_n (nx := 40) hX 0 dX3_addStrike_39 rfl rfl rfl ?_
          refine g_new (nx := 43) hX (ci := 0) (ga_df0) dX3_addStrike_40 rfl rfl lX3_11 qX0 zX0 (ga_df0_ok E) (by decide) (by decide) (hid _ (by show 27 ≤ an + 106; omega)) ?_
          refine g_mem (new_a (b8 := none)) ?_
          refine g_dup (nx := 44) hX dX3_addStrike_43 rfl rfl ?_
          refine g_aload_n (nx := 45) hX 2 dX3_addStrike_44 rfl rfl rfl ?_
          refine g_getfield (nx := 48) hX dX3_addStrike_45 rfl fX3_54 (by show _ < an + 107; omega) ((get_a hk1).trans (by rw [up_n (show k ≠ an + 1 by omega)])) rfl ?_
          refine g_bipush (nx := 50) hX 12 dX3_addStrike_48 rfl (by decide) ?_
          refine g_iconst (nx := 51) hX (-1) dX3_addStrike_50 rfl (by decide) ?_
          refine g_iconst (nx := 52) hX 0 dX3_addStrike_51 rfl (by decide) ?_
          refine g_iconst (nx := 53) hX 0 dX3_addStrike_52 rfl (by decide) ?_
          refine g_I5 (nx := 56) hX dX3_addStrike_53 rfl mX3_33 yX0_init_ok (c_X0_init (k := an + 1) (by omega) (by show _ < an + 107; omega)) (by decide) rfl (Nat.le_of_ble_eq_true rfl) (Nat.le_of_ble_eq_true rfl) ?_
          rintro _ _ ⟨rfl, rfl⟩
          refine g_V1 (nx := 59) hX dX3_addStrike_56 rfl mX3_36 yX3_write_ok (c_X3_write hlt) (by show 9 < an + 107; omega) rfl rfl rfl (by decide) rfl (Nat.le_of_ble_eq_true rfl) (Nat.le_of_ble_eq_true rfl) ?_
          rintro _ _ ⟨rfl, rfl⟩
          refine g_aload_n (nx := 60) hX 2 dX3_addStrike_59 rfl rfl rfl ?_
          refine g_aload_n (nx := 61) hX 0 dX3_addStrike_60 rfl rfl rfl ?_
          refine g_getfield (nx := 64) hX dX3_addStrike_61 rfl fX3_25 (by show 9 < an + 107; omega) rfl rfl ?_
          refine g_putfield (nx := 67) hX dX3_addStrike_64 rfl pX3_51 (by show _ < an + 107; omega) ((get_a hk1).trans (by rw [up_n (show k ≠ an + 1 by omega)])) rfl rfl rfl ?_
          refine g_mem (put_a (b8 := (av k).2.2.2.2.2.2.2) hk1) ?_
          refine g_aload_n (nx := 68) hX 0 dX3_addStrike_67 rfl rfl rfl ?_
          refine g_getfield (nx := 71) hX dX3_addStrike_68 rfl fX3_25 (by show 9 < an + 107; omega) rfl rfl ?_
          exact g_ireturn hX hP dX3_addStrike_71 rfl (Nat.le_of_ble_eq_true rfl) (Nat.le_of_ble_eq_true rfl) (Or.inl ⟨k, ⟨hk1, hk2⟩, hv, hlt, h26, h34, rfl, rfl⟩)
        · exact no _ (fun ⟨j, h1, h2, _, _, h5⟩ => by rw [uniq j h1 h2] at h5; exact h34 h5)
  refine g_aload_n (nx := 1) hX 0 dX3_addStrike_0 rfl rfl rfl ?_
  refine g_iload_n (nx := 2) hX 1 dX3_addStrike_1 rfl rfl rfl ?_
  refine g_V1 (nx := 5) hX dX3_addStrike_2 rfl mX3_44 yX3_actAt_ok (c_X3_actAt hn ha) (ga_dn hn rfl) rfl rfl rfl (by decide) rfl (Nat.le_of_ble_eq_true rfl) (Nat.le_of_ble_eq_true rfl) ?_
  rintro _ _ ⟨rfl, rfl⟩
  by_cases hv : 1 ≤ v.toNatClampNeg ∧ v.toNatClampNeg ≤ an
  · have h1 := v_1 hv.1 hv.2 (by omega)
    obtain ⟨k, hk, e, e2⟩ := v_ofle (v_tr (by decide) h1.1) h1.2 (by omega)
    rw [e2] at hv
    rw [e2, l_w_in hv]
    refine g_astore_n (nx := 6) hX 2 dX3_addStrike_5 rfl rfl rfl ?_
    exact yes k hv.1 hv.2 e
  · rw [show l_w an v.toNatClampNeg = none from if_neg hv]
    refine g_astore_nN (nx := 6) hX 2 dX3_addStrike_5 rfl rfl rfl ?_
    have hno : ¬ (∃ k, (1 ≤ k ∧ k ≤ an) ∧ v = nI k ∧ an < 400 ∧ (av k).2.1 ≠ 12 ∧ (av k).2.2.2.2.2.2.1 = -1) := fun ⟨j, h1, h2, _⟩ => hv (by rw [h2, nI_clamp (by omega)]; exact h1)
    refine g_aload_n (nx := 7) hX 0 dX3_addStrike_6 rfl rfl rfl ?_
    refine g_getfield (nx := 10) hX dX3_addStrike_7 rfl fX3_25 (ga_dn hn rfl) rfl rfl ?_
    refine g_sipush (nx := 13) hX 400 dX3_addStrike_10 rfl (by decide) ?_
    refine g_icmp_ge (nx := 16) hX 37 dX3_addStrike_13 (by decide) rfl (fun h13 => ?_) (fun h13 => ?_)
    · exact no _ hno
    · refine g_aload_nN (nx := 17) hX 2 dX3_addStrike_16 rfl rfl rfl ?_
      refine g_ifnullN hX 37 dX3_addStrike_17 (by decide) ?_
      exact no _ hno
end
