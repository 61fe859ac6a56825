/-! ===== the course, the clocks, the fences that are taken out ===== -/
def w_op (fm em sp : Int32) : Int32 := (60 * (fm + em) + sp - 1) / sp
/-- the sum of the first metres -/
def w_s (mt : Nat → Int32) : Nat → Int32
  | 0 => 0
  | k + 1 => w_s mt k + mt k
theorem w_s_upd (mt : Nat → Int32) (x : Int32) (k : Nat) : ∀ j, j ≤ k → w_s (upd mt k x) j = w_s mt j
  | 0, _ => rfl
  | j + 1, h => by unfold w_s; rw [w_s_upd mt x k j (by omega), pk_un (by omega)]
theorem v_sp {sp : Int32} (h : 1 ≤ sp) : ¬ sp < 1 ∧ ¬ sp = 0 := ⟨ga_len h, fun q => by rw [q] at h; exact absurd h (by decide)⟩
section
variable {E : ga_E} {X : ga_X} {n : Nat} {c0 c1 c2 c3 c4 c5 c6 c7 c8 c9 c10 c11 c12 c13 c14 c15 c16 c17 c18 c19 c20 c21 c22 c23 c24 c25 c26 c27 c28 c29 c30 m79 m80 m81 m82 m83 m84 m85 m86 m87 m88 m89 m90 m91 m92 m93 m94 m95 m96 m97 m98 m99 m100 m101 m102 m103 m104 m105 : ga_C} {L1 L2 : List ga_C} {f : Nat → ga_C} {o_tp o_rd o_fe o_em o_sp o_ac o_td o_sm o_tt o_at o_sz o_fk o_fp o_nw o_md o_nt o_pl o_op d_at d_tk d_ta d_fd d_fa : Int32} {d_tv : Int64} {d_rl : Value}
variable {ah ou mt : Nat → Int32} {fm em sp op : Int32} {fn : Nat} {ask : Int32}
theorem c_X2_setOptimum (hn : 106 ≤ n) (hs : 1 ≤ sp) : ga_Mx E 0 yX2_setOptimum cX2_setOptimum 1 none 0 0 [.ref 6] (n, (c0 :: c1 :: c2 :: c3 :: c4 :: c5 :: k_C fm em sp fn op :: L1), L2, f) none (n, (c0 :: c1 :: c2 :: c3 :: c4 :: c5 :: k_C fm em sp fn (w_op fm em sp) :: L1), L2, f) := by
  refine ga_Mt.of (by decide) rfl (fun X hX hP => ?_)
  refine g_less [some (.ref 6)] ⟨rfl, trivial⟩ ?_
  refine g_aload_n (nx := 1) hX 0 dX2_setOptimum_0 rfl rfl rfl ?_
  refine g_aload_n (nx := 2) hX 0 dX2_setOptimum_1 rfl rfl rfl ?_
  refine g_getfield (nx := 5) hX dX2_setOptimum_2 rfl fX2_18 (ga_dn hn rfl) rfl rfl ?_
  refine g_iconst (nx := 6) hX 1 dX2_setOptimum_5 rfl (by decide) ?_
  refine g_icmp_ge (nx := 9) hX 13 dX2_setOptimum_6 (by decide) rfl (fun h6 => ?_) (fun h6 => ?_)
  · refine g_bipush (nx := 15) hX 60 dX2_setOptimum_13 rfl (by decide) ?_
    refine g_aload_n (nx := 16) hX 0 dX2_setOptimum_15 rfl rfl rfl ?_
    refine g_getfield (nx := 19) hX dX2_setOptimum_16 rfl fX2_29 (ga_dn hn rfl) rfl rfl ?_
    refine g_aload_n (nx := 20) hX 0 dX2_setOptimum_19 rfl rfl rfl ?_
    refine g_getfield (nx := 23) hX dX2_setOptimum_20 rfl fX2_35 (ga_dn hn rfl) rfl rfl ?_
    refine g_iadd (nx := 24) hX dX2_setOptimum_23 rfl ?_
    refine g_imul (nx := 25) hX dX2_setOptimum_24 rfl ?_
    refine g_aload_n (nx := 26) hX 0 dX2_setOptimum_25 rfl rfl rfl ?_
    refine g_getfield (nx := 29) hX dX2_setOptimum_26 rfl fX2_18 (ga_dn hn rfl) rfl rfl ?_
    refine g_iadd (nx := 30) hX dX2_setOptimum_29 rfl ?_
    refine g_iconst (nx := 31) hX 1 dX2_setOptimum_30 rfl (by decide) ?_
    refine g_isub (nx := 32) hX dX2_setOptimum_31 rfl ?_
    refine g_aload_n (nx := 33) hX 0 dX2_setOptimum_32 rfl rfl rfl ?_
    refine g_getfield (nx := 36) hX dX2_setOptimum_33 rfl fX2_18 (ga_dn hn rfl) rfl rfl ?_
    refine g_idiv (nx := 37) hX dX2_setOptimum_36 rfl (v_sp hs).2 ?_
    refine g_putfield (nx := 40) hX dX2_setOptimum_37 rfl pX2_38 (ga_dn hn rfl) rfl rfl rfl rfl ?_
    exact g_return hX hP dX2_setOptimum_40 (Nat.le_of_ble_eq_true rfl) (Nat.le_of_ble_eq_true rfl) ⟨rfl, rfl⟩
  · exact absurd hs h6
theorem c_X2_hasFence {v : Int32} (hn : 106 ≤ n) (hf : fn ≤ 30) : ga_Mx E 1 yX2_hasFence cX2_hasFence 2 (some .boolean) 0 0 [.ref 6, .int v] (n, (c0 :: c1 :: c2 :: c3 :: c4 :: c5 :: k_C fm em sp fn op :: L1), L2, f) (some (.int (ga_b (0 ≤ v ∧ v < nI fn)))) (n, (c0 :: c1 :: c2 :: c3 :: c4 :: c5 :: k_C fm em sp fn op :: L1), L2, f) := by
  refine ga_Mt.of (by decide) rfl (fun X hX hP => ?_)
  refine g_less [some (.ref 6), some (.int v)] ⟨rfl, rfl, trivial⟩ ?_
  refine g_iload_n (nx := 1) hX 1 dX2_hasFence_0 rfl rfl rfl ?_
  refine g_iconst (nx := 2) hX 0 dX2_hasFence_1 rfl (by decide) ?_
  refine g_aload_n (nx := 3) hX 0 dX2_hasFence_2 rfl rfl rfl ?_
  refine g_getfield (nx := 6) hX dX2_hasFence_3 rfl fX2_22 (ga_dn hn rfl) rfl rfl ?_
  refine g_iconst (nx := 7) hX 1 dX2_hasFence_6 rfl (by decide) ?_
  refine g_isub (nx := 8) hX dX2_hasFence_7 rfl ?_
  refine g_SN3 (nx := 11) hX dX2_hasFence_8 rfl nX2_25 yX10_isWithin_ok (c_X10_isWithin) (by decide) rfl (Nat.le_of_ble_eq_true rfl) (Nat.le_of_ble_eq_true rfl) ?_
  rintro _ _ ⟨rfl, rfl⟩
  exact g_ireturn hX hP dX2_hasFence_11 (ga_b_nar _) (Nat.le_of_ble_eq_true rfl) (Nat.le_of_ble_eq_true rfl) ⟨by rw [ga_b_c (and_congr_right (fun _ => v_lt1 (by omega)))], rfl⟩
theorem c_X2_addFence {v : Int32} (hn : 106 ≤ n) (hf : fn ≤ 30) (hs : 1 ≤ sp) : ga_Mt E 1 yX2_addFence cX2_addFence 2 (some .int) 0 0 [.ref 6, .int v] (n, (c0 :: c1 :: c2 :: c3 :: c4 :: c5 :: k_C fm em sp fn op :: c7 :: ga_i 30 ou :: L1), L2, f)
    (fun r M => (fn < 30 ∧ 0 ≤ v ∧ v ≤ 2000) ∧ r = some (.int (nI (fn + 1))) ∧ M = (n, (c0 :: c1 :: c2 :: c3 :: c4 :: c5 :: k_C (fm + v) em sp (fn + 1) (w_op (fm + v) em sp) :: c7 :: ga_i 30 (upd ou fn (-1)) :: L1), L2, f) ∨ ¬ (fn < 30 ∧ 0 ≤ v ∧ v ≤ 2000) ∧ r = some (.int (-1)) ∧ M = (n, (c0 :: c1 :: c2 :: c3 :: c4 :: c5 :: k_C fm em sp fn op :: c7 :: ga_i 30 ou :: L1), L2, f)) := by
  refine ga_Mt.of (by decide) rfl (fun X hX hP => ?_)
  refine g_less [some (.ref 6), some (.int v)] ⟨rfl, rfl, trivial⟩ ?_
  refine g_aload_n (nx := 1) hX 0 dX2_addFence_0 rfl rfl rfl ?_
  refine g_getfield (nx := 4) hX dX2_addFence_1 rfl fX2_22 (ga_dn hn rfl) rfl rfl ?_
  refine g_bipush (nx := 6) hX 30 dX2_addFence_4 rfl (by decide) ?_
  refine g_icmp_ge (nx := 9) hX 20 dX2_addFence_6 (by decide) rfl (fun h6 => ?_) (fun h6 => ?_)
  · refine g_iconst (nx := 21) hX (-1) dX2_addFence_20 rfl (by decide) ?_
    exact g_ireturn hX hP dX2_addFence_21 rfl (Nat.le_of_ble_eq_true rfl) (Nat.le_of_ble_eq_true rfl) (Or.inr ⟨fun q => absurd ((nI_leI (a := 30) (b := fn) (by omega) (by omega)).mp h6) (by have := q.1; omega), rfl, rfl⟩)
  · have hlt : fn < 30 := Nat.lt_of_not_le (fun q => h6 ((nI_leI (a := 30) (b := fn) (by omega) (by omega)).mpr q))
    refine g_iload_n (nx := 10) hX 1 dX2_addFence_9 rfl rfl rfl ?_
    refine g_iconst (nx := 11) hX 0 dX2_addFence_10 rfl (by decide) ?_
    refine g_sipush (nx := 14) hX 2000 dX2_addFence_11 rfl (by decide) ?_
    refine g_SN3 (nx := 17) hX dX2_addFence_14 rfl nX2_25 yX10_isWithin_ok (c_X10_isWithin) (by decide) rfl (Nat.le_of_ble_eq_true rfl) (Nat.le_of_ble_eq_true rfl) ?_
    rintro _ _ ⟨rfl, rfl⟩
    refine g_if_ne (nx := 20) hX 22 dX2_addFence_17 (by decide) rfl (fun h17 => ?_) (fun h17 => ?_)
    · have hb := ga_b_n0 h17
      refine g_aload_n (nx := 23) hX 0 dX2_addFence_22 rfl rfl rfl ?_
      refine g_getfield (nx := 26) hX dX2_addFence_23 rfl fX2_15 (ga_dn hn rfl) rfl rfl ?_
      refine g_aload_n (nx := 27) hX 0 dX2_addFence_26 rfl rfl rfl ?_
      refine g_getfield (nx := 30) hX dX2_addFence_27 rfl fX2_22 (ga_dn hn rfl) rfl rfl ?_
      refine g_iconst (nx := 31) hX (-1) dX2_addFence_30 rfl (by decide) ?_
      refine g_iastore (nx := 32) hX dX2_addFence_31 rfl (ga_dn hn rfl) rfl (ga_ix_of rfl (by omega) (by omega)) ?_
      refine g_aload_n (nx := 33) hX 0 dX2_addFence_32 rfl rfl rfl ?_
      refine g_dup (nx := 34) hX dX2_addFence_33 rfl rfl ?_
      refine g_getfield (nx := 37) hX dX2_addFence_34 rfl fX2_22 (ga_dn hn rfl) rfl rfl ?_
      refine g_iconst (nx := 38) hX 1 dX2_addFence_37 rfl (by decide) ?_
      refine g_iadd (nx := 39) hX dX2_addFence_38 rfl ?_
      rw [nI_1]
      refine g_putfield (nx := 42) hX dX2_addFence_39 rfl pX2_22 (ga_dn hn rfl) rfl rfl rfl rfl ?_
      refine g_aload_n (nx := 43) hX 0 dX2_addFence_42 rfl rfl rfl ?_
      refine g_dup (nx := 44) hX dX2_addFence_43 rfl rfl ?_
      refine g_getfield (nx := 47) hX dX2_addFence_44 rfl fX2_29 (ga_dn hn rfl) rfl rfl ?_
      refine g_iload_n (nx := 48) hX 1 dX2_addFence_47 rfl rfl rfl ?_
      refine g_iadd (nx := 49) hX dX2_addFence_48 rfl ?_
      refine g_putfield (nx := 52) hX dX2_addFence_49 rfl pX2_29 (ga_dn hn rfl) rfl rfl rfl rfl ?_
      refine g_aload_n (nx := 53) hX 0 dX2_addFence_52 rfl rfl rfl ?_
      refine g_V0 (nx := 56) hX dX2_addFence_53 rfl mX2_32 yX2_setOptimum_ok (c_X2_setOptimum (fn := fn + 1) hn hs) (ga_dn hn rfl) rfl rfl rfl (by decide) rfl (Nat.le_of_ble_eq_true rfl) (Nat.le_of_ble_eq_true rfl) ?_
      rintro _ _ ⟨rfl, rfl⟩
      refine g_aload_n (nx := 57) hX 0 dX2_addFence_56 rfl rfl rfl ?_
      refine g_getfield (nx := 60) hX dX2_addFence_57 rfl fX2_22 (ga_dn hn rfl) rfl rfl ?_
      exact g_ireturn hX hP dX2_addFence_60 rfl (Nat.le_of_ble_eq_true rfl) (Nat.le_of_ble_eq_true rfl) (Or.inl ⟨⟨hlt, hb⟩, rfl, rfl⟩)
    · refine g_iconst (nx := 21) hX (-1) dX2_addFence_20 rfl (by decide) ?_
      exact g_ireturn hX hP dX2_addFence_21 rfl (Nat.le_of_ble_eq_true rfl) (Nat.le_of_ble_eq_true rfl) (Or.inr ⟨fun q => ga_b_0 h17 q.2, rfl, rfl⟩)
theorem c_X2_measure {e s : Int32} (hn : 106 ≤ n) : ga_Mt E 1 yX2_measure cX2_measure 3 (some .int) 0 0 [.ref 6, .int e, .int s] (n, (c0 :: c1 :: c2 :: c3 :: c4 :: c5 :: k_C fm em sp fn op :: L1), L2, f)
    (fun r M => ((0 ≤ e ∧ e ≤ 2000) ∧ 100 ≤ s ∧ s ≤ 700) ∧ r = some (.int (w_op fm e s)) ∧ M = (n, (c0 :: c1 :: c2 :: c3 :: c4 :: c5 :: k_C fm e s fn (w_op fm e s) :: L1), L2, f) ∨ ¬ ((0 ≤ e ∧ e ≤ 2000) ∧ 100 ≤ s ∧ s ≤ 700) ∧ r = some (.int (-1)) ∧ M = (n, (c0 :: c1 :: c2 :: c3 :: c4 :: c5 :: k_C fm em sp fn op :: L1), L2, f)) := by
  refine ga_Mt.of (by decide) rfl (fun X hX hP => ?_)
  refine g_less [some (.ref 6), some (.int e), some (.int s)] ⟨rfl, rfl, rfl, trivial⟩ ?_
  refine g_iload_n (nx := 1) hX 1 dX2_measure_0 rfl rfl rfl ?_
  refine g_iconst (nx := 2) hX 0 dX2_measure_1 rfl (by decide) ?_
  refine g_sipush (nx := 5) hX 2000 dX2_measure_2 rfl (by decide) ?_
  refine g_SN3 (nx := 8) hX dX2_measure_5 rfl nX2_25 yX10_isWithin_ok (c_X10_isWithin) (by decide) rfl (Nat.le_of_ble_eq_true rfl) (Nat.le_of_ble_eq_true rfl) ?_
  rintro _ _ ⟨rfl, rfl⟩
  refine g_if_eq (nx := 11) hX 23 dX2_measure_8 (by decide) rfl (fun h8 => ?_) (fun h8 => ?_)
  · refine g_iconst (nx := 24) hX (-1) dX2_measure_23 rfl (by decide) ?_
    exact g_ireturn hX hP dX2_measure_24 rfl (Nat.le_of_ble_eq_true rfl) (Nat.le_of_ble_eq_true rfl) (Or.inr ⟨fun q => ga_b_0 h8 q.1, rfl, rfl⟩)
  · refine g_iload_n (nx := 12) hX 2 dX2_measure_11 rfl rfl rfl ?_
    refine g_bipush (nx := 14) hX 100 dX2_measure_12 rfl (by decide) ?_
    refine g_sipush (nx := 17) hX 700 dX2_measure_14 rfl (by decide) ?_
    refine g_SN3 (nx := 20) hX dX2_measure_17 rfl nX2_25 yX10_isWithin_ok (c_X10_isWithin) (by decide) rfl (Nat.le_of_ble_eq_true rfl) (Nat.le_of_ble_eq_true rfl) ?_
    rintro _ _ ⟨rfl, rfl⟩
    refine g_if_ne (nx := 23) hX 25 dX2_measure_20 (by decide) rfl (fun h20 => ?_) (fun h20 => ?_)
    · have hb := ga_b_n0 h20
      refine g_aload_n (nx := 26) hX 0 dX2_measure_25 rfl rfl rfl ?_
      refine g_iload_n (nx := 27) hX 1 dX2_measure_26 rfl rfl rfl ?_
      refine g_putfield (nx := 30) hX dX2_measure_27 rfl pX2_35 (ga_dn hn rfl) rfl rfl rfl rfl ?_
      refine g_aload_n (nx := 31) hX 0 dX2_measure_30 rfl rfl rfl ?_
      refine g_iload_n (nx := 32) hX 2 dX2_measure_31 rfl rfl rfl ?_
      refine g_putfield (nx := 35) hX dX2_measure_32 rfl pX2_18 (ga_dn hn rfl) rfl rfl rfl rfl ?_
      refine g_aload_n (nx := 36) hX 0 dX2_measure_35 rfl rfl rfl ?_
      refine g_V0 (nx := 39) hX dX2_measure_36 rfl mX2_32 yX2_setOptimum_ok (c_X2_setOptimum hn (v_tr (by decide) hb.1)) (ga_dn hn rfl) rfl rfl rfl (by decide) rfl (Nat.le_of_ble_eq_true rfl) (Nat.le_of_ble_eq_true rfl) ?_
      rintro _ _ ⟨rfl, rfl⟩
      refine g_aload_n (nx := 40) hX 0 dX2_measure_39 rfl rfl rfl ?_
      refine g_getfield (nx := 43) hX dX2_measure_40 rfl fX2_38 (ga_dn hn rfl) rfl rfl ?_
      exact g_ireturn hX hP dX2_measure_43 rfl (Nat.le_of_ble_eq_true rfl) (Nat.le_of_ble_eq_true rfl) (Or.inl ⟨⟨ga_b_n0 h8, hb⟩, rfl, rfl⟩)
    · refine g_iconst (nx := 24) hX (-1) dX2_measure_23 rfl (by decide) ?_
      exact g_ireturn hX hP dX2_measure_24 rfl (Nat.le_of_ble_eq_true rfl) (Nat.le_of_ble_eq_true rfl) (Or.inr ⟨fun q => ga_b_0 h20 q.2, rfl, rfl⟩)
theorem c_X2_setClock {p a : Int32} (hn : 106 ≤ n) (hf : fn ≤ 30) : ga_Mt E 1 yX2_setClock cX2_setClock 3 (some .boolean) 0 0 [.ref 6, .int p, .int a] (n, (c0 :: c1 :: c2 :: c3 :: c4 :: c5 :: k_C fm em sp fn op :: ga_i 32 ah :: L1), L2, f)
    (fun r M => ((0 ≤ p ∧ p < nI (fn + 2)) ∧ -600 ≤ a ∧ a ≤ 600) ∧ r = some (.int 1) ∧ M = (n, (c0 :: c1 :: c2 :: c3 :: c4 :: c5 :: k_C fm em sp fn op :: ga_i 32 (upd ah p.toNatClampNeg a) :: L1), L2, f) ∨ ¬ ((0 ≤ p ∧ p < nI (fn + 2)) ∧ -600 ≤ a ∧ a ≤ 600) ∧ r = some (.int 0) ∧ M = (n, (c0 :: c1 :: c2 :: c3 :: c4 :: c5 :: k_C fm em sp fn op :: ga_i 32 ah :: L1), L2, f)) := by
  have hc : (0 ≤ p ∧ p ≤ 2 + nI fn - 1) ↔ (0 ≤ p ∧ p < nI (fn + 2)) := by
    rw [show (2 : Int32) + nI fn = nI (fn + 2) by rw [Int32.add_comm]; exact nI_add fn 2]
    exact and_congr_right (fun _ => v_lt1 (by omega))
  refine ga_Mt.of (by decide) rfl (fun X hX hP => ?_)
  refine g_less [some (.ref 6), some (.int p), some (.int a)] ⟨rfl, rfl, rfl, trivial⟩ ?_
  refine g_iload_n (nx := 1) hX 1 dX2_setClock_0 rfl rfl rfl ?_
  refine g_iconst (nx := 2) hX 0 dX2_setClock_1 rfl (by decide) ?_
  refine g_iconst (nx := 3) hX 2 dX2_setClock_2 rfl (by decide) ?_
  refine g_aload_n (nx := 4) hX 0 dX2_setClock_3 rfl rfl rfl ?_
  refine g_getfield (nx := 7) hX dX2_setClock_4 rfl fX2_22 (ga_dn hn rfl) rfl rfl ?_
  refine g_iadd (nx := 8) hX dX2_setClock_7 rfl ?_
  refine g_iconst (nx := 9) hX 1 dX2_setClock_8 rfl (by decide) ?_
  refine g_isub (nx := 10) hX dX2_setClock_9 rfl ?_
  refine g_SN3 (nx := 13) hX dX2_setClock_10 rfl nX2_25 yX10_isWithin_ok (c_X10_isWithin) (by decide) rfl (Nat.le_of_ble_eq_true rfl) (Nat.le_of_ble_eq_true rfl) ?_
  rintro _ _ ⟨rfl, rfl⟩
  refine g_if_eq (nx := 16) hX 29 dX2_setClock_13 (by decide) rfl (fun h13 => ?_) (fun h13 => ?_)
  · refine g_iconst (nx := 30) hX 0 dX2_setClock_29 rfl (by decide) ?_
    exact g_ireturn hX hP dX2_setClock_30 rfl (Nat.le_of_ble_eq_true rfl) (Nat.le_of_ble_eq_true rfl) (Or.inr ⟨fun q => ga_b_0 h13 (hc.mpr q.1), rfl, rfl⟩)
  · have hp := hc.mp (ga_b_n0 h13)
    refine g_iload_n (nx := 17) hX 2 dX2_setClock_16 rfl rfl rfl ?_
    refine g_sipush (nx := 20) hX (-600) dX2_setClock_17 rfl (by decide) ?_
    refine g_sipush (nx := 23) hX 600 dX2_setClock_20 rfl (by decide) ?_
    refine g_SN3 (nx := 26) hX dX2_setClock_23 rfl nX2_25 yX10_isWithin_ok (c_X10_isWithin) (by decide) rfl (Nat.le_of_ble_eq_true rfl) (Nat.le_of_ble_eq_true rfl) ?_
    rintro _ _ ⟨rfl, rfl⟩
    refine g_if_ne (nx := 29) hX 31 dX2_setClock_26 (by decide) rfl (fun h26 => ?_) (fun h26 => ?_)
    · refine g_aload_n (nx := 32) hX 0 dX2_setClock_31 rfl rfl rfl ?_
      refine g_getfield (nx := 35) hX dX2_setClock_32 rfl fX2_11 (ga_dn hn rfl) rfl rfl ?_
      refine g_iload_n (nx := 36) hX 1 dX2_setClock_35 rfl rfl rfl ?_
      refine g_iload_n (nx := 37) hX 2 dX2_setClock_36 rfl rfl rfl ?_
      refine g_iastore (nx := 38) hX dX2_setClock_37 rfl (ga_dn hn rfl) rfl (ix_lt hp.1 hp.2 (by omega) (by omega)) ?_
      refine g_iconst (nx := 39) hX 1 dX2_setClock_38 rfl (by decide) ?_
      exact g_ireturn hX hP dX2_setClock_39 rfl (Nat.le_of_ble_eq_true rfl) (Nat.le_of_ble_eq_true rfl) (Or.inl ⟨⟨hp, ga_b_n0 h26⟩, rfl, rfl⟩)
    · refine g_iconst (nx := 30) hX 0 dX2_setClock_29 rfl (by decide) ?_
      exact g_ireturn hX hP dX2_setClock_30 rfl (Nat.le_of_ble_eq_true rfl) (Nat.le_of_ble_eq_true rfl) (Or.inr ⟨fun q => ga_b_0 h26 q.2, rfl, rfl⟩)
theorem c_X2_takeOut {x s : Int32} (hn : 106 ≤ n) (hf : fn ≤ 30) : ga_Mt E 2 yX2_takeOut cX2_takeOut 3 (some .boolean) 0 0 [.ref 6, .int x, .int s] (n, (c0 :: c1 :: c2 :: c3 :: c4 :: c5 :: k_C fm em sp fn op :: c7 :: ga_i 30 ou :: L1), L2, f)
    (fun r M => ((0 ≤ x ∧ x < nI fn) ∧ -1 ≤ s ∧ s ≤ 86399) ∧ r = some (.int 1) ∧ M = (n, (c0 :: c1 :: c2 :: c3 :: c4 :: c5 :: k_C fm em sp fn op :: c7 :: ga_i 30 (upd ou x.toNatClampNeg s) :: L1), L2, f) ∨ ¬ ((0 ≤ x ∧ x < nI fn) ∧ -1 ≤ s ∧ s ≤ 86399) ∧ r = some (.int 0) ∧ M = (n, (c0 :: c1 :: c2 :: c3 :: c4 :: c5 :: k_C fm em sp fn op :: c7 :: ga_i 30 ou :: L1), L2, f)) := by
  refine ga_Mt.of (by decide) rfl (fun X hX hP => ?_)
  refine g_less [some (.ref 6), some (.int x), some (.int s)] ⟨rfl, rfl, rfl, trivial⟩ ?_
  refine g_aload_n (nx := 1) hX 0 dX2_takeOut_0 rfl rfl rfl ?_
  refine g_iload_n (nx := 2) hX 1 dX2_takeOut_1 rfl rfl rfl ?_
  refine g_V1 (nx := 5) hX dX2_takeOut_2 rfl mX2_41 yX2_hasFence_ok (c_X2_hasFence hn hf) (ga_dn hn rfl) rfl rfl rfl (by decide) rfl (Nat.le_of_ble_eq_true rfl) (Nat.le_of_ble_eq_true rfl) ?_
  rintro _ _ ⟨rfl, rfl⟩
  refine g_if_eq (nx := 8) hX 18 dX2_takeOut_5 (by decide) rfl (fun h5 => ?_) (fun h5 => ?_)
  · refine g_iconst (nx := 19) hX 0 dX2_takeOut_18 rfl (by decide) ?_
    exact g_ireturn hX hP dX2_takeOut_19 rfl (Nat.le_of_ble_eq_true rfl) (Nat.le_of_ble_eq_true rfl) (Or.inr ⟨fun q => ga_b_0 h5 q.1, rfl, rfl⟩)
  · have hp := ga_b_n0 h5
    refine g_iload_n (nx := 9) hX 2 dX2_takeOut_8 rfl rfl rfl ?_
    refine g_iconst (nx := 10) hX (-1) dX2_takeOut_9 rfl (by decide) ?_
    refine g_ldc (nx := 12) hX 86399 dX2_takeOut_10 rfl kX2_45 ?_
    refine g_SN3 (nx := 15) hX dX2_takeOut_12 rfl nX2_25 yX10_isWithin_ok (c_X10_isWithin) (by decide) rfl (Nat.le_of_ble_eq_true rfl) (Nat.le_of_ble_eq_true rfl) ?_
    rintro _ _ ⟨rfl, rfl⟩
    refine g_if_ne (nx := 18) hX 20 dX2_takeOut_15 (by decide) rfl (fun h15 => ?_) (fun h15 => ?_)
    · refine g_aload_n (nx := 21) hX 0 dX2_takeOut_20 rfl rfl rfl ?_
      refine g_getfield (nx := 24) hX dX2_takeOut_21 rfl fX2_15 (ga_dn hn rfl) rfl rfl ?_
      refine g_iload_n (nx := 25) hX 1 dX2_takeOut_24 rfl rfl rfl ?_
      refine g_iload_n (nx := 26) hX 2 dX2_takeOut_25 rfl rfl rfl ?_
      refine g_iastore (nx := 27) hX dX2_takeOut_26 rfl (ga_dn hn rfl) rfl (ix_lt hp.1 hp.2 (by omega) (by omega)) ?_
      refine g_iconst (nx := 28) hX 1 dX2_takeOut_27 rfl (by decide) ?_
      exact g_ireturn hX hP dX2_takeOut_28 rfl (Nat.le_of_ble_eq_true rfl) (Nat.le_of_ble_eq_true rfl) (Or.inl ⟨⟨hp, ga_b_n0 h15⟩, rfl, rfl⟩)
    · refine g_iconst (nx := 19) hX 0 dX2_takeOut_18 rfl (by decide) ?_
      exact g_ireturn hX hP dX2_takeOut_19 rfl (Nat.le_of_ble_eq_true rfl) (Nat.le_of_ble_eq_true rfl) (Or.inr ⟨fun q => ga_b_0 h15 q.2, rfl, rfl⟩)
theorem c_X2_putRight {p s : Int32} (hn : 106 ≤ n) : ga_Mx E 1 yX2_putRight cX2_putRight 3 (some .int) 0 0 [.ref 6, .int p, .int s] (n, (c0 :: c1 :: c2 :: c3 :: c4 :: c5 :: k_C fm em sp fn op :: ga_i 32 ah :: L1), L2, f) (some (.int (if 0 ≤ p ∧ p < 32 then s - ah p.toNatClampNeg else s))) (n, (c0 :: c1 :: c2 :: c3 :: c4 :: c5 :: k_C fm em sp fn op :: ga_i 32 ah :: L1), L2, f) := by
  have hc : (0 ≤ p ∧ p ≤ nI 32 - 1) ↔ (0 ≤ p ∧ p < 32) := and_congr_right (fun _ => v_lt1 (k := 32) (by omega))
  refine ga_Mt.of (by decide) rfl (fun X hX hP => ?_)
  refine g_less [some (.ref 6), some (.int p), some (.int s)] ⟨rfl, rfl, rfl, trivial⟩ ?_
  refine g_iload_n (nx := 1) hX 1 dX2_putRight_0 rfl rfl rfl ?_
  refine g_iconst (nx := 2) hX 0 dX2_putRight_1 rfl (by decide) ?_
  refine g_aload_n (nx := 3) hX 0 dX2_putRight_2 rfl rfl rfl ?_
  refine g_getfield (nx := 6) hX dX2_putRight_3 rfl fX2_11 (ga_dn hn rfl) rfl rfl ?_
  refine g_arraylength (nx := 7) hX dX2_putRight_6 rfl (ga_dn hn rfl) rfl ?_
  refine g_iconst (nx := 8) hX 1 dX2_putRight_7 rfl (by decide) ?_
  refine g_isub (nx := 9) hX dX2_putRight_8 rfl ?_
  refine g_SN3 (nx := 12) hX dX2_putRight_9 rfl nX2_25 yX10_isWithin_ok (c_X10_isWithin) (by decide) rfl (Nat.le_of_ble_eq_true rfl) (Nat.le_of_ble_eq_true rfl) ?_
  rintro _ _ ⟨rfl, rfl⟩
  refine g_if_eq (nx := 15) hX 26 dX2_putRight_12 (by decide) rfl (fun h12 => ?_) (fun h12 => ?_)
  · refine g_iload_n (nx := 27) hX 2 dX2_putRight_26 rfl rfl rfl ?_
    exact g_ireturn hX hP dX2_putRight_27 rfl (Nat.le_of_ble_eq_true rfl) (Nat.le_of_ble_eq_true rfl) ⟨by rw [if_neg (fun q => ga_b_0 h12 (hc.mpr q))], rfl⟩
  · have hp := hc.mp (ga_b_n0 h12)
    refine g_iload_n (nx := 16) hX 2 dX2_putRight_15 rfl rfl rfl ?_
    refine g_aload_n (nx := 17) hX 0 dX2_putRight_16 rfl rfl rfl ?_
    refine g_getfield (nx := 20) hX dX2_putRight_17 rfl fX2_11 (ga_dn hn rfl) rfl rfl ?_
    refine g_iload_n (nx := 21) hX 1 dX2_putRight_20 rfl rfl rfl ?_
    refine g_iaload (nx := 22) hX dX2_putRight_21 rfl (ga_dn hn rfl) rfl (ix_lt (k := 32) hp.1 hp.2 (by omega) (by omega)) ?_
    refine g_isub (nx := 23) hX dX2_putRight_22 rfl ?_
    refine g_goto (nx := 27) hX dX2_putRight_23 (by decide) ?_
    exact g_ireturn hX hP dX2_putRight_27 rfl (Nat.le_of_ble_eq_true rfl) (Nat.le_of_ble_eq_true rfl) ⟨by rw [if_pos hp], rfl⟩
/-! the reference's -/
theorem oo_loop {d mc ms : Nat} (hX : ga_B E d yX11_optimum cX11_optimum 3 mc ms X) (hn : 106 ≤ n) (hf : fn ≤ 30)
    (kont : ga_G E X 0 0 30 [some (.ref 79), some (.int (em + w_s mt fn)), none] [] (n, L1, ((m_O o_tp o_rd (nI fn) (em) (sp) o_ac o_td o_sm o_tt o_at o_sz o_fk o_fp o_nw o_md o_nt o_pl o_op) :: m80 :: m81 :: ga_i 30 mt :: L2), f)) :
    ∀ (m r : Nat), r ≤ fn → fn - r ≤ m → ga_G E X 0 0 7 [some (.ref 79), some (.int (em + w_s mt r)), some (.int (nI r))] [] (n, L1, ((m_O o_tp o_rd (nI fn) (em) (sp) o_ac o_td o_sm o_tt o_at o_sz o_fk o_fp o_nw o_md o_nt o_pl o_op) :: m80 :: m81 :: ga_i 30 mt :: L2), f) := by
  intro m
  induction m with
  | zero =>
    intro r h1 h2
    have e : r = fn := by omega
    subst e
    refine g_iload_n (nx := 8) hX 2 dX11_optimum_7 rfl rfl rfl ?_
    refine g_aload_n (nx := 9) hX 0 dX11_optimum_8 rfl rfl rfl ?_
    refine g_getfield (nx := 12) hX dX11_optimum_9 rfl fX11_23 (ga_dn hn rfl) rfl rfl ?_
    refine g_icmp_ge (nx := 15) hX 30 dX11_optimum_12 (by decide) rfl (fun h12 => ?_) (fun h12 => ?_)
    · exact g_ls kont ⟨rfl, rfl, trivial⟩
    · exact absurd (nI_le (Nat.le_refl r) (by omega)) h12
  | succ m ih =>
    intro r h1 h2
    refine g_iload_n (nx := 8) hX 2 dX11_optimum_7 rfl rfl rfl ?_
    refine g_aload_n (nx := 9) hX 0 dX11_optimum_8 rfl rfl rfl ?_
    refine g_getfield (nx := 12) hX dX11_optimum_9 rfl fX11_23 (ga_dn hn rfl) rfl rfl ?_
    refine g_icmp_ge (nx := 15) hX 30 dX11_optimum_12 (by decide) rfl (fun h12 => ?_) (fun h12 => ?_)
    · have e : r = fn := by have := (nI_leI (a := fn) (b := r) (by omega) (by omega)).mp h12; omega
      subst e
      exact g_ls kont ⟨rfl, rfl, trivial⟩
    · have hlt : r < fn := Nat.lt_of_not_le (fun q => h12 (nI_le q (by omega)))
      refine g_iload_n (nx := 16) hX 1 dX11_optimum_15 rfl rfl rfl ?_
      refine g_aload_n (nx := 17) hX 0 dX11_optimum_16 rfl rfl rfl ?_
      refine g_getfield (nx := 20) hX dX11_optimum_17 rfl fX11_26 (ga_dn hn rfl) rfl rfl ?_
      refine g_iload_n (nx := 21) hX 2 dX11_optimum_20 rfl rfl rfl ?_
      refine g_iaload (nx := 22) hX dX11_optimum_21 rfl (ga_dn hn rfl) rfl (ga_ix_of rfl (by omega) (by omega)) ?_
      refine g_iadd (nx := 23) hX dX11_optimum_22 rfl ?_
      refine g_istore_n (nx := 24) hX 1 dX11_optimum_23 rfl rfl rfl ?_
      refine g_iinc (nx := 27) hX 2 (nI (r + 1)) dX11_optimum_24 rfl rfl rfl (nI_1 r) ?_
      refine g_goto (nx := 7) hX dX11_optimum_27 (by decide) ?_
      have := ih (r + 1) (by omega) (by omega)
      rw [w_s, ← Int32.add_assoc] at this
      exact this
theorem c_X11_optimum (hn : 106 ≤ n) (hf : fn ≤ 30) (hs : 1 ≤ sp) : ga_Mx E 0 yX11_optimum cX11_optimum 3 (some .int) 0 0 [.ref 79] (n, L1, ((m_O o_tp o_rd (nI fn) (em) (sp) o_ac o_td o_sm o_tt o_at o_sz o_fk o_fp o_nw o_md o_nt o_pl o_op) :: m80 :: m81 :: ga_i 30 mt :: L2), f) (some (.int (w_op (w_s mt fn) em sp))) (n, L1, ((m_O o_tp o_rd (nI fn) (em) (sp) o_ac o_td o_sm o_tt o_at o_sz o_fk o_fp o_nw o_md o_nt o_pl o_op) :: m80 :: m81 :: ga_i 30 mt :: L2), f) := by
  refine ga_Mt.of (by decide) rfl (fun X hX hP => ?_)
  refine g_less [some (.ref 79), none, none] ⟨rfl, trivial⟩ ?_
  have tail : ga_G E X 0 0 30 [some (.ref 79), some (.int (em + w_s mt fn)), none] [] (n, L1, ((m_O o_tp o_rd (nI fn) (em) (sp) o_ac o_td o_sm o_tt o_at o_sz o_fk o_fp o_nw o_md o_nt o_pl o_op) :: m80 :: m81 :: ga_i 30 mt :: L2), f) := by
    refine g_bipush (nx := 32) hX 60 dX11_optimum_30 rfl (by decide) ?_
    refine g_iload_n (nx := 33) hX 1 dX11_optimum_32 rfl rfl rfl ?_
    refine g_imul (nx := 34) hX dX11_optimum_33 rfl ?_
    refine g_aload_n (nx := 35) hX 0 dX11_optimum_34 rfl rfl rfl ?_
    refine g_getfield (nx := 38) hX dX11_optimum_35 rfl fX11_38 (ga_dn hn rfl) rfl rfl ?_
    refine g_iadd (nx := 39) hX dX11_optimum_38 rfl ?_
    refine g_iconst (nx := 40) hX 1 dX11_optimum_39 rfl (by decide) ?_
    refine g_isub (nx := 41) hX dX11_optimum_40 rfl ?_
    refine g_aload_n (nx := 42) hX 0 dX11_optimum_41 rfl rfl rfl ?_
    refine g_getfield (nx := 45) hX dX11_optimum_42 rfl fX11_38 (ga_dn hn rfl) rfl rfl ?_
    refine g_idiv (nx := 46) hX dX11_optimum_45 rfl (v_sp hs).2 ?_
    exact g_ireturn hX hP dX11_optimum_46 rfl (Nat.le_of_ble_eq_true rfl) (Nat.le_of_ble_eq_true rfl) ⟨by unfold w_op; rw [Int32.add_comm (w_s mt fn) em], rfl⟩
  refine g_aload_n (nx := 1) hX 0 dX11_optimum_0 rfl rfl rfl ?_
  refine g_getfield (nx := 4) hX dX11_optimum_1 rfl fX11_35 (ga_dn hn rfl) rfl rfl ?_
  refine g_istore_n (nx := 5) hX 1 dX11_optimum_4 rfl rfl rfl ?_
  refine g_iconst (nx := 6) hX 0 dX11_optimum_5 rfl (by decide) ?_
  refine g_istore_n (nx := 7) hX 2 dX11_optimum_6 rfl rfl rfl ?_
  refine g_ls (oo_loop hX hn hf tail fn 0 (by omega) (by omega)) ⟨rfl, ?_, rfl, trivial⟩
  rw [w_s, Int32.add_zero]
  rfl
theorem c_X11_fence {v : Int32} (hn : 106 ≤ n) (hf : fn ≤ 30) : ga_Mt E 1 yX11_fence cX11_fence 2 (some .int) 0 0 [.ref 79, .int v] (n, L1, ((m_O o_tp o_rd (nI fn) o_em o_sp o_ac o_td o_sm o_tt o_at o_sz o_fk o_fp o_nw o_md o_nt o_pl o_op) :: m80 :: m81 :: ga_i 30 mt :: ga_i 30 ou :: L2), f)
    (fun r M => (fn < 30 ∧ 0 ≤ v ∧ v ≤ 2000) ∧ r = some (.int (nI (fn + 1))) ∧ M = (n, L1, ((m_O o_tp o_rd (nI (fn + 1)) o_em o_sp o_ac o_td o_sm o_tt o_at o_sz o_fk o_fp o_nw o_md o_nt o_pl o_op) :: m80 :: m81 :: ga_i 30 (upd mt fn v) :: ga_i 30 (upd ou fn (-1)) :: L2), f) ∨ ¬ (fn < 30 ∧ 0 ≤ v ∧ v ≤ 2000) ∧ r = some (.int (-1)) ∧ M = (n, L1, ((m_O o_tp o_rd (nI fn) o_em o_sp o_ac o_td o_sm o_tt o_at o_sz o_fk o_fp o_nw o_md o_nt o_pl o_op) :: m80 :: m81 :: ga_i 30 mt :: ga_i 30 ou :: L2), f)) := by
  refine ga_Mt.of (by decide) rfl (fun X hX hP => ?_)
  refine g_less [some (.ref 79), some (.int v)] ⟨rfl, rfl, trivial⟩ ?_
  refine g_iload_n (nx := 1) hX 1 dX11_fence_0 rfl rfl rfl ?_
  refine g_iconst (nx := 2) hX 0 dX11_fence_1 rfl (by decide) ?_
  refine g_sipush (nx := 5) hX 2000 dX11_fence_2 rfl (by decide) ?_
  refine g_S3 (nx := 8) hX dX11_fence_5 rfl mX11_149 yX11_is_ok (c_X11_is) (by decide) rfl (Nat.le_of_ble_eq_true rfl) (Nat.le_of_ble_eq_true rfl) ?_
  rintro _ _ ⟨rfl, rfl⟩
  refine g_if_eq (nx := 11) hX 20 dX11_fence_8 (by decide) rfl (fun h8 => ?_) (fun h8 => ?_)
  · refine g_iconst (nx := 21) hX (-1) dX11_fence_20 rfl (by decide) ?_
    exact g_ireturn hX hP dX11_fence_21 rfl (Nat.le_of_ble_eq_true rfl) (Nat.le_of_ble_eq_true rfl) (Or.inr ⟨fun q => ga_b_0 h8 q.2, rfl, rfl⟩)
  · have hb := ga_b_n0 h8
    refine g_aload_n (nx := 12) hX 0 dX11_fence_11 rfl rfl rfl ?_
    refine g_getfield (nx := 15) hX dX11_fence_12 rfl fX11_23 (ga_dn hn rfl) rfl rfl ?_
    refine g_bipush (nx := 17) hX 30 dX11_fence_15 rfl (by decide) ?_
    refine g_icmp_ne (nx := 20) hX 22 dX11_fence_17 (by decide) rfl (fun h17 => ?_) (fun h17 => ?_)
    · have hlt : fn < 30 := Nat.lt_of_le_of_ne hf (fun q => h17 (by rw [q]; rfl))
      refine g_aload_n (nx := 23) hX 0 dX11_fence_22 rfl rfl rfl ?_
      refine g_getfield (nx := 26) hX dX11_fence_23 rfl fX11_26 (ga_dn hn rfl) rfl rfl ?_
      refine g_aload_n (nx := 27) hX 0 dX11_fence_26 rfl rfl rfl ?_
      refine g_getfield (nx := 30) hX dX11_fence_27 rfl fX11_23 (ga_dn hn rfl) rfl rfl ?_
      refine g_iload_n (nx := 31) hX 1 dX11_fence_30 rfl rfl rfl ?_
      refine g_iastore (nx := 32) hX dX11_fence_31 rfl (ga_dn hn rfl) rfl (ga_ix_of rfl (by omega) (by omega)) ?_
      refine g_aload_n (nx := 33) hX 0 dX11_fence_32 rfl rfl rfl ?_
      refine g_getfield (nx := 36) hX dX11_fence_33 rfl fX11_29 (ga_dn hn rfl) rfl rfl ?_
      refine g_aload_n (nx := 37) hX 0 dX11_fence_36 rfl rfl rfl ?_
      refine g_getfield (nx := 40) hX dX11_fence_37 rfl fX11_23 (ga_dn hn rfl) rfl rfl ?_
      refine g_iconst (nx := 41) hX (-1) dX11_fence_40 rfl (by decide) ?_
      refine g_iastore (nx := 42) hX dX11_fence_41 rfl (ga_dn hn rfl) rfl (ga_ix_of rfl (by omega) (by omega)) ?_
      refine g_aload_n (nx := 43) hX 0 dX11_fence_42 rfl rfl rfl ?_
      refine g_dup (nx := 44) hX dX11_fence_43 rfl rfl ?_
      refine g_getfield (nx := 47) hX dX11_fence_44 rfl fX11_23 (ga_dn hn rfl) rfl rfl ?_
      refine g_iconst (nx := 48) hX 1 dX11_fence_47 rfl (by decide) ?_
      refine g_iadd (nx := 49) hX dX11_fence_48 rfl ?_
      rw [nI_1]
      refine g_putfield (nx := 52) hX dX11_fence_49 rfl pX11_23 (ga_dn hn rfl) rfl rfl rfl rfl ?_
      refine g_aload_n (nx := 53) hX 0 dX11_fence_52 rfl rfl rfl ?_
      refine g_getfield (nx := 56) hX dX11_fence_53 rfl fX11_23 (ga_dn hn rfl) rfl rfl ?_
      exact g_ireturn hX hP dX11_fence_56 rfl (Nat.le_of_ble_eq_true rfl) (Nat.le_of_ble_eq_true rfl) (Or.inl ⟨⟨hlt, hb⟩, rfl, rfl⟩)
    · refine g_iconst (nx := 21) hX (-1) dX11_fence_20 rfl (by decide) ?_
      exact g_ireturn hX hP dX11_fence_21 rfl (Nat.le_of_ble_eq_true rfl) (Nat.le_of_ble_eq_true rfl) (Or.inr ⟨fun q => absurd (nI_inj (b := 30) h17 (by omega) (by omega)) (by have := q.1; omega), rfl, rfl⟩)
theorem c_X11_course {e s : Int32} (hn : 106 ≤ n) (hf : fn ≤ 30) : ga_Mt E 1 yX11_course cX11_course 3 (some .int) 0 0 [.ref 79, .int e, .int s] (n, L1, ((m_O o_tp o_rd (nI fn) (em) (sp) o_ac o_td o_sm o_tt o_at o_sz o_fk o_fp o_nw o_md o_nt o_pl o_op) :: m80 :: m81 :: ga_i 30 mt :: L2), f)
    (fun r M => ((0 ≤ e ∧ e ≤ 2000) ∧ 100 ≤ s ∧ s ≤ 700) ∧ r = some (.int (w_op (w_s mt fn) e s)) ∧ M = (n, L1, ((m_O o_tp o_rd (nI fn) (e) (s) o_ac o_td o_sm o_tt o_at o_sz o_fk o_fp o_nw o_md o_nt o_pl o_op) :: m80 :: m81 :: ga_i 30 mt :: L2), f) ∨ ¬ ((0 ≤ e ∧ e ≤ 2000) ∧ 100 ≤ s ∧ s ≤ 700) ∧ r = some (.int (-1)) ∧ M = (n, L1, ((m_O o_tp o_rd (nI fn) (em) (sp) o_ac o_td o_sm o_tt o_at o_sz o_fk o_fp o_nw o_md o_nt o_pl o_op) :: m80 :: m81 :: ga_i 30 mt :: L2), f)) := by
  refine ga_Mt.of (by decide) rfl (fun X hX hP => ?_)
  refine g_less [some (.ref 79), some (.int e), some (.int s)] ⟨rfl, rfl, rfl, trivial⟩ ?_
  refine g_iload_n (nx := 1) hX 1 dX11_course_0 rfl rfl rfl ?_
  refine g_iconst (nx := 2) hX 0 dX11_course_1 rfl (by decide) ?_
  refine g_sipush (nx := 5) hX 2000 dX11_course_2 rfl (by decide) ?_
  refine g_S3 (nx := 8) hX dX11_course_5 rfl mX11_149 yX11_is_ok (c_X11_is) (by decide) rfl (Nat.le_of_ble_eq_true rfl) (Nat.le_of_ble_eq_true rfl) ?_
  rintro _ _ ⟨rfl, rfl⟩
  refine g_if_eq (nx := 11) hX 23 dX11_course_8 (by decide) rfl (fun h8 => ?_) (fun h8 => ?_)
  · refine g_iconst (nx := 24) hX (-1) dX11_course_23 rfl (by decide) ?_
    exact g_ireturn hX hP dX11_course_24 rfl (Nat.le_of_ble_eq_true rfl) (Nat.le_of_ble_eq_true rfl) (Or.inr ⟨fun q => ga_b_0 h8 q.1, rfl, rfl⟩)
  · refine g_iload_n (nx := 12) hX 2 dX11_course_11 rfl rfl rfl ?_
    refine g_bipush (nx := 14) hX 100 dX11_course_12 rfl (by decide) ?_
    refine g_sipush (nx := 17) hX 700 dX11_course_14 rfl (by decide) ?_
    refine g_S3 (nx := 20) hX dX11_course_17 rfl mX11_149 yX11_is_ok (c_X11_is) (by decide) rfl (Nat.le_of_ble_eq_true rfl) (Nat.le_of_ble_eq_true rfl) ?_
    rintro _ _ ⟨rfl, rfl⟩
    refine g_if_ne (nx := 23) hX 25 dX11_course_20 (by decide) rfl (fun h20 => ?_) (fun h20 => ?_)
    · have hb := ga_b_n0 h20
      refine g_aload_n (nx := 26) hX 0 dX11_course_25 rfl rfl rfl ?_
      refine g_iload_n (nx := 27) hX 1 dX11_course_26 rfl rfl rfl ?_
      refine g_putfield (nx := 30) hX dX11_course_27 rfl pX11_35 (ga_dn hn rfl) rfl rfl rfl rfl ?_
      refine g_aload_n (nx := 31) hX 0 dX11_course_30 rfl rfl rfl ?_
      refine g_iload_n (nx := 32) hX 2 dX11_course_31 rfl rfl rfl ?_
      refine g_putfield (nx := 35) hX dX11_course_32 rfl pX11_38 (ga_dn hn rfl) rfl rfl rfl rfl ?_
      refine g_aload_n (nx := 36) hX 0 dX11_course_35 rfl rfl rfl ?_
      refine g_V0 (nx := 39) hX dX11_course_36 rfl mX11_153 yX11_optimum_ok (c_X11_optimum hn hf (v_tr (by decide) hb.1)) (ga_dn hn rfl) rfl rfl rfl (by decide) rfl (Nat.le_of_ble_eq_true rfl) (Nat.le_of_ble_eq_true rfl) ?_
      rintro _ _ ⟨rfl, rfl⟩
      exact g_ireturn hX hP dX11_course_39 rfl (Nat.le_of_ble_eq_true rfl) (Nat.le_of_ble_eq_true rfl) (Or.inl ⟨⟨ga_b_n0 h8, hb⟩, rfl, rfl⟩)
    · refine g_iconst (nx := 24) hX (-1) dX11_course_23 rfl (by decide) ?_
      exact g_ireturn hX hP dX11_course_24 rfl (Nat.le_of_ble_eq_true rfl) (Nat.le_of_ble_eq_true rfl) (Or.inr ⟨fun q => ga_b_0 h20 q.2, rfl, rfl⟩)
theorem c_X11_clock {p a : Int32} (hn : 106 ≤ n) (hf : fn ≤ 30) : ga_Mt E 1 yX11_clock cX11_clock 3 (some .boolean) 0 0 [.ref 79, .int p, .int a] (n, L1, ((m_O o_tp o_rd (nI fn) o_em o_sp o_ac o_td o_sm o_tt o_at o_sz o_fk o_fp o_nw o_md o_nt o_pl o_op) :: m80 :: m81 :: m82 :: m83 :: ga_i 32 ah :: L2), f)
    (fun r M => ((0 ≤ p ∧ p < nI (fn + 2)) ∧ -600 ≤ a ∧ a ≤ 600) ∧ r = some (.int 1) ∧ M = (n, L1, ((m_O o_tp o_rd (nI fn) o_em o_sp o_ac o_td o_sm o_tt o_at o_sz o_fk o_fp o_nw o_md o_nt o_pl o_op) :: m80 :: m81 :: m82 :: m83 :: ga_i 32 (upd ah p.toNatClampNeg a) :: L2), f) ∨ ¬ ((0 ≤ p ∧ p < nI (fn + 2)) ∧ -600 ≤ a ∧ a ≤ 600) ∧ r = some (.int 0) ∧ M = (n, L1, ((m_O o_tp o_rd (nI fn) o_em o_sp o_ac o_td o_sm o_tt o_at o_sz o_fk o_fp o_nw o_md o_nt o_pl o_op) :: m80 :: m81 :: m82 :: m83 :: ga_i 32 ah :: L2), f)) := by
  have hc : ¬ (nI fn + 1 < p) ↔ p < nI (fn + 2) := by
    rw [nI_1, show nI (fn + 2) = nI (fn + 2) from rfl, ← v_lt1 (k := fn + 2) (by omega), nI_pred (fn + 1)]
    exact ⟨fun h => ga_nlt h, fun h => ga_len h⟩
  refine ga_Mt.of (by decide) rfl (fun X hX hP => ?_)
  refine g_less [some (.ref 79), some (.int p), some (.int a)] ⟨rfl, rfl, rfl, trivial⟩ ?_
  refine g_iload_n (nx := 1) hX 1 dX11_clock_0 rfl rfl rfl ?_
  refine g_if_lt (nx := 4) hX 27 dX11_clock_1 (by decide) rfl (fun h1 => ?_) (fun h1 => ?_)
  · refine g_iconst (nx := 28) hX 0 dX11_clock_27 rfl (by decide) ?_
    exact g_ireturn hX hP dX11_clock_28 rfl (Nat.le_of_ble_eq_true rfl) (Nat.le_of_ble_eq_true rfl) (Or.inr ⟨fun q => ga_len q.1.1 h1, rfl, rfl⟩)
  · refine g_iload_n (nx := 5) hX 1 dX11_clock_4 rfl rfl rfl ?_
    refine g_aload_n (nx := 6) hX 0 dX11_clock_5 rfl rfl rfl ?_
    refine g_getfield (nx := 9) hX dX11_clock_6 rfl fX11_23 (ga_dn hn rfl) rfl rfl ?_
    refine g_iconst (nx := 10) hX 1 dX11_clock_9 rfl (by decide) ?_
    refine g_iadd (nx := 11) hX dX11_clock_10 rfl ?_
    refine g_icmp_gt (nx := 14) hX 27 dX11_clock_11 (by decide) rfl (fun h11 => ?_) (fun h11 => ?_)
    · refine g_iconst (nx := 28) hX 0 dX11_clock_27 rfl (by decide) ?_
      exact g_ireturn hX hP dX11_clock_28 rfl (Nat.le_of_ble_eq_true rfl) (Nat.le_of_ble_eq_true rfl) (Or.inr ⟨fun q => hc.mpr q.1.2 h11, rfl, rfl⟩)
    · have hp : 0 ≤ p ∧ p < nI (fn + 2) := ⟨ga_nlt h1, hc.mp h11⟩
      refine g_iload_n (nx := 15) hX 2 dX11_clock_14 rfl rfl rfl ?_
      refine g_sipush (nx := 18) hX (-600) dX11_clock_15 rfl (by decide) ?_
      refine g_sipush (nx := 21) hX 600 dX11_clock_18 rfl (by decide) ?_
      refine g_S3 (nx := 24) hX dX11_clock_21 rfl mX11_149 yX11_is_ok (c_X11_is) (by decide) rfl (Nat.le_of_ble_eq_true rfl) (Nat.le_of_ble_eq_true rfl) ?_
      rintro _ _ ⟨rfl, rfl⟩
      refine g_if_ne (nx := 27) hX 29 dX11_clock_24 (by decide) rfl (fun h24 => ?_) (fun h24 => ?_)
      · refine g_aload_n (nx := 30) hX 0 dX11_clock_29 rfl rfl rfl ?_
        refine g_getfield (nx := 33) hX dX11_clock_30 rfl fX11_32 (ga_dn hn rfl) rfl rfl ?_
        refine g_iload_n (nx := 34) hX 1 dX11_clock_33 rfl rfl rfl ?_
        refine g_iload_n (nx := 35) hX 2 dX11_clock_34 rfl rfl rfl ?_
        refine g_iastore (nx := 36) hX dX11_clock_35 rfl (ga_dn hn rfl) rfl (ix_lt hp.1 hp.2 (by omega) (by omega)) ?_
        refine g_iconst (nx := 37) hX 1 dX11_clock_36 rfl (by decide) ?_
        exact g_ireturn hX hP dX11_clock_37 rfl (Nat.le_of_ble_eq_true rfl) (Nat.le_of_ble_eq_true rfl) (Or.inl ⟨⟨hp, ga_b_n0 h24⟩, rfl, rfl⟩)
      · refine g_iconst (nx := 28) hX 0 dX11_clock_27 rfl (by decide) ?_
        exact g_ireturn hX hP dX11_clock_28 rfl (Nat.le_of_ble_eq_true rfl) (Nat.le_of_ble_eq_true rfl) (Or.inr ⟨fun q => ga_b_0 h24 q.2, rfl, rfl⟩)
theorem c_X11_out {x s : Int32} (hn : 106 ≤ n) (hf : fn ≤ 30) : ga_Mt E 1 yX11_out cX11_out 3 (some .boolean) 0 0 [.ref 79, .int x, .int s] (n, L1, ((m_O o_tp o_rd (nI fn) o_em o_sp o_ac o_td o_sm o_tt o_at o_sz o_fk o_fp o_nw o_md o_nt o_pl o_op) :: m80 :: m81 :: m82 :: ga_i 30 ou :: L2), f)
    (fun r M => ((0 ≤ x ∧ x < nI fn) ∧ -1 ≤ s ∧ s ≤ 86399) ∧ r = some (.int 1) ∧ M = (n, L1, ((m_O o_tp o_rd (nI fn) o_em o_sp o_ac o_td o_sm o_tt o_at o_sz o_fk o_fp o_nw o_md o_nt o_pl o_op) :: m80 :: m81 :: m82 :: ga_i 30 (upd ou x.toNatClampNeg s) :: L2), f) ∨ ¬ ((0 ≤ x ∧ x < nI fn) ∧ -1 ≤ s ∧ s ≤ 86399) ∧ r = some (.int 0) ∧ M = (n, L1, ((m_O o_tp o_rd (nI fn) o_em o_sp o_ac o_td o_sm o_tt o_at o_sz o_fk o_fp o_nw o_md o_nt o_pl o_op) :: m80 :: m81 :: m82 :: ga_i 30 ou :: L2), f)) := by
  refine ga_Mt.of (by decide) rfl (fun X hX hP => ?_)
  refine g_less [some (.ref 79), some (.int x), some (.int s)] ⟨rfl, rfl, rfl, trivial⟩ ?_
  refine g_iload_n (nx := 1) hX 1 dX11_out_0 rfl rfl rfl ?_
  refine g_if_lt (nx := 4) hX 22 dX11_out_1 (by decide) rfl (fun h1 => ?_) (fun h1 => ?_)
  · refine g_iconst (nx := 23) hX 0 dX11_out_22 rfl (by decide) ?_
    exact g_ireturn hX hP dX11_out_23 rfl (Nat.le_of_ble_eq_true rfl) (Nat.le_of_ble_eq_true rfl) (Or.inr ⟨fun q => ga_len q.1.1 h1, rfl, rfl⟩)
  · refine g_iload_n (nx := 5) hX 1 dX11_out_4 rfl rfl rfl ?_
    refine g_aload_n (nx := 6) hX 0 dX11_out_5 rfl rfl rfl ?_
    refine g_getfield (nx := 9) hX dX11_out_6 rfl fX11_23 (ga_dn hn rfl) rfl rfl ?_
    refine g_icmp_ge (nx := 12) hX 22 dX11_out_9 (by decide) rfl (fun h9 => ?_) (fun h9 => ?_)
    · refine g_iconst (nx := 23) hX 0 dX11_out_22 rfl (by decide) ?_
      exact g_ireturn hX hP dX11_out_23 rfl (Nat.le_of_ble_eq_true rfl) (Nat.le_of_ble_eq_true rfl) (Or.inr ⟨fun q => ga_ltn q.1.2 h9, rfl, rfl⟩)
    · have hp : 0 ≤ x ∧ x < nI fn := ⟨ga_nlt h1, ga_nle h9⟩
      refine g_iload_n (nx := 13) hX 2 dX11_out_12 rfl rfl rfl ?_
      refine g_iconst (nx := 14) hX (-1) dX11_out_13 rfl (by decide) ?_
      refine g_ldc (nx := 16) hX 86399 dX11_out_14 rfl kX11_157 ?_
      refine g_S3 (nx := 19) hX dX11_out_16 rfl mX11_149 yX11_is_ok (c_X11_is) (by decide) rfl (Nat.le_of_ble_eq_true rfl) (Nat.le_of_ble_eq_true rfl) ?_
      rintro _ _ ⟨rfl, rfl⟩
      refine g_if_ne (nx := 22) hX 24 dX11_out_19 (by decide) rfl (fun h19 => ?_) (fun h19 => ?_)
      · refine g_aload_n (nx := 25) hX 0 dX11_out_24 rfl rfl rfl ?_
        refine g_getfield (nx := 28) hX dX11_out_25 rfl fX11_29 (ga_dn hn rfl) rfl rfl ?_
        refine g_iload_n (nx := 29) hX 1 dX11_out_28 rfl rfl rfl ?_
        refine g_iload_n (nx := 30) hX 2 dX11_out_29 rfl rfl rfl ?_
        refine g_iastore (nx := 31) hX dX11_out_30 rfl (ga_dn hn rfl) rfl (ix_lt hp.1 hp.2 (by omega) (by omega)) ?_
        refine g_iconst (nx := 32) hX 1 dX11_out_31 rfl (by decide) ?_
        exact g_ireturn hX hP dX11_out_32 rfl (Nat.le_of_ble_eq_true rfl) (Nat.le_of_ble_eq_true rfl) (Or.inl ⟨⟨hp, ga_b_n0 h19⟩, rfl, rfl⟩)
      · refine g_iconst (nx := 23) hX 0 dX11_out_22 rfl (by decide) ?_
        exact g_ireturn hX hP dX11_out_23 rfl (Nat.le_of_ble_eq_true rfl) (Nat.le_of_ble_eq_true rfl) (Or.inr ⟨fun q => ga_b_0 h19 q.2, rfl, rfl⟩)
end
