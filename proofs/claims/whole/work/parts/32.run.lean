/-! ===== the steps done: doStep, run, apply of the class ===== -/
def e_fr (en : Nat → Nat) (k : Nat) : Nat := match k with
  | 0 => 0
  | k + 1 => en k
/-- the number that a stretch of steps makes -/
def e_val (vals : Nat → Int64) (cd : Nat → Nat × Nat) (from_ len : Nat) : Int64 := (e_run vals cd from_ len (0, fun _ => 0)).2 0
/-- the values when so many statements are done -/
def e_vs (cd : Nat → Nat × Nat) (en : Nat → Nat) (v0 : Nat → Int64) : Nat → (Nat → Int64)
  | 0 => v0
  | k + 1 => vp_updL (e_vs cd en v0 k) (15 + k) (e_val (e_vs cd en v0 k) cd (e_fr en k) (en k - e_fr en k))
def e_of (cd : Nat → Nat × Nat) (en : Nat → Nat) (fo : Nat → Int32) (v0 : Nat → Int64) : Nat → Int32
  | 0 => 0
  | k + 1 => if fo k = 1 ∧ e_val (e_vs cd en v0 k) cd (e_fr en k) (en k - e_fr en k) = 1 then 1 else e_of cd en fo v0 k
/-- rules that can be done -/
def e_Rok (cd : Nat → Nat × Nat) (en : Nat → Nat) (sm : Nat) : Prop := sm ≤ 24 ∧ ∀ k, k < sm → e_fr en k ≤ en k ∧ en k ≤ 600 ∧ e_ok cd (e_fr en k) (en k - e_fr en k) ∧ ∀ i, e_fr en k ≤ i → i < en k → (cd i).1 = 1 → (cd i).2 < 15 + k
theorem e_val_any {vals : Nat → Int64} {cd : Nat → Nat × Nat} {from_ len : Nat} (h : e_ok cd from_ len) (s : Nat → Int64) : (e_run vals cd from_ len (0, s)).2 0 = e_val vals cd from_ len := e_run_same (fun _ _ _ => rfl) len h.1 0 (by rw [h.2]; omega)
theorem e_val_bd {vals : Nat → Int64} {cd : Nat → Nat × Nat} {from_ len : Nat} (h : e_ok cd from_ len) (hv : ∀ j, j < 39 → e_bd (vals j)) : e_bd (e_val vals cd from_ len) := e_run_pb hv len h.1 0 (by rw [e_run_d, h.2]; omega)
theorem e_vs_bd {cd : Nat → Nat × Nat} {en : Nat → Nat} {v0 : Nat → Int64} {sm : Nat} (hR : e_Rok cd en sm) (hv : ∀ j, j < 39 → e_bd (v0 j)) : ∀ k, k ≤ sm → ∀ j, j < 39 → e_bd (e_vs cd en v0 k j)
  | 0, _ => hv
  | k + 1, hk => fun j hj => by
    have ih := e_vs_bd hR hv k (by omega)
    rw [e_vs]
    by_cases e : j = 15 + k
    · rw [e, pk_uLs]; exact e_val_bd (hR.2 k (by omega)).2.2.1 ih
    · rw [pk_uLn e]; exact ih j hj
section
variable {E : ga_E} {X : ga_X} {n : Nat} {c0 c1 c2 c3 c4 c5 c6 c7 c8 c9 c10 c11 c12 c13 c14 c15 c16 c17 c18 c19 c20 c21 c22 c23 c24 c25 c26 c27 c28 c29 c30 m79 m80 m81 m82 m83 m84 m85 m86 m87 m88 m89 m90 m91 m92 m93 m94 m95 m96 m97 m98 m99 m100 m101 m102 m103 m104 m105 : ga_C} {L1 L2 : List ga_C} {f : Nat → ga_C} {o_tp o_rd o_fe o_em o_sp o_ac o_td o_sm o_tt o_at o_sz o_fk o_fp o_nw o_md o_nt o_pl o_op d_at d_tk d_ta d_fd d_fa : Int32} {d_tv : Int64} {d_rl : Value}
variable {size tot : Int32} {s : Nat → Int64} {sv : Nat → sh_S} {g : Nat → ga_C} {r : Nat} {cd : Nat → Nat × Nat} {en : Nat → Nat} {fo st_ od : Nat → Int32} {sm : Int32}
set_option maxHeartbeats 4000000 in
theorem c_X6_doStep {d k1 k2 : Nat} {vals : Nat → Int64} (hn : 106 ≤ n) (hr : r < 24) (hc : e_ok1 (k1, k2) d) (hpb : e_pb (d, s)) (hvs : (sv r).2.2.2.2.2.2.2.2 = vals) : ga_Mx E 3 yX6_doStep cX6_doStep 8 none 0 0 [.ref 15, .int (nI k1), .int (nI k2), .ref (2 * r + 31)] (n, (c0 :: c1 :: c2 :: c3 :: c4 :: c5 :: c6 :: c7 :: c8 :: c9 :: c10 :: c11 :: c12 :: c13 :: c14 :: k_U 15 (nI d) size tot sm :: c16 :: c17 :: c18 :: c19 :: ga_l 32 s :: L1), L2, sh_f sv g) none (n, (c0 :: c1 :: c2 :: c3 :: c4 :: c5 :: c6 :: c7 :: c8 :: c9 :: c10 :: c11 :: c12 :: c13 :: c14 :: k_U 15 (nI (e_stp vals (k1, k2) (d, s)).1) size tot sm :: c16 :: c17 :: c18 :: c19 :: ga_l 32 (e_stp vals (k1, k2) (d, s)).2 :: L1), L2, sh_f sv g) := by
  subst hvs
  rcases hc with ⟨h0, h1, h2⟩ | ⟨h0, h1, h2⟩ | ⟨h0, h1, h2, h3⟩ | ⟨h0, h1, h2⟩
  · -- a number
    dsimp only at h0 h2
    subst h0
    refine ga_Mt.of (by decide) rfl (fun X hX hP => ?_)
    refine g_less [some (.ref 15), some (.int (nI 0)), some (.int (nI k2)), some (.ref (2 * r + 31)), none, none, none, none] ⟨rfl, rfl, rfl, rfl, trivial⟩ ?_
    refine g_iload_n (nx := 1) hX 1 dX6_doStep_0 rfl rfl rfl ?_
    refine g_if_ne (nx := 4) hX 13 dX6_doStep_1 (by decide) rfl (fun h => absurd h (by decide)) (fun h => ?_)
    refine g_aload_n (nx := 5) hX 0 dX6_doStep_4 rfl rfl rfl ?_
    refine g_iload_n (nx := 6) hX 2 dX6_doStep_5 rfl rfl rfl ?_
    refine g_i2l (nx := 7) hX dX6_doStep_6 rfl ?_
    rw [nI_l (by omega)]
    refine g_V1 (nx := 10) hX dX6_doStep_7 rfl mX6_76 yX6_push_ok (c_X6_push hn h1) (ga_dn hn rfl) rfl rfl rfl (by decide) rfl (Nat.le_of_ble_eq_true rfl) (Nat.le_of_ble_eq_true rfl) ?_
    rintro _ _ ⟨rfl, rfl⟩
    refine g_goto (nx := 84) hX dX6_doStep_10 (by decide) ?_
    exact g_return hX hP dX6_doStep_84 (Nat.le_of_ble_eq_true rfl) (Nat.le_of_ble_eq_true rfl) ⟨rfl, rfl⟩
  · -- a value
    dsimp only at h0 h2
    subst h0
    have hw : (if 0 ≤ nI k2 ∧ nI k2 ≤ 38 then (sv r).2.2.2.2.2.2.2.2 (nI k2).toNatClampNeg else 0) = (sv r).2.2.2.2.2.2.2.2 k2 := by
      rw [if_pos ⟨nI_pos' (by omega), nI_le (b := 38) (by omega) (by omega)⟩, nI_clamp (by omega)]
    refine ga_Mt.of (by decide) rfl (fun X hX hP => ?_)
    refine g_less [some (.ref 15), some (.int (nI 1)), some (.int (nI k2)), some (.ref (2 * r + 31)), none, none, none, none] ⟨rfl, rfl, rfl, rfl, trivial⟩ ?_
    refine g_iload_n (nx := 1) hX 1 dX6_doStep_0 rfl rfl rfl ?_
    refine g_if_ne (nx := 4) hX 13 dX6_doStep_1 (by decide) rfl (fun h => ?_) (fun h => absurd h (by decide))
    refine g_iload_n (nx := 14) hX 1 dX6_doStep_13 rfl rfl rfl ?_
    refine g_iconst (nx := 15) hX 1 dX6_doStep_14 rfl (by decide) ?_
    refine g_icmp_ne (nx := 18) hX 30 dX6_doStep_15 (by decide) rfl (fun h => absurd h (by decide)) (fun h => ?_)
    refine g_aload_n (nx := 19) hX 0 dX6_doStep_18 rfl rfl rfl ?_
    refine g_aload_n (nx := 20) hX 3 dX6_doStep_19 rfl rfl rfl ?_
    refine g_iload_n (nx := 21) hX 2 dX6_doStep_20 rfl rfl rfl ?_
    refine g_V1 (nx := 24) hX dX6_doStep_21 rfl mX6_53 yX7_valueAt_ok (c_X7_valueAt hn hr) (dm_o hn hr) (get_so hr) rfl rfl (by decide) rfl (Nat.le_of_ble_eq_true rfl) (Nat.le_of_ble_eq_true rfl) ?_
    rintro _ _ ⟨rfl, rfl⟩
    rw [hw]
    refine g_V1 (nx := 27) hX dX6_doStep_24 rfl mX6_76 yX6_push_ok (c_X6_push hn h1) (ga_dn hn rfl) rfl rfl rfl (by decide) rfl (Nat.le_of_ble_eq_true rfl) (Nat.le_of_ble_eq_true rfl) ?_
    rintro _ _ ⟨rfl, rfl⟩
    refine g_goto (nx := 84) hX dX6_doStep_27 (by decide) ?_
    exact g_return hX hP dX6_doStep_84 (Nat.le_of_ble_eq_true rfl) (Nat.le_of_ble_eq_true rfl) ⟨rfl, rfl⟩
  · -- a quotient
    dsimp only at h0 h2 h3
    subst h0
    have e_11 : d - 1 + 1 = d := by omega
    refine ga_Mt.of (by decide) rfl (fun X hX hP => ?_)
    refine g_less [some (.ref 15), some (.int (nI 5)), some (.int (nI k2)), some (.ref (2 * r + 31)), none, none, none, none] ⟨rfl, rfl, rfl, rfl, trivial⟩ ?_
    refine g_iload_n (nx := 1) hX 1 dX6_doStep_0 rfl rfl rfl ?_
    refine g_if_ne (nx := 4) hX 13 dX6_doStep_1 (by decide) rfl (fun h => ?_) (fun h => absurd h (by decide))
    refine g_iload_n (nx := 14) hX 1 dX6_doStep_13 rfl rfl rfl ?_
    refine g_iconst (nx := 15) hX 1 dX6_doStep_14 rfl (by decide) ?_
    refine g_icmp_ne (nx := 18) hX 30 dX6_doStep_15 (by decide) rfl (fun h => ?_) (fun h => absurd h (by decide))
    refine g_iload_n (nx := 31) hX 1 dX6_doStep_30 rfl rfl rfl ?_
    refine g_iconst (nx := 32) hX 5 dX6_doStep_31 rfl (by decide) ?_
    refine g_icmp_ne (nx := 35) hX 60 dX6_doStep_32 (by decide) rfl (fun h => absurd h (by decide)) (fun h => ?_)
    refine g_aload_n (nx := 36) hX 0 dX6_doStep_35 rfl rfl rfl ?_
    refine g_iload_n (nx := 37) hX 2 dX6_doStep_36 rfl rfl rfl ?_
    refine g_iconst (nx := 38) hX 1 dX6_doStep_37 rfl (by decide) ?_
    refine g_icmp_ge (nx := 41) hX 45 dX6_doStep_38 (by decide) rfl (fun h38 => ?_) (fun h38 => ?_)
    · refine g_aload_n (nx := 46) hX 0 dX6_doStep_45 rfl rfl rfl ?_
      refine g_V0 (nx := 49) hX dX6_doStep_46 rfl mX6_72 yX6_pop_ok (c_X6_pop hn h1.1 h1.2) (ga_dn hn rfl) rfl rfl rfl (by decide) rfl (Nat.le_of_ble_eq_true rfl) (Nat.le_of_ble_eq_true rfl) ?_
      rintro _ _ ⟨rfl, rfl⟩
      refine g_iload_n (nx := 50) hX 2 dX6_doStep_49 rfl rfl rfl ?_
      refine g_i2l (nx := 51) hX dX6_doStep_50 rfl ?_
      rw [nI_l (by omega)]
      refine g_S2 (nx := 54) hX dX6_doStep_51 rfl mX6_80 yJ9_floorDiv_f86c9_ok (c_J9_floorDiv_f86c9 h2 (by omega)) (by decide) rfl (Nat.le_of_ble_eq_true rfl) (Nat.le_of_ble_eq_true rfl) ?_
      rintro _ _ ⟨rfl, rfl⟩
      refine g_V1 (nx := 57) hX dX6_doStep_54 rfl mX6_76 yX6_push_ok (c_X6_push hn (d := d - 1) (by omega)) (ga_dn hn rfl) rfl rfl rfl (by decide) rfl (Nat.le_of_ble_eq_true rfl) (Nat.le_of_ble_eq_true rfl) ?_
      rintro _ _ ⟨rfl, rfl⟩
      refine g_goto (nx := 84) hX dX6_doStep_57 (by decide) ?_
      exact g_return hX hP dX6_doStep_84 (Nat.le_of_ble_eq_true rfl) (Nat.le_of_ble_eq_true rfl) ⟨rfl, by rw [e_11]; rfl⟩
    · exact absurd (nI_le (a := 1) h2 (by omega)) h38
  · -- two numbers joined
    dsimp only at h0
    have b1 := hpb (d - 1) (by dsimp only; omega)
    have b2 := hpb (d - 2) (by dsimp only; omega)
    have e1 : d - 1 - 1 = d - 2 := by omega
    have e2 : d - 2 + 1 = d - 1 := by omega
    have hop := h0
    have key : e_stp (sv r).2.2.2.2.2.2.2.2 (k1, k2) (d, s) = (d - 1, vp_updL s (d - 2) (e_two k1 (s (d - 2)) (s (d - 1)))) := by
      have hne : k1 ≠ 0 ∧ k1 ≠ 1 ∧ k1 ≠ 5 := by unfold e_op at h0; omega
      unfold e_stp
      dsimp only
      rw [if_neg hne.1, if_neg hne.2.1, if_neg hne.2.2]
    rw [key]
    rcases h0 with rfl | rfl | rfl | rfl | rfl | rfl | rfl | rfl
    · -- 2
      refine ga_Mt.of (by decide) rfl (fun X hX hP => ?_)
      refine g_less [some (.ref 15), some (.int (nI 2)), some (.int (nI k2)), some (.ref (2 * r + 31)), none, none, none, none] ⟨rfl, rfl, rfl, rfl, trivial⟩ ?_
      refine g_iload_n (nx := 1) hX 1 dX6_doStep_0 rfl rfl rfl ?_
      refine g_if_ne (nx := 4) hX 13 dX6_doStep_1 (by decide) rfl (fun h => ?_) (fun h => absurd h (by decide))
      refine g_iload_n (nx := 14) hX 1 dX6_doStep_13 rfl rfl rfl ?_
      refine g_iconst (nx := 15) hX 1 dX6_doStep_14 rfl (by decide) ?_
      refine g_icmp_ne (nx := 18) hX 30 dX6_doStep_15 (by decide) rfl (fun h => ?_) (fun h => absurd h (by decide))
      refine g_iload_n (nx := 31) hX 1 dX6_doStep_30 rfl rfl rfl ?_
      refine g_iconst (nx := 32) hX 5 dX6_doStep_31 rfl (by decide) ?_
      refine g_icmp_ne (nx := 35) hX 60 dX6_doStep_32 (by decide) rfl (fun h => ?_) (fun h => absurd h (by decide))
      refine g_aload_n (nx := 61) hX 0 dX6_doStep_60 rfl rfl rfl ?_
      refine g_V0 (nx := 64) hX dX6_doStep_61 rfl mX6_72 yX6_pop_ok (c_X6_pop hn (by omega) h2) (ga_dn hn rfl) rfl rfl rfl (by decide) rfl (Nat.le_of_ble_eq_true rfl) (Nat.le_of_ble_eq_true rfl) ?_
      rintro _ _ ⟨rfl, rfl⟩
      refine g_lstore (nx := 66) hX 4 dX6_doStep_64 rfl rfl ?_
      refine g_aload_n (nx := 67) hX 0 dX6_doStep_66 rfl rfl rfl ?_
      refine g_V0 (nx := 70) hX dX6_doStep_67 rfl mX6_72 yX6_pop_ok (c_X6_pop hn (d := d - 1) (by omega) (by omega)) (ga_dn hn rfl) rfl rfl rfl (by decide) rfl (Nat.le_of_ble_eq_true rfl) (Nat.le_of_ble_eq_true rfl) ?_
      rintro _ _ ⟨rfl, rfl⟩
      rw [e1]
      refine g_lstore (nx := 72) hX 6 dX6_doStep_70 rfl rfl ?_
      refine g_aload_n (nx := 73) hX 0 dX6_doStep_72 rfl rfl rfl ?_
      refine g_iload_n (nx := 74) hX 1 dX6_doStep_73 rfl rfl rfl ?_
      refine g_lload (nx := 76) hX 6 dX6_doStep_74 rfl rfl ?_
      refine g_lload (nx := 78) hX 4 dX6_doStep_76 rfl rfl ?_
      refine g_S3 (nx := 81) hX dX6_doStep_78 rfl mX6_86 yX6_join_ok (c_X6_join hop b2 b1) (by decide) rfl (Nat.le_of_ble_eq_true rfl) (Nat.le_of_ble_eq_true rfl) ?_
      rintro _ _ ⟨rfl, rfl⟩
      refine g_V1 (nx := 84) hX dX6_doStep_81 rfl mX6_76 yX6_push_ok (c_X6_push hn (d := d - 2) (by omega)) (ga_dn hn rfl) rfl rfl rfl (by decide) rfl (Nat.le_of_ble_eq_true rfl) (Nat.le_of_ble_eq_true rfl) ?_
      rintro _ _ ⟨rfl, rfl⟩
      exact g_return hX hP dX6_doStep_84 (Nat.le_of_ble_eq_true rfl) (Nat.le_of_ble_eq_true rfl) ⟨rfl, by rw [e2]⟩
    · -- 3
      refine ga_Mt.of (by decide) rfl (fun X hX hP => ?_)
      refine g_less [some (.ref 15), some (.int (nI 3)), some (.int (nI k2)), some (.ref (2 * r + 31)), none, none, none, none] ⟨rfl, rfl, rfl, rfl, trivial⟩ ?_
      refine g_iload_n (nx := 1) hX 1 dX6_doStep_0 rfl rfl rfl ?_
      refine g_if_ne (nx := 4) hX 13 dX6_doStep_1 (by decide) rfl (fun h => ?_) (fun h => absurd h (by decide))
      refine g_iload_n (nx := 14) hX 1 dX6_doStep_13 rfl rfl rfl ?_
      refine g_iconst (nx := 15) hX 1 dX6_doStep_14 rfl (by decide) ?_
      refine g_icmp_ne (nx := 18) hX 30 dX6_doStep_15 (by decide) rfl (fun h => ?_) (fun h => absurd h (by decide))
      refine g_iload_n (nx := 31) hX 1 dX6_doStep_30 rfl rfl rfl ?_
      refine g_iconst (nx := 32) hX 5 dX6_doStep_31 rfl (by decide) ?_
      refine g_icmp_ne (nx := 35) hX 60 dX6_doStep_32 (by decide) rfl (fun h => ?_) (fun h => absurd h (by decide))
      refine g_aload_n (nx := 61) hX 0 dX6_doStep_60 rfl rfl rfl ?_
      refine g_V0 (nx := 64) hX dX6_doStep_61 rfl mX6_72 yX6_pop_ok (c_X6_pop hn (by omega) h2) (ga_dn hn rfl) rfl rfl rfl (by decide) rfl (Nat.le_of_ble_eq_true rfl) (Nat.le_of_ble_eq_true rfl) ?_
      rintro _ _ ⟨rfl, rfl⟩
      refine g_lstore (nx := 66) hX 4 dX6_doStep_64 rfl rfl ?_
      refine g_aload_n (nx := 67) hX 0 dX6_doStep_66 rfl rfl rfl ?_
      refine g_V0 (nx := 70) hX dX6_doStep_67 rfl mX6_72 yX6_pop_ok (c_X6_pop hn (d := d - 1) (by omega) (by omega)) (ga_dn hn rfl) rfl rfl rfl (by decide) rfl (Nat.le_of_ble_eq_true rfl) (Nat.le_of_ble_eq_true rfl) ?_
      rintro _ _ ⟨rfl, rfl⟩
      rw [e1]
      refine g_lstore (nx := 72) hX 6 dX6_doStep_70 rfl rfl ?_
      refine g_aload_n (nx := 73) hX 0 dX6_doStep_72 rfl rfl rfl ?_
      refine g_iload_n (nx := 74) hX 1 dX6_doStep_73 rfl rfl rfl ?_
      refine g_lload (nx := 76) hX 6 dX6_doStep_74 rfl rfl ?_
      refine g_lload (nx := 78) hX 4 dX6_doStep_76 rfl rfl ?_
      refine g_S3 (nx := 81) hX dX6_doStep_78 rfl mX6_86 yX6_join_ok (c_X6_join hop b2 b1) (by decide) rfl (Nat.le_of_ble_eq_true rfl) (Nat.le_of_ble_eq_true rfl) ?_
      rintro _ _ ⟨rfl, rfl⟩
      refine g_V1 (nx := 84) hX dX6_doStep_81 rfl mX6_76 yX6_push_ok (c_X6_push hn (d := d - 2) (by omega)) (ga_dn hn rfl) rfl rfl rfl (by decide) rfl (Nat.le_of_ble_eq_true rfl) (Nat.le_of_ble_eq_true rfl) ?_
      rintro _ _ ⟨rfl, rfl⟩
      exact g_return hX hP dX6_doStep_84 (Nat.le_of_ble_eq_true rfl) (Nat.le_of_ble_eq_true rfl) ⟨rfl, by rw [e2]⟩
    · -- 4
      refine ga_Mt.of (by decide) rfl (fun X hX hP => ?_)
      refine g_less [some (.ref 15), some (.int (nI 4)), some (.int (nI k2)), some (.ref (2 * r + 31)), none, none, none, none] ⟨rfl, rfl, rfl, rfl, trivial⟩ ?_
      refine g_iload_n (nx := 1) hX 1 dX6_doStep_0 rfl rfl rfl ?_
      refine g_if_ne (nx := 4) hX 13 dX6_doStep_1 (by decide) rfl (fun h => ?_) (fun h => absurd h (by decide))
      refine g_iload_n (nx := 14) hX 1 dX6_doStep_13 rfl rfl rfl ?_
      refine g_iconst (nx := 15) hX 1 dX6_doStep_14 rfl (by decide) ?_
      refine g_icmp_ne (nx := 18) hX 30 dX6_doStep_15 (by decide) rfl (fun h => ?_) (fun h => absurd h (by decide))
      refine g_iload_n (nx := 31) hX 1 dX6_doStep_30 rfl rfl rfl ?_
      refine g_iconst (nx := 32) hX 5 dX6_doStep_31 rfl (by decide) ?_
      refine g_icmp_ne (nx := 35) hX 60 dX6_doStep_32 (by decide) rfl (fun h => ?_) (fun h => absurd h (by decide))
      refine g_aload_n (nx := 61) hX 0 dX6_doStep_60 rfl rfl rfl ?_
      refine g_V0 (nx := 64) hX dX6_doStep_61 rfl mX6_72 yX6_pop_ok (c_X6_pop hn (by omega) h2) (ga_dn hn rfl) rfl rfl rfl (by decide) rfl (Nat.le_of_ble_eq_true rfl) (Nat.le_of_ble_eq_true rfl) ?_
      rintro _ _ ⟨rfl, rfl⟩
      refine g_lstore (nx := 66) hX 4 dX6_doStep_64 rfl rfl ?_
      refine g_aload_n (nx := 67) hX 0 dX6_doStep_66 rfl rfl rfl ?_
      refine g_V0 (nx := 70) hX dX6_doStep_67 rfl mX6_72 yX6_pop_ok (c_X6_pop hn (d := d - 1) (by omega) (by omega)) (ga_dn hn rfl) rfl rfl rfl (by decide) rfl (Nat.le_of_ble_eq_true rfl) (Nat.le_of_ble_eq_true rfl) ?_
      rintro _ _ ⟨rfl, rfl⟩
      rw [e1]
      refine g_lstore (nx := 72) hX 6 dX6_doStep_70 rfl rfl ?_
      refine g_aload_n (nx := 73) hX 0 dX6_doStep_72 rfl rfl rfl ?_
      refine g_iload_n (nx := 74) hX 1 dX6_doStep_73 rfl rfl rfl ?_
      refine g_lload (nx := 76) hX 6 dX6_doStep_74 rfl rfl ?_
      refine g_lload (nx := 78) hX 4 dX6_doStep_76 rfl rfl ?_
      refine g_S3 (nx := 81) hX dX6_doStep_78 rfl mX6_86 yX6_join_ok (c_X6_join hop b2 b1) (by decide) rfl (Nat.le_of_ble_eq_true rfl) (Nat.le_of_ble_eq_true rfl) ?_
      rintro _ _ ⟨rfl, rfl⟩
      refine g_V1 (nx := 84) hX dX6_doStep_81 rfl mX6_76 yX6_push_ok (c_X6_push hn (d := d - 2) (by omega)) (ga_dn hn rfl) rfl rfl rfl (by decide) rfl (Nat.le_of_ble_eq_true rfl) (Nat.le_of_ble_eq_true rfl) ?_
      rintro _ _ ⟨rfl, rfl⟩
      exact g_return hX hP dX6_doStep_84 (Nat.le_of_ble_eq_true rfl) (Nat.le_of_ble_eq_true rfl) ⟨rfl, by rw [e2]⟩
    · -- 6
      refine ga_Mt.of (by decide) rfl (fun X hX hP => ?_)
      refine g_less [some (.ref 15), some (.int (nI 6)), some (.int (nI k2)), some (.ref (2 * r + 31)), none, none, none, none] ⟨rfl, rfl, rfl, rfl, trivial⟩ ?_
      refine g_iload_n (nx := 1) hX 1 dX6_doStep_0 rfl rfl rfl ?_
      refine g_if_ne (nx := 4) hX 13 dX6_doStep_1 (by decide) rfl (fun h => ?_) (fun h => absurd h (by decide))
      refine g_iload_n (nx := 14) hX 1 dX6_doStep_13 rfl rfl rfl ?_
      refine g_iconst (nx := 15) hX 1 dX6_doStep_14 rfl (by decide) ?_
      refine g_icmp_ne (nx := 18) hX 30 dX6_doStep_15 (by decide) rfl (fun h => ?_) (fun h => absurd h (by decide))
      refine g_iload_n (nx := 31) hX 1 dX6_doStep_30 rfl rfl rfl ?_
      refine g_iconst (nx := 32) hX 5 dX6_doStep_31 rfl (by decide) ?_
      refine g_icmp_ne (nx := 35) hX 60 dX6_doStep_32 (by decide) rfl (fun h => ?_) (fun h => absurd h (by decide))
      refine g_aload_n (nx := 61) hX 0 dX6_doStep_60 rfl rfl rfl ?_
      refine g_V0 (nx := 64) hX dX6_doStep_61 rfl mX6_72 yX6_pop_ok (c_X6_pop hn (by omega) h2) (ga_dn hn rfl) rfl rfl rfl (by decide) rfl (Nat.le_of_ble_eq_true rfl) (Nat.le_of_ble_eq_true rfl) ?_
      rintro _ _ ⟨rfl, rfl⟩
      refine g_lstore (nx := 66) hX 4 dX6_doStep_64 rfl rfl ?_
      refine g_aload_n (nx := 67) hX 0 dX6_doStep_66 rfl rfl rfl ?_
      refine g_V0 (nx := 70) hX dX6_doStep_67 rfl mX6_72 yX6_pop_ok (c_X6_pop hn (d := d - 1) (by omega) (by omega)) (ga_dn hn rfl) rfl rfl rfl (by decide) rfl (Nat.le_of_ble_eq_true rfl) (Nat.le_of_ble_eq_true rfl) ?_
      rintro _ _ ⟨rfl, rfl⟩
      rw [e1]
      refine g_lstore (nx := 72) hX 6 dX6_doStep_70 rfl rfl ?_
      refine g_aload_n (nx := 73) hX 0 dX6_doStep_72 rfl rfl rfl ?_
      refine g_iload_n (nx := 74) hX 1 dX6_doStep_73 rfl rfl rfl ?_
      refine g_lload (nx := 76) hX 6 dX6_doStep_74 rfl rfl ?_
      refine g_lload (nx := 78) hX 4 dX6_doStep_76 rfl rfl ?_
      refine g_S3 (nx := 81) hX dX6_doStep_78 rfl mX6_86 yX6_join_ok (c_X6_join hop b2 b1) (by decide) rfl (Nat.le_of_ble_eq_true rfl) (Nat.le_of_ble_eq_true rfl) ?_
      rintro _ _ ⟨rfl, rfl⟩
      refine g_V1 (nx := 84) hX dX6_doStep_81 rfl mX6_76 yX6_push_ok (c_X6_push hn (d := d - 2) (by omega)) (ga_dn hn rfl) rfl rfl rfl (by decide) rfl (Nat.le_of_ble_eq_true rfl) (Nat.le_of_ble_eq_true rfl) ?_
      rintro _ _ ⟨rfl, rfl⟩
      exact g_return hX hP dX6_doStep_84 (Nat.le_of_ble_eq_true rfl) (Nat.le_of_ble_eq_true rfl) ⟨rfl, by rw [e2]⟩
    · -- 7
      refine ga_Mt.of (by decide) rfl (fun X hX hP => ?_)
      refine g_less [some (.ref 15), some (.int (nI 7)), some (.int (nI k2)), some (.ref (2 * r + 31)), none, none, none, none] ⟨rfl, rfl, rfl, rfl, trivial⟩ ?_
      refine g_iload_n (nx := 1) hX 1 dX6_doStep_0 rfl rfl rfl ?_
      refine g_if_ne (nx := 4) hX 13 dX6_doStep_1 (by decide) rfl (fun h => ?_) (fun h => absurd h (by decide))
      refine g_iload_n (nx := 14) hX 1 dX6_doStep_13 rfl rfl rfl ?_
      refine g_iconst (nx := 15) hX 1 dX6_doStep_14 rfl (by decide) ?_
      refine g_icmp_ne (nx := 18) hX 30 dX6_doStep_15 (by decide) rfl (fun h => ?_) (fun h => absurd h (by decide))
      refine g_iload_n (nx := 31) hX 1 dX6_doStep_30 rfl rfl rfl ?_
      refine g_iconst (nx := 32) hX 5 dX6_doStep_31 rfl (by decide) ?_
      refine g_icmp_ne (nx := 35) hX 60 dX6_doStep_32 (by decide) rfl (fun h => ?_) (fun h => absurd h (by decide))
      refine g_aload_n (nx := 61) hX 0 dX6_doStep_60 rfl rfl rfl ?_
      refine g_V0 (nx := 64) hX dX6_doStep_61 rfl mX6_72 yX6_pop_ok (c_X6_pop hn (by omega) h2) (ga_dn hn rfl) rfl rfl rfl (by decide) rfl (Nat.le_of_ble_eq_true rfl) (Nat.le_of_ble_eq_true rfl) ?_
      rintro _ _ ⟨rfl, rfl⟩
      refine g_lstore (nx := 66) hX 4 dX6_doStep_64 rfl rfl ?_
      refine g_aload_n (nx := 67) hX 0 dX6_doStep_66 rfl rfl rfl ?_
      refine g_V0 (nx := 70) hX dX6_doStep_67 rfl mX6_72 yX6_pop_ok (c_X6_pop hn (d := d - 1) (by omega) (by omega)) (ga_dn hn rfl) rfl rfl rfl (by decide) rfl (Nat.le_of_ble_eq_true rfl) (Nat.le_of_ble_eq_true rfl) ?_
      rintro _ _ ⟨rfl, rfl⟩
      rw [e1]
      refine g_lstore (nx := 72) hX 6 dX6_doStep_70 rfl rfl ?_
      refine g_aload_n (nx := 73) hX 0 dX6_doStep_72 rfl rfl rfl ?_
      refine g_iload_n (nx := 74) hX 1 dX6_doStep_73 rfl rfl rfl ?_
      refine g_lload (nx := 76) hX 6 dX6_doStep_74 rfl rfl ?_
      refine g_lload (nx := 78) hX 4 dX6_doStep_76 rfl rfl ?_
      refine g_S3 (nx := 81) hX dX6_doStep_78 rfl mX6_86 yX6_join_ok (c_X6_join hop b2 b1) (by decide) rfl (Nat.le_of_ble_eq_true rfl) (Nat.le_of_ble_eq_true rfl) ?_
      rintro _ _ ⟨rfl, rfl⟩
      refine g_V1 (nx := 84) hX dX6_doStep_81 rfl mX6_76 yX6_push_ok (c_X6_push hn (d := d - 2) (by omega)) (ga_dn hn rfl) rfl rfl rfl (by decide) rfl (Nat.le_of_ble_eq_true rfl) (Nat.le_of_ble_eq_true rfl) ?_
      rintro _ _ ⟨rfl, rfl⟩
      exact g_return hX hP dX6_doStep_84 (Nat.le_of_ble_eq_true rfl) (Nat.le_of_ble_eq_true rfl) ⟨rfl, by rw [e2]⟩
    · -- 8
      refine ga_Mt.of (by decide) rfl (fun X hX hP => ?_)
      refine g_less [some (.ref 15), some (.int (nI 8)), some (.int (nI k2)), some (.ref (2 * r + 31)), none, none, none, none] ⟨rfl, rfl, rfl, rfl, trivial⟩ ?_
      refine g_iload_n (nx := 1) hX 1 dX6_doStep_0 rfl rfl rfl ?_
      refine g_if_ne (nx := 4) hX 13 dX6_doStep_1 (by decide) rfl (fun h => ?_) (fun h => absurd h (by decide))
      refine g_iload_n (nx := 14) hX 1 dX6_doStep_13 rfl rfl rfl ?_
      refine g_iconst (nx := 15) hX 1 dX6_doStep_14 rfl (by decide) ?_
      refine g_icmp_ne (nx := 18) hX 30 dX6_doStep_15 (by decide) rfl (fun h => ?_) (fun h => absurd h (by decide))
      refine g_iload_n (nx := 31) hX 1 dX6_doStep_30 rfl rfl rfl ?_
      refine g_iconst (nx := 32) hX 5 dX6_doStep_31 rfl (by decide) ?_
      refine g_icmp_ne (nx := 35) hX 60 dX6_doStep_32 (by decide) rfl (fun h => ?_) (fun h => absurd h (by decide))
      refine g_aload_n (nx := 61) hX 0 dX6_doStep_60 rfl rfl rfl ?_
      refine g_V0 (nx := 64) hX dX6_doStep_61 rfl mX6_72 yX6_pop_ok (c_X6_pop hn (by omega) h2) (ga_dn hn rfl) rfl rfl rfl (by decide) rfl (Nat.le_of_ble_eq_true rfl) (Nat.le_of_ble_eq_true rfl) ?_
      rintro _ _ ⟨rfl, rfl⟩
      refine g_lstore (nx := 66) hX 4 dX6_doStep_64 rfl rfl ?_
      refine g_aload_n (nx := 67) hX 0 dX6_doStep_66 rfl rfl rfl ?_
      refine g_V0 (nx := 70) hX dX6_doStep_67 rfl mX6_72 yX6_pop_ok (c_X6_pop hn (d := d - 1) (by omega) (by omega)) (ga_dn hn rfl) rfl rfl rfl (by decide) rfl (Nat.le_of_ble_eq_true rfl) (Nat.le_of_ble_eq_true rfl) ?_
      rintro _ _ ⟨rfl, rfl⟩
      rw [e1]
      refine g_lstore (nx := 72) hX 6 dX6_doStep_70 rfl rfl ?_
      refine g_aload_n (nx := 73) hX 0 dX6_doStep_72 rfl rfl rfl ?_
      refine g_iload_n (nx := 74) hX 1 dX6_doStep_73 rfl rfl rfl ?_
      refine g_lload (nx := 76) hX 6 dX6_doStep_74 rfl rfl ?_
      refine g_lload (nx := 78) hX 4 dX6_doStep_76 rfl rfl ?_
      refine g_S3 (nx := 81) hX dX6_doStep_78 rfl mX6_86 yX6_join_ok (c_X6_join hop b2 b1) (by decide) rfl (Nat.le_of_ble_eq_true rfl) (Nat.le_of_ble_eq_true rfl) ?_
      rintro _ _ ⟨rfl, rfl⟩
      refine g_V1 (nx := 84) hX dX6_doStep_81 rfl mX6_76 yX6_push_ok (c_X6_push hn (d := d - 2) (by omega)) (ga_dn hn rfl) rfl rfl rfl (by decide) rfl (Nat.le_of_ble_eq_true rfl) (Nat.le_of_ble_eq_true rfl) ?_
      rintro _ _ ⟨rfl, rfl⟩
      exact g_return hX hP dX6_doStep_84 (Nat.le_of_ble_eq_true rfl) (Nat.le_of_ble_eq_true rfl) ⟨rfl, by rw [e2]⟩
    · -- 9
      refine ga_Mt.of (by decide) rfl (fun X hX hP => ?_)
      refine g_less [some (.ref 15), some (.int (nI 9)), some (.int (nI k2)), some (.ref (2 * r + 31)), none, none, none, none] ⟨rfl, rfl, rfl, rfl, trivial⟩ ?_
      refine g_iload_n (nx := 1) hX 1 dX6_doStep_0 rfl rfl rfl ?_
      refine g_if_ne (nx := 4) hX 13 dX6_doStep_1 (by decide) rfl (fun h => ?_) (fun h => absurd h (by decide))
      refine g_iload_n (nx := 14) hX 1 dX6_doStep_13 rfl rfl rfl ?_
      refine g_iconst (nx := 15) hX 1 dX6_doStep_14 rfl (by decide) ?_
      refine g_icmp_ne (nx := 18) hX 30 dX6_doStep_15 (by decide) rfl (fun h => ?_) (fun h => absurd h (by decide))
      refine g_iload_n (nx := 31) hX 1 dX6_doStep_30 rfl rfl rfl ?_
      refine g_iconst (nx := 32) hX 5 dX6_doStep_31 rfl (by decide) ?_
      refine g_icmp_ne (nx := 35) hX 60 dX6_doStep_32 (by decide) rfl (fun h => ?_) (fun h => absurd h (by decide))
      refine g_aload_n (nx := 61) hX 0 dX6_doStep_60 rfl rfl rfl ?_
      refine g_V0 (nx := 64) hX dX6_doStep_61 rfl mX6_72 yX6_pop_ok (c_X6_pop hn (by omega) h2) (ga_dn hn rfl) rfl rfl rfl (by decide) rfl (Nat.le_of_ble_eq_true rfl) (Nat.le_of_ble_eq_true rfl) ?_
      rintro _ _ ⟨rfl, rfl⟩
      refine g_lstore (nx := 66) hX 4 dX6_doStep_64 rfl rfl ?_
      refine g_aload_n (nx := 67) hX 0 dX6_doStep_66 rfl rfl rfl ?_
      refine g_V0 (nx := 70) hX dX6_doStep_67 rfl mX6_72 yX6_pop_ok (c_X6_pop hn (d := d - 1) (by omega) (by omega)) (ga_dn hn rfl) rfl rfl rfl (by decide) rfl (Nat.le_of_ble_eq_true rfl) (Nat.le_of_ble_eq_true rfl) ?_
      rintro _ _ ⟨rfl, rfl⟩
      rw [e1]
      refine g_lstore (nx := 72) hX 6 dX6_doStep_70 rfl rfl ?_
      refine g_aload_n (nx := 73) hX 0 dX6_doStep_72 rfl rfl rfl ?_
      refine g_iload_n (nx := 74) hX 1 dX6_doStep_73 rfl rfl rfl ?_
      refine g_lload (nx := 76) hX 6 dX6_doStep_74 rfl rfl ?_
      refine g_lload (nx := 78) hX 4 dX6_doStep_76 rfl rfl ?_
      refine g_S3 (nx := 81) hX dX6_doStep_78 rfl mX6_86 yX6_join_ok (c_X6_join hop b2 b1) (by decide) rfl (Nat.le_of_ble_eq_true rfl) (Nat.le_of_ble_eq_true rfl) ?_
      rintro _ _ ⟨rfl, rfl⟩
      refine g_V1 (nx := 84) hX dX6_doStep_81 rfl mX6_76 yX6_push_ok (c_X6_push hn (d := d - 2) (by omega)) (ga_dn hn rfl) rfl rfl rfl (by decide) rfl (Nat.le_of_ble_eq_true rfl) (Nat.le_of_ble_eq_true rfl) ?_
      rintro _ _ ⟨rfl, rfl⟩
      exact g_return hX hP dX6_doStep_84 (Nat.le_of_ble_eq_true rfl) (Nat.le_of_ble_eq_true rfl) ⟨rfl, by rw [e2]⟩
    · -- 10
      refine ga_Mt.of (by decide) rfl (fun X hX hP => ?_)
      refine g_less [some (.ref 15), some (.int (nI 10)), some (.int (nI k2)), some (.ref (2 * r + 31)), none, none, none, none] ⟨rfl, rfl, rfl, rfl, trivial⟩ ?_
      refine g_iload_n (nx := 1) hX 1 dX6_doStep_0 rfl rfl rfl ?_
      refine g_if_ne (nx := 4) hX 13 dX6_doStep_1 (by decide) rfl (fun h => ?_) (fun h => absurd h (by decide))
      refine g_iload_n (nx := 14) hX 1 dX6_doStep_13 rfl rfl rfl ?_
      refine g_iconst (nx := 15) hX 1 dX6_doStep_14 rfl (by decide) ?_
      refine g_icmp_ne (nx := 18) hX 30 dX6_doStep_15 (by decide) rfl (fun h => ?_) (fun h => absurd h (by decide))
      refine g_iload_n (nx := 31) hX 1 dX6_doStep_30 rfl rfl rfl ?_
      refine g_iconst (nx := 32) hX 5 dX6_doStep_31 rfl (by decide) ?_
      refine g_icmp_ne (nx := 35) hX 60 dX6_doStep_32 (by decide) rfl (fun h => ?_) (fun h => absurd h (by decide))
      refine g_aload_n (nx := 61) hX 0 dX6_doStep_60 rfl rfl rfl ?_
      refine g_V0 (nx := 64) hX dX6_doStep_61 rfl mX6_72 yX6_pop_ok (c_X6_pop hn (by omega) h2) (ga_dn hn rfl) rfl rfl rfl (by decide) rfl (Nat.le_of_ble_eq_true rfl) (Nat.le_of_ble_eq_true rfl) ?_
      rintro _ _ ⟨rfl, rfl⟩
      refine g_lstore (nx := 66) hX 4 dX6_doStep_64 rfl rfl ?_
      refine g_aload_n (nx := 67) hX 0 dX6_doStep_66 rfl rfl rfl ?_
      refine g_V0 (nx := 70) hX dX6_doStep_67 rfl mX6_72 yX6_pop_ok (c_X6_pop hn (d := d - 1) (by omega) (by omega)) (ga_dn hn rfl) rfl rfl rfl (by decide) rfl (Nat.le_of_ble_eq_true rfl) (Nat.le_of_ble_eq_true rfl) ?_
      rintro _ _ ⟨rfl, rfl⟩
      rw [e1]
      refine g_lstore (nx := 72) hX 6 dX6_doStep_70 rfl rfl ?_
      refine g_aload_n (nx := 73) hX 0 dX6_doStep_72 rfl rfl rfl ?_
      refine g_iload_n (nx := 74) hX 1 dX6_doStep_73 rfl rfl rfl ?_
      refine g_lload (nx := 76) hX 6 dX6_doStep_74 rfl rfl ?_
      refine g_lload (nx := 78) hX 4 dX6_doStep_76 rfl rfl ?_
      refine g_S3 (nx := 81) hX dX6_doStep_78 rfl mX6_86 yX6_join_ok (c_X6_join hop b2 b1) (by decide) rfl (Nat.le_of_ble_eq_true rfl) (Nat.le_of_ble_eq_true rfl) ?_
      rintro _ _ ⟨rfl, rfl⟩
      refine g_V1 (nx := 84) hX dX6_doStep_81 rfl mX6_76 yX6_push_ok (c_X6_push hn (d := d - 2) (by omega)) (ga_dn hn rfl) rfl rfl rfl (by decide) rfl (Nat.le_of_ble_eq_true rfl) (Nat.le_of_ble_eq_true rfl) ?_
      rintro _ _ ⟨rfl, rfl⟩
      exact g_return hX hP dX6_doStep_84 (Nat.le_of_ble_eq_true rfl) (Nat.le_of_ble_eq_true rfl) ⟨rfl, by rw [e2]⟩
/-- the arrays of the steps -/
def e_cd (cd : Nat → Nat × Nat) (st_ od : Nat → Int32) : Prop := ∀ i, i < 600 → st_ i = nI (cd i).1 ∧ od i = nI (cd i).2
theorem rn_loop {d mc ms from_ len : Nat} {vals : Nat → Int64} (hX : ga_B E d yX6_run cX6_run 5 mc ms X) (hd4 : 4 ≤ d) (hn : 106 ≤ n) (hr : r < 24) (hcd : e_cd cd st_ od) (hl : from_ + len ≤ 600) (hok : e_ok cd from_ len) (hvs : (sv r).2.2.2.2.2.2.2.2 = vals) (hv : ∀ j, j < 39 → e_bd (vals j))
    (kont : ga_G E X 0 0 39 [some (.ref 15), some (.int (nI from_)), some (.int (nI (from_ + len))), some (.ref (2 * r + 31)), none] [] (n, (c0 :: c1 :: c2 :: c3 :: c4 :: c5 :: c6 :: c7 :: c8 :: c9 :: c10 :: c11 :: c12 :: c13 :: c14 :: k_U 15 (nI 1) size tot sm :: ga_i 600 st_ :: ga_i 600 od :: c18 :: c19 :: ga_l 32 (e_run vals cd from_ len (0, s)).2 :: L1), L2, sh_f sv g)) :
    ∀ (m k : Nat), k ≤ len → len - k ≤ m → ga_G E X 0 0 8 [some (.ref 15), some (.int (nI from_)), some (.int (nI (from_ + len))), some (.ref (2 * r + 31)), some (.int (nI (from_ + k)))] [] (n, (c0 :: c1 :: c2 :: c3 :: c4 :: c5 :: c6 :: c7 :: c8 :: c9 :: c10 :: c11 :: c12 :: c13 :: c14 :: k_U 15 (nI (e_d cd from_ k)) size tot sm :: ga_i 600 st_ :: ga_i 600 od :: c18 :: c19 :: ga_l 32 (e_run vals cd from_ k (0, s)).2 :: L1), L2, sh_f sv g) := by
  intro m
  induction m with
  | zero =>
    intro k h1 h2
    have e : k = len := by omega
    subst e
    rw [hok.2]
    refine g_iload (nx := 10) hX 4 dX6_run_8 rfl rfl ?_
    refine g_iload_n (nx := 11) hX 2 dX6_run_10 rfl rfl rfl ?_
    refine g_icmp_ge (nx := 14) hX 39 dX6_run_11 (by decide) rfl (fun h11 => ?_) (fun h11 => ?_)
    · exact g_ls kont ⟨rfl, rfl, rfl, rfl, trivial⟩
    · exact absurd (nI_le (Nat.le_refl (from_ + k)) (by omega)) h11
  | succ m ih =>
    intro k h1 h2
    have hlt0 : k < len → from_ + k < 600 := fun q => by omega
    refine g_iload (nx := 10) hX 4 dX6_run_8 rfl rfl ?_
    refine g_iload_n (nx := 11) hX 2 dX6_run_10 rfl rfl rfl ?_
    refine g_icmp_ge (nx := 14) hX 39 dX6_run_11 (by decide) rfl (fun h11 => ?_) (fun h11 => ?_)
    · have e : k = len := by have := (nI_leI (a := from_ + len) (b := from_ + k) (by omega) (by omega)).mp h11; omega
      subst e
      rw [hok.2]
      exact g_ls kont ⟨rfl, rfl, rfl, rfl, trivial⟩
    · have hlt : k < len := Nat.lt_of_not_le (fun q => h11 (nI_le (by omega) (by omega)))
      have hcr := hcd (from_ + k) (by omega)
      have ih1 := ih (k + 1) (by omega) (by omega)
      rw [← e_run_d vals cd from_ s (k + 1), e_run] at ih1
      have ok1 := hok.1 k hlt
      have pb := e_run_pb (s := s) hv k (fun i hi => hok.1 i (by omega))
      have ed := e_run_d vals cd from_ s k
      revert ih1 ok1 pb ed
      generalize e_run vals cd from_ k (0, s) = z
      generalize e_d cd from_ k = dk
      obtain ⟨zd, zs⟩ := z
      intro ih1 ok1 pb ed
      dsimp only at ed
      subst ed
      refine g_aload_n (nx := 15) hX 0 dX6_run_14 rfl rfl rfl ?_
      refine g_aload_n (nx := 16) hX 0 dX6_run_15 rfl rfl rfl ?_
      refine g_getfield (nx := 19) hX dX6_run_16 rfl fX6_11 (ga_dn hn rfl) rfl rfl ?_
      refine g_iload (nx := 21) hX 4 dX6_run_19 rfl rfl ?_
      refine g_iaload (nx := 22) hX dX6_run_21 rfl (ga_dn hn rfl) rfl (ga_ix_of rfl (by omega) (by omega)) ?_
      refine g_aload_n (nx := 23) hX 0 dX6_run_22 rfl rfl rfl ?_
      refine g_getfield (nx := 26) hX dX6_run_23 rfl fX6_17 (ga_dn hn rfl) rfl rfl ?_
      refine g_iload (nx := 28) hX 4 dX6_run_26 rfl rfl ?_
      refine g_iaload (nx := 29) hX dX6_run_28 rfl (ga_dn hn rfl) rfl (ga_ix_of rfl (by omega) (by omega)) ?_
      refine g_aload_n (nx := 30) hX 3 dX6_run_29 rfl rfl rfl ?_
      rw [hcr.1, hcr.2]
      refine g_V3 (nx := 33) hX dX6_run_30 rfl mX6_68 yX6_doStep_ok (c_X6_doStep hn hr ok1 pb hvs) (ga_dn hn rfl) rfl rfl rfl (by omega) rfl (Nat.le_of_ble_eq_true rfl) (Nat.le_of_ble_eq_true rfl) ?_
      rintro _ _ ⟨rfl, rfl⟩
      refine g_iinc (nx := 36) hX 4 (nI (from_ + (k + 1))) dX6_run_33 rfl rfl rfl (nI_1 (from_ + k)) ?_
      refine g_goto (nx := 8) hX dX6_run_36 (by decide) ?_
      exact ih1
theorem c_X6_run {from_ len : Nat} {vals : Nat → Int64} {top0 : Int32} (hn : 106 ≤ n) (hr : r < 24) (hcd : e_cd cd st_ od) (hl : from_ + len ≤ 600) (hok : e_ok cd from_ len) (hvs : (sv r).2.2.2.2.2.2.2.2 = vals) (hv : ∀ j, j < 39 → e_bd (vals j)) : ga_Mx E 4 yX6_run cX6_run 5 (some .long) 0 0 [.ref 15, .int (nI from_), .int (nI (from_ + len)), .ref (2 * r + 31)] (n, (c0 :: c1 :: c2 :: c3 :: c4 :: c5 :: c6 :: c7 :: c8 :: c9 :: c10 :: c11 :: c12 :: c13 :: c14 :: k_U 15 top0 size tot sm :: ga_i 600 st_ :: ga_i 600 od :: c18 :: c19 :: ga_l 32 s :: L1), L2, sh_f sv g) (some (.long (e_val vals cd from_ len))) (n, (c0 :: c1 :: c2 :: c3 :: c4 :: c5 :: c6 :: c7 :: c8 :: c9 :: c10 :: c11 :: c12 :: c13 :: c14 :: k_U 15 0 size tot sm :: ga_i 600 st_ :: ga_i 600 od :: c18 :: c19 :: ga_l 32 (e_run vals cd from_ len (0, s)).2 :: L1), L2, sh_f sv g) := by
  refine ga_Mt.of (by decide) rfl (fun X hX hP => ?_)
  refine g_less [some (.ref 15), some (.int (nI from_)), some (.int (nI (from_ + len))), some (.ref (2 * r + 31)), none] ⟨rfl, rfl, rfl, rfl, trivial⟩ ?_
  have tail : ga_G E X 0 0 39 [some (.ref 15), some (.int (nI from_)), some (.int (nI (from_ + len))), some (.ref (2 * r + 31)), none] [] (n, (c0 :: c1 :: c2 :: c3 :: c4 :: c5 :: c6 :: c7 :: c8 :: c9 :: c10 :: c11 :: c12 :: c13 :: c14 :: k_U 15 (nI 1) size tot sm :: ga_i 600 st_ :: ga_i 600 od :: c18 :: c19 :: ga_l 32 (e_run vals cd from_ len (0, s)).2 :: L1), L2, sh_f sv g) := by
    refine g_aload_n (nx := 40) hX 0 dX6_run_39 rfl rfl rfl ?_
    refine g_V0 (nx := 43) hX dX6_run_40 rfl mX6_72 yX6_pop_ok (c_X6_pop (d := 1) hn (by omega) (by omega)) (ga_dn hn rfl) rfl rfl rfl (by decide) rfl (Nat.le_of_ble_eq_true rfl) (Nat.le_of_ble_eq_true rfl) ?_
    rintro _ _ ⟨rfl, rfl⟩
    exact g_lreturn hX hP dX6_run_43 (Nat.le_of_ble_eq_true rfl) (Nat.le_of_ble_eq_true rfl) ⟨by rw [← e_val_any hok s], rfl⟩
  refine g_aload_n (nx := 1) hX 0 dX6_run_0 rfl rfl rfl ?_
  refine g_iconst (nx := 2) hX 0 dX6_run_1 rfl (by decide) ?_
  refine g_putfield (nx := 5) hX dX6_run_2 rfl pX6_65 (ga_dn hn rfl) rfl rfl rfl rfl ?_
  refine g_iload_n (nx := 6) hX 1 dX6_run_5 rfl rfl rfl ?_
  refine g_istore (nx := 8) hX 4 dX6_run_6 rfl rfl ?_
  exact rn_loop hX (by decide) hn hr hcd hl hok hvs hv tail len 0 (by omega) (by omega)
end
