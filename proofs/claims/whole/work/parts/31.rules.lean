/-! ===== the rules as steps over a pile of numbers ===== -/
def e_stp (vals : Nat → Int64) (c : Nat × Nat) (z : Nat × (Nat → Int64)) : Nat × (Nat → Int64) :=
  if c.1 = 0 then (z.1 + 1, vp_updL z.2 z.1 (lN c.2)) else if c.1 = 1 then (z.1 + 1, vp_updL z.2 z.1 (vals c.2)) else if c.1 = 5 then (z.1, vp_updL z.2 (z.1 - 1) (e_fd (z.2 (z.1 - 1)) c.2))
  else (z.1 - 1, vp_updL z.2 (z.1 - 2) (e_two c.1 (z.2 (z.1 - 2)) (z.2 (z.1 - 1))))
def e_run (vals : Nat → Int64) (cd : Nat → Nat × Nat) (from_ : Nat) : Nat → Nat × (Nat → Int64) → Nat × (Nat → Int64)
  | 0, z => z
  | k + 1, z => e_stp vals (cd (from_ + k)) (e_run vals cd from_ k z)
def e_op (k : Nat) : Prop := k = 2 ∨ k = 3 ∨ k = 4 ∨ k = 6 ∨ k = 7 ∨ k = 8 ∨ k = 9 ∨ k = 10
/-- a step can be done with so many numbers on the pile -/
def e_ok1 (c : Nat × Nat) (d : Nat) : Prop := (c.1 = 0 ∧ d < 32 ∧ c.2 ≤ 99999) ∨ (c.1 = 1 ∧ d < 32 ∧ c.2 < 39) ∨ (c.1 = 5 ∧ (1 ≤ d ∧ d ≤ 32) ∧ 1 ≤ c.2 ∧ c.2 ≤ 99999) ∨ (e_op c.1 ∧ 2 ≤ d ∧ d ≤ 32)
def e_d1 (c : Nat × Nat) (d : Nat) : Nat := if c.1 = 0 then d + 1 else if c.1 = 1 then d + 1 else if c.1 = 5 then d else d - 1
def e_d (cd : Nat → Nat × Nat) (from_ : Nat) : Nat → Nat
  | 0 => 0
  | k + 1 => e_d1 (cd (from_ + k)) (e_d cd from_ k)
/-- a stretch of steps that makes one number -/
def e_ok (cd : Nat → Nat × Nat) (from_ len : Nat) : Prop := (∀ k, k < len → e_ok1 (cd (from_ + k)) (e_d cd from_ k)) ∧ e_d cd from_ len = 1
theorem e_run_d (vals : Nat → Int64) (cd : Nat → Nat × Nat) (from_ : Nat) (s : Nat → Int64) : ∀ k, (e_run vals cd from_ k (0, s)).1 = e_d cd from_ k
  | 0 => rfl
  | k + 1 => by
    have ih := e_run_d vals cd from_ s k
    unfold e_run e_d e_stp e_d1
    rw [ih]
    split
    · rfl
    split
    · rfl
    split <;> rfl
/-- all numbers on the pile are within the limit -/
def e_pb (z : Nat × (Nat → Int64)) : Prop := ∀ i, i < z.1 → e_bd (z.2 i)
theorem lN_bd {k : Nat} (h : k ≤ 99999) : e_bd (lN k) := by
  unfold e_bd
  rw [pk_lT (by omega)]; omega
theorem e_stp_pb {vals : Nat → Int64} {c : Nat × Nat} {z : Nat × (Nat → Int64)} (h : e_pb z) (hv : ∀ j, j < 39 → e_bd (vals j)) (hc : e_ok1 c z.1) : e_pb (e_stp vals c z) := by
  have up : ∀ (k : Nat) (x : Int64) (m : Nat), e_bd x → (∀ i, i < m → i ≠ k → e_bd (z.2 i)) → ∀ i, i < m → e_bd (vp_updL z.2 k x i) := fun k x m hx hm i hi => by
    by_cases e : i = k
    · rw [e, pk_uLs]; exact hx
    · rw [pk_uLn e]; exact hm i hi e
  unfold e_stp
  rcases hc with ⟨h0, h1, h2⟩ | ⟨h0, h1, h2⟩ | ⟨h0, h1, h2, h3⟩ | ⟨h0, h1, h2⟩
  · rw [if_pos h0]
    exact up _ _ _ (lN_bd h2) (fun i hi hne => h i (by have : i < z.1 + 1 := hi; omega))
  · rw [if_neg (by omega), if_pos h0]
    exact up _ _ _ (hv _ h2) (fun i hi hne => h i (by have : i < z.1 + 1 := hi; omega))
  · rw [if_neg (by omega), if_neg (by omega), if_pos h0]
    exact up _ _ _ (e_fd_bd (h _ (by omega)) h2 (by omega)) (fun i hi hne => h i hi)
  · have hne : c.1 ≠ 0 ∧ c.1 ≠ 1 ∧ c.1 ≠ 5 := by unfold e_op at h0; omega
    rw [if_neg hne.1, if_neg hne.2.1, if_neg hne.2.2]
    exact up _ _ _ (e_two_bd (h _ (by omega)) (h _ (by omega))) (fun i hi hne => h i (by have : i < z.1 - 1 := hi; omega))
theorem e_run_pb {vals : Nat → Int64} {cd : Nat → Nat × Nat} {from_ : Nat} {s : Nat → Int64} (hv : ∀ j, j < 39 → e_bd (vals j)) : ∀ k, (∀ i, i < k → e_ok1 (cd (from_ + i)) (e_d cd from_ i)) → e_pb (e_run vals cd from_ k (0, s))
  | 0, _ => fun i hi => absurd hi (Nat.not_lt_zero i)
  | k + 1, h => by
    rw [e_run]
    exact e_stp_pb (e_run_pb hv k (fun i hi => h i (by omega))) hv (by rw [e_run_d]; exact h k (by omega))
/-- what lay there before is of no matter -/
theorem e_run_same {vals vals' : Nat → Int64} {cd : Nat → Nat × Nat} {from_ : Nat} {s s' : Nat → Int64} (hv : ∀ i j, cd i = (1, j) → vals j = vals' j) : ∀ k, (∀ i, i < k → e_ok1 (cd (from_ + i)) (e_d cd from_ i)) → ∀ i, i < e_d cd from_ k → (e_run vals cd from_ k (0, s)).2 i = (e_run vals' cd from_ k (0, s')).2 i
  | 0, _, i, hi => absurd hi (Nat.not_lt_zero i)
  | k + 1, h, i, hi => by
    have ih := e_run_same (s := s) (s' := s') hv k (fun i hi => h i (by omega))
    have e1 := e_run_d vals cd from_ s k
    have e2 := e_run_d vals' cd from_ s' k
    have hc := h k (by omega)
    rw [e_run, e_run]
    rw [e_d] at hi
    revert ih e1 e2 hi hc
    generalize e_run vals cd from_ k (0, s) = z
    generalize e_run vals' cd from_ k (0, s') = z'
    generalize hcd : cd (from_ + k) = c
    intro hi ih e1 e2 hc
    obtain ⟨d, u⟩ := z
    obtain ⟨d', u'⟩ := z'
    dsimp only at e1 e2 ih
    have e2' : d' = d := by omega
    subst e2'
    rw [← e1] at hi ih hc
    have up : ∀ (m : Nat) (x y : Int64), x = y → (i ≠ m → u i = u' i) → vp_updL u m x i = vp_updL u' m y i := fun m x y e hne => by
      by_cases q : i = m
      · rw [q, pk_uLs, pk_uLs, e]
      · rw [pk_uLn q, pk_uLn q, hne q]
    unfold e_stp
    unfold e_d1 at hi
    rcases hc with ⟨h0, h1, h2⟩ | ⟨h0, h1, h2⟩ | ⟨h0, h1, h2, h3⟩ | ⟨h0, h1, h2⟩
    · rw [if_pos h0] at hi
      rw [if_pos h0, if_pos h0]
      exact up _ _ _ rfl (fun q => ih i (by omega))
    · rw [if_neg (by omega), if_pos h0] at hi
      rw [if_neg (by omega), if_pos h0, if_neg (by omega), if_pos h0]
      exact up _ _ _ (hv _ c.2 (by rw [hcd]; exact Prod.ext h0 rfl)) (fun q => ih i (by omega))
    · rw [if_neg (by omega), if_neg (by omega), if_pos h0] at hi
      rw [if_neg (by omega), if_neg (by omega), if_pos h0, if_neg (by omega), if_neg (by omega), if_pos h0]
      exact up _ _ _ (by dsimp only; rw [ih _ (by omega)]) (fun q => ih i (by omega))
    · have hne : c.1 ≠ 0 ∧ c.1 ≠ 1 ∧ c.1 ≠ 5 := by unfold e_op at h0; omega
      rw [if_neg hne.1, if_neg hne.2.1, if_neg hne.2.2] at hi
      rw [if_neg hne.1, if_neg hne.2.1, if_neg hne.2.2, if_neg hne.1, if_neg hne.2.1, if_neg hne.2.2]
      exact up _ _ _ (by dsimp only; rw [ih _ (by omega), ih _ (by omega)]) (fun q => ih i (by omega))
theorem e_lt_le {a b : Int64} (h : a < b) : a ≤ b := by rw [Int64.lt_iff_toInt_lt] at h; rw [Int64.le_iff_toInt_le]; omega
theorem e_le_eq {a b : Int64} (h : a ≤ b) (q : b ≤ a) : b = a := by
  apply Int64.toInt_inj.mp
  rw [Int64.le_iff_toInt_le] at h q; omega
theorem e_le_eq' {a b : Int64} (h : b ≤ a) (q : a ≤ b) : b = a := by
  apply Int64.toInt_inj.mp
  rw [Int64.le_iff_toInt_le] at h q; omega
section
variable {E : ga_E} {X : ga_X} {n : Nat} {c0 c1 c2 c3 c4 c5 c6 c7 c8 c9 c10 c11 c12 c13 c14 c15 c16 c17 c18 c19 c20 c21 c22 c23 c24 c25 c26 c27 c28 c29 c30 m79 m80 m81 m82 m83 m84 m85 m86 m87 m88 m89 m90 m91 m92 m93 m94 m95 m96 m97 m98 m99 m100 m101 m102 m103 m104 m105 : ga_C} {L1 L2 : List ga_C} {f : Nat → ga_C} {o_tp o_rd o_fe o_em o_sp o_ac o_td o_sm o_tt o_at o_sz o_fk o_fp o_nw o_md o_nt o_pl o_op d_at d_tk d_ta d_fd d_fa : Int32} {d_tv : Int64} {d_rl : Value}
variable {a b : Int64} {M : ga_M} {size tot sm : Int32} {s : Nat → Int64} {sv : Nat → sh_S} {g : Nat → ga_C} {r : Nat}
theorem c_X6_push {d : Nat} {v : Int64} (hn : 106 ≤ n) (hd : d < 32) : ga_Mx E 0 yX6_push cX6_push 3 none 0 0 [.ref 15, .long v] (n, (c0 :: c1 :: c2 :: c3 :: c4 :: c5 :: c6 :: c7 :: c8 :: c9 :: c10 :: c11 :: c12 :: c13 :: c14 :: k_U 15 (nI d) size tot sm :: c16 :: c17 :: c18 :: c19 :: ga_l 32 s :: L1), L2, f) none (n, (c0 :: c1 :: c2 :: c3 :: c4 :: c5 :: c6 :: c7 :: c8 :: c9 :: c10 :: c11 :: c12 :: c13 :: c14 :: k_U 15 (nI (d + 1)) size tot sm :: c16 :: c17 :: c18 :: c19 :: ga_l 32 (vp_updL s d v) :: L1), L2, f) := by
  refine ga_Mt.of (by decide) rfl (fun X hX hP => ?_)
  refine g_less [some (.ref 15), some (.long v), none] ⟨rfl, rfl, trivial⟩ ?_
  refine g_aload_n (nx := 1) hX 0 dX6_push_0 rfl rfl rfl ?_
  refine g_getfield (nx := 4) hX dX6_push_1 rfl fX6_65 (ga_dn hn rfl) rfl rfl ?_
  refine g_bipush (nx := 6) hX 32 dX6_push_4 rfl (by decide) ?_
  refine g_icmp_ge (nx := 9) hX 29 dX6_push_6 (by decide) rfl (fun h6 => ?_) (fun h6 => ?_)
  · exact absurd h6 (nI_ge (b := 32) hd (by decide))
  · refine g_aload_n (nx := 10) hX 0 dX6_push_9 rfl rfl rfl ?_
    refine g_getfield (nx := 13) hX dX6_push_10 rfl fX6_26 (ga_dn hn rfl) rfl rfl ?_
    refine g_aload_n (nx := 14) hX 0 dX6_push_13 rfl rfl rfl ?_
    refine g_getfield (nx := 17) hX dX6_push_14 rfl fX6_65 (ga_dn hn rfl) rfl rfl ?_
    refine g_lload_n (nx := 18) hX 1 dX6_push_17 rfl rfl rfl ?_
    refine g_lastore (nx := 19) hX dX6_push_18 rfl (ga_dn hn rfl) rfl (ga_ix_of rfl (by omega) (by omega)) ?_
    refine g_aload_n (nx := 20) hX 0 dX6_push_19 rfl rfl rfl ?_
    refine g_dup (nx := 21) hX dX6_push_20 rfl rfl ?_
    refine g_getfield (nx := 24) hX dX6_push_21 rfl fX6_65 (ga_dn hn rfl) rfl rfl ?_
    refine g_iconst (nx := 25) hX 1 dX6_push_24 rfl (by decide) ?_
    refine g_iadd (nx := 26) hX dX6_push_25 rfl ?_
    rw [nI_1]
    refine g_putfield (nx := 29) hX dX6_push_26 rfl pX6_65 (ga_dn hn rfl) rfl rfl rfl rfl ?_
    exact g_return hX hP dX6_push_29 (Nat.le_of_ble_eq_true rfl) (Nat.le_of_ble_eq_true rfl) ⟨rfl, rfl⟩
theorem c_X6_pop {d : Nat} (hn : 106 ≤ n) (hd : 1 ≤ d) (hd2 : d ≤ 32) : ga_Mx E 0 yX6_pop cX6_pop 1 (some .long) 0 0 [.ref 15] (n, (c0 :: c1 :: c2 :: c3 :: c4 :: c5 :: c6 :: c7 :: c8 :: c9 :: c10 :: c11 :: c12 :: c13 :: c14 :: k_U 15 (nI d) size tot sm :: c16 :: c17 :: c18 :: c19 :: ga_l 32 s :: L1), L2, f) (some (.long (s (d - 1)))) (n, (c0 :: c1 :: c2 :: c3 :: c4 :: c5 :: c6 :: c7 :: c8 :: c9 :: c10 :: c11 :: c12 :: c13 :: c14 :: k_U 15 (nI (d - 1)) size tot sm :: c16 :: c17 :: c18 :: c19 :: ga_l 32 s :: L1), L2, f) := by
  have e : nI d - 1 = nI (d - 1) := by have := pk_sub (a := d) (b := 1) hd; exact this
  refine ga_Mt.of (by decide) rfl (fun X hX hP => ?_)
  refine g_less [some (.ref 15)] ⟨rfl, trivial⟩ ?_
  refine g_aload_n (nx := 1) hX 0 dX6_pop_0 rfl rfl rfl ?_
  refine g_getfield (nx := 4) hX dX6_pop_1 rfl fX6_65 (ga_dn hn rfl) rfl rfl ?_
  refine g_iconst (nx := 5) hX 1 dX6_pop_4 rfl (by decide) ?_
  refine g_icmp_ge (nx := 8) hX 10 dX6_pop_5 (by decide) rfl (fun h5 => ?_) (fun h5 => ?_)
  · refine g_aload_n (nx := 11) hX 0 dX6_pop_10 rfl rfl rfl ?_
    refine g_dup (nx := 12) hX dX6_pop_11 rfl rfl ?_
    refine g_getfield (nx := 15) hX dX6_pop_12 rfl fX6_65 (ga_dn hn rfl) rfl rfl ?_
    refine g_iconst (nx := 16) hX 1 dX6_pop_15 rfl (by decide) ?_
    refine g_isub (nx := 17) hX dX6_pop_16 rfl ?_
    rw [e]
    refine g_putfield (nx := 20) hX dX6_pop_17 rfl pX6_65 (ga_dn hn rfl) rfl rfl rfl rfl ?_
    refine g_aload_n (nx := 21) hX 0 dX6_pop_20 rfl rfl rfl ?_
    refine g_getfield (nx := 24) hX dX6_pop_21 rfl fX6_26 (ga_dn hn rfl) rfl rfl ?_
    refine g_aload_n (nx := 25) hX 0 dX6_pop_24 rfl rfl rfl ?_
    refine g_getfield (nx := 28) hX dX6_pop_25 rfl fX6_65 (ga_dn hn rfl) rfl rfl ?_
    refine g_laload (nx := 29) hX dX6_pop_28 rfl (ga_dn hn rfl) rfl (ga_ix_of rfl (by omega) (by omega)) ?_
    exact g_lreturn hX hP dX6_pop_29 (Nat.le_of_ble_eq_true rfl) (Nat.le_of_ble_eq_true rfl) ⟨rfl, rfl⟩
  · exact absurd (nI_le (a := 1) hd (by omega)) h5
theorem c_X6_join {op : Nat} (hop : e_op op) (ha : e_bd a) (hb : e_bd b) : ga_Mx E 2 yX6_join cX6_join 5 (some .long) 0 0 [.int (nI op), .long a, .long b] M (some (.long (e_two op a b))) M := by
  rcases hop with rfl | rfl | rfl | rfl | rfl | rfl | rfl | rfl
  · -- one
    refine ga_Mt.of (by decide) rfl (fun X hX hP => ?_)
    refine g_less [some (.int (nI 2)), some (.long a), none, some (.long b), none] ⟨rfl, rfl, rfl, trivial⟩ ?_
    refine g_iload_n (nx := 1) hX 0 dX6_join_0 rfl rfl rfl ?_
    refine g_tableIn hX 48 dX6_join_1 (by decide) (by decide) rfl (by decide) ?_
    refine g_lload_n (nx := 49) hX 1 dX6_join_48 rfl rfl rfl ?_
    refine g_lload_n (nx := 50) hX 3 dX6_join_49 rfl rfl rfl ?_
    refine g_ladd (nx := 51) hX dX6_join_50 rfl ?_
    refine g_S1 (nx := 54) hX dX6_join_51 rfl mX6_90 yX6_limited_ok (c_X6_limited) (by decide) rfl (Nat.le_of_ble_eq_true rfl) (Nat.le_of_ble_eq_true rfl) ?_
    rintro _ _ ⟨rfl, rfl⟩
    exact g_lreturn hX hP dX6_join_54 (Nat.le_of_ble_eq_true rfl) (Nat.le_of_ble_eq_true rfl) ⟨by simp [e_two], rfl⟩
  · -- one
    refine ga_Mt.of (by decide) rfl (fun X hX hP => ?_)
    refine g_less [some (.int (nI 3)), some (.long a), none, some (.long b), none] ⟨rfl, rfl, rfl, trivial⟩ ?_
    refine g_iload_n (nx := 1) hX 0 dX6_join_0 rfl rfl rfl ?_
    refine g_tableIn hX 55 dX6_join_1 (by decide) (by decide) rfl (by decide) ?_
    refine g_lload_n (nx := 56) hX 1 dX6_join_55 rfl rfl rfl ?_
    refine g_lload_n (nx := 57) hX 3 dX6_join_56 rfl rfl rfl ?_
    refine g_lsub (nx := 58) hX dX6_join_57 rfl ?_
    refine g_S1 (nx := 61) hX dX6_join_58 rfl mX6_90 yX6_limited_ok (c_X6_limited) (by decide) rfl (Nat.le_of_ble_eq_true rfl) (Nat.le_of_ble_eq_true rfl) ?_
    rintro _ _ ⟨rfl, rfl⟩
    exact g_lreturn hX hP dX6_join_61 (Nat.le_of_ble_eq_true rfl) (Nat.le_of_ble_eq_true rfl) ⟨by simp [e_two], rfl⟩
  · -- one
    refine ga_Mt.of (by decide) rfl (fun X hX hP => ?_)
    refine g_less [some (.int (nI 4)), some (.long a), none, some (.long b), none] ⟨rfl, rfl, rfl, trivial⟩ ?_
    refine g_iload_n (nx := 1) hX 0 dX6_join_0 rfl rfl rfl ?_
    refine g_tableIn hX 62 dX6_join_1 (by decide) (by decide) rfl (by decide) ?_
    refine g_lload_n (nx := 63) hX 1 dX6_join_62 rfl rfl rfl ?_
    refine g_lload_n (nx := 64) hX 3 dX6_join_63 rfl rfl rfl ?_
    refine g_S2 (nx := 67) hX dX6_join_64 rfl mX6_94 yX6_product_ok (c_X6_product ha hb) (by decide) rfl (Nat.le_of_ble_eq_true rfl) (Nat.le_of_ble_eq_true rfl) ?_
    rintro _ _ ⟨rfl, rfl⟩
    exact g_lreturn hX hP dX6_join_67 (Nat.le_of_ble_eq_true rfl) (Nat.le_of_ble_eq_true rfl) ⟨by simp [e_two], rfl⟩
  · -- one
    refine ga_Mt.of (by decide) rfl (fun X hX hP => ?_)
    refine g_less [some (.int (nI 6)), some (.long a), none, some (.long b), none] ⟨rfl, rfl, rfl, trivial⟩ ?_
    refine g_iload_n (nx := 1) hX 0 dX6_join_0 rfl rfl rfl ?_
    refine g_tableIn hX 68 dX6_join_1 (by decide) (by decide) rfl (by decide) ?_
    refine g_lload_n (nx := 69) hX 1 dX6_join_68 rfl rfl rfl ?_
    refine g_lload_n (nx := 70) hX 3 dX6_join_69 rfl rfl rfl ?_
    refine g_S2 (nx := 73) hX dX6_join_70 rfl mX6_97 yJ9_max_f86c9_ok (c_J9_max_f86c9) (by decide) rfl (Nat.le_of_ble_eq_true rfl) (Nat.le_of_ble_eq_true rfl) ?_
    rintro _ _ ⟨rfl, rfl⟩
    exact g_lreturn hX hP dX6_join_73 (Nat.le_of_ble_eq_true rfl) (Nat.le_of_ble_eq_true rfl) ⟨by simp [e_two], rfl⟩
  · -- one
    refine ga_Mt.of (by decide) rfl (fun X hX hP => ?_)
    refine g_less [some (.int (nI 7)), some (.long a), none, some (.long b), none] ⟨rfl, rfl, rfl, trivial⟩ ?_
    refine g_iload_n (nx := 1) hX 0 dX6_join_0 rfl rfl rfl ?_
    refine g_tableIn hX 74 dX6_join_1 (by decide) (by decide) rfl (by decide) ?_
    refine g_lload_n (nx := 75) hX 1 dX6_join_74 rfl rfl rfl ?_
    refine g_lload_n (nx := 76) hX 3 dX6_join_75 rfl rfl rfl ?_
    refine g_S2 (nx := 79) hX dX6_join_76 rfl mX6_100 yJ9_min_f86c9_ok (c_J9_min_f86c9) (by decide) rfl (Nat.le_of_ble_eq_true rfl) (Nat.le_of_ble_eq_true rfl) ?_
    rintro _ _ ⟨rfl, rfl⟩
    exact g_lreturn hX hP dX6_join_79 (Nat.le_of_ble_eq_true rfl) (Nat.le_of_ble_eq_true rfl) ⟨by simp [e_two], rfl⟩
  · -- one
    refine ga_Mt.of (by decide) rfl (fun X hX hP => ?_)
    refine g_less [some (.int (nI 8)), some (.long a), none, some (.long b), none] ⟨rfl, rfl, rfl, trivial⟩ ?_
    refine g_iload_n (nx := 1) hX 0 dX6_join_0 rfl rfl rfl ?_
    refine g_tableIn hX 80 dX6_join_1 (by decide) (by decide) rfl (by decide) ?_
    refine g_lload_n (nx := 81) hX 1 dX6_join_80 rfl rfl rfl ?_
    refine g_lload_n (nx := 82) hX 3 dX6_join_81 rfl rfl rfl ?_
    refine g_lcmp (nx := 83) hX dX6_join_82 rfl ?_
    refine g_if_ge (nx := 86) hX 90 dX6_join_83 (by decide) rfl (fun h83 => ?_) (fun h83 => ?_)
    · refine g_lconst (nx := 91) hX 0 dX6_join_90 rfl (by decide) ?_
      exact g_lreturn hX hP dX6_join_91 (Nat.le_of_ble_eq_true rfl) (Nat.le_of_ble_eq_true rfl) ⟨by simp [e_two, l_len ((lg_cmp_ge a b).mp h83)], rfl⟩
    · refine g_lconst (nx := 87) hX 1 dX6_join_86 rfl (by decide) ?_
      refine g_goto (nx := 91) hX dX6_join_87 (by decide) ?_
      exact g_lreturn hX hP dX6_join_91 (Nat.le_of_ble_eq_true rfl) (Nat.le_of_ble_eq_true rfl) ⟨by simp [e_two, l_nle (fun q => h83 ((lg_cmp_ge a b).mpr q))], rfl⟩
  · -- one
    refine ga_Mt.of (by decide) rfl (fun X hX hP => ?_)
    refine g_less [some (.int (nI 9)), some (.long a), none, some (.long b), none] ⟨rfl, rfl, rfl, trivial⟩ ?_
    refine g_iload_n (nx := 1) hX 0 dX6_join_0 rfl rfl rfl ?_
    refine g_tableIn hX 92 dX6_join_1 (by decide) (by decide) rfl (by decide) ?_
    refine g_lload_n (nx := 93) hX 1 dX6_join_92 rfl rfl rfl ?_
    refine g_lload_n (nx := 94) hX 3 dX6_join_93 rfl rfl rfl ?_
    refine g_lcmp (nx := 95) hX dX6_join_94 rfl ?_
    refine g_if_le (nx := 98) hX 102 dX6_join_95 (by decide) rfl (fun h95 => ?_) (fun h95 => ?_)
    · refine g_lconst (nx := 103) hX 0 dX6_join_102 rfl (by decide) ?_
      exact g_lreturn hX hP dX6_join_103 (Nat.le_of_ble_eq_true rfl) (Nat.le_of_ble_eq_true rfl) ⟨by simp [e_two, l_len ((lg_cmp_le a b).mp h95)], rfl⟩
    · refine g_lconst (nx := 99) hX 1 dX6_join_98 rfl (by decide) ?_
      refine g_goto (nx := 103) hX dX6_join_99 (by decide) ?_
      exact g_lreturn hX hP dX6_join_103 (Nat.le_of_ble_eq_true rfl) (Nat.le_of_ble_eq_true rfl) ⟨by simp [e_two, l_nle (fun q => h95 ((lg_cmp_le a b).mpr q))], rfl⟩
  · -- one
    refine ga_Mt.of (by decide) rfl (fun X hX hP => ?_)
    refine g_less [some (.int (nI 10)), some (.long a), none, some (.long b), none] ⟨rfl, rfl, rfl, trivial⟩ ?_
    refine g_iload_n (nx := 1) hX 0 dX6_join_0 rfl rfl rfl ?_
    refine g_tableOut hX 104 dX6_join_1 (by decide) (by decide) ?_
    refine g_lload_n (nx := 105) hX 1 dX6_join_104 rfl rfl rfl ?_
    refine g_lload_n (nx := 106) hX 3 dX6_join_105 rfl rfl rfl ?_
    refine g_lcmp (nx := 107) hX dX6_join_106 rfl ?_
    refine g_if_ne (nx := 110) hX 114 dX6_join_107 (by decide) rfl (fun h107 => ?_) (fun h107 => ?_)
    · refine g_lconst (nx := 115) hX 0 dX6_join_114 rfl (by decide) ?_
      exact g_lreturn hX hP dX6_join_115 (Nat.le_of_ble_eq_true rfl) (Nat.le_of_ble_eq_true rfl) ⟨by have hne : ¬ a = b := fun q => h107 ((lg_cmp_eq a b).mpr q); simp [e_two, hne], rfl⟩
    · refine g_lconst (nx := 111) hX 1 dX6_join_110 rfl (by decide) ?_
      refine g_goto (nx := 115) hX dX6_join_111 (by decide) ?_
      exact g_lreturn hX hP dX6_join_115 (Nat.le_of_ble_eq_true rfl) (Nat.le_of_ble_eq_true rfl) ⟨by simp [e_two, (lg_cmp_eq a b).mp h107], rfl⟩
theorem c_X11_two {op : Nat} (hop : e_op op) (ha : e_bd a) (hb : e_bd b) : ga_Mx E 1 yX11_two cX11_two 5 (some .long) 0 0 [.int (nI (op + 1)), .long a, .long b] M (some (.long (e_two op a b))) M := by
  rcases hop with rfl | rfl | rfl | rfl | rfl | rfl | rfl | rfl
  · -- one
    refine ga_Mt.of (by decide) rfl (fun X hX hP => ?_)
    refine g_less [some (.int (nI (2 + 1))), some (.long a), none, some (.long b), none] ⟨rfl, rfl, rfl, trivial⟩ ?_
    refine g_iload_n (nx := 1) hX 0 dX11_two_0 rfl rfl rfl ?_
    refine g_tableIn hX 48 dX11_two_1 (by decide) (by decide) rfl (by decide) ?_
    refine g_lload_n (nx := 49) hX 1 dX11_two_48 rfl rfl rfl ?_
    refine g_lload_n (nx := 50) hX 3 dX11_two_49 rfl rfl rfl ?_
    refine g_ladd (nx := 51) hX dX11_two_50 rfl ?_
    refine g_S1 (nx := 54) hX dX11_two_51 rfl mX11_315 yX11_held_ok (c_X11_held) (by decide) rfl (Nat.le_of_ble_eq_true rfl) (Nat.le_of_ble_eq_true rfl) ?_
    rintro _ _ ⟨rfl, rfl⟩
    exact g_lreturn hX hP dX11_two_54 (Nat.le_of_ble_eq_true rfl) (Nat.le_of_ble_eq_true rfl) ⟨by simp [e_two], rfl⟩
  · -- one
    refine ga_Mt.of (by decide) rfl (fun X hX hP => ?_)
    refine g_less [some (.int (nI (3 + 1))), some (.long a), none, some (.long b), none] ⟨rfl, rfl, rfl, trivial⟩ ?_
    refine g_iload_n (nx := 1) hX 0 dX11_two_0 rfl rfl rfl ?_
    refine g_tableIn hX 55 dX11_two_1 (by decide) (by decide) rfl (by decide) ?_
    refine g_lload_n (nx := 56) hX 1 dX11_two_55 rfl rfl rfl ?_
    refine g_lload_n (nx := 57) hX 3 dX11_two_56 rfl rfl rfl ?_
    refine g_lsub (nx := 58) hX dX11_two_57 rfl ?_
    refine g_S1 (nx := 61) hX dX11_two_58 rfl mX11_315 yX11_held_ok (c_X11_held) (by decide) rfl (Nat.le_of_ble_eq_true rfl) (Nat.le_of_ble_eq_true rfl) ?_
    rintro _ _ ⟨rfl, rfl⟩
    exact g_lreturn hX hP dX11_two_61 (Nat.le_of_ble_eq_true rfl) (Nat.le_of_ble_eq_true rfl) ⟨by simp [e_two], rfl⟩
  · -- one
    refine ga_Mt.of (by decide) rfl (fun X hX hP => ?_)
    refine g_less [some (.int (nI (4 + 1))), some (.long a), none, some (.long b), none] ⟨rfl, rfl, rfl, trivial⟩ ?_
    refine g_iload_n (nx := 1) hX 0 dX11_two_0 rfl rfl rfl ?_
    refine g_tableIn hX 62 dX11_two_1 (by decide) (by decide) rfl (by decide) ?_
    refine g_lload_n (nx := 63) hX 1 dX11_two_62 rfl rfl rfl ?_
    refine g_lload_n (nx := 64) hX 3 dX11_two_63 rfl rfl rfl ?_
    refine g_S2 (nx := 67) hX dX11_two_64 rfl mX11_319 yX11_times_ok (c_X11_times ha hb) (by decide) rfl (Nat.le_of_ble_eq_true rfl) (Nat.le_of_ble_eq_true rfl) ?_
    rintro _ _ ⟨rfl, rfl⟩
    exact g_lreturn hX hP dX11_two_67 (Nat.le_of_ble_eq_true rfl) (Nat.le_of_ble_eq_true rfl) ⟨by simp [e_two], rfl⟩
  · -- one
    refine ga_Mt.of (by decide) rfl (fun X hX hP => ?_)
    refine g_less [some (.int (nI (6 + 1))), some (.long a), none, some (.long b), none] ⟨rfl, rfl, rfl, trivial⟩ ?_
    refine g_iload_n (nx := 1) hX 0 dX11_two_0 rfl rfl rfl ?_
    refine g_tableIn hX 68 dX11_two_1 (by decide) (by decide) rfl (by decide) ?_
    refine g_lload_n (nx := 69) hX 1 dX11_two_68 rfl rfl rfl ?_
    refine g_lload_n (nx := 70) hX 3 dX11_two_69 rfl rfl rfl ?_
    refine g_lcmp (nx := 71) hX dX11_two_70 rfl ?_
    refine g_if_le (nx := 74) hX 78 dX11_two_71 (by decide) rfl (fun h71 => ?_) (fun h71 => ?_)
    · refine g_lload_n (nx := 79) hX 3 dX11_two_78 rfl rfl rfl ?_
      exact g_lreturn hX hP dX11_two_79 (Nat.le_of_ble_eq_true rfl) (Nat.le_of_ble_eq_true rfl) ⟨by simp [e_two, e_mxl]; exact fun q => (e_le_eq ((lg_cmp_le a b).mp h71) q), rfl⟩
    · refine g_lload_n (nx := 75) hX 1 dX11_two_74 rfl rfl rfl ?_
      refine g_goto (nx := 79) hX dX11_two_75 (by decide) ?_
      exact g_lreturn hX hP dX11_two_79 (Nat.le_of_ble_eq_true rfl) (Nat.le_of_ble_eq_true rfl) ⟨by simp [e_two, e_mxl]; exact fun q => absurd ((lg_cmp_le a b).mpr (e_lt_le q)) h71, rfl⟩
  · -- one
    refine ga_Mt.of (by decide) rfl (fun X hX hP => ?_)
    refine g_less [some (.int (nI (7 + 1))), some (.long a), none, some (.long b), none] ⟨rfl, rfl, rfl, trivial⟩ ?_
    refine g_iload_n (nx := 1) hX 0 dX11_two_0 rfl rfl rfl ?_
    refine g_tableIn hX 80 dX11_two_1 (by decide) (by decide) rfl (by decide) ?_
    refine g_lload_n (nx := 81) hX 1 dX11_two_80 rfl rfl rfl ?_
    refine g_lload_n (nx := 82) hX 3 dX11_two_81 rfl rfl rfl ?_
    refine g_lcmp (nx := 83) hX dX11_two_82 rfl ?_
    refine g_if_ge (nx := 86) hX 90 dX11_two_83 (by decide) rfl (fun h83 => ?_) (fun h83 => ?_)
    · refine g_lload_n (nx := 91) hX 3 dX11_two_90 rfl rfl rfl ?_
      exact g_lreturn hX hP dX11_two_91 (Nat.le_of_ble_eq_true rfl) (Nat.le_of_ble_eq_true rfl) ⟨by simp [e_two, e_mnl]; exact fun q => (e_le_eq' ((lg_cmp_ge a b).mp h83) q), rfl⟩
    · refine g_lload_n (nx := 87) hX 1 dX11_two_86 rfl rfl rfl ?_
      refine g_goto (nx := 91) hX dX11_two_87 (by decide) ?_
      exact g_lreturn hX hP dX11_two_91 (Nat.le_of_ble_eq_true rfl) (Nat.le_of_ble_eq_true rfl) ⟨by simp [e_two, e_mnl]; exact fun q => absurd ((lg_cmp_ge a b).mpr (e_lt_le q)) h83, rfl⟩
  · -- one
    refine ga_Mt.of (by decide) rfl (fun X hX hP => ?_)
    refine g_less [some (.int (nI (8 + 1))), some (.long a), none, some (.long b), none] ⟨rfl, rfl, rfl, trivial⟩ ?_
    refine g_iload_n (nx := 1) hX 0 dX11_two_0 rfl rfl rfl ?_
    refine g_tableIn hX 92 dX11_two_1 (by decide) (by decide) rfl (by decide) ?_
    refine g_lload_n (nx := 93) hX 1 dX11_two_92 rfl rfl rfl ?_
    refine g_lload_n (nx := 94) hX 3 dX11_two_93 rfl rfl rfl ?_
    refine g_lcmp (nx := 95) hX dX11_two_94 rfl ?_
    refine g_if_ge (nx := 98) hX 102 dX11_two_95 (by decide) rfl (fun h95 => ?_) (fun h95 => ?_)
    · refine g_lconst (nx := 103) hX 0 dX11_two_102 rfl (by decide) ?_
      exact g_lreturn hX hP dX11_two_103 (Nat.le_of_ble_eq_true rfl) (Nat.le_of_ble_eq_true rfl) ⟨by simp [e_two, l_len ((lg_cmp_ge a b).mp h95)], rfl⟩
    · refine g_lconst (nx := 99) hX 1 dX11_two_98 rfl (by decide) ?_
      refine g_goto (nx := 103) hX dX11_two_99 (by decide) ?_
      exact g_lreturn hX hP dX11_two_103 (Nat.le_of_ble_eq_true rfl) (Nat.le_of_ble_eq_true rfl) ⟨by simp [e_two, l_nle (fun q => h95 ((lg_cmp_ge a b).mpr q))], rfl⟩
  · -- one
    refine ga_Mt.of (by decide) rfl (fun X hX hP => ?_)
    refine g_less [some (.int (nI (9 + 1))), some (.long a), none, some (.long b), none] ⟨rfl, rfl, rfl, trivial⟩ ?_
    refine g_iload_n (nx := 1) hX 0 dX11_two_0 rfl rfl rfl ?_
    refine g_tableIn hX 104 dX11_two_1 (by decide) (by decide) rfl (by decide) ?_
    refine g_lload_n (nx := 105) hX 1 dX11_two_104 rfl rfl rfl ?_
    refine g_lload_n (nx := 106) hX 3 dX11_two_105 rfl rfl rfl ?_
    refine g_lcmp (nx := 107) hX dX11_two_106 rfl ?_
    refine g_if_le (nx := 110) hX 114 dX11_two_107 (by decide) rfl (fun h107 => ?_) (fun h107 => ?_)
    · refine g_lconst (nx := 115) hX 0 dX11_two_114 rfl (by decide) ?_
      exact g_lreturn hX hP dX11_two_115 (Nat.le_of_ble_eq_true rfl) (Nat.le_of_ble_eq_true rfl) ⟨by simp [e_two, l_len ((lg_cmp_le a b).mp h107)], rfl⟩
    · refine g_lconst (nx := 111) hX 1 dX11_two_110 rfl (by decide) ?_
      refine g_goto (nx := 115) hX dX11_two_111 (by decide) ?_
      exact g_lreturn hX hP dX11_two_115 (Nat.le_of_ble_eq_true rfl) (Nat.le_of_ble_eq_true rfl) ⟨by simp [e_two, l_nle (fun q => h107 ((lg_cmp_le a b).mpr q))], rfl⟩
  · -- one
    refine ga_Mt.of (by decide) rfl (fun X hX hP => ?_)
    refine g_less [some (.int (nI (10 + 1))), some (.long a), none, some (.long b), none] ⟨rfl, rfl, rfl, trivial⟩ ?_
    refine g_iload_n (nx := 1) hX 0 dX11_two_0 rfl rfl rfl ?_
    refine g_tableOut hX 116 dX11_two_1 (by decide) (by decide) ?_
    refine g_lload_n (nx := 117) hX 1 dX11_two_116 rfl rfl rfl ?_
    refine g_lload_n (nx := 118) hX 3 dX11_two_117 rfl rfl rfl ?_
    refine g_lcmp (nx := 119) hX dX11_two_118 rfl ?_
    refine g_if_ne (nx := 122) hX 126 dX11_two_119 (by decide) rfl (fun h119 => ?_) (fun h119 => ?_)
    · refine g_lconst (nx := 127) hX 0 dX11_two_126 rfl (by decide) ?_
      exact g_lreturn hX hP dX11_two_127 (Nat.le_of_ble_eq_true rfl) (Nat.le_of_ble_eq_true rfl) ⟨by have hne : ¬ a = b := fun q => h119 ((lg_cmp_eq a b).mpr q); simp [e_two, hne], rfl⟩
    · refine g_lconst (nx := 123) hX 1 dX11_two_122 rfl (by decide) ?_
      refine g_goto (nx := 127) hX dX11_two_123 (by decide) ?_
      exact g_lreturn hX hP dX11_two_127 (Nat.le_of_ble_eq_true rfl) (Nat.le_of_ble_eq_true rfl) ⟨by simp [e_two, (lg_cmp_eq a b).mp h119], rfl⟩
end
