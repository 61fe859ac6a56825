/-! ===== what lies behind an array's end is nothing; takeFence, fill ===== -/
theorem ar_ext {cA : ClassId} {n : Nat} {f f' : Nat → Value} (h : ∀ j, j < n → f j = f' j) : arrV cA n f = arrV cA n f' := by
  unfold arrV
  congr 1
  apply Array.ext
  · simp
  · intro i h1 h2
    simp at h1
    simp [h i h1]
theorem g_exti {E : ga_E} {X : ga_X} {d nL mc ms kc ks pc : Nat} {y : MethodName} {cc : ByteArray} {lv : List (Option Value)} {st : List Value} {M : ga_M} (hX : ga_B E d y cc nL mc ms X) {a n : Nat} {f f' : Nat → Int32} (ha : a < M.1) (hg : ga_get M a = ga_i n f) (hf : ∀ j, j < n → f j = f' j) (k : ga_G E X kc ks pc lv st (ga_put M a (ga_i n f'))) : ga_G E X kc ks pc lv st M := by
  intro H locs ls hR hl hS
  have hat := hR.2.2.2 a ha
  rw [hg] at hat
  refine k H locs ls (hR.put hX.2.2.2.2.2.2.2.2.1 ha rfl (fun _ _ => rfl) ?_) hl hS
  have e : ga_e E (ga_i n f) = .inl (E.2.2.2.1 0, n, .inl f) := rfl
  show H[E.2.1 a]? = some (vp_cell (E.2.2.2.1 0) (n, .inl f'))
  rw [vp_cell_i, ← ar_ext (f := fun j => .int (f j)) (fun j hj => by rw [hf j hj])]
  exact hat
theorem g_extl {E : ga_E} {X : ga_X} {d nL mc ms kc ks pc : Nat} {y : MethodName} {cc : ByteArray} {lv : List (Option Value)} {st : List Value} {M : ga_M} (hX : ga_B E d y cc nL mc ms X) {a n : Nat} {f f' : Nat → Int64} (ha : a < M.1) (hg : ga_get M a = ga_l n f) (hf : ∀ j, j < n → f j = f' j) (k : ga_G E X kc ks pc lv st (ga_put M a (ga_l n f'))) : ga_G E X kc ks pc lv st M := by
  intro H locs ls hR hl hS
  have hat := hR.2.2.2 a ha
  rw [hg] at hat
  refine k H locs ls (hR.put hX.2.2.2.2.2.2.2.2.1 ha rfl (fun _ _ => rfl) ?_) hl hS
  show H[E.2.1 a]? = some (vp_cell (E.2.2.2.1 1) (n, .inr (.inl f')))
  rw [vp_cell_l, ← ar_ext (f := fun j => .long (f j)) (fun j hj => by rw [hf j hj])]
  exact hat
def y_n (v : Nat → Int64) (x2 x3 x4 x5 x6 x7 x11 : Int64) : Nat → Int64 :=
  let v2 := vp_updL v 2 (v 2 + x2)
  let v3 := vp_updL v2 3 (v2 3 + x3)
  let v4 := vp_updL v3 4 (v3 4 + x4)
  let v5 := vp_updL v4 5 (v4 5 + x5)
  let v6 := vp_updL v5 6 (v5 6 + x6)
  let v7 := vp_updL v6 7 (v6 7 + x7)
  vp_updL v7 11 (v7 11 + x11)
theorem y_n_eq {w : Nat → Int64} {q : Nat → Nat} {a b c d : Nat} {x5 x6 x7 x11 : Int64} (ha : a < 2147483648) (hb : b < 2147483648) (hc : c < 2147483648) (h5 : x5 = lN (if 1 ≤ a then 1 else 0)) (h6 : x6 = lN (if 2 ≤ a then 1 else 0)) (h7 : x7 = lN (if 3 ≤ a then 1 else 0)) (h11 : x11 = lN (if a + b + c + d = 0 then 1 else 0)) :
    y_n (y_w w q) (nI a).toInt64 (nI b).toInt64 (nI c).toInt64 x5 x6 x7 x11 = y_w w (y_fq q a b c d) := by
  rw [nI_l ha, nI_l hb, nI_l hc, h5, h6, h7, h11]
  funext j
  unfold y_n y_w y_fq vp_updL
  simp only []
  by_cases e2 : j = 2
  · subst e2; simp [lN_add]
  by_cases e3 : j = 3
  · subst e3; simp [lN_add]
  by_cases e4 : j = 4
  · subst e4; simp [lN_add]
  by_cases e5 : j = 5
  · subst e5; simp [lN_add]
  by_cases e6 : j = 6
  · subst e6; simp [lN_add]
  by_cases e7 : j = 7
  · subst e7; simp [lN_add]
  by_cases e11 : j = 11
  · subst e11; simp [lN_add]
  simp [e2, e3, e4, e5, e6, e7, e11]
/-! the acts of both: what the arrays of the reference say, and the chains of the class -/
def a_sb (x : Int32) : Int32 := if x = 0 then -1 else x
def a_ch (A : w_A) (an r k : Nat) (p : Option Nat) : Prop := match p with
  | none => ∀ j, k < j → j ≤ an → ¬ (0 ≤ A.2.1 j ∧ A.1 j = nI r)
  | some q => ∃ j, k < j ∧ j ≤ an ∧ q = j + 105 ∧ (0 ≤ A.2.1 j ∧ A.1 j = nI r) ∧ ∀ i, k < i → i < j → ¬ (0 ≤ A.2.1 i ∧ A.1 i = nI r)
def a_ok (A : w_A) (av : Nat → a_S) (an : Nat) : Prop := ∀ k, 1 ≤ k → k ≤ an → 0 ≤ A.2.1 k → ∃ nx r, A.1 k = nI r ∧ r < 24 ∧ av k = (A.1 k, A.2.1 k, A.2.2.1 k, A.2.2.2.1 k, A.2.2.2.2.1 k, nI k, a_sb (A.2.2.2.2.2 k), nx) ∧ a_ch A an r k nx ∧ y_ok (A.2.1 k) (A.2.2.1 k) ∧ 0 ≤ A.2.2.2.2.2 k
theorem fi_st {E : ga_E} {X : ga_X} {d mc ms kc ks nx : Nat} {p : Option Nat} {q1 q2 : Nat} {q3 q4 : Int32} {o : Option Value} {M : ga_M} (hX : ga_B E d yX8_fill cX8_fill 5 mc ms X) (k : ga_G E X kc ks 74 [some (.ref q1), some (.ref q2), some (.int q3), some (.int q4), some (ga_rf p)] [] M) : ga_G E X kc ks 72 [some (.ref q1), some (.ref q2), some (.int q3), some (.int q4), o] [ga_rf p] M := by
  cases p with
  | none => exact g_astoreN (nx := 74) hX 4 dX8_fill_72 rfl rfl k
  | some a => exact g_astore (nx := 74) hX 4 dX8_fill_72 rfl rfl k
theorem fi_st44 {E : ga_E} {X : ga_X} {d mc ms kc ks : Nat} {p : Option Nat} {q1 q2 : Nat} {q3 q4 : Int32} {o : Option Value} {M : ga_M} (hX : ga_B E d yX8_fill cX8_fill 5 mc ms X) (k : ga_G E X kc ks 46 [some (.ref q1), some (.ref q2), some (.int q3), some (.int q4), some (ga_rf p)] [] M) : ga_G E X kc ks 44 [some (.ref q1), some (.ref q2), some (.int q3), some (.int q4), o] [ga_rf p] M := by
  cases p with
  | none => exact g_astoreN (nx := 46) hX 4 dX8_fill_44 rfl rfl k
  | some a => exact g_astore (nx := 46) hX 4 dX8_fill_44 rfl rfl k
section
variable {E : ga_E} {X : ga_X} {n : Nat} {c0 c1 c2 c3 c4 c5 c6 c7 c8 c9 c10 c11 c12 c13 c14 c15 c16 c17 c18 c19 c20 c21 c22 c23 c24 c25 c26 c27 c28 c29 c30 m79 m80 m81 m82 m83 m84 m85 m86 m87 m88 m89 m90 m91 m92 m93 m94 m95 m96 m97 m98 m99 m100 m101 m102 m103 m104 m105 : ga_C} {L1 L2 : List ga_C} {f : Nat → ga_C} {o_tp o_rd o_fe o_em o_sp o_ac o_td o_sm o_tt o_at o_sz o_fk o_fp o_nw o_md o_nt o_pl o_op d_at d_tk d_ta d_fd d_fa : Int32} {d_tv : Int64} {d_rl : Value}
variable {sv : Nat → sh_S} {av : Nat → a_S} {g : Nat → ga_C} {r : Nat} {ah ou : Nat → Int32} {fm em sp op : Int32} {fn an : Nat} {ol nw : Nat → Option Nat}
variable {mr rg : Int32} {kn lk rt : Nat} {s fi : Option Int32} {hd : Int32} {sn : Nat → Nat → Nat} {sst stm sof : Int32} {stt : Int64} {w : Nat → Int64} {q : Nat → Nat}
set_option maxHeartbeats 4000000 in
theorem c_X8_takeFence {k : Nat} {a1 a2 a3 a4 a5 a6 a7 : Int32} {u : Int64} (hn : 106 ≤ n) (hr : r < 24) (hk : k < 30) (hs : ∀ i f, sn i f ≤ 400) : ga_Mx E 3 yX8_takeFence cX8_takeFence 7 none 0 0 [.ref 29, .int (nI k), .ref (2 * r + 32)] (n, (c0 :: c1 :: c2 :: c3 :: c4 :: c5 :: c6 :: c7 :: c8 :: c9 :: c10 :: c11 :: c12 :: c13 :: c14 :: c15 :: c16 :: c17 :: c18 :: c19 :: c20 :: c21 :: c22 :: c23 :: c24 :: c25 :: c26 :: c27 :: c28 :: k_Y hd :: ga_i 120 (y_se sn) :: []), L2, sh_f (va_up sv r (a1, a2, a3, a4, a5, a6, a7, u, y_w w q)) g) none (n, (c0 :: c1 :: c2 :: c3 :: c4 :: c5 :: c6 :: c7 :: c8 :: c9 :: c10 :: c11 :: c12 :: c13 :: c14 :: c15 :: c16 :: c17 :: c18 :: c19 :: c20 :: c21 :: c22 :: c23 :: c24 :: c25 :: c26 :: c27 :: c28 :: k_Y hd :: ga_i 120 (y_se sn) :: []), L2, sh_f (va_up sv r (a1, a2, a3, a4, a5, a6, a7, u, y_w w (y_fq q (sn 0 k) (sn 1 k) (sn 2 k) (sn 3 k)))) g) := by
  have b0 := hs 0 k
  have b1 := hs 1 k
  have b2 := hs 2 k
  have b3 := hs 3 k
  have hsum : nI (sn 0 k) + nI (sn 1 k) + nI (sn 2 k) + nI (sn 3 k) = nI (sn 0 k + sn 1 k + sn 2 k + sn 3 k) := by rw [nI_add, nI_add, nI_add]
  refine ga_Mt.of (by decide) rfl (fun X hX hP => ?_)
  refine g_less [some (.ref 29), some (.int (nI k)), some (.ref (2 * r + 32)), none, none, none, none] ⟨rfl, rfl, rfl, trivial⟩ ?_
  refine g_aload_n (nx := 1) hX 0 dX8_takeFence_0 rfl rfl rfl ?_
  refine g_iconst (nx := 2) hX 3 dX8_takeFence_1 rfl (by decide) ?_
  refine g_iload_n (nx := 3) hX 1 dX8_takeFence_2 rfl rfl rfl ?_
  refine g_V2 (nx := 6) hX dX8_takeFence_3 rfl mX8_124 yX8_timesSeen_ok (c_X8_timesSeen (i := 0) hn (by omega) hk) (ga_dn hn rfl) rfl rfl rfl (by decide) rfl (Nat.le_of_ble_eq_true rfl) (Nat.le_of_ble_eq_true rfl) ?_
  rintro _ _ ⟨rfl, rfl⟩
  refine g_istore_n (nx := 7) hX 3 dX8_takeFence_6 rfl rfl rfl ?_
  refine g_aload_n (nx := 8) hX 0 dX8_takeFence_7 rfl rfl rfl ?_
  refine g_iconst (nx := 9) hX 4 dX8_takeFence_8 rfl (by decide) ?_
  refine g_iload_n (nx := 10) hX 1 dX8_takeFence_9 rfl rfl rfl ?_
  refine g_V2 (nx := 13) hX dX8_takeFence_10 rfl mX8_124 yX8_timesSeen_ok (c_X8_timesSeen (i := 1) hn (by omega) hk) (ga_dn hn rfl) rfl rfl rfl (by decide) rfl (Nat.le_of_ble_eq_true rfl) (Nat.le_of_ble_eq_true rfl) ?_
  rintro _ _ ⟨rfl, rfl⟩
  refine g_istore (nx := 15) hX 4 dX8_takeFence_13 rfl rfl ?_
  refine g_aload_n (nx := 16) hX 0 dX8_takeFence_15 rfl rfl rfl ?_
  refine g_iconst (nx := 17) hX 5 dX8_takeFence_16 rfl (by decide) ?_
  refine g_iload_n (nx := 18) hX 1 dX8_takeFence_17 rfl rfl rfl ?_
  refine g_V2 (nx := 21) hX dX8_takeFence_18 rfl mX8_124 yX8_timesSeen_ok (c_X8_timesSeen (i := 2) hn (by omega) hk) (ga_dn hn rfl) rfl rfl rfl (by decide) rfl (Nat.le_of_ble_eq_true rfl) (Nat.le_of_ble_eq_true rfl) ?_
  rintro _ _ ⟨rfl, rfl⟩
  refine g_istore (nx := 23) hX 5 dX8_takeFence_21 rfl rfl ?_
  refine g_aload_n (nx := 24) hX 0 dX8_takeFence_23 rfl rfl rfl ?_
  refine g_bipush (nx := 26) hX 6 dX8_takeFence_24 rfl (by decide) ?_
  refine g_iload_n (nx := 27) hX 1 dX8_takeFence_26 rfl rfl rfl ?_
  refine g_V2 (nx := 30) hX dX8_takeFence_27 rfl mX8_124 yX8_timesSeen_ok (c_X8_timesSeen (i := 3) hn (by omega) hk) (ga_dn hn rfl) rfl rfl rfl (by decide) rfl (Nat.le_of_ble_eq_true rfl) (Nat.le_of_ble_eq_true rfl) ?_
  rintro _ _ ⟨rfl, rfl⟩
  refine g_istore (nx := 32) hX 6 dX8_takeFence_30 rfl rfl ?_
  refine g_aload_n (nx := 33) hX 2 dX8_takeFence_32 rfl rfl rfl ?_
  refine g_iconst (nx := 34) hX 2 dX8_takeFence_33 rfl (by decide) ?_
  refine g_dup2 (nx := 35) hX dX8_takeFence_34 rfl rfl rfl ?_
  refine g_laload (nx := 36) hX dX8_takeFence_35 rfl (dm_v hn hr) (get_svE hr) (ga_ix_of (j := 2) rfl (by decide) (by decide)) ?_
  refine g_iload_n (nx := 37) hX 3 dX8_takeFence_36 rfl rfl rfl ?_
  refine g_i2l (nx := 38) hX dX8_takeFence_37 rfl ?_
  refine g_ladd (nx := 39) hX dX8_takeFence_38 rfl ?_
  refine g_lastore (nx := 40) hX dX8_takeFence_39 rfl (dm_v hn hr) (get_svE hr) (ga_ix_of (j := 2) rfl (by decide) (by decide)) ?_
  refine g_mem (put_svF hr) ?_
  refine g_aload_n (nx := 41) hX 2 dX8_takeFence_40 rfl rfl rfl ?_
  refine g_iconst (nx := 42) hX 3 dX8_takeFence_41 rfl (by decide) ?_
  refine g_dup2 (nx := 43) hX dX8_takeFence_42 rfl rfl rfl ?_
  refine g_laload (nx := 44) hX dX8_takeFence_43 rfl (dm_v hn hr) (get_svE hr) (ga_ix_of (j := 3) rfl (by decide) (by decide)) ?_
  refine g_iload (nx := 46) hX 4 dX8_takeFence_44 rfl rfl ?_
  refine g_i2l (nx := 47) hX dX8_takeFence_46 rfl ?_
  refine g_ladd (nx := 48) hX dX8_takeFence_47 rfl ?_
  refine g_lastore (nx := 49) hX dX8_takeFence_48 rfl (dm_v hn hr) (get_svE hr) (ga_ix_of (j := 3) rfl (by decide) (by decide)) ?_
  refine g_mem (put_svF hr) ?_
  refine g_aload_n (nx := 50) hX 2 dX8_takeFence_49 rfl rfl rfl ?_
  refine g_iconst (nx := 51) hX 4 dX8_takeFence_50 rfl (by decide) ?_
  refine g_dup2 (nx := 52) hX dX8_takeFence_51 rfl rfl rfl ?_
  refine g_laload (nx := 53) hX dX8_takeFence_52 rfl (dm_v hn hr) (get_svE hr) (ga_ix_of (j := 4) rfl (by decide) (by decide)) ?_
  refine g_iload (nx := 55) hX 5 dX8_takeFence_53 rfl rfl ?_
  refine g_i2l (nx := 56) hX dX8_takeFence_55 rfl ?_
  refine g_ladd (nx := 57) hX dX8_takeFence_56 rfl ?_
  refine g_lastore (nx := 58) hX dX8_takeFence_57 rfl (dm_v hn hr) (get_svE hr) (ga_ix_of (j := 4) rfl (by decide) (by decide)) ?_
  refine g_mem (put_svF hr) ?_
  refine g_aload_n (nx := 59) hX 2 dX8_takeFence_58 rfl rfl rfl ?_
  refine g_iconst (nx := 60) hX 5 dX8_takeFence_59 rfl (by decide) ?_
  refine g_dup2 (nx := 61) hX dX8_takeFence_60 rfl rfl rfl ?_
  refine g_laload (nx := 62) hX dX8_takeFence_61 rfl (dm_v hn hr) (get_svE hr) (ga_ix_of (j := 5) rfl (by decide) (by decide)) ?_
  refine g_iload_n (nx := 63) hX 3 dX8_takeFence_62 rfl rfl rfl ?_
  refine g_iconst (nx := 64) hX 1 dX8_takeFence_63 rfl (by decide) ?_
  refine g_icmp_lt (nx := 67) hX 71 dX8_takeFence_64 (by decide) rfl (fun h64 => ?_) (fun h64 => ?_)
  · have g5 : (0 : Int64) = lN (if 1 ≤ sn 0 k then 1 else 0) := by rw [if_neg (by have := (nI_ltI (b := 1) (by omega) (by omega)).mp h64; omega)]; rfl
    refine g_lconst (nx := 72) hX 0 dX8_takeFence_71 rfl (by decide) ?_
    refine g_ladd (nx := 73) hX dX8_takeFence_72 rfl ?_
    refine g_lastore (nx := 74) hX dX8_takeFence_73 rfl (dm_v hn hr) (get_svE hr) (ga_ix_of (j := 5) rfl (by decide) (by decide)) ?_
    refine g_mem (put_svF hr) ?_
    refine g_aload_n (nx := 75) hX 2 dX8_takeFence_74 rfl rfl rfl ?_
    refine g_bipush (nx := 77) hX 6 dX8_takeFence_75 rfl (by decide) ?_
    refine g_dup2 (nx := 78) hX dX8_takeFence_77 rfl rfl rfl ?_
    refine g_laload (nx := 79) hX dX8_takeFence_78 rfl (dm_v hn hr) (get_svE hr) (ga_ix_of (j := 6) rfl (by decide) (by decide)) ?_
    refine g_iload_n (nx := 80) hX 3 dX8_takeFence_79 rfl rfl rfl ?_
    refine g_iconst (nx := 81) hX 2 dX8_takeFence_80 rfl (by decide) ?_
    refine g_icmp_lt (nx := 84) hX 88 dX8_takeFence_81 (by decide) rfl (fun h81 => ?_) (fun h81 => ?_)
    · have g6 : (0 : Int64) = lN (if 2 ≤ sn 0 k then 1 else 0) := by rw [if_neg (by have := (nI_ltI (b := 2) (by omega) (by omega)).mp h81; omega)]; rfl
      refine g_lconst (nx := 89) hX 0 dX8_takeFence_88 rfl (by decide) ?_
      refine g_ladd (nx := 90) hX dX8_takeFence_89 rfl ?_
      refine g_lastore (nx := 91) hX dX8_takeFence_90 rfl (dm_v hn hr) (get_svE hr) (ga_ix_of (j := 6) rfl (by decide) (by decide)) ?_
      refine g_mem (put_svF hr) ?_
      refine g_aload_n (nx := 92) hX 2 dX8_takeFence_91 rfl rfl rfl ?_
      refine g_bipush (nx := 94) hX 7 dX8_takeFence_92 rfl (by decide) ?_
      refine g_dup2 (nx := 95) hX dX8_takeFence_94 rfl rfl rfl ?_
      refine g_laload (nx := 96) hX dX8_takeFence_95 rfl (dm_v hn hr) (get_svE hr) (ga_ix_of (j := 7) rfl (by decide) (by decide)) ?_
      refine g_iload_n (nx := 97) hX 3 dX8_takeFence_96 rfl rfl rfl ?_
      refine g_iconst (nx := 98) hX 3 dX8_takeFence_97 rfl (by decide) ?_
      refine g_icmp_lt (nx := 101) hX 105 dX8_takeFence_98 (by decide) rfl (fun h98 => ?_) (fun h98 => ?_)
      · have g7 : (0 : Int64) = lN (if 3 ≤ sn 0 k then 1 else 0) := by rw [if_neg (by have := (nI_ltI (b := 3) (by omega) (by omega)).mp h98; omega)]; rfl
        refine g_lconst (nx := 106) hX 0 dX8_takeFence_105 rfl (by decide) ?_
        refine g_ladd (nx := 107) hX dX8_takeFence_106 rfl ?_
        refine g_lastore (nx := 108) hX dX8_takeFence_107 rfl (dm_v hn hr) (get_svE hr) (ga_ix_of (j := 7) rfl (by decide) (by decide)) ?_
        refine g_mem (put_svF hr) ?_
        refine g_aload_n (nx := 109) hX 2 dX8_takeFence_108 rfl rfl rfl ?_
        refine g_bipush (nx := 111) hX 11 dX8_takeFence_109 rfl (by decide) ?_
        refine g_dup2 (nx := 112) hX dX8_takeFence_111 rfl rfl rfl ?_
        refine g_laload (nx := 113) hX dX8_takeFence_112 rfl (dm_v hn hr) (get_svE hr) (ga_ix_of (j := 11) rfl (by decide) (by decide)) ?_
        refine g_iload_n (nx := 114) hX 3 dX8_takeFence_113 rfl rfl rfl ?_
        refine g_iload (nx := 116) hX 4 dX8_takeFence_114 rfl rfl ?_
        refine g_iadd (nx := 117) hX dX8_takeFence_116 rfl ?_
        refine g_iload (nx := 119) hX 5 dX8_takeFence_117 rfl rfl ?_
        refine g_iadd (nx := 120) hX dX8_takeFence_119 rfl ?_
        refine g_iload (nx := 122) hX 6 dX8_takeFence_120 rfl rfl ?_
        refine g_iadd (nx := 123) hX dX8_takeFence_122 rfl ?_
        refine g_if_ne (nx := 126) hX 130 dX8_takeFence_123 (by decide) rfl (fun h123 => ?_) (fun h123 => ?_)
        · have g11 : (0 : Int64) = lN (if sn 0 k + sn 1 k + sn 2 k + sn 3 k = 0 then 1 else 0) := by rw [if_neg (fun q => h123 (by rw [hsum, q]; rfl))]; rfl
          refine g_lconst (nx := 131) hX 0 dX8_takeFence_130 rfl (by decide) ?_
          refine g_ladd (nx := 132) hX dX8_takeFence_131 rfl ?_
          refine g_lastore (nx := 133) hX dX8_takeFence_132 rfl (dm_v hn hr) (get_svE hr) (ga_ix_of (j := 11) rfl (by decide) (by decide)) ?_
          refine g_mem (put_svF hr) ?_
          exact g_return hX hP dX8_takeFence_133 (Nat.le_of_ble_eq_true rfl) (Nat.le_of_ble_eq_true rfl) ⟨rfl, by rw [← y_n_eq (by omega) (by omega) (by omega) g5 g6 g7 g11]; rfl⟩
        · have g11 : (1 : Int64) = lN (if sn 0 k + sn 1 k + sn 2 k + sn 3 k = 0 then 1 else 0) := by rw [if_pos (nI_inj (b := 0) (hsum.symm.trans h123) (by omega) (by omega))]; rfl
          refine g_lconst (nx := 127) hX 1 dX8_takeFence_126 rfl (by decide) ?_
          refine g_goto (nx := 131) hX dX8_takeFence_127 (by decide) ?_
          refine g_ladd (nx := 132) hX dX8_takeFence_131 rfl ?_
          refine g_lastore (nx := 133) hX dX8_takeFence_132 rfl (dm_v hn hr) (get_svE hr) (ga_ix_of (j := 11) rfl (by decide) (by decide)) ?_
          refine g_mem (put_svF hr) ?_
          exact g_return hX hP dX8_takeFence_133 (Nat.le_of_ble_eq_true rfl) (Nat.le_of_ble_eq_true rfl) ⟨rfl, by rw [← y_n_eq (by omega) (by omega) (by omega) g5 g6 g7 g11]; rfl⟩
      · have g7 : (1 : Int64) = lN (if 3 ≤ sn 0 k then 1 else 0) := by rw [if_pos (Nat.le_of_not_lt (fun q => h98 (nI_lt (b := 3) q (by omega))))]; rfl
        refine g_lconst (nx := 102) hX 1 dX8_takeFence_101 rfl (by decide) ?_
        refine g_goto (nx := 106) hX dX8_takeFence_102 (by decide) ?_
        refine g_ladd (nx := 107) hX dX8_takeFence_106 rfl ?_
        refine g_lastore (nx := 108) hX dX8_takeFence_107 rfl (dm_v hn hr) (get_svE hr) (ga_ix_of (j := 7) rfl (by decide) (by decide)) ?_
        refine g_mem (put_svF hr) ?_
        refine g_aload_n (nx := 109) hX 2 dX8_takeFence_108 rfl rfl rfl ?_
        refine g_bipush (nx := 111) hX 11 dX8_takeFence_109 rfl (by decide) ?_
        refine g_dup2 (nx := 112) hX dX8_takeFence_111 rfl rfl rfl ?_
        refine g_laload (nx := 113) hX dX8_takeFence_112 rfl (dm_v hn hr) (get_svE hr) (ga_ix_of (j := 11) rfl (by decide) (by decide)) ?_
        refine g_iload_n (nx := 114) hX 3 dX8_takeFence_113 rfl rfl rfl ?_
        refine g_iload (nx := 116) hX 4 dX8_takeFence_114 rfl rfl ?_
        refine g_iadd (nx := 117) hX dX8_takeFence_116 rfl ?_
        refine g_iload (nx := 119) hX 5 dX8_takeFence_117 rfl rfl ?_
        refine g_iadd (nx := 120) hX dX8_takeFence_119 rfl ?_
        refine g_iload (nx := 122) hX 6 dX8_takeFence_120 rfl rfl ?_
        refine g_iadd (nx := 123) hX dX8_takeFence_122 rfl ?_
        refine g_if_ne (nx := 126) hX 130 dX8_takeFence_123 (by decide) rfl (fun h123 => ?_) (fun h123 => ?_)
        · have g11 : (0 : Int64) = lN (if sn 0 k + sn 1 k + sn 2 k + sn 3 k = 0 then 1 else 0) := by rw [if_neg (fun q => h123 (by rw [hsum, q]; rfl))]; rfl
          refine g_lconst (nx := 131) hX 0 dX8_takeFence_130 rfl (by decide) ?_
          refine g_ladd (nx := 132) hX dX8_takeFence_131 rfl ?_
          refine g_lastore (nx := 133) hX dX8_takeFence_132 rfl (dm_v hn hr) (get_svE hr) (ga_ix_of (j := 11) rfl (by decide) (by decide)) ?_
          refine g_mem (put_svF hr) ?_
          exact g_return hX hP dX8_takeFence_133 (Nat.le_of_ble_eq_true rfl) (Nat.le_of_ble_eq_true rfl) ⟨rfl, by rw [← y_n_eq (by omega) (by omega) (by omega) g5 g6 g7 g11]; rfl⟩
        · have g11 : (1 : Int64) = lN (if sn 0 k + sn 1 k + sn 2 k + sn 3 k = 0 then 1 else 0) := by rw [if_pos (nI_inj (b := 0) (hsum.symm.trans h123) (by omega) (by omega))]; rfl
          refine g_lconst (nx := 127) hX 1 dX8_takeFence_126 rfl (by decide) ?_
          refine g_goto (nx := 131) hX dX8_takeFence_127 (by decide) ?_
          refine g_ladd (nx := 132) hX dX8_takeFence_131 rfl ?_
          refine g_lastore (nx := 133) hX dX8_takeFence_132 rfl (dm_v hn hr) (get_svE hr) (ga_ix_of (j := 11) rfl (by decide) (by decide)) ?_
          refine g_mem (put_svF hr) ?_
          exact g_return hX hP dX8_takeFence_133 (Nat.le_of_ble_eq_true rfl) (Nat.le_of_ble_eq_true rfl) ⟨rfl, by rw [← y_n_eq (by omega) (by omega) (by omega) g5 g6 g7 g11]; rfl⟩
    · have g6 : (1 : Int64) = lN (if 2 ≤ sn 0 k then 1 else 0) := by rw [if_pos (Nat.le_of_not_lt (fun q => h81 (nI_lt (b := 2) q (by omega))))]; rfl
      refine g_lconst (nx := 85) hX 1 dX8_takeFence_84 rfl (by decide) ?_
      refine g_goto (nx := 89) hX dX8_takeFence_85 (by decide) ?_
      refine g_ladd (nx := 90) hX dX8_takeFence_89 rfl ?_
      refine g_lastore (nx := 91) hX dX8_takeFence_90 rfl (dm_v hn hr) (get_svE hr) (ga_ix_of (j := 6) rfl (by decide) (by decide)) ?_
      refine g_mem (put_svF hr) ?_
      refine g_aload_n (nx := 92) hX 2 dX8_takeFence_91 rfl rfl rfl ?_
      refine g_bipush (nx := 94) hX 7 dX8_takeFence_92 rfl (by decide) ?_
      refine g_dup2 (nx := 95) hX dX8_takeFence_94 rfl rfl rfl ?_
      refine g_laload (nx := 96) hX dX8_takeFence_95 rfl (dm_v hn hr) (get_svE hr) (ga_ix_of (j := 7) rfl (by decide) (by decide)) ?_
      refine g_iload_n (nx := 97) hX 3 dX8_takeFence_96 rfl rfl rfl ?_
      refine g_iconst (nx := 98) hX 3 dX8_takeFence_97 rfl (by decide) ?_
      refine g_icmp_lt (nx := 101) hX 105 dX8_takeFence_98 (by decide) rfl (fun h98 => ?_) (fun h98 => ?_)
      · have g7 : (0 : Int64) = lN (if 3 ≤ sn 0 k then 1 else 0) := by rw [if_neg (by have := (nI_ltI (b := 3) (by omega) (by omega)).mp h98; omega)]; rfl
        refine g_lconst (nx := 106) hX 0 dX8_takeFence_105 rfl (by decide) ?_
        refine g_ladd (nx := 107) hX dX8_takeFence_106 rfl ?_
        refine g_lastore (nx := 108) hX dX8_takeFence_107 rfl (dm_v hn hr) (get_svE hr) (ga_ix_of (j := 7) rfl (by decide) (by decide)) ?_
        refine g_mem (put_svF hr) ?_
        refine g_aload_n (nx := 109) hX 2 dX8_takeFence_108 rfl rfl rfl ?_
        refine g_bipush (nx := 111) hX 11 dX8_takeFence_109 rfl (by decide) ?_
        refine g_dup2 (nx := 112) hX dX8_takeFence_111 rfl rfl rfl ?_
        refine g_laload (nx := 113) hX dX8_takeFence_112 rfl (dm_v hn hr) (get_svE hr) (ga_ix_of (j := 11) rfl (by decide) (by decide)) ?_
        refine g_iload_n (nx := 114) hX 3 dX8_takeFence_113 rfl rfl rfl ?_
        refine g_iload (nx := 116) hX 4 dX8_takeFence_114 rfl rfl ?_
        refine g_iadd (nx := 117) hX dX8_takeFence_116 rfl ?_
        refine g_iload (nx := 119) hX 5 dX8_takeFence_117 rfl rfl ?_
        refine g_iadd (nx := 120) hX dX8_takeFence_119 rfl ?_
        refine g_iload (nx := 122) hX 6 dX8_takeFence_120 rfl rfl ?_
        refine g_iadd (nx := 123) hX dX8_takeFence_122 rfl ?_
        refine g_if_ne (nx := 126) hX 130 dX8_takeFence_123 (by decide) rfl (fun h123 => ?_) (fun h123 => ?_)
        · have g11 : (0 : Int64) = lN (if sn 0 k + sn 1 k + sn 2 k + sn 3 k = 0 then 1 else 0) := by rw [if_neg (fun q => h123 (by rw [hsum, q]; rfl))]; rfl
          refine g_lconst (nx := 131) hX 0 dX8_takeFence_130 rfl (by decide) ?_
          refine g_ladd (nx := 132) hX dX8_takeFence_131 rfl ?_
          refine g_lastore (nx := 133) hX dX8_takeFence_132 rfl (dm_v hn hr) (get_svE hr) (ga_ix_of (j := 11) rfl (by decide) (by decide)) ?_
          refine g_mem (put_svF hr) ?_
          exact g_return hX hP dX8_takeFence_133 (Nat.le_of_ble_eq_true rfl) (Nat.le_of_ble_eq_true rfl) ⟨rfl, by rw [← y_n_eq (by omega) (by omega) (by omega) g5 g6 g7 g11]; rfl⟩
        · have g11 : (1 : Int64) = lN (if sn 0 k + sn 1 k + sn 2 k + sn 3 k = 0 then 1 else 0) := by rw [if_pos (nI_inj (b := 0) (hsum.symm.trans h123) (by omega) (by omega))]; rfl
          refine g_lconst (nx := 127) hX 1 dX8_takeFence_126 rfl (by decide) ?_
          refine g_goto (nx := 131) hX dX8_takeFence_127 (by decide) ?_
          refine g_ladd (nx := 132) hX dX8_takeFence_131 rfl ?_
          refine g_lastore (nx := 133) hX dX8_takeFence_132 rfl (dm_v hn hr) (get_svE hr) (ga_ix_of (j := 11) rfl (by decide) (by decide)) ?_
          refine g_mem (put_svF hr) ?_
          exact g_return hX hP dX8_takeFence_133 (Nat.le_of_ble_eq_true rfl) (Nat.le_of_ble_eq_true rfl) ⟨rfl, by rw [← y_n_eq (by omega) (by omega) (by omega) g5 g6 g7 g11]; rfl⟩
      · have g7 : (1 : Int64) = lN (if 3 ≤ sn 0 k then 1 else 0) := by rw [if_pos (Nat.le_of_not_lt (fun q => h98 (nI_lt (b := 3) q (by omega))))]; rfl
        refine g_lconst (nx := 102) hX 1 dX8_takeFence_101 rfl (by decide) ?_
        refine g_goto (nx := 106) hX dX8_takeFence_102 (by decide) ?_
        refine g_ladd (nx := 107) hX dX8_takeFence_106 rfl ?_
        refine g_lastore (nx := 108) hX dX8_takeFence_107 rfl (dm_v hn hr) (get_svE hr) (ga_ix_of (j := 7) rfl (by decide) (by decide)) ?_
        refine g_mem (put_svF hr) ?_
        refine g_aload_n (nx := 109) hX 2 dX8_takeFence_108 rfl rfl rfl ?_
        refine g_bipush (nx := 111) hX 11 dX8_takeFence_109 rfl (by decide) ?_
        refine g_dup2 (nx := 112) hX dX8_takeFence_111 rfl rfl rfl ?_
        refine g_laload (nx := 113) hX dX8_takeFence_112 rfl (dm_v hn hr) (get_svE hr) (ga_ix_of (j := 11) rfl (by decide) (by decide)) ?_
        refine g_iload_n (nx := 114) hX 3 dX8_takeFence_113 rfl rfl rfl ?_
        refine g_iload (nx := 116) hX 4 dX8_takeFence_114 rfl rfl ?_
        refine g_iadd (nx := 117) hX dX8_takeFence_116 rfl ?_
        refine g_iload (nx := 119) hX 5 dX8_takeFence_117 rfl rfl ?_
        refine g_iadd (nx := 120) hX dX8_takeFence_119 rfl ?_
        refine g_iload (nx := 122) hX 6 dX8_takeFence_120 rfl rfl ?_
        refine g_iadd (nx := 123) hX dX8_takeFence_122 rfl ?_
        refine g_if_ne (nx := 126) hX 130 dX8_takeFence_123 (by decide) rfl (fun h123 => ?_) (fun h123 => ?_)
        · have g11 : (0 : Int64) = lN (if sn 0 k + sn 1 k + sn 2 k + sn 3 k = 0 then 1 else 0) := by rw [if_neg (fun q => h123 (by rw [hsum, q]; rfl))]; rfl
          refine g_lconst (nx := 131) hX 0 dX8_takeFence_130 rfl (by decide) ?_
          refine g_ladd (nx := 132) hX dX8_takeFence_131 rfl ?_
          refine g_lastore (nx := 133) hX dX8_takeFence_132 rfl (dm_v hn hr) (get_svE hr) (ga_ix_of (j := 11) rfl (by decide) (by decide)) ?_
          refine g_mem (put_svF hr) ?_
          exact g_return hX hP dX8_takeFence_133 (Nat.le_of_ble_eq_true rfl) (Nat.le_of_ble_eq_true rfl) ⟨rfl, by rw [← y_n_eq (by omega) (by omega) (by omega) g5 g6 g7 g11]; rfl⟩
        · have g11 : (1 : Int64) = lN (if sn 0 k + sn 1 k + sn 2 k + sn 3 k = 0 then 1 else 0) := by rw [if_pos (nI_inj (b := 0) (hsum.symm.trans h123) (by omega) (by omega))]; rfl
          refine g_lconst (nx := 127) hX 1 dX8_takeFence_126 rfl (by decide) ?_
          refine g_goto (nx := 131) hX dX8_takeFence_127 (by decide) ?_
          refine g_ladd (nx := 132) hX dX8_takeFence_131 rfl ?_
          refine g_lastore (nx := 133) hX dX8_takeFence_132 rfl (dm_v hn hr) (get_svE hr) (ga_ix_of (j := 11) rfl (by decide) (by decide)) ?_
          refine g_mem (put_svF hr) ?_
          exact g_return hX hP dX8_takeFence_133 (Nat.le_of_ble_eq_true rfl) (Nat.le_of_ble_eq_true rfl) ⟨rfl, by rw [← y_n_eq (by omega) (by omega) (by omega) g5 g6 g7 g11]; rfl⟩
  · have g5 : (1 : Int64) = lN (if 1 ≤ sn 0 k then 1 else 0) := by rw [if_pos (Nat.le_of_not_lt (fun q => h64 (nI_lt (b := 1) q (by omega))))]; rfl
    refine g_lconst (nx := 68) hX 1 dX8_takeFence_67 rfl (by decide) ?_
    refine g_goto (nx := 72) hX dX8_takeFence_68 (by decide) ?_
    refine g_ladd (nx := 73) hX dX8_takeFence_72 rfl ?_
    refine g_lastore (nx := 74) hX dX8_takeFence_73 rfl (dm_v hn hr) (get_svE hr) (ga_ix_of (j := 5) rfl (by decide) (by decide)) ?_
    refine g_mem (put_svF hr) ?_
    refine g_aload_n (nx := 75) hX 2 dX8_takeFence_74 rfl rfl rfl ?_
    refine g_bipush (nx := 77) hX 6 dX8_takeFence_75 rfl (by decide) ?_
    refine g_dup2 (nx := 78) hX dX8_takeFence_77 rfl rfl rfl ?_
    refine g_laload (nx := 79) hX dX8_takeFence_78 rfl (dm_v hn hr) (get_svE hr) (ga_ix_of (j := 6) rfl (by decide) (by decide)) ?_
    refine g_iload_n (nx := 80) hX 3 dX8_takeFence_79 rfl rfl rfl ?_
    refine g_iconst (nx := 81) hX 2 dX8_takeFence_80 rfl (by decide) ?_
    refine g_icmp_lt (nx := 84) hX 88 dX8_takeFence_81 (by decide) rfl (fun h81 => ?_) (fun h81 => ?_)
    · have g6 : (0 : Int64) = lN (if 2 ≤ sn 0 k then 1 else 0) := by rw [if_neg (by have := (nI_ltI (b := 2) (by omega) (by omega)).mp h81; omega)]; rfl
      refine g_lconst (nx := 89) hX 0 dX8_takeFence_88 rfl (by decide) ?_
      refine g_ladd (nx := 90) hX dX8_takeFence_89 rfl ?_
      refine g_lastore (nx := 91) hX dX8_takeFence_90 rfl (dm_v hn hr) (get_svE hr) (ga_ix_of (j := 6) rfl (by decide) (by decide)) ?_
      refine g_mem (put_svF hr) ?_
      refine g_aload_n (nx := 92) hX 2 dX8_takeFence_91 rfl rfl rfl ?_
      refine g_bipush (nx := 94) hX 7 dX8_takeFence_92 rfl (by decide) ?_
      refine g_dup2 (nx := 95) hX dX8_takeFence_94 rfl rfl rfl ?_
      refine g_laload (nx := 96) hX dX8_takeFence_95 rfl (dm_v hn hr) (get_svE hr) (ga_ix_of (j := 7) rfl (by decide) (by decide)) ?_
      refine g_iload_n (nx := 97) hX 3 dX8_takeFence_96 rfl rfl rfl ?_
      refine g_iconst (nx := 98) hX 3 dX8_takeFence_97 rfl (by decide) ?_
      refine g_icmp_lt (nx := 101) hX 105 dX8_takeFence_98 (by decide) rfl (fun h98 => ?_) (fun h98 => ?_)
      · have g7 : (0 : Int64) = lN (if 3 ≤ sn 0 k then 1 else 0) := by rw [if_neg (by have := (nI_ltI (b := 3) (by omega) (by omega)).mp h98; omega)]; rfl
        refine g_lconst (nx := 106) hX 0 dX8_takeFence_105 rfl (by decide) ?_
        refine g_ladd (nx := 107) hX dX8_takeFence_106 rfl ?_
        refine g_lastore (nx := 108) hX dX8_takeFence_107 rfl (dm_v hn hr) (get_svE hr) (ga_ix_of (j := 7) rfl (by decide) (by decide)) ?_
        refine g_mem (put_svF hr) ?_
        refine g_aload_n (nx := 109) hX 2 dX8_takeFence_108 rfl rfl rfl ?_
        refine g_bipush (nx := 111) hX 11 dX8_takeFence_109 rfl (by decide) ?_
        refine g_dup2 (nx := 112) hX dX8_takeFence_111 rfl rfl rfl ?_
        refine g_laload (nx := 113) hX dX8_takeFence_112 rfl (dm_v hn hr) (get_svE hr) (ga_ix_of (j := 11) rfl (by decide) (by decide)) ?_
        refine g_iload_n (nx := 114) hX 3 dX8_takeFence_113 rfl rfl rfl ?_
        refine g_iload (nx := 116) hX 4 dX8_takeFence_114 rfl rfl ?_
        refine g_iadd (nx := 117) hX dX8_takeFence_116 rfl ?_
        refine g_iload (nx := 119) hX 5 dX8_takeFence_117 rfl rfl ?_
        refine g_iadd (nx := 120) hX dX8_takeFence_119 rfl ?_
        refine g_iload (nx := 122) hX 6 dX8_takeFence_120 rfl rfl ?_
        refine g_iadd (nx := 123) hX dX8_takeFence_122 rfl ?_
        refine g_if_ne (nx := 126) hX 130 dX8_takeFence_123 (by decide) rfl (fun h123 => ?_) (fun h123 => ?_)
        · have g11 : (0 : Int64) = lN (if sn 0 k + sn 1 k + sn 2 k + sn 3 k = 0 then 1 else 0) := by rw [if_neg (fun q => h123 (by rw [hsum, q]; rfl))]; rfl
          refine g_lconst (nx := 131) hX 0 dX8_takeFence_130 rfl (by decide) ?_
          refine g_ladd (nx := 132) hX dX8_takeFence_131 rfl ?_
          refine g_lastore (nx := 133) hX dX8_takeFence_132 rfl (dm_v hn hr) (get_svE hr) (ga_ix_of (j := 11) rfl (by decide) (by decide)) ?_
          refine g_mem (put_svF hr) ?_
          exact g_return hX hP dX8_takeFence_133 (Nat.le_of_ble_eq_true rfl) (Nat.le_of_ble_eq_true rfl) ⟨rfl, by rw [← y_n_eq (by omega) (by omega) (by omega) g5 g6 g7 g11]; rfl⟩
        · have g11 : (1 : Int64) = lN (if sn 0 k + sn 1 k + sn 2 k + sn 3 k = 0 then 1 else 0) := by rw [if_pos (nI_inj (b := 0) (hsum.symm.trans h123) (by omega) (by omega))]; rfl
          refine g_lconst (nx := 127) hX 1 dX8_takeFence_126 rfl (by decide) ?_
          refine g_goto (nx := 131) hX dX8_takeFence_127 (by decide) ?_
          refine g_ladd (nx := 132) hX dX8_takeFence_131 rfl ?_
          refine g_lastore (nx := 133) hX dX8_takeFence_132 rfl (dm_v hn hr) (get_svE hr) (ga_ix_of (j := 11) rfl (by decide) (by decide)) ?_
          refine g_mem (put_svF hr) ?_
          exact g_return hX hP dX8_takeFence_133 (Nat.le_of_ble_eq_true rfl) (Nat.le_of_ble_eq_true rfl) ⟨rfl, by rw [← y_n_eq (by omega) (by omega) (by omega) g5 g6 g7 g11]; rfl⟩
      · have g7 : (1 : Int64) = lN (if 3 ≤ sn 0 k then 1 else 0) := by rw [if_pos (Nat.le_of_not_lt (fun q => h98 (nI_lt (b := 3) q (by omega))))]; rfl
        refine g_lconst (nx := 102) hX 1 dX8_takeFence_101 rfl (by decide) ?_
        refine g_goto (nx := 106) hX dX8_takeFence_102 (by decide) ?_
        refine g_ladd (nx := 107) hX dX8_takeFence_106 rfl ?_
        refine g_lastore (nx := 108) hX dX8_takeFence_107 rfl (dm_v hn hr) (get_svE hr) (ga_ix_of (j := 7) rfl (by decide) (by decide)) ?_
        refine g_mem (put_svF hr) ?_
        refine g_aload_n (nx := 109) hX 2 dX8_takeFence_108 rfl rfl rfl ?_
        refine g_bipush (nx := 111) hX 11 dX8_takeFence_109 rfl (by decide) ?_
        refine g_dup2 (nx := 112) hX dX8_takeFence_111 rfl rfl rfl ?_
        refine g_laload (nx := 113) hX dX8_takeFence_112 rfl (dm_v hn hr) (get_svE hr) (ga_ix_of (j := 11) rfl (by decide) (by decide)) ?_
        refine g_iload_n (nx := 114) hX 3 dX8_takeFence_113 rfl rfl rfl ?_
        refine g_iload (nx := 116) hX 4 dX8_takeFence_114 rfl rfl ?_
        refine g_iadd (nx := 117) hX dX8_takeFence_116 rfl ?_
        refine g_iload (nx := 119) hX 5 dX8_takeFence_117 rfl rfl ?_
        refine g_iadd (nx := 120) hX dX8_takeFence_119 rfl ?_
        refine g_iload (nx := 122) hX 6 dX8_takeFence_120 rfl rfl ?_
        refine g_iadd (nx := 123) hX dX8_takeFence_122 rfl ?_
        refine g_if_ne (nx := 126) hX 130 dX8_takeFence_123 (by decide) rfl (fun h123 => ?_) (fun h123 => ?_)
        · have g11 : (0 : Int64) = lN (if sn 0 k + sn 1 k + sn 2 k + sn 3 k = 0 then 1 else 0) := by rw [if_neg (fun q => h123 (by rw [hsum, q]; rfl))]; rfl
          refine g_lconst (nx := 131) hX 0 dX8_takeFence_130 rfl (by decide) ?_
          refine g_ladd (nx := 132) hX dX8_takeFence_131 rfl ?_
          refine g_lastore (nx := 133) hX dX8_takeFence_132 rfl (dm_v hn hr) (get_svE hr) (ga_ix_of (j := 11) rfl (by decide) (by decide)) ?_
          refine g_mem (put_svF hr) ?_
          exact g_return hX hP dX8_takeFence_133 (Nat.le_of_ble_eq_true rfl) (Nat.le_of_ble_eq_true rfl) ⟨rfl, by rw [← y_n_eq (by omega) (by omega) (by omega) g5 g6 g7 g11]; rfl⟩
        · have g11 : (1 : Int64) = lN (if sn 0 k + sn 1 k + sn 2 k + sn 3 k = 0 then 1 else 0) := by rw [if_pos (nI_inj (b := 0) (hsum.symm.trans h123) (by omega) (by omega))]; rfl
          refine g_lconst (nx := 127) hX 1 dX8_takeFence_126 rfl (by decide) ?_
          refine g_goto (nx := 131) hX dX8_takeFence_127 (by decide) ?_
          refine g_ladd (nx := 132) hX dX8_takeFence_131 rfl ?_
          refine g_lastore (nx := 133) hX dX8_takeFence_132 rfl (dm_v hn hr) (get_svE hr) (ga_ix_of (j := 11) rfl (by decide) (by decide)) ?_
          refine g_mem (put_svF hr) ?_
          exact g_return hX hP dX8_takeFence_133 (Nat.le_of_ble_eq_true rfl) (Nat.le_of_ble_eq_true rfl) ⟨rfl, by rw [← y_n_eq (by omega) (by omega) (by omega) g5 g6 g7 g11]; rfl⟩
    · have g6 : (1 : Int64) = lN (if 2 ≤ sn 0 k then 1 else 0) := by rw [if_pos (Nat.le_of_not_lt (fun q => h81 (nI_lt (b := 2) q (by omega))))]; rfl
      refine g_lconst (nx := 85) hX 1 dX8_takeFence_84 rfl (by decide) ?_
      refine g_goto (nx := 89) hX dX8_takeFence_85 (by decide) ?_
      refine g_ladd (nx := 90) hX dX8_takeFence_89 rfl ?_
      refine g_lastore (nx := 91) hX dX8_takeFence_90 rfl (dm_v hn hr) (get_svE hr) (ga_ix_of (j := 6) rfl (by decide) (by decide)) ?_
      refine g_mem (put_svF hr) ?_
      refine g_aload_n (nx := 92) hX 2 dX8_takeFence_91 rfl rfl rfl ?_
      refine g_bipush (nx := 94) hX 7 dX8_takeFence_92 rfl (by decide) ?_
      refine g_dup2 (nx := 95) hX dX8_takeFence_94 rfl rfl rfl ?_
      refine g_laload (nx := 96) hX dX8_takeFence_95 rfl (dm_v hn hr) (get_svE hr) (ga_ix_of (j := 7) rfl (by decide) (by decide)) ?_
      refine g_iload_n (nx := 97) hX 3 dX8_takeFence_96 rfl rfl rfl ?_
      refine g_iconst (nx := 98) hX 3 dX8_takeFence_97 rfl (by decide) ?_
      refine g_icmp_lt (nx := 101) hX 105 dX8_takeFence_98 (by decide) rfl (fun h98 => ?_) (fun h98 => ?_)
      · have g7 : (0 : Int64) = lN (if 3 ≤ sn 0 k then 1 else 0) := by rw [if_neg (by have := (nI_ltI (b := 3) (by omega) (by omega)).mp h98; omega)]; rfl
        refine g_lconst (nx := 106) hX 0 dX8_takeFence_105 rfl (by decide) ?_
        refine g_ladd (nx := 107) hX dX8_takeFence_106 rfl ?_
        refine g_lastore (nx := 108) hX dX8_takeFence_107 rfl (dm_v hn hr) (get_svE hr) (ga_ix_of (j := 7) rfl (by decide) (by decide)) ?_
        refine g_mem (put_svF hr) ?_
        refine g_aload_n (nx := 109) hX 2 dX8_takeFence_108 rfl rfl rfl ?_
        refine g_bipush (nx := 111) hX 11 dX8_takeFence_109 rfl (by decide) ?_
        refine g_dup2 (nx := 112) hX dX8_takeFence_111 rfl rfl rfl ?_
        refine g_laload (nx := 113) hX dX8_takeFence_112 rfl (dm_v hn hr) (get_svE hr) (ga_ix_of (j := 11) rfl (by decide) (by decide)) ?_
        refine g_iload_n (nx := 114) hX 3 dX8_takeFence_113 rfl rfl rfl ?_
        refine g_iload (nx := 116) hX 4 dX8_takeFence_114 rfl rfl ?_
        refine g_iadd (nx := 117) hX dX8_takeFence_116 rfl ?_
        refine g_iload (nx := 119) hX 5 dX8_takeFence_117 rfl rfl ?_
        refine g_iadd (nx := 120) hX dX8_takeFence_119 rfl ?_
        refine g_iload (nx := 122) hX 6 dX8_takeFence_120 rfl rfl ?_
        refine g_iadd (nx := 123) hX dX8_takeFence_122 rfl ?_
        refine g_if_ne (nx := 126) hX 130 dX8_takeFence_123 (by decide) rfl (fun h123 => ?_) (fun h123 => ?_)
        · have g11 : (0 : Int64) = lN (if sn 0 k + sn 1 k + sn 2 k + sn 3 k = 0 then 1 else 0) := by rw [if_neg (fun q => h123 (by rw [hsum, q]; rfl))]; rfl
          refine g_lconst (nx := 131) hX 0 dX8_takeFence_130 rfl (by decide) ?_
          refine g_ladd (nx := 132) hX dX8_takeFence_131 rfl ?_
          refine g_lastore (nx := 133) hX dX8_takeFence_132 rfl (dm_v hn hr) (get_svE hr) (ga_ix_of (j := 11) rfl (by decide) (by decide)) ?_
          refine g_mem (put_svF hr) ?_
          exact g_return hX hP dX8_takeFence_133 (Nat.le_of_ble_eq_true rfl) (Nat.le_of_ble_eq_true rfl) ⟨rfl, by rw [← y_n_eq (by omega) (by omega) (by omega) g5 g6 g7 g11]; rfl⟩
        · have g11 : (1 : Int64) = lN (if sn 0 k + sn 1 k + sn 2 k + sn 3 k = 0 then 1 else 0) := by rw [if_pos (nI_inj (b := 0) (hsum.symm.trans h123) (by omega) (by omega))]; rfl
          refine g_lconst (nx := 127) hX 1 dX8_takeFence_126 rfl (by decide) ?_
          refine g_goto (nx := 131) hX dX8_takeFence_127 (by decide) ?_
          refine g_ladd (nx := 132) hX dX8_takeFence_131 rfl ?_
          refine g_lastore (nx := 133) hX dX8_takeFence_132 rfl (dm_v hn hr) (get_svE hr) (ga_ix_of (j := 11) rfl (by decide) (by decide)) ?_
          refine g_mem (put_svF hr) ?_
          exact g_return hX hP dX8_takeFence_133 (Nat.le_of_ble_eq_true rfl) (Nat.le_of_ble_eq_true rfl) ⟨rfl, by rw [← y_n_eq (by omega) (by omega) (by omega) g5 g6 g7 g11]; rfl⟩
      · have g7 : (1 : Int64) = lN (if 3 ≤ sn 0 k then 1 else 0) := by rw [if_pos (Nat.le_of_not_lt (fun q => h98 (nI_lt (b := 3) q (by omega))))]; rfl
        refine g_lconst (nx := 102) hX 1 dX8_takeFence_101 rfl (by decide) ?_
        refine g_goto (nx := 106) hX dX8_takeFence_102 (by decide) ?_
        refine g_ladd (nx := 107) hX dX8_takeFence_106 rfl ?_
        refine g_lastore (nx := 108) hX dX8_takeFence_107 rfl (dm_v hn hr) (get_svE hr) (ga_ix_of (j := 7) rfl (by decide) (by decide)) ?_
        refine g_mem (put_svF hr) ?_
        refine g_aload_n (nx := 109) hX 2 dX8_takeFence_108 rfl rfl rfl ?_
        refine g_bipush (nx := 111) hX 11 dX8_takeFence_109 rfl (by decide) ?_
        refine g_dup2 (nx := 112) hX dX8_takeFence_111 rfl rfl rfl ?_
        refine g_laload (nx := 113) hX dX8_takeFence_112 rfl (dm_v hn hr) (get_svE hr) (ga_ix_of (j := 11) rfl (by decide) (by decide)) ?_
        refine g_iload_n (nx := 114) hX 3 dX8_takeFence_113 rfl rfl rfl ?_
        refine g_iload (nx := 116) hX 4 dX8_takeFence_114 rfl rfl ?_
        refine g_iadd (nx := 117) hX dX8_takeFence_116 rfl ?_
        refine g_iload (nx := 119) hX 5 dX8_takeFence_117 rfl rfl ?_
        refine g_iadd (nx := 120) hX dX8_takeFence_119 rfl ?_
        refine g_iload (nx := 122) hX 6 dX8_takeFence_120 rfl rfl ?_
        refine g_iadd (nx := 123) hX dX8_takeFence_122 rfl ?_
        refine g_if_ne (nx := 126) hX 130 dX8_takeFence_123 (by decide) rfl (fun h123 => ?_) (fun h123 => ?_)
        · have g11 : (0 : Int64) = lN (if sn 0 k + sn 1 k + sn 2 k + sn 3 k = 0 then 1 else 0) := by rw [if_neg (fun q => h123 (by rw [hsum, q]; rfl))]; rfl
          refine g_lconst (nx := 131) hX 0 dX8_takeFence_130 rfl (by decide) ?_
          refine g_ladd (nx := 132) hX dX8_takeFence_131 rfl ?_
          refine g_lastore (nx := 133) hX dX8_takeFence_132 rfl (dm_v hn hr) (get_svE hr) (ga_ix_of (j := 11) rfl (by decide) (by decide)) ?_
          refine g_mem (put_svF hr) ?_
          exact g_return hX hP dX8_takeFence_133 (Nat.le_of_ble_eq_true rfl) (Nat.le_of_ble_eq_true rfl) ⟨rfl, by rw [← y_n_eq (by omega) (by omega) (by omega) g5 g6 g7 g11]; rfl⟩
        · have g11 : (1 : Int64) = lN (if sn 0 k + sn 1 k + sn 2 k + sn 3 k = 0 then 1 else 0) := by rw [if_pos (nI_inj (b := 0) (hsum.symm.trans h123) (by omega) (by omega))]; rfl
          refine g_lconst (nx := 127) hX 1 dX8_takeFence_126 rfl (by decide) ?_
          refine g_goto (nx := 131) hX dX8_takeFence_127 (by decide) ?_
          refine g_ladd (nx := 132) hX dX8_takeFence_131 rfl ?_
          refine g_lastore (nx := 133) hX dX8_takeFence_132 rfl (dm_v hn hr) (get_svE hr) (ga_ix_of (j := 11) rfl (by decide) (by decide)) ?_
          refine g_mem (put_svF hr) ?_
          exact g_return hX hP dX8_takeFence_133 (Nat.le_of_ble_eq_true rfl) (Nat.le_of_ble_eq_true rfl) ⟨rfl, by rw [← y_n_eq (by omega) (by omega) (by omega) g5 g6 g7 g11]; rfl⟩
theorem fi_zero {d mc ms : Nat} {q1 : Nat} {q2 q3 : Int32} (hX : ga_B E d yX8_fill cX8_fill 5 mc ms X) (hn : 106 ≤ n)
    (kont : ga_G E X 0 0 36 [some (.ref 29), some (.ref q1), some (.int q2), some (.int q3), none] [] (n, (c0 :: c1 :: c2 :: c3 :: c4 :: c5 :: c6 :: c7 :: c8 :: c9 :: c10 :: c11 :: c12 :: c13 :: c14 :: c15 :: c16 :: c17 :: c18 :: c19 :: c20 :: c21 :: c22 :: c23 :: c24 :: c25 :: c26 :: c27 :: c28 :: k_Y hd :: ga_i 120 (fun _ => 0) :: []), L2, f)) :
    ∀ (m k : Nat) (se : Nat → Int32), k ≤ 120 → 120 - k ≤ m → (∀ j, j < k → se j = 0) → ga_G E X 0 0 12 [some (.ref 29), some (.ref q1), some (.int q2), some (.int q3), some (.int (nI k))] [] (n, (c0 :: c1 :: c2 :: c3 :: c4 :: c5 :: c6 :: c7 :: c8 :: c9 :: c10 :: c11 :: c12 :: c13 :: c14 :: c15 :: c16 :: c17 :: c18 :: c19 :: c20 :: c21 :: c22 :: c23 :: c24 :: c25 :: c26 :: c27 :: c28 :: k_Y hd :: ga_i 120 se :: []), L2, f) := by
  intro m
  induction m with
  | zero =>
    intro k se h1 h2 h3
    have e : k = 120 := by omega
    subst e
    refine g_iload (nx := 14) hX 4 dX8_fill_12 rfl rfl ?_
    refine g_aload_n (nx := 15) hX 0 dX8_fill_14 rfl rfl rfl ?_
    refine g_getfield (nx := 18) hX dX8_fill_15 rfl fX8_13 (ga_dn hn rfl) rfl rfl ?_
    refine g_arraylength (nx := 19) hX dX8_fill_18 rfl (ga_dn hn rfl) rfl ?_
    refine g_icmp_ge (nx := 22) hX 36 dX8_fill_19 (by decide) rfl (fun h19 => ?_) (fun h19 => ?_)
    · refine g_exti (a := 30) (f' := fun _ => 0) hX (ga_dn hn rfl) rfl (fun j hj => h3 j hj) ?_
      exact g_ls kont ⟨rfl, rfl, rfl, rfl, trivial⟩
    · exact absurd (show (nI 120 : Int32) ≤ nI 120 by decide) h19
  | succ m ih =>
    intro k se h1 h2 h3
    refine g_iload (nx := 14) hX 4 dX8_fill_12 rfl rfl ?_
    refine g_aload_n (nx := 15) hX 0 dX8_fill_14 rfl rfl rfl ?_
    refine g_getfield (nx := 18) hX dX8_fill_15 rfl fX8_13 (ga_dn hn rfl) rfl rfl ?_
    refine g_arraylength (nx := 19) hX dX8_fill_18 rfl (ga_dn hn rfl) rfl ?_
    refine g_icmp_ge (nx := 22) hX 36 dX8_fill_19 (by decide) rfl (fun h19 => ?_) (fun h19 => ?_)
    · have e : k = 120 := by have := (nI_leI (a := 120) (b := k) (by omega) (by omega)).mp h19; omega
      subst e
      refine g_exti (a := 30) (f' := fun _ => 0) hX (ga_dn hn rfl) rfl (fun j hj => h3 j hj) ?_
      exact g_ls kont ⟨rfl, rfl, rfl, rfl, trivial⟩
    · have hlt : k < 120 := Nat.lt_of_not_le (fun q => h19 ((nI_leI (a := 120) (b := k) (by omega) (by omega)).mpr q))
      refine g_aload_n (nx := 23) hX 0 dX8_fill_22 rfl rfl rfl ?_
      refine g_getfield (nx := 26) hX dX8_fill_23 rfl fX8_13 (ga_dn hn rfl) rfl rfl ?_
      refine g_iload (nx := 28) hX 4 dX8_fill_26 rfl rfl ?_
      refine g_iconst (nx := 29) hX 0 dX8_fill_28 rfl (by decide) ?_
      refine g_iastore (nx := 30) hX dX8_fill_29 rfl (ga_dn hn rfl) rfl (ga_ix_of rfl (by omega) (by omega)) ?_
      refine g_iinc (nx := 33) hX 4 (nI (k + 1)) dX8_fill_30 rfl rfl rfl (nI_1 k) ?_
      refine g_goto (nx := 12) hX dX8_fill_33 (by decide) ?_
      exact ih (k + 1) (upd se k 0) (by omega) (by omega) (fun j hj => by
        by_cases e : j = k
        · rw [e, pk_us]
        · rw [pk_un e]; exact h3 j (by omega))
theorem fi_acts {t : Nat} {a1 a6 a7 : Int32} {u : Int64} {A : w_A} {d mc ms : Nat} (hX : ga_B E d yX8_fill cX8_fill 5 mc ms X) (hd2 : 4 ≤ d) (hr : r < 24) (ha : an ≤ 400) (ht : t ≤ an) (hA : a_ok A av an)
    (kont : ∀ T, T = y_at A ah r t an → ga_G E X 0 0 77 [some (.ref 29), some (.ref (2 * r + 31)), some (.int (nI r)), some (.int (nI t)), none] [] (an + 106, (c0 :: c1 :: c2 :: c3 :: c4 :: c5 :: k_C fm em sp fn op :: ga_i 32 ah :: c8 :: k_L an :: c10 :: c11 :: c12 :: c13 :: c14 :: c15 :: c16 :: c17 :: c18 :: c19 :: c20 :: c21 :: c22 :: c23 :: c24 :: c25 :: c26 :: c27 :: c28 :: k_Y T.2.2.2.2.2.2.2.1 :: ga_i 120 (y_se T.2.2.2.2.2.2.2.2) :: []), L2, sh_f (va_up sv r (y_sh a1 a6 a7 u T)) (a_f av))) :
    ∀ (m k : Nat) (p : Option Nat) (T : y_T), k ≤ an → an - k ≤ m → a_ch A an r k p → T = y_at A ah r t k → ga_G E X 0 0 46 [some (.ref 29), some (.ref (2 * r + 31)), some (.int (nI r)), some (.int (nI t)), some (ga_rf p)] [] (an + 106, (c0 :: c1 :: c2 :: c3 :: c4 :: c5 :: k_C fm em sp fn op :: ga_i 32 ah :: c8 :: k_L an :: c10 :: c11 :: c12 :: c13 :: c14 :: c15 :: c16 :: c17 :: c18 :: c19 :: c20 :: c21 :: c22 :: c23 :: c24 :: c25 :: c26 :: c27 :: c28 :: k_Y T.2.2.2.2.2.2.2.1 :: ga_i 120 (y_se T.2.2.2.2.2.2.2.2) :: []), L2, sh_f (va_up sv r (y_sh a1 a6 a7 u T)) (a_f av)) := by
  have hn : 106 ≤ an + 106 := by omega
  intro m
  induction m with
  | zero =>
    intro k p T h1 h2 hp hT
    have e : k = an := by omega
    subst e
    cases p with
    | some q => obtain ⟨j, h3, h4, _⟩ := hp; omega
    | none =>
      refine g_aloadN (nx := 48) hX 4 dX8_fill_46 rfl rfl ?_
      refine g_ifnullN hX 77 dX8_fill_48 (by decide) ?_
      exact g_ls (kont T hT) ⟨rfl, rfl, rfl, rfl, trivial⟩
  | succ m ih =>
    intro k p T h1 h2 hp hT
    cases p with
    | none =>
      have hT2 : T = y_at A ah r t an := hT.trans (y_at_keep h1 (fun i hi1 hi2 => hp i hi1 hi2)).symm
      refine g_aloadN (nx := 48) hX 4 dX8_fill_46 rfl rfl ?_
      refine g_ifnullN hX 77 dX8_fill_48 (by decide) ?_
      exact g_ls (kont T hT2) ⟨rfl, rfl, rfl, rfl, trivial⟩
    | some p =>
      obtain ⟨j, h3, h4, rfl, ⟨h5, h6⟩, h7⟩ := hp
      obtain ⟨nx, r', e1, e2, e3, e4, e5, e6⟩ := hA j (by omega) h4 h5
      have er : r' = r := nI_inj (e1.symm.trans h6) (by omega) (by omega)
      subst er
      have hT1 : T = y_at A ah r' t (j - 1) := hT.trans (y_at_keep (by omega) (fun i hi1 hi2 => h7 i hi1 (by omega))).symm
      obtain ⟨mw, mq, mf, ma, mb, ms'⟩ := A
      have hstep : y_at (mw, mq, mf, ma, mb, ms') ah r' t j = if j ≤ t ∧ 0 ≤ mq j ∧ mw j = nI r' ∧ (ms' j = 0 ∨ nI t < ms' j) then y_st ah T (mq j) (mf j) (ma j) (mb j) else T := by
        have : j = (j - 1) + 1 := by omega
        rw [this, y_at, ← this, ← hT1]
      have hknown : (nI j ≤ nI t ∧ (a_sb (ms' j) = -1 ∨ nI t < a_sb (ms' j))) ↔ (j ≤ t ∧ 0 ≤ mq j ∧ mw j = nI r' ∧ (ms' j = 0 ∨ nI t < ms' j)) := by
        rw [nI_leI (by omega) (by omega)]
        have e6' : 0 ≤ ms' j := e6
        unfold a_sb
        by_cases z : ms' j = 0
        · rw [if_pos z]
          exact ⟨fun h => ⟨h.1, h5, h6, Or.inl z⟩, fun h => ⟨h.1, Or.inl rfl⟩⟩
        · rw [if_neg z]
          exact ⟨fun h => ⟨h.1, h5, h6, Or.inr (h.2.resolve_left (fun q => v_m1 q e6'))⟩, fun h => ⟨h.1, Or.inr (h.2.2.2.resolve_left z)⟩⟩
      obtain ⟨mr, rg, kn, lk, rt, s, fi, hd, sn⟩ := T
      refine g_aload (nx := 48) hX 4 dX8_fill_46 rfl rfl ?_
      refine g_ifnull (nx := 51) hX dX8_fill_48 rfl ?_
      refine g_aload (nx := 53) hX 4 dX8_fill_51 rfl rfl ?_
      refine g_iload_n (nx := 54) hX 3 dX8_fill_53 rfl rfl rfl ?_
      refine g_V1 (nx := 57) hX dX8_fill_54 rfl mX8_40 yX0_isKnownAt_ok (c_X0_isKnownAt (by omega) (by show _ < an + 106; omega)) (by show _ < an + 106; omega) (get_aE (by omega) e3) rfl rfl (by omega) rfl (Nat.le_of_ble_eq_true rfl) (Nat.le_of_ble_eq_true rfl) ?_
      rintro _ _ ⟨rfl, rfl⟩
      rw [e3]
      refine g_if_eq (nx := 60) hX 67 dX8_fill_57 (by decide) rfl (fun h57 => ?_) (fun h57 => ?_)
      · have hkn := fun z => ga_b_0 h57 (hknown.mpr z)
        rw [if_neg hkn] at hstep
        refine g_aload (nx := 69) hX 4 dX8_fill_67 rfl rfl ?_
        refine g_getfield (nx := 72) hX dX8_fill_69 rfl fX8_50 (by show _ < an + 106; omega) (get_aE (by omega) e3) rfl ?_
        refine fi_st hX (nx := 74) ?_
        refine g_goto (nx := 46) hX dX8_fill_74 (by decide) ?_
        exact ih j nx _ h4 (by omega) e4 hstep.symm
      · have hkn := hknown.mp (ga_b_n0 h57)
        rw [if_pos hkn] at hstep
        refine g_aload_n (nx := 61) hX 0 dX8_fill_60 rfl rfl rfl ?_
        refine g_aload (nx := 63) hX 4 dX8_fill_61 rfl rfl ?_
        refine g_aload_n (nx := 64) hX 1 dX8_fill_63 rfl rfl rfl ?_
        refine g_V2 (nx := 67) hX dX8_fill_64 rfl mX8_46 yX8_take_ok (c_X8_take hn hr (by omega) (by show _ < an + 106; omega) e3 e5 rfl) (ga_dn hn rfl) rfl rfl rfl (by omega) rfl (Nat.le_of_ble_eq_true rfl) (Nat.le_of_ble_eq_true rfl) ?_
        rintro _ _ ⟨rfl, rfl⟩
        refine g_aload (nx := 69) hX 4 dX8_fill_67 rfl rfl ?_
        refine g_getfield (nx := 72) hX dX8_fill_69 rfl fX8_50 (by show _ < an + 106; omega) (get_aE (by omega) e3) rfl ?_
        refine fi_st hX (nx := 74) ?_
        refine g_goto (nx := 46) hX dX8_fill_74 (by decide) ?_
        exact ih j nx _ h4 (by omega) e4 hstep.symm
theorem fi_fences {q3 : Int32} {a1 a6 a7 : Int32} {u : Int64} {d mc ms : Nat} (hX : ga_B E d yX8_fill cX8_fill 5 mc ms X) (hd2 : 4 ≤ d) (hn : 106 ≤ n) (hr : r < 24) (hf : fn ≤ 30) (hs : ∀ i f, sn i f ≤ 400)
    (kont : ga_G E X 0 0 126 [some (.ref 29), some (.ref (2 * r + 31)), some (.int (nI r)), some (.int q3), none] [] (n, (c0 :: c1 :: c2 :: c3 :: c4 :: c5 :: k_C fm em sp fn op :: c7 :: ga_i 30 ou :: c9 :: c10 :: c11 :: c12 :: c13 :: c14 :: c15 :: c16 :: c17 :: c18 :: c19 :: c20 :: c21 :: c22 :: c23 :: c24 :: c25 :: c26 :: c27 :: c28 :: k_Y hd :: ga_i 120 (y_se sn) :: []), L2, sh_f (va_up sv r (a1, y_h s, y_h fi, y_g s, y_g fi, a6, a7, u, y_w w (y_q ou s sn fn))) g)) :
    ∀ (m k : Nat), k ≤ fn → fn - k ≤ m → ga_G E X 0 0 85 [some (.ref 29), some (.ref (2 * r + 31)), some (.int (nI r)), some (.int q3), some (.int (nI k))] [] (n, (c0 :: c1 :: c2 :: c3 :: c4 :: c5 :: k_C fm em sp fn op :: c7 :: ga_i 30 ou :: c9 :: c10 :: c11 :: c12 :: c13 :: c14 :: c15 :: c16 :: c17 :: c18 :: c19 :: c20 :: c21 :: c22 :: c23 :: c24 :: c25 :: c26 :: c27 :: c28 :: k_Y hd :: ga_i 120 (y_se sn) :: []), L2, sh_f (va_up sv r (a1, y_h s, y_h fi, y_g s, y_g fi, a6, a7, u, y_w w (y_q ou s sn k))) g) := by
  intro m
  induction m with
  | zero =>
    intro k h1 h2
    have e : k = fn := by omega
    subst e
    refine g_iload (nx := 87) hX 4 dX8_fill_85 rfl rfl ?_
    refine g_aload_n (nx := 88) hX 0 dX8_fill_87 rfl rfl rfl ?_
    refine g_getfield (nx := 91) hX dX8_fill_88 rfl fX8_17 (ga_dn hn rfl) rfl rfl ?_
    refine g_getfield (nx := 94) hX dX8_fill_91 rfl fX8_58 (ga_dn hn rfl) rfl rfl ?_
    refine g_icmp_ge (nx := 97) hX 126 dX8_fill_94 (by decide) rfl (fun h94 => ?_) (fun h94 => ?_)
    · exact g_ls kont ⟨rfl, rfl, rfl, rfl, trivial⟩
    · exact absurd (nI_le (Nat.le_refl k) (by omega)) h94
  | succ m ih =>
    intro k h1 h2
    refine g_iload (nx := 87) hX 4 dX8_fill_85 rfl rfl ?_
    refine g_aload_n (nx := 88) hX 0 dX8_fill_87 rfl rfl rfl ?_
    refine g_getfield (nx := 91) hX dX8_fill_88 rfl fX8_17 (ga_dn hn rfl) rfl rfl ?_
    refine g_getfield (nx := 94) hX dX8_fill_91 rfl fX8_58 (ga_dn hn rfl) rfl rfl ?_
    refine g_icmp_ge (nx := 97) hX 126 dX8_fill_94 (by decide) rfl (fun h94 => ?_) (fun h94 => ?_)
    · have e : k = fn := by have := (nI_leI (a := fn) (b := k) (by omega) (by omega)).mp h94; omega
      subst e
      exact g_ls kont ⟨rfl, rfl, rfl, rfl, trivial⟩
    · have hlt : k < fn := Nat.lt_of_not_le (fun q => h94 (nI_le q (by omega)))
      have ih1 := ih (k + 1) (by omega) (by omega)
      rw [y_q] at ih1
      refine g_aload_n (nx := 98) hX 0 dX8_fill_97 rfl rfl rfl ?_
      refine g_getfield (nx := 101) hX dX8_fill_98 rfl fX8_17 (ga_dn hn rfl) rfl rfl ?_
      refine g_aload_n (nx := 102) hX 1 dX8_fill_101 rfl rfl rfl ?_
      refine g_iload (nx := 104) hX 4 dX8_fill_102 rfl rfl ?_
      refine g_V2 (nx := 107) hX dX8_fill_104 rfl mX8_61 yX2_isFenceFor_ok (c_X2_isFenceFor hn hr hlt hf) (ga_dn hn rfl) rfl rfl rfl (by omega) rfl (Nat.le_of_ble_eq_true rfl) (Nat.le_of_ble_eq_true rfl) ?_
      rintro _ _ ⟨rfl, rfl⟩
      refine g_if_eq (nx := 110) hX 120 dX8_fill_107 (by decide) rfl (fun h107 => ?_) (fun h107 => ?_)
      · rw [if_neg (ga_b_0 h107)] at ih1
        refine g_iinc (nx := 123) hX 4 (nI (k + 1)) dX8_fill_120 rfl rfl rfl (nI_1 k) ?_
        refine g_goto (nx := 85) hX dX8_fill_123 (by decide) ?_
        exact ih1
      · rw [if_pos (ga_b_n0 h107)] at ih1
        refine g_aload_n (nx := 111) hX 0 dX8_fill_110 rfl rfl rfl ?_
        refine g_iload (nx := 113) hX 4 dX8_fill_111 rfl rfl ?_
        refine g_aload_n (nx := 114) hX 1 dX8_fill_113 rfl rfl rfl ?_
        refine g_getfield (nx := 117) hX dX8_fill_114 rfl fX8_65 (dm_o hn hr) (get_soE hr) rfl ?_
        refine g_V2 (nx := 120) hX dX8_fill_117 rfl mX8_69 yX8_takeFence_ok (c_X8_takeFence hn hr (by omega) hs) (ga_dn hn rfl) rfl rfl rfl (by omega) rfl (Nat.le_of_ble_eq_true rfl) (Nat.le_of_ble_eq_true rfl) ?_
        rintro _ _ ⟨rfl, rfl⟩
        refine g_iinc (nx := 123) hX 4 (nI (k + 1)) dX8_fill_120 rfl rfl rfl (nI_1 k) ?_
        refine g_goto (nx := 85) hX dX8_fill_123 (by decide) ?_
        exact ih1
/-- the sheet of rider r, as known at act t -/
def y_S (A : w_A) (ah ou : Nat → Int32) (op : Int32) (fn an r t : Nat) (a1 a7 : Int32) (u : Int64) : sh_S := match y_at A ah r t an with
  | (mr, rg, kn, lk, rt, s, fi, hd, sn) => (a1, y_h s, y_h fi, y_g s, y_g fi, y_tm s fi hd, a7, u, y_w (y_vt (mr, rg, kn, lk, rt, s, fi, hd, sn) op) (y_q ou s sn fn))
theorem c_X8_fill {t : Nat} {a1 a2 a3 a4 a5 a6 a7 : Int32} {u : Int64} {v : Nat → Int64} {A : w_A} {hd0 : Int32} {se0 : Nat → Int32} (hr : r < 24) (ha : an ≤ 400) (ht : t ≤ an) (hf : fn ≤ 30) (hA : a_ok A av an) (ho : a_ch A an r 0 (ol r)) : ga_Mx E 4 yX8_fill cX8_fill 5 none 0 0 [.ref 29, .ref (2 * r + 31), .int (nI r), .int (nI t)] (an + 106, (c0 :: c1 :: c2 :: c3 :: c4 :: c5 :: k_C fm em sp fn op :: ga_i 32 ah :: ga_i 30 ou :: k_L an :: c10 :: ga_r 4 24 ol :: c12 :: c13 :: c14 :: c15 :: c16 :: c17 :: c18 :: c19 :: c20 :: c21 :: c22 :: c23 :: c24 :: c25 :: c26 :: c27 :: c28 :: k_Y hd0 :: ga_i 120 se0 :: []), L2, sh_f (va_up sv r (a1, a2, a3, a4, a5, a6, a7, u, v)) (a_f av)) none
    (an + 106, (c0 :: c1 :: c2 :: c3 :: c4 :: c5 :: k_C fm em sp fn op :: ga_i 32 ah :: ga_i 30 ou :: k_L an :: c10 :: ga_r 4 24 ol :: c12 :: c13 :: c14 :: c15 :: c16 :: c17 :: c18 :: c19 :: c20 :: c21 :: c22 :: c23 :: c24 :: c25 :: c26 :: c27 :: c28 :: k_Y (y_at A ah r t an).2.2.2.2.2.2.2.1 :: ga_i 120 (y_se (y_at A ah r t an).2.2.2.2.2.2.2.2) :: []), L2, sh_f (va_up sv r (y_S A ah ou op fn an r t a1 a7 u)) (a_f av)) := by
  have hn : 106 ≤ an + 106 := by omega
  have hsm := y_sm_at (A := A) (ah := ah) (r := r) (t := t) an
  refine ga_Mt.of (by decide) rfl (fun X hX hP => ?_)
  refine g_less [some (.ref 29), some (.ref (2 * r + 31)), some (.int (nI r)), some (.int (nI t)), none] ⟨rfl, rfl, rfl, rfl, trivial⟩ ?_
  have t77 : ∀ T, T = y_at A ah r t an → ga_G E X 0 0 77 [some (.ref 29), some (.ref (2 * r + 31)), some (.int (nI r)), some (.int (nI t)), none] [] (an + 106, (c0 :: c1 :: c2 :: c3 :: c4 :: c5 :: k_C fm em sp fn op :: ga_i 32 ah :: ga_i 30 ou :: k_L an :: c10 :: ga_r 4 24 ol :: c12 :: c13 :: c14 :: c15 :: c16 :: c17 :: c18 :: c19 :: c20 :: c21 :: c22 :: c23 :: c24 :: c25 :: c26 :: c27 :: c28 :: k_Y T.2.2.2.2.2.2.2.1 :: ga_i 120 (y_se T.2.2.2.2.2.2.2.2) :: []), L2, sh_f (va_up sv r (y_sh a1 (-1) a7 u T)) (a_f av)) := by
    intro T hT
    obtain ⟨mr, rg, kn, lk, rt, s, fi, hd, sn⟩ := T
    rw [← hT] at hsm
    have hsn : ∀ i f, sn i f ≤ 400 := fun i f => by have := hsm.2.2.2 i f; omega
    have t126 : ga_G E X 0 0 126 [some (.ref 29), some (.ref (2 * r + 31)), some (.int (nI r)), some (.int (nI t)), none] [] (an + 106, (c0 :: c1 :: c2 :: c3 :: c4 :: c5 :: k_C fm em sp fn op :: ga_i 32 ah :: ga_i 30 ou :: k_L an :: c10 :: ga_r 4 24 ol :: c12 :: c13 :: c14 :: c15 :: c16 :: c17 :: c18 :: c19 :: c20 :: c21 :: c22 :: c23 :: c24 :: c25 :: c26 :: c27 :: c28 :: k_Y hd :: ga_i 120 (y_se sn) :: []), L2, sh_f (va_up sv r (a1, y_h s, y_h fi, y_g s, y_g fi, y_tm s fi hd, a7, u, y_w (y_vt (mr, rg, kn, lk, rt, s, fi, hd, sn) op) (y_q ou s sn fn))) (a_f av)) := by
      refine g_return hX hP dX8_fill_126 (Nat.le_of_ble_eq_true rfl) (Nat.le_of_ble_eq_true rfl) ⟨rfl, ?_⟩
      unfold y_S
      rw [← hT]
    have w0 := y_w0 (mr, rg, kn, lk, rt, s, fi, hd, sn) op
    refine g_aload_n (nx := 78) hX 0 dX8_fill_77 rfl rfl rfl ?_
    refine g_aload_n (nx := 79) hX 1 dX8_fill_78 rfl rfl rfl ?_
    refine g_V1 (nx := 82) hX dX8_fill_79 rfl mX8_54 yX8_takeTime_ok (c_X8_takeTime hn hr rfl) (ga_dn hn rfl) rfl rfl rfl (by decide) rfl (Nat.le_of_ble_eq_true rfl) (Nat.le_of_ble_eq_true rfl) ?_
    rintro _ _ ⟨rfl, rfl⟩
    rw [← w0]
    refine g_iconst (nx := 83) hX 0 dX8_fill_82 rfl (by decide) ?_
    refine g_istore (nx := 85) hX 4 dX8_fill_83 rfl rfl ?_
    exact fi_fences hX (by omega) hn hr hf hsn t126 fn 0 (by omega) (by omega)
  have t46 : ga_G E X 0 0 46 [some (.ref 29), some (.ref (2 * r + 31)), some (.int (nI r)), some (.int (nI t)), some (ga_rf (ol r))] [] (an + 106, (c0 :: c1 :: c2 :: c3 :: c4 :: c5 :: k_C fm em sp fn op :: ga_i 32 ah :: ga_i 30 ou :: k_L an :: c10 :: ga_r 4 24 ol :: c12 :: c13 :: c14 :: c15 :: c16 :: c17 :: c18 :: c19 :: c20 :: c21 :: c22 :: c23 :: c24 :: c25 :: c26 :: c27 :: c28 :: k_Y 0 :: ga_i 120 (fun _ => 0) :: []), L2, sh_f (va_up sv r (y_sh a1 (-1) a7 u y_0)) (a_f av)) :=
    fi_acts hX (by omega) hr ha ht hA t77 an 0 (ol r) y_0 (by omega) (by omega) ho rfl
  have t36 : ga_G E X 0 0 36 [some (.ref 29), some (.ref (2 * r + 31)), some (.int (nI r)), some (.int (nI t)), none] [] (an + 106, (c0 :: c1 :: c2 :: c3 :: c4 :: c5 :: k_C fm em sp fn op :: ga_i 32 ah :: ga_i 30 ou :: k_L an :: c10 :: ga_r 4 24 ol :: c12 :: c13 :: c14 :: c15 :: c16 :: c17 :: c18 :: c19 :: c20 :: c21 :: c22 :: c23 :: c24 :: c25 :: c26 :: c27 :: c28 :: k_Y 0 :: ga_i 120 (fun _ => 0) :: []), L2, sh_f (va_up sv r (y_sh a1 (-1) a7 u y_0)) (a_f av)) := by
    refine g_aload_n (nx := 37) hX 0 dX8_fill_36 rfl rfl rfl ?_
    refine g_getfield (nx := 40) hX dX8_fill_37 rfl fX8_21 (ga_dn hn rfl) rfl rfl ?_
    refine g_iload_n (nx := 41) hX 2 dX8_fill_40 rfl rfl rfl ?_
    refine g_V1 (nx := 44) hX dX8_fill_41 rfl mX8_34 yX3_oldestOf_ok (c_X3_oldestOf hn hr) (ga_dn hn rfl) rfl rfl rfl (by decide) rfl (Nat.le_of_ble_eq_true rfl) (Nat.le_of_ble_eq_true rfl) ?_
    rintro _ _ ⟨rfl, rfl⟩
    refine fi_st44 hX ?_
    exact t46
  refine g_extl (a := 2 * r + 32) (f' := fun j => if j < 39 then v j else 0) hX (dm_v hn hr) (get_svE hr) (fun j hj => by rw [if_pos hj]) ?_
  refine g_mem (put_svF hr) ?_
  refine g_aload_n (nx := 1) hX 1 dX8_fill_0 rfl rfl rfl ?_
  refine g_V0 (nx := 4) hX dX8_fill_1 rfl mX8_25 yX7_clear_ok (c_X7_clear hn hr (fun j hj => if_neg (by omega))) (dm_o hn hr) (get_soE hr) rfl rfl (by decide) rfl (Nat.le_of_ble_eq_true rfl) (Nat.le_of_ble_eq_true rfl) ?_
  rintro _ _ ⟨rfl, rfl⟩
  refine g_aload_n (nx := 5) hX 0 dX8_fill_4 rfl rfl rfl ?_
  refine g_iconst (nx := 6) hX 0 dX8_fill_5 rfl (by decide) ?_
  refine g_putfield (nx := 9) hX dX8_fill_6 rfl pX8_30 (ga_dn hn rfl) rfl rfl rfl rfl ?_
  refine g_iconst (nx := 10) hX 0 dX8_fill_9 rfl (by decide) ?_
  refine g_istore (nx := 12) hX 4 dX8_fill_10 rfl rfl ?_
  exact fi_zero hX hn t36 120 0 se0 (by omega) (by omega) (fun j hj => absurd hj (by omega))
end
