/-! ===== the text: words, numbers, signs ===== -/
abbrev x_let (c : Int32) : Prop := 97 ≤ c ∧ c ≤ 122
abbrev x_dig (c : Int32) : Prop := 48 ≤ c ∧ c ≤ 57
abbrev x_bl (c : Int32) : Prop := c = 32 ∨ c = 10
/-- the first place, from one on, where something does not hold -/
def x_end (P : Nat → Bool) : Nat → Nat → Nat
  | 0, p => p
  | m + 1, p => if P p = true then x_end P m (p + 1) else p
theorem x_end_le (P : Nat → Bool) : ∀ m p, p ≤ x_end P m p ∧ x_end P m p ≤ p + m
  | 0, p => ⟨Nat.le_refl p, Nat.le_refl p⟩
  | m + 1, p => by
    rw [x_end]
    split
    · have := x_end_le P m (p + 1); omega
    · omega
theorem x_end_in (P : Nat → Bool) : ∀ m p i, p ≤ i → i < x_end P m p → P i = true
  | 0, p, i, h1, h2 => by rw [x_end] at h2; omega
  | m + 1, p, i, h1, h2 => by
    rw [x_end] at h2
    split at h2
    · rename_i h
      by_cases e : i = p
      · rw [e]; exact h
      · exact x_end_in P m (p + 1) i (by omega) h2
    · omega
theorem x_end_at (P : Nat → Bool) : ∀ m p, x_end P m p < p + m → P (x_end P m p) = false
  | 0, p, h => by rw [x_end] at h; omega
  | m + 1, p, h => by
    rw [x_end] at h ⊢
    split at h
    · rename_i q; rw [if_pos q]; exact x_end_at P m (p + 1) (by omega)
    · rename_i q; rw [if_neg q]; exact Bool.eq_false_iff.mpr q
section
variable (tb : Nat → Int32) (lt : Nat)
def x_sk (p : Nat) : Nat := x_end (fun i => decide (x_bl (tb i))) (lt - p) p
def x_we (p : Nat) : Nat := x_end (fun i => decide (x_let (tb i))) (lt - p) p
def x_de (p : Nat) : Nat := x_end (fun i => decide (x_dig (tb i))) (lt - p) p
/-- a word's number, a number's value, by letters and digits taken -/
def x_wv (q : Nat) : Nat → Int64
  | 0 => 0
  | k + 1 => (x_wv q k <<< 5) ||| (tb (q + k) - 96).toInt64
def x_dv (q : Nat) : Nat → Int64
  | 0 => 0
  | k + 1 => x_dv q k * 10 + (tb (q + k) - 48).toInt64
def x_tk (q : Nat) : Int32 := if q < lt then (if x_let (tb q) then 97 else if x_dig (tb q) then 48 else tb q) else -1
def x_te (q : Nat) : Nat := if q < lt then (if x_let (tb q) then x_we tb lt q else if x_dig (tb q) then x_de tb lt q else q + 1) else q
def x_tv (q : Nat) : Int64 := if q < lt then (if x_let (tb q) then x_wv tb q (x_we tb lt q - q) else if x_dig (tb q) then x_dv tb q (x_de tb lt q - q) else 0) else 0
/-- the next word, number or sign -/
def x_nx (q : Nat) : Nat := x_sk tb lt (x_te tb lt q)
end
section
variable {tb : Nat → Int32} {lt : Nat}
theorem x_sk_le {p : Nat} (h : p ≤ lt) : p ≤ x_sk tb lt p ∧ x_sk tb lt p ≤ lt := by
  have := x_end_le (fun i => decide (x_bl (tb i))) (lt - p) p
  unfold x_sk; omega
theorem x_we_le {p : Nat} (h : p ≤ lt) : p ≤ x_we tb lt p ∧ x_we tb lt p ≤ lt := by
  have := x_end_le (fun i => decide (x_let (tb i))) (lt - p) p
  unfold x_we; omega
theorem x_de_le {p : Nat} (h : p ≤ lt) : p ≤ x_de tb lt p ∧ x_de tb lt p ≤ lt := by
  have := x_end_le (fun i => decide (x_dig (tb i))) (lt - p) p
  unfold x_de; omega
theorem x_we_s {p : Nat} (h : p < lt) (hl : x_let (tb p)) : p < x_we tb lt p := by
  unfold x_we
  rw [show lt - p = lt - (p + 1) + 1 by omega, x_end, if_pos (decide_eq_true hl)]
  have := x_end_le (fun i => decide (x_let (tb i))) (lt - (p + 1)) (p + 1); omega
theorem x_de_s {p : Nat} (h : p < lt) (hl : x_dig (tb p)) : p < x_de tb lt p := by
  unfold x_de
  rw [show lt - p = lt - (p + 1) + 1 by omega, x_end, if_pos (decide_eq_true hl)]
  have := x_end_le (fun i => decide (x_dig (tb i))) (lt - (p + 1)) (p + 1); omega
theorem x_te_le {q : Nat} (h : q ≤ lt) : q ≤ x_te tb lt q ∧ x_te tb lt q ≤ lt := by
  unfold x_te
  have h1 := x_we_le (tb := tb) h
  have h2 := x_de_le (tb := tb) h
  repeat' split
  all_goals omega
theorem x_te_s {q : Nat} (h : q < lt) : q < x_te tb lt q := by
  unfold x_te
  rw [if_pos h]
  split
  · rename_i hl; exact x_we_s h hl
  · split
    · rename_i hl; exact x_de_s h hl
    · omega
theorem x_nx_le {q : Nat} (h : q ≤ lt) : q ≤ x_nx tb lt q ∧ x_nx tb lt q ≤ lt := by
  have h1 := x_te_le (tb := tb) h
  have h2 := x_sk_le (tb := tb) h1.2
  unfold x_nx; omega
theorem x_nx_s {q : Nat} (h : q < lt) : q < x_nx tb lt q := by
  have h0 := x_te_s (tb := tb) h
  have h1 := x_te_le (tb := tb) (Nat.le_of_lt h)
  have h2 := x_sk_le (tb := tb) h1.2
  unfold x_nx; omega
theorem x_tk_in {q : Nat} (h : ¬ x_tk tb lt q = -1) : q < lt := by
  unfold x_tk at h
  split at h
  · assumption
  · exact absurd rfl h
end
section
variable {E : ga_E} {X : ga_X} {n : Nat} {c0 c1 c2 c3 c4 c5 c6 c7 c8 c9 c10 c11 c12 c13 c14 c15 c16 c17 c18 c19 c20 c21 c22 c23 c24 c25 c26 c27 c28 c29 c30 m79 m80 m81 m82 m83 m84 m85 m86 m87 m88 m89 m90 m91 m92 m93 m94 m95 m96 m97 m98 m99 m100 m101 m102 m103 m104 m105 : ga_C} {L1 L2 : List ga_C} {f : Nat → ga_C} {o_tp o_rd o_fe o_em o_sp o_ac o_td o_sm o_tt o_at o_sz o_fk o_fp o_nw o_md o_nt o_pl o_op d_at d_tk d_ta d_fd d_fa : Int32} {d_tv : Int64} {d_rl : Value}
variable {z_at z_tk z_ta z_fd z_fa z_sz z_tot z_sm top : Int32} {z_tv : Int64} {nm : Nat → Int64} {tb st_ od eo fo : Nat → Int32} {lt : Nat}
theorem c_X4_fail {k pl : Int32} (hn : 106 ≤ n) : ga_Mx E 0 yX4_fail cX4_fail 3 none 0 0 [.ref 13, .int k, .int pl] (n, (c0 :: k_T lt :: ga_i 600 tb :: c3 :: c4 :: c5 :: c6 :: c7 :: c8 :: c9 :: c10 :: c11 :: c12 :: k_D (.ref 21) (z_at) (z_tk) (z_ta) (z_tv) (z_fd) (z_fa) :: ga_l 39 (nm) :: c15 :: c16 :: c17 :: c18 :: c19 :: c20 :: k_U 21 top (z_sz) (z_tot) (z_sm) :: ga_i 600 (st_) :: ga_i 600 (od) :: ga_i 24 (eo) :: ga_i 24 (fo) :: L1), L2, f) none (n, (c0 :: k_T lt :: ga_i 600 tb :: c3 :: c4 :: c5 :: c6 :: c7 :: c8 :: c9 :: c10 :: c11 :: c12 :: k_D (.ref 21) (nI lt) (-1) (z_ta) (z_tv) (if z_fd = 0 then k else z_fd) (if z_fd = 0 then pl else z_fa) :: ga_l 39 (nm) :: c15 :: c16 :: c17 :: c18 :: c19 :: c20 :: k_U 21 top (z_sz) (z_tot) (z_sm) :: ga_i 600 (st_) :: ga_i 600 (od) :: ga_i 24 (eo) :: ga_i 24 (fo) :: L1), L2, f) := by
  refine ga_Mt.of (by decide) rfl (fun X hX hP => ?_)
  refine g_less [some (.ref 13), some (.int k), some (.int pl)] ⟨rfl, rfl, rfl, trivial⟩ ?_
  refine g_aload_n (nx := 1) hX 0 dX4_fail_0 rfl rfl rfl ?_
  refine g_getfield (nx := 4) hX dX4_fail_1 rfl fX4_85 (ga_dn hn rfl) rfl rfl ?_
  refine g_if_ne (nx := 7) hX 17 dX4_fail_4 (by decide) rfl (fun h4 => ?_) (fun h4 => ?_)
  · refine g_aload_n (nx := 18) hX 0 dX4_fail_17 rfl rfl rfl ?_
    refine g_aload_n (nx := 19) hX 0 dX4_fail_18 rfl rfl rfl ?_
    refine g_getfield (nx := 22) hX dX4_fail_19 rfl fX4_56 (ga_dn hn rfl) rfl rfl ?_
    refine g_getfield (nx := 25) hX dX4_fail_22 rfl fX4_124 (ga_dn hn rfl) rfl rfl ?_
    refine g_putfield (nx := 28) hX dX4_fail_25 rfl pX4_88 (ga_dn hn rfl) rfl rfl rfl rfl ?_
    refine g_aload_n (nx := 29) hX 0 dX4_fail_28 rfl rfl rfl ?_
    refine g_iconst (nx := 30) hX (-1) dX4_fail_29 rfl (by decide) ?_
    refine g_putfield (nx := 33) hX dX4_fail_30 rfl pX4_94 (ga_dn hn rfl) rfl rfl rfl rfl ?_
    exact g_return hX hP dX4_fail_33 (Nat.le_of_ble_eq_true rfl) (Nat.le_of_ble_eq_true rfl) ⟨rfl, by rw [if_neg h4, if_neg h4] <;> rfl⟩
  · refine g_aload_n (nx := 8) hX 0 dX4_fail_7 rfl rfl rfl ?_
    refine g_iload_n (nx := 9) hX 1 dX4_fail_8 rfl rfl rfl ?_
    refine g_putfield (nx := 12) hX dX4_fail_9 rfl pX4_85 (ga_dn hn rfl) rfl rfl rfl rfl ?_
    refine g_aload_n (nx := 13) hX 0 dX4_fail_12 rfl rfl rfl ?_
    refine g_iload_n (nx := 14) hX 2 dX4_fail_13 rfl rfl rfl ?_
    refine g_putfield (nx := 17) hX dX4_fail_14 rfl pX4_52 (ga_dn hn rfl) rfl rfl rfl rfl ?_
    refine g_aload_n (nx := 18) hX 0 dX4_fail_17 rfl rfl rfl ?_
    refine g_aload_n (nx := 19) hX 0 dX4_fail_18 rfl rfl rfl ?_
    refine g_getfield (nx := 22) hX dX4_fail_19 rfl fX4_56 (ga_dn hn rfl) rfl rfl ?_
    refine g_getfield (nx := 25) hX dX4_fail_22 rfl fX4_124 (ga_dn hn rfl) rfl rfl ?_
    refine g_putfield (nx := 28) hX dX4_fail_25 rfl pX4_88 (ga_dn hn rfl) rfl rfl rfl rfl ?_
    refine g_aload_n (nx := 29) hX 0 dX4_fail_28 rfl rfl rfl ?_
    refine g_iconst (nx := 30) hX (-1) dX4_fail_29 rfl (by decide) ?_
    refine g_putfield (nx := 33) hX dX4_fail_30 rfl pX4_94 (ga_dn hn rfl) rfl rfl rfl rfl ?_
    exact g_return hX hP dX4_fail_33 (Nat.le_of_ble_eq_true rfl) (Nat.le_of_ble_eq_true rfl) ⟨rfl, by rw [if_pos h4, if_pos h4] <;> rfl⟩
theorem c_X4_advance {p : Nat} (hn : 106 ≤ n) (hl : lt ≤ 600) (hp : p ≤ lt) (hb : ∀ i, i < lt → 0 ≤ tb i) : ga_Mx E 0 yX4_advance cX4_advance 3 none 0 0 [.ref 13] (n, (c0 :: k_T lt :: ga_i 600 tb :: c3 :: c4 :: c5 :: c6 :: c7 :: c8 :: c9 :: c10 :: c11 :: c12 :: k_D (.ref 21) (nI p) (z_tk) (z_ta) (z_tv) (z_fd) (z_fa) :: ga_l 39 (nm) :: c15 :: c16 :: c17 :: c18 :: c19 :: c20 :: k_U 21 top (z_sz) (z_tot) (z_sm) :: ga_i 600 (st_) :: ga_i 600 (od) :: ga_i 24 (eo) :: ga_i 24 (fo) :: L1), L2, f) none (n, (c0 :: k_T lt :: ga_i 600 tb :: c3 :: c4 :: c5 :: c6 :: c7 :: c8 :: c9 :: c10 :: c11 :: c12 :: k_D (.ref 21) (nI (x_te tb lt (x_sk tb lt p))) (x_tk tb lt (x_sk tb lt p)) (nI (x_sk tb lt p)) (x_tv tb lt (x_sk tb lt p)) (z_fd) (z_fa) :: ga_l 39 (nm) :: c15 :: c16 :: c17 :: c18 :: c19 :: c20 :: k_U 21 top (z_sz) (z_tot) (z_sm) :: ga_i 600 (st_) :: ga_i 600 (od) :: ga_i 24 (eo) :: ga_i 24 (fo) :: L1), L2, f) := by
  refine ga_Mt.of (by decide) rfl (fun X hX hP => ?_)
  refine g_less [some (.ref 13), none, none] ⟨rfl, trivial⟩ ?_
  have t59 : ga_G E X 0 0 59 [some (.ref 13), some (.ref 2), some (.int (nI lt))] [] (n, (c0 :: k_T lt :: ga_i 600 tb :: c3 :: c4 :: c5 :: c6 :: c7 :: c8 :: c9 :: c10 :: c11 :: c12 :: k_D (.ref 21) (nI (x_sk tb lt p)) (z_tk) (z_ta) (z_tv) (z_fd) (z_fa) :: ga_l 39 (nm) :: c15 :: c16 :: c17 :: c18 :: c19 :: c20 :: k_U 21 top (z_sz) (z_tot) (z_sm) :: ga_i 600 (st_) :: ga_i 600 (od) :: ga_i 24 (eo) :: ga_i 24 (fo) :: L1), L2, f) := by
    have hq := x_sk_le (tb := tb) hp
    revert hP
    generalize x_sk tb lt p = q at *
    intro hP
    have hte := x_te_le (tb := tb) hq.2
    have wloop : x_let (tb q) → q < lt → ∀ (m k : Nat), q + k ≤ x_we tb lt q → x_we tb lt q - (q + k) = m → ga_G E X 0 0 118 [some (.ref 13), some (.ref 2), some (.int (nI lt))] [] (n, (c0 :: k_T lt :: ga_i 600 tb :: c3 :: c4 :: c5 :: c6 :: c7 :: c8 :: c9 :: c10 :: c11 :: c12 :: k_D (.ref 21) (nI (q + k)) (97) (nI q) (x_wv tb q k) (z_fd) (z_fa) :: ga_l 39 (nm) :: c15 :: c16 :: c17 :: c18 :: c19 :: c20 :: k_U 21 top (z_sz) (z_tot) (z_sm) :: ga_i 600 (st_) :: ga_i 600 (od) :: ga_i 24 (eo) :: ga_i 24 (fo) :: L1), L2, f) := by
      intro hlet hlt m
      have hw := x_we_le (tb := tb) hq.2
      have fin : ∀ k, q + k = x_we tb lt q → ga_G E X 0 0 290 [some (.ref 13), some (.ref 2), some (.int (nI lt))] [] (n, (c0 :: k_T lt :: ga_i 600 tb :: c3 :: c4 :: c5 :: c6 :: c7 :: c8 :: c9 :: c10 :: c11 :: c12 :: k_D (.ref 21) (nI (q + k)) (97) (nI q) (x_wv tb q k) (z_fd) (z_fa) :: ga_l 39 (nm) :: c15 :: c16 :: c17 :: c18 :: c19 :: c20 :: k_U 21 top (z_sz) (z_tot) (z_sm) :: ga_i 600 (st_) :: ga_i 600 (od) :: ga_i 24 (eo) :: ga_i 24 (fo) :: L1), L2, f) := by
        intro k hk
        have e1 : x_te tb lt q = q + k := by unfold x_te; rw [if_pos hlt, if_pos hlet, hk]
        have e2 : x_tk tb lt q = 97 := by unfold x_tk; rw [if_pos hlt, if_pos hlet]
        have e3 : x_tv tb lt q = x_wv tb q k := by unfold x_tv; rw [if_pos hlt, if_pos hlet, ← hk, show q + k - q = k by omega]
        exact g_return hX hP dX4_advance_290 (Nat.le_of_ble_eq_true rfl) (Nat.le_of_ble_eq_true rfl) ⟨rfl, by rw [e1, e2, e3] <;> rfl⟩
      induction m with
      | zero =>
        intro k h1 h2
        have hk : q + k = x_we tb lt q := by omega
        have hno : q + k < lt → ¬ x_let (tb (q + k)) := fun z => by
          have := x_end_at (fun i => decide (x_let (tb i))) (lt - q) q (by show x_we tb lt q < _; omega)
          rw [show x_end (fun i => decide (x_let (tb i))) (lt - q) q = q + k from hk.symm] at this
          exact of_decide_eq_false this
        refine g_aload_n (nx := 119) hX 0 dX4_advance_118 rfl rfl rfl ?_
        refine g_getfield (nx := 122) hX dX4_advance_119 rfl fX4_88 (ga_dn hn rfl) rfl rfl ?_
        refine g_iload_n (nx := 123) hX 2 dX4_advance_122 rfl rfl rfl ?_
        refine g_icmp_ge (nx := 126) hX 290 dX4_advance_123 (by decide) rfl (fun h123 => ?_) (fun h123 => ?_)
        · exact fin k hk
        · have hlt2 : q + k < lt := Nat.lt_of_not_le (fun z => h123 (nI_le z (by omega)))
          refine g_aload_n (nx := 127) hX 1 dX4_advance_126 rfl rfl rfl ?_
          refine g_aload_n (nx := 128) hX 0 dX4_advance_127 rfl rfl rfl ?_
          refine g_getfield (nx := 131) hX dX4_advance_128 rfl fX4_88 (ga_dn hn rfl) rfl rfl ?_
          refine g_iaload (nx := 132) hX dX4_advance_131 rfl (ga_dn hn rfl) rfl (ga_ix_of (j := q + k) rfl (by omega) (by omega)) ?_
          refine g_bipush (nx := 134) hX 97 dX4_advance_132 rfl (by decide) ?_
          refine g_icmp_lt (nx := 137) hX 290 dX4_advance_134 (by decide) rfl (fun h134 => ?_) (fun h134 => ?_)
          · exact fin k hk
          · refine g_aload_n (nx := 138) hX 1 dX4_advance_137 rfl rfl rfl ?_
            refine g_aload_n (nx := 139) hX 0 dX4_advance_138 rfl rfl rfl ?_
            refine g_getfield (nx := 142) hX dX4_advance_139 rfl fX4_88 (ga_dn hn rfl) rfl rfl ?_
            refine g_iaload (nx := 143) hX dX4_advance_142 rfl (ga_dn hn rfl) rfl (ga_ix_of (j := q + k) rfl (by omega) (by omega)) ?_
            refine g_bipush (nx := 145) hX 122 dX4_advance_143 rfl (by decide) ?_
            refine g_icmp_gt (nx := 148) hX 290 dX4_advance_145 (by decide) rfl (fun h145 => ?_) (fun h145 => ?_)
            · exact fin k hk
            · exact absurd ⟨ga_nlt h134, ga_nlt h145⟩ (hno hlt2)
      | succ m ih =>
        intro k h1 h2
        have hlt2 : q + k < lt := by omega
        have hyes : x_let (tb (q + k)) := of_decide_eq_true (x_end_in (fun i => decide (x_let (tb i))) (lt - q) q (q + k) (by omega) (by show q + k < x_we tb lt q; omega))
        have ih1 := ih (k + 1) (by omega) (by omega)
        rw [x_wv] at ih1
        refine g_aload_n (nx := 119) hX 0 dX4_advance_118 rfl rfl rfl ?_
        refine g_getfield (nx := 122) hX dX4_advance_119 rfl fX4_88 (ga_dn hn rfl) rfl rfl ?_
        refine g_iload_n (nx := 123) hX 2 dX4_advance_122 rfl rfl rfl ?_
        refine g_icmp_ge (nx := 126) hX 290 dX4_advance_123 (by decide) rfl (fun h123 => ?_) (fun h123 => ?_)
        · exact absurd ((nI_leI (by omega) (by omega)).mp h123) (by omega)
        · refine g_aload_n (nx := 127) hX 1 dX4_advance_126 rfl rfl rfl ?_
          refine g_aload_n (nx := 128) hX 0 dX4_advance_127 rfl rfl rfl ?_
          refine g_getfield (nx := 131) hX dX4_advance_128 rfl fX4_88 (ga_dn hn rfl) rfl rfl ?_
          refine g_iaload (nx := 132) hX dX4_advance_131 rfl (ga_dn hn rfl) rfl (ga_ix_of (j := q + k) rfl (by omega) (by omega)) ?_
          refine g_bipush (nx := 134) hX 97 dX4_advance_132 rfl (by decide) ?_
          refine g_icmp_lt (nx := 137) hX 290 dX4_advance_134 (by decide) rfl (fun h134 => ?_) (fun h134 => ?_)
          · exact absurd h134 (ga_len hyes.1)
          · refine g_aload_n (nx := 138) hX 1 dX4_advance_137 rfl rfl rfl ?_
            refine g_aload_n (nx := 139) hX 0 dX4_advance_138 rfl rfl rfl ?_
            refine g_getfield (nx := 142) hX dX4_advance_139 rfl fX4_88 (ga_dn hn rfl) rfl rfl ?_
            refine g_iaload (nx := 143) hX dX4_advance_142 rfl (ga_dn hn rfl) rfl (ga_ix_of (j := q + k) rfl (by omega) (by omega)) ?_
            refine g_bipush (nx := 145) hX 122 dX4_advance_143 rfl (by decide) ?_
            refine g_icmp_gt (nx := 148) hX 290 dX4_advance_145 (by decide) rfl (fun h145 => ?_) (fun h145 => ?_)
            · exact absurd h145 (ga_len hyes.2)
            · refine g_aload_n (nx := 149) hX 0 dX4_advance_148 rfl rfl rfl ?_
              refine g_aload_n (nx := 150) hX 0 dX4_advance_149 rfl rfl rfl ?_
              refine g_getfield (nx := 153) hX dX4_advance_150 rfl fX4_104 (ga_dn hn rfl) rfl rfl ?_
              refine g_iconst (nx := 154) hX 5 dX4_advance_153 rfl (by decide) ?_
              refine g_lshl (nx := 155) hX dX4_advance_154 rfl ?_
              refine g_aload_n (nx := 156) hX 1 dX4_advance_155 rfl rfl rfl ?_
              refine g_aload_n (nx := 157) hX 0 dX4_advance_156 rfl rfl rfl ?_
              refine g_getfield (nx := 160) hX dX4_advance_157 rfl fX4_88 (ga_dn hn rfl) rfl rfl ?_
              refine g_iaload (nx := 161) hX dX4_advance_160 rfl (ga_dn hn rfl) rfl (ga_ix_of (j := q + k) rfl (by omega) (by omega)) ?_
              refine g_bipush (nx := 163) hX 96 dX4_advance_161 rfl (by decide) ?_
              refine g_isub (nx := 164) hX dX4_advance_163 rfl ?_
              refine g_i2l (nx := 165) hX dX4_advance_164 rfl ?_
              refine g_lor (nx := 166) hX dX4_advance_165 rfl ?_
              refine g_putfield (nx := 169) hX dX4_advance_166 rfl pX4_104 (ga_dn hn rfl) rfl rfl rfl rfl ?_
              refine g_aload_n (nx := 170) hX 0 dX4_advance_169 rfl rfl rfl ?_
              refine g_dup (nx := 171) hX dX4_advance_170 rfl rfl ?_
              refine g_getfield (nx := 174) hX dX4_advance_171 rfl fX4_88 (ga_dn hn rfl) rfl rfl ?_
              refine g_iconst (nx := 175) hX 1 dX4_advance_174 rfl (by decide) ?_
              refine g_iadd (nx := 176) hX dX4_advance_175 rfl ?_
              rw [nI_1]
              refine g_putfield (nx := 179) hX dX4_advance_176 rfl pX4_88 (ga_dn hn rfl) rfl rfl rfl rfl ?_
              refine g_goto (nx := 118) hX dX4_advance_179 (by decide) ?_
              exact ih1
    have dloop : ¬ x_let (tb q) → x_dig (tb q) → q < lt → ∀ (m k : Nat), q + k ≤ x_de tb lt q → x_de tb lt q - (q + k) = m → ga_G E X 0 0 206 [some (.ref 13), some (.ref 2), some (.int (nI lt))] [] (n, (c0 :: k_T lt :: ga_i 600 tb :: c3 :: c4 :: c5 :: c6 :: c7 :: c8 :: c9 :: c10 :: c11 :: c12 :: k_D (.ref 21) (nI (q + k)) (48) (nI q) (x_dv tb q k) (z_fd) (z_fa) :: ga_l 39 (nm) :: c15 :: c16 :: c17 :: c18 :: c19 :: c20 :: k_U 21 top (z_sz) (z_tot) (z_sm) :: ga_i 600 (st_) :: ga_i 600 (od) :: ga_i 24 (eo) :: ga_i 24 (fo) :: L1), L2, f) := by
      intro hnl hlet hlt m
      have hw := x_de_le (tb := tb) hq.2
      have fin : ∀ k, q + k = x_de tb lt q → ga_G E X 0 0 290 [some (.ref 13), some (.ref 2), some (.int (nI lt))] [] (n, (c0 :: k_T lt :: ga_i 600 tb :: c3 :: c4 :: c5 :: c6 :: c7 :: c8 :: c9 :: c10 :: c11 :: c12 :: k_D (.ref 21) (nI (q + k)) (48) (nI q) (x_dv tb q k) (z_fd) (z_fa) :: ga_l 39 (nm) :: c15 :: c16 :: c17 :: c18 :: c19 :: c20 :: k_U 21 top (z_sz) (z_tot) (z_sm) :: ga_i 600 (st_) :: ga_i 600 (od) :: ga_i 24 (eo) :: ga_i 24 (fo) :: L1), L2, f) := by
        intro k hk
        have e1 : x_te tb lt q = q + k := by unfold x_te; rw [if_pos hlt, if_neg hnl, if_pos hlet, hk]
        have e2 : x_tk tb lt q = 48 := by unfold x_tk; rw [if_pos hlt, if_neg hnl, if_pos hlet]
        have e3 : x_tv tb lt q = x_dv tb q k := by unfold x_tv; rw [if_pos hlt, if_neg hnl, if_pos hlet, ← hk, show q + k - q = k by omega]
        exact g_return hX hP dX4_advance_290 (Nat.le_of_ble_eq_true rfl) (Nat.le_of_ble_eq_true rfl) ⟨rfl, by rw [e1, e2, e3] <;> rfl⟩
      induction m with
      | zero =>
        intro k h1 h2
        have hk : q + k = x_de tb lt q := by omega
        have hno : q + k < lt → ¬ x_dig (tb (q + k)) := fun z => by
          have := x_end_at (fun i => decide (x_dig (tb i))) (lt - q) q (by show x_de tb lt q < _; omega)
          rw [show x_end (fun i => decide (x_dig (tb i))) (lt - q) q = q + k from hk.symm] at this
          exact of_decide_eq_false this
        refine g_aload_n (nx := 207) hX 0 dX4_advance_206 rfl rfl rfl ?_
        refine g_getfield (nx := 210) hX dX4_advance_207 rfl fX4_88 (ga_dn hn rfl) rfl rfl ?_
        refine g_iload_n (nx := 211) hX 2 dX4_advance_210 rfl rfl rfl ?_
        refine g_icmp_ge (nx := 214) hX 290 dX4_advance_211 (by decide) rfl (fun h211 => ?_) (fun h211 => ?_)
        · exact fin k hk
        · have hlt2 : q + k < lt := Nat.lt_of_not_le (fun z => h211 (nI_le z (by omega)))
          refine g_aload_n (nx := 215) hX 1 dX4_advance_214 rfl rfl rfl ?_
          refine g_aload_n (nx := 216) hX 0 dX4_advance_215 rfl rfl rfl ?_
          refine g_getfield (nx := 219) hX dX4_advance_216 rfl fX4_88 (ga_dn hn rfl) rfl rfl ?_
          refine g_iaload (nx := 220) hX dX4_advance_219 rfl (ga_dn hn rfl) rfl (ga_ix_of (j := q + k) rfl (by omega) (by omega)) ?_
          refine g_bipush (nx := 222) hX 48 dX4_advance_220 rfl (by decide) ?_
          refine g_icmp_lt (nx := 225) hX 290 dX4_advance_222 (by decide) rfl (fun h222 => ?_) (fun h222 => ?_)
          · exact fin k hk
          · refine g_aload_n (nx := 226) hX 1 dX4_advance_225 rfl rfl rfl ?_
            refine g_aload_n (nx := 227) hX 0 dX4_advance_226 rfl rfl rfl ?_
            refine g_getfield (nx := 230) hX dX4_advance_227 rfl fX4_88 (ga_dn hn rfl) rfl rfl ?_
            refine g_iaload (nx := 231) hX dX4_advance_230 rfl (ga_dn hn rfl) rfl (ga_ix_of (j := q + k) rfl (by omega) (by omega)) ?_
            refine g_bipush (nx := 233) hX 57 dX4_advance_231 rfl (by decide) ?_
            refine g_icmp_gt (nx := 236) hX 290 dX4_advance_233 (by decide) rfl (fun h233 => ?_) (fun h233 => ?_)
            · exact fin k hk
            · exact absurd ⟨ga_nlt h222, ga_nlt h233⟩ (hno hlt2)
      | succ m ih =>
        intro k h1 h2
        have hlt2 : q + k < lt := by omega
        have hyes : x_dig (tb (q + k)) := of_decide_eq_true (x_end_in (fun i => decide (x_dig (tb i))) (lt - q) q (q + k) (by omega) (by show q + k < x_de tb lt q; omega))
        have ih1 := ih (k + 1) (by omega) (by omega)
        rw [x_dv] at ih1
        refine g_aload_n (nx := 207) hX 0 dX4_advance_206 rfl rfl rfl ?_
        refine g_getfield (nx := 210) hX dX4_advance_207 rfl fX4_88 (ga_dn hn rfl) rfl rfl ?_
        refine g_iload_n (nx := 211) hX 2 dX4_advance_210 rfl rfl rfl ?_
        refine g_icmp_ge (nx := 214) hX 290 dX4_advance_211 (by decide) rfl (fun h211 => ?_) (fun h211 => ?_)
        · exact absurd ((nI_leI (by omega) (by omega)).mp h211) (by omega)
        · refine g_aload_n (nx := 215) hX 1 dX4_advance_214 rfl rfl rfl ?_
          refine g_aload_n (nx := 216) hX 0 dX4_advance_215 rfl rfl rfl ?_
          refine g_getfield (nx := 219) hX dX4_advance_216 rfl fX4_88 (ga_dn hn rfl) rfl rfl ?_
          refine g_iaload (nx := 220) hX dX4_advance_219 rfl (ga_dn hn rfl) rfl (ga_ix_of (j := q + k) rfl (by omega) (by omega)) ?_
          refine g_bipush (nx := 222) hX 48 dX4_advance_220 rfl (by decide) ?_
          refine g_icmp_lt (nx := 225) hX 290 dX4_advance_222 (by decide) rfl (fun h222 => ?_) (fun h222 => ?_)
          · exact absurd h222 (ga_len hyes.1)
          · refine g_aload_n (nx := 226) hX 1 dX4_advance_225 rfl rfl rfl ?_
            refine g_aload_n (nx := 227) hX 0 dX4_advance_226 rfl rfl rfl ?_
            refine g_getfield (nx := 230) hX dX4_advance_227 rfl fX4_88 (ga_dn hn rfl) rfl rfl ?_
            refine g_iaload (nx := 231) hX dX4_advance_230 rfl (ga_dn hn rfl) rfl (ga_ix_of (j := q + k) rfl (by omega) (by omega)) ?_
            refine g_bipush (nx := 233) hX 57 dX4_advance_231 rfl (by decide) ?_
            refine g_icmp_gt (nx := 236) hX 290 dX4_advance_233 (by decide) rfl (fun h233 => ?_) (fun h233 => ?_)
            · exact absurd h233 (ga_len hyes.2)
            · refine g_aload_n (nx := 237) hX 0 dX4_advance_236 rfl rfl rfl ?_
              refine g_aload_n (nx := 238) hX 0 dX4_advance_237 rfl rfl rfl ?_
              refine g_getfield (nx := 241) hX dX4_advance_238 rfl fX4_104 (ga_dn hn rfl) rfl rfl ?_
              refine g_ldc2_w (nx := 244) hX 10 dX4_advance_241 rfl kX4_174 ?_
              refine g_lmul (nx := 245) hX dX4_advance_244 rfl ?_
              refine g_aload_n (nx := 246) hX 1 dX4_advance_245 rfl rfl rfl ?_
              refine g_aload_n (nx := 247) hX 0 dX4_advance_246 rfl rfl rfl ?_
              refine g_getfield (nx := 250) hX dX4_advance_247 rfl fX4_88 (ga_dn hn rfl) rfl rfl ?_
              refine g_iaload (nx := 251) hX dX4_advance_250 rfl (ga_dn hn rfl) rfl (ga_ix_of (j := q + k) rfl (by omega) (by omega)) ?_
              refine g_bipush (nx := 253) hX 48 dX4_advance_251 rfl (by decide) ?_
              refine g_isub (nx := 254) hX dX4_advance_253 rfl ?_
              refine g_i2l (nx := 255) hX dX4_advance_254 rfl ?_
              refine g_ladd (nx := 256) hX dX4_advance_255 rfl ?_
              refine g_putfield (nx := 259) hX dX4_advance_256 rfl pX4_104 (ga_dn hn rfl) rfl rfl rfl rfl ?_
              refine g_aload_n (nx := 260) hX 0 dX4_advance_259 rfl rfl rfl ?_
              refine g_dup (nx := 261) hX dX4_advance_260 rfl rfl ?_
              refine g_getfield (nx := 264) hX dX4_advance_261 rfl fX4_88 (ga_dn hn rfl) rfl rfl ?_
              refine g_iconst (nx := 265) hX 1 dX4_advance_264 rfl (by decide) ?_
              refine g_iadd (nx := 266) hX dX4_advance_265 rfl ?_
              rw [nI_1]
              refine g_putfield (nx := 269) hX dX4_advance_266 rfl pX4_88 (ga_dn hn rfl) rfl rfl rfl rfl ?_
              refine g_goto (nx := 206) hX dX4_advance_269 (by decide) ?_
              exact ih1
    have t94 : q < lt → ga_G E X 0 0 94 [some (.ref 13), some (.ref 2), some (.int (nI lt))] [] (n, (c0 :: k_T lt :: ga_i 600 tb :: c3 :: c4 :: c5 :: c6 :: c7 :: c8 :: c9 :: c10 :: c11 :: c12 :: k_D (.ref 21) (nI q) (tb q) (nI q) (0) (z_fd) (z_fa) :: ga_l 39 (nm) :: c15 :: c16 :: c17 :: c18 :: c19 :: c20 :: k_U 21 top (z_sz) (z_tot) (z_sm) :: ga_i 600 (st_) :: ga_i 600 (od) :: ga_i 24 (eo) :: ga_i 24 (fo) :: L1), L2, f) := by
      intro hlt
      have sign : ¬ x_let (tb q) → ¬ x_dig (tb q) → ga_G E X 0 0 272 [some (.ref 13), some (.ref 2), some (.int (nI lt))] [] (n, (c0 :: k_T lt :: ga_i 600 tb :: c3 :: c4 :: c5 :: c6 :: c7 :: c8 :: c9 :: c10 :: c11 :: c12 :: k_D (.ref 21) (nI q) (tb q) (nI q) (0) (z_fd) (z_fa) :: ga_l 39 (nm) :: c15 :: c16 :: c17 :: c18 :: c19 :: c20 :: k_U 21 top (z_sz) (z_tot) (z_sm) :: ga_i 600 (st_) :: ga_i 600 (od) :: ga_i 24 (eo) :: ga_i 24 (fo) :: L1), L2, f) := by
        intro g1 g2
        have e1 : x_te tb lt q = q + 1 := by unfold x_te; rw [if_pos hlt, if_neg g1, if_neg g2]
        have e2 : x_tk tb lt q = tb q := by unfold x_tk; rw [if_pos hlt, if_neg g1, if_neg g2]
        have e3 : x_tv tb lt q = 0 := by unfold x_tv; rw [if_pos hlt, if_neg g1, if_neg g2]
        refine g_aload_n (nx := 273) hX 0 dX4_advance_272 rfl rfl rfl ?_
        refine g_getfield (nx := 276) hX dX4_advance_273 rfl fX4_94 (ga_dn hn rfl) rfl rfl ?_
        refine g_iconst (nx := 277) hX (-1) dX4_advance_276 rfl (by decide) ?_
        refine g_icmp_eq (nx := 280) hX 290 dX4_advance_277 (by decide) rfl (fun h277 => ?_) (fun h277 => ?_)
        · exact (v_m1 h277 (hb q hlt)).elim
        · refine g_aload_n (nx := 281) hX 0 dX4_advance_280 rfl rfl rfl ?_
          refine g_dup (nx := 282) hX dX4_advance_281 rfl rfl ?_
          refine g_getfield (nx := 285) hX dX4_advance_282 rfl fX4_88 (ga_dn hn rfl) rfl rfl ?_
          refine g_iconst (nx := 286) hX 1 dX4_advance_285 rfl (by decide) ?_
          refine g_iadd (nx := 287) hX dX4_advance_286 rfl ?_
          rw [nI_1]
          refine g_putfield (nx := 290) hX dX4_advance_287 rfl pX4_88 (ga_dn hn rfl) rfl rfl rfl rfl ?_
          exact g_return hX hP dX4_advance_290 (Nat.le_of_ble_eq_true rfl) (Nat.le_of_ble_eq_true rfl) ⟨rfl, by rw [e1, e2, e3] <;> rfl⟩
      have digs : ¬ x_let (tb q) → ga_G E X 0 0 182 [some (.ref 13), some (.ref 2), some (.int (nI lt))] [] (n, (c0 :: k_T lt :: ga_i 600 tb :: c3 :: c4 :: c5 :: c6 :: c7 :: c8 :: c9 :: c10 :: c11 :: c12 :: k_D (.ref 21) (nI q) (tb q) (nI q) (0) (z_fd) (z_fa) :: ga_l 39 (nm) :: c15 :: c16 :: c17 :: c18 :: c19 :: c20 :: k_U 21 top (z_sz) (z_tot) (z_sm) :: ga_i 600 (st_) :: ga_i 600 (od) :: ga_i 24 (eo) :: ga_i 24 (fo) :: L1), L2, f) := by
        intro g1
        refine g_aload_n (nx := 183) hX 0 dX4_advance_182 rfl rfl rfl ?_
        refine g_getfield (nx := 186) hX dX4_advance_183 rfl fX4_94 (ga_dn hn rfl) rfl rfl ?_
        refine g_bipush (nx := 188) hX 48 dX4_advance_186 rfl (by decide) ?_
        refine g_icmp_lt (nx := 191) hX 272 dX4_advance_188 (by decide) rfl (fun h188 => ?_) (fun h188 => ?_)
        · exact sign g1 (fun z => ga_len z.1 h188)
        · refine g_aload_n (nx := 192) hX 0 dX4_advance_191 rfl rfl rfl ?_
          refine g_getfield (nx := 195) hX dX4_advance_192 rfl fX4_94 (ga_dn hn rfl) rfl rfl ?_
          refine g_bipush (nx := 197) hX 57 dX4_advance_195 rfl (by decide) ?_
          refine g_icmp_gt (nx := 200) hX 272 dX4_advance_197 (by decide) rfl (fun h197 => ?_) (fun h197 => ?_)
          · exact sign g1 (fun z => ga_len z.2 h197)
          · refine g_aload_n (nx := 201) hX 0 dX4_advance_200 rfl rfl rfl ?_
            refine g_bipush (nx := 203) hX 48 dX4_advance_201 rfl (by decide) ?_
            refine g_putfield (nx := 206) hX dX4_advance_203 rfl pX4_94 (ga_dn hn rfl) rfl rfl rfl rfl ?_
            exact dloop g1 ⟨ga_nlt h188, ga_nlt h197⟩ hlt _ 0 (x_de_le hq.2).1 rfl
      refine g_aload_n (nx := 95) hX 0 dX4_advance_94 rfl rfl rfl ?_
      refine g_getfield (nx := 98) hX dX4_advance_95 rfl fX4_94 (ga_dn hn rfl) rfl rfl ?_
      refine g_bipush (nx := 100) hX 97 dX4_advance_98 rfl (by decide) ?_
      refine g_icmp_lt (nx := 103) hX 182 dX4_advance_100 (by decide) rfl (fun h100 => ?_) (fun h100 => ?_)
      · exact digs (fun z => ga_len z.1 h100)
      · refine g_aload_n (nx := 104) hX 0 dX4_advance_103 rfl rfl rfl ?_
        refine g_getfield (nx := 107) hX dX4_advance_104 rfl fX4_94 (ga_dn hn rfl) rfl rfl ?_
        refine g_bipush (nx := 109) hX 122 dX4_advance_107 rfl (by decide) ?_
        refine g_icmp_gt (nx := 112) hX 182 dX4_advance_109 (by decide) rfl (fun h109 => ?_) (fun h109 => ?_)
        · exact digs (fun z => ga_len z.2 h109)
        · refine g_aload_n (nx := 113) hX 0 dX4_advance_112 rfl rfl rfl ?_
          refine g_bipush (nx := 115) hX 97 dX4_advance_113 rfl (by decide) ?_
          refine g_putfield (nx := 118) hX dX4_advance_115 rfl pX4_94 (ga_dn hn rfl) rfl rfl rfl rfl ?_
          exact wloop ⟨ga_nlt h100, ga_nlt h109⟩ hlt _ 0 (x_we_le hq.2).1 rfl
    have t94e : ¬ q < lt → ga_G E X 0 0 94 [some (.ref 13), some (.ref 2), some (.int (nI lt))] [] (n, (c0 :: k_T lt :: ga_i 600 tb :: c3 :: c4 :: c5 :: c6 :: c7 :: c8 :: c9 :: c10 :: c11 :: c12 :: k_D (.ref 21) (nI q) (-1) (nI q) (0) (z_fd) (z_fa) :: ga_l 39 (nm) :: c15 :: c16 :: c17 :: c18 :: c19 :: c20 :: k_U 21 top (z_sz) (z_tot) (z_sm) :: ga_i 600 (st_) :: ga_i 600 (od) :: ga_i 24 (eo) :: ga_i 24 (fo) :: L1), L2, f) := by
      intro hlt
      have e1 : x_te tb lt q = q := by unfold x_te; rw [if_neg hlt]
      have e2 : x_tk tb lt q = -1 := by unfold x_tk; rw [if_neg hlt]
      have e3 : x_tv tb lt q = 0 := by unfold x_tv; rw [if_neg hlt]
      refine g_aload_n (nx := 95) hX 0 dX4_advance_94 rfl rfl rfl ?_
      refine g_getfield (nx := 98) hX dX4_advance_95 rfl fX4_94 (ga_dn hn rfl) rfl rfl ?_
      refine g_bipush (nx := 100) hX 97 dX4_advance_98 rfl (by decide) ?_
      refine g_icmp_lt (nx := 103) hX 182 dX4_advance_100 (by decide) rfl (fun h100 => ?_) (fun h100 => ?_)
      · refine g_aload_n (nx := 183) hX 0 dX4_advance_182 rfl rfl rfl ?_
        refine g_getfield (nx := 186) hX dX4_advance_183 rfl fX4_94 (ga_dn hn rfl) rfl rfl ?_
        refine g_bipush (nx := 188) hX 48 dX4_advance_186 rfl (by decide) ?_
        refine g_icmp_lt (nx := 191) hX 272 dX4_advance_188 (by decide) rfl (fun h188 => ?_) (fun h188 => ?_)
        · refine g_aload_n (nx := 273) hX 0 dX4_advance_272 rfl rfl rfl ?_
          refine g_getfield (nx := 276) hX dX4_advance_273 rfl fX4_94 (ga_dn hn rfl) rfl rfl ?_
          refine g_iconst (nx := 277) hX (-1) dX4_advance_276 rfl (by decide) ?_
          refine g_icmp_eq (nx := 280) hX 290 dX4_advance_277 (by decide) rfl (fun h277 => ?_) (fun h277 => ?_)
          · exact g_return hX hP dX4_advance_290 (Nat.le_of_ble_eq_true rfl) (Nat.le_of_ble_eq_true rfl) ⟨rfl, by rw [e1, e2, e3] <;> rfl⟩
          · exact absurd rfl h277
        · exact absurd (show (-1 : Int32) < 48 by decide) h188
      · exact absurd (show (-1 : Int32) < 97 by decide) h100
    refine g_aload_n (nx := 60) hX 0 dX4_advance_59 rfl rfl rfl ?_
    refine g_aload_n (nx := 61) hX 0 dX4_advance_60 rfl rfl rfl ?_
    refine g_getfield (nx := 64) hX dX4_advance_61 rfl fX4_88 (ga_dn hn rfl) rfl rfl ?_
    refine g_putfield (nx := 67) hX dX4_advance_64 rfl pX4_97 (ga_dn hn rfl) rfl rfl rfl rfl ?_
    refine g_aload_n (nx := 68) hX 0 dX4_advance_67 rfl rfl rfl ?_
    refine g_lconst (nx := 69) hX 0 dX4_advance_68 rfl (by decide) ?_
    refine g_putfield (nx := 72) hX dX4_advance_69 rfl pX4_104 (ga_dn hn rfl) rfl rfl rfl rfl ?_
    refine g_aload_n (nx := 73) hX 0 dX4_advance_72 rfl rfl rfl ?_
    refine g_aload_n (nx := 74) hX 0 dX4_advance_73 rfl rfl rfl ?_
    refine g_getfield (nx := 77) hX dX4_advance_74 rfl fX4_88 (ga_dn hn rfl) rfl rfl ?_
    refine g_iload_n (nx := 78) hX 2 dX4_advance_77 rfl rfl rfl ?_
    refine g_icmp_ge (nx := 81) hX 90 dX4_advance_78 (by decide) rfl (fun h78 => ?_) (fun h78 => ?_)
    · have hlt : ¬ q < lt := by have := (nI_leI (by omega) (by omega)).mp h78; omega
      refine g_iconst (nx := 91) hX (-1) dX4_advance_90 rfl (by decide) ?_
      refine g_putfield (nx := 94) hX dX4_advance_91 rfl pX4_94 (ga_dn hn rfl) rfl rfl rfl rfl ?_
      exact t94e hlt
    · have hlt : q < lt := Nat.lt_of_not_le (fun z => h78 (nI_le z (by omega)))
      refine g_aload_n (nx := 82) hX 1 dX4_advance_81 rfl rfl rfl ?_
      refine g_aload_n (nx := 83) hX 0 dX4_advance_82 rfl rfl rfl ?_
      refine g_getfield (nx := 86) hX dX4_advance_83 rfl fX4_88 (ga_dn hn rfl) rfl rfl ?_
      refine g_iaload (nx := 87) hX dX4_advance_86 rfl (ga_dn hn rfl) rfl (ga_ix_of (j := q) rfl (by omega) (by omega)) ?_
      refine g_goto (nx := 91) hX dX4_advance_87 (by decide) ?_
      refine g_putfield (nx := 94) hX dX4_advance_91 rfl pX4_94 (ga_dn hn rfl) rfl rfl rfl rfl ?_
      exact t94 hlt
  have loop : ∀ (m i : Nat), p ≤ i → i ≤ x_sk tb lt p → x_sk tb lt p - i = m → ga_G E X 0 0 16 [some (.ref 13), some (.ref 2), some (.int (nI lt))] [] (n, (c0 :: k_T lt :: ga_i 600 tb :: c3 :: c4 :: c5 :: c6 :: c7 :: c8 :: c9 :: c10 :: c11 :: c12 :: k_D (.ref 21) (nI i) (z_tk) (z_ta) (z_tv) (z_fd) (z_fa) :: ga_l 39 (nm) :: c15 :: c16 :: c17 :: c18 :: c19 :: c20 :: k_U 21 top (z_sz) (z_tot) (z_sm) :: ga_i 600 (st_) :: ga_i 600 (od) :: ga_i 24 (eo) :: ga_i 24 (fo) :: L1), L2, f) := by
    intro m
    have hw := x_sk_le (tb := tb) hp
    induction m with
    | zero =>
      intro i h0 h1 h2
      have hk : i = x_sk tb lt p := by omega
      have hno : i < lt → ¬ x_bl (tb i) := fun z => by
        have := x_end_at (fun i => decide (x_bl (tb i))) (lt - p) p (by show x_sk tb lt p < _; omega)
        rw [show x_end (fun i => decide (x_bl (tb i))) (lt - p) p = i from hk.symm] at this
        exact of_decide_eq_false this
      rw [← hk] at t59
      refine g_aload_n (nx := 17) hX 0 dX4_advance_16 rfl rfl rfl ?_
      refine g_getfield (nx := 20) hX dX4_advance_17 rfl fX4_88 (ga_dn hn rfl) rfl rfl ?_
      refine g_iload_n (nx := 21) hX 2 dX4_advance_20 rfl rfl rfl ?_
      refine g_icmp_ge (nx := 24) hX 59 dX4_advance_21 (by decide) rfl (fun h21 => ?_) (fun h21 => ?_)
      · exact t59
      · have hlt2 : i < lt := Nat.lt_of_not_le (fun z => h21 (nI_le z (by omega)))
        refine g_aload_n (nx := 25) hX 1 dX4_advance_24 rfl rfl rfl ?_
        refine g_aload_n (nx := 26) hX 0 dX4_advance_25 rfl rfl rfl ?_
        refine g_getfield (nx := 29) hX dX4_advance_26 rfl fX4_88 (ga_dn hn rfl) rfl rfl ?_
        refine g_iaload (nx := 30) hX dX4_advance_29 rfl (ga_dn hn rfl) rfl (ga_ix_of (j := i) rfl (by omega) (by omega)) ?_
        refine g_bipush (nx := 32) hX 32 dX4_advance_30 rfl (by decide) ?_
        refine g_icmp_eq (nx := 35) hX 46 dX4_advance_32 (by decide) rfl (fun h32 => ?_) (fun h32 => ?_)
        · exact absurd (Or.inl h32) (hno hlt2)
        · refine g_aload_n (nx := 36) hX 1 dX4_advance_35 rfl rfl rfl ?_
          refine g_aload_n (nx := 37) hX 0 dX4_advance_36 rfl rfl rfl ?_
          refine g_getfield (nx := 40) hX dX4_advance_37 rfl fX4_88 (ga_dn hn rfl) rfl rfl ?_
          refine g_iaload (nx := 41) hX dX4_advance_40 rfl (ga_dn hn rfl) rfl (ga_ix_of (j := i) rfl (by omega) (by omega)) ?_
          refine g_bipush (nx := 43) hX 10 dX4_advance_41 rfl (by decide) ?_
          refine g_icmp_ne (nx := 46) hX 59 dX4_advance_43 (by decide) rfl (fun h43 => ?_) (fun h43 => ?_)
          · exact t59
          · exact absurd (Or.inr h43) (hno hlt2)
    | succ m ih =>
      intro i h0 h1 h2
      have hlt2 : i < lt := by omega
      have hyes : x_bl (tb i) := of_decide_eq_true (x_end_in (fun i => decide (x_bl (tb i))) (lt - p) p i (by omega) (by show i < x_sk tb lt p; omega))
      have ih1 := ih (i + 1) (by omega) (by omega) (by omega)
      refine g_aload_n (nx := 17) hX 0 dX4_advance_16 rfl rfl rfl ?_
      refine g_getfield (nx := 20) hX dX4_advance_17 rfl fX4_88 (ga_dn hn rfl) rfl rfl ?_
      refine g_iload_n (nx := 21) hX 2 dX4_advance_20 rfl rfl rfl ?_
      refine g_icmp_ge (nx := 24) hX 59 dX4_advance_21 (by decide) rfl (fun h21 => ?_) (fun h21 => ?_)
      · exact absurd ((nI_leI (by omega) (by omega)).mp h21) (by omega)
      · refine g_aload_n (nx := 25) hX 1 dX4_advance_24 rfl rfl rfl ?_
        refine g_aload_n (nx := 26) hX 0 dX4_advance_25 rfl rfl rfl ?_
        refine g_getfield (nx := 29) hX dX4_advance_26 rfl fX4_88 (ga_dn hn rfl) rfl rfl ?_
        refine g_iaload (nx := 30) hX dX4_advance_29 rfl (ga_dn hn rfl) rfl (ga_ix_of (j := i) rfl (by omega) (by omega)) ?_
        refine g_bipush (nx := 32) hX 32 dX4_advance_30 rfl (by decide) ?_
        refine g_icmp_eq (nx := 35) hX 46 dX4_advance_32 (by decide) rfl (fun h32 => ?_) (fun h32 => ?_)
        · refine g_aload_n (nx := 47) hX 0 dX4_advance_46 rfl rfl rfl ?_
          refine g_dup (nx := 48) hX dX4_advance_47 rfl rfl ?_
          refine g_getfield (nx := 51) hX dX4_advance_48 rfl fX4_88 (ga_dn hn rfl) rfl rfl ?_
          refine g_iconst (nx := 52) hX 1 dX4_advance_51 rfl (by decide) ?_
          refine g_iadd (nx := 53) hX dX4_advance_52 rfl ?_
          rw [nI_1]
          refine g_putfield (nx := 56) hX dX4_advance_53 rfl pX4_88 (ga_dn hn rfl) rfl rfl rfl rfl ?_
          refine g_goto (nx := 16) hX dX4_advance_56 (by decide) ?_
          exact ih1
        · refine g_aload_n (nx := 36) hX 1 dX4_advance_35 rfl rfl rfl ?_
          refine g_aload_n (nx := 37) hX 0 dX4_advance_36 rfl rfl rfl ?_
          refine g_getfield (nx := 40) hX dX4_advance_37 rfl fX4_88 (ga_dn hn rfl) rfl rfl ?_
          refine g_iaload (nx := 41) hX dX4_advance_40 rfl (ga_dn hn rfl) rfl (ga_ix_of (j := i) rfl (by omega) (by omega)) ?_
          refine g_bipush (nx := 43) hX 10 dX4_advance_41 rfl (by decide) ?_
          refine g_icmp_ne (nx := 46) hX 59 dX4_advance_43 (by decide) rfl (fun h43 => ?_) (fun h43 => ?_)
          · exact absurd hyes (fun z => z.elim h32 h43)
          · refine g_aload_n (nx := 47) hX 0 dX4_advance_46 rfl rfl rfl ?_
            refine g_dup (nx := 48) hX dX4_advance_47 rfl rfl ?_
            refine g_getfield (nx := 51) hX dX4_advance_48 rfl fX4_88 (ga_dn hn rfl) rfl rfl ?_
            refine g_iconst (nx := 52) hX 1 dX4_advance_51 rfl (by decide) ?_
            refine g_iadd (nx := 53) hX dX4_advance_52 rfl ?_
            rw [nI_1]
            refine g_putfield (nx := 56) hX dX4_advance_53 rfl pX4_88 (ga_dn hn rfl) rfl rfl rfl rfl ?_
            refine g_goto (nx := 16) hX dX4_advance_56 (by decide) ?_
            exact ih1
  refine g_aload_n (nx := 1) hX 0 dX4_advance_0 rfl rfl rfl ?_
  refine g_getfield (nx := 4) hX dX4_advance_1 rfl fX4_56 (ga_dn hn rfl) rfl rfl ?_
  refine g_getfield (nx := 7) hX dX4_advance_4 rfl fX4_170 (ga_dn hn rfl) rfl rfl ?_
  refine g_astore_n (nx := 8) hX 1 dX4_advance_7 rfl rfl rfl ?_
  refine g_aload_n (nx := 9) hX 0 dX4_advance_8 rfl rfl rfl ?_
  refine g_getfield (nx := 12) hX dX4_advance_9 rfl fX4_56 (ga_dn hn rfl) rfl rfl ?_
  refine g_getfield (nx := 15) hX dX4_advance_12 rfl fX4_124 (ga_dn hn rfl) rfl rfl ?_
  refine g_istore_n (nx := 16) hX 2 dX4_advance_15 rfl rfl rfl ?_
  exact loop _ p (Nat.le_refl p) (x_sk_le hp).1 rfl
end
