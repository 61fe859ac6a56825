/-! ===== leaves: truth values, Math, isWithin, the tape ===== -/
def ga_b (p : Prop) [Decidable p] : Int32 := if p then 1 else 0
theorem ga_b_t {p : Prop} [Decidable p] (h : p) : ga_b p = 1 := if_pos h
theorem ga_b_f {p : Prop} [Decidable p] (h : ¬ p) : ga_b p = 0 := if_neg h
theorem ga_b_nar (p : Prop) [Decidable p] : narrow .boolean (.int (ga_b p)) = .int (ga_b p) := by
  by_cases h : p
  · rw [ga_b_t h]; rfl
  · rw [ga_b_f h]; rfl
theorem ga_b_0 {p : Prop} [Decidable p] (h : ga_b p = 0) : ¬ p := fun q => by rw [ga_b_t q] at h; revert h; decide
theorem ga_b_n0 {p : Prop} [Decidable p] (h : ¬ ga_b p = 0) : p := by
  by_cases q : p
  · exact q
  · exact absurd (ga_b_f q) h
theorem ga_nle {a b : Int32} (h : ¬ a ≤ b) : b < a := by
  rw [Int32.lt_iff_toInt_lt]; rw [Int32.le_iff_toInt_le] at h; omega
theorem ga_nlt {a b : Int32} (h : ¬ a < b) : b ≤ a := by
  rw [Int32.le_iff_toInt_le]; rw [Int32.lt_iff_toInt_lt] at h; omega
theorem ga_ltn {a b : Int32} (h : a < b) : ¬ b ≤ a := by
  rw [Int32.le_iff_toInt_le]; rw [Int32.lt_iff_toInt_lt] at h; omega
theorem ga_len {a b : Int32} (h : a ≤ b) : ¬ b < a := by
  rw [Int32.lt_iff_toInt_lt]; rw [Int32.le_iff_toInt_le] at h; omega
section
variable {E : ga_E} {M : ga_M}
set_option maxRecDepth 20000 in
theorem c_X10_isWithin {v lo hi : Int32} : ga_Mx E 0 yX10_isWithin cX10_isWithin 3 (some .boolean) 0 0 [.int v, .int lo, .int hi] M (some (.int (ga_b (lo ≤ v ∧ v ≤ hi)))) M := by
  refine ga_Mt.of (by decide) rfl (fun X hX hP => ?_)
  refine g_less [some (.int v), some (.int lo), some (.int hi)] ⟨rfl, rfl, rfl, trivial⟩ ?_
  refine g_iload_n (nx := 1) hX 0 dX10_isWithin_0 rfl rfl rfl ?_
  refine g_iload_n (nx := 2) hX 1 dX10_isWithin_1 rfl rfl rfl ?_
  refine g_icmp_lt (nx := 5) hX 14 dX10_isWithin_2 (by decide) rfl (fun h2 => ?_) (fun h2 => ?_)
  · refine g_iconst (nx := 15) hX 0 dX10_isWithin_14 rfl (by decide) ?_
    exact g_ireturn hX hP dX10_isWithin_15 rfl (Nat.le_of_ble_eq_true rfl) (Nat.le_of_ble_eq_true rfl) ⟨by rw [ga_b_f (fun q => ga_ltn h2 q.1)], rfl⟩
  · refine g_iload_n (nx := 6) hX 0 dX10_isWithin_5 rfl rfl rfl ?_
    refine g_iload_n (nx := 7) hX 2 dX10_isWithin_6 rfl rfl rfl ?_
    refine g_icmp_gt (nx := 10) hX 14 dX10_isWithin_7 (by decide) rfl (fun h7 => ?_) (fun h7 => ?_)
    · refine g_iconst (nx := 15) hX 0 dX10_isWithin_14 rfl (by decide) ?_
      exact g_ireturn hX hP dX10_isWithin_15 rfl (Nat.le_of_ble_eq_true rfl) (Nat.le_of_ble_eq_true rfl) ⟨by rw [ga_b_f (fun q => ga_ltn h7 q.2)], rfl⟩
    · refine g_iconst (nx := 11) hX 1 dX10_isWithin_10 rfl (by decide) ?_
      refine g_goto (nx := 15) hX dX10_isWithin_11 (by decide) ?_
      exact g_ireturn hX hP dX10_isWithin_15 rfl (Nat.le_of_ble_eq_true rfl) (Nat.le_of_ble_eq_true rfl) ⟨by rw [ga_b_t ⟨ga_nlt h2, ga_nlt h7⟩], rfl⟩
theorem c_X11_is {v lo hi : Int32} : ga_Mx E 0 yX11_is cX11_is 3 (some .boolean) 0 0 [.int v, .int lo, .int hi] M (some (.int (ga_b (lo ≤ v ∧ v ≤ hi)))) M := by
  refine ga_Mt.of (by decide) rfl (fun X hX hP => ?_)
  refine g_less [some (.int v), some (.int lo), some (.int hi)] ⟨rfl, rfl, rfl, trivial⟩ ?_
  refine g_iload_n (nx := 1) hX 0 dX11_is_0 rfl rfl rfl ?_
  refine g_iload_n (nx := 2) hX 1 dX11_is_1 rfl rfl rfl ?_
  refine g_icmp_lt (nx := 5) hX 14 dX11_is_2 (by decide) rfl (fun h2 => ?_) (fun h2 => ?_)
  · refine g_iconst (nx := 15) hX 0 dX11_is_14 rfl (by decide) ?_
    exact g_ireturn hX hP dX11_is_15 rfl (Nat.le_of_ble_eq_true rfl) (Nat.le_of_ble_eq_true rfl) ⟨by rw [ga_b_f (fun q => ga_ltn h2 q.1)], rfl⟩
  · refine g_iload_n (nx := 6) hX 0 dX11_is_5 rfl rfl rfl ?_
    refine g_iload_n (nx := 7) hX 2 dX11_is_6 rfl rfl rfl ?_
    refine g_icmp_gt (nx := 10) hX 14 dX11_is_7 (by decide) rfl (fun h7 => ?_) (fun h7 => ?_)
    · refine g_iconst (nx := 15) hX 0 dX11_is_14 rfl (by decide) ?_
      exact g_ireturn hX hP dX11_is_15 rfl (Nat.le_of_ble_eq_true rfl) (Nat.le_of_ble_eq_true rfl) ⟨by rw [ga_b_f (fun q => ga_ltn h7 q.2)], rfl⟩
    · refine g_iconst (nx := 11) hX 1 dX11_is_10 rfl (by decide) ?_
      refine g_goto (nx := 15) hX dX11_is_11 (by decide) ?_
      exact g_ireturn hX hP dX11_is_15 rfl (Nat.le_of_ble_eq_true rfl) (Nat.le_of_ble_eq_true rfl) ⟨by rw [ga_b_t ⟨ga_nlt h2, ga_nlt h7⟩], rfl⟩
end
/-! the tape -/
def t_by (v s : Int32) : Int32 := (v.toUInt32 >>> (s.toUInt32 &&& Int32.toUInt32 31)).toInt32 &&& 255
def t_4 (tb : Nat → Int32) (k : Nat) (v : Int32) : Nat → Int32 := upd (upd (upd (upd tb k (t_by v 24)) (k + 1) (t_by v 16)) (k + 2) (t_by v 8)) (k + 3) (t_by v 0)
section
variable {E : ga_E} {X : ga_X} {n : Nat} {c0 : ga_C} {L1 L2 : List ga_C} {f : Nat → ga_C} {tb : Nat → Int32}
abbrev t_M (n : Nat) (c0 : ga_C) (k : Nat) (tb : Nat → Int32) (L1 L2 : List ga_C) (f : Nat → ga_C) : ga_M := (n, c0 :: ga_o 9 [.ref 2, .int (nI k)] :: ga_i 600 tb :: L1, L2, f)
theorem ap_step {k d mc ms : Nat} {v sh sh' : Int32} (hX : ga_B E d yX9_append cX9_append 3 mc ms X) (hn : 106 ≤ n) (hk : k < 600) (hs : ¬ sh < 0) (hs' : sh + Int32.ofInt (-8) = sh')
    (kont : ga_G E X 0 0 3 [some (.ref 1), some (.int v), some (.int sh')] [] (t_M n c0 (k + 1) (upd tb k (t_by v sh)) L1 L2 f)) : ga_G E X 0 0 3 [some (.ref 1), some (.int v), some (.int sh)] [] (t_M n c0 k tb L1 L2 f) := by
  refine g_iload_n (nx := 4) hX 2 dX9_append_3 rfl rfl rfl ?_
  refine g_if_lt (nx := 7) hX 49 dX9_append_4 (by decide) rfl (fun h4 => ?_) (fun h4 => ?_)
  · exact absurd h4 hs
  · refine g_aload_n (nx := 8) hX 0 dX9_append_7 rfl rfl rfl ?_
    refine g_getfield (nx := 11) hX dX9_append_8 rfl fX9_13 (ga_dn hn rfl) rfl rfl ?_
    refine g_sipush (nx := 14) hX 600 dX9_append_11 rfl (by decide) ?_
    refine g_icmp_ge (nx := 17) hX 49 dX9_append_14 (by decide) rfl (fun h14 => ?_) (fun h14 => ?_)
    · exact absurd (show (600 : Int32) ≤ nI k from h14) (nI_ge (b := 600) hk (by decide))
    · refine g_aload_n (nx := 18) hX 0 dX9_append_17 rfl rfl rfl ?_
      refine g_getfield (nx := 21) hX dX9_append_18 rfl fX9_9 (ga_dn hn rfl) rfl rfl ?_
      refine g_aload_n (nx := 22) hX 0 dX9_append_21 rfl rfl rfl ?_
      refine g_getfield (nx := 25) hX dX9_append_22 rfl fX9_13 (ga_dn hn rfl) rfl rfl ?_
      refine g_iload_n (nx := 26) hX 1 dX9_append_25 rfl rfl rfl ?_
      refine g_iload_n (nx := 27) hX 2 dX9_append_26 rfl rfl rfl ?_
      refine g_iushr (nx := 28) hX dX9_append_27 rfl ?_
      refine g_sipush (nx := 31) hX 255 dX9_append_28 rfl (by decide) ?_
      refine g_iand (nx := 32) hX dX9_append_31 rfl ?_
      refine g_iastore (nx := 33) hX dX9_append_32 rfl (ga_dn hn rfl) rfl (ga_ix_of rfl (by omega) (by omega)) ?_
      refine g_aload_n (nx := 34) hX 0 dX9_append_33 rfl rfl rfl ?_
      refine g_dup (nx := 35) hX dX9_append_34 rfl rfl ?_
      refine g_getfield (nx := 38) hX dX9_append_35 rfl fX9_13 (ga_dn hn rfl) rfl rfl ?_
      refine g_iconst (nx := 39) hX 1 dX9_append_38 rfl (by decide) ?_
      refine g_iadd (nx := 40) hX dX9_append_39 rfl ?_
      rw [nI_1]
      refine g_putfield (nx := 43) hX dX9_append_40 rfl pX9_13 (ga_dn hn rfl) rfl rfl rfl rfl ?_
      refine g_iinc (nx := 46) hX 2 (sh') dX9_append_43 rfl rfl rfl (hs') ?_
      refine g_goto (nx := 3) hX dX9_append_46 (by decide) ?_
      exact kont
theorem c_X9_append {k : Nat} {v : Int32} (hn : 106 ≤ n) (hk : k + 4 ≤ 600) : ga_Mx E 0 yX9_append cX9_append 3 none 0 0 [.ref 1, .int v] (t_M n c0 k tb L1 L2 f) none (t_M n c0 (k + 4) (t_4 tb k v) L1 L2 f) := by
  refine ga_Mt.of (by decide) rfl (fun X hX hP => ?_)
  refine g_less [some (.ref 1), some (.int v), none] ⟨rfl, rfl, trivial⟩ ?_
  refine g_bipush (nx := 2) hX 24 dX9_append_0 rfl (by decide) ?_
  refine g_istore_n (nx := 3) hX 2 dX9_append_2 rfl rfl rfl ?_
  refine ap_step (sh' := 16) hX hn (by omega) (by decide) (by decide) ?_
  refine ap_step (sh' := 8) hX hn (by omega) (by decide) (by decide) ?_
  refine ap_step (sh' := 0) hX hn (by omega) (by decide) (by decide) ?_
  refine ap_step (sh' := (-8)) hX hn (by omega) (by decide) (by decide) ?_
  refine g_iload_n (nx := 4) hX 2 dX9_append_3 rfl rfl rfl ?_
  refine g_if_lt (nx := 7) hX 49 dX9_append_4 (by decide) rfl (fun h4 => ?_) (fun h4 => absurd (by decide) h4)
  exact g_return hX hP dX9_append_49 (Nat.le_of_ble_eq_true rfl) (Nat.le_of_ble_eq_true rfl) ⟨rfl, rfl⟩
end
