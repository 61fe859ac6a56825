/-! ===== words as numbers: five bits a letter ===== -/
def wN (g : Nat → Nat) : Nat → Nat
  | 0 => 0
  | k + 1 => wN g k * 32 + g k
theorem wN_m {a d j : Nat} (h : 5 ≤ j) (hd : d < 32) : (a * 32 + d) % 2 ^ j = d + 32 * (a % 2 ^ (j - 5)) := by
  have e : 2 ^ j = 32 * 2 ^ (j - 5) := by rw [show (32 : Nat) = 2 ^ 5 from rfl, ← Nat.pow_add, show 5 + (j - 5) = j by omega]
  rw [e, Nat.mod_mul, show (a * 32 + d) % 32 = d by omega, show (a * 32 + d) / 32 = a by omega]
theorem wN_inj {g h : Nat → Nat} : ∀ l m j, 5 * l + 5 ≤ j → (∀ k, k < m → 1 ≤ g k ∧ g k ≤ 26) → (∀ k, k < l → 1 ≤ h k ∧ h k ≤ 26) → wN g m % 2 ^ j = wN h l % 2 ^ j → m = l ∧ ∀ k, k < l → g k = h k
  | 0, 0, _, _, _, _, _ => ⟨rfl, fun k hk => absurd hk (Nat.not_lt_zero k)⟩
  | 0, m + 1, j, hj, hg, _, he => by
    have hb := hg m (by omega)
    rw [wN, wN, wN_m (by omega) (by omega), Nat.zero_mod] at he
    omega
  | l + 1, 0, j, hj, _, hh, he => by
    have hb := hh l (by omega)
    rw [wN, wN, wN_m (by omega) (by omega), Nat.zero_mod] at he
    omega
  | l + 1, m + 1, j, hj, hg, hh, he => by
    have b1 := hg m (by omega)
    have b2 := hh l (by omega)
    rw [wN, wN, wN_m (by omega) (by omega), wN_m (by omega) (by omega)] at he
    have e1 : g m = h l := by omega
    have e2 : wN g m % 2 ^ (j - 5) = wN h l % 2 ^ (j - 5) := by omega
    obtain ⟨r1, r2⟩ := wN_inj l m (j - 5) (by omega) (fun k hk => hg k (by omega)) (fun k hk => hh k (by omega)) e2
    subst r1
    refine ⟨rfl, fun k hk => ?_⟩
    by_cases e : k = m
    · rw [e]; exact e1
    · exact r2 k (by omega)
theorem lN_tn (a : Nat) : (lN a).toBitVec.toNat = a % 2 ^ 64 := rfl
theorem lN_or {a d : Nat} (hd : d < 32) : (lN a <<< 5) ||| lN d = lN (a * 32 + d) := by
  apply Int64.toBitVec_inj.mp
  apply BitVec.eq_of_toNat_eq
  rw [Int64.toBitVec_or, BitVec.toNat_or]
  have e1 : ((lN a) <<< (5 : Int64)).toBitVec.toNat = 32 * (a % 2 ^ 59) := by
    show ((lN a).toBitVec <<< ((5 : Int64).toBitVec.smod 64).toNat).toNat = _
    rw [show ((5 : Int64).toBitVec.smod 64).toNat = 5 by decide, BitVec.toNat_shiftLeft, Nat.shiftLeft_eq, lN_tn]
    omega
  rw [e1, lN_tn, lN_tn, show (32 : Nat) = 2 ^ 5 from rfl, ← Nat.two_pow_add_eq_or_of_lt (by omega)]
  omega
theorem lN_inj {a b : Nat} (h : lN a = lN b) : a % 2 ^ 64 = b % 2 ^ 64 := by rw [← lN_tn, ← lN_tn, h]
section
variable {tb : Nat → Int32} {lt q m l : Nat} {h : Nat → Nat}
def x_l (tb : Nat → Int32) (q : Nat) : Nat → Nat := fun i => (tb (q + i)).toNatClampNeg - 96
theorem x_l_b {i : Nat} (hl : x_let (tb (q + i))) : 1 ≤ x_l tb q i ∧ x_l tb q i ≤ 26 ∧ tb (q + i) = nI (96 + x_l tb q i) := by
  obtain ⟨j, hj, e, e2⟩ := v_ofle (k := 122) (v_tr (by decide) hl.1) hl.2 (by omega)
  have h97 : 97 ≤ j := (nI_leI (a := 97) (by omega) (by omega)).mp (by rw [← e]; exact hl.1)
  unfold x_l
  rw [e2]
  exact ⟨by omega, by omega, by rw [show 96 + (j - 96) = j by omega]; exact e⟩
theorem x_wv_N : ∀ k, (∀ i, i < k → x_let (tb (q + i))) → x_wv tb q k = lN (wN (x_l tb q) k)
  | 0, _ => rfl
  | k + 1, hl => by
    obtain ⟨b1, b2, b3⟩ := x_l_b (hl k (by omega))
    rw [x_wv, wN, x_wv_N k (fun i hi => hl i (by omega)), b3, show nI (96 + x_l tb q k) - 96 = nI (x_l tb q k) by have := pk_sub (a := 96 + x_l tb q k) (b := 96) (by omega); rw [show 96 + x_l tb q k - 96 = x_l tb q k by omega] at this; exact this, nI_l (by omega), lN_or (by omega)]
/-- a word is the known one if their numbers are alike -/
theorem x_sp (hl : ∀ i, i < m → x_let (tb (q + i))) (hh : ∀ k, k < l → 1 ≤ h k ∧ h k ≤ 26) (h10 : l ≤ 10) : (m = l ∧ ∀ k, k < l → tb (q + k) = nI (96 + h k)) ↔ x_wv tb q m = lN (wN h l) := by
  rw [x_wv_N m hl]
  constructor
  · rintro ⟨rfl, hk⟩
    have : ∀ k, k ≤ m → wN (x_l tb q) k = wN h k := by
      intro k
      induction k with
      | zero => intro _; rfl
      | succ k ih =>
        intro hk2
        have b := hh k (by omega)
        rw [wN, wN, ih (by omega), show x_l tb q k = h k by unfold x_l; rw [hk k (by omega), nI_clamp (by omega)]; omega]
    rw [this m (Nat.le_refl m)]
  · intro e
    obtain ⟨r1, r2⟩ := wN_inj l m 64 (by omega) (fun k hk => ⟨(x_l_b (hl k hk)).1, (x_l_b (hl k hk)).2.1⟩) hh (lN_inj e)
    subst r1
    exact ⟨rfl, fun k hk => by rw [← r2 k hk]; exact (x_l_b (hl k hk)).2.2⟩
/-- two words are alike if their numbers are -/
theorem x_sp2 {q2 : Nat} (hl : ∀ i, i < m → x_let (tb (q + i))) (hl2 : ∀ i, i < l → x_let (tb (q2 + i))) (h10 : l ≤ 10) : (m = l ∧ ∀ k, k < l → tb (q + k) = tb (q2 + k)) ↔ x_wv tb q m = x_wv tb q2 l := by
  have := x_sp (q := q) (m := m) (l := l) (h := x_l tb q2) hl (fun k hk => ⟨(x_l_b (hl2 k hk)).1, (x_l_b (hl2 k hk)).2.1⟩) h10
  rw [x_wv_N l hl2, ← this]
  constructor
  · rintro ⟨a, b⟩; exact ⟨a, fun k hk => by rw [b k hk]; exact (x_l_b (hl2 k hk)).2.2⟩
  · rintro ⟨a, b⟩; exact ⟨a, fun k hk => by rw [b k hk]; exact (x_l_b (hl2 k hk)).2.2.symm⟩
theorem x_wv_0 (hl : ∀ i, i < m → x_let (tb (q + i))) (hm : 0 < m) : ¬ x_wv tb q m = 0 := fun z => by
  have := (x_sp (l := 0) (h := fun _ => 0) hl (fun k hk => absurd hk (Nat.not_lt_zero k)) (by omega)).mpr z
  omega
end
def x_bs (w : Int64) (l k : Nat) : Int32 := ((w.toUInt64 >>> (((8 : Int32) * (nI l - 1 - nI k)).toInt64.toUInt64 &&& Int64.toUInt64 63)).toInt64 &&& 255).toInt32
section
variable {E : ga_E} {X : ga_X} {n : Nat} {c0 c1 c2 c3 c4 c5 c6 c7 c8 c9 c10 c11 c12 c13 c14 c15 c16 c17 c18 c19 c20 c21 c22 c23 c24 c25 c26 c27 c28 c29 c30 m79 m80 m81 m82 m83 m84 m85 m86 m87 m88 m89 m90 m91 m92 m93 m94 m95 m96 m97 m98 m99 m100 m101 m102 m103 m104 m105 : ga_C} {L1 L2 : List ga_C} {f : Nat → ga_C} {o_tp o_rd o_fe o_em o_sp o_ac o_td o_sm o_tt o_at o_sz o_fk o_fp o_nw o_md o_nt o_pl o_op d_at d_tk d_ta d_fd d_fa : Int32} {d_tv : Int64} {d_rl : Value}
variable {r_at r_fk r_fp r_nt r_pl r_op : Int32} {nw md lt : Nat} {tb ns nb sg na nz pi cm : Nat → Int32}
variable {p q m l : Nat} {w K : Int64}
theorem c_X11_spells {h : Nat → Nat} (hh : ∀ k, k < l → 1 ≤ h k ∧ h k ≤ 26) (h10 : l ≤ 10) (hw : ∀ k, k < l → x_bs w l k = nI (96 + h k)) (hK : lN (wN h l) = K) (hn : 106 ≤ n) (hm : q + m ≤ 600) (hl : ∀ i, i < m → x_let (tb (q + i))) : ga_Mx E 0 yX11_spells cX11_spells 8 (some .boolean) 0 0 [.ref 79, .int (nI q), .int (nI m), .long w, .int (nI l)] (n, L1, ((m_O o_tp o_rd o_fe o_em o_sp o_ac o_td o_sm o_tt (r_at) (nI lt) (r_fk) (r_fp) (nI nw) (nI md) (r_nt) (r_pl) (r_op)) :: ga_i 600 tb :: m81 :: m82 :: m83 :: m84 :: m85 :: m86 :: m87 :: m88 :: m89 :: m90 :: m91 :: m92 :: m93 :: m94 :: m95 :: ga_i 25 (ns) :: ga_i 26 (nb) :: ga_i 1300 (sg) :: ga_i 250 (na) :: ga_i 25 (nz) :: ga_i 40 (pi) :: ga_z 40 (cm) :: L2), f) (some (.int (ga_b (x_wv tb q m = K)))) (n, L1, ((m_O o_tp o_rd o_fe o_em o_sp o_ac o_td o_sm o_tt (r_at) (nI lt) (r_fk) (r_fp) (nI nw) (nI md) (r_nt) (r_pl) (r_op)) :: ga_i 600 tb :: m81 :: m82 :: m83 :: m84 :: m85 :: m86 :: m87 :: m88 :: m89 :: m90 :: m91 :: m92 :: m93 :: m94 :: m95 :: ga_i 25 (ns) :: ga_i 26 (nb) :: ga_i 1300 (sg) :: ga_i 250 (na) :: ga_i 25 (nz) :: ga_i 40 (pi) :: ga_z 40 (cm) :: L2), f) := by
  have key := x_sp (h := h) hl hh h10
  rw [hK] at key
  rw [← ga_b_c key]
  refine ga_Mt.of (by decide) rfl (fun X hX hP => ?_)
  refine g_less [some (.ref 79), some (.int (nI q)), some (.int (nI m)), some (.long w), none, some (.int (nI l)), none, none] ⟨rfl, rfl, rfl, rfl, rfl, trivial⟩ ?_
  have loop : m = l → ∀ (j k : Nat), k + j = m → ga_G E X 0 0 14 [some (.ref 79), some (.int (nI q)), some (.int (nI m)), some (.long w), none, some (.int (nI l)), some (.int (ga_b (∀ i, i < k → tb (q + i) = nI (96 + h i)))), some (.int (nI k))] [] (n, L1, ((m_O o_tp o_rd o_fe o_em o_sp o_ac o_td o_sm o_tt (r_at) (nI lt) (r_fk) (r_fp) (nI nw) (nI md) (r_nt) (r_pl) (r_op)) :: ga_i 600 tb :: m81 :: m82 :: m83 :: m84 :: m85 :: m86 :: m87 :: m88 :: m89 :: m90 :: m91 :: m92 :: m93 :: m94 :: m95 :: ga_i 25 (ns) :: ga_i 26 (nb) :: ga_i 1300 (sg) :: ga_i 250 (na) :: ga_i 25 (nz) :: ga_i 40 (pi) :: ga_z 40 (cm) :: L2), f) := by
    intro hml
    subst hml
    intro j
    induction j with
    | zero =>
      intro k hk
      have e : k = m := by omega
      subst e
      refine g_iload (nx := 16) hX 7 dX11_spells_14 rfl rfl ?_
      refine g_iload_n (nx := 17) hX 2 dX11_spells_16 rfl rfl rfl ?_
      refine g_icmp_ge (nx := 20) hX 66 dX11_spells_17 (by decide) rfl (fun h17 => ?_) (fun h17 => ?_)
      · refine g_iload (nx := 68) hX 6 dX11_spells_66 rfl rfl ?_
        exact g_ireturn hX hP dX11_spells_68 (ga_b_nar _) (Nat.le_of_ble_eq_true rfl) (Nat.le_of_ble_eq_true rfl) ⟨congrArg (fun x => some (Value.int x)) (ga_b_c ⟨fun z => ⟨rfl, z⟩, fun z => z.2⟩), rfl⟩
      · exact absurd (nI_le (Nat.le_refl k) (by omega)) h17
    | succ j ih =>
      intro k hk
      have ih1 := ih (k + 1) (by omega)
      have hx := hw k (by omega)
      unfold x_bs at hx
      refine g_iload (nx := 16) hX 7 dX11_spells_14 rfl rfl ?_
      refine g_iload_n (nx := 17) hX 2 dX11_spells_16 rfl rfl rfl ?_
      refine g_icmp_ge (nx := 20) hX 66 dX11_spells_17 (by decide) rfl (fun h17 => ?_) (fun h17 => ?_)
      · exact absurd ((nI_leI (by omega) (by omega)).mp h17) (by omega)
      · refine g_iload (nx := 22) hX 6 dX11_spells_20 rfl rfl ?_
        refine g_if_eq (nx := 25) hX 57 dX11_spells_22 (by decide) rfl (fun h22 => ?_) (fun h22 => ?_)
        · rw [ga_b_f (fun z => ga_b_0 h22 (fun i hi => z i (by omega)))] at ih1
          refine g_iconst (nx := 58) hX 0 dX11_spells_57 rfl (by decide) ?_
          refine g_istore (nx := 60) hX 6 dX11_spells_58 rfl rfl ?_
          refine g_iinc (nx := 63) hX 7 (nI (k + 1)) dX11_spells_60 rfl rfl rfl (nI_1 k) ?_
          refine g_goto (nx := 14) hX dX11_spells_63 (by decide) ?_
          exact ih1
        · refine g_aload_n (nx := 26) hX 0 dX11_spells_25 rfl rfl rfl ?_
          refine g_getfield (nx := 29) hX dX11_spells_26 rfl fX11_7 (ga_dn hn rfl) rfl rfl ?_
          refine g_iload_n (nx := 30) hX 1 dX11_spells_29 rfl rfl rfl ?_
          refine g_iload (nx := 32) hX 7 dX11_spells_30 rfl rfl ?_
          refine g_iadd (nx := 33) hX dX11_spells_32 rfl ?_
          refine g_iaload (nx := 34) hX dX11_spells_33 rfl (ga_dn hn rfl) rfl (ga_ix_of (j := q + k) (nI_add q k) (by omega) (by omega)) ?_
          refine g_lload_n (nx := 35) hX 3 dX11_spells_34 rfl rfl rfl ?_
          refine g_bipush (nx := 37) hX 8 dX11_spells_35 rfl (by decide) ?_
          refine g_iload_n (nx := 38) hX 2 dX11_spells_37 rfl rfl rfl ?_
          refine g_iconst (nx := 39) hX 1 dX11_spells_38 rfl (by decide) ?_
          refine g_isub (nx := 40) hX dX11_spells_39 rfl ?_
          refine g_iload (nx := 42) hX 7 dX11_spells_40 rfl rfl ?_
          refine g_isub (nx := 43) hX dX11_spells_42 rfl ?_
          refine g_imul (nx := 44) hX dX11_spells_43 rfl ?_
          refine g_lushr (nx := 45) hX dX11_spells_44 rfl ?_
          refine g_ldc2_w (nx := 48) hX 255 dX11_spells_45 rfl kX11_195 ?_
          refine g_land (nx := 49) hX dX11_spells_48 rfl ?_
          refine g_l2i (nx := 50) hX dX11_spells_49 rfl ?_
          rw [hx]
          refine g_icmp_ne (nx := 53) hX 57 dX11_spells_50 (by decide) rfl (fun h50 => ?_) (fun h50 => ?_)
          · rw [ga_b_f (fun z => h50 (z k (by omega)))] at ih1
            refine g_iconst (nx := 58) hX 0 dX11_spells_57 rfl (by decide) ?_
            refine g_istore (nx := 60) hX 6 dX11_spells_58 rfl rfl ?_
            refine g_iinc (nx := 63) hX 7 (nI (k + 1)) dX11_spells_60 rfl rfl rfl (nI_1 k) ?_
            refine g_goto (nx := 14) hX dX11_spells_63 (by decide) ?_
            exact ih1
          · rw [ga_b_t (fun i hi => by
              by_cases e : i = k
              · rw [e]; exact h50
              · exact ga_b_n0 h22 i (by omega))] at ih1
            refine g_iconst (nx := 54) hX 1 dX11_spells_53 rfl (by decide) ?_
            refine g_goto (nx := 58) hX dX11_spells_54 (by decide) ?_
            refine g_istore (nx := 60) hX 6 dX11_spells_58 rfl rfl ?_
            refine g_iinc (nx := 63) hX 7 (nI (k + 1)) dX11_spells_60 rfl rfl rfl (nI_1 k) ?_
            refine g_goto (nx := 14) hX dX11_spells_63 (by decide) ?_
            exact ih1
  refine g_iload_n (nx := 1) hX 2 dX11_spells_0 rfl rfl rfl ?_
  refine g_iload (nx := 3) hX 5 dX11_spells_1 rfl rfl ?_
  refine g_icmp_eq (nx := 6) hX 8 dX11_spells_3 (by decide) rfl (fun h3 => ?_) (fun h3 => ?_)
  · have hml : m = l := nI_inj h3 (by omega) (by omega)
    refine g_iconst (nx := 9) hX 1 dX11_spells_8 rfl (by decide) ?_
    refine g_istore (nx := 11) hX 6 dX11_spells_9 rfl rfl ?_
    refine g_iconst (nx := 12) hX 0 dX11_spells_11 rfl (by decide) ?_
    refine g_istore (nx := 14) hX 7 dX11_spells_12 rfl rfl ?_
    have h0 := loop hml m 0 (by omega)
    rw [ga_b_t (fun i hi => absurd hi (Nat.not_lt_zero i))] at h0
    exact h0
  · have hml : ¬ m = l := fun z => h3 (by rw [z])
    refine g_iconst (nx := 7) hX 0 dX11_spells_6 rfl (by decide) ?_
    exact g_ireturn hX hP dX11_spells_7 rfl (Nat.le_of_ble_eq_true rfl) (Nat.le_of_ble_eq_true rfl) ⟨by rw [ga_b_f (fun z => hml z.1)], rfl⟩
def wL (L : List Nat) : Nat → Nat := fun k => L.getD k 0
theorem c_X11_isOut (hn : 106 ≤ n) (hm : q + m ≤ 600) (hl : ∀ i, i < m → x_let (tb (q + i))) : ga_Mx E 1 yX11_isOut cX11_isOut 3 (some .boolean) 0 0 [.ref 79, .int (nI q), .int (nI m)] (n, L1, ((m_O o_tp o_rd o_fe o_em o_sp o_ac o_td o_sm o_tt (r_at) (nI lt) (r_fk) (r_fp) (nI nw) (nI md) (r_nt) (r_pl) (r_op)) :: ga_i 600 tb :: m81 :: m82 :: m83 :: m84 :: m85 :: m86 :: m87 :: m88 :: m89 :: m90 :: m91 :: m92 :: m93 :: m94 :: m95 :: ga_i 25 (ns) :: ga_i 26 (nb) :: ga_i 1300 (sg) :: ga_i 250 (na) :: ga_i 25 (nz) :: ga_i 40 (pi) :: ga_z 40 (cm) :: L2), f) (some (.int (ga_b (x_wv tb q m = 16052)))) (n, L1, ((m_O o_tp o_rd o_fe o_em o_sp o_ac o_td o_sm o_tt (r_at) (nI lt) (r_fk) (r_fp) (nI nw) (nI md) (r_nt) (r_pl) (r_op)) :: ga_i 600 tb :: m81 :: m82 :: m83 :: m84 :: m85 :: m86 :: m87 :: m88 :: m89 :: m90 :: m91 :: m92 :: m93 :: m94 :: m95 :: ga_i 25 (ns) :: ga_i 26 (nb) :: ga_i 1300 (sg) :: ga_i 250 (na) :: ga_i 25 (nz) :: ga_i 40 (pi) :: ga_z 40 (cm) :: L2), f) := by
  refine ga_Mt.of (by decide) rfl (fun X hX hP => ?_)
  refine g_less [some (.ref 79), some (.int (nI q)), some (.int (nI m))] ⟨rfl, rfl, rfl, trivial⟩ ?_
  refine g_aload_n (nx := 1) hX 0 dX11_isOut_0 rfl rfl rfl ?_
  refine g_iload_n (nx := 2) hX 1 dX11_isOut_1 rfl rfl rfl ?_
  refine g_iload_n (nx := 3) hX 2 dX11_isOut_2 rfl rfl rfl ?_
  refine g_ldc2_w (nx := 6) hX 7304564 dX11_isOut_3 rfl kX11_197 ?_
  refine g_iconst (nx := 7) hX 3 dX11_isOut_6 rfl (by decide) ?_
  refine g_V4 (nx := 10) hX dX11_isOut_7 rfl mX11_199 yX11_spells_ok (c_X11_spells (l := 3) (K := 16052) (h := wL [15, 21, 20]) (by decide) (by omega) (by decide +kernel) (by decide +kernel) hn hm hl) (ga_dn hn rfl) rfl rfl rfl (by decide) rfl (Nat.le_of_ble_eq_true rfl) (Nat.le_of_ble_eq_true rfl) ?_
  rintro _ _ ⟨rfl, rfl⟩
  exact g_ireturn hX hP dX11_isOut_10 (ga_b_nar _) (Nat.le_of_ble_eq_true rfl) (Nat.le_of_ble_eq_true rfl) ⟨rfl, rfl⟩
theorem c_X11_isIf (hn : 106 ≤ n) (hm : q + m ≤ 600) (hl : ∀ i, i < m → x_let (tb (q + i))) : ga_Mx E 1 yX11_isIf cX11_isIf 3 (some .boolean) 0 0 [.ref 79, .int (nI q), .int (nI m)] (n, L1, ((m_O o_tp o_rd o_fe o_em o_sp o_ac o_td o_sm o_tt (r_at) (nI lt) (r_fk) (r_fp) (nI nw) (nI md) (r_nt) (r_pl) (r_op)) :: ga_i 600 tb :: m81 :: m82 :: m83 :: m84 :: m85 :: m86 :: m87 :: m88 :: m89 :: m90 :: m91 :: m92 :: m93 :: m94 :: m95 :: ga_i 25 (ns) :: ga_i 26 (nb) :: ga_i 1300 (sg) :: ga_i 250 (na) :: ga_i 25 (nz) :: ga_i 40 (pi) :: ga_z 40 (cm) :: L2), f) (some (.int (ga_b (x_wv tb q m = 294)))) (n, L1, ((m_O o_tp o_rd o_fe o_em o_sp o_ac o_td o_sm o_tt (r_at) (nI lt) (r_fk) (r_fp) (nI nw) (nI md) (r_nt) (r_pl) (r_op)) :: ga_i 600 tb :: m81 :: m82 :: m83 :: m84 :: m85 :: m86 :: m87 :: m88 :: m89 :: m90 :: m91 :: m92 :: m93 :: m94 :: m95 :: ga_i 25 (ns) :: ga_i 26 (nb) :: ga_i 1300 (sg) :: ga_i 250 (na) :: ga_i 25 (nz) :: ga_i 40 (pi) :: ga_z 40 (cm) :: L2), f) := by
  refine ga_Mt.of (by decide) rfl (fun X hX hP => ?_)
  refine g_less [some (.ref 79), some (.int (nI q)), some (.int (nI m))] ⟨rfl, rfl, rfl, trivial⟩ ?_
  refine g_aload_n (nx := 1) hX 0 dX11_isIf_0 rfl rfl rfl ?_
  refine g_iload_n (nx := 2) hX 1 dX11_isIf_1 rfl rfl rfl ?_
  refine g_iload_n (nx := 3) hX 2 dX11_isIf_2 rfl rfl rfl ?_
  refine g_ldc2_w (nx := 6) hX 26982 dX11_isIf_3 rfl kX11_203 ?_
  refine g_iconst (nx := 7) hX 2 dX11_isIf_6 rfl (by decide) ?_
  refine g_V4 (nx := 10) hX dX11_isIf_7 rfl mX11_199 yX11_spells_ok (c_X11_spells (l := 2) (K := 294) (h := wL [9, 6]) (by decide) (by omega) (by decide +kernel) (by decide +kernel) hn hm hl) (ga_dn hn rfl) rfl rfl rfl (by decide) rfl (Nat.le_of_ble_eq_true rfl) (Nat.le_of_ble_eq_true rfl) ?_
  rintro _ _ ⟨rfl, rfl⟩
  exact g_ireturn hX hP dX11_isIf_10 (ga_b_nar _) (Nat.le_of_ble_eq_true rfl) (Nat.le_of_ble_eq_true rfl) ⟨rfl, rfl⟩
theorem c_X11_isTie (hn : 106 ≤ n) (hm : q + m ≤ 600) (hl : ∀ i, i < m → x_let (tb (q + i))) : ga_Mx E 1 yX11_isTie cX11_isTie 3 (some .boolean) 0 0 [.ref 79, .int (nI q), .int (nI m)] (n, L1, ((m_O o_tp o_rd o_fe o_em o_sp o_ac o_td o_sm o_tt (r_at) (nI lt) (r_fk) (r_fp) (nI nw) (nI md) (r_nt) (r_pl) (r_op)) :: ga_i 600 tb :: m81 :: m82 :: m83 :: m84 :: m85 :: m86 :: m87 :: m88 :: m89 :: m90 :: m91 :: m92 :: m93 :: m94 :: m95 :: ga_i 25 (ns) :: ga_i 26 (nb) :: ga_i 1300 (sg) :: ga_i 250 (na) :: ga_i 25 (nz) :: ga_i 40 (pi) :: ga_z 40 (cm) :: L2), f) (some (.int (ga_b (x_wv tb q m = 20773)))) (n, L1, ((m_O o_tp o_rd o_fe o_em o_sp o_ac o_td o_sm o_tt (r_at) (nI lt) (r_fk) (r_fp) (nI nw) (nI md) (r_nt) (r_pl) (r_op)) :: ga_i 600 tb :: m81 :: m82 :: m83 :: m84 :: m85 :: m86 :: m87 :: m88 :: m89 :: m90 :: m91 :: m92 :: m93 :: m94 :: m95 :: ga_i 25 (ns) :: ga_i 26 (nb) :: ga_i 1300 (sg) :: ga_i 250 (na) :: ga_i 25 (nz) :: ga_i 40 (pi) :: ga_z 40 (cm) :: L2), f) := by
  refine ga_Mt.of (by decide) rfl (fun X hX hP => ?_)
  refine g_less [some (.ref 79), some (.int (nI q)), some (.int (nI m))] ⟨rfl, rfl, rfl, trivial⟩ ?_
  refine g_aload_n (nx := 1) hX 0 dX11_isTie_0 rfl rfl rfl ?_
  refine g_iload_n (nx := 2) hX 1 dX11_isTie_1 rfl rfl rfl ?_
  refine g_iload_n (nx := 3) hX 2 dX11_isTie_2 rfl rfl rfl ?_
  refine g_ldc2_w (nx := 6) hX 7629157 dX11_isTie_3 rfl kX11_205 ?_
  refine g_iconst (nx := 7) hX 3 dX11_isTie_6 rfl (by decide) ?_
  refine g_V4 (nx := 10) hX dX11_isTie_7 rfl mX11_199 yX11_spells_ok (c_X11_spells (l := 3) (K := 20773) (h := wL [20, 9, 5]) (by decide) (by omega) (by decide +kernel) (by decide +kernel) hn hm hl) (ga_dn hn rfl) rfl rfl rfl (by decide) rfl (Nat.le_of_ble_eq_true rfl) (Nat.le_of_ble_eq_true rfl) ?_
  rintro _ _ ⟨rfl, rfl⟩
  exact g_ireturn hX hP dX11_isTie_10 (ga_b_nar _) (Nat.le_of_ble_eq_true rfl) (Nat.le_of_ble_eq_true rfl) ⟨rfl, rfl⟩
theorem c_X11_isMax (hn : 106 ≤ n) (hm : q + m ≤ 600) (hl : ∀ i, i < m → x_let (tb (q + i))) : ga_Mx E 1 yX11_isMax cX11_isMax 3 (some .boolean) 0 0 [.ref 79, .int (nI q), .int (nI m)] (n, L1, ((m_O o_tp o_rd o_fe o_em o_sp o_ac o_td o_sm o_tt (r_at) (nI lt) (r_fk) (r_fp) (nI nw) (nI md) (r_nt) (r_pl) (r_op)) :: ga_i 600 tb :: m81 :: m82 :: m83 :: m84 :: m85 :: m86 :: m87 :: m88 :: m89 :: m90 :: m91 :: m92 :: m93 :: m94 :: m95 :: ga_i 25 (ns) :: ga_i 26 (nb) :: ga_i 1300 (sg) :: ga_i 250 (na) :: ga_i 25 (nz) :: ga_i 40 (pi) :: ga_z 40 (cm) :: L2), f) (some (.int (ga_b (x_wv tb q m = 13368)))) (n, L1, ((m_O o_tp o_rd o_fe o_em o_sp o_ac o_td o_sm o_tt (r_at) (nI lt) (r_fk) (r_fp) (nI nw) (nI md) (r_nt) (r_pl) (r_op)) :: ga_i 600 tb :: m81 :: m82 :: m83 :: m84 :: m85 :: m86 :: m87 :: m88 :: m89 :: m90 :: m91 :: m92 :: m93 :: m94 :: m95 :: ga_i 25 (ns) :: ga_i 26 (nb) :: ga_i 1300 (sg) :: ga_i 250 (na) :: ga_i 25 (nz) :: ga_i 40 (pi) :: ga_z 40 (cm) :: L2), f) := by
  refine ga_Mt.of (by decide) rfl (fun X hX hP => ?_)
  refine g_less [some (.ref 79), some (.int (nI q)), some (.int (nI m))] ⟨rfl, rfl, rfl, trivial⟩ ?_
  refine g_aload_n (nx := 1) hX 0 dX11_isMax_0 rfl rfl rfl ?_
  refine g_iload_n (nx := 2) hX 1 dX11_isMax_1 rfl rfl rfl ?_
  refine g_iload_n (nx := 3) hX 2 dX11_isMax_2 rfl rfl rfl ?_
  refine g_ldc2_w (nx := 6) hX 7168376 dX11_isMax_3 rfl kX11_207 ?_
  refine g_iconst (nx := 7) hX 3 dX11_isMax_6 rfl (by decide) ?_
  refine g_V4 (nx := 10) hX dX11_isMax_7 rfl mX11_199 yX11_spells_ok (c_X11_spells (l := 3) (K := 13368) (h := wL [13, 1, 24]) (by decide) (by omega) (by decide +kernel) (by decide +kernel) hn hm hl) (ga_dn hn rfl) rfl rfl rfl (by decide) rfl (Nat.le_of_ble_eq_true rfl) (Nat.le_of_ble_eq_true rfl) ?_
  rintro _ _ ⟨rfl, rfl⟩
  exact g_ireturn hX hP dX11_isMax_10 (ga_b_nar _) (Nat.le_of_ble_eq_true rfl) (Nat.le_of_ble_eq_true rfl) ⟨rfl, rfl⟩
theorem c_X11_isMin (hn : 106 ≤ n) (hm : q + m ≤ 600) (hl : ∀ i, i < m → x_let (tb (q + i))) : ga_Mx E 1 yX11_isMin cX11_isMin 3 (some .boolean) 0 0 [.ref 79, .int (nI q), .int (nI m)] (n, L1, ((m_O o_tp o_rd o_fe o_em o_sp o_ac o_td o_sm o_tt (r_at) (nI lt) (r_fk) (r_fp) (nI nw) (nI md) (r_nt) (r_pl) (r_op)) :: ga_i 600 tb :: m81 :: m82 :: m83 :: m84 :: m85 :: m86 :: m87 :: m88 :: m89 :: m90 :: m91 :: m92 :: m93 :: m94 :: m95 :: ga_i 25 (ns) :: ga_i 26 (nb) :: ga_i 1300 (sg) :: ga_i 250 (na) :: ga_i 25 (nz) :: ga_i 40 (pi) :: ga_z 40 (cm) :: L2), f) (some (.int (ga_b (x_wv tb q m = 13614)))) (n, L1, ((m_O o_tp o_rd o_fe o_em o_sp o_ac o_td o_sm o_tt (r_at) (nI lt) (r_fk) (r_fp) (nI nw) (nI md) (r_nt) (r_pl) (r_op)) :: ga_i 600 tb :: m81 :: m82 :: m83 :: m84 :: m85 :: m86 :: m87 :: m88 :: m89 :: m90 :: m91 :: m92 :: m93 :: m94 :: m95 :: ga_i 25 (ns) :: ga_i 26 (nb) :: ga_i 1300 (sg) :: ga_i 250 (na) :: ga_i 25 (nz) :: ga_i 40 (pi) :: ga_z 40 (cm) :: L2), f) := by
  refine ga_Mt.of (by decide) rfl (fun X hX hP => ?_)
  refine g_less [some (.ref 79), some (.int (nI q)), some (.int (nI m))] ⟨rfl, rfl, rfl, trivial⟩ ?_
  refine g_aload_n (nx := 1) hX 0 dX11_isMin_0 rfl rfl rfl ?_
  refine g_iload_n (nx := 2) hX 1 dX11_isMin_1 rfl rfl rfl ?_
  refine g_iload_n (nx := 3) hX 2 dX11_isMin_2 rfl rfl rfl ?_
  refine g_ldc2_w (nx := 6) hX 7170414 dX11_isMin_3 rfl kX11_209 ?_
  refine g_iconst (nx := 7) hX 3 dX11_isMin_6 rfl (by decide) ?_
  refine g_V4 (nx := 10) hX dX11_isMin_7 rfl mX11_199 yX11_spells_ok (c_X11_spells (l := 3) (K := 13614) (h := wL [13, 9, 14]) (by decide) (by omega) (by decide +kernel) (by decide +kernel) hn hm hl) (ga_dn hn rfl) rfl rfl rfl (by decide) rfl (Nat.le_of_ble_eq_true rfl) (Nat.le_of_ble_eq_true rfl) ?_
  rintro _ _ ⟨rfl, rfl⟩
  exact g_ireturn hX hP dX11_isMin_10 (ga_b_nar _) (Nat.le_of_ble_eq_true rfl) (Nat.le_of_ble_eq_true rfl) ⟨rfl, rfl⟩
end
