/-! ===== what a sheet says as known at an act; knowAt ===== -/
/-- what the acts, the clocks, the fences are -/
abbrev w_W : Type := w_A × (Nat → Int32) × (Nat → Int32) × Int32 × Nat
/-- the rules: steps, ends, forms, how many, the slot of the total -/
abbrev e_R : Type := (Nat → Nat × Nat) × (Nat → Nat) × (Nat → Int32) × Nat × Int32
abbrev s_0 (W : w_W) (r t : Nat) : sh_S := y_S W.1 W.2.1 W.2.2.1 W.2.2.2.1 W.2.2.2.2 t r t 0 0 0
def s_F (W : w_W) (R : e_R) (r t : Nat) : sh_S := (0, (s_0 W r t).2.1, (s_0 W r t).2.2.1, (s_0 W r t).2.2.2.1, (s_0 W r t).2.2.2.2.1, (s_0 W r t).2.2.2.2.2.1, e_of R.1 R.2.1 R.2.2.1 (s_v (s_0 W r t)) R.2.2.2.1, s_tot (e_vs R.1 R.2.1 (s_v (s_0 W r t)) R.2.2.2.1) R.2.2.2.2, e_vs R.1 R.2.1 (s_v (s_0 W r t)) R.2.2.2.1)
theorem y_S_eta {A : w_A} {ah ou : Nat → Int32} {op : Int32} {fn an r t : Nat} {a1 a7 : Int32} {u : Int64} (ht : t ≤ an) : y_S A ah ou op fn an r t a1 a7 u = (a1, (s_0 (A, ah, ou, op, fn) r t).2.1, (s_0 (A, ah, ou, op, fn) r t).2.2.1, (s_0 (A, ah, ou, op, fn) r t).2.2.2.1, (s_0 (A, ah, ou, op, fn) r t).2.2.2.2.1, (s_0 (A, ah, ou, op, fn) r t).2.2.2.2.2.1, a7, u, s_v (s_0 (A, ah, ou, op, fn) r t)) := by
  unfold s_0 y_S
  rw [y_at_end ht]
theorem i64_bd (x : Int32) : e_bd x.toInt64 := by
  unfold e_bd
  rw [Int32.toInt_toInt64]
  have h1 := Int32.le_toInt x
  have h2 := Int32.toInt_lt x
  omega
theorem lN_bd2 {k : Nat} (h : k ≤ 1000000) : e_bd (lN k) := by
  unfold e_bd
  rw [pk_lT (by omega)]; omega
theorem s_0_bd {W : w_W} {r t : Nat} (ht : t ≤ 400) (hf : W.2.2.2.2 ≤ 30) (j : Nat) : e_bd (s_v (s_0 W r t) j) := by
  obtain ⟨A, ah, ou, op, fn⟩ := W
  have hsm := y_sm_at (A := A) (ah := ah) (r := r) (t := t) t
  unfold s_0 y_S
  dsimp only at hf ⊢
  revert hsm
  generalize y_at A ah r t t = T
  obtain ⟨mr, rg, kn, lk, rt, s, fi, hd, sn⟩ := T
  rintro ⟨h1, h2, h3, h4⟩
  have hq := y_q_le (ou := ou) (s := s) (sn := sn) (fun i f => by have := h4 i f; omega) fn j
  have hq2 : 400 * fn ≤ 12000 := by omega
  show e_bd (y_w (y_vt (mr, rg, kn, lk, rt, s, fi, hd, sn) op) (y_q ou s sn fn) j)
  unfold y_w y_vt y_v
  dsimp only
  split
  · exact lN_bd2 (by omega)
  repeat' split
  all_goals first
    | exact i64_bd _
    | exact lN_bd2 (by omega)
    | exact ⟨by decide, by decide⟩
section
variable {E : ga_E} {X : ga_X} {n : Nat} {c0 c1 c2 c3 c4 c5 c6 c7 c8 c9 c10 c11 c12 c13 c14 c15 c16 c17 c18 c19 c20 c21 c22 c23 c24 c25 c26 c27 c28 c29 c30 m79 m80 m81 m82 m83 m84 m85 m86 m87 m88 m89 m90 m91 m92 m93 m94 m95 m96 m97 m98 m99 m100 m101 m102 m103 m104 m105 : ga_C} {L1 L2 : List ga_C} {f : Nat → ga_C} {o_tp o_rd o_fe o_em o_sp o_ac o_td o_sm o_tt o_at o_sz o_fk o_fp o_nw o_md o_nt o_pl o_op d_at d_tk d_ta d_fd d_fa : Int32} {d_tv : Int64} {d_rl : Value}
variable {size tot fm em sp op ask top hd : Int32} {s : Nat → Int64} {sv : Nat → sh_S} {av : Nat → a_S} {r q rn fn an ka sm : Nat} {cd : Nat → Nat × Nat} {en : Nat → Nat} {fo st_ od eo tm sz ah ou se : Nat → Int32} {ol : Nat → Option Nat}
variable {A : w_A}
/-- the sheets that are not stale are as known at the act -/
def b_ok (W : w_W) (R : e_R) (rn ka : Nat) (sv : Nat → sh_S) : Prop := ∀ r, r < 24 → (sv r).1 = 0 → r < rn ∧ sv r = s_F W R r ka
def b_kn (W : w_W) (R : e_R) (rn t k : Nat) (sv : Nat → sh_S) : Prop := (∀ r, r < k → sv r = s_F W R r t) ∧ ∀ r, k ≤ r → r < 24 → (sv r).1 = 0 → r < rn ∧ sv r = s_F W R r t
set_option maxHeartbeats 1000000 in
theorem kn_loop {d mc ms t : Nat} (hX : ga_B E d yX1_knowAt cX1_knowAt 4 mc ms X) (hd1 : 6 ≤ d) (ha : an ≤ 400) (hr : rn ≤ 24) (ht : t ≤ an) (hf : fn ≤ 30) (hA : a_ok A av an) (ho : ∀ r, r < rn → a_ch A an r 0 (ol r)) (hcd : e_cd cd st_ od) (heo : e_eo en eo) (hR : e_Rok cd en sm)
    (kont : ∀ top s hd se sv, b_kn (A, ah, ou, op, fn) (cd, en, fo, sm, tot) rn t rn sv → ga_G E X 0 0 61 [some (.ref 27), some (.int (nI t)), none, none] [] (an + 106, (k_0 ask :: c1 :: c2 :: k_R rn :: ga_i 24 tm :: ga_i 6 sz :: k_C fm em sp fn op :: ga_i 32 ah :: ga_i 30 ou :: k_L an :: ga_r 4 401 (l_w an) :: ga_r 4 24 ol :: c12 :: c13 :: c14 :: k_U 15 top size tot (nI sm) :: ga_i 600 st_ :: ga_i 600 od :: ga_i 24 eo :: ga_i 24 fo :: ga_l 32 s :: c21 :: c22 :: c23 :: c24 :: c25 :: c26 :: k_B t :: ga_r 3 24 b_w :: k_Y hd :: ga_i 120 se :: []), L2, sh_f sv (a_f av))) :
    ∀ (m k : Nat) (top : Int32) (s : Nat → Int64) (hd : Int32) (se : Nat → Int32) (sv : Nat → sh_S), k ≤ rn → rn - k ≤ m → b_kn (A, ah, ou, op, fn) (cd, en, fo, sm, tot) rn t k sv → ga_G E X 0 0 7 [some (.ref 27), some (.int (nI t)), some (.int (nI k)), none] [] (an + 106, (k_0 ask :: c1 :: c2 :: k_R rn :: ga_i 24 tm :: ga_i 6 sz :: k_C fm em sp fn op :: ga_i 32 ah :: ga_i 30 ou :: k_L an :: ga_r 4 401 (l_w an) :: ga_r 4 24 ol :: c12 :: c13 :: c14 :: k_U 15 top size tot (nI sm) :: ga_i 600 st_ :: ga_i 600 od :: ga_i 24 eo :: ga_i 24 fo :: ga_l 32 s :: c21 :: c22 :: c23 :: c24 :: c25 :: c26 :: k_B t :: ga_r 3 24 b_w :: k_Y hd :: ga_i 120 se :: []), L2, sh_f sv (a_f av)) := by
  have hn : 106 ≤ an + 106 := by omega
  intro m
  induction m with
  | zero =>
    intro k top s hd se sv h1 h2 h3
    have e : k = rn := by omega
    subst e
    refine g_iload_n (nx := 8) hX 2 dX1_knowAt_7 rfl rfl rfl ?_
    refine g_aload_n (nx := 9) hX 0 dX1_knowAt_8 rfl rfl rfl ?_
    refine g_getfield (nx := 12) hX dX1_knowAt_9 rfl fX1_19 (ga_dn hn rfl) rfl rfl ?_
    refine g_getfield (nx := 15) hX dX1_knowAt_12 rfl fX1_51 (ga_dn hn rfl) rfl rfl ?_
    refine g_icmp_ge (nx := 18) hX 61 dX1_knowAt_15 (by decide) rfl (fun h15 => ?_) (fun h15 => ?_)
    · exact g_ls (kont top s hd se sv h3) ⟨rfl, rfl, trivial⟩
    · exact absurd (nI_le (Nat.le_refl k) (by omega)) h15
  | succ m ih =>
    intro k top s hd se sv h1 h2 h3
    refine g_iload_n (nx := 8) hX 2 dX1_knowAt_7 rfl rfl rfl ?_
    refine g_aload_n (nx := 9) hX 0 dX1_knowAt_8 rfl rfl rfl ?_
    refine g_getfield (nx := 12) hX dX1_knowAt_9 rfl fX1_19 (ga_dn hn rfl) rfl rfl ?_
    refine g_getfield (nx := 15) hX dX1_knowAt_12 rfl fX1_51 (ga_dn hn rfl) rfl rfl ?_
    refine g_icmp_ge (nx := 18) hX 61 dX1_knowAt_15 (by decide) rfl (fun h15 => ?_) (fun h15 => ?_)
    · have e : k = rn := by have := (nI_leI (a := rn) (b := k) (by omega) (by omega)).mp h15; omega
      subst e
      exact g_ls (kont top s hd se sv h3) ⟨rfl, rfl, trivial⟩
    · have hlt : k < rn := Nat.lt_of_not_le (fun z => h15 (nI_le z (by omega)))
      have hk : k < 24 := by omega
      refine g_aload_n (nx := 19) hX 0 dX1_knowAt_18 rfl rfl rfl ?_
      refine g_getfield (nx := 22) hX dX1_knowAt_19 rfl fX1_13 (ga_dn hn rfl) rfl rfl ?_
      refine g_iload_n (nx := 23) hX 2 dX1_knowAt_22 rfl rfl rfl ?_
      refine g_aaload3 (nx := 24) hX dX1_knowAt_23 rfl (ga_dn hn rfl) rfl (ga_ix_of (j := k) rfl (by omega) (by omega)) ?_
      refine g_astore_n (nx := 25) hX 3 dX1_knowAt_24 rfl rfl rfl ?_
      refine g_aload_n (nx := 26) hX 3 dX1_knowAt_25 rfl rfl rfl ?_
      refine g_getfield (nx := 29) hX dX1_knowAt_26 rfl fX1_55 (dm_o hn hk) (get_so hk) rfl ?_
      refine g_if_eq (nx := 32) hX 55 dX1_knowAt_29 (by decide) rfl (fun h29 => ?_) (fun h29 => ?_)
      · have h4 : b_kn (A, ah, ou, op, fn) (cd, en, fo, sm, tot) rn t (k + 1) sv := ⟨fun r hr => by
          by_cases e : r = k
          · rw [e]; exact (h3.2 k (Nat.le_refl k) hk h29).2
          · exact h3.1 r (by omega), fun r hr => h3.2 r (by omega)⟩
        refine g_iinc (nx := 58) hX 2 (nI (k + 1)) dX1_knowAt_55 rfl rfl rfl (nI_1 k) ?_
        refine g_goto (nx := 7) hX dX1_knowAt_58 (by decide) ?_
        exact g_ls (ih (k + 1) top s hd se _ (by omega) (by omega) h4) ⟨rfl, rfl, rfl, trivial⟩
      · have h4 : b_kn (A, ah, ou, op, fn) (cd, en, fo, sm, tot) rn t (k + 1) (va_up sv k (s_F (A, ah, ou, op, fn) (cd, en, fo, sm, tot) k t)) := ⟨fun r hr => by
          by_cases e : r = k
          · rw [e, up_s]
          · rw [up_n e]; exact h3.1 r (by omega), fun r hr h24 hz => by
          rw [up_n (by omega)] at hz ⊢; exact h3.2 r (by omega) h24 hz⟩
        have esv : sv = va_up sv k (sv k) := (up_self sv k).symm
        revert esv
        generalize sv k = S0
        obtain ⟨a1, a2, a3, a4, a5, a6, a7, u, v⟩ := S0
        intro esv
        refine g_mem (M' := (an + 106, (k_0 ask :: c1 :: c2 :: k_R rn :: ga_i 24 tm :: ga_i 6 sz :: k_C fm em sp fn op :: ga_i 32 ah :: ga_i 30 ou :: k_L an :: ga_r 4 401 (l_w an) :: ga_r 4 24 ol :: c12 :: c13 :: c14 :: k_U 15 top size tot (nI sm) :: ga_i 600 st_ :: ga_i 600 od :: ga_i 24 eo :: ga_i 24 fo :: ga_l 32 s :: c21 :: c22 :: c23 :: c24 :: c25 :: c26 :: k_B t :: ga_r 3 24 b_w :: k_Y hd :: ga_i 120 se :: []), L2, sh_f (va_up sv k (a1, a2, a3, a4, a5, a6, a7, u, v)) (a_f av))) (by rw [← esv]) ?_
        refine g_aload_n (nx := 33) hX 0 dX1_knowAt_32 rfl rfl rfl ?_
        refine g_getfield (nx := 36) hX dX1_knowAt_33 rfl fX1_36 (ga_dn hn rfl) rfl rfl ?_
        refine g_aload_n (nx := 37) hX 3 dX1_knowAt_36 rfl rfl rfl ?_
        refine g_iload_n (nx := 38) hX 2 dX1_knowAt_37 rfl rfl rfl ?_
        refine g_iload_n (nx := 39) hX 1 dX1_knowAt_38 rfl rfl rfl ?_
        refine g_V3 (nx := 42) hX dX1_knowAt_39 rfl mX1_59 yX8_fill_ok (c_X8_fill hk ha ht hf hA (ho k hlt)) (ga_dn hn rfl) rfl rfl rfl (by omega) rfl (Nat.le_of_ble_eq_true rfl) (Nat.le_of_ble_eq_true rfl) ?_
        rintro _ _ ⟨rfl, rfl⟩
        rw [y_S_eta ht]
        refine g_aload_n (nx := 43) hX 0 dX1_knowAt_42 rfl rfl rfl ?_
        refine g_getfield (nx := 46) hX dX1_knowAt_43 rfl fX1_27 (ga_dn hn rfl) rfl rfl ?_
        refine g_aload_n (nx := 47) hX 3 dX1_knowAt_46 rfl rfl rfl ?_
        refine g_V1 (nx := 50) hX dX1_knowAt_47 rfl mX1_63 yX6_apply_ok (c_X6_apply hn hk hcd heo hR (fun j _ => s_0_bd (by omega) hf j)) (ga_dn hn rfl) rfl rfl rfl (by omega) rfl (Nat.le_of_ble_eq_true rfl) (Nat.le_of_ble_eq_true rfl) ?_
        rintro _ _ ⟨top', s', rfl, rfl⟩
        refine g_aload_n (nx := 51) hX 3 dX1_knowAt_50 rfl rfl rfl ?_
        refine g_iconst (nx := 52) hX 0 dX1_knowAt_51 rfl (by decide) ?_
        refine g_putfield (nx := 55) hX dX1_knowAt_52 rfl pX1_55 (dm_o hn hk) (get_soE hk) rfl rfl rfl ?_
        refine g_mem (put_soF hk) ?_
        refine g_iinc (nx := 58) hX 2 (nI (k + 1)) dX1_knowAt_55 rfl rfl rfl (nI_1 k) ?_
        refine g_goto (nx := 7) hX dX1_knowAt_58 (by decide) ?_
        exact g_ls (ih (k + 1) top' s' _ _ _ (by omega) (by omega) h4) ⟨rfl, rfl, rfl, trivial⟩
end
