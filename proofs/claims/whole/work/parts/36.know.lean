/-! ===== knowAt; the places ===== -/
/-- who was struck by which act -/
def a_st (A : w_A) (av : Nat → a_S) (an : Nat) : Prop := ∀ k, 1 ≤ k → k ≤ an → 0 ≤ A.2.1 k → A.2.2.2.2.2 k = 0 ∨ ∃ m, 1 ≤ m ∧ m ≤ an ∧ A.2.2.2.2.2 k = nI m ∧ (av m).1 = A.1 k
theorem y_at_mv {A : w_A} {ah : Nat → Int32} {av : Nat → a_S} {an r lo hi : Nat} (hA : a_ok A av an) (hS : a_st A av an) (h1 : lo ≤ hi) (h2 : hi ≤ an) (ha : an ≤ 400) (hm : ∀ k, lo < k → k ≤ hi → (av k).1 ≠ nI r) : y_at A ah r hi hi = y_at A ah r lo lo := by
  rw [y_at_keep (k := lo) h1 (fun i g1 g2 => fun z => by
    obtain ⟨nx, r', e1, _, e2, _⟩ := hA i (by omega) (by omega) z.1
    apply hm i g1 g2
    rw [e2]; exact z.2)]
  have key : ∀ j, j ≤ lo → y_at A ah r hi j = y_at A ah r lo j := by
    intro j
    induction j with
    | zero => intro _; rfl
    | succ j ih =>
      intro hj
      have ih := ih (by omega)
      have hs := hS (j + 1) (by omega) (by omega)
      obtain ⟨mw, mr, mf, ma, mb, ms⟩ := A
      dsimp only at hs
      rw [y_at, y_at, ih]
      have hc : (j + 1 ≤ hi ∧ 0 ≤ mr (j + 1) ∧ mw (j + 1) = nI r ∧ (ms (j + 1) = 0 ∨ nI hi < ms (j + 1))) ↔ (j + 1 ≤ lo ∧ 0 ≤ mr (j + 1) ∧ mw (j + 1) = nI r ∧ (ms (j + 1) = 0 ∨ nI lo < ms (j + 1))) := by
        constructor
        · rintro ⟨g1, g2, g3, g4⟩
          refine ⟨hj, g2, g3, ?_⟩
          rcases hs g2 with e | ⟨m, m1, m2, e, e2⟩
          · exact Or.inl e
          · rcases g4 with g4 | g4
            · exact Or.inl g4
            · right
              rw [e] at g4 ⊢
              have := (nI_ltI (by omega) (by omega)).mp g4
              exact nI_lt (by omega) (by omega)
        · rintro ⟨g1, g2, g3, g4⟩
          refine ⟨by omega, g2, g3, ?_⟩
          rcases hs g2 with e | ⟨m, m1, m2, e, e2⟩
          · exact Or.inl e
          · rcases g4 with g4 | g4
            · exact Or.inl g4
            · right
              rw [e] at g4 ⊢
              have h5 := (nI_ltI (by omega) (by omega)).mp g4
              refine nI_lt ?_ (by omega)
              rcases Nat.lt_or_ge hi m with h6 | h6
              · exact h6
              · exact absurd (e2.trans g3) (hm m h5 h6)
      by_cases h : j + 1 ≤ hi ∧ 0 ≤ mr (j + 1) ∧ mw (j + 1) = nI r ∧ (ms (j + 1) = 0 ∨ nI hi < ms (j + 1))
      · rw [if_pos h, if_pos (hc.mp h)]
      · rw [if_neg h, if_neg (fun z => h (hc.mpr z))]
  exact key lo (Nat.le_refl lo)
theorem s_F_mv {W : w_W} {R : e_R} {av : Nat → a_S} {an r a b : Nat} (hA : a_ok W.1 av an) (hS : a_st W.1 av an) (h1 : a ≤ an) (h2 : b ≤ an) (ha : an ≤ 400) (hm : ∀ k, min a b < k → k ≤ max a b → (av k).1 ≠ nI r) : s_F W R r a = s_F W R r b := by
  have e : s_0 W r a = s_0 W r b := by
    unfold s_0 y_S
    have e2 : y_at W.1 W.2.1 r a a = y_at W.1 W.2.1 r b b := by
      rcases Nat.le_total a b with h | h
      · exact (y_at_mv hA hS h h2 ha (fun k g1 g2 => hm k (by omega) (by omega))).symm
      · exact y_at_mv hA hS h h1 ha (fun k g1 g2 => hm k (by omega) (by omega))
    rw [e2]
  unfold s_F
  rw [e]
theorem b_mv_kn {W : w_W} {R : e_R} {av : Nat → a_S} {an rn ka t : Nat} {sv0 sv : Nat → sh_S} (hA : a_ok W.1 av an) (hS : a_st W.1 av an) (h1 : ka ≤ an) (h2 : t ≤ an) (ha : an ≤ 400) (h0 : b_ok W R rn ka sv0) (hm : b_mv av (min ka t) (max ka t) sv0 sv) : b_kn W R rn t 0 sv := by
  refine ⟨fun r hr => absurd hr (Nat.not_lt_zero r), fun r _ hr hz => ?_⟩
  obtain ⟨e, hk⟩ := hm r hr hz
  rw [e] at hz ⊢
  obtain ⟨g1, g2⟩ := h0 r hr hz
  exact ⟨g1, g2.trans (s_F_mv hA hS h1 h2 ha hk)⟩
section
variable {E : ga_E} {X : ga_X} {n : Nat} {c0 c1 c2 c3 c4 c5 c6 c7 c8 c9 c10 c11 c12 c13 c14 c15 c16 c17 c18 c19 c20 c21 c22 c23 c24 c25 c26 c27 c28 c29 c30 m79 m80 m81 m82 m83 m84 m85 m86 m87 m88 m89 m90 m91 m92 m93 m94 m95 m96 m97 m98 m99 m100 m101 m102 m103 m104 m105 : ga_C} {L1 L2 : List ga_C} {f : Nat → ga_C} {o_tp o_rd o_fe o_em o_sp o_ac o_td o_sm o_tt o_at o_sz o_fk o_fp o_nw o_md o_nt o_pl o_op d_at d_tk d_ta d_fd d_fa : Int32} {d_tv : Int64} {d_rl : Value}
variable {size tot fm em sp op ask top hd : Int32} {s : Nat → Int64} {sv : Nat → sh_S} {av : Nat → a_S} {r q rn fn an ka sm : Nat} {cd : Nat → Nat × Nat} {en : Nat → Nat} {fo st_ od eo tm sz ah ou se : Nat → Int32} {ol : Nat → Option Nat}
variable {A : w_A}
theorem c_X1_knowAt {t : Nat} (ha : an ≤ 400) (hr : rn ≤ 24) (hka : ka ≤ an) (ht : t ≤ an) (hf : fn ≤ 30) (hA : a_ok A av an) (hS : a_st A av an) (ho : ∀ r, r < rn → a_ch A an r 0 (ol r)) (hcd : e_cd cd st_ od) (heo : e_eo en eo) (hR : e_Rok cd en sm) (hsv : b_ok (A, ah, ou, op, fn) (cd, en, fo, sm, tot) rn ka sv) : ga_Mt E 6 yX1_knowAt cX1_knowAt 4 none 0 0 [.ref 27, .int (nI t)] (an + 106, (k_0 ask :: c1 :: c2 :: k_R rn :: ga_i 24 tm :: ga_i 6 sz :: k_C fm em sp fn op :: ga_i 32 ah :: ga_i 30 ou :: k_L an :: ga_r 4 401 (l_w an) :: ga_r 4 24 ol :: c12 :: c13 :: c14 :: k_U 15 top size tot (nI sm) :: ga_i 600 st_ :: ga_i 600 od :: ga_i 24 eo :: ga_i 24 fo :: ga_l 32 s :: c21 :: c22 :: c23 :: c24 :: c25 :: c26 :: k_B ka :: ga_r 3 24 b_w :: k_Y hd :: ga_i 120 se :: []), L2, sh_f sv (a_f av)) (fun w M => w = none ∧ ∃ top s hd se sv, b_kn (A, ah, ou, op, fn) (cd, en, fo, sm, tot) rn t rn sv ∧ M = (an + 106, (k_0 ask :: c1 :: c2 :: k_R rn :: ga_i 24 tm :: ga_i 6 sz :: k_C fm em sp fn op :: ga_i 32 ah :: ga_i 30 ou :: k_L an :: ga_r 4 401 (l_w an) :: ga_r 4 24 ol :: c12 :: c13 :: c14 :: k_U 15 top size tot (nI sm) :: ga_i 600 st_ :: ga_i 600 od :: ga_i 24 eo :: ga_i 24 fo :: ga_l 32 s :: c21 :: c22 :: c23 :: c24 :: c25 :: c26 :: k_B t :: ga_r 3 24 b_w :: k_Y hd :: ga_i 120 se :: []), L2, sh_f sv (a_f av))) := by
  have hn : 106 ≤ an + 106 := by omega
  refine ga_Mt.of (by decide) rfl (fun X hX hP => ?_)
  refine g_less [some (.ref 27), some (.int (nI t)), none, none] ⟨rfl, rfl, trivial⟩ ?_
  have tail : ∀ top s hd se sv, b_kn (A, ah, ou, op, fn) (cd, en, fo, sm, tot) rn t rn sv → ga_G E X 0 0 61 [some (.ref 27), some (.int (nI t)), none, none] [] (an + 106, (k_0 ask :: c1 :: c2 :: k_R rn :: ga_i 24 tm :: ga_i 6 sz :: k_C fm em sp fn op :: ga_i 32 ah :: ga_i 30 ou :: k_L an :: ga_r 4 401 (l_w an) :: ga_r 4 24 ol :: c12 :: c13 :: c14 :: k_U 15 top size tot (nI sm) :: ga_i 600 st_ :: ga_i 600 od :: ga_i 24 eo :: ga_i 24 fo :: ga_l 32 s :: c21 :: c22 :: c23 :: c24 :: c25 :: c26 :: k_B t :: ga_r 3 24 b_w :: k_Y hd :: ga_i 120 se :: []), L2, sh_f sv (a_f av)) := by
    intro top s hd se sv hs
    exact g_return hX hP dX1_knowAt_61 (Nat.le_of_ble_eq_true rfl) (Nat.le_of_ble_eq_true rfl) ⟨rfl, top, s, hd, se, sv, hs, rfl⟩
  refine g_aload_n (nx := 1) hX 0 dX1_knowAt_0 rfl rfl rfl ?_
  refine g_iload_n (nx := 2) hX 1 dX1_knowAt_1 rfl rfl rfl ?_
  refine g_V1 (nx := 5) hX dX1_knowAt_2 rfl mX1_48 yX1_moveTo_ok (c_X1_moveTo ha hka ht) (ga_dn hn rfl) rfl rfl rfl (by decide) rfl (Nat.le_of_ble_eq_true rfl) (Nat.le_of_ble_eq_true rfl) ?_
  rintro _ _ ⟨rfl, sv', hsv', rfl⟩
  refine g_iconst (nx := 6) hX 0 dX1_knowAt_5 rfl (by decide) ?_
  refine g_istore_n (nx := 7) hX 2 dX1_knowAt_6 rfl rfl rfl ?_
  exact g_ls (kn_loop hX (by decide) ha hr ht hf hA ho hcd heo hR tail rn 0 top s hd se sv' (by omega) (by omega) (b_mv_kn hA hS hka ht ha hsv hsv')) ⟨rfl, rfl, rfl, trivial⟩
end
