/-! ===== the reference: a statement, whole ===== -/
def R_st (tb : Nat → Int32) (lt : Nat) (nm : Nat → Int64) (nw q : Nat) : z_R := if x_tk tb lt q = 97 ∧ nw < 24 then R_one tb lt nm q else .inl (1, q)
section
variable {E : ga_E} {X : ga_X} {n : Nat} {c0 c1 c2 c3 c4 c5 c6 c7 c8 c9 c10 c11 c12 c13 c14 c15 c16 c17 c18 c19 c20 c21 c22 c23 c24 c25 c26 c27 c28 c29 c30 m79 m80 m81 m82 m83 m84 m85 m86 m87 m88 m89 m90 m91 m92 m93 m94 m95 m96 m97 m98 m99 m100 m101 m102 m103 m104 m105 : ga_C} {L1 L2 : List ga_C} {f : Nat → ga_C} {o_tp o_rd o_fe o_em o_sp o_ac o_td o_sm o_tt o_at o_sz o_fk o_fp o_nw o_md o_nt o_pl o_op d_at d_tk d_ta d_fd d_fa : Int32} {d_tv : Int64} {d_rl : Value}
variable {r_at r_fk r_fp r_nt r_pl r_op : Int32} {nw md lt : Nat} {tb ns nb sg na nz pi cm : Nat → Int32}
variable {q : Nat} {C : List (Nat × Nat)} {nm : Nat → Int64}
theorem x_3 {K : Int64} {l : List Nat} (hm : ∀ i, i < x_we tb lt q - q → x_let (tb (q + i))) (h1 : ∀ k, k < l.length → 1 ≤ wL l k ∧ wL l k ≤ 26) (h2 : l.length ≤ 10) (hK : lN (wN (wL l) l.length) = K) (h : x_wv tb q (x_we tb lt q - q) = K) : x_we tb lt q - q = l.length :=
  ((x_sp hm h1 h2).mpr (h.trans hK.symm)).1
theorem c_X11_statement (hn : 106 ≤ n) (hl : lt ≤ 600) (hw : nw ≤ 24) (hN : r_nm tb nm nw ns nz na) (hq : q ≤ lt) (hid : x_sk tb lt q = q) (hC : C.length ≤ q) : ga_Mt E 4 yX11_statement cX11_statement 5 none 0 0 [.ref 79] (n, L1, ((m_O o_tp o_rd o_fe o_em o_sp o_ac o_td o_sm o_tt (nI q) (nI lt) (0) (-1) (nI nw) (nI C.length) (r_nt) (r_pl) (r_op)) :: ga_i 600 tb :: m81 :: m82 :: m83 :: m84 :: m85 :: m86 :: m87 :: m88 :: m89 :: m90 :: m91 :: m92 :: m93 :: m94 :: m95 :: ga_i 25 (ns) :: ga_i 26 (nb) :: ga_i 1300 (r_sg C sg) :: ga_i 250 (na) :: ga_i 25 (nz) :: ga_i 40 (pi) :: ga_z 40 (cm) :: L2), f) (fun r M => r = none ∧ ((∃ k pl, R_st tb lt nm nw q = .inl (k, pl) ∧ (1 ≤ k ∧ k ≤ 4) ∧ (∃ p pl_ op_ nw md r_nt sg pi cm ns nb na nz, p ≤ 700 ∧ M = (n, L1, ((m_O o_tp o_rd o_fe o_em o_sp o_ac o_td o_sm o_tt (nI p) (nI lt) (nI (k)) (nI (pl)) (nI nw) (nI md) (r_nt) (pl_) (op_)) :: ga_i 600 tb :: m81 :: m82 :: m83 :: m84 :: m85 :: m86 :: m87 :: m88 :: m89 :: m90 :: m91 :: m92 :: m93 :: m94 :: m95 :: ga_i 25 (ns) :: ga_i 26 (nb) :: ga_i 1300 (sg) :: ga_i 250 (na) :: ga_i 25 (nz) :: ga_i 40 (pi) :: ga_z 40 (cm) :: L2), f))) ∨ ∃ q' c' p' pl_ op_ pi cm na_ nz_, R_st tb lt nm nw q = .inr (q', c') ∧ p' ≤ lt ∧ x_sk tb lt p' = q' ∧ r_nm tb (x_nm nm nw (x_tv tb lt q)) (nw + 1) (upd ns nw (nI (x_fm (x_tv tb lt q)))) nz_ na_ ∧ M = (n, L1, ((m_O o_tp o_rd o_fe o_em o_sp o_ac o_td o_sm o_tt (nI p') (nI lt) (0) (-1) (nI (nw + 1)) (nI (C ++ c').length) (if x_fm (x_tv tb lt q) = 0 ∧ x_tv tb lt q = 21483564 then nI nw else r_nt) (pl_) (op_)) :: ga_i 600 tb :: m81 :: m82 :: m83 :: m84 :: m85 :: m86 :: m87 :: m88 :: m89 :: m90 :: m91 :: m92 :: m93 :: m94 :: m95 :: ga_i 25 (upd ns nw (nI (x_fm (x_tv tb lt q)))) :: ga_i 26 (upd nb nw (nI C.length)) :: ga_i 1300 (r_sg (C ++ c') sg) :: ga_i 250 (na_) :: ga_i 25 (nz_) :: ga_i 40 (pi) :: ga_z 40 (cm) :: L2), f))) := by
  have hte := x_te_le (tb := tb) hq
  have hnx := x_nx_le (tb := tb) hq
  refine ga_Mt.of (by decide) rfl (fun X hX hP => ?_)
  refine g_less [some (.ref 79), none, none, none, none] ⟨rfl, trivial⟩ ?_
  have le4 : 4 ≤ 4 := by decide
  by_cases h97 : x_tk tb lt q = 97
  · obtain ⟨w1, w2, w3, w4, w5, w6⟩ := x_word h97 hl
    have hm : q + (x_we tb lt q - q) ≤ 600 := by omega
    have ea : nI q + nI (x_we tb lt q - q) = nI (x_te tb lt q) := by rw [nI_add, w4, w1]
    by_cases h24 : nw < 24
    · have hR0 : R_st tb lt nm nw q = R_one tb lt nm q := by unfold R_st; rw [if_pos ⟨h97, h24⟩]
      have hRE : ∀ e, R_stm tb lt nm q = .inl e → R_st tb lt nm nw q = .inl e := fun e z => by rw [hR0]; unfold R_one; rw [z]
      have hI : ∀ k pl, R_stm tb lt nm q = .inl (k, pl) → (1 ≤ k ∧ k ≤ 4) → ∀ M, (∃ p pl_ op_ nw md r_nt sg pi cm ns nb na nz, p ≤ 700 ∧ M = (n, L1, ((m_O o_tp o_rd o_fe o_em o_sp o_ac o_td o_sm o_tt (nI p) (nI lt) (nI (k)) (nI (pl)) (nI nw) (nI md) (r_nt) (pl_) (op_)) :: ga_i 600 tb :: m81 :: m82 :: m83 :: m84 :: m85 :: m86 :: m87 :: m88 :: m89 :: m90 :: m91 :: m92 :: m93 :: m94 :: m95 :: ga_i 25 (ns) :: ga_i 26 (nb) :: ga_i 1300 (sg) :: ga_i 250 (na) :: ga_i 25 (nz) :: ga_i 40 (pi) :: ga_z 40 (cm) :: L2), f)) → (none : Option Value) = none ∧ ((∃ k pl, R_st tb lt nm nw q = .inl (k, pl) ∧ (1 ≤ k ∧ k ≤ 4) ∧ (∃ p pl_ op_ nw md r_nt sg pi cm ns nb na nz, p ≤ 700 ∧ M = (n, L1, ((m_O o_tp o_rd o_fe o_em o_sp o_ac o_td o_sm o_tt (nI p) (nI lt) (nI (k)) (nI (pl)) (nI nw) (nI md) (r_nt) (pl_) (op_)) :: ga_i 600 tb :: m81 :: m82 :: m83 :: m84 :: m85 :: m86 :: m87 :: m88 :: m89 :: m90 :: m91 :: m92 :: m93 :: m94 :: m95 :: ga_i 25 (ns) :: ga_i 26 (nb) :: ga_i 1300 (sg) :: ga_i 250 (na) :: ga_i 25 (nz) :: ga_i 40 (pi) :: ga_z 40 (cm) :: L2), f))) ∨ ∃ q' c' p' pl_ op_ pi cm na_ nz_, R_st tb lt nm nw q = .inr (q', c') ∧ p' ≤ lt ∧ x_sk tb lt p' = q' ∧ r_nm tb (x_nm nm nw (x_tv tb lt q)) (nw + 1) (upd ns nw (nI (x_fm (x_tv tb lt q)))) nz_ na_ ∧ M = (n, L1, ((m_O o_tp o_rd o_fe o_em o_sp o_ac o_td o_sm o_tt (nI p') (nI lt) (0) (-1) (nI (nw + 1)) (nI (C ++ c').length) (if x_fm (x_tv tb lt q) = 0 ∧ x_tv tb lt q = 21483564 then nI nw else r_nt) (pl_) (op_)) :: ga_i 600 tb :: m81 :: m82 :: m83 :: m84 :: m85 :: m86 :: m87 :: m88 :: m89 :: m90 :: m91 :: m92 :: m93 :: m94 :: m95 :: ga_i 25 (upd ns nw (nI (x_fm (x_tv tb lt q)))) :: ga_i 26 (upd nb nw (nI C.length)) :: ga_i 1300 (r_sg (C ++ c') sg) :: ga_i 250 (na_) :: ga_i 25 (nz_) :: ga_i 40 (pi) :: ga_z 40 (cm) :: L2), f)) := fun k pl h1 h2 M h3 => ⟨rfl, Or.inl ⟨k, pl, hRE _ h1, h2, h3⟩⟩
      have t427 : ∀ (q2 : Nat) (c2 : List (Nat × Nat)) (pl_ op_ : Int32) (pi cm na_ nz_ : Nat → Int32), R_stm tb lt nm q = .inr (q2, c2) → x_sk tb lt q2 = q2 → r_nm tb (x_nm nm nw (x_tv tb lt q)) (nw + 1) (upd ns nw (nI (x_fm (x_tv tb lt q)))) nz_ na_ → ga_G E X 0 0 427 [some (.ref 79), none, none, none, none] [] (n, L1, ((m_O o_tp o_rd o_fe o_em o_sp o_ac o_td o_sm o_tt (nI q2) (nI lt) (0) (-1) (nI nw) (nI (C ++ c2).length) (if x_fm (x_tv tb lt q) = 0 ∧ x_tv tb lt q = 21483564 then nI nw else r_nt) (pl_) (op_)) :: ga_i 600 tb :: m81 :: m82 :: m83 :: m84 :: m85 :: m86 :: m87 :: m88 :: m89 :: m90 :: m91 :: m92 :: m93 :: m94 :: m95 :: ga_i 25 (upd ns nw (nI (x_fm (x_tv tb lt q)))) :: ga_i 26 (upd nb nw (nI C.length)) :: ga_i 1300 (r_sg (C ++ c2) sg) :: ga_i 250 (na_) :: ga_i 25 (nz_) :: ga_i 40 (pi) :: ga_z 40 (cm) :: L2), f) := by
        intro q2 c2 pl_ op_ pi cm na_ nz_ hR2 hid2 hN2
        have hl2 := ln_stm (nm := nm) _ _ _ hq hR2
        refine s_427 hX hP le4 hn hl hl2.2 hid2 (fun hno M hM => ⟨rfl, Or.inl ⟨1, q2, ?_, by omega, hM⟩⟩) (fun hyes => ⟨rfl, Or.inr ⟨x_nx tb lt q2, c2, q2 + 1, pl_, op_, pi, cm, na_, nz_, ?_, ?_, ?_, hN2, rfl⟩⟩)
        · rw [hR0]; unfold R_one; rw [hR2]; dsimp only; rw [if_neg hno]
        · rw [hR0]; unfold R_one; rw [hR2]; dsimp only; rw [if_pos hyes]
        · have := x_te_s1 (by decide) (by decide) (by decide) hyes; omega
        · have := x_te_s1 (by decide) (by decide) (by decide) hyes
          unfold x_nx; rw [this.1]
      have hgiv : ¬ x_tv tb lt q = 16052 → ¬ x_tv tb lt q = 20773 → R_stm tb lt nm q = R_giv tb lt nm q := fun h1 h2 => by unfold R_stm; rw [if_neg h1, if_neg h2]
      have kept : ¬ x_tv tb lt q = 16052 → ¬ x_tv tb lt q = 20773 → x_kept (x_tv tb lt q) → R_stm tb lt nm q = .inl (1, q) := fun h1 h2 h3 => by
        rw [hgiv h1 h2]; unfold R_giv; rw [show x_nE tb lt nm 0 q = some (1, q) by unfold x_nE; rw [if_pos h3]]
      have t108 : ¬ x_tv tb lt q = 294 → ¬ x_tv tb lt q = 13368 → ¬ x_tv tb lt q = 13614 → ¬ 10 < x_te tb lt q - q → ga_G E X 0 0 108 [some (.ref 79), some (.int (nI (x_we tb lt q - q))), some (.int (nI q)), none, none] [] (n, L1, ((m_O o_tp o_rd o_fe o_em o_sp o_ac o_td o_sm o_tt (nI (x_te tb lt q)) (nI lt) (0) (-1) (nI nw) (nI C.length) (r_nt) (r_pl) (r_op)) :: ga_i 600 tb :: m81 :: m82 :: m83 :: m84 :: m85 :: m86 :: m87 :: m88 :: m89 :: m90 :: m91 :: m92 :: m93 :: m94 :: m95 :: ga_i 25 (ns) :: ga_i 26 (upd nb nw (nI C.length)) :: ga_i 1300 (r_sg C sg) :: ga_i 250 (na) :: ga_i 25 (nz) :: ga_i 40 (pi) :: ga_z 40 (cm) :: L2), f) := by
        intro n1 n2 n3 h10
        refine g_aload_n (nx := 109) hX 0 dX11_statement_108 rfl rfl rfl ?_
        refine g_iload_n (nx := 110) hX 2 dX11_statement_109 rfl rfl rfl ?_
        refine g_iload_n (nx := 111) hX 1 dX11_statement_110 rfl rfl rfl ?_
        refine g_V2 (nx := 114) hX dX11_statement_111 rfl mX11_256 yX11_isOut_ok (c_X11_isOut hn hm w6) (ga_dn hn rfl) rfl rfl rfl (by decide) rfl (Nat.le_of_ble_eq_true rfl) (Nat.le_of_ble_eq_true rfl) ?_
        rintro _ _ ⟨rfl, rfl⟩
        refine g_if_eq (nx := 117) hX 274 dX11_statement_114 (by decide) rfl (fun h114 => ?_) (fun h114 => ?_)
        · have ho : ¬ x_tv tb lt q = 16052 := by rw [w2]; exact ga_b_0 h114
          refine g_aload_n (nx := 275) hX 0 dX11_statement_274 rfl rfl rfl ?_
          refine g_iload_n (nx := 276) hX 2 dX11_statement_275 rfl rfl rfl ?_
          refine g_iload_n (nx := 277) hX 1 dX11_statement_276 rfl rfl rfl ?_
          refine g_V2 (nx := 280) hX dX11_statement_277 rfl mX11_262 yX11_isTie_ok (c_X11_isTie hn hm w6) (ga_dn hn rfl) rfl rfl rfl (by decide) rfl (Nat.le_of_ble_eq_true rfl) (Nat.le_of_ble_eq_true rfl) ?_
          rintro _ _ ⟨rfl, rfl⟩
          refine g_if_eq (nx := 283) hX 300 dX11_statement_280 (by decide) rfl (fun h280 => ?_) (fun h280 => ?_)
          · have hi : ¬ x_tv tb lt q = 20773 := by rw [w2]; exact ga_b_0 h280
            have hf : x_fm (x_tv tb lt q) = 0 := by unfold x_fm; rw [if_neg ho, if_neg hi]
            have hst := hgiv ho hi
            have hkp : ¬ x_kept (x_tv tb lt q) := fun z => z.elim ho (fun z => z.elim n1 (fun z => z.elim hi (fun z => z.elim n2 n3)))
            refine g_ls (s_giv hX hP le4 hn hl h24 hN hq hC h97 hkp h10 (fun k pl h1 h2 => hI k pl (by rw [hst]; exact h1) h2) (fun q' c' pi cm h1 h2 => ?_)) ⟨rfl, rfl, rfl, trivial⟩
            have t := t427 q' c' 0 0 pi cm (r_na tb na q (10 * nw) (x_we tb lt q - q)) (upd nz nw (nI (x_we tb lt q - q))) (by rw [hst]; exact h1) h2 (by rw [hf, show x_nm nm nw (x_tv tb lt q) = vp_updL nm (15 + nw) (x_wv tb q (x_we tb lt q - q)) by unfold x_nm; rw [if_pos hf, ← w2]]; exact r_nm_g hN h24 w3 (by omega) w6 (fun i hi => by unfold r_na; rw [if_neg (by omega)]) (fun i hi => by unfold r_na; rw [if_pos (by omega), show q + (10 * nw + i - 10 * nw) = q + i by omega]))
            rw [hf] at t
            simp only [true_and] at t
            exact t
          · have hi : x_tv tb lt q = 20773 := by rw [w2]; exact ga_b_n0 h280
            have hf : x_fm (x_tv tb lt q) = 2 := by rw [hi]; decide
            have hst : R_stm tb lt nm q = R_S tb lt nm (x_nx tb lt q) := by unfold R_stm; rw [if_neg ho, if_pos hi]
            refine g_ls (s_tie (q := x_nx tb lt q) hX hP le4 hn hl h24 hN hte.2 rfl (by omega) (fun k pl h1 h2 => hI k pl (by rw [hst]; exact h1) h2) (fun q' c' pi cm h1 h2 => ?_)) ⟨rfl, trivial⟩
            have t := t427 q' c' 0 0 pi cm na nz (by rw [hst]; exact h1) h2 (by rw [hf, show x_nm nm nw (x_tv tb lt q) = nm by unfold x_nm; rw [if_neg (by omega)]]; exact r_nm_n hN h24 (by decide))
            rw [hf, if_neg (by omega)] at t
            exact t
        · have ho : x_tv tb lt q = 16052 := by rw [w2]; exact ga_b_n0 h114
          have hf : x_fm (x_tv tb lt q) = 1 := by rw [ho]; decide
          have hst : R_stm tb lt nm q = R_out tb lt nm q := by unfold R_stm; rw [if_pos ho]
          refine g_ls (s_out hX hP le4 hn hl h24 hN hq hC (fun k pl h1 h2 => hI k pl (by rw [hst]; exact h1) h2) (fun q' c' pi cm h1 h2 => ?_)) ⟨rfl, trivial⟩
          have t := t427 q' c' 0 0 pi cm na nz (by rw [hst]; exact h1) h2 (by rw [hf, show x_nm nm nw (x_tv tb lt q) = nm by unfold x_nm; rw [if_neg (by omega)]]; exact r_nm_n hN h24 (by decide))
          rw [hf, if_neg (by omega)] at t
          exact t
      have t62 : ¬ x_tv tb lt q = 294 → ¬ x_tv tb lt q = 13368 → ¬ x_tv tb lt q = 13614 → ga_G E X 0 0 62 [some (.ref 79), some (.int (nI (x_we tb lt q - q))), some (.int (nI q)), none, none] [] (n, L1, ((m_O o_tp o_rd o_fe o_em o_sp o_ac o_td o_sm o_tt (nI q) (nI lt) (0) (-1) (nI nw) (nI C.length) (r_nt) (r_pl) (r_op)) :: ga_i 600 tb :: m81 :: m82 :: m83 :: m84 :: m85 :: m86 :: m87 :: m88 :: m89 :: m90 :: m91 :: m92 :: m93 :: m94 :: m95 :: ga_i 25 (ns) :: ga_i 26 (nb) :: ga_i 1300 (r_sg C sg) :: ga_i 250 (na) :: ga_i 25 (nz) :: ga_i 40 (pi) :: ga_z 40 (cm) :: L2), f) := by
        intro n1 n2 n3
        refine g_iload_n (nx := 63) hX 1 dX11_statement_62 rfl rfl rfl ?_
        refine g_bipush (nx := 65) hX 10 dX11_statement_63 rfl (by decide) ?_
        refine g_icmp_le (nx := 68) hX 77 dX11_statement_65 (by decide) rfl (fun h65 => ?_) (fun h65 => ?_)
        · have h10 : ¬ 10 < x_te tb lt q - q := by have := (nI_leI (b := 10) (by omega) (by omega)).mp h65; omega
          refine g_aload_n (nx := 78) hX 0 dX11_statement_77 rfl rfl rfl ?_
          refine g_getfield (nx := 81) hX dX11_statement_78 rfl fX11_92 (ga_dn hn rfl) rfl rfl ?_
          refine g_if_le (nx := 84) hX 85 dX11_statement_81 (by decide) rfl (fun h81 => ?_) (fun h81 => ?_)
          · refine g_aload_n (nx := 86) hX 0 dX11_statement_85 rfl rfl rfl ?_
            refine g_getfield (nx := 89) hX dX11_statement_86 rfl fX11_110 (ga_dn hn rfl) rfl rfl ?_
            refine g_aload_n (nx := 90) hX 0 dX11_statement_89 rfl rfl rfl ?_
            refine g_getfield (nx := 93) hX dX11_statement_90 rfl fX11_98 (ga_dn hn rfl) rfl rfl ?_
            refine g_aload_n (nx := 94) hX 0 dX11_statement_93 rfl rfl rfl ?_
            refine g_getfield (nx := 97) hX dX11_statement_94 rfl fX11_101 (ga_dn hn rfl) rfl rfl ?_
            refine g_iastore (nx := 98) hX dX11_statement_97 rfl (ga_dn hn rfl) rfl (ga_ix_of (j := nw) rfl (by omega) (by omega)) ?_
            refine g_aload_n (nx := 99) hX 0 dX11_statement_98 rfl rfl rfl ?_
            refine g_dup (nx := 100) hX dX11_statement_99 rfl rfl ?_
            refine g_getfield (nx := 103) hX dX11_statement_100 rfl fX11_86 (ga_dn hn rfl) rfl rfl ?_
            refine g_iload_n (nx := 104) hX 1 dX11_statement_103 rfl rfl rfl ?_
            refine g_iadd (nx := 105) hX dX11_statement_104 rfl ?_
            rw [ea]
            refine g_putfield (nx := 108) hX dX11_statement_105 rfl pX11_86 (ga_dn hn rfl) rfl rfl rfl rfl ?_
            exact g_ls (t108 n1 n2 n3 h10) ⟨rfl, rfl, rfl, trivial⟩
          · exact absurd (by decide) h81
        · have h10 : 10 < x_te tb lt q - q := by have := Nat.lt_of_not_le (fun z => h65 (nI_le (b := 10) z (by omega))); omega
          have ho : ¬ x_tv tb lt q = 16052 := fun z => by have := x_3 (l := [15, 21, 20]) w6 (by decide) (by decide) (by decide +kernel) (w2.symm.trans z); simp only [List.length_cons, List.length_nil] at this; omega
          have hi : ¬ x_tv tb lt q = 20773 := fun z => by have := x_3 (l := [20, 9, 5]) w6 (by decide) (by decide) (by decide +kernel) (w2.symm.trans z); simp only [List.length_cons, List.length_nil] at this; omega
          have hkp : ¬ x_kept (x_tv tb lt q) := fun z => z.elim ho (fun z => z.elim n1 (fun z => z.elim hi (fun z => z.elim n2 n3)))
          have hR : R_stm tb lt nm q = .inl (1, q + 10) := by rw [hgiv ho hi]; unfold R_giv; rw [show x_nE tb lt nm 0 q = some (1, q + 10) by unfold x_nE; rw [if_neg hkp, if_pos h10]]
          refine g_aload_n (nx := 69) hX 0 dX11_statement_68 rfl rfl rfl ?_
          refine g_iconst (nx := 70) hX 1 dX11_statement_69 rfl (by decide) ?_
          refine g_iload_n (nx := 71) hX 2 dX11_statement_70 rfl rfl rfl ?_
          refine g_bipush (nx := 73) hX 10 dX11_statement_71 rfl (by decide) ?_
          refine g_iadd (nx := 74) hX dX11_statement_73 rfl ?_
          rw [show nI q + 10 = nI (q + 10) from nI_add q 10]
          refine g_V2 (nx := 77) hX dX11_statement_74 rfl mX11_189 yX11_blame_ok (m_blame hn) (ga_dn hn rfl) rfl rfl rfl (by decide) rfl (Nat.le_of_ble_eq_true rfl) (Nat.le_of_ble_eq_true rfl) ?_
          rintro _ _ ⟨rfl, rfl⟩
          exact g_ls (e_77 (k := 1) (pl := q + 10) (p := q) (md := C.length) hX hP le4 hn (by omega) (by omega) (hI 1 (q + 10) hR (by omega))) ⟨rfl, trivial⟩
      have t56 : (x_tv tb lt q = 294 ∨ x_tv tb lt q = 13368 ∨ x_tv tb lt q = 13614) → ga_G E X 0 0 56 [some (.ref 79), some (.int (nI (x_we tb lt q - q))), some (.int (nI q)), none, none] [] (n, L1, ((m_O o_tp o_rd o_fe o_em o_sp o_ac o_td o_sm o_tt (nI q) (nI lt) (0) (-1) (nI nw) (nI C.length) (r_nt) (r_pl) (r_op)) :: ga_i 600 tb :: m81 :: m82 :: m83 :: m84 :: m85 :: m86 :: m87 :: m88 :: m89 :: m90 :: m91 :: m92 :: m93 :: m94 :: m95 :: ga_i 25 (ns) :: ga_i 26 (nb) :: ga_i 1300 (r_sg C sg) :: ga_i 250 (na) :: ga_i 25 (nz) :: ga_i 40 (pi) :: ga_z 40 (cm) :: L2), f) := by
        intro hv
        have hR : R_stm tb lt nm q = .inl (1, q) := by
          rcases hv with h | h | h
          · exact kept (by rw [h]; decide) (by rw [h]; decide) (by rw [h]; decide)
          · exact kept (by rw [h]; decide) (by rw [h]; decide) (by rw [h]; decide)
          · exact kept (by rw [h]; decide) (by rw [h]; decide) (by rw [h]; decide)
        refine g_aload_n (nx := 57) hX 0 dX11_statement_56 rfl rfl rfl ?_
        refine g_iconst (nx := 58) hX 1 dX11_statement_57 rfl (by decide) ?_
        refine g_iload_n (nx := 59) hX 2 dX11_statement_58 rfl rfl rfl ?_
        refine g_V2 (nx := 62) hX dX11_statement_59 rfl mX11_189 yX11_blame_ok (m_blame hn) (ga_dn hn rfl) rfl rfl rfl (by decide) rfl (Nat.le_of_ble_eq_true rfl) (Nat.le_of_ble_eq_true rfl) ?_
        rintro _ _ ⟨rfl, rfl⟩
        exact g_ls (e_62 (k := 1) (pl := q) (p := q) (md := C.length) hX hP le4 hn (by omega) (by omega) (hI 1 q hR (by omega))) ⟨rfl, rfl, rfl, trivial⟩
      refine g_aload_n (nx := 1) hX 0 dX11_statement_0 rfl rfl rfl ?_
      refine g_V0 (nx := 4) hX dX11_statement_1 rfl mX11_253 yX11_wordSize_ok (c_X11_wordSize hn hl hq) (ga_dn hn rfl) rfl rfl rfl (by decide) rfl (Nat.le_of_ble_eq_true rfl) (Nat.le_of_ble_eq_true rfl) ?_
      rintro _ _ ⟨rfl, rfl⟩
      rw [hid]
      refine g_istore_n (nx := 5) hX 1 dX11_statement_4 rfl rfl rfl ?_
      refine g_aload_n (nx := 6) hX 0 dX11_statement_5 rfl rfl rfl ?_
      refine g_getfield (nx := 9) hX dX11_statement_6 rfl fX11_86 (ga_dn hn rfl) rfl rfl ?_
      refine g_istore_n (nx := 10) hX 2 dX11_statement_9 rfl rfl rfl ?_
      refine g_iload_n (nx := 11) hX 1 dX11_statement_10 rfl rfl rfl ?_
      refine g_if_eq (nx := 14) hX 23 dX11_statement_11 (by decide) rfl (fun h11 => ?_) (fun h11 => ?_)
      · exact absurd (nI_inj (b := 0) h11 (by omega) (by omega)) (by omega)
      · refine g_aload_n (nx := 15) hX 0 dX11_statement_14 rfl rfl rfl ?_
        refine g_getfield (nx := 18) hX dX11_statement_15 rfl fX11_98 (ga_dn hn rfl) rfl rfl ?_
        refine g_bipush (nx := 20) hX 24 dX11_statement_18 rfl (by decide) ?_
        refine g_icmp_ne (nx := 23) hX 29 dX11_statement_20 (by decide) rfl (fun h20 => ?_) (fun h20 => ?_)
        · refine g_aload_n (nx := 30) hX 0 dX11_statement_29 rfl rfl rfl ?_
          refine g_iload_n (nx := 31) hX 2 dX11_statement_30 rfl rfl rfl ?_
          refine g_iload_n (nx := 32) hX 1 dX11_statement_31 rfl rfl rfl ?_
          refine g_V2 (nx := 35) hX dX11_statement_32 rfl mX11_259 yX11_isIf_ok (c_X11_isIf hn hm w6) (ga_dn hn rfl) rfl rfl rfl (by decide) rfl (Nat.le_of_ble_eq_true rfl) (Nat.le_of_ble_eq_true rfl) ?_
          rintro _ _ ⟨rfl, rfl⟩
          refine g_if_ne (nx := 38) hX 56 dX11_statement_35 (by decide) rfl (fun h35 => ?_) (fun h35 => ?_)
          · exact g_ls (t56 (Or.inl (by rw [w2]; exact ga_b_n0 h35))) ⟨rfl, rfl, rfl, trivial⟩
          · refine g_aload_n (nx := 39) hX 0 dX11_statement_38 rfl rfl rfl ?_
            refine g_iload_n (nx := 40) hX 2 dX11_statement_39 rfl rfl rfl ?_
            refine g_iload_n (nx := 41) hX 1 dX11_statement_40 rfl rfl rfl ?_
            refine g_V2 (nx := 44) hX dX11_statement_41 rfl mX11_265 yX11_isMax_ok (c_X11_isMax hn hm w6) (ga_dn hn rfl) rfl rfl rfl (by decide) rfl (Nat.le_of_ble_eq_true rfl) (Nat.le_of_ble_eq_true rfl) ?_
            rintro _ _ ⟨rfl, rfl⟩
            refine g_if_ne (nx := 47) hX 56 dX11_statement_44 (by decide) rfl (fun h44 => ?_) (fun h44 => ?_)
            · exact g_ls (t56 (Or.inr (Or.inl (by rw [w2]; exact ga_b_n0 h44)))) ⟨rfl, rfl, rfl, trivial⟩
            · refine g_aload_n (nx := 48) hX 0 dX11_statement_47 rfl rfl rfl ?_
              refine g_iload_n (nx := 49) hX 2 dX11_statement_48 rfl rfl rfl ?_
              refine g_iload_n (nx := 50) hX 1 dX11_statement_49 rfl rfl rfl ?_
              refine g_V2 (nx := 53) hX dX11_statement_50 rfl mX11_268 yX11_isMin_ok (c_X11_isMin hn hm w6) (ga_dn hn rfl) rfl rfl rfl (by decide) rfl (Nat.le_of_ble_eq_true rfl) (Nat.le_of_ble_eq_true rfl) ?_
              rintro _ _ ⟨rfl, rfl⟩
              refine g_if_eq (nx := 56) hX 62 dX11_statement_53 (by decide) rfl (fun h53 => ?_) (fun h53 => ?_)
              · exact g_ls (t62 (by rw [w2]; exact ga_b_0 h35) (by rw [w2]; exact ga_b_0 h44) (by rw [w2]; exact ga_b_0 h53)) ⟨rfl, rfl, rfl, trivial⟩
              · exact g_ls (t56 (Or.inr (Or.inr (by rw [w2]; exact ga_b_n0 h53)))) ⟨rfl, rfl, rfl, trivial⟩
        · exact absurd (nI_inj (b := 24) h20 (by omega) (by omega)) (by omega)
    · have hR : R_st tb lt nm nw q = .inl (1, q) := by unfold R_st; rw [if_neg (fun z => h24 z.2)]
      have e24 : nw = 24 := by omega
      refine g_aload_n (nx := 1) hX 0 dX11_statement_0 rfl rfl rfl ?_
      refine g_V0 (nx := 4) hX dX11_statement_1 rfl mX11_253 yX11_wordSize_ok (c_X11_wordSize hn hl hq) (ga_dn hn rfl) rfl rfl rfl (by decide) rfl (Nat.le_of_ble_eq_true rfl) (Nat.le_of_ble_eq_true rfl) ?_
      rintro _ _ ⟨rfl, rfl⟩
      rw [hid]
      refine g_istore_n (nx := 5) hX 1 dX11_statement_4 rfl rfl rfl ?_
      refine g_aload_n (nx := 6) hX 0 dX11_statement_5 rfl rfl rfl ?_
      refine g_getfield (nx := 9) hX dX11_statement_6 rfl fX11_86 (ga_dn hn rfl) rfl rfl ?_
      refine g_istore_n (nx := 10) hX 2 dX11_statement_9 rfl rfl rfl ?_
      refine g_iload_n (nx := 11) hX 1 dX11_statement_10 rfl rfl rfl ?_
      refine g_if_eq (nx := 14) hX 23 dX11_statement_11 (by decide) rfl (fun h11 => ?_) (fun h11 => ?_)
      · exact absurd (nI_inj (b := 0) h11 (by omega) (by omega)) (by omega)
      · refine g_aload_n (nx := 15) hX 0 dX11_statement_14 rfl rfl rfl ?_
        refine g_getfield (nx := 18) hX dX11_statement_15 rfl fX11_98 (ga_dn hn rfl) rfl rfl ?_
        refine g_bipush (nx := 20) hX 24 dX11_statement_18 rfl (by decide) ?_
        refine g_icmp_ne (nx := 23) hX 29 dX11_statement_20 (by decide) rfl (fun h20 => ?_) (fun h20 => ?_)
        · exact absurd (by rw [e24]; rfl) h20
        · refine g_aload_n (nx := 24) hX 0 dX11_statement_23 rfl rfl rfl ?_
          refine g_iconst (nx := 25) hX 1 dX11_statement_24 rfl (by decide) ?_
          refine g_iload_n (nx := 26) hX 2 dX11_statement_25 rfl rfl rfl ?_
          refine g_V2 (nx := 29) hX dX11_statement_26 rfl mX11_189 yX11_blame_ok (m_blame hn) (ga_dn hn rfl) rfl rfl rfl (by decide) rfl (Nat.le_of_ble_eq_true rfl) (Nat.le_of_ble_eq_true rfl) ?_
          rintro _ _ ⟨rfl, rfl⟩
          exact g_ls (e_29 (k := 1) (pl := q) (p := q) (md := C.length) hX hP le4 hn (by omega) (by omega) hm w6 (fun M hM => ⟨rfl, Or.inl ⟨1, q, hR, by omega, hM⟩⟩)) ⟨rfl, rfl, rfl, trivial⟩
  · have hR : R_st tb lt nm nw q = .inl (1, q) := by unfold R_st; rw [if_neg (fun z => h97 z.1)]
    refine g_aload_n (nx := 1) hX 0 dX11_statement_0 rfl rfl rfl ?_
    refine g_V0 (nx := 4) hX dX11_statement_1 rfl mX11_253 yX11_wordSize_ok (c_X11_wordSize hn hl hq) (ga_dn hn rfl) rfl rfl rfl (by decide) rfl (Nat.le_of_ble_eq_true rfl) (Nat.le_of_ble_eq_true rfl) ?_
    rintro _ _ ⟨rfl, rfl⟩
    rw [hid, x_nword h97 hq]
    refine g_istore_n (nx := 5) hX 1 dX11_statement_4 rfl rfl rfl ?_
    refine g_aload_n (nx := 6) hX 0 dX11_statement_5 rfl rfl rfl ?_
    refine g_getfield (nx := 9) hX dX11_statement_6 rfl fX11_86 (ga_dn hn rfl) rfl rfl ?_
    refine g_istore_n (nx := 10) hX 2 dX11_statement_9 rfl rfl rfl ?_
    refine g_iload_n (nx := 11) hX 1 dX11_statement_10 rfl rfl rfl ?_
    refine g_if_eq (nx := 14) hX 23 dX11_statement_11 (by decide) rfl (fun h11 => ?_) (fun h11 => ?_)
    · refine g_aload_n (nx := 24) hX 0 dX11_statement_23 rfl rfl rfl ?_
      refine g_iconst (nx := 25) hX 1 dX11_statement_24 rfl (by decide) ?_
      refine g_iload_n (nx := 26) hX 2 dX11_statement_25 rfl rfl rfl ?_
      refine g_V2 (nx := 29) hX dX11_statement_26 rfl mX11_189 yX11_blame_ok (m_blame hn) (ga_dn hn rfl) rfl rfl rfl (by decide) rfl (Nat.le_of_ble_eq_true rfl) (Nat.le_of_ble_eq_true rfl) ?_
      rintro _ _ ⟨rfl, rfl⟩
      exact g_ls (e_29 (m := 0) (k := 1) (pl := q) (p := q) (md := C.length) hX hP le4 hn (by omega) (by omega) (by omega) (fun i hi => absurd hi (Nat.not_lt_zero i)) (fun M hM => ⟨rfl, Or.inl ⟨1, q, hR, by omega, hM⟩⟩)) ⟨rfl, rfl, rfl, trivial⟩
    · exact absurd rfl h11
end
