/-! ===== the reference: an operand ===== -/
section
variable (tb : Nat → Int32) (lt : Nat) (nm : Nat → Int64)
def x_q1 (q : Nat) : Nat := if x_pair tb lt q = 0 then q else x_nx tb lt q
def x_op (o q : Nat) : (Nat × Nat) ⊕ ((Nat × Nat) ⊕ (Nat × Nat)) :=
  if x_tk tb lt q = 48 then (if 5 < x_te tb lt q - q then .inl (1, q + 5) else .inr (.inl (0, x_num tb lt q)))
  else if x_tk tb lt q = 97 ∧ x_pair tb lt q = 0 then (match x_nE tb lt nm 1 q with
    | some e => .inl e
    | none => .inr (.inl (1, (x_slot nm (x_tv tb lt q)).toNatClampNeg)))
  else if x_tk tb lt (x_q1 tb lt q) = 40 ∧ o < 6 then .inr (.inr (x_pair tb lt q, x_q1 tb lt q)) else .inl (1, x_q1 tb lt q)
end
section
variable {tb : Nat → Int32} {lt p q : Nat} {nm : Nat → Int64}
theorem x_sk_id (hp : p ≤ lt) (hq : x_sk tb lt p = q) : x_sk tb lt q = q := by
  have hw := x_sk_le (tb := tb) hp
  rw [hq] at hw
  by_cases h : q < lt
  · have := x_end_at (fun i => decide (x_bl (tb i))) (lt - p) p (by show x_sk tb lt p < _; omega)
    rw [show x_end (fun i => decide (x_bl (tb i))) (lt - p) p = q from hq] at this
    unfold x_sk
    rw [show lt - q = (lt - q - 1) + 1 by omega, x_end, if_neg (by rw [this]; decide)]
  · exact x_sk_gt (by omega)
theorem x_word (h : x_tk tb lt q = 97) (hl : lt ≤ 600) : x_te tb lt q = x_we tb lt q ∧ x_tv tb lt q = x_wv tb q (x_we tb lt q - q) ∧ 1 ≤ x_we tb lt q - q ∧ q + (x_we tb lt q - q) = x_we tb lt q ∧ x_we tb lt q ≤ lt ∧ ∀ i, i < x_we tb lt q - q → x_let (tb (q + i)) := by
  have g := x_tk_let h
  have hw := x_we_le (tb := tb) (Nat.le_of_lt g.1)
  have hs := x_we_s g.1 g.2
  refine ⟨by unfold x_te; rw [if_pos g.1, if_pos g.2], by unfold x_tv; rw [if_pos g.1, if_pos g.2], by omega, by omega, hw.2, fun i hi => ?_⟩
  exact of_decide_eq_true (x_end_in (fun i => decide (x_let (tb i))) (lt - q) q (q + i) (by omega) (by show q + i < x_we tb lt q; omega))
theorem x_nword (h : ¬ x_tk tb lt q = 97) (hq : q ≤ lt) : x_we tb lt q - q = 0 := by
  by_cases g : q < lt
  · have hn : ¬ x_let (tb q) := fun z => h (by unfold x_tk; rw [if_pos g, if_pos z])
    unfold x_we
    rw [show lt - q = (lt - q - 1) + 1 by omega, x_end, if_neg (by rw [decide_eq_false hn]; decide)]
    omega
  · have := x_we_le (tb := tb) hq
    omega
end
section
variable {E : ga_E} {X : ga_X} {n : Nat} {c0 c1 c2 c3 c4 c5 c6 c7 c8 c9 c10 c11 c12 c13 c14 c15 c16 c17 c18 c19 c20 c21 c22 c23 c24 c25 c26 c27 c28 c29 c30 m79 m80 m81 m82 m83 m84 m85 m86 m87 m88 m89 m90 m91 m92 m93 m94 m95 m96 m97 m98 m99 m100 m101 m102 m103 m104 m105 : ga_C} {L1 L2 : List ga_C} {f : Nat → ga_C} {o_tp o_rd o_fe o_em o_sp o_ac o_td o_sm o_tt o_at o_sz o_fk o_fp o_nw o_md o_nt o_pl o_op d_at d_tk d_ta d_fd d_fa : Int32} {d_tv : Int64} {d_rl : Value}
variable {r_at r_fk r_fp r_nt r_pl r_op : Int32} {nw md lt : Nat} {tb ns nb sg na nz pi cm : Nat → Int32}
variable {p q o : Nat} {C S : List (Nat × Nat)} {nm : Nat → Int64}
theorem m_operand (hn : 106 ≤ n) (hl : lt ≤ 600) (hw : nw ≤ 24) (hN : r_nm tb nm nw ns nz na) (hp : p ≤ lt) (hq : x_sk tb lt p = q) (ho : o ≤ 6) (hS : S.length < 40) (hC : C.length ≤ q) : ga_Mt E 2 yX11_operand cX11_operand 6 (some .boolean) 0 0 [.ref 79] (n, L1, ((m_O o_tp o_rd o_fe o_em o_sp o_ac o_td o_sm o_tt (nI (p)) (nI lt) (0) (-1) (nI nw) (nI (C).length) (r_nt) (nI (S).length) (nI (o))) :: ga_i 600 tb :: m81 :: m82 :: m83 :: m84 :: m85 :: m86 :: m87 :: m88 :: m89 :: m90 :: m91 :: m92 :: m93 :: m94 :: m95 :: ga_i 25 (ns) :: ga_i 26 (nb) :: ga_i 1300 (r_sg (C) sg) :: ga_i 250 (na) :: ga_i 25 (nz) :: ga_i 40 (pi) :: ga_z 40 (cm) :: L2), f) (fun r M => (∃ k pl, x_op tb lt nm o q = .inl (k, pl) ∧ (1 ≤ k ∧ k ≤ 4) ∧ (∃ v, r = some (.int v)) ∧ (∃ p pl_ op_ md sg pi cm, p ≤ 610 ∧ md ≤ 620 ∧ M = (n, L1, ((m_O o_tp o_rd o_fe o_em o_sp o_ac o_td o_sm o_tt (nI p) (nI lt) (nI (k)) (nI (pl)) (nI nw) (nI md) (r_nt) (pl_) (op_)) :: ga_i 600 tb :: m81 :: m82 :: m83 :: m84 :: m85 :: m86 :: m87 :: m88 :: m89 :: m90 :: m91 :: m92 :: m93 :: m94 :: m95 :: ga_i 25 (ns) :: ga_i 26 (nb) :: ga_i 1300 (sg) :: ga_i 250 (na) :: ga_i 25 (nz) :: ga_i 40 (pi) :: ga_z 40 (cm) :: L2), f))) ∨ (∃ c, x_op tb lt nm o q = .inr (.inl c) ∧ r = some (.int 1) ∧ M = (n, L1, ((m_O o_tp o_rd o_fe o_em o_sp o_ac o_td o_sm o_tt (nI (x_te tb lt q)) (nI lt) (0) (-1) (nI nw) (nI (C ++ [c]).length) (r_nt) (nI (S).length) (nI (o))) :: ga_i 600 tb :: m81 :: m82 :: m83 :: m84 :: m85 :: m86 :: m87 :: m88 :: m89 :: m90 :: m91 :: m92 :: m93 :: m94 :: m95 :: ga_i 25 (ns) :: ga_i 26 (nb) :: ga_i 1300 (r_sg (C ++ [c]) sg) :: ga_i 250 (na) :: ga_i 25 (nz) :: ga_i 40 (pi) :: ga_z 40 (cm) :: L2), f)) ∨ (∃ e q1, x_op tb lt nm o q = .inr (.inr (e, q1)) ∧ r = some (.int 0) ∧ M = (n, L1, ((m_O o_tp o_rd o_fe o_em o_sp o_ac o_td o_sm o_tt (nI (q1 + 1)) (nI lt) (0) (-1) (nI nw) (nI (C).length) (r_nt) (nI (S.length + 1)) (nI (o + 1))) :: ga_i 600 tb :: m81 :: m82 :: m83 :: m84 :: m85 :: m86 :: m87 :: m88 :: m89 :: m90 :: m91 :: m92 :: m93 :: m94 :: m95 :: ga_i 25 (ns) :: ga_i 26 (nb) :: ga_i 1300 (r_sg (C) sg) :: ga_i 250 (na) :: ga_i 25 (nz) :: ga_i 40 (upd pi S.length (nI (if e = 0 then 12 else e + 1))) :: ga_z 40 (upd cm S.length 0) :: L2), f))) := by
  have hql : q ≤ lt := by rw [← hq]; exact (x_sk_le hp).2
  have hid := x_sk_id hp hq
  have hte := x_te_le (tb := tb) hql
  refine ga_Mt.of (by decide) rfl (fun X hX hP => ?_)
  refine g_less [some (.ref 79), none, none, none, none, none] ⟨rfl, trivial⟩ ?_
  have word : x_tk tb lt q = 97 → ga_G E X 0 0 47 [some (.ref 79), none, some (.int (nI (x_we tb lt q - q))), some (.int (nI q)), none, none] [] (n, L1, ((m_O o_tp o_rd o_fe o_em o_sp o_ac o_td o_sm o_tt (nI (q)) (nI lt) (0) (-1) (nI nw) (nI (C).length) (r_nt) (nI (S).length) (nI (o))) :: ga_i 600 tb :: m81 :: m82 :: m83 :: m84 :: m85 :: m86 :: m87 :: m88 :: m89 :: m90 :: m91 :: m92 :: m93 :: m94 :: m95 :: ga_i 25 (ns) :: ga_i 26 (nb) :: ga_i 1300 (r_sg (C) sg) :: ga_i 250 (na) :: ga_i 25 (nz) :: ga_i 40 (pi) :: ga_z 40 (cm) :: L2), f) := by
    intro h97
    obtain ⟨w1, w2, w3, w4, w5, w6⟩ := x_word h97 hl
    have h48 : ¬ x_tk tb lt q = 48 := by rw [h97]; decide
    have hm : q + (x_we tb lt q - q) ≤ 600 := by omega
    have ea : nI q + nI (x_we tb lt q - q) = nI (x_te tb lt q) := by rw [nI_add, w4, w1]
    have hv0 := x_wv_0 w6 w3
    have kept : x_pair tb lt q = 0 → x_kept (x_tv tb lt q) → x_op tb lt nm o q = .inl (1, q) := fun h1 h2 => by
      unfold x_op; rw [if_neg h48, if_pos ⟨h97, h1⟩, show x_nE tb lt nm 1 q = some (1, q) by unfold x_nE; rw [if_pos h2]]
    have pair0 : ¬ x_wv tb q (x_we tb lt q - q) = 13368 → ¬ x_wv tb q (x_we tb lt q - q) = 13614 → x_pair tb lt q = 0 := fun h1 h2 => by
      unfold x_pair; rw [if_neg (fun z => h1 (by rw [← w2]; exact z.2)), if_neg (fun z => h2 (by rw [← w2]; exact z.2))]
    have bad : x_op tb lt nm o q = .inl (1, q) → ga_G E X 0 0 78 [some (.ref 79), none, some (.int (nI (x_we tb lt q - q))), some (.int (nI q)), none, none] [] (n, L1, ((m_O o_tp o_rd o_fe o_em o_sp o_ac o_td o_sm o_tt (nI (q)) (nI lt) (0) (-1) (nI nw) (nI (C).length) (r_nt) (nI (S).length) (nI (o))) :: ga_i 600 tb :: m81 :: m82 :: m83 :: m84 :: m85 :: m86 :: m87 :: m88 :: m89 :: m90 :: m91 :: m92 :: m93 :: m94 :: m95 :: ga_i 25 (ns) :: ga_i 26 (nb) :: ga_i 1300 (r_sg (C) sg) :: ga_i 250 (na) :: ga_i 25 (nz) :: ga_i 40 (pi) :: ga_z 40 (cm) :: L2), f) := by
      intro hR
      refine g_aload_n (nx := 79) hX 0 dX11_operand_78 rfl rfl rfl ?_
      refine g_iconst (nx := 80) hX 1 dX11_operand_79 rfl (by decide) ?_
      refine g_iload_n (nx := 81) hX 3 dX11_operand_80 rfl rfl rfl ?_
      refine g_V2 (nx := 84) hX dX11_operand_81 rfl mX11_189 yX11_blame_ok (m_blame hn) (ga_dn hn rfl) rfl rfl rfl (by decide) rfl (Nat.le_of_ble_eq_true rfl) (Nat.le_of_ble_eq_true rfl) ?_
      rintro _ _ ⟨rfl, rfl⟩
      refine g_iconst (nx := 85) hX 1 dX11_operand_84 rfl (by decide) ?_
      exact g_ireturn hX hP dX11_operand_85 rfl (Nat.le_of_ble_eq_true rfl) (Nat.le_of_ble_eq_true rfl) (Or.inl ⟨1, q, hR, by omega, ⟨_, rfl⟩, q, _, _, C.length, _, _, _, by omega, by omega, rfl⟩)
    have brk : ∀ e : Nat, x_pair tb lt q = e → (e = 6 ∨ e = 7) → ga_G E X 0 0 131 [some (.ref 79), none, none, none, none, none] [.int (nI (e + 1)), .ref 79] (n, L1, ((m_O o_tp o_rd o_fe o_em o_sp o_ac o_td o_sm o_tt (nI (x_te tb lt q)) (nI lt) (0) (-1) (nI nw) (nI (C).length) (r_nt) (nI (S).length) (nI (o))) :: ga_i 600 tb :: m81 :: m82 :: m83 :: m84 :: m85 :: m86 :: m87 :: m88 :: m89 :: m90 :: m91 :: m92 :: m93 :: m94 :: m95 :: ga_i 25 (ns) :: ga_i 26 (nb) :: ga_i 1300 (r_sg (C) sg) :: ga_i 250 (na) :: ga_i 25 (nz) :: ga_i 40 (pi) :: ga_z 40 (cm) :: L2), f) := by
      intro e he he2
      have hq1 : x_q1 tb lt q = x_nx tb lt q := by unfold x_q1; rw [if_neg (by omega)]
      have hnx := x_nx_le (tb := tb) hql
      have hR : x_op tb lt nm o q = if x_tk tb lt (x_nx tb lt q) = 40 ∧ o < 6 then .inr (.inr (e, x_nx tb lt q)) else .inl (1, x_nx tb lt q) := by
        unfold x_op; rw [if_neg h48, if_neg (fun z => by have := z.2; omega), hq1, he]
      refine g_V1 (nx := 134) hX dX11_operand_131 rfl mX11_250 yX11_opens_ok (m_opens (q := x_nx tb lt q) hn hl hte.2 rfl ho hS) (ga_dn hn rfl) rfl rfl rfl (by decide) rfl (Nat.le_of_ble_eq_true rfl) (Nat.le_of_ble_eq_true rfl) ?_
      rintro _ _ ⟨rfl, (⟨hno, rfl⟩ | ⟨hyes, rfl⟩)⟩
      · refine g_iconst (nx := 135) hX 0 dX11_operand_134 rfl (by decide) ?_
        exact g_ireturn hX hP dX11_operand_135 rfl (Nat.le_of_ble_eq_true rfl) (Nat.le_of_ble_eq_true rfl) (Or.inl ⟨1, x_nx tb lt q, by rw [hR, if_neg hno], by omega, ⟨_, rfl⟩, x_nx tb lt q, _, _, C.length, _, _, _, by omega, by omega, rfl⟩)
      · refine g_iconst (nx := 135) hX 0 dX11_operand_134 rfl (by decide) ?_
        exact g_ireturn hX hP dX11_operand_135 rfl (Nat.le_of_ble_eq_true rfl) (Nat.le_of_ble_eq_true rfl) (Or.inr (Or.inr ⟨e, x_nx tb lt q, by rw [hR, if_pos hyes], rfl, by rw [if_neg (show ¬ e = 0 by omega)] <;> rfl⟩))
    have t136 : x_pair tb lt q = 0 → ¬ x_kept (x_tv tb lt q) → ga_G E X 0 0 136 [some (.ref 79), none, some (.int (nI (x_we tb lt q - q))), some (.int (nI q)), none, none] [] (n, L1, ((m_O o_tp o_rd o_fe o_em o_sp o_ac o_td o_sm o_tt (nI (q)) (nI lt) (0) (-1) (nI nw) (nI (C).length) (r_nt) (nI (S).length) (nI (o))) :: ga_i 600 tb :: m81 :: m82 :: m83 :: m84 :: m85 :: m86 :: m87 :: m88 :: m89 :: m90 :: m91 :: m92 :: m93 :: m94 :: m95 :: ga_i 25 (ns) :: ga_i 26 (nb) :: ga_i 1300 (r_sg (C) sg) :: ga_i 250 (na) :: ga_i 25 (nz) :: ga_i 40 (pi) :: ga_z 40 (cm) :: L2), f) := by
      intro hpr hk
      have hop : x_op tb lt nm o q = (match x_nE tb lt nm 1 q with | some e => .inl e | none => .inr (.inl (1, (x_slot nm (x_tv tb lt q)).toNatClampNeg))) := by
        unfold x_op; rw [if_neg h48, if_pos ⟨h97, hpr⟩]
      have hs3 := x_slot3 hN hw hv0
      rw [← w2] at hs3
      generalize hg : x_wg nm nw (x_tv tb lt q) = g at hs3
      generalize hc : x_wc (x_tv tb lt q) = c at hs3
      refine g_iload_n (nx := 137) hX 2 dX11_operand_136 rfl rfl rfl ?_
      refine g_bipush (nx := 139) hX 10 dX11_operand_137 rfl (by decide) ?_
      refine g_icmp_le (nx := 142) hX 151 dX11_operand_139 (by decide) rfl (fun h139 => ?_) (fun h139 => ?_)
      · have h10 : ¬ 10 < x_te tb lt q - q := by have := (nI_leI (b := 10) (by omega) (by omega)).mp h139; omega
        refine g_aload_n (nx := 152) hX 0 dX11_operand_151 rfl rfl rfl ?_
        refine g_iload_n (nx := 153) hX 3 dX11_operand_152 rfl rfl rfl ?_
        refine g_iload_n (nx := 154) hX 2 dX11_operand_153 rfl rfl rfl ?_
        refine g_V2 (nx := 157) hX dX11_operand_154 rfl mX11_271 yX11_whichCount_ok (c_X11_whichCount hn hm w6 w2.symm) (ga_dn hn rfl) rfl rfl rfl (by decide) rfl (Nat.le_of_ble_eq_true rfl) (Nat.le_of_ble_eq_true rfl) ?_
        rintro _ _ ⟨rfl, rfl⟩
        rw [hc]
        refine g_istore (nx := 159) hX 4 dX11_operand_157 rfl rfl ?_
        refine g_aload_n (nx := 160) hX 0 dX11_operand_159 rfl rfl rfl ?_
        refine g_iload_n (nx := 161) hX 3 dX11_operand_160 rfl rfl rfl ?_
        refine g_iload_n (nx := 162) hX 2 dX11_operand_161 rfl rfl rfl ?_
        refine g_V2 (nx := 165) hX dX11_operand_162 rfl mX11_275 yX11_whichGiven_ok (c_X11_whichGiven hn hw hm w3 w6 w2.symm hN) (ga_dn hn rfl) rfl rfl rfl (by decide) rfl (Nat.le_of_ble_eq_true rfl) (Nat.le_of_ble_eq_true rfl) ?_
        rintro _ _ ⟨rfl, rfl⟩
        rw [hg]
        refine g_istore (nx := 167) hX 5 dX11_operand_165 rfl rfl ?_
        refine g_iload (nx := 169) hX 4 dX11_operand_167 rfl rfl ?_
        refine g_iconst (nx := 170) hX (-1) dX11_operand_169 rfl (by decide) ?_
        refine g_icmp_ne (nx := 173) hX 185 dX11_operand_170 (by decide) rfl (fun h170 => ?_) (fun h170 => ?_)
        · have hsl : ∃ j, j < 15 ∧ c = nI j ∧ x_slot nm (x_tv tb lt q) = nI j := by
            rcases hs3 with ⟨j, hj, a, b⟩ | ⟨a, j, hj, b, d⟩ | ⟨a, b, d⟩
            · exact ⟨j, hj, a, b⟩
            · exact absurd a h170
            · exact absurd a h170
          obtain ⟨j, hj, e1, e2⟩ := hsl
          have e4 : (x_slot nm (x_tv tb lt q)).toNatClampNeg = j := by rw [e2, nI_clamp (by omega)]
          have e5 : e_mop (1, j) = 1 ∧ e_mar (1, j) = j := by unfold e_mop e_mar; simp; omega
          have hR : x_op tb lt nm o q = .inr (.inl (1, j)) := by rw [hop, show x_nE tb lt nm 1 q = none by unfold x_nE; rw [if_neg hk, if_neg h10, if_pos (by rw [if_neg (by rw [e2]; exact nI_neg1 (by omega))])], e4]
          refine g_aload_n (nx := 186) hX 0 dX11_operand_185 rfl rfl rfl ?_
          refine g_iload (nx := 188) hX 4 dX11_operand_186 rfl rfl ?_
          refine g_iconst (nx := 189) hX (-1) dX11_operand_188 rfl (by decide) ?_
          refine g_icmp_eq (nx := 192) hX 196 dX11_operand_189 (by decide) rfl (fun h189 => ?_) (fun h189 => ?_)
          · exact absurd h189 h170
          · refine g_iconst (nx := 193) hX 1 dX11_operand_192 rfl (by decide) ?_
            refine g_goto (nx := 197) hX dX11_operand_193 (by decide) ?_
            refine g_iload (nx := 199) hX 4 dX11_operand_197 rfl rfl ?_
            refine g_iconst (nx := 200) hX (-1) dX11_operand_199 rfl (by decide) ?_
            refine g_icmp_eq (nx := 203) hX 208 dX11_operand_200 (by decide) rfl (fun h200 => ?_) (fun h200 => ?_)
            · exact absurd h200 h170
            · refine g_iload (nx := 205) hX 4 dX11_operand_203 rfl rfl ?_
              refine g_goto (nx := 210) hX dX11_operand_205 (by decide) ?_
              refine g_V2 (nx := 213) hX dX11_operand_210 rfl mX11_244 yX11_add_ok (m_addx (C := C) (x := (1, j)) hn (by omega) (by rw [e5.1]; rfl) (by rw [e5.2]; exact e1)) (ga_dn hn rfl) rfl rfl rfl (by decide) rfl (Nat.le_of_ble_eq_true rfl) (Nat.le_of_ble_eq_true rfl) ?_
              rintro _ _ ⟨rfl, rfl⟩
              refine g_aload_n (nx := 214) hX 0 dX11_operand_213 rfl rfl rfl ?_
              refine g_dup (nx := 215) hX dX11_operand_214 rfl rfl ?_
              refine g_getfield (nx := 218) hX dX11_operand_215 rfl fX11_86 (ga_dn hn rfl) rfl rfl ?_
              refine g_iload_n (nx := 219) hX 2 dX11_operand_218 rfl rfl rfl ?_
              refine g_iadd (nx := 220) hX dX11_operand_219 rfl ?_
              rw [ea]
              refine g_putfield (nx := 223) hX dX11_operand_220 rfl pX11_86 (ga_dn hn rfl) rfl rfl rfl rfl ?_
              refine g_iconst (nx := 224) hX 1 dX11_operand_223 rfl (by decide) ?_
              exact g_ireturn hX hP dX11_operand_224 rfl (Nat.le_of_ble_eq_true rfl) (Nat.le_of_ble_eq_true rfl) (Or.inr (Or.inl ⟨_, hR, rfl, rfl⟩))
        · have hc1 : c = -1 := h170
          refine g_iload (nx := 175) hX 5 dX11_operand_173 rfl rfl ?_
          refine g_iconst (nx := 176) hX (-1) dX11_operand_175 rfl (by decide) ?_
          refine g_icmp_ne (nx := 179) hX 185 dX11_operand_176 (by decide) rfl (fun h176 => ?_) (fun h176 => ?_)
          · have hsl : ∃ j, j < nw ∧ g = nI j ∧ x_slot nm (x_tv tb lt q) = nI (15 + j) := by
              rcases hs3 with ⟨j, hj, a, b⟩ | ⟨a, j, hj, b, d⟩ | ⟨a, b, d⟩
              · exact absurd (a.symm.trans hc1) (nI_neg1 (by omega))
              · exact ⟨j, hj, b, d⟩
              · exact absurd b h176
            obtain ⟨j, hj, e1, e2⟩ := hsl
            have e4 : (x_slot nm (x_tv tb lt q)).toNatClampNeg = 15 + j := by rw [e2, nI_clamp (by omega)]
            have e5 : e_mop (1, 15 + j) = 2 ∧ e_mar (1, 15 + j) = j := by unfold e_mop e_mar; simp
            have hR : x_op tb lt nm o q = .inr (.inl (1, 15 + j)) := by rw [hop, show x_nE tb lt nm 1 q = none by unfold x_nE; rw [if_neg hk, if_neg h10, if_pos (by rw [if_neg (by rw [e2]; exact nI_neg1 (by omega))])], e4]
            refine g_aload_n (nx := 186) hX 0 dX11_operand_185 rfl rfl rfl ?_
            refine g_iload (nx := 188) hX 4 dX11_operand_186 rfl rfl ?_
            refine g_iconst (nx := 189) hX (-1) dX11_operand_188 rfl (by decide) ?_
            refine g_icmp_eq (nx := 192) hX 196 dX11_operand_189 (by decide) rfl (fun h189 => ?_) (fun h189 => ?_)
            · refine g_iconst (nx := 197) hX 2 dX11_operand_196 rfl (by decide) ?_
              refine g_iload (nx := 199) hX 4 dX11_operand_197 rfl rfl ?_
              refine g_iconst (nx := 200) hX (-1) dX11_operand_199 rfl (by decide) ?_
              refine g_icmp_eq (nx := 203) hX 208 dX11_operand_200 (by decide) rfl (fun h200 => ?_) (fun h200 => ?_)
              · refine g_iload (nx := 210) hX 5 dX11_operand_208 rfl rfl ?_
                refine g_V2 (nx := 213) hX dX11_operand_210 rfl mX11_244 yX11_add_ok (m_addx (C := C) (x := (1, 15 + j)) hn (by omega) (by rw [e5.1]; rfl) (by rw [e5.2]; exact e1)) (ga_dn hn rfl) rfl rfl rfl (by decide) rfl (Nat.le_of_ble_eq_true rfl) (Nat.le_of_ble_eq_true rfl) ?_
                rintro _ _ ⟨rfl, rfl⟩
                refine g_aload_n (nx := 214) hX 0 dX11_operand_213 rfl rfl rfl ?_
                refine g_dup (nx := 215) hX dX11_operand_214 rfl rfl ?_
                refine g_getfield (nx := 218) hX dX11_operand_215 rfl fX11_86 (ga_dn hn rfl) rfl rfl ?_
                refine g_iload_n (nx := 219) hX 2 dX11_operand_218 rfl rfl rfl ?_
                refine g_iadd (nx := 220) hX dX11_operand_219 rfl ?_
                rw [ea]
                refine g_putfield (nx := 223) hX dX11_operand_220 rfl pX11_86 (ga_dn hn rfl) rfl rfl rfl rfl ?_
                refine g_iconst (nx := 224) hX 1 dX11_operand_223 rfl (by decide) ?_
                exact g_ireturn hX hP dX11_operand_224 rfl (Nat.le_of_ble_eq_true rfl) (Nat.le_of_ble_eq_true rfl) (Or.inr (Or.inl ⟨_, hR, rfl, rfl⟩))
              · exact absurd hc1 h200
            · exact absurd hc1 h189
          · have hsl : x_slot nm (x_tv tb lt q) = -1 := by
              rcases hs3 with ⟨j, hj, a, b⟩ | ⟨a, j, hj, b, d⟩ | ⟨a, b, d⟩
              · exact absurd (a.symm.trans hc1) (nI_neg1 (by omega))
              · exact absurd (b.symm.trans h176) (nI_neg1 (by omega))
              · exact d
            have hR : x_op tb lt nm o q = .inl (3, q) := by rw [hop, show x_nE tb lt nm 1 q = some (3, q) by unfold x_nE; rw [if_neg hk, if_neg h10, if_neg (by rw [if_pos hsl]; decide)]]
            refine g_aload_n (nx := 180) hX 0 dX11_operand_179 rfl rfl rfl ?_
            refine g_iconst (nx := 181) hX 3 dX11_operand_180 rfl (by decide) ?_
            refine g_iload_n (nx := 182) hX 3 dX11_operand_181 rfl rfl rfl ?_
            refine g_V2 (nx := 185) hX dX11_operand_182 rfl mX11_189 yX11_blame_ok (m_blame hn) (ga_dn hn rfl) rfl rfl rfl (by decide) rfl (Nat.le_of_ble_eq_true rfl) (Nat.le_of_ble_eq_true rfl) ?_
            rintro _ _ ⟨rfl, rfl⟩
            refine g_aload_n (nx := 186) hX 0 dX11_operand_185 rfl rfl rfl ?_
            refine g_iload (nx := 188) hX 4 dX11_operand_186 rfl rfl ?_
            refine g_iconst (nx := 189) hX (-1) dX11_operand_188 rfl (by decide) ?_
            refine g_icmp_eq (nx := 192) hX 196 dX11_operand_189 (by decide) rfl (fun h189 => ?_) (fun h189 => ?_)
            · refine g_iconst (nx := 197) hX 2 dX11_operand_196 rfl (by decide) ?_
              refine g_iload (nx := 199) hX 4 dX11_operand_197 rfl rfl ?_
              refine g_iconst (nx := 200) hX (-1) dX11_operand_199 rfl (by decide) ?_
              refine g_icmp_eq (nx := 203) hX 208 dX11_operand_200 (by decide) rfl (fun h200 => ?_) (fun h200 => ?_)
              · refine g_iload (nx := 210) hX 5 dX11_operand_208 rfl rfl ?_
                refine g_V2 (nx := 213) hX dX11_operand_210 rfl mX11_244 yX11_add_ok (c_X11_add hn (by omega)) (ga_dn hn rfl) rfl rfl rfl (by decide) rfl (Nat.le_of_ble_eq_true rfl) (Nat.le_of_ble_eq_true rfl) ?_
                rintro _ _ ⟨rfl, rfl⟩
                refine g_aload_n (nx := 214) hX 0 dX11_operand_213 rfl rfl rfl ?_
                refine g_dup (nx := 215) hX dX11_operand_214 rfl rfl ?_
                refine g_getfield (nx := 218) hX dX11_operand_215 rfl fX11_86 (ga_dn hn rfl) rfl rfl ?_
                refine g_iload_n (nx := 219) hX 2 dX11_operand_218 rfl rfl rfl ?_
                refine g_iadd (nx := 220) hX dX11_operand_219 rfl ?_
                rw [ea]
                refine g_putfield (nx := 223) hX dX11_operand_220 rfl pX11_86 (ga_dn hn rfl) rfl rfl rfl rfl ?_
                refine g_iconst (nx := 224) hX 1 dX11_operand_223 rfl (by decide) ?_
                exact g_ireturn hX hP dX11_operand_224 rfl (Nat.le_of_ble_eq_true rfl) (Nat.le_of_ble_eq_true rfl) (Or.inl ⟨3, q, hR, by omega, ⟨_, rfl⟩, x_te tb lt q, _, _, C.length + 1, _, _, _, by omega, by omega, rfl⟩)
              · exact absurd hc1 h200
            · exact absurd hc1 h189
      · have h10 : 10 < x_te tb lt q - q := by have := Nat.lt_of_not_le (fun z => h139 (nI_le (b := 10) z (by omega))); omega
        have hR : x_op tb lt nm o q = .inl (1, q + 10) := by rw [hop, show x_nE tb lt nm 1 q = some (1, q + 10) by unfold x_nE; rw [if_neg hk, if_pos h10]]
        refine g_aload_n (nx := 143) hX 0 dX11_operand_142 rfl rfl rfl ?_
        refine g_iconst (nx := 144) hX 1 dX11_operand_143 rfl (by decide) ?_
        refine g_iload_n (nx := 145) hX 3 dX11_operand_144 rfl rfl rfl ?_
        refine g_bipush (nx := 147) hX 10 dX11_operand_145 rfl (by decide) ?_
        refine g_iadd (nx := 148) hX dX11_operand_147 rfl ?_
        rw [show nI q + 10 = nI (q + 10) from nI_add q 10]
        refine g_V2 (nx := 151) hX dX11_operand_148 rfl mX11_189 yX11_blame_ok (m_blame hn) (ga_dn hn rfl) rfl rfl rfl (by decide) rfl (Nat.le_of_ble_eq_true rfl) (Nat.le_of_ble_eq_true rfl) ?_
        rintro _ _ ⟨rfl, rfl⟩
        refine g_aload_n (nx := 152) hX 0 dX11_operand_151 rfl rfl rfl ?_
        refine g_iload_n (nx := 153) hX 3 dX11_operand_152 rfl rfl rfl ?_
        refine g_iload_n (nx := 154) hX 2 dX11_operand_153 rfl rfl rfl ?_
        refine g_V2 (nx := 157) hX dX11_operand_154 rfl mX11_271 yX11_whichCount_ok (c_X11_whichCount hn hm w6 w2.symm) (ga_dn hn rfl) rfl rfl rfl (by decide) rfl (Nat.le_of_ble_eq_true rfl) (Nat.le_of_ble_eq_true rfl) ?_
        rintro _ _ ⟨rfl, rfl⟩
        rw [hc]
        refine g_istore (nx := 159) hX 4 dX11_operand_157 rfl rfl ?_
        refine g_aload_n (nx := 160) hX 0 dX11_operand_159 rfl rfl rfl ?_
        refine g_iload_n (nx := 161) hX 3 dX11_operand_160 rfl rfl rfl ?_
        refine g_iload_n (nx := 162) hX 2 dX11_operand_161 rfl rfl rfl ?_
        refine g_V2 (nx := 165) hX dX11_operand_162 rfl mX11_275 yX11_whichGiven_ok (c_X11_whichGiven hn hw hm w3 w6 w2.symm hN) (ga_dn hn rfl) rfl rfl rfl (by decide) rfl (Nat.le_of_ble_eq_true rfl) (Nat.le_of_ble_eq_true rfl) ?_
        rintro _ _ ⟨rfl, rfl⟩
        rw [hg]
        refine g_istore (nx := 167) hX 5 dX11_operand_165 rfl rfl ?_
        refine g_iload (nx := 169) hX 4 dX11_operand_167 rfl rfl ?_
        refine g_iconst (nx := 170) hX (-1) dX11_operand_169 rfl (by decide) ?_
        refine g_icmp_ne (nx := 173) hX 185 dX11_operand_170 (by decide) rfl (fun h170 => ?_) (fun h170 => ?_)
        · refine g_aload_n (nx := 186) hX 0 dX11_operand_185 rfl rfl rfl ?_
          refine g_iload (nx := 188) hX 4 dX11_operand_186 rfl rfl ?_
          refine g_iconst (nx := 189) hX (-1) dX11_operand_188 rfl (by decide) ?_
          refine g_icmp_eq (nx := 192) hX 196 dX11_operand_189 (by decide) rfl (fun h189 => ?_) (fun h189 => ?_)
          · refine g_iconst (nx := 197) hX 2 dX11_operand_196 rfl (by decide) ?_
            refine g_iload (nx := 199) hX 4 dX11_operand_197 rfl rfl ?_
            refine g_iconst (nx := 200) hX (-1) dX11_operand_199 rfl (by decide) ?_
            refine g_icmp_eq (nx := 203) hX 208 dX11_operand_200 (by decide) rfl (fun h200 => ?_) (fun h200 => ?_)
            · refine g_iload (nx := 210) hX 5 dX11_operand_208 rfl rfl ?_
              refine g_V2 (nx := 213) hX dX11_operand_210 rfl mX11_244 yX11_add_ok (c_X11_add hn (by omega)) (ga_dn hn rfl) rfl rfl rfl (by decide) rfl (Nat.le_of_ble_eq_true rfl) (Nat.le_of_ble_eq_true rfl) ?_
              rintro _ _ ⟨rfl, rfl⟩
              refine g_aload_n (nx := 214) hX 0 dX11_operand_213 rfl rfl rfl ?_
              refine g_dup (nx := 215) hX dX11_operand_214 rfl rfl ?_
              refine g_getfield (nx := 218) hX dX11_operand_215 rfl fX11_86 (ga_dn hn rfl) rfl rfl ?_
              refine g_iload_n (nx := 219) hX 2 dX11_operand_218 rfl rfl rfl ?_
              refine g_iadd (nx := 220) hX dX11_operand_219 rfl ?_
              rw [ea]
              refine g_putfield (nx := 223) hX dX11_operand_220 rfl pX11_86 (ga_dn hn rfl) rfl rfl rfl rfl ?_
              refine g_iconst (nx := 224) hX 1 dX11_operand_223 rfl (by decide) ?_
              exact g_ireturn hX hP dX11_operand_224 rfl (Nat.le_of_ble_eq_true rfl) (Nat.le_of_ble_eq_true rfl) (Or.inl ⟨1, q + 10, hR, by omega, ⟨_, rfl⟩, x_te tb lt q, _, _, C.length + 1, _, _, _, by omega, by omega, rfl⟩)
            · refine g_iload (nx := 205) hX 4 dX11_operand_203 rfl rfl ?_
              refine g_goto (nx := 210) hX dX11_operand_205 (by decide) ?_
              refine g_V2 (nx := 213) hX dX11_operand_210 rfl mX11_244 yX11_add_ok (c_X11_add hn (by omega)) (ga_dn hn rfl) rfl rfl rfl (by decide) rfl (Nat.le_of_ble_eq_true rfl) (Nat.le_of_ble_eq_true rfl) ?_
              rintro _ _ ⟨rfl, rfl⟩
              refine g_aload_n (nx := 214) hX 0 dX11_operand_213 rfl rfl rfl ?_
              refine g_dup (nx := 215) hX dX11_operand_214 rfl rfl ?_
              refine g_getfield (nx := 218) hX dX11_operand_215 rfl fX11_86 (ga_dn hn rfl) rfl rfl ?_
              refine g_iload_n (nx := 219) hX 2 dX11_operand_218 rfl rfl rfl ?_
              refine g_iadd (nx := 220) hX dX11_operand_219 rfl ?_
              rw [ea]
              refine g_putfield (nx := 223) hX dX11_operand_220 rfl pX11_86 (ga_dn hn rfl) rfl rfl rfl rfl ?_
              refine g_iconst (nx := 224) hX 1 dX11_operand_223 rfl (by decide) ?_
              exact g_ireturn hX hP dX11_operand_224 rfl (Nat.le_of_ble_eq_true rfl) (Nat.le_of_ble_eq_true rfl) (Or.inl ⟨1, q + 10, hR, by omega, ⟨_, rfl⟩, x_te tb lt q, _, _, C.length + 1, _, _, _, by omega, by omega, rfl⟩)
          · refine g_iconst (nx := 193) hX 1 dX11_operand_192 rfl (by decide) ?_
            refine g_goto (nx := 197) hX dX11_operand_193 (by decide) ?_
            refine g_iload (nx := 199) hX 4 dX11_operand_197 rfl rfl ?_
            refine g_iconst (nx := 200) hX (-1) dX11_operand_199 rfl (by decide) ?_
            refine g_icmp_eq (nx := 203) hX 208 dX11_operand_200 (by decide) rfl (fun h200 => ?_) (fun h200 => ?_)
            · refine g_iload (nx := 210) hX 5 dX11_operand_208 rfl rfl ?_
              refine g_V2 (nx := 213) hX dX11_operand_210 rfl mX11_244 yX11_add_ok (c_X11_add hn (by omega)) (ga_dn hn rfl) rfl rfl rfl (by decide) rfl (Nat.le_of_ble_eq_true rfl) (Nat.le_of_ble_eq_true rfl) ?_
              rintro _ _ ⟨rfl, rfl⟩
              refine g_aload_n (nx := 214) hX 0 dX11_operand_213 rfl rfl rfl ?_
              refine g_dup (nx := 215) hX dX11_operand_214 rfl rfl ?_
              refine g_getfield (nx := 218) hX dX11_operand_215 rfl fX11_86 (ga_dn hn rfl) rfl rfl ?_
              refine g_iload_n (nx := 219) hX 2 dX11_operand_218 rfl rfl rfl ?_
              refine g_iadd (nx := 220) hX dX11_operand_219 rfl ?_
              rw [ea]
              refine g_putfield (nx := 223) hX dX11_operand_220 rfl pX11_86 (ga_dn hn rfl) rfl rfl rfl rfl ?_
              refine g_iconst (nx := 224) hX 1 dX11_operand_223 rfl (by decide) ?_
              exact g_ireturn hX hP dX11_operand_224 rfl (Nat.le_of_ble_eq_true rfl) (Nat.le_of_ble_eq_true rfl) (Or.inl ⟨1, q + 10, hR, by omega, ⟨_, rfl⟩, x_te tb lt q, _, _, C.length + 1, _, _, _, by omega, by omega, rfl⟩)
            · refine g_iload (nx := 205) hX 4 dX11_operand_203 rfl rfl ?_
              refine g_goto (nx := 210) hX dX11_operand_205 (by decide) ?_
              refine g_V2 (nx := 213) hX dX11_operand_210 rfl mX11_244 yX11_add_ok (c_X11_add hn (by omega)) (ga_dn hn rfl) rfl rfl rfl (by decide) rfl (Nat.le_of_ble_eq_true rfl) (Nat.le_of_ble_eq_true rfl) ?_
              rintro _ _ ⟨rfl, rfl⟩
              refine g_aload_n (nx := 214) hX 0 dX11_operand_213 rfl rfl rfl ?_
              refine g_dup (nx := 215) hX dX11_operand_214 rfl rfl ?_
              refine g_getfield (nx := 218) hX dX11_operand_215 rfl fX11_86 (ga_dn hn rfl) rfl rfl ?_
              refine g_iload_n (nx := 219) hX 2 dX11_operand_218 rfl rfl rfl ?_
              refine g_iadd (nx := 220) hX dX11_operand_219 rfl ?_
              rw [ea]
              refine g_putfield (nx := 223) hX dX11_operand_220 rfl pX11_86 (ga_dn hn rfl) rfl rfl rfl rfl ?_
              refine g_iconst (nx := 224) hX 1 dX11_operand_223 rfl (by decide) ?_
              exact g_ireturn hX hP dX11_operand_224 rfl (Nat.le_of_ble_eq_true rfl) (Nat.le_of_ble_eq_true rfl) (Or.inl ⟨1, q + 10, hR, by omega, ⟨_, rfl⟩, x_te tb lt q, _, _, C.length + 1, _, _, _, by omega, by omega, rfl⟩)
        · refine g_iload (nx := 175) hX 5 dX11_operand_173 rfl rfl ?_
          refine g_iconst (nx := 176) hX (-1) dX11_operand_175 rfl (by decide) ?_
          refine g_icmp_ne (nx := 179) hX 185 dX11_operand_176 (by decide) rfl (fun h176 => ?_) (fun h176 => ?_)
          · refine g_aload_n (nx := 186) hX 0 dX11_operand_185 rfl rfl rfl ?_
            refine g_iload (nx := 188) hX 4 dX11_operand_186 rfl rfl ?_
            refine g_iconst (nx := 189) hX (-1) dX11_operand_188 rfl (by decide) ?_
            refine g_icmp_eq (nx := 192) hX 196 dX11_operand_189 (by decide) rfl (fun h189 => ?_) (fun h189 => ?_)
            · refine g_iconst (nx := 197) hX 2 dX11_operand_196 rfl (by decide) ?_
              refine g_iload (nx := 199) hX 4 dX11_operand_197 rfl rfl ?_
              refine g_iconst (nx := 200) hX (-1) dX11_operand_199 rfl (by decide) ?_
              refine g_icmp_eq (nx := 203) hX 208 dX11_operand_200 (by decide) rfl (fun h200 => ?_) (fun h200 => ?_)
              · refine g_iload (nx := 210) hX 5 dX11_operand_208 rfl rfl ?_
                refine g_V2 (nx := 213) hX dX11_operand_210 rfl mX11_244 yX11_add_ok (c_X11_add hn (by omega)) (ga_dn hn rfl) rfl rfl rfl (by decide) rfl (Nat.le_of_ble_eq_true rfl) (Nat.le_of_ble_eq_true rfl) ?_
                rintro _ _ ⟨rfl, rfl⟩
                refine g_aload_n (nx := 214) hX 0 dX11_operand_213 rfl rfl rfl ?_
                refine g_dup (nx := 215) hX dX11_operand_214 rfl rfl ?_
                refine g_getfield (nx := 218) hX dX11_operand_215 rfl fX11_86 (ga_dn hn rfl) rfl rfl ?_
                refine g_iload_n (nx := 219) hX 2 dX11_operand_218 rfl rfl rfl ?_
                refine g_iadd (nx := 220) hX dX11_operand_219 rfl ?_
                rw [ea]
                refine g_putfield (nx := 223) hX dX11_operand_220 rfl pX11_86 (ga_dn hn rfl) rfl rfl rfl rfl ?_
                refine g_iconst (nx := 224) hX 1 dX11_operand_223 rfl (by decide) ?_
                exact g_ireturn hX hP dX11_operand_224 rfl (Nat.le_of_ble_eq_true rfl) (Nat.le_of_ble_eq_true rfl) (Or.inl ⟨1, q + 10, hR, by omega, ⟨_, rfl⟩, x_te tb lt q, _, _, C.length + 1, _, _, _, by omega, by omega, rfl⟩)
              · refine g_iload (nx := 205) hX 4 dX11_operand_203 rfl rfl ?_
                refine g_goto (nx := 210) hX dX11_operand_205 (by decide) ?_
                refine g_V2 (nx := 213) hX dX11_operand_210 rfl mX11_244 yX11_add_ok (c_X11_add hn (by omega)) (ga_dn hn rfl) rfl rfl rfl (by decide) rfl (Nat.le_of_ble_eq_true rfl) (Nat.le_of_ble_eq_true rfl) ?_
                rintro _ _ ⟨rfl, rfl⟩
                refine g_aload_n (nx := 214) hX 0 dX11_operand_213 rfl rfl rfl ?_
                refine g_dup (nx := 215) hX dX11_operand_214 rfl rfl ?_
                refine g_getfield (nx := 218) hX dX11_operand_215 rfl fX11_86 (ga_dn hn rfl) rfl rfl ?_
                refine g_iload_n (nx := 219) hX 2 dX11_operand_218 rfl rfl rfl ?_
                refine g_iadd (nx := 220) hX dX11_operand_219 rfl ?_
                rw [ea]
                refine g_putfield (nx := 223) hX dX11_operand_220 rfl pX11_86 (ga_dn hn rfl) rfl rfl rfl rfl ?_
                refine g_iconst (nx := 224) hX 1 dX11_operand_223 rfl (by decide) ?_
                exact g_ireturn hX hP dX11_operand_224 rfl (Nat.le_of_ble_eq_true rfl) (Nat.le_of_ble_eq_true rfl) (Or.inl ⟨1, q + 10, hR, by omega, ⟨_, rfl⟩, x_te tb lt q, _, _, C.length + 1, _, _, _, by omega, by omega, rfl⟩)
            · refine g_iconst (nx := 193) hX 1 dX11_operand_192 rfl (by decide) ?_
              refine g_goto (nx := 197) hX dX11_operand_193 (by decide) ?_
              refine g_iload (nx := 199) hX 4 dX11_operand_197 rfl rfl ?_
              refine g_iconst (nx := 200) hX (-1) dX11_operand_199 rfl (by decide) ?_
              refine g_icmp_eq (nx := 203) hX 208 dX11_operand_200 (by decide) rfl (fun h200 => ?_) (fun h200 => ?_)
              · refine g_iload (nx := 210) hX 5 dX11_operand_208 rfl rfl ?_
                refine g_V2 (nx := 213) hX dX11_operand_210 rfl mX11_244 yX11_add_ok (c_X11_add hn (by omega)) (ga_dn hn rfl) rfl rfl rfl (by decide) rfl (Nat.le_of_ble_eq_true rfl) (Nat.le_of_ble_eq_true rfl) ?_
                rintro _ _ ⟨rfl, rfl⟩
                refine g_aload_n (nx := 214) hX 0 dX11_operand_213 rfl rfl rfl ?_
                refine g_dup (nx := 215) hX dX11_operand_214 rfl rfl ?_
                refine g_getfield (nx := 218) hX dX11_operand_215 rfl fX11_86 (ga_dn hn rfl) rfl rfl ?_
                refine g_iload_n (nx := 219) hX 2 dX11_operand_218 rfl rfl rfl ?_
                refine g_iadd (nx := 220) hX dX11_operand_219 rfl ?_
                rw [ea]
                refine g_putfield (nx := 223) hX dX11_operand_220 rfl pX11_86 (ga_dn hn rfl) rfl rfl rfl rfl ?_
                refine g_iconst (nx := 224) hX 1 dX11_operand_223 rfl (by decide) ?_
                exact g_ireturn hX hP dX11_operand_224 rfl (Nat.le_of_ble_eq_true rfl) (Nat.le_of_ble_eq_true rfl) (Or.inl ⟨1, q + 10, hR, by omega, ⟨_, rfl⟩, x_te tb lt q, _, _, C.length + 1, _, _, _, by omega, by omega, rfl⟩)
              · refine g_iload (nx := 205) hX 4 dX11_operand_203 rfl rfl ?_
                refine g_goto (nx := 210) hX dX11_operand_205 (by decide) ?_
                refine g_V2 (nx := 213) hX dX11_operand_210 rfl mX11_244 yX11_add_ok (c_X11_add hn (by omega)) (ga_dn hn rfl) rfl rfl rfl (by decide) rfl (Nat.le_of_ble_eq_true rfl) (Nat.le_of_ble_eq_true rfl) ?_
                rintro _ _ ⟨rfl, rfl⟩
                refine g_aload_n (nx := 214) hX 0 dX11_operand_213 rfl rfl rfl ?_
                refine g_dup (nx := 215) hX dX11_operand_214 rfl rfl ?_
                refine g_getfield (nx := 218) hX dX11_operand_215 rfl fX11_86 (ga_dn hn rfl) rfl rfl ?_
                refine g_iload_n (nx := 219) hX 2 dX11_operand_218 rfl rfl rfl ?_
                refine g_iadd (nx := 220) hX dX11_operand_219 rfl ?_
                rw [ea]
                refine g_putfield (nx := 223) hX dX11_operand_220 rfl pX11_86 (ga_dn hn rfl) rfl rfl rfl rfl ?_
                refine g_iconst (nx := 224) hX 1 dX11_operand_223 rfl (by decide) ?_
                exact g_ireturn hX hP dX11_operand_224 rfl (Nat.le_of_ble_eq_true rfl) (Nat.le_of_ble_eq_true rfl) (Or.inl ⟨1, q + 10, hR, by omega, ⟨_, rfl⟩, x_te tb lt q, _, _, C.length + 1, _, _, _, by omega, by omega, rfl⟩)
          · refine g_aload_n (nx := 180) hX 0 dX11_operand_179 rfl rfl rfl ?_
            refine g_iconst (nx := 181) hX 3 dX11_operand_180 rfl (by decide) ?_
            refine g_iload_n (nx := 182) hX 3 dX11_operand_181 rfl rfl rfl ?_
            refine g_V2 (nx := 185) hX dX11_operand_182 rfl mX11_189 yX11_blame_ok (e_blame (k := 1) hn (by omega)) (ga_dn hn rfl) rfl rfl rfl (by decide) rfl (Nat.le_of_ble_eq_true rfl) (Nat.le_of_ble_eq_true rfl) ?_
            rintro _ _ ⟨rfl, rfl⟩
            refine g_aload_n (nx := 186) hX 0 dX11_operand_185 rfl rfl rfl ?_
            refine g_iload (nx := 188) hX 4 dX11_operand_186 rfl rfl ?_
            refine g_iconst (nx := 189) hX (-1) dX11_operand_188 rfl (by decide) ?_
            refine g_icmp_eq (nx := 192) hX 196 dX11_operand_189 (by decide) rfl (fun h189 => ?_) (fun h189 => ?_)
            · refine g_iconst (nx := 197) hX 2 dX11_operand_196 rfl (by decide) ?_
              refine g_iload (nx := 199) hX 4 dX11_operand_197 rfl rfl ?_
              refine g_iconst (nx := 200) hX (-1) dX11_operand_199 rfl (by decide) ?_
              refine g_icmp_eq (nx := 203) hX 208 dX11_operand_200 (by decide) rfl (fun h200 => ?_) (fun h200 => ?_)
              · refine g_iload (nx := 210) hX 5 dX11_operand_208 rfl rfl ?_
                refine g_V2 (nx := 213) hX dX11_operand_210 rfl mX11_244 yX11_add_ok (c_X11_add hn (by omega)) (ga_dn hn rfl) rfl rfl rfl (by decide) rfl (Nat.le_of_ble_eq_true rfl) (Nat.le_of_ble_eq_true rfl) ?_
                rintro _ _ ⟨rfl, rfl⟩
                refine g_aload_n (nx := 214) hX 0 dX11_operand_213 rfl rfl rfl ?_
                refine g_dup (nx := 215) hX dX11_operand_214 rfl rfl ?_
                refine g_getfield (nx := 218) hX dX11_operand_215 rfl fX11_86 (ga_dn hn rfl) rfl rfl ?_
                refine g_iload_n (nx := 219) hX 2 dX11_operand_218 rfl rfl rfl ?_
                refine g_iadd (nx := 220) hX dX11_operand_219 rfl ?_
                rw [ea]
                refine g_putfield (nx := 223) hX dX11_operand_220 rfl pX11_86 (ga_dn hn rfl) rfl rfl rfl rfl ?_
                refine g_iconst (nx := 224) hX 1 dX11_operand_223 rfl (by decide) ?_
                exact g_ireturn hX hP dX11_operand_224 rfl (Nat.le_of_ble_eq_true rfl) (Nat.le_of_ble_eq_true rfl) (Or.inl ⟨1, q + 10, hR, by omega, ⟨_, rfl⟩, x_te tb lt q, _, _, C.length + 1, _, _, _, by omega, by omega, rfl⟩)
              · refine g_iload (nx := 205) hX 4 dX11_operand_203 rfl rfl ?_
                refine g_goto (nx := 210) hX dX11_operand_205 (by decide) ?_
                refine g_V2 (nx := 213) hX dX11_operand_210 rfl mX11_244 yX11_add_ok (c_X11_add hn (by omega)) (ga_dn hn rfl) rfl rfl rfl (by decide) rfl (Nat.le_of_ble_eq_true rfl) (Nat.le_of_ble_eq_true rfl) ?_
                rintro _ _ ⟨rfl, rfl⟩
                refine g_aload_n (nx := 214) hX 0 dX11_operand_213 rfl rfl rfl ?_
                refine g_dup (nx := 215) hX dX11_operand_214 rfl rfl ?_
                refine g_getfield (nx := 218) hX dX11_operand_215 rfl fX11_86 (ga_dn hn rfl) rfl rfl ?_
                refine g_iload_n (nx := 219) hX 2 dX11_operand_218 rfl rfl rfl ?_
                refine g_iadd (nx := 220) hX dX11_operand_219 rfl ?_
                rw [ea]
                refine g_putfield (nx := 223) hX dX11_operand_220 rfl pX11_86 (ga_dn hn rfl) rfl rfl rfl rfl ?_
                refine g_iconst (nx := 224) hX 1 dX11_operand_223 rfl (by decide) ?_
                exact g_ireturn hX hP dX11_operand_224 rfl (Nat.le_of_ble_eq_true rfl) (Nat.le_of_ble_eq_true rfl) (Or.inl ⟨1, q + 10, hR, by omega, ⟨_, rfl⟩, x_te tb lt q, _, _, C.length + 1, _, _, _, by omega, by omega, rfl⟩)
            · refine g_iconst (nx := 193) hX 1 dX11_operand_192 rfl (by decide) ?_
              refine g_goto (nx := 197) hX dX11_operand_193 (by decide) ?_
              refine g_iload (nx := 199) hX 4 dX11_operand_197 rfl rfl ?_
              refine g_iconst (nx := 200) hX (-1) dX11_operand_199 rfl (by decide) ?_
              refine g_icmp_eq (nx := 203) hX 208 dX11_operand_200 (by decide) rfl (fun h200 => ?_) (fun h200 => ?_)
              · refine g_iload (nx := 210) hX 5 dX11_operand_208 rfl rfl ?_
                refine g_V2 (nx := 213) hX dX11_operand_210 rfl mX11_244 yX11_add_ok (c_X11_add hn (by omega)) (ga_dn hn rfl) rfl rfl rfl (by decide) rfl (Nat.le_of_ble_eq_true rfl) (Nat.le_of_ble_eq_true rfl) ?_
                rintro _ _ ⟨rfl, rfl⟩
                refine g_aload_n (nx := 214) hX 0 dX11_operand_213 rfl rfl rfl ?_
                refine g_dup (nx := 215) hX dX11_operand_214 rfl rfl ?_
                refine g_getfield (nx := 218) hX dX11_operand_215 rfl fX11_86 (ga_dn hn rfl) rfl rfl ?_
                refine g_iload_n (nx := 219) hX 2 dX11_operand_218 rfl rfl rfl ?_
                refine g_iadd (nx := 220) hX dX11_operand_219 rfl ?_
                rw [ea]
                refine g_putfield (nx := 223) hX dX11_operand_220 rfl pX11_86 (ga_dn hn rfl) rfl rfl rfl rfl ?_
                refine g_iconst (nx := 224) hX 1 dX11_operand_223 rfl (by decide) ?_
                exact g_ireturn hX hP dX11_operand_224 rfl (Nat.le_of_ble_eq_true rfl) (Nat.le_of_ble_eq_true rfl) (Or.inl ⟨1, q + 10, hR, by omega, ⟨_, rfl⟩, x_te tb lt q, _, _, C.length + 1, _, _, _, by omega, by omega, rfl⟩)
              · refine g_iload (nx := 205) hX 4 dX11_operand_203 rfl rfl ?_
                refine g_goto (nx := 210) hX dX11_operand_205 (by decide) ?_
                refine g_V2 (nx := 213) hX dX11_operand_210 rfl mX11_244 yX11_add_ok (c_X11_add hn (by omega)) (ga_dn hn rfl) rfl rfl rfl (by decide) rfl (Nat.le_of_ble_eq_true rfl) (Nat.le_of_ble_eq_true rfl) ?_
                rintro _ _ ⟨rfl, rfl⟩
                refine g_aload_n (nx := 214) hX 0 dX11_operand_213 rfl rfl rfl ?_
                refine g_dup (nx := 215) hX dX11_operand_214 rfl rfl ?_
                refine g_getfield (nx := 218) hX dX11_operand_215 rfl fX11_86 (ga_dn hn rfl) rfl rfl ?_
                refine g_iload_n (nx := 219) hX 2 dX11_operand_218 rfl rfl rfl ?_
                refine g_iadd (nx := 220) hX dX11_operand_219 rfl ?_
                rw [ea]
                refine g_putfield (nx := 223) hX dX11_operand_220 rfl pX11_86 (ga_dn hn rfl) rfl rfl rfl rfl ?_
                refine g_iconst (nx := 224) hX 1 dX11_operand_223 rfl (by decide) ?_
                exact g_ireturn hX hP dX11_operand_224 rfl (Nat.le_of_ble_eq_true rfl) (Nat.le_of_ble_eq_true rfl) (Or.inl ⟨1, q + 10, hR, by omega, ⟨_, rfl⟩, x_te tb lt q, _, _, C.length + 1, _, _, _, by omega, by omega, rfl⟩)
    refine g_iload_n (nx := 48) hX 2 dX11_operand_47 rfl rfl rfl ?_
    refine g_if_eq (nx := 51) hX 78 dX11_operand_48 (by decide) rfl (fun h48 => ?_) (fun h48 => ?_)
    · exact absurd (nI_inj (b := 0) h48 (by omega) (by omega)) (by omega)
    · refine g_aload_n (nx := 52) hX 0 dX11_operand_51 rfl rfl rfl ?_
      refine g_iload_n (nx := 53) hX 3 dX11_operand_52 rfl rfl rfl ?_
      refine g_iload_n (nx := 54) hX 2 dX11_operand_53 rfl rfl rfl ?_
      refine g_V2 (nx := 57) hX dX11_operand_54 rfl mX11_256 yX11_isOut_ok (c_X11_isOut hn hm w6) (ga_dn hn rfl) rfl rfl rfl (by decide) rfl (Nat.le_of_ble_eq_true rfl) (Nat.le_of_ble_eq_true rfl) ?_
      rintro _ _ ⟨rfl, rfl⟩
      refine g_if_ne (nx := 60) hX 78 dX11_operand_57 (by decide) rfl (fun h57 => ?_) (fun h57 => ?_)
      · have hx := ga_b_n0 h57
        exact bad (kept (pair0 (by rw [hx]; decide) (by rw [hx]; decide)) (by rw [w2, hx]; decide))
      · refine g_aload_n (nx := 61) hX 0 dX11_operand_60 rfl rfl rfl ?_
        refine g_iload_n (nx := 62) hX 3 dX11_operand_61 rfl rfl rfl ?_
        refine g_iload_n (nx := 63) hX 2 dX11_operand_62 rfl rfl rfl ?_
        refine g_V2 (nx := 66) hX dX11_operand_63 rfl mX11_259 yX11_isIf_ok (c_X11_isIf hn hm w6) (ga_dn hn rfl) rfl rfl rfl (by decide) rfl (Nat.le_of_ble_eq_true rfl) (Nat.le_of_ble_eq_true rfl) ?_
        rintro _ _ ⟨rfl, rfl⟩
        refine g_if_ne (nx := 69) hX 78 dX11_operand_66 (by decide) rfl (fun h66 => ?_) (fun h66 => ?_)
        · have hx := ga_b_n0 h66
          exact bad (kept (pair0 (by rw [hx]; decide) (by rw [hx]; decide)) (by rw [w2, hx]; decide))
        · refine g_aload_n (nx := 70) hX 0 dX11_operand_69 rfl rfl rfl ?_
          refine g_iload_n (nx := 71) hX 3 dX11_operand_70 rfl rfl rfl ?_
          refine g_iload_n (nx := 72) hX 2 dX11_operand_71 rfl rfl rfl ?_
          refine g_V2 (nx := 75) hX dX11_operand_72 rfl mX11_262 yX11_isTie_ok (c_X11_isTie hn hm w6) (ga_dn hn rfl) rfl rfl rfl (by decide) rfl (Nat.le_of_ble_eq_true rfl) (Nat.le_of_ble_eq_true rfl) ?_
          rintro _ _ ⟨rfl, rfl⟩
          refine g_if_eq (nx := 78) hX 86 dX11_operand_75 (by decide) rfl (fun h75 => ?_) (fun h75 => ?_)
          · refine g_aload_n (nx := 87) hX 0 dX11_operand_86 rfl rfl rfl ?_
            refine g_iload_n (nx := 88) hX 3 dX11_operand_87 rfl rfl rfl ?_
            refine g_iload_n (nx := 89) hX 2 dX11_operand_88 rfl rfl rfl ?_
            refine g_V2 (nx := 92) hX dX11_operand_89 rfl mX11_265 yX11_isMax_ok (c_X11_isMax hn hm w6) (ga_dn hn rfl) rfl rfl rfl (by decide) rfl (Nat.le_of_ble_eq_true rfl) (Nat.le_of_ble_eq_true rfl) ?_
            rintro _ _ ⟨rfl, rfl⟩
            refine g_if_ne (nx := 95) hX 104 dX11_operand_92 (by decide) rfl (fun h92 => ?_) (fun h92 => ?_)
            · have hx := ga_b_n0 h92
              refine g_aload_n (nx := 105) hX 0 dX11_operand_104 rfl rfl rfl ?_
              refine g_dup (nx := 106) hX dX11_operand_105 rfl rfl ?_
              refine g_getfield (nx := 109) hX dX11_operand_106 rfl fX11_86 (ga_dn hn rfl) rfl rfl ?_
              refine g_iload_n (nx := 110) hX 2 dX11_operand_109 rfl rfl rfl ?_
              refine g_iadd (nx := 111) hX dX11_operand_110 rfl ?_
              rw [ea]
              refine g_putfield (nx := 114) hX dX11_operand_111 rfl pX11_86 (ga_dn hn rfl) rfl rfl rfl rfl ?_
              refine g_aload_n (nx := 115) hX 0 dX11_operand_114 rfl rfl rfl ?_
              refine g_aload_n (nx := 116) hX 0 dX11_operand_115 rfl rfl rfl ?_
              refine g_iload_n (nx := 117) hX 3 dX11_operand_116 rfl rfl rfl ?_
              refine g_iload_n (nx := 118) hX 2 dX11_operand_117 rfl rfl rfl ?_
              refine g_V2 (nx := 121) hX dX11_operand_118 rfl mX11_265 yX11_isMax_ok (c_X11_isMax hn hm w6) (ga_dn hn rfl) rfl rfl rfl (by decide) rfl (Nat.le_of_ble_eq_true rfl) (Nat.le_of_ble_eq_true rfl) ?_
              rintro _ _ ⟨rfl, rfl⟩
              refine g_if_eq (nx := 124) hX 129 dX11_operand_121 (by decide) rfl (fun h121 => ?_) (fun h121 => ?_)
              · exact absurd hx (ga_b_0 h121)
              · refine g_bipush (nx := 126) hX 7 dX11_operand_124 rfl (by decide) ?_
                refine g_goto (nx := 131) hX dX11_operand_126 (by decide) ?_
                exact g_ls (brk 6 (by unfold x_pair; rw [if_pos ⟨h97, by rw [w2]; exact hx⟩]) (Or.inl rfl)) ⟨rfl, trivial⟩
            · refine g_aload_n (nx := 96) hX 0 dX11_operand_95 rfl rfl rfl ?_
              refine g_iload_n (nx := 97) hX 3 dX11_operand_96 rfl rfl rfl ?_
              refine g_iload_n (nx := 98) hX 2 dX11_operand_97 rfl rfl rfl ?_
              refine g_V2 (nx := 101) hX dX11_operand_98 rfl mX11_268 yX11_isMin_ok (c_X11_isMin hn hm w6) (ga_dn hn rfl) rfl rfl rfl (by decide) rfl (Nat.le_of_ble_eq_true rfl) (Nat.le_of_ble_eq_true rfl) ?_
              rintro _ _ ⟨rfl, rfl⟩
              refine g_if_eq (nx := 104) hX 136 dX11_operand_101 (by decide) rfl (fun h101 => ?_) (fun h101 => ?_)
              · exact t136 (pair0 (ga_b_0 h92) (ga_b_0 h101)) (fun z => by rw [w2] at z; exact z.elim (ga_b_0 h57) (fun z => z.elim (ga_b_0 h66) (fun z => z.elim (ga_b_0 h75) (fun z => z.elim (ga_b_0 h92) (ga_b_0 h101)))))
              · have hx := ga_b_n0 h101
                refine g_aload_n (nx := 105) hX 0 dX11_operand_104 rfl rfl rfl ?_
                refine g_dup (nx := 106) hX dX11_operand_105 rfl rfl ?_
                refine g_getfield (nx := 109) hX dX11_operand_106 rfl fX11_86 (ga_dn hn rfl) rfl rfl ?_
                refine g_iload_n (nx := 110) hX 2 dX11_operand_109 rfl rfl rfl ?_
                refine g_iadd (nx := 111) hX dX11_operand_110 rfl ?_
                rw [ea]
                refine g_putfield (nx := 114) hX dX11_operand_111 rfl pX11_86 (ga_dn hn rfl) rfl rfl rfl rfl ?_
                refine g_aload_n (nx := 115) hX 0 dX11_operand_114 rfl rfl rfl ?_
                refine g_aload_n (nx := 116) hX 0 dX11_operand_115 rfl rfl rfl ?_
                refine g_iload_n (nx := 117) hX 3 dX11_operand_116 rfl rfl rfl ?_
                refine g_iload_n (nx := 118) hX 2 dX11_operand_117 rfl rfl rfl ?_
                refine g_V2 (nx := 121) hX dX11_operand_118 rfl mX11_265 yX11_isMax_ok (c_X11_isMax hn hm w6) (ga_dn hn rfl) rfl rfl rfl (by decide) rfl (Nat.le_of_ble_eq_true rfl) (Nat.le_of_ble_eq_true rfl) ?_
                rintro _ _ ⟨rfl, rfl⟩
                refine g_if_eq (nx := 124) hX 129 dX11_operand_121 (by decide) rfl (fun h121 => ?_) (fun h121 => ?_)
                · refine g_bipush (nx := 131) hX 8 dX11_operand_129 rfl (by decide) ?_
                  exact g_ls (brk 7 (by unfold x_pair; rw [if_neg (fun z => ga_b_0 h92 (by rw [← w2]; exact z.2)), if_pos ⟨h97, by rw [w2]; exact hx⟩]) (Or.inr rfl)) ⟨rfl, trivial⟩
                · exact absurd (ga_b_n0 h121) (ga_b_0 h92)
          · have hx := ga_b_n0 h75
            exact bad (kept (pair0 (by rw [hx]; decide) (by rw [hx]; decide)) (by rw [w2, hx]; decide))
  refine g_aload_n (nx := 1) hX 0 dX11_operand_0 rfl rfl rfl ?_
  refine g_V0 (nx := 4) hX dX11_operand_1 rfl mX11_186 yX11_here_ok (c_X11_here hn hl (by omega)) (ga_dn hn rfl) rfl rfl rfl (by decide) rfl (Nat.le_of_ble_eq_true rfl) (Nat.le_of_ble_eq_true rfl) ?_
  rintro _ _ ⟨rfl, rfl⟩
  rw [hq]
  refine g_istore_n (nx := 5) hX 1 dX11_operand_4 rfl rfl rfl ?_
  refine g_iload_n (nx := 6) hX 1 dX11_operand_5 rfl rfl rfl ?_
  refine g_S1 (nx := 9) hX dX11_operand_6 rfl mX11_241 yX11_isDigit_ok (c_X11_isDigit) (by decide) rfl (Nat.le_of_ble_eq_true rfl) (Nat.le_of_ble_eq_true rfl) ?_
  rintro _ _ ⟨rfl, rfl⟩
  refine g_if_eq (nx := 12) hX 23 dX11_operand_9 (by decide) rfl (fun h9 => ?_) (fun h9 => ?_)
  · have hd : ¬ x_tk tb lt q = 48 := fun z => ga_b_0 h9 (x_cd.mpr z)
    refine g_iload_n (nx := 24) hX 1 dX11_operand_23 rfl rfl rfl ?_
    refine g_bipush (nx := 26) hX 40 dX11_operand_24 rfl (by decide) ?_
    refine g_icmp_ne (nx := 29) hX 37 dX11_operand_26 (by decide) rfl (fun h26 => ?_) (fun h26 => ?_)
    · have h40 : ¬ x_tk tb lt q = 40 := fun z => h26 ((x_ct (by decide) (by decide)).mpr z)
      refine g_aload_n (nx := 38) hX 0 dX11_operand_37 rfl rfl rfl ?_
      refine g_V0 (nx := 41) hX dX11_operand_38 rfl mX11_253 yX11_wordSize_ok (c_X11_wordSize hn hl hql) (ga_dn hn rfl) rfl rfl rfl (by decide) rfl (Nat.le_of_ble_eq_true rfl) (Nat.le_of_ble_eq_true rfl) ?_
      rintro _ _ ⟨rfl, rfl⟩
      rw [hid]
      refine g_istore_n (nx := 42) hX 2 dX11_operand_41 rfl rfl rfl ?_
      refine g_aload_n (nx := 43) hX 0 dX11_operand_42 rfl rfl rfl ?_
      refine g_getfield (nx := 46) hX dX11_operand_43 rfl fX11_86 (ga_dn hn rfl) rfl rfl ?_
      refine g_istore_n (nx := 47) hX 3 dX11_operand_46 rfl rfl rfl ?_
      by_cases h97 : x_tk tb lt q = 97
      · exact g_ls (word h97) ⟨rfl, rfl, rfl, trivial⟩
      have hpr := x_pair_n h97
      have hR : x_op tb lt nm o q = .inl (1, q) := by unfold x_op x_q1; rw [if_neg hd, if_neg (fun z => h97 z.1), hpr, if_pos rfl, if_neg (fun z => h40 z.1)]
      rw [x_nword h97 hql]
      refine g_iload_n (nx := 48) hX 2 dX11_operand_47 rfl rfl rfl ?_
      refine g_if_eq (nx := 51) hX 78 dX11_operand_48 (by decide) rfl (fun _ => ?_) (fun h => absurd rfl h)
      refine g_aload_n (nx := 79) hX 0 dX11_operand_78 rfl rfl rfl ?_
      refine g_iconst (nx := 80) hX 1 dX11_operand_79 rfl (by decide) ?_
      refine g_iload_n (nx := 81) hX 3 dX11_operand_80 rfl rfl rfl ?_
      refine g_V2 (nx := 84) hX dX11_operand_81 rfl mX11_189 yX11_blame_ok (m_blame hn) (ga_dn hn rfl) rfl rfl rfl (by decide) rfl (Nat.le_of_ble_eq_true rfl) (Nat.le_of_ble_eq_true rfl) ?_
      rintro _ _ ⟨rfl, rfl⟩
      refine g_iconst (nx := 85) hX 1 dX11_operand_84 rfl (by decide) ?_
      exact g_ireturn hX hP dX11_operand_85 rfl (Nat.le_of_ble_eq_true rfl) (Nat.le_of_ble_eq_true rfl) (Or.inl ⟨1, q, hR, by omega, ⟨_, rfl⟩, q, _, _, C.length, _, _, _, by omega, by omega, rfl⟩)
    · have h40 := (x_ct (by decide) (by decide)).mp h26
      have h97 : ¬ x_tk tb lt q = 97 := by rw [h40]; decide
      have hpr := x_pair_n h97
      have hR : x_op tb lt nm o q = if x_tk tb lt q = 40 ∧ o < 6 then .inr (.inr (0, q)) else .inl (1, q) := by unfold x_op x_q1; rw [if_neg hd, if_neg (fun z => h97 z.1), hpr, if_pos rfl]
      refine g_aload_n (nx := 30) hX 0 dX11_operand_29 rfl rfl rfl ?_
      refine g_bipush (nx := 32) hX 12 dX11_operand_30 rfl (by decide) ?_
      refine g_V1 (nx := 35) hX dX11_operand_32 rfl mX11_250 yX11_opens_ok (m_opens (s := 12) hn hl hql hid ho hS) (ga_dn hn rfl) rfl rfl rfl (by decide) rfl (Nat.le_of_ble_eq_true rfl) (Nat.le_of_ble_eq_true rfl) ?_
      rintro _ _ ⟨rfl, (⟨hno, rfl⟩ | ⟨hyes, rfl⟩)⟩
      · refine g_iconst (nx := 36) hX 0 dX11_operand_35 rfl (by decide) ?_
        exact g_ireturn hX hP dX11_operand_36 rfl (Nat.le_of_ble_eq_true rfl) (Nat.le_of_ble_eq_true rfl) (Or.inl ⟨1, q, by rw [hR, if_neg hno], by omega, ⟨_, rfl⟩, q, _, _, C.length, _, _, _, by omega, by omega, rfl⟩)
      · refine g_iconst (nx := 36) hX 0 dX11_operand_35 rfl (by decide) ?_
        exact g_ireturn hX hP dX11_operand_36 rfl (Nat.le_of_ble_eq_true rfl) (Nat.le_of_ble_eq_true rfl) (Or.inr (Or.inr ⟨0, q, by rw [hR, if_pos hyes], rfl, rfl⟩))
  · have hd := x_cd.mp (ga_b_n0 h9)
    refine g_aload_n (nx := 13) hX 0 dX11_operand_12 rfl rfl rfl ?_
    refine g_iconst (nx := 14) hX 0 dX11_operand_13 rfl (by decide) ?_
    refine g_aload_n (nx := 15) hX 0 dX11_operand_14 rfl rfl rfl ?_
    refine g_V0 (nx := 18) hX dX11_operand_15 rfl mX11_247 yX11_digits_ok (m_digits hn hl hql hid) (ga_dn hn rfl) rfl rfl rfl (by decide) rfl (Nat.le_of_ble_eq_true rfl) (Nat.le_of_ble_eq_true rfl) ?_
    rintro _ _ (⟨hno, rfl, rfl⟩ | ⟨h48, h5, ⟨v, rfl⟩, rfl⟩ | ⟨h48, h5, rfl, rfl⟩)
    · exact absurd hd hno
    · refine g_V2 (nx := 21) hX dX11_operand_18 rfl mX11_244 yX11_add_ok (c_X11_add hn (by omega)) (ga_dn hn rfl) rfl rfl rfl (by decide) rfl (Nat.le_of_ble_eq_true rfl) (Nat.le_of_ble_eq_true rfl) ?_
      rintro _ _ ⟨rfl, rfl⟩
      refine g_iconst (nx := 22) hX 1 dX11_operand_21 rfl (by decide) ?_
      exact g_ireturn hX hP dX11_operand_22 rfl (Nat.le_of_ble_eq_true rfl) (Nat.le_of_ble_eq_true rfl) (Or.inl ⟨1, q + 5, by unfold x_op; rw [if_pos hd, if_pos h5], by omega, ⟨_, rfl⟩, q + 6, _, _, C.length + 1, _, _, _, by omega, by omega, rfl⟩)
    · refine g_V2 (nx := 21) hX dX11_operand_18 rfl mX11_244 yX11_add_ok (m_addx (C := C) (x := (0, x_num tb lt q)) hn (by omega) rfl rfl) (ga_dn hn rfl) rfl rfl rfl (by decide) rfl (Nat.le_of_ble_eq_true rfl) (Nat.le_of_ble_eq_true rfl) ?_
      rintro _ _ ⟨rfl, rfl⟩
      refine g_iconst (nx := 22) hX 1 dX11_operand_21 rfl (by decide) ?_
      exact g_ireturn hX hP dX11_operand_22 rfl (Nat.le_of_ble_eq_true rfl) (Nat.le_of_ble_eq_true rfl) (Or.inr (Or.inl ⟨(0, x_num tb lt q), by unfold x_op; rw [if_pos hd, if_neg h5], rfl, rfl⟩))
end
