/-! ===== the reference: the rules, statement by statement ===== -/
def L_en (Ls : List (Nat × Nat)) : Nat → Nat := fun k => (Ls.getD k (0, 0)).1
def L_fo (Ls : List (Nat × Nat)) : Nat → Nat := fun k => (Ls.getD k (0, 0)).2
section
variable {Ls : List (Nat × Nat)} {x : Nat × Nat} {k : Nat}
theorem gD_l (h : k < Ls.length) : (Ls ++ [x]).getD k (0, 0) = Ls.getD k (0, 0) := by simp [List.getD, List.getElem?_append, h]
theorem gD_r : (Ls ++ [x]).getD Ls.length (0, 0) = x := by simp [List.getD]
theorem L_fr (h : k ≤ Ls.length) : e_fr (L_en (Ls ++ [x])) k = e_fr (L_en Ls) k := by
  match k, h with
  | 0, _ => rfl
  | k + 1, h => show L_en (Ls ++ [x]) k = L_en Ls k; unfold L_en; rw [gD_l (by omega)]
theorem L_fr1 : e_fr (L_en (Ls ++ [x])) (Ls.length + 1) = x.1 := by show L_en (Ls ++ [x]) Ls.length = x.1; unfold L_en; rw [gD_r]
end
/-- what both sides know of the statements read so far -/
def r_Ls (Ls C : List (Nat × Nat)) (tot nt : Int32) (ns nb : Nat → Int32) : Prop :=
  (∀ k, k < Ls.length → ns k = nI (L_fo Ls k)) ∧ (∀ k, k < Ls.length → nb k = nI (e_fr (L_en Ls) k)) ∧ C.length = e_fr (L_en Ls) Ls.length ∧ e_tt tot nt Ls.length
theorem r_Ls_0 {ns nb : Nat → Int32} : r_Ls [] [] (-1) (-1) ns nb := ⟨fun k h => absurd h (Nat.not_lt_zero k), fun k h => absurd h (Nat.not_lt_zero k), rfl, Or.inl ⟨rfl, rfl⟩⟩
theorem r_Ls_s {Ls C c : List (Nat × Nat)} {tot nt : Int32} {ns nb : Nat → Int32} {v : Int64} (h : r_Ls Ls C tot nt ns nb) : r_Ls (Ls ++ [((C ++ c).length, x_fm v)]) (C ++ c) (x_tt tot Ls.length v) (if x_fm v = 0 ∧ v = 21483564 then nI Ls.length else nt) (upd ns Ls.length (nI (x_fm v))) (upd nb Ls.length (nI C.length)) := by
  have hl : (Ls ++ [((C ++ c).length, x_fm v)]).length = Ls.length + 1 := by simp
  refine ⟨fun k hk => ?_, fun k hk => ?_, ?_, ?_⟩
  · rw [hl] at hk
    by_cases e : k = Ls.length
    · subst e; unfold L_fo; rw [gD_r]; exact if_pos rfl
    · rw [pk_un e, h.1 k (by omega)]; unfold L_fo; rw [gD_l (by omega)]
  · rw [hl] at hk
    by_cases e : k = Ls.length
    · subst e; rw [L_fr (Nat.le_refl _), ← h.2.2.1]; exact if_pos rfl
    · rw [pk_un e, h.2.1 k (by omega), L_fr (by omega)]
  · rw [hl, L_fr1]
  · rw [hl]
    unfold x_tt
    by_cases e : x_fm v = 0 ∧ v = 21483564
    · rw [if_pos e, if_pos e]; exact Or.inr ⟨Ls.length, by omega, rfl, rfl⟩
    · rw [if_neg e, if_neg e]
      exact h.2.2.2.imp id (fun ⟨k, a, b, d⟩ => ⟨k, by omega, b, d⟩)
def t_cp (f g : Nat → Int32) (m : Nat) : Nat → Int32 := fun i => if i < m then g i else f i
theorem t_cp_0 {f g : Nat → Int32} : t_cp f g 0 = f := by funext i; unfold t_cp; rw [if_neg (by omega)]
theorem t_cp_s {f g : Nat → Int32} {m : Nat} : upd (t_cp f g m) m (g m) = t_cp f g (m + 1) := by
  funext i
  unfold upd t_cp
  by_cases h : i = m
  · rw [if_pos h, if_pos (by omega), h]
  · rw [if_neg h]
    by_cases h2 : i < m
    · rw [if_pos h2, if_pos (by omega)]
    · rw [if_neg h2, if_neg (by omega)]
section
variable {E : ga_E} {X : ga_X} {n : Nat} {c0 c1 c2 c3 c4 c5 c6 c7 c8 c9 c10 c11 c12 c13 c14 c15 c16 c17 c18 c19 c20 c21 c22 c23 c24 c25 c26 c27 c28 c29 c30 m79 m80 m81 m82 m83 m84 m85 m86 m87 m88 m89 m90 m91 m92 m93 m94 m95 m96 m97 m98 m99 m100 m101 m102 m103 m104 m105 : ga_C} {L1 L2 : List ga_C} {f : Nat → ga_C} {o_tp o_rd o_fe o_em o_sp o_ac o_td o_sm o_tt o_at o_sz o_fk o_fp o_nw o_md o_nt o_pl o_op d_at d_tk d_ta d_fd d_fa : Int32} {d_tv : Int64} {d_rl : Value}
variable {r_at r_fk r_fp r_nt r_pl r_op : Int32} {nw md lt : Nat} {tb ns nb sg na nz pi cm : Nat → Int32}
variable {p q d k pl : Nat} {C Ls : List (Nat × Nat)} {nm : Nat → Int64} {tot : Int32} {fo bo sh : Nat → Int32} {Post : Option Value → ga_M → Prop}
theorem e_82 (hX : ga_B E d yX11_rules cX11_rules 2 0 0 X) (hP : ga_P E (some .int) 0 0 Post X) (hd : 5 ≤ d) (hn : 106 ≤ n) (hk : 1 ≤ k ∧ k ≤ 4) (hI : Post (some (.int (-1))) (n, L1, ((m_O o_tp o_rd o_fe o_em o_sp o_ac o_td o_sm o_tt (r_at) (nI lt) (nI k) (nI pl) (nI nw) (nI md) (r_nt) (r_pl) (r_op)) :: ga_i 600 tb :: m81 :: m82 :: m83 :: m84 :: m85 :: m86 :: m87 :: m88 :: m89 :: m90 :: m91 :: m92 :: m93 :: m94 :: m95 :: ga_i 25 (ns) :: ga_i 26 (nb) :: ga_i 1300 (sg) :: ga_i 250 (na) :: ga_i 25 (nz) :: ga_i 40 (pi) :: ga_z 40 (cm) :: L2), f)) : ga_G E X 0 0 82 [some (.ref 79), none] [] (n, L1, ((m_O o_tp o_rd o_fe o_em o_sp o_ac o_td o_sm o_tt (r_at) (nI lt) (nI k) (nI pl) (nI nw) (nI md) (r_nt) (r_pl) (r_op)) :: ga_i 600 tb :: m81 :: m82 :: m83 :: m84 :: m85 :: m86 :: m87 :: m88 :: m89 :: m90 :: m91 :: m92 :: m93 :: m94 :: m95 :: ga_i 25 (ns) :: ga_i 26 (nb) :: ga_i 1300 (sg) :: ga_i 250 (na) :: ga_i 25 (nz) :: ga_i 40 (pi) :: ga_z 40 (cm) :: L2), f) := by
  refine g_aload_n (nx := 83) hX 0 dX11_rules_82 rfl rfl rfl ?_
  refine g_getfield (nx := 86) hX dX11_rules_83 rfl fX11_92 (ga_dn hn rfl) rfl rfl ?_
  refine g_if_le (nx := 89) hX 91 dX11_rules_86 (by decide) rfl (fun h86 => ?_) (fun h86 => ?_)
  · exact absurd ((nI_leI (b := 0) (by omega) (by omega)).mp h86) (by omega)
  · refine g_iconst (nx := 90) hX (-1) dX11_rules_89 rfl (by decide) ?_
    exact g_ireturn hX hP dX11_rules_90 rfl (Nat.le_of_ble_eq_true rfl) (Nat.le_of_ble_eq_true rfl) hI
theorem e_43 (hX : ga_B E d yX11_rules cX11_rules 2 0 0 X) (hP : ga_P E (some .int) 0 0 Post X) (hd : 5 ≤ d) (hn : 106 ≤ n) (hl : lt ≤ 600) (hk : 1 ≤ k ∧ k ≤ 4) (hp : p ≤ 700) (hI : ∀ p, p ≤ 700 → Post (some (.int (-1))) (n, L1, ((m_O o_tp o_rd o_fe o_em o_sp o_ac o_td o_sm o_tt (nI p) (nI lt) (nI k) (nI pl) (nI nw) (nI md) (r_nt) (r_pl) (r_op)) :: ga_i 600 tb :: m81 :: m82 :: m83 :: m84 :: m85 :: m86 :: m87 :: m88 :: m89 :: m90 :: m91 :: m92 :: m93 :: m94 :: m95 :: ga_i 25 (ns) :: ga_i 26 (nb) :: ga_i 1300 (sg) :: ga_i 250 (na) :: ga_i 25 (nz) :: ga_i 40 (pi) :: ga_z 40 (cm) :: L2), f)) : ga_G E X 0 0 43 [some (.ref 79), none] [] (n, L1, ((m_O o_tp o_rd o_fe o_em o_sp o_ac o_td o_sm o_tt (nI p) (nI lt) (nI k) (nI pl) (nI nw) (nI md) (r_nt) (r_pl) (r_op)) :: ga_i 600 tb :: m81 :: m82 :: m83 :: m84 :: m85 :: m86 :: m87 :: m88 :: m89 :: m90 :: m91 :: m92 :: m93 :: m94 :: m95 :: ga_i 25 (ns) :: ga_i 26 (nb) :: ga_i 1300 (sg) :: ga_i 250 (na) :: ga_i 25 (nz) :: ga_i 40 (pi) :: ga_z 40 (cm) :: L2), f) := by
  have hk0 : ¬ nI k = 0 := fun z => absurd (nI_inj (b := 0) z (by omega) (by omega)) (by omega)
  have hx : x_sk tb lt p ≤ 700 := by
    by_cases h : p ≤ lt
    · have := (x_sk_le (tb := tb) h).2; omega
    · rw [x_sk_gt (by omega)]; exact hp
  have t65 : ga_G E X 0 0 65 [some (.ref 79), none] [] (n, L1, ((m_O o_tp o_rd o_fe o_em o_sp o_ac o_td o_sm o_tt (nI (x_sk tb lt p)) (nI lt) (nI k) (nI pl) (nI nw) (nI md) (r_nt) (r_pl) (r_op)) :: ga_i 600 tb :: m81 :: m82 :: m83 :: m84 :: m85 :: m86 :: m87 :: m88 :: m89 :: m90 :: m91 :: m92 :: m93 :: m94 :: m95 :: ga_i 25 (ns) :: ga_i 26 (nb) :: ga_i 1300 (sg) :: ga_i 250 (na) :: ga_i 25 (nz) :: ga_i 40 (pi) :: ga_z 40 (cm) :: L2), f) := by
    refine g_aload_n (nx := 66) hX 0 dX11_rules_65 rfl rfl rfl ?_
    refine g_getfield (nx := 69) hX dX11_rules_66 rfl fX11_104 (ga_dn hn rfl) rfl rfl ?_
    refine g_iconst (nx := 70) hX (-1) dX11_rules_69 rfl (by decide) ?_
    refine g_icmp_ne (nx := 73) hX 82 dX11_rules_70 (by decide) rfl (fun h70 => ?_) (fun h70 => ?_)
    · exact e_82 hX hP hd hn hk (hI _ hx)
    · refine g_aload_n (nx := 74) hX 0 dX11_rules_73 rfl rfl rfl ?_
      refine g_iconst (nx := 75) hX 4 dX11_rules_74 rfl (by decide) ?_
      refine g_aload_n (nx := 76) hX 0 dX11_rules_75 rfl rfl rfl ?_
      refine g_getfield (nx := 79) hX dX11_rules_76 rfl fX11_89 (ga_dn hn rfl) rfl rfl ?_
      refine g_V2 (nx := 82) hX dX11_rules_79 rfl mX11_189 yX11_blame_ok (e_blame hn hk) (ga_dn hn rfl) rfl rfl rfl (by omega) rfl (Nat.le_of_ble_eq_true rfl) (Nat.le_of_ble_eq_true rfl) ?_
      rintro _ _ ⟨rfl, rfl⟩
      exact e_82 hX hP hd hn hk (hI _ hx)
  refine g_aload_n (nx := 44) hX 0 dX11_rules_43 rfl rfl rfl ?_
  refine g_V0 (nx := 47) hX dX11_rules_44 rfl mX11_186 yX11_here_ok (c_X11_here hn hl (by omega)) (ga_dn hn rfl) rfl rfl rfl (by omega) rfl (Nat.le_of_ble_eq_true rfl) (Nat.le_of_ble_eq_true rfl) ?_
  rintro _ _ ⟨rfl, rfl⟩
  refine g_iconst (nx := 48) hX (-1) dX11_rules_47 rfl (by decide) ?_
  refine g_icmp_eq (nx := 51) hX 65 dX11_rules_48 (by decide) rfl (fun h48 => ?_) (fun h48 => ?_)
  · exact t65
  · refine g_aload_n (nx := 52) hX 0 dX11_rules_51 rfl rfl rfl ?_
    refine g_getfield (nx := 55) hX dX11_rules_52 rfl fX11_92 (ga_dn hn rfl) rfl rfl ?_
    refine g_if_ne (nx := 58) hX 65 dX11_rules_55 (by decide) rfl (fun h55 => ?_) (fun h55 => ?_)
    · exact t65
    · exact absurd h55 hk0
theorem rl_loop (hX : ga_B E d yX11_rules cX11_rules 2 0 0 X) (hP : ga_P E (some .int) 0 0 Post X) (hd : 5 ≤ d) (hn : 106 ≤ n) (hl : lt ≤ 600) : ∀ (m q p : Nat) (Ls C : List (Nat × Nat)) (nm : Nat → Int64) (tot r_nt r_pl r_op : Int32) (ns nb na nz pi cm : Nat → Int32), m + Ls.length = 24 → p ≤ lt → x_sk tb lt p = q → C.length ≤ q → r_nm tb nm Ls.length ns nz na → r_Ls Ls C tot r_nt ns nb →
    (∀ k pl, R_al tb lt m q Ls C nm tot = .inl (k, pl) → (1 ≤ k ∧ k ≤ 4) → ∀ M, (∃ p pl_ op_ nw md r_nt sg pi cm ns nb na nz, p ≤ 700 ∧ M = (n, L1, ((m_O o_tp o_rd o_fe o_em o_sp o_ac o_td o_sm o_tt (nI p) (nI lt) (nI (k)) (nI (pl)) (nI nw) (nI md) (r_nt) (pl_) (op_)) :: ga_i 600 tb :: m81 :: m82 :: m83 :: m84 :: m85 :: m86 :: m87 :: m88 :: m89 :: m90 :: m91 :: m92 :: m93 :: m94 :: m95 :: ga_i 25 (ns) :: ga_i 26 (nb) :: ga_i 1300 (sg) :: ga_i 250 (na) :: ga_i 25 (nz) :: ga_i 40 (pi) :: ga_z 40 (cm) :: L2), f)) → Post (some (.int (-1))) M) →
    (∀ Ls' C' nm' tot' q' r_nt r_pl r_op ns nb na nz pi cm, R_al tb lt m q Ls C nm tot = .inr (Ls', C', nm', tot') → Ls'.length ≤ 24 → C'.length ≤ 600 → r_Ls Ls' C' tot' r_nt ns nb → ga_G E X 0 0 65 [some (.ref 79), none] [] (n, L1, ((m_O o_tp o_rd o_fe o_em o_sp o_ac o_td o_sm o_tt (nI q') (nI lt) (0) (-1) (nI Ls'.length) (nI C'.length) (r_nt) (r_pl) (r_op)) :: ga_i 600 tb :: m81 :: m82 :: m83 :: m84 :: m85 :: m86 :: m87 :: m88 :: m89 :: m90 :: m91 :: m92 :: m93 :: m94 :: m95 :: ga_i 25 (ns) :: ga_i 26 (nb) :: ga_i 1300 (r_sg C' sg) :: ga_i 250 (na) :: ga_i 25 (nz) :: ga_i 40 (pi) :: ga_z 40 (cm) :: L2), f)) →
    ga_G E X 0 0 43 [some (.ref 79), none] [] (n, L1, ((m_O o_tp o_rd o_fe o_em o_sp o_ac o_td o_sm o_tt (nI p) (nI lt) (0) (-1) (nI Ls.length) (nI C.length) (r_nt) (r_pl) (r_op)) :: ga_i 600 tb :: m81 :: m82 :: m83 :: m84 :: m85 :: m86 :: m87 :: m88 :: m89 :: m90 :: m91 :: m92 :: m93 :: m94 :: m95 :: ga_i 25 (ns) :: ga_i 26 (nb) :: ga_i 1300 (r_sg C sg) :: ga_i 250 (na) :: ga_i 25 (nz) :: ga_i 40 (pi) :: ga_z 40 (cm) :: L2), f) := by
  intro m
  induction m with
  | zero =>
    intro q p Ls C nm tot r_nt r_pl r_op ns nb na nz pi cm hm hp hq hC hN hL hE kont
    have hql : q ≤ lt := by rw [← hq]; exact (x_sk_le hp).2
    have hid := x_sk_id hp hq
    rw [R_al] at hE kont
    refine g_aload_n (nx := 44) hX 0 dX11_rules_43 rfl rfl rfl ?_
    refine g_V0 (nx := 47) hX dX11_rules_44 rfl mX11_186 yX11_here_ok (c_X11_here hn hl (by omega)) (ga_dn hn rfl) rfl rfl rfl (by omega) rfl (Nat.le_of_ble_eq_true rfl) (Nat.le_of_ble_eq_true rfl) ?_
    rintro _ _ ⟨rfl, rfl⟩
    rw [hq]
    refine g_iconst (nx := 48) hX (-1) dX11_rules_47 rfl (by decide) ?_
    refine g_icmp_eq (nx := 51) hX 65 dX11_rules_48 (by decide) rfl (fun h48 => ?_) (fun h48 => ?_)
    · have ht := (x_ct (by decide) (by decide)).mp h48
      exact kont Ls C nm tot q r_nt r_pl r_op ns nb na nz pi cm (by rw [if_pos ht]) (by omega) (by omega) hL
    · have ht : ¬ x_tk tb lt q = -1 := fun z => h48 ((x_ct (by decide) (by decide)).mpr z)
      refine g_aload_n (nx := 52) hX 0 dX11_rules_51 rfl rfl rfl ?_
      refine g_getfield (nx := 55) hX dX11_rules_52 rfl fX11_92 (ga_dn hn rfl) rfl rfl ?_
      refine g_if_ne (nx := 58) hX 65 dX11_rules_55 (by decide) rfl (fun h55 => ?_) (fun h55 => ?_)
      · exact absurd rfl h55
      · refine g_aload_n (nx := 59) hX 0 dX11_rules_58 rfl rfl rfl ?_
        refine g_V0 (nx := 62) hX dX11_rules_59 rfl mX11_300 yX11_statement_ok (c_X11_statement (C := C) (nw := Ls.length) hn hl (by omega) hN hql hid hC) (ga_dn hn rfl) rfl rfl rfl (by omega) rfl (Nat.le_of_ble_eq_true rfl) (Nat.le_of_ble_eq_true rfl) ?_
        rintro _ _ ⟨rfl, (⟨k, pl, hR, hk, p', pl_, op_, nw', md', nt', sg', pi', cm', ns', nb', na', nz', h1, rfl⟩ | ⟨q', c', p', pl_, op_, pi', cm', na', nz', hR, h1, h2, h3, rfl⟩)⟩
        · refine g_goto (nx := 43) hX dX11_rules_62 (by decide) ?_
          exact e_43 hX hP hd hn hl hk h1 (fun p hp7 => hE k pl (by rw [if_neg ht]; unfold R_st at hR; rw [if_neg (fun z => by omega)] at hR; cases hR; rfl) hk _ ⟨p, _, _, nw', md', _, _, _, _, _, _, _, _, hp7, rfl⟩)
        · refine g_goto (nx := 43) hX dX11_rules_62 (by decide) ?_
          unfold R_st at hR
          rw [if_neg (fun z => by omega)] at hR
          cases hR
  | succ m ih =>
    intro q p Ls C nm tot r_nt r_pl r_op ns nb na nz pi cm hm hp hq hC hN hL hE kont
    have hql : q ≤ lt := by rw [← hq]; exact (x_sk_le hp).2
    have hid := x_sk_id hp hq
    have hst : ¬ x_tk tb lt q = -1 → R_al tb lt (m + 1) q Ls C nm tot = match R_st tb lt nm Ls.length q with
        | .inl e => .inl e
        | .inr (q', c) => R_al tb lt m q' (Ls ++ [((C ++ c).length, x_fm (x_tv tb lt q))]) (C ++ c) (x_nm nm Ls.length (x_tv tb lt q)) (x_tt tot Ls.length (x_tv tb lt q)) := by
      intro ht
      rw [R_al, if_neg ht]
      unfold R_st
      by_cases h97 : x_tk tb lt q = 97
      · rw [if_pos h97, if_pos ⟨h97, by omega⟩]; rfl
      · rw [if_neg h97, if_neg (fun z => h97 z.1)]
    refine g_aload_n (nx := 44) hX 0 dX11_rules_43 rfl rfl rfl ?_
    refine g_V0 (nx := 47) hX dX11_rules_44 rfl mX11_186 yX11_here_ok (c_X11_here hn hl (by omega)) (ga_dn hn rfl) rfl rfl rfl (by omega) rfl (Nat.le_of_ble_eq_true rfl) (Nat.le_of_ble_eq_true rfl) ?_
    rintro _ _ ⟨rfl, rfl⟩
    rw [hq]
    refine g_iconst (nx := 48) hX (-1) dX11_rules_47 rfl (by decide) ?_
    refine g_icmp_eq (nx := 51) hX 65 dX11_rules_48 (by decide) rfl (fun h48 => ?_) (fun h48 => ?_)
    · have ht := (x_ct (by decide) (by decide)).mp h48
      exact kont Ls C nm tot q r_nt r_pl r_op ns nb na nz pi cm (by rw [R_al, if_pos ht]) (by omega) (by omega) hL
    · have ht : ¬ x_tk tb lt q = -1 := fun z => h48 ((x_ct (by decide) (by decide)).mpr z)
      refine g_aload_n (nx := 52) hX 0 dX11_rules_51 rfl rfl rfl ?_
      refine g_getfield (nx := 55) hX dX11_rules_52 rfl fX11_92 (ga_dn hn rfl) rfl rfl ?_
      refine g_if_ne (nx := 58) hX 65 dX11_rules_55 (by decide) rfl (fun h55 => ?_) (fun h55 => ?_)
      · exact absurd rfl h55
      · refine g_aload_n (nx := 59) hX 0 dX11_rules_58 rfl rfl rfl ?_
        refine g_V0 (nx := 62) hX dX11_rules_59 rfl mX11_300 yX11_statement_ok (c_X11_statement (C := C) (nw := Ls.length) hn hl (by omega) hN hql hid hC) (ga_dn hn rfl) rfl rfl rfl (by omega) rfl (Nat.le_of_ble_eq_true rfl) (Nat.le_of_ble_eq_true rfl) ?_
        rintro _ _ ⟨rfl, (⟨k, pl, hR, hk, p', pl_, op_, nw', md', nt', sg', pi', cm', ns', nb', na', nz', h1, rfl⟩ | ⟨q', c', p', pl_, op_, pi', cm', na', nz', hR, h1, h2, h3, rfl⟩)⟩
        · refine g_goto (nx := 43) hX dX11_rules_62 (by decide) ?_
          exact e_43 hX hP hd hn hl hk h1 (fun p hp7 => hE k pl (by rw [hst ht, hR]) hk _ ⟨p, _, _, nw', md', _, _, _, _, _, _, _, _, hp7, rfl⟩)
        · refine g_goto (nx := 43) hX dX11_rules_62 (by decide) ?_
          have hR1 : R_one tb lt nm q = .inr (q', c') := by
            unfold R_st at hR
            by_cases h97 : x_tk tb lt q = 97 ∧ Ls.length < 24
            · rw [if_pos h97] at hR; exact hR
            · rw [if_neg h97] at hR; cases hR
          have hl1 := ln_one (nm := nm) _ _ _ hql hR1
          have e1 : nI (Ls.length + 1) = nI (Ls ++ [((C ++ c').length, x_fm (x_tv tb lt q))]).length := by rw [List.length_append] <;> rfl
          rw [e1]
          exact ih q' p' (Ls ++ [((C ++ c').length, x_fm (x_tv tb lt q))]) (C ++ c') (x_nm nm Ls.length (x_tv tb lt q)) (x_tt tot Ls.length (x_tv tb lt q)) _ _ _ _ _ _ _ _ _ (by rw [List.length_append, List.length_singleton]; omega) h1 h2 (by rw [List.length_append]; omega) (by rw [List.length_append, List.length_singleton]; exact h3) (r_Ls_s hL) (fun k pl hk => hE k pl (by rw [hst ht, hR]; exact hk)) (fun Ls' C' nm' tot' q'' a1 a2 a3 a4 a5 a6 a7 a8 a9 hk => kont Ls' C' nm' tot' q'' a1 a2 a3 a4 a5 a6 a7 a8 a9 (by rw [hst ht, hR]; exact hk))
theorem c_X11_rules (hn : 106 ≤ n) (hl : lt ≤ 600) (hN0 : ∀ j, j < 15 → nm j = x_cn j) : ga_Mt E 5 yX11_rules cX11_rules 2 (some .int) 0 0 [.ref 79] (n, L1, ((m_O (nI lt) o_rd o_fe o_em o_sp o_ac o_td o_sm o_tt o_at o_sz o_fk o_fp o_nw o_md o_nt o_pl o_op) :: ga_i 600 tb :: m81 :: m82 :: m83 :: m84 :: m85 :: m86 :: m87 :: m88 :: m89 :: m90 :: m91 :: m92 :: ga_i 24 fo :: ga_i 25 bo :: ga_i 1300 sh :: ga_i 25 ns :: ga_i 26 nb :: ga_i 1300 sg :: ga_i 250 na :: ga_i 25 nz :: ga_i 40 pi :: ga_z 40 cm :: L2), f) (fun r M =>
    (∃ k pl, R_rd tb lt nm = .inl (k, pl) ∧ (1 ≤ k ∧ k ≤ 4) ∧ r = some (.int (-1)) ∧ ∃ y1 y2 y3 y4 y5 y6 ns nb sg na nz pi cm, M = (n, L1, ((m_O (0) o_rd o_fe o_em o_sp o_ac o_td o_sm o_tt (y1) (nI lt) (nI k) (nI pl) (y2) (y3) (y4) (y5) (y6)) :: ga_i 600 tb :: m81 :: m82 :: m83 :: m84 :: m85 :: m86 :: m87 :: m88 :: m89 :: m90 :: m91 :: m92 :: ga_i 24 fo :: ga_i 25 bo :: ga_i 1300 sh :: ga_i 25 ns :: ga_i 26 nb :: ga_i 1300 sg :: ga_i 250 na :: ga_i 25 nz :: ga_i 40 pi :: ga_z 40 cm :: L2), f)) ∨
    (∃ Ls C nm_ tot, R_rd tb lt nm = .inr (Ls, C, nm_, tot) ∧ r = some (.int (nI Ls.length)) ∧ Ls.length ≤ 24 ∧ C.length ≤ 600 ∧ C.length = e_fr (L_en Ls) Ls.length ∧ ∃ y1 y2 y3 y4 y5 y6 tt_ ns nb sg na nz pi cm fo bo sh, e_tt tot tt_ Ls.length ∧ (∀ k, k ≤ Ls.length → bo k = nI (e_fr (L_en Ls) k)) ∧ (∀ k, k < Ls.length → fo k = nI (L_fo Ls k)) ∧ (∀ i, i < C.length → sh (2 * i) = nI (e_mop (C.getD i (0, 0))) ∧ sh (2 * i + 1) = nI (e_mar (C.getD i (0, 0)))) ∧ M = (n, L1, ((m_O (0) o_rd o_fe o_em o_sp o_ac o_td (nI Ls.length) (tt_) (y1) (nI lt) (0) (-1) (y2) (y3) (y4) (y5) (y6)) :: ga_i 600 tb :: m81 :: m82 :: m83 :: m84 :: m85 :: m86 :: m87 :: m88 :: m89 :: m90 :: m91 :: m92 :: ga_i 24 fo :: ga_i 25 bo :: ga_i 1300 sh :: ga_i 25 ns :: ga_i 26 nb :: ga_i 1300 sg :: ga_i 250 na :: ga_i 25 nz :: ga_i 40 pi :: ga_z 40 cm :: L2), f))) := by
  refine ga_Mt.of (by decide) rfl (fun X hX hP => ?_)
  refine g_less [some (.ref 79), none] ⟨rfl, trivial⟩ ?_
  have le5 : 5 ≤ 5 := by decide
  have hN : r_nm tb (x_n0 nm) 0 ns nz na := ⟨fun j hj => by unfold x_n0; rw [if_neg (by omega)]; exact hN0 j hj, fun k hk => absurd hk (Nat.not_lt_zero k), fun k _ hk => by unfold x_n0; rw [if_pos (by omega)]⟩
  have hsg : r_sg [] sg = sg := by funext i; unfold r_sg; rw [if_neg (by simp)]
  have t := rl_loop (E := E) (n := n) (L1 := L1) (L2 := L2) (f := f) (o_tp := 0) (o_rd := o_rd) (o_fe := o_fe) (o_em := o_em) (o_sp := o_sp) (o_ac := o_ac) (o_td := o_td) (o_sm := o_sm) (o_tt := o_tt) (m81 := m81) (m82 := m82) (m83 := m83) (m84 := m84) (m85 := m85) (m86 := m86) (m87 := m87) (m88 := m88) (m89 := m89) (m90 := m90) (m91 := m91) (m92 := m92) (m93 := ga_i 24 fo) (m94 := ga_i 25 bo) (m95 := ga_i 1300 sh) (sg := sg) hX hP le5 hn hl 24 (x_sk tb lt 0) 0 [] [] (x_n0 nm) (-1) (-1) o_pl o_op ns nb na nz pi cm rfl (Nat.zero_le _) rfl (Nat.zero_le _) hN r_Ls_0 (fun k pl hR hk M hM => ?_) (fun Ls C nm_ tot q' r_nt r_pl r_op ns nb na nz pi cm hR hL24 hC6 hL => ?_)
  · rw [hsg] at t
    refine g_aload_n (nx := 1) hX 0 dX11_rules_0 rfl rfl rfl ?_
    refine g_aload_n (nx := 2) hX 0 dX11_rules_1 rfl rfl rfl ?_
    refine g_getfield (nx := 5) hX dX11_rules_2 rfl fX11_13 (ga_dn hn rfl) rfl rfl ?_
    refine g_putfield (nx := 8) hX dX11_rules_5 rfl pX11_89 (ga_dn hn rfl) rfl rfl rfl rfl ?_
    refine g_aload_n (nx := 9) hX 0 dX11_rules_8 rfl rfl rfl ?_
    refine g_iconst (nx := 10) hX 0 dX11_rules_9 rfl (by decide) ?_
    refine g_putfield (nx := 13) hX dX11_rules_10 rfl pX11_13 (ga_dn hn rfl) rfl rfl rfl rfl ?_
    refine g_aload_n (nx := 14) hX 0 dX11_rules_13 rfl rfl rfl ?_
    refine g_iconst (nx := 15) hX 0 dX11_rules_14 rfl (by decide) ?_
    refine g_putfield (nx := 18) hX dX11_rules_15 rfl pX11_86 (ga_dn hn rfl) rfl rfl rfl rfl ?_
    refine g_aload_n (nx := 19) hX 0 dX11_rules_18 rfl rfl rfl ?_
    refine g_iconst (nx := 20) hX 0 dX11_rules_19 rfl (by decide) ?_
    refine g_putfield (nx := 23) hX dX11_rules_20 rfl pX11_92 (ga_dn hn rfl) rfl rfl rfl rfl ?_
    refine g_aload_n (nx := 24) hX 0 dX11_rules_23 rfl rfl rfl ?_
    refine g_iconst (nx := 25) hX (-1) dX11_rules_24 rfl (by decide) ?_
    refine g_putfield (nx := 28) hX dX11_rules_25 rfl pX11_95 (ga_dn hn rfl) rfl rfl rfl rfl ?_
    refine g_aload_n (nx := 29) hX 0 dX11_rules_28 rfl rfl rfl ?_
    refine g_iconst (nx := 30) hX 0 dX11_rules_29 rfl (by decide) ?_
    refine g_putfield (nx := 33) hX dX11_rules_30 rfl pX11_98 (ga_dn hn rfl) rfl rfl rfl rfl ?_
    refine g_aload_n (nx := 34) hX 0 dX11_rules_33 rfl rfl rfl ?_
    refine g_iconst (nx := 35) hX 0 dX11_rules_34 rfl (by decide) ?_
    refine g_putfield (nx := 38) hX dX11_rules_35 rfl pX11_101 (ga_dn hn rfl) rfl rfl rfl rfl ?_
    refine g_aload_n (nx := 39) hX 0 dX11_rules_38 rfl rfl rfl ?_
    refine g_iconst (nx := 40) hX (-1) dX11_rules_39 rfl (by decide) ?_
    refine g_putfield (nx := 43) hX dX11_rules_40 rfl pX11_104 (ga_dn hn rfl) rfl rfl rfl rfl ?_
    exact t
  · left
    obtain ⟨p, a1, a2, a3, a4, a5, a6, a7, a8, a9, b1, b2, b3, hp, rfl⟩ := hM
    exact ⟨k, pl, by unfold R_rd; rw [hR], hk, rfl, nI p, nI a3, nI a4, a5, a1, a2, _, _, _, _, _, _, _, rfl⟩
  · obtain ⟨l1, l2, l3, l4⟩ := hL
    rcases l4 with ⟨ht, hnt⟩ | ⟨kt, hkt, hnt, ht⟩
    · -- no total
      subst hnt
      have hRd : R_rd tb lt nm = .inl (4, lt) := by unfold R_rd; rw [hR]; dsimp only; rw [if_pos ht]
      refine g_aload_n (nx := 66) hX 0 dX11_rules_65 rfl rfl rfl ?_
      refine g_getfield (nx := 69) hX dX11_rules_66 rfl fX11_104 (ga_dn hn rfl) rfl rfl ?_
      refine g_iconst (nx := 70) hX (-1) dX11_rules_69 rfl (by decide) ?_
      refine g_icmp_ne (nx := 73) hX 82 dX11_rules_70 (by decide) rfl (fun h70 => ?_) (fun h70 => ?_)
      · exact absurd rfl h70
      · refine g_aload_n (nx := 74) hX 0 dX11_rules_73 rfl rfl rfl ?_
        refine g_iconst (nx := 75) hX 4 dX11_rules_74 rfl (by decide) ?_
        refine g_aload_n (nx := 76) hX 0 dX11_rules_75 rfl rfl rfl ?_
        refine g_getfield (nx := 79) hX dX11_rules_76 rfl fX11_89 (ga_dn hn rfl) rfl rfl ?_
        refine g_V2 (nx := 82) hX dX11_rules_79 rfl mX11_189 yX11_blame_ok (m_blame hn) (ga_dn hn rfl) rfl rfl rfl (by decide) rfl (Nat.le_of_ble_eq_true rfl) (Nat.le_of_ble_eq_true rfl) ?_
        rintro _ _ ⟨rfl, rfl⟩
        exact e_82 (k := 4) (pl := lt) hX hP le5 hn (by omega) (Or.inl ⟨4, lt, hRd, by omega, rfl, _, _, _, _, _, _, _, _, _, _, _, _, _, rfl⟩)
    · have hRd : R_rd tb lt nm = .inr (Ls, C, nm_, tot) := by unfold R_rd; rw [hR]; dsimp only; rw [if_neg (by rw [ht]; exact nI_neg1 (by omega))]
      have e2 : ∀ i, i < C.length → r_sg C sg (2 * i) = nI (e_mop (C.getD i (0, 0))) ∧ r_sg C sg (2 * i + 1) = nI (e_mar (C.getD i (0, 0))) := fun i hi => by
        unfold r_sg
        refine ⟨?_, ?_⟩
        · rw [if_pos (by omega), if_pos (by omega), show 2 * i / 2 = i by omega]
        · rw [if_pos (by omega), if_neg (by omega), show (2 * i + 1) / 2 = i by omega]
      generalize hs : r_sg C sg = sgC at *
      generalize hb : upd nb Ls.length (nI C.length) = nbC
      have hbo : ∀ k, k ≤ Ls.length → nbC k = nI (e_fr (L_en Ls) k) := fun k hk => by
        rw [← hb]
        by_cases e : k = Ls.length
        · rw [e, ← l3]; exact if_pos rfl
        · rw [pk_un e]; exact l2 k (by omega)
      have t178 : ∀ (j i : Nat), i + j = 2 * C.length → ga_G E X 0 0 178 [some (.ref 79), some (.int (nI i))] [] (n, L1, ((m_O (0) o_rd o_fe o_em o_sp o_ac o_td (nI Ls.length) (r_nt) (nI q') (nI lt) (0) (-1) (nI Ls.length) (nI C.length) (r_nt) (r_pl) (r_op)) :: ga_i 600 tb :: m81 :: m82 :: m83 :: m84 :: m85 :: m86 :: m87 :: m88 :: m89 :: m90 :: m91 :: m92 :: ga_i 24 (t_cp fo ns Ls.length) :: ga_i 25 (t_cp bo nbC (Ls.length + 1)) :: ga_i 1300 (t_cp sh sgC i) :: ga_i 25 ns :: ga_i 26 nbC :: ga_i 1300 sgC :: ga_i 250 na :: ga_i 25 nz :: ga_i 40 pi :: ga_z 40 cm :: L2), f) := by
        intro j
        induction j with
        | zero =>
          intro i hi
          have e : i = 2 * C.length := by omega
          refine g_iload_n (nx := 179) hX 1 dX11_rules_178 rfl rfl rfl ?_
          refine g_iconst (nx := 180) hX 2 dX11_rules_179 rfl (by decide) ?_
          refine g_aload_n (nx := 181) hX 0 dX11_rules_180 rfl rfl rfl ?_
          refine g_getfield (nx := 184) hX dX11_rules_181 rfl fX11_101 (ga_dn hn rfl) rfl rfl ?_
          refine g_imul (nx := 185) hX dX11_rules_184 rfl ?_
          rw [ix_2]
          refine g_icmp_ge (nx := 188) hX 206 dX11_rules_185 (by decide) rfl (fun h185 => ?_) (fun h185 => ?_)
          · refine g_aload_n (nx := 207) hX 0 dX11_rules_206 rfl rfl rfl ?_
            refine g_getfield (nx := 210) hX dX11_rules_207 rfl fX11_71 (ga_dn hn rfl) rfl rfl ?_
            exact g_ireturn hX hP dX11_rules_210 rfl (Nat.le_of_ble_eq_true rfl) (Nat.le_of_ble_eq_true rfl) (Or.inr ⟨Ls, C, nm_, tot, hRd, rfl, hL24, hC6, l3, _, _, _, _, _, _, r_nt, _, _, _, _, _, _, _, _, _, _, Or.inr ⟨kt, hkt, hnt, ht⟩, fun k hk => by unfold t_cp; rw [if_pos (by omega)]; exact hbo k hk, fun k hk => by unfold t_cp; rw [if_pos hk]; exact l1 k hk, fun x hx => by unfold t_cp; rw [if_pos (by omega), if_pos (by omega)]; exact e2 x hx, rfl⟩)
          · exact absurd (nI_le (by omega) (by omega)) h185
        | succ j ih =>
          intro i hi
          have ih1 := ih (i + 1) (by omega)
          rw [← t_cp_s (m := i)] at ih1
          refine g_iload_n (nx := 179) hX 1 dX11_rules_178 rfl rfl rfl ?_
          refine g_iconst (nx := 180) hX 2 dX11_rules_179 rfl (by decide) ?_
          refine g_aload_n (nx := 181) hX 0 dX11_rules_180 rfl rfl rfl ?_
          refine g_getfield (nx := 184) hX dX11_rules_181 rfl fX11_101 (ga_dn hn rfl) rfl rfl ?_
          refine g_imul (nx := 185) hX dX11_rules_184 rfl ?_
          rw [ix_2]
          refine g_icmp_ge (nx := 188) hX 206 dX11_rules_185 (by decide) rfl (fun h185 => ?_) (fun h185 => ?_)
          · exact absurd ((nI_leI (by omega) (by omega)).mp h185) (by omega)
          · refine g_aload_n (nx := 189) hX 0 dX11_rules_188 rfl rfl rfl ?_
            refine g_getfield (nx := 192) hX dX11_rules_189 rfl fX11_80 (ga_dn hn rfl) rfl rfl ?_
            refine g_iload_n (nx := 193) hX 1 dX11_rules_192 rfl rfl rfl ?_
            refine g_aload_n (nx := 194) hX 0 dX11_rules_193 rfl rfl rfl ?_
            refine g_getfield (nx := 197) hX dX11_rules_194 rfl fX11_113 (ga_dn hn rfl) rfl rfl ?_
            refine g_iload_n (nx := 198) hX 1 dX11_rules_197 rfl rfl rfl ?_
            refine g_iaload (nx := 199) hX dX11_rules_198 rfl (ga_dn hn rfl) rfl (ga_ix_of (j := i) rfl (by omega) (by omega)) ?_
            refine g_iastore (nx := 200) hX dX11_rules_199 rfl (ga_dn hn rfl) rfl (ga_ix_of (j := i) rfl (by omega) (by omega)) ?_
            refine g_iinc (nx := 203) hX 1 (nI (i + 1)) dX11_rules_200 rfl rfl rfl (nI_1 i) ?_
            refine g_goto (nx := 178) hX dX11_rules_203 (by decide) ?_
            exact ih1
      have t150 : ∀ (j i : Nat), i + j = Ls.length → ga_G E X 0 0 150 [some (.ref 79), some (.int (nI i))] [] (n, L1, ((m_O (0) o_rd o_fe o_em o_sp o_ac o_td (nI Ls.length) (r_nt) (nI q') (nI lt) (0) (-1) (nI Ls.length) (nI C.length) (r_nt) (r_pl) (r_op)) :: ga_i 600 tb :: m81 :: m82 :: m83 :: m84 :: m85 :: m86 :: m87 :: m88 :: m89 :: m90 :: m91 :: m92 :: ga_i 24 (t_cp fo ns i) :: ga_i 25 (t_cp bo nbC (Ls.length + 1)) :: ga_i 1300 sh :: ga_i 25 ns :: ga_i 26 nbC :: ga_i 1300 sgC :: ga_i 250 na :: ga_i 25 nz :: ga_i 40 pi :: ga_z 40 cm :: L2), f) := by
        intro j
        induction j with
        | zero =>
          intro i hi
          have e : i = Ls.length := by omega
          have t0 := t178 (2 * C.length) 0 (by omega)
          rw [t_cp_0 (f := sh)] at t0
          rw [e]
          refine g_iload_n (nx := 151) hX 1 dX11_rules_150 rfl rfl rfl ?_
          refine g_aload_n (nx := 152) hX 0 dX11_rules_151 rfl rfl rfl ?_
          refine g_getfield (nx := 155) hX dX11_rules_152 rfl fX11_98 (ga_dn hn rfl) rfl rfl ?_
          refine g_icmp_ge (nx := 158) hX 176 dX11_rules_155 (by decide) rfl (fun h155 => ?_) (fun h155 => ?_)
          · refine g_iconst (nx := 177) hX 0 dX11_rules_176 rfl (by decide) ?_
            refine g_istore_n (nx := 178) hX 1 dX11_rules_177 rfl rfl rfl ?_
            exact t0
          · exact absurd (nI_le (by omega) (by omega)) h155
        | succ j ih =>
          intro i hi
          have ih1 := ih (i + 1) (by omega)
          rw [← t_cp_s (m := i)] at ih1
          refine g_iload_n (nx := 151) hX 1 dX11_rules_150 rfl rfl rfl ?_
          refine g_aload_n (nx := 152) hX 0 dX11_rules_151 rfl rfl rfl ?_
          refine g_getfield (nx := 155) hX dX11_rules_152 rfl fX11_98 (ga_dn hn rfl) rfl rfl ?_
          refine g_icmp_ge (nx := 158) hX 176 dX11_rules_155 (by decide) rfl (fun h155 => ?_) (fun h155 => ?_)
          · exact absurd ((nI_leI (by omega) (by omega)).mp h155) (by omega)
          · refine g_aload_n (nx := 159) hX 0 dX11_rules_158 rfl rfl rfl ?_
            refine g_getfield (nx := 162) hX dX11_rules_159 rfl fX11_74 (ga_dn hn rfl) rfl rfl ?_
            refine g_iload_n (nx := 163) hX 1 dX11_rules_162 rfl rfl rfl ?_
            refine g_aload_n (nx := 164) hX 0 dX11_rules_163 rfl rfl rfl ?_
            refine g_getfield (nx := 167) hX dX11_rules_164 rfl fX11_107 (ga_dn hn rfl) rfl rfl ?_
            refine g_iload_n (nx := 168) hX 1 dX11_rules_167 rfl rfl rfl ?_
            refine g_iaload (nx := 169) hX dX11_rules_168 rfl (ga_dn hn rfl) rfl (ga_ix_of (j := i) rfl (by omega) (by omega)) ?_
            refine g_iastore (nx := 170) hX dX11_rules_169 rfl (ga_dn hn rfl) rfl (ga_ix_of (j := i) rfl (by omega) (by omega)) ?_
            refine g_iinc (nx := 173) hX 1 (nI (i + 1)) dX11_rules_170 rfl rfl rfl (nI_1 i) ?_
            refine g_goto (nx := 150) hX dX11_rules_173 (by decide) ?_
            exact ih1
      have t122 : ∀ (j i : Nat), i + j = Ls.length + 1 → ga_G E X 0 0 122 [some (.ref 79), some (.int (nI i))] [] (n, L1, ((m_O (0) o_rd o_fe o_em o_sp o_ac o_td (nI Ls.length) (r_nt) (nI q') (nI lt) (0) (-1) (nI Ls.length) (nI C.length) (r_nt) (r_pl) (r_op)) :: ga_i 600 tb :: m81 :: m82 :: m83 :: m84 :: m85 :: m86 :: m87 :: m88 :: m89 :: m90 :: m91 :: m92 :: ga_i 24 fo :: ga_i 25 (t_cp bo nbC i) :: ga_i 1300 sh :: ga_i 25 ns :: ga_i 26 nbC :: ga_i 1300 sgC :: ga_i 250 na :: ga_i 25 nz :: ga_i 40 pi :: ga_z 40 cm :: L2), f) := by
        intro j
        induction j with
        | zero =>
          intro i hi
          have e : i = Ls.length + 1 := by omega
          have t0 := t150 Ls.length 0 (by omega)
          rw [t_cp_0 (f := fo)] at t0
          rw [e]
          refine g_iload_n (nx := 123) hX 1 dX11_rules_122 rfl rfl rfl ?_
          refine g_aload_n (nx := 124) hX 0 dX11_rules_123 rfl rfl rfl ?_
          refine g_getfield (nx := 127) hX dX11_rules_124 rfl fX11_98 (ga_dn hn rfl) rfl rfl ?_
          refine g_icmp_gt (nx := 130) hX 148 dX11_rules_127 (by decide) rfl (fun h127 => ?_) (fun h127 => ?_)
          · refine g_iconst (nx := 149) hX 0 dX11_rules_148 rfl (by decide) ?_
            refine g_istore_n (nx := 150) hX 1 dX11_rules_149 rfl rfl rfl ?_
            exact t0
          · exact absurd (nI_ltI (by omega) (by omega) |>.mpr (by omega)) h127
        | succ j ih =>
          intro i hi
          have ih1 := ih (i + 1) (by omega)
          rw [← t_cp_s (m := i)] at ih1
          refine g_iload_n (nx := 123) hX 1 dX11_rules_122 rfl rfl rfl ?_
          refine g_aload_n (nx := 124) hX 0 dX11_rules_123 rfl rfl rfl ?_
          refine g_getfield (nx := 127) hX dX11_rules_124 rfl fX11_98 (ga_dn hn rfl) rfl rfl ?_
          refine g_icmp_gt (nx := 130) hX 148 dX11_rules_127 (by decide) rfl (fun h127 => ?_) (fun h127 => ?_)
          · exact absurd (nI_ltI (by omega) (by omega) |>.mp h127) (by omega)
          · refine g_aload_n (nx := 131) hX 0 dX11_rules_130 rfl rfl rfl ?_
            refine g_getfield (nx := 134) hX dX11_rules_131 rfl fX11_77 (ga_dn hn rfl) rfl rfl ?_
            refine g_iload_n (nx := 135) hX 1 dX11_rules_134 rfl rfl rfl ?_
            refine g_aload_n (nx := 136) hX 0 dX11_rules_135 rfl rfl rfl ?_
            refine g_getfield (nx := 139) hX dX11_rules_136 rfl fX11_110 (ga_dn hn rfl) rfl rfl ?_
            refine g_iload_n (nx := 140) hX 1 dX11_rules_139 rfl rfl rfl ?_
            refine g_iaload (nx := 141) hX dX11_rules_140 rfl (ga_dn hn rfl) rfl (ga_ix_of (j := i) rfl (by omega) (by omega)) ?_
            refine g_iastore (nx := 142) hX dX11_rules_141 rfl (ga_dn hn rfl) rfl (ga_ix_of (j := i) rfl (by omega) (by omega)) ?_
            refine g_iinc (nx := 145) hX 1 (nI (i + 1)) dX11_rules_142 rfl rfl rfl (nI_1 i) ?_
            refine g_goto (nx := 122) hX dX11_rules_145 (by decide) ?_
            exact ih1
      have t0 := t122 (Ls.length + 1) 0 (by omega)
      rw [t_cp_0 (f := bo)] at t0
      have hk0 : ¬ r_nt = -1 := by rw [hnt]; exact nI_neg1 (by omega)
      refine g_aload_n (nx := 66) hX 0 dX11_rules_65 rfl rfl rfl ?_
      refine g_getfield (nx := 69) hX dX11_rules_66 rfl fX11_104 (ga_dn hn rfl) rfl rfl ?_
      refine g_iconst (nx := 70) hX (-1) dX11_rules_69 rfl (by decide) ?_
      refine g_icmp_ne (nx := 73) hX 82 dX11_rules_70 (by decide) rfl (fun h70 => ?_) (fun h70 => ?_)
      · refine g_aload_n (nx := 83) hX 0 dX11_rules_82 rfl rfl rfl ?_
        refine g_getfield (nx := 86) hX dX11_rules_83 rfl fX11_92 (ga_dn hn rfl) rfl rfl ?_
        refine g_if_le (nx := 89) hX 91 dX11_rules_86 (by decide) rfl (fun h86 => ?_) (fun h86 => ?_)
        · refine g_aload_n (nx := 92) hX 0 dX11_rules_91 rfl rfl rfl ?_
          refine g_aload_n (nx := 93) hX 0 dX11_rules_92 rfl rfl rfl ?_
          refine g_getfield (nx := 96) hX dX11_rules_93 rfl fX11_98 (ga_dn hn rfl) rfl rfl ?_
          refine g_putfield (nx := 99) hX dX11_rules_96 rfl pX11_71 (ga_dn hn rfl) rfl rfl rfl rfl ?_
          refine g_aload_n (nx := 100) hX 0 dX11_rules_99 rfl rfl rfl ?_
          refine g_aload_n (nx := 101) hX 0 dX11_rules_100 rfl rfl rfl ?_
          refine g_getfield (nx := 104) hX dX11_rules_101 rfl fX11_104 (ga_dn hn rfl) rfl rfl ?_
          refine g_putfield (nx := 107) hX dX11_rules_104 rfl pX11_83 (ga_dn hn rfl) rfl rfl rfl rfl ?_
          refine g_aload_n (nx := 108) hX 0 dX11_rules_107 rfl rfl rfl ?_
          refine g_getfield (nx := 111) hX dX11_rules_108 rfl fX11_110 (ga_dn hn rfl) rfl rfl ?_
          refine g_aload_n (nx := 112) hX 0 dX11_rules_111 rfl rfl rfl ?_
          refine g_getfield (nx := 115) hX dX11_rules_112 rfl fX11_98 (ga_dn hn rfl) rfl rfl ?_
          refine g_aload_n (nx := 116) hX 0 dX11_rules_115 rfl rfl rfl ?_
          refine g_getfield (nx := 119) hX dX11_rules_116 rfl fX11_101 (ga_dn hn rfl) rfl rfl ?_
          refine g_iastore (nx := 120) hX dX11_rules_119 rfl (ga_dn hn rfl) rfl (ga_ix_of (j := Ls.length) rfl (by omega) (by omega)) ?_
          rw [hb]
          refine g_iconst (nx := 121) hX 0 dX11_rules_120 rfl (by decide) ?_
          refine g_istore_n (nx := 122) hX 1 dX11_rules_121 rfl rfl rfl ?_
          exact t0
        · exact absurd (by decide) h86
      · exact absurd h70 hk0
end
