/-! ===== sheets, the tally of the class ===== -/
/-- contracts of the JDK's own methods: no row stands in the place of their code -/
theorem ga_ofWF {l : Launch} {y : MethodName} {ws ws' : List Cond} {rm : Room} {Pc : Array Value → State → Prop} {Qc : Array Value → State → Outcome → State → Prop} {mc ms : Nat} {free : Addr → Prop} {cc : ByteArray} {maxL : Nat} {ret : Option FieldType}
    (hy : plainFor y = true) (hw : ws = Cond.code y cc maxL ret :: ws')
    (body : ∀ p e s m args below meth c s₁, BodyLoose p l y (headSpec ws rm) cc maxL ret e s m args below meth c s₁ → c.maxLocals = maxL → Pc args s →
      W p l e (headSpec ws rm).room s m args below meth c s.heap [] 0 0 (MQ below Qc args s mc ms free) (entryFrame m args maxL)) : Met l y ws rm Pc Qc mc ms free := by
  refine MetFree.of_bodySF (code := cc) (maxLocals := maxL) (ret := ret) hy ?_ ?_
  · intro args s m h hn
    obtain ⟨meth, c, h1, h2, h3, h4, h5, h6, -, -⟩ := Cond.code_spec hn (atoms_spec (ws := ws) h _ (by rw [hw]; exact List.mem_cons_self))
    exact ⟨meth, c, h1, h2, h3, h4, h5, h6⟩
  · intro p e s m args below meth c s₁ B hml hP _
    have hh0 : s₁.heap = s.heap := by rw [B.state]; rfl
    obtain ⟨t, a1, o, b1, b2, b3⟩ := body p e s m args below meth c s₁ B hml hP s₁ hh0 (Stand.of_body B)
    exact ⟨t, o, a1, b1, b2, ⟨b3.1, b3.2⟩⟩
set_option maxHeartbeats 4000000 in
theorem ga_Mt.ofF {E : ga_E} {d : Nat} {y : MethodName} {cc : ByteArray} {nL : Nat} {rt : Option FieldType} {mc ms : Nat} {as : List Value} {M : ga_M} {Post : Option Value → ga_M → Prop} (hy : plainFor y = true) (hw : Nat.ble (ga_wd as) nL = true)
    (body : ∀ X, ga_B E d y cc nL mc ms X → ga_P E rt mc ms Post X → ga_G E X 0 0 0 (ga_as as) [] M) : ga_Mt E d y cc nL rt mc ms as M Post := by
  intro l
  refine ga_ofWF (cc := cc) (maxL := nL) (ret := rt) hy rfl ?_
  intro p e s m args below meth c s₁ B hml hv
  obtain ⟨rfl, hR, hK, hV⟩ := hv
  have hts := atoms_spec (ws := Cond.code y cc nL rt :: ga_T) B.pre
  have hwd : ga_wd as ≤ nL := Nat.le_of_ble_eq_true hw
  have hl := lv_entry (as.map (ga_v E)) (n := nL) (by rw [ga_sl_len]; exact hwd)
  rw [lg_entry_eq]
  subst hml
  exact body (p, l, e, (headSpec (Cond.code y cc c.maxLocals rt :: ga_T) (ga_rm d mc ms)).room, s, m, _, below, meth, c, MQ below (ga_Q E Post) _ s mc ms (fun q => E.1 ≤ q))
    ⟨B.exec, B.bytes, rfl, findClass_of_methodNamed B.named, fun w h => hts w (List.mem_cons_of_mem _ h), B.notSynchronized, (name_of_methodNamed B.named B.method).1, hK, hV, Nat.le_refl _, Nat.le_refl _, Nat.le_refl _, Nat.le_refl _⟩
    ⟨B.returns, rfl⟩ s.heap [] _ hR (ga_less hl (fun j w h => by have := ga_as_lk E as 0 j w h; rwa [Nat.zero_add] at this)) va_S.rf
def ga_mx (a b : Int32) : Int32 := if a < b then b else a
section
variable {E : ga_E} {X : ga_X} {n : Nat} {c0 c1 c2 c3 c4 c5 c6 c7 c8 c9 c10 c11 c12 c13 c14 c15 c16 c17 c18 c19 c20 c21 c22 c23 c24 c25 c26 c27 c28 c29 c30 m79 m80 m81 m82 m83 m84 m85 m86 m87 m88 m89 m90 m91 m92 m93 m94 m95 m96 m97 m98 m99 m100 m101 m102 m103 m104 m105 : ga_C} {L1 L2 : List ga_C} {f : Nat → ga_C} {o_tp o_rd o_fe o_em o_sp o_ac o_td o_sm o_tt o_at o_sz o_fk o_fp o_nw o_md o_nt o_pl o_op d_at d_tk d_ta d_fd d_fa : Int32} {d_tv : Int64} {d_rl : Value}
variable {sv : Nat → sh_S} {av : Nat → a_S} {g : Nat → ga_C} {r : Nat} {ah ou : Nat → Int32} {fm em sp op : Int32} {fn an : Nat} {ol nw : Nat → Option Nat}
theorem c_J9_max_7cf53 {a b : Int32} {M : ga_M} : ga_Mx E 0 yJ9_max_7cf53 cJ9_max_7cf53 2 (some .int) 0 0 [.int a, .int b] M (some (.int (ga_mx a b))) M := by
  refine ga_Mt.ofF (by decide +kernel) rfl (fun X hX hP => ?_)
  refine g_less [some (.int a), some (.int b)] ⟨rfl, rfl, trivial⟩ ?_
  refine g_iload_n (nx := 1) hX 0 dJ9_max_7cf53_0 rfl rfl rfl ?_
  refine g_iload_n (nx := 2) hX 1 dJ9_max_7cf53_1 rfl rfl rfl ?_
  refine g_icmp_lt (nx := 5) hX 9 dJ9_max_7cf53_2 (by decide) rfl (fun h2 => ?_) (fun h2 => ?_)
  · refine g_iload_n (nx := 10) hX 1 dJ9_max_7cf53_9 rfl rfl rfl ?_
    exact g_ireturn hX hP dJ9_max_7cf53_10 rfl (Nat.le_of_ble_eq_true rfl) (Nat.le_of_ble_eq_true rfl) ⟨by unfold ga_mx; rw [if_pos h2], rfl⟩
  · refine g_iload_n (nx := 6) hX 0 dJ9_max_7cf53_5 rfl rfl rfl ?_
    refine g_goto (nx := 10) hX dJ9_max_7cf53_6 (by decide) ?_
    exact g_ireturn hX hP dJ9_max_7cf53_10 rfl (Nat.le_of_ble_eq_true rfl) (Nat.le_of_ble_eq_true rfl) ⟨by unfold ga_mx; rw [if_neg h2], rfl⟩
theorem sc_loop {d mc ms : Nat} {a1 a2 a3 a4 a5 a6 a7 : Int32} {u : Int64} (hX : ga_B E d yX7_clear cX7_clear 2 mc ms X) (hn : 106 ≤ n) (hr : r < 24)
    (kont : ga_G E X 0 0 21 [some (.ref (2 * r + 31)), none] [] (n, L1, L2, sh_f (va_up sv r (a1, a2, a3, a4, a5, a6, a7, u, fun _ => 0)) g)) :
    ∀ (m k : Nat) (v : Nat → Int64), k ≤ 39 → 39 - k ≤ m → (∀ j, j < k ∨ 39 ≤ j → v j = 0) → ga_G E X 0 0 2 [some (.ref (2 * r + 31)), some (.int (nI k))] [] (n, L1, L2, sh_f (va_up sv r (a1, a2, a3, a4, a5, a6, a7, u, v)) g) := by
  intro m
  induction m with
  | zero =>
    intro k v h1 h2 h3
    have e : k = 39 := by omega
    subst e
    have ev : v = fun _ => 0 := by funext j; exact h3 j (by omega)
    subst ev
    refine g_iload_n (nx := 3) hX 1 dX7_clear_2 rfl rfl rfl ?_
    refine g_bipush (nx := 5) hX 39 dX7_clear_3 rfl (by decide) ?_
    refine g_icmp_ge (nx := 8) hX 21 dX7_clear_5 (by decide) rfl (fun h5 => ?_) (fun h5 => ?_)
    · exact g_ls kont ⟨rfl, trivial⟩
    · exact absurd (show (39 : Int32) ≤ nI 39 by decide) h5
  | succ m ih =>
    intro k v h1 h2 h3
    refine g_iload_n (nx := 3) hX 1 dX7_clear_2 rfl rfl rfl ?_
    refine g_bipush (nx := 5) hX 39 dX7_clear_3 rfl (by decide) ?_
    refine g_icmp_ge (nx := 8) hX 21 dX7_clear_5 (by decide) rfl (fun h5 => ?_) (fun h5 => ?_)
    · have e : k = 39 := by have := (nI_leI (a := 39) (b := k) (by omega) (by omega)).mp h5; omega
      have ev : v = fun _ => 0 := by funext j; exact h3 j (by omega)
      rw [ev]
      exact g_ls kont ⟨rfl, trivial⟩
    · have hlt : k < 39 := Nat.lt_of_not_le (fun q => h5 ((nI_leI (a := 39) (b := k) (by omega) (by omega)).mpr q))
      refine g_aload_n (nx := 9) hX 0 dX7_clear_8 rfl rfl rfl ?_
      refine g_getfield (nx := 12) hX dX7_clear_9 rfl fX7_13 (dm_o hn hr) (get_soF hr) rfl ?_
      refine g_iload_n (nx := 13) hX 1 dX7_clear_12 rfl rfl rfl ?_
      refine g_lconst (nx := 14) hX 0 dX7_clear_13 rfl (by decide) ?_
      refine g_lastore (nx := 15) hX dX7_clear_14 rfl (dm_v hn hr) (get_svF hr) (ga_ix_of rfl (by omega) (by omega)) ?_
      refine g_mem (put_svF hr) ?_
      refine g_iinc (nx := 18) hX 1 (nI (k + 1)) dX7_clear_15 rfl rfl rfl (nI_1 k) ?_
      refine g_goto (nx := 2) hX dX7_clear_18 (by decide) ?_
      exact ih (k + 1) _ (by omega) (by omega) (fun j hj => by
        by_cases e : j = k
        · rw [e, pk_uLs]
        · rw [pk_uLn e]; exact h3 j (by omega))
theorem c_X7_clear {a1 a2 a3 a4 a5 a6 a7 : Int32} {u : Int64} {v : Nat → Int64} (hn : 106 ≤ n) (hr : r < 24) (hv : ∀ j, 39 ≤ j → v j = 0) : ga_Mx E 0 yX7_clear cX7_clear 2 none 0 0 [.ref (2 * r + 31)] (n, L1, L2, sh_f (va_up sv r (a1, a2, a3, a4, a5, a6, a7, u, v)) g) none (n, L1, L2, sh_f (va_up sv r (y_sh a1 (-1) a7 u y_0)) g) := by
  refine ga_Mt.of (by decide) rfl (fun X hX hP => ?_)
  refine g_less [some (.ref (2 * r + 31)), none] ⟨rfl, trivial⟩ ?_
  have tail : ga_G E X 0 0 21 [some (.ref (2 * r + 31)), none] [] (n, L1, L2, sh_f (va_up sv r (a1, a2, a3, a4, a5, a6, a7, u, fun _ => 0)) g) := by
    refine g_aload_n (nx := 22) hX 0 dX7_clear_21 rfl rfl rfl ?_
    refine g_iconst (nx := 23) hX 0 dX7_clear_22 rfl (by decide) ?_
    refine g_putfield (nx := 26) hX dX7_clear_23 rfl pX7_21 (dm_o hn hr) (get_soF hr) rfl rfl rfl ?_
    refine g_mem (put_soF hr) ?_
    refine g_aload_n (nx := 27) hX 0 dX7_clear_26 rfl rfl rfl ?_
    refine g_iconst (nx := 28) hX 0 dX7_clear_27 rfl (by decide) ?_
    refine g_putfield (nx := 31) hX dX7_clear_28 rfl pX7_24 (dm_o hn hr) (get_soF hr) rfl rfl rfl ?_
    refine g_mem (put_soF hr) ?_
    refine g_aload_n (nx := 32) hX 0 dX7_clear_31 rfl rfl rfl ?_
    refine g_ldc (nx := 34) hX (-1000000) dX7_clear_32 rfl kX7_27 ?_
    refine g_putfield (nx := 37) hX dX7_clear_34 rfl pX7_28 (dm_o hn hr) (get_soF hr) rfl rfl rfl ?_
    refine g_mem (put_soF hr) ?_
    refine g_aload_n (nx := 38) hX 0 dX7_clear_37 rfl rfl rfl ?_
    refine g_ldc (nx := 40) hX (-1000000) dX7_clear_38 rfl kX7_27 ?_
    refine g_putfield (nx := 43) hX dX7_clear_40 rfl pX7_32 (dm_o hn hr) (get_soF hr) rfl rfl rfl ?_
    refine g_mem (put_soF hr) ?_
    refine g_aload_n (nx := 44) hX 0 dX7_clear_43 rfl rfl rfl ?_
    refine g_iconst (nx := 45) hX (-1) dX7_clear_44 rfl (by decide) ?_
    refine g_putfield (nx := 48) hX dX7_clear_45 rfl pX7_35 (dm_o hn hr) (get_soF hr) rfl rfl rfl ?_
    refine g_mem (put_soF hr) ?_
    exact g_return hX hP dX7_clear_48 (Nat.le_of_ble_eq_true rfl) (Nat.le_of_ble_eq_true rfl) ⟨rfl, by
  have e : y_v y_0 = fun _ => 0 := by
    funext j
    show (if j = 0 then (0 : Int32).toInt64 else if j = 1 then (0 : Int32).toInt64 else if j = 8 then lN 0 else if j = 9 then lN 0 else if j = 10 then lN 0 else 0) = 0
    repeat' split
    all_goals rfl
  show _ = (n, L1, L2, sh_f (va_up sv r (a1, 0, 0, -1000000, -1000000, -1, a7, u, y_v y_0)) g)
  rw [e]⟩
  refine g_iconst (nx := 1) hX 0 dX7_clear_0 rfl (by decide) ?_
  refine g_istore_n (nx := 2) hX 1 dX7_clear_1 rfl rfl rfl ?_
  refine g_ls (sc_loop hX hn hr tail 39 0 v (by omega) (by omega) (fun j hj => hv j (by omega))) ⟨rfl, rfl, trivial⟩
theorem c_X7_valueAt {w : Int32} (hn : 106 ≤ n) (hr : r < 24) : ga_Mx E 1 yX7_valueAt cX7_valueAt 2 (some .long) 0 0 [.ref (2 * r + 31), .int w] (n, L1, L2, sh_f sv g) (some (.long (if 0 ≤ w ∧ w ≤ 38 then (sv r).2.2.2.2.2.2.2.2 w.toNatClampNeg else 0))) (n, L1, L2, sh_f sv g) := by
  refine ga_Mt.of (by decide) rfl (fun X hX hP => ?_)
  refine g_less [some (.ref (2 * r + 31)), some (.int w)] ⟨rfl, rfl, trivial⟩ ?_
  refine g_iload_n (nx := 1) hX 1 dX7_valueAt_0 rfl rfl rfl ?_
  refine g_iconst (nx := 2) hX 0 dX7_valueAt_1 rfl (by decide) ?_
  refine g_bipush (nx := 4) hX 38 dX7_valueAt_2 rfl (by decide) ?_
  refine g_SN3 (nx := 7) hX dX7_valueAt_4 rfl nX7_38 yX10_isWithin_ok (c_X10_isWithin) (by decide) rfl (Nat.le_of_ble_eq_true rfl) (Nat.le_of_ble_eq_true rfl) ?_
  rintro _ _ ⟨rfl, rfl⟩
  refine g_if_eq (nx := 10) hX 19 dX7_valueAt_7 (by decide) rfl (fun h7 => ?_) (fun h7 => ?_)
  · refine g_lconst (nx := 20) hX 0 dX7_valueAt_19 rfl (by decide) ?_
    exact g_lreturn hX hP dX7_valueAt_20 (Nat.le_of_ble_eq_true rfl) (Nat.le_of_ble_eq_true rfl) ⟨by rw [if_neg (ga_b_0 h7)], rfl⟩
  · have hb := ga_b_n0 h7
    refine g_aload_n (nx := 11) hX 0 dX7_valueAt_10 rfl rfl rfl ?_
    refine g_getfield (nx := 14) hX dX7_valueAt_11 rfl fX7_13 (dm_o hn hr) (get_so hr) rfl ?_
    refine g_iload_n (nx := 15) hX 1 dX7_valueAt_14 rfl rfl rfl ?_
    refine g_laload (nx := 16) hX dX7_valueAt_15 rfl (dm_v hn hr) (get_sv hr) (ix_le (k := 38) hb.1 hb.2 (by omega) (by omega)) ?_
    refine g_goto (nx := 20) hX dX7_valueAt_16 (by decide) ?_
    exact g_lreturn hX hP dX7_valueAt_20 (Nat.le_of_ble_eq_true rfl) (Nat.le_of_ble_eq_true rfl) ⟨by rw [if_pos hb], rfl⟩
theorem c_X8_seenAt {i k : Nat} {M : ga_M} (hi : i < 4) (hk : k < 30) : ga_Mx E 1 yX8_seenAt cX8_seenAt 2 (some .int) 0 0 [.int (nI (i + 3)), .int (nI k)] M (some (.int (nI (i * 30 + k)))) M := by
  refine ga_Mt.of (by decide) rfl (fun X hX hP => ?_)
  refine g_less [some (.int (nI (i + 3))), some (.int (nI k))] ⟨rfl, rfl, trivial⟩ ?_
  refine g_iload_n (nx := 1) hX 0 dX8_seenAt_0 rfl rfl rfl ?_
  refine g_iconst (nx := 2) hX 3 dX8_seenAt_1 rfl (by decide) ?_
  refine g_bipush (nx := 4) hX 6 dX8_seenAt_2 rfl (by decide) ?_
  refine g_SN3 (nx := 7) hX dX8_seenAt_4 rfl nX8_109 yX10_isWithin_ok (c_X10_isWithin) (by decide) rfl (Nat.le_of_ble_eq_true rfl) (Nat.le_of_ble_eq_true rfl) ?_
  rintro _ _ ⟨rfl, rfl⟩
  refine g_if_eq (nx := 10) hX 20 dX8_seenAt_7 (by decide) rfl (fun h7 => ?_) (fun h7 => ?_)
  · exact absurd ⟨nI_le (a := 3) (by omega) (by omega), nI_le (b := 6) (by omega) (by omega)⟩ (ga_b_0 h7)
  · refine g_iload_n (nx := 11) hX 1 dX8_seenAt_10 rfl rfl rfl ?_
    refine g_iconst (nx := 12) hX 0 dX8_seenAt_11 rfl (by decide) ?_
    refine g_bipush (nx := 14) hX 29 dX8_seenAt_12 rfl (by decide) ?_
    refine g_SN3 (nx := 17) hX dX8_seenAt_14 rfl nX8_109 yX10_isWithin_ok (c_X10_isWithin) (by decide) rfl (Nat.le_of_ble_eq_true rfl) (Nat.le_of_ble_eq_true rfl) ?_
    rintro _ _ ⟨rfl, rfl⟩
    refine g_if_ne (nx := 20) hX 22 dX8_seenAt_17 (by decide) rfl (fun h17 => ?_) (fun h17 => ?_)
    · refine g_iload_n (nx := 23) hX 0 dX8_seenAt_22 rfl rfl rfl ?_
      refine g_iconst (nx := 24) hX 3 dX8_seenAt_23 rfl (by decide) ?_
      refine g_isub (nx := 25) hX dX8_seenAt_24 rfl ?_
      refine g_bipush (nx := 27) hX 30 dX8_seenAt_25 rfl (by decide) ?_
      refine g_imul (nx := 28) hX dX8_seenAt_27 rfl ?_
      refine g_iload_n (nx := 29) hX 1 dX8_seenAt_28 rfl rfl rfl ?_
      refine g_iadd (nx := 30) hX dX8_seenAt_29 rfl ?_
      exact g_ireturn hX hP dX8_seenAt_30 rfl (Nat.le_of_ble_eq_true rfl) (Nat.le_of_ble_eq_true rfl) ⟨by rw [show nI (i + 3) - 3 = nI i by have := pk_sub (a := i + 3) (b := 3) (by omega); exact this, show nI i * 30 = nI (i * 30) from pk_mul i 30, nI_add], rfl⟩
    · exact absurd ⟨nI_pos' (by omega), nI_le (b := 29) (by omega) (by omega)⟩ (ga_b_0 h17)
theorem c_X8_see {i k : Nat} {hd : Int32} {sn : Nat → Nat → Nat} (hn : 106 ≤ n) (hi : i < 4) (hk : k < 30) : ga_Mx E 2 yX8_see cX8_see 4 none 0 0 [.ref 29, .int (nI (i + 3)), .int (nI k)] (n, (c0 :: c1 :: c2 :: c3 :: c4 :: c5 :: c6 :: c7 :: c8 :: c9 :: c10 :: c11 :: c12 :: c13 :: c14 :: c15 :: c16 :: c17 :: c18 :: c19 :: c20 :: c21 :: c22 :: c23 :: c24 :: c25 :: c26 :: c27 :: c28 :: k_Y hd :: ga_i 120 (y_se sn) :: []), L2, f) none (n, (c0 :: c1 :: c2 :: c3 :: c4 :: c5 :: c6 :: c7 :: c8 :: c9 :: c10 :: c11 :: c12 :: c13 :: c14 :: c15 :: c16 :: c17 :: c18 :: c19 :: c20 :: c21 :: c22 :: c23 :: c24 :: c25 :: c26 :: c27 :: c28 :: k_Y hd :: ga_i 120 (y_se (y_u2 sn i k)) :: []), L2, f) := by
  have hs : y_se sn (i * 30 + k) = nI (sn i k) := by unfold y_se; rw [show (i * 30 + k) / 30 = i by omega, show (i * 30 + k) % 30 = k by omega]
  refine ga_Mt.of (by decide) rfl (fun X hX hP => ?_)
  refine g_less [some (.ref 29), some (.int (nI (i + 3))), some (.int (nI k)), none] ⟨rfl, rfl, rfl, trivial⟩ ?_
  refine g_iload_n (nx := 1) hX 1 dX8_see_0 rfl rfl rfl ?_
  refine g_iload_n (nx := 2) hX 2 dX8_see_1 rfl rfl rfl ?_
  refine g_S2 (nx := 5) hX dX8_see_2 rfl mX8_106 yX8_seenAt_ok (c_X8_seenAt hi hk) (by decide) rfl (Nat.le_of_ble_eq_true rfl) (Nat.le_of_ble_eq_true rfl) ?_
  rintro _ _ ⟨rfl, rfl⟩
  refine g_istore_n (nx := 6) hX 3 dX8_see_5 rfl rfl rfl ?_
  refine g_iload_n (nx := 7) hX 3 dX8_see_6 rfl rfl rfl ?_
  refine g_iconst (nx := 8) hX (-1) dX8_see_7 rfl (by decide) ?_
  refine g_icmp_eq (nx := 11) hX 21 dX8_see_8 (by decide) rfl (fun h8 => ?_) (fun h8 => ?_)
  · exact absurd h8 (nI_neg1 (by omega))
  · refine g_aload_n (nx := 12) hX 0 dX8_see_11 rfl rfl rfl ?_
    refine g_getfield (nx := 15) hX dX8_see_12 rfl fX8_13 (ga_dn hn rfl) rfl rfl ?_
    refine g_iload_n (nx := 16) hX 3 dX8_see_15 rfl rfl rfl ?_
    refine g_dup2 (nx := 17) hX dX8_see_16 rfl rfl rfl ?_
    refine g_iaload (nx := 18) hX dX8_see_17 rfl (ga_dn hn rfl) rfl (ga_ix_of rfl (by omega) (by omega)) ?_
    refine g_iconst (nx := 19) hX 1 dX8_see_18 rfl (by decide) ?_
    refine g_iadd (nx := 20) hX dX8_see_19 rfl ?_
    refine g_iastore (nx := 21) hX dX8_see_20 rfl (ga_dn hn rfl) rfl (ga_ix_of rfl (by omega) (by omega)) ?_
    exact g_return hX hP dX8_see_21 (Nat.le_of_ble_eq_true rfl) (Nat.le_of_ble_eq_true rfl) ⟨rfl, by rw [← y_se_up hi hk, hs.symm]; rfl⟩
theorem c_X8_timesSeen {i k : Nat} {hd : Int32} {sn : Nat → Nat → Nat} (hn : 106 ≤ n) (hi : i < 4) (hk : k < 30) : ga_Mx E 2 yX8_timesSeen cX8_timesSeen 4 (some .int) 0 0 [.ref 29, .int (nI (i + 3)), .int (nI k)] (n, (c0 :: c1 :: c2 :: c3 :: c4 :: c5 :: c6 :: c7 :: c8 :: c9 :: c10 :: c11 :: c12 :: c13 :: c14 :: c15 :: c16 :: c17 :: c18 :: c19 :: c20 :: c21 :: c22 :: c23 :: c24 :: c25 :: c26 :: c27 :: c28 :: k_Y hd :: ga_i 120 (y_se sn) :: []), L2, f) (some (.int (nI (sn i k)))) (n, (c0 :: c1 :: c2 :: c3 :: c4 :: c5 :: c6 :: c7 :: c8 :: c9 :: c10 :: c11 :: c12 :: c13 :: c14 :: c15 :: c16 :: c17 :: c18 :: c19 :: c20 :: c21 :: c22 :: c23 :: c24 :: c25 :: c26 :: c27 :: c28 :: k_Y hd :: ga_i 120 (y_se sn) :: []), L2, f) := by
  have hs : y_se sn (i * 30 + k) = nI (sn i k) := by unfold y_se; rw [show (i * 30 + k) / 30 = i by omega, show (i * 30 + k) % 30 = k by omega]
  refine ga_Mt.of (by decide) rfl (fun X hX hP => ?_)
  refine g_less [some (.ref 29), some (.int (nI (i + 3))), some (.int (nI k)), none] ⟨rfl, rfl, rfl, trivial⟩ ?_
  refine g_iload_n (nx := 1) hX 1 dX8_timesSeen_0 rfl rfl rfl ?_
  refine g_iload_n (nx := 2) hX 2 dX8_timesSeen_1 rfl rfl rfl ?_
  refine g_S2 (nx := 5) hX dX8_timesSeen_2 rfl mX8_106 yX8_seenAt_ok (c_X8_seenAt hi hk) (by decide) rfl (Nat.le_of_ble_eq_true rfl) (Nat.le_of_ble_eq_true rfl) ?_
  rintro _ _ ⟨rfl, rfl⟩
  refine g_istore_n (nx := 6) hX 3 dX8_timesSeen_5 rfl rfl rfl ?_
  refine g_iload_n (nx := 7) hX 3 dX8_timesSeen_6 rfl rfl rfl ?_
  refine g_iconst (nx := 8) hX (-1) dX8_timesSeen_7 rfl (by decide) ?_
  refine g_icmp_ne (nx := 11) hX 15 dX8_timesSeen_8 (by decide) rfl (fun h8 => ?_) (fun h8 => ?_)
  · refine g_aload_n (nx := 16) hX 0 dX8_timesSeen_15 rfl rfl rfl ?_
    refine g_getfield (nx := 19) hX dX8_timesSeen_16 rfl fX8_13 (ga_dn hn rfl) rfl rfl ?_
    refine g_iload_n (nx := 20) hX 3 dX8_timesSeen_19 rfl rfl rfl ?_
    refine g_iaload (nx := 21) hX dX8_timesSeen_20 rfl (ga_dn hn rfl) rfl (ga_ix_of rfl (by omega) (by omega)) ?_
    exact g_ireturn hX hP dX8_timesSeen_21 rfl (Nat.le_of_ble_eq_true rfl) (Nat.le_of_ble_eq_true rfl) ⟨by rw [hs], rfl⟩
  · exact absurd h8 (nI_neg1 (by omega))
end
