/-! ===== from the entry on ===== -/
theorem l_w_0 : l_w 0 = fun _ => none := by funext k; unfold l_w; rw [if_neg (by omega)]
abbrev av_0 : Nat → a_S := fun _ => (0, 0, 0, 0, 0, 0, 0, none)
theorem j_A_0 : j_A ((fun _ => 0), (fun _ => 0), (fun _ => 0), (fun _ => 0), (fun _ => 0), (fun _ => 0)) av_0 (fun _ => none) (fun _ => none) 0 :=
  ⟨by omega, fun k h1 h2 => absurd h1 (by omega), fun k h1 h2 => absurd h1 (by omega), fun k h1 h2 => absurd h1 (by omega), fun r _ j h1 h2 => absurd h1 (by omega), fun r _ j h1 h2 => absurd h1 (by omega), fun k h1 h2 => absurd h1 (by omega), fun r q h => (by cases h), fun r q h => (by cases h)⟩
theorem j_C_0 : j_C (fun _ => 0) (fun _ => 0) 0 0 0 500 0 := ⟨by omega, rfl, by decide, fun f hf => absurd hf (Nat.not_lt_zero f), ⟨by decide, by decide⟩, ⟨by decide, by decide⟩, fun j hj => ⟨show (-600 : Int32) ≤ 0 by decide, show (0 : Int32) ≤ 600 by decide⟩⟩
theorem lw_I_0 : lw_I (106, (k_0 (-1) :: k_T 0 :: ga_i 600 (fun _ => 0) :: k_R 0 :: ga_i 24 (fun _ => 0) :: ga_i 6 (fun _ => 0) :: k_C 0 0 500 0 0 :: ga_i 32 (fun _ => 0) :: ga_i 30 (fun _ => 0) :: k_L 0 :: ga_r 4 401 (l_w 0) :: ga_r 4 24 (fun _ => none) :: ga_r 4 24 (fun _ => none) :: k_D .null 0 0 0 0 0 (-1) :: ga_l 39 (w_nm (w_st 98).2) :: k_U 15 0 0 (-1) 0 :: ga_i 600 (fun _ => 0) :: ga_i 600 (fun _ => 0) :: ga_i 24 (fun _ => 0) :: ga_i 24 (fun _ => 0) :: ga_l 32 (fun _ => 0) :: k_U 21 0 0 (-1) 0 :: ga_i 600 (fun _ => 0) :: ga_i 600 (fun _ => 0) :: ga_i 24 (fun _ => 0) :: ga_i 24 (fun _ => 0) :: ga_l 32 (fun _ => 0) :: k_B 0 :: ga_r 3 24 b_w :: k_Y 0 :: ga_i 120 (fun _ => 0) :: []), (m_O 0 0 0 0 500 0 (-1) 0 (-1) 0 0 0 (-1) 0 0 (-1) 0 0 :: ga_i 600 (fun _ => 0) :: ga_i 24 (fun _ => 0) :: ga_i 30 (fun _ => 0) :: ga_i 30 (fun _ => 0) :: ga_i 32 (fun _ => 0) :: ga_i 401 (fun _ => 0) :: ga_i 401 (fun _ => 0) :: ga_i 401 (fun _ => 0) :: ga_i 401 (fun _ => 0) :: ga_i 401 (fun _ => 0) :: ga_i 401 (fun _ => 0) :: ga_i 18 (fun _ => 0) :: ga_i 120 (fun _ => 0) :: ga_i 24 (fun _ => 0) :: ga_i 25 (fun _ => 0) :: ga_i 1300 (fun _ => 0) :: ga_i 25 (fun _ => 0) :: ga_i 26 (fun _ => 0) :: ga_i 1300 (fun _ => 0) :: ga_i 250 (fun _ => 0) :: ga_i 25 (fun _ => 0) :: ga_i 40 (fun _ => 0) :: ga_z 40 (fun _ => 0) :: ga_l 310 (fun _ => 0) :: ga_l 576 (fun _ => 0) :: ga_z 24 (fun _ => 0) :: []), sh_f (fun _ => s_new) (a_f (fun _ => (0, 0, 0, 0, 0, 0, 0, none)))) := by
  obtain ⟨cd, cd2, en, hj⟩ := j_R_0
  exact lw_I_of (lt := 0) (rn := 0) (fn := 0) (an := 0) (sm := 0) (ka := 0) (av := av_0) (cd := cd) (cd2 := cd2) (en := en) ⟨⟨by omega, fun i hi => absurd hi (Nat.not_lt_zero i)⟩, ⟨by omega, fun j hj => ⟨rfl, Nat.zero_le 4⟩⟩, j_C_0, j_A_0, Or.inl rfl, w_st_x, hj, Or.inl rfl, Nat.le_refl 0, b_stale (fun r hr => by decide)⟩
theorem whole_start {p : Program} {e : Env} {s : State} {m : MethodId} {below : List Frame} {meth : Method} {c : Code} (l : Launch) {b L : Nat} {xs : Nat → Int32} (hL : L ≤ 3072) (C0 : lw_At p s m meth c b L xs) : W p l e room_1 s m #[Value.ref b] below meth c s.heap [] 0 0 (lw_Z below #[Value.ref b] s) (entryFrame m ([Value.ref b] : List Value).toArray 4) := by
  obtain ⟨hx, hb, hr, hml, hown, hts, hXx, hbl, hlocks, hgv⟩ := id C0
  obtain ⟨dC, dI, hKc⟩ := st_classes hts
  obtain ⟨ci, ai1, ai2⟩ := st_arr (hts (Cond.arrayClass .int) (List.mem_of_getElem? (i := 116) (by decide +kernel)))
  obtain ⟨cl, al1, al2⟩ := st_arr (hts (Cond.arrayClass .long) (List.mem_of_getElem? (i := 305) (by decide +kernel)))
  obtain ⟨cz, az1, az2⟩ := st_arr (hts (Cond.arrayClass .boolean) (List.mem_of_getElem? (i := 1099) (by decide +kernel)))
  have oS := hts (Cond.arrayOver (.object "ThreeDays$Sheet")) (List.mem_of_getElem? (i := 348) (by decide +kernel))
  have oA := hts (Cond.arrayOver (.object "ThreeDays$Act")) (List.mem_of_getElem? (i := 174) (by decide +kernel))
  obtain ⟨cs, as1, as2⟩ := st_arq oS
  obtain ⟨ca, aa1, aa2⟩ := st_arq oA
  obtain ⟨adK, adV, bf, T1, T2, T3⟩ := st_text (A := fun q => s.heap.size ≤ q) hts hgv (fun a ha h => absurd h (by show ¬ s.heap.size ≤ a; omega))
  let E : ga_E := (s.heap.size, fun a => s.heap.size + a, (dC, dI), fun t => if t = 0 then ci else if t = 1 then cl else if t = 2 then cz else if t = 3 then cs else ca, fun k => if k = 0 then b else if k < 8 then adK (k - 1) else if k < 15 then adV (k - 8) else bf)
  let X : ga_X := (p, l, e, room_1, s, m, #[Value.ref b], below, meth, c, lw_Z below #[Value.ref b] s)
  have hV : ga_V E := ⟨fun x y h => Nat.add_left_cancel h, fun x => Nat.le_add_right _ _⟩
  have hid : ∀ a, E.2.1 a = E.1 + a := fun a => rfl
  have hK : ga_K E s := by
    refine ⟨⟨hKc, fun k q hq => ?_⟩, st_nest hts, va_AO.of oS, va_AO.of oA⟩
    match k, hq with
    | 0, hq => cases hq; exact ⟨ai1, ai2⟩
    | 1, hq => cases hq; exact ⟨al1, al2⟩
    | 2, hq => cases hq; exact ⟨az1, az2⟩
    | 3, hq => cases hq; exact ⟨as1, as2⟩
    | 4, hq => cases hq; exact ⟨aa1, aa2⟩
    | k + 5, hq => simp [ga_ty] at hq
  have hs : ga_Ks E X.2.2.2.2.1 := by
    refine ⟨T1, T2, fun i hi => ?_⟩
    have e1 : E.2.2.2.2 (i + 1) = adK i := by
      show (if i + 1 = 0 then b else if i + 1 < 8 then adK (i + 1 - 1) else if i + 1 < 15 then adV (i + 1 - 8) else bf) = adK i
      rw [if_neg (by omega), if_pos (by omega)]; rfl
    have e2 : E.2.2.2.2 (i + 8) = adV i := by
      show (if i + 8 = 0 then b else if i + 8 < 8 then adK (i + 8 - 1) else if i + 8 < 15 then adV (i + 8 - 8) else bf) = adV i
      rw [if_neg (by omega), if_neg (by omega), if_pos (by omega)]; rfl
    rw [e1, e2]
    exact T3 i hi
  have hX : ga_B E 40 (⟨RL, meth.name, ""⟩ : MethodName) cL_law 4 600000 7302250 X := ⟨hx, hb, hml, hown, fun w hw => hts w (List.mem_filter.mp hw).1, hlocks, rfl, hK, hV, by show 40 ≤ 2048; omega, by show 60 * 40 ≤ 84000; omega, Nat.le_refl 600000, Nat.le_refl 7302250⟩
  have hS : ga_Xs E X L xs := ⟨hXx, hbl, Nat.not_le.mpr hbl⟩
  have fin : ∀ (H : Heap) (locs : List Loc) (ls : Array Slot) (kc ks : Nat), kc ≤ 600000 → ks ≤ 7302250 → va_S (fun q => s.heap.size ≤ q) X.2.2.2.2.1.heap H locs → ga_W X H locs kc ks (F0 X.2.2.2.2.2.1 808 ls []) := by
    intro H locs ls kc ks h1 h2 hS1
    refine lv_iconst (v := 1) hx hb dL_law_808 (by decide) ?_
    refine va_forget (fun q hq => hS1.2.2 q hq) ?_
    refine W.widen (k := 600000) (n := 7302250) h1 h2 ?_
    exact lw_ret hx hb hr hlocks dL_law_809
  have G : ga_G E X 0 0 0 [some (.retAddr 0), none, none, none] [] (0, (ga_i 0 (fun _ => 0) :: ga_i 0 (fun _ => 0) :: ga_i 0 (fun _ => 0) :: ga_i 0 (fun _ => 0) :: ga_i 0 (fun _ => 0) :: ga_i 0 (fun _ => 0) :: ga_i 0 (fun _ => 0) :: ga_i 0 (fun _ => 0) :: ga_i 0 (fun _ => 0) :: ga_i 0 (fun _ => 0) :: ga_i 0 (fun _ => 0) :: ga_i 0 (fun _ => 0) :: ga_i 0 (fun _ => 0) :: ga_i 0 (fun _ => 0) :: ga_i 0 (fun _ => 0) :: ga_i 0 (fun _ => 0) :: ga_i 0 (fun _ => 0) :: ga_i 0 (fun _ => 0) :: ga_i 0 (fun _ => 0) :: ga_i 0 (fun _ => 0) :: ga_i 0 (fun _ => 0) :: ga_i 0 (fun _ => 0) :: ga_i 0 (fun _ => 0) :: ga_i 0 (fun _ => 0) :: ga_i 0 (fun _ => 0) :: ga_i 0 (fun _ => 0) :: ga_i 0 (fun _ => 0) :: ga_i 0 (fun _ => 0) :: ga_i 0 (fun _ => 0) :: ga_i 0 (fun _ => 0) :: ga_i 0 (fun _ => 0) :: []), (ga_i 0 (fun _ => 0) :: ga_i 0 (fun _ => 0) :: ga_i 0 (fun _ => 0) :: ga_i 0 (fun _ => 0) :: ga_i 0 (fun _ => 0) :: ga_i 0 (fun _ => 0) :: ga_i 0 (fun _ => 0) :: ga_i 0 (fun _ => 0) :: ga_i 0 (fun _ => 0) :: ga_i 0 (fun _ => 0) :: ga_i 0 (fun _ => 0) :: ga_i 0 (fun _ => 0) :: ga_i 0 (fun _ => 0) :: ga_i 0 (fun _ => 0) :: ga_i 0 (fun _ => 0) :: ga_i 0 (fun _ => 0) :: ga_i 0 (fun _ => 0) :: ga_i 0 (fun _ => 0) :: ga_i 0 (fun _ => 0) :: ga_i 0 (fun _ => 0) :: ga_i 0 (fun _ => 0) :: ga_i 0 (fun _ => 0) :: ga_i 0 (fun _ => 0) :: ga_i 0 (fun _ => 0) :: ga_i 0 (fun _ => 0) :: ga_i 0 (fun _ => 0) :: ga_i 0 (fun _ => 0) :: []), sh_f (fun _ => s_new) (a_f (fun _ => (0, 0, 0, 0, 0, 0, 0, none)))) := by
    have lp := law_loop (base := s.heap.size) fin hL L E 0 _ rfl hX hS (fun a _ => rfl) (by omega) (by omega) lw_I_0
    clear_value E X
    refine g_new (nx := 3) hX (ci := 10) (ga_df10) dL_law_0 rfl rfl lL_7 qX10 zX10 (ga_df10_ok E) (Nat.le_of_ble_eq_true rfl) (Nat.le_of_ble_eq_true rfl) (hid _) ?_
    refine g_mem (M' := (1, (ga_o 10 ga_df10 :: ga_i 0 (fun _ => 0) :: ga_i 0 (fun _ => 0) :: ga_i 0 (fun _ => 0) :: ga_i 0 (fun _ => 0) :: ga_i 0 (fun _ => 0) :: ga_i 0 (fun _ => 0) :: ga_i 0 (fun _ => 0) :: ga_i 0 (fun _ => 0) :: ga_i 0 (fun _ => 0) :: ga_i 0 (fun _ => 0) :: ga_i 0 (fun _ => 0) :: ga_i 0 (fun _ => 0) :: ga_i 0 (fun _ => 0) :: ga_i 0 (fun _ => 0) :: ga_i 0 (fun _ => 0) :: ga_i 0 (fun _ => 0) :: ga_i 0 (fun _ => 0) :: ga_i 0 (fun _ => 0) :: ga_i 0 (fun _ => 0) :: ga_i 0 (fun _ => 0) :: ga_i 0 (fun _ => 0) :: ga_i 0 (fun _ => 0) :: ga_i 0 (fun _ => 0) :: ga_i 0 (fun _ => 0) :: ga_i 0 (fun _ => 0) :: ga_i 0 (fun _ => 0) :: ga_i 0 (fun _ => 0) :: ga_i 0 (fun _ => 0) :: ga_i 0 (fun _ => 0) :: ga_i 0 (fun _ => 0) :: []), (ga_i 0 (fun _ => 0) :: ga_i 0 (fun _ => 0) :: ga_i 0 (fun _ => 0) :: ga_i 0 (fun _ => 0) :: ga_i 0 (fun _ => 0) :: ga_i 0 (fun _ => 0) :: ga_i 0 (fun _ => 0) :: ga_i 0 (fun _ => 0) :: ga_i 0 (fun _ => 0) :: ga_i 0 (fun _ => 0) :: ga_i 0 (fun _ => 0) :: ga_i 0 (fun _ => 0) :: ga_i 0 (fun _ => 0) :: ga_i 0 (fun _ => 0) :: ga_i 0 (fun _ => 0) :: ga_i 0 (fun _ => 0) :: ga_i 0 (fun _ => 0) :: ga_i 0 (fun _ => 0) :: ga_i 0 (fun _ => 0) :: ga_i 0 (fun _ => 0) :: ga_i 0 (fun _ => 0) :: ga_i 0 (fun _ => 0) :: ga_i 0 (fun _ => 0) :: ga_i 0 (fun _ => 0) :: ga_i 0 (fun _ => 0) :: ga_i 0 (fun _ => 0) :: ga_i 0 (fun _ => 0) :: []), sh_f (fun _ => s_new) (a_f (fun _ => (0, 0, 0, 0, 0, 0, 0, none))))) rfl ?_
    refine g_dup (nx := 4) hX dL_law_3 rfl rfl ?_
    refine g_sI (As := []) (nx := 7) hX hs dL_law_4 rfl mL_9 yX10_init_ok (c_X10_init hid) rfl rfl (by decide) rfl (Nat.le_of_ble_eq_true rfl) (Nat.le_of_ble_eq_true rfl) ?_
    rintro _ _ ⟨rfl, rfl⟩
    refine g_astore_n (nx := 8) hX 1 dL_law_7 rfl rfl rfl ?_
    refine g_new (nx := 11) hX (ci := 11) (ga_df11) dL_law_8 rfl rfl lL_10 qX11 zX11 (ga_df11_ok E) (Nat.le_of_ble_eq_true rfl) (Nat.le_of_ble_eq_true rfl) (hid _) ?_
    refine g_mem (M' := (80, (k_0 (-1) :: k_T 0 :: ga_i 600 (fun _ => 0) :: k_R 0 :: ga_i 24 (fun _ => 0) :: ga_i 6 (fun _ => 0) :: k_C 0 0 500 0 0 :: ga_i 32 (fun _ => 0) :: ga_i 30 (fun _ => 0) :: k_L 0 :: ga_r 4 401 (fun _ => none) :: ga_r 4 24 (fun _ => none) :: ga_r 4 24 (fun _ => none) :: k_D .null 0 0 0 0 0 (-1) :: ga_l 39 (w_nm (w_st 98).2) :: k_U 15 0 0 (-1) 0 :: ga_i 600 (fun _ => 0) :: ga_i 600 (fun _ => 0) :: ga_i 24 (fun _ => 0) :: ga_i 24 (fun _ => 0) :: ga_l 32 (fun _ => 0) :: k_U 21 0 0 (-1) 0 :: ga_i 600 (fun _ => 0) :: ga_i 600 (fun _ => 0) :: ga_i 24 (fun _ => 0) :: ga_i 24 (fun _ => 0) :: ga_l 32 (fun _ => 0) :: k_B 0 :: ga_r 3 24 b_w :: k_Y 0 :: ga_i 120 (fun _ => 0) :: []), (ga_o 11 ga_df11 :: ga_i 0 (fun _ => 0) :: ga_i 0 (fun _ => 0) :: ga_i 0 (fun _ => 0) :: ga_i 0 (fun _ => 0) :: ga_i 0 (fun _ => 0) :: ga_i 0 (fun _ => 0) :: ga_i 0 (fun _ => 0) :: ga_i 0 (fun _ => 0) :: ga_i 0 (fun _ => 0) :: ga_i 0 (fun _ => 0) :: ga_i 0 (fun _ => 0) :: ga_i 0 (fun _ => 0) :: ga_i 0 (fun _ => 0) :: ga_i 0 (fun _ => 0) :: ga_i 0 (fun _ => 0) :: ga_i 0 (fun _ => 0) :: ga_i 0 (fun _ => 0) :: ga_i 0 (fun _ => 0) :: ga_i 0 (fun _ => 0) :: ga_i 0 (fun _ => 0) :: ga_i 0 (fun _ => 0) :: ga_i 0 (fun _ => 0) :: ga_i 0 (fun _ => 0) :: ga_i 0 (fun _ => 0) :: ga_i 0 (fun _ => 0) :: ga_i 0 (fun _ => 0) :: []), sh_f (fun _ => s_new) (a_f (fun _ => (0, 0, 0, 0, 0, 0, 0, none))))) rfl ?_
    refine g_dup (nx := 12) hX dL_law_11 rfl rfl ?_
    refine g_I0 (nx := 15) hX dL_law_12 rfl mL_12 yX11_init_ok (c_X11_init hid) (by decide) rfl (Nat.le_of_ble_eq_true rfl) (Nat.le_of_ble_eq_true rfl) ?_
    rintro _ _ ⟨rfl, rfl⟩
    refine g_mem (M' := (106, (k_0 (-1) :: k_T 0 :: ga_i 600 (fun _ => 0) :: k_R 0 :: ga_i 24 (fun _ => 0) :: ga_i 6 (fun _ => 0) :: k_C 0 0 500 0 0 :: ga_i 32 (fun _ => 0) :: ga_i 30 (fun _ => 0) :: k_L 0 :: ga_r 4 401 (l_w 0) :: ga_r 4 24 (fun _ => none) :: ga_r 4 24 (fun _ => none) :: k_D .null 0 0 0 0 0 (-1) :: ga_l 39 (w_nm (w_st 98).2) :: k_U 15 0 0 (-1) 0 :: ga_i 600 (fun _ => 0) :: ga_i 600 (fun _ => 0) :: ga_i 24 (fun _ => 0) :: ga_i 24 (fun _ => 0) :: ga_l 32 (fun _ => 0) :: k_U 21 0 0 (-1) 0 :: ga_i 600 (fun _ => 0) :: ga_i 600 (fun _ => 0) :: ga_i 24 (fun _ => 0) :: ga_i 24 (fun _ => 0) :: ga_l 32 (fun _ => 0) :: k_B 0 :: ga_r 3 24 b_w :: k_Y 0 :: ga_i 120 (fun _ => 0) :: []), (m_O 0 0 0 0 500 0 (-1) 0 (-1) 0 0 0 (-1) 0 0 (-1) 0 0 :: ga_i 600 (fun _ => 0) :: ga_i 24 (fun _ => 0) :: ga_i 30 (fun _ => 0) :: ga_i 30 (fun _ => 0) :: ga_i 32 (fun _ => 0) :: ga_i 401 (fun _ => 0) :: ga_i 401 (fun _ => 0) :: ga_i 401 (fun _ => 0) :: ga_i 401 (fun _ => 0) :: ga_i 401 (fun _ => 0) :: ga_i 401 (fun _ => 0) :: ga_i 18 (fun _ => 0) :: ga_i 120 (fun _ => 0) :: ga_i 24 (fun _ => 0) :: ga_i 25 (fun _ => 0) :: ga_i 1300 (fun _ => 0) :: ga_i 25 (fun _ => 0) :: ga_i 26 (fun _ => 0) :: ga_i 1300 (fun _ => 0) :: ga_i 250 (fun _ => 0) :: ga_i 25 (fun _ => 0) :: ga_i 40 (fun _ => 0) :: ga_z 40 (fun _ => 0) :: ga_l 310 (fun _ => 0) :: ga_l 576 (fun _ => 0) :: ga_z 24 (fun _ => 0) :: []), sh_f (fun _ => s_new) (a_f (fun _ => (0, 0, 0, 0, 0, 0, 0, none))))) (by rw [l_w_0]) ?_
    refine g_astore_n (nx := 16) hX 2 dL_law_15 rfl rfl rfl ?_
    refine g_iconst (nx := 17) hX 0 dL_law_16 rfl (by decide) ?_
    refine g_istore_n (nx := 18) hX 3 dL_law_17 rfl rfl rfl ?_
    exact g_widen (by decide) (by decide) (g_ls lp ⟨rfl, rfl, rfl, rfl, trivial⟩)
  have hl := lv_entry ([Value.ref b]) (n := 4) (Nat.le_of_ble_eq_true rfl)
  rw [lg_entry_eq]
  exact G s.heap [] _ ⟨rfl, rfl, rfl, fun a ha => absurd ha (Nat.not_lt_zero a)⟩ (by show lv_has _ c.maxLocals _; rw [hml]; exact hl) va_S.rf
