/-! ===== the law: its loop ===== -/
theorem lw_cmp {L k : Nat} (hL : L ≤ 3072) (hk : 6 * k ≤ L) : nI L - 6 < nI (6 * k) ↔ L < 6 * k + 6 := by
  rw [Int32.lt_iff_toInt_lt, nI_toInt (by omega)]
  have := pk_sub_toInt (a := L) (b := 6) (by omega) (by omega)
  rw [show (6 : Int32) = nI 6 from rfl, this]
  omega
section
variable {X : ga_X} {L base : Nat} {xs : Nat → Int32} {lnm lds : String}
theorem law_loop (fin : ∀ (H : Heap) (locs : List Loc) (ls : Array Slot) (kc ks : Nat), kc ≤ 600000 → ks ≤ 7302250 → va_S (fun q => base ≤ q) X.2.2.2.2.1.heap H locs → ga_W X H locs kc ks (F0 X.2.2.2.2.2.1 808 ls [])) (hL : L ≤ 3072) : ∀ (m : Nat) (E : ga_E) (k : Nat) (M : ga_M), E.1 = base → ga_B E 40 (⟨RL, lnm, lds⟩ : MethodName) cL_law 4 600000 7302250 X → ga_Xs E X L xs → (∀ a, 27 ≤ a → E.2.1 a = E.1 + a) → L ≤ 6 * k + m → 6 * k ≤ L → lw_I M → ga_G E X (200 + k) (20000 + 8 * k) 18 [some (.retAddr 0), some (.ref 0), some (.ref 79), some (.int (nI (6 * k)))] [] M := by
  intro m
  induction m with
  | zero =>
    intro E k M hb hX hS hE hm hk hI
    refine g_iload_n (nx := 19) hX 3 dL_law_18 rfl rfl rfl ?_
    refine g_aload_nR (nx := 20) hX 0 dL_law_19 rfl rfl rfl ?_
    refine g_sln (nx := 21) hX hS dL_law_20 rfl ?_
    refine g_bipush (nx := 23) hX 6 dL_law_21 rfl (by decide) ?_
    refine g_isub (nx := 24) hX dL_law_23 rfl ?_
    refine g_icmp_gt (nx := 27) hX 808 dL_law_24 (by decide) rfl (fun h24 => ?_) (fun h24 => ?_)
    · exact fun H locs ls _ _ hS1 => fin H locs ls _ _ (by omega) (by omega) (hb ▸ hS1)
    · exact absurd ((lw_cmp hL hk).mpr (by omega)) h24
  | succ m ih =>
    intro E k M hb hX hS hE hm hk hI
    have t802 : ∀ (E' : ga_E) (M' : ga_M), E'.1 = base → ga_B E' 40 (⟨RL, lnm, lds⟩ : MethodName) cL_law 4 600000 7302250 X → ga_Xs E' X L xs → (∀ a, 27 ≤ a → E'.2.1 a = E'.1 + a) → 6 * k + 6 ≤ L → lw_I M' → ga_G E' X (200 + k + 1) (20000 + 8 * k + 8) 802 [some (.retAddr 0), some (.ref 0), some (.ref 79), some (.int (nI (6 * k)))] [] M' := by
      intro E' M' hb' hX hS' hE' hk6 hI'
      have ih1 := ih E' (k + 1) M' hb' hX hS' hE' (by omega) (by omega) hI'
      refine g_iinc (nx := 805) hX 3 (nI (6 * (k + 1))) dL_law_802 rfl rfl rfl (by rw [show 6 * (k + 1) = 6 * k + 6 by omega]; exact nI_add (6 * k) 6) ?_
      refine g_goto (nx := 18) hX dL_law_805 (by decide) ?_
      exact g_widen (by omega) (by omega) (g_ls ih1 ⟨rfl, rfl, rfl, rfl, trivial⟩)
    have hI0 := hI
    obtain ⟨lt, rn, fn, an, sm, ka, ask, fm, em, sp, op, top, size, tot, tt_, hd, fd, fa, x1, x2, x3, u1, u2, u3, u4, v1, v2, v3, v4, v5, v6, v7, x4, rl, tb, tm, sz, ah, ou, st_, od, eo, fo, fo2, se, mt, mw, mq, mf, ma, mb, ms_, ta, af, bo, sg, io, t1, t2, t3, t4, n1, n2, n3, n4, n5, n6, n7, nm, s, t5, hp, gv, ol, nw, sv, av, cd, cd2, en, J, rfl⟩ := hI
    refine g_iload_n (nx := 19) hX 3 dL_law_18 rfl rfl rfl ?_
    refine g_aload_nR (nx := 20) hX 0 dL_law_19 rfl rfl rfl ?_
    refine g_sln (nx := 21) hX hS dL_law_20 rfl ?_
    refine g_bipush (nx := 23) hX 6 dL_law_21 rfl (by decide) ?_
    refine g_isub (nx := 24) hX dL_law_23 rfl ?_
    refine g_icmp_gt (nx := 27) hX 808 dL_law_24 (by decide) rfl (fun h24 => ?_) (fun h24 => ?_)
    · exact fun H locs ls _ _ hS1 => fin H locs ls _ _ (by omega) (by omega) (hb ▸ hS1)
    · have hk6 : 6 * k + 6 ≤ L := Nat.le_of_not_lt (fun z => h24 ((lw_cmp hL hk).mpr z))
      refine g_aload_nR (nx := 28) hX 0 dL_law_27 rfl rfl rfl ?_
      refine g_iload_n (nx := 29) hX 3 dL_law_28 rfl rfl rfl ?_
      refine g_sld (nx := 30) hX hS (6 * k) rfl (by omega) hL dL_law_29 rfl ?_
      refine g_bipush (nx := 32) hX 31 dL_law_30 rfl (by decide) ?_
      refine g_iand (nx := 33) hX dL_law_32 rfl ?_
      generalize xs (6 * k) &&& 31 = opc
      rcases sw_23 opc with hsw | rfl | rfl | rfl | rfl | rfl | rfl | rfl | rfl | rfl | rfl | rfl | rfl | rfl | rfl | rfl | rfl | rfl | rfl | rfl | rfl | rfl | rfl | rfl
      · refine g_tableOut hX 802 dL_law_33 hsw (by decide) ?_
        exact g_widen (by omega) (by omega) (t802 E _ hb hX hS hE hk6 hI0)
      · refine g_tableIn hX 140 dL_law_33 (by decide) (by decide) rfl (by decide) ?_
        exact g_ls (l_feed hX (Nat.le_refl 40) hS hL hE hk6 (by omega) (by omega) J (fun M' hM => t802 E M' hb hX hS hE hk6 hM)) ⟨rfl, rfl, rfl, rfl, trivial⟩
      · refine g_tableIn hX 203 dL_law_33 (by decide) (by decide) rfl (by decide) ?_
        exact g_ls (l_end hX (Nat.le_refl 40) hS hL hE hk6 (by omega) (by omega) J (fun M' hM => t802 E M' hb hX hS hE hk6 hM)) ⟨rfl, rfl, rfl, rfl, trivial⟩
      · refine g_tableIn hX 226 dL_law_33 (by decide) (by decide) rfl (by decide) ?_
        exact g_ls (l_rider hX (Nat.le_refl 40) hS hL hE hk6 (by omega) (by omega) J (fun M' hM => t802 E M' hb hX hS hE hk6 hM)) ⟨rfl, rfl, rfl, rfl, trivial⟩
      · refine g_tableIn hX 249 dL_law_33 (by decide) (by decide) rfl (by decide) ?_
        exact g_ls (l_fence hX (Nat.le_refl 40) hS hL hE hk6 (by omega) (by omega) J (fun M' hM => t802 E M' hb hX hS hE hk6 hM)) ⟨rfl, rfl, rfl, rfl, trivial⟩
      · refine g_tableIn hX 272 dL_law_33 (by decide) (by decide) rfl (by decide) ?_
        exact g_ls (l_course hX (Nat.le_refl 40) hS hL hE hk6 (by omega) (by omega) J (fun M' hM => t802 E M' hb hX hS hE hk6 hM)) ⟨rfl, rfl, rfl, rfl, trivial⟩
      · refine g_tableIn hX 305 dL_law_33 (by decide) (by decide) rfl (by decide) ?_
        exact g_ls (l_clock hX (Nat.le_refl 40) hS hL hE hk6 (by omega) (by omega) J (fun M' hM => t802 E M' hb hX hS hE hk6 hM)) ⟨rfl, rfl, rfl, rfl, trivial⟩
      · refine g_tableIn hX 338 dL_law_33 (by decide) (by decide) rfl (by decide) ?_
        exact g_ls (l_out hX (Nat.le_refl 40) hS hL hE hk6 (by omega) (by omega) J (fun M' hM => t802 E M' hb hX hS hE hk6 hM)) ⟨rfl, rfl, rfl, rfl, trivial⟩
      · refine g_tableIn hX 371 dL_law_33 (by decide) (by decide) rfl (by decide) ?_
        exact g_ls (l_report hX (Nat.le_refl 40) hS hL hE hk6 (by omega) (by omega) J (fun M' hM => t802 E M' hb hX hS hE hk6 hM)) ⟨rfl, rfl, rfl, rfl, trivial⟩
      · refine g_tableIn hX 434 dL_law_33 (by decide) (by decide) rfl (by decide) ?_
        exact g_ls (l_strike hX (Nat.le_refl 40) hS hL hE hk6 (by omega) (by omega) J (fun M' hM => t802 E M' hb hX hS hE hk6 hM)) ⟨rfl, rfl, rfl, rfl, trivial⟩
      · refine g_tableIn hX 457 dL_law_33 (by decide) (by decide) rfl (by decide) ?_
        exact g_ls (l_as hX (Nat.le_refl 40) hS hL hE hk6 (by omega) (by omega) J (fun M' hM => t802 E M' hb hX hS hE hk6 hM)) ⟨rfl, rfl, rfl, rfl, trivial⟩
      · refine g_tableIn hX 480 dL_law_33 (by decide) (by decide) rfl (by decide) ?_
        exact g_ls (l_rules hX (Nat.le_refl 40) (by omega) (by omega) J (fun M' hM => t802 E M' hb hX hS hE hk6 hM) (fun M' hM => t802 (E_sw E) M' hb (ga_B_sw hX) hS (fun a ha => by show E.2.1 (sw a) = E.1 + a; rw [sw_hi ha]; exact hE a ha) hk6 hM)) ⟨rfl, rfl, rfl, rfl, trivial⟩
      · refine g_tableIn hX 493 dL_law_33 (by decide) (by decide) rfl (by decide) ?_
        exact g_ls (l_fault hX (Nat.le_refl 40) hS hL hE hk6 (by omega) (by omega) J (fun M' hM => t802 E M' hb hX hS hE hk6 hM)) ⟨rfl, rfl, rfl, rfl, trivial⟩
      · refine g_tableIn hX 516 dL_law_33 (by decide) (by decide) rfl (by decide) ?_
        exact g_ls (l_count hX (Nat.le_refl 40) hS hL hE hk6 (by omega) (by omega) J (fun M' hM => t802 E M' hb hX hS hE hk6 hM)) ⟨rfl, rfl, rfl, rfl, trivial⟩
      · refine g_tableIn hX 549 dL_law_33 (by decide) (by decide) rfl (by decide) ?_
        exact g_ls (l_given hX (Nat.le_refl 40) hS hL hE hk6 (by omega) (by omega) J (fun M' hM => t802 E M' hb hX hS hE hk6 hM)) ⟨rfl, rfl, rfl, rfl, trivial⟩
      · refine g_tableIn hX 583 dL_law_33 (by decide) (by decide) rfl (by decide) ?_
        exact g_ls (l_total hX (Nat.le_refl 40) hS hL hE hk6 (by omega) (by omega) J (fun M' hM => t802 E M' hb hX hS hE hk6 hM)) ⟨rfl, rfl, rfl, rfl, trivial⟩
      · refine g_tableIn hX 607 dL_law_33 (by decide) (by decide) rfl (by decide) ?_
        exact g_ls (l_isOut hX (Nat.le_refl 40) hS hL hE hk6 (by omega) (by omega) J (fun M' hM => t802 E M' hb hX hS hE hk6 hM)) ⟨rfl, rfl, rfl, rfl, trivial⟩
      · refine g_tableIn hX 630 dL_law_33 (by decide) (by decide) rfl (by decide) ?_
        exact g_ls (l_against hX (Nat.le_refl 40) hS hL hE hk6 (by omega) (by omega) J (fun M' hM => t802 E M' hb hX hS hE hk6 hM)) ⟨rfl, rfl, rfl, rfl, trivial⟩
      · refine g_tableIn hX 663 dL_law_33 (by decide) (by decide) rfl (by decide) ?_
        exact g_ls (l_place hX (Nat.le_refl 40) hS hL hE hk6 (by omega) (by omega) J (fun M' hM => t802 E M' hb hX hS hE hk6 hM)) ⟨rfl, rfl, rfl, rfl, trivial⟩
      · refine g_tableIn hX 686 dL_law_33 (by decide) (by decide) rfl (by decide) ?_
        exact g_ls (l_team hX (Nat.le_refl 40) hS hL hE hk6 (by omega) (by omega) J (fun M' hM => t802 E M' hb hX hS hE hk6 hM)) ⟨rfl, rfl, rfl, rfl, trivial⟩
      · refine g_tableIn hX 710 dL_law_33 (by decide) (by decide) rfl (by decide) ?_
        exact g_ls (l_teamPlace hX (Nat.le_refl 40) hS hL hE hk6 (by omega) (by omega) J (fun M' hM => t802 E M' hb hX hS hE hk6 hM)) ⟨rfl, rfl, rfl, rfl, trivial⟩
      · refine g_tableIn hX 733 dL_law_33 (by decide) (by decide) rfl (by decide) ?_
        exact g_ls (l_ring hX (Nat.le_refl 40) hS hL hE hk6 (by omega) (by omega) J (fun M' hM => t802 E M' hb hX hS hE hk6 hM)) ⟨rfl, rfl, rfl, rfl, trivial⟩
      · refine g_tableIn hX 756 dL_law_33 (by decide) (by decide) rfl (by decide) ?_
        exact g_ls (l_since hX (Nat.le_refl 40) hS hL hE hk6 (by omega) (by omega) J (fun M' hM => t802 E M' hb hX hS hE hk6 hM)) ⟨rfl, rfl, rfl, rfl, trivial⟩
      · refine g_tableIn hX 779 dL_law_33 (by decide) (by decide) rfl (by decide) ?_
        exact g_ls (l_all hX (Nat.le_refl 40) hS hL hE hk6 (by omega) (by omega) J (fun M' hM => t802 E M' hb hX hS hE hk6 hM)) ⟨rfl, rfl, rfl, rfl, trivial⟩
end
