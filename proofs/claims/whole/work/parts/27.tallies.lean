/-! ===== the tally of the reference: its end, and whole ===== -/
def m_f (T : y_T) (q : Nat → Nat) (op : Int32) : Nat → Int32 := match T with
  | (mr, rg, kn, lk, rt, s, fi, hd, sn) => fun j => if j = 15 then y_g s else if j = 16 then y_g fi else if j = 17 then y_tm s fi hd else y_c (mr, rg, kn, lk, rt, s, fi, hd, sn) q op j
theorem m_f_eq {mr rg : Int32} {kn lk rt : Nat} {s fi : Option Int32} {hd op x17 x12 x13 : Int32} {sn : Nat → Nat → Nat} {q : Nat → Nat} (e17 : x17 = y_tm s fi hd) (e12 : x12 = y_ov s fi hd op) (e13 : x13 = y_un s fi hd op) :
    upd (upd (upd (upd (m_w (m_t (mr, rg, kn, lk, rt, s, fi, hd, sn)) q) 14 op) 17 x17) 12 x12) 13 x13 = m_f (mr, rg, kn, lk, rt, s, fi, hd, sn) q op := by
  rw [e17, e12, e13]
  funext j
  unfold upd m_w m_t m_f y_c
  dsimp only
  by_cases h13 : j = 13
  · subst h13; simp
  by_cases h12 : j = 12
  · subst h12; simp
  by_cases h17 : j = 17
  · subst h17; simp
  by_cases h14 : j = 14
  · subst h14; simp
  by_cases h15 : j = 15
  · subst h15; simp
  by_cases h16 : j = 16
  · subst h16; simp
  simp [h12, h13, h14, h15, h16, h17]
theorem y_mx_p {x : Int32} (h : 0 ≤ x) : y_mx x = x := by
  unfold y_mx
  by_cases h0 : 0 < x
  · rw [if_pos h0]
  · rw [if_neg h0]
    apply Int32.toInt_inj.mp
    rw [Int32.lt_iff_toInt_lt, Int32.toInt_zero] at h0
    rw [Int32.le_iff_toInt_le, Int32.toInt_zero] at h
    rw [Int32.toInt_zero]; omega
theorem y_mx_n {x : Int32} (h : ¬ 0 ≤ x) : y_mx x = 0 := by
  unfold y_mx
  rw [if_neg (fun q => h (by rw [Int32.lt_iff_toInt_lt] at q; rw [Int32.le_iff_toInt_le]; omega))]
theorem y_mx_0 (x : Int32) : 0 ≤ y_mx x := by
  unfold y_mx
  by_cases h : 0 < x
  · rw [if_pos h]; rw [Int32.lt_iff_toInt_lt] at h; rw [Int32.le_iff_toInt_le]; omega
  · rw [if_neg h]; decide
theorem v_subI {a b : Int32} (ha : 0 ≤ a) (hb : 0 ≤ b) : (a - b).toInt = a.toInt - b.toInt := by
  obtain ⟨i, hi, e⟩ := nI_of (ga_len ha)
  obtain ⟨j, hj, e2⟩ := nI_of (ga_len hb)
  rw [Int32.toInt_sub]
  rw [Int32.le_iff_toInt_le, Int32.toInt_zero] at ha hb
  have h1 := Int32.toInt_lt a
  have h2 := Int32.toInt_lt b
  apply Int.bmod_eq_of_le <;> omega
theorem y_mx_le {a b : Int32} (ha : 0 ≤ a) (hb : 0 ≤ b) (h : a ≤ b) : y_mx (a - b) = 0 := by
  unfold y_mx
  rw [if_neg (fun q => ?_)]
  rw [Int32.lt_iff_toInt_lt, v_subI ha hb, Int32.toInt_zero] at q
  rw [Int32.le_iff_toInt_le] at h
  omega
theorem y_mx_gt {a b : Int32} (ha : 0 ≤ a) (hb : 0 ≤ b) (h : ¬ a ≤ b) : y_mx (a - b) = a - b := by
  unfold y_mx
  rw [if_pos ?_]
  rw [Int32.lt_iff_toInt_lt, v_subI ha hb, Int32.toInt_zero]
  rw [Int32.le_iff_toInt_le] at h
  omega
section
variable {E : ga_E} {X : ga_X} {n : Nat} {c0 c1 c2 c3 c4 c5 c6 c7 c8 c9 c10 c11 c12 c13 c14 c15 c16 c17 c18 c19 c20 c21 c22 c23 c24 c25 c26 c27 c28 c29 c30 m79 m80 m81 m82 m83 m84 m85 m86 m87 m88 m89 m90 m91 m92 m93 m94 m95 m96 m97 m98 m99 m100 m101 m102 m103 m104 m105 : ga_C} {L1 L2 : List ga_C} {f : Nat → ga_C} {o_tp o_rd o_fe o_em o_sp o_ac o_td o_sm o_tt o_at o_sz o_fk o_fp o_nw o_md o_nt o_pl o_op d_at d_tk d_ta d_fd d_fa : Int32} {d_tv : Int64} {d_rl : Value}
variable {mt ou ah mw mq mf ma mb ms_ : Nat → Int32} {em sp : Int32} {fn r t an : Nat}
variable {mr rg : Int32} {kn lk rt : Nat} {s fi : Option Int32} {hd : Int32} {sn : Nat → Nat → Nat}
set_option maxHeartbeats 4000000 in
theorem tl_end {q : Nat → Nat} {d mc ms : Nat} {Post : Option Value → ga_M → Prop} {q1 q2 : Int32} (hX : ga_B E d yX11_tallies cX11_tallies 6 mc ms X) (hP : ga_P E none mc ms Post X) (hd2 : 1 ≤ d) (hn : 106 ≤ n) (hf : fn ≤ 30) (hs1 : 1 ≤ sp) (hop : 0 ≤ w_op (w_s mt fn) em sp) (hz : y_nz s) (hz2 : y_nz fi)
    (kont : Post none (n, L1, ((m_O o_tp (o_rd) (nI fn) (em) (sp) o_ac o_td o_sm o_tt o_at o_sz o_fk o_fp o_nw o_md o_nt o_pl o_op) :: m80 :: m81 :: ga_i 30 mt :: ga_i 30 ou :: ga_i 32 ah :: ga_i 401 mw :: ga_i 401 mq :: ga_i 401 mf :: ga_i 401 ma :: ga_i 401 mb :: ga_i 401 ms_ :: ga_i 18 (m_f (mr, rg, kn, lk, rt, s, fi, hd, sn) q (w_op (w_s mt fn) em sp)) :: ga_i 120 (m_af sn) :: L2), f)) :
    ga_G E X 0 0 370 [some (.ref 79), some (.int q1), some (.int q2), some (.int hd), none, none] [] (n, L1, ((m_O o_tp (o_rd) (nI fn) (em) (sp) o_ac o_td o_sm o_tt o_at o_sz o_fk o_fp o_nw o_md o_nt o_pl o_op) :: m80 :: m81 :: ga_i 30 mt :: ga_i 30 ou :: ga_i 32 ah :: ga_i 401 mw :: ga_i 401 mq :: ga_i 401 mf :: ga_i 401 ma :: ga_i 401 mb :: ga_i 401 ms_ :: ga_i 18 (m_w (m_t (mr, rg, kn, lk, rt, s, fi, hd, sn)) q) :: ga_i 120 (m_af sn) :: L2), f) := by
  have f15 : ∀ x, upd (m_w (m_t (mr, rg, kn, lk, rt, s, fi, hd, sn)) q) 14 x 15 = y_g s := fun x => by unfold upd m_w m_t; simp
  have f16 : ∀ x, upd (m_w (m_t (mr, rg, kn, lk, rt, s, fi, hd, sn)) q) 14 x 16 = y_g fi := fun x => by unfold upd m_w m_t; simp
  have f14 : ∀ x z, upd (upd (m_w (m_t (mr, rg, kn, lk, rt, s, fi, hd, sn)) q) 14 x) 17 z 14 = x := fun x z => by unfold upd; simp
  have f14b : ∀ x z w, upd (upd (upd (m_w (m_t (mr, rg, kn, lk, rt, s, fi, hd, sn)) q) 14 x) 17 z) 12 w 14 = x := fun x z w => by unfold upd; simp
  have nob : (s = none ∨ fi = none) → ∀ e, ga_G E X 0 0 444 [some (.ref 79), some (.int q1), some (.int q2), some (.int hd), some (.int 0), some (.int e)] [] (n, L1, ((m_O o_tp (o_rd) (nI fn) (em) (sp) o_ac o_td o_sm o_tt o_at o_sz o_fk o_fp o_nw o_md o_nt o_pl o_op) :: m80 :: m81 :: ga_i 30 mt :: ga_i 30 ou :: ga_i 32 ah :: ga_i 401 mw :: ga_i 401 mq :: ga_i 401 mf :: ga_i 401 ma :: ga_i 401 mb :: ga_i 401 ms_ :: ga_i 18 (upd (m_w (m_t (mr, rg, kn, lk, rt, s, fi, hd, sn)) q) 14 (w_op (w_s mt fn) em sp)) :: ga_i 120 (m_af sn) :: L2), f) := by
    intro hno e
    have e17 : (-1 : Int32) = y_tm s fi hd := by rcases hno with rfl | rfl <;> (try cases s) <;> (try cases fi) <;> rfl
    have e12 : (0 : Int32) = y_ov s fi hd (w_op (w_s mt fn) em sp) := by rcases hno with rfl | rfl <;> (try cases s) <;> (try cases fi) <;> rfl
    have e13 : (0 : Int32) = y_un s fi hd (w_op (w_s mt fn) em sp) := by rcases hno with rfl | rfl <;> (try cases s) <;> (try cases fi) <;> rfl
    rw [← m_f_eq e17 e12 e13] at kont
    refine g_aload_n (nx := 445) hX 0 dX11_tallies_444 rfl rfl rfl ?_
    refine g_getfield (nx := 448) hX dX11_tallies_445 rfl fX11_65 (ga_dn hn rfl) rfl rfl ?_
    refine g_bipush (nx := 450) hX 17 dX11_tallies_448 rfl (by decide) ?_
    refine g_iload (nx := 452) hX 4 dX11_tallies_450 rfl rfl ?_
    refine g_if_eq (nx := 455) hX 460 dX11_tallies_452 (by decide) rfl (fun h => ?_) (fun h => absurd h (by decide))
    refine g_iconst (nx := 461) hX (-1) dX11_tallies_460 rfl (by decide) ?_
    refine g_iastore (nx := 462) hX dX11_tallies_461 rfl (ga_dn hn rfl) rfl (ga_ix_of (j := 17) rfl (by decide) (by decide)) ?_
    refine g_aload_n (nx := 463) hX 0 dX11_tallies_462 rfl rfl rfl ?_
    refine g_getfield (nx := 466) hX dX11_tallies_463 rfl fX11_65 (ga_dn hn rfl) rfl rfl ?_
    refine g_bipush (nx := 468) hX 12 dX11_tallies_466 rfl (by decide) ?_
    refine g_iload (nx := 470) hX 4 dX11_tallies_468 rfl rfl ?_
    refine g_if_eq (nx := 473) hX 498 dX11_tallies_470 (by decide) rfl (fun h => ?_) (fun h => absurd h (by decide))
    refine g_iconst (nx := 499) hX 0 dX11_tallies_498 rfl (by decide) ?_
    refine g_iastore (nx := 500) hX dX11_tallies_499 rfl (ga_dn hn rfl) rfl (ga_ix_of (j := 12) rfl (by decide) (by decide)) ?_
    refine g_aload_n (nx := 501) hX 0 dX11_tallies_500 rfl rfl rfl ?_
    refine g_getfield (nx := 504) hX dX11_tallies_501 rfl fX11_65 (ga_dn hn rfl) rfl rfl ?_
    refine g_bipush (nx := 506) hX 13 dX11_tallies_504 rfl (by decide) ?_
    refine g_iload (nx := 508) hX 4 dX11_tallies_506 rfl rfl ?_
    refine g_if_eq (nx := 511) hX 536 dX11_tallies_508 (by decide) rfl (fun h => ?_) (fun h => absurd h (by decide))
    refine g_iconst (nx := 537) hX 0 dX11_tallies_536 rfl (by decide) ?_
    refine g_iastore (nx := 538) hX dX11_tallies_537 rfl (ga_dn hn rfl) rfl (ga_ix_of (j := 13) rfl (by decide) (by decide)) ?_
    exact g_return hX hP dX11_tallies_538 (Nat.le_of_ble_eq_true rfl) (Nat.le_of_ble_eq_true rfl) kont
  have bothc : ∀ x z, s = some x → fi = some z → ∀ e, e = y_mx (z - x - hd) → ga_G E X 0 0 444 [some (.ref 79), some (.int q1), some (.int q2), some (.int hd), some (.int 1), some (.int e)] [] (n, L1, ((m_O o_tp (o_rd) (nI fn) (em) (sp) o_ac o_td o_sm o_tt o_at o_sz o_fk o_fp o_nw o_md o_nt o_pl o_op) :: m80 :: m81 :: ga_i 30 mt :: ga_i 30 ou :: ga_i 32 ah :: ga_i 401 mw :: ga_i 401 mq :: ga_i 401 mf :: ga_i 401 ma :: ga_i 401 mb :: ga_i 401 ms_ :: ga_i 18 (upd (m_w (m_t (mr, rg, kn, lk, rt, s, fi, hd, sn)) q) 14 (w_op (w_s mt fn) em sp)) :: ga_i 120 (m_af sn) :: L2), f) := by
    intro x z hx hz' e he
    have e17 : e = y_tm s fi hd := by rw [hx, hz', he]; rfl
    have he0 : 0 ≤ e := by rw [he]; exact y_mx_0 _
    have eov : y_ov s fi hd (w_op (w_s mt fn) em sp) = y_mx (e - w_op (w_s mt fn) em sp) := by rw [hx, hz', he]; rfl
    have eun : y_un s fi hd (w_op (w_s mt fn) em sp) = y_mx (w_op (w_s mt fn) em sp - e) := by rw [hx, hz', he]; rfl
    refine g_aload_n (nx := 445) hX 0 dX11_tallies_444 rfl rfl rfl ?_
    refine g_getfield (nx := 448) hX dX11_tallies_445 rfl fX11_65 (ga_dn hn rfl) rfl rfl ?_
    refine g_bipush (nx := 450) hX 17 dX11_tallies_448 rfl (by decide) ?_
    refine g_iload (nx := 452) hX 4 dX11_tallies_450 rfl rfl ?_
    refine g_if_eq (nx := 455) hX 460 dX11_tallies_452 (by decide) rfl (fun h => absurd h (by decide)) (fun h => ?_)
    refine g_iload (nx := 457) hX 5 dX11_tallies_455 rfl rfl ?_
    refine g_goto (nx := 461) hX dX11_tallies_457 (by decide) ?_
    refine g_iastore (nx := 462) hX dX11_tallies_461 rfl (ga_dn hn rfl) rfl (ga_ix_of (j := 17) rfl (by decide) (by decide)) ?_
    refine g_aload_n (nx := 463) hX 0 dX11_tallies_462 rfl rfl rfl ?_
    refine g_getfield (nx := 466) hX dX11_tallies_463 rfl fX11_65 (ga_dn hn rfl) rfl rfl ?_
    refine g_bipush (nx := 468) hX 12 dX11_tallies_466 rfl (by decide) ?_
    refine g_iload (nx := 470) hX 4 dX11_tallies_468 rfl rfl ?_
    refine g_if_eq (nx := 473) hX 498 dX11_tallies_470 (by decide) rfl (fun h => absurd h (by decide)) (fun h => ?_)
    refine g_iload (nx := 475) hX 5 dX11_tallies_473 rfl rfl ?_
    refine g_aload_n (nx := 476) hX 0 dX11_tallies_475 rfl rfl rfl ?_
    refine g_getfield (nx := 479) hX dX11_tallies_476 rfl fX11_65 (ga_dn hn rfl) rfl rfl ?_
    refine g_bipush (nx := 481) hX 14 dX11_tallies_479 rfl (by decide) ?_
    refine g_iaload (nx := 482) hX dX11_tallies_481 rfl (ga_dn hn rfl) rfl (ga_ix_of (j := 14) rfl (by decide) (by decide)) ?_
    refine g_icmp_le (nx := 485) hX 498 dX11_tallies_482 (by decide) rfl (fun h482 => ?_) (fun h482 => ?_)
    · rw [f14] at h482
      have e12 : (0 : Int32) = y_ov s fi hd (w_op (w_s mt fn) em sp) := by rw [eov, y_mx_le he0 hop h482]
      refine g_iconst (nx := 499) hX 0 dX11_tallies_498 rfl (by decide) ?_
      refine g_iastore (nx := 500) hX dX11_tallies_499 rfl (ga_dn hn rfl) rfl (ga_ix_of (j := 12) rfl (by decide) (by decide)) ?_
      refine g_aload_n (nx := 501) hX 0 dX11_tallies_500 rfl rfl rfl ?_
      refine g_getfield (nx := 504) hX dX11_tallies_501 rfl fX11_65 (ga_dn hn rfl) rfl rfl ?_
      refine g_bipush (nx := 506) hX 13 dX11_tallies_504 rfl (by decide) ?_
      refine g_iload (nx := 508) hX 4 dX11_tallies_506 rfl rfl ?_
      refine g_if_eq (nx := 511) hX 536 dX11_tallies_508 (by decide) rfl (fun h => absurd h (by decide)) (fun h => ?_)
      refine g_iload (nx := 513) hX 5 dX11_tallies_511 rfl rfl ?_
      refine g_aload_n (nx := 514) hX 0 dX11_tallies_513 rfl rfl rfl ?_
      refine g_getfield (nx := 517) hX dX11_tallies_514 rfl fX11_65 (ga_dn hn rfl) rfl rfl ?_
      refine g_bipush (nx := 519) hX 14 dX11_tallies_517 rfl (by decide) ?_
      refine g_iaload (nx := 520) hX dX11_tallies_519 rfl (ga_dn hn rfl) rfl (ga_ix_of (j := 14) rfl (by decide) (by decide)) ?_
      refine g_icmp_ge (nx := 523) hX 536 dX11_tallies_520 (by decide) rfl (fun h520 => ?_) (fun h520 => ?_)
      · rw [f14b] at h520
        have e13 : (0 : Int32) = y_un s fi hd (w_op (w_s mt fn) em sp) := by rw [eun, y_mx_le hop he0 h520]
        refine g_iconst (nx := 537) hX 0 dX11_tallies_536 rfl (by decide) ?_
        refine g_iastore (nx := 538) hX dX11_tallies_537 rfl (ga_dn hn rfl) rfl (ga_ix_of (j := 13) rfl (by decide) (by decide)) ?_
        exact g_return hX hP dX11_tallies_538 (Nat.le_of_ble_eq_true rfl) (Nat.le_of_ble_eq_true rfl) (by rw [← m_f_eq e17 e12 e13] at kont; exact kont)
      · rw [f14b] at h520
        have e13 : w_op (w_s mt fn) em sp - e = y_un s fi hd (w_op (w_s mt fn) em sp) := by rw [eun, y_mx_gt hop he0 h520]
        refine g_aload_n (nx := 524) hX 0 dX11_tallies_523 rfl rfl rfl ?_
        refine g_getfield (nx := 527) hX dX11_tallies_524 rfl fX11_65 (ga_dn hn rfl) rfl rfl ?_
        refine g_bipush (nx := 529) hX 14 dX11_tallies_527 rfl (by decide) ?_
        refine g_iaload (nx := 530) hX dX11_tallies_529 rfl (ga_dn hn rfl) rfl (ga_ix_of (j := 14) rfl (by decide) (by decide)) ?_
        rw [f14b]
        refine g_iload (nx := 532) hX 5 dX11_tallies_530 rfl rfl ?_
        refine g_isub (nx := 533) hX dX11_tallies_532 rfl ?_
        refine g_goto (nx := 537) hX dX11_tallies_533 (by decide) ?_
        refine g_iastore (nx := 538) hX dX11_tallies_537 rfl (ga_dn hn rfl) rfl (ga_ix_of (j := 13) rfl (by decide) (by decide)) ?_
        exact g_return hX hP dX11_tallies_538 (Nat.le_of_ble_eq_true rfl) (Nat.le_of_ble_eq_true rfl) (by rw [← m_f_eq e17 e12 e13] at kont; exact kont)
    · rw [f14] at h482
      have e12 : e - w_op (w_s mt fn) em sp = y_ov s fi hd (w_op (w_s mt fn) em sp) := by rw [eov, y_mx_gt he0 hop h482]
      refine g_iload (nx := 487) hX 5 dX11_tallies_485 rfl rfl ?_
      refine g_aload_n (nx := 488) hX 0 dX11_tallies_487 rfl rfl rfl ?_
      refine g_getfield (nx := 491) hX dX11_tallies_488 rfl fX11_65 (ga_dn hn rfl) rfl rfl ?_
      refine g_bipush (nx := 493) hX 14 dX11_tallies_491 rfl (by decide) ?_
      refine g_iaload (nx := 494) hX dX11_tallies_493 rfl (ga_dn hn rfl) rfl (ga_ix_of (j := 14) rfl (by decide) (by decide)) ?_
      rw [f14]
      refine g_isub (nx := 495) hX dX11_tallies_494 rfl ?_
      refine g_goto (nx := 499) hX dX11_tallies_495 (by decide) ?_
      refine g_iastore (nx := 500) hX dX11_tallies_499 rfl (ga_dn hn rfl) rfl (ga_ix_of (j := 12) rfl (by decide) (by decide)) ?_
      refine g_aload_n (nx := 501) hX 0 dX11_tallies_500 rfl rfl rfl ?_
      refine g_getfield (nx := 504) hX dX11_tallies_501 rfl fX11_65 (ga_dn hn rfl) rfl rfl ?_
      refine g_bipush (nx := 506) hX 13 dX11_tallies_504 rfl (by decide) ?_
      refine g_iload (nx := 508) hX 4 dX11_tallies_506 rfl rfl ?_
      refine g_if_eq (nx := 511) hX 536 dX11_tallies_508 (by decide) rfl (fun h => absurd h (by decide)) (fun h => ?_)
      refine g_iload (nx := 513) hX 5 dX11_tallies_511 rfl rfl ?_
      refine g_aload_n (nx := 514) hX 0 dX11_tallies_513 rfl rfl rfl ?_
      refine g_getfield (nx := 517) hX dX11_tallies_514 rfl fX11_65 (ga_dn hn rfl) rfl rfl ?_
      refine g_bipush (nx := 519) hX 14 dX11_tallies_517 rfl (by decide) ?_
      refine g_iaload (nx := 520) hX dX11_tallies_519 rfl (ga_dn hn rfl) rfl (ga_ix_of (j := 14) rfl (by decide) (by decide)) ?_
      refine g_icmp_ge (nx := 523) hX 536 dX11_tallies_520 (by decide) rfl (fun h520 => ?_) (fun h520 => ?_)
      · rw [f14b] at h520
        have e13 : (0 : Int32) = y_un s fi hd (w_op (w_s mt fn) em sp) := by rw [eun, y_mx_le hop he0 h520]
        refine g_iconst (nx := 537) hX 0 dX11_tallies_536 rfl (by decide) ?_
        refine g_iastore (nx := 538) hX dX11_tallies_537 rfl (ga_dn hn rfl) rfl (ga_ix_of (j := 13) rfl (by decide) (by decide)) ?_
        exact g_return hX hP dX11_tallies_538 (Nat.le_of_ble_eq_true rfl) (Nat.le_of_ble_eq_true rfl) (by rw [← m_f_eq e17 e12 e13] at kont; exact kont)
      · rw [f14b] at h520
        have e13 : w_op (w_s mt fn) em sp - e = y_un s fi hd (w_op (w_s mt fn) em sp) := by rw [eun, y_mx_gt hop he0 h520]
        refine g_aload_n (nx := 524) hX 0 dX11_tallies_523 rfl rfl rfl ?_
        refine g_getfield (nx := 527) hX dX11_tallies_524 rfl fX11_65 (ga_dn hn rfl) rfl rfl ?_
        refine g_bipush (nx := 529) hX 14 dX11_tallies_527 rfl (by decide) ?_
        refine g_iaload (nx := 530) hX dX11_tallies_529 rfl (ga_dn hn rfl) rfl (ga_ix_of (j := 14) rfl (by decide) (by decide)) ?_
        rw [f14b]
        refine g_iload (nx := 532) hX 5 dX11_tallies_530 rfl rfl ?_
        refine g_isub (nx := 533) hX dX11_tallies_532 rfl ?_
        refine g_goto (nx := 537) hX dX11_tallies_533 (by decide) ?_
        refine g_iastore (nx := 538) hX dX11_tallies_537 rfl (ga_dn hn rfl) rfl (ga_ix_of (j := 13) rfl (by decide) (by decide)) ?_
        exact g_return hX hP dX11_tallies_538 (Nat.le_of_ble_eq_true rfl) (Nat.le_of_ble_eq_true rfl) (by rw [← m_f_eq e17 e12 e13] at kont; exact kont)
  refine g_aload_n (nx := 371) hX 0 dX11_tallies_370 rfl rfl rfl ?_
  refine g_getfield (nx := 374) hX dX11_tallies_371 rfl fX11_65 (ga_dn hn rfl) rfl rfl ?_
  refine g_bipush (nx := 376) hX 14 dX11_tallies_374 rfl (by decide) ?_
  refine g_aload_n (nx := 377) hX 0 dX11_tallies_376 rfl rfl rfl ?_
  refine g_V0 (nx := 380) hX dX11_tallies_377 rfl mX11_153 yX11_optimum_ok (c_X11_optimum hn hf hs1) (ga_dn hn rfl) rfl rfl rfl (by omega) rfl (Nat.le_of_ble_eq_true rfl) (Nat.le_of_ble_eq_true rfl) ?_
  rintro _ _ ⟨rfl, rfl⟩
  refine g_iastore (nx := 381) hX dX11_tallies_380 rfl (ga_dn hn rfl) rfl (ga_ix_of (j := 14) rfl (by decide) (by decide)) ?_
  refine g_aload_n (nx := 382) hX 0 dX11_tallies_381 rfl rfl rfl ?_
  refine g_getfield (nx := 385) hX dX11_tallies_382 rfl fX11_65 (ga_dn hn rfl) rfl rfl ?_
  refine g_bipush (nx := 387) hX 15 dX11_tallies_385 rfl (by decide) ?_
  refine g_iaload (nx := 388) hX dX11_tallies_387 rfl (ga_dn hn rfl) rfl (ga_ix_of (j := 15) rfl (by decide) (by decide)) ?_
  refine g_ldc (nx := 390) hX (-1000000) dX11_tallies_388 rfl kX11_167 ?_
  refine g_icmp_eq (nx := 393) hX 409 dX11_tallies_390 (by decide) rfl (fun h390 => ?_) (fun h390 => ?_)
  · rw [f15] at h390
    have hsn : s = none := by
      cases hs : s with
      | none => rfl
      | some x => rw [hs] at h390; exact absurd h390 (hz x hs)
    refine g_iconst (nx := 410) hX 0 dX11_tallies_409 rfl (by decide) ?_
    refine g_istore (nx := 412) hX 4 dX11_tallies_410 rfl rfl ?_
    refine g_aload_n (nx := 413) hX 0 dX11_tallies_412 rfl rfl rfl ?_
    refine g_getfield (nx := 416) hX dX11_tallies_413 rfl fX11_65 (ga_dn hn rfl) rfl rfl ?_
    refine g_bipush (nx := 418) hX 16 dX11_tallies_416 rfl (by decide) ?_
    refine g_iaload (nx := 419) hX dX11_tallies_418 rfl (ga_dn hn rfl) rfl (ga_ix_of (j := 16) rfl (by decide) (by decide)) ?_
    refine g_aload_n (nx := 420) hX 0 dX11_tallies_419 rfl rfl rfl ?_
    refine g_getfield (nx := 423) hX dX11_tallies_420 rfl fX11_65 (ga_dn hn rfl) rfl rfl ?_
    refine g_bipush (nx := 425) hX 15 dX11_tallies_423 rfl (by decide) ?_
    refine g_iaload (nx := 426) hX dX11_tallies_425 rfl (ga_dn hn rfl) rfl (ga_ix_of (j := 15) rfl (by decide) (by decide)) ?_
    refine g_isub (nx := 427) hX dX11_tallies_426 rfl ?_
    refine g_iload_n (nx := 428) hX 3 dX11_tallies_427 rfl rfl rfl ?_
    refine g_isub (nx := 429) hX dX11_tallies_428 rfl ?_
    refine g_istore (nx := 431) hX 5 dX11_tallies_429 rfl rfl ?_
    refine g_iload (nx := 433) hX 5 dX11_tallies_431 rfl rfl ?_
    refine g_if_ge (nx := 436) hX 440 dX11_tallies_433 (by decide) rfl (fun h433 => ?_) (fun h433 => ?_)
    · refine g_iload (nx := 442) hX 5 dX11_tallies_440 rfl rfl ?_
      refine g_istore (nx := 444) hX 5 dX11_tallies_442 rfl rfl ?_
      exact nob (Or.inl hsn) _
    · refine g_iconst (nx := 437) hX 0 dX11_tallies_436 rfl (by decide) ?_
      refine g_goto (nx := 442) hX dX11_tallies_437 (by decide) ?_
      refine g_istore (nx := 444) hX 5 dX11_tallies_442 rfl rfl ?_
      exact nob (Or.inl hsn) _
  · rw [f15] at h390
    obtain ⟨x, hx⟩ : ∃ x, s = some x := by
      cases hs : s with
      | none => rw [hs] at h390; exact absurd rfl h390
      | some x => exact ⟨x, rfl⟩
    refine g_aload_n (nx := 394) hX 0 dX11_tallies_393 rfl rfl rfl ?_
    refine g_getfield (nx := 397) hX dX11_tallies_394 rfl fX11_65 (ga_dn hn rfl) rfl rfl ?_
    refine g_bipush (nx := 399) hX 16 dX11_tallies_397 rfl (by decide) ?_
    refine g_iaload (nx := 400) hX dX11_tallies_399 rfl (ga_dn hn rfl) rfl (ga_ix_of (j := 16) rfl (by decide) (by decide)) ?_
    refine g_ldc (nx := 402) hX (-1000000) dX11_tallies_400 rfl kX11_167 ?_
    refine g_icmp_eq (nx := 405) hX 409 dX11_tallies_402 (by decide) rfl (fun h402 => ?_) (fun h402 => ?_)
    · rw [f16] at h402
      have hfn : fi = none := by
        cases hs : fi with
        | none => rfl
        | some x => rw [hs] at h402; exact absurd h402 (hz2 x hs)
      refine g_iconst (nx := 410) hX 0 dX11_tallies_409 rfl (by decide) ?_
      refine g_istore (nx := 412) hX 4 dX11_tallies_410 rfl rfl ?_
      refine g_aload_n (nx := 413) hX 0 dX11_tallies_412 rfl rfl rfl ?_
      refine g_getfield (nx := 416) hX dX11_tallies_413 rfl fX11_65 (ga_dn hn rfl) rfl rfl ?_
      refine g_bipush (nx := 418) hX 16 dX11_tallies_416 rfl (by decide) ?_
      refine g_iaload (nx := 419) hX dX11_tallies_418 rfl (ga_dn hn rfl) rfl (ga_ix_of (j := 16) rfl (by decide) (by decide)) ?_
      refine g_aload_n (nx := 420) hX 0 dX11_tallies_419 rfl rfl rfl ?_
      refine g_getfield (nx := 423) hX dX11_tallies_420 rfl fX11_65 (ga_dn hn rfl) rfl rfl ?_
      refine g_bipush (nx := 425) hX 15 dX11_tallies_423 rfl (by decide) ?_
      refine g_iaload (nx := 426) hX dX11_tallies_425 rfl (ga_dn hn rfl) rfl (ga_ix_of (j := 15) rfl (by decide) (by decide)) ?_
      refine g_isub (nx := 427) hX dX11_tallies_426 rfl ?_
      refine g_iload_n (nx := 428) hX 3 dX11_tallies_427 rfl rfl rfl ?_
      refine g_isub (nx := 429) hX dX11_tallies_428 rfl ?_
      refine g_istore (nx := 431) hX 5 dX11_tallies_429 rfl rfl ?_
      refine g_iload (nx := 433) hX 5 dX11_tallies_431 rfl rfl ?_
      refine g_if_ge (nx := 436) hX 440 dX11_tallies_433 (by decide) rfl (fun h433 => ?_) (fun h433 => ?_)
      · refine g_iload (nx := 442) hX 5 dX11_tallies_440 rfl rfl ?_
        refine g_istore (nx := 444) hX 5 dX11_tallies_442 rfl rfl ?_
        exact nob (Or.inr hfn) _
      · refine g_iconst (nx := 437) hX 0 dX11_tallies_436 rfl (by decide) ?_
        refine g_goto (nx := 442) hX dX11_tallies_437 (by decide) ?_
        refine g_istore (nx := 444) hX 5 dX11_tallies_442 rfl rfl ?_
        exact nob (Or.inr hfn) _
    · rw [f16] at h402
      obtain ⟨z, hz'⟩ : ∃ z, fi = some z := by
        cases hs : fi with
        | none => rw [hs] at h402; exact absurd rfl h402
        | some x => exact ⟨x, rfl⟩
      refine g_iconst (nx := 406) hX 1 dX11_tallies_405 rfl (by decide) ?_
      refine g_goto (nx := 410) hX dX11_tallies_406 (by decide) ?_
      refine g_istore (nx := 412) hX 4 dX11_tallies_410 rfl rfl ?_
      refine g_aload_n (nx := 413) hX 0 dX11_tallies_412 rfl rfl rfl ?_
      refine g_getfield (nx := 416) hX dX11_tallies_413 rfl fX11_65 (ga_dn hn rfl) rfl rfl ?_
      refine g_bipush (nx := 418) hX 16 dX11_tallies_416 rfl (by decide) ?_
      refine g_iaload (nx := 419) hX dX11_tallies_418 rfl (ga_dn hn rfl) rfl (ga_ix_of (j := 16) rfl (by decide) (by decide)) ?_
      refine g_aload_n (nx := 420) hX 0 dX11_tallies_419 rfl rfl rfl ?_
      refine g_getfield (nx := 423) hX dX11_tallies_420 rfl fX11_65 (ga_dn hn rfl) rfl rfl ?_
      refine g_bipush (nx := 425) hX 15 dX11_tallies_423 rfl (by decide) ?_
      refine g_iaload (nx := 426) hX dX11_tallies_425 rfl (ga_dn hn rfl) rfl (ga_ix_of (j := 15) rfl (by decide) (by decide)) ?_
      rw [f15, f16, show y_g s = x by rw [hx]; rfl, show y_g fi = z by rw [hz']; rfl]
      refine g_isub (nx := 427) hX dX11_tallies_426 rfl ?_
      refine g_iload_n (nx := 428) hX 3 dX11_tallies_427 rfl rfl rfl ?_
      refine g_isub (nx := 429) hX dX11_tallies_428 rfl ?_
      refine g_istore (nx := 431) hX 5 dX11_tallies_429 rfl rfl ?_
      refine g_iload (nx := 433) hX 5 dX11_tallies_431 rfl rfl ?_
      refine g_if_ge (nx := 436) hX 440 dX11_tallies_433 (by decide) rfl (fun h433 => ?_) (fun h433 => ?_)
      · refine g_iload (nx := 442) hX 5 dX11_tallies_440 rfl rfl ?_
        refine g_istore (nx := 444) hX 5 dX11_tallies_442 rfl rfl ?_
        exact bothc x z hx hz' _ (y_mx_p h433).symm
      · refine g_iconst (nx := 437) hX 0 dX11_tallies_436 rfl (by decide) ?_
        refine g_goto (nx := 442) hX dX11_tallies_437 (by decide) ?_
        refine g_istore (nx := 444) hX 5 dX11_tallies_442 rfl rfl ?_
        exact bothc x z hx hz' _ (y_mx_n h433).symm
end
