/-! ===== the tally of the reference, whole ===== -/
/-- the counts of the fences among the others -/
def m_w (v : Nat → Int32) (q : Nat → Nat) : Nat → Int32 := fun j => if (2 ≤ j ∧ j ≤ 7) ∨ j = 11 then nI (q j) else v j
theorem m_w0 (T : y_T) : m_w (m_t T) (fun _ => 0) = m_t T := by
  obtain ⟨mr, rg, kn, lk, rt, s, fi, hd, sn⟩ := T
  funext j
  unfold m_w
  split
  · unfold m_t
    dsimp only
    rw [if_neg (by omega), if_neg (by omega), if_neg (by omega), if_neg (by omega), if_neg (by omega), if_neg (by omega), if_neg (by omega)]; rfl
  · rfl
def m_n (v : Nat → Int32) (x2 x3 x4 x5 x6 x7 x11 : Int32) : Nat → Int32 :=
  let v2 := upd v 2 (v 2 + x2)
  let v3 := upd v2 3 (v2 3 + x3)
  let v4 := upd v3 4 (v3 4 + x4)
  let v5 := upd v4 5 (v4 5 + x5)
  let v6 := upd v5 6 (v5 6 + x6)
  let v7 := upd v6 7 (v6 7 + x7)
  upd v7 11 (v7 11 + x11)
theorem m_n_eq {w : Nat → Int32} {q : Nat → Nat} {a b c d : Nat} {x5 x6 x7 x11 : Int32} (h5 : x5 = nI (if 1 ≤ a then 1 else 0)) (h6 : x6 = nI (if 2 ≤ a then 1 else 0)) (h7 : x7 = nI (if 3 ≤ a then 1 else 0)) (h11 : x11 = nI (if a + b + c + d = 0 then 1 else 0)) :
    m_n (m_w w q) (nI a) (nI b) (nI c) x5 x6 x7 x11 = m_w w (y_fq q a b c d) := by
  rw [h5, h6, h7, h11]
  funext j
  unfold m_n m_w y_fq upd
  simp only []
  by_cases e2 : j = 2
  · subst e2; simp [nI_add]
  by_cases e3 : j = 3
  · subst e3; simp [nI_add]
  by_cases e4 : j = 4
  · subst e4; simp [nI_add]
  by_cases e5 : j = 5
  · subst e5; simp [nI_add]
  by_cases e6 : j = 6
  · subst e6; simp [nI_add]
  by_cases e7 : j = 7
  · subst e7; simp [nI_add]
  by_cases e11 : j = 11
  · subst e11; simp [nI_add]
  simp [e2, e3, e4, e5, e6, e7, e11]
/-- no start and no finish is the number that stands for none -/
def y_nz (s : Option Int32) : Prop := ∀ x, s = some x → ¬ x = -1000000
section
variable {E : ga_E} {X : ga_X} {n : Nat} {c0 c1 c2 c3 c4 c5 c6 c7 c8 c9 c10 c11 c12 c13 c14 c15 c16 c17 c18 c19 c20 c21 c22 c23 c24 c25 c26 c27 c28 c29 c30 m79 m80 m81 m82 m83 m84 m85 m86 m87 m88 m89 m90 m91 m92 m93 m94 m95 m96 m97 m98 m99 m100 m101 m102 m103 m104 m105 : ga_C} {L1 L2 : List ga_C} {f : Nat → ga_C} {o_tp o_rd o_fe o_em o_sp o_ac o_td o_sm o_tt o_at o_sz o_fk o_fp o_nw o_md o_nt o_pl o_op d_at d_tk d_ta d_fd d_fa : Int32} {d_tv : Int64} {d_rl : Value}
variable {mt ou ah mw mq mf ma mb ms_ : Nat → Int32} {em sp : Int32} {fn r t an : Nat}
variable {mr rg : Int32} {kn lk rt : Nat} {s fi : Option Int32} {hd : Int32} {sn : Nat → Nat → Nat} {w : Nat → Int32} {q : Nat → Nat}
set_option maxHeartbeats 4000000 in
theorem c_X11_fence_ {k a b c d : Nat} (hn : 106 ≤ n) (hk : k < 30) (ha : a ≤ 400) (hb : b ≤ 400) (hc : c ≤ 400) (hd : d ≤ 400) (hw : w 15 = y_g s) (hz : y_nz s) : ga_Mx E 0 yX11_fence_ cX11_fence_ 6 none 0 0 [.ref 79, .int (nI k), .int (nI a), .int (nI b), .int (nI c), .int (nI d)] (n, L1, ((m_O o_tp o_rd o_fe o_em o_sp o_ac o_td o_sm o_tt o_at o_sz o_fk o_fp o_nw o_md o_nt o_pl o_op) :: m80 :: m81 :: m82 :: ga_i 30 ou :: m84 :: m85 :: m86 :: m87 :: m88 :: m89 :: m90 :: ga_i 18 (m_w w q) :: L2), f) none (n, L1, ((m_O o_tp o_rd o_fe o_em o_sp o_ac o_td o_sm o_tt o_at o_sz o_fk o_fp o_nw o_md o_nt o_pl o_op) :: m80 :: m81 :: m82 :: ga_i 30 ou :: m84 :: m85 :: m86 :: m87 :: m88 :: m89 :: m90 :: ga_i 18 (m_w w (if y_cnt ou s k = true then y_fq q a b c d else q)) :: L2), f) := by
  have h15 : m_w w q 15 = y_g s := by unfold m_w; rw [if_neg (by omega)]; exact hw
  have hsum : nI a + nI b + nI c + nI d = nI (a + b + c + d) := by rw [nI_add, nI_add, nI_add]
  refine ga_Mt.of (by decide) rfl (fun X hX hP => ?_)
  refine g_less [some (.ref 79), some (.int (nI k)), some (.int (nI a)), some (.int (nI b)), some (.int (nI c)), some (.int (nI d))] ⟨rfl, rfl, rfl, rfl, rfl, rfl, trivial⟩ ?_
  have t39 : y_cnt ou s k = true → ga_G E X 0 0 39 [some (.ref 79), some (.int (nI k)), some (.int (nI a)), some (.int (nI b)), some (.int (nI c)), some (.int (nI d))] [] (n, L1, ((m_O o_tp o_rd o_fe o_em o_sp o_ac o_td o_sm o_tt o_at o_sz o_fk o_fp o_nw o_md o_nt o_pl o_op) :: m80 :: m81 :: m82 :: ga_i 30 ou :: m84 :: m85 :: m86 :: m87 :: m88 :: m89 :: m90 :: ga_i 18 (m_w w q) :: L2), f) := by
    intro hy
    rw [if_pos hy] at hP
    refine g_aload_n (nx := 40) hX 0 dX11_fence__39 rfl rfl rfl ?_
    refine g_getfield (nx := 43) hX dX11_fence__40 rfl fX11_65 (ga_dn hn rfl) rfl rfl ?_
    refine g_iconst (nx := 44) hX 2 dX11_fence__43 rfl (by decide) ?_
    refine g_dup2 (nx := 45) hX dX11_fence__44 rfl rfl rfl ?_
    refine g_iaload (nx := 46) hX dX11_fence__45 rfl (ga_dn hn rfl) rfl (ga_ix_of (j := 2) rfl (by decide) (by decide)) ?_
    refine g_iload_n (nx := 47) hX 2 dX11_fence__46 rfl rfl rfl ?_
    refine g_iadd (nx := 48) hX dX11_fence__47 rfl ?_
    refine g_iastore (nx := 49) hX dX11_fence__48 rfl (ga_dn hn rfl) rfl (ga_ix_of (j := 2) rfl (by decide) (by decide)) ?_
    refine g_aload_n (nx := 50) hX 0 dX11_fence__49 rfl rfl rfl ?_
    refine g_getfield (nx := 53) hX dX11_fence__50 rfl fX11_65 (ga_dn hn rfl) rfl rfl ?_
    refine g_iconst (nx := 54) hX 3 dX11_fence__53 rfl (by decide) ?_
    refine g_dup2 (nx := 55) hX dX11_fence__54 rfl rfl rfl ?_
    refine g_iaload (nx := 56) hX dX11_fence__55 rfl (ga_dn hn rfl) rfl (ga_ix_of (j := 3) rfl (by decide) (by decide)) ?_
    refine g_iload_n (nx := 57) hX 3 dX11_fence__56 rfl rfl rfl ?_
    refine g_iadd (nx := 58) hX dX11_fence__57 rfl ?_
    refine g_iastore (nx := 59) hX dX11_fence__58 rfl (ga_dn hn rfl) rfl (ga_ix_of (j := 3) rfl (by decide) (by decide)) ?_
    refine g_aload_n (nx := 60) hX 0 dX11_fence__59 rfl rfl rfl ?_
    refine g_getfield (nx := 63) hX dX11_fence__60 rfl fX11_65 (ga_dn hn rfl) rfl rfl ?_
    refine g_iconst (nx := 64) hX 4 dX11_fence__63 rfl (by decide) ?_
    refine g_dup2 (nx := 65) hX dX11_fence__64 rfl rfl rfl ?_
    refine g_iaload (nx := 66) hX dX11_fence__65 rfl (ga_dn hn rfl) rfl (ga_ix_of (j := 4) rfl (by decide) (by decide)) ?_
    refine g_iload (nx := 68) hX 4 dX11_fence__66 rfl rfl ?_
    refine g_iadd (nx := 69) hX dX11_fence__68 rfl ?_
    refine g_iastore (nx := 70) hX dX11_fence__69 rfl (ga_dn hn rfl) rfl (ga_ix_of (j := 4) rfl (by decide) (by decide)) ?_
    refine g_aload_n (nx := 71) hX 0 dX11_fence__70 rfl rfl rfl ?_
    refine g_getfield (nx := 74) hX dX11_fence__71 rfl fX11_65 (ga_dn hn rfl) rfl rfl ?_
    refine g_iconst (nx := 75) hX 5 dX11_fence__74 rfl (by decide) ?_
    refine g_dup2 (nx := 76) hX dX11_fence__75 rfl rfl rfl ?_
    refine g_iaload (nx := 77) hX dX11_fence__76 rfl (ga_dn hn rfl) rfl (ga_ix_of (j := 5) rfl (by decide) (by decide)) ?_
    refine g_iload_n (nx := 78) hX 2 dX11_fence__77 rfl rfl rfl ?_
    refine g_if_le (nx := 81) hX 85 dX11_fence__78 (by decide) rfl (fun h78 => ?_) (fun h78 => ?_)
    · have g5 : (0 : Int32) = nI (if 1 ≤ a then 1 else 0) := by rw [if_neg (by have := (nI_leI (b := 0) (by omega) (by omega)).mp h78; omega)]; rfl
      refine g_iconst (nx := 86) hX 0 dX11_fence__85 rfl (by decide) ?_
      refine g_iadd (nx := 87) hX dX11_fence__86 rfl ?_
      refine g_iastore (nx := 88) hX dX11_fence__87 rfl (ga_dn hn rfl) rfl (ga_ix_of (j := 5) rfl (by decide) (by decide)) ?_
      refine g_aload_n (nx := 89) hX 0 dX11_fence__88 rfl rfl rfl ?_
      refine g_getfield (nx := 92) hX dX11_fence__89 rfl fX11_65 (ga_dn hn rfl) rfl rfl ?_
      refine g_bipush (nx := 94) hX 6 dX11_fence__92 rfl (by decide) ?_
      refine g_dup2 (nx := 95) hX dX11_fence__94 rfl rfl rfl ?_
      refine g_iaload (nx := 96) hX dX11_fence__95 rfl (ga_dn hn rfl) rfl (ga_ix_of (j := 6) rfl (by decide) (by decide)) ?_
      refine g_iload_n (nx := 97) hX 2 dX11_fence__96 rfl rfl rfl ?_
      refine g_iconst (nx := 98) hX 1 dX11_fence__97 rfl (by decide) ?_
      refine g_icmp_le (nx := 101) hX 105 dX11_fence__98 (by decide) rfl (fun h98 => ?_) (fun h98 => ?_)
      · have g6 : (0 : Int32) = nI (if 2 ≤ a then 1 else 0) := by rw [if_neg (by have := (nI_leI (b := 1) (by omega) (by omega)).mp h98; omega)]; rfl
        refine g_iconst (nx := 106) hX 0 dX11_fence__105 rfl (by decide) ?_
        refine g_iadd (nx := 107) hX dX11_fence__106 rfl ?_
        refine g_iastore (nx := 108) hX dX11_fence__107 rfl (ga_dn hn rfl) rfl (ga_ix_of (j := 6) rfl (by decide) (by decide)) ?_
        refine g_aload_n (nx := 109) hX 0 dX11_fence__108 rfl rfl rfl ?_
        refine g_getfield (nx := 112) hX dX11_fence__109 rfl fX11_65 (ga_dn hn rfl) rfl rfl ?_
        refine g_bipush (nx := 114) hX 7 dX11_fence__112 rfl (by decide) ?_
        refine g_dup2 (nx := 115) hX dX11_fence__114 rfl rfl rfl ?_
        refine g_iaload (nx := 116) hX dX11_fence__115 rfl (ga_dn hn rfl) rfl (ga_ix_of (j := 7) rfl (by decide) (by decide)) ?_
        refine g_iload_n (nx := 117) hX 2 dX11_fence__116 rfl rfl rfl ?_
        refine g_iconst (nx := 118) hX 2 dX11_fence__117 rfl (by decide) ?_
        refine g_icmp_le (nx := 121) hX 125 dX11_fence__118 (by decide) rfl (fun h118 => ?_) (fun h118 => ?_)
        · have g7 : (0 : Int32) = nI (if 3 ≤ a then 1 else 0) := by rw [if_neg (by have := (nI_leI (b := 2) (by omega) (by omega)).mp h118; omega)]; rfl
          refine g_iconst (nx := 126) hX 0 dX11_fence__125 rfl (by decide) ?_
          refine g_iadd (nx := 127) hX dX11_fence__126 rfl ?_
          refine g_iastore (nx := 128) hX dX11_fence__127 rfl (ga_dn hn rfl) rfl (ga_ix_of (j := 7) rfl (by decide) (by decide)) ?_
          refine g_aload_n (nx := 129) hX 0 dX11_fence__128 rfl rfl rfl ?_
          refine g_getfield (nx := 132) hX dX11_fence__129 rfl fX11_65 (ga_dn hn rfl) rfl rfl ?_
          refine g_bipush (nx := 134) hX 11 dX11_fence__132 rfl (by decide) ?_
          refine g_dup2 (nx := 135) hX dX11_fence__134 rfl rfl rfl ?_
          refine g_iaload (nx := 136) hX dX11_fence__135 rfl (ga_dn hn rfl) rfl (ga_ix_of (j := 11) rfl (by decide) (by decide)) ?_
          refine g_iload_n (nx := 137) hX 2 dX11_fence__136 rfl rfl rfl ?_
          refine g_iload_n (nx := 138) hX 3 dX11_fence__137 rfl rfl rfl ?_
          refine g_iadd (nx := 139) hX dX11_fence__138 rfl ?_
          refine g_iload (nx := 141) hX 4 dX11_fence__139 rfl rfl ?_
          refine g_iadd (nx := 142) hX dX11_fence__141 rfl ?_
          refine g_iload (nx := 144) hX 5 dX11_fence__142 rfl rfl ?_
          refine g_iadd (nx := 145) hX dX11_fence__144 rfl ?_
          refine g_if_ne (nx := 148) hX 152 dX11_fence__145 (by decide) rfl (fun h145 => ?_) (fun h145 => ?_)
          · have g11 : (0 : Int32) = nI (if a + b + c + d = 0 then 1 else 0) := by rw [if_neg (fun q => h145 (by rw [hsum, q]; rfl))]; rfl
            refine g_iconst (nx := 153) hX 0 dX11_fence__152 rfl (by decide) ?_
            refine g_iadd (nx := 154) hX dX11_fence__153 rfl ?_
            refine g_iastore (nx := 155) hX dX11_fence__154 rfl (ga_dn hn rfl) rfl (ga_ix_of (j := 11) rfl (by decide) (by decide)) ?_
            exact g_return hX hP dX11_fence__155 (Nat.le_of_ble_eq_true rfl) (Nat.le_of_ble_eq_true rfl) ⟨rfl, by rw [← m_n_eq g5 g6 g7 g11]; rfl⟩
          · have g11 : (1 : Int32) = nI (if a + b + c + d = 0 then 1 else 0) := by rw [if_pos (nI_inj (b := 0) (hsum.symm.trans h145) (by omega) (by omega))]; rfl
            refine g_iconst (nx := 149) hX 1 dX11_fence__148 rfl (by decide) ?_
            refine g_goto (nx := 153) hX dX11_fence__149 (by decide) ?_
            refine g_iadd (nx := 154) hX dX11_fence__153 rfl ?_
            refine g_iastore (nx := 155) hX dX11_fence__154 rfl (ga_dn hn rfl) rfl (ga_ix_of (j := 11) rfl (by decide) (by decide)) ?_
            exact g_return hX hP dX11_fence__155 (Nat.le_of_ble_eq_true rfl) (Nat.le_of_ble_eq_true rfl) ⟨rfl, by rw [← m_n_eq g5 g6 g7 g11]; rfl⟩
        · have g7 : (1 : Int32) = nI (if 3 ≤ a then 1 else 0) := by rw [if_pos (show 3 ≤ a from Nat.lt_of_not_le (fun q => h118 (nI_le (b := 2) q (by omega))))]; rfl
          refine g_iconst (nx := 122) hX 1 dX11_fence__121 rfl (by decide) ?_
          refine g_goto (nx := 126) hX dX11_fence__122 (by decide) ?_
          refine g_iadd (nx := 127) hX dX11_fence__126 rfl ?_
          refine g_iastore (nx := 128) hX dX11_fence__127 rfl (ga_dn hn rfl) rfl (ga_ix_of (j := 7) rfl (by decide) (by decide)) ?_
          refine g_aload_n (nx := 129) hX 0 dX11_fence__128 rfl rfl rfl ?_
          refine g_getfield (nx := 132) hX dX11_fence__129 rfl fX11_65 (ga_dn hn rfl) rfl rfl ?_
          refine g_bipush (nx := 134) hX 11 dX11_fence__132 rfl (by decide) ?_
          refine g_dup2 (nx := 135) hX dX11_fence__134 rfl rfl rfl ?_
          refine g_iaload (nx := 136) hX dX11_fence__135 rfl (ga_dn hn rfl) rfl (ga_ix_of (j := 11) rfl (by decide) (by decide)) ?_
          refine g_iload_n (nx := 137) hX 2 dX11_fence__136 rfl rfl rfl ?_
          refine g_iload_n (nx := 138) hX 3 dX11_fence__137 rfl rfl rfl ?_
          refine g_iadd (nx := 139) hX dX11_fence__138 rfl ?_
          refine g_iload (nx := 141) hX 4 dX11_fence__139 rfl rfl ?_
          refine g_iadd (nx := 142) hX dX11_fence__141 rfl ?_
          refine g_iload (nx := 144) hX 5 dX11_fence__142 rfl rfl ?_
          refine g_iadd (nx := 145) hX dX11_fence__144 rfl ?_
          refine g_if_ne (nx := 148) hX 152 dX11_fence__145 (by decide) rfl (fun h145 => ?_) (fun h145 => ?_)
          · have g11 : (0 : Int32) = nI (if a + b + c + d = 0 then 1 else 0) := by rw [if_neg (fun q => h145 (by rw [hsum, q]; rfl))]; rfl
            refine g_iconst (nx := 153) hX 0 dX11_fence__152 rfl (by decide) ?_
            refine g_iadd (nx := 154) hX dX11_fence__153 rfl ?_
            refine g_iastore (nx := 155) hX dX11_fence__154 rfl (ga_dn hn rfl) rfl (ga_ix_of (j := 11) rfl (by decide) (by decide)) ?_
            exact g_return hX hP dX11_fence__155 (Nat.le_of_ble_eq_true rfl) (Nat.le_of_ble_eq_true rfl) ⟨rfl, by rw [← m_n_eq g5 g6 g7 g11]; rfl⟩
          · have g11 : (1 : Int32) = nI (if a + b + c + d = 0 then 1 else 0) := by rw [if_pos (nI_inj (b := 0) (hsum.symm.trans h145) (by omega) (by omega))]; rfl
            refine g_iconst (nx := 149) hX 1 dX11_fence__148 rfl (by decide) ?_
            refine g_goto (nx := 153) hX dX11_fence__149 (by decide) ?_
            refine g_iadd (nx := 154) hX dX11_fence__153 rfl ?_
            refine g_iastore (nx := 155) hX dX11_fence__154 rfl (ga_dn hn rfl) rfl (ga_ix_of (j := 11) rfl (by decide) (by decide)) ?_
            exact g_return hX hP dX11_fence__155 (Nat.le_of_ble_eq_true rfl) (Nat.le_of_ble_eq_true rfl) ⟨rfl, by rw [← m_n_eq g5 g6 g7 g11]; rfl⟩
      · have g6 : (1 : Int32) = nI (if 2 ≤ a then 1 else 0) := by rw [if_pos (show 2 ≤ a from Nat.lt_of_not_le (fun q => h98 (nI_le (b := 1) q (by omega))))]; rfl
        refine g_iconst (nx := 102) hX 1 dX11_fence__101 rfl (by decide) ?_
        refine g_goto (nx := 106) hX dX11_fence__102 (by decide) ?_
        refine g_iadd (nx := 107) hX dX11_fence__106 rfl ?_
        refine g_iastore (nx := 108) hX dX11_fence__107 rfl (ga_dn hn rfl) rfl (ga_ix_of (j := 6) rfl (by decide) (by decide)) ?_
        refine g_aload_n (nx := 109) hX 0 dX11_fence__108 rfl rfl rfl ?_
        refine g_getfield (nx := 112) hX dX11_fence__109 rfl fX11_65 (ga_dn hn rfl) rfl rfl ?_
        refine g_bipush (nx := 114) hX 7 dX11_fence__112 rfl (by decide) ?_
        refine g_dup2 (nx := 115) hX dX11_fence__114 rfl rfl rfl ?_
        refine g_iaload (nx := 116) hX dX11_fence__115 rfl (ga_dn hn rfl) rfl (ga_ix_of (j := 7) rfl (by decide) (by decide)) ?_
        refine g_iload_n (nx := 117) hX 2 dX11_fence__116 rfl rfl rfl ?_
        refine g_iconst (nx := 118) hX 2 dX11_fence__117 rfl (by decide) ?_
        refine g_icmp_le (nx := 121) hX 125 dX11_fence__118 (by decide) rfl (fun h118 => ?_) (fun h118 => ?_)
        · have g7 : (0 : Int32) = nI (if 3 ≤ a then 1 else 0) := by rw [if_neg (by have := (nI_leI (b := 2) (by omega) (by omega)).mp h118; omega)]; rfl
          refine g_iconst (nx := 126) hX 0 dX11_fence__125 rfl (by decide) ?_
          refine g_iadd (nx := 127) hX dX11_fence__126 rfl ?_
          refine g_iastore (nx := 128) hX dX11_fence__127 rfl (ga_dn hn rfl) rfl (ga_ix_of (j := 7) rfl (by decide) (by decide)) ?_
          refine g_aload_n (nx := 129) hX 0 dX11_fence__128 rfl rfl rfl ?_
          refine g_getfield (nx := 132) hX dX11_fence__129 rfl fX11_65 (ga_dn hn rfl) rfl rfl ?_
          refine g_bipush (nx := 134) hX 11 dX11_fence__132 rfl (by decide) ?_
          refine g_dup2 (nx := 135) hX dX11_fence__134 rfl rfl rfl ?_
          refine g_iaload (nx := 136) hX dX11_fence__135 rfl (ga_dn hn rfl) rfl (ga_ix_of (j := 11) rfl (by decide) (by decide)) ?_
          refine g_iload_n (nx := 137) hX 2 dX11_fence__136 rfl rfl rfl ?_
          refine g_iload_n (nx := 138) hX 3 dX11_fence__137 rfl rfl rfl ?_
          refine g_iadd (nx := 139) hX dX11_fence__138 rfl ?_
          refine g_iload (nx := 141) hX 4 dX11_fence__139 rfl rfl ?_
          refine g_iadd (nx := 142) hX dX11_fence__141 rfl ?_
          refine g_iload (nx := 144) hX 5 dX11_fence__142 rfl rfl ?_
          refine g_iadd (nx := 145) hX dX11_fence__144 rfl ?_
          refine g_if_ne (nx := 148) hX 152 dX11_fence__145 (by decide) rfl (fun h145 => ?_) (fun h145 => ?_)
          · have g11 : (0 : Int32) = nI (if a + b + c + d = 0 then 1 else 0) := by rw [if_neg (fun q => h145 (by rw [hsum, q]; rfl))]; rfl
            refine g_iconst (nx := 153) hX 0 dX11_fence__152 rfl (by decide) ?_
            refine g_iadd (nx := 154) hX dX11_fence__153 rfl ?_
            refine g_iastore (nx := 155) hX dX11_fence__154 rfl (ga_dn hn rfl) rfl (ga_ix_of (j := 11) rfl (by decide) (by decide)) ?_
            exact g_return hX hP dX11_fence__155 (Nat.le_of_ble_eq_true rfl) (Nat.le_of_ble_eq_true rfl) ⟨rfl, by rw [← m_n_eq g5 g6 g7 g11]; rfl⟩
          · have g11 : (1 : Int32) = nI (if a + b + c + d = 0 then 1 else 0) := by rw [if_pos (nI_inj (b := 0) (hsum.symm.trans h145) (by omega) (by omega))]; rfl
            refine g_iconst (nx := 149) hX 1 dX11_fence__148 rfl (by decide) ?_
            refine g_goto (nx := 153) hX dX11_fence__149 (by decide) ?_
            refine g_iadd (nx := 154) hX dX11_fence__153 rfl ?_
            refine g_iastore (nx := 155) hX dX11_fence__154 rfl (ga_dn hn rfl) rfl (ga_ix_of (j := 11) rfl (by decide) (by decide)) ?_
            exact g_return hX hP dX11_fence__155 (Nat.le_of_ble_eq_true rfl) (Nat.le_of_ble_eq_true rfl) ⟨rfl, by rw [← m_n_eq g5 g6 g7 g11]; rfl⟩
        · have g7 : (1 : Int32) = nI (if 3 ≤ a then 1 else 0) := by rw [if_pos (show 3 ≤ a from Nat.lt_of_not_le (fun q => h118 (nI_le (b := 2) q (by omega))))]; rfl
          refine g_iconst (nx := 122) hX 1 dX11_fence__121 rfl (by decide) ?_
          refine g_goto (nx := 126) hX dX11_fence__122 (by decide) ?_
          refine g_iadd (nx := 127) hX dX11_fence__126 rfl ?_
          refine g_iastore (nx := 128) hX dX11_fence__127 rfl (ga_dn hn rfl) rfl (ga_ix_of (j := 7) rfl (by decide) (by decide)) ?_
          refine g_aload_n (nx := 129) hX 0 dX11_fence__128 rfl rfl rfl ?_
          refine g_getfield (nx := 132) hX dX11_fence__129 rfl fX11_65 (ga_dn hn rfl) rfl rfl ?_
          refine g_bipush (nx := 134) hX 11 dX11_fence__132 rfl (by decide) ?_
          refine g_dup2 (nx := 135) hX dX11_fence__134 rfl rfl rfl ?_
          refine g_iaload (nx := 136) hX dX11_fence__135 rfl (ga_dn hn rfl) rfl (ga_ix_of (j := 11) rfl (by decide) (by decide)) ?_
          refine g_iload_n (nx := 137) hX 2 dX11_fence__136 rfl rfl rfl ?_
          refine g_iload_n (nx := 138) hX 3 dX11_fence__137 rfl rfl rfl ?_
          refine g_iadd (nx := 139) hX dX11_fence__138 rfl ?_
          refine g_iload (nx := 141) hX 4 dX11_fence__139 rfl rfl ?_
          refine g_iadd (nx := 142) hX dX11_fence__141 rfl ?_
          refine g_iload (nx := 144) hX 5 dX11_fence__142 rfl rfl ?_
          refine g_iadd (nx := 145) hX dX11_fence__144 rfl ?_
          refine g_if_ne (nx := 148) hX 152 dX11_fence__145 (by decide) rfl (fun h145 => ?_) (fun h145 => ?_)
          · have g11 : (0 : Int32) = nI (if a + b + c + d = 0 then 1 else 0) := by rw [if_neg (fun q => h145 (by rw [hsum, q]; rfl))]; rfl
            refine g_iconst (nx := 153) hX 0 dX11_fence__152 rfl (by decide) ?_
            refine g_iadd (nx := 154) hX dX11_fence__153 rfl ?_
            refine g_iastore (nx := 155) hX dX11_fence__154 rfl (ga_dn hn rfl) rfl (ga_ix_of (j := 11) rfl (by decide) (by decide)) ?_
            exact g_return hX hP dX11_fence__155 (Nat.le_of_ble_eq_true rfl) (Nat.le_of_ble_eq_true rfl) ⟨rfl, by rw [← m_n_eq g5 g6 g7 g11]; rfl⟩
          · have g11 : (1 : Int32) = nI (if a + b + c + d = 0 then 1 else 0) := by rw [if_pos (nI_inj (b := 0) (hsum.symm.trans h145) (by omega) (by omega))]; rfl
            refine g_iconst (nx := 149) hX 1 dX11_fence__148 rfl (by decide) ?_
            refine g_goto (nx := 153) hX dX11_fence__149 (by decide) ?_
            refine g_iadd (nx := 154) hX dX11_fence__153 rfl ?_
            refine g_iastore (nx := 155) hX dX11_fence__154 rfl (ga_dn hn rfl) rfl (ga_ix_of (j := 11) rfl (by decide) (by decide)) ?_
            exact g_return hX hP dX11_fence__155 (Nat.le_of_ble_eq_true rfl) (Nat.le_of_ble_eq_true rfl) ⟨rfl, by rw [← m_n_eq g5 g6 g7 g11]; rfl⟩
    · have g5 : (1 : Int32) = nI (if 1 ≤ a then 1 else 0) := by rw [if_pos (show 1 ≤ a from Nat.lt_of_not_le (fun q => h78 (nI_le (b := 0) q (by omega))))]; rfl
      refine g_iconst (nx := 82) hX 1 dX11_fence__81 rfl (by decide) ?_
      refine g_goto (nx := 86) hX dX11_fence__82 (by decide) ?_
      refine g_iadd (nx := 87) hX dX11_fence__86 rfl ?_
      refine g_iastore (nx := 88) hX dX11_fence__87 rfl (ga_dn hn rfl) rfl (ga_ix_of (j := 5) rfl (by decide) (by decide)) ?_
      refine g_aload_n (nx := 89) hX 0 dX11_fence__88 rfl rfl rfl ?_
      refine g_getfield (nx := 92) hX dX11_fence__89 rfl fX11_65 (ga_dn hn rfl) rfl rfl ?_
      refine g_bipush (nx := 94) hX 6 dX11_fence__92 rfl (by decide) ?_
      refine g_dup2 (nx := 95) hX dX11_fence__94 rfl rfl rfl ?_
      refine g_iaload (nx := 96) hX dX11_fence__95 rfl (ga_dn hn rfl) rfl (ga_ix_of (j := 6) rfl (by decide) (by decide)) ?_
      refine g_iload_n (nx := 97) hX 2 dX11_fence__96 rfl rfl rfl ?_
      refine g_iconst (nx := 98) hX 1 dX11_fence__97 rfl (by decide) ?_
      refine g_icmp_le (nx := 101) hX 105 dX11_fence__98 (by decide) rfl (fun h98 => ?_) (fun h98 => ?_)
      · have g6 : (0 : Int32) = nI (if 2 ≤ a then 1 else 0) := by rw [if_neg (by have := (nI_leI (b := 1) (by omega) (by omega)).mp h98; omega)]; rfl
        refine g_iconst (nx := 106) hX 0 dX11_fence__105 rfl (by decide) ?_
        refine g_iadd (nx := 107) hX dX11_fence__106 rfl ?_
        refine g_iastore (nx := 108) hX dX11_fence__107 rfl (ga_dn hn rfl) rfl (ga_ix_of (j := 6) rfl (by decide) (by decide)) ?_
        refine g_aload_n (nx := 109) hX 0 dX11_fence__108 rfl rfl rfl ?_
        refine g_getfield (nx := 112) hX dX11_fence__109 rfl fX11_65 (ga_dn hn rfl) rfl rfl ?_
        refine g_bipush (nx := 114) hX 7 dX11_fence__112 rfl (by decide) ?_
        refine g_dup2 (nx := 115) hX dX11_fence__114 rfl rfl rfl ?_
        refine g_iaload (nx := 116) hX dX11_fence__115 rfl (ga_dn hn rfl) rfl (ga_ix_of (j := 7) rfl (by decide) (by decide)) ?_
        refine g_iload_n (nx := 117) hX 2 dX11_fence__116 rfl rfl rfl ?_
        refine g_iconst (nx := 118) hX 2 dX11_fence__117 rfl (by decide) ?_
        refine g_icmp_le (nx := 121) hX 125 dX11_fence__118 (by decide) rfl (fun h118 => ?_) (fun h118 => ?_)
        · have g7 : (0 : Int32) = nI (if 3 ≤ a then 1 else 0) := by rw [if_neg (by have := (nI_leI (b := 2) (by omega) (by omega)).mp h118; omega)]; rfl
          refine g_iconst (nx := 126) hX 0 dX11_fence__125 rfl (by decide) ?_
          refine g_iadd (nx := 127) hX dX11_fence__126 rfl ?_
          refine g_iastore (nx := 128) hX dX11_fence__127 rfl (ga_dn hn rfl) rfl (ga_ix_of (j := 7) rfl (by decide) (by decide)) ?_
          refine g_aload_n (nx := 129) hX 0 dX11_fence__128 rfl rfl rfl ?_
          refine g_getfield (nx := 132) hX dX11_fence__129 rfl fX11_65 (ga_dn hn rfl) rfl rfl ?_
          refine g_bipush (nx := 134) hX 11 dX11_fence__132 rfl (by decide) ?_
          refine g_dup2 (nx := 135) hX dX11_fence__134 rfl rfl rfl ?_
          refine g_iaload (nx := 136) hX dX11_fence__135 rfl (ga_dn hn rfl) rfl (ga_ix_of (j := 11) rfl (by decide) (by decide)) ?_
          refine g_iload_n (nx := 137) hX 2 dX11_fence__136 rfl rfl rfl ?_
          refine g_iload_n (nx := 138) hX 3 dX11_fence__137 rfl rfl rfl ?_
          refine g_iadd (nx := 139) hX dX11_fence__138 rfl ?_
          refine g_iload (nx := 141) hX 4 dX11_fence__139 rfl rfl ?_
          refine g_iadd (nx := 142) hX dX11_fence__141 rfl ?_
          refine g_iload (nx := 144) hX 5 dX11_fence__142 rfl rfl ?_
          refine g_iadd (nx := 145) hX dX11_fence__144 rfl ?_
          refine g_if_ne (nx := 148) hX 152 dX11_fence__145 (by decide) rfl (fun h145 => ?_) (fun h145 => ?_)
          · have g11 : (0 : Int32) = nI (if a + b + c + d = 0 then 1 else 0) := by rw [if_neg (fun q => h145 (by rw [hsum, q]; rfl))]; rfl
            refine g_iconst (nx := 153) hX 0 dX11_fence__152 rfl (by decide) ?_
            refine g_iadd (nx := 154) hX dX11_fence__153 rfl ?_
            refine g_iastore (nx := 155) hX dX11_fence__154 rfl (ga_dn hn rfl) rfl (ga_ix_of (j := 11) rfl (by decide) (by decide)) ?_
            exact g_return hX hP dX11_fence__155 (Nat.le_of_ble_eq_true rfl) (Nat.le_of_ble_eq_true rfl) ⟨rfl, by rw [← m_n_eq g5 g6 g7 g11]; rfl⟩
          · have g11 : (1 : Int32) = nI (if a + b + c + d = 0 then 1 else 0) := by rw [if_pos (nI_inj (b := 0) (hsum.symm.trans h145) (by omega) (by omega))]; rfl
            refine g_iconst (nx := 149) hX 1 dX11_fence__148 rfl (by decide) ?_
            refine g_goto (nx := 153) hX dX11_fence__149 (by decide) ?_
            refine g_iadd (nx := 154) hX dX11_fence__153 rfl ?_
            refine g_iastore (nx := 155) hX dX11_fence__154 rfl (ga_dn hn rfl) rfl (ga_ix_of (j := 11) rfl (by decide) (by decide)) ?_
            exact g_return hX hP dX11_fence__155 (Nat.le_of_ble_eq_true rfl) (Nat.le_of_ble_eq_true rfl) ⟨rfl, by rw [← m_n_eq g5 g6 g7 g11]; rfl⟩
        · have g7 : (1 : Int32) = nI (if 3 ≤ a then 1 else 0) := by rw [if_pos (show 3 ≤ a from Nat.lt_of_not_le (fun q => h118 (nI_le (b := 2) q (by omega))))]; rfl
          refine g_iconst (nx := 122) hX 1 dX11_fence__121 rfl (by decide) ?_
          refine g_goto (nx := 126) hX dX11_fence__122 (by decide) ?_
          refine g_iadd (nx := 127) hX dX11_fence__126 rfl ?_
          refine g_iastore (nx := 128) hX dX11_fence__127 rfl (ga_dn hn rfl) rfl (ga_ix_of (j := 7) rfl (by decide) (by decide)) ?_
          refine g_aload_n (nx := 129) hX 0 dX11_fence__128 rfl rfl rfl ?_
          refine g_getfield (nx := 132) hX dX11_fence__129 rfl fX11_65 (ga_dn hn rfl) rfl rfl ?_
          refine g_bipush (nx := 134) hX 11 dX11_fence__132 rfl (by decide) ?_
          refine g_dup2 (nx := 135) hX dX11_fence__134 rfl rfl rfl ?_
          refine g_iaload (nx := 136) hX dX11_fence__135 rfl (ga_dn hn rfl) rfl (ga_ix_of (j := 11) rfl (by decide) (by decide)) ?_
          refine g_iload_n (nx := 137) hX 2 dX11_fence__136 rfl rfl rfl ?_
          refine g_iload_n (nx := 138) hX 3 dX11_fence__137 rfl rfl rfl ?_
          refine g_iadd (nx := 139) hX dX11_fence__138 rfl ?_
          refine g_iload (nx := 141) hX 4 dX11_fence__139 rfl rfl ?_
          refine g_iadd (nx := 142) hX dX11_fence__141 rfl ?_
          refine g_iload (nx := 144) hX 5 dX11_fence__142 rfl rfl ?_
          refine g_iadd (nx := 145) hX dX11_fence__144 rfl ?_
          refine g_if_ne (nx := 148) hX 152 dX11_fence__145 (by decide) rfl (fun h145 => ?_) (fun h145 => ?_)
          · have g11 : (0 : Int32) = nI (if a + b + c + d = 0 then 1 else 0) := by rw [if_neg (fun q => h145 (by rw [hsum, q]; rfl))]; rfl
            refine g_iconst (nx := 153) hX 0 dX11_fence__152 rfl (by decide) ?_
            refine g_iadd (nx := 154) hX dX11_fence__153 rfl ?_
            refine g_iastore (nx := 155) hX dX11_fence__154 rfl (ga_dn hn rfl) rfl (ga_ix_of (j := 11) rfl (by decide) (by decide)) ?_
            exact g_return hX hP dX11_fence__155 (Nat.le_of_ble_eq_true rfl) (Nat.le_of_ble_eq_true rfl) ⟨rfl, by rw [← m_n_eq g5 g6 g7 g11]; rfl⟩
          · have g11 : (1 : Int32) = nI (if a + b + c + d = 0 then 1 else 0) := by rw [if_pos (nI_inj (b := 0) (hsum.symm.trans h145) (by omega) (by omega))]; rfl
            refine g_iconst (nx := 149) hX 1 dX11_fence__148 rfl (by decide) ?_
            refine g_goto (nx := 153) hX dX11_fence__149 (by decide) ?_
            refine g_iadd (nx := 154) hX dX11_fence__153 rfl ?_
            refine g_iastore (nx := 155) hX dX11_fence__154 rfl (ga_dn hn rfl) rfl (ga_ix_of (j := 11) rfl (by decide) (by decide)) ?_
            exact g_return hX hP dX11_fence__155 (Nat.le_of_ble_eq_true rfl) (Nat.le_of_ble_eq_true rfl) ⟨rfl, by rw [← m_n_eq g5 g6 g7 g11]; rfl⟩
      · have g6 : (1 : Int32) = nI (if 2 ≤ a then 1 else 0) := by rw [if_pos (show 2 ≤ a from Nat.lt_of_not_le (fun q => h98 (nI_le (b := 1) q (by omega))))]; rfl
        refine g_iconst (nx := 102) hX 1 dX11_fence__101 rfl (by decide) ?_
        refine g_goto (nx := 106) hX dX11_fence__102 (by decide) ?_
        refine g_iadd (nx := 107) hX dX11_fence__106 rfl ?_
        refine g_iastore (nx := 108) hX dX11_fence__107 rfl (ga_dn hn rfl) rfl (ga_ix_of (j := 6) rfl (by decide) (by decide)) ?_
        refine g_aload_n (nx := 109) hX 0 dX11_fence__108 rfl rfl rfl ?_
        refine g_getfield (nx := 112) hX dX11_fence__109 rfl fX11_65 (ga_dn hn rfl) rfl rfl ?_
        refine g_bipush (nx := 114) hX 7 dX11_fence__112 rfl (by decide) ?_
        refine g_dup2 (nx := 115) hX dX11_fence__114 rfl rfl rfl ?_
        refine g_iaload (nx := 116) hX dX11_fence__115 rfl (ga_dn hn rfl) rfl (ga_ix_of (j := 7) rfl (by decide) (by decide)) ?_
        refine g_iload_n (nx := 117) hX 2 dX11_fence__116 rfl rfl rfl ?_
        refine g_iconst (nx := 118) hX 2 dX11_fence__117 rfl (by decide) ?_
        refine g_icmp_le (nx := 121) hX 125 dX11_fence__118 (by decide) rfl (fun h118 => ?_) (fun h118 => ?_)
        · have g7 : (0 : Int32) = nI (if 3 ≤ a then 1 else 0) := by rw [if_neg (by have := (nI_leI (b := 2) (by omega) (by omega)).mp h118; omega)]; rfl
          refine g_iconst (nx := 126) hX 0 dX11_fence__125 rfl (by decide) ?_
          refine g_iadd (nx := 127) hX dX11_fence__126 rfl ?_
          refine g_iastore (nx := 128) hX dX11_fence__127 rfl (ga_dn hn rfl) rfl (ga_ix_of (j := 7) rfl (by decide) (by decide)) ?_
          refine g_aload_n (nx := 129) hX 0 dX11_fence__128 rfl rfl rfl ?_
          refine g_getfield (nx := 132) hX dX11_fence__129 rfl fX11_65 (ga_dn hn rfl) rfl rfl ?_
          refine g_bipush (nx := 134) hX 11 dX11_fence__132 rfl (by decide) ?_
          refine g_dup2 (nx := 135) hX dX11_fence__134 rfl rfl rfl ?_
          refine g_iaload (nx := 136) hX dX11_fence__135 rfl (ga_dn hn rfl) rfl (ga_ix_of (j := 11) rfl (by decide) (by decide)) ?_
          refine g_iload_n (nx := 137) hX 2 dX11_fence__136 rfl rfl rfl ?_
          refine g_iload_n (nx := 138) hX 3 dX11_fence__137 rfl rfl rfl ?_
          refine g_iadd (nx := 139) hX dX11_fence__138 rfl ?_
          refine g_iload (nx := 141) hX 4 dX11_fence__139 rfl rfl ?_
          refine g_iadd (nx := 142) hX dX11_fence__141 rfl ?_
          refine g_iload (nx := 144) hX 5 dX11_fence__142 rfl rfl ?_
          refine g_iadd (nx := 145) hX dX11_fence__144 rfl ?_
          refine g_if_ne (nx := 148) hX 152 dX11_fence__145 (by decide) rfl (fun h145 => ?_) (fun h145 => ?_)
          · have g11 : (0 : Int32) = nI (if a + b + c + d = 0 then 1 else 0) := by rw [if_neg (fun q => h145 (by rw [hsum, q]; rfl))]; rfl
            refine g_iconst (nx := 153) hX 0 dX11_fence__152 rfl (by decide) ?_
            refine g_iadd (nx := 154) hX dX11_fence__153 rfl ?_
            refine g_iastore (nx := 155) hX dX11_fence__154 rfl (ga_dn hn rfl) rfl (ga_ix_of (j := 11) rfl (by decide) (by decide)) ?_
            exact g_return hX hP dX11_fence__155 (Nat.le_of_ble_eq_true rfl) (Nat.le_of_ble_eq_true rfl) ⟨rfl, by rw [← m_n_eq g5 g6 g7 g11]; rfl⟩
          · have g11 : (1 : Int32) = nI (if a + b + c + d = 0 then 1 else 0) := by rw [if_pos (nI_inj (b := 0) (hsum.symm.trans h145) (by omega) (by omega))]; rfl
            refine g_iconst (nx := 149) hX 1 dX11_fence__148 rfl (by decide) ?_
            refine g_goto (nx := 153) hX dX11_fence__149 (by decide) ?_
            refine g_iadd (nx := 154) hX dX11_fence__153 rfl ?_
            refine g_iastore (nx := 155) hX dX11_fence__154 rfl (ga_dn hn rfl) rfl (ga_ix_of (j := 11) rfl (by decide) (by decide)) ?_
            exact g_return hX hP dX11_fence__155 (Nat.le_of_ble_eq_true rfl) (Nat.le_of_ble_eq_true rfl) ⟨rfl, by rw [← m_n_eq g5 g6 g7 g11]; rfl⟩
        · have g7 : (1 : Int32) = nI (if 3 ≤ a then 1 else 0) := by rw [if_pos (show 3 ≤ a from Nat.lt_of_not_le (fun q => h118 (nI_le (b := 2) q (by omega))))]; rfl
          refine g_iconst (nx := 122) hX 1 dX11_fence__121 rfl (by decide) ?_
          refine g_goto (nx := 126) hX dX11_fence__122 (by decide) ?_
          refine g_iadd (nx := 127) hX dX11_fence__126 rfl ?_
          refine g_iastore (nx := 128) hX dX11_fence__127 rfl (ga_dn hn rfl) rfl (ga_ix_of (j := 7) rfl (by decide) (by decide)) ?_
          refine g_aload_n (nx := 129) hX 0 dX11_fence__128 rfl rfl rfl ?_
          refine g_getfield (nx := 132) hX dX11_fence__129 rfl fX11_65 (ga_dn hn rfl) rfl rfl ?_
          refine g_bipush (nx := 134) hX 11 dX11_fence__132 rfl (by decide) ?_
          refine g_dup2 (nx := 135) hX dX11_fence__134 rfl rfl rfl ?_
          refine g_iaload (nx := 136) hX dX11_fence__135 rfl (ga_dn hn rfl) rfl (ga_ix_of (j := 11) rfl (by decide) (by decide)) ?_
          refine g_iload_n (nx := 137) hX 2 dX11_fence__136 rfl rfl rfl ?_
          refine g_iload_n (nx := 138) hX 3 dX11_fence__137 rfl rfl rfl ?_
          refine g_iadd (nx := 139) hX dX11_fence__138 rfl ?_
          refine g_iload (nx := 141) hX 4 dX11_fence__139 rfl rfl ?_
          refine g_iadd (nx := 142) hX dX11_fence__141 rfl ?_
          refine g_iload (nx := 144) hX 5 dX11_fence__142 rfl rfl ?_
          refine g_iadd (nx := 145) hX dX11_fence__144 rfl ?_
          refine g_if_ne (nx := 148) hX 152 dX11_fence__145 (by decide) rfl (fun h145 => ?_) (fun h145 => ?_)
          · have g11 : (0 : Int32) = nI (if a + b + c + d = 0 then 1 else 0) := by rw [if_neg (fun q => h145 (by rw [hsum, q]; rfl))]; rfl
            refine g_iconst (nx := 153) hX 0 dX11_fence__152 rfl (by decide) ?_
            refine g_iadd (nx := 154) hX dX11_fence__153 rfl ?_
            refine g_iastore (nx := 155) hX dX11_fence__154 rfl (ga_dn hn rfl) rfl (ga_ix_of (j := 11) rfl (by decide) (by decide)) ?_
            exact g_return hX hP dX11_fence__155 (Nat.le_of_ble_eq_true rfl) (Nat.le_of_ble_eq_true rfl) ⟨rfl, by rw [← m_n_eq g5 g6 g7 g11]; rfl⟩
          · have g11 : (1 : Int32) = nI (if a + b + c + d = 0 then 1 else 0) := by rw [if_pos (nI_inj (b := 0) (hsum.symm.trans h145) (by omega) (by omega))]; rfl
            refine g_iconst (nx := 149) hX 1 dX11_fence__148 rfl (by decide) ?_
            refine g_goto (nx := 153) hX dX11_fence__149 (by decide) ?_
            refine g_iadd (nx := 154) hX dX11_fence__153 rfl ?_
            refine g_iastore (nx := 155) hX dX11_fence__154 rfl (ga_dn hn rfl) rfl (ga_ix_of (j := 11) rfl (by decide) (by decide)) ?_
            exact g_return hX hP dX11_fence__155 (Nat.le_of_ble_eq_true rfl) (Nat.le_of_ble_eq_true rfl) ⟨rfl, by rw [← m_n_eq g5 g6 g7 g11]; rfl⟩
  cases hs : s with
  | none =>
    subst hs
    refine g_aload_n (nx := 1) hX 0 dX11_fence__0 rfl rfl rfl ?_
    refine g_getfield (nx := 4) hX dX11_fence__1 rfl fX11_29 (ga_dn hn rfl) rfl rfl ?_
    refine g_iload_n (nx := 5) hX 1 dX11_fence__4 rfl rfl rfl ?_
    refine g_iaload (nx := 6) hX dX11_fence__5 rfl (ga_dn hn rfl) rfl (ga_ix_of rfl (by omega) (by omega)) ?_
    refine g_iconst (nx := 7) hX (-1) dX11_fence__6 rfl (by decide) ?_
    refine g_icmp_eq (nx := 10) hX 39 dX11_fence__7 (by decide) rfl (fun h7 => ?_) (fun h7 => ?_)
    · exact t39 rfl
    · refine g_aload_n (nx := 11) hX 0 dX11_fence__10 rfl rfl rfl ?_
      refine g_getfield (nx := 14) hX dX11_fence__11 rfl fX11_65 (ga_dn hn rfl) rfl rfl ?_
      refine g_bipush (nx := 16) hX 15 dX11_fence__14 rfl (by decide) ?_
      refine g_iaload (nx := 17) hX dX11_fence__16 rfl (ga_dn hn rfl) rfl (ga_ix_of (j := 15) rfl (by decide) (by decide)) ?_
      refine g_ldc (nx := 19) hX (-1000000) dX11_fence__17 rfl kX11_167 ?_
      refine g_icmp_eq (nx := 22) hX 39 dX11_fence__19 (by decide) rfl (fun h19 => ?_) (fun h19 => ?_)
      · exact t39 rfl
      · exact absurd h15 h19
  | some x =>
    subst hs
    refine g_aload_n (nx := 1) hX 0 dX11_fence__0 rfl rfl rfl ?_
    refine g_getfield (nx := 4) hX dX11_fence__1 rfl fX11_29 (ga_dn hn rfl) rfl rfl ?_
    refine g_iload_n (nx := 5) hX 1 dX11_fence__4 rfl rfl rfl ?_
    refine g_iaload (nx := 6) hX dX11_fence__5 rfl (ga_dn hn rfl) rfl (ga_ix_of rfl (by omega) (by omega)) ?_
    refine g_iconst (nx := 7) hX (-1) dX11_fence__6 rfl (by decide) ?_
    refine g_icmp_eq (nx := 10) hX 39 dX11_fence__7 (by decide) rfl (fun h7 => ?_) (fun h7 => ?_)
    · exact t39 (decide_eq_true (Or.inl h7))
    · refine g_aload_n (nx := 11) hX 0 dX11_fence__10 rfl rfl rfl ?_
      refine g_getfield (nx := 14) hX dX11_fence__11 rfl fX11_65 (ga_dn hn rfl) rfl rfl ?_
      refine g_bipush (nx := 16) hX 15 dX11_fence__14 rfl (by decide) ?_
      refine g_iaload (nx := 17) hX dX11_fence__16 rfl (ga_dn hn rfl) rfl (ga_ix_of (j := 15) rfl (by decide) (by decide)) ?_
      refine g_ldc (nx := 19) hX (-1000000) dX11_fence__17 rfl kX11_167 ?_
      refine g_icmp_eq (nx := 22) hX 39 dX11_fence__19 (by decide) rfl (fun h19 => ?_) (fun h19 => ?_)
      · exact absurd (h15.symm.trans h19) (hz x rfl)
      · refine g_aload_n (nx := 23) hX 0 dX11_fence__22 rfl rfl rfl ?_
        refine g_getfield (nx := 26) hX dX11_fence__23 rfl fX11_65 (ga_dn hn rfl) rfl rfl ?_
        refine g_bipush (nx := 28) hX 15 dX11_fence__26 rfl (by decide) ?_
        refine g_iaload (nx := 29) hX dX11_fence__28 rfl (ga_dn hn rfl) rfl (ga_ix_of (j := 15) rfl (by decide) (by decide)) ?_
        refine g_aload_n (nx := 30) hX 0 dX11_fence__29 rfl rfl rfl ?_
        refine g_getfield (nx := 33) hX dX11_fence__30 rfl fX11_29 (ga_dn hn rfl) rfl rfl ?_
        refine g_iload_n (nx := 34) hX 1 dX11_fence__33 rfl rfl rfl ?_
        refine g_iaload (nx := 35) hX dX11_fence__34 rfl (ga_dn hn rfl) rfl (ga_ix_of rfl (by omega) (by omega)) ?_
        refine g_icmp_lt (nx := 38) hX 39 dX11_fence__35 (by decide) rfl (fun h35 => ?_) (fun h35 => ?_)
        · exact t39 (decide_eq_true (Or.inr (by rw [h15] at h35; exact h35)))
        · exact g_return hX hP dX11_fence__38 (Nat.le_of_ble_eq_true rfl) (Nat.le_of_ble_eq_true rfl) ⟨rfl, by rw [if_neg (show ¬ y_cnt ou (some x) k = true from fun z => (of_decide_eq_true z).elim h7 (fun z => h35 (by rw [h15]; exact z)))]⟩
theorem tl_acts {d mc ms : Nat} (hX : ga_B E d yX11_tallies cX11_tallies 6 mc ms X) (hd2 : 1 ≤ d) (hn : 106 ≤ n) (ht : t ≤ 400) (hok : ∀ k, 1 ≤ k → k ≤ t → 0 ≤ mq k → y_ok (mq k) (mf k))
    (kont : ∀ T, T = y_at (mw, mq, mf, ma, mb, ms_) ah r t t → ga_G E X 0 0 304 [some (.ref 79), some (.int (nI r)), some (.int (nI t)), some (.int T.2.2.2.2.2.2.2.1), none, none] [] (n, L1, ((m_O o_tp (o_rd) (nI fn) (em) (sp) o_ac o_td o_sm o_tt o_at o_sz o_fk o_fp o_nw o_md o_nt o_pl o_op) :: m80 :: m81 :: ga_i 30 mt :: ga_i 30 ou :: ga_i 32 ah :: ga_i 401 mw :: ga_i 401 mq :: ga_i 401 mf :: ga_i 401 ma :: ga_i 401 mb :: ga_i 401 ms_ :: ga_i 18 (m_t T) :: ga_i 120 (m_af T.2.2.2.2.2.2.2.2) :: L2), f)) :
    ∀ (m k : Nat) (T : y_T), 1 ≤ k → k ≤ t + 1 → t + 1 - k ≤ m → T = y_at (mw, mq, mf, ma, mb, ms_) ah r t (k - 1) → ga_G E X 0 0 65 [some (.ref 79), some (.int (nI r)), some (.int (nI t)), some (.int T.2.2.2.2.2.2.2.1), some (.int (nI k)), none] [] (n, L1, ((m_O o_tp (o_rd) (nI fn) (em) (sp) o_ac o_td o_sm o_tt o_at o_sz o_fk o_fp o_nw o_md o_nt o_pl o_op) :: m80 :: m81 :: ga_i 30 mt :: ga_i 30 ou :: ga_i 32 ah :: ga_i 401 mw :: ga_i 401 mq :: ga_i 401 mf :: ga_i 401 ma :: ga_i 401 mb :: ga_i 401 ms_ :: ga_i 18 (m_t T) :: ga_i 120 (m_af T.2.2.2.2.2.2.2.2) :: L2), f) := by
  intro m
  induction m with
  | zero =>
    intro k T h0 h1 h2 hT
    have e : k = t + 1 := by omega
    subst e
    refine g_iload (nx := 67) hX 4 dX11_tallies_65 rfl rfl ?_
    refine g_iload_n (nx := 68) hX 2 dX11_tallies_67 rfl rfl rfl ?_
    refine g_icmp_gt (nx := 71) hX 304 dX11_tallies_68 (by decide) rfl (fun h68 => ?_) (fun h68 => ?_)
    · exact g_ls (kont T hT) ⟨rfl, rfl, rfl, rfl, trivial⟩
    · exact absurd (nI_lt (a := t) (b := t + 1) (by omega) (by omega)) h68
  | succ m ih =>
    intro k T h0 h1 h2 hT
    obtain ⟨mr, rg, kn, lk, rt, s, fi, hd, sn⟩ := T
    refine g_iload (nx := 67) hX 4 dX11_tallies_65 rfl rfl ?_
    refine g_iload_n (nx := 68) hX 2 dX11_tallies_67 rfl rfl rfl ?_
    refine g_icmp_gt (nx := 71) hX 304 dX11_tallies_68 (by decide) rfl (fun h68 => ?_) (fun h68 => ?_)
    · have e : k = t + 1 := by have := (nI_ltI (a := t) (b := k) (by omega) (by omega)).mp h68; omega
      subst e
      exact g_ls (kont _ hT) ⟨rfl, rfl, rfl, rfl, trivial⟩
    · have hlt : k ≤ t := Nat.le_of_not_lt (fun q => h68 (nI_lt q (by omega)))
      have hstep : y_at (mw, mq, mf, ma, mb, ms_) ah r t k = if k ≤ t ∧ 0 ≤ mq k ∧ mw k = nI r ∧ (ms_ k = 0 ∨ nI t < ms_ k) then y_st ah (mr, rg, kn, lk, rt, s, fi, hd, sn) (mq k) (mf k) (ma k) (mb k) else (mr, rg, kn, lk, rt, s, fi, hd, sn) := by
        have : k = (k - 1) + 1 := by omega
        rw [this, y_at, ← this, ← hT]
      refine g_aload_n (nx := 72) hX 0 dX11_tallies_71 rfl rfl rfl ?_
      refine g_iload (nx := 74) hX 4 dX11_tallies_72 rfl rfl ?_
      refine g_iload_n (nx := 75) hX 1 dX11_tallies_74 rfl rfl rfl ?_
      refine g_iload_n (nx := 76) hX 2 dX11_tallies_75 rfl rfl rfl ?_
      refine g_V3 (nx := 79) hX dX11_tallies_76 rfl mX11_168 yX11_stands_ok (c_X11_stands hn (by omega)) (ga_dn hn rfl) rfl rfl rfl (by omega) rfl (Nat.le_of_ble_eq_true rfl) (Nat.le_of_ble_eq_true rfl) ?_
      rintro _ _ ⟨rfl, rfl⟩
      refine g_if_ne (nx := 82) hX 85 dX11_tallies_79 (by decide) rfl (fun h79 => ?_) (fun h79 => ?_)
      · have hs := ga_b_n0 h79
        rw [if_pos ⟨hlt, hs⟩] at hstep
        refine g_aload_n (nx := 86) hX 0 dX11_tallies_85 rfl rfl rfl ?_
        refine g_getfield (nx := 89) hX dX11_tallies_86 rfl fX11_47 (ga_dn hn rfl) rfl rfl ?_
        refine g_iload (nx := 91) hX 4 dX11_tallies_89 rfl rfl ?_
        refine g_iaload (nx := 92) hX dX11_tallies_91 rfl (ga_dn hn rfl) rfl (ga_ix_of rfl (by omega) (by omega)) ?_
        refine g_istore (nx := 94) hX 5 dX11_tallies_92 rfl rfl ?_
        refine tl_body hX hn (by omega) (hok k h0 hlt hs.1) ?_
        intro T' hT'
        refine g_iinc (nx := 301) hX 4 (nI (k + 1)) dX11_tallies_298 rfl rfl rfl (nI_1 k) ?_
        refine g_goto (nx := 65) hX dX11_tallies_301 (by decide) ?_
        exact ih (k + 1) T' (by omega) (by omega) (by omega) (hT'.trans hstep.symm)
      · rw [if_neg (fun z => ga_b_0 h79 z.2)] at hstep
        refine g_goto (nx := 298) hX dX11_tallies_82 (by decide) ?_
        refine g_iinc (nx := 301) hX 4 (nI (k + 1)) dX11_tallies_298 rfl rfl rfl (nI_1 k) ?_
        refine g_goto (nx := 65) hX dX11_tallies_301 (by decide) ?_
        exact ih (k + 1) _ (by omega) (by omega) (by omega) hstep.symm
theorem tl_fences {d mc ms : Nat} (hX : ga_B E d yX11_tallies cX11_tallies 6 mc ms X) (hd2 : 1 ≤ d) (hn : 106 ≤ n) (hf : fn ≤ 30) (hsn : ∀ i f, sn i f ≤ 400) (hw : w 15 = y_g s) (hz : y_nz s)
    (kont : ga_G E X 0 0 370 [some (.ref 79), some (.int (nI r)), some (.int (nI t)), some (.int hd), none, none] [] (n, L1, ((m_O o_tp (o_rd) (nI fn) (em) (sp) o_ac o_td o_sm o_tt o_at o_sz o_fk o_fp o_nw o_md o_nt o_pl o_op) :: m80 :: m81 :: ga_i 30 mt :: ga_i 30 ou :: ga_i 32 ah :: ga_i 401 mw :: ga_i 401 mq :: ga_i 401 mf :: ga_i 401 ma :: ga_i 401 mb :: ga_i 401 ms_ :: ga_i 18 (m_w w (y_q ou s sn fn)) :: ga_i 120 (m_af sn) :: L2), f)) :
    ∀ (m k : Nat), k ≤ fn → fn - k ≤ m → ga_G E X 0 0 307 [some (.ref 79), some (.int (nI r)), some (.int (nI t)), some (.int hd), some (.int (nI k)), none] [] (n, L1, ((m_O o_tp (o_rd) (nI fn) (em) (sp) o_ac o_td o_sm o_tt o_at o_sz o_fk o_fp o_nw o_md o_nt o_pl o_op) :: m80 :: m81 :: ga_i 30 mt :: ga_i 30 ou :: ga_i 32 ah :: ga_i 401 mw :: ga_i 401 mq :: ga_i 401 mf :: ga_i 401 ma :: ga_i 401 mb :: ga_i 401 ms_ :: ga_i 18 (m_w w (y_q ou s sn k)) :: ga_i 120 (m_af sn) :: L2), f) := by
  intro m
  induction m with
  | zero =>
    intro k h1 h2
    have e : k = fn := by omega
    subst e
    refine g_iload (nx := 309) hX 4 dX11_tallies_307 rfl rfl ?_
    refine g_aload_n (nx := 310) hX 0 dX11_tallies_309 rfl rfl rfl ?_
    refine g_getfield (nx := 313) hX dX11_tallies_310 rfl fX11_23 (ga_dn hn rfl) rfl rfl ?_
    refine g_icmp_ge (nx := 316) hX 370 dX11_tallies_313 (by decide) rfl (fun h313 => ?_) (fun h313 => ?_)
    · exact g_ls kont ⟨rfl, rfl, rfl, rfl, trivial⟩
    · exact absurd (nI_le (Nat.le_refl k) (by omega)) h313
  | succ m ih =>
    intro k h1 h2
    have i0 : 4 * nI k = nI (4 * k) := pk_mul 4 k
    have a0 : m_af sn (4 * k) = nI (sn 0 k) := by unfold m_af; rw [show 4 * k % 4 = 0 by omega, show 4 * k / 4 = k by omega]
    have a1 : m_af sn (4 * k + 1) = nI (sn 1 k) := by unfold m_af; rw [show (4 * k + 1) % 4 = 1 by omega, show (4 * k + 1) / 4 = k by omega]
    have a2 : m_af sn (4 * k + 2) = nI (sn 2 k) := by unfold m_af; rw [show (4 * k + 2) % 4 = 2 by omega, show (4 * k + 2) / 4 = k by omega]
    have a3 : m_af sn (4 * k + 3) = nI (sn 3 k) := by unfold m_af; rw [show (4 * k + 3) % 4 = 3 by omega, show (4 * k + 3) / 4 = k by omega]
    refine g_iload (nx := 309) hX 4 dX11_tallies_307 rfl rfl ?_
    refine g_aload_n (nx := 310) hX 0 dX11_tallies_309 rfl rfl rfl ?_
    refine g_getfield (nx := 313) hX dX11_tallies_310 rfl fX11_23 (ga_dn hn rfl) rfl rfl ?_
    refine g_icmp_ge (nx := 316) hX 370 dX11_tallies_313 (by decide) rfl (fun h313 => ?_) (fun h313 => ?_)
    · have e : k = fn := by have := (nI_leI (a := fn) (b := k) (by omega) (by omega)).mp h313; omega
      subst e
      exact g_ls kont ⟨rfl, rfl, rfl, rfl, trivial⟩
    · have hlt : k < fn := Nat.lt_of_not_le (fun q => h313 (nI_le q (by omega)))
      refine g_aload_n (nx := 317) hX 0 dX11_tallies_316 rfl rfl rfl ?_
      refine g_iload (nx := 319) hX 4 dX11_tallies_317 rfl rfl ?_
      refine g_aload_n (nx := 320) hX 0 dX11_tallies_319 rfl rfl rfl ?_
      refine g_getfield (nx := 323) hX dX11_tallies_320 rfl fX11_68 (ga_dn hn rfl) rfl rfl ?_
      refine g_iconst (nx := 324) hX 4 dX11_tallies_323 rfl (by decide) ?_
      refine g_iload (nx := 326) hX 4 dX11_tallies_324 rfl rfl ?_
      refine g_imul (nx := 327) hX dX11_tallies_326 rfl ?_
      refine g_iaload (nx := 328) hX dX11_tallies_327 rfl (ga_dn hn rfl) rfl (ga_ix_of i0 (by omega) (by omega)) ?_
      refine g_aload_n (nx := 329) hX 0 dX11_tallies_328 rfl rfl rfl ?_
      refine g_getfield (nx := 332) hX dX11_tallies_329 rfl fX11_68 (ga_dn hn rfl) rfl rfl ?_
      refine g_iconst (nx := 333) hX 4 dX11_tallies_332 rfl (by decide) ?_
      refine g_iload (nx := 335) hX 4 dX11_tallies_333 rfl rfl ?_
      refine g_imul (nx := 336) hX dX11_tallies_335 rfl ?_
      refine g_iconst (nx := 337) hX 1 dX11_tallies_336 rfl (by decide) ?_
      refine g_iadd (nx := 338) hX dX11_tallies_337 rfl ?_
      refine g_iaload (nx := 339) hX dX11_tallies_338 rfl (ga_dn hn rfl) rfl (ga_ix_of (j := 4 * k + 1) (by rw [i0]; exact nI_add (4 * k) 1) (by omega) (by omega)) ?_
      refine g_aload_n (nx := 340) hX 0 dX11_tallies_339 rfl rfl rfl ?_
      refine g_getfield (nx := 343) hX dX11_tallies_340 rfl fX11_68 (ga_dn hn rfl) rfl rfl ?_
      refine g_iconst (nx := 344) hX 4 dX11_tallies_343 rfl (by decide) ?_
      refine g_iload (nx := 346) hX 4 dX11_tallies_344 rfl rfl ?_
      refine g_imul (nx := 347) hX dX11_tallies_346 rfl ?_
      refine g_iconst (nx := 348) hX 2 dX11_tallies_347 rfl (by decide) ?_
      refine g_iadd (nx := 349) hX dX11_tallies_348 rfl ?_
      refine g_iaload (nx := 350) hX dX11_tallies_349 rfl (ga_dn hn rfl) rfl (ga_ix_of (j := 4 * k + 2) (by rw [i0]; exact nI_add (4 * k) 2) (by omega) (by omega)) ?_
      refine g_aload_n (nx := 351) hX 0 dX11_tallies_350 rfl rfl rfl ?_
      refine g_getfield (nx := 354) hX dX11_tallies_351 rfl fX11_68 (ga_dn hn rfl) rfl rfl ?_
      refine g_iconst (nx := 355) hX 4 dX11_tallies_354 rfl (by decide) ?_
      refine g_iload (nx := 357) hX 4 dX11_tallies_355 rfl rfl ?_
      refine g_imul (nx := 358) hX dX11_tallies_357 rfl ?_
      refine g_iconst (nx := 359) hX 3 dX11_tallies_358 rfl (by decide) ?_
      refine g_iadd (nx := 360) hX dX11_tallies_359 rfl ?_
      refine g_iaload (nx := 361) hX dX11_tallies_360 rfl (ga_dn hn rfl) rfl (ga_ix_of (j := 4 * k + 3) (by rw [i0]; exact nI_add (4 * k) 3) (by omega) (by omega)) ?_
      rw [a0, a1, a2, a3]
      refine g_V5 (nx := 364) hX dX11_tallies_361 rfl mX11_171 yX11_fence__ok (c_X11_fence_ hn (by omega) (hsn 0 k) (hsn 1 k) (hsn 2 k) (hsn 3 k) hw hz) (ga_dn hn rfl) rfl rfl rfl (by omega) rfl (Nat.le_of_ble_eq_true rfl) (Nat.le_of_ble_eq_true rfl) ?_
      rintro _ _ ⟨rfl, rfl⟩
      refine g_iinc (nx := 367) hX 4 (nI (k + 1)) dX11_tallies_364 rfl rfl rfl (nI_1 k) ?_
      refine g_goto (nx := 307) hX dX11_tallies_367 (by decide) ?_
      have ih1 := ih (k + 1) (by omega) (by omega)
      rw [y_q, show (if y_cnt ou s k = true then y_fq (y_q ou s sn k) (sn 0 k) (sn 1 k) (sn 2 k) (sn 3 k) else y_q ou s sn k) = (if y_cnt ou s k = true then y_fq (y_q ou s sn k) (sn 0 k) (sn 1 k) (sn 2 k) (sn 3 k) else y_q ou s sn k) from rfl] at ih1
      exact ih1
end
