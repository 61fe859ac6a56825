/-! ===== the words of the counts; the names given ===== -/
def x_cn : Nat → Int64
  | 0 => 13683059
  | 1 => 599495
  | 2 => 624067970451
  | 3 => 6336915
  | 4 => 446287012
  | 5 => 6605428
  | 6 => 642891204
  | 7 => 21243460
  | 8 => 384273779
  | 9 => 13090163
  | 10 => 19516410020
  | 11 => 719951022
  | 12 => 514226
  | 13 => 22483122
  | 14 => 16664278701
  | _ => 0
def x_wc (v : Int64) : Int32 := if v = 13683059 then 0 else if v = 599495 then 1 else if v = 624067970451 then 2 else if v = 6336915 then 3 else if v = 446287012 then 4 else if v = 6605428 then 5 else if v = 642891204 then 6 else if v = 21243460 then 7 else if v = 384273779 then 8 else if v = 13090163 then 9 else if v = 19516410020 then 10 else if v = 719951022 then 11 else if v = 514226 then 12 else if v = 22483122 then 13 else if v = 16664278701 then 14 else -1
theorem x_wc_fd {v : Int64} : p_fd (fun j => decide (x_cn j = v)) 15 15 = x_wc v := by
  simp only [p_fd, decide_eq_true_eq, Nat.reduceAdd, Nat.reduceSub, x_cn, x_wc, eq_comm (b := v)]
  rfl
section
variable {E : ga_E} {X : ga_X} {n : Nat} {c0 c1 c2 c3 c4 c5 c6 c7 c8 c9 c10 c11 c12 c13 c14 c15 c16 c17 c18 c19 c20 c21 c22 c23 c24 c25 c26 c27 c28 c29 c30 m79 m80 m81 m82 m83 m84 m85 m86 m87 m88 m89 m90 m91 m92 m93 m94 m95 m96 m97 m98 m99 m100 m101 m102 m103 m104 m105 : ga_C} {L1 L2 : List ga_C} {f : Nat → ga_C} {o_tp o_rd o_fe o_em o_sp o_ac o_td o_sm o_tt o_at o_sz o_fk o_fp o_nw o_md o_nt o_pl o_op d_at d_tk d_ta d_fd d_fa : Int32} {d_tv : Int64} {d_rl : Value}
variable {r_at r_fk r_fp r_nt r_pl r_op : Int32} {nw md lt : Nat} {tb ns nb sg na nz pi cm : Nat → Int32}
variable {p q m l : Nat} {v : Int64}
theorem c_X11_whichCount (hn : 106 ≤ n) (hm : q + m ≤ 600) (hl : ∀ i, i < m → x_let (tb (q + i))) (hv : x_wv tb q m = v) : ga_Mx E 1 yX11_whichCount cX11_whichCount 3 (some .int) 0 0 [.ref 79, .int (nI q), .int (nI m)] (n, L1, ((m_O o_tp o_rd o_fe o_em o_sp o_ac o_td o_sm o_tt (r_at) (nI lt) (r_fk) (r_fp) (nI nw) (nI md) (r_nt) (r_pl) (r_op)) :: ga_i 600 tb :: m81 :: m82 :: m83 :: m84 :: m85 :: m86 :: m87 :: m88 :: m89 :: m90 :: m91 :: m92 :: m93 :: m94 :: m95 :: ga_i 25 (ns) :: ga_i 26 (nb) :: ga_i 1300 (sg) :: ga_i 250 (na) :: ga_i 25 (nz) :: ga_i 40 (pi) :: ga_z 40 (cm) :: L2), f) (some (.int (x_wc v))) (n, L1, ((m_O o_tp o_rd o_fe o_em o_sp o_ac o_td o_sm o_tt (r_at) (nI lt) (r_fk) (r_fp) (nI nw) (nI md) (r_nt) (r_pl) (r_op)) :: ga_i 600 tb :: m81 :: m82 :: m83 :: m84 :: m85 :: m86 :: m87 :: m88 :: m89 :: m90 :: m91 :: m92 :: m93 :: m94 :: m95 :: ga_i 25 (ns) :: ga_i 26 (nb) :: ga_i 1300 (sg) :: ga_i 250 (na) :: ga_i 25 (nz) :: ga_i 40 (pi) :: ga_z 40 (cm) :: L2), f) := by
  subst hv
  refine ga_Mt.of (by decide) rfl (fun X hX hP => ?_)
  refine g_less [some (.ref 79), some (.int (nI q)), some (.int (nI m))] ⟨rfl, rfl, rfl, trivial⟩ ?_
  refine g_aload_n (nx := 1) hX 0 dX11_whichCount_0 rfl rfl rfl ?_
  refine g_iload_n (nx := 2) hX 1 dX11_whichCount_1 rfl rfl rfl ?_
  refine g_iload_n (nx := 3) hX 2 dX11_whichCount_2 rfl rfl rfl ?_
  refine g_ldc2_w (nx := 6) hX 469786323827 dX11_whichCount_3 rfl kX11_211 ?_
  refine g_iconst (nx := 7) hX 5 dX11_whichCount_6 rfl (by decide) ?_
  refine g_V4 (nx := 10) hX dX11_whichCount_7 rfl mX11_199 yX11_spells_ok (c_X11_spells (l := 5) (K := 13683059) (h := wL [13, 1, 18, 11, 19]) (by decide) (by omega) (by decide +kernel) (by decide +kernel) hn hm hl) (ga_dn hn rfl) rfl rfl rfl (by decide) rfl (Nat.le_of_ble_eq_true rfl) (Nat.le_of_ble_eq_true rfl) ?_
  rintro _ _ ⟨rfl, rfl⟩
  refine g_if_eq (nx := 13) hX 15 dX11_whichCount_10 (by decide) rfl (fun h10 => ?_) (fun h10 => ?_)
  · refine g_aload_n (nx := 16) hX 0 dX11_whichCount_15 rfl rfl rfl ?_
    refine g_iload_n (nx := 17) hX 1 dX11_whichCount_16 rfl rfl rfl ?_
    refine g_iload_n (nx := 18) hX 2 dX11_whichCount_17 rfl rfl rfl ?_
    refine g_ldc2_w (nx := 21) hX 1919512167 dX11_whichCount_18 rfl kX11_213 ?_
    refine g_iconst (nx := 22) hX 4 dX11_whichCount_21 rfl (by decide) ?_
    refine g_V4 (nx := 25) hX dX11_whichCount_22 rfl mX11_199 yX11_spells_ok (c_X11_spells (l := 4) (K := 599495) (h := wL [18, 9, 14, 7]) (by decide) (by omega) (by decide +kernel) (by decide +kernel) hn hm hl) (ga_dn hn rfl) rfl rfl rfl (by decide) rfl (Nat.le_of_ble_eq_true rfl) (Nat.le_of_ble_eq_true rfl) ?_
    rintro _ _ ⟨rfl, rfl⟩
    refine g_if_eq (nx := 28) hX 30 dX11_whichCount_25 (by decide) rfl (fun h25 => ?_) (fun h25 => ?_)
    · refine g_aload_n (nx := 31) hX 0 dX11_whichCount_30 rfl rfl rfl ?_
      refine g_iload_n (nx := 32) hX 1 dX11_whichCount_31 rfl rfl rfl ?_
      refine g_iload_n (nx := 33) hX 2 dX11_whichCount_32 rfl rfl rfl ?_
      refine g_ldc2_w (nx := 36) hX 8243107347604532339 dX11_whichCount_33 rfl kX11_215 ?_
      refine g_bipush (nx := 38) hX 8 dX11_whichCount_36 rfl (by decide) ?_
      refine g_V4 (nx := 41) hX dX11_whichCount_38 rfl mX11_199 yX11_spells_ok (c_X11_spells (l := 8) (K := 624067970451) (h := wL [18, 5, 6, 21, 19, 1, 12, 19]) (by decide) (by omega) (by decide +kernel) (by decide +kernel) hn hm hl) (ga_dn hn rfl) rfl rfl rfl (by decide) rfl (Nat.le_of_ble_eq_true rfl) (Nat.le_of_ble_eq_true rfl) ?_
      rintro _ _ ⟨rfl, rfl⟩
      refine g_if_eq (nx := 44) hX 46 dX11_whichCount_41 (by decide) rfl (fun h41 => ?_) (fun h41 => ?_)
      · refine g_aload_n (nx := 47) hX 0 dX11_whichCount_46 rfl rfl rfl ?_
        refine g_iload_n (nx := 48) hX 1 dX11_whichCount_47 rfl rfl rfl ?_
        refine g_iload_n (nx := 49) hX 2 dX11_whichCount_48 rfl rfl rfl ?_
        refine g_ldc2_w (nx := 52) hX 439721159795 dX11_whichCount_49 rfl kX11_217 ?_
        refine g_iconst (nx := 53) hX 5 dX11_whichCount_52 rfl (by decide) ?_
        refine g_V4 (nx := 56) hX dX11_whichCount_53 rfl mX11_199 yX11_spells_ok (c_X11_spells (l := 5) (K := 6336915) (h := wL [6, 1, 12, 12, 19]) (by decide) (by omega) (by decide +kernel) (by decide +kernel) hn hm hl) (ga_dn hn rfl) rfl rfl rfl (by decide) rfl (Nat.le_of_ble_eq_true rfl) (Nat.le_of_ble_eq_true rfl) ?_
        rintro _ _ ⟨rfl, rfl⟩
        refine g_if_eq (nx := 59) hX 61 dX11_whichCount_56 (by decide) rfl (fun h56 => ?_) (fun h56 => ?_)
        · refine g_aload_n (nx := 62) hX 0 dX11_whichCount_61 rfl rfl rfl ?_
          refine g_iload_n (nx := 63) hX 1 dX11_whichCount_62 rfl rfl rfl ?_
          refine g_iload_n (nx := 64) hX 2 dX11_whichCount_63 rfl rfl rfl ?_
          refine g_ldc2_w (nx := 67) hX 120299675936100 dX11_whichCount_64 rfl kX11_219 ?_
          refine g_bipush (nx := 69) hX 6 dX11_whichCount_67 rfl (by decide) ?_
          refine g_V4 (nx := 72) hX dX11_whichCount_69 rfl mX11_199 yX11_spells_ok (c_X11_spells (l := 6) (K := 446287012) (h := wL [13, 9, 19, 19, 5, 4]) (by decide) (by omega) (by decide +kernel) (by decide +kernel) hn hm hl) (ga_dn hn rfl) rfl rfl rfl (by decide) rfl (Nat.le_of_ble_eq_true rfl) (Nat.le_of_ble_eq_true rfl) ?_
          rintro _ _ ⟨rfl, rfl⟩
          refine g_if_eq (nx := 75) hX 77 dX11_whichCount_72 (by decide) rfl (fun h72 => ?_) (fun h72 => ?_)
          · refine g_aload_n (nx := 78) hX 0 dX11_whichCount_77 rfl rfl rfl ?_
            refine g_iload_n (nx := 79) hX 1 dX11_whichCount_78 rfl rfl rfl ?_
            refine g_iload_n (nx := 80) hX 2 dX11_whichCount_79 rfl rfl rfl ?_
            refine g_ldc2_w (nx := 83) hX 439855772532 dX11_whichCount_80 rfl kX11_221 ?_
            refine g_iconst (nx := 84) hX 5 dX11_whichCount_83 rfl (by decide) ?_
            refine g_V4 (nx := 87) hX dX11_whichCount_84 rfl mX11_199 yX11_spells_ok (c_X11_spells (l := 5) (K := 6605428) (h := wL [6, 9, 18, 19, 20]) (by decide) (by omega) (by decide +kernel) (by decide +kernel) hn hm hl) (ga_dn hn rfl) rfl rfl rfl (by decide) rfl (Nat.le_of_ble_eq_true rfl) (Nat.le_of_ble_eq_true rfl) ?_
            rintro _ _ ⟨rfl, rfl⟩
            refine g_if_eq (nx := 90) hX 92 dX11_whichCount_87 (by decide) rfl (fun h87 => ?_) (fun h87 => ?_)
            · refine g_aload_n (nx := 93) hX 0 dX11_whichCount_92 rfl rfl rfl ?_
              refine g_iload_n (nx := 94) hX 1 dX11_whichCount_93 rfl rfl rfl ?_
              refine g_iload_n (nx := 95) hX 2 dX11_whichCount_94 rfl rfl rfl ?_
              refine g_ldc2_w (nx := 98) hX 126879297138276 dX11_whichCount_95 rfl kX11_223 ?_
              refine g_bipush (nx := 100) hX 6 dX11_whichCount_98 rfl (by decide) ?_
              refine g_V4 (nx := 103) hX dX11_whichCount_100 rfl mX11_199 yX11_spells_ok (c_X11_spells (l := 6) (K := 642891204) (h := wL [19, 5, 3, 15, 14, 4]) (by decide) (by omega) (by decide +kernel) (by decide +kernel) hn hm hl) (ga_dn hn rfl) rfl rfl rfl (by decide) rfl (Nat.le_of_ble_eq_true rfl) (Nat.le_of_ble_eq_true rfl) ?_
              rintro _ _ ⟨rfl, rfl⟩
              refine g_if_eq (nx := 106) hX 109 dX11_whichCount_103 (by decide) rfl (fun h103 => ?_) (fun h103 => ?_)
              · refine g_aload_n (nx := 110) hX 0 dX11_whichCount_109 rfl rfl rfl ?_
                refine g_iload_n (nx := 111) hX 1 dX11_whichCount_110 rfl rfl rfl ?_
                refine g_iload_n (nx := 112) hX 2 dX11_whichCount_111 rfl rfl rfl ?_
                refine g_ldc2_w (nx := 115) hX 499967947364 dX11_whichCount_112 rfl kX11_225 ?_
                refine g_iconst (nx := 116) hX 5 dX11_whichCount_115 rfl (by decide) ?_
                refine g_V4 (nx := 119) hX dX11_whichCount_116 rfl mX11_199 yX11_spells_ok (c_X11_spells (l := 5) (K := 21243460) (h := wL [20, 8, 9, 18, 4]) (by decide) (by omega) (by decide +kernel) (by decide +kernel) hn hm hl) (ga_dn hn rfl) rfl rfl rfl (by decide) rfl (Nat.le_of_ble_eq_true rfl) (Nat.le_of_ble_eq_true rfl) ?_
                rintro _ _ ⟨rfl, rfl⟩
                refine g_if_eq (nx := 122) hX 125 dX11_whichCount_119 (by decide) rfl (fun h119 => ?_) (fun h119 => ?_)
                · refine g_aload_n (nx := 126) hX 0 dX11_whichCount_125 rfl rfl rfl ?_
                  refine g_iload_n (nx := 127) hX 1 dX11_whichCount_126 rfl rfl rfl ?_
                  refine g_iload_n (nx := 128) hX 2 dX11_whichCount_127 rfl rfl rfl ?_
                  refine g_ldc2_w (nx := 131) hX 118122059361139 dX11_whichCount_128 rfl kX11_227 ?_
                  refine g_bipush (nx := 133) hX 6 dX11_whichCount_131 rfl (by decide) ?_
                  refine g_V4 (nx := 136) hX dX11_whichCount_133 rfl mX11_199 yX11_spells_ok (c_X11_spells (l := 6) (K := 384273779) (h := wL [11, 14, 15, 3, 11, 19]) (by decide) (by omega) (by decide +kernel) (by decide +kernel) hn hm hl) (ga_dn hn rfl) rfl rfl rfl (by decide) rfl (Nat.le_of_ble_eq_true rfl) (Nat.le_of_ble_eq_true rfl) ?_
                  rintro _ _ ⟨rfl, rfl⟩
                  refine g_if_eq (nx := 139) hX 142 dX11_whichCount_136 (by decide) rfl (fun h136 => ?_) (fun h136 => ?_)
                  · refine g_aload_n (nx := 143) hX 0 dX11_whichCount_142 rfl rfl rfl ?_
                    refine g_iload_n (nx := 144) hX 1 dX11_whichCount_143 rfl rfl rfl ?_
                    refine g_iload_n (nx := 145) hX 2 dX11_whichCount_144 rfl rfl rfl ?_
                    refine g_ldc2_w (nx := 148) hX 465726040947 dX11_whichCount_145 rfl kX11_229 ?_
                    refine g_iconst (nx := 149) hX 5 dX11_whichCount_148 rfl (by decide) ?_
                    refine g_V4 (nx := 152) hX dX11_whichCount_149 rfl mX11_199 yX11_spells_ok (c_X11_spells (l := 5) (K := 13090163) (h := wL [12, 15, 15, 11, 19]) (by decide) (by omega) (by decide +kernel) (by decide +kernel) hn hm hl) (ga_dn hn rfl) rfl rfl rfl (by decide) rfl (Nat.le_of_ble_eq_true rfl) (Nat.le_of_ble_eq_true rfl) ?_
                    rintro _ _ ⟨rfl, rfl⟩
                    refine g_if_eq (nx := 155) hX 158 dX11_whichCount_152 (by decide) rfl (fun h152 => ?_) (fun h152 => ?_)
                    · refine g_aload_n (nx := 159) hX 0 dX11_whichCount_158 rfl rfl rfl ?_
                      refine g_iload_n (nx := 160) hX 1 dX11_whichCount_159 rfl rfl rfl ?_
                      refine g_iload_n (nx := 161) hX 2 dX11_whichCount_160 rfl rfl rfl ?_
                      refine g_ldc2_w (nx := 164) hX 32199698004731236 dX11_whichCount_161 rfl kX11_231 ?_
                      refine g_bipush (nx := 166) hX 7 dX11_whichCount_164 rfl (by decide) ?_
                      refine g_V4 (nx := 169) hX dX11_whichCount_166 rfl mX11_199 yX11_spells_ok (c_X11_spells (l := 7) (K := 19516410020) (h := wL [18, 5, 20, 9, 18, 5, 4]) (by decide) (by omega) (by decide +kernel) (by decide +kernel) hn hm hl) (ga_dn hn rfl) rfl rfl rfl (by decide) rfl (Nat.le_of_ble_eq_true rfl) (Nat.le_of_ble_eq_true rfl) ?_
                      rintro _ _ ⟨rfl, rfl⟩
                      refine g_if_eq (nx := 172) hX 175 dX11_whichCount_169 (by decide) rfl (fun h169 => ?_) (fun h169 => ?_)
                      · refine g_aload_n (nx := 176) hX 0 dX11_whichCount_175 rfl rfl rfl ?_
                        refine g_iload_n (nx := 177) hX 1 dX11_whichCount_176 rfl rfl rfl ?_
                        refine g_iload_n (nx := 178) hX 2 dX11_whichCount_177 rfl rfl rfl ?_
                        refine g_ldc2_w (nx := 181) hX 129117242877294 dX11_whichCount_178 rfl kX11_233 ?_
                        refine g_bipush (nx := 183) hX 6 dX11_whichCount_181 rfl (by decide) ?_
                        refine g_V4 (nx := 186) hX dX11_whichCount_183 rfl mX11_199 yX11_spells_ok (c_X11_spells (l := 6) (K := 719951022) (h := wL [21, 14, 19, 5, 5, 14]) (by decide) (by omega) (by decide +kernel) (by decide +kernel) hn hm hl) (ga_dn hn rfl) rfl rfl rfl (by decide) rfl (Nat.le_of_ble_eq_true rfl) (Nat.le_of_ble_eq_true rfl) ?_
                        rintro _ _ ⟨rfl, rfl⟩
                        refine g_if_eq (nx := 189) hX 192 dX11_whichCount_186 (by decide) rfl (fun h186 => ?_) (fun h186 => ?_)
                        · refine g_aload_n (nx := 193) hX 0 dX11_whichCount_192 rfl rfl rfl ?_
                          refine g_iload_n (nx := 194) hX 1 dX11_whichCount_193 rfl rfl rfl ?_
                          refine g_iload_n (nx := 195) hX 2 dX11_whichCount_194 rfl rfl rfl ?_
                          refine g_ldc2_w (nx := 198) hX 1870030194 dX11_whichCount_195 rfl kX11_235 ?_
                          refine g_iconst (nx := 199) hX 4 dX11_whichCount_198 rfl (by decide) ?_
                          refine g_V4 (nx := 202) hX dX11_whichCount_199 rfl mX11_199 yX11_spells_ok (c_X11_spells (l := 4) (K := 514226) (h := wL [15, 22, 5, 18]) (by decide) (by omega) (by decide +kernel) (by decide +kernel) hn hm hl) (ga_dn hn rfl) rfl rfl rfl (by decide) rfl (Nat.le_of_ble_eq_true rfl) (Nat.le_of_ble_eq_true rfl) ?_
                          rintro _ _ ⟨rfl, rfl⟩
                          refine g_if_eq (nx := 205) hX 208 dX11_whichCount_202 (by decide) rfl (fun h202 => ?_) (fun h202 => ?_)
                          · refine g_aload_n (nx := 209) hX 0 dX11_whichCount_208 rfl rfl rfl ?_
                            refine g_iload_n (nx := 210) hX 1 dX11_whichCount_209 rfl rfl rfl ?_
                            refine g_iload_n (nx := 211) hX 2 dX11_whichCount_210 rfl rfl rfl ?_
                            refine g_ldc2_w (nx := 214) hX 504363246962 dX11_whichCount_211 rfl kX11_237 ?_
                            refine g_iconst (nx := 215) hX 5 dX11_whichCount_214 rfl (by decide) ?_
                            refine g_V4 (nx := 218) hX dX11_whichCount_215 rfl mX11_199 yX11_spells_ok (c_X11_spells (l := 5) (K := 22483122) (h := wL [21, 14, 4, 5, 18]) (by decide) (by omega) (by decide +kernel) (by decide +kernel) hn hm hl) (ga_dn hn rfl) rfl rfl rfl (by decide) rfl (Nat.le_of_ble_eq_true rfl) (Nat.le_of_ble_eq_true rfl) ?_
                            rintro _ _ ⟨rfl, rfl⟩
                            refine g_if_eq (nx := 221) hX 224 dX11_whichCount_218 (by decide) rfl (fun h218 => ?_) (fun h218 => ?_)
                            · refine g_aload_n (nx := 225) hX 0 dX11_whichCount_224 rfl rfl rfl ?_
                              refine g_iload_n (nx := 226) hX 1 dX11_whichCount_225 rfl rfl rfl ?_
                              refine g_iload_n (nx := 227) hX 2 dX11_whichCount_226 rfl rfl rfl ?_
                              refine g_ldc2_w (nx := 230) hX 31367367702181229 dX11_whichCount_227 rfl kX11_239 ?_
                              refine g_bipush (nx := 232) hX 7 dX11_whichCount_230 rfl (by decide) ?_
                              refine g_V4 (nx := 235) hX dX11_whichCount_232 rfl mX11_199 yX11_spells_ok (c_X11_spells (l := 7) (K := 16664278701) (h := wL [15, 16, 20, 9, 13, 21, 13]) (by decide) (by omega) (by decide +kernel) (by decide +kernel) hn hm hl) (ga_dn hn rfl) rfl rfl rfl (by decide) rfl (Nat.le_of_ble_eq_true rfl) (Nat.le_of_ble_eq_true rfl) ?_
                              rintro _ _ ⟨rfl, rfl⟩
                              refine g_if_eq (nx := 238) hX 241 dX11_whichCount_235 (by decide) rfl (fun h235 => ?_) (fun h235 => ?_)
                              · refine g_iconst (nx := 242) hX (-1) dX11_whichCount_241 rfl (by decide) ?_
                                exact g_ireturn hX hP dX11_whichCount_242 rfl (Nat.le_of_ble_eq_true rfl) (Nat.le_of_ble_eq_true rfl) ⟨by unfold x_wc; rw [if_neg (ga_b_0 h10), if_neg (ga_b_0 h25), if_neg (ga_b_0 h41), if_neg (ga_b_0 h56), if_neg (ga_b_0 h72), if_neg (ga_b_0 h87), if_neg (ga_b_0 h103), if_neg (ga_b_0 h119), if_neg (ga_b_0 h136), if_neg (ga_b_0 h152), if_neg (ga_b_0 h169), if_neg (ga_b_0 h186), if_neg (ga_b_0 h202), if_neg (ga_b_0 h218), if_neg (ga_b_0 h235)], rfl⟩
                              · refine g_bipush (nx := 240) hX 14 dX11_whichCount_238 rfl (by decide) ?_
                                exact g_ireturn hX hP dX11_whichCount_240 rfl (Nat.le_of_ble_eq_true rfl) (Nat.le_of_ble_eq_true rfl) ⟨by unfold x_wc; rw [if_neg (ga_b_0 h10), if_neg (ga_b_0 h25), if_neg (ga_b_0 h41), if_neg (ga_b_0 h56), if_neg (ga_b_0 h72), if_neg (ga_b_0 h87), if_neg (ga_b_0 h103), if_neg (ga_b_0 h119), if_neg (ga_b_0 h136), if_neg (ga_b_0 h152), if_neg (ga_b_0 h169), if_neg (ga_b_0 h186), if_neg (ga_b_0 h202), if_neg (ga_b_0 h218), if_pos (ga_b_n0 h235)], rfl⟩
                            · refine g_bipush (nx := 223) hX 13 dX11_whichCount_221 rfl (by decide) ?_
                              exact g_ireturn hX hP dX11_whichCount_223 rfl (Nat.le_of_ble_eq_true rfl) (Nat.le_of_ble_eq_true rfl) ⟨by unfold x_wc; rw [if_neg (ga_b_0 h10), if_neg (ga_b_0 h25), if_neg (ga_b_0 h41), if_neg (ga_b_0 h56), if_neg (ga_b_0 h72), if_neg (ga_b_0 h87), if_neg (ga_b_0 h103), if_neg (ga_b_0 h119), if_neg (ga_b_0 h136), if_neg (ga_b_0 h152), if_neg (ga_b_0 h169), if_neg (ga_b_0 h186), if_neg (ga_b_0 h202), if_pos (ga_b_n0 h218)], rfl⟩
                          · refine g_bipush (nx := 207) hX 12 dX11_whichCount_205 rfl (by decide) ?_
                            exact g_ireturn hX hP dX11_whichCount_207 rfl (Nat.le_of_ble_eq_true rfl) (Nat.le_of_ble_eq_true rfl) ⟨by unfold x_wc; rw [if_neg (ga_b_0 h10), if_neg (ga_b_0 h25), if_neg (ga_b_0 h41), if_neg (ga_b_0 h56), if_neg (ga_b_0 h72), if_neg (ga_b_0 h87), if_neg (ga_b_0 h103), if_neg (ga_b_0 h119), if_neg (ga_b_0 h136), if_neg (ga_b_0 h152), if_neg (ga_b_0 h169), if_neg (ga_b_0 h186), if_pos (ga_b_n0 h202)], rfl⟩
                        · refine g_bipush (nx := 191) hX 11 dX11_whichCount_189 rfl (by decide) ?_
                          exact g_ireturn hX hP dX11_whichCount_191 rfl (Nat.le_of_ble_eq_true rfl) (Nat.le_of_ble_eq_true rfl) ⟨by unfold x_wc; rw [if_neg (ga_b_0 h10), if_neg (ga_b_0 h25), if_neg (ga_b_0 h41), if_neg (ga_b_0 h56), if_neg (ga_b_0 h72), if_neg (ga_b_0 h87), if_neg (ga_b_0 h103), if_neg (ga_b_0 h119), if_neg (ga_b_0 h136), if_neg (ga_b_0 h152), if_neg (ga_b_0 h169), if_pos (ga_b_n0 h186)], rfl⟩
                      · refine g_bipush (nx := 174) hX 10 dX11_whichCount_172 rfl (by decide) ?_
                        exact g_ireturn hX hP dX11_whichCount_174 rfl (Nat.le_of_ble_eq_true rfl) (Nat.le_of_ble_eq_true rfl) ⟨by unfold x_wc; rw [if_neg (ga_b_0 h10), if_neg (ga_b_0 h25), if_neg (ga_b_0 h41), if_neg (ga_b_0 h56), if_neg (ga_b_0 h72), if_neg (ga_b_0 h87), if_neg (ga_b_0 h103), if_neg (ga_b_0 h119), if_neg (ga_b_0 h136), if_neg (ga_b_0 h152), if_pos (ga_b_n0 h169)], rfl⟩
                    · refine g_bipush (nx := 157) hX 9 dX11_whichCount_155 rfl (by decide) ?_
                      exact g_ireturn hX hP dX11_whichCount_157 rfl (Nat.le_of_ble_eq_true rfl) (Nat.le_of_ble_eq_true rfl) ⟨by unfold x_wc; rw [if_neg (ga_b_0 h10), if_neg (ga_b_0 h25), if_neg (ga_b_0 h41), if_neg (ga_b_0 h56), if_neg (ga_b_0 h72), if_neg (ga_b_0 h87), if_neg (ga_b_0 h103), if_neg (ga_b_0 h119), if_neg (ga_b_0 h136), if_pos (ga_b_n0 h152)], rfl⟩
                  · refine g_bipush (nx := 141) hX 8 dX11_whichCount_139 rfl (by decide) ?_
                    exact g_ireturn hX hP dX11_whichCount_141 rfl (Nat.le_of_ble_eq_true rfl) (Nat.le_of_ble_eq_true rfl) ⟨by unfold x_wc; rw [if_neg (ga_b_0 h10), if_neg (ga_b_0 h25), if_neg (ga_b_0 h41), if_neg (ga_b_0 h56), if_neg (ga_b_0 h72), if_neg (ga_b_0 h87), if_neg (ga_b_0 h103), if_neg (ga_b_0 h119), if_pos (ga_b_n0 h136)], rfl⟩
                · refine g_bipush (nx := 124) hX 7 dX11_whichCount_122 rfl (by decide) ?_
                  exact g_ireturn hX hP dX11_whichCount_124 rfl (Nat.le_of_ble_eq_true rfl) (Nat.le_of_ble_eq_true rfl) ⟨by unfold x_wc; rw [if_neg (ga_b_0 h10), if_neg (ga_b_0 h25), if_neg (ga_b_0 h41), if_neg (ga_b_0 h56), if_neg (ga_b_0 h72), if_neg (ga_b_0 h87), if_neg (ga_b_0 h103), if_pos (ga_b_n0 h119)], rfl⟩
              · refine g_bipush (nx := 108) hX 6 dX11_whichCount_106 rfl (by decide) ?_
                exact g_ireturn hX hP dX11_whichCount_108 rfl (Nat.le_of_ble_eq_true rfl) (Nat.le_of_ble_eq_true rfl) ⟨by unfold x_wc; rw [if_neg (ga_b_0 h10), if_neg (ga_b_0 h25), if_neg (ga_b_0 h41), if_neg (ga_b_0 h56), if_neg (ga_b_0 h72), if_neg (ga_b_0 h87), if_pos (ga_b_n0 h103)], rfl⟩
            · refine g_iconst (nx := 91) hX 5 dX11_whichCount_90 rfl (by decide) ?_
              exact g_ireturn hX hP dX11_whichCount_91 rfl (Nat.le_of_ble_eq_true rfl) (Nat.le_of_ble_eq_true rfl) ⟨by unfold x_wc; rw [if_neg (ga_b_0 h10), if_neg (ga_b_0 h25), if_neg (ga_b_0 h41), if_neg (ga_b_0 h56), if_neg (ga_b_0 h72), if_pos (ga_b_n0 h87)], rfl⟩
          · refine g_iconst (nx := 76) hX 4 dX11_whichCount_75 rfl (by decide) ?_
            exact g_ireturn hX hP dX11_whichCount_76 rfl (Nat.le_of_ble_eq_true rfl) (Nat.le_of_ble_eq_true rfl) ⟨by unfold x_wc; rw [if_neg (ga_b_0 h10), if_neg (ga_b_0 h25), if_neg (ga_b_0 h41), if_neg (ga_b_0 h56), if_pos (ga_b_n0 h72)], rfl⟩
        · refine g_iconst (nx := 60) hX 3 dX11_whichCount_59 rfl (by decide) ?_
          exact g_ireturn hX hP dX11_whichCount_60 rfl (Nat.le_of_ble_eq_true rfl) (Nat.le_of_ble_eq_true rfl) ⟨by unfold x_wc; rw [if_neg (ga_b_0 h10), if_neg (ga_b_0 h25), if_neg (ga_b_0 h41), if_pos (ga_b_n0 h56)], rfl⟩
      · refine g_iconst (nx := 45) hX 2 dX11_whichCount_44 rfl (by decide) ?_
        exact g_ireturn hX hP dX11_whichCount_45 rfl (Nat.le_of_ble_eq_true rfl) (Nat.le_of_ble_eq_true rfl) ⟨by unfold x_wc; rw [if_neg (ga_b_0 h10), if_neg (ga_b_0 h25), if_pos (ga_b_n0 h41)], rfl⟩
    · refine g_iconst (nx := 29) hX 1 dX11_whichCount_28 rfl (by decide) ?_
      exact g_ireturn hX hP dX11_whichCount_29 rfl (Nat.le_of_ble_eq_true rfl) (Nat.le_of_ble_eq_true rfl) ⟨by unfold x_wc; rw [if_neg (ga_b_0 h10), if_pos (ga_b_n0 h25)], rfl⟩
  · refine g_iconst (nx := 14) hX 0 dX11_whichCount_13 rfl (by decide) ?_
    exact g_ireturn hX hP dX11_whichCount_14 rfl (Nat.le_of_ble_eq_true rfl) (Nat.le_of_ble_eq_true rfl) ⟨by unfold x_wc; rw [if_pos (ga_b_n0 h10)], rfl⟩
end
