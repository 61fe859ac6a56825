/-! ===== the law: call by call ===== -/
theorem lg_self (x : Int64) : lg_cmp x x = 0 := by unfold lg_cmp; simp
theorem j_C_fence {mt ah : Nat → Int32} {fn : Nat} {em sp v : Int32} (h : j_C mt ah fn (w_s mt fn) em sp (w_op (w_s mt fn) em sp)) (h1 : fn < 30 ∧ 0 ≤ v ∧ v ≤ 2000) : j_C (upd mt fn v) ah (fn + 1) (w_s mt fn + v) em sp (w_op (w_s mt fn + v) em sp) := by
  obtain ⟨c1, -, -, c4, c5, c6, c7⟩ := h
  refine ⟨by omega, ?_, rfl, fun f hf => ?_, c5, c6, c7⟩
  · rw [w_s, w_s_upd mt v fn fn (Nat.le_refl fn), show upd mt fn v fn = v from if_pos rfl]
  · by_cases e : f = fn
    · rw [e, show upd mt fn v fn = v from if_pos rfl]; exact h1.2
    · rw [pk_un e]; exact c4 f (by omega)
theorem w_600_up {ah : Nat → Int32} {j : Nat} {v : Int32} (h : w_600 ah) (hv : -600 ≤ v ∧ v ≤ 600) : w_600 (upd ah j v) := by
  intro i hi
  unfold upd
  split
  · exact hv
  · exact h i hi
section
variable {E : ga_E} {X : ga_X} {d mc ms kc ks L k : Nat} {xs : Nat → Int32} {lnm lds : String}
variable {lt rn fn an sm ka : Nat} {ask fm em sp op top size tot tt_ hd fd fa x1 x2 x3 u1 u2 u3 u4 v1 v2 v3 v4 v5 v6 v7 : Int32} {x4 : Int64} {rl : Value} {tb tm sz ah ou st_ od eo fo fo2 se mt mw mq mf ma mb ms_ ta af bo sg io t1 t2 t3 t4 n1 n2 n3 n4 n5 n6 n7 : Nat → Int32} {nm s t5 hp gv : Nat → Int64} {ol nw : Nat → Option Nat} {sv : Nat → sh_S} {av : Nat → a_S} {cd cd2 : Nat → Nat × Nat} {en : Nat → Nat}
theorem l_feed (hX : ga_B E d (⟨RL, lnm, lds⟩ : MethodName) cL_law 4 mc ms X) (h40 : 40 ≤ d) (hS : ga_Xs E X L xs) (hL : L ≤ 3072) (hE : ∀ a, 27 ≤ a → E.2.1 a = E.1 + a) (hk : 6 * k + 6 ≤ L) (hc1 : kc + 1 ≤ mc) (hc2 : ks + 8 ≤ ms) (J : (lt ≤ 600 ∧ ∀ i, i < lt → 0 ≤ tb i) ∧ r_ok tm sz rn ∧ j_C mt ah fn fm em sp op ∧ j_A (mw, mq, mf, ma, mb, ms_) av ol nw an ∧ (ask = -1 ∨ 0 ≤ ask ∧ ask ≤ nI an) ∧ (∀ j, j < 15 → nm j = x_cn j) ∧ j_R cd cd2 en fo fo2 sm tot tt_ st_ od eo sg bo ∧ (rl = .null ∨ rl = .ref 15 ∨ rl = .ref 21) ∧ ka ≤ an ∧ b_ok ((mw, mq, mf, ma, mb, ms_), ah, ou, op, fn) (cd, en, fo, sm, tot) rn ka sv) (kont : ∀ M', lw_I M' → ga_G E X (kc + 1) (ks + 8) 802 [some (.retAddr 0), some (.ref 0), some (.ref 79), some (.int (nI (6 * k)))] [] M') : ga_G E X kc ks 140 [some (.retAddr 0), some (.ref 0), some (.ref 79), some (.int (nI (6 * k)))] [] (an + 106, (k_0 ask :: k_T lt :: ga_i 600 tb :: k_R rn :: ga_i 24 tm :: ga_i 6 sz :: k_C fm em sp fn op :: ga_i 32 ah :: ga_i 30 ou :: k_L an :: ga_r 4 401 (l_w an) :: ga_r 4 24 ol :: ga_r 4 24 nw :: k_D rl x1 x2 x3 x4 fd fa :: ga_l 39 nm :: k_U 15 top size tot (nI sm) :: ga_i 600 st_ :: ga_i 600 od :: ga_i 24 eo :: ga_i 24 fo :: ga_l 32 s :: k_U 21 u1 u2 u3 u4 :: ga_i 600 t1 :: ga_i 600 t2 :: ga_i 24 t3 :: ga_i 24 t4 :: ga_l 32 t5 :: k_B ka :: ga_r 3 24 b_w :: k_Y hd :: ga_i 120 se :: []), ((m_O (nI lt) (nI rn) (nI fn) (em) (sp) (nI an) (ask) (nI sm) (tt_) (v1) (v2) (fd) (fa) (v3) (v4) (v5) (v6) (v7)) :: ga_i 600 tb :: ga_i 24 tm :: ga_i 30 mt :: ga_i 30 ou :: ga_i 32 ah :: ga_i 401 mw :: ga_i 401 mq :: ga_i 401 mf :: ga_i 401 ma :: ga_i 401 mb :: ga_i 401 ms_ :: ga_i 18 ta :: ga_i 120 af :: ga_i 24 fo2 :: ga_i 25 bo :: ga_i 1300 sg :: ga_i 25 n1 :: ga_i 26 n2 :: ga_i 1300 n3 :: ga_i 250 n4 :: ga_i 25 n5 :: ga_i 40 n6 :: ga_z 40 n7 :: ga_l 310 hp :: ga_l 576 gv :: ga_z 24 io :: []), sh_f sv (a_f av)) := by
  have hn : 106 ≤ an + 106 := by omega
  refine g_aload_n (nx := 141) hX 1 dL_law_140 rfl rfl rfl ?_
  refine g_aload_nR (nx := 142) hX 0 dL_law_141 rfl rfl rfl ?_
  refine g_iload_n (nx := 143) hX 3 dL_law_142 rfl rfl rfl ?_
  refine g_iconst (nx := 144) hX 1 dL_law_143 rfl (by decide) ?_
  refine g_iadd (nx := 145) hX dL_law_144 rfl ?_
  refine g_sld (nx := 146) hX hS (6 * k + 1) (nI_add (6 * k) 1) (by omega) hL dL_law_145 rfl ?_
  refine g_aload_nR (nx := 147) hX 0 dL_law_146 rfl rfl rfl ?_
  refine g_iload_n (nx := 148) hX 3 dL_law_147 rfl rfl rfl ?_
  refine g_iconst (nx := 149) hX 2 dL_law_148 rfl (by decide) ?_
  refine g_iadd (nx := 150) hX dL_law_149 rfl ?_
  refine g_sld (nx := 151) hX hS (6 * k + 2) (nI_add (6 * k) 2) (by omega) hL dL_law_150 rfl ?_
  refine g_aload_nR (nx := 152) hX 0 dL_law_151 rfl rfl rfl ?_
  refine g_iload_n (nx := 153) hX 3 dL_law_152 rfl rfl rfl ?_
  refine g_iconst (nx := 154) hX 3 dL_law_153 rfl (by decide) ?_
  refine g_iadd (nx := 155) hX dL_law_154 rfl ?_
  refine g_sld (nx := 156) hX hS (6 * k + 3) (nI_add (6 * k) 3) (by omega) hL dL_law_155 rfl ?_
  refine g_aload_nR (nx := 157) hX 0 dL_law_156 rfl rfl rfl ?_
  refine g_iload_n (nx := 158) hX 3 dL_law_157 rfl rfl rfl ?_
  refine g_iconst (nx := 159) hX 4 dL_law_158 rfl (by decide) ?_
  refine g_iadd (nx := 160) hX dL_law_159 rfl ?_
  refine g_sld (nx := 161) hX hS (6 * k + 4) (nI_add (6 * k) 4) (by omega) hL dL_law_160 rfl ?_
  refine g_aload_nR (nx := 162) hX 0 dL_law_161 rfl rfl rfl ?_
  refine g_iload_n (nx := 163) hX 3 dL_law_162 rfl rfl rfl ?_
  refine g_iconst (nx := 164) hX 5 dL_law_163 rfl (by decide) ?_
  refine g_iadd (nx := 165) hX dL_law_164 rfl ?_
  refine g_sld (nx := 166) hX hS (6 * k + 5) (nI_add (6 * k) 5) (by omega) hL dL_law_165 rfl ?_
  refine g_V5 (nx := 169) hX dL_law_166 rfl mL_13 yX10_feed_ok (c_X10_feed hn J.1.1) (ga_dn hn rfl) rfl rfl rfl (by omega) rfl (by omega) (by omega) ?_
  rintro _ _ (⟨h1, rfl, rfl⟩ | ⟨h1, rfl, rfl⟩)
  · refine g_aload_n (nx := 170) hX 2 dL_law_169 rfl rfl rfl ?_
    refine g_aload_nR (nx := 171) hX 0 dL_law_170 rfl rfl rfl ?_
    refine g_iload_n (nx := 172) hX 3 dL_law_171 rfl rfl rfl ?_
    refine g_iconst (nx := 173) hX 1 dL_law_172 rfl (by decide) ?_
    refine g_iadd (nx := 174) hX dL_law_173 rfl ?_
    refine g_sld (nx := 175) hX hS (6 * k + 1) (nI_add (6 * k) 1) (by omega) hL dL_law_174 rfl ?_
    refine g_aload_nR (nx := 176) hX 0 dL_law_175 rfl rfl rfl ?_
    refine g_iload_n (nx := 177) hX 3 dL_law_176 rfl rfl rfl ?_
    refine g_iconst (nx := 178) hX 2 dL_law_177 rfl (by decide) ?_
    refine g_iadd (nx := 179) hX dL_law_178 rfl ?_
    refine g_sld (nx := 180) hX hS (6 * k + 2) (nI_add (6 * k) 2) (by omega) hL dL_law_179 rfl ?_
    refine g_aload_nR (nx := 181) hX 0 dL_law_180 rfl rfl rfl ?_
    refine g_iload_n (nx := 182) hX 3 dL_law_181 rfl rfl rfl ?_
    refine g_iconst (nx := 183) hX 3 dL_law_182 rfl (by decide) ?_
    refine g_iadd (nx := 184) hX dL_law_183 rfl ?_
    refine g_sld (nx := 185) hX hS (6 * k + 3) (nI_add (6 * k) 3) (by omega) hL dL_law_184 rfl ?_
    refine g_aload_nR (nx := 186) hX 0 dL_law_185 rfl rfl rfl ?_
    refine g_iload_n (nx := 187) hX 3 dL_law_186 rfl rfl rfl ?_
    refine g_iconst (nx := 188) hX 4 dL_law_187 rfl (by decide) ?_
    refine g_iadd (nx := 189) hX dL_law_188 rfl ?_
    refine g_sld (nx := 190) hX hS (6 * k + 4) (nI_add (6 * k) 4) (by omega) hL dL_law_189 rfl ?_
    refine g_aload_nR (nx := 191) hX 0 dL_law_190 rfl rfl rfl ?_
    refine g_iload_n (nx := 192) hX 3 dL_law_191 rfl rfl rfl ?_
    refine g_iconst (nx := 193) hX 5 dL_law_192 rfl (by decide) ?_
    refine g_iadd (nx := 194) hX dL_law_193 rfl ?_
    refine g_sld (nx := 195) hX hS (6 * k + 5) (nI_add (6 * k) 5) (by omega) hL dL_law_194 rfl ?_
    refine g_V5 (nx := 198) hX dL_law_195 rfl mL_17 yX11_feed_ok (c_X11_feed hn J.1.1) (ga_dn hn rfl) rfl rfl rfl (by omega) rfl (by omega) (by omega) ?_
    rintro _ _ (⟨h2, rfl, rfl⟩ | ⟨h2, rfl, rfl⟩)
    · refine g_icmp_eq (nx := 201) hX 802 dL_law_198 (by decide) rfl (fun h198 => ?_) (fun h198 => ?_)
      · exact g_widen (by omega) (by omega) (kont _ (lw_I_of (cd := cd) (cd2 := cd2) (en := en) ⟨⟨h1, t_20_pos J.1.2⟩, J.2⟩))
      · exact absurd rfl h198
    · exact absurd h1 h2
  · refine g_aload_n (nx := 170) hX 2 dL_law_169 rfl rfl rfl ?_
    refine g_aload_nR (nx := 171) hX 0 dL_law_170 rfl rfl rfl ?_
    refine g_iload_n (nx := 172) hX 3 dL_law_171 rfl rfl rfl ?_
    refine g_iconst (nx := 173) hX 1 dL_law_172 rfl (by decide) ?_
    refine g_iadd (nx := 174) hX dL_law_173 rfl ?_
    refine g_sld (nx := 175) hX hS (6 * k + 1) (nI_add (6 * k) 1) (by omega) hL dL_law_174 rfl ?_
    refine g_aload_nR (nx := 176) hX 0 dL_law_175 rfl rfl rfl ?_
    refine g_iload_n (nx := 177) hX 3 dL_law_176 rfl rfl rfl ?_
    refine g_iconst (nx := 178) hX 2 dL_law_177 rfl (by decide) ?_
    refine g_iadd (nx := 179) hX dL_law_178 rfl ?_
    refine g_sld (nx := 180) hX hS (6 * k + 2) (nI_add (6 * k) 2) (by omega) hL dL_law_179 rfl ?_
    refine g_aload_nR (nx := 181) hX 0 dL_law_180 rfl rfl rfl ?_
    refine g_iload_n (nx := 182) hX 3 dL_law_181 rfl rfl rfl ?_
    refine g_iconst (nx := 183) hX 3 dL_law_182 rfl (by decide) ?_
    refine g_iadd (nx := 184) hX dL_law_183 rfl ?_
    refine g_sld (nx := 185) hX hS (6 * k + 3) (nI_add (6 * k) 3) (by omega) hL dL_law_184 rfl ?_
    refine g_aload_nR (nx := 186) hX 0 dL_law_185 rfl rfl rfl ?_
    refine g_iload_n (nx := 187) hX 3 dL_law_186 rfl rfl rfl ?_
    refine g_iconst (nx := 188) hX 4 dL_law_187 rfl (by decide) ?_
    refine g_iadd (nx := 189) hX dL_law_188 rfl ?_
    refine g_sld (nx := 190) hX hS (6 * k + 4) (nI_add (6 * k) 4) (by omega) hL dL_law_189 rfl ?_
    refine g_aload_nR (nx := 191) hX 0 dL_law_190 rfl rfl rfl ?_
    refine g_iload_n (nx := 192) hX 3 dL_law_191 rfl rfl rfl ?_
    refine g_iconst (nx := 193) hX 5 dL_law_192 rfl (by decide) ?_
    refine g_iadd (nx := 194) hX dL_law_193 rfl ?_
    refine g_sld (nx := 195) hX hS (6 * k + 5) (nI_add (6 * k) 5) (by omega) hL dL_law_194 rfl ?_
    refine g_V5 (nx := 198) hX dL_law_195 rfl mL_17 yX11_feed_ok (c_X11_feed hn J.1.1) (ga_dn hn rfl) rfl rfl rfl (by omega) rfl (by omega) (by omega) ?_
    rintro _ _ (⟨h2, rfl, rfl⟩ | ⟨h2, rfl, rfl⟩)
    · exact absurd h2 h1
    · refine g_icmp_eq (nx := 201) hX 802 dL_law_198 (by decide) rfl (fun h198 => ?_) (fun h198 => ?_)
      · exact g_widen (by omega) (by omega) (kont _ (lw_I_of (cd := cd) (cd2 := cd2) (en := en) J))
      · exact absurd rfl h198
theorem l_end (hX : ga_B E d (⟨RL, lnm, lds⟩ : MethodName) cL_law 4 mc ms X) (h40 : 40 ≤ d) (hS : ga_Xs E X L xs) (hL : L ≤ 3072) (hE : ∀ a, 27 ≤ a → E.2.1 a = E.1 + a) (hk : 6 * k + 6 ≤ L) (hc1 : kc + 1 ≤ mc) (hc2 : ks + 8 ≤ ms) (J : (lt ≤ 600 ∧ ∀ i, i < lt → 0 ≤ tb i) ∧ r_ok tm sz rn ∧ j_C mt ah fn fm em sp op ∧ j_A (mw, mq, mf, ma, mb, ms_) av ol nw an ∧ (ask = -1 ∨ 0 ≤ ask ∧ ask ≤ nI an) ∧ (∀ j, j < 15 → nm j = x_cn j) ∧ j_R cd cd2 en fo fo2 sm tot tt_ st_ od eo sg bo ∧ (rl = .null ∨ rl = .ref 15 ∨ rl = .ref 21) ∧ ka ≤ an ∧ b_ok ((mw, mq, mf, ma, mb, ms_), ah, ou, op, fn) (cd, en, fo, sm, tot) rn ka sv) (kont : ∀ M', lw_I M' → ga_G E X (kc + 1) (ks + 8) 802 [some (.retAddr 0), some (.ref 0), some (.ref 79), some (.int (nI (6 * k)))] [] M') : ga_G E X kc ks 203 [some (.retAddr 0), some (.ref 0), some (.ref 79), some (.int (nI (6 * k)))] [] (an + 106, (k_0 ask :: k_T lt :: ga_i 600 tb :: k_R rn :: ga_i 24 tm :: ga_i 6 sz :: k_C fm em sp fn op :: ga_i 32 ah :: ga_i 30 ou :: k_L an :: ga_r 4 401 (l_w an) :: ga_r 4 24 ol :: ga_r 4 24 nw :: k_D rl x1 x2 x3 x4 fd fa :: ga_l 39 nm :: k_U 15 top size tot (nI sm) :: ga_i 600 st_ :: ga_i 600 od :: ga_i 24 eo :: ga_i 24 fo :: ga_l 32 s :: k_U 21 u1 u2 u3 u4 :: ga_i 600 t1 :: ga_i 600 t2 :: ga_i 24 t3 :: ga_i 24 t4 :: ga_l 32 t5 :: k_B ka :: ga_r 3 24 b_w :: k_Y hd :: ga_i 120 se :: []), ((m_O (nI lt) (nI rn) (nI fn) (em) (sp) (nI an) (ask) (nI sm) (tt_) (v1) (v2) (fd) (fa) (v3) (v4) (v5) (v6) (v7)) :: ga_i 600 tb :: ga_i 24 tm :: ga_i 30 mt :: ga_i 30 ou :: ga_i 32 ah :: ga_i 401 mw :: ga_i 401 mq :: ga_i 401 mf :: ga_i 401 ma :: ga_i 401 mb :: ga_i 401 ms_ :: ga_i 18 ta :: ga_i 120 af :: ga_i 24 fo2 :: ga_i 25 bo :: ga_i 1300 sg :: ga_i 25 n1 :: ga_i 26 n2 :: ga_i 1300 n3 :: ga_i 250 n4 :: ga_i 25 n5 :: ga_i 40 n6 :: ga_z 40 n7 :: ga_l 310 hp :: ga_l 576 gv :: ga_z 24 io :: []), sh_f sv (a_f av)) := by
  have hn : 106 ≤ an + 106 := by omega
  refine g_aload_n (nx := 204) hX 1 dL_law_203 rfl rfl rfl ?_
  refine g_aload_nR (nx := 205) hX 0 dL_law_204 rfl rfl rfl ?_
  refine g_iload_n (nx := 206) hX 3 dL_law_205 rfl rfl rfl ?_
  refine g_iconst (nx := 207) hX 1 dL_law_206 rfl (by decide) ?_
  refine g_iadd (nx := 208) hX dL_law_207 rfl ?_
  refine g_sld (nx := 209) hX hS (6 * k + 1) (nI_add (6 * k) 1) (by omega) hL dL_law_208 rfl ?_
  refine g_V1 (nx := 212) hX dL_law_209 rfl mL_18 yX10_end_ok (c_X10_end hn) (ga_dn hn rfl) rfl rfl rfl (by omega) rfl (by omega) (by omega) ?_
  rintro _ _ (⟨h1, rfl, rfl⟩ | ⟨h1, rfl, rfl⟩)
  · refine g_aload_n (nx := 213) hX 2 dL_law_212 rfl rfl rfl ?_
    refine g_aload_nR (nx := 214) hX 0 dL_law_213 rfl rfl rfl ?_
    refine g_iload_n (nx := 215) hX 3 dL_law_214 rfl rfl rfl ?_
    refine g_iconst (nx := 216) hX 1 dL_law_215 rfl (by decide) ?_
    refine g_iadd (nx := 217) hX dL_law_216 rfl ?_
    refine g_sld (nx := 218) hX hS (6 * k + 1) (nI_add (6 * k) 1) (by omega) hL dL_law_217 rfl ?_
    refine g_V1 (nx := 221) hX dL_law_218 rfl mL_22 yX11_end_ok (c_X11_end hn) (ga_dn hn rfl) rfl rfl rfl (by omega) rfl (by omega) (by omega) ?_
    rintro _ _ (⟨h2, rfl, rfl⟩ | ⟨h2, rfl, rfl⟩)
    · refine g_icmp_eq (nx := 224) hX 802 dL_law_221 (by decide) rfl (fun h221 => ?_) (fun h221 => ?_)
      · obtain ⟨j, hj, e, -⟩ := v_ofle h1.1 h1.2 (by have := J.1.1; omega)
        rw [e]
        exact g_widen (by omega) (by omega) (kont _ (lw_I_of (cd := cd) (cd2 := cd2) (en := en) ⟨⟨by have := J.1.1; omega, fun i hi => J.1.2 i (by omega)⟩, J.2⟩))
      · exact absurd rfl h221
    · exact absurd h1 h2
  · refine g_aload_n (nx := 213) hX 2 dL_law_212 rfl rfl rfl ?_
    refine g_aload_nR (nx := 214) hX 0 dL_law_213 rfl rfl rfl ?_
    refine g_iload_n (nx := 215) hX 3 dL_law_214 rfl rfl rfl ?_
    refine g_iconst (nx := 216) hX 1 dL_law_215 rfl (by decide) ?_
    refine g_iadd (nx := 217) hX dL_law_216 rfl ?_
    refine g_sld (nx := 218) hX hS (6 * k + 1) (nI_add (6 * k) 1) (by omega) hL dL_law_217 rfl ?_
    refine g_V1 (nx := 221) hX dL_law_218 rfl mL_22 yX11_end_ok (c_X11_end hn) (ga_dn hn rfl) rfl rfl rfl (by omega) rfl (by omega) (by omega) ?_
    rintro _ _ (⟨h2, rfl, rfl⟩ | ⟨h2, rfl, rfl⟩)
    · exact absurd h2 h1
    · refine g_icmp_eq (nx := 224) hX 802 dL_law_221 (by decide) rfl (fun h221 => ?_) (fun h221 => ?_)
      · exact g_widen (by omega) (by omega) (kont _ (lw_I_of (cd := cd) (cd2 := cd2) (en := en) J))
      · exact absurd rfl h221
theorem l_rider (hX : ga_B E d (⟨RL, lnm, lds⟩ : MethodName) cL_law 4 mc ms X) (h40 : 40 ≤ d) (hS : ga_Xs E X L xs) (hL : L ≤ 3072) (hE : ∀ a, 27 ≤ a → E.2.1 a = E.1 + a) (hk : 6 * k + 6 ≤ L) (hc1 : kc + 1 ≤ mc) (hc2 : ks + 8 ≤ ms) (J : (lt ≤ 600 ∧ ∀ i, i < lt → 0 ≤ tb i) ∧ r_ok tm sz rn ∧ j_C mt ah fn fm em sp op ∧ j_A (mw, mq, mf, ma, mb, ms_) av ol nw an ∧ (ask = -1 ∨ 0 ≤ ask ∧ ask ≤ nI an) ∧ (∀ j, j < 15 → nm j = x_cn j) ∧ j_R cd cd2 en fo fo2 sm tot tt_ st_ od eo sg bo ∧ (rl = .null ∨ rl = .ref 15 ∨ rl = .ref 21) ∧ ka ≤ an ∧ b_ok ((mw, mq, mf, ma, mb, ms_), ah, ou, op, fn) (cd, en, fo, sm, tot) rn ka sv) (kont : ∀ M', lw_I M' → ga_G E X (kc + 1) (ks + 8) 802 [some (.retAddr 0), some (.ref 0), some (.ref 79), some (.int (nI (6 * k)))] [] M') : ga_G E X kc ks 226 [some (.retAddr 0), some (.ref 0), some (.ref 79), some (.int (nI (6 * k)))] [] (an + 106, (k_0 ask :: k_T lt :: ga_i 600 tb :: k_R rn :: ga_i 24 tm :: ga_i 6 sz :: k_C fm em sp fn op :: ga_i 32 ah :: ga_i 30 ou :: k_L an :: ga_r 4 401 (l_w an) :: ga_r 4 24 ol :: ga_r 4 24 nw :: k_D rl x1 x2 x3 x4 fd fa :: ga_l 39 nm :: k_U 15 top size tot (nI sm) :: ga_i 600 st_ :: ga_i 600 od :: ga_i 24 eo :: ga_i 24 fo :: ga_l 32 s :: k_U 21 u1 u2 u3 u4 :: ga_i 600 t1 :: ga_i 600 t2 :: ga_i 24 t3 :: ga_i 24 t4 :: ga_l 32 t5 :: k_B ka :: ga_r 3 24 b_w :: k_Y hd :: ga_i 120 se :: []), ((m_O (nI lt) (nI rn) (nI fn) (em) (sp) (nI an) (ask) (nI sm) (tt_) (v1) (v2) (fd) (fa) (v3) (v4) (v5) (v6) (v7)) :: ga_i 600 tb :: ga_i 24 tm :: ga_i 30 mt :: ga_i 30 ou :: ga_i 32 ah :: ga_i 401 mw :: ga_i 401 mq :: ga_i 401 mf :: ga_i 401 ma :: ga_i 401 mb :: ga_i 401 ms_ :: ga_i 18 ta :: ga_i 120 af :: ga_i 24 fo2 :: ga_i 25 bo :: ga_i 1300 sg :: ga_i 25 n1 :: ga_i 26 n2 :: ga_i 1300 n3 :: ga_i 250 n4 :: ga_i 25 n5 :: ga_i 40 n6 :: ga_z 40 n7 :: ga_l 310 hp :: ga_l 576 gv :: ga_z 24 io :: []), sh_f sv (a_f av)) := by
  have hn : 106 ≤ an + 106 := by omega
  refine g_aload_n (nx := 227) hX 1 dL_law_226 rfl rfl rfl ?_
  refine g_aload_nR (nx := 228) hX 0 dL_law_227 rfl rfl rfl ?_
  refine g_iload_n (nx := 229) hX 3 dL_law_228 rfl rfl rfl ?_
  refine g_iconst (nx := 230) hX 1 dL_law_229 rfl (by decide) ?_
  refine g_iadd (nx := 231) hX dL_law_230 rfl ?_
  refine g_sld (nx := 232) hX hS (6 * k + 1) (nI_add (6 * k) 1) (by omega) hL dL_law_231 rfl ?_
  refine g_V1 (nx := 235) hX dL_law_232 rfl mL_23 yX10_rider_ok (c_X10_rider hn J.2.1) (ga_dn hn rfl) rfl rfl rfl (by omega) rfl (by omega) (by omega) ?_
  rintro _ _ (⟨h1, rfl, rfl⟩ | ⟨h1, rfl, rfl⟩)
  · refine g_aload_n (nx := 236) hX 2 dL_law_235 rfl rfl rfl ?_
    refine g_aload_nR (nx := 237) hX 0 dL_law_236 rfl rfl rfl ?_
    refine g_iload_n (nx := 238) hX 3 dL_law_237 rfl rfl rfl ?_
    refine g_iconst (nx := 239) hX 1 dL_law_238 rfl (by decide) ?_
    refine g_iadd (nx := 240) hX dL_law_239 rfl ?_
    refine g_sld (nx := 241) hX hS (6 * k + 1) (nI_add (6 * k) 1) (by omega) hL dL_law_240 rfl ?_
    refine g_V1 (nx := 244) hX dL_law_241 rfl mL_27 yX11_rider_ok (c_X11_rider hn J.2.1.1) (ga_dn hn rfl) rfl rfl rfl (by omega) rfl (by omega) (by omega) ?_
    rintro _ _ (⟨h2, rfl, rfl⟩ | ⟨h2, rfl, rfl⟩)
    · refine g_icmp_eq (nx := 247) hX 802 dL_law_244 (by decide) rfl (fun h244 => ?_) (fun h244 => ?_)
      · exact g_widen (by omega) (by omega) (kont _ (lw_I_of (cd := cd) (cd2 := cd2) (en := en) ⟨J.1, r_ok_add J.2.1 h1, J.2.2.1, J.2.2.2.1, J.2.2.2.2.1, J.2.2.2.2.2.1, J.2.2.2.2.2.2.1, J.2.2.2.2.2.2.2.1, J.2.2.2.2.2.2.2.2.1, fun r hr hz => ⟨by have := (J.2.2.2.2.2.2.2.2.2 r hr hz).1; omega, (J.2.2.2.2.2.2.2.2.2 r hr hz).2⟩⟩))
      · exact absurd rfl h244
    · exact absurd h1 h2
  · refine g_aload_n (nx := 236) hX 2 dL_law_235 rfl rfl rfl ?_
    refine g_aload_nR (nx := 237) hX 0 dL_law_236 rfl rfl rfl ?_
    refine g_iload_n (nx := 238) hX 3 dL_law_237 rfl rfl rfl ?_
    refine g_iconst (nx := 239) hX 1 dL_law_238 rfl (by decide) ?_
    refine g_iadd (nx := 240) hX dL_law_239 rfl ?_
    refine g_sld (nx := 241) hX hS (6 * k + 1) (nI_add (6 * k) 1) (by omega) hL dL_law_240 rfl ?_
    refine g_V1 (nx := 244) hX dL_law_241 rfl mL_27 yX11_rider_ok (c_X11_rider hn J.2.1.1) (ga_dn hn rfl) rfl rfl rfl (by omega) rfl (by omega) (by omega) ?_
    rintro _ _ (⟨h2, rfl, rfl⟩ | ⟨h2, rfl, rfl⟩)
    · exact absurd h2 h1
    · refine g_icmp_eq (nx := 247) hX 802 dL_law_244 (by decide) rfl (fun h244 => ?_) (fun h244 => ?_)
      · exact g_widen (by omega) (by omega) (kont _ (lw_I_of (cd := cd) (cd2 := cd2) (en := en) J))
      · exact absurd rfl h244
theorem l_fence (hX : ga_B E d (⟨RL, lnm, lds⟩ : MethodName) cL_law 4 mc ms X) (h40 : 40 ≤ d) (hS : ga_Xs E X L xs) (hL : L ≤ 3072) (hE : ∀ a, 27 ≤ a → E.2.1 a = E.1 + a) (hk : 6 * k + 6 ≤ L) (hc1 : kc + 1 ≤ mc) (hc2 : ks + 8 ≤ ms) (J : (lt ≤ 600 ∧ ∀ i, i < lt → 0 ≤ tb i) ∧ r_ok tm sz rn ∧ j_C mt ah fn fm em sp op ∧ j_A (mw, mq, mf, ma, mb, ms_) av ol nw an ∧ (ask = -1 ∨ 0 ≤ ask ∧ ask ≤ nI an) ∧ (∀ j, j < 15 → nm j = x_cn j) ∧ j_R cd cd2 en fo fo2 sm tot tt_ st_ od eo sg bo ∧ (rl = .null ∨ rl = .ref 15 ∨ rl = .ref 21) ∧ ka ≤ an ∧ b_ok ((mw, mq, mf, ma, mb, ms_), ah, ou, op, fn) (cd, en, fo, sm, tot) rn ka sv) (kont : ∀ M', lw_I M' → ga_G E X (kc + 1) (ks + 8) 802 [some (.retAddr 0), some (.ref 0), some (.ref 79), some (.int (nI (6 * k)))] [] M') : ga_G E X kc ks 249 [some (.retAddr 0), some (.ref 0), some (.ref 79), some (.int (nI (6 * k)))] [] (an + 106, (k_0 ask :: k_T lt :: ga_i 600 tb :: k_R rn :: ga_i 24 tm :: ga_i 6 sz :: k_C fm em sp fn op :: ga_i 32 ah :: ga_i 30 ou :: k_L an :: ga_r 4 401 (l_w an) :: ga_r 4 24 ol :: ga_r 4 24 nw :: k_D rl x1 x2 x3 x4 fd fa :: ga_l 39 nm :: k_U 15 top size tot (nI sm) :: ga_i 600 st_ :: ga_i 600 od :: ga_i 24 eo :: ga_i 24 fo :: ga_l 32 s :: k_U 21 u1 u2 u3 u4 :: ga_i 600 t1 :: ga_i 600 t2 :: ga_i 24 t3 :: ga_i 24 t4 :: ga_l 32 t5 :: k_B ka :: ga_r 3 24 b_w :: k_Y hd :: ga_i 120 se :: []), ((m_O (nI lt) (nI rn) (nI fn) (em) (sp) (nI an) (ask) (nI sm) (tt_) (v1) (v2) (fd) (fa) (v3) (v4) (v5) (v6) (v7)) :: ga_i 600 tb :: ga_i 24 tm :: ga_i 30 mt :: ga_i 30 ou :: ga_i 32 ah :: ga_i 401 mw :: ga_i 401 mq :: ga_i 401 mf :: ga_i 401 ma :: ga_i 401 mb :: ga_i 401 ms_ :: ga_i 18 ta :: ga_i 120 af :: ga_i 24 fo2 :: ga_i 25 bo :: ga_i 1300 sg :: ga_i 25 n1 :: ga_i 26 n2 :: ga_i 1300 n3 :: ga_i 250 n4 :: ga_i 25 n5 :: ga_i 40 n6 :: ga_z 40 n7 :: ga_l 310 hp :: ga_l 576 gv :: ga_z 24 io :: []), sh_f sv (a_f av)) := by
  have hn : 106 ≤ an + 106 := by omega
  have e2 := J.2.2.1.2.2.1
  have e1 := J.2.2.1.2.1
  subst e2
  subst e1
  refine g_aload_n (nx := 250) hX 1 dL_law_249 rfl rfl rfl ?_
  refine g_aload_nR (nx := 251) hX 0 dL_law_250 rfl rfl rfl ?_
  refine g_iload_n (nx := 252) hX 3 dL_law_251 rfl rfl rfl ?_
  refine g_iconst (nx := 253) hX 1 dL_law_252 rfl (by decide) ?_
  refine g_iadd (nx := 254) hX dL_law_253 rfl ?_
  refine g_sld (nx := 255) hX hS (6 * k + 1) (nI_add (6 * k) 1) (by omega) hL dL_law_254 rfl ?_
  refine g_V1 (nx := 258) hX dL_law_255 rfl mL_28 yX10_fence_ok (c_X10_fence hn J.2.2.1.1 (j_C_op J.2.2.1).1) (ga_dn hn rfl) rfl rfl rfl (by omega) rfl (by omega) (by omega) ?_
  rintro _ _ ⟨sv', hz, (⟨h1, rfl, rfl⟩ | ⟨h1, rfl, rfl⟩)⟩
  · refine g_aload_n (nx := 259) hX 2 dL_law_258 rfl rfl rfl ?_
    refine g_aload_nR (nx := 260) hX 0 dL_law_259 rfl rfl rfl ?_
    refine g_iload_n (nx := 261) hX 3 dL_law_260 rfl rfl rfl ?_
    refine g_iconst (nx := 262) hX 1 dL_law_261 rfl (by decide) ?_
    refine g_iadd (nx := 263) hX dL_law_262 rfl ?_
    refine g_sld (nx := 264) hX hS (6 * k + 1) (nI_add (6 * k) 1) (by omega) hL dL_law_263 rfl ?_
    refine g_V1 (nx := 267) hX dL_law_264 rfl mL_31 yX11_fence_ok (c_X11_fence hn J.2.2.1.1) (ga_dn hn rfl) rfl rfl rfl (by omega) rfl (by omega) (by omega) ?_
    rintro _ _ (⟨h2, rfl, rfl⟩ | ⟨h2, rfl, rfl⟩)
    · refine g_icmp_eq (nx := 270) hX 802 dL_law_267 (by decide) rfl (fun h267 => ?_) (fun h267 => ?_)
      · exact g_widen (by omega) (by omega) (kont _ (lw_I_of (cd := cd) (cd2 := cd2) (en := en) ⟨J.1, J.2.1, j_C_fence J.2.2.1 h1, J.2.2.2.1, J.2.2.2.2.1, J.2.2.2.2.2.1, J.2.2.2.2.2.2.1, J.2.2.2.2.2.2.2.1, J.2.2.2.2.2.2.2.2.1, b_stale hz⟩))
      · exact absurd rfl h267
    · exact absurd h1 h2
  · refine g_aload_n (nx := 259) hX 2 dL_law_258 rfl rfl rfl ?_
    refine g_aload_nR (nx := 260) hX 0 dL_law_259 rfl rfl rfl ?_
    refine g_iload_n (nx := 261) hX 3 dL_law_260 rfl rfl rfl ?_
    refine g_iconst (nx := 262) hX 1 dL_law_261 rfl (by decide) ?_
    refine g_iadd (nx := 263) hX dL_law_262 rfl ?_
    refine g_sld (nx := 264) hX hS (6 * k + 1) (nI_add (6 * k) 1) (by omega) hL dL_law_263 rfl ?_
    refine g_V1 (nx := 267) hX dL_law_264 rfl mL_31 yX11_fence_ok (c_X11_fence hn J.2.2.1.1) (ga_dn hn rfl) rfl rfl rfl (by omega) rfl (by omega) (by omega) ?_
    rintro _ _ (⟨h2, rfl, rfl⟩ | ⟨h2, rfl, rfl⟩)
    · exact absurd h2 h1
    · refine g_icmp_eq (nx := 270) hX 802 dL_law_267 (by decide) rfl (fun h267 => ?_) (fun h267 => ?_)
      · exact g_widen (by omega) (by omega) (kont _ (lw_I_of (cd := cd) (cd2 := cd2) (en := en) ⟨J.1, J.2.1, J.2.2.1, J.2.2.2.1, J.2.2.2.2.1, J.2.2.2.2.2.1, J.2.2.2.2.2.2.1, J.2.2.2.2.2.2.2.1, J.2.2.2.2.2.2.2.2.1, b_stale hz⟩))
      · exact absurd rfl h267
theorem l_course (hX : ga_B E d (⟨RL, lnm, lds⟩ : MethodName) cL_law 4 mc ms X) (h40 : 40 ≤ d) (hS : ga_Xs E X L xs) (hL : L ≤ 3072) (hE : ∀ a, 27 ≤ a → E.2.1 a = E.1 + a) (hk : 6 * k + 6 ≤ L) (hc1 : kc + 1 ≤ mc) (hc2 : ks + 8 ≤ ms) (J : (lt ≤ 600 ∧ ∀ i, i < lt → 0 ≤ tb i) ∧ r_ok tm sz rn ∧ j_C mt ah fn fm em sp op ∧ j_A (mw, mq, mf, ma, mb, ms_) av ol nw an ∧ (ask = -1 ∨ 0 ≤ ask ∧ ask ≤ nI an) ∧ (∀ j, j < 15 → nm j = x_cn j) ∧ j_R cd cd2 en fo fo2 sm tot tt_ st_ od eo sg bo ∧ (rl = .null ∨ rl = .ref 15 ∨ rl = .ref 21) ∧ ka ≤ an ∧ b_ok ((mw, mq, mf, ma, mb, ms_), ah, ou, op, fn) (cd, en, fo, sm, tot) rn ka sv) (kont : ∀ M', lw_I M' → ga_G E X (kc + 1) (ks + 8) 802 [some (.retAddr 0), some (.ref 0), some (.ref 79), some (.int (nI (6 * k)))] [] M') : ga_G E X kc ks 272 [some (.retAddr 0), some (.ref 0), some (.ref 79), some (.int (nI (6 * k)))] [] (an + 106, (k_0 ask :: k_T lt :: ga_i 600 tb :: k_R rn :: ga_i 24 tm :: ga_i 6 sz :: k_C fm em sp fn op :: ga_i 32 ah :: ga_i 30 ou :: k_L an :: ga_r 4 401 (l_w an) :: ga_r 4 24 ol :: ga_r 4 24 nw :: k_D rl x1 x2 x3 x4 fd fa :: ga_l 39 nm :: k_U 15 top size tot (nI sm) :: ga_i 600 st_ :: ga_i 600 od :: ga_i 24 eo :: ga_i 24 fo :: ga_l 32 s :: k_U 21 u1 u2 u3 u4 :: ga_i 600 t1 :: ga_i 600 t2 :: ga_i 24 t3 :: ga_i 24 t4 :: ga_l 32 t5 :: k_B ka :: ga_r 3 24 b_w :: k_Y hd :: ga_i 120 se :: []), ((m_O (nI lt) (nI rn) (nI fn) (em) (sp) (nI an) (ask) (nI sm) (tt_) (v1) (v2) (fd) (fa) (v3) (v4) (v5) (v6) (v7)) :: ga_i 600 tb :: ga_i 24 tm :: ga_i 30 mt :: ga_i 30 ou :: ga_i 32 ah :: ga_i 401 mw :: ga_i 401 mq :: ga_i 401 mf :: ga_i 401 ma :: ga_i 401 mb :: ga_i 401 ms_ :: ga_i 18 ta :: ga_i 120 af :: ga_i 24 fo2 :: ga_i 25 bo :: ga_i 1300 sg :: ga_i 25 n1 :: ga_i 26 n2 :: ga_i 1300 n3 :: ga_i 250 n4 :: ga_i 25 n5 :: ga_i 40 n6 :: ga_z 40 n7 :: ga_l 310 hp :: ga_l 576 gv :: ga_z 24 io :: []), sh_f sv (a_f av)) := by
  have hn : 106 ≤ an + 106 := by omega
  have e2 := J.2.2.1.2.2.1
  have e1 := J.2.2.1.2.1
  subst e2
  subst e1
  refine g_aload_n (nx := 273) hX 1 dL_law_272 rfl rfl rfl ?_
  refine g_aload_nR (nx := 274) hX 0 dL_law_273 rfl rfl rfl ?_
  refine g_iload_n (nx := 275) hX 3 dL_law_274 rfl rfl rfl ?_
  refine g_iconst (nx := 276) hX 1 dL_law_275 rfl (by decide) ?_
  refine g_iadd (nx := 277) hX dL_law_276 rfl ?_
  refine g_sld (nx := 278) hX hS (6 * k + 1) (nI_add (6 * k) 1) (by omega) hL dL_law_277 rfl ?_
  refine g_aload_nR (nx := 279) hX 0 dL_law_278 rfl rfl rfl ?_
  refine g_iload_n (nx := 280) hX 3 dL_law_279 rfl rfl rfl ?_
  refine g_iconst (nx := 281) hX 2 dL_law_280 rfl (by decide) ?_
  refine g_iadd (nx := 282) hX dL_law_281 rfl ?_
  refine g_sld (nx := 283) hX hS (6 * k + 2) (nI_add (6 * k) 2) (by omega) hL dL_law_282 rfl ?_
  refine g_V2 (nx := 286) hX dL_law_283 rfl mL_32 yX10_course_ok (c_X10_course hn) (ga_dn hn rfl) rfl rfl rfl (by omega) rfl (by omega) (by omega) ?_
  rintro _ _ ⟨sv', hz, (⟨h1, rfl, rfl⟩ | ⟨h1, rfl, rfl⟩)⟩
  · refine g_aload_n (nx := 287) hX 2 dL_law_286 rfl rfl rfl ?_
    refine g_aload_nR (nx := 288) hX 0 dL_law_287 rfl rfl rfl ?_
    refine g_iload_n (nx := 289) hX 3 dL_law_288 rfl rfl rfl ?_
    refine g_iconst (nx := 290) hX 1 dL_law_289 rfl (by decide) ?_
    refine g_iadd (nx := 291) hX dL_law_290 rfl ?_
    refine g_sld (nx := 292) hX hS (6 * k + 1) (nI_add (6 * k) 1) (by omega) hL dL_law_291 rfl ?_
    refine g_aload_nR (nx := 293) hX 0 dL_law_292 rfl rfl rfl ?_
    refine g_iload_n (nx := 294) hX 3 dL_law_293 rfl rfl rfl ?_
    refine g_iconst (nx := 295) hX 2 dL_law_294 rfl (by decide) ?_
    refine g_iadd (nx := 296) hX dL_law_295 rfl ?_
    refine g_sld (nx := 297) hX hS (6 * k + 2) (nI_add (6 * k) 2) (by omega) hL dL_law_296 rfl ?_
    refine g_V2 (nx := 300) hX dL_law_297 rfl mL_36 yX11_course_ok (c_X11_course hn J.2.2.1.1) (ga_dn hn rfl) rfl rfl rfl (by omega) rfl (by omega) (by omega) ?_
    rintro _ _ (⟨h2, rfl, rfl⟩ | ⟨h2, rfl, rfl⟩)
    · refine g_icmp_eq (nx := 303) hX 802 dL_law_300 (by decide) rfl (fun h300 => ?_) (fun h300 => ?_)
      · exact g_widen (by omega) (by omega) (kont _ (lw_I_of (cd := cd) (cd2 := cd2) (en := en) ⟨J.1, J.2.1, ⟨J.2.2.1.1, rfl, rfl, J.2.2.1.2.2.2.1, h1.1, h1.2, J.2.2.1.2.2.2.2.2.2⟩, J.2.2.2.1, J.2.2.2.2.1, J.2.2.2.2.2.1, J.2.2.2.2.2.2.1, J.2.2.2.2.2.2.2.1, J.2.2.2.2.2.2.2.2.1, b_stale hz⟩))
      · exact absurd rfl h300
    · exact absurd h1 h2
  · refine g_aload_n (nx := 287) hX 2 dL_law_286 rfl rfl rfl ?_
    refine g_aload_nR (nx := 288) hX 0 dL_law_287 rfl rfl rfl ?_
    refine g_iload_n (nx := 289) hX 3 dL_law_288 rfl rfl rfl ?_
    refine g_iconst (nx := 290) hX 1 dL_law_289 rfl (by decide) ?_
    refine g_iadd (nx := 291) hX dL_law_290 rfl ?_
    refine g_sld (nx := 292) hX hS (6 * k + 1) (nI_add (6 * k) 1) (by omega) hL dL_law_291 rfl ?_
    refine g_aload_nR (nx := 293) hX 0 dL_law_292 rfl rfl rfl ?_
    refine g_iload_n (nx := 294) hX 3 dL_law_293 rfl rfl rfl ?_
    refine g_iconst (nx := 295) hX 2 dL_law_294 rfl (by decide) ?_
    refine g_iadd (nx := 296) hX dL_law_295 rfl ?_
    refine g_sld (nx := 297) hX hS (6 * k + 2) (nI_add (6 * k) 2) (by omega) hL dL_law_296 rfl ?_
    refine g_V2 (nx := 300) hX dL_law_297 rfl mL_36 yX11_course_ok (c_X11_course hn J.2.2.1.1) (ga_dn hn rfl) rfl rfl rfl (by omega) rfl (by omega) (by omega) ?_
    rintro _ _ (⟨h2, rfl, rfl⟩ | ⟨h2, rfl, rfl⟩)
    · exact absurd h2 h1
    · refine g_icmp_eq (nx := 303) hX 802 dL_law_300 (by decide) rfl (fun h300 => ?_) (fun h300 => ?_)
      · exact g_widen (by omega) (by omega) (kont _ (lw_I_of (cd := cd) (cd2 := cd2) (en := en) ⟨J.1, J.2.1, J.2.2.1, J.2.2.2.1, J.2.2.2.2.1, J.2.2.2.2.2.1, J.2.2.2.2.2.2.1, J.2.2.2.2.2.2.2.1, J.2.2.2.2.2.2.2.2.1, b_stale hz⟩))
      · exact absurd rfl h300
theorem l_clock (hX : ga_B E d (⟨RL, lnm, lds⟩ : MethodName) cL_law 4 mc ms X) (h40 : 40 ≤ d) (hS : ga_Xs E X L xs) (hL : L ≤ 3072) (hE : ∀ a, 27 ≤ a → E.2.1 a = E.1 + a) (hk : 6 * k + 6 ≤ L) (hc1 : kc + 1 ≤ mc) (hc2 : ks + 8 ≤ ms) (J : (lt ≤ 600 ∧ ∀ i, i < lt → 0 ≤ tb i) ∧ r_ok tm sz rn ∧ j_C mt ah fn fm em sp op ∧ j_A (mw, mq, mf, ma, mb, ms_) av ol nw an ∧ (ask = -1 ∨ 0 ≤ ask ∧ ask ≤ nI an) ∧ (∀ j, j < 15 → nm j = x_cn j) ∧ j_R cd cd2 en fo fo2 sm tot tt_ st_ od eo sg bo ∧ (rl = .null ∨ rl = .ref 15 ∨ rl = .ref 21) ∧ ka ≤ an ∧ b_ok ((mw, mq, mf, ma, mb, ms_), ah, ou, op, fn) (cd, en, fo, sm, tot) rn ka sv) (kont : ∀ M', lw_I M' → ga_G E X (kc + 1) (ks + 8) 802 [some (.retAddr 0), some (.ref 0), some (.ref 79), some (.int (nI (6 * k)))] [] M') : ga_G E X kc ks 305 [some (.retAddr 0), some (.ref 0), some (.ref 79), some (.int (nI (6 * k)))] [] (an + 106, (k_0 ask :: k_T lt :: ga_i 600 tb :: k_R rn :: ga_i 24 tm :: ga_i 6 sz :: k_C fm em sp fn op :: ga_i 32 ah :: ga_i 30 ou :: k_L an :: ga_r 4 401 (l_w an) :: ga_r 4 24 ol :: ga_r 4 24 nw :: k_D rl x1 x2 x3 x4 fd fa :: ga_l 39 nm :: k_U 15 top size tot (nI sm) :: ga_i 600 st_ :: ga_i 600 od :: ga_i 24 eo :: ga_i 24 fo :: ga_l 32 s :: k_U 21 u1 u2 u3 u4 :: ga_i 600 t1 :: ga_i 600 t2 :: ga_i 24 t3 :: ga_i 24 t4 :: ga_l 32 t5 :: k_B ka :: ga_r 3 24 b_w :: k_Y hd :: ga_i 120 se :: []), ((m_O (nI lt) (nI rn) (nI fn) (em) (sp) (nI an) (ask) (nI sm) (tt_) (v1) (v2) (fd) (fa) (v3) (v4) (v5) (v6) (v7)) :: ga_i 600 tb :: ga_i 24 tm :: ga_i 30 mt :: ga_i 30 ou :: ga_i 32 ah :: ga_i 401 mw :: ga_i 401 mq :: ga_i 401 mf :: ga_i 401 ma :: ga_i 401 mb :: ga_i 401 ms_ :: ga_i 18 ta :: ga_i 120 af :: ga_i 24 fo2 :: ga_i 25 bo :: ga_i 1300 sg :: ga_i 25 n1 :: ga_i 26 n2 :: ga_i 1300 n3 :: ga_i 250 n4 :: ga_i 25 n5 :: ga_i 40 n6 :: ga_z 40 n7 :: ga_l 310 hp :: ga_l 576 gv :: ga_z 24 io :: []), sh_f sv (a_f av)) := by
  have hn : 106 ≤ an + 106 := by omega
  have e2 := J.2.2.1.2.2.1
  have e1 := J.2.2.1.2.1
  subst e2
  subst e1
  refine g_aload_n (nx := 306) hX 1 dL_law_305 rfl rfl rfl ?_
  refine g_aload_nR (nx := 307) hX 0 dL_law_306 rfl rfl rfl ?_
  refine g_iload_n (nx := 308) hX 3 dL_law_307 rfl rfl rfl ?_
  refine g_iconst (nx := 309) hX 1 dL_law_308 rfl (by decide) ?_
  refine g_iadd (nx := 310) hX dL_law_309 rfl ?_
  refine g_sld (nx := 311) hX hS (6 * k + 1) (nI_add (6 * k) 1) (by omega) hL dL_law_310 rfl ?_
  refine g_aload_nR (nx := 312) hX 0 dL_law_311 rfl rfl rfl ?_
  refine g_iload_n (nx := 313) hX 3 dL_law_312 rfl rfl rfl ?_
  refine g_iconst (nx := 314) hX 2 dL_law_313 rfl (by decide) ?_
  refine g_iadd (nx := 315) hX dL_law_314 rfl ?_
  refine g_sld (nx := 316) hX hS (6 * k + 2) (nI_add (6 * k) 2) (by omega) hL dL_law_315 rfl ?_
  refine g_V2 (nx := 319) hX dL_law_316 rfl mL_37 yX10_clock_ok (c_X10_clock hn J.2.2.1.1) (ga_dn hn rfl) rfl rfl rfl (by omega) rfl (by omega) (by omega) ?_
  rintro _ _ ⟨sv', hz, (⟨h1, rfl, rfl⟩ | ⟨h1, rfl, rfl⟩)⟩
  · refine g_aload_n (nx := 320) hX 2 dL_law_319 rfl rfl rfl ?_
    refine g_aload_nR (nx := 321) hX 0 dL_law_320 rfl rfl rfl ?_
    refine g_iload_n (nx := 322) hX 3 dL_law_321 rfl rfl rfl ?_
    refine g_iconst (nx := 323) hX 1 dL_law_322 rfl (by decide) ?_
    refine g_iadd (nx := 324) hX dL_law_323 rfl ?_
    refine g_sld (nx := 325) hX hS (6 * k + 1) (nI_add (6 * k) 1) (by omega) hL dL_law_324 rfl ?_
    refine g_aload_nR (nx := 326) hX 0 dL_law_325 rfl rfl rfl ?_
    refine g_iload_n (nx := 327) hX 3 dL_law_326 rfl rfl rfl ?_
    refine g_iconst (nx := 328) hX 2 dL_law_327 rfl (by decide) ?_
    refine g_iadd (nx := 329) hX dL_law_328 rfl ?_
    refine g_sld (nx := 330) hX hS (6 * k + 2) (nI_add (6 * k) 2) (by omega) hL dL_law_329 rfl ?_
    refine g_V2 (nx := 333) hX dL_law_330 rfl mL_41 yX11_clock_ok (c_X11_clock hn J.2.2.1.1) (ga_dn hn rfl) rfl rfl rfl (by omega) rfl (by omega) (by omega) ?_
    rintro _ _ (⟨h2, rfl, rfl⟩ | ⟨h2, rfl, rfl⟩)
    · refine g_icmp_eq (nx := 336) hX 802 dL_law_333 (by decide) rfl (fun h333 => ?_) (fun h333 => ?_)
      · exact g_widen (by omega) (by omega) (kont _ (lw_I_of (cd := cd) (cd2 := cd2) (en := en) ⟨J.1, J.2.1, ⟨J.2.2.1.1, rfl, rfl, J.2.2.1.2.2.2.1, J.2.2.1.2.2.2.2.1, J.2.2.1.2.2.2.2.2.1, w_600_up J.2.2.1.2.2.2.2.2.2 h1.2⟩, J.2.2.2.1, J.2.2.2.2.1, J.2.2.2.2.2.1, J.2.2.2.2.2.2.1, J.2.2.2.2.2.2.2.1, J.2.2.2.2.2.2.2.2.1, b_stale hz⟩))
      · exact absurd rfl h333
    · exact absurd h1 h2
  · refine g_aload_n (nx := 320) hX 2 dL_law_319 rfl rfl rfl ?_
    refine g_aload_nR (nx := 321) hX 0 dL_law_320 rfl rfl rfl ?_
    refine g_iload_n (nx := 322) hX 3 dL_law_321 rfl rfl rfl ?_
    refine g_iconst (nx := 323) hX 1 dL_law_322 rfl (by decide) ?_
    refine g_iadd (nx := 324) hX dL_law_323 rfl ?_
    refine g_sld (nx := 325) hX hS (6 * k + 1) (nI_add (6 * k) 1) (by omega) hL dL_law_324 rfl ?_
    refine g_aload_nR (nx := 326) hX 0 dL_law_325 rfl rfl rfl ?_
    refine g_iload_n (nx := 327) hX 3 dL_law_326 rfl rfl rfl ?_
    refine g_iconst (nx := 328) hX 2 dL_law_327 rfl (by decide) ?_
    refine g_iadd (nx := 329) hX dL_law_328 rfl ?_
    refine g_sld (nx := 330) hX hS (6 * k + 2) (nI_add (6 * k) 2) (by omega) hL dL_law_329 rfl ?_
    refine g_V2 (nx := 333) hX dL_law_330 rfl mL_41 yX11_clock_ok (c_X11_clock hn J.2.2.1.1) (ga_dn hn rfl) rfl rfl rfl (by omega) rfl (by omega) (by omega) ?_
    rintro _ _ (⟨h2, rfl, rfl⟩ | ⟨h2, rfl, rfl⟩)
    · exact absurd h2 h1
    · refine g_icmp_eq (nx := 336) hX 802 dL_law_333 (by decide) rfl (fun h333 => ?_) (fun h333 => ?_)
      · exact g_widen (by omega) (by omega) (kont _ (lw_I_of (cd := cd) (cd2 := cd2) (en := en) ⟨J.1, J.2.1, J.2.2.1, J.2.2.2.1, J.2.2.2.2.1, J.2.2.2.2.2.1, J.2.2.2.2.2.2.1, J.2.2.2.2.2.2.2.1, J.2.2.2.2.2.2.2.2.1, b_stale hz⟩))
      · exact absurd rfl h333
theorem l_out (hX : ga_B E d (⟨RL, lnm, lds⟩ : MethodName) cL_law 4 mc ms X) (h40 : 40 ≤ d) (hS : ga_Xs E X L xs) (hL : L ≤ 3072) (hE : ∀ a, 27 ≤ a → E.2.1 a = E.1 + a) (hk : 6 * k + 6 ≤ L) (hc1 : kc + 1 ≤ mc) (hc2 : ks + 8 ≤ ms) (J : (lt ≤ 600 ∧ ∀ i, i < lt → 0 ≤ tb i) ∧ r_ok tm sz rn ∧ j_C mt ah fn fm em sp op ∧ j_A (mw, mq, mf, ma, mb, ms_) av ol nw an ∧ (ask = -1 ∨ 0 ≤ ask ∧ ask ≤ nI an) ∧ (∀ j, j < 15 → nm j = x_cn j) ∧ j_R cd cd2 en fo fo2 sm tot tt_ st_ od eo sg bo ∧ (rl = .null ∨ rl = .ref 15 ∨ rl = .ref 21) ∧ ka ≤ an ∧ b_ok ((mw, mq, mf, ma, mb, ms_), ah, ou, op, fn) (cd, en, fo, sm, tot) rn ka sv) (kont : ∀ M', lw_I M' → ga_G E X (kc + 1) (ks + 8) 802 [some (.retAddr 0), some (.ref 0), some (.ref 79), some (.int (nI (6 * k)))] [] M') : ga_G E X kc ks 338 [some (.retAddr 0), some (.ref 0), some (.ref 79), some (.int (nI (6 * k)))] [] (an + 106, (k_0 ask :: k_T lt :: ga_i 600 tb :: k_R rn :: ga_i 24 tm :: ga_i 6 sz :: k_C fm em sp fn op :: ga_i 32 ah :: ga_i 30 ou :: k_L an :: ga_r 4 401 (l_w an) :: ga_r 4 24 ol :: ga_r 4 24 nw :: k_D rl x1 x2 x3 x4 fd fa :: ga_l 39 nm :: k_U 15 top size tot (nI sm) :: ga_i 600 st_ :: ga_i 600 od :: ga_i 24 eo :: ga_i 24 fo :: ga_l 32 s :: k_U 21 u1 u2 u3 u4 :: ga_i 600 t1 :: ga_i 600 t2 :: ga_i 24 t3 :: ga_i 24 t4 :: ga_l 32 t5 :: k_B ka :: ga_r 3 24 b_w :: k_Y hd :: ga_i 120 se :: []), ((m_O (nI lt) (nI rn) (nI fn) (em) (sp) (nI an) (ask) (nI sm) (tt_) (v1) (v2) (fd) (fa) (v3) (v4) (v5) (v6) (v7)) :: ga_i 600 tb :: ga_i 24 tm :: ga_i 30 mt :: ga_i 30 ou :: ga_i 32 ah :: ga_i 401 mw :: ga_i 401 mq :: ga_i 401 mf :: ga_i 401 ma :: ga_i 401 mb :: ga_i 401 ms_ :: ga_i 18 ta :: ga_i 120 af :: ga_i 24 fo2 :: ga_i 25 bo :: ga_i 1300 sg :: ga_i 25 n1 :: ga_i 26 n2 :: ga_i 1300 n3 :: ga_i 250 n4 :: ga_i 25 n5 :: ga_i 40 n6 :: ga_z 40 n7 :: ga_l 310 hp :: ga_l 576 gv :: ga_z 24 io :: []), sh_f sv (a_f av)) := by
  have hn : 106 ≤ an + 106 := by omega
  have e2 := J.2.2.1.2.2.1
  have e1 := J.2.2.1.2.1
  subst e2
  subst e1
  refine g_aload_n (nx := 339) hX 1 dL_law_338 rfl rfl rfl ?_
  refine g_aload_nR (nx := 340) hX 0 dL_law_339 rfl rfl rfl ?_
  refine g_iload_n (nx := 341) hX 3 dL_law_340 rfl rfl rfl ?_
  refine g_iconst (nx := 342) hX 1 dL_law_341 rfl (by decide) ?_
  refine g_iadd (nx := 343) hX dL_law_342 rfl ?_
  refine g_sld (nx := 344) hX hS (6 * k + 1) (nI_add (6 * k) 1) (by omega) hL dL_law_343 rfl ?_
  refine g_aload_nR (nx := 345) hX 0 dL_law_344 rfl rfl rfl ?_
  refine g_iload_n (nx := 346) hX 3 dL_law_345 rfl rfl rfl ?_
  refine g_iconst (nx := 347) hX 2 dL_law_346 rfl (by decide) ?_
  refine g_iadd (nx := 348) hX dL_law_347 rfl ?_
  refine g_sld (nx := 349) hX hS (6 * k + 2) (nI_add (6 * k) 2) (by omega) hL dL_law_348 rfl ?_
  refine g_V2 (nx := 352) hX dL_law_349 rfl mL_42 yX10_out_ok (c_X10_out hn J.2.2.1.1) (ga_dn hn rfl) rfl rfl rfl (by omega) rfl (by omega) (by omega) ?_
  rintro _ _ ⟨sv', hz, (⟨h1, rfl, rfl⟩ | ⟨h1, rfl, rfl⟩)⟩
  · refine g_aload_n (nx := 353) hX 2 dL_law_352 rfl rfl rfl ?_
    refine g_aload_nR (nx := 354) hX 0 dL_law_353 rfl rfl rfl ?_
    refine g_iload_n (nx := 355) hX 3 dL_law_354 rfl rfl rfl ?_
    refine g_iconst (nx := 356) hX 1 dL_law_355 rfl (by decide) ?_
    refine g_iadd (nx := 357) hX dL_law_356 rfl ?_
    refine g_sld (nx := 358) hX hS (6 * k + 1) (nI_add (6 * k) 1) (by omega) hL dL_law_357 rfl ?_
    refine g_aload_nR (nx := 359) hX 0 dL_law_358 rfl rfl rfl ?_
    refine g_iload_n (nx := 360) hX 3 dL_law_359 rfl rfl rfl ?_
    refine g_iconst (nx := 361) hX 2 dL_law_360 rfl (by decide) ?_
    refine g_iadd (nx := 362) hX dL_law_361 rfl ?_
    refine g_sld (nx := 363) hX hS (6 * k + 2) (nI_add (6 * k) 2) (by omega) hL dL_law_362 rfl ?_
    refine g_V2 (nx := 366) hX dL_law_363 rfl mL_45 yX11_out_ok (c_X11_out hn J.2.2.1.1) (ga_dn hn rfl) rfl rfl rfl (by omega) rfl (by omega) (by omega) ?_
    rintro _ _ (⟨h2, rfl, rfl⟩ | ⟨h2, rfl, rfl⟩)
    · refine g_icmp_eq (nx := 369) hX 802 dL_law_366 (by decide) rfl (fun h366 => ?_) (fun h366 => ?_)
      · exact g_widen (by omega) (by omega) (kont _ (lw_I_of (cd := cd) (cd2 := cd2) (en := en) ⟨J.1, J.2.1, J.2.2.1, J.2.2.2.1, J.2.2.2.2.1, J.2.2.2.2.2.1, J.2.2.2.2.2.2.1, J.2.2.2.2.2.2.2.1, J.2.2.2.2.2.2.2.2.1, b_stale hz⟩))
      · exact absurd rfl h366
    · exact absurd h1 h2
  · refine g_aload_n (nx := 353) hX 2 dL_law_352 rfl rfl rfl ?_
    refine g_aload_nR (nx := 354) hX 0 dL_law_353 rfl rfl rfl ?_
    refine g_iload_n (nx := 355) hX 3 dL_law_354 rfl rfl rfl ?_
    refine g_iconst (nx := 356) hX 1 dL_law_355 rfl (by decide) ?_
    refine g_iadd (nx := 357) hX dL_law_356 rfl ?_
    refine g_sld (nx := 358) hX hS (6 * k + 1) (nI_add (6 * k) 1) (by omega) hL dL_law_357 rfl ?_
    refine g_aload_nR (nx := 359) hX 0 dL_law_358 rfl rfl rfl ?_
    refine g_iload_n (nx := 360) hX 3 dL_law_359 rfl rfl rfl ?_
    refine g_iconst (nx := 361) hX 2 dL_law_360 rfl (by decide) ?_
    refine g_iadd (nx := 362) hX dL_law_361 rfl ?_
    refine g_sld (nx := 363) hX hS (6 * k + 2) (nI_add (6 * k) 2) (by omega) hL dL_law_362 rfl ?_
    refine g_V2 (nx := 366) hX dL_law_363 rfl mL_45 yX11_out_ok (c_X11_out hn J.2.2.1.1) (ga_dn hn rfl) rfl rfl rfl (by omega) rfl (by omega) (by omega) ?_
    rintro _ _ (⟨h2, rfl, rfl⟩ | ⟨h2, rfl, rfl⟩)
    · exact absurd h2 h1
    · refine g_icmp_eq (nx := 369) hX 802 dL_law_366 (by decide) rfl (fun h366 => ?_) (fun h366 => ?_)
      · exact g_widen (by omega) (by omega) (kont _ (lw_I_of (cd := cd) (cd2 := cd2) (en := en) ⟨J.1, J.2.1, J.2.2.1, J.2.2.2.1, J.2.2.2.2.1, J.2.2.2.2.2.1, J.2.2.2.2.2.2.1, J.2.2.2.2.2.2.2.1, J.2.2.2.2.2.2.2.2.1, b_stale hz⟩))
      · exact absurd rfl h366
theorem l_report (hX : ga_B E d (⟨RL, lnm, lds⟩ : MethodName) cL_law 4 mc ms X) (h40 : 40 ≤ d) (hS : ga_Xs E X L xs) (hL : L ≤ 3072) (hE : ∀ a, 27 ≤ a → E.2.1 a = E.1 + a) (hk : 6 * k + 6 ≤ L) (hc1 : kc + 1 ≤ mc) (hc2 : ks + 8 ≤ ms) (J : (lt ≤ 600 ∧ ∀ i, i < lt → 0 ≤ tb i) ∧ r_ok tm sz rn ∧ j_C mt ah fn fm em sp op ∧ j_A (mw, mq, mf, ma, mb, ms_) av ol nw an ∧ (ask = -1 ∨ 0 ≤ ask ∧ ask ≤ nI an) ∧ (∀ j, j < 15 → nm j = x_cn j) ∧ j_R cd cd2 en fo fo2 sm tot tt_ st_ od eo sg bo ∧ (rl = .null ∨ rl = .ref 15 ∨ rl = .ref 21) ∧ ka ≤ an ∧ b_ok ((mw, mq, mf, ma, mb, ms_), ah, ou, op, fn) (cd, en, fo, sm, tot) rn ka sv) (kont : ∀ M', lw_I M' → ga_G E X (kc + 1) (ks + 8) 802 [some (.retAddr 0), some (.ref 0), some (.ref 79), some (.int (nI (6 * k)))] [] M') : ga_G E X kc ks 371 [some (.retAddr 0), some (.ref 0), some (.ref 79), some (.int (nI (6 * k)))] [] (an + 106, (k_0 ask :: k_T lt :: ga_i 600 tb :: k_R rn :: ga_i 24 tm :: ga_i 6 sz :: k_C fm em sp fn op :: ga_i 32 ah :: ga_i 30 ou :: k_L an :: ga_r 4 401 (l_w an) :: ga_r 4 24 ol :: ga_r 4 24 nw :: k_D rl x1 x2 x3 x4 fd fa :: ga_l 39 nm :: k_U 15 top size tot (nI sm) :: ga_i 600 st_ :: ga_i 600 od :: ga_i 24 eo :: ga_i 24 fo :: ga_l 32 s :: k_U 21 u1 u2 u3 u4 :: ga_i 600 t1 :: ga_i 600 t2 :: ga_i 24 t3 :: ga_i 24 t4 :: ga_l 32 t5 :: k_B ka :: ga_r 3 24 b_w :: k_Y hd :: ga_i 120 se :: []), ((m_O (nI lt) (nI rn) (nI fn) (em) (sp) (nI an) (ask) (nI sm) (tt_) (v1) (v2) (fd) (fa) (v3) (v4) (v5) (v6) (v7)) :: ga_i 600 tb :: ga_i 24 tm :: ga_i 30 mt :: ga_i 30 ou :: ga_i 32 ah :: ga_i 401 mw :: ga_i 401 mq :: ga_i 401 mf :: ga_i 401 ma :: ga_i 401 mb :: ga_i 401 ms_ :: ga_i 18 ta :: ga_i 120 af :: ga_i 24 fo2 :: ga_i 25 bo :: ga_i 1300 sg :: ga_i 25 n1 :: ga_i 26 n2 :: ga_i 1300 n3 :: ga_i 250 n4 :: ga_i 25 n5 :: ga_i 40 n6 :: ga_z 40 n7 :: ga_l 310 hp :: ga_l 576 gv :: ga_z 24 io :: []), sh_f sv (a_f av)) := by
  have hn : 106 ≤ an + 106 := by omega
  have hnw : ∀ r, r < rn → nw r = none ∨ ∃ k, 1 ≤ k ∧ k ≤ an ∧ nw r = some (k + 105) := fun r hr => by
    have h := J.2.2.2.1.2.2.2.2.2.1 r (by have := J.2.1.1; omega)
    cases hn : nw r with
    | none => exact Or.inl rfl
    | some q =>
      rw [hn] at h
      obtain ⟨k, k1, k2, k3, -⟩ := h
      exact Or.inr ⟨k, k1, k2, by rw [k3]⟩
  have ha4 := J.2.2.2.1.1
  refine g_aload_n (nx := 372) hX 1 dL_law_371 rfl rfl rfl ?_
  refine g_aload_nR (nx := 373) hX 0 dL_law_372 rfl rfl rfl ?_
  refine g_iload_n (nx := 374) hX 3 dL_law_373 rfl rfl rfl ?_
  refine g_iconst (nx := 375) hX 1 dL_law_374 rfl (by decide) ?_
  refine g_iadd (nx := 376) hX dL_law_375 rfl ?_
  refine g_sld (nx := 377) hX hS (6 * k + 1) (nI_add (6 * k) 1) (by omega) hL dL_law_376 rfl ?_
  refine g_aload_nR (nx := 378) hX 0 dL_law_377 rfl rfl rfl ?_
  refine g_iload_n (nx := 379) hX 3 dL_law_378 rfl rfl rfl ?_
  refine g_iconst (nx := 380) hX 2 dL_law_379 rfl (by decide) ?_
  refine g_iadd (nx := 381) hX dL_law_380 rfl ?_
  refine g_sld (nx := 382) hX hS (6 * k + 2) (nI_add (6 * k) 2) (by omega) hL dL_law_381 rfl ?_
  refine g_aload_nR (nx := 383) hX 0 dL_law_382 rfl rfl rfl ?_
  refine g_iload_n (nx := 384) hX 3 dL_law_383 rfl rfl rfl ?_
  refine g_iconst (nx := 385) hX 3 dL_law_384 rfl (by decide) ?_
  refine g_iadd (nx := 386) hX dL_law_385 rfl ?_
  refine g_sld (nx := 387) hX hS (6 * k + 3) (nI_add (6 * k) 3) (by omega) hL dL_law_386 rfl ?_
  refine g_aload_nR (nx := 388) hX 0 dL_law_387 rfl rfl rfl ?_
  refine g_iload_n (nx := 389) hX 3 dL_law_388 rfl rfl rfl ?_
  refine g_iconst (nx := 390) hX 4 dL_law_389 rfl (by decide) ?_
  refine g_iadd (nx := 391) hX dL_law_390 rfl ?_
  refine g_sld (nx := 392) hX hS (6 * k + 4) (nI_add (6 * k) 4) (by omega) hL dL_law_391 rfl ?_
  refine g_aload_nR (nx := 393) hX 0 dL_law_392 rfl rfl rfl ?_
  refine g_iload_n (nx := 394) hX 3 dL_law_393 rfl rfl rfl ?_
  refine g_iconst (nx := 395) hX 5 dL_law_394 rfl (by decide) ?_
  refine g_iadd (nx := 396) hX dL_law_395 rfl ?_
  refine g_sld (nx := 397) hX hS (6 * k + 5) (nI_add (6 * k) 5) (by omega) hL dL_law_396 rfl ?_
  refine g_V5 (nx := 400) hX dL_law_397 rfl mL_46 yX10_report_ok (c_X10_report hE J.2.1.1 J.2.2.1.1 ha4 hnw) (ga_dn hn rfl) rfl rfl rfl (by omega) rfl (by omega) (by omega) ?_
  rintro _ _ (⟨r, hr, hv, hm, ha, rfl, rfl⟩ | ⟨hno, rfl, rfl⟩)
  · refine g_aload_n (nx := 401) hX 2 dL_law_400 rfl rfl rfl ?_
    refine g_aload_nR (nx := 402) hX 0 dL_law_401 rfl rfl rfl ?_
    refine g_iload_n (nx := 403) hX 3 dL_law_402 rfl rfl rfl ?_
    refine g_iconst (nx := 404) hX 1 dL_law_403 rfl (by decide) ?_
    refine g_iadd (nx := 405) hX dL_law_404 rfl ?_
    refine g_sld (nx := 406) hX hS (6 * k + 1) (nI_add (6 * k) 1) (by omega) hL dL_law_405 rfl ?_
    refine g_aload_nR (nx := 407) hX 0 dL_law_406 rfl rfl rfl ?_
    refine g_iload_n (nx := 408) hX 3 dL_law_407 rfl rfl rfl ?_
    refine g_iconst (nx := 409) hX 2 dL_law_408 rfl (by decide) ?_
    refine g_iadd (nx := 410) hX dL_law_409 rfl ?_
    refine g_sld (nx := 411) hX hS (6 * k + 2) (nI_add (6 * k) 2) (by omega) hL dL_law_410 rfl ?_
    refine g_aload_nR (nx := 412) hX 0 dL_law_411 rfl rfl rfl ?_
    refine g_iload_n (nx := 413) hX 3 dL_law_412 rfl rfl rfl ?_
    refine g_iconst (nx := 414) hX 3 dL_law_413 rfl (by decide) ?_
    refine g_iadd (nx := 415) hX dL_law_414 rfl ?_
    refine g_sld (nx := 416) hX hS (6 * k + 3) (nI_add (6 * k) 3) (by omega) hL dL_law_415 rfl ?_
    refine g_aload_nR (nx := 417) hX 0 dL_law_416 rfl rfl rfl ?_
    refine g_iload_n (nx := 418) hX 3 dL_law_417 rfl rfl rfl ?_
    refine g_iconst (nx := 419) hX 4 dL_law_418 rfl (by decide) ?_
    refine g_iadd (nx := 420) hX dL_law_419 rfl ?_
    refine g_sld (nx := 421) hX hS (6 * k + 4) (nI_add (6 * k) 4) (by omega) hL dL_law_420 rfl ?_
    refine g_aload_nR (nx := 422) hX 0 dL_law_421 rfl rfl rfl ?_
    refine g_iload_n (nx := 423) hX 3 dL_law_422 rfl rfl rfl ?_
    refine g_iconst (nx := 424) hX 5 dL_law_423 rfl (by decide) ?_
    refine g_iadd (nx := 425) hX dL_law_424 rfl ?_
    refine g_sld (nx := 426) hX hS (6 * k + 5) (nI_add (6 * k) 5) (by omega) hL dL_law_425 rfl ?_
    refine g_V5 (nx := 429) hX dL_law_426 rfl mL_49 yX11_report_ok (c_X11_report (by omega) J.2.1.1 J.2.2.1.1 ha4) (ga_dn (by omega) rfl) rfl rfl rfl (by omega) rfl (by omega) (by omega) ?_
    rintro _ _ (⟨r2, hr2, hv2, hm2, ha2, rfl, rfl⟩ | ⟨hno2, rfl, rfl⟩)
    · refine g_icmp_eq (nx := 432) hX 802 dL_law_429 (by decide) rfl (fun h429 => ?_) (fun h429 => ?_)
      · rw [hv]
        obtain ⟨y1, y2, y3⟩ := q_may_y J.2.2.1.1 hm
        exact g_widen (by omega) (by omega) (kont _ (lw_I_of (cd := cd) (cd2 := cd2) (en := en) (an := an + 1) ⟨J.1, J.2.1, J.2.2.1, j_A_rep J.2.2.2.1 (by have := J.2.1.1; omega) ha y1 y2 y3, J.2.2.2.2.1.imp id (fun z => ⟨z.1, v_tr z.2 (nI_le (by omega) (by omega))⟩), J.2.2.2.2.2.1, J.2.2.2.2.2.2.1, J.2.2.2.2.2.2.2.1, by have := J.2.2.2.2.2.2.2.2.1; omega, fun r hr hz => ⟨(J.2.2.2.2.2.2.2.2.2 r hr hz).1, by rw [s_F_rep J.2.2.2.2.2.2.2.2.1]; exact (J.2.2.2.2.2.2.2.2.2 r hr hz).2⟩⟩))
      · exact absurd rfl h429
    · exact absurd ⟨r, hr, hv, hm, ha⟩ hno2
  · refine g_aload_n (nx := 401) hX 2 dL_law_400 rfl rfl rfl ?_
    refine g_aload_nR (nx := 402) hX 0 dL_law_401 rfl rfl rfl ?_
    refine g_iload_n (nx := 403) hX 3 dL_law_402 rfl rfl rfl ?_
    refine g_iconst (nx := 404) hX 1 dL_law_403 rfl (by decide) ?_
    refine g_iadd (nx := 405) hX dL_law_404 rfl ?_
    refine g_sld (nx := 406) hX hS (6 * k + 1) (nI_add (6 * k) 1) (by omega) hL dL_law_405 rfl ?_
    refine g_aload_nR (nx := 407) hX 0 dL_law_406 rfl rfl rfl ?_
    refine g_iload_n (nx := 408) hX 3 dL_law_407 rfl rfl rfl ?_
    refine g_iconst (nx := 409) hX 2 dL_law_408 rfl (by decide) ?_
    refine g_iadd (nx := 410) hX dL_law_409 rfl ?_
    refine g_sld (nx := 411) hX hS (6 * k + 2) (nI_add (6 * k) 2) (by omega) hL dL_law_410 rfl ?_
    refine g_aload_nR (nx := 412) hX 0 dL_law_411 rfl rfl rfl ?_
    refine g_iload_n (nx := 413) hX 3 dL_law_412 rfl rfl rfl ?_
    refine g_iconst (nx := 414) hX 3 dL_law_413 rfl (by decide) ?_
    refine g_iadd (nx := 415) hX dL_law_414 rfl ?_
    refine g_sld (nx := 416) hX hS (6 * k + 3) (nI_add (6 * k) 3) (by omega) hL dL_law_415 rfl ?_
    refine g_aload_nR (nx := 417) hX 0 dL_law_416 rfl rfl rfl ?_
    refine g_iload_n (nx := 418) hX 3 dL_law_417 rfl rfl rfl ?_
    refine g_iconst (nx := 419) hX 4 dL_law_418 rfl (by decide) ?_
    refine g_iadd (nx := 420) hX dL_law_419 rfl ?_
    refine g_sld (nx := 421) hX hS (6 * k + 4) (nI_add (6 * k) 4) (by omega) hL dL_law_420 rfl ?_
    refine g_aload_nR (nx := 422) hX 0 dL_law_421 rfl rfl rfl ?_
    refine g_iload_n (nx := 423) hX 3 dL_law_422 rfl rfl rfl ?_
    refine g_iconst (nx := 424) hX 5 dL_law_423 rfl (by decide) ?_
    refine g_iadd (nx := 425) hX dL_law_424 rfl ?_
    refine g_sld (nx := 426) hX hS (6 * k + 5) (nI_add (6 * k) 5) (by omega) hL dL_law_425 rfl ?_
    refine g_V5 (nx := 429) hX dL_law_426 rfl mL_49 yX11_report_ok (c_X11_report hn J.2.1.1 J.2.2.1.1 ha4) (ga_dn hn rfl) rfl rfl rfl (by omega) rfl (by omega) (by omega) ?_
    rintro _ _ (⟨r2, hr2, hv2, hm2, ha2, rfl, rfl⟩ | ⟨hno2, rfl, rfl⟩)
    · exact absurd ⟨r2, hr2, hv2, hm2, ha2⟩ hno
    · refine g_icmp_eq (nx := 432) hX 802 dL_law_429 (by decide) rfl (fun h429 => ?_) (fun h429 => ?_)
      · exact g_widen (by omega) (by omega) (kont _ (lw_I_of (cd := cd) (cd2 := cd2) (en := en) J))
      · exact absurd rfl h429
theorem l_strike (hX : ga_B E d (⟨RL, lnm, lds⟩ : MethodName) cL_law 4 mc ms X) (h40 : 40 ≤ d) (hS : ga_Xs E X L xs) (hL : L ≤ 3072) (hE : ∀ a, 27 ≤ a → E.2.1 a = E.1 + a) (hk : 6 * k + 6 ≤ L) (hc1 : kc + 1 ≤ mc) (hc2 : ks + 8 ≤ ms) (J : (lt ≤ 600 ∧ ∀ i, i < lt → 0 ≤ tb i) ∧ r_ok tm sz rn ∧ j_C mt ah fn fm em sp op ∧ j_A (mw, mq, mf, ma, mb, ms_) av ol nw an ∧ (ask = -1 ∨ 0 ≤ ask ∧ ask ≤ nI an) ∧ (∀ j, j < 15 → nm j = x_cn j) ∧ j_R cd cd2 en fo fo2 sm tot tt_ st_ od eo sg bo ∧ (rl = .null ∨ rl = .ref 15 ∨ rl = .ref 21) ∧ ka ≤ an ∧ b_ok ((mw, mq, mf, ma, mb, ms_), ah, ou, op, fn) (cd, en, fo, sm, tot) rn ka sv) (kont : ∀ M', lw_I M' → ga_G E X (kc + 1) (ks + 8) 802 [some (.retAddr 0), some (.ref 0), some (.ref 79), some (.int (nI (6 * k)))] [] M') : ga_G E X kc ks 434 [some (.retAddr 0), some (.ref 0), some (.ref 79), some (.int (nI (6 * k)))] [] (an + 106, (k_0 ask :: k_T lt :: ga_i 600 tb :: k_R rn :: ga_i 24 tm :: ga_i 6 sz :: k_C fm em sp fn op :: ga_i 32 ah :: ga_i 30 ou :: k_L an :: ga_r 4 401 (l_w an) :: ga_r 4 24 ol :: ga_r 4 24 nw :: k_D rl x1 x2 x3 x4 fd fa :: ga_l 39 nm :: k_U 15 top size tot (nI sm) :: ga_i 600 st_ :: ga_i 600 od :: ga_i 24 eo :: ga_i 24 fo :: ga_l 32 s :: k_U 21 u1 u2 u3 u4 :: ga_i 600 t1 :: ga_i 600 t2 :: ga_i 24 t3 :: ga_i 24 t4 :: ga_l 32 t5 :: k_B ka :: ga_r 3 24 b_w :: k_Y hd :: ga_i 120 se :: []), ((m_O (nI lt) (nI rn) (nI fn) (em) (sp) (nI an) (ask) (nI sm) (tt_) (v1) (v2) (fd) (fa) (v3) (v4) (v5) (v6) (v7)) :: ga_i 600 tb :: ga_i 24 tm :: ga_i 30 mt :: ga_i 30 ou :: ga_i 32 ah :: ga_i 401 mw :: ga_i 401 mq :: ga_i 401 mf :: ga_i 401 ma :: ga_i 401 mb :: ga_i 401 ms_ :: ga_i 18 ta :: ga_i 120 af :: ga_i 24 fo2 :: ga_i 25 bo :: ga_i 1300 sg :: ga_i 25 n1 :: ga_i 26 n2 :: ga_i 1300 n3 :: ga_i 250 n4 :: ga_i 25 n5 :: ga_i 40 n6 :: ga_z 40 n7 :: ga_l 310 hp :: ga_l 576 gv :: ga_z 24 io :: []), sh_f sv (a_f av)) := by
  have hn : 106 ≤ an + 106 := by omega
  have ha4 := J.2.2.2.1.1
  refine g_aload_n (nx := 435) hX 1 dL_law_434 rfl rfl rfl ?_
  refine g_aload_nR (nx := 436) hX 0 dL_law_435 rfl rfl rfl ?_
  refine g_iload_n (nx := 437) hX 3 dL_law_436 rfl rfl rfl ?_
  refine g_iconst (nx := 438) hX 1 dL_law_437 rfl (by decide) ?_
  refine g_iadd (nx := 439) hX dL_law_438 rfl ?_
  refine g_sld (nx := 440) hX hS (6 * k + 1) (nI_add (6 * k) 1) (by omega) hL dL_law_439 rfl ?_
  refine g_V1 (nx := 443) hX dL_law_440 rfl mL_50 yX10_strike_ok (c_X10_strike hE ha4) (ga_dn hn rfl) rfl rfl rfl (by omega) rfl (by omega) (by omega) ?_
  rintro _ _ (⟨k0, hk0, hv, ha, h12, hs1, rfl, rfl⟩ | ⟨hno, rfl, rfl⟩)
  · refine g_aload_n (nx := 444) hX 2 dL_law_443 rfl rfl rfl ?_
    refine g_aload_nR (nx := 445) hX 0 dL_law_444 rfl rfl rfl ?_
    refine g_iload_n (nx := 446) hX 3 dL_law_445 rfl rfl rfl ?_
    refine g_iconst (nx := 447) hX 1 dL_law_446 rfl (by decide) ?_
    refine g_iadd (nx := 448) hX dL_law_447 rfl ?_
    refine g_sld (nx := 449) hX hS (6 * k + 1) (nI_add (6 * k) 1) (by omega) hL dL_law_448 rfl ?_
    refine g_V1 (nx := 452) hX dL_law_449 rfl mL_53 yX11_strike_ok (c_X11_strike (by omega) ha4) (ga_dn (by omega) rfl) rfl rfl rfl (by omega) rfl (by omega) (by omega) ?_
    rintro _ _ (⟨k2, hk2, hv2, ha2, hq, hms, rfl, rfl⟩ | ⟨hno2, rfl, rfl⟩)
    · refine g_icmp_eq (nx := 455) hX 802 dL_law_452 (by decide) rfl (fun h452 => ?_) (fun h452 => ?_)
      · have ek : k2 = k0 := nI_inj (hv2.symm.trans hv) (by omega) (by omega)
        subst ek
        obtain ⟨nx, r', e1, e2, e3, e4, e5, e6⟩ := J.2.2.2.1.2.1 k2 hk2.1 hk2.2 hq
        have hm0 : ms_ k2 = 0 := v_asym hms e6
        exact g_widen (by omega) (by omega) (kont _ (lw_I_of (cd := cd) (cd2 := cd2) (en := en) (an := an + 1) ⟨J.1, J.2.1, J.2.2.1, j_A_str J.2.2.2.1 ha hk2.1 hk2.2 hq, J.2.2.2.2.1.imp id (fun z => ⟨z.1, v_tr z.2 (nI_le (by omega) (by omega))⟩), J.2.2.2.2.2.1, J.2.2.2.2.2.2.1, J.2.2.2.2.2.2.2.1, by have := J.2.2.2.2.2.2.2.2.1; omega, fun r hr hz => ⟨(J.2.2.2.2.2.2.2.2.2 r hr hz).1, by rw [s_F_str J.2.2.2.2.2.2.2.2.1 ha hm0]; exact (J.2.2.2.2.2.2.2.2.2 r hr hz).2⟩⟩))
      · exact absurd rfl h452
    · have hx := (j_A_may J.2.2.2.1 hk0.1 hk0.2).mp ⟨h12, hs1⟩
      exact absurd ⟨k0, hk0, hv, ha, hx.1, hx.2⟩ hno2
  · refine g_aload_n (nx := 444) hX 2 dL_law_443 rfl rfl rfl ?_
    refine g_aload_nR (nx := 445) hX 0 dL_law_444 rfl rfl rfl ?_
    refine g_iload_n (nx := 446) hX 3 dL_law_445 rfl rfl rfl ?_
    refine g_iconst (nx := 447) hX 1 dL_law_446 rfl (by decide) ?_
    refine g_iadd (nx := 448) hX dL_law_447 rfl ?_
    refine g_sld (nx := 449) hX hS (6 * k + 1) (nI_add (6 * k) 1) (by omega) hL dL_law_448 rfl ?_
    refine g_V1 (nx := 452) hX dL_law_449 rfl mL_53 yX11_strike_ok (c_X11_strike hn ha4) (ga_dn hn rfl) rfl rfl rfl (by omega) rfl (by omega) (by omega) ?_
    rintro _ _ (⟨k2, hk2, hv2, ha2, hq, hms, rfl, rfl⟩ | ⟨hno2, rfl, rfl⟩)
    · have hx := (j_A_may J.2.2.2.1 hk2.1 hk2.2).mpr ⟨hq, hms⟩
      exact absurd ⟨k2, hk2, hv2, ha2, hx.1, hx.2⟩ hno
    · refine g_icmp_eq (nx := 455) hX 802 dL_law_452 (by decide) rfl (fun h452 => ?_) (fun h452 => ?_)
      · exact g_widen (by omega) (by omega) (kont _ (lw_I_of (cd := cd) (cd2 := cd2) (en := en) J))
      · exact absurd rfl h452
theorem l_as (hX : ga_B E d (⟨RL, lnm, lds⟩ : MethodName) cL_law 4 mc ms X) (h40 : 40 ≤ d) (hS : ga_Xs E X L xs) (hL : L ≤ 3072) (hE : ∀ a, 27 ≤ a → E.2.1 a = E.1 + a) (hk : 6 * k + 6 ≤ L) (hc1 : kc + 1 ≤ mc) (hc2 : ks + 8 ≤ ms) (J : (lt ≤ 600 ∧ ∀ i, i < lt → 0 ≤ tb i) ∧ r_ok tm sz rn ∧ j_C mt ah fn fm em sp op ∧ j_A (mw, mq, mf, ma, mb, ms_) av ol nw an ∧ (ask = -1 ∨ 0 ≤ ask ∧ ask ≤ nI an) ∧ (∀ j, j < 15 → nm j = x_cn j) ∧ j_R cd cd2 en fo fo2 sm tot tt_ st_ od eo sg bo ∧ (rl = .null ∨ rl = .ref 15 ∨ rl = .ref 21) ∧ ka ≤ an ∧ b_ok ((mw, mq, mf, ma, mb, ms_), ah, ou, op, fn) (cd, en, fo, sm, tot) rn ka sv) (kont : ∀ M', lw_I M' → ga_G E X (kc + 1) (ks + 8) 802 [some (.retAddr 0), some (.ref 0), some (.ref 79), some (.int (nI (6 * k)))] [] M') : ga_G E X kc ks 457 [some (.retAddr 0), some (.ref 0), some (.ref 79), some (.int (nI (6 * k)))] [] (an + 106, (k_0 ask :: k_T lt :: ga_i 600 tb :: k_R rn :: ga_i 24 tm :: ga_i 6 sz :: k_C fm em sp fn op :: ga_i 32 ah :: ga_i 30 ou :: k_L an :: ga_r 4 401 (l_w an) :: ga_r 4 24 ol :: ga_r 4 24 nw :: k_D rl x1 x2 x3 x4 fd fa :: ga_l 39 nm :: k_U 15 top size tot (nI sm) :: ga_i 600 st_ :: ga_i 600 od :: ga_i 24 eo :: ga_i 24 fo :: ga_l 32 s :: k_U 21 u1 u2 u3 u4 :: ga_i 600 t1 :: ga_i 600 t2 :: ga_i 24 t3 :: ga_i 24 t4 :: ga_l 32 t5 :: k_B ka :: ga_r 3 24 b_w :: k_Y hd :: ga_i 120 se :: []), ((m_O (nI lt) (nI rn) (nI fn) (em) (sp) (nI an) (ask) (nI sm) (tt_) (v1) (v2) (fd) (fa) (v3) (v4) (v5) (v6) (v7)) :: ga_i 600 tb :: ga_i 24 tm :: ga_i 30 mt :: ga_i 30 ou :: ga_i 32 ah :: ga_i 401 mw :: ga_i 401 mq :: ga_i 401 mf :: ga_i 401 ma :: ga_i 401 mb :: ga_i 401 ms_ :: ga_i 18 ta :: ga_i 120 af :: ga_i 24 fo2 :: ga_i 25 bo :: ga_i 1300 sg :: ga_i 25 n1 :: ga_i 26 n2 :: ga_i 1300 n3 :: ga_i 250 n4 :: ga_i 25 n5 :: ga_i 40 n6 :: ga_z 40 n7 :: ga_l 310 hp :: ga_l 576 gv :: ga_z 24 io :: []), sh_f sv (a_f av)) := by
  have hn : 106 ≤ an + 106 := by omega
  refine g_aload_n (nx := 458) hX 1 dL_law_457 rfl rfl rfl ?_
  refine g_aload_nR (nx := 459) hX 0 dL_law_458 rfl rfl rfl ?_
  refine g_iload_n (nx := 460) hX 3 dL_law_459 rfl rfl rfl ?_
  refine g_iconst (nx := 461) hX 1 dL_law_460 rfl (by decide) ?_
  refine g_iadd (nx := 462) hX dL_law_461 rfl ?_
  refine g_sld (nx := 463) hX hS (6 * k + 1) (nI_add (6 * k) 1) (by omega) hL dL_law_462 rfl ?_
  refine g_V1 (nx := 466) hX dL_law_463 rfl mL_54 yX10_as_ok (c_X10_as hn) (ga_dn hn rfl) rfl rfl rfl (by omega) rfl (by omega) (by omega) ?_
  rintro _ _ (⟨h1, rfl, rfl⟩ | ⟨h1, rfl, rfl⟩)
  · refine g_aload_n (nx := 467) hX 2 dL_law_466 rfl rfl rfl ?_
    refine g_aload_nR (nx := 468) hX 0 dL_law_467 rfl rfl rfl ?_
    refine g_iload_n (nx := 469) hX 3 dL_law_468 rfl rfl rfl ?_
    refine g_iconst (nx := 470) hX 1 dL_law_469 rfl (by decide) ?_
    refine g_iadd (nx := 471) hX dL_law_470 rfl ?_
    refine g_sld (nx := 472) hX hS (6 * k + 1) (nI_add (6 * k) 1) (by omega) hL dL_law_471 rfl ?_
    refine g_V1 (nx := 475) hX dL_law_472 rfl mL_57 yX11_as_ok (c_X11_as hn) (ga_dn hn rfl) rfl rfl rfl (by omega) rfl (by omega) (by omega) ?_
    rintro _ _ (⟨h2, rfl, rfl⟩ | ⟨h2, rfl, rfl⟩)
    · refine g_icmp_eq (nx := 478) hX 802 dL_law_475 (by decide) rfl (fun h475 => ?_) (fun h475 => ?_)
      · exact g_widen (by omega) (by omega) (kont _ (lw_I_of (cd := cd) (cd2 := cd2) (en := en) ⟨J.1, J.2.1, J.2.2.1, J.2.2.2.1, (if h0 : 0 ≤ xs (6 * k + 1) then Or.inr ⟨h0, h1.2⟩ else Or.inl (r_neg h1.1 h0)), J.2.2.2.2.2⟩))
      · exact absurd rfl h475
    · exact absurd h1 h2
  · refine g_aload_n (nx := 467) hX 2 dL_law_466 rfl rfl rfl ?_
    refine g_aload_nR (nx := 468) hX 0 dL_law_467 rfl rfl rfl ?_
    refine g_iload_n (nx := 469) hX 3 dL_law_468 rfl rfl rfl ?_
    refine g_iconst (nx := 470) hX 1 dL_law_469 rfl (by decide) ?_
    refine g_iadd (nx := 471) hX dL_law_470 rfl ?_
    refine g_sld (nx := 472) hX hS (6 * k + 1) (nI_add (6 * k) 1) (by omega) hL dL_law_471 rfl ?_
    refine g_V1 (nx := 475) hX dL_law_472 rfl mL_57 yX11_as_ok (c_X11_as hn) (ga_dn hn rfl) rfl rfl rfl (by omega) rfl (by omega) (by omega) ?_
    rintro _ _ (⟨h2, rfl, rfl⟩ | ⟨h2, rfl, rfl⟩)
    · exact absurd h2 h1
    · refine g_icmp_eq (nx := 478) hX 802 dL_law_475 (by decide) rfl (fun h475 => ?_) (fun h475 => ?_)
      · exact g_widen (by omega) (by omega) (kont _ (lw_I_of (cd := cd) (cd2 := cd2) (en := en) J))
      · exact absurd rfl h475
theorem l_fault (hX : ga_B E d (⟨RL, lnm, lds⟩ : MethodName) cL_law 4 mc ms X) (h40 : 40 ≤ d) (hS : ga_Xs E X L xs) (hL : L ≤ 3072) (hE : ∀ a, 27 ≤ a → E.2.1 a = E.1 + a) (hk : 6 * k + 6 ≤ L) (hc1 : kc + 1 ≤ mc) (hc2 : ks + 8 ≤ ms) (J : (lt ≤ 600 ∧ ∀ i, i < lt → 0 ≤ tb i) ∧ r_ok tm sz rn ∧ j_C mt ah fn fm em sp op ∧ j_A (mw, mq, mf, ma, mb, ms_) av ol nw an ∧ (ask = -1 ∨ 0 ≤ ask ∧ ask ≤ nI an) ∧ (∀ j, j < 15 → nm j = x_cn j) ∧ j_R cd cd2 en fo fo2 sm tot tt_ st_ od eo sg bo ∧ (rl = .null ∨ rl = .ref 15 ∨ rl = .ref 21) ∧ ka ≤ an ∧ b_ok ((mw, mq, mf, ma, mb, ms_), ah, ou, op, fn) (cd, en, fo, sm, tot) rn ka sv) (kont : ∀ M', lw_I M' → ga_G E X (kc + 1) (ks + 8) 802 [some (.retAddr 0), some (.ref 0), some (.ref 79), some (.int (nI (6 * k)))] [] M') : ga_G E X kc ks 493 [some (.retAddr 0), some (.ref 0), some (.ref 79), some (.int (nI (6 * k)))] [] (an + 106, (k_0 ask :: k_T lt :: ga_i 600 tb :: k_R rn :: ga_i 24 tm :: ga_i 6 sz :: k_C fm em sp fn op :: ga_i 32 ah :: ga_i 30 ou :: k_L an :: ga_r 4 401 (l_w an) :: ga_r 4 24 ol :: ga_r 4 24 nw :: k_D rl x1 x2 x3 x4 fd fa :: ga_l 39 nm :: k_U 15 top size tot (nI sm) :: ga_i 600 st_ :: ga_i 600 od :: ga_i 24 eo :: ga_i 24 fo :: ga_l 32 s :: k_U 21 u1 u2 u3 u4 :: ga_i 600 t1 :: ga_i 600 t2 :: ga_i 24 t3 :: ga_i 24 t4 :: ga_l 32 t5 :: k_B ka :: ga_r 3 24 b_w :: k_Y hd :: ga_i 120 se :: []), ((m_O (nI lt) (nI rn) (nI fn) (em) (sp) (nI an) (ask) (nI sm) (tt_) (v1) (v2) (fd) (fa) (v3) (v4) (v5) (v6) (v7)) :: ga_i 600 tb :: ga_i 24 tm :: ga_i 30 mt :: ga_i 30 ou :: ga_i 32 ah :: ga_i 401 mw :: ga_i 401 mq :: ga_i 401 mf :: ga_i 401 ma :: ga_i 401 mb :: ga_i 401 ms_ :: ga_i 18 ta :: ga_i 120 af :: ga_i 24 fo2 :: ga_i 25 bo :: ga_i 1300 sg :: ga_i 25 n1 :: ga_i 26 n2 :: ga_i 1300 n3 :: ga_i 250 n4 :: ga_i 25 n5 :: ga_i 40 n6 :: ga_z 40 n7 :: ga_l 310 hp :: ga_l 576 gv :: ga_z 24 io :: []), sh_f sv (a_f av)) := by
  have hn : 106 ≤ an + 106 := by omega
  have e2 := J.2.2.1.2.2.1
  have e1 := J.2.2.1.2.1
  subst e2
  subst e1
  refine g_aload_n (nx := 494) hX 1 dL_law_493 rfl rfl rfl ?_
  refine g_aload_nR (nx := 495) hX 0 dL_law_494 rfl rfl rfl ?_
  refine g_iload_n (nx := 496) hX 3 dL_law_495 rfl rfl rfl ?_
  refine g_iconst (nx := 497) hX 1 dL_law_496 rfl (by decide) ?_
  refine g_iadd (nx := 498) hX dL_law_497 rfl ?_
  refine g_sld (nx := 499) hX hS (6 * k + 1) (nI_add (6 * k) 1) (by omega) hL dL_law_498 rfl ?_
  refine g_V1 (nx := 502) hX dL_law_499 rfl mL_63 yX10_fault_ok (c_X10_fault hn) (ga_dn hn rfl) rfl rfl rfl (by omega) rfl (by omega) (by omega) ?_
  rintro _ _ ⟨rfl, rfl⟩
  refine g_aload_n (nx := 503) hX 2 dL_law_502 rfl rfl rfl ?_
  refine g_aload_nR (nx := 504) hX 0 dL_law_503 rfl rfl rfl ?_
  refine g_iload_n (nx := 505) hX 3 dL_law_504 rfl rfl rfl ?_
  refine g_iconst (nx := 506) hX 1 dL_law_505 rfl (by decide) ?_
  refine g_iadd (nx := 507) hX dL_law_506 rfl ?_
  refine g_sld (nx := 508) hX hS (6 * k + 1) (nI_add (6 * k) 1) (by omega) hL dL_law_507 rfl ?_
  refine g_V1 (nx := 511) hX dL_law_508 rfl mL_66 yX11_fault_ok (c_X11_fault hn) (ga_dn hn rfl) rfl rfl rfl (by omega) rfl (by omega) (by omega) ?_
  rintro _ _ ⟨rfl, rfl⟩
  refine g_icmp_eq (nx := 514) hX 802 dL_law_511 (by decide) rfl (fun h511 => ?_) (fun h511 => ?_)
  · exact g_widen (by omega) (by omega) (kont _ (lw_I_of (cd := cd) (cd2 := cd2) (en := en) J))
  · exact absurd rfl h511
theorem l_all (hX : ga_B E d (⟨RL, lnm, lds⟩ : MethodName) cL_law 4 mc ms X) (h40 : 40 ≤ d) (hS : ga_Xs E X L xs) (hL : L ≤ 3072) (hE : ∀ a, 27 ≤ a → E.2.1 a = E.1 + a) (hk : 6 * k + 6 ≤ L) (hc1 : kc + 1 ≤ mc) (hc2 : ks + 8 ≤ ms) (J : (lt ≤ 600 ∧ ∀ i, i < lt → 0 ≤ tb i) ∧ r_ok tm sz rn ∧ j_C mt ah fn fm em sp op ∧ j_A (mw, mq, mf, ma, mb, ms_) av ol nw an ∧ (ask = -1 ∨ 0 ≤ ask ∧ ask ≤ nI an) ∧ (∀ j, j < 15 → nm j = x_cn j) ∧ j_R cd cd2 en fo fo2 sm tot tt_ st_ od eo sg bo ∧ (rl = .null ∨ rl = .ref 15 ∨ rl = .ref 21) ∧ ka ≤ an ∧ b_ok ((mw, mq, mf, ma, mb, ms_), ah, ou, op, fn) (cd, en, fo, sm, tot) rn ka sv) (kont : ∀ M', lw_I M' → ga_G E X (kc + 1) (ks + 8) 802 [some (.retAddr 0), some (.ref 0), some (.ref 79), some (.int (nI (6 * k)))] [] M') : ga_G E X kc ks 779 [some (.retAddr 0), some (.ref 0), some (.ref 79), some (.int (nI (6 * k)))] [] (an + 106, (k_0 ask :: k_T lt :: ga_i 600 tb :: k_R rn :: ga_i 24 tm :: ga_i 6 sz :: k_C fm em sp fn op :: ga_i 32 ah :: ga_i 30 ou :: k_L an :: ga_r 4 401 (l_w an) :: ga_r 4 24 ol :: ga_r 4 24 nw :: k_D rl x1 x2 x3 x4 fd fa :: ga_l 39 nm :: k_U 15 top size tot (nI sm) :: ga_i 600 st_ :: ga_i 600 od :: ga_i 24 eo :: ga_i 24 fo :: ga_l 32 s :: k_U 21 u1 u2 u3 u4 :: ga_i 600 t1 :: ga_i 600 t2 :: ga_i 24 t3 :: ga_i 24 t4 :: ga_l 32 t5 :: k_B ka :: ga_r 3 24 b_w :: k_Y hd :: ga_i 120 se :: []), ((m_O (nI lt) (nI rn) (nI fn) (em) (sp) (nI an) (ask) (nI sm) (tt_) (v1) (v2) (fd) (fa) (v3) (v4) (v5) (v6) (v7)) :: ga_i 600 tb :: ga_i 24 tm :: ga_i 30 mt :: ga_i 30 ou :: ga_i 32 ah :: ga_i 401 mw :: ga_i 401 mq :: ga_i 401 mf :: ga_i 401 ma :: ga_i 401 mb :: ga_i 401 ms_ :: ga_i 18 ta :: ga_i 120 af :: ga_i 24 fo2 :: ga_i 25 bo :: ga_i 1300 sg :: ga_i 25 n1 :: ga_i 26 n2 :: ga_i 1300 n3 :: ga_i 250 n4 :: ga_i 25 n5 :: ga_i 40 n6 :: ga_z 40 n7 :: ga_l 310 hp :: ga_l 576 gv :: ga_z 24 io :: []), sh_f sv (a_f av)) := by
  have hn : 106 ≤ an + 106 := by omega
  have e2 := J.2.2.1.2.2.1
  have e1 := J.2.2.1.2.1
  subst e2
  subst e1
  refine g_aload_n (nx := 780) hX 1 dL_law_779 rfl rfl rfl ?_
  refine g_aload_nR (nx := 781) hX 0 dL_law_780 rfl rfl rfl ?_
  refine g_iload_n (nx := 782) hX 3 dL_law_781 rfl rfl rfl ?_
  refine g_iconst (nx := 783) hX 1 dL_law_782 rfl (by decide) ?_
  refine g_iadd (nx := 784) hX dL_law_783 rfl ?_
  refine g_sld (nx := 785) hX hS (6 * k + 1) (nI_add (6 * k) 1) (by omega) hL dL_law_784 rfl ?_
  refine g_V1 (nx := 788) hX dL_law_785 rfl mL_109 yX10_all_ok (c_X10_all hn) (ga_dn hn rfl) rfl rfl rfl (by omega) rfl (by omega) (by omega) ?_
  rintro _ _ ⟨rfl, rfl⟩
  refine g_aload_n (nx := 789) hX 2 dL_law_788 rfl rfl rfl ?_
  refine g_aload_nR (nx := 790) hX 0 dL_law_789 rfl rfl rfl ?_
  refine g_iload_n (nx := 791) hX 3 dL_law_790 rfl rfl rfl ?_
  refine g_iconst (nx := 792) hX 1 dL_law_791 rfl (by decide) ?_
  refine g_iadd (nx := 793) hX dL_law_792 rfl ?_
  refine g_sld (nx := 794) hX hS (6 * k + 1) (nI_add (6 * k) 1) (by omega) hL dL_law_793 rfl ?_
  refine g_V1 (nx := 797) hX dL_law_794 rfl mL_112 yX11_all_ok (c_X11_all hn J.2.2.1.1 (j_C_op J.2.2.1).1) (ga_dn hn rfl) rfl rfl rfl (by omega) rfl (by omega) (by omega) ?_
  rintro _ _ ⟨rfl, rfl⟩
  refine g_icmp_eq (nx := 800) hX 802 dL_law_797 (by decide) rfl (fun h797 => ?_) (fun h797 => ?_)
  · exact g_widen (by omega) (by omega) (kont _ (lw_I_of (cd := cd) (cd2 := cd2) (en := en) J))
  · exact absurd rfl h797
theorem l_count (hX : ga_B E d (⟨RL, lnm, lds⟩ : MethodName) cL_law 4 mc ms X) (h40 : 40 ≤ d) (hS : ga_Xs E X L xs) (hL : L ≤ 3072) (hE : ∀ a, 27 ≤ a → E.2.1 a = E.1 + a) (hk : 6 * k + 6 ≤ L) (hc1 : kc + 1 ≤ mc) (hc2 : ks + 8 ≤ ms) (J : (lt ≤ 600 ∧ ∀ i, i < lt → 0 ≤ tb i) ∧ r_ok tm sz rn ∧ j_C mt ah fn fm em sp op ∧ j_A (mw, mq, mf, ma, mb, ms_) av ol nw an ∧ (ask = -1 ∨ 0 ≤ ask ∧ ask ≤ nI an) ∧ (∀ j, j < 15 → nm j = x_cn j) ∧ j_R cd cd2 en fo fo2 sm tot tt_ st_ od eo sg bo ∧ (rl = .null ∨ rl = .ref 15 ∨ rl = .ref 21) ∧ ka ≤ an ∧ b_ok ((mw, mq, mf, ma, mb, ms_), ah, ou, op, fn) (cd, en, fo, sm, tot) rn ka sv) (kont : ∀ M', lw_I M' → ga_G E X (kc + 1) (ks + 8) 802 [some (.retAddr 0), some (.ref 0), some (.ref 79), some (.int (nI (6 * k)))] [] M') : ga_G E X kc ks 516 [some (.retAddr 0), some (.ref 0), some (.ref 79), some (.int (nI (6 * k)))] [] (an + 106, (k_0 ask :: k_T lt :: ga_i 600 tb :: k_R rn :: ga_i 24 tm :: ga_i 6 sz :: k_C fm em sp fn op :: ga_i 32 ah :: ga_i 30 ou :: k_L an :: ga_r 4 401 (l_w an) :: ga_r 4 24 ol :: ga_r 4 24 nw :: k_D rl x1 x2 x3 x4 fd fa :: ga_l 39 nm :: k_U 15 top size tot (nI sm) :: ga_i 600 st_ :: ga_i 600 od :: ga_i 24 eo :: ga_i 24 fo :: ga_l 32 s :: k_U 21 u1 u2 u3 u4 :: ga_i 600 t1 :: ga_i 600 t2 :: ga_i 24 t3 :: ga_i 24 t4 :: ga_l 32 t5 :: k_B ka :: ga_r 3 24 b_w :: k_Y hd :: ga_i 120 se :: []), ((m_O (nI lt) (nI rn) (nI fn) (em) (sp) (nI an) (ask) (nI sm) (tt_) (v1) (v2) (fd) (fa) (v3) (v4) (v5) (v6) (v7)) :: ga_i 600 tb :: ga_i 24 tm :: ga_i 30 mt :: ga_i 30 ou :: ga_i 32 ah :: ga_i 401 mw :: ga_i 401 mq :: ga_i 401 mf :: ga_i 401 ma :: ga_i 401 mb :: ga_i 401 ms_ :: ga_i 18 ta :: ga_i 120 af :: ga_i 24 fo2 :: ga_i 25 bo :: ga_i 1300 sg :: ga_i 25 n1 :: ga_i 26 n2 :: ga_i 1300 n3 :: ga_i 250 n4 :: ga_i 25 n5 :: ga_i 40 n6 :: ga_z 40 n7 :: ga_l 310 hp :: ga_l 576 gv :: ga_z 24 io :: []), sh_f sv (a_f av)) := by
  have hn : 106 ≤ an + 106 := by omega
  have e2 := J.2.2.1.2.2.1
  have e1 := J.2.2.1.2.1
  subst e2
  subst e1
  obtain ⟨t, ht, hT⟩ := ask_t J.2.2.2.2.1 J.2.2.2.1.1
  have hcd := J.2.2.2.2.2.2.1.2.2.2.2.2.2.1
  have hfo := J.2.2.2.2.2.2.1.2.2.2.2.2.2.2.1
  have htt := J.2.2.2.2.2.2.1.2.2.2.2.2.2.2.2
  refine g_aload_n (nx := 517) hX 1 dL_law_516 rfl rfl rfl ?_
  refine g_aload_nR (nx := 518) hX 0 dL_law_517 rfl rfl rfl ?_
  refine g_iload_n (nx := 519) hX 3 dL_law_518 rfl rfl rfl ?_
  refine g_iconst (nx := 520) hX 1 dL_law_519 rfl (by decide) ?_
  refine g_iadd (nx := 521) hX dL_law_520 rfl ?_
  refine g_sld (nx := 522) hX hS (6 * k + 1) (nI_add (6 * k) 1) (by omega) hL dL_law_521 rfl ?_
  refine g_aload_nR (nx := 523) hX 0 dL_law_522 rfl rfl rfl ?_
  refine g_iload_n (nx := 524) hX 3 dL_law_523 rfl rfl rfl ?_
  refine g_iconst (nx := 525) hX 2 dL_law_524 rfl (by decide) ?_
  refine g_iadd (nx := 526) hX dL_law_525 rfl ?_
  refine g_sld (nx := 527) hX hS (6 * k + 2) (nI_add (6 * k) 2) (by omega) hL dL_law_526 rfl ?_
  refine g_V2 (nx := 530) hX dL_law_527 rfl mL_67 yX10_count_ok (c_X10_count (J_b J) hT ht) (ga_dn hn rfl) rfl rfl rfl (by omega) rfl (by omega) (by omega) ?_
  rintro _ _ ⟨rfl, top2, s2, hd2, se2, sv2, hb, rfl⟩
  refine g_aload_n (nx := 531) hX 2 dL_law_530 rfl rfl rfl ?_
  refine g_aload_nR (nx := 532) hX 0 dL_law_531 rfl rfl rfl ?_
  refine g_iload_n (nx := 533) hX 3 dL_law_532 rfl rfl rfl ?_
  refine g_iconst (nx := 534) hX 1 dL_law_533 rfl (by decide) ?_
  refine g_iadd (nx := 535) hX dL_law_534 rfl ?_
  refine g_sld (nx := 536) hX hS (6 * k + 1) (nI_add (6 * k) 1) (by omega) hL dL_law_535 rfl ?_
  refine g_aload_nR (nx := 537) hX 0 dL_law_536 rfl rfl rfl ?_
  refine g_iload_n (nx := 538) hX 3 dL_law_537 rfl rfl rfl ?_
  refine g_iconst (nx := 539) hX 2 dL_law_538 rfl (by decide) ?_
  refine g_iadd (nx := 540) hX dL_law_539 rfl ?_
  refine g_sld (nx := 541) hX hS (6 * k + 2) (nI_add (6 * k) 2) (by omega) hL dL_law_540 rfl ?_
  refine g_V2 (nx := 544) hX dL_law_541 rfl mL_70 yX11_count_ok (c_X11_count hn (J_m J) hT ht) (ga_dn hn rfl) rfl rfl rfl (by omega) rfl (by omega) (by omega) ?_
  rintro _ _ ⟨rfl, ta2, af2, hp2, gv2, io2, rfl⟩
  refine g_icmp_eq (nx := 547) hX 802 dL_law_544 (by decide) rfl (fun h544 => ?_) (fun h544 => ?_)
  · exact g_widen (by omega) (by omega) (kont _ (lw_I_of (cd := cd) (cd2 := cd2) (en := en) ⟨J.1, J.2.1, J.2.2.1, J.2.2.2.1, J.2.2.2.2.1, J.2.2.2.2.2.1, J.2.2.2.2.2.2.1, J.2.2.2.2.2.2.2.1, hb.2.2.1, hb.2.2.2.2.2.2.2.2.2.2⟩))
  · exact absurd (by rw [s_F_cd hcd hfo]) h544
theorem l_given (hX : ga_B E d (⟨RL, lnm, lds⟩ : MethodName) cL_law 4 mc ms X) (h40 : 40 ≤ d) (hS : ga_Xs E X L xs) (hL : L ≤ 3072) (hE : ∀ a, 27 ≤ a → E.2.1 a = E.1 + a) (hk : 6 * k + 6 ≤ L) (hc1 : kc + 1 ≤ mc) (hc2 : ks + 8 ≤ ms) (J : (lt ≤ 600 ∧ ∀ i, i < lt → 0 ≤ tb i) ∧ r_ok tm sz rn ∧ j_C mt ah fn fm em sp op ∧ j_A (mw, mq, mf, ma, mb, ms_) av ol nw an ∧ (ask = -1 ∨ 0 ≤ ask ∧ ask ≤ nI an) ∧ (∀ j, j < 15 → nm j = x_cn j) ∧ j_R cd cd2 en fo fo2 sm tot tt_ st_ od eo sg bo ∧ (rl = .null ∨ rl = .ref 15 ∨ rl = .ref 21) ∧ ka ≤ an ∧ b_ok ((mw, mq, mf, ma, mb, ms_), ah, ou, op, fn) (cd, en, fo, sm, tot) rn ka sv) (kont : ∀ M', lw_I M' → ga_G E X (kc + 1) (ks + 8) 802 [some (.retAddr 0), some (.ref 0), some (.ref 79), some (.int (nI (6 * k)))] [] M') : ga_G E X kc ks 549 [some (.retAddr 0), some (.ref 0), some (.ref 79), some (.int (nI (6 * k)))] [] (an + 106, (k_0 ask :: k_T lt :: ga_i 600 tb :: k_R rn :: ga_i 24 tm :: ga_i 6 sz :: k_C fm em sp fn op :: ga_i 32 ah :: ga_i 30 ou :: k_L an :: ga_r 4 401 (l_w an) :: ga_r 4 24 ol :: ga_r 4 24 nw :: k_D rl x1 x2 x3 x4 fd fa :: ga_l 39 nm :: k_U 15 top size tot (nI sm) :: ga_i 600 st_ :: ga_i 600 od :: ga_i 24 eo :: ga_i 24 fo :: ga_l 32 s :: k_U 21 u1 u2 u3 u4 :: ga_i 600 t1 :: ga_i 600 t2 :: ga_i 24 t3 :: ga_i 24 t4 :: ga_l 32 t5 :: k_B ka :: ga_r 3 24 b_w :: k_Y hd :: ga_i 120 se :: []), ((m_O (nI lt) (nI rn) (nI fn) (em) (sp) (nI an) (ask) (nI sm) (tt_) (v1) (v2) (fd) (fa) (v3) (v4) (v5) (v6) (v7)) :: ga_i 600 tb :: ga_i 24 tm :: ga_i 30 mt :: ga_i 30 ou :: ga_i 32 ah :: ga_i 401 mw :: ga_i 401 mq :: ga_i 401 mf :: ga_i 401 ma :: ga_i 401 mb :: ga_i 401 ms_ :: ga_i 18 ta :: ga_i 120 af :: ga_i 24 fo2 :: ga_i 25 bo :: ga_i 1300 sg :: ga_i 25 n1 :: ga_i 26 n2 :: ga_i 1300 n3 :: ga_i 250 n4 :: ga_i 25 n5 :: ga_i 40 n6 :: ga_z 40 n7 :: ga_l 310 hp :: ga_l 576 gv :: ga_z 24 io :: []), sh_f sv (a_f av)) := by
  have hn : 106 ≤ an + 106 := by omega
  have e2 := J.2.2.1.2.2.1
  have e1 := J.2.2.1.2.1
  subst e2
  subst e1
  obtain ⟨t, ht, hT⟩ := ask_t J.2.2.2.2.1 J.2.2.2.1.1
  have hcd := J.2.2.2.2.2.2.1.2.2.2.2.2.2.1
  have hfo := J.2.2.2.2.2.2.1.2.2.2.2.2.2.2.1
  have htt := J.2.2.2.2.2.2.1.2.2.2.2.2.2.2.2
  refine g_aload_n (nx := 550) hX 1 dL_law_549 rfl rfl rfl ?_
  refine g_aload_nR (nx := 551) hX 0 dL_law_550 rfl rfl rfl ?_
  refine g_iload_n (nx := 552) hX 3 dL_law_551 rfl rfl rfl ?_
  refine g_iconst (nx := 553) hX 1 dL_law_552 rfl (by decide) ?_
  refine g_iadd (nx := 554) hX dL_law_553 rfl ?_
  refine g_sld (nx := 555) hX hS (6 * k + 1) (nI_add (6 * k) 1) (by omega) hL dL_law_554 rfl ?_
  refine g_aload_nR (nx := 556) hX 0 dL_law_555 rfl rfl rfl ?_
  refine g_iload_n (nx := 557) hX 3 dL_law_556 rfl rfl rfl ?_
  refine g_iconst (nx := 558) hX 2 dL_law_557 rfl (by decide) ?_
  refine g_iadd (nx := 559) hX dL_law_558 rfl ?_
  refine g_sld (nx := 560) hX hS (6 * k + 2) (nI_add (6 * k) 2) (by omega) hL dL_law_559 rfl ?_
  refine g_V2 (nx := 563) hX dL_law_560 rfl mL_71 yX10_given_ok (c_X10_given (J_b J) hT ht) (ga_dn hn rfl) rfl rfl rfl (by omega) rfl (by omega) (by omega) ?_
  rintro _ _ ⟨rfl, top2, s2, hd2, se2, sv2, hb, rfl⟩
  refine g_aload_n (nx := 564) hX 2 dL_law_563 rfl rfl rfl ?_
  refine g_aload_nR (nx := 565) hX 0 dL_law_564 rfl rfl rfl ?_
  refine g_iload_n (nx := 566) hX 3 dL_law_565 rfl rfl rfl ?_
  refine g_iconst (nx := 567) hX 1 dL_law_566 rfl (by decide) ?_
  refine g_iadd (nx := 568) hX dL_law_567 rfl ?_
  refine g_sld (nx := 569) hX hS (6 * k + 1) (nI_add (6 * k) 1) (by omega) hL dL_law_568 rfl ?_
  refine g_aload_nR (nx := 570) hX 0 dL_law_569 rfl rfl rfl ?_
  refine g_iload_n (nx := 571) hX 3 dL_law_570 rfl rfl rfl ?_
  refine g_iconst (nx := 572) hX 2 dL_law_571 rfl (by decide) ?_
  refine g_iadd (nx := 573) hX dL_law_572 rfl ?_
  refine g_sld (nx := 574) hX hS (6 * k + 2) (nI_add (6 * k) 2) (by omega) hL dL_law_573 rfl ?_
  refine g_V2 (nx := 577) hX dL_law_574 rfl mL_75 yX11_given_ok (c_X11_given hn (J_m J) hT ht) (ga_dn hn rfl) rfl rfl rfl (by omega) rfl (by omega) (by omega) ?_
  rintro _ _ ⟨rfl, ta2, af2, hp2, gv2, io2, rfl⟩
  refine g_lcmp (nx := 578) hX dL_law_577 rfl ?_
  rw [s_F_cd hcd hfo, lg_self]
  refine g_if_eq (nx := 581) hX 802 dL_law_578 (by decide) rfl (fun h578 => ?_) (fun h578 => ?_)
  · exact g_widen (by omega) (by omega) (kont _ (lw_I_of (cd := cd) (cd2 := cd2) (en := en) ⟨J.1, J.2.1, J.2.2.1, J.2.2.2.1, J.2.2.2.2.1, J.2.2.2.2.2.1, J.2.2.2.2.2.2.1, J.2.2.2.2.2.2.2.1, hb.2.2.1, hb.2.2.2.2.2.2.2.2.2.2⟩))
  · exact absurd rfl h578
theorem l_total (hX : ga_B E d (⟨RL, lnm, lds⟩ : MethodName) cL_law 4 mc ms X) (h40 : 40 ≤ d) (hS : ga_Xs E X L xs) (hL : L ≤ 3072) (hE : ∀ a, 27 ≤ a → E.2.1 a = E.1 + a) (hk : 6 * k + 6 ≤ L) (hc1 : kc + 1 ≤ mc) (hc2 : ks + 8 ≤ ms) (J : (lt ≤ 600 ∧ ∀ i, i < lt → 0 ≤ tb i) ∧ r_ok tm sz rn ∧ j_C mt ah fn fm em sp op ∧ j_A (mw, mq, mf, ma, mb, ms_) av ol nw an ∧ (ask = -1 ∨ 0 ≤ ask ∧ ask ≤ nI an) ∧ (∀ j, j < 15 → nm j = x_cn j) ∧ j_R cd cd2 en fo fo2 sm tot tt_ st_ od eo sg bo ∧ (rl = .null ∨ rl = .ref 15 ∨ rl = .ref 21) ∧ ka ≤ an ∧ b_ok ((mw, mq, mf, ma, mb, ms_), ah, ou, op, fn) (cd, en, fo, sm, tot) rn ka sv) (kont : ∀ M', lw_I M' → ga_G E X (kc + 1) (ks + 8) 802 [some (.retAddr 0), some (.ref 0), some (.ref 79), some (.int (nI (6 * k)))] [] M') : ga_G E X kc ks 583 [some (.retAddr 0), some (.ref 0), some (.ref 79), some (.int (nI (6 * k)))] [] (an + 106, (k_0 ask :: k_T lt :: ga_i 600 tb :: k_R rn :: ga_i 24 tm :: ga_i 6 sz :: k_C fm em sp fn op :: ga_i 32 ah :: ga_i 30 ou :: k_L an :: ga_r 4 401 (l_w an) :: ga_r 4 24 ol :: ga_r 4 24 nw :: k_D rl x1 x2 x3 x4 fd fa :: ga_l 39 nm :: k_U 15 top size tot (nI sm) :: ga_i 600 st_ :: ga_i 600 od :: ga_i 24 eo :: ga_i 24 fo :: ga_l 32 s :: k_U 21 u1 u2 u3 u4 :: ga_i 600 t1 :: ga_i 600 t2 :: ga_i 24 t3 :: ga_i 24 t4 :: ga_l 32 t5 :: k_B ka :: ga_r 3 24 b_w :: k_Y hd :: ga_i 120 se :: []), ((m_O (nI lt) (nI rn) (nI fn) (em) (sp) (nI an) (ask) (nI sm) (tt_) (v1) (v2) (fd) (fa) (v3) (v4) (v5) (v6) (v7)) :: ga_i 600 tb :: ga_i 24 tm :: ga_i 30 mt :: ga_i 30 ou :: ga_i 32 ah :: ga_i 401 mw :: ga_i 401 mq :: ga_i 401 mf :: ga_i 401 ma :: ga_i 401 mb :: ga_i 401 ms_ :: ga_i 18 ta :: ga_i 120 af :: ga_i 24 fo2 :: ga_i 25 bo :: ga_i 1300 sg :: ga_i 25 n1 :: ga_i 26 n2 :: ga_i 1300 n3 :: ga_i 250 n4 :: ga_i 25 n5 :: ga_i 40 n6 :: ga_z 40 n7 :: ga_l 310 hp :: ga_l 576 gv :: ga_z 24 io :: []), sh_f sv (a_f av)) := by
  have hn : 106 ≤ an + 106 := by omega
  have e2 := J.2.2.1.2.2.1
  have e1 := J.2.2.1.2.1
  subst e2
  subst e1
  obtain ⟨t, ht, hT⟩ := ask_t J.2.2.2.2.1 J.2.2.2.1.1
  have hcd := J.2.2.2.2.2.2.1.2.2.2.2.2.2.1
  have hfo := J.2.2.2.2.2.2.1.2.2.2.2.2.2.2.1
  have htt := J.2.2.2.2.2.2.1.2.2.2.2.2.2.2.2
  refine g_aload_n (nx := 584) hX 1 dL_law_583 rfl rfl rfl ?_
  refine g_aload_nR (nx := 585) hX 0 dL_law_584 rfl rfl rfl ?_
  refine g_iload_n (nx := 586) hX 3 dL_law_585 rfl rfl rfl ?_
  refine g_iconst (nx := 587) hX 1 dL_law_586 rfl (by decide) ?_
  refine g_iadd (nx := 588) hX dL_law_587 rfl ?_
  refine g_sld (nx := 589) hX hS (6 * k + 1) (nI_add (6 * k) 1) (by omega) hL dL_law_588 rfl ?_
  refine g_V1 (nx := 592) hX dL_law_589 rfl mL_76 yX10_total_ok (c_X10_total (J_b J) hT ht) (ga_dn hn rfl) rfl rfl rfl (by omega) rfl (by omega) (by omega) ?_
  rintro _ _ ⟨rfl, top2, s2, hd2, se2, sv2, hb, rfl⟩
  refine g_aload_n (nx := 593) hX 2 dL_law_592 rfl rfl rfl ?_
  refine g_aload_nR (nx := 594) hX 0 dL_law_593 rfl rfl rfl ?_
  refine g_iload_n (nx := 595) hX 3 dL_law_594 rfl rfl rfl ?_
  refine g_iconst (nx := 596) hX 1 dL_law_595 rfl (by decide) ?_
  refine g_iadd (nx := 597) hX dL_law_596 rfl ?_
  refine g_sld (nx := 598) hX hS (6 * k + 1) (nI_add (6 * k) 1) (by omega) hL dL_law_597 rfl ?_
  refine g_V1 (nx := 601) hX dL_law_598 rfl mL_80 yX11_total_ok (c_X11_total hn (J_m J) htt hT ht) (ga_dn hn rfl) rfl rfl rfl (by omega) rfl (by omega) (by omega) ?_
  rintro _ _ ⟨rfl, ta2, af2, hp2, gv2, io2, rfl⟩
  refine g_lcmp (nx := 602) hX dL_law_601 rfl ?_
  rw [s_F_cd hcd hfo, lg_self]
  refine g_if_eq (nx := 605) hX 802 dL_law_602 (by decide) rfl (fun h602 => ?_) (fun h602 => ?_)
  · exact g_widen (by omega) (by omega) (kont _ (lw_I_of (cd := cd) (cd2 := cd2) (en := en) ⟨J.1, J.2.1, J.2.2.1, J.2.2.2.1, J.2.2.2.2.1, J.2.2.2.2.2.1, J.2.2.2.2.2.2.1, J.2.2.2.2.2.2.2.1, hb.2.2.1, hb.2.2.2.2.2.2.2.2.2.2⟩))
  · exact absurd rfl h602
theorem l_isOut (hX : ga_B E d (⟨RL, lnm, lds⟩ : MethodName) cL_law 4 mc ms X) (h40 : 40 ≤ d) (hS : ga_Xs E X L xs) (hL : L ≤ 3072) (hE : ∀ a, 27 ≤ a → E.2.1 a = E.1 + a) (hk : 6 * k + 6 ≤ L) (hc1 : kc + 1 ≤ mc) (hc2 : ks + 8 ≤ ms) (J : (lt ≤ 600 ∧ ∀ i, i < lt → 0 ≤ tb i) ∧ r_ok tm sz rn ∧ j_C mt ah fn fm em sp op ∧ j_A (mw, mq, mf, ma, mb, ms_) av ol nw an ∧ (ask = -1 ∨ 0 ≤ ask ∧ ask ≤ nI an) ∧ (∀ j, j < 15 → nm j = x_cn j) ∧ j_R cd cd2 en fo fo2 sm tot tt_ st_ od eo sg bo ∧ (rl = .null ∨ rl = .ref 15 ∨ rl = .ref 21) ∧ ka ≤ an ∧ b_ok ((mw, mq, mf, ma, mb, ms_), ah, ou, op, fn) (cd, en, fo, sm, tot) rn ka sv) (kont : ∀ M', lw_I M' → ga_G E X (kc + 1) (ks + 8) 802 [some (.retAddr 0), some (.ref 0), some (.ref 79), some (.int (nI (6 * k)))] [] M') : ga_G E X kc ks 607 [some (.retAddr 0), some (.ref 0), some (.ref 79), some (.int (nI (6 * k)))] [] (an + 106, (k_0 ask :: k_T lt :: ga_i 600 tb :: k_R rn :: ga_i 24 tm :: ga_i 6 sz :: k_C fm em sp fn op :: ga_i 32 ah :: ga_i 30 ou :: k_L an :: ga_r 4 401 (l_w an) :: ga_r 4 24 ol :: ga_r 4 24 nw :: k_D rl x1 x2 x3 x4 fd fa :: ga_l 39 nm :: k_U 15 top size tot (nI sm) :: ga_i 600 st_ :: ga_i 600 od :: ga_i 24 eo :: ga_i 24 fo :: ga_l 32 s :: k_U 21 u1 u2 u3 u4 :: ga_i 600 t1 :: ga_i 600 t2 :: ga_i 24 t3 :: ga_i 24 t4 :: ga_l 32 t5 :: k_B ka :: ga_r 3 24 b_w :: k_Y hd :: ga_i 120 se :: []), ((m_O (nI lt) (nI rn) (nI fn) (em) (sp) (nI an) (ask) (nI sm) (tt_) (v1) (v2) (fd) (fa) (v3) (v4) (v5) (v6) (v7)) :: ga_i 600 tb :: ga_i 24 tm :: ga_i 30 mt :: ga_i 30 ou :: ga_i 32 ah :: ga_i 401 mw :: ga_i 401 mq :: ga_i 401 mf :: ga_i 401 ma :: ga_i 401 mb :: ga_i 401 ms_ :: ga_i 18 ta :: ga_i 120 af :: ga_i 24 fo2 :: ga_i 25 bo :: ga_i 1300 sg :: ga_i 25 n1 :: ga_i 26 n2 :: ga_i 1300 n3 :: ga_i 250 n4 :: ga_i 25 n5 :: ga_i 40 n6 :: ga_z 40 n7 :: ga_l 310 hp :: ga_l 576 gv :: ga_z 24 io :: []), sh_f sv (a_f av)) := by
  have hn : 106 ≤ an + 106 := by omega
  have e2 := J.2.2.1.2.2.1
  have e1 := J.2.2.1.2.1
  subst e2
  subst e1
  obtain ⟨t, ht, hT⟩ := ask_t J.2.2.2.2.1 J.2.2.2.1.1
  have hcd := J.2.2.2.2.2.2.1.2.2.2.2.2.2.1
  have hfo := J.2.2.2.2.2.2.1.2.2.2.2.2.2.2.1
  have htt := J.2.2.2.2.2.2.1.2.2.2.2.2.2.2.2
  refine g_aload_n (nx := 608) hX 1 dL_law_607 rfl rfl rfl ?_
  refine g_aload_nR (nx := 609) hX 0 dL_law_608 rfl rfl rfl ?_
  refine g_iload_n (nx := 610) hX 3 dL_law_609 rfl rfl rfl ?_
  refine g_iconst (nx := 611) hX 1 dL_law_610 rfl (by decide) ?_
  refine g_iadd (nx := 612) hX dL_law_611 rfl ?_
  refine g_sld (nx := 613) hX hS (6 * k + 1) (nI_add (6 * k) 1) (by omega) hL dL_law_612 rfl ?_
  refine g_V1 (nx := 616) hX dL_law_613 rfl mL_81 yX10_isOut_ok (c_X10_isOut (J_b J) hT ht) (ga_dn hn rfl) rfl rfl rfl (by omega) rfl (by omega) (by omega) ?_
  rintro _ _ ⟨rfl, top2, s2, hd2, se2, sv2, hb, rfl⟩
  refine g_aload_n (nx := 617) hX 2 dL_law_616 rfl rfl rfl ?_
  refine g_aload_nR (nx := 618) hX 0 dL_law_617 rfl rfl rfl ?_
  refine g_iload_n (nx := 619) hX 3 dL_law_618 rfl rfl rfl ?_
  refine g_iconst (nx := 620) hX 1 dL_law_619 rfl (by decide) ?_
  refine g_iadd (nx := 621) hX dL_law_620 rfl ?_
  refine g_sld (nx := 622) hX hS (6 * k + 1) (nI_add (6 * k) 1) (by omega) hL dL_law_621 rfl ?_
  refine g_V1 (nx := 625) hX dL_law_622 rfl mL_84 yX11_isOut__ok (c_X11_isOut_ hn (J_m J) hT ht) (ga_dn hn rfl) rfl rfl rfl (by omega) rfl (by omega) (by omega) ?_
  rintro _ _ ⟨rfl, ta2, af2, hp2, gv2, io2, rfl⟩
  refine g_icmp_eq (nx := 628) hX 802 dL_law_625 (by decide) rfl (fun h625 => ?_) (fun h625 => ?_)
  · exact g_widen (by omega) (by omega) (kont _ (lw_I_of (cd := cd) (cd2 := cd2) (en := en) ⟨J.1, J.2.1, J.2.2.1, J.2.2.2.1, J.2.2.2.2.1, J.2.2.2.2.2.1, J.2.2.2.2.2.2.1, J.2.2.2.2.2.2.2.1, hb.2.2.1, hb.2.2.2.2.2.2.2.2.2.2⟩))
  · exact absurd (by rw [s_F_cd hcd hfo]) h625
theorem l_against (hX : ga_B E d (⟨RL, lnm, lds⟩ : MethodName) cL_law 4 mc ms X) (h40 : 40 ≤ d) (hS : ga_Xs E X L xs) (hL : L ≤ 3072) (hE : ∀ a, 27 ≤ a → E.2.1 a = E.1 + a) (hk : 6 * k + 6 ≤ L) (hc1 : kc + 1 ≤ mc) (hc2 : ks + 8 ≤ ms) (J : (lt ≤ 600 ∧ ∀ i, i < lt → 0 ≤ tb i) ∧ r_ok tm sz rn ∧ j_C mt ah fn fm em sp op ∧ j_A (mw, mq, mf, ma, mb, ms_) av ol nw an ∧ (ask = -1 ∨ 0 ≤ ask ∧ ask ≤ nI an) ∧ (∀ j, j < 15 → nm j = x_cn j) ∧ j_R cd cd2 en fo fo2 sm tot tt_ st_ od eo sg bo ∧ (rl = .null ∨ rl = .ref 15 ∨ rl = .ref 21) ∧ ka ≤ an ∧ b_ok ((mw, mq, mf, ma, mb, ms_), ah, ou, op, fn) (cd, en, fo, sm, tot) rn ka sv) (kont : ∀ M', lw_I M' → ga_G E X (kc + 1) (ks + 8) 802 [some (.retAddr 0), some (.ref 0), some (.ref 79), some (.int (nI (6 * k)))] [] M') : ga_G E X kc ks 630 [some (.retAddr 0), some (.ref 0), some (.ref 79), some (.int (nI (6 * k)))] [] (an + 106, (k_0 ask :: k_T lt :: ga_i 600 tb :: k_R rn :: ga_i 24 tm :: ga_i 6 sz :: k_C fm em sp fn op :: ga_i 32 ah :: ga_i 30 ou :: k_L an :: ga_r 4 401 (l_w an) :: ga_r 4 24 ol :: ga_r 4 24 nw :: k_D rl x1 x2 x3 x4 fd fa :: ga_l 39 nm :: k_U 15 top size tot (nI sm) :: ga_i 600 st_ :: ga_i 600 od :: ga_i 24 eo :: ga_i 24 fo :: ga_l 32 s :: k_U 21 u1 u2 u3 u4 :: ga_i 600 t1 :: ga_i 600 t2 :: ga_i 24 t3 :: ga_i 24 t4 :: ga_l 32 t5 :: k_B ka :: ga_r 3 24 b_w :: k_Y hd :: ga_i 120 se :: []), ((m_O (nI lt) (nI rn) (nI fn) (em) (sp) (nI an) (ask) (nI sm) (tt_) (v1) (v2) (fd) (fa) (v3) (v4) (v5) (v6) (v7)) :: ga_i 600 tb :: ga_i 24 tm :: ga_i 30 mt :: ga_i 30 ou :: ga_i 32 ah :: ga_i 401 mw :: ga_i 401 mq :: ga_i 401 mf :: ga_i 401 ma :: ga_i 401 mb :: ga_i 401 ms_ :: ga_i 18 ta :: ga_i 120 af :: ga_i 24 fo2 :: ga_i 25 bo :: ga_i 1300 sg :: ga_i 25 n1 :: ga_i 26 n2 :: ga_i 1300 n3 :: ga_i 250 n4 :: ga_i 25 n5 :: ga_i 40 n6 :: ga_z 40 n7 :: ga_l 310 hp :: ga_l 576 gv :: ga_z 24 io :: []), sh_f sv (a_f av)) := by
  have hn : 106 ≤ an + 106 := by omega
  have e2 := J.2.2.1.2.2.1
  have e1 := J.2.2.1.2.1
  subst e2
  subst e1
  obtain ⟨t, ht, hT⟩ := ask_t J.2.2.2.2.1 J.2.2.2.1.1
  have hcd := J.2.2.2.2.2.2.1.2.2.2.2.2.2.1
  have hfo := J.2.2.2.2.2.2.1.2.2.2.2.2.2.2.1
  have htt := J.2.2.2.2.2.2.1.2.2.2.2.2.2.2.2
  refine g_aload_n (nx := 631) hX 1 dL_law_630 rfl rfl rfl ?_
  refine g_aload_nR (nx := 632) hX 0 dL_law_631 rfl rfl rfl ?_
  refine g_iload_n (nx := 633) hX 3 dL_law_632 rfl rfl rfl ?_
  refine g_iconst (nx := 634) hX 1 dL_law_633 rfl (by decide) ?_
  refine g_iadd (nx := 635) hX dL_law_634 rfl ?_
  refine g_sld (nx := 636) hX hS (6 * k + 1) (nI_add (6 * k) 1) (by omega) hL dL_law_635 rfl ?_
  refine g_aload_nR (nx := 637) hX 0 dL_law_636 rfl rfl rfl ?_
  refine g_iload_n (nx := 638) hX 3 dL_law_637 rfl rfl rfl ?_
  refine g_iconst (nx := 639) hX 2 dL_law_638 rfl (by decide) ?_
  refine g_iadd (nx := 640) hX dL_law_639 rfl ?_
  refine g_sld (nx := 641) hX hS (6 * k + 2) (nI_add (6 * k) 2) (by omega) hL dL_law_640 rfl ?_
  refine g_V2 (nx := 644) hX dL_law_641 rfl mL_85 yX10_against_ok (c_X10_against (J_b J) hT ht) (ga_dn hn rfl) rfl rfl rfl (by omega) rfl (by omega) (by omega) ?_
  rintro _ _ ⟨rfl, top2, s2, hd2, se2, sv2, hb, rfl⟩
  refine g_aload_n (nx := 645) hX 2 dL_law_644 rfl rfl rfl ?_
  refine g_aload_nR (nx := 646) hX 0 dL_law_645 rfl rfl rfl ?_
  refine g_iload_n (nx := 647) hX 3 dL_law_646 rfl rfl rfl ?_
  refine g_iconst (nx := 648) hX 1 dL_law_647 rfl (by decide) ?_
  refine g_iadd (nx := 649) hX dL_law_648 rfl ?_
  refine g_sld (nx := 650) hX hS (6 * k + 1) (nI_add (6 * k) 1) (by omega) hL dL_law_649 rfl ?_
  refine g_aload_nR (nx := 651) hX 0 dL_law_650 rfl rfl rfl ?_
  refine g_iload_n (nx := 652) hX 3 dL_law_651 rfl rfl rfl ?_
  refine g_iconst (nx := 653) hX 2 dL_law_652 rfl (by decide) ?_
  refine g_iadd (nx := 654) hX dL_law_653 rfl ?_
  refine g_sld (nx := 655) hX hS (6 * k + 2) (nI_add (6 * k) 2) (by omega) hL dL_law_654 rfl ?_
  refine g_V2 (nx := 658) hX dL_law_655 rfl mL_88 yX11_against_ok (c_X11_against hn (J_m J) htt hT ht) (ga_dn hn rfl) rfl rfl rfl (by omega) rfl (by omega) (by omega) ?_
  rintro _ _ ⟨rfl, ta2, af2, hp2, gv2, io2, rfl⟩
  refine g_icmp_eq (nx := 661) hX 802 dL_law_658 (by decide) rfl (fun h658 => ?_) (fun h658 => ?_)
  · exact g_widen (by omega) (by omega) (kont _ (lw_I_of (cd := cd) (cd2 := cd2) (en := en) ⟨J.1, J.2.1, J.2.2.1, J.2.2.2.1, J.2.2.2.2.1, J.2.2.2.2.2.1, J.2.2.2.2.2.2.1, J.2.2.2.2.2.2.2.1, hb.2.2.1, hb.2.2.2.2.2.2.2.2.2.2⟩))
  · exact absurd (by rw [b_F_cd hcd hfo, p_ag_fo hfo]) h658
theorem l_place (hX : ga_B E d (⟨RL, lnm, lds⟩ : MethodName) cL_law 4 mc ms X) (h40 : 40 ≤ d) (hS : ga_Xs E X L xs) (hL : L ≤ 3072) (hE : ∀ a, 27 ≤ a → E.2.1 a = E.1 + a) (hk : 6 * k + 6 ≤ L) (hc1 : kc + 1 ≤ mc) (hc2 : ks + 8 ≤ ms) (J : (lt ≤ 600 ∧ ∀ i, i < lt → 0 ≤ tb i) ∧ r_ok tm sz rn ∧ j_C mt ah fn fm em sp op ∧ j_A (mw, mq, mf, ma, mb, ms_) av ol nw an ∧ (ask = -1 ∨ 0 ≤ ask ∧ ask ≤ nI an) ∧ (∀ j, j < 15 → nm j = x_cn j) ∧ j_R cd cd2 en fo fo2 sm tot tt_ st_ od eo sg bo ∧ (rl = .null ∨ rl = .ref 15 ∨ rl = .ref 21) ∧ ka ≤ an ∧ b_ok ((mw, mq, mf, ma, mb, ms_), ah, ou, op, fn) (cd, en, fo, sm, tot) rn ka sv) (kont : ∀ M', lw_I M' → ga_G E X (kc + 1) (ks + 8) 802 [some (.retAddr 0), some (.ref 0), some (.ref 79), some (.int (nI (6 * k)))] [] M') : ga_G E X kc ks 663 [some (.retAddr 0), some (.ref 0), some (.ref 79), some (.int (nI (6 * k)))] [] (an + 106, (k_0 ask :: k_T lt :: ga_i 600 tb :: k_R rn :: ga_i 24 tm :: ga_i 6 sz :: k_C fm em sp fn op :: ga_i 32 ah :: ga_i 30 ou :: k_L an :: ga_r 4 401 (l_w an) :: ga_r 4 24 ol :: ga_r 4 24 nw :: k_D rl x1 x2 x3 x4 fd fa :: ga_l 39 nm :: k_U 15 top size tot (nI sm) :: ga_i 600 st_ :: ga_i 600 od :: ga_i 24 eo :: ga_i 24 fo :: ga_l 32 s :: k_U 21 u1 u2 u3 u4 :: ga_i 600 t1 :: ga_i 600 t2 :: ga_i 24 t3 :: ga_i 24 t4 :: ga_l 32 t5 :: k_B ka :: ga_r 3 24 b_w :: k_Y hd :: ga_i 120 se :: []), ((m_O (nI lt) (nI rn) (nI fn) (em) (sp) (nI an) (ask) (nI sm) (tt_) (v1) (v2) (fd) (fa) (v3) (v4) (v5) (v6) (v7)) :: ga_i 600 tb :: ga_i 24 tm :: ga_i 30 mt :: ga_i 30 ou :: ga_i 32 ah :: ga_i 401 mw :: ga_i 401 mq :: ga_i 401 mf :: ga_i 401 ma :: ga_i 401 mb :: ga_i 401 ms_ :: ga_i 18 ta :: ga_i 120 af :: ga_i 24 fo2 :: ga_i 25 bo :: ga_i 1300 sg :: ga_i 25 n1 :: ga_i 26 n2 :: ga_i 1300 n3 :: ga_i 250 n4 :: ga_i 25 n5 :: ga_i 40 n6 :: ga_z 40 n7 :: ga_l 310 hp :: ga_l 576 gv :: ga_z 24 io :: []), sh_f sv (a_f av)) := by
  have hn : 106 ≤ an + 106 := by omega
  have e2 := J.2.2.1.2.2.1
  have e1 := J.2.2.1.2.1
  subst e2
  subst e1
  obtain ⟨t, ht, hT⟩ := ask_t J.2.2.2.2.1 J.2.2.2.1.1
  have hcd := J.2.2.2.2.2.2.1.2.2.2.2.2.2.1
  have hfo := J.2.2.2.2.2.2.1.2.2.2.2.2.2.2.1
  have htt := J.2.2.2.2.2.2.1.2.2.2.2.2.2.2.2
  refine g_aload_n (nx := 664) hX 1 dL_law_663 rfl rfl rfl ?_
  refine g_aload_nR (nx := 665) hX 0 dL_law_664 rfl rfl rfl ?_
  refine g_iload_n (nx := 666) hX 3 dL_law_665 rfl rfl rfl ?_
  refine g_iconst (nx := 667) hX 1 dL_law_666 rfl (by decide) ?_
  refine g_iadd (nx := 668) hX dL_law_667 rfl ?_
  refine g_sld (nx := 669) hX hS (6 * k + 1) (nI_add (6 * k) 1) (by omega) hL dL_law_668 rfl ?_
  refine g_V1 (nx := 672) hX dL_law_669 rfl mL_89 yX10_place_ok (c_X10_place (J_b J) hT ht) (ga_dn hn rfl) rfl rfl rfl (by omega) rfl (by omega) (by omega) ?_
  rintro _ _ ⟨rfl, top2, s2, hd2, se2, sv2, hb, rfl⟩
  refine g_aload_n (nx := 673) hX 2 dL_law_672 rfl rfl rfl ?_
  refine g_aload_nR (nx := 674) hX 0 dL_law_673 rfl rfl rfl ?_
  refine g_iload_n (nx := 675) hX 3 dL_law_674 rfl rfl rfl ?_
  refine g_iconst (nx := 676) hX 1 dL_law_675 rfl (by decide) ?_
  refine g_iadd (nx := 677) hX dL_law_676 rfl ?_
  refine g_sld (nx := 678) hX hS (6 * k + 1) (nI_add (6 * k) 1) (by omega) hL dL_law_677 rfl ?_
  refine g_V1 (nx := 681) hX dL_law_678 rfl mL_92 yX11_place_ok (c_X11_place hn (J_m J) htt hT ht) (ga_dn hn rfl) rfl rfl rfl (by omega) rfl (by omega) (by omega) ?_
  rintro _ _ ⟨rfl, ta2, af2, hp2, gv2, io2, rfl⟩
  refine g_icmp_eq (nx := 684) hX 802 dL_law_681 (by decide) rfl (fun h681 => ?_) (fun h681 => ?_)
  · exact g_widen (by omega) (by omega) (kont _ (lw_I_of (cd := cd) (cd2 := cd2) (en := en) ⟨J.1, J.2.1, J.2.2.1, J.2.2.2.1, J.2.2.2.2.1, J.2.2.2.2.2.1, J.2.2.2.2.2.2.1, J.2.2.2.2.2.2.2.1, hb.2.2.1, hb.2.2.2.2.2.2.2.2.2.2⟩))
  · exact absurd (by rw [b_F_cd hcd hfo, p_pv_fo hfo]) h681
theorem l_team (hX : ga_B E d (⟨RL, lnm, lds⟩ : MethodName) cL_law 4 mc ms X) (h40 : 40 ≤ d) (hS : ga_Xs E X L xs) (hL : L ≤ 3072) (hE : ∀ a, 27 ≤ a → E.2.1 a = E.1 + a) (hk : 6 * k + 6 ≤ L) (hc1 : kc + 1 ≤ mc) (hc2 : ks + 8 ≤ ms) (J : (lt ≤ 600 ∧ ∀ i, i < lt → 0 ≤ tb i) ∧ r_ok tm sz rn ∧ j_C mt ah fn fm em sp op ∧ j_A (mw, mq, mf, ma, mb, ms_) av ol nw an ∧ (ask = -1 ∨ 0 ≤ ask ∧ ask ≤ nI an) ∧ (∀ j, j < 15 → nm j = x_cn j) ∧ j_R cd cd2 en fo fo2 sm tot tt_ st_ od eo sg bo ∧ (rl = .null ∨ rl = .ref 15 ∨ rl = .ref 21) ∧ ka ≤ an ∧ b_ok ((mw, mq, mf, ma, mb, ms_), ah, ou, op, fn) (cd, en, fo, sm, tot) rn ka sv) (kont : ∀ M', lw_I M' → ga_G E X (kc + 1) (ks + 8) 802 [some (.retAddr 0), some (.ref 0), some (.ref 79), some (.int (nI (6 * k)))] [] M') : ga_G E X kc ks 686 [some (.retAddr 0), some (.ref 0), some (.ref 79), some (.int (nI (6 * k)))] [] (an + 106, (k_0 ask :: k_T lt :: ga_i 600 tb :: k_R rn :: ga_i 24 tm :: ga_i 6 sz :: k_C fm em sp fn op :: ga_i 32 ah :: ga_i 30 ou :: k_L an :: ga_r 4 401 (l_w an) :: ga_r 4 24 ol :: ga_r 4 24 nw :: k_D rl x1 x2 x3 x4 fd fa :: ga_l 39 nm :: k_U 15 top size tot (nI sm) :: ga_i 600 st_ :: ga_i 600 od :: ga_i 24 eo :: ga_i 24 fo :: ga_l 32 s :: k_U 21 u1 u2 u3 u4 :: ga_i 600 t1 :: ga_i 600 t2 :: ga_i 24 t3 :: ga_i 24 t4 :: ga_l 32 t5 :: k_B ka :: ga_r 3 24 b_w :: k_Y hd :: ga_i 120 se :: []), ((m_O (nI lt) (nI rn) (nI fn) (em) (sp) (nI an) (ask) (nI sm) (tt_) (v1) (v2) (fd) (fa) (v3) (v4) (v5) (v6) (v7)) :: ga_i 600 tb :: ga_i 24 tm :: ga_i 30 mt :: ga_i 30 ou :: ga_i 32 ah :: ga_i 401 mw :: ga_i 401 mq :: ga_i 401 mf :: ga_i 401 ma :: ga_i 401 mb :: ga_i 401 ms_ :: ga_i 18 ta :: ga_i 120 af :: ga_i 24 fo2 :: ga_i 25 bo :: ga_i 1300 sg :: ga_i 25 n1 :: ga_i 26 n2 :: ga_i 1300 n3 :: ga_i 250 n4 :: ga_i 25 n5 :: ga_i 40 n6 :: ga_z 40 n7 :: ga_l 310 hp :: ga_l 576 gv :: ga_z 24 io :: []), sh_f sv (a_f av)) := by
  have hn : 106 ≤ an + 106 := by omega
  have e2 := J.2.2.1.2.2.1
  have e1 := J.2.2.1.2.1
  subst e2
  subst e1
  obtain ⟨t, ht, hT⟩ := ask_t J.2.2.2.2.1 J.2.2.2.1.1
  have hcd := J.2.2.2.2.2.2.1.2.2.2.2.2.2.1
  have hfo := J.2.2.2.2.2.2.1.2.2.2.2.2.2.2.1
  have htt := J.2.2.2.2.2.2.1.2.2.2.2.2.2.2.2
  refine g_aload_n (nx := 687) hX 1 dL_law_686 rfl rfl rfl ?_
  refine g_aload_nR (nx := 688) hX 0 dL_law_687 rfl rfl rfl ?_
  refine g_iload_n (nx := 689) hX 3 dL_law_688 rfl rfl rfl ?_
  refine g_iconst (nx := 690) hX 1 dL_law_689 rfl (by decide) ?_
  refine g_iadd (nx := 691) hX dL_law_690 rfl ?_
  refine g_sld (nx := 692) hX hS (6 * k + 1) (nI_add (6 * k) 1) (by omega) hL dL_law_691 rfl ?_
  refine g_V1 (nx := 695) hX dL_law_692 rfl mL_93 yX10_team_ok (c_X10_team (J_b J) hT ht) (ga_dn hn rfl) rfl rfl rfl (by omega) rfl (by omega) (by omega) ?_
  rintro _ _ ⟨rfl, top2, s2, hd2, se2, sv2, hb, rfl⟩
  refine g_aload_n (nx := 696) hX 2 dL_law_695 rfl rfl rfl ?_
  refine g_aload_nR (nx := 697) hX 0 dL_law_696 rfl rfl rfl ?_
  refine g_iload_n (nx := 698) hX 3 dL_law_697 rfl rfl rfl ?_
  refine g_iconst (nx := 699) hX 1 dL_law_698 rfl (by decide) ?_
  refine g_iadd (nx := 700) hX dL_law_699 rfl ?_
  refine g_sld (nx := 701) hX hS (6 * k + 1) (nI_add (6 * k) 1) (by omega) hL dL_law_700 rfl ?_
  refine g_V1 (nx := 704) hX dL_law_701 rfl mL_96 yX11_team_ok (c_X11_team hn (J_m J) htt hT ht) (ga_dn hn rfl) rfl rfl rfl (by omega) rfl (by omega) (by omega) ?_
  rintro _ _ ⟨rfl, ta2, af2, hp2, gv2, io2, rfl⟩
  refine g_lcmp (nx := 705) hX dL_law_704 rfl ?_
  rw [b_F_cd hcd hfo, te_eq J.2.1, lg_self]
  refine g_if_eq (nx := 708) hX 802 dL_law_705 (by decide) rfl (fun h705 => ?_) (fun h705 => ?_)
  · exact g_widen (by omega) (by omega) (kont _ (lw_I_of (cd := cd) (cd2 := cd2) (en := en) ⟨J.1, J.2.1, J.2.2.1, J.2.2.2.1, J.2.2.2.2.1, J.2.2.2.2.2.1, J.2.2.2.2.2.2.1, J.2.2.2.2.2.2.2.1, hb.2.2.1, hb.2.2.2.2.2.2.2.2.2.2⟩))
  · exact absurd rfl h705
theorem l_teamPlace (hX : ga_B E d (⟨RL, lnm, lds⟩ : MethodName) cL_law 4 mc ms X) (h40 : 40 ≤ d) (hS : ga_Xs E X L xs) (hL : L ≤ 3072) (hE : ∀ a, 27 ≤ a → E.2.1 a = E.1 + a) (hk : 6 * k + 6 ≤ L) (hc1 : kc + 1 ≤ mc) (hc2 : ks + 8 ≤ ms) (J : (lt ≤ 600 ∧ ∀ i, i < lt → 0 ≤ tb i) ∧ r_ok tm sz rn ∧ j_C mt ah fn fm em sp op ∧ j_A (mw, mq, mf, ma, mb, ms_) av ol nw an ∧ (ask = -1 ∨ 0 ≤ ask ∧ ask ≤ nI an) ∧ (∀ j, j < 15 → nm j = x_cn j) ∧ j_R cd cd2 en fo fo2 sm tot tt_ st_ od eo sg bo ∧ (rl = .null ∨ rl = .ref 15 ∨ rl = .ref 21) ∧ ka ≤ an ∧ b_ok ((mw, mq, mf, ma, mb, ms_), ah, ou, op, fn) (cd, en, fo, sm, tot) rn ka sv) (kont : ∀ M', lw_I M' → ga_G E X (kc + 1) (ks + 8) 802 [some (.retAddr 0), some (.ref 0), some (.ref 79), some (.int (nI (6 * k)))] [] M') : ga_G E X kc ks 710 [some (.retAddr 0), some (.ref 0), some (.ref 79), some (.int (nI (6 * k)))] [] (an + 106, (k_0 ask :: k_T lt :: ga_i 600 tb :: k_R rn :: ga_i 24 tm :: ga_i 6 sz :: k_C fm em sp fn op :: ga_i 32 ah :: ga_i 30 ou :: k_L an :: ga_r 4 401 (l_w an) :: ga_r 4 24 ol :: ga_r 4 24 nw :: k_D rl x1 x2 x3 x4 fd fa :: ga_l 39 nm :: k_U 15 top size tot (nI sm) :: ga_i 600 st_ :: ga_i 600 od :: ga_i 24 eo :: ga_i 24 fo :: ga_l 32 s :: k_U 21 u1 u2 u3 u4 :: ga_i 600 t1 :: ga_i 600 t2 :: ga_i 24 t3 :: ga_i 24 t4 :: ga_l 32 t5 :: k_B ka :: ga_r 3 24 b_w :: k_Y hd :: ga_i 120 se :: []), ((m_O (nI lt) (nI rn) (nI fn) (em) (sp) (nI an) (ask) (nI sm) (tt_) (v1) (v2) (fd) (fa) (v3) (v4) (v5) (v6) (v7)) :: ga_i 600 tb :: ga_i 24 tm :: ga_i 30 mt :: ga_i 30 ou :: ga_i 32 ah :: ga_i 401 mw :: ga_i 401 mq :: ga_i 401 mf :: ga_i 401 ma :: ga_i 401 mb :: ga_i 401 ms_ :: ga_i 18 ta :: ga_i 120 af :: ga_i 24 fo2 :: ga_i 25 bo :: ga_i 1300 sg :: ga_i 25 n1 :: ga_i 26 n2 :: ga_i 1300 n3 :: ga_i 250 n4 :: ga_i 25 n5 :: ga_i 40 n6 :: ga_z 40 n7 :: ga_l 310 hp :: ga_l 576 gv :: ga_z 24 io :: []), sh_f sv (a_f av)) := by
  have hn : 106 ≤ an + 106 := by omega
  have e2 := J.2.2.1.2.2.1
  have e1 := J.2.2.1.2.1
  subst e2
  subst e1
  obtain ⟨t, ht, hT⟩ := ask_t J.2.2.2.2.1 J.2.2.2.1.1
  have hcd := J.2.2.2.2.2.2.1.2.2.2.2.2.2.1
  have hfo := J.2.2.2.2.2.2.1.2.2.2.2.2.2.2.1
  have htt := J.2.2.2.2.2.2.1.2.2.2.2.2.2.2.2
  refine g_aload_n (nx := 711) hX 1 dL_law_710 rfl rfl rfl ?_
  refine g_aload_nR (nx := 712) hX 0 dL_law_711 rfl rfl rfl ?_
  refine g_iload_n (nx := 713) hX 3 dL_law_712 rfl rfl rfl ?_
  refine g_iconst (nx := 714) hX 1 dL_law_713 rfl (by decide) ?_
  refine g_iadd (nx := 715) hX dL_law_714 rfl ?_
  refine g_sld (nx := 716) hX hS (6 * k + 1) (nI_add (6 * k) 1) (by omega) hL dL_law_715 rfl ?_
  refine g_V1 (nx := 719) hX dL_law_716 rfl mL_97 yX10_teamPlace_ok (c_X10_teamPlace (J_b J) hT ht) (ga_dn hn rfl) rfl rfl rfl (by omega) rfl (by omega) (by omega) ?_
  rintro _ _ ⟨rfl, top2, s2, hd2, se2, sv2, hb, rfl⟩
  refine g_aload_n (nx := 720) hX 2 dL_law_719 rfl rfl rfl ?_
  refine g_aload_nR (nx := 721) hX 0 dL_law_720 rfl rfl rfl ?_
  refine g_iload_n (nx := 722) hX 3 dL_law_721 rfl rfl rfl ?_
  refine g_iconst (nx := 723) hX 1 dL_law_722 rfl (by decide) ?_
  refine g_iadd (nx := 724) hX dL_law_723 rfl ?_
  refine g_sld (nx := 725) hX hS (6 * k + 1) (nI_add (6 * k) 1) (by omega) hL dL_law_724 rfl ?_
  refine g_V1 (nx := 728) hX dL_law_725 rfl mL_100 yX11_teamPlace_ok (c_X11_teamPlace hn (J_m J) htt hT ht) (ga_dn hn rfl) rfl rfl rfl (by omega) rfl (by omega) (by omega) ?_
  rintro _ _ ⟨rfl, ta2, af2, hp2, gv2, io2, rfl⟩
  refine g_icmp_eq (nx := 731) hX 802 dL_law_728 (by decide) rfl (fun h728 => ?_) (fun h728 => ?_)
  · exact g_widen (by omega) (by omega) (kont _ (lw_I_of (cd := cd) (cd2 := cd2) (en := en) ⟨J.1, J.2.1, J.2.2.1, J.2.2.2.1, J.2.2.2.2.1, J.2.2.2.2.2.1, J.2.2.2.2.2.2.1, J.2.2.2.2.2.2.2.1, hb.2.2.1, hb.2.2.2.2.2.2.2.2.2.2⟩))
  · exact absurd (by rw [b_F_cd hcd hfo, tp_eq J.2.1]) h728
theorem l_ring (hX : ga_B E d (⟨RL, lnm, lds⟩ : MethodName) cL_law 4 mc ms X) (h40 : 40 ≤ d) (hS : ga_Xs E X L xs) (hL : L ≤ 3072) (hE : ∀ a, 27 ≤ a → E.2.1 a = E.1 + a) (hk : 6 * k + 6 ≤ L) (hc1 : kc + 1 ≤ mc) (hc2 : ks + 8 ≤ ms) (J : (lt ≤ 600 ∧ ∀ i, i < lt → 0 ≤ tb i) ∧ r_ok tm sz rn ∧ j_C mt ah fn fm em sp op ∧ j_A (mw, mq, mf, ma, mb, ms_) av ol nw an ∧ (ask = -1 ∨ 0 ≤ ask ∧ ask ≤ nI an) ∧ (∀ j, j < 15 → nm j = x_cn j) ∧ j_R cd cd2 en fo fo2 sm tot tt_ st_ od eo sg bo ∧ (rl = .null ∨ rl = .ref 15 ∨ rl = .ref 21) ∧ ka ≤ an ∧ b_ok ((mw, mq, mf, ma, mb, ms_), ah, ou, op, fn) (cd, en, fo, sm, tot) rn ka sv) (kont : ∀ M', lw_I M' → ga_G E X (kc + 1) (ks + 8) 802 [some (.retAddr 0), some (.ref 0), some (.ref 79), some (.int (nI (6 * k)))] [] M') : ga_G E X kc ks 733 [some (.retAddr 0), some (.ref 0), some (.ref 79), some (.int (nI (6 * k)))] [] (an + 106, (k_0 ask :: k_T lt :: ga_i 600 tb :: k_R rn :: ga_i 24 tm :: ga_i 6 sz :: k_C fm em sp fn op :: ga_i 32 ah :: ga_i 30 ou :: k_L an :: ga_r 4 401 (l_w an) :: ga_r 4 24 ol :: ga_r 4 24 nw :: k_D rl x1 x2 x3 x4 fd fa :: ga_l 39 nm :: k_U 15 top size tot (nI sm) :: ga_i 600 st_ :: ga_i 600 od :: ga_i 24 eo :: ga_i 24 fo :: ga_l 32 s :: k_U 21 u1 u2 u3 u4 :: ga_i 600 t1 :: ga_i 600 t2 :: ga_i 24 t3 :: ga_i 24 t4 :: ga_l 32 t5 :: k_B ka :: ga_r 3 24 b_w :: k_Y hd :: ga_i 120 se :: []), ((m_O (nI lt) (nI rn) (nI fn) (em) (sp) (nI an) (ask) (nI sm) (tt_) (v1) (v2) (fd) (fa) (v3) (v4) (v5) (v6) (v7)) :: ga_i 600 tb :: ga_i 24 tm :: ga_i 30 mt :: ga_i 30 ou :: ga_i 32 ah :: ga_i 401 mw :: ga_i 401 mq :: ga_i 401 mf :: ga_i 401 ma :: ga_i 401 mb :: ga_i 401 ms_ :: ga_i 18 ta :: ga_i 120 af :: ga_i 24 fo2 :: ga_i 25 bo :: ga_i 1300 sg :: ga_i 25 n1 :: ga_i 26 n2 :: ga_i 1300 n3 :: ga_i 250 n4 :: ga_i 25 n5 :: ga_i 40 n6 :: ga_z 40 n7 :: ga_l 310 hp :: ga_l 576 gv :: ga_z 24 io :: []), sh_f sv (a_f av)) := by
  have hn : 106 ≤ an + 106 := by omega
  have e2 := J.2.2.1.2.2.1
  have e1 := J.2.2.1.2.1
  subst e2
  subst e1
  obtain ⟨t, ht, hT⟩ := ask_t J.2.2.2.2.1 J.2.2.2.1.1
  have hcd := J.2.2.2.2.2.2.1.2.2.2.2.2.2.1
  have hfo := J.2.2.2.2.2.2.1.2.2.2.2.2.2.2.1
  have htt := J.2.2.2.2.2.2.1.2.2.2.2.2.2.2.2
  refine g_aload_n (nx := 734) hX 1 dL_law_733 rfl rfl rfl ?_
  refine g_aload_nR (nx := 735) hX 0 dL_law_734 rfl rfl rfl ?_
  refine g_iload_n (nx := 736) hX 3 dL_law_735 rfl rfl rfl ?_
  refine g_iconst (nx := 737) hX 1 dL_law_736 rfl (by decide) ?_
  refine g_iadd (nx := 738) hX dL_law_737 rfl ?_
  refine g_sld (nx := 739) hX hS (6 * k + 1) (nI_add (6 * k) 1) (by omega) hL dL_law_738 rfl ?_
  refine g_V1 (nx := 742) hX dL_law_739 rfl mL_101 yX10_ring_ok (c_X10_ring (J_b J) hT ht) (ga_dn hn rfl) rfl rfl rfl (by omega) rfl (by omega) (by omega) ?_
  rintro _ _ ⟨rfl, top2, s2, hd2, se2, sv2, hb, rfl⟩
  refine g_aload_n (nx := 743) hX 2 dL_law_742 rfl rfl rfl ?_
  refine g_aload_nR (nx := 744) hX 0 dL_law_743 rfl rfl rfl ?_
  refine g_iload_n (nx := 745) hX 3 dL_law_744 rfl rfl rfl ?_
  refine g_iconst (nx := 746) hX 1 dL_law_745 rfl (by decide) ?_
  refine g_iadd (nx := 747) hX dL_law_746 rfl ?_
  refine g_sld (nx := 748) hX hS (6 * k + 1) (nI_add (6 * k) 1) (by omega) hL dL_law_747 rfl ?_
  refine g_V1 (nx := 751) hX dL_law_748 rfl mL_104 yX11_ring_ok (c_X11_ring hn (J_m J) htt hT ht) (ga_dn hn rfl) rfl rfl rfl (by omega) rfl (by omega) (by omega) ?_
  rintro _ _ ⟨rfl, ta2, af2, hp2, gv2, io2, rfl⟩
  refine g_icmp_eq (nx := 754) hX 802 dL_law_751 (by decide) rfl (fun h751 => ?_) (fun h751 => ?_)
  · exact g_widen (by omega) (by omega) (kont _ (lw_I_of (cd := cd) (cd2 := cd2) (en := en) ⟨J.1, J.2.1, J.2.2.1, J.2.2.2.1, J.2.2.2.2.1, J.2.2.2.2.2.1, J.2.2.2.2.2.2.1, J.2.2.2.2.2.2.2.1, hb.2.2.1, hb.2.2.2.2.2.2.2.2.2.2⟩))
  · exact absurd (by rw [b_F_cd hcd hfo, rg_eq J.2.1.1, p_rg_fo hfo]) h751
theorem l_since (hX : ga_B E d (⟨RL, lnm, lds⟩ : MethodName) cL_law 4 mc ms X) (h40 : 40 ≤ d) (hS : ga_Xs E X L xs) (hL : L ≤ 3072) (hE : ∀ a, 27 ≤ a → E.2.1 a = E.1 + a) (hk : 6 * k + 6 ≤ L) (hc1 : kc + 1 ≤ mc) (hc2 : ks + 8 ≤ ms) (J : (lt ≤ 600 ∧ ∀ i, i < lt → 0 ≤ tb i) ∧ r_ok tm sz rn ∧ j_C mt ah fn fm em sp op ∧ j_A (mw, mq, mf, ma, mb, ms_) av ol nw an ∧ (ask = -1 ∨ 0 ≤ ask ∧ ask ≤ nI an) ∧ (∀ j, j < 15 → nm j = x_cn j) ∧ j_R cd cd2 en fo fo2 sm tot tt_ st_ od eo sg bo ∧ (rl = .null ∨ rl = .ref 15 ∨ rl = .ref 21) ∧ ka ≤ an ∧ b_ok ((mw, mq, mf, ma, mb, ms_), ah, ou, op, fn) (cd, en, fo, sm, tot) rn ka sv) (kont : ∀ M', lw_I M' → ga_G E X (kc + 1) (ks + 8) 802 [some (.retAddr 0), some (.ref 0), some (.ref 79), some (.int (nI (6 * k)))] [] M') : ga_G E X kc ks 756 [some (.retAddr 0), some (.ref 0), some (.ref 79), some (.int (nI (6 * k)))] [] (an + 106, (k_0 ask :: k_T lt :: ga_i 600 tb :: k_R rn :: ga_i 24 tm :: ga_i 6 sz :: k_C fm em sp fn op :: ga_i 32 ah :: ga_i 30 ou :: k_L an :: ga_r 4 401 (l_w an) :: ga_r 4 24 ol :: ga_r 4 24 nw :: k_D rl x1 x2 x3 x4 fd fa :: ga_l 39 nm :: k_U 15 top size tot (nI sm) :: ga_i 600 st_ :: ga_i 600 od :: ga_i 24 eo :: ga_i 24 fo :: ga_l 32 s :: k_U 21 u1 u2 u3 u4 :: ga_i 600 t1 :: ga_i 600 t2 :: ga_i 24 t3 :: ga_i 24 t4 :: ga_l 32 t5 :: k_B ka :: ga_r 3 24 b_w :: k_Y hd :: ga_i 120 se :: []), ((m_O (nI lt) (nI rn) (nI fn) (em) (sp) (nI an) (ask) (nI sm) (tt_) (v1) (v2) (fd) (fa) (v3) (v4) (v5) (v6) (v7)) :: ga_i 600 tb :: ga_i 24 tm :: ga_i 30 mt :: ga_i 30 ou :: ga_i 32 ah :: ga_i 401 mw :: ga_i 401 mq :: ga_i 401 mf :: ga_i 401 ma :: ga_i 401 mb :: ga_i 401 ms_ :: ga_i 18 ta :: ga_i 120 af :: ga_i 24 fo2 :: ga_i 25 bo :: ga_i 1300 sg :: ga_i 25 n1 :: ga_i 26 n2 :: ga_i 1300 n3 :: ga_i 250 n4 :: ga_i 25 n5 :: ga_i 40 n6 :: ga_z 40 n7 :: ga_l 310 hp :: ga_l 576 gv :: ga_z 24 io :: []), sh_f sv (a_f av)) := by
  have hn : 106 ≤ an + 106 := by omega
  have e2 := J.2.2.1.2.2.1
  have e1 := J.2.2.1.2.1
  subst e2
  subst e1
  obtain ⟨t, ht, hT⟩ := ask_t J.2.2.2.2.1 J.2.2.2.1.1
  have hcd := J.2.2.2.2.2.2.1.2.2.2.2.2.2.1
  have hfo := J.2.2.2.2.2.2.1.2.2.2.2.2.2.2.1
  have htt := J.2.2.2.2.2.2.1.2.2.2.2.2.2.2.2
  refine g_aload_n (nx := 757) hX 1 dL_law_756 rfl rfl rfl ?_
  refine g_aload_nR (nx := 758) hX 0 dL_law_757 rfl rfl rfl ?_
  refine g_iload_n (nx := 759) hX 3 dL_law_758 rfl rfl rfl ?_
  refine g_iconst (nx := 760) hX 1 dL_law_759 rfl (by decide) ?_
  refine g_iadd (nx := 761) hX dL_law_760 rfl ?_
  refine g_sld (nx := 762) hX hS (6 * k + 1) (nI_add (6 * k) 1) (by omega) hL dL_law_761 rfl ?_
  refine g_V1 (nx := 765) hX dL_law_762 rfl mL_105 yX10_since_ok (c_X10_since (J_b J) hT ht) (ga_dn hn rfl) rfl rfl rfl (by omega) rfl (by omega) (by omega) ?_
  rintro _ _ ⟨rfl, top2, s2, hd2, se2, ka2, sv2, hb, rfl⟩
  refine g_aload_n (nx := 766) hX 2 dL_law_765 rfl rfl rfl ?_
  refine g_aload_nR (nx := 767) hX 0 dL_law_766 rfl rfl rfl ?_
  refine g_iload_n (nx := 768) hX 3 dL_law_767 rfl rfl rfl ?_
  refine g_iconst (nx := 769) hX 1 dL_law_768 rfl (by decide) ?_
  refine g_iadd (nx := 770) hX dL_law_769 rfl ?_
  refine g_sld (nx := 771) hX hS (6 * k + 1) (nI_add (6 * k) 1) (by omega) hL dL_law_770 rfl ?_
  refine g_V1 (nx := 774) hX dL_law_771 rfl mL_108 yX11_since_ok (c_X11_since hn (J_m J) htt hT ht) (ga_dn hn rfl) rfl rfl rfl (by omega) rfl (by omega) (by omega) ?_
  rintro _ _ ⟨rfl, ta2, af2, hp2, gv2, io2, rfl⟩
  refine g_icmp_eq (nx := 777) hX 802 dL_law_774 (by decide) rfl (fun h774 => ?_) (fun h774 => ?_)
  · exact g_widen (by omega) (by omega) (kont _ (lw_I_of (cd := cd) (cd2 := cd2) (en := en) ⟨J.1, J.2.1, J.2.2.1, J.2.2.2.1, J.2.2.2.2.1, J.2.2.2.2.2.1, J.2.2.2.2.2.2.1, J.2.2.2.2.2.2.2.1, hb.2.2.1, hb.2.2.2.2.2.2.2.2.2.2⟩))
  · exact absurd (by simp only [b_F_cd hcd hfo, p_pl_fo hfo]) h774
end
