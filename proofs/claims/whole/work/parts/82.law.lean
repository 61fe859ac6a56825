/-! ===== the law: what holds between two calls ===== -/
def lw_I (M : ga_M) : Prop := ∃ (lt rn fn an sm ka : Nat) (ask fm em sp op top size tot tt_ hd fd fa x1 x2 x3 u1 u2 u3 u4 v1 v2 v3 v4 v5 v6 v7 : Int32) (x4 : Int64) (rl : Value) (tb tm sz ah ou st_ od eo fo fo2 se mt mw mq mf ma mb ms_ ta af bo sg io t1 t2 t3 t4 n1 n2 n3 n4 n5 n6 n7 : Nat → Int32) (nm s t5 hp gv : Nat → Int64) (ol nw : Nat → Option Nat) (sv : Nat → sh_S) (av : Nat → a_S) (cd cd2 : Nat → Nat × Nat) (en : Nat → Nat), ((lt ≤ 600 ∧ ∀ i, i < lt → 0 ≤ tb i) ∧ r_ok tm sz rn ∧ j_C mt ah fn fm em sp op ∧ j_A (mw, mq, mf, ma, mb, ms_) av ol nw an ∧ (ask = -1 ∨ 0 ≤ ask ∧ ask ≤ nI an) ∧ (∀ j, j < 15 → nm j = x_cn j) ∧ j_R cd cd2 en fo fo2 sm tot tt_ st_ od eo sg bo ∧ (rl = .null ∨ rl = .ref 15 ∨ rl = .ref 21) ∧ ka ≤ an ∧ b_ok ((mw, mq, mf, ma, mb, ms_), ah, ou, op, fn) (cd, en, fo, sm, tot) rn ka sv) ∧ M = (an + 106, (k_0 ask :: k_T lt :: ga_i 600 tb :: k_R rn :: ga_i 24 tm :: ga_i 6 sz :: k_C fm em sp fn op :: ga_i 32 ah :: ga_i 30 ou :: k_L an :: ga_r 4 401 (l_w an) :: ga_r 4 24 ol :: ga_r 4 24 nw :: k_D rl x1 x2 x3 x4 fd fa :: ga_l 39 nm :: k_U 15 top size tot (nI sm) :: ga_i 600 st_ :: ga_i 600 od :: ga_i 24 eo :: ga_i 24 fo :: ga_l 32 s :: k_U 21 u1 u2 u3 u4 :: ga_i 600 t1 :: ga_i 600 t2 :: ga_i 24 t3 :: ga_i 24 t4 :: ga_l 32 t5 :: k_B ka :: ga_r 3 24 b_w :: k_Y hd :: ga_i 120 se :: []), ((m_O (nI lt) (nI rn) (nI fn) (em) (sp) (nI an) (ask) (nI sm) (tt_) (v1) (v2) (fd) (fa) (v3) (v4) (v5) (v6) (v7)) :: ga_i 600 tb :: ga_i 24 tm :: ga_i 30 mt :: ga_i 30 ou :: ga_i 32 ah :: ga_i 401 mw :: ga_i 401 mq :: ga_i 401 mf :: ga_i 401 ma :: ga_i 401 mb :: ga_i 401 ms_ :: ga_i 18 ta :: ga_i 120 af :: ga_i 24 fo2 :: ga_i 25 bo :: ga_i 1300 sg :: ga_i 25 n1 :: ga_i 26 n2 :: ga_i 1300 n3 :: ga_i 250 n4 :: ga_i 25 n5 :: ga_i 40 n6 :: ga_z 40 n7 :: ga_l 310 hp :: ga_l 576 gv :: ga_z 24 io :: []), sh_f sv (a_f av))
def ga_Xs (E : ga_E) (X : ga_X) (L : Nat) (xs : Nat → Int32) : Prop := va_X (E.2.2.2.2 0) L xs X.2.2.2.2.1 X.2.2.2.2.1.heap ∧ E.2.2.2.2 0 < X.2.2.2.2.1.heap.size ∧ ¬ E.1 ≤ E.2.2.2.2 0
section
variable {E : ga_E} {X : ga_X} {d nL mc ms kc ks pc nx L : Nat} {y : MethodName} {cc : ByteArray} {lv : List (Option Value)} {st : List Value} {M : ga_M} {xs : Nat → Int32}
theorem g_sld (hX : ga_B E d y cc nL mc ms X) (hS : ga_Xs E X L xs) {i : Int32} (j : Nat) (hi : i = nI j) (hj : j < L) (hL : L ≤ 3072) (hd : decode cc pc = .ok (.iaload, 1)) (hn : pc + 1 = nx) (k : ga_G E X kc ks nx lv (.int (xs j) :: st) M) : ga_G E X kc ks pc lv (.int i :: .retAddr 0 :: st) M := by
  subst hn
  subst hi
  intro H locs ls hR hl hS1
  have kk := k H locs ls hR hl hS1
  refine va_sld (A := fun q => E.1 ≤ q) (i := nI j) hX.1 hX.2.1 hS.1 hS.2.1 hS.2.2 hS1 (vp_in_nI hj (by omega)) hd ?_
  rw [nI_clamp (by omega)]
  exact kk
theorem g_sln (hX : ga_B E d y cc nL mc ms X) (hS : ga_Xs E X L xs) (hd : decode cc pc = .ok (.arraylength, 1)) (hn : pc + 1 = nx) (k : ga_G E X kc ks nx lv (.int (nI L) :: st) M) : ga_G E X kc ks pc lv (.retAddr 0 :: st) M := by
  subst hn
  intro H locs ls hR hl hS1
  exact va_slen (A := fun q => E.1 ≤ q) hX.1 hX.2.1 hS.1 hS.2.1 hS.2.2 hS1 hd (k H locs ls hR hl hS1)
end
theorem b_255 (x : Int32) : 0 ≤ x &&& 255 := by
  rw [Int32.le_iff_toInt_le]
  have h1 : (x &&& 255).toBitVec.toNat ≤ 255 := by
    rw [Int32.toBitVec_and, BitVec.toNat_and]
    exact Nat.and_le_right
  have h2 : (x &&& 255).toInt = ((x &&& 255).toBitVec.toNat : Int) := BitVec.toInt_eq_toNat_of_lt (by omega)
  rw [h2]
  show (0 : Int) ≤ _
  omega
theorem t_4_pos {tb : Nat → Int32} {k : Nat} {v : Int32} (h : ∀ i, i < k → 0 ≤ tb i) : ∀ i, i < k + 4 → 0 ≤ t_4 tb k v i := by
  intro i hi
  unfold t_4
  unfold upd
  have hb : ∀ s, 0 ≤ t_by v s := fun s => b_255 _
  split
  · exact hb _
  · split
    · exact hb _
    · split
      · exact hb _
      · split
        · exact hb _
        · exact h i (by omega)
theorem t_20_pos {tb : Nat → Int32} {k : Nat} {a b c d e : Int32} (h : ∀ i, i < k → 0 ≤ tb i) : ∀ i, i < k + 20 → 0 ≤ t_20 tb k a b c d e i := by
  unfold t_20
  exact t_4_pos (k := k + 16) (t_4_pos (k := k + 12) (t_4_pos (k := k + 8) (t_4_pos (k := k + 4) (t_4_pos h))))
theorem ask_t {ask : Int32} {an : Nat} (h : ask = -1 ∨ 0 ≤ ask ∧ ask ≤ nI an) (ha : an ≤ 400) : ∃ t, t ≤ an ∧ (if ask = -1 then nI an else ask) = nI t := by
  by_cases e : ask = -1
  · exact ⟨an, Nat.le_refl an, if_pos e⟩
  · obtain ⟨h1, h2⟩ := h.resolve_left e
    obtain ⟨j, hj, e2, -⟩ := v_ofle h1 h2 (by omega)
    exact ⟨j, hj, by rw [if_neg e, e2]⟩
theorem b_stale {W : w_W} {R : e_R} {rn ka : Nat} {sv : Nat → sh_S} (h : ∀ r, r < 24 → ¬ (sv r).1 = 0) : b_ok W R rn ka sv := fun r hr hz => absurd hz (h r hr)
section
variable {lt rn fn an sm ka : Nat} {ask fm em sp op top size tot tt_ hd fd fa x1 x2 x3 u1 u2 u3 u4 v1 v2 v3 v4 v5 v6 v7 : Int32} {x4 : Int64} {rl : Value} {tb tm sz ah ou st_ od eo fo fo2 se mt mw mq mf ma mb ms_ ta af bo sg io t1 t2 t3 t4 n1 n2 n3 n4 n5 n6 n7 : Nat → Int32} {nm s t5 hp gv : Nat → Int64} {ol nw : Nat → Option Nat} {sv : Nat → sh_S} {av : Nat → a_S} {cd cd2 : Nat → Nat × Nat} {en : Nat → Nat}
theorem lw_I_of (J : (lt ≤ 600 ∧ ∀ i, i < lt → 0 ≤ tb i) ∧ r_ok tm sz rn ∧ j_C mt ah fn fm em sp op ∧ j_A (mw, mq, mf, ma, mb, ms_) av ol nw an ∧ (ask = -1 ∨ 0 ≤ ask ∧ ask ≤ nI an) ∧ (∀ j, j < 15 → nm j = x_cn j) ∧ j_R cd cd2 en fo fo2 sm tot tt_ st_ od eo sg bo ∧ (rl = .null ∨ rl = .ref 15 ∨ rl = .ref 21) ∧ ka ≤ an ∧ b_ok ((mw, mq, mf, ma, mb, ms_), ah, ou, op, fn) (cd, en, fo, sm, tot) rn ka sv) : lw_I (an + 106, (k_0 ask :: k_T lt :: ga_i 600 tb :: k_R rn :: ga_i 24 tm :: ga_i 6 sz :: k_C fm em sp fn op :: ga_i 32 ah :: ga_i 30 ou :: k_L an :: ga_r 4 401 (l_w an) :: ga_r 4 24 ol :: ga_r 4 24 nw :: k_D rl x1 x2 x3 x4 fd fa :: ga_l 39 nm :: k_U 15 top size tot (nI sm) :: ga_i 600 st_ :: ga_i 600 od :: ga_i 24 eo :: ga_i 24 fo :: ga_l 32 s :: k_U 21 u1 u2 u3 u4 :: ga_i 600 t1 :: ga_i 600 t2 :: ga_i 24 t3 :: ga_i 24 t4 :: ga_l 32 t5 :: k_B ka :: ga_r 3 24 b_w :: k_Y hd :: ga_i 120 se :: []), ((m_O (nI lt) (nI rn) (nI fn) (em) (sp) (nI an) (ask) (nI sm) (tt_) (v1) (v2) (fd) (fa) (v3) (v4) (v5) (v6) (v7)) :: ga_i 600 tb :: ga_i 24 tm :: ga_i 30 mt :: ga_i 30 ou :: ga_i 32 ah :: ga_i 401 mw :: ga_i 401 mq :: ga_i 401 mf :: ga_i 401 ma :: ga_i 401 mb :: ga_i 401 ms_ :: ga_i 18 ta :: ga_i 120 af :: ga_i 24 fo2 :: ga_i 25 bo :: ga_i 1300 sg :: ga_i 25 n1 :: ga_i 26 n2 :: ga_i 1300 n3 :: ga_i 250 n4 :: ga_i 25 n5 :: ga_i 40 n6 :: ga_z 40 n7 :: ga_l 310 hp :: ga_l 576 gv :: ga_z 24 io :: []), sh_f sv (a_f av)) := ⟨lt, rn, fn, an, sm, ka, ask, fm, em, sp, op, top, size, tot, tt_, hd, fd, fa, x1, x2, x3, u1, u2, u3, u4, v1, v2, v3, v4, v5, v6, v7, x4, rl, tb, tm, sz, ah, ou, st_, od, eo, fo, fo2, se, mt, mw, mq, mf, ma, mb, ms_, ta, af, bo, sg, io, t1, t2, t3, t4, n1, n2, n3, n4, n5, n6, n7, nm, s, t5, hp, gv, ol, nw, sv, av, cd, cd2, en, J, rfl⟩
theorem J_b (J : (lt ≤ 600 ∧ ∀ i, i < lt → 0 ≤ tb i) ∧ r_ok tm sz rn ∧ j_C mt ah fn fm em sp op ∧ j_A (mw, mq, mf, ma, mb, ms_) av ol nw an ∧ (ask = -1 ∨ 0 ≤ ask ∧ ask ≤ nI an) ∧ (∀ j, j < 15 → nm j = x_cn j) ∧ j_R cd cd2 en fo fo2 sm tot tt_ st_ od eo sg bo ∧ (rl = .null ∨ rl = .ref 15 ∨ rl = .ref 21) ∧ ka ≤ an ∧ b_ok ((mw, mq, mf, ma, mb, ms_), ah, ou, op, fn) (cd, en, fo, sm, tot) rn ka sv) : b_H ((mw, mq, mf, ma, mb, ms_), ah, ou, op, fn) (cd, en, fo, sm, tot) av an rn ka ol st_ od eo sv := by
  obtain ⟨J1, J2, J3, J4, J5, J6, J7, J8, J9, J10⟩ := J
  exact ⟨J4.1, J2.1, J9, J3.1, J4.2.1, J4.2.2.1, fun r hr => J4.2.2.2.2.1 r (by have := J2.1; omega), J7.1, J7.2.1, J7.2.2.1, J10⟩
theorem J_m (J : (lt ≤ 600 ∧ ∀ i, i < lt → 0 ≤ tb i) ∧ r_ok tm sz rn ∧ j_C mt ah fn fm em sp op ∧ j_A (mw, mq, mf, ma, mb, ms_) av ol nw an ∧ (ask = -1 ∨ 0 ≤ ask ∧ ask ≤ nI an) ∧ (∀ j, j < 15 → nm j = x_cn j) ∧ j_R cd cd2 en fo fo2 sm tot tt_ st_ od eo sg bo ∧ (rl = .null ∨ rl = .ref 15 ∨ rl = .ref 21) ∧ ka ≤ an ∧ b_ok ((mw, mq, mf, ma, mb, ms_), ah, ou, op, fn) (cd, en, fo, sm, tot) rn ka sv) : m_H (mw, mq, mf, ma, mb, ms_) ah mt em sp an rn fn (cd2, en, fo2, sm, tot) sg bo := by
  obtain ⟨J1, J2, J3, J4, J5, J6, J7, J8, J9, J10⟩ := J
  have hc := j_C_op J3
  refine ⟨J4.1, J2.1, J3.1, hc.1, hc.2, fun k k1 k2 k3 => ?_, J4.2.2.2.1, J3.2.2.2.2.2.2, J7.2.2.2.1, J7.2.2.2.2.1, J7.2.2.2.2.2.1⟩
  obtain ⟨nx, r', e1, e2, e3, e4, e5, e6⟩ := J4.2.1 k k1 k2 k3
  exact e5
end
