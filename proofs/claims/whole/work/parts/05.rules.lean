/-! ===== THE ROWS: an instruction each, over the judgement ga_G ===== -/
theorem ga_go {E : ga_E} {X : ga_X} {kc ks pc pc' : Nat} {lv : List (Option Value)} {st st' : List Value} {M : ga_M} (h : ∀ (H : Heap) (locs : List Loc) (ls : Array Slot), ga_W X H locs kc ks (F0 X.2.2.2.2.2.1 pc' ls (st'.map (ga_v E))) → ga_W X H locs kc ks (F0 X.2.2.2.2.2.1 pc ls (st.map (ga_v E)))) (k : ga_G E X kc ks pc' lv st' M) : ga_G E X kc ks pc lv st M :=
  fun H locs ls hR hl hS => h H locs ls (k H locs ls hR hl hS)
def ga_pu : Option Value → List Value → List Value
  | none, st => st
  | some v, st => v :: st
section
variable {E : ga_E} {X : ga_X} {d nL mc ms kc ks pc nx : Nat} {y : MethodName} {cc : ByteArray} {lv : List (Option Value)} {st : List Value} {M : ga_M}
/-- known locals forgotten -/
theorem g_less (lv' : List (Option Value)) (hs : ga_sb lv' lv) (k : ga_G E X kc ks pc lv' st M) : ga_G E X kc ks pc lv st M :=
  fun H locs ls hR hl hS => k H locs ls hR (ga_less hl (fun j w h => (ga_lv_mem E lv 0 _).mpr ⟨j, w, ga_sb_lk hs j w h, by rw [Nat.zero_add]⟩)) hS
theorem g_mem {M' : ga_M} (h : M = M') (k : ga_G E X kc ks pc lv st M') : ga_G E X kc ks pc lv st M := h ▸ k
theorem g_widen {kc' ks' : Nat} (h1 : kc ≤ kc') (h2 : ks ≤ ks') (k : ga_G E X kc' ks' pc lv st M) : ga_G E X kc ks pc lv st M := fun H locs ls hR hl hS => W.widen h1 h2 (k H locs ls hR hl hS)

theorem g_iadd (hX : ga_B E d y cc nL mc ms X) {x z : Int32} (hd : decode cc pc = .ok (.iadd, 1)) (hn : pc + 1 = nx) (k : ga_G E X kc ks nx lv (.int (x + z) :: st) M) : ga_G E X kc ks pc lv (.int z :: .int x :: st) M := by
  subst hn; exact fun H locs ls hR hl hS => lv_iadd hX.1 hX.2.1 hd (k H locs ls hR hl hS)
theorem g_isub (hX : ga_B E d y cc nL mc ms X) {x z : Int32} (hd : decode cc pc = .ok (.isub, 1)) (hn : pc + 1 = nx) (k : ga_G E X kc ks nx lv (.int (x - z) :: st) M) : ga_G E X kc ks pc lv (.int z :: .int x :: st) M := by
  subst hn; exact fun H locs ls hR hl hS => lv_isub hX.1 hX.2.1 hd (k H locs ls hR hl hS)
theorem g_imul (hX : ga_B E d y cc nL mc ms X) {x z : Int32} (hd : decode cc pc = .ok (.imul, 1)) (hn : pc + 1 = nx) (k : ga_G E X kc ks nx lv (.int (x * z) :: st) M) : ga_G E X kc ks pc lv (.int z :: .int x :: st) M := by
  subst hn; exact fun H locs ls hR hl hS => lv_imul hX.1 hX.2.1 hd (k H locs ls hR hl hS)
theorem g_iand (hX : ga_B E d y cc nL mc ms X) {x z : Int32} (hd : decode cc pc = .ok (.iand, 1)) (hn : pc + 1 = nx) (k : ga_G E X kc ks nx lv (.int (x &&& z) :: st) M) : ga_G E X kc ks pc lv (.int z :: .int x :: st) M := by
  subst hn; exact fun H locs ls hR hl hS => lv_iand hX.1 hX.2.1 hd (k H locs ls hR hl hS)
theorem g_idiv (hX : ga_B E d y cc nL mc ms X) {x z : Int32} (hd : decode cc pc = .ok (.idiv, 1)) (hn : pc + 1 = nx) (h0 : ¬ z = 0) (k : ga_G E X kc ks nx lv (.int (x / z) :: st) M) : ga_G E X kc ks pc lv (.int z :: .int x :: st) M := by
  subst hn; exact fun H locs ls hR hl hS => lv_idiv hX.1 hX.2.1 hd h0 (k H locs ls hR hl hS)
theorem g_ishr (hX : ga_B E d y cc nL mc ms X) {x z : Int32} (hd : decode cc pc = .ok (.ishr, 1)) (hn : pc + 1 = nx) (k : ga_G E X kc ks nx lv (.int (x >>> (z &&& 31)) :: st) M) : ga_G E X kc ks pc lv (.int z :: .int x :: st) M := by
  subst hn; exact fun H locs ls hR hl hS => lv_ishr hX.1 hX.2.1 hd (k H locs ls hR hl hS)
theorem g_iushr (hX : ga_B E d y cc nL mc ms X) {x z : Int32} (hd : decode cc pc = .ok (.iushr, 1)) (hn : pc + 1 = nx) (k : ga_G E X kc ks nx lv (.int ((x.toUInt32 >>> (z.toUInt32 &&& Int32.toUInt32 31)).toInt32) :: st) M) : ga_G E X kc ks pc lv (.int z :: .int x :: st) M := by
  subst hn; exact fun H locs ls hR hl hS => lv_iushr hX.1 hX.2.1 hd rfl (k H locs ls hR hl hS)
theorem g_ladd (hX : ga_B E d y cc nL mc ms X) {x z : Int64} (hd : decode cc pc = .ok (.ladd, 1)) (hn : pc + 1 = nx) (k : ga_G E X kc ks nx lv (.long (x + z) :: st) M) : ga_G E X kc ks pc lv (.long z :: .long x :: st) M := by
  subst hn; exact fun H locs ls hR hl hS => lv_ladd hX.1 hX.2.1 hd (k H locs ls hR hl hS)
theorem g_lsub (hX : ga_B E d y cc nL mc ms X) {x z : Int64} (hd : decode cc pc = .ok (.lsub, 1)) (hn : pc + 1 = nx) (k : ga_G E X kc ks nx lv (.long (x - z) :: st) M) : ga_G E X kc ks pc lv (.long z :: .long x :: st) M := by
  subst hn; exact fun H locs ls hR hl hS => lv_lsub hX.1 hX.2.1 hd (k H locs ls hR hl hS)
theorem g_lmul (hX : ga_B E d y cc nL mc ms X) {x z : Int64} (hd : decode cc pc = .ok (.lmul, 1)) (hn : pc + 1 = nx) (k : ga_G E X kc ks nx lv (.long (x * z) :: st) M) : ga_G E X kc ks pc lv (.long z :: .long x :: st) M := by
  subst hn; exact fun H locs ls hR hl hS => lv_lmul hX.1 hX.2.1 hd (k H locs ls hR hl hS)
theorem g_land (hX : ga_B E d y cc nL mc ms X) {x z : Int64} (hd : decode cc pc = .ok (.land, 1)) (hn : pc + 1 = nx) (k : ga_G E X kc ks nx lv (.long (x &&& z) :: st) M) : ga_G E X kc ks pc lv (.long z :: .long x :: st) M := by
  subst hn; exact fun H locs ls hR hl hS => lv_land hX.1 hX.2.1 hd (k H locs ls hR hl hS)
theorem g_lor (hX : ga_B E d y cc nL mc ms X) {x z : Int64} (hd : decode cc pc = .ok (.lor, 1)) (hn : pc + 1 = nx) (k : ga_G E X kc ks nx lv (.long (x ||| z) :: st) M) : ga_G E X kc ks pc lv (.long z :: .long x :: st) M := by
  subst hn; exact fun H locs ls hR hl hS => lv_lor hX.1 hX.2.1 hd (k H locs ls hR hl hS)
theorem g_lxor (hX : ga_B E d y cc nL mc ms X) {x z : Int64} (hd : decode cc pc = .ok (.lxor, 1)) (hn : pc + 1 = nx) (k : ga_G E X kc ks nx lv (.long (x ^^^ z) :: st) M) : ga_G E X kc ks pc lv (.long z :: .long x :: st) M := by
  subst hn; exact fun H locs ls hR hl hS => lv_lxor hX.1 hX.2.1 hd (k H locs ls hR hl hS)
theorem g_ldiv (hX : ga_B E d y cc nL mc ms X) {x z : Int64} (hd : decode cc pc = .ok (.ldiv, 1)) (hn : pc + 1 = nx) (h0 : ¬ z = 0) (k : ga_G E X kc ks nx lv (.long (x / z) :: st) M) : ga_G E X kc ks pc lv (.long z :: .long x :: st) M := by
  subst hn; exact fun H locs ls hR hl hS => lv_ldiv hX.1 hX.2.1 hd h0 (k H locs ls hR hl hS)
theorem g_lcmp (hX : ga_B E d y cc nL mc ms X) {x z : Int64} (hd : decode cc pc = .ok (.lcmp, 1)) (hn : pc + 1 = nx) (k : ga_G E X kc ks nx lv (.int (lg_cmp x z) :: st) M) : ga_G E X kc ks pc lv (.long z :: .long x :: st) M := by
  subst hn; exact fun H locs ls hR hl hS => W.lcmp hX.1 hX.2.1 hd (k H locs ls hR hl hS)
theorem g_lneg (hX : ga_B E d y cc nL mc ms X) {x : Int64} (hd : decode cc pc = .ok (.lneg, 1)) (hn : pc + 1 = nx) (k : ga_G E X kc ks nx lv (.long (-x) :: st) M) : ga_G E X kc ks pc lv (.long x :: st) M := by
  subst hn; exact fun H locs ls hR hl hS => lv_lneg hX.1 hX.2.1 hd (k H locs ls hR hl hS)
theorem g_i2l (hX : ga_B E d y cc nL mc ms X) {x : Int32} (hd : decode cc pc = .ok (.i2l, 1)) (hn : pc + 1 = nx) (k : ga_G E X kc ks nx lv (.long x.toInt64 :: st) M) : ga_G E X kc ks pc lv (.int x :: st) M := by
  subst hn; exact fun H locs ls hR hl hS => lv_i2l hX.1 hX.2.1 hd rfl (k H locs ls hR hl hS)
theorem g_l2i (hX : ga_B E d y cc nL mc ms X) {x : Int64} (hd : decode cc pc = .ok (.l2i, 1)) (hn : pc + 1 = nx) (k : ga_G E X kc ks nx lv (.int x.toInt32 :: st) M) : ga_G E X kc ks pc lv (.long x :: st) M := by
  subst hn; exact fun H locs ls hR hl hS => lv_l2i hX.1 hX.2.1 hd rfl (k H locs ls hR hl hS)
theorem g_lshl (hX : ga_B E d y cc nL mc ms X) {x : Int64} {z : Int32} (hd : decode cc pc = .ok (.lshl, 1)) (hn : pc + 1 = nx) (k : ga_G E X kc ks nx lv (.long (x <<< (z.toInt64 &&& 63)) :: st) M) : ga_G E X kc ks pc lv (.int z :: .long x :: st) M := by
  subst hn; exact fun H locs ls hR hl hS => lv_lshl hX.1 hX.2.1 hd rfl (k H locs ls hR hl hS)
theorem g_lushr (hX : ga_B E d y cc nL mc ms X) {x : Int64} {z : Int32} (hd : decode cc pc = .ok (.lushr, 1)) (hn : pc + 1 = nx) (k : ga_G E X kc ks nx lv (.long (x.toUInt64 >>> (z.toInt64.toUInt64 &&& Int64.toUInt64 63)).toInt64 :: st) M) : ga_G E X kc ks pc lv (.int z :: .long x :: st) M := by
  subst hn; exact fun H locs ls hR hl hS => lv_lushr hX.1 hX.2.1 hd rfl (k H locs ls hR hl hS)
theorem g_iconst (hX : ga_B E d y cc nL mc ms X) {n : Int} (v : Int32) (hd : decode cc pc = .ok (.iconst n, 1)) (hn : pc + 1 = nx) (hv : Int32.ofInt n = v) (k : ga_G E X kc ks nx lv (.int v :: st) M) : ga_G E X kc ks pc lv st M := by
  subst hn; exact fun H locs ls hR hl hS => lv_iconst hX.1 hX.2.1 hd hv (k H locs ls hR hl hS)
theorem g_bipush (hX : ga_B E d y cc nL mc ms X) {n : Int} (v : Int32) (hd : decode cc pc = .ok (.bipush n, 2)) (hn : pc + 2 = nx) (hv : (Int8.ofInt n).toInt32 = v) (k : ga_G E X kc ks nx lv (.int v :: st) M) : ga_G E X kc ks pc lv st M := by
  subst hn; exact fun H locs ls hR hl hS => lv_bipush hX.1 hX.2.1 hd hv (k H locs ls hR hl hS)
theorem g_sipush (hX : ga_B E d y cc nL mc ms X) {n : Int} (v : Int32) (hd : decode cc pc = .ok (.sipush n, 3)) (hn : pc + 3 = nx) (hv : (Int16.ofInt n).toInt32 = v) (k : ga_G E X kc ks nx lv (.int v :: st) M) : ga_G E X kc ks pc lv st M := by
  subst hn; exact fun H locs ls hR hl hS => lv_sipush hX.1 hX.2.1 hd hv (k H locs ls hR hl hS)
theorem g_lconst (hX : ga_B E d y cc nL mc ms X) {n : Fin 2} (v : Int64) (hd : decode cc pc = .ok (.lconst n, 1)) (hn : pc + 1 = nx) (hv : Int64.ofNat (n : Nat) = v) (k : ga_G E X kc ks nx lv (.long v :: st) M) : ga_G E X kc ks pc lv st M := by
  subst hn; exact fun H locs ls hR hl hS => lv_lconst hX.1 hX.2.1 hd hv (k H locs ls hR hl hS)
theorem g_ldc (hX : ga_B E d y cc nL mc ms X) {i : Nat} (v : Int32) (hd : decode cc pc = .ok (.ldc i, 2)) (hn : pc + 2 = nx) (hc : Cond.constant y.cls i v ∈ ga_T) (k : ga_G E X kc ks nx lv (.int v :: st) M) : ga_G E X kc ks pc lv st M := by
  subst hn; exact fun H locs ls hR hl hS => lv_ldc hX.1 hX.2.1 hX.2.2.2.1 (hX.2.2.2.2.1 _ hc) hd (k H locs ls hR hl hS)
theorem g_ldc2_w (hX : ga_B E d y cc nL mc ms X) {i : Nat} (v : Int64) (hd : decode cc pc = .ok (.ldc2_w i, 3)) (hn : pc + 3 = nx) (hc : Cond.constantLong y.cls i v ∈ ga_T) (k : ga_G E X kc ks nx lv (.long v :: st) M) : ga_G E X kc ks pc lv st M := by
  subst hn; exact fun H locs ls hR hl hS => lv_ldc2 hX.1 hX.2.1 hX.2.2.2.1 (hX.2.2.2.2.1 _ hc) hd (k H locs ls hR hl hS)
theorem g_aconst_null (hX : ga_B E d y cc nL mc ms X) (hd : decode cc pc = .ok (.aconst_null, 1)) (hn : pc + 1 = nx) (k : ga_G E X kc ks nx lv (.null :: st) M) : ga_G E X kc ks pc lv st M := by
  subst hn; exact fun H locs ls hR hl hS => lv_null hX.1 hX.2.1 hd (k H locs ls hR hl hS)
theorem g_dup (hX : ga_B E d y cc nL mc ms X) {v : Value} (hd : decode cc pc = .ok (.dup, 1)) (hn : pc + 1 = nx) (hc : v.category = 1) (k : ga_G E X kc ks nx lv (v :: v :: st) M) : ga_G E X kc ks pc lv (v :: st) M := by
  subst hn; exact fun H locs ls hR hl hS => lv_dup hX.1 hX.2.1 hd (by rw [ga_v_cat]; exact hc) (k H locs ls hR hl hS)
theorem g_dup2 (hX : ga_B E d y cc nL mc ms X) {v w : Value} (hd : decode cc pc = .ok (.dup2, 1)) (hn : pc + 1 = nx) (hc : v.category = 1) (hc2 : w.category = 1) (k : ga_G E X kc ks nx lv (v :: w :: v :: w :: st) M) : ga_G E X kc ks pc lv (v :: w :: st) M := by
  subst hn; exact fun H locs ls hR hl hS => lv_dup2_11 hX.1 hX.2.1 hd (by rw [ga_v_cat]; exact hc) (by rw [ga_v_cat]; exact hc2) (k H locs ls hR hl hS)
theorem g_pop (hX : ga_B E d y cc nL mc ms X) {v : Value} (hd : decode cc pc = .ok (.pop, 1)) (hn : pc + 1 = nx) (hc : v.category = 1) (k : ga_G E X kc ks nx lv st M) : ga_G E X kc ks pc lv (v :: st) M := by
  subst hn; exact fun H locs ls hR hl hS => lv_pop hX.1 hX.2.1 hd (by rw [ga_v_cat]; exact hc) (k H locs ls hR hl hS)
theorem g_goto (hX : ga_B E d y cc nL mc ms X) {off : Int} (hd : decode cc pc = .ok (.goto off, 3)) (ht : (pc : Int) + off = (nx : Int)) (k : ga_G E X kc ks nx lv st M) : ga_G E X kc ks pc lv st M :=
  fun H locs ls hR hl hS => lv_goto hX.1 hX.2.1 hd ht (k H locs ls hR hl hS)
theorem g_iload_n (hX : ga_B E d y cc nL mc ms X) {k4 : Fin 4} (i : Nat) {x : Int32} (hd : decode cc pc = .ok (.iload_n k4, 1)) (hi : (k4 : Nat) = i) (hn : pc + 1 = nx) (hl : ga_lk lv i = some (.int x)) (k : ga_G E X kc ks nx lv (.int x :: st) M) : ga_G E X kc ks pc lv st M := by
  subst hn; exact fun H locs ls hR h hS => lv_iload_n hX.1 hX.2.1 hd hi (ga_rd h hl) (k H locs ls hR h hS)
theorem g_iload (hX : ga_B E d y cc nL mc ms X) (i : Nat) {x : Int32} (hd : decode cc pc = .ok (.iload i, 2)) (hn : pc + 2 = nx) (hl : ga_lk lv i = some (.int x)) (k : ga_G E X kc ks nx lv (.int x :: st) M) : ga_G E X kc ks pc lv st M := by
  subst hn; exact fun H locs ls hR h hS => lv_iload hX.1 hX.2.1 hd (ga_rd h hl) (k H locs ls hR h hS)
theorem g_lload_n (hX : ga_B E d y cc nL mc ms X) {k4 : Fin 4} (i : Nat) {x : Int64} (hd : decode cc pc = .ok (.lload_n k4, 1)) (hi : (k4 : Nat) = i) (hn : pc + 1 = nx) (hl : ga_lk lv i = some (.long x)) (k : ga_G E X kc ks nx lv (.long x :: st) M) : ga_G E X kc ks pc lv st M := by
  subst hn; exact fun H locs ls hR h hS => lv_lload_n hX.1 hX.2.1 hd hi (ga_rd h hl) (k H locs ls hR h hS)
theorem g_lload (hX : ga_B E d y cc nL mc ms X) (i : Nat) {x : Int64} (hd : decode cc pc = .ok (.lload i, 2)) (hn : pc + 2 = nx) (hl : ga_lk lv i = some (.long x)) (k : ga_G E X kc ks nx lv (.long x :: st) M) : ga_G E X kc ks pc lv st M := by
  subst hn; exact fun H locs ls hR h hS => lv_lload hX.1 hX.2.1 hd (ga_rd h hl) (k H locs ls hR h hS)
theorem g_aload_n (hX : ga_B E d y cc nL mc ms X) {k4 : Fin 4} (i : Nat) {x : Nat} (hd : decode cc pc = .ok (.aload_n k4, 1)) (hi : (k4 : Nat) = i) (hn : pc + 1 = nx) (hl : ga_lk lv i = some (.ref x)) (k : ga_G E X kc ks nx lv (.ref x :: st) M) : ga_G E X kc ks pc lv st M := by
  subst hn; exact fun H locs ls hR h hS => lv_aload_n hX.1 hX.2.1 hd hi (ga_rd h hl) (k H locs ls hR h hS)
theorem g_aload (hX : ga_B E d y cc nL mc ms X) (i : Nat) {x : Nat} (hd : decode cc pc = .ok (.aload i, 2)) (hn : pc + 2 = nx) (hl : ga_lk lv i = some (.ref x)) (k : ga_G E X kc ks nx lv (.ref x :: st) M) : ga_G E X kc ks pc lv st M := by
  subst hn; exact fun H locs ls hR h hS => lv_aload hX.1 hX.2.1 hd (ga_rd h hl) (k H locs ls hR h hS)
theorem g_aload_nN (hX : ga_B E d y cc nL mc ms X) {k4 : Fin 4} (i : Nat) (hd : decode cc pc = .ok (.aload_n k4, 1)) (hi : (k4 : Nat) = i) (hn : pc + 1 = nx) (hl : ga_lk lv i = some .null) (k : ga_G E X kc ks nx lv (.null :: st) M) : ga_G E X kc ks pc lv st M := by
  subst hn; exact fun H locs ls hR h hS => lv_aload_nN hX.1 hX.2.1 hd hi (ga_rd h hl) (k H locs ls hR h hS)
theorem g_aloadN (hX : ga_B E d y cc nL mc ms X) (i : Nat) (hd : decode cc pc = .ok (.aload i, 2)) (hn : pc + 2 = nx) (hl : ga_lk lv i = some .null) (k : ga_G E X kc ks nx lv (.null :: st) M) : ga_G E X kc ks pc lv st M := by
  subst hn; exact fun H locs ls hR h hS => lv_aloadN hX.1 hX.2.1 hd (ga_rd h hl) (k H locs ls hR h hS)
theorem g_aload_nR (hX : ga_B E d y cc nL mc ms X) {k4 : Fin 4} (i : Nat) {x : Nat} (hd : decode cc pc = .ok (.aload_n k4, 1)) (hi : (k4 : Nat) = i) (hn : pc + 1 = nx) (hl : ga_lk lv i = some (.retAddr x)) (k : ga_G E X kc ks nx lv (.retAddr x :: st) M) : ga_G E X kc ks pc lv st M := by
  subst hn; exact fun H locs ls hR h hS => lv_aload_n hX.1 hX.2.1 hd hi (ga_rd h hl) (k H locs ls hR h hS)
theorem g_istore_n (hX : ga_B E d y cc nL mc ms X) {k4 : Fin 4} (i : Nat) {x : Int32} (hd : decode cc pc = .ok (.istore_n k4, 1)) (hi : (k4 : Nat) = i) (hn : pc + 1 = nx) (hL : Nat.blt (i) nL = true) (k : ga_G E X kc ks nx (ga_s1 lv i (.int x)) st M) : ga_G E X kc ks pc lv (.int x :: st) M := by
  subst hn; exact fun H locs ls hR h hS => lv_istore_n hX.1 hX.2.1 hd hi h (by rw [hX.2.2.1]; exact Nat.blt_eq.mp hL) rfl (fun ls' h' => k H locs ls' hR (ga_h1 (v := .int x) h') hS)
theorem g_istore (hX : ga_B E d y cc nL mc ms X) (i : Nat) {x : Int32} (hd : decode cc pc = .ok (.istore i, 2)) (hn : pc + 2 = nx) (hL : Nat.blt (i) nL = true) (k : ga_G E X kc ks nx (ga_s1 lv i (.int x)) st M) : ga_G E X kc ks pc lv (.int x :: st) M := by
  subst hn; exact fun H locs ls hR h hS => lv_istore hX.1 hX.2.1 hd h (by rw [hX.2.2.1]; exact Nat.blt_eq.mp hL) rfl (fun ls' h' => k H locs ls' hR (ga_h1 (v := .int x) h') hS)
theorem g_lstore_n (hX : ga_B E d y cc nL mc ms X) {k4 : Fin 4} (i : Nat) {x : Int64} (hd : decode cc pc = .ok (.lstore_n k4, 1)) (hi : (k4 : Nat) = i) (hn : pc + 1 = nx) (hL : Nat.blt (i + 1) nL = true) (k : ga_G E X kc ks nx (ga_s2 lv i (.long x)) st M) : ga_G E X kc ks pc lv (.long x :: st) M := by
  subst hn; exact fun H locs ls hR h hS => lv_lstore_n hX.1 hX.2.1 hd hi h (by rw [hX.2.2.1]; exact Nat.blt_eq.mp hL) rfl (fun ls' h' => k H locs ls' hR (ga_h2 (v := .long x) h') hS)
theorem g_lstore (hX : ga_B E d y cc nL mc ms X) (i : Nat) {x : Int64} (hd : decode cc pc = .ok (.lstore i, 2)) (hn : pc + 2 = nx) (hL : Nat.blt (i + 1) nL = true) (k : ga_G E X kc ks nx (ga_s2 lv i (.long x)) st M) : ga_G E X kc ks pc lv (.long x :: st) M := by
  subst hn; exact fun H locs ls hR h hS => lv_lstore hX.1 hX.2.1 hd h (by rw [hX.2.2.1]; exact Nat.blt_eq.mp hL) rfl (fun ls' h' => k H locs ls' hR (ga_h2 (v := .long x) h') hS)
theorem g_astore_n (hX : ga_B E d y cc nL mc ms X) {k4 : Fin 4} (i : Nat) {x : Nat} (hd : decode cc pc = .ok (.astore_n k4, 1)) (hi : (k4 : Nat) = i) (hn : pc + 1 = nx) (hL : Nat.blt (i) nL = true) (k : ga_G E X kc ks nx (ga_s1 lv i (.ref x)) st M) : ga_G E X kc ks pc lv (.ref x :: st) M := by
  subst hn; exact fun H locs ls hR h hS => lv_astore_n hX.1 hX.2.1 hd hi h (by rw [hX.2.2.1]; exact Nat.blt_eq.mp hL) rfl (fun ls' h' => k H locs ls' hR (ga_h1 (v := .ref x) h') hS)
theorem g_astore (hX : ga_B E d y cc nL mc ms X) (i : Nat) {x : Nat} (hd : decode cc pc = .ok (.astore i, 2)) (hn : pc + 2 = nx) (hL : Nat.blt (i) nL = true) (k : ga_G E X kc ks nx (ga_s1 lv i (.ref x)) st M) : ga_G E X kc ks pc lv (.ref x :: st) M := by
  subst hn; exact fun H locs ls hR h hS => lv_astore hX.1 hX.2.1 hd h (by rw [hX.2.2.1]; exact Nat.blt_eq.mp hL) rfl (fun ls' h' => k H locs ls' hR (ga_h1 (v := .ref x) h') hS)
theorem g_astore_nN (hX : ga_B E d y cc nL mc ms X) {k4 : Fin 4} (i : Nat) (hd : decode cc pc = .ok (.astore_n k4, 1)) (hi : (k4 : Nat) = i) (hn : pc + 1 = nx) (hL : Nat.blt i nL = true) (k : ga_G E X kc ks nx (ga_s1 lv i .null) st M) : ga_G E X kc ks pc lv (.null :: st) M := by
  subst hn; exact fun H locs ls hR h hS => lv_astore_nN hX.1 hX.2.1 hd hi h (by rw [hX.2.2.1]; exact Nat.blt_eq.mp hL) rfl (fun ls' h' => k H locs ls' hR (ga_h1 (v := .null) h') hS)
theorem g_astoreN (hX : ga_B E d y cc nL mc ms X) (i : Nat) (hd : decode cc pc = .ok (.astore i, 2)) (hn : pc + 2 = nx) (hL : Nat.blt i nL = true) (k : ga_G E X kc ks nx (ga_s1 lv i .null) st M) : ga_G E X kc ks pc lv (.null :: st) M := by
  subst hn; exact fun H locs ls hR h hS => lv_astoreN hX.1 hX.2.1 hd h (by rw [hX.2.2.1]; exact Nat.blt_eq.mp hL) rfl (fun ls' h' => k H locs ls' hR (ga_h1 (v := .null) h') hS)
theorem g_iinc (hX : ga_B E d y cc nL mc ms X) (i : Nat) {n : Int} {x : Int32} (v : Int32) (hd : decode cc pc = .ok (.iinc i n, 3)) (hn : pc + 3 = nx) (hL : Nat.blt i nL = true) (hl : ga_lk lv i = some (.int x)) (hv : x + Int32.ofInt n = v) (k : ga_G E X kc ks nx (ga_s1 lv i (.int v)) st M) : ga_G E X kc ks pc lv st M := by
  subst hn
  intro H locs ls hR h hS
  obtain ⟨j, hj⟩ := List.getElem?_of_mem ((ga_lv_mem E lv 0 (i, .int x)).mpr ⟨i, .int x, hl, by rw [Nat.zero_add]; rfl⟩)
  exact lv_iinc hX.1 hX.2.1 hd h hj hv (by rw [hX.2.2.1]; exact Nat.blt_eq.mp hL) rfl (fun ls' h' => k H locs ls' hR (ga_h1 (v := .int v) h') hS)
theorem g_icmp_eq (hX : ga_B E d y cc nL mc ms X) {x z : Int32} {off : Int} (tgt : Nat) (hd : decode cc pc = .ok (.if_icmp .eq off, 3)) (ht : (pc : Int) + off = (tgt : Int)) (hn : pc + 3 = nx) (kt : x = z → ga_G E X kc ks tgt lv st M) (kf : ¬ (x = z) → ga_G E X kc ks nx lv st M) : ga_G E X kc ks pc lv (.int z :: .int x :: st) M := by
  subst hn; exact fun H locs ls hR hl hS => lv_icmp_eq hX.1 hX.2.1 hd ht (fun h => kt h H locs ls hR hl hS) (fun h => kf h H locs ls hR hl hS)
theorem g_if_eq (hX : ga_B E d y cc nL mc ms X) {x : Int32} {off : Int} (tgt : Nat) (hd : decode cc pc = .ok (.ifCond .eq off, 3)) (ht : (pc : Int) + off = (tgt : Int)) (hn : pc + 3 = nx) (kt : x = 0 → ga_G E X kc ks tgt lv st M) (kf : ¬ (x = 0) → ga_G E X kc ks nx lv st M) : ga_G E X kc ks pc lv (.int x :: st) M := by
  subst hn; exact fun H locs ls hR hl hS => lv_if_eq hX.1 hX.2.1 hd ht (fun h => kt h H locs ls hR hl hS) (fun h => kf h H locs ls hR hl hS)
theorem g_icmp_ne (hX : ga_B E d y cc nL mc ms X) {x z : Int32} {off : Int} (tgt : Nat) (hd : decode cc pc = .ok (.if_icmp .ne off, 3)) (ht : (pc : Int) + off = (tgt : Int)) (hn : pc + 3 = nx) (kt : ¬ x = z → ga_G E X kc ks tgt lv st M) (kf : x = z → ga_G E X kc ks nx lv st M) : ga_G E X kc ks pc lv (.int z :: .int x :: st) M := by
  subst hn; exact fun H locs ls hR hl hS => lv_icmp_ne hX.1 hX.2.1 hd ht (fun h => kt h H locs ls hR hl hS) (fun h => kf h H locs ls hR hl hS)
theorem g_if_ne (hX : ga_B E d y cc nL mc ms X) {x : Int32} {off : Int} (tgt : Nat) (hd : decode cc pc = .ok (.ifCond .ne off, 3)) (ht : (pc : Int) + off = (tgt : Int)) (hn : pc + 3 = nx) (kt : ¬ x = 0 → ga_G E X kc ks tgt lv st M) (kf : x = 0 → ga_G E X kc ks nx lv st M) : ga_G E X kc ks pc lv (.int x :: st) M := by
  subst hn; exact fun H locs ls hR hl hS => lv_if_ne hX.1 hX.2.1 hd ht (fun h => kt h H locs ls hR hl hS) (fun h => kf h H locs ls hR hl hS)
theorem g_icmp_lt (hX : ga_B E d y cc nL mc ms X) {x z : Int32} {off : Int} (tgt : Nat) (hd : decode cc pc = .ok (.if_icmp .lt off, 3)) (ht : (pc : Int) + off = (tgt : Int)) (hn : pc + 3 = nx) (kt : x < z → ga_G E X kc ks tgt lv st M) (kf : ¬ (x < z) → ga_G E X kc ks nx lv st M) : ga_G E X kc ks pc lv (.int z :: .int x :: st) M := by
  subst hn; exact fun H locs ls hR hl hS => lv_icmp_lt hX.1 hX.2.1 hd ht (fun h => kt h H locs ls hR hl hS) (fun h => kf h H locs ls hR hl hS)
theorem g_if_lt (hX : ga_B E d y cc nL mc ms X) {x : Int32} {off : Int} (tgt : Nat) (hd : decode cc pc = .ok (.ifCond .lt off, 3)) (ht : (pc : Int) + off = (tgt : Int)) (hn : pc + 3 = nx) (kt : x < 0 → ga_G E X kc ks tgt lv st M) (kf : ¬ (x < 0) → ga_G E X kc ks nx lv st M) : ga_G E X kc ks pc lv (.int x :: st) M := by
  subst hn; exact fun H locs ls hR hl hS => lv_if_lt hX.1 hX.2.1 hd ht (fun h => kt h H locs ls hR hl hS) (fun h => kf h H locs ls hR hl hS)
theorem g_icmp_ge (hX : ga_B E d y cc nL mc ms X) {x z : Int32} {off : Int} (tgt : Nat) (hd : decode cc pc = .ok (.if_icmp .ge off, 3)) (ht : (pc : Int) + off = (tgt : Int)) (hn : pc + 3 = nx) (kt : z ≤ x → ga_G E X kc ks tgt lv st M) (kf : ¬ (z ≤ x) → ga_G E X kc ks nx lv st M) : ga_G E X kc ks pc lv (.int z :: .int x :: st) M := by
  subst hn; exact fun H locs ls hR hl hS => lv_icmp_ge hX.1 hX.2.1 hd ht (fun h => kt h H locs ls hR hl hS) (fun h => kf h H locs ls hR hl hS)
theorem g_if_ge (hX : ga_B E d y cc nL mc ms X) {x : Int32} {off : Int} (tgt : Nat) (hd : decode cc pc = .ok (.ifCond .ge off, 3)) (ht : (pc : Int) + off = (tgt : Int)) (hn : pc + 3 = nx) (kt : 0 ≤ x → ga_G E X kc ks tgt lv st M) (kf : ¬ (0 ≤ x) → ga_G E X kc ks nx lv st M) : ga_G E X kc ks pc lv (.int x :: st) M := by
  subst hn; exact fun H locs ls hR hl hS => lv_if_ge hX.1 hX.2.1 hd ht (fun h => kt h H locs ls hR hl hS) (fun h => kf h H locs ls hR hl hS)
theorem g_icmp_gt (hX : ga_B E d y cc nL mc ms X) {x z : Int32} {off : Int} (tgt : Nat) (hd : decode cc pc = .ok (.if_icmp .gt off, 3)) (ht : (pc : Int) + off = (tgt : Int)) (hn : pc + 3 = nx) (kt : z < x → ga_G E X kc ks tgt lv st M) (kf : ¬ (z < x) → ga_G E X kc ks nx lv st M) : ga_G E X kc ks pc lv (.int z :: .int x :: st) M := by
  subst hn; exact fun H locs ls hR hl hS => lv_icmp_gt hX.1 hX.2.1 hd ht (fun h => kt h H locs ls hR hl hS) (fun h => kf h H locs ls hR hl hS)
theorem g_if_gt (hX : ga_B E d y cc nL mc ms X) {x : Int32} {off : Int} (tgt : Nat) (hd : decode cc pc = .ok (.ifCond .gt off, 3)) (ht : (pc : Int) + off = (tgt : Int)) (hn : pc + 3 = nx) (kt : 0 < x → ga_G E X kc ks tgt lv st M) (kf : ¬ (0 < x) → ga_G E X kc ks nx lv st M) : ga_G E X kc ks pc lv (.int x :: st) M := by
  subst hn; exact fun H locs ls hR hl hS => lv_if_gt hX.1 hX.2.1 hd ht (fun h => kt h H locs ls hR hl hS) (fun h => kf h H locs ls hR hl hS)
theorem g_icmp_le (hX : ga_B E d y cc nL mc ms X) {x z : Int32} {off : Int} (tgt : Nat) (hd : decode cc pc = .ok (.if_icmp .le off, 3)) (ht : (pc : Int) + off = (tgt : Int)) (hn : pc + 3 = nx) (kt : x ≤ z → ga_G E X kc ks tgt lv st M) (kf : ¬ (x ≤ z) → ga_G E X kc ks nx lv st M) : ga_G E X kc ks pc lv (.int z :: .int x :: st) M := by
  subst hn; exact fun H locs ls hR hl hS => lv_icmp_le hX.1 hX.2.1 hd ht (fun h => kt h H locs ls hR hl hS) (fun h => kf h H locs ls hR hl hS)
theorem g_if_le (hX : ga_B E d y cc nL mc ms X) {x : Int32} {off : Int} (tgt : Nat) (hd : decode cc pc = .ok (.ifCond .le off, 3)) (ht : (pc : Int) + off = (tgt : Int)) (hn : pc + 3 = nx) (kt : x ≤ 0 → ga_G E X kc ks tgt lv st M) (kf : ¬ (x ≤ 0) → ga_G E X kc ks nx lv st M) : ga_G E X kc ks pc lv (.int x :: st) M := by
  subst hn; exact fun H locs ls hR hl hS => lv_if_le hX.1 hX.2.1 hd ht (fun h => kt h H locs ls hR hl hS) (fun h => kf h H locs ls hR hl hS)
theorem g_ifnull (hX : ga_B E d y cc nL mc ms X) {a : Nat} {off : Int} (hd : decode cc pc = .ok (.ifnull off, 3)) (hn : pc + 3 = nx) (k : ga_G E X kc ks nx lv st M) : ga_G E X kc ks pc lv (.ref a :: st) M := by
  subst hn; exact fun H locs ls hR hl hS => lv_ifnull hX.1 hX.2.1 hd (k H locs ls hR hl hS)
theorem g_ifnullN (hX : ga_B E d y cc nL mc ms X) {off : Int} (tgt : Nat) (hd : decode cc pc = .ok (.ifnull off, 3)) (ht : (pc : Int) + off = (tgt : Int)) (k : ga_G E X kc ks tgt lv st M) : ga_G E X kc ks pc lv (.null :: st) M :=
  fun H locs ls hR hl hS => lv_ifnullN hX.1 hX.2.1 hd ht (k H locs ls hR hl hS)
theorem g_ifnonnull (hX : ga_B E d y cc nL mc ms X) {a : Nat} {off : Int} (tgt : Nat) (hd : decode cc pc = .ok (.ifnonnull off, 3)) (ht : (pc : Int) + off = (tgt : Int)) (k : ga_G E X kc ks tgt lv st M) : ga_G E X kc ks pc lv (.ref a :: st) M :=
  fun H locs ls hR hl hS => lv_ifnonnull hX.1 hX.2.1 hd ht (k H locs ls hR hl hS)
theorem g_ifnonnullN (hX : ga_B E d y cc nL mc ms X) {off : Int} (hd : decode cc pc = .ok (.ifnonnull off, 3)) (hn : pc + 3 = nx) (k : ga_G E X kc ks nx lv st M) : ga_G E X kc ks pc lv (.null :: st) M := by
  subst hn; exact fun H locs ls hR hl hS => lv_ifnonnullN hX.1 hX.2.1 hd (k H locs ls hR hl hS)
theorem g_tableOut (hX : ga_B E d y cc nL mc ms X) {dflt lo hi : Int} {offs : Array Int} {len : Nat} {x : Int32} (tgt : Nat) (hd : decode cc pc = .ok (.tableswitch dflt lo hi offs, len)) (h : x.toInt < lo ∨ hi < x.toInt) (ht : (pc : Int) + dflt = (tgt : Int)) (k : ga_G E X kc ks tgt lv st M) : ga_G E X kc ks pc lv (.int x :: st) M :=
  fun H locs ls hR hl hS => lv_tableOut hX.1 hX.2.1 hd h ht (k H locs ls hR hl hS)
theorem g_tableIn (hX : ga_B E d y cc nL mc ms X) {dflt lo hi : Int} {offs : Array Int} {len : Nat} {x : Int32} {off : Int} (tgt : Nat) (hd : decode cc pc = .ok (.tableswitch dflt lo hi offs, len)) (h1 : ¬ x.toInt < lo) (h2 : ¬ hi < x.toInt) (ho : offs[(x.toInt - lo).toNat]? = some off) (ht : (pc : Int) + off = (tgt : Int)) (k : ga_G E X kc ks tgt lv st M) : ga_G E X kc ks pc lv (.int x :: st) M :=
  fun H locs ls hR hl hS => lv_tableIn hX.1 hX.2.1 hd h1 h2 ho ht (k H locs ls hR hl hS)
/-! ends -/
theorem g_ireturn {ty : FieldType} {Post : Option Value → ga_M → Prop} {v : Int32} (hX : ga_B E d y cc nL mc ms X) (hP : ga_P E (some ty) mc ms Post X) (hd : decode cc pc = .ok (.ireturn, 1)) (hn : narrow ty (.int v) = .int v) (hc : kc ≤ mc) (hs : ks ≤ ms) (h : Post (some (.int v)) M) : ga_G E X kc ks pc lv [.int v] M := by
  obtain ⟨p, l, e, R, s, m, args, below, meth, c, Q⟩ := X
  obtain ⟨hr, hq⟩ := hP
  dsimp only at hr hq
  subst hq
  intro H locs ls hR hl hS
  exact W.widen hc hs (W.zret hX.1 hX.2.1 hr hn (fun t ht hW => ⟨some (.int v), M, rfl, h, by rw [ht]; exact hR, hS.F ht⟩) hS.2.2 hd (hlocks := hX.2.2.2.2.2.1))
theorem g_lreturn {Post : Option Value → ga_M → Prop} {v : Int64} (hX : ga_B E d y cc nL mc ms X) (hP : ga_P E (some .long) mc ms Post X) (hd : decode cc pc = .ok (.lreturn, 1)) (hc : kc ≤ mc) (hs : ks ≤ ms) (h : Post (some (.long v)) M) : ga_G E X kc ks pc lv [.long v] M := by
  obtain ⟨p, l, e, R, s, m, args, below, meth, c, Q⟩ := X
  obtain ⟨hr, hq⟩ := hP
  dsimp only at hr hq
  subst hq
  intro H locs ls hR hl hS
  exact W.widen hc hs (W.lret hX.1 hX.2.1 hr (fun t ht hW => ⟨some (.long v), M, rfl, h, by rw [ht]; exact hR, hS.F ht⟩) hS.2.2 hd (hlocks := hX.2.2.2.2.2.1))
theorem g_areturn {nm : String} {Post : Option Value → ga_M → Prop} {v : Value} (hX : ga_B E d y cc nL mc ms X) (hP : ga_P E (some (.object nm)) mc ms Post X) (hd : decode cc pc = .ok (.areturn, 1)) (hv : v = .null ∨ ∃ a, v = .ref a) (hc : kc ≤ mc) (hs : ks ≤ ms) (h : Post (some v) M) : ga_G E X kc ks pc lv [v] M := by
  obtain ⟨p, l, e, R, s, m, args, below, meth, c, Q⟩ := X
  obtain ⟨hr, hq⟩ := hP
  dsimp only at hr hq
  subst hq
  intro H locs ls hR hl hS
  exact W.widen hc hs (W.aret hX.1 hX.2.1 hr (Or.inl ⟨nm, rfl⟩) (by rcases hv with rfl | ⟨a, rfl⟩; exact Or.inl rfl; exact Or.inr ⟨_, rfl⟩) (fun t ht hW => ⟨some v, M, rfl, h, by rw [ht]; exact hR, hS.F ht⟩) hS.2.2 hd (hlocks := hX.2.2.2.2.2.1))
theorem g_return {Post : Option Value → ga_M → Prop} (hX : ga_B E d y cc nL mc ms X) (hP : ga_P E none mc ms Post X) (hd : decode cc pc = .ok (.return_, 1)) (hc : kc ≤ mc) (hs : ks ≤ ms) (h : Post none M) : ga_G E X kc ks pc lv [] M := by
  obtain ⟨p, l, e, R, s, m, args, below, meth, c, Q⟩ := X
  obtain ⟨hr, hq⟩ := hP
  dsimp only at hr hq
  subst hq
  intro H locs ls hR hl hS
  exact W.widen hc hs (W.vret hX.1 hX.2.1 hr (fun t ht hW => ⟨none, M, rfl, h, by rw [ht]; exact hR, hS.F ht⟩) hS.2.2 hd (hlocks := hX.2.2.2.2.2.1))
end
