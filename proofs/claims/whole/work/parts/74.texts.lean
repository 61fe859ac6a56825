/-! ===== THE TEXTS: constants of the reader, outside the memory ===== -/
def w_len : List Nat := [3, 2, 3, 3, 3, 5, 98]
def w_byt : List (List Int32) := [[111, 117, 116], [105, 102], [116, 105, 101], [109, 97, 120], [109, 105, 110], [116, 111, 116, 97, 108], [109, 97, 114, 107, 115, 32, 114, 105, 110, 103, 32, 114, 101, 102, 117, 115, 97, 108, 115, 32, 102, 97, 108, 108, 115, 32, 109, 105, 115, 115, 101, 100, 32, 102, 105, 114, 115, 116, 32, 115, 101, 99, 111, 110, 100, 32, 116, 104, 105, 114, 100, 32, 107, 110, 111, 99, 107, 115, 32, 108, 111, 111, 107, 115, 32, 114, 101, 116, 105, 114, 101, 100, 32, 117, 110, 115, 101, 101, 110, 32, 111, 118, 101, 114, 32, 117, 110, 100, 101, 114, 32, 111, 112, 116, 105, 109, 117, 109]]
def w_ix : List Nat := [9, 21, 26, 31, 36, 41, 60]
def w_tx : List String := ["out", "if", "tie", "max", "min", "total", "marks ring refusals falls missed first second third knocks looks retired unseen over under optimum"]
def w_c (i j : Nat) : Int32 := (w_byt.getD i []).getD j 0
abbrev ga_A (E : ga_E) : Nat → Prop := fun q => E.1 ≤ q
def ga_Ks (E : ga_E) (U : State) : Prop :=
  va_Z "java/lang/String" "COMPACT_STRINGS" "Z" (.int 1) (ga_A E) U U.heap ∧
  (va_Z "jdk/internal/util/Preconditions" "SIOOBE_FORMATTER" "Ljava/util/function/BiFunction;" .null (ga_A E) U U.heap ∨ va_Z "jdk/internal/util/Preconditions" "SIOOBE_FORMATTER" "Ljava/util/function/BiFunction;" (.ref (E.2.2.2.2 15)) (ga_A E) U U.heap) ∧
  ∀ i, i < 7 → va_O "java/lang/String" (E.2.2.2.2 (i + 1)) (ga_A E) U U.heap ∧ va_OF "java/lang/String" "coder" "B" (.int 0) (E.2.2.2.2 (i + 1)) (ga_A E) U U.heap ∧ va_OF "java/lang/String" "value" "[B" (.ref (E.2.2.2.2 (i + 8))) (E.2.2.2.2 (i + 1)) (ga_A E) U U.heap ∧ va_T .byte (E.2.2.2.2 (i + 8)) (w_len.getD i 0) (fun j => .int (w_c i j)) (ga_A E) U U.heap ∧ vk_R "ThreeDays$Reader" (w_ix.getD i 0) (w_tx.getD i "") (E.2.2.2.2 (i + 1)) U
theorem ga_Ks.go {E : ga_E} {s U : State} {H : Heap} {locs : List Loc} (h : ga_Ks E s) (hS : va_S (ga_A E) s.heap H locs) (hU : U.heap = H) (hW : s.WarmedH U.vm) : ga_Ks E U := by
  subst hU
  have hq := hS.2.1
  have ha := hW.alike
  exact ⟨(h.1.moved ha).kept hq, h.2.1.imp (fun z => (z.moved ha).kept hq) (fun z => (z.moved ha).kept hq), fun i hi => ⟨((h.2.2 i hi).1.moved ha).kept hq, ((h.2.2 i hi).2.1.moved ha).kept hq, ((h.2.2 i hi).2.2.1.moved ha).kept hq, ((h.2.2 i hi).2.2.2.1.moved ha).kept hq, (h.2.2 i hi).2.2.2.2.warm hW⟩⟩
theorem ga_Ks.same {E : ga_E} {s U : State} (hv : s.vm = U.vm) (hh : s.heap = U.heap) (h : ga_Ks E s) : ga_Ks E U := by
  have ha : s.vm.Alike U.vm := by rw [hv]; exact Vm.Alike.refl U.vm
  unfold ga_Ks at h ⊢
  rw [hh] at h
  exact ⟨h.1.moved ha, h.2.1.imp (fun z => z.moved ha) (fun z => z.moved ha), fun i hi => ⟨(h.2.2 i hi).1.moved ha, (h.2.2 i hi).2.1.moved ha, (h.2.2 i hi).2.2.1.moved ha, (h.2.2 i hi).2.2.2.1.moved ha, (h.2.2 i hi).2.2.2.2.same hv.symm⟩⟩
def ga_Ms (E : ga_E) (d : Nat) (y : MethodName) (cc : ByteArray) (nL : Nat) (rt : Option FieldType) (mc ms : Nat) (as : List Value) (M : ga_M) (Post : Option Value → ga_M → Prop) : Prop :=
  ∀ l : Launch, Met l y (Cond.code y cc nL rt :: ga_T) (ga_rm d mc ms) (fun v U => ga_Pc E as M v U ∧ ga_Ks E U) (ga_Q E Post) mc ms (fun q => E.1 ≤ q)
abbrev ga_Mw (E : ga_E) (d : Nat) (y : MethodName) (cc : ByteArray) (nL : Nat) (rt : Option FieldType) (mc ms : Nat) (as : List Value) (M : ga_M) (r : Option Value) (M' : ga_M) : Prop := ga_Ms E d y cc nL rt mc ms as M (fun r0 M0 => r0 = r ∧ M0 = M')
theorem ga_blinds (E : ga_E) (as : List Value) (M : ga_M) : FrameBlind (fun v U => ga_Pc E as M v U ∧ ga_Ks E U) := fun a U g mk h => ⟨ga_blind E as M a U g mk h.1, ga_Ks.same rfl rfl h.2⟩
set_option maxHeartbeats 4000000 in
theorem ga_Ms.of {E : ga_E} {d : Nat} {y : MethodName} {cc : ByteArray} {nL : Nat} {rt : Option FieldType} {mc ms : Nat} {as : List Value} {M : ga_M} {Post : Option Value → ga_M → Prop} (hy : plainName y.cls = true) (hw : Nat.ble (ga_wd as) nL = true)
    (body : ∀ X, ga_B E d y cc nL mc ms X → ga_P E rt mc ms Post X → ga_Ks E X.2.2.2.2.1 → ga_G E X 0 0 0 (ga_as as) [] M) : ga_Ms E d y cc nL rt mc ms as M Post := by
  intro l
  refine Met.ofW (cc := cc) (maxL := nL) (ret := rt) hy rfl ?_
  intro p e s m args below meth c s₁ B hml hv
  obtain ⟨⟨rfl, hR, hK, hV⟩, hs⟩ := hv
  have hts := atoms_spec (ws := Cond.code y cc nL rt :: ga_T) B.pre
  have hwd : ga_wd as ≤ nL := Nat.le_of_ble_eq_true hw
  have hl := lv_entry (as.map (ga_v E)) (n := nL) (by rw [ga_sl_len]; exact hwd)
  rw [lg_entry_eq]
  subst hml
  exact body (p, l, e, (headSpec (Cond.code y cc c.maxLocals rt :: ga_T) (ga_rm d mc ms)).room, s, m, _, below, meth, c, MQ below (ga_Q E Post) _ s mc ms (fun q => E.1 ≤ q))
    ⟨B.exec, B.bytes, rfl, findClass_of_methodNamed B.named, fun w h => hts w (List.mem_cons_of_mem _ h), B.notSynchronized, (name_of_methodNamed B.named B.method).1, hK, hV, Nat.le_refl _, Nat.le_refl _, Nat.le_refl _, Nat.le_refl _⟩
    ⟨B.returns, rfl⟩ hs s.heap [] _ hR (ga_less hl (fun j w h => by have := ga_as_lk E as 0 j w h; rwa [Nat.zero_add] at this)) va_S.rf
set_option maxHeartbeats 4000000 in
theorem ga_Ms.ofF {E : ga_E} {d : Nat} {y : MethodName} {cc : ByteArray} {nL : Nat} {rt : Option FieldType} {mc ms : Nat} {as : List Value} {M : ga_M} {Post : Option Value → ga_M → Prop} (hy : plainFor y = true) (hw : Nat.ble (ga_wd as) nL = true)
    (body : ∀ X, ga_B E d y cc nL mc ms X → ga_P E rt mc ms Post X → ga_Ks E X.2.2.2.2.1 → ga_G E X 0 0 0 (ga_as as) [] M) : ga_Ms E d y cc nL rt mc ms as M Post := by
  intro l
  refine ga_ofWF (cc := cc) (maxL := nL) (ret := rt) hy rfl ?_
  intro p e s m args below meth c s₁ B hml hv
  obtain ⟨⟨rfl, hR, hK, hV⟩, hs⟩ := hv
  have hts := atoms_spec (ws := Cond.code y cc nL rt :: ga_T) B.pre
  have hwd : ga_wd as ≤ nL := Nat.le_of_ble_eq_true hw
  have hl := lv_entry (as.map (ga_v E)) (n := nL) (by rw [ga_sl_len]; exact hwd)
  rw [lg_entry_eq]
  subst hml
  exact body (p, l, e, (headSpec (Cond.code y cc c.maxLocals rt :: ga_T) (ga_rm d mc ms)).room, s, m, _, below, meth, c, MQ below (ga_Q E Post) _ s mc ms (fun q => E.1 ≤ q))
    ⟨B.exec, B.bytes, rfl, findClass_of_methodNamed B.named, fun w h => hts w (List.mem_cons_of_mem _ h), B.notSynchronized, (name_of_methodNamed B.named B.method).1, hK, hV, Nat.le_refl _, Nat.le_refl _, Nat.le_refl _, Nat.le_refl _⟩
    ⟨B.returns, rfl⟩ hs s.heap [] _ hR (ga_less hl (fun j w h => by have := ga_as_lk E as 0 j w h; rwa [Nat.zero_add] at this)) va_S.rf
section
variable {E : ga_E} {X : ga_X} {d nL mc ms kc ks pc nx : Nat} {y : MethodName} {cc : ByteArray} {lv : List (Option Value)} {st st0 : List Value} {M : ga_M}
variable {y' : MethodName} {cc' : ByteArray} {nL' n d' mc' ms' idx : Nat} {rt' : Option FieldType} {As : List Value} {Post : Option Value → ga_M → Prop}
theorem g_sS (hX : ga_B E d y cc nL mc ms X) (hs : ga_Ks E X.2.2.2.2.1) (hd : decode cc pc = .ok (.invokestatic idx, 3)) (hn : pc + 3 = nx) (hl : Cond.methodLink y.cls idx y' ∈ ga_T) (hy : ga_Ys y' cc' nL' rt' n) (hm : ga_Ms E d' y' cc' nL' rt' mc' ms' As M Post) (hAs : As.length = n) (hst : st0 = As.reverse ++ st) (hd' : d' + 1 ≤ d) (hw : Nat.ble (ga_wd st) 8 = true) (hc : kc + mc' ≤ mc) (hs' : ks + ms' ≤ ms)
    (k : ∀ (r : Option Value) (M' : ga_M), Post r M' → ga_G E X (kc + mc') (ks + ms') nx lv (ga_pu r st) M') : ga_G E X kc ks pc lv st0 M := by
  subst hn
  subst hst
  intro H locs ls hR hlv hS
  have hts := hX.2.2.2.2.1
  have hK := hX.2.2.2.2.2.2.2.1
  refine ga_ran (Post := Post) (va_runS (As := As.map (ga_v E)) (rest := st.map (ga_v E)) ⟨hX.1, hX.2.1, hX.2.2.1, hX.2.2.2.1, hts⟩ (hm X.2.1) ⟨callB_of n hts (ga_gin hy.1) rfl rfl rfl (hts _ hy.1.1) (hts _ hl) hy.1.2.2.1 (ga_room hX hy.1 hd'), hts _ hy.2⟩ ⟨ga_blinds E _ M, fun U hU hW => ⟨⟨rfl, by rw [hU]; exact hR, hK.moved hW, hX.2.2.2.2.2.2.2.2.1⟩, hs.go hS hU hW⟩⟩ rfl (by rw [List.length_map]; exact hAs) (hlv.1.trans hX.2.2.1) (by simp [List.map_append, List.map_reverse]) (ga_8 hw) hd (ga_fits hX hc hs')) hS (fun r M' H1 locs1 hp hR1 hS1 => ?_)
  rw [ga_puv]
  exact k r M' hp H1 locs1 ls hR1 hlv hS1
theorem g_sI (hX : ga_B E d y cc nL mc ms X) (hs : ga_Ks E X.2.2.2.2.1) {a : Nat} (hd : decode cc pc = .ok (.invokespecial idx, 3)) (hn : pc + 3 = nx) (hl : Cond.methodLink y.cls idx y' ∈ ga_T) (hy : ga_Yi y' cc' nL' n) (hm : ga_Ms E d' y' cc' nL' none mc' ms' (.ref a :: As) M Post) (hAs : As.length = n) (hst : st0 = As.reverse ++ .ref a :: st) (hd' : d' + 1 ≤ d) (hw : Nat.ble (ga_wd st) 8 = true) (hc : kc + mc' ≤ mc) (hs' : ks + ms' ≤ ms)
    (k : ∀ (r : Option Value) (M' : ga_M), Post r M' → ga_G E X (kc + mc') (ks + ms') nx lv (ga_pu r st) M') : ga_G E X kc ks pc lv st0 M := by
  subst hn
  subst hst
  intro H locs ls hR hlv hS
  have hts := hX.2.2.2.2.1
  have hK := hX.2.2.2.2.2.2.2.1
  refine ga_ran (Post := Post) (va_runI (As := As.map (ga_v E)) (rest := st.map (ga_v E)) (b := E.2.1 a) ⟨hX.1, hX.2.1, hX.2.2.1, hX.2.2.2.1, hts⟩ (hm X.2.1) ⟨callB_of n hts (ga_gin hy.1) rfl rfl rfl (hts _ hy.1.1) (hts _ hl) hy.1.2.2.1 (ga_room hX hy.1 hd'), hy.2.1, hts _ hy.2.2⟩ ⟨ga_blinds E _ M, fun U hU hW => ⟨⟨rfl, by rw [hU]; exact hR, hK.moved hW, hX.2.2.2.2.2.2.2.2.1⟩, hs.go hS hU hW⟩⟩ rfl (by rw [List.length_map]; exact hAs) (hlv.1.trans hX.2.2.1) (by simp [List.map_append, List.map_reverse]; rfl) (ga_8 hw) hd (ga_fits hX hc hs')) hS (fun r M' H1 locs1 hp hR1 hS1 => ?_)
  rw [ga_puv]
  exact k r M' hp H1 locs1 ls hR1 hlv hS1
theorem g_sV (hX : ga_B E d y cc nL mc ms X) (hs : ga_Ks E X.2.2.2.2.1) {i : Nat} (hi : i < 7) (hd : decode cc pc = .ok (.invokevirtual idx, 3)) (hn : pc + 3 = nx) (hl : Cond.methodLink y.cls idx y' ∈ ga_T) (hy : ga_Yv y' cc' nL' rt' n) (hyc : "java/lang/String" = y'.cls) (hm : ga_Ms E d' y' cc' nL' rt' mc' ms' (.retAddr (i + 1) :: As) M Post) (hAs : As.length = n) (hst : st0 = As.reverse ++ .retAddr (i + 1) :: st) (hd' : d' + 1 ≤ d) (hw : Nat.ble (ga_wd st) 8 = true) (hc : kc + mc' ≤ mc) (hs' : ks + ms' ≤ ms)
    (k : ∀ (r : Option Value) (M' : ga_M), Post r M' → ga_G E X (kc + mc') (ks + ms') nx lv (ga_pu r st) M') : ga_G E X kc ks pc lv st0 M := by
  subst hn
  subst hst
  intro H locs ls hR hlv hS
  have hts := hX.2.2.2.2.1
  have hK := hX.2.2.2.2.2.2.2.1
  refine ga_ran (Post := Post) (va_runV (As := As.map (ga_v E)) (rest := st.map (ga_v E)) (b := E.2.2.2.2 (i + 1)) (C := y'.cls) ⟨hX.1, hX.2.1, hX.2.2.1, hX.2.2.2.1, hts⟩ (hm X.2.1) ⟨callB_of n hts (ga_gin hy.1) rfl rfl rfl (hts _ hy.1.1) (hts _ hl) hy.1.2.2.1 (ga_room hX hy.1 hd'), hts _ hy.2.1, hts _ hy.2.2⟩ ⟨ga_blinds E _ M, by obtain ⟨cell, h1, h2, h3, -⟩ := (hs.2.2 i hi).1.kept hS.2.1; rw [hyc] at h3; exact ⟨cell, h1, h2, h3⟩, fun U hU hW => ⟨⟨rfl, by rw [hU]; exact hR, hK.moved hW, hX.2.2.2.2.2.2.2.2.1⟩, hs.go hS hU hW⟩⟩ rfl (by rw [List.length_map]; exact hAs) (hlv.1.trans hX.2.2.1) (by simp [List.map_append, List.map_reverse]; rfl) (ga_8 hw) hd (ga_fits hX hc hs')) hS (fun r M' H1 locs1 hp hR1 hS1 => ?_)
  rw [ga_puv]
  exact k r M' hp H1 locs1 ls hR1 hlv hS1
theorem g_sldc (hX : ga_B E d y cc nL mc ms X) (hs : ga_Ks E X.2.2.2.2.1) (i : Nat) (hi : i < 7) {ix : Nat} (hd : decode cc pc = .ok (.ldc ix, 2)) (hn : pc + 2 = nx) (hix : w_ix.getD i 0 = ix) (hy : y.cls = "ThreeDays$Reader") (k : ga_G E X kc ks nx lv (.retAddr (i + 1) :: st) M) : ga_G E X kc ks pc lv st M := by
  subst hn
  subst hix
  intro H locs ls hR hl hS
  exact va_ldcS hX.1 hX.2.1 (by rw [← hy]; exact hX.2.2.2.1) (hs.2.2 i hi).2.2.2.2 hd (k H locs ls hR hl hS)
theorem w_f38 : Cond.fieldLink "java/lang/String" 38 "java/lang/String" "COMPACT_STRINGS" "Z" ∈ ga_T := ga_in (List.mem_of_getElem? (i := 207) (by decide +kernel)) rfl
theorem w_f1053 : Cond.fieldLink "java/lang/String" 1053 "jdk/internal/util/Preconditions" "SIOOBE_FORMATTER" "Ljava/util/function/BiFunction;" ∈ ga_T := ga_in (List.mem_of_getElem? (i := 223) (by decide +kernel)) rfl
theorem w_f9 : Cond.fieldLink "java/lang/String" 9 "java/lang/String" "value" "[B" ∈ ga_T := ga_in (List.mem_of_getElem? (i := 1399) (by decide +kernel)) rfl
theorem w_f15 : Cond.fieldLink "java/lang/String" 15 "java/lang/String" "coder" "B" ∈ ga_T := ga_in (List.mem_of_getElem? (i := 1400) (by decide +kernel)) rfl
theorem g_sget (hX : ga_B E d y cc nL mc ms X) (hs : ga_Ks E X.2.2.2.2.1) (hd : decode cc pc = .ok (.getstatic 38, 3)) (hn : pc + 3 = nx) (hy : y.cls = "java/lang/String") (k : ga_G E X kc ks nx lv (.int 1 :: st) M) : ga_G E X kc ks pc lv st M := by
  subst hn
  intro H locs ls hR hl hS
  exact va_gets hX.1 hX.2.1 hs.1 hS (by rw [← hy]; exact hX.2.2.2.1) (hX.2.2.2.2.1 _ w_f38) (fun x h => h) hd (k H locs ls hR hl hS)
theorem g_sgetF (hX : ga_B E d y cc nL mc ms X) (hs : ga_Ks E X.2.2.2.2.1) (hd : decode cc pc = .ok (.getstatic 1053, 3)) (hn : pc + 3 = nx) (hy : y.cls = "java/lang/String") (k1 : ga_G E X kc ks nx lv (.null :: st) M) (k : ga_G E X kc ks nx lv (.retAddr 15 :: st) M) : ga_G E X kc ks pc lv st M := by
  subst hn
  intro H locs ls hR hl hS
  rcases hs.2.1 with h | h
  · exact va_gets hX.1 hX.2.1 h hS (by rw [← hy]; exact hX.2.2.2.1) (hX.2.2.2.2.1 _ w_f1053) (fun x h => h) hd (k1 H locs ls hR hl hS)
  · exact va_gets hX.1 hX.2.1 h hS (by rw [← hy]; exact hX.2.2.2.1) (hX.2.2.2.2.1 _ w_f1053) (fun x h => h) hd (k H locs ls hR hl hS)
theorem g_svalue (hX : ga_B E d y cc nL mc ms X) (hs : ga_Ks E X.2.2.2.2.1) {i : Nat} (hi : i < 7) (hd : decode cc pc = .ok (.getfield 9, 3)) (hn : pc + 3 = nx) (hy : y.cls = "java/lang/String") (k : ga_G E X kc ks nx lv (.retAddr (i + 8) :: st) M) : ga_G E X kc ks pc lv (.retAddr (i + 1) :: st) M := by
  subst hn
  intro H locs ls hR hl hS
  exact vk_getf hX.1 hX.2.1 (hs.2.2 i hi).2.2.1 hS (by rw [← hy]; exact hX.2.2.2.1) (hX.2.2.2.2.1 _ w_f9) (fun x h => h) hd (k H locs ls hR hl hS)
theorem g_scoder (hX : ga_B E d y cc nL mc ms X) (hs : ga_Ks E X.2.2.2.2.1) {i : Nat} (hi : i < 7) (hd : decode cc pc = .ok (.getfield 15, 3)) (hn : pc + 3 = nx) (hy : y.cls = "java/lang/String") (k : ga_G E X kc ks nx lv (.int 0 :: st) M) : ga_G E X kc ks pc lv (.retAddr (i + 1) :: st) M := by
  subst hn
  intro H locs ls hR hl hS
  exact vk_getf hX.1 hX.2.1 (hs.2.2 i hi).2.1 hS (by rw [← hy]; exact hX.2.2.2.1) (hX.2.2.2.2.1 _ w_f15) (fun x h => h) hd (k H locs ls hR hl hS)
theorem g_slen (hX : ga_B E d y cc nL mc ms X) (hs : ga_Ks E X.2.2.2.2.1) {i : Nat} (hi : i < 7) (hd : decode cc pc = .ok (.arraylength, 1)) (hn : pc + 1 = nx) (k : ga_G E X kc ks nx lv (.int (nI (w_len.getD i 0)) :: st) M) : ga_G E X kc ks pc lv (.retAddr (i + 8) :: st) M := by
  subst hn
  intro H locs ls hR hl hS
  exact va_tlen hX.1 hX.2.1 (hs.2.2 i hi).2.2.2.1 hS rfl hd (k H locs ls hR hl hS)
theorem g_sbald (hX : ga_B E d y cc nL mc ms X) (hs : ga_Ks E X.2.2.2.2.1) {i j : Nat} (hi : i < 7) (hj : j < w_len.getD i 0) (hl6 : w_len.getD i 0 < 2147483648) (hd : decode cc pc = .ok (.baload, 1)) (hn : pc + 1 = nx) (k : ga_G E X kc ks nx lv (.int (w_c i j) :: st) M) : ga_G E X kc ks pc lv (.int (nI j) :: .retAddr (i + 8) :: st) M := by
  subst hn
  intro H locs ls hR hl hS
  exact va_tb hX.1 hX.2.1 (hs.2.2 i hi).2.2.2.1 hS (vp_in_nI hj hl6) (v := .int (w_c i j)) (by rw [nI_clamp (by omega)]) hd (k H locs ls hR hl hS)
theorem g_i2c (hX : ga_B E d y cc nL mc ms X) {x v : Int32} (hd : decode cc pc = .ok (.i2c, 1)) (hn : pc + 1 = nx) (hv : (x.toUInt32 % 65536).toInt32 = v) (k : ga_G E X kc ks nx lv (.int v :: st) M) : ga_G E X kc ks pc lv (.int x :: st) M := by
  subst hn; exact fun H locs ls hR hl hS => lv_i2c hX.1 hX.2.1 hd hv (k H locs ls hR hl hS)
theorem w_ok : ∀ i, i < 7 → w_len.getD i 0 ≤ 98 ∧ ∀ j, j < 98 → j < w_len.getD i 0 → ((w_c i j &&& 255).toUInt32 % 65536).toInt32 = w_c i j ∧ narrow .char (.int (w_c i j)) = .int (w_c i j) := by decide +kernel
end
