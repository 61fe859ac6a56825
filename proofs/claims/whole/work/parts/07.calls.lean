/-! ===== CALLS ===== -/
def ga_Yb (y : MethodName) (cc : ByteArray) (nL : Nat) (rt : Option FieldType) (n : Nat) : Prop := Cond.initialized y.cls ∈ ga_T ∧ Cond.code y cc nL rt ∈ ga_T ∧ (y.cls ≠ "java/lang/invoke/MethodHandle" ∧ y.cls ≠ "java/lang/invoke/VarHandle" ∧ (parseMethodDescriptor y.desc).map (fun d => d.parameters.length) = some n) ∧ nL ≤ 41
def ga_Yv (y : MethodName) (cc : ByteArray) (nL : Nat) (rt : Option FieldType) (n : Nat) : Prop := ga_Yb y cc nL rt n ∧ Cond.instanceMethod y ∈ ga_T ∧ Cond.selects y.cls y y ∈ ga_T
def ga_Ys (y : MethodName) (cc : ByteArray) (nL : Nat) (rt : Option FieldType) (n : Nat) : Prop := ga_Yb y cc nL rt n ∧ Cond.static y ∈ ga_T
def ga_Yi (y : MethodName) (cc : ByteArray) (nL : Nat) (n : Nat) : Prop := ga_Yb y cc nL none n ∧ y.name = "<init>" ∧ Cond.instanceMethod y ∈ ga_T
abbrev ga_Mx (E : ga_E) (d : Nat) (y : MethodName) (cc : ByteArray) (nL : Nat) (rt : Option FieldType) (mc ms : Nat) (as : List Value) (M : ga_M) (r : Option Value) (M' : ga_M) : Prop := ga_Mt E d y cc nL rt mc ms as M (fun r0 M0 => r0 = r ∧ M0 = M')
theorem ga_blind (E : ga_E) (as : List Value) (M : ga_M) : FrameBlind (ga_Pc E as M) := fun a U g mk h => ⟨h.1, h.2.1, ga_K.same rfl h.2.2.1, h.2.2.2⟩
theorem ga_sum (E : ga_E) (s : List Value) : ((s.map (ga_v E)).map fun v => v.category).sum = ga_wd s := by
  induction s with
  | nil => rfl
  | cons v t ih => simp only [List.map_cons, List.sum_cons, ga_v_cat, ga_wd]; rw [ih]
theorem ga_gin {y : MethodName} {cc : ByteArray} {nL n : Nat} {rt : Option FieldType} (h : ga_Yb y cc nL rt n) : GoodIn ga_T (Cond.code y cc nL rt :: ga_T) := fun w hw => by
  rcases List.mem_cons.mp hw with rfl | hw
  · exact ⟨h.2.1, good_of_word (List.mem_filter.mp h.2.1).2⟩
  · exact ⟨hw, good_of_word (List.mem_filter.mp hw).2⟩
section
variable {p : Program} {l : Launch} {e : Env} {R : Room} {s : State} {m : MethodId} {args : Array Value} {below : List Frame} {meth : Method} {c : Code} {H : Heap} {locs : List Loc} {cells slots : Nat} {Q : State → Prop}
theorem ga_ran {E : ga_E} {Post : Option Value → ga_M → Prop} {mc ms pc : Nat} {ls : Array Slot} {st0 rest : List Value} {a : Array Value} (hr : va_Run p l e R s m args below meth c H locs cells slots mc ms (F0 m pc ls st0) rest (ga_Q E Post a) (fun q => E.1 ≤ q)) (hS : va_S (fun q => E.1 ≤ q) s.heap H locs)
    (kk : ∀ (r : Option Value) (M : ga_M) (H1 : Heap) (locs1 : List Loc), Post r M → ga_R E M H1 → va_S (fun q => E.1 ≤ q) s.heap H1 locs1 → W p l e R s m args below meth c H1 locs1 (cells + mc) (slots + ms) Q (F0 m (pc + 3) ls ((r.map (ga_v E)).toList ++ rest))) : W p l e R s m args below meth c H locs cells slots Q (F0 m pc ls st0) := by
  intro T hT X
  obtain ⟨v, st₀, t, T', L, h0, X', hL, e1, e2, ⟨r, M, hv, hp, hR, hz, hk⟩, st⟩ := hr T hT X
  cases hv
  rw [h0] at hz hk
  obtain ⟨t2, a1, b1⟩ := kk r M T'.heap (locs ++ L) hp (by rw [e1]; exact hR)
    ⟨Nat.le_trans hS.1 (by rw [e1]; exact hz), fun q h1 h2 => by rw [e1, hk q (Nat.lt_of_lt_of_le h1 hS.1) h2]; exact hS.2.1 q h1 h2, fun q hq => by
      rcases List.mem_append.mp hq with h | h
      · exact hS.2.2 q h
      · exact hL q h⟩ T' rfl X'
  exact ⟨t2, st t2 a1, b1⟩
end
section
variable {E : ga_E} {X : ga_X} {d nL mc ms kc ks pc nx : Nat} {y : MethodName} {cc : ByteArray} {lv : List (Option Value)} {st st0 : List Value} {M : ga_M}
variable {y' : MethodName} {cc' : ByteArray} {nL' n d' mc' ms' idx : Nat} {rt' : Option FieldType} {As : List Value} {Post : Option Value → ga_M → Prop}
theorem ga_room (hX : ga_B E d y cc nL mc ms X) (h : ga_Yb y' cc' nL' rt' n) (hd' : d' + 1 ≤ d) : (ga_rm d' mc' ms').frames + 1 ≤ X.2.2.2.1.frames ∧ 8 + (nL' + 11) + (ga_rm d' mc' ms').locals ≤ X.2.2.2.1.locals := by
  have h1 := hX.2.2.2.2.2.2.2.2.2.1
  have h2 := hX.2.2.2.2.2.2.2.2.2.2.1
  have h3 := h.2.2.2
  exact ⟨Nat.le_trans hd' h1, by show 8 + (nL' + 11) + 60 * d' ≤ _; omega⟩
theorem ga_fits (hX : ga_B E d y cc nL mc ms X) (h1 : kc + mc' ≤ mc) (h2 : ks + ms' ≤ ms) : kc + mc' ≤ X.2.2.2.1.cells ∧ ks + ms' ≤ X.2.2.2.1.slots := ⟨Nat.le_trans h1 hX.2.2.2.2.2.2.2.2.2.2.2.1, Nat.le_trans h2 hX.2.2.2.2.2.2.2.2.2.2.2.2⟩
theorem ga_8 {m : MethodId} {ls : Array Slot} {stk : List Value} (h : Nat.ble (ga_wd st) 8 = true) : 2 * (F0 m pc ls stk).monitorRoom + ((st.map (ga_v E)).map fun v => v.category).sum ≤ 8 := by
  rw [ga_sum]
  have h8 : ga_wd st ≤ 8 := Nat.le_of_ble_eq_true h
  have : 2 * JFrame.monitorRoom (F0 m pc ls stk) = 0 := by simp [JFrame.monitorRoom]
  omega
theorem ga_puv (r : Option Value) : (r.map (ga_v E)).toList ++ st.map (ga_v E) = (ga_pu r st).map (ga_v E) := by cases r <;> rfl
theorem g_callV (hX : ga_B E d y cc nL mc ms X) {a ci : Nat} {r : vw_C} {fs : List Value} (hd : decode cc pc = .ok (.invokevirtual idx, 3)) (hn : pc + 3 = nx) (hl : Cond.methodLink y.cls idx y' ∈ ga_T) (hy : ga_Yv y' cc' nL' rt' n) (hm : ga_Mt E d' y' cc' nL' rt' mc' ms' (.ref a :: As) M Post) (hAs : As.length = n) (ha : a < M.1) (hg : ga_get M a = .inr (ci, fs)) (hr : vwCl[ci]? = some r) (hrn : r.1 = y'.cls) (hst : st0 = As.reverse ++ .ref a :: st) (hd' : d' + 1 ≤ d) (hw : Nat.ble (ga_wd st) 8 = true) (hc : kc + mc' ≤ mc) (hs : ks + ms' ≤ ms)
    (k : ∀ (r : Option Value) (M' : ga_M), Post r M' → ga_G E X (kc + mc') (ks + ms') nx lv (ga_pu r st) M') : ga_G E X kc ks pc lv st0 M := by
  subst hn
  subst hst
  intro H locs ls hR hlv hS
  have hat := hR.2.2.2 a ha
  rw [hg] at hat
  have hts := hX.2.2.2.2.1
  have hK := hX.2.2.2.2.2.2.2.1
  refine ga_ran (Post := Post) (va_runV (As := As.map (ga_v E)) (rest := st.map (ga_v E)) (b := E.2.1 a) (C := y'.cls) ⟨hX.1, hX.2.1, hX.2.2.1, hX.2.2.2.1, hts⟩ (hm X.2.1) ⟨callB_of n hts (ga_gin hy.1) rfl rfl rfl (hts _ hy.1.1) (hts _ hl) hy.1.2.2.1 (ga_room hX hy.1 hd'), hts _ hy.2.1, hts _ hy.2.2⟩ ⟨ga_blind E _ M, by have := va_recv (q0 := 0) hK.1 (ga_one hat) hr rfl; rw [hrn] at this; exact this, fun U hU hW => ⟨rfl, by rw [hU]; exact hR, hK.moved hW, hX.2.2.2.2.2.2.2.2.1⟩⟩ rfl (by rw [List.length_map]; exact hAs) (hlv.1.trans hX.2.2.1) (by simp [List.map_append, List.map_reverse]; rfl) (ga_8 hw) hd (ga_fits hX hc hs)) hS (fun r M' H1 locs1 hp hR1 hS1 => ?_)
  rw [ga_puv]
  exact k r M' hp H1 locs1 ls hR1 hlv hS1
theorem g_callS (hX : ga_B E d y cc nL mc ms X) (hd : decode cc pc = .ok (.invokestatic idx, 3)) (hn : pc + 3 = nx) (hl : Cond.methodLink y.cls idx y' ∈ ga_T) (hy : ga_Ys y' cc' nL' rt' n) (hm : ga_Mt E d' y' cc' nL' rt' mc' ms' As M Post) (hAs : As.length = n) (hst : st0 = As.reverse ++ st) (hd' : d' + 1 ≤ d) (hw : Nat.ble (ga_wd st) 8 = true) (hc : kc + mc' ≤ mc) (hs : ks + ms' ≤ ms)
    (k : ∀ (r : Option Value) (M' : ga_M), Post r M' → ga_G E X (kc + mc') (ks + ms') nx lv (ga_pu r st) M') : ga_G E X kc ks pc lv st0 M := by
  subst hn
  subst hst
  intro H locs ls hR hlv hS
  have hts := hX.2.2.2.2.1
  have hK := hX.2.2.2.2.2.2.2.1
  refine ga_ran (Post := Post) (va_runS (As := As.map (ga_v E)) (rest := st.map (ga_v E)) ⟨hX.1, hX.2.1, hX.2.2.1, hX.2.2.2.1, hts⟩ (hm X.2.1) ⟨callB_of n hts (ga_gin hy.1) rfl rfl rfl (hts _ hy.1.1) (hts _ hl) hy.1.2.2.1 (ga_room hX hy.1 hd'), hts _ hy.2⟩ ⟨ga_blind E _ M, fun U hU hW => ⟨rfl, by rw [hU]; exact hR, hK.moved hW, hX.2.2.2.2.2.2.2.2.1⟩⟩ rfl (by rw [List.length_map]; exact hAs) (hlv.1.trans hX.2.2.1) (by simp [List.map_append, List.map_reverse]) (ga_8 hw) hd (ga_fits hX hc hs)) hS (fun r M' H1 locs1 hp hR1 hS1 => ?_)
  rw [ga_puv]
  exact k r M' hp H1 locs1 ls hR1 hlv hS1
theorem g_callSN (hX : ga_B E d y cc nL mc ms X) {host : String} (hd : decode cc pc = .ok (.invokestatic idx, 3)) (hn : pc + 3 = nx) (hl : (y.cls, idx, y', host) ∈ ga_nest) (hy : ga_Ys y' cc' nL' rt' n) (hm : ga_Mt E d' y' cc' nL' rt' mc' ms' As M Post) (hAs : As.length = n) (hst : st0 = As.reverse ++ st) (hd' : d' + 1 ≤ d) (hw : Nat.ble (ga_wd st) 8 = true) (hc : kc + mc' ≤ mc) (hs : ks + ms' ≤ ms)
    (k : ∀ (r : Option Value) (M' : ga_M), Post r M' → ga_G E X (kc + mc') (ks + ms') nx lv (ga_pu r st) M') : ga_G E X kc ks pc lv st0 M := by
  subst hn
  subst hst
  intro H locs ls hR hlv hS
  have hts := hX.2.2.2.2.1
  have hK := hX.2.2.2.2.2.2.2.1
  refine ga_ran (Post := Post) (va_runSN (As := As.map (ga_v E)) (rest := st.map (ga_v E)) ⟨hX.1, hX.2.1, hX.2.2.1, hX.2.2.2.1, hts⟩ (hm X.2.1) ⟨va_cnB n hts (ga_gin hy.1) rfl rfl rfl (hK.2.1 _ hl) (hts _ hy.1.1) hy.1.2.2.1 (ga_room hX hy.1 hd'), hts _ hy.2, trivial⟩ ⟨ga_blind E _ M, fun U hU hW => ⟨rfl, by rw [hU]; exact hR, hK.moved hW, hX.2.2.2.2.2.2.2.2.1⟩⟩ rfl (by rw [List.length_map]; exact hAs) (hlv.1.trans hX.2.2.1) (by simp [List.map_append, List.map_reverse]) (ga_8 hw) hd (ga_fits hX hc hs)) hS (fun r M' H1 locs1 hp hR1 hS1 => ?_)
  rw [ga_puv]
  exact k r M' hp H1 locs1 ls hR1 hlv hS1
theorem g_callI (hX : ga_B E d y cc nL mc ms X) {a : Nat} (hd : decode cc pc = .ok (.invokespecial idx, 3)) (hn : pc + 3 = nx) (hl : Cond.methodLink y.cls idx y' ∈ ga_T) (hy : ga_Yi y' cc' nL' n) (hm : ga_Mt E d' y' cc' nL' none mc' ms' (.ref a :: As) M Post) (hAs : As.length = n) (hst : st0 = As.reverse ++ .ref a :: st) (hd' : d' + 1 ≤ d) (hw : Nat.ble (ga_wd st) 8 = true) (hc : kc + mc' ≤ mc) (hs : ks + ms' ≤ ms)
    (k : ∀ (r : Option Value) (M' : ga_M), Post r M' → ga_G E X (kc + mc') (ks + ms') nx lv (ga_pu r st) M') : ga_G E X kc ks pc lv st0 M := by
  subst hn
  subst hst
  intro H locs ls hR hlv hS
  have hts := hX.2.2.2.2.1
  have hK := hX.2.2.2.2.2.2.2.1
  refine ga_ran (Post := Post) (va_runI (As := As.map (ga_v E)) (rest := st.map (ga_v E)) (b := E.2.1 a) ⟨hX.1, hX.2.1, hX.2.2.1, hX.2.2.2.1, hts⟩ (hm X.2.1) ⟨callB_of n hts (ga_gin hy.1) rfl rfl rfl (hts _ hy.1.1) (hts _ hl) hy.1.2.2.1 (ga_room hX hy.1 hd'), hy.2.1, hts _ hy.2.2⟩ ⟨ga_blind E _ M, fun U hU hW => ⟨rfl, by rw [hU]; exact hR, hK.moved hW, hX.2.2.2.2.2.2.2.2.1⟩⟩ rfl (by rw [List.length_map]; exact hAs) (hlv.1.trans hX.2.2.1) (by simp [List.map_append, List.map_reverse]; rfl) (ga_8 hw) hd (ga_fits hX hc hs)) hS (fun r M' H1 locs1 hp hR1 hS1 => ?_)
  rw [ga_puv]
  exact k r M' hp H1 locs1 ls hR1 hlv hS1
theorem g_callIN (hX : ga_B E d y cc nL mc ms X) {a : Nat} {host : String} (hd : decode cc pc = .ok (.invokespecial idx, 3)) (hn : pc + 3 = nx) (hl : (y.cls, idx, y', host) ∈ ga_nest) (hy : ga_Yi y' cc' nL' n) (hm : ga_Mt E d' y' cc' nL' none mc' ms' (.ref a :: As) M Post) (hAs : As.length = n) (hst : st0 = As.reverse ++ .ref a :: st) (hd' : d' + 1 ≤ d) (hw : Nat.ble (ga_wd st) 8 = true) (hc : kc + mc' ≤ mc) (hs : ks + ms' ≤ ms)
    (k : ∀ (r : Option Value) (M' : ga_M), Post r M' → ga_G E X (kc + mc') (ks + ms') nx lv (ga_pu r st) M') : ga_G E X kc ks pc lv st0 M := by
  subst hn
  subst hst
  intro H locs ls hR hlv hS
  have hts := hX.2.2.2.2.1
  have hK := hX.2.2.2.2.2.2.2.1
  refine ga_ran (Post := Post) (va_runIN (As := As.map (ga_v E)) (rest := st.map (ga_v E)) (b := E.2.1 a) ⟨hX.1, hX.2.1, hX.2.2.1, hX.2.2.2.1, hts⟩ (hm X.2.1) ⟨va_cnB n hts (ga_gin hy.1) rfl rfl rfl (hK.2.1 _ hl) (hts _ hy.1.1) hy.1.2.2.1 (ga_room hX hy.1 hd'), hy.2.1, hts _ hy.2.2⟩ ⟨ga_blind E _ M, fun U hU hW => ⟨rfl, by rw [hU]; exact hR, hK.moved hW, hX.2.2.2.2.2.2.2.2.1⟩⟩ rfl (by rw [List.length_map]; exact hAs) (hlv.1.trans hX.2.2.1) (by simp [List.map_append, List.map_reverse]; rfl) (ga_8 hw) hd (ga_fits hX hc hs)) hS (fun r M' H1 locs1 hp hR1 hS1 => ?_)
  rw [ga_puv]
  exact k r M' hp H1 locs1 ls hR1 hlv hS1
theorem g_V0 (hX : ga_B E d y cc nL mc ms X) {a ci : Nat} {r : vw_C} {fs : List Value} (hd : decode cc pc = .ok (.invokevirtual idx, 3)) (hn : pc + 3 = nx) (hl : Cond.methodLink y.cls idx y' ∈ ga_T) (hy : ga_Yv y' cc' nL' rt' 0) (hm : ga_Mt E d' y' cc' nL' rt' mc' ms' (.ref a :: []) M Post) (ha : a < M.1) (hg : ga_get M a = .inr (ci, fs)) (hr : vwCl[ci]? = some r) (hrn : r.1 = y'.cls) (hd' : d' + 1 ≤ d) (hw : Nat.ble (ga_wd st) 8 = true) (hc : kc + mc' ≤ mc) (hs : ks + ms' ≤ ms) (k : ∀ (r : Option Value) (M' : ga_M), Post r M' → ga_G E X (kc + mc') (ks + ms') nx lv (ga_pu r st) M') : ga_G E X kc ks pc lv (.ref a :: st) M :=
  g_callV (As := []) hX hd hn hl hy hm rfl ha hg hr hrn rfl hd' hw hc hs k
theorem g_I0 (hX : ga_B E d y cc nL mc ms X) {a : Nat} (hd : decode cc pc = .ok (.invokespecial idx, 3)) (hn : pc + 3 = nx) (hl : Cond.methodLink y.cls idx y' ∈ ga_T) (hy : ga_Yi y' cc' nL' 0) (hm : ga_Mt E d' y' cc' nL' none mc' ms' (.ref a :: []) M Post) (hd' : d' + 1 ≤ d) (hw : Nat.ble (ga_wd st) 8 = true) (hc : kc + mc' ≤ mc) (hs : ks + ms' ≤ ms) (k : ∀ (r : Option Value) (M' : ga_M), Post r M' → ga_G E X (kc + mc') (ks + ms') nx lv (ga_pu r st) M') : ga_G E X kc ks pc lv (.ref a :: st) M :=
  g_callI (As := []) hX hd hn hl hy hm rfl rfl hd' hw hc hs k
theorem g_IN0 (hX : ga_B E d y cc nL mc ms X) {a : Nat} {host : String} (hd : decode cc pc = .ok (.invokespecial idx, 3)) (hn : pc + 3 = nx) (hl : (y.cls, idx, y', host) ∈ ga_nest) (hy : ga_Yi y' cc' nL' 0) (hm : ga_Mt E d' y' cc' nL' none mc' ms' (.ref a :: []) M Post) (hd' : d' + 1 ≤ d) (hw : Nat.ble (ga_wd st) 8 = true) (hc : kc + mc' ≤ mc) (hs : ks + ms' ≤ ms) (k : ∀ (r : Option Value) (M' : ga_M), Post r M' → ga_G E X (kc + mc') (ks + ms') nx lv (ga_pu r st) M') : ga_G E X kc ks pc lv (.ref a :: st) M :=
  g_callIN (As := []) hX hd hn hl hy hm rfl rfl hd' hw hc hs k
theorem g_S0 (hX : ga_B E d y cc nL mc ms X) (hd : decode cc pc = .ok (.invokestatic idx, 3)) (hn : pc + 3 = nx) (hl : Cond.methodLink y.cls idx y' ∈ ga_T) (hy : ga_Ys y' cc' nL' rt' 0) (hm : ga_Mt E d' y' cc' nL' rt' mc' ms' [] M Post) (hd' : d' + 1 ≤ d) (hw : Nat.ble (ga_wd st) 8 = true) (hc : kc + mc' ≤ mc) (hs : ks + ms' ≤ ms) (k : ∀ (r : Option Value) (M' : ga_M), Post r M' → ga_G E X (kc + mc') (ks + ms') nx lv (ga_pu r st) M') : ga_G E X kc ks pc lv (st) M :=
  g_callS (As := []) hX hd hn hl hy hm rfl rfl hd' hw hc hs k
theorem g_SN0 (hX : ga_B E d y cc nL mc ms X) {host : String} (hd : decode cc pc = .ok (.invokestatic idx, 3)) (hn : pc + 3 = nx) (hl : (y.cls, idx, y', host) ∈ ga_nest) (hy : ga_Ys y' cc' nL' rt' 0) (hm : ga_Mt E d' y' cc' nL' rt' mc' ms' [] M Post) (hd' : d' + 1 ≤ d) (hw : Nat.ble (ga_wd st) 8 = true) (hc : kc + mc' ≤ mc) (hs : ks + ms' ≤ ms) (k : ∀ (r : Option Value) (M' : ga_M), Post r M' → ga_G E X (kc + mc') (ks + ms') nx lv (ga_pu r st) M') : ga_G E X kc ks pc lv (st) M :=
  g_callSN (As := []) hX hd hn hl hy hm rfl rfl hd' hw hc hs k
theorem g_V1 (hX : ga_B E d y cc nL mc ms X) {a ci : Nat} {v1 : Value} {r : vw_C} {fs : List Value} (hd : decode cc pc = .ok (.invokevirtual idx, 3)) (hn : pc + 3 = nx) (hl : Cond.methodLink y.cls idx y' ∈ ga_T) (hy : ga_Yv y' cc' nL' rt' 1) (hm : ga_Mt E d' y' cc' nL' rt' mc' ms' (.ref a :: [v1]) M Post) (ha : a < M.1) (hg : ga_get M a = .inr (ci, fs)) (hr : vwCl[ci]? = some r) (hrn : r.1 = y'.cls) (hd' : d' + 1 ≤ d) (hw : Nat.ble (ga_wd st) 8 = true) (hc : kc + mc' ≤ mc) (hs : ks + ms' ≤ ms) (k : ∀ (r : Option Value) (M' : ga_M), Post r M' → ga_G E X (kc + mc') (ks + ms') nx lv (ga_pu r st) M') : ga_G E X kc ks pc lv (v1 :: .ref a :: st) M :=
  g_callV (As := [v1]) hX hd hn hl hy hm rfl ha hg hr hrn rfl hd' hw hc hs k
theorem g_I1 (hX : ga_B E d y cc nL mc ms X) {a : Nat} {v1 : Value} (hd : decode cc pc = .ok (.invokespecial idx, 3)) (hn : pc + 3 = nx) (hl : Cond.methodLink y.cls idx y' ∈ ga_T) (hy : ga_Yi y' cc' nL' 1) (hm : ga_Mt E d' y' cc' nL' none mc' ms' (.ref a :: [v1]) M Post) (hd' : d' + 1 ≤ d) (hw : Nat.ble (ga_wd st) 8 = true) (hc : kc + mc' ≤ mc) (hs : ks + ms' ≤ ms) (k : ∀ (r : Option Value) (M' : ga_M), Post r M' → ga_G E X (kc + mc') (ks + ms') nx lv (ga_pu r st) M') : ga_G E X kc ks pc lv (v1 :: .ref a :: st) M :=
  g_callI (As := [v1]) hX hd hn hl hy hm rfl rfl hd' hw hc hs k
theorem g_IN1 (hX : ga_B E d y cc nL mc ms X) {a : Nat} {v1 : Value} {host : String} (hd : decode cc pc = .ok (.invokespecial idx, 3)) (hn : pc + 3 = nx) (hl : (y.cls, idx, y', host) ∈ ga_nest) (hy : ga_Yi y' cc' nL' 1) (hm : ga_Mt E d' y' cc' nL' none mc' ms' (.ref a :: [v1]) M Post) (hd' : d' + 1 ≤ d) (hw : Nat.ble (ga_wd st) 8 = true) (hc : kc + mc' ≤ mc) (hs : ks + ms' ≤ ms) (k : ∀ (r : Option Value) (M' : ga_M), Post r M' → ga_G E X (kc + mc') (ks + ms') nx lv (ga_pu r st) M') : ga_G E X kc ks pc lv (v1 :: .ref a :: st) M :=
  g_callIN (As := [v1]) hX hd hn hl hy hm rfl rfl hd' hw hc hs k
theorem g_S1 (hX : ga_B E d y cc nL mc ms X) {v1 : Value} (hd : decode cc pc = .ok (.invokestatic idx, 3)) (hn : pc + 3 = nx) (hl : Cond.methodLink y.cls idx y' ∈ ga_T) (hy : ga_Ys y' cc' nL' rt' 1) (hm : ga_Mt E d' y' cc' nL' rt' mc' ms' [v1] M Post) (hd' : d' + 1 ≤ d) (hw : Nat.ble (ga_wd st) 8 = true) (hc : kc + mc' ≤ mc) (hs : ks + ms' ≤ ms) (k : ∀ (r : Option Value) (M' : ga_M), Post r M' → ga_G E X (kc + mc') (ks + ms') nx lv (ga_pu r st) M') : ga_G E X kc ks pc lv (v1 :: st) M :=
  g_callS (As := [v1]) hX hd hn hl hy hm rfl rfl hd' hw hc hs k
theorem g_SN1 (hX : ga_B E d y cc nL mc ms X) {v1 : Value} {host : String} (hd : decode cc pc = .ok (.invokestatic idx, 3)) (hn : pc + 3 = nx) (hl : (y.cls, idx, y', host) ∈ ga_nest) (hy : ga_Ys y' cc' nL' rt' 1) (hm : ga_Mt E d' y' cc' nL' rt' mc' ms' [v1] M Post) (hd' : d' + 1 ≤ d) (hw : Nat.ble (ga_wd st) 8 = true) (hc : kc + mc' ≤ mc) (hs : ks + ms' ≤ ms) (k : ∀ (r : Option Value) (M' : ga_M), Post r M' → ga_G E X (kc + mc') (ks + ms') nx lv (ga_pu r st) M') : ga_G E X kc ks pc lv (v1 :: st) M :=
  g_callSN (As := [v1]) hX hd hn hl hy hm rfl rfl hd' hw hc hs k
theorem g_V2 (hX : ga_B E d y cc nL mc ms X) {a ci : Nat} {v1 v2 : Value} {r : vw_C} {fs : List Value} (hd : decode cc pc = .ok (.invokevirtual idx, 3)) (hn : pc + 3 = nx) (hl : Cond.methodLink y.cls idx y' ∈ ga_T) (hy : ga_Yv y' cc' nL' rt' 2) (hm : ga_Mt E d' y' cc' nL' rt' mc' ms' (.ref a :: [v1, v2]) M Post) (ha : a < M.1) (hg : ga_get M a = .inr (ci, fs)) (hr : vwCl[ci]? = some r) (hrn : r.1 = y'.cls) (hd' : d' + 1 ≤ d) (hw : Nat.ble (ga_wd st) 8 = true) (hc : kc + mc' ≤ mc) (hs : ks + ms' ≤ ms) (k : ∀ (r : Option Value) (M' : ga_M), Post r M' → ga_G E X (kc + mc') (ks + ms') nx lv (ga_pu r st) M') : ga_G E X kc ks pc lv (v2 :: v1 :: .ref a :: st) M :=
  g_callV (As := [v1, v2]) hX hd hn hl hy hm rfl ha hg hr hrn rfl hd' hw hc hs k
theorem g_I2 (hX : ga_B E d y cc nL mc ms X) {a : Nat} {v1 v2 : Value} (hd : decode cc pc = .ok (.invokespecial idx, 3)) (hn : pc + 3 = nx) (hl : Cond.methodLink y.cls idx y' ∈ ga_T) (hy : ga_Yi y' cc' nL' 2) (hm : ga_Mt E d' y' cc' nL' none mc' ms' (.ref a :: [v1, v2]) M Post) (hd' : d' + 1 ≤ d) (hw : Nat.ble (ga_wd st) 8 = true) (hc : kc + mc' ≤ mc) (hs : ks + ms' ≤ ms) (k : ∀ (r : Option Value) (M' : ga_M), Post r M' → ga_G E X (kc + mc') (ks + ms') nx lv (ga_pu r st) M') : ga_G E X kc ks pc lv (v2 :: v1 :: .ref a :: st) M :=
  g_callI (As := [v1, v2]) hX hd hn hl hy hm rfl rfl hd' hw hc hs k
theorem g_IN2 (hX : ga_B E d y cc nL mc ms X) {a : Nat} {v1 v2 : Value} {host : String} (hd : decode cc pc = .ok (.invokespecial idx, 3)) (hn : pc + 3 = nx) (hl : (y.cls, idx, y', host) ∈ ga_nest) (hy : ga_Yi y' cc' nL' 2) (hm : ga_Mt E d' y' cc' nL' none mc' ms' (.ref a :: [v1, v2]) M Post) (hd' : d' + 1 ≤ d) (hw : Nat.ble (ga_wd st) 8 = true) (hc : kc + mc' ≤ mc) (hs : ks + ms' ≤ ms) (k : ∀ (r : Option Value) (M' : ga_M), Post r M' → ga_G E X (kc + mc') (ks + ms') nx lv (ga_pu r st) M') : ga_G E X kc ks pc lv (v2 :: v1 :: .ref a :: st) M :=
  g_callIN (As := [v1, v2]) hX hd hn hl hy hm rfl rfl hd' hw hc hs k
theorem g_S2 (hX : ga_B E d y cc nL mc ms X) {v1 v2 : Value} (hd : decode cc pc = .ok (.invokestatic idx, 3)) (hn : pc + 3 = nx) (hl : Cond.methodLink y.cls idx y' ∈ ga_T) (hy : ga_Ys y' cc' nL' rt' 2) (hm : ga_Mt E d' y' cc' nL' rt' mc' ms' [v1, v2] M Post) (hd' : d' + 1 ≤ d) (hw : Nat.ble (ga_wd st) 8 = true) (hc : kc + mc' ≤ mc) (hs : ks + ms' ≤ ms) (k : ∀ (r : Option Value) (M' : ga_M), Post r M' → ga_G E X (kc + mc') (ks + ms') nx lv (ga_pu r st) M') : ga_G E X kc ks pc lv (v2 :: v1 :: st) M :=
  g_callS (As := [v1, v2]) hX hd hn hl hy hm rfl rfl hd' hw hc hs k
theorem g_SN2 (hX : ga_B E d y cc nL mc ms X) {v1 v2 : Value} {host : String} (hd : decode cc pc = .ok (.invokestatic idx, 3)) (hn : pc + 3 = nx) (hl : (y.cls, idx, y', host) ∈ ga_nest) (hy : ga_Ys y' cc' nL' rt' 2) (hm : ga_Mt E d' y' cc' nL' rt' mc' ms' [v1, v2] M Post) (hd' : d' + 1 ≤ d) (hw : Nat.ble (ga_wd st) 8 = true) (hc : kc + mc' ≤ mc) (hs : ks + ms' ≤ ms) (k : ∀ (r : Option Value) (M' : ga_M), Post r M' → ga_G E X (kc + mc') (ks + ms') nx lv (ga_pu r st) M') : ga_G E X kc ks pc lv (v2 :: v1 :: st) M :=
  g_callSN (As := [v1, v2]) hX hd hn hl hy hm rfl rfl hd' hw hc hs k
theorem g_V3 (hX : ga_B E d y cc nL mc ms X) {a ci : Nat} {v1 v2 v3 : Value} {r : vw_C} {fs : List Value} (hd : decode cc pc = .ok (.invokevirtual idx, 3)) (hn : pc + 3 = nx) (hl : Cond.methodLink y.cls idx y' ∈ ga_T) (hy : ga_Yv y' cc' nL' rt' 3) (hm : ga_Mt E d' y' cc' nL' rt' mc' ms' (.ref a :: [v1, v2, v3]) M Post) (ha : a < M.1) (hg : ga_get M a = .inr (ci, fs)) (hr : vwCl[ci]? = some r) (hrn : r.1 = y'.cls) (hd' : d' + 1 ≤ d) (hw : Nat.ble (ga_wd st) 8 = true) (hc : kc + mc' ≤ mc) (hs : ks + ms' ≤ ms) (k : ∀ (r : Option Value) (M' : ga_M), Post r M' → ga_G E X (kc + mc') (ks + ms') nx lv (ga_pu r st) M') : ga_G E X kc ks pc lv (v3 :: v2 :: v1 :: .ref a :: st) M :=
  g_callV (As := [v1, v2, v3]) hX hd hn hl hy hm rfl ha hg hr hrn rfl hd' hw hc hs k
theorem g_I3 (hX : ga_B E d y cc nL mc ms X) {a : Nat} {v1 v2 v3 : Value} (hd : decode cc pc = .ok (.invokespecial idx, 3)) (hn : pc + 3 = nx) (hl : Cond.methodLink y.cls idx y' ∈ ga_T) (hy : ga_Yi y' cc' nL' 3) (hm : ga_Mt E d' y' cc' nL' none mc' ms' (.ref a :: [v1, v2, v3]) M Post) (hd' : d' + 1 ≤ d) (hw : Nat.ble (ga_wd st) 8 = true) (hc : kc + mc' ≤ mc) (hs : ks + ms' ≤ ms) (k : ∀ (r : Option Value) (M' : ga_M), Post r M' → ga_G E X (kc + mc') (ks + ms') nx lv (ga_pu r st) M') : ga_G E X kc ks pc lv (v3 :: v2 :: v1 :: .ref a :: st) M :=
  g_callI (As := [v1, v2, v3]) hX hd hn hl hy hm rfl rfl hd' hw hc hs k
theorem g_IN3 (hX : ga_B E d y cc nL mc ms X) {a : Nat} {v1 v2 v3 : Value} {host : String} (hd : decode cc pc = .ok (.invokespecial idx, 3)) (hn : pc + 3 = nx) (hl : (y.cls, idx, y', host) ∈ ga_nest) (hy : ga_Yi y' cc' nL' 3) (hm : ga_Mt E d' y' cc' nL' none mc' ms' (.ref a :: [v1, v2, v3]) M Post) (hd' : d' + 1 ≤ d) (hw : Nat.ble (ga_wd st) 8 = true) (hc : kc + mc' ≤ mc) (hs : ks + ms' ≤ ms) (k : ∀ (r : Option Value) (M' : ga_M), Post r M' → ga_G E X (kc + mc') (ks + ms') nx lv (ga_pu r st) M') : ga_G E X kc ks pc lv (v3 :: v2 :: v1 :: .ref a :: st) M :=
  g_callIN (As := [v1, v2, v3]) hX hd hn hl hy hm rfl rfl hd' hw hc hs k
theorem g_S3 (hX : ga_B E d y cc nL mc ms X) {v1 v2 v3 : Value} (hd : decode cc pc = .ok (.invokestatic idx, 3)) (hn : pc + 3 = nx) (hl : Cond.methodLink y.cls idx y' ∈ ga_T) (hy : ga_Ys y' cc' nL' rt' 3) (hm : ga_Mt E d' y' cc' nL' rt' mc' ms' [v1, v2, v3] M Post) (hd' : d' + 1 ≤ d) (hw : Nat.ble (ga_wd st) 8 = true) (hc : kc + mc' ≤ mc) (hs : ks + ms' ≤ ms) (k : ∀ (r : Option Value) (M' : ga_M), Post r M' → ga_G E X (kc + mc') (ks + ms') nx lv (ga_pu r st) M') : ga_G E X kc ks pc lv (v3 :: v2 :: v1 :: st) M :=
  g_callS (As := [v1, v2, v3]) hX hd hn hl hy hm rfl rfl hd' hw hc hs k
theorem g_SN3 (hX : ga_B E d y cc nL mc ms X) {v1 v2 v3 : Value} {host : String} (hd : decode cc pc = .ok (.invokestatic idx, 3)) (hn : pc + 3 = nx) (hl : (y.cls, idx, y', host) ∈ ga_nest) (hy : ga_Ys y' cc' nL' rt' 3) (hm : ga_Mt E d' y' cc' nL' rt' mc' ms' [v1, v2, v3] M Post) (hd' : d' + 1 ≤ d) (hw : Nat.ble (ga_wd st) 8 = true) (hc : kc + mc' ≤ mc) (hs : ks + ms' ≤ ms) (k : ∀ (r : Option Value) (M' : ga_M), Post r M' → ga_G E X (kc + mc') (ks + ms') nx lv (ga_pu r st) M') : ga_G E X kc ks pc lv (v3 :: v2 :: v1 :: st) M :=
  g_callSN (As := [v1, v2, v3]) hX hd hn hl hy hm rfl rfl hd' hw hc hs k
theorem g_V4 (hX : ga_B E d y cc nL mc ms X) {a ci : Nat} {v1 v2 v3 v4 : Value} {r : vw_C} {fs : List Value} (hd : decode cc pc = .ok (.invokevirtual idx, 3)) (hn : pc + 3 = nx) (hl : Cond.methodLink y.cls idx y' ∈ ga_T) (hy : ga_Yv y' cc' nL' rt' 4) (hm : ga_Mt E d' y' cc' nL' rt' mc' ms' (.ref a :: [v1, v2, v3, v4]) M Post) (ha : a < M.1) (hg : ga_get M a = .inr (ci, fs)) (hr : vwCl[ci]? = some r) (hrn : r.1 = y'.cls) (hd' : d' + 1 ≤ d) (hw : Nat.ble (ga_wd st) 8 = true) (hc : kc + mc' ≤ mc) (hs : ks + ms' ≤ ms) (k : ∀ (r : Option Value) (M' : ga_M), Post r M' → ga_G E X (kc + mc') (ks + ms') nx lv (ga_pu r st) M') : ga_G E X kc ks pc lv (v4 :: v3 :: v2 :: v1 :: .ref a :: st) M :=
  g_callV (As := [v1, v2, v3, v4]) hX hd hn hl hy hm rfl ha hg hr hrn rfl hd' hw hc hs k
theorem g_I4 (hX : ga_B E d y cc nL mc ms X) {a : Nat} {v1 v2 v3 v4 : Value} (hd : decode cc pc = .ok (.invokespecial idx, 3)) (hn : pc + 3 = nx) (hl : Cond.methodLink y.cls idx y' ∈ ga_T) (hy : ga_Yi y' cc' nL' 4) (hm : ga_Mt E d' y' cc' nL' none mc' ms' (.ref a :: [v1, v2, v3, v4]) M Post) (hd' : d' + 1 ≤ d) (hw : Nat.ble (ga_wd st) 8 = true) (hc : kc + mc' ≤ mc) (hs : ks + ms' ≤ ms) (k : ∀ (r : Option Value) (M' : ga_M), Post r M' → ga_G E X (kc + mc') (ks + ms') nx lv (ga_pu r st) M') : ga_G E X kc ks pc lv (v4 :: v3 :: v2 :: v1 :: .ref a :: st) M :=
  g_callI (As := [v1, v2, v3, v4]) hX hd hn hl hy hm rfl rfl hd' hw hc hs k
theorem g_IN4 (hX : ga_B E d y cc nL mc ms X) {a : Nat} {v1 v2 v3 v4 : Value} {host : String} (hd : decode cc pc = .ok (.invokespecial idx, 3)) (hn : pc + 3 = nx) (hl : (y.cls, idx, y', host) ∈ ga_nest) (hy : ga_Yi y' cc' nL' 4) (hm : ga_Mt E d' y' cc' nL' none mc' ms' (.ref a :: [v1, v2, v3, v4]) M Post) (hd' : d' + 1 ≤ d) (hw : Nat.ble (ga_wd st) 8 = true) (hc : kc + mc' ≤ mc) (hs : ks + ms' ≤ ms) (k : ∀ (r : Option Value) (M' : ga_M), Post r M' → ga_G E X (kc + mc') (ks + ms') nx lv (ga_pu r st) M') : ga_G E X kc ks pc lv (v4 :: v3 :: v2 :: v1 :: .ref a :: st) M :=
  g_callIN (As := [v1, v2, v3, v4]) hX hd hn hl hy hm rfl rfl hd' hw hc hs k
theorem g_S4 (hX : ga_B E d y cc nL mc ms X) {v1 v2 v3 v4 : Value} (hd : decode cc pc = .ok (.invokestatic idx, 3)) (hn : pc + 3 = nx) (hl : Cond.methodLink y.cls idx y' ∈ ga_T) (hy : ga_Ys y' cc' nL' rt' 4) (hm : ga_Mt E d' y' cc' nL' rt' mc' ms' [v1, v2, v3, v4] M Post) (hd' : d' + 1 ≤ d) (hw : Nat.ble (ga_wd st) 8 = true) (hc : kc + mc' ≤ mc) (hs : ks + ms' ≤ ms) (k : ∀ (r : Option Value) (M' : ga_M), Post r M' → ga_G E X (kc + mc') (ks + ms') nx lv (ga_pu r st) M') : ga_G E X kc ks pc lv (v4 :: v3 :: v2 :: v1 :: st) M :=
  g_callS (As := [v1, v2, v3, v4]) hX hd hn hl hy hm rfl rfl hd' hw hc hs k
theorem g_SN4 (hX : ga_B E d y cc nL mc ms X) {v1 v2 v3 v4 : Value} {host : String} (hd : decode cc pc = .ok (.invokestatic idx, 3)) (hn : pc + 3 = nx) (hl : (y.cls, idx, y', host) ∈ ga_nest) (hy : ga_Ys y' cc' nL' rt' 4) (hm : ga_Mt E d' y' cc' nL' rt' mc' ms' [v1, v2, v3, v4] M Post) (hd' : d' + 1 ≤ d) (hw : Nat.ble (ga_wd st) 8 = true) (hc : kc + mc' ≤ mc) (hs : ks + ms' ≤ ms) (k : ∀ (r : Option Value) (M' : ga_M), Post r M' → ga_G E X (kc + mc') (ks + ms') nx lv (ga_pu r st) M') : ga_G E X kc ks pc lv (v4 :: v3 :: v2 :: v1 :: st) M :=
  g_callSN (As := [v1, v2, v3, v4]) hX hd hn hl hy hm rfl rfl hd' hw hc hs k
theorem g_V5 (hX : ga_B E d y cc nL mc ms X) {a ci : Nat} {v1 v2 v3 v4 v5 : Value} {r : vw_C} {fs : List Value} (hd : decode cc pc = .ok (.invokevirtual idx, 3)) (hn : pc + 3 = nx) (hl : Cond.methodLink y.cls idx y' ∈ ga_T) (hy : ga_Yv y' cc' nL' rt' 5) (hm : ga_Mt E d' y' cc' nL' rt' mc' ms' (.ref a :: [v1, v2, v3, v4, v5]) M Post) (ha : a < M.1) (hg : ga_get M a = .inr (ci, fs)) (hr : vwCl[ci]? = some r) (hrn : r.1 = y'.cls) (hd' : d' + 1 ≤ d) (hw : Nat.ble (ga_wd st) 8 = true) (hc : kc + mc' ≤ mc) (hs : ks + ms' ≤ ms) (k : ∀ (r : Option Value) (M' : ga_M), Post r M' → ga_G E X (kc + mc') (ks + ms') nx lv (ga_pu r st) M') : ga_G E X kc ks pc lv (v5 :: v4 :: v3 :: v2 :: v1 :: .ref a :: st) M :=
  g_callV (As := [v1, v2, v3, v4, v5]) hX hd hn hl hy hm rfl ha hg hr hrn rfl hd' hw hc hs k
theorem g_I5 (hX : ga_B E d y cc nL mc ms X) {a : Nat} {v1 v2 v3 v4 v5 : Value} (hd : decode cc pc = .ok (.invokespecial idx, 3)) (hn : pc + 3 = nx) (hl : Cond.methodLink y.cls idx y' ∈ ga_T) (hy : ga_Yi y' cc' nL' 5) (hm : ga_Mt E d' y' cc' nL' none mc' ms' (.ref a :: [v1, v2, v3, v4, v5]) M Post) (hd' : d' + 1 ≤ d) (hw : Nat.ble (ga_wd st) 8 = true) (hc : kc + mc' ≤ mc) (hs : ks + ms' ≤ ms) (k : ∀ (r : Option Value) (M' : ga_M), Post r M' → ga_G E X (kc + mc') (ks + ms') nx lv (ga_pu r st) M') : ga_G E X kc ks pc lv (v5 :: v4 :: v3 :: v2 :: v1 :: .ref a :: st) M :=
  g_callI (As := [v1, v2, v3, v4, v5]) hX hd hn hl hy hm rfl rfl hd' hw hc hs k
theorem g_IN5 (hX : ga_B E d y cc nL mc ms X) {a : Nat} {v1 v2 v3 v4 v5 : Value} {host : String} (hd : decode cc pc = .ok (.invokespecial idx, 3)) (hn : pc + 3 = nx) (hl : (y.cls, idx, y', host) ∈ ga_nest) (hy : ga_Yi y' cc' nL' 5) (hm : ga_Mt E d' y' cc' nL' none mc' ms' (.ref a :: [v1, v2, v3, v4, v5]) M Post) (hd' : d' + 1 ≤ d) (hw : Nat.ble (ga_wd st) 8 = true) (hc : kc + mc' ≤ mc) (hs : ks + ms' ≤ ms) (k : ∀ (r : Option Value) (M' : ga_M), Post r M' → ga_G E X (kc + mc') (ks + ms') nx lv (ga_pu r st) M') : ga_G E X kc ks pc lv (v5 :: v4 :: v3 :: v2 :: v1 :: .ref a :: st) M :=
  g_callIN (As := [v1, v2, v3, v4, v5]) hX hd hn hl hy hm rfl rfl hd' hw hc hs k
theorem g_S5 (hX : ga_B E d y cc nL mc ms X) {v1 v2 v3 v4 v5 : Value} (hd : decode cc pc = .ok (.invokestatic idx, 3)) (hn : pc + 3 = nx) (hl : Cond.methodLink y.cls idx y' ∈ ga_T) (hy : ga_Ys y' cc' nL' rt' 5) (hm : ga_Mt E d' y' cc' nL' rt' mc' ms' [v1, v2, v3, v4, v5] M Post) (hd' : d' + 1 ≤ d) (hw : Nat.ble (ga_wd st) 8 = true) (hc : kc + mc' ≤ mc) (hs : ks + ms' ≤ ms) (k : ∀ (r : Option Value) (M' : ga_M), Post r M' → ga_G E X (kc + mc') (ks + ms') nx lv (ga_pu r st) M') : ga_G E X kc ks pc lv (v5 :: v4 :: v3 :: v2 :: v1 :: st) M :=
  g_callS (As := [v1, v2, v3, v4, v5]) hX hd hn hl hy hm rfl rfl hd' hw hc hs k
theorem g_SN5 (hX : ga_B E d y cc nL mc ms X) {v1 v2 v3 v4 v5 : Value} {host : String} (hd : decode cc pc = .ok (.invokestatic idx, 3)) (hn : pc + 3 = nx) (hl : (y.cls, idx, y', host) ∈ ga_nest) (hy : ga_Ys y' cc' nL' rt' 5) (hm : ga_Mt E d' y' cc' nL' rt' mc' ms' [v1, v2, v3, v4, v5] M Post) (hd' : d' + 1 ≤ d) (hw : Nat.ble (ga_wd st) 8 = true) (hc : kc + mc' ≤ mc) (hs : ks + ms' ≤ ms) (k : ∀ (r : Option Value) (M' : ga_M), Post r M' → ga_G E X (kc + mc') (ks + ms') nx lv (ga_pu r st) M') : ga_G E X kc ks pc lv (v5 :: v4 :: v3 :: v2 :: v1 :: st) M :=
  g_callSN (As := [v1, v2, v3, v4, v5]) hX hd hn hl hy hm rfl rfl hd' hw hc hs k
end
