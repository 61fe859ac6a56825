theorem wi_0 : ∀ w ∈ u_ws RX0 TX0 8, w ∈ lw_tbl ∧ goodWord w = true := by decide +kernel
theorem wi_1 : ∀ w ∈ u_ws RX1 TX1 6, w ∈ lw_tbl ∧ goodWord w = true := by decide +kernel
theorem wi_2 : ∀ w ∈ u_ws RX2 TX2 7, w ∈ lw_tbl ∧ goodWord w = true := by decide +kernel
theorem wi_3 : ∀ w ∈ u_ws RX3 TX3 4, w ∈ lw_tbl ∧ goodWord w = true := by decide +kernel
theorem wi_4 : ∀ w ∈ u_ws RX4 TX4 15, w ∈ lw_tbl ∧ goodWord w = true := by decide +kernel
theorem wi_5 : ∀ w ∈ u_ws RX5 TX5 3, w ∈ lw_tbl ∧ goodWord w = true := by decide +kernel
theorem wi_6 : ∀ w ∈ u_ws RX6 TX6 9, w ∈ lw_tbl ∧ goodWord w = true := by decide +kernel
theorem wi_7 : ∀ w ∈ u_ws RX7 TX7 9, w ∈ lw_tbl ∧ goodWord w = true := by decide +kernel
theorem wi_8 : ∀ w ∈ u_ws RX8 TX8 4, w ∈ lw_tbl ∧ goodWord w = true := by decide +kernel
theorem wi_9 : ∀ w ∈ u_ws RX9 TX9 2, w ∈ lw_tbl ∧ goodWord w = true := by decide +kernel
theorem wi_10 : ∀ w ∈ u_ws RX10 TX10 9, w ∈ lw_tbl ∧ goodWord w = true := by decide +kernel
theorem wi_11 : ∀ w ∈ u_ws RX11 TX11 44, w ∈ lw_tbl ∧ goodWord w = true := by decide +kernel
theorem ga_wsin : ∀ (ci : Nat) (r : vw_C), vwCl[ci]? = some r → ∀ w ∈ u_ws r.1 r.2.1 r.2.2, w ∈ ga_T := by
  intro ci r h w hw
  match ci, h with
  | 0, h => cases h; exact ga_in (wi_0 w hw).1 (wi_0 w hw).2
  | 1, h => cases h; exact ga_in (wi_1 w hw).1 (wi_1 w hw).2
  | 2, h => cases h; exact ga_in (wi_2 w hw).1 (wi_2 w hw).2
  | 3, h => cases h; exact ga_in (wi_3 w hw).1 (wi_3 w hw).2
  | 4, h => cases h; exact ga_in (wi_4 w hw).1 (wi_4 w hw).2
  | 5, h => cases h; exact ga_in (wi_5 w hw).1 (wi_5 w hw).2
  | 6, h => cases h; exact ga_in (wi_6 w hw).1 (wi_6 w hw).2
  | 7, h => cases h; exact ga_in (wi_7 w hw).1 (wi_7 w hw).2
  | 8, h => cases h; exact ga_in (wi_8 w hw).1 (wi_8 w hw).2
  | 9, h => cases h; exact ga_in (wi_9 w hw).1 (wi_9 w hw).2
  | 10, h => cases h; exact ga_in (wi_10 w hw).1 (wi_10 w hw).2
  | 11, h => cases h; exact ga_in (wi_11 w hw).1 (wi_11 w hw).2
  | k + 12, h => simp [vwCl] at h
theorem ga_cls : ∀ (ci : Nat) (r : vw_C), vwCl[ci]? = some r → ∃ ty0 : Nat → FieldType, (∀ k, k < r.2.2 → parseFieldDescriptor (r.2.1 k).2.2.1 = some (ty0 k)) ∧ ∀ a, a < r.2.2 → ∀ b, b < r.2.2 → a ≠ b → (r.2.1 a).2.1 ≠ (r.2.1 b).2.1 := by
  intro ci r h
  match ci, h with
  | 0, h => cases h; exact ⟨tyX0, tyX0_ok, nmX0⟩
  | 1, h => cases h; exact ⟨tyX1, tyX1_ok, nmX1⟩
  | 2, h => cases h; exact ⟨tyX2, tyX2_ok, nmX2⟩
  | 3, h => cases h; exact ⟨tyX3, tyX3_ok, nmX3⟩
  | 4, h => cases h; exact ⟨tyX4, tyX4_ok, nmX4⟩
  | 5, h => cases h; exact ⟨tyX5, tyX5_ok, nmX5⟩
  | 6, h => cases h; exact ⟨tyX6, tyX6_ok, nmX6⟩
  | 7, h => cases h; exact ⟨tyX7, tyX7_ok, nmX7⟩
  | 8, h => cases h; exact ⟨tyX8, tyX8_ok, nmX8⟩
  | 9, h => cases h; exact ⟨tyX9, tyX9_ok, nmX9⟩
  | 10, h => cases h; exact ⟨tyX10, tyX10_ok, nmX10⟩
  | 11, h => cases h; exact ⟨tyX11, tyX11_ok, nmX11⟩
  | k + 12, h => simp [vwCl] at h
theorem ga_one {D : va_G} {q : Nat × va_E} {H : Heap} (h : va_at D vwCl q H) : va_P D vwCl [q] H := fun k q' hk => by
  cases k with
  | zero => cases hk; exact h
  | succ n => simp at hk
def ga_rf (r : Option Nat) : Value := match r with
  | none => .null
  | some a => .ref a
theorem ga_rf_v (E : ga_E) (r : Option Nat) : va_rf (r.map E.2.1) = ga_v E (ga_rf r) := by cases r <;> rfl
/-- a place of an array -/
def ga_ix (i : Int32) (n j : Nat) : Prop := vp_in i n ∧ i.toNatClampNeg = j
theorem ga_ix_of {i : Int32} {n j : Nat} (h : i = nI j) (hj : j < n) (hn : n < 2147483648) : ga_ix i n j := by
  subst h; exact ⟨vp_in_nI hj hn, nI_clamp (by omega)⟩
def ga_F (own : String) (idx ci k : Nat) : Prop := ∃ r : vw_C, vwCl[ci]? = some r ∧ k < r.2.2 ∧ Cond.fieldLink own idx (r.2.1 k).1 (r.2.1 k).2.1 (r.2.1 k).2.2.1 ∈ ga_T
def ga_FP (own : String) (idx ci k : Nat) (ty : FieldType) (fin : Bool) : Prop := ∃ r : vw_C, vwCl[ci]? = some r ∧ k < r.2.2 ∧ Cond.fieldLink own idx (r.2.1 k).1 (r.2.1 k).2.1 (r.2.1 k).2.2.1 ∈ ga_T ∧ (r.2.1 k).2.2.2 = fin ∧ parseFieldDescriptor (r.2.1 k).2.2.1 = some ty ∧ (fin = true → (r.2.1 k).1 = own)
theorem ga_dn {n a : Nat} (h : 106 ≤ n) (ha : Nat.blt a 106 = true) : a < n := Nat.lt_of_lt_of_le (Nat.blt_eq.mp ha) h
section
variable {E : ga_E} {X : ga_X} {d nL mc ms kc ks pc nx : Nat} {y : MethodName} {cc : ByteArray} {lv : List (Option Value)} {st : List Value} {M : ga_M}
theorem g_getfield (hX : ga_B E d y cc nL mc ms X) {idx ci kf a : Nat} {fs : List Value} {v : Value} (hd : decode cc pc = .ok (.getfield idx, 3)) (hn : pc + 3 = nx) (hf : ga_F y.cls idx ci kf) (ha : a < M.1) (hg : ga_get M a = .inr (ci, fs)) (hv : fs[kf]? = some v) (k : ga_G E X kc ks nx lv (v :: st) M) : ga_G E X kc ks pc lv (.ref a :: st) M := by
  subst hn
  obtain ⟨r, h1, h2, h3⟩ := hf
  intro H locs ls hR hl hS
  have hat := hR.2.2.2 a ha
  rw [hg] at hat
  exact va_get (D := E.2.2.1) (C := r.1) (T := r.2.1) (N := r.2.2) hX.1 hX.2.1 hX.2.2.2.2.1 (ga_wsin ci r h1) hX.2.2.2.1 hX.2.2.2.2.2.2.2.1.1 (ga_one hat) 0 (ci := ci) (fs := fs.map (ga_v E)) rfl h1 kf h2 (hX.2.2.2.2.1 _ h3) (fun _ h => h) (v := ga_v E v) (by rw [List.getElem?_map, hv]; rfl) hd (k H locs ls hR hl hS)
theorem g_putfield (hX : ga_B E d y cc nL mc ms X) {idx ci kf a : Nat} {fs : List Value} {v : Value} {ty : FieldType} (hd : decode cc pc = .ok (.putfield idx, 3)) (hn : pc + 3 = nx) (hf : ga_FP y.cls idx ci kf ty false) (ha : a < M.1) (hg : ga_get M a = .inr (ci, fs)) (hv1 : narrow ty (ga_v E v) = ga_v E v) (hv2 : fits ty (ga_v E v) = true) (hl0 : Nat.blt kf fs.length = true)
    (k : ga_G E X kc ks nx lv st (ga_put M a (.inr (ci, fs.set kf v)))) : ga_G E X kc ks pc lv (v :: .ref a :: st) M := by
  subst hn
  obtain ⟨r, h1, h2, h3, hfin, hty, -⟩ := hf
  obtain ⟨ty0, hty0, hnm⟩ := ga_cls ci r h1
  have hl : kf < fs.length := Nat.blt_eq.mp hl0
  have hts := hX.2.2.2.2.1
  have hK := hX.2.2.2.2.2.2.2.1.1
  have hap := va_apart (own := y.cls) (C := r.1) (T := r.2.1) (N := r.2.2) hts (ga_wsin ci r h1) ty0 hty0 hnm hK h1
  intro H locs ls hR hl2 hS
  have hat := hR.2.2.2 a ha
  rw [hg] at hat
  obtain ⟨r', g1, cell, q1, q2, q3, q4⟩ := hat
  have hr : r' = r := Option.some.inj (g1.symm.trans h1)
  subst hr
  obtain ⟨hSl, hfc, kC, hkC, hkind⟩ := hK.1 ci _ h1
  obtain ⟨cf, kff, fi, f, hi, hsl⟩ := hSl kf h2
  have hlay := hts _ (ga_wsin ci r' h1 _ (u_in_lay h2))
  unfold u_lay at hlay
  rw [if_neg (by rw [hfin]; decide)] at hlay
  have hst := (u_facts hfc hkC (u_lays hts (ga_wsin ci r' h1) h2) hi).1
  have h6 := u_store hfc hkC hkind hlay hi hty hv1 hv2
  refine W.putK hX.1 hX.2.1 (f := f) ⟨hX.2.2.2.1, hts _ h3, ⟨_, _, _, hi⟩, hst⟩ (by rw [q2]; exact h6) q1 q3 (by rw [hsl]; exact k2_hasslot (q4 kf h2)) rfl rfl hd fun H' e1 e2 e3 => ?_
  rw [hsl] at e1 ⊢
  refine k H' _ ls (hR.put hX.2.2.2.2.2.2.2.2.1 ha e2 e3 ?_) hl2 (hS.put e2 e3 (hX.2.2.2.2.2.2.2.2.1.2 a))
  refine ⟨r', h1, t_OB.to (V := updV (vp_V (fs.map (ga_v E))) kf (ga_v E v)) ⟨_, e1, q2, q3, t_set q4 hap h2 (ga_v E v)⟩ (fun j _ => ?_)⟩
  rw [vp_updV_set (by rw [List.length_map]; exact hl), List.map_set]
theorem g_putfieldF (hX : ga_B E d y cc nL mc ms X) (hin2 : y.name = "<init>") {idx ci kf a : Nat} {fs : List Value} {v : Value} {ty : FieldType} (hd : decode cc pc = .ok (.putfield idx, 3)) (hn : pc + 3 = nx) (hf : ga_FP y.cls idx ci kf ty true) (ha : a < M.1) (hg : ga_get M a = .inr (ci, fs)) (hv1 : narrow ty (ga_v E v) = ga_v E v) (hv2 : fits ty (ga_v E v) = true) (hl0 : Nat.blt kf fs.length = true)
    (k : ga_G E X kc ks nx lv st (ga_put M a (.inr (ci, fs.set kf v)))) : ga_G E X kc ks pc lv (v :: .ref a :: st) M := by
  subst hn
  obtain ⟨r, h1, h2, h3, hfin, hty, hdecl⟩ := hf
  obtain ⟨ty0, hty0, hnm⟩ := ga_cls ci r h1
  have hl : kf < fs.length := Nat.blt_eq.mp hl0
  have hts := hX.2.2.2.2.1
  have hK := hX.2.2.2.2.2.2.2.1.1
  have hown := hX.2.2.2.1
  have hap := va_apart (own := y.cls) (C := r.1) (T := r.2.1) (N := r.2.2) hts (ga_wsin ci r h1) ty0 hty0 hnm hK h1
  intro H locs ls hR hl2 hS
  have hat := hR.2.2.2 a ha
  rw [hg] at hat
  obtain ⟨r', g1, cell, q1, q2, q3, q4⟩ := hat
  have hr : r' = r := Option.some.inj (g1.symm.trans h1)
  subst hr
  obtain ⟨hSl, hfc, kC, hkC, hkind⟩ := hK.1 ci _ h1
  obtain ⟨cf, kff, fi, f, hi, hsl⟩ := hSl kf h2
  have hlay := hts _ (ga_wsin ci r' h1 _ (u_in_lay h2))
  unfold u_lay at hlay
  rw [if_pos hfin] at hlay
  have hst := (u_facts hfc hkC (u_lays hts (ga_wsin ci r' h1) h2) hi).1
  have hcf : X.2.2.2.2.2.1.cls = cf := by
    obtain ⟨_, _, c', _, _, _, -, -, hf', -, -, -, hown2, -⟩ := Cond.laysFinal_spec hlay
    have e1 : c' = cf := by have := hi.symm.trans hf'; simp at this; exact this.1.symm
    rw [hdecl rfl] at hown2
    rw [← e1]; exact Option.some.inj (hown.symm.trans hown2)
  have h6 := u_fits hfc hkC hkind (Or.inr hlay) hi hty hv1 hv2
  refine W.putFinK hX.1 hX.2.1 hown (hts _ h3) hi hst hcf (hX.2.2.2.2.2.2.1.trans hin2) (by rw [q2]; exact h6) q1 q3 (by rw [hsl]; exact k2_hasslot (q4 kf h2)) rfl rfl hd fun H' e1 e2 e3 => ?_
  rw [hsl] at e1 ⊢
  refine k H' _ ls (hR.put hX.2.2.2.2.2.2.2.2.1 ha e2 e3 ?_) hl2 (hS.put e2 e3 (hX.2.2.2.2.2.2.2.2.1.2 a))
  refine ⟨r', h1, t_OB.to (V := updV (vp_V (fs.map (ga_v E))) kf (ga_v E v)) ⟨_, e1, q2, q3, t_set q4 hap h2 (ga_v E v)⟩ (fun j _ => ?_)⟩
  rw [vp_updV_set (by rw [List.length_map]; exact hl), List.map_set]
theorem g_iaload (hX : ga_B E d y cc nL mc ms X) {a n j : Nat} {i : Int32} {f : Nat → Int32} (hd : decode cc pc = .ok (.iaload, 1)) (hn : pc + 1 = nx) (ha : a < M.1) (hg : ga_get M a = .inl (0, n, .inl f)) (hi : ga_ix i n j) (k : ga_G E X kc ks nx lv (.int (f j) :: st) M) : ga_G E X kc ks pc lv (.int i :: .ref a :: st) M := by
  subst hn
  obtain ⟨hin, rfl⟩ := hi
  intro H locs ls hR hl hS
  have hat := hR.2.2.2 a ha
  rw [hg] at hat
  exact va_iald (D := E.2.2.1) (tys := ga_ty E) hX.1 hX.2.1 hX.2.2.2.2.2.2.2.1.1 (ga_one hat) 0 0 rfl rfl hin hd (k H locs ls hR hl hS)
theorem g_laload (hX : ga_B E d y cc nL mc ms X) {a n j : Nat} {i : Int32} {f : Nat → Int64} (hd : decode cc pc = .ok (.laload, 1)) (hn : pc + 1 = nx) (ha : a < M.1) (hg : ga_get M a = .inl (1, n, .inr (.inl f))) (hi : ga_ix i n j) (k : ga_G E X kc ks nx lv (.long (f j) :: st) M) : ga_G E X kc ks pc lv (.int i :: .ref a :: st) M := by
  subst hn
  obtain ⟨hin, rfl⟩ := hi
  intro H locs ls hR hl hS
  have hat := hR.2.2.2 a ha
  rw [hg] at hat
  exact va_lald (D := E.2.2.1) (tys := ga_ty E) hX.1 hX.2.1 hX.2.2.2.2.2.2.2.1.1 (ga_one hat) 0 1 rfl rfl hin hd (k H locs ls hR hl hS)
theorem g_zaload (hX : ga_B E d y cc nL mc ms X) {a n j : Nat} {i : Int32} {f : Nat → Int32} (hd : decode cc pc = .ok (.baload, 1)) (hn : pc + 1 = nx) (ha : a < M.1) (hg : ga_get M a = .inl (2, n, .inl f)) (hi : ga_ix i n j) (k : ga_G E X kc ks nx lv (.int (f j) :: st) M) : ga_G E X kc ks pc lv (.int i :: .ref a :: st) M := by
  subst hn
  obtain ⟨hin, rfl⟩ := hi
  intro H locs ls hR hl hS
  have hat := hR.2.2.2 a ha
  rw [hg] at hat
  exact va_zald (D := E.2.2.1) (tys := ga_ty E) hX.1 hX.2.1 hX.2.2.2.2.2.2.2.1.1 (ga_one hat) 0 2 rfl rfl hin hd (k H locs ls hR hl hS)
theorem g_aaload3 (hX : ga_B E d y cc nL mc ms X) {a n j : Nat} {i : Int32} {f : Nat → Option Nat} (hd : decode cc pc = .ok (.aaload, 1)) (hn : pc + 1 = nx) (ha : a < M.1) (hg : ga_get M a = .inl (3, n, .inr (.inr f))) (hi : ga_ix i n j) (k : ga_G E X kc ks nx lv (ga_rf (f j) :: st) M) : ga_G E X kc ks pc lv (.int i :: .ref a :: st) M := by
  subst hn
  obtain ⟨hin, rfl⟩ := hi
  intro H locs ls hR hl hS
  have hat := hR.2.2.2 a ha
  rw [hg] at hat
  refine va_aldq (D := E.2.2.1) (tys := ga_ty E) hX.1 hX.2.1 hX.2.2.2.2.2.2.2.1.1 (ga_one hat) 0 3 rfl rfl hin hd ?_
  rw [ga_rf_v]
  exact k H locs ls hR hl hS
theorem g_aaload4 (hX : ga_B E d y cc nL mc ms X) {a n j : Nat} {i : Int32} {f : Nat → Option Nat} (hd : decode cc pc = .ok (.aaload, 1)) (hn : pc + 1 = nx) (ha : a < M.1) (hg : ga_get M a = .inl (4, n, .inr (.inr f))) (hi : ga_ix i n j) (k : ga_G E X kc ks nx lv (ga_rf (f j) :: st) M) : ga_G E X kc ks pc lv (.int i :: .ref a :: st) M := by
  subst hn
  obtain ⟨hin, rfl⟩ := hi
  intro H locs ls hR hl hS
  have hat := hR.2.2.2 a ha
  rw [hg] at hat
  refine va_aldq (D := E.2.2.1) (tys := ga_ty E) hX.1 hX.2.1 hX.2.2.2.2.2.2.2.1.1 (ga_one hat) 0 4 rfl rfl hin hd ?_
  rw [ga_rf_v]
  exact k H locs ls hR hl hS
theorem g_iastore (hX : ga_B E d y cc nL mc ms X) {a n j : Nat} {i : Int32} {x : Int32} {f : Nat → Int32} (hd : decode cc pc = .ok (.iastore, 1)) (hn : pc + 1 = nx) (ha : a < M.1) (hg : ga_get M a = .inl (0, n, .inl f)) (hi : ga_ix i n j) (k : ga_G E X kc ks nx lv st (ga_put M a (.inl (0, n, .inl (upd f j x))))) : ga_G E X kc ks pc lv (.int x :: .int i :: .ref a :: st) M := by
  subst hn
  obtain ⟨hin, rfl⟩ := hi
  intro H locs ls hR hl hS
  have hat := hR.2.2.2 a ha
  rw [hg] at hat
  have hK := hX.2.2.2.2.2.2.2.1.1
  refine W.iast hX.1 hX.2.1 hat ((hK.2 0 _ rfl).1 n (fun j => .int (f j))) (fun q => by cases q) (by show ¬ (i < 0 ∨ (arrV _ _ _).slots.size ≤ _); rw [arrV_size]; exact hin) rfl rfl hd fun H1 e1 z oq => ?_
  refine k H1 _ ls (hR.put hX.2.2.2.2.2.2.2.2.1 ha z oq ?_) hl (hS.put z oq (hX.2.2.2.2.2.2.2.2.1.2 a))
  show H1[E.2.1 a]? = some (vp_cell _ _)
  rw [e1]
  show some ((vp_cell (E.2.2.2.1 0) (n, .inl f)).setSlot _ _) = some (vp_cell (E.2.2.2.1 0) (n, _))
  rw [vp_cell_i, vp_cell_i, arrV_store]
  congr 2
  funext q
  by_cases hq : q = i.toNatClampNeg
  · subst hq; simp [updV, upd]
  · simp [updV, upd, hq]
theorem g_lastore (hX : ga_B E d y cc nL mc ms X) {a n j : Nat} {i : Int32} {x : Int64} {f : Nat → Int64} (hd : decode cc pc = .ok (.lastore, 1)) (hn : pc + 1 = nx) (ha : a < M.1) (hg : ga_get M a = .inl (1, n, .inr (.inl f))) (hi : ga_ix i n j) (k : ga_G E X kc ks nx lv st (ga_put M a (.inl (1, n, .inr (.inl (vp_updL f j x)))))) : ga_G E X kc ks pc lv (.long x :: .int i :: .ref a :: st) M := by
  subst hn
  obtain ⟨hin, rfl⟩ := hi
  intro H locs ls hR hl hS
  have hat := hR.2.2.2 a ha
  rw [hg] at hat
  have hK := hX.2.2.2.2.2.2.2.1.1
  refine W.last hX.1 hX.2.1 hat ((hK.2 1 _ rfl).1 n (fun j => .long (f j))) (fun q => by cases q) (by show ¬ (i < 0 ∨ (arrV _ _ _).slots.size ≤ _); rw [arrV_size]; exact hin) rfl rfl hd fun H1 e1 z oq => ?_
  refine k H1 _ ls (hR.put hX.2.2.2.2.2.2.2.2.1 ha z oq ?_) hl (hS.put z oq (hX.2.2.2.2.2.2.2.2.1.2 a))
  show H1[E.2.1 a]? = some (vp_cell _ _)
  rw [e1]
  show some ((vp_cell (E.2.2.2.1 1) (n, .inr (.inl f))).setSlot _ _) = some (vp_cell (E.2.2.2.1 1) (n, _))
  rw [vp_cell_l, vp_cell_l, arrV_store]
  congr 2
  funext q
  by_cases hq : q = i.toNatClampNeg
  · subst hq; simp [updV, vp_updL]
  · simp [updV, vp_updL, hq]
theorem g_zastore (hX : ga_B E d y cc nL mc ms X) {a n j : Nat} {i : Int32} {x : Int32} {f : Nat → Int32} (hd : decode cc pc = .ok (.bastore, 1)) (hn : pc + 1 = nx) (ha : a < M.1) (hg : ga_get M a = .inl (2, n, .inl f)) (hi : ga_ix i n j) (hx : narrow .boolean (.int x) = .int x) (k : ga_G E X kc ks nx lv st (ga_put M a (.inl (2, n, .inl (upd f j x))))) : ga_G E X kc ks pc lv (.int x :: .int i :: .ref a :: st) M := by
  subst hn
  obtain ⟨hin, rfl⟩ := hi
  intro H locs ls hR hl hS
  have hat := hR.2.2.2 a ha
  rw [hg] at hat
  have hK := hX.2.2.2.2.2.2.2.1.1
  refine W.zast hX.1 hX.2.1 hat ((hK.2 2 _ rfl).1 n (fun j => .int (f j))) (fun q => by cases q) (by show ¬ (i < 0 ∨ (arrV _ _ _).slots.size ≤ _); rw [arrV_size]; exact hin) rfl rfl hd fun H1 e1 z oq => ?_
  rw [hx] at e1
  refine k H1 _ ls (hR.put hX.2.2.2.2.2.2.2.2.1 ha z oq ?_) hl (hS.put z oq (hX.2.2.2.2.2.2.2.2.1.2 a))
  show H1[E.2.1 a]? = some (vp_cell _ _)
  rw [e1]
  show some ((vp_cell (E.2.2.2.1 2) (n, .inl f)).setSlot _ _) = some (vp_cell (E.2.2.2.1 2) (n, _))
  rw [vp_cell_i, vp_cell_i, arrV_store]
  congr 2
  funext q
  by_cases hq : q = i.toNatClampNeg
  · subst hq; simp [updV, upd]
  · simp [updV, upd, hq]
theorem g_aastore3 (hX : ga_B E d y cc nL mc ms X) {a v n j : Nat} {i : Int32} {fs : List Value} {f : Nat → Option Nat} (hd : decode cc pc = .ok (.aastore, 1)) (hn : pc + 1 = nx) (ha : a < M.1) (hg : ga_get M a = .inl (3, n, .inr (.inr f))) (hv : v < M.1) (hgv : ga_get M v = .inr (7, fs)) (hi : ga_ix i n j) (k : ga_G E X kc ks nx lv st (ga_put M a (.inl (3, n, .inr (.inr (va_up f j (some v))))))) : ga_G E X kc ks pc lv (.ref v :: .int i :: .ref a :: st) M := by
  subst hn
  obtain ⟨hin, rfl⟩ := hi
  intro H locs ls hR hl hS
  have hat := hR.2.2.2 a ha
  rw [hg] at hat
  have hvt := hR.2.2.2 v hv
  rw [hgv] at hvt
  have hK := hX.2.2.2.2.2.2.2.1.1
  have hlt : i.toNatClampNeg < n := Nat.not_le.mp fun q => hin (Or.inr q)
  have h0 : ¬ i < 0 := fun q => hin (Or.inl q)
  obtain ⟨r', hr', cellV, g1, g2, g3, -⟩ := hvt
  have hcls := (hK.1 7 _ rfl).2
  obtain ⟨kA, comp, k1, k2, k3, -⟩ := (hK.2 3 _ rfl).2
  have hcomp : comp = E.2.2.1.1 7 := Option.some.inj (k3.symm.trans hcls.1)
  subst hcomp
  obtain ⟨kC, hkC, -⟩ := hcls.2
  refine W.aast hX.1 hX.2.1 hat (fun q h => by cases h) (fun h => by cases h) k1 k2 rfl hkC ⟨h0, by show _ < (arrV _ _ _).slots.size; rw [arrV_size]; exact hlt⟩ g1 (fun q h => by rw [g3] at h; cases h) (by rw [g2]; exact hkC) (by rw [g2]; exact va_assign hcls) rfl rfl hd fun H1 e1 z oq => ?_
  refine k H1 _ ls (hR.put hX.2.2.2.2.2.2.2.2.1 ha z oq ?_) hl (hS.put z oq (hX.2.2.2.2.2.2.2.2.1.2 a))
  show H1[E.2.1 a]? = some (vp_cell _ _)
  rw [e1]
  show some ((vp_cell (E.2.2.2.1 3) (n, .inr (.inr (.inr (.inr (fun j => (f j).map E.2.1)))))).setSlot _ _) = some (vp_cell (E.2.2.2.1 3) (n, _))
  rw [vp_cell_q, vp_cell_q, arrV_store]
  congr 2
  funext q
  by_cases hq : q = i.toNatClampNeg
  · subst hq; simp [updV, va_up, va_rf]
  · simp [updV, va_up, hq]
theorem g_aastore4 (hX : ga_B E d y cc nL mc ms X) {a v n j : Nat} {i : Int32} {fs : List Value} {f : Nat → Option Nat} (hd : decode cc pc = .ok (.aastore, 1)) (hn : pc + 1 = nx) (ha : a < M.1) (hg : ga_get M a = .inl (4, n, .inr (.inr f))) (hv : v < M.1) (hgv : ga_get M v = .inr (0, fs)) (hi : ga_ix i n j) (k : ga_G E X kc ks nx lv st (ga_put M a (.inl (4, n, .inr (.inr (va_up f j (some v))))))) : ga_G E X kc ks pc lv (.ref v :: .int i :: .ref a :: st) M := by
  subst hn
  obtain ⟨hin, rfl⟩ := hi
  intro H locs ls hR hl hS
  have hat := hR.2.2.2 a ha
  rw [hg] at hat
  have hvt := hR.2.2.2 v hv
  rw [hgv] at hvt
  have hK := hX.2.2.2.2.2.2.2.1.1
  have hlt : i.toNatClampNeg < n := Nat.not_le.mp fun q => hin (Or.inr q)
  have h0 : ¬ i < 0 := fun q => hin (Or.inl q)
  obtain ⟨r', hr', cellV, g1, g2, g3, -⟩ := hvt
  have hcls := (hK.1 0 _ rfl).2
  obtain ⟨kA, comp, k1, k2, k3, -⟩ := (hK.2 4 _ rfl).2
  have hcomp : comp = E.2.2.1.1 0 := Option.some.inj (k3.symm.trans hcls.1)
  subst hcomp
  obtain ⟨kC, hkC, -⟩ := hcls.2
  refine W.aast hX.1 hX.2.1 hat (fun q h => by cases h) (fun h => by cases h) k1 k2 rfl hkC ⟨h0, by show _ < (arrV _ _ _).slots.size; rw [arrV_size]; exact hlt⟩ g1 (fun q h => by rw [g3] at h; cases h) (by rw [g2]; exact hkC) (by rw [g2]; exact va_assign hcls) rfl rfl hd fun H1 e1 z oq => ?_
  refine k H1 _ ls (hR.put hX.2.2.2.2.2.2.2.2.1 ha z oq ?_) hl (hS.put z oq (hX.2.2.2.2.2.2.2.2.1.2 a))
  show H1[E.2.1 a]? = some (vp_cell _ _)
  rw [e1]
  show some ((vp_cell (E.2.2.2.1 4) (n, .inr (.inr (.inr (.inr (fun j => (f j).map E.2.1)))))).setSlot _ _) = some (vp_cell (E.2.2.2.1 4) (n, _))
  rw [vp_cell_q, vp_cell_q, arrV_store]
  congr 2
  funext q
  by_cases hq : q = i.toNatClampNeg
  · subst hq; simp [updV, va_up, va_rf]
  · simp [updV, va_up, hq]
theorem g_arraylength (hX : ga_B E d y cc nL mc ms X) {a n : Nat} {f : Nat → Int32} (hd : decode cc pc = .ok (.arraylength, 1)) (hn : pc + 1 = nx) (ha : a < M.1) (hg : ga_get M a = .inl (0, n, .inl f)) (k : ga_G E X kc ks nx lv (.int (nI n) :: st) M) : ga_G E X kc ks pc lv (.ref a :: st) M := by
  subst hn
  intro H locs ls hR hl hS
  have hat := hR.2.2.2 a ha
  rw [hg] at hat
  exact va_alen (D := E.2.2.1) (tys := ga_ty E) hX.1 hX.2.1 hX.2.2.2.2.2.2.2.1.1 (ga_one hat) 0 rfl (ty := .int) (t0 := 0) rfl rfl hd (k H locs ls hR hl hS)
theorem g_newarray_int (hX : ga_B E d y cc nL mc ms X) {i : Int32} (N : Nat) (hd : decode cc pc = .ok (.newarray .int, 2)) (hn : pc + 2 = nx) (hw : Cond.arrayClass .int ∈ ga_T) (hi : ¬ i < 0) (hN : i.toNatClampNeg = N) (hb : N * componentBytes .int ≤ 536870912) (hc : kc + 1 ≤ mc) (hs : ks + N ≤ ms) (hid : E.2.1 M.1 = E.1 + M.1) (k : ga_G E X (kc + 1) (ks + N) nx lv (.ref M.1 :: st) (ga_new M (.inl (0, N, .inl (fun _ => 0))))) : ga_G E X kc ks pc lv (.int i :: st) M := by
  subst hn
  intro H locs ls hR hl hS
  have hK := hX.2.2.2.2.2.2.2.1.1
  refine va_newaK (atype := .int) hX.1 hX.2.1 (hX.2.2.2.2.1 _ hw) rfl hd rfl hi hN hb (Nat.le_trans hc hX.2.2.2.2.2.2.2.2.2.2.2.1) (Nat.le_trans hs hX.2.2.2.2.2.2.2.2.2.2.2.2) rfl fun H1 cA e1 z1 o1 hAr hNm => ?_
  have hcA : cA = E.2.2.2.1 0 := Option.some.inj (hNm.symm.trans (hK.2 0 _ rfl).2)
  subst hcA
  have hsz : H.size = E.2.1 M.1 := by rw [hid]; exact hR.1
  have k9 := k H1 locs ls (hR.new hX.2.2.2.2.2.2.2.2.1 hid z1 o1 e1) hl ⟨Nat.le_trans hS.1 (by omega), fun x h1 h2 => (o1 x (Nat.lt_of_lt_of_le h1 hS.1)).trans (hS.2.1 x h1 h2), hS.2.2⟩
  rw [hsz]
  exact k9
theorem g_newarray_long (hX : ga_B E d y cc nL mc ms X) {i : Int32} (N : Nat) (hd : decode cc pc = .ok (.newarray .long, 2)) (hn : pc + 2 = nx) (hw : Cond.arrayClass .long ∈ ga_T) (hi : ¬ i < 0) (hN : i.toNatClampNeg = N) (hb : N * componentBytes .long ≤ 536870912) (hc : kc + 1 ≤ mc) (hs : ks + N ≤ ms) (hid : E.2.1 M.1 = E.1 + M.1) (k : ga_G E X (kc + 1) (ks + N) nx lv (.ref M.1 :: st) (ga_new M (.inl (1, N, .inr (.inl (fun _ => 0)))))) : ga_G E X kc ks pc lv (.int i :: st) M := by
  subst hn
  intro H locs ls hR hl hS
  have hK := hX.2.2.2.2.2.2.2.1.1
  refine va_newaK (atype := .long) hX.1 hX.2.1 (hX.2.2.2.2.1 _ hw) rfl hd rfl hi hN hb (Nat.le_trans hc hX.2.2.2.2.2.2.2.2.2.2.2.1) (Nat.le_trans hs hX.2.2.2.2.2.2.2.2.2.2.2.2) rfl fun H1 cA e1 z1 o1 hAr hNm => ?_
  have hcA : cA = E.2.2.2.1 1 := Option.some.inj (hNm.symm.trans (hK.2 1 _ rfl).2)
  subst hcA
  have hsz : H.size = E.2.1 M.1 := by rw [hid]; exact hR.1
  have k9 := k H1 locs ls (hR.new hX.2.2.2.2.2.2.2.2.1 hid z1 o1 e1) hl ⟨Nat.le_trans hS.1 (by omega), fun x h1 h2 => (o1 x (Nat.lt_of_lt_of_le h1 hS.1)).trans (hS.2.1 x h1 h2), hS.2.2⟩
  rw [hsz]
  exact k9
theorem g_newarray_boolean (hX : ga_B E d y cc nL mc ms X) {i : Int32} (N : Nat) (hd : decode cc pc = .ok (.newarray .boolean, 2)) (hn : pc + 2 = nx) (hw : Cond.arrayClass .boolean ∈ ga_T) (hi : ¬ i < 0) (hN : i.toNatClampNeg = N) (hb : N * componentBytes .boolean ≤ 536870912) (hc : kc + 1 ≤ mc) (hs : ks + N ≤ ms) (hid : E.2.1 M.1 = E.1 + M.1) (k : ga_G E X (kc + 1) (ks + N) nx lv (.ref M.1 :: st) (ga_new M (.inl (2, N, .inl (fun _ => 0))))) : ga_G E X kc ks pc lv (.int i :: st) M := by
  subst hn
  intro H locs ls hR hl hS
  have hK := hX.2.2.2.2.2.2.2.1.1
  refine va_newaK (atype := .boolean) hX.1 hX.2.1 (hX.2.2.2.2.1 _ hw) rfl hd rfl hi hN hb (Nat.le_trans hc hX.2.2.2.2.2.2.2.2.2.2.2.1) (Nat.le_trans hs hX.2.2.2.2.2.2.2.2.2.2.2.2) rfl fun H1 cA e1 z1 o1 hAr hNm => ?_
  have hcA : cA = E.2.2.2.1 2 := Option.some.inj (hNm.symm.trans (hK.2 2 _ rfl).2)
  subst hcA
  have hsz : H.size = E.2.1 M.1 := by rw [hid]; exact hR.1
  have k9 := k H1 locs ls (hR.new hX.2.2.2.2.2.2.2.2.1 hid z1 o1 e1) hl ⟨Nat.le_trans hS.1 (by omega), fun x h1 h2 => (o1 x (Nat.lt_of_lt_of_le h1 hS.1)).trans (hS.2.1 x h1 h2), hS.2.2⟩
  rw [hsz]
  exact k9
theorem g_anewarray3 (hX : ga_B E d y cc nL mc ms X) {i : Int32} {idx : Nat} (N : Nat) (hd : decode cc pc = .ok (.anewarray idx, 3)) (hn : pc + 3 = nx) (hw : Cond.classLink y.cls idx "ThreeDays$Sheet" ∈ ga_T) (hi : ¬ i < 0) (hN : i.toNatClampNeg = N) (hb : N * 4 ≤ 536870912) (hc : kc + 1 ≤ mc) (hs : ks + N ≤ ms) (hid : E.2.1 M.1 = E.1 + M.1) (k : ga_G E X (kc + 1) (ks + N) nx lv (.ref M.1 :: st) (ga_new M (.inl (3, N, .inr (.inr (fun _ => none)))))) : ga_G E X kc ks pc lv (.int i :: st) M := by
  subst hn
  subst hN
  intro H locs ls hR hl hS
  have hK := hX.2.2.2.2.2.2.2.1.1
  refine W.anew hX.1 hX.2.1 hX.2.2.2.1 (hX.2.2.2.2.1 _ hw) (va_AO.use hX.2.2.2.2.2.2.2.1.2.2.1) rfl hd rfl hi hb (Nat.le_trans hc hX.2.2.2.2.2.2.2.2.2.2.2.1) (Nat.le_trans hs hX.2.2.2.2.2.2.2.2.2.2.2.2) fun cA kA comp f1 f2 f3 f4 => ?_
  generalize hH1 : H.push ({ cls := cA, slots := Array.replicate i.toNatClampNeg .null, vm := .none } : Cell) = H1
  have z1 : H1.size = H.size + 1 := by rw [← hH1, Array.size_push]
  have e1 : H1[H.size]? = some (arrV cA i.toNatClampNeg (fun _ => .null)) := by rw [← hH1, Array.getElem?_push_size, ← arrV_new]
  have o1 : ∀ q : Nat, q < H.size → H1[q]? = H[q]? := fun q hq => by rw [← hH1, Array.getElem?_push, if_neg (Nat.ne_of_lt hq)]
  obtain ⟨_, _, _, _, _, hNm⟩ := (hK.2 3 _ rfl).2
  have hcA : cA = E.2.2.2.1 3 := Option.some.inj (f1.symm.trans hNm)
  subst hcA
  have hsz : H.size = E.2.1 M.1 := by rw [hid]; exact hR.1
  have k9 := k H1 locs ls (hR.new hX.2.2.2.2.2.2.2.2.1 hid z1 o1 e1) hl ⟨Nat.le_trans hS.1 (by omega), fun x h1 h2 => (o1 x (Nat.lt_of_lt_of_le h1 hS.1)).trans (hS.2.1 x h1 h2), hS.2.2⟩
  rw [hsz]
  exact k9
theorem g_anewarray4 (hX : ga_B E d y cc nL mc ms X) {i : Int32} {idx : Nat} (N : Nat) (hd : decode cc pc = .ok (.anewarray idx, 3)) (hn : pc + 3 = nx) (hw : Cond.classLink y.cls idx "ThreeDays$Act" ∈ ga_T) (hi : ¬ i < 0) (hN : i.toNatClampNeg = N) (hb : N * 4 ≤ 536870912) (hc : kc + 1 ≤ mc) (hs : ks + N ≤ ms) (hid : E.2.1 M.1 = E.1 + M.1) (k : ga_G E X (kc + 1) (ks + N) nx lv (.ref M.1 :: st) (ga_new M (.inl (4, N, .inr (.inr (fun _ => none)))))) : ga_G E X kc ks pc lv (.int i :: st) M := by
  subst hn
  subst hN
  intro H locs ls hR hl hS
  have hK := hX.2.2.2.2.2.2.2.1.1
  refine W.anew hX.1 hX.2.1 hX.2.2.2.1 (hX.2.2.2.2.1 _ hw) (va_AO.use hX.2.2.2.2.2.2.2.1.2.2.2) rfl hd rfl hi hb (Nat.le_trans hc hX.2.2.2.2.2.2.2.2.2.2.2.1) (Nat.le_trans hs hX.2.2.2.2.2.2.2.2.2.2.2.2) fun cA kA comp f1 f2 f3 f4 => ?_
  generalize hH1 : H.push ({ cls := cA, slots := Array.replicate i.toNatClampNeg .null, vm := .none } : Cell) = H1
  have z1 : H1.size = H.size + 1 := by rw [← hH1, Array.size_push]
  have e1 : H1[H.size]? = some (arrV cA i.toNatClampNeg (fun _ => .null)) := by rw [← hH1, Array.getElem?_push_size, ← arrV_new]
  have o1 : ∀ q : Nat, q < H.size → H1[q]? = H[q]? := fun q hq => by rw [← hH1, Array.getElem?_push, if_neg (Nat.ne_of_lt hq)]
  obtain ⟨_, _, _, _, _, hNm⟩ := (hK.2 4 _ rfl).2
  have hcA : cA = E.2.2.2.1 4 := Option.some.inj (f1.symm.trans hNm)
  subst hcA
  have hsz : H.size = E.2.1 M.1 := by rw [hid]; exact hR.1
  have k9 := k H1 locs ls (hR.new hX.2.2.2.2.2.2.2.2.1 hid z1 o1 e1) hl ⟨Nat.le_trans hS.1 (by omega), fun x h1 h2 => (o1 x (Nat.lt_of_lt_of_le h1 hS.1)).trans (hS.2.1 x h1 h2), hS.2.2⟩
  rw [hsz]
  exact k9
theorem g_new (hX : ga_B E d y cc nL mc ms X) {idx ci : Nat} {r : vw_C} (fs : List Value) (hd : decode cc pc = .ok (.new idx, 3)) (hn : pc + 3 = nx) (hr : vwCl[ci]? = some r) (hw : Cond.classLink y.cls idx r.1 ∈ ga_T) (hw2 : Cond.instantiable r.1 r.2.2 ∈ ga_T) (hw3 : Cond.initialized r.1 ∈ ga_T) (hfs : ∀ j, j < r.2.2 → ∃ t, parseFieldDescriptor (r.2.1 j).2.2.1 = some t ∧ defaultValue t = vp_V (fs.map (ga_v E)) j) (hc : kc + 1 ≤ mc) (hs : ks + r.2.2 ≤ ms) (hid : E.2.1 M.1 = E.1 + M.1) (k : ga_G E X (kc + 1) (ks + r.2.2) nx lv (.ref M.1 :: st) (ga_new M (.inr (ci, fs)))) : ga_G E X kc ks pc lv st M := by
  subst hn
  intro H locs ls hR hl hS
  have hts := hX.2.2.2.2.1
  have hK := hX.2.2.2.2.2.2.2.1.1
  obtain ⟨ty0, hty0, hnm⟩ := ga_cls ci r hr
  have hKn := hK.1 ci _ hr
  refine W.newcK hX.1 hX.2.1 hX.2.2.2.1 (hts _ hw) (hts _ hw2) (hts _ hw3) rfl hd (Nat.le_trans hc hX.2.2.2.2.2.2.2.2.2.2.2.1) (Nat.le_trans hs hX.2.2.2.2.2.2.2.2.2.2.2.2) hKn.2.1 rfl fun H1 kC hkC e1 z1 o1 => ?_
  have hsz : H.size = E.2.1 M.1 := by rw [hid]; exact hR.1
  have k9 := k H1 locs ls (hR.new hX.2.2.2.2.2.2.2.2.1 hid z1 o1 ⟨r, hr, (u_born ty0 hts (ga_wsin ci r hr) hKn hkC e1 hty0).to (fun j hj => by
    obtain ⟨t, ht, e⟩ := hfs j hj
    rw [hty0 j hj] at ht
    cases ht
    exact e)⟩) hl ⟨Nat.le_trans hS.1 (by omega), fun x h1 h2 => (o1 x (Nat.lt_of_lt_of_le h1 hS.1)).trans (hS.2.1 x h1 h2), hS.2.2⟩
  have k10 : F0 X.2.2.2.2.2.1 (pc + 3) ls ((Value.ref M.1 :: st).map (ga_v E)) = F0 X.2.2.2.2.2.1 (pc + 3) ls (.ref H.size :: st.map (ga_v E)) := by rw [hsz]; rfl
  rw [k10] at k9
  exact k9
theorem g_objInit (hX : ga_B E d y cc nL mc ms X) {idx a : Nat} (hd : decode cc pc = .ok (.invokespecial idx, 3)) (hn : pc + 3 = nx) (hw : Cond.methodLink y.cls idx Lib.objectInit ∈ ga_T) (hw2 : Cond.instanceMethod Lib.objectInit ∈ ga_T) (hw3 : Cond.code Lib.objectInit ⟨#[0xb1]⟩ 1 none ∈ ga_T) (hfr : 1 ≤ d) (hst : Nat.ble (ga_wd st) 8 = true) (k : ga_G E X kc ks nx lv st M) : ga_G E X kc ks pc lv (.ref a :: st) M := by
  subst hn
  intro H locs ls hR hl hS
  have hts := hX.2.2.2.2.1
  have hsum : ∀ s : List Value, ((s.map (ga_v E)).map fun v => v.category).sum = ga_wd s := by
    intro s
    induction s with
    | nil => rfl
    | cons v t ih => simp only [List.map_cons, List.sum_cons, ga_v_cat, ga_wd]; rw [ih]
  refine W.objInit hX.1 hX.2.1 hX.2.2.2.1 (hts _ hw) (hts _ hw2) (hts _ hw3) rfl hl.1 rfl hd (Nat.le_trans hfr hX.2.2.2.2.2.2.2.2.2.1) ?_ (k H locs ls hR hl hS)
  have h8 : ga_wd st ≤ 8 := Nat.le_of_ble_eq_true hst
  have h60 := hX.2.2.2.2.2.2.2.2.2.2.1
  rw [hsum]
  have : 2 * JFrame.monitorRoom (F0 X.2.2.2.2.2.1 pc ls (List.map (ga_v E) (Value.ref a :: st))) = 0 := by simp [JFrame.monitorRoom]
  omega
end
