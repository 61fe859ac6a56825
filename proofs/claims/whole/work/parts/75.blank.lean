/-! ===== blank objects ===== -/
theorem ga_dl {a n : Nat} (h : Nat.blt a n = true) : a < n := Nat.blt_eq.mp h
abbrev ga_df1 : List Value := [.null, .null, .null, .null, .null, .int 0]
theorem ga_df1_ok (E : ga_E) : ∀ j, j < 6 → ∃ t, parseFieldDescriptor (TX1 j).2.2.1 = some t ∧ defaultValue t = vp_V (ga_df1.map (ga_v E)) j := by
  intro j hj
  refine ⟨tyX1 j, tyX1_ok j hj, ?_⟩
  match j, hj with
  | 0, _ => rfl
  | 1, _ => rfl
  | 2, _ => rfl
  | 3, _ => rfl
  | 4, _ => rfl
  | 5, _ => rfl
abbrev ga_df2 : List Value := [.null, .null, .int 0, .int 0, .int 0, .int 0, .int 0]
theorem ga_df2_ok (E : ga_E) : ∀ j, j < 7 → ∃ t, parseFieldDescriptor (TX2 j).2.2.1 = some t ∧ defaultValue t = vp_V (ga_df2.map (ga_v E)) j := by
  intro j hj
  refine ⟨tyX2 j, tyX2_ok j hj, ?_⟩
  match j, hj with
  | 0, _ => rfl
  | 1, _ => rfl
  | 2, _ => rfl
  | 3, _ => rfl
  | 4, _ => rfl
  | 5, _ => rfl
  | 6, _ => rfl
abbrev ga_df3 : List Value := [.null, .null, .null, .int 0]
theorem ga_df3_ok (E : ga_E) : ∀ j, j < 4 → ∃ t, parseFieldDescriptor (TX3 j).2.2.1 = some t ∧ defaultValue t = vp_V (ga_df3.map (ga_v E)) j := by
  intro j hj
  refine ⟨tyX3 j, tyX3_ok j hj, ?_⟩
  match j, hj with
  | 0, _ => rfl
  | 1, _ => rfl
  | 2, _ => rfl
  | 3, _ => rfl
abbrev ga_df4 : List Value := [.long 0, .long 0, .long 0, .long 0, .long 0, .long 0, .null, .null, .null, .int 0, .int 0, .int 0, .long 0, .int 0, .int 0]
theorem ga_df4_ok (E : ga_E) : ∀ j, j < 15 → ∃ t, parseFieldDescriptor (TX4 j).2.2.1 = some t ∧ defaultValue t = vp_V (ga_df4.map (ga_v E)) j := by
  intro j hj
  refine ⟨tyX4 j, tyX4_ok j hj, ?_⟩
  match j, hj with
  | 0, _ => rfl
  | 1, _ => rfl
  | 2, _ => rfl
  | 3, _ => rfl
  | 4, _ => rfl
  | 5, _ => rfl
  | 6, _ => rfl
  | 7, _ => rfl
  | 8, _ => rfl
  | 9, _ => rfl
  | 10, _ => rfl
  | 11, _ => rfl
  | 12, _ => rfl
  | 13, _ => rfl
  | 14, _ => rfl
abbrev ga_df5 : List Value := [.null, .null, .int 0]
theorem ga_df5_ok (E : ga_E) : ∀ j, j < 3 → ∃ t, parseFieldDescriptor (TX5 j).2.2.1 = some t ∧ defaultValue t = vp_V (ga_df5.map (ga_v E)) j := by
  intro j hj
  refine ⟨tyX5 j, tyX5_ok j hj, ?_⟩
  match j, hj with
  | 0, _ => rfl
  | 1, _ => rfl
  | 2, _ => rfl
abbrev ga_df6 : List Value := [.null, .null, .null, .null, .null, .int 0, .int 0, .int 0, .int 0]
theorem ga_df6_ok (E : ga_E) : ∀ j, j < 9 → ∃ t, parseFieldDescriptor (TX6 j).2.2.1 = some t ∧ defaultValue t = vp_V (ga_df6.map (ga_v E)) j := by
  intro j hj
  refine ⟨tyX6 j, tyX6_ok j hj, ?_⟩
  match j, hj with
  | 0, _ => rfl
  | 1, _ => rfl
  | 2, _ => rfl
  | 3, _ => rfl
  | 4, _ => rfl
  | 5, _ => rfl
  | 6, _ => rfl
  | 7, _ => rfl
  | 8, _ => rfl
abbrev ga_df7 : List Value := [.null, .int 0, .int 0, .int 0, .int 0, .int 0, .int 0, .int 0, .long 0]
theorem ga_df7_ok (E : ga_E) : ∀ j, j < 9 → ∃ t, parseFieldDescriptor (TX7 j).2.2.1 = some t ∧ defaultValue t = vp_V (ga_df7.map (ga_v E)) j := by
  intro j hj
  refine ⟨tyX7 j, tyX7_ok j hj, ?_⟩
  match j, hj with
  | 0, _ => rfl
  | 1, _ => rfl
  | 2, _ => rfl
  | 3, _ => rfl
  | 4, _ => rfl
  | 5, _ => rfl
  | 6, _ => rfl
  | 7, _ => rfl
  | 8, _ => rfl
abbrev ga_df8 : List Value := [.null, .null, .null, .int 0]
theorem ga_df8_ok (E : ga_E) : ∀ j, j < 4 → ∃ t, parseFieldDescriptor (TX8 j).2.2.1 = some t ∧ defaultValue t = vp_V (ga_df8.map (ga_v E)) j := by
  intro j hj
  refine ⟨tyX8 j, tyX8_ok j hj, ?_⟩
  match j, hj with
  | 0, _ => rfl
  | 1, _ => rfl
  | 2, _ => rfl
  | 3, _ => rfl
abbrev ga_df9 : List Value := [.null, .int 0]
theorem ga_df9_ok (E : ga_E) : ∀ j, j < 2 → ∃ t, parseFieldDescriptor (TX9 j).2.2.1 = some t ∧ defaultValue t = vp_V (ga_df9.map (ga_v E)) j := by
  intro j hj
  refine ⟨tyX9 j, tyX9_ok j hj, ?_⟩
  match j, hj with
  | 0, _ => rfl
  | 1, _ => rfl
abbrev ga_df10 : List Value := [.null, .null, .null, .null, .null, .null, .null, .null, .int 0]
theorem ga_df10_ok (E : ga_E) : ∀ j, j < 9 → ∃ t, parseFieldDescriptor (TX10 j).2.2.1 = some t ∧ defaultValue t = vp_V (ga_df10.map (ga_v E)) j := by
  intro j hj
  refine ⟨tyX10 j, tyX10_ok j hj, ?_⟩
  match j, hj with
  | 0, _ => rfl
  | 1, _ => rfl
  | 2, _ => rfl
  | 3, _ => rfl
  | 4, _ => rfl
  | 5, _ => rfl
  | 6, _ => rfl
  | 7, _ => rfl
  | 8, _ => rfl
abbrev ga_df11 : List Value := [.null, .int 0, .int 0, .null, .int 0, .null, .null, .null, .int 0, .int 0, .int 0, .null, .null, .null, .null, .null, .null, .int 0, .null, .null, .int 0, .null, .null, .null, .int 0, .int 0, .int 0, .int 0, .int 0, .int 0, .int 0, .int 0, .null, .null, .null, .null, .null, .null, .null, .int 0, .int 0, .null, .null, .null]
theorem ga_df11_ok (E : ga_E) : ∀ j, j < 44 → ∃ t, parseFieldDescriptor (TX11 j).2.2.1 = some t ∧ defaultValue t = vp_V (ga_df11.map (ga_v E)) j := by
  intro j hj
  refine ⟨tyX11 j, tyX11_ok j hj, ?_⟩
  match j, hj with
  | 0, _ => rfl
  | 1, _ => rfl
  | 2, _ => rfl
  | 3, _ => rfl
  | 4, _ => rfl
  | 5, _ => rfl
  | 6, _ => rfl
  | 7, _ => rfl
  | 8, _ => rfl
  | 9, _ => rfl
  | 10, _ => rfl
  | 11, _ => rfl
  | 12, _ => rfl
  | 13, _ => rfl
  | 14, _ => rfl
  | 15, _ => rfl
  | 16, _ => rfl
  | 17, _ => rfl
  | 18, _ => rfl
  | 19, _ => rfl
  | 20, _ => rfl
  | 21, _ => rfl
  | 22, _ => rfl
  | 23, _ => rfl
  | 24, _ => rfl
  | 25, _ => rfl
  | 26, _ => rfl
  | 27, _ => rfl
  | 28, _ => rfl
  | 29, _ => rfl
  | 30, _ => rfl
  | 31, _ => rfl
  | 32, _ => rfl
  | 33, _ => rfl
  | 34, _ => rfl
  | 35, _ => rfl
  | 36, _ => rfl
  | 37, _ => rfl
  | 38, _ => rfl
  | 39, _ => rfl
  | 40, _ => rfl
  | 41, _ => rfl
  | 42, _ => rfl
  | 43, _ => rfl
  | j + 44, h => exact absurd h (by omega)
/-- an array is known by what stands within its length -/
theorem g_ext {E : ga_E} {X : ga_X} {kc ks pc a t m : Nat} {lv : List (Option Value)} {st : List Value} {M : ga_M} {f f' : Nat → Option Nat} (ha : a < M.1) (hV : ga_V E) (hg : ga_get M a = ga_r t m f) (hf : ∀ j, j < m → f j = f' j) (k : ga_G E X kc ks pc lv st (ga_put M a (ga_r t m f'))) : ga_G E X kc ks pc lv st M := by
  intro H locs ls hR hl hS
  refine k H locs ls (hR.put hV ha rfl (fun _ _ => rfl) ?_) hl hS
  have h := hR.2.2.2 a ha
  rw [hg] at h
  have e : vp_cell (E.2.2.2.1 t) (m, .inr (.inr (.inr (.inr (fun j => (f j).map E.2.1))))) = vp_cell (E.2.2.2.1 t) (m, .inr (.inr (.inr (.inr (fun j => (f' j).map E.2.1))))) := by
    rw [vp_cell_q, vp_cell_q]
    unfold arrV
    congr 1
    apply Array.ext
    · simp
    · intro i h1 h2
      have hi : i < m := by simpa using h1
      simp [hf i hi]
  show H[E.2.1 a]? = some _
  rw [show H[E.2.1 a]? = some (vp_cell (E.2.2.2.1 t) (m, .inr (.inr (.inr (.inr (fun j => (f j).map E.2.1)))))) from h, e]
