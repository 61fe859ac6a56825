/-! ===== the rules of both sides agree ===== -/
def j_R (cd cd' : Nat → Nat × Nat) (en : Nat → Nat) (fo fo' : Nat → Int32) (sm : Nat) (tot tt_ : Int32) (st_ od eo sg bo : Nat → Int32) : Prop :=
  e_cd cd st_ od ∧ e_eo en eo ∧ e_Rok cd en sm ∧ e_sg cd' sg ∧ e_bo en sm bo ∧ e_Rok cd' en sm ∧ r_cds cd cd' en sm ∧ (∀ k, k < sm → fo k = fo' k) ∧ e_tt tot tt_ sm
theorem i_nI : ∃ f : Int32 → Nat, ∀ v, v = nI (f v) := ⟨fun v => v.toBitVec.toNat, fun v => by
  apply Int32.toBitVec_inj.mp
  show v.toBitVec = BitVec.ofNat 32 v.toBitVec.toNat
  rw [BitVec.ofNat_toNat, BitVec.setWidth_eq]⟩
theorem nI_w (x : Nat) : nI (x + 4294967296) = nI x := by
  apply Int32.toBitVec_inj.mp
  show BitVec.ofNat 32 (x + 4294967296) = BitVec.ofNat 32 x
  apply BitVec.eq_of_toNat_eq
  rw [BitVec.toNat_ofNat, BitVec.toNat_ofNat]
  omega
theorem j_R_0 : ∃ cd cd' en, j_R cd cd' en (fun _ => 0) (fun _ => 0) 0 (-1) (-1) (fun _ => 0) (fun _ => 0) (fun _ => 0) (fun _ => 0) (fun _ => 0) :=
  ⟨fun _ => (0, 0), fun _ => (0, 0), fun _ => 0, fun _ _ => ⟨rfl, rfl⟩, fun _ _ => rfl, ⟨by omega, fun k hk => absurd hk (Nat.not_lt_zero k)⟩, fun _ _ => ⟨rfl, rfl⟩, fun k hk => by rw [show k = 0 by omega]; rfl, ⟨by omega, fun k hk => absurd hk (Nat.not_lt_zero k)⟩, fun k hk => absurd hk (Nat.not_lt_zero k), fun k hk => absurd hk (Nat.not_lt_zero k), Or.inl ⟨rfl, rfl⟩⟩
theorem j_R_new {Ls C : List (Nat × Nat)} {st0 od0 eo0 fo0 fo' sg bo : Nat → Int32} {tot tt_ : Int32} (hz : z_Ls Ls C) (h24 : Ls.length ≤ 24) (hC : C.length ≤ 600) (htt : e_tt tot tt_ Ls.length) (hbo : ∀ k, k ≤ Ls.length → bo k = nI (e_fr (L_en Ls) k)) (hfo : ∀ k, k < Ls.length → fo' k = nI (L_fo Ls k)) (hsg : ∀ i, i < C.length → sg (2 * i) = nI (e_mop (C.getD i (0, 0))) ∧ sg (2 * i + 1) = nI (e_mar (C.getD i (0, 0)))) :
    ∃ cd cd' en, j_R cd cd' en (z_od Ls fo0) fo' Ls.length tot tt_ (z_st C st0) (z_od C od0) (z_st Ls eo0) sg bo := by
  obtain ⟨g, hg⟩ := i_nI
  let cd : Nat → Nat × Nat := fun i => if i < C.length then C.getD i (0, 0) else (g (st0 i), g (od0 i))
  let cd' : Nat → Nat × Nat := fun i => if i < C.length then C.getD i (0, 0) else (g (sg (2 * i)) + 4294967295, g (sg (2 * i + 1)))
  let en : Nat → Nat := fun j => if j < Ls.length then L_en Ls j else g (eo0 j)
  have hcd : ∀ i, i < C.length → cd i = C.getD i (0, 0) := fun i hi => if_pos hi
  have hcd' : ∀ i, i < C.length → cd' i = C.getD i (0, 0) := fun i hi => if_pos hi
  have hen : ∀ k, k < Ls.length → en k = L_en Ls k := fun k hk => if_pos hk
  have hfr : ∀ k, k ≤ Ls.length → e_fr en k = e_fr (L_en Ls) k := fun k hk => by
    match k, hk with
    | 0, _ => rfl
    | k + 1, hk => exact hen k (by omega)
  refine ⟨cd, cd', en, ?_, ?_, z_Rok hz h24 hC hcd hen, ?_, ?_, z_Rok hz h24 hC hcd' hen, ?_, ?_, htt⟩
  · intro i hi
    unfold z_st z_od
    by_cases h : i < C.length
    · rw [if_pos h, if_pos h, hcd i h]; exact ⟨rfl, rfl⟩
    · rw [if_neg h, if_neg h, show cd i = (g (st0 i), g (od0 i)) from if_neg h]; exact ⟨hg _, hg _⟩
  · intro j hj
    unfold z_st
    by_cases h : j < Ls.length
    · rw [if_pos h, hen j h]; rfl
    · rw [if_neg h, show en j = g (eo0 j) from if_neg h]; exact hg _
  · intro i hi
    by_cases h : i < C.length
    · rw [hcd' i h]; exact hsg i h
    · rw [show cd' i = (g (sg (2 * i)) + 4294967295, g (sg (2 * i + 1))) from if_neg h]
      unfold e_mop e_mar
      dsimp only
      rw [if_neg (by omega), if_neg (by omega), if_neg (by omega), show g (sg (2 * i)) + 4294967295 + 1 = g (sg (2 * i)) + 4294967296 by omega, nI_w]
      exact ⟨hg _, hg _⟩
  · intro k hk
    rw [hfr k hk]; exact hbo k hk
  · intro k hk i h1 h2
    rw [hen k hk] at h2
    have := (hz k hk).2.1
    rw [hcd i (by omega), hcd' i (by omega)]
  · intro k hk
    unfold z_od
    rw [if_pos hk, hfo k hk]; rfl
/-! ===== the two books of rules change places ===== -/
def sw (a : Nat) : Nat := if 15 ≤ a ∧ a < 21 then a + 6 else if 21 ≤ a ∧ a < 27 then a - 6 else a
theorem sw_hi {a : Nat} (h : 27 ≤ a) : sw a = a := by unfold sw; rw [if_neg (by omega), if_neg (by omega)]
theorem sw_sw (a : Nat) : sw (sw a) = a := by
  unfold sw
  by_cases h1 : 15 ≤ a ∧ a < 21
  · rw [if_pos h1, if_neg (by omega), if_pos (by omega)]; omega
  · rw [if_neg h1]
    by_cases h2 : 21 ≤ a ∧ a < 27
    · rw [if_pos h2, if_pos (by omega)]; omega
    · rw [if_neg h2, if_neg h1, if_neg h2]
theorem sw_lt {a n : Nat} (h : a < n) (hn : 27 ≤ n) : sw a < n := by
  unfold sw
  split
  · omega
  · split <;> omega
abbrev E_sw (E : ga_E) : ga_E := (E.1, fun a => E.2.1 (sw a), E.2.2)
theorem g_swp {E : ga_E} {X : ga_X} {kc ks pc : Nat} {lv : List (Option Value)} {M M' : ga_M} (h1 : M'.1 = M.1) (hn : 27 ≤ M.1) (hl : M'.2.1.length = 31 ∧ M'.2.2.1.length = 27) (hc : ∀ a, a < M.1 → ga_e (E_sw E) (ga_get M' a) = ga_e E (ga_get M (sw a))) (hlv : ga_lv (E_sw E) 0 lv = ga_lv E 0 lv) (k : ga_G (E_sw E) X kc ks pc lv [] M') : ga_G E X kc ks pc lv [] M := by
  intro H locs ls hR hl' hS
  refine k H locs ls ⟨by rw [h1]; exact hR.1, hl.1, hl.2, fun a ha => ?_⟩ (by rw [hlv]; exact hl') hS
  rw [h1] at ha
  rw [hc a ha]
  exact hR.2.2.2 (sw a) (sw_lt ha hn)
theorem ga_V_sw {E : ga_E} (h : ga_V E) : ga_V (E_sw E) := ⟨fun a b e => by
  have := h.1 _ _ e
  rw [← sw_sw a, this, sw_sw], fun a => h.2 _⟩
theorem ga_B_sw {E : ga_E} {d : Nat} {y : MethodName} {cc : ByteArray} {nL mc ms : Nat} {X : ga_X} (h : ga_B E d y cc nL mc ms X) : ga_B (E_sw E) d y cc nL mc ms X :=
  ⟨h.1, h.2.1, h.2.2.1, h.2.2.2.1, h.2.2.2.2.1, h.2.2.2.2.2.1, h.2.2.2.2.2.2.1, h.2.2.2.2.2.2.2.1, ga_V_sw h.2.2.2.2.2.2.2.2.1, h.2.2.2.2.2.2.2.2.2⟩
theorem e_arr {E : ga_E} {t m : Nat} {f : Nat → Option Nat} (h : ∀ j q, f j = some q → 27 ≤ q) : ga_e (E_sw E) (ga_r t m f) = ga_e E (ga_r t m f) := by
  have e : (fun j => (f j).map (E_sw E).2.1) = fun j => (f j).map E.2.1 := by
    funext j
    cases hf : f j with
    | none => rfl
    | some q => show some (E.2.1 (sw q)) = some (E.2.1 q); rw [sw_hi (h j q hf)]
  show (Sum.inl (E.2.2.2.1 t, m, .inr (.inr (.inr (.inr (fun j => (f j).map (E_sw E).2.1))))) : va_E) = Sum.inl (E.2.2.2.1 t, m, .inr (.inr (.inr (.inr (fun j => (f j).map E.2.1)))))
  rw [e]
