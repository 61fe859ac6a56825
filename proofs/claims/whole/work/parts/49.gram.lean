/-! ===== the grammar, as the class reads it ===== -/
theorem ga_Mt.mono {E : ga_E} {d : Nat} {y : MethodName} {cc : ByteArray} {nL : Nat} {rt : Option FieldType} {mc ms : Nat} {as : List Value} {M : ga_M} {Post Post' : Option Value → ga_M → Prop} (hp : ∀ r M, Post r M → Post' r M) (h : ga_Mt E d y cc nL rt mc ms as M Post) : ga_Mt E d y cc nL rt mc ms as M Post' := by
  intro l p e h1 h2 h3 s m args below h4 h5 h6 h7
  obtain ⟨k, o, a1, a2, a3, ⟨r, M', b1, b2, b3, b4⟩, c⟩ := h l p e h1 h2 h3 s m args below h4 h5 h6 h7
  exact ⟨k, o, a1, a2, a3, ⟨r, M', b1, hp r M' b2, b3, b4⟩, c⟩
abbrev z_R : Type := (Nat × Nat) ⊕ (Nat × List (Nat × Nat))
def z_st (C : List (Nat × Nat)) (s : Nat → Int32) : Nat → Int32 := fun i => if i < C.length then nI (C.getD i (0, 0)).1 else s i
def z_od (C : List (Nat × Nat)) (s : Nat → Int32) : Nat → Int32 := fun i => if i < C.length then nI (C.getD i (0, 0)).2 else s i
theorem z_st_add {C : List (Nat × Nat)} {s : Nat → Int32} {x y : Nat} : upd (z_st C s) C.length (nI x) = z_st (C ++ [(x, y)]) s := by
  funext i
  unfold upd z_st
  simp only [List.length_append, List.length_cons, List.length_nil]
  by_cases h : i = C.length
  · rw [if_pos h, if_pos (by omega), h]; simp [List.getD]
  · rw [if_neg h]
    by_cases h2 : i < C.length
    · rw [if_pos h2, if_pos (by omega)]; simp [List.getD, List.getElem?_append, h2]
    · rw [if_neg h2, if_neg (by omega)]
theorem z_od_add {C : List (Nat × Nat)} {s : Nat → Int32} {x y : Nat} : upd (z_od C s) C.length (nI y) = z_od (C ++ [(x, y)]) s := by
  funext i
  unfold upd z_od
  simp only [List.length_append, List.length_cons, List.length_nil]
  by_cases h : i = C.length
  · rw [if_pos h, if_pos (by omega), h]; simp [List.getD]
  · rw [if_neg h]
    by_cases h2 : i < C.length
    · rw [if_pos h2, if_pos (by omega)]; simp [List.getD, List.getElem?_append, h2]
    · rw [if_neg h2, if_neg (by omega)]
section
variable (tb : Nat → Int32) (lt : Nat) (nm : Nat → Int64)
def x_dN (q : Nat) : Nat → Nat
  | 0 => 0
  | k + 1 => x_dN q k * 10 + ((tb (q + k)).toNatClampNeg - 48)
def x_num (q : Nat) : Nat := x_dN tb q (x_te tb lt q - q)
def x_pair (q : Nat) : Nat := if x_tk tb lt q = 97 ∧ x_tv tb lt q = 13368 then 6 else if x_tk tb lt q = 97 ∧ x_tv tb lt q = 13614 then 7 else 0
abbrev x_kept (v : Int64) : Prop := v = 16052 ∨ v = 294 ∨ v = 20773 ∨ v = 13368 ∨ v = 13614
def x_slot (v : Int64) : Int32 := p_fd (fun j => decide (nm j = v)) 39 39
def R_div (q : Nat) : z_R := if x_tk tb lt q = 48 then (if 5 < x_te tb lt q - q then .inl (1, q + 5) else if x_num tb lt q = 0 then .inl (2, q) else .inr (x_nx tb lt q, [(5, x_num tb lt q)])) else .inl (1, q)
/-- a name: where it fails; in a sum it is known already (1), where it is given it is new (0) -/
def x_nE (b : Int32) (q : Nat) : Option (Nat × Nat) := if x_kept (x_tv tb lt q) then some (1, q) else if 10 < x_te tb lt q - q then some (1, q + 10) else if (if x_slot nm (x_tv tb lt q) = -1 then 0 else 1) = b then none else some (3, q)
/-- what stands in brackets: plain (0), or a pair -/
def R_br (S : Option (Nat → z_R)) (p q : Nat) : z_R :=
  if x_tk tb lt q = 40 then
    match S with
    | none => .inl (1, q)
    | some S => match S (x_nx tb lt q) with
      | .inl e => .inl e
      | .inr (q2, c2) => if p = 0 then (if x_tk tb lt q2 = 41 then .inr (x_nx tb lt q2, c2) else .inl (1, q2))
        else if x_tk tb lt q2 = 44 then
          match S (x_nx tb lt q2) with
          | .inl e => .inl e
          | .inr (q3, c3) => if x_tk tb lt q3 = 41 then .inr (x_nx tb lt q3, c2 ++ c3 ++ [(p, 0)]) else .inl (1, q3)
        else .inl (1, q2)
  else .inl (1, q)
def R_fa (S : Option (Nat → z_R)) (q : Nat) : z_R :=
  if x_tk tb lt q = 48 then (if 5 < x_te tb lt q - q then .inl (1, q + 5) else .inr (x_nx tb lt q, [(0, x_num tb lt q)]))
  else if x_tk tb lt q = 97 ∧ x_pair tb lt q = 0 then (match x_nE tb lt nm 1 q with
    | some e => .inl e
    | none => .inr (x_nx tb lt q, [(1, (x_slot nm (x_tv tb lt q)).toNatClampNeg)]))
  else R_br tb lt S (x_pair tb lt q) (if x_pair tb lt q = 0 then q else x_nx tb lt q)
def R_pl (fac : Nat → z_R) : Nat → Nat → List (Nat × Nat) → z_R
  | 0, q, c => .inr (q, c)
  | m + 1, q, c => if x_tk tb lt q = 42 then (match fac (x_nx tb lt q) with
      | .inl e => .inl e
      | .inr (q', c') => R_pl fac m q' (c ++ c' ++ [(4, 0)]))
    else if x_tk tb lt q = 47 then (match R_div tb lt (x_nx tb lt q) with
      | .inl e => .inl e
      | .inr (q', c') => R_pl fac m q' (c ++ c'))
    else .inr (q, c)
def R_pr (fac : Nat → z_R) (q : Nat) : z_R := match fac q with
  | .inl e => .inl e
  | .inr (q', c') => R_pl tb lt fac 600 q' c'
def R_sl (pr : Nat → z_R) : Nat → Nat → List (Nat × Nat) → z_R
  | 0, q, c => .inr (q, c)
  | m + 1, q, c => if x_tk tb lt q = 43 ∨ x_tk tb lt q = 45 then (match pr (x_nx tb lt q) with
      | .inl e => .inl e
      | .inr (q', c') => R_sl pr m q' (c ++ c' ++ [(if x_tk tb lt q = 43 then 2 else 3, 0)]))
    else .inr (q, c)
def R_su (fac : Nat → z_R) (q : Nat) : z_R := match R_pr tb lt fac q with
  | .inl e => .inl e
  | .inr (q', c') => R_sl tb lt (R_pr tb lt fac) 600 q' c'
def R_F : Nat → Nat → z_R
  | 0 => R_fa tb lt nm none
  | f + 1 => R_fa tb lt nm (some (R_su tb lt (R_F f)))
end
section
variable {tb : Nat → Int32} {lt : Nat} {nm : Nat → Int64}
theorem x_tk_dig {q : Nat} (h : x_tk tb lt q = 48) : q < lt ∧ ¬ x_let (tb q) ∧ x_dig (tb q) := by
  unfold x_tk at h
  split at h
  · rename_i h1
    split at h
    · exact absurd h (by decide)
    · rename_i h2
      split at h
      · rename_i h3; exact ⟨h1, h2, h3⟩
      · rename_i h3; exact absurd ⟨by rw [h]; decide, by rw [h]; decide⟩ h3
  · exact absurd h (by decide)
theorem x_tk_let {q : Nat} (h : x_tk tb lt q = 97) : q < lt ∧ x_let (tb q) := by
  unfold x_tk at h
  split at h
  · rename_i h1
    split at h
    · rename_i h2; exact ⟨h1, h2⟩
    · rename_i h2
      split at h
      · exact absurd h (by decide)
      · exact absurd ⟨by rw [h]; decide, by rw [h]; decide⟩ h2
  · exact absurd h (by decide)
theorem x_d9 {c : Int32} (h : x_dig c) : ∃ k, 48 ≤ k ∧ k ≤ 57 ∧ c = nI k := by
  obtain ⟨j, hj, e, e2⟩ := v_ofle (k := 57) (v_tr (by decide) h.1) h.2 (by omega)
  exact ⟨j, (nI_leI (a := 48) (by omega) (by omega)).mp (by rw [← e]; exact h.1), hj, e⟩
theorem x_dv_N {q : Nat} : ∀ k, k ≤ 5 → (∀ i, i < k → x_dig (tb (q + i))) → x_dv tb q k = lN (x_dN tb q k) ∧ x_dN tb q k < 10 ^ k
  | 0, _, _ => ⟨rfl, by show 0 < 1; decide⟩
  | k + 1, hk, hd => by
    obtain ⟨e1, e2⟩ := x_dv_N k (by omega) (fun i hi => hd i (by omega))
    obtain ⟨j, j1, j2, e3⟩ := x_d9 (hd k (by omega))
    have hp : 10 ^ k ≤ 10 ^ 4 := Nat.pow_le_pow_right (by omega) (by omega)
    have e4 : nI j - 48 = nI (j - 48) := by have := pk_sub (a := j) (b := 48) j1; exact this
    rw [x_dv, x_dN, e1, e3, e4, nI_clamp (by omega), nI_l (by omega)]
    refine ⟨?_, by rw [Nat.pow_succ]; omega⟩
    rw [← lN_add, ← lN_mul]
    rfl
theorem x_num_N {q : Nat} (h : x_tk tb lt q = 48) (h5 : ¬ 5 < x_te tb lt q - q) : x_tv tb lt q = lN (x_num tb lt q) ∧ x_num tb lt q ≤ 99999 := by
  obtain ⟨h1, h2, h3⟩ := x_tk_dig h
  have e1 : x_te tb lt q = x_de tb lt q := by unfold x_te; rw [if_pos h1, if_neg h2, if_pos h3]
  have e2 : x_tv tb lt q = x_dv tb q (x_de tb lt q - q) := by unfold x_tv; rw [if_pos h1, if_neg h2, if_pos h3]
  have hle := x_de_le (tb := tb) (Nat.le_of_lt h1)
  rw [e1] at h5
  have key := x_dv_N (tb := tb) (q := q) (x_de tb lt q - q) (by omega) (fun i hi => of_decide_eq_true (x_end_in (fun i => decide (x_dig (tb i))) (lt - q) q (q + i) (by omega) (by show q + i < x_de tb lt q; omega)))
  rw [e2]
  unfold x_num
  rw [e1]
  have hp : 10 ^ (x_de tb lt q - q) ≤ 10 ^ 5 := Nat.pow_le_pow_right (by omega) (by omega)
  exact ⟨key.1, by omega⟩
theorem x_pair_3 {q : Nat} : (x_pair tb lt q = 6 ∧ x_tk tb lt q = 97 ∧ x_tv tb lt q = 13368) ∨ (x_pair tb lt q = 7 ∧ x_tk tb lt q = 97 ∧ x_tv tb lt q = 13614) ∨ (x_pair tb lt q = 0 ∧ ¬ (x_tk tb lt q = 97 ∧ x_tv tb lt q = 13368) ∧ ¬ (x_tk tb lt q = 97 ∧ x_tv tb lt q = 13614)) := by
  unfold x_pair
  by_cases h : x_tk tb lt q = 97 ∧ x_tv tb lt q = 13368
  · left; exact ⟨if_pos h, h⟩
  · by_cases h2 : x_tk tb lt q = 97 ∧ x_tv tb lt q = 13614
    · right; left; exact ⟨by rw [if_neg h, if_pos h2], h2⟩
    · right; right; exact ⟨by rw [if_neg h, if_neg h2], h, h2⟩
theorem x_sk_lt : x_sk tb lt lt = lt := by unfold x_sk; rw [Nat.sub_self]; rfl
theorem x_te_lt : x_te tb lt lt = lt := by unfold x_te; rw [if_neg (by omega)]
theorem x_tk_lt : x_tk tb lt lt = -1 := by unfold x_tk; rw [if_neg (by omega)]
theorem x_tv_lt : x_tv tb lt lt = 0 := by unfold x_tv; rw [if_neg (by omega)]
end
