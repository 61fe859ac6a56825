/-! ===== WHAT IS KNOWN OF A RIDER, as numbers: the reports one after the other, then the fences ===== -/
/-- marks, ring, knocks, looks, retired, start, finish, held, how often seen (kind - 3, fence) -/
abbrev y_T : Type := Int32 × Int32 × Nat × Nat × Nat × Option Int32 × Option Int32 × Int32 × (Nat → Nat → Nat)
def y_0 : y_T := (0, 0, 0, 0, 0, none, none, 0, fun _ _ => 0)
def y_u2 (sn : Nat → Nat → Nat) (i f : Nat) : Nat → Nat → Nat := fun i' f' => if i' = i ∧ f' = f then sn i f + 1 else sn i' f'
def y_st (ah : Nat → Int32) (T : y_T) (kd fe a b : Int32) : y_T := match T with
  | (mr, rg, kn, lk, rt, s, f, hd, sn) => if kd = 0 then (a, rg, kn, lk, rt, s, f, hd, sn) else if kd = 1 then (mr, rg, kn, lk, rt, some (a - ah 0), f, hd, sn) else if kd = 2 then (mr, rg, kn, lk, rt, s, some (a - ah 1), hd, sn)
    else if kd = 7 then (mr, rg, kn, lk, rt, s, f, hd + (b - a), sn) else if kd = 8 then (mr, rg, kn + 1, lk, rt, s, f, hd, sn) else if kd = 9 then (mr, a, kn, lk, rt, s, f, hd, sn) else if kd = 10 then (mr, rg, kn, lk + 1, rt, s, f, hd, sn)
    else if kd = 11 then (mr, rg, kn, lk, rt + 1, s, f, hd, sn) else (mr, rg, kn, lk, rt, s, f, hd, y_u2 sn (kd.toNatClampNeg - 3) fe.toNatClampNeg)
/-- a report can be: its kind, and its fence where one is asked for -/
def y_ok (kd fe : Int32) : Prop := kd = 0 ∨ kd = 1 ∨ kd = 2 ∨ (∃ i f, i < 4 ∧ f < 30 ∧ kd = nI (i + 3) ∧ fe = nI f) ∨ kd = 7 ∨ kd = 8 ∨ kd = 9 ∨ kd = 10 ∨ kd = 11
/-- the counts that the fences give: 2 .. 7 and 11 -/
def y_fq (q : Nat → Nat) (a b c d : Nat) : Nat → Nat := fun j => if j = 2 then q 2 + a else if j = 3 then q 3 + b else if j = 4 then q 4 + c else if j = 5 then q 5 + (if 1 ≤ a then 1 else 0) else if j = 6 then q 6 + (if 2 ≤ a then 1 else 0) else if j = 7 then q 7 + (if 3 ≤ a then 1 else 0) else if j = 11 then q 11 + (if a + b + c + d = 0 then 1 else 0) else q j
def y_cnt (ou : Nat → Int32) (s : Option Int32) (f : Nat) : Bool := match s with
  | none => true
  | some x => decide (ou f = -1 ∨ x < ou f)
def y_q (ou : Nat → Int32) (s : Option Int32) (sn : Nat → Nat → Nat) : Nat → (Nat → Nat)
  | 0 => fun _ => 0
  | f + 1 => if y_cnt ou s f = true then y_fq (y_q ou s sn f) (sn 0 f) (sn 1 f) (sn 2 f) (sn 3 f) else y_q ou s sn f
def y_mx (x : Int32) : Int32 := if 0 < x then x else 0
def y_tm (s f : Option Int32) (hd : Int32) : Int32 := match s, f with
  | some a, some b => y_mx (b - a - hd)
  | _, _ => -1
def y_ov (s f : Option Int32) (hd op : Int32) : Int32 := match s, f with
  | some a, some b => y_mx (y_mx (b - a - hd) - op)
  | _, _ => 0
def y_un (s f : Option Int32) (hd op : Int32) : Int32 := match s, f with
  | some a, some b => y_mx (op - y_mx (b - a - hd))
  | _, _ => 0
def y_g (s : Option Int32) : Int32 := s.getD (-1000000)
def y_h (s : Option Int32) : Int32 := match s with
  | none => 0
  | some _ => 1
/-- the fifteen counts -/
def y_c (T : y_T) (q : Nat → Nat) (op : Int32) : Nat → Int32 := match T with
  | (mr, rg, kn, lk, rt, s, f, hd, _) => fun j => if (2 ≤ j ∧ j ≤ 7) ∨ j = 11 then nI (q j) else if j = 0 then mr else if j = 1 then rg else if j = 8 then nI kn else if j = 9 then nI lk else if j = 10 then nI rt else if j = 12 then y_ov s f hd op else if j = 13 then y_un s f hd op else if j = 14 then op else 0
/-- which acts a rider has, as known at an act -/
abbrev w_A : Type := (Nat → Int32) × (Nat → Int32) × (Nat → Int32) × (Nat → Int32) × (Nat → Int32) × (Nat → Int32)
def y_std (A : w_A) (r t k : Nat) : Prop := match A with
  | (mw, mr, _, _, _, ms) => k ≤ t ∧ 0 ≤ mr k ∧ mw k = nI r ∧ (ms k = 0 ∨ nI t < ms k)
def y_at (A : w_A) (ah : Nat → Int32) (r t : Nat) : Nat → y_T
  | 0 => y_0
  | k + 1 => match A with
    | (mw, mr, mf, ma, mb, ms) => if k + 1 ≤ t ∧ 0 ≤ mr (k + 1) ∧ mw (k + 1) = nI r ∧ (ms (k + 1) = 0 ∨ nI t < ms (k + 1)) then y_st ah (y_at A ah r t k) (mr (k + 1)) (mf (k + 1)) (ma (k + 1)) (mb (k + 1)) else y_at A ah r t k
theorem y_at_keep {A : w_A} {ah : Nat → Int32} {r t : Nat} : ∀ {j k : Nat}, k ≤ j → (∀ i, k < i → i ≤ j → ¬ (0 ≤ A.2.1 i ∧ A.1 i = nI r)) → y_at A ah r t j = y_at A ah r t k
  | 0, k, h, _ => by rw [show k = 0 by omega]
  | j + 1, k, h, hn => by
    by_cases e : k = j + 1
    · rw [e]
    · obtain ⟨mw, mr, mf, ma, mb, ms⟩ := A
      rw [y_at, if_neg (fun q => hn (j + 1) (by omega) (by omega) ⟨q.2.1, q.2.2.1⟩)]
      exact y_at_keep (by omega) (fun i h1 h2 => hn i h1 (by omega))
theorem y_at_end {A : w_A} {ah : Nat → Int32} {r t : Nat} : ∀ {j : Nat}, t ≤ j → y_at A ah r t j = y_at A ah r t t
  | 0, h => by rw [show t = 0 by omega]
  | j + 1, h => by
    by_cases e : t = j + 1
    · rw [e]
    · obtain ⟨mw, mr, mf, ma, mb, ms⟩ := A
      rw [y_at, if_neg (fun q => by omega)]
      exact y_at_end (by omega)
/-- how large the counts can be -/
def y_sm (T : y_T) (k : Nat) : Prop := match T with
  | (_, _, kn, lk, rt, _, _, _, sn) => kn ≤ k ∧ lk ≤ k ∧ rt ≤ k ∧ ∀ i f, sn i f ≤ k
theorem y_sm_0 : y_sm y_0 0 := ⟨Nat.le_refl _, Nat.le_refl _, Nat.le_refl _, fun _ _ => Nat.le_refl _⟩
theorem y_sm_st {ah : Nat → Int32} {T : y_T} {kd fe a b : Int32} {k : Nat} (h : y_sm T k) : y_sm (y_st ah T kd fe a b) (k + 1) := by
  obtain ⟨mr, rg, kn, lk, rt, s, f, hd, sn⟩ := T
  obtain ⟨h1, h2, h3, h4⟩ := h
  have h5 : ∀ i f, sn i f ≤ k + 1 := fun i f => by have := h4 i f; omega
  have h6 : ∀ i' f' i f, y_u2 sn i' f' i f ≤ k + 1 := fun i' f' i f => by
    unfold y_u2
    have := h4 i' f'
    have := h4 i f
    split <;> omega
  unfold y_st
  dsimp only
  repeat' split
  all_goals exact ⟨by omega, by omega, by omega, by first | exact h5 | exact h6 _ _⟩
theorem y_sm_at {A : w_A} {ah : Nat → Int32} {r t : Nat} : ∀ k, y_sm (y_at A ah r t k) k
  | 0 => y_sm_0
  | k + 1 => by
    obtain ⟨mw, mr, mf, ma, mb, ms⟩ := A
    rw [y_at]
    split
    · exact y_sm_st (y_sm_at k)
    · have h := y_sm_at (A := (mw, mr, mf, ma, mb, ms)) (ah := ah) (r := r) (t := t) k
      revert h
      generalize y_at (mw, mr, mf, ma, mb, ms) ah r t k = T
      obtain ⟨mr, rg, kn, lk, rt, s, f, hd, sn⟩ := T
      rintro ⟨h1, h2, h3, h4⟩
      exact ⟨by omega, by omega, by omega, fun i f => by have := h4 i f; omega⟩
theorem y_q_le {ou : Nat → Int32} {s : Option Int32} {sn : Nat → Nat → Nat} (h : ∀ i f, sn i f ≤ 400) : ∀ f j, y_q ou s sn f j ≤ 400 * f
  | 0, j => Nat.le_refl _
  | f + 1, j => by
    have ih := y_q_le (ou := ou) (s := s) h f
    rw [y_q]
    split
    · unfold y_fq
      have h0 := h 0 f
      have h1 := h 1 f
      have h2 := h 2 f
      have i2 := ih 2
      have i3 := ih 3
      have i4 := ih 4
      have i5 := ih 5
      have i6 := ih 6
      have i7 := ih 7
      have i11 := ih 11
      have ij := ih j
      repeat' split
      all_goals omega
    · have := ih j; omega
/-! how the class holds it -/
def y_se (sn : Nat → Nat → Nat) : Nat → Int32 := fun j => nI (sn (j / 30) (j % 30))
def y_v (T : y_T) : Nat → Int64 := match T with
  | (mr, rg, kn, lk, rt, _, _, _, _) => fun j => if j = 0 then mr.toInt64 else if j = 1 then rg.toInt64 else if j = 8 then lN kn else if j = 9 then lN lk else if j = 10 then lN rt else 0
def y_sh (st tm of : Int32) (tt : Int64) (T : y_T) : sh_S := match T with
  | (mr, rg, kn, lk, rt, s, f, hd, sn) => (st, y_h s, y_h f, y_g s, y_g f, tm, of, tt, y_v (mr, rg, kn, lk, rt, s, f, hd, sn))
theorem y_se_up {sn : Nat → Nat → Nat} {i f : Nat} (hi : i < 4) (hf : f < 30) : upd (y_se sn) (i * 30 + f) (nI (sn i f) + 1) = y_se (y_u2 sn i f) := by
  funext j
  unfold y_se y_u2
  by_cases h : j = i * 30 + f
  · rw [h, pk_us, show (i * 30 + f) / 30 = i by omega, show (i * 30 + f) % 30 = f by omega, if_pos ⟨rfl, rfl⟩, nI_1]
  · rw [pk_un h, if_neg (fun q => h (by omega))]
