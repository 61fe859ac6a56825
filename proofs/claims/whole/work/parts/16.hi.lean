/-! ===== the sheets (31 .. 78) and the acts (106 ..) ===== -/
/-- a sheet: stale, hasStart, hasFinish, start, finish, time, off, total, values -/
abbrev sh_S : Type := Int32 × Int32 × Int32 × Int32 × Int32 × Int32 × Int32 × Int64 × (Nat → Int64)
/-- an act: rider, kind, fence, a, b, number, struck by, the next one of its rider -/
abbrev a_S : Type := Int32 × Int32 × Int32 × Int32 × Int32 × Int32 × Int32 × Option Nat
abbrev sh_o (r : Nat) (s : sh_S) : ga_C := ga_o 7 [.ref (2 * r + 32), .int s.1, .int s.2.1, .int s.2.2.1, .int s.2.2.2.1, .int s.2.2.2.2.1, .int s.2.2.2.2.2.1, .int s.2.2.2.2.2.2.1, .long s.2.2.2.2.2.2.2.1]
abbrev sh_v (s : sh_S) : ga_C := ga_l 39 s.2.2.2.2.2.2.2.2
abbrev a_c (t : a_S) : ga_C := ga_o 0 [.int t.1, .int t.2.1, .int t.2.2.1, .int t.2.2.2.1, .int t.2.2.2.2.1, .int t.2.2.2.2.2.1, .int t.2.2.2.2.2.2.1, ga_rf t.2.2.2.2.2.2.2]
def sh_f (sv : Nat → sh_S) (g : Nat → ga_C) : Nat → ga_C := fun a => if 31 ≤ a ∧ a < 79 then (if a % 2 = 1 then sh_o ((a - 31) / 2) (sv ((a - 31) / 2)) else sh_v (sv ((a - 32) / 2))) else g a
def a_f (av : Nat → a_S) : Nat → ga_C := fun a => a_c (av (a - 105))
theorem up_s {α : Type} {f : Nat → α} {k : Nat} {v : α} : va_up f k v k = v := if_pos rfl
theorem up_n {α : Type} {f : Nat → α} {k j : Nat} {v : α} (h : j ≠ k) : va_up f k v j = f j := if_neg h
theorem up_self {α : Type} (f : Nat → α) (k : Nat) : va_up f k (f k) = f := by
  funext j
  by_cases h : j = k
  · rw [h, up_s]
  · rw [up_n h]
theorem up_up {α : Type} (f : Nat → α) (k : Nat) (v w : α) : va_up (va_up f k v) k w = va_up f k w := by
  funext j
  by_cases h : j = k
  · rw [h, up_s, up_s]
  · rw [up_n h, up_n h, up_n h]
theorem sh_f_o {sv : Nat → sh_S} {g : Nat → ga_C} {r : Nat} (hr : r < 24) : sh_f sv g (2 * r + 31) = sh_o r (sv r) := by
  unfold sh_f
  rw [if_pos (by omega), if_pos (by omega), show (2 * r + 31 - 31) / 2 = r by omega]
theorem sh_f_v {sv : Nat → sh_S} {g : Nat → ga_C} {r : Nat} (hr : r < 24) : sh_f sv g (2 * r + 32) = sh_v (sv r) := by
  unfold sh_f
  rw [if_pos (by omega), if_neg (by omega), show (2 * r + 32 - 32) / 2 = r by omega]
theorem sh_f_g {sv : Nat → sh_S} {g : Nat → ga_C} {a : Nat} (h : 79 ≤ a) : sh_f sv g a = g a := by
  unfold sh_f
  rw [if_neg (by omega)]
section
variable {n r k : Nat} {L1 L2 : List ga_C} {sv : Nat → sh_S} {g : Nat → ga_C} {av : Nat → a_S} {s : sh_S} {t : a_S}
theorem get_so (hr : r < 24) : ga_get (n, L1, L2, sh_f sv g) (2 * r + 31) = sh_o r (sv r) := by rw [ga_get_hi _ (by omega)]; exact sh_f_o hr
theorem get_sv (hr : r < 24) : ga_get (n, L1, L2, sh_f sv g) (2 * r + 32) = sh_v (sv r) := by rw [ga_get_hi _ (by omega)]; exact sh_f_v hr
theorem get_soF (hr : r < 24) : ga_get (n, L1, L2, sh_f (va_up sv r s) g) (2 * r + 31) = sh_o r s := by rw [get_so hr, up_s]
theorem get_svF (hr : r < 24) : ga_get (n, L1, L2, sh_f (va_up sv r s) g) (2 * r + 32) = sh_v s := by rw [get_sv hr, up_s]
theorem get_a (hk : 1 ≤ k) : ga_get (n, L1, L2, sh_f sv (a_f av)) (k + 105) = a_c (av k) := by
  rw [ga_get_hi _ (by omega)]
  show sh_f sv (a_f av) (k + 105) = _
  rw [sh_f_g (by omega)]; unfold a_f; rw [show k + 105 - 105 = k by omega]
theorem get_aF (hk : 1 ≤ k) : ga_get (n, L1, L2, sh_f sv (a_f (va_up av k t))) (k + 105) = a_c t := by rw [get_a hk, up_s]
theorem get_soE {a1 a2 a3 a4 a5 a6 a7 : Int32} {u : Int64} {v : Nat → Int64} (hr : r < 24) : ga_get (n, L1, L2, sh_f (va_up sv r (a1, a2, a3, a4, a5, a6, a7, u, v)) g) (2 * r + 31) = ga_o 7 [.ref (2 * r + 32), .int a1, .int a2, .int a3, .int a4, .int a5, .int a6, .int a7, .long u] := get_soF hr
theorem get_svE {a1 a2 a3 a4 a5 a6 a7 : Int32} {u : Int64} {v : Nat → Int64} (hr : r < 24) : ga_get (n, L1, L2, sh_f (va_up sv r (a1, a2, a3, a4, a5, a6, a7, u, v)) g) (2 * r + 32) = ga_l 39 v := get_svF hr
theorem get_aE {b1 b2 b3 b4 b5 b6 b7 : Int32} {b8 : Option Nat} (hk : 1 ≤ k) (hav : av k = (b1, b2, b3, b4, b5, b6, b7, b8)) : ga_get (n, L1, L2, sh_f sv (a_f av)) (k + 105) = ga_o 0 [.int b1, .int b2, .int b3, .int b4, .int b5, .int b6, .int b7, ga_rf b8] := by rw [get_a hk, hav]
theorem dm_o (hn : 106 ≤ n) (hr : r < 24) : 2 * r + 31 < n := by omega
theorem dm_v (hn : 106 ≤ n) (hr : r < 24) : 2 * r + 32 < n := by omega
theorem put_soF {a1 a2 a3 a4 a5 a6 a7 b1 b2 b3 b4 b5 b6 b7 : Int32} {u w : Int64} {v : Nat → Int64} (hr : r < 24) : ga_put (n, L1, L2, sh_f (va_up sv r (a1, a2, a3, a4, a5, a6, a7, u, v)) g) (2 * r + 31) (ga_o 7 [.ref (2 * r + 32), .int b1, .int b2, .int b3, .int b4, .int b5, .int b6, .int b7, .long w]) = (n, L1, L2, sh_f (va_up sv r (b1, b2, b3, b4, b5, b6, b7, w, v)) g) := by
  rw [ga_put_hi _ _ (by omega)]
  congr 3
  funext a
  by_cases h : a = 2 * r + 31
  · rw [h, up_s, sh_f_o hr, up_s]
  · rw [up_n h]
    show sh_f _ g a = _
    unfold sh_f
    by_cases h1 : 31 ≤ a ∧ a < 79
    · rw [if_pos h1, if_pos h1]
      by_cases h2 : a % 2 = 1
      · rw [if_pos h2, if_pos h2, up_n (by omega), up_n (by omega)]
      · rw [if_neg h2, if_neg h2]
        by_cases h3 : (a - 32) / 2 = r
        · rw [h3, up_s, up_s]
        · rw [up_n h3, up_n h3]
    · rw [if_neg h1, if_neg h1]
theorem put_svF {a1 a2 a3 a4 a5 a6 a7 : Int32} {u : Int64} {v v' : Nat → Int64} (hr : r < 24) : ga_put (n, L1, L2, sh_f (va_up sv r (a1, a2, a3, a4, a5, a6, a7, u, v)) g) (2 * r + 32) (ga_l 39 v') = (n, L1, L2, sh_f (va_up sv r (a1, a2, a3, a4, a5, a6, a7, u, v')) g) := by
  rw [ga_put_hi _ _ (by omega)]
  congr 3
  funext a
  by_cases h : a = 2 * r + 32
  · rw [h, up_s, sh_f_v hr, up_s]
  · rw [up_n h]
    show sh_f _ g a = _
    unfold sh_f
    by_cases h1 : 31 ≤ a ∧ a < 79
    · rw [if_pos h1, if_pos h1]
      by_cases h2 : a % 2 = 1
      · rw [if_pos h2, if_pos h2]
        by_cases h3 : (a - 31) / 2 = r
        · rw [h3, up_s, up_s]
        · rw [up_n h3, up_n h3]
      · rw [if_neg h2, if_neg h2, up_n (by omega), up_n (by omega)]
    · rw [if_neg h1, if_neg h1]
theorem a_f_up (hk : 1 ≤ k) : va_up (sh_f sv (a_f av)) (k + 105) (a_c t) = sh_f sv (a_f (va_up av k t)) := by
  funext a
  by_cases h : a = k + 105
  · rw [h, up_s, sh_f_g (by omega)]; unfold a_f; rw [show k + 105 - 105 = k by omega, up_s]
  · rw [up_n h]
    unfold sh_f
    by_cases h1 : 31 ≤ a ∧ a < 79
    · rw [if_pos h1, if_pos h1]
    · rw [if_neg h1, if_neg h1]
      unfold a_f
      by_cases h2 : a - 105 = k
      · exact absurd (by omega) h
      · rw [up_n h2]
theorem put_a {b1 b2 b3 b4 b5 b6 b7 : Int32} {b8 : Option Nat} (hk : 1 ≤ k) : ga_put (n, L1, L2, sh_f sv (a_f av)) (k + 105) (ga_o 0 [.int b1, .int b2, .int b3, .int b4, .int b5, .int b6, .int b7, ga_rf b8]) = (n, L1, L2, sh_f sv (a_f (va_up av k (b1, b2, b3, b4, b5, b6, b7, b8)))) := by
  rw [ga_put_hi _ _ (by omega)]
  congr 3
  exact a_f_up (t := (b1, b2, b3, b4, b5, b6, b7, b8)) hk
theorem put_aF {b1 b2 b3 b4 b5 b6 b7 : Int32} {b8 : Option Nat} (hk : 1 ≤ k) : ga_put (n, L1, L2, sh_f sv (a_f (va_up av k t))) (k + 105) (ga_o 0 [.int b1, .int b2, .int b3, .int b4, .int b5, .int b6, .int b7, ga_rf b8]) = (n, L1, L2, sh_f sv (a_f (va_up av k (b1, b2, b3, b4, b5, b6, b7, b8)))) := by
  rw [put_a hk, up_up]
theorem new_a {an : Nat} {b1 b2 b3 b4 b5 b6 b7 : Int32} {b8 : Option Nat} : ga_new (an + 106, L1, L2, sh_f sv (a_f av)) (ga_o 0 [.int b1, .int b2, .int b3, .int b4, .int b5, .int b6, .int b7, ga_rf b8]) = (an + 107, L1, L2, sh_f sv (a_f (va_up av (an + 1) (b1, b2, b3, b4, b5, b6, b7, b8)))) := by
  show ga_put (an + 107, L1, L2, sh_f sv (a_f av)) ((an + 1) + 105) _ = _
  exact put_a (by omega)
end
/-- the blank act -/
abbrev ga_df0 : List Value := [.int 0, .int 0, .int 0, .int 0, .int 0, .int 0, .int 0, .null]
theorem ga_df0_ok (E : ga_E) : ∀ j, j < 8 → ∃ t, parseFieldDescriptor (TX0 j).2.2.1 = some t ∧ defaultValue t = vp_V (ga_df0.map (ga_v E)) j := by
  intro j hj
  refine ⟨tyX0 j, tyX0_ok j hj, ?_⟩
  match j, hj with
  | 0, _ => rfl
  | 1, _ => rfl
  | 2, _ => rfl
  | 3, _ => rfl
  | 4, _ => rfl
  | 5, _ => rfl
  | 6, _ => rfl
  | 7, _ => rfl
