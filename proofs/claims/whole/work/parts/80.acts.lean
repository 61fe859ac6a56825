/-! ===== the acts, as both sides keep them ===== -/
def l_last (A : w_A) (an r : Nat) (p : Option Nat) : Prop := match p with
  | none => ∀ j, 1 ≤ j → j ≤ an → ¬ (0 ≤ A.2.1 j ∧ A.1 j = nI r)
  | some q => ∃ k, 1 ≤ k ∧ k ≤ an ∧ q = k + 105 ∧ (0 ≤ A.2.1 k ∧ A.1 k = nI r) ∧ ∀ j, k < j → j ≤ an → ¬ (0 ≤ A.2.1 j ∧ A.1 j = nI r)
abbrev a_nx (t : a_S) : Option Nat := t.2.2.2.2.2.2.2
def j_A (A : w_A) (av : Nat → a_S) (ol nw : Nat → Option Nat) (an : Nat) : Prop :=
  an ≤ 400 ∧ a_ok A av an ∧ a_st A av an ∧ a_sec A an ∧ (∀ r, r < 24 → a_ch A an r 0 (ol r)) ∧ (∀ r, r < 24 → l_last A an r (nw r)) ∧ (∀ k, 1 ≤ k → k ≤ an → ¬ 0 ≤ A.2.1 k → (av k).2.1 = 12 ∧ a_nx (av k) = none) ∧ (∀ r q, ol r = some q → 27 ≤ q) ∧ ∀ r q, nw r = some q → 27 ≤ q
theorem v_asym {a b : Int32} (h1 : a ≤ b) (h2 : b ≤ a) : a = b := by
  apply Int32.toInt_inj.mp
  rw [Int32.le_iff_toInt_le] at h1 h2
  omega
theorem iff_n {p q : Prop} (h : p ↔ q) (k : ¬ q) : ¬ p := fun z => k (h.mp z)
theorem y_at_ext {A A' : w_A} {ah : Nat → Int32} {r t : Nat} (h : ∀ k, 1 ≤ k → k ≤ t → A'.1 k = A.1 k ∧ A'.2.1 k = A.2.1 k ∧ A'.2.2.1 k = A.2.2.1 k ∧ A'.2.2.2.1 k = A.2.2.2.1 k ∧ A'.2.2.2.2.1 k = A.2.2.2.2.1 k ∧ ((A'.2.2.2.2.2 k = 0 ∨ nI t < A'.2.2.2.2.2 k) ↔ (0 ≤ A.2.1 k → (A.2.2.2.2.2 k = 0 ∨ nI t < A.2.2.2.2.2 k)) ∧ (0 ≤ A.2.1 k ∨ (A'.2.2.2.2.2 k = 0 ∨ nI t < A'.2.2.2.2.2 k)))) : ∀ j, y_at A' ah r t j = y_at A ah r t j
  | 0 => by
    obtain ⟨mw, mr, mf, ma, mb, ms⟩ := A
    obtain ⟨mw', mr', mf', ma', mb', ms'⟩ := A'
    rfl
  | j + 1 => by
    have ih := y_at_ext (ah := ah) (r := r) h j
    obtain ⟨mw, mr, mf, ma, mb, ms⟩ := A
    obtain ⟨mw', mr', mf', ma', mb', ms'⟩ := A'
    rw [y_at, y_at, ih]
    by_cases hj : j + 1 ≤ t
    · obtain ⟨e1, e2, e3, e4, e5, e6⟩ := h (j + 1) (by omega) hj
      dsimp only at e1 e2 e3 e4 e5 e6
      rw [e1, e2, e3, e4, e5]
      by_cases hc : j + 1 ≤ t ∧ 0 ≤ mr (j + 1) ∧ mw (j + 1) = nI r ∧ (ms (j + 1) = 0 ∨ nI t < ms (j + 1))
      · rw [if_pos hc, if_pos ⟨hc.1, hc.2.1, hc.2.2.1, e6.mpr ⟨fun _ => hc.2.2.2, Or.inl hc.2.1⟩⟩]
      · rw [if_neg hc, if_neg (fun z => hc ⟨z.1, z.2.1, z.2.2.1, (e6.mp z.2.2.2).1 z.2.1⟩)]
    · rw [if_neg (fun z => hj z.1), if_neg (fun z => hj z.1)]
theorem s_F_ext {A A' : w_A} {ah ou : Nat → Int32} {op : Int32} {fn r t : Nat} {R : e_R} (h : y_at A' ah r t t = y_at A ah r t t) : s_F (A', ah, ou, op, fn) R r t = s_F (A, ah, ou, op, fn) R r t := by
  have e : s_0 (A', ah, ou, op, fn) r t = s_0 (A, ah, ou, op, fn) r t := by
    unfold s_0 y_S
    dsimp only
    rw [h]
  unfold s_F
  rw [e]
theorem q_may_y {fn : Nat} {kd fe a b : Int32} (hf : fn ≤ 30) (h : ¬ q_may fn kd fe a b = 0) : y_ok kd fe ∧ 0 ≤ kd ∧ ((kd = 1 ∨ kd = 2) → 0 ≤ a ∧ a ≤ 86399) := by
  unfold q_may at h
  unfold y_ok
  have fen : ∀ i : Nat, i < 4 → kd = nI (i + 3) → (0 ≤ fe ∧ fe < nI fn) → ∃ i f, i < 4 ∧ f < 30 ∧ kd = nI (i + 3) ∧ fe = nI f := fun i hi e hfe => by
    obtain ⟨j, hj, e2, -⟩ := v_of hfe.1 hfe.2 (by omega)
    exact ⟨i, j, hi, by omega, e, e2⟩
  by_cases h0 : kd = 0
  · exact ⟨Or.inl h0, by rw [h0]; decide, fun z => by rw [h0] at z; exact absurd z (by decide)⟩
  · rw [if_neg h0] at h
    by_cases h1 : kd = 1 ∨ kd = 2
    · rw [if_pos h1] at h
      refine ⟨h1.elim (fun z => Or.inr (Or.inl z)) (fun z => Or.inr (Or.inr (Or.inl z))), ?_, fun _ => ga_b_n0 h⟩
      rcases h1 with z | z <;> rw [z] <;> decide
    · rw [if_neg h1] at h
      refine ⟨?_, ?_, fun z => absurd z h1⟩
      · by_cases h3 : kd = 3 ∨ kd = 4 ∨ kd = 5 ∨ kd = 6
        · rw [if_pos h3] at h
          have hfe := ga_b_n0 h
          right; right; right; left
          rcases h3 with z | z | z | z
          · exact fen 0 (by omega) z hfe
          · exact fen 1 (by omega) z hfe
          · exact fen 2 (by omega) z hfe
          · exact fen 3 (by omega) z hfe
        · rw [if_neg h3] at h
          by_cases h7 : kd = 7
          · exact Or.inr (Or.inr (Or.inr (Or.inr (Or.inl h7))))
          · rw [if_neg h7] at h
            by_cases h9 : kd = 9
            · exact Or.inr (Or.inr (Or.inr (Or.inr (Or.inr (Or.inr (Or.inl h9))))))
            · rw [if_neg h9] at h
              by_cases h8 : kd = 8 ∨ kd = 10 ∨ kd = 11
              · rcases h8 with z | z | z
                · exact Or.inr (Or.inr (Or.inr (Or.inr (Or.inr (Or.inl z)))))
                · exact Or.inr (Or.inr (Or.inr (Or.inr (Or.inr (Or.inr (Or.inr (Or.inl z)))))))
                · exact Or.inr (Or.inr (Or.inr (Or.inr (Or.inr (Or.inr (Or.inr (Or.inr z)))))))
              · rw [if_neg h8] at h; exact absurd rfl h
      · by_cases h3 : kd = 3 ∨ kd = 4 ∨ kd = 5 ∨ kd = 6
        · rcases h3 with z | z | z | z <;> rw [z] <;> decide
        · rw [if_neg h3] at h
          by_cases h7 : kd = 7
          · rw [h7]; decide
          · rw [if_neg h7] at h
            by_cases h9 : kd = 9
            · rw [h9]; decide
            · rw [if_neg h9] at h
              by_cases h8 : kd = 8 ∨ kd = 10 ∨ kd = 11
              · rcases h8 with z | z | z <;> rw [z] <;> decide
              · rw [if_neg h8] at h; exact absurd rfl h
section
variable {mw mq mf ma mb ms : Nat → Int32} {av : Nat → a_S} {ol nw : Nat → Option Nat} {an r : Nat} {kd fe a b : Int32}
/-- a report more -/
theorem j_A_rep (h : j_A (mw, mq, mf, ma, mb, ms) av ol nw an) (hr : r < 24) (ha : an < 400) (hy : y_ok kd fe) (h0 : 0 ≤ kd) (hs : (kd = 1 ∨ kd = 2) → 0 ≤ a ∧ a ≤ 86399) : j_A (upd mw (an + 1) (nI r), upd mq (an + 1) kd, upd mf (an + 1) fe, upd ma (an + 1) a, upd mb (an + 1) b, upd ms (an + 1) 0) (l_av av nw r kd fe a b an) (l_ol ol nw r (an + 106)) (va_up nw r (some (an + 106))) (an + 1) := by
  obtain ⟨h1, h2, h3, h4, h5, h6, h7, h8, h9⟩ := h
  have lst := h6 r hr
  have U : ∀ (f : Nat → Int32) (v : Int32) (k : Nat), k ≤ an → upd f (an + 1) v k = f k := fun f v k hk => pk_un (by omega)
  have V : ∀ (f : Nat → Int32) (v : Int32), upd f (an + 1) v (an + 1) = v := fun f v => if_pos rfl
  have rep : ∀ (j r' : Nat), j ≤ an → ((0 ≤ upd mq (an + 1) kd j ∧ upd mw (an + 1) (nI r) j = nI r') ↔ (0 ≤ mq j ∧ mw j = nI r')) := fun j r' hj => by rw [U _ _ _ hj, U _ _ _ hj]
  have avn : l_av av nw r kd fe a b an (an + 1) = l_new r kd fe a b an := by
    unfold l_av
    cases hn : nw r with
    | none => exact up_s
    | some q =>
      rw [hn] at lst
      obtain ⟨k0, k1, k2, k3, -⟩ := lst
      dsimp only
      rw [up_n (by omega), up_s]
  have avo : ∀ k, k ≤ an → (nw r = some (k + 105) ∧ 1 ≤ k ∧ l_av av nw r kd fe a b an k = l_nx (av k) (an + 106)) ∨ (¬ (1 ≤ k ∧ nw r = some (k + 105)) ∧ l_av av nw r kd fe a b an k = av k) := by
    intro k hk
    unfold l_av
    cases hn : nw r with
    | none => exact Or.inr ⟨fun z => by (have := z.2; cases this), up_n (by omega)⟩
    | some q =>
      rw [hn] at lst
      obtain ⟨k0, k1, k2, k3, -⟩ := lst
      dsimp only
      by_cases e : k = k0
      · subst e
        exact Or.inl ⟨by rw [k3], k1, by rw [k3, show k + 105 - 105 = k by omega, up_s]⟩
      · exact Or.inr ⟨fun z => e (by have := z.2; cases this; omega), by rw [k3, show k0 + 105 - 105 = k0 by omega, up_n e, up_n (by omega)]⟩
  have av1 : ∀ k, k ≤ an → (l_av av nw r kd fe a b an k).1 = (av k).1 := fun k hk => by
    rcases avo k hk with ⟨-, -, e⟩ | ⟨-, e⟩ <;> rw [e] <;> rfl
  refine ⟨by omega, ?_, ?_, ?_, ?_, ?_, ?_, ?_, ?_⟩
  · intro k k1 k2 k3
    by_cases e : k = an + 1
    · subst e
      refine ⟨none, r, V _ _, hr, ?_, fun j j1 j2 => by omega, ?_, ?_⟩
      · rw [avn]
        dsimp only
        rw [V, V, V, V, V, V]
        rfl
      · dsimp only; rw [V, V]; exact hy
      · dsimp only; rw [V]; decide
    · have hk : k ≤ an := by omega
      dsimp only at k3 ⊢
      rw [U _ _ _ hk] at k3
      obtain ⟨nx, r', e1, e2, e3, e4, e5, e6⟩ := h2 k k1 hk k3
      dsimp only at e1 e3 e5 e6
      rw [U _ _ _ hk, U _ _ _ hk, U _ _ _ hk, U _ _ _ hk, U _ _ _ hk, U _ _ _ hk]
      rcases avo k hk with ⟨hn, hk1, ea⟩ | ⟨hn, ea⟩
      · rw [hn] at lst
        obtain ⟨k0, l1, l2, l3, l4, l5⟩ := lst
        have ek : k = k0 := by omega
        subst ek
        have er : r' = r := by
          have := l4.2.symm.trans e1
          exact (nI_inj this (by omega) (by omega)).symm
        subst er
        refine ⟨some (an + 106), r', e1, e2, ?_, ⟨an + 1, by omega, by omega, by omega, ⟨by dsimp only; rw [V]; exact h0, V _ _⟩, fun i i1 i2 => ?_⟩, e5, e6⟩
        · rw [ea, e3]; rfl
        · have := iff_n (rep i r' (by omega)) (l5 i i1 (by omega))
          exact this
      · refine ⟨nx, r', e1, e2, by rw [ea]; exact e3, ?_, e5, e6⟩
        cases nx with
        | none =>
          intro j j1 j2
          by_cases ej : j = an + 1
          · subst ej
            intro z
            dsimp only at z
            rw [V, V] at z
            have er : r = r' := nI_inj z.2 (by omega) (by omega)
            subst er
            apply hn
            refine ⟨k1, ?_⟩
            cases hnw : nw r with
            | none =>
              rw [hnw] at lst
              exact absurd ⟨k3, e1⟩ (lst k k1 hk)
            | some q =>
              rw [hnw] at lst
              obtain ⟨k0, l1, l2, l3, l4, l5⟩ := lst
              have : k0 = k := by
                rcases Nat.lt_trichotomy k0 k with g | g | g
                · exact absurd ⟨k3, e1⟩ (l5 k g hk)
                · exact g
                · exact absurd l4 (e4 k0 g l2)
              rw [l3, this]
          · exact iff_n (rep j r' (by omega)) (e4 j j1 (by omega))
        | some q =>
          obtain ⟨j, j1, j2, j3, j4, j5⟩ := e4
          exact ⟨j, j1, by omega, j3, (rep j r' j2).mpr j4, fun i i1 i2 => iff_n (rep i r' (by omega)) (j5 i i1 i2)⟩
  · intro k k1 k2 k3
    by_cases e : k = an + 1
    · subst e; left; exact V _ _
    · have hk : k ≤ an := by omega
      dsimp only at k3 ⊢
      rw [U _ _ _ hk] at k3
      rw [U _ _ _ hk, U _ _ _ hk]
      rcases h3 k k1 hk k3 with z | ⟨m, m1, m2, m3, m4⟩
      · exact Or.inl z
      · exact Or.inr ⟨m, m1, by omega, m3, by rw [av1 m m2]; exact m4⟩
  · intro k k1 k2 k3
    by_cases e : k = an + 1
    · subst e
      dsimp only at k3 ⊢
      rw [V] at k3
      rw [V]
      exact hs k3
    · have hk : k ≤ an := by omega
      dsimp only at k3 ⊢
      rw [U _ _ _ hk] at k3
      rw [U _ _ _ hk]
      exact h4 k k1 hk k3
  · intro r' hr'
    have ch := h5 r' hr'
    by_cases e : r' = r
    · subst e
      unfold l_ol
      cases hn : nw r' with
      | none =>
        rw [hn] at lst
        dsimp only
        rw [up_s]
        exact ⟨an + 1, by omega, by omega, by omega, ⟨by dsimp only; rw [V]; exact h0, V _ _⟩, fun i i1 i2 => iff_n (rep i r' (by omega)) (lst i (by omega) (by omega))⟩
      | some q =>
        rw [hn] at lst
        obtain ⟨k0, l1, l2, l3, l4, l5⟩ := lst
        dsimp only
        cases ho : ol r' with
        | none => rw [ho] at ch; exact absurd l4 (ch k0 (by omega) l2)
        | some q' =>
          rw [ho] at ch
          obtain ⟨j, j1, j2, j3, j4, j5⟩ := ch
          exact ⟨j, j1, by omega, j3, (rep j r' j2).mpr j4, fun i i1 i2 => iff_n (rep i r' (by omega)) (j5 i i1 i2)⟩
    · have eo : l_ol ol nw r (an + 106) r' = ol r' := by
        unfold l_ol
        cases nw r with
        | none => exact up_n e
        | some q => rfl
      rw [eo]
      cases ho : ol r' with
      | none =>
        rw [ho] at ch
        intro j j1 j2
        by_cases ej : j = an + 1
        · subst ej
          intro z
          dsimp only at z
          rw [V, V] at z
          exact e (nI_inj z.2 (by omega) (by omega)).symm
        · exact iff_n (rep j r' (by omega)) (ch j j1 (by omega))
      | some q' =>
        rw [ho] at ch
        obtain ⟨j, j1, j2, j3, j4, j5⟩ := ch
        exact ⟨j, j1, by omega, j3, (rep j r' j2).mpr j4, fun i i1 i2 => iff_n (rep i r' (by omega)) (j5 i i1 i2)⟩
  · intro r' hr'
    by_cases e : r' = r
    · subst e
      rw [up_s]
      exact ⟨an + 1, by omega, by omega, by omega, ⟨by dsimp only; rw [V]; exact h0, V _ _⟩, fun j j1 j2 => by omega⟩
    · rw [up_n e]
      have ls := h6 r' hr'
      have no : ¬ (0 ≤ upd mq (an + 1) kd (an + 1) ∧ upd mw (an + 1) (nI r) (an + 1) = nI r') := fun z => by
        rw [V, V] at z
        exact e (nI_inj z.2 (by omega) (by omega)).symm
      cases hn : nw r' with
      | none =>
        rw [hn] at ls
        intro j j1 j2
        by_cases ej : j = an + 1
        · subst ej; exact no
        · exact iff_n (rep j r' (by omega)) (ls j j1 (by omega))
      | some q =>
        rw [hn] at ls
        obtain ⟨k0, l1, l2, l3, l4, l5⟩ := ls
        refine ⟨k0, l1, by omega, l3, (rep k0 r' l2).mpr l4, fun j j1 j2 => ?_⟩
        by_cases ej : j = an + 1
        · subst ej; exact no
        · exact iff_n (rep j r' (by omega)) (l5 j j1 (by omega))
  · intro k k1 k2 k3
    dsimp only at k3
    by_cases e : k = an + 1
    · subst e; rw [V] at k3; exact absurd h0 k3
    · have hk : k ≤ an := by omega
      rw [U _ _ _ hk] at k3
      rcases avo k hk with ⟨hn, hk1, ea⟩ | ⟨hn, ea⟩
      · rw [hn] at lst
        obtain ⟨k0, l1, l2, l3, l4, l5⟩ := lst
        have ek : k = k0 := by omega
        subst ek
        exact absurd l4.1 k3
      · rw [ea]; exact h7 k k1 hk k3
  · intro r' q hq
    unfold l_ol at hq
    cases hn : nw r with
    | none =>
      rw [hn] at hq
      dsimp only at hq
      by_cases e : r' = r
      · subst e; rw [up_s] at hq; cases hq; omega
      · rw [up_n e] at hq; exact h8 r' q hq
    | some q' => rw [hn] at hq; exact h8 r' q hq
  · intro r' q hq
    by_cases e : r' = r
    · subst e; rw [up_s] at hq; cases hq; omega
    · rw [up_n e] at hq; exact h9 r' q hq
/-- a strike more -/
theorem j_A_str {k0 : Nat} (h : j_A (mw, mq, mf, ma, mb, ms) av ol nw an) (ha : an < 400) (h01 : 1 ≤ k0) (h02 : k0 ≤ an) (h03 : 0 ≤ mq k0) : j_A (mw, upd mq (an + 1) (-1), mf, ma, mb, upd ms k0 (nI (an + 1))) (l_sv av k0 an) ol nw (an + 1) := by
  obtain ⟨h1, h2, h3, h4, h5, h6, h7, h8, h9⟩ := h
  have U : ∀ k, k ≤ an → upd mq (an + 1) (-1) k = mq k := fun k hk => pk_un (by omega)
  have N : ¬ (0 : Int32) ≤ upd mq (an + 1) (-1) (an + 1) := by rw [show upd mq (an + 1) (-1) (an + 1) = -1 from if_pos rfl]; decide
  have rep : ∀ (j r' : Nat), j ≤ an → ((0 ≤ upd mq (an + 1) (-1) j ∧ mw j = nI r') ↔ (0 ≤ mq j ∧ mw j = nI r')) := fun j r' hj => by rw [U _ hj]
  have avk : l_sv av k0 an k0 = ((av k0).1, (av k0).2.1, (av k0).2.2.1, (av k0).2.2.2.1, (av k0).2.2.2.2.1, (av k0).2.2.2.2.2.1, nI (an + 1), (av k0).2.2.2.2.2.2.2) := by unfold l_sv; rw [up_s]
  have avn : l_sv av k0 an (an + 1) = ((av k0).1, 12, -1, 0, 0, nI (an + 1), -1, none) := by unfold l_sv; rw [up_n (by omega), up_s]
  have avo : ∀ k, k ≤ an → ¬ k = k0 → l_sv av k0 an k = av k := fun k hk e => by unfold l_sv; rw [up_n e, up_n (by omega)]
  have av1 : ∀ k, k ≤ an → (l_sv av k0 an k).1 = (av k).1 := fun k hk => by
    by_cases e : k = k0
    · subst e; rw [avk]
    · rw [avo k hk e]
  have chn : ∀ k r' p, a_ch (mw, mq, mf, ma, mb, ms) an r' k p → a_ch (mw, upd mq (an + 1) (-1), mf, ma, mb, upd ms k0 (nI (an + 1))) (an + 1) r' k p := by
    intro k r' p hp
    cases p with
    | none =>
      intro j j1 j2
      by_cases ej : j = an + 1
      · subst ej; exact fun z => N z.1
      · exact iff_n (rep j r' (by omega)) (hp j j1 (by omega))
    | some q =>
      obtain ⟨j, j1, j2, j3, j4, j5⟩ := hp
      exact ⟨j, j1, by omega, j3, (rep j r' j2).mpr j4, fun i i1 i2 => iff_n (rep i r' (by omega)) (j5 i i1 i2)⟩
  refine ⟨by omega, ?_, ?_, ?_, fun r' hr' => chn 0 r' _ (h5 r' hr'), ?_, ?_, h8, h9⟩
  · intro k k1 k2 k3
    dsimp only at k3 ⊢
    by_cases e : k = an + 1
    · subst e; exact absurd k3 N
    · have hk : k ≤ an := by omega
      rw [U _ hk] at k3 ⊢
      obtain ⟨nx, r', e1, e2, e3, e4, e5, e6⟩ := h2 k k1 hk k3
      dsimp only at e1 e3 e5 e6
      by_cases ek : k = k0
      · subst ek
        rw [show upd ms k (nI (an + 1)) k = nI (an + 1) from if_pos rfl]
        have hne : a_sb (nI (an + 1)) = nI (an + 1) := by unfold a_sb; rw [if_neg (nI_ne0 (by omega) (by omega))]
        refine ⟨nx, r', e1, e2, ?_, chn k r' nx e4, e5, nI_pos' (by omega)⟩
        rw [avk, e3, hne]
      · rw [pk_un ek]
        exact ⟨nx, r', e1, e2, by rw [avo k hk ek]; exact e3, chn k r' nx e4, e5, e6⟩
  · intro k k1 k2 k3
    dsimp only at k3 ⊢
    by_cases e : k = an + 1
    · subst e; exact absurd k3 N
    · have hk : k ≤ an := by omega
      rw [U _ hk] at k3
      by_cases ek : k = k0
      · subst ek
        obtain ⟨nx, r', e1, e2, e3, -⟩ := h2 k k1 hk k3
        dsimp only at e3
        right
        exact ⟨an + 1, by omega, by omega, if_pos rfl, by rw [avn]; rw [e3]⟩
      · rw [pk_un ek]
        rcases h3 k k1 hk k3 with z | ⟨m, m1, m2, m3, m4⟩
        · exact Or.inl z
        · exact Or.inr ⟨m, m1, by omega, m3, by rw [av1 m m2]; exact m4⟩
  · intro k k1 k2 k3
    dsimp only at k3 ⊢
    by_cases e : k = an + 1
    · subst e
      rw [show upd mq (an + 1) (-1) (an + 1) = -1 from if_pos rfl] at k3
      exact absurd k3 (by decide)
    · have hk : k ≤ an := by omega
      rw [U _ hk] at k3
      exact h4 k k1 hk k3
  · intro r' hr'
    have ls := h6 r' hr'
    cases hn : nw r' with
    | none =>
      rw [hn] at ls
      intro j j1 j2
      by_cases ej : j = an + 1
      · subst ej; exact fun z => N z.1
      · exact iff_n (rep j r' (by omega)) (ls j j1 (by omega))
    | some q =>
      rw [hn] at ls
      obtain ⟨k1, l1, l2, l3, l4, l5⟩ := ls
      refine ⟨k1, l1, by omega, l3, (rep k1 r' l2).mpr l4, fun j j1 j2 => ?_⟩
      by_cases ej : j = an + 1
      · subst ej; exact fun z => N z.1
      · exact iff_n (rep j r' (by omega)) (l5 j j1 (by omega))
  · intro k k1 k2 k3
    dsimp only at k3
    by_cases e : k = an + 1
    · subst e; rw [avn]; exact ⟨rfl, rfl⟩
    · have hk : k ≤ an := by omega
      rw [U _ hk] at k3
      by_cases ek : k = k0
      · subst ek; exact absurd h03 k3
      · rw [avo k hk ek]; exact h7 k k1 hk k3
theorem y_ok_12 {x f : Int32} (h : y_ok x f) : ¬ x = 12 := by
  rcases h with e | e | e | ⟨i, g, h1, h2, e, -⟩ | e | e | e | e | e
  · rw [e]; decide
  · rw [e]; decide
  · rw [e]; decide
  · rw [e]; intro z; have := nI_inj (b := 12) z (by omega) (by omega); omega
  · rw [e]; decide
  · rw [e]; decide
  · rw [e]; decide
  · rw [e]; decide
  · rw [e]; decide
/-- what may be struck, as either side asks -/
theorem j_A_may {k : Nat} (h : j_A (mw, mq, mf, ma, mb, ms) av ol nw an) (h1 : 1 ≤ k) (h2 : k ≤ an) : ((av k).2.1 ≠ 12 ∧ (av k).2.2.2.2.2.2.1 = -1) ↔ (0 ≤ mq k ∧ ms k ≤ 0) := by
  by_cases hq : 0 ≤ mq k
  · obtain ⟨nx, r', e1, e2, e3, e4, e5, e6⟩ := h.2.1 k h1 h2 hq
    dsimp only at e3 e5 e6
    rw [e3]
    dsimp only
    constructor
    · intro z
      refine ⟨hq, ?_⟩
      have z2 := z.2
      unfold a_sb at z2
      by_cases e : ms k = 0
      · rw [e]; decide
      · rw [if_neg e] at z2; rw [z2]; decide
    · intro z
      refine ⟨y_ok_12 e5, ?_⟩
      have : ms k = 0 := v_asym z.2 e6
      unfold a_sb
      rw [if_pos this]
  · have := h.2.2.2.2.2.2.1 k h1 h2 hq
    exact ⟨fun z => absurd this.1 z.1, fun z => absurd z.1 hq⟩
/-- what was known stays so -/
theorem s_F_rep {ah ou : Nat → Int32} {op v : Int32} {fn t r' : Nat} {R : e_R} (ht : t ≤ an) : s_F ((upd mw (an + 1) v, upd mq (an + 1) kd, upd mf (an + 1) fe, upd ma (an + 1) a, upd mb (an + 1) b, upd ms (an + 1) 0), ah, ou, op, fn) R r' t = s_F ((mw, mq, mf, ma, mb, ms), ah, ou, op, fn) R r' t := by
  refine s_F_ext (y_at_ext (fun k k1 k2 => ?_) t)
  dsimp only
  rw [pk_un (show k ≠ an + 1 by omega), pk_un (show k ≠ an + 1 by omega), pk_un (show k ≠ an + 1 by omega), pk_un (show k ≠ an + 1 by omega), pk_un (show k ≠ an + 1 by omega), pk_un (show k ≠ an + 1 by omega)]
  exact ⟨rfl, rfl, rfl, rfl, rfl, fun z => ⟨fun _ => z, Or.inr z⟩, fun z => z.2.elim z.1 id⟩
theorem s_F_str {ah ou : Nat → Int32} {op : Int32} {fn t r' k0 : Nat} {R : e_R} (ht : t ≤ an) (ha : an < 400) (h0 : ms k0 = 0) : s_F ((mw, upd mq (an + 1) (-1), mf, ma, mb, upd ms k0 (nI (an + 1))), ah, ou, op, fn) R r' t = s_F ((mw, mq, mf, ma, mb, ms), ah, ou, op, fn) R r' t := by
  refine s_F_ext (y_at_ext (fun k k1 k2 => ?_) t)
  dsimp only
  rw [pk_un (show k ≠ an + 1 by omega)]
  refine ⟨rfl, rfl, rfl, rfl, rfl, ?_⟩
  by_cases e : k = k0
  · subst e
    rw [show upd ms k (nI (an + 1)) k = nI (an + 1) from if_pos rfl]
    have hlt : nI t < nI (an + 1) := nI_lt (by omega) (by omega)
    exact ⟨fun _ => ⟨fun _ => Or.inl h0, Or.inr (Or.inr hlt)⟩, fun _ => Or.inr hlt⟩
  · rw [pk_un e]
    exact ⟨fun z => ⟨fun _ => z, Or.inr z⟩, fun z => z.2.elim z.1 id⟩
end
