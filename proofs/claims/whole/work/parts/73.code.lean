/-! ===== the code of the rules is in order ===== -/
def z_d : Nat → List (Nat × Nat) → Nat
  | d, [] => d
  | d, x :: c => z_d (e_d1 x d) c
def z_ok (s : Nat) : Nat → List (Nat × Nat) → Prop
  | _, [] => True
  | d, x :: c => e_ok1 x d ∧ (x.1 = 1 → x.2 < s) ∧ z_ok s (e_d1 x d) c
theorem z_d_app : ∀ (a b : List (Nat × Nat)) (d : Nat), z_d d (a ++ b) = z_d (z_d d a) b
  | [], _, _ => rfl
  | _ :: a, b, d => z_d_app a b _
theorem z_ok_app {s : Nat} : ∀ (a b : List (Nat × Nat)) (d : Nat), z_ok s d a → z_ok s (z_d d a) b → z_ok s d (a ++ b)
  | [], _, _, _, h => h
  | _ :: a, b, _, h1, h2 => ⟨h1.1, h1.2.1, z_ok_app a b _ h1.2.2 h2⟩
/-- a sum's code: it wants so much of the stack, and leaves one number more -/
def z_g (s h : Nat) (c : List (Nat × Nat)) : Prop := ∀ d, d + h ≤ 32 → z_ok s d c ∧ z_d d c = d + 1
abbrev z_gf (s h : Nat) (F : Nat → z_R) : Prop := ∀ q q' c, F q = .inr (q', c) → z_g s h c
theorem z_g_le {s h h' : Nat} {c : List (Nat × Nat)} (hg : z_g s h c) (hh : h ≤ h') : z_g s h' c := fun d hd => hg d (by omega)
theorem z_g_two {s h o : Nat} {a b : List (Nat × Nat)} (ha : z_g s (h + 1) a) (hb : z_g s h b) (h1 : 1 ≤ h) (ho : e_op o) : z_g s (h + 1) (a ++ b ++ [(o, 0)]) := by
  intro d hd
  obtain ⟨a1, a2⟩ := ha d hd
  obtain ⟨b1, b2⟩ := hb (d + 1) (by omega)
  have e1 : z_d d (a ++ b) = d + 2 := by rw [z_d_app, a2, b2]
  have hd1 : e_d1 (o, 0) (d + 2) = d + 1 := by
    unfold e_op at ho
    unfold e_d1
    dsimp only
    rw [if_neg (by omega), if_neg (by omega), if_neg (by omega)]
    omega
  refine ⟨z_ok_app _ _ _ (z_ok_app _ _ _ a1 (by rw [a2]; exact b1)) ?_, ?_⟩
  · rw [e1]
    exact ⟨Or.inr (Or.inr (Or.inr ⟨ho, by omega, by omega⟩)), fun z => by unfold e_op at ho; dsimp only at z; omega, trivial⟩
  · rw [z_d_app, e1]
    exact hd1
section
variable {tb : Nat → Int32} {lt : Nat} {nm : Nat → Int64} {s h p q : Nat} {fac : Nat → z_R}
theorem x_slot_lt (h97 : x_tk tb lt q = 97) (hl : lt ≤ 600) (hs : ∀ j, s ≤ j → j < 39 → nm j = 0) (hs39 : s ≤ 39) (hn : ¬ x_slot nm (x_tv tb lt q) = -1) : (x_slot nm (x_tv tb lt q)).toNatClampNeg < s := by
  obtain ⟨w1, w2, w3, w4, w5, w6⟩ := x_word h97 hl
  have hv0 := x_wv_0 w6 w3
  rw [← w2] at hv0
  unfold x_slot at hn ⊢
  rcases p_fd_or (P := fun j => decide (nm j = x_tv tb lt q)) (rn := 39) (by omega) 39 with e | ⟨j, hj, hP, e⟩
  · exact absurd e hn
  · rw [e, nI_clamp (by omega)]
    have hv := of_decide_eq_true hP
    by_cases h : j < s
    · exact h
    · exact absurd (hv.symm.trans (hs j (by omega) hj)) hv0
theorem g_div {q' : Nat} {c : List (Nat × Nat)} (h : R_div tb lt q = .inr (q', c)) : ∀ d, 1 ≤ d → d ≤ 32 → z_ok s d c ∧ z_d d c = d := by
  intro d h1 h2
  unfold R_div at h
  split at h
  · rename_i h48
    split at h
    · cases h
    · rename_i h5
      split at h
      · cases h
      · rename_i h0
        cases h
        have hb := (x_num_N h48 h5).2
        exact ⟨⟨Or.inr (Or.inr (Or.inl ⟨rfl, ⟨h1, h2⟩, by show 1 ≤ x_num tb lt q; omega, hb⟩)), fun z => absurd z (by show ¬ (5 : Nat) = 1; omega), trivial⟩, rfl⟩
  · cases h
theorem g_br {F : Nat → z_R} (hF : z_gf s h F) (h1 : 1 ≤ h) (hp : p = 0 ∨ p = 6 ∨ p = 7) : z_gf s (h + 1) (R_br tb lt (some F) p) := by
  intro q q' c hR
  unfold R_br at hR
  split at hR
  · dsimp only at hR
    split at hR
    · cases hR
    · rename_i q2 c2 hq2
      have g2 := hF _ _ _ hq2
      split at hR
      · split at hR
        · cases hR; exact z_g_le g2 (by omega)
        · cases hR
      · rename_i hp0
        split at hR
        · split at hR
          · cases hR
          · rename_i q3 c3 hq3
            have g3 := hF _ _ _ hq3
            split at hR
            · cases hR
              exact z_g_two (z_g_le g2 (by omega)) g3 h1 (by unfold e_op; omega)
            · cases hR
        · cases hR
  · cases hR
theorem x_pair_067 : x_pair tb lt q = 0 ∨ x_pair tb lt q = 6 ∨ x_pair tb lt q = 7 := by
  rcases x_pair_3 (tb := tb) (lt := lt) (q := q) with z | z | z
  · exact Or.inr (Or.inl z.1)
  · exact Or.inr (Or.inr z.1)
  · exact Or.inl z.1
theorem g_fa {S : Option (Nat → z_R)} (hl : lt ≤ 600) (hs : ∀ j, s ≤ j → j < 39 → nm j = 0) (hs39 : s ≤ 39) (h1 : 1 ≤ h) (hS : ∀ p, (p = 0 ∨ p = 6 ∨ p = 7) → z_gf s h (R_br tb lt S p)) : z_gf s h (R_fa tb lt nm S) := by
  intro q q' c hR
  unfold R_fa at hR
  split at hR
  · rename_i h48
    split at hR
    · cases hR
    · rename_i h5
      cases hR
      have hb := (x_num_N h48 h5).2
      intro d hd
      exact ⟨⟨Or.inl ⟨rfl, by omega, hb⟩, fun z => absurd z (by show ¬ (0 : Nat) = 1; omega), trivial⟩, rfl⟩
  · split at hR
    · rename_i h97
      cases hx : x_nE tb lt nm 1 q with
      | some e => rw [hx] at hR; cases hR
      | none =>
        rw [hx] at hR
        cases hR
        have hn : ¬ x_slot nm (x_tv tb lt q) = -1 := by
          intro z
          unfold x_nE at hx
          split at hx
          · cases hx
          · split at hx
            · cases hx
            · rw [if_neg (by decide)] at hx; cases hx
        have hb := x_slot_lt h97.1 hl hs hs39 hn
        intro d hd
        exact ⟨⟨Or.inr (Or.inl ⟨rfl, by omega, by show (x_slot nm (x_tv tb lt q)).toNatClampNeg < 39; omega⟩), fun _ => hb, trivial⟩, rfl⟩
    · exact hS _ x_pair_067 _ _ _ hR
theorem g_br0 : z_gf s h (R_br tb lt none p) := by
  intro q q' c hR
  unfold R_br at hR
  split at hR
  · cases hR
  · cases hR
theorem g_pl (hF : z_gf s h fac) (h1 : 1 ≤ h) : ∀ m q c q' c', z_g s (h + 1) c → R_pl tb lt fac m q c = .inr (q', c') → z_g s (h + 1) c'
  | 0, q, c, q', c', hc, hR => by rw [R_pl] at hR; cases hR; exact hc
  | m + 1, q, c, q', c', hc, hR => by
    rw [R_pl] at hR
    split at hR
    · split at hR
      · cases hR
      · rename_i q1 c1 hq1
        exact g_pl hF h1 m _ _ _ _ (z_g_two hc (hF _ _ _ hq1) h1 (by unfold e_op; omega)) hR
    · split at hR
      · split at hR
        · cases hR
        · rename_i q1 c1 hq1
          refine g_pl hF h1 m _ _ _ _ (fun d hd => ?_) hR
          obtain ⟨a1, a2⟩ := hc d hd
          obtain ⟨b1, b2⟩ := g_div (s := s) hq1 (d + 1) (by omega) (by omega)
          exact ⟨z_ok_app _ _ _ a1 (by rw [a2]; exact b1), by rw [z_d_app, a2, b2]⟩
      · cases hR; exact hc
theorem g_pr (hF : z_gf s h fac) (h1 : 1 ≤ h) : z_gf s (h + 1) (R_pr tb lt fac) := by
  intro q q' c hR
  unfold R_pr at hR
  split at hR
  · cases hR
  · rename_i q1 c1 hq1
    exact g_pl hF h1 _ _ _ _ _ (z_g_le (hF _ _ _ hq1) (by omega)) hR
theorem g_sl {pr : Nat → z_R} (hF : z_gf s h pr) (h1 : 1 ≤ h) : ∀ m q c q' c', z_g s (h + 1) c → R_sl tb lt pr m q c = .inr (q', c') → z_g s (h + 1) c'
  | 0, q, c, q', c', hc, hR => by rw [R_sl] at hR; cases hR; exact hc
  | m + 1, q, c, q', c', hc, hR => by
    rw [R_sl] at hR
    split at hR
    · split at hR
      · cases hR
      · rename_i q1 c1 hq1
        exact g_sl hF h1 m _ _ _ _ (z_g_two hc (hF _ _ _ hq1) h1 (by unfold e_op; split <;> omega)) hR
    · cases hR; exact hc
theorem g_su (hF : z_gf s h fac) (h1 : 1 ≤ h) : z_gf s (h + 2) (R_su tb lt fac) := by
  intro q q' c hR
  unfold R_su at hR
  split at hR
  · cases hR
  · rename_i q1 c1 hq1
    have g := g_pr (tb := tb) (lt := lt) hF h1
    exact g_sl g (by omega) _ _ _ _ _ (z_g_le (g _ _ _ hq1) (by omega)) hR
theorem g_F (hl : lt ≤ 600) (hs : ∀ j, s ≤ j → j < 39 → nm j = 0) (hs39 : s ≤ 39) : ∀ f, z_gf s (1 + 3 * f) (R_F tb lt nm f)
  | 0 => g_fa hl hs hs39 (by omega) (fun _ _ => g_br0)
  | f + 1 => g_fa hl hs hs39 (by omega) (fun p hp => by
      have := g_br (tb := tb) (lt := lt) (p := p) (g_su (tb := tb) (lt := lt) (g_F hl hs hs39 f) (by omega)) (by omega) hp
      rw [show 1 + 3 * (f + 1) = 1 + 3 * f + 2 + 1 by omega]
      exact this)
theorem g_S (hl : lt ≤ 600) (hs : ∀ j, s ≤ j → j < 39 → nm j = 0) (hs39 : s ≤ 39) : z_gf s 21 (R_S tb lt nm) := g_su (g_F hl hs hs39 6) (by omega)
theorem x_cm_op {t : Int32} (h : ¬ x_cm t = 0) : e_op (x_cm t) := by
  rcases x_cm_c (c := t) with ⟨a, b⟩ | ⟨a1, a, b⟩ | ⟨a1, a2, a, b⟩ | ⟨a1, a2, a3, b⟩
  · rw [b]; unfold e_op; omega
  · rw [b]; unfold e_op; omega
  · rw [b]; unfold e_op; omega
  · exact absurd b h
theorem g_one (hl : lt ≤ 600) (hs : ∀ j, s ≤ j → j < 39 → nm j = 0) (hs39 : s ≤ 39) : z_gf s 22 (R_one tb lt nm) := by
  intro q q' c hR
  have gS := g_S (tb := tb) hl hs hs39
  unfold R_one at hR
  split at hR
  · cases hR
  · rename_i q1 c1 hq1
    have key : z_g s 22 c1 := by
      unfold R_stm at hq1
      split at hq1
      · unfold R_out at hq1
        split at hq1
        · split at hq1
          · cases hq1
          · rename_i q3 c3 hq3
            split at hq1
            · cases hq1
            · rename_i hc0
              split at hq1
              · cases hq1
              · rename_i q5 c5 hq5
                cases hq1
                exact z_g_two (z_g_le (gS _ _ _ hq3) (by omega)) (gS _ _ _ hq5) (by omega) (x_cm_op hc0)
        · cases hq1
      · split at hq1
        · exact z_g_le (gS _ _ _ hq1) (by omega)
        · unfold R_giv at hq1
          split at hq1
          · cases hq1
          · split at hq1
            · exact z_g_le (gS _ _ _ hq1) (by omega)
            · cases hq1
    split at hR
    · cases hR; exact key
    · cases hR
end
/-- the code of every statement, in order -/
def z_Ls (Ls C : List (Nat × Nat)) : Prop := ∀ k, k < Ls.length → e_fr (L_en Ls) k ≤ L_en Ls k ∧ L_en Ls k ≤ C.length ∧ ∃ c, z_g (15 + k) 22 c ∧ L_en Ls k - e_fr (L_en Ls) k = c.length ∧ ∀ i, i < c.length → C.getD (e_fr (L_en Ls) k + i) (0, 0) = c.getD i (0, 0)
theorem z_Ls_s {Ls C c : List (Nat × Nat)} {fm : Nat} (h : z_Ls Ls C) (hC : C.length = e_fr (L_en Ls) Ls.length) (hc : z_g (15 + Ls.length) 22 c) : z_Ls (Ls ++ [((C ++ c).length, fm)]) (C ++ c) := by
  intro k hk
  rw [List.length_append, List.length_singleton] at hk
  rw [L_fr (by omega)]
  by_cases e : k = Ls.length
  · subst e
    have e1 : L_en (Ls ++ [((C ++ c).length, fm)]) Ls.length = (C ++ c).length := by unfold L_en; rw [gD_r]
    rw [e1, ← hC, List.length_append]
    refine ⟨by omega, Nat.le_refl _, c, hc, by omega, fun i hi => ?_⟩
    simp [List.getD, List.getElem?_append, show ¬ C.length + i < C.length by omega]
  · have e1 : L_en (Ls ++ [((C ++ c).length, fm)]) k = L_en Ls k := by unfold L_en; rw [gD_l (by omega)]
    obtain ⟨a1, a2, c', a3, a4, a5⟩ := h k (by omega)
    rw [e1, List.length_append]
    refine ⟨a1, by omega, c', a3, a4, fun i hi => ?_⟩
    rw [← a5 i hi]
    simp [List.getD, List.getElem?_append, show e_fr (L_en Ls) k + i < C.length by omega]
theorem z_al {tb : Nat → Int32} {lt : Nat} (hl : lt ≤ 600) : ∀ m q Ls C nm tot Ls' C' nm' tot', m + Ls.length = 24 → (∀ k, Ls.length ≤ k → k < 24 → nm (15 + k) = 0) → z_Ls Ls C → C.length = e_fr (L_en Ls) Ls.length → R_al tb lt m q Ls C nm tot = .inr (Ls', C', nm', tot') → z_Ls Ls' C'
  | 0, q, Ls, C, nm, tot, Ls', C', nm', tot', hm, hn, hL, hC, hR => by
    rw [R_al] at hR
    split at hR
    · cases hR; exact hL
    · cases hR
  | m + 1, q, Ls, C, nm, tot, Ls', C', nm', tot', hm, hn, hL, hC, hR => by
    rw [R_al] at hR
    split at hR
    · cases hR; exact hL
    · split at hR
      · split at hR
        · cases hR
        · rename_i q1 c1 hq1
          have hg := g_one (s := 15 + Ls.length) hl (fun j h1 h2 => by have := hn (j - 15) (by omega) (by omega); rw [show 15 + (j - 15) = j by omega] at this; exact this) (by omega) _ _ _ hq1
          refine z_al hl m _ _ _ _ _ _ _ _ _ (by rw [List.length_append, List.length_singleton]; omega) (fun k h1 h2 => ?_) (z_Ls_s hL hC hg) (by rw [show (Ls ++ [((C ++ c1).length, x_fm (x_tv tb lt q))]).length = Ls.length + 1 by simp, L_fr1]) hR
          rw [List.length_append, List.length_singleton] at h1
          unfold x_nm
          split
          · unfold vp_updL; rw [if_neg (by omega)]; exact hn k (by omega) h2
          · exact hn k (by omega) h2
      · cases hR
theorem z_rd {tb : Nat → Int32} {lt : Nat} {nm nm' : Nat → Int64} {Ls C : List (Nat × Nat)} {tot : Int32} (hl : lt ≤ 600) (hR : R_rd tb lt nm = .inr (Ls, C, nm', tot)) : z_Ls Ls C := by
  unfold R_rd at hR
  split at hR
  · cases hR
  · rename_i Ls' C' nm'' tot' hq
    have := z_al hl 24 (x_sk tb lt 0) [] [] (x_n0 nm) (-1) _ _ _ _ rfl (fun k h1 h2 => by unfold x_n0; rw [if_pos (by omega)]) (fun k hk => absurd hk (Nat.not_lt_zero k)) rfl hq
    split at hR
    · cases hR
    · cases hR; exact this
theorem z_e {s from_ : Nat} {cd : Nat → Nat × Nat} : ∀ (b a : List (Nat × Nat)), (∀ i, i < (a ++ b).length → cd (from_ + i) = (a ++ b).getD i (0, 0)) → e_d cd from_ a.length = z_d 0 a → z_ok s (z_d 0 a) b → (∀ k, a.length ≤ k → k < (a ++ b).length → e_ok1 (cd (from_ + k)) (e_d cd from_ k) ∧ ((cd (from_ + k)).1 = 1 → (cd (from_ + k)).2 < s)) ∧ e_d cd from_ (a ++ b).length = z_d 0 (a ++ b)
  | [], a, _, h2, _ => by rw [List.append_nil]; exact ⟨fun k h1 h3 => absurd h3 (by omega), h2⟩
  | x :: b, a, h1, h2, h3 => by
    have hx : cd (from_ + a.length) = x := by rw [h1 a.length (by simp)]; simp [List.getD]
    have e : a ++ x :: b = (a ++ [x]) ++ b := by simp
    have ih := z_e (s := s) (from_ := from_) (cd := cd) b (a ++ [x]) (by rw [← e]; exact h1) (by rw [List.length_append, List.length_singleton, e_d, hx, h2, z_d_app]; rfl) (by rw [z_d_app]; exact h3.2.2)
    rw [e]
    refine ⟨fun k g1 g2 => ?_, ih.2⟩
    by_cases ek : k = a.length
    · subst ek; rw [hx, h2]; exact ⟨h3.1, h3.2.1⟩
    · exact ih.1 k (by rw [List.length_append, List.length_singleton]; omega) g2
theorem z_Rok {Ls C : List (Nat × Nat)} {cd : Nat → Nat × Nat} (h : z_Ls Ls C) (h24 : Ls.length ≤ 24) (hC : C.length ≤ 600) (hcd : ∀ i, i < C.length → cd i = C.getD i (0, 0)) {en : Nat → Nat} (hen : ∀ k, k < Ls.length → en k = L_en Ls k) : e_Rok cd en Ls.length := by
  refine ⟨h24, fun k hk => ?_⟩
  have hfr : e_fr en k = e_fr (L_en Ls) k := by
    match k, hk with
    | 0, _ => rfl
    | k + 1, hk => exact hen k (by omega)
  rw [hen k hk, hfr]
  obtain ⟨a1, a2, c, a3, a4, a5⟩ := h k hk
  obtain ⟨b1, b2⟩ := a3 0 (by omega)
  have key := z_e (s := 15 + k) (from_ := e_fr (L_en Ls) k) (cd := cd) c [] (fun i hi => by rw [List.nil_append] at hi ⊢; rw [hcd _ (by omega)]; exact a5 i hi) rfl b1
  rw [List.nil_append] at key
  refine ⟨a1, by omega, ?_, fun i h1 h2 h3 => ?_⟩
  · rw [a4]
    exact ⟨fun j hj => (key.1 j (Nat.zero_le j) hj).1, by rw [key.2, b2]⟩
  · have := (key.1 (i - e_fr (L_en Ls) k) (Nat.zero_le _) (by omega)).2
    rw [show e_fr (L_en Ls) k + (i - e_fr (L_en Ls) k) = i by omega] at this
    exact this h3
