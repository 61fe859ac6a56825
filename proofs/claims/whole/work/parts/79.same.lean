/-! ===== the same rules, kept in two ways ===== -/
section
variable {cd cd' : Nat → Nat × Nat} {en : Nat → Nat} {fo fo' : Nat → Int32} {sm : Nat}
theorem e_run_cd {vals : Nat → Int64} {from_ : Nat} {z : Nat × (Nat → Int64)} : ∀ k, (∀ i, i < k → cd (from_ + i) = cd' (from_ + i)) → e_run vals cd from_ k z = e_run vals cd' from_ k z
  | 0, _ => rfl
  | k + 1, h => by rw [e_run, e_run, e_run_cd k (fun i hi => h i (by omega)), h k (by omega)]
def r_cds (cd cd' : Nat → Nat × Nat) (en : Nat → Nat) (sm : Nat) : Prop := ∀ k, k < sm → ∀ i, e_fr en k ≤ i → i < en k → cd i = cd' i
theorem e_val_cd {vals : Nat → Int64} {from_ len : Nat} (h : ∀ i, from_ ≤ i → i < from_ + len → cd i = cd' i) : e_val vals cd from_ len = e_val vals cd' from_ len := by
  unfold e_val
  rw [e_run_cd len (fun i hi => h (from_ + i) (by omega) (by omega))]
theorem e_vs_cd (h : r_cds cd cd' en sm) {v0 : Nat → Int64} : ∀ k, k ≤ sm → e_vs cd en v0 k = e_vs cd' en v0 k
  | 0, _ => rfl
  | k + 1, hk => by
    rw [e_vs, e_vs, e_vs_cd h k (by omega)]
    rw [e_val_cd (cd := cd) (cd' := cd') (from_ := e_fr en k) (len := en k - e_fr en k) (fun i h1 h2 => h k (by omega) i h1 (by omega))]
theorem e_of_cd (h : r_cds cd cd' en sm) (hf : ∀ k, k < sm → fo k = fo' k) {v0 : Nat → Int64} : ∀ k, k ≤ sm → e_of cd en fo v0 k = e_of cd' en fo' v0 k
  | 0, _ => rfl
  | k + 1, hk => by
    rw [e_of, e_of, e_of_cd h hf k (by omega), e_vs_cd h k (by omega), hf k (by omega)]
    rw [e_val_cd (cd := cd) (cd' := cd') (from_ := e_fr en k) (len := en k - e_fr en k) (fun i h1 h2 => h k (by omega) i h1 (by omega))]
theorem s_F_cd (h : r_cds cd cd' en sm) (hf : ∀ k, k < sm → fo k = fo' k) {W : w_W} {tot : Int32} {r t : Nat} : s_F W (cd, en, fo, sm, tot) r t = s_F W (cd', en, fo', sm, tot) r t := by
  unfold s_F
  dsimp only
  rw [e_of_cd h hf sm (Nat.le_refl sm), e_vs_cd h sm (Nat.le_refl sm)]
theorem p_cm_fo {V W : Nat → Int64} {o : Int32} : ∀ k, (∀ j, j < k → fo j = fo' j) → p_cm fo V W o k = p_cm fo' V W o k
  | 0, _ => rfl
  | k + 1, h => by rw [p_cm, p_cm, p_cm_fo k (fun j hj => h j (by omega)), h k (by omega)]
theorem s_cp_fo (hf : ∀ k, k < sm → fo k = fo' k) : s_cp fo sm = s_cp fo' sm := by
  funext s t
  unfold s_cp
  rw [p_cm_fo sm hf]
theorem p_na_fo (hf : ∀ k, k < sm → fo k = fo' k) {F : Nat → sh_S} {x : sh_S} : ∀ k, p_na fo sm F x k = p_na fo' sm F x k
  | 0 => rfl
  | k + 1 => by rw [p_na, p_na, p_na_fo hf k, s_cp_fo hf]
theorem p_ne_fo (hf : ∀ k, k < sm → fo k = fo' k) {F : Nat → sh_S} {r : Nat} : ∀ k, p_ne fo sm F r k = p_ne fo' sm F r k
  | 0 => rfl
  | k + 1 => by rw [p_ne, p_ne, p_ne_fo hf k, s_cp_fo hf]
theorem p_pl_fo (hf : ∀ k, k < sm → fo k = fo' k) {F : Nat → sh_S} {rn : Nat} : p_pl fo sm rn F = p_pl fo' sm rn F := by
  funext r
  unfold p_pl
  rw [p_na_fo hf]
theorem p_rg_fo (hf : ∀ k, k < sm → fo k = fo' k) {F : Nat → sh_S} {rn : Nat} {i : Int32} : p_rg fo sm rn F i = p_rg fo' sm rn F i := by
  unfold p_rg
  refine p_fd_c (fun r hr => ?_) rn (Nat.le_refl rn)
  rw [p_ne_fo hf]
theorem p_ag_fo (hf : ∀ k, k < sm → fo k = fo' k) {F : Nat → sh_S} {rn : Nat} {v w : Int32} : p_ag fo sm rn F v w = p_ag fo' sm rn F v w := by
  unfold p_ag; rw [s_cp_fo hf]
theorem p_pv_fo (hf : ∀ k, k < sm → fo k = fo' k) {F : Nat → sh_S} {rn : Nat} {v : Int32} : p_pv fo sm rn F v = p_pv fo' sm rn F v := by
  unfold p_pv; rw [p_pl_fo hf]
theorem b_F_cd (h : r_cds cd cd' en sm) (hf : ∀ k, k < sm → fo k = fo' k) {A : w_A} {ah ou : Nat → Int32} {op tot : Int32} {fn t : Nat} : b_F A ah ou op fn cd en fo sm tot t = b_F A ah ou op fn cd' en fo' sm tot t := by
  funext r
  exact s_F_cd h hf
end
/-! ===== the course: its numbers stay small ===== -/
def j_C (mt ah : Nat → Int32) (fn : Nat) (fm em sp op : Int32) : Prop := fn ≤ 30 ∧ fm = w_s mt fn ∧ op = w_op fm em sp ∧ (∀ f, f < fn → 0 ≤ mt f ∧ mt f ≤ 2000) ∧ (0 ≤ em ∧ em ≤ 2000) ∧ (100 ≤ sp ∧ sp ≤ 700) ∧ w_600 ah
theorem w_s_N {mt : Nat → Int32} : ∀ k, (∀ f, f < k → 0 ≤ mt f ∧ mt f ≤ 2000) → k ≤ 30 → ∃ j, j ≤ 2000 * k ∧ w_s mt k = nI j
  | 0, _, _ => ⟨0, by omega, rfl⟩
  | k + 1, h, hk => by
    obtain ⟨j, hj, e⟩ := w_s_N k (fun f hf => h f (by omega)) (by omega)
    obtain ⟨i, hi, e2, -⟩ := v_ofle (k := 2000) (h k (by omega)).1 (h k (by omega)).2 (by omega)
    exact ⟨j + i, by omega, by rw [w_s, e, e2, nI_add]⟩
theorem j_C_op {mt ah : Nat → Int32} {fn : Nat} {fm em sp op : Int32} (h : j_C mt ah fn fm em sp op) : 1 ≤ sp ∧ 0 ≤ w_op (w_s mt fn) em sp := by
  obtain ⟨h1, h2, h3, h4, h5, h6, h7⟩ := h
  have hs : 1 ≤ sp := v_tr (by decide) h6.1
  refine ⟨hs, ?_⟩
  obtain ⟨j, hj, e⟩ := w_s_N fn h4 h1
  obtain ⟨a, ha, e2, -⟩ := v_ofle (k := 2000) h5.1 h5.2 (by omega)
  obtain ⟨b, hb, e3, -⟩ := v_ofle (k := 700) (v_tr (by decide) h6.1) h6.2 (by omega)
  have hb1 : 100 ≤ b := (nI_leI (a := 100) (by omega) (by omega)).mp (by rw [← e3]; exact h6.1)
  unfold w_op
  rw [e, e2, e3, nI_add, show (60 : Int32) * nI (j + a) = nI (60 * (j + a)) from pk_mul 60 _, nI_add]
  have e4 : nI (60 * (j + a) + b) - 1 = nI (60 * (j + a) + b - 1) := by have := pk_sub (a := 60 * (j + a) + b) (b := 1) (by omega); exact this
  rw [e4, pk_div (by omega) (by omega) (by omega)]
  exact nI_pos' (by have := Nat.div_le_self (60 * (j + a) + b - 1) b; omega)
