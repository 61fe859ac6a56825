/-! ===== THE MEMORY of the class, the reference and the law: cells by their number in the order of making ===== -/
abbrev ga_C : Type := (Nat × Nat × ((Nat → Int32) ⊕ (Nat → Int64) ⊕ (Nat → Option Nat))) ⊕ (Nat × List Value)
abbrev ga_M : Type := Nat × List ga_C × List ga_C × (Nat → ga_C)
abbrev ga_E : Type := Nat × (Nat → Nat) × va_G × (Nat → ClassId) × (Nat → Nat)
abbrev ga_i (n : Nat) (f : Nat → Int32) : ga_C := .inl (0, n, .inl f)
abbrev ga_l (n : Nat) (f : Nat → Int64) : ga_C := .inl (1, n, .inr (.inl f))
abbrev ga_z (n : Nat) (f : Nat → Int32) : ga_C := .inl (2, n, .inl f)
abbrev ga_r (t n : Nat) (f : Nat → Option Nat) : ga_C := .inl (t, n, .inr (.inr f))
abbrev ga_o (c : Nat) (fs : List Value) : ga_C := .inr (c, fs)
def ga_nth : List ga_C → Nat → ga_C
  | [], _ => .inr (0, [])
  | c :: _, 0 => c
  | _ :: t, n + 1 => ga_nth t n
def ga_set : List ga_C → Nat → ga_C → List ga_C
  | [], _, _ => []
  | _ :: t, 0, c => c :: t
  | d :: t, n + 1, c => d :: ga_set t n c
theorem ga_set_len : ∀ (L : List ga_C) (a : Nat) (c : ga_C), (ga_set L a c).length = L.length
  | [], _, _ => rfl
  | _ :: _, 0, _ => rfl
  | _ :: t, n + 1, c => by simp [ga_set, ga_set_len t n c]
theorem ga_nth_same : ∀ (L : List ga_C) (a : Nat) (c : ga_C), a < L.length → ga_nth (ga_set L a c) a = c
  | [], _, _, h => absurd h (Nat.not_lt_zero _)
  | _ :: _, 0, _, _ => rfl
  | _ :: t, n + 1, c, h => ga_nth_same t n c (Nat.lt_of_succ_lt_succ h)
theorem ga_nth_ne : ∀ (L : List ga_C) (a b : Nat) (c : ga_C), b ≠ a → ga_nth (ga_set L a c) b = ga_nth L b
  | [], _, _, _, _ => rfl
  | _ :: _, 0, 0, _, h => absurd rfl h
  | _ :: _, 0, _ + 1, _, _ => rfl
  | _ :: _, _ + 1, 0, _, _ => rfl
  | _ :: t, n + 1, k + 1, c, h => ga_nth_ne t n k c (fun e => h (by rw [e]))
def ga_get (M : ga_M) (a : Nat) : ga_C := cond (Nat.blt a 31) (ga_nth M.2.1 a) (cond (Nat.blt a 79) (M.2.2.2 a) (cond (Nat.blt a 106) (ga_nth M.2.2.1 (a - 79)) (M.2.2.2 a)))
def ga_put (M : ga_M) (a : Nat) (c : ga_C) : ga_M := cond (Nat.blt a 31) (M.1, ga_set M.2.1 a c, M.2.2.1, M.2.2.2) (cond (Nat.blt a 79) (M.1, M.2.1, M.2.2.1, va_up M.2.2.2 a c) (cond (Nat.blt a 106) (M.1, M.2.1, ga_set M.2.2.1 (a - 79) c, M.2.2.2) (M.1, M.2.1, M.2.2.1, va_up M.2.2.2 a c)))
theorem ga_blt (a b : Nat) : Nat.blt a b = decide (a < b) := by
  by_cases h : a < b
  · rw [decide_eq_true h]; exact Nat.blt_eq.mpr h
  · rw [decide_eq_false h]
    cases hb : Nat.blt a b
    · rfl
    · exact absurd (Nat.blt_eq.mp hb) h
theorem ga_get_lo (M : ga_M) {a : Nat} (h : a < 31) : ga_get M a = ga_nth M.2.1 a := by unfold ga_get; rw [ga_blt, decide_eq_true h]; rfl
theorem ga_get_mid (M : ga_M) {a : Nat} (h : 79 ≤ a) (h2 : a < 106) : ga_get M a = ga_nth M.2.2.1 (a - 79) := by
  unfold ga_get; rw [ga_blt, ga_blt, ga_blt, decide_eq_false (by omega), decide_eq_false (by omega), decide_eq_true h2]; rfl
theorem ga_get_hi (M : ga_M) {a : Nat} (h : 31 ≤ a ∧ a < 79 ∨ 106 ≤ a) : ga_get M a = M.2.2.2 a := by
  unfold ga_get; rw [ga_blt, ga_blt, ga_blt]
  rcases h with h | h
  · rw [decide_eq_false (by omega), decide_eq_true (by omega)]; rfl
  · rw [decide_eq_false (by omega), decide_eq_false (by omega), decide_eq_false (by omega)]; rfl
theorem ga_put_lo (M : ga_M) {a : Nat} (c : ga_C) (h : a < 31) : ga_put M a c = (M.1, ga_set M.2.1 a c, M.2.2.1, M.2.2.2) := by unfold ga_put; rw [ga_blt, decide_eq_true h]; rfl
theorem ga_put_mid (M : ga_M) {a : Nat} (c : ga_C) (h : 79 ≤ a) (h2 : a < 106) : ga_put M a c = (M.1, M.2.1, ga_set M.2.2.1 (a - 79) c, M.2.2.2) := by
  unfold ga_put; rw [ga_blt, ga_blt, ga_blt, decide_eq_false (by omega), decide_eq_false (by omega), decide_eq_true h2]; rfl
theorem ga_put_hi (M : ga_M) {a : Nat} (c : ga_C) (h : 31 ≤ a ∧ a < 79 ∨ 106 ≤ a) : ga_put M a c = (M.1, M.2.1, M.2.2.1, va_up M.2.2.2 a c) := by
  unfold ga_put; rw [ga_blt, ga_blt, ga_blt]
  rcases h with h | h
  · rw [decide_eq_false (by omega), decide_eq_true (by omega)]; rfl
  · rw [decide_eq_false (by omega), decide_eq_false (by omega), decide_eq_false (by omega)]; rfl
theorem ga_put_1 (M : ga_M) (a : Nat) (c : ga_C) : (ga_put M a c).1 = M.1 := by
  unfold ga_put
  cases Nat.blt a 31 <;> cases Nat.blt a 79 <;> cases Nat.blt a 106 <;> rfl
theorem ga_put_len (M : ga_M) (a : Nat) (c : ga_C) : (ga_put M a c).2.1.length = M.2.1.length ∧ (ga_put M a c).2.2.1.length = M.2.2.1.length := by
  unfold ga_put
  cases Nat.blt a 31 <;> cases Nat.blt a 79 <;> cases Nat.blt a 106 <;> simp [ga_set_len]
theorem ga_reg (a : Nat) : a < 31 ∨ (79 ≤ a ∧ a < 106) ∨ (31 ≤ a ∧ a < 79 ∨ 106 ≤ a) := by omega
theorem ga_get_put (M : ga_M) (a : Nat) (c : ga_C) (h1 : M.2.1.length = 31) (h2 : M.2.2.1.length = 27) : ga_get (ga_put M a c) a = c := by
  rcases ga_reg a with h | ⟨h, h'⟩ | h
  · rw [ga_put_lo M c h, ga_get_lo _ h]; exact ga_nth_same _ _ _ (by omega)
  · rw [ga_put_mid M c h h', ga_get_mid _ h h']; exact ga_nth_same _ _ _ (by omega)
  · rw [ga_put_hi M c h, ga_get_hi _ h]; simp [va_up]
theorem ga_get_put_ne (M : ga_M) (a b : Nat) (c : ga_C) (hne : b ≠ a) : ga_get (ga_put M a c) b = ga_get M b := by
  rcases ga_reg a with h | ⟨h, h'⟩ | h
  · rw [ga_put_lo M c h]
    rcases ga_reg b with g | ⟨g, g'⟩ | g
    · rw [ga_get_lo _ g, ga_get_lo _ g]; exact ga_nth_ne _ _ _ _ hne
    · rw [ga_get_mid _ g g', ga_get_mid _ g g']
    · rw [ga_get_hi _ g, ga_get_hi _ g]
  · rw [ga_put_mid M c h h']
    rcases ga_reg b with g | ⟨g, g'⟩ | g
    · rw [ga_get_lo _ g, ga_get_lo _ g]
    · rw [ga_get_mid _ g g', ga_get_mid _ g g']; exact ga_nth_ne _ _ _ _ (by omega)
    · rw [ga_get_hi _ g, ga_get_hi _ g]
  · rw [ga_put_hi M c h]
    rcases ga_reg b with g | ⟨g, g'⟩ | g
    · rw [ga_get_lo _ g, ga_get_lo _ g]
    · rw [ga_get_mid _ g g', ga_get_mid _ g g']
    · rw [ga_get_hi _ g, ga_get_hi _ g]; simp [va_up, hne]
/-! values and cells as the machine has them: E = (base, address of a number, classes, array classes, addresses outside) -/
def ga_v (E : ga_E) (v : Value) : Value := match v with
  | .ref a => .ref (E.2.1 a)
  | .retAddr k => .ref (E.2.2.2.2 k)
  | w => w
def ga_e (E : ga_E) (c : ga_C) : va_E := match c with
  | .inl (t, n, .inl f) => .inl (E.2.2.2.1 t, n, .inl f)
  | .inl (t, n, .inr (.inl f)) => .inl (E.2.2.2.1 t, n, .inr (.inl f))
  | .inl (t, n, .inr (.inr f)) => .inl (E.2.2.2.1 t, n, .inr (.inr (.inr (.inr (fun j => (f j).map E.2.1)))))
  | .inr (k, fs) => .inr (k, fs.map (ga_v E))
theorem ga_v_cat (E : ga_E) (v : Value) : (ga_v E v).category = v.category := by cases v <;> rfl
def ga_R (E : ga_E) (M : ga_M) (H : Heap) : Prop := H.size = E.1 + M.1 ∧ M.2.1.length = 31 ∧ M.2.2.1.length = 27 ∧ ∀ a, a < M.1 → va_at E.2.2.1 vwCl (E.2.1 a, ga_e E (ga_get M a)) H
def ga_V (E : ga_E) : Prop := (∀ a b, E.2.1 a = E.2.1 b → a = b) ∧ ∀ a, E.1 ≤ E.2.1 a
theorem ga_R.put {E : ga_E} {M : ga_M} {H H1 : Heap} {a : Nat} {c : ga_C} (h : ga_R E M H) (hV : ga_V E) (ha : a < M.1) (z : H1.size = H.size) (oq : ∀ q : Nat, q ≠ E.2.1 a → H1[q]? = H[q]?) (hc : va_at E.2.2.1 vwCl (E.2.1 a, ga_e E c) H1) : ga_R E (ga_put M a c) H1 := by
  obtain ⟨h1, h2, h3, h4⟩ := h
  refine ⟨by rw [z, h1, ga_put_1], by rw [(ga_put_len M a c).1]; exact h2, by rw [(ga_put_len M a c).2]; exact h3, fun b hb => ?_⟩
  rw [ga_put_1] at hb
  by_cases e : b = a
  · subst e
    rw [ga_get_put M b c h2 h3]
    exact hc
  · rw [ga_get_put_ne M a b c e]
    exact (h4 b hb).kept (oq _ (fun q => e (hV.1 _ _ q)))
/-- a cell more, behind all others -/
def ga_new (M : ga_M) (c : ga_C) : ga_M := ga_put (M.1 + 1, M.2) M.1 c
theorem ga_R.new {E : ga_E} {M : ga_M} {H H1 : Heap} {c : ga_C} (h : ga_R E M H) (hV : ga_V E) (hid : E.2.1 M.1 = E.1 + M.1) (z : H1.size = H.size + 1) (oq : ∀ q : Nat, q < H.size → H1[q]? = H[q]?) (hc : va_at E.2.2.1 vwCl (H.size, ga_e E c) H1) : ga_R E (ga_new M c) H1 := by
  obtain ⟨h1, h2, h3, h4⟩ := h
  unfold ga_new
  refine ⟨by rw [z, h1, ga_put_1]; exact Nat.add_assoc _ _ _, by rw [(ga_put_len _ _ c).1]; exact h2, by rw [(ga_put_len _ _ c).2]; exact h3, fun b hb => ?_⟩
  rw [ga_put_1] at hb
  by_cases e : b = M.1
  · subst e
    rw [ga_get_put (M.1 + 1, M.2) M.1 c h2 h3, hid, ← h1]
    exact hc
  · rw [ga_get_put_ne _ _ b c e]
    have hb' : b < M.1 := by have : b < M.1 + 1 := hb; omega
    exact (h4 b hb').kept (oq _ (h4 b hb').lt)
/-! ===== what is known of the machine in a method: the tables' words that stay, the classes, the nest's links ===== -/
def ga_T : List Cond := lw_tbl.filter goodWord
theorem ga_in {w : Cond} (h : w ∈ lw_tbl) (g : goodWord w = true) : w ∈ ga_T := List.mem_filter.mpr ⟨h, g⟩
theorem ga_good (big : List Cond) (hb : ∀ w ∈ ga_T, w ∈ big) : GoodIn big ga_T := fun w h => ⟨hb w h, good_of_word (List.mem_filter.mp h).2⟩
def ga_nest : List (String × Nat × MethodName × String) := [("ThreeDays", 9, ⟨"ThreeDays$Tape", "<init>", "()V"⟩, "ThreeDays"), ("ThreeDays", 18, ⟨"ThreeDays$Riders", "<init>", "()V"⟩, "ThreeDays"), ("ThreeDays", 25, ⟨"ThreeDays$Course", "<init>", "()V"⟩, "ThreeDays"), ("ThreeDays", 32, ⟨"ThreeDays$Log", "<init>", "()V"⟩, "ThreeDays"), ("ThreeDays", 48, ⟨"ThreeDays$Rules", "<init>", "()V"⟩, "ThreeDays"), ("ThreeDays$Board", 40, ⟨"ThreeDays$Sheet", "<init>", "()V"⟩, "ThreeDays"), ("ThreeDays$Tape", 17, ⟨"ThreeDays", "isWithin", "(III)Z"⟩, "ThreeDays"), ("ThreeDays$Riders", 22, ⟨"ThreeDays", "isWithin", "(III)Z"⟩, "ThreeDays"), ("ThreeDays$Course", 25, ⟨"ThreeDays", "isWithin", "(III)Z"⟩, "ThreeDays"), ("ThreeDays$Board", 87, ⟨"ThreeDays", "isWithin", "(III)Z"⟩, "ThreeDays"), ("ThreeDays$Log", 29, ⟨"ThreeDays", "isWithin", "(III)Z"⟩, "ThreeDays"), ("ThreeDays$Tally", 109, ⟨"ThreeDays", "isWithin", "(III)Z"⟩, "ThreeDays"), ("ThreeDays$Sheet", 38, ⟨"ThreeDays", "isWithin", "(III)Z"⟩, "ThreeDays")]
def ga_ty (E : ga_E) : List (ClassId × FieldType) := [(E.2.2.2.1 0, .int), (E.2.2.2.1 1, .long), (E.2.2.2.1 2, .boolean), (E.2.2.2.1 3, .object "ThreeDays$Sheet"), (E.2.2.2.1 4, .object "ThreeDays$Act")]
def ga_K (E : ga_E) (U : State) : Prop := va_K E.2.2.1 vwCl (ga_ty E) U ∧ (∀ q ∈ ga_nest, va_Nw (.methodLinkNest q.1 q.2.1 q.2.2.1 q.2.2.2) U) ∧ va_AO "ThreeDays$Sheet" U ∧ va_AO "ThreeDays$Act" U
theorem ga_K.moved {E : ga_E} {s U : State} (hW : s.WarmedH U.vm) (h : ga_K E s) : ga_K E U :=
  ⟨va_K.moved hW.alike h.1, fun q hq => va_Nw.warmM hW (h.2.1 q hq), h.2.2.1.moved hW.alike, h.2.2.2.moved hW.alike⟩
theorem ga_K.same {E : ga_E} {s U : State} (hv : s.vm = U.vm) (h : ga_K E s) : ga_K E U :=
  ⟨va_K.moved (by rw [hv]; exact Vm.Alike.refl U.vm) h.1, fun q hq => va_Nw.same rfl hv (h.2.1 q hq), h.2.2.1.moved (by rw [hv]; exact Vm.Alike.refl U.vm), h.2.2.2.moved (by rw [hv]; exact Vm.Alike.refl U.vm)⟩
abbrev ga_X : Type := Program × Launch × Env × Room × State × MethodId × Array Value × List Frame × Method × Code × (State → Prop)
def ga_W (X : ga_X) (H : Heap) (locs : List Loc) (kc ks : Nat) (g : JFrame) : Prop :=
  W X.1 X.2.1 X.2.2.1 X.2.2.2.1 X.2.2.2.2.1 X.2.2.2.2.2.1 X.2.2.2.2.2.2.1 X.2.2.2.2.2.2.2.1 X.2.2.2.2.2.2.2.2.1 X.2.2.2.2.2.2.2.2.2.1 H locs kc ks X.2.2.2.2.2.2.2.2.2.2 g
/-- the locals that are known, by their places -/
def ga_lv (E : ga_E) : Nat → List (Option Value) → List (Nat × Value)
  | _, [] => []
  | i, none :: t => ga_lv E (i + 1) t
  | i, some v :: t => (i, ga_v E v) :: ga_lv E (i + 1) t
def ga_lk : List (Option Value) → Nat → Option Value
  | [], _ => none
  | o :: _, 0 => o
  | _ :: t, n + 1 => ga_lk t n
theorem ga_lv_mem (E : ga_E) : ∀ (lv : List (Option Value)) (k : Nat) (q : Nat × Value), q ∈ ga_lv E k lv ↔ ∃ j w, ga_lk lv j = some w ∧ q = (k + j, ga_v E w)
  | [], k, q => by simp [ga_lv, ga_lk]
  | none :: t, k, q => by
    rw [ga_lv, ga_lv_mem E t (k + 1) q]
    constructor
    · rintro ⟨j, w, h, e⟩
      exact ⟨j + 1, w, h, by rw [e]; congr 1; omega⟩
    · rintro ⟨j, w, h, e⟩
      cases j with
      | zero => simp [ga_lk] at h
      | succ j => exact ⟨j, w, h, by rw [e]; congr 1; omega⟩
  | some v :: t, k, q => by
    rw [ga_lv, List.mem_cons, ga_lv_mem E t (k + 1) q]
    constructor
    · rintro (e | ⟨j, w, h, e⟩)
      · exact ⟨0, v, rfl, e⟩
      · exact ⟨j + 1, w, h, by rw [e]; congr 1; omega⟩
    · rintro ⟨j, w, h, e⟩
      cases j with
      | zero => left; simp [ga_lk] at h; subst h; exact e
      | succ j => right; exact ⟨j, w, h, by rw [e]; congr 1; omega⟩
theorem ga_rd {E : ga_E} {ls : Array Slot} {nL i : Nat} {lv : List (Option Value)} {v : Value} (h : lv_has ls nL (ga_lv E 0 lv)) (hl : ga_lk lv i = some v) : ls[i]? = some (.val (ga_v E v)) :=
  h.2.2 (i, ga_v E v) ((ga_lv_mem E lv 0 _).mpr ⟨i, v, hl, by rw [Nat.zero_add]⟩)
theorem ga_less {E : ga_E} {ls : Array Slot} {nL : Nat} {l : List (Nat × Value)} {lv' : List (Option Value)} (h : lv_has ls nL l) (hs : ∀ j w, ga_lk lv' j = some w → (j, ga_v E w) ∈ l) : lv_has ls nL (ga_lv E 0 lv') := by
  refine ⟨h.1, h.2.1, fun q hq => ?_⟩
  obtain ⟨j, w, h1, rfl⟩ := (ga_lv_mem E lv' 0 q).mp hq
  rw [Nat.zero_add]
  exact h.2.2 _ (hs j w h1)
/-- a known local forgotten, or kept -/
def ga_sb : List (Option Value) → List (Option Value) → Prop
  | [], _ => True
  | none :: t, [] => ga_sb t []
  | none :: t, _ :: u => ga_sb t u
  | some _ :: _, [] => False
  | some v :: t, o :: u => o = some v ∧ ga_sb t u
theorem ga_sb_lk : ∀ {lv' lv : List (Option Value)}, ga_sb lv' lv → ∀ j w, ga_lk lv' j = some w → ga_lk lv j = some w
  | [], _, _, j, w, h => by simp [ga_lk] at h
  | none :: t, [], hs, j, w, h => by
    cases j with
    | zero => simp [ga_lk] at h
    | succ j => have := ga_sb_lk (lv' := t) (lv := []) hs j w h; simp [ga_lk] at this
  | none :: t, _ :: u, hs, j, w, h => by
    cases j with
    | zero => simp [ga_lk] at h
    | succ j => exact ga_sb_lk (lv' := t) (lv := u) hs j w h
  | some _ :: _, [], hs, _, _, _ => hs.elim
  | some v :: t, o :: u, hs, j, w, h => by
    cases j with
    | zero => rw [show ga_lk (o :: u) 0 = o from rfl, hs.1]; exact h
    | succ j => exact ga_sb_lk (lv' := t) (lv := u) hs.2 j w h
def ga_kl (o : Option Value) : Option Value := match o with
  | some (.long _) => none
  | some (.double _) => none
  | o => o
/-- storing at a place: a value of one slot; of two -/
def ga_s1 : List (Option Value) → Nat → Value → List (Option Value)
  | [], _, _ => []
  | _ :: t, 0, v => some v :: t
  | o :: t, 1, v => ga_kl o :: ga_s1 t 0 v
  | o :: t, n + 2, v => o :: ga_s1 t (n + 1) v
def ga_hd : List (Option Value) → List (Option Value)
  | [] => []
  | _ :: t => none :: t
def ga_s2 : List (Option Value) → Nat → Value → List (Option Value)
  | [], _, _ => []
  | _ :: t, 0, v => some v :: ga_hd t
  | o :: t, 1, v => ga_kl o :: ga_s2 t 0 v
  | o :: t, n + 2, v => o :: ga_s2 t (n + 1) v
theorem ga_kl_c {o : Option Value} {w : Value} (h : ga_kl o = some w) : o = some w ∧ w.category ≠ 2 := by
  cases o with
  | none => simp [ga_kl] at h
  | some x => cases x <;> simp [ga_kl] at h <;> subst h <;> exact ⟨rfl, by simp [Value.category]⟩
theorem ga_s1_lk : ∀ (lv : List (Option Value)) (i : Nat) (v : Value) (j : Nat) (w : Value), ga_lk (ga_s1 lv i v) j = some w → (j = i ∧ w = v) ∨ (j ≠ i ∧ ga_lk lv j = some w ∧ ¬ (j + 1 = i ∧ w.category = 2))
  | [], i, v, j, w, h => by simp [ga_s1, ga_lk] at h
  | o :: t, 0, v, j, w, h => by
    cases j with
    | zero => left; simp [ga_s1, ga_lk] at h; exact ⟨rfl, h.symm⟩
    | succ j => right; exact ⟨by omega, h, by omega⟩
  | o :: t, 1, v, j, w, h => by
    cases j with
    | zero =>
      right
      have h1 := ga_kl_c (show ga_kl o = some w from h)
      exact ⟨by omega, h1.1, fun e => h1.2 e.2⟩
    | succ j =>
      rcases ga_s1_lk t 0 v j w h with ⟨a, b⟩ | ⟨a, b, c⟩
      · left; exact ⟨by omega, b⟩
      · right; exact ⟨by omega, b, by omega⟩
  | o :: t, n + 2, v, j, w, h => by
    cases j with
    | zero => right; exact ⟨by omega, h, by omega⟩
    | succ j =>
      rcases ga_s1_lk t (n + 1) v j w h with ⟨a, b⟩ | ⟨a, b, c⟩
      · left; exact ⟨by omega, b⟩
      · right; exact ⟨by omega, b, fun e => c ⟨by omega, e.2⟩⟩
theorem ga_s2_lk : ∀ (lv : List (Option Value)) (i : Nat) (v : Value) (j : Nat) (w : Value), ga_lk (ga_s2 lv i v) j = some w → (j = i ∧ w = v) ∨ (j ≠ i ∧ j ≠ i + 1 ∧ ga_lk lv j = some w ∧ ¬ (j + 1 = i ∧ w.category = 2))
  | [], i, v, j, w, h => by simp [ga_s2, ga_lk] at h
  | o :: t, 0, v, j, w, h => by
    match t, j, h with
    | t, 0, h => left; simp [ga_s2, ga_lk] at h; exact ⟨rfl, h.symm⟩
    | [], j + 1, h => simp [ga_s2, ga_hd, ga_lk] at h
    | _ :: _, 1, h => simp [ga_s2, ga_hd, ga_lk] at h
    | _ :: _, j + 2, h => right; exact ⟨by omega, by omega, h, by omega⟩
  | o :: t, 1, v, j, w, h => by
    cases j with
    | zero =>
      right
      have h1 := ga_kl_c (show ga_kl o = some w from h)
      exact ⟨by omega, by omega, h1.1, fun e => h1.2 e.2⟩
    | succ j =>
      rcases ga_s2_lk t 0 v j w h with ⟨a, b⟩ | ⟨a, a2, b, c⟩
      · left; exact ⟨by omega, b⟩
      · right; exact ⟨by omega, by omega, b, by omega⟩
  | o :: t, n + 2, v, j, w, h => by
    cases j with
    | zero => right; exact ⟨by omega, by omega, h, by omega⟩
    | succ j =>
      rcases ga_s2_lk t (n + 1) v j w h with ⟨a, b⟩ | ⟨a, a2, b, c⟩
      · left; exact ⟨by omega, b⟩
      · right; exact ⟨by omega, by omega, b, fun e => c ⟨by omega, e.2⟩⟩
theorem ga_h1 {E : ga_E} {ls : Array Slot} {nL i : Nat} {lv : List (Option Value)} {v : Value} (h : lv_has ls nL ((i, ga_v E v) :: (ga_lv E 0 lv).filter (fun q => !(q.1 == i) && !(q.1 + 1 == i && q.2.category == 2)))) : lv_has ls nL (ga_lv E 0 (ga_s1 lv i v)) := by
  refine ga_less h (fun j w hj => ?_)
  rcases ga_s1_lk lv i v j w hj with ⟨a, b⟩ | ⟨a, b, c⟩
  · rw [a, b]; exact List.mem_cons_self
  · refine List.mem_cons_of_mem _ (List.mem_filter.mpr ⟨(ga_lv_mem E lv 0 _).mpr ⟨j, w, b, by rw [Nat.zero_add]⟩, ?_⟩)
    simp only [ga_v_cat]
    simp [a]
    exact Decidable.not_and_iff_or_not.mp c
theorem ga_h2 {E : ga_E} {ls : Array Slot} {nL i : Nat} {lv : List (Option Value)} {v : Value} (h : lv_has ls nL ((i, ga_v E v) :: (ga_lv E 0 lv).filter (fun q => !(q.1 == i) && (!(q.1 == i + 1) && !(q.1 + 1 == i && q.2.category == 2))))) : lv_has ls nL (ga_lv E 0 (ga_s2 lv i v)) := by
  refine ga_less h (fun j w hj => ?_)
  rcases ga_s2_lk lv i v j w hj with ⟨a, b⟩ | ⟨a, a2, b, c⟩
  · rw [a, b]; exact List.mem_cons_self
  · refine List.mem_cons_of_mem _ (List.mem_filter.mpr ⟨(ga_lv_mem E lv 0 _).mpr ⟨j, w, b, by rw [Nat.zero_add]⟩, ?_⟩)
    simp only [ga_v_cat]
    simp [a, a2]
    exact Decidable.not_and_iff_or_not.mp c
/-- THE JUDGEMENT: the machine, at pc with these locals and this stack, over this memory, comes to the end that X asks for -/
def ga_G (E : ga_E) (X : ga_X) (kc ks pc : Nat) (lv : List (Option Value)) (st : List Value) (M : ga_M) : Prop :=
  ∀ (H : Heap) (locs : List Loc) (ls : Array Slot), ga_R E M H → lv_has ls X.2.2.2.2.2.2.2.2.2.1.maxLocals (ga_lv E 0 lv) → va_S (fun q => E.1 ≤ q) X.2.2.2.2.1.heap H locs → ga_W X H locs kc ks (F0 X.2.2.2.2.2.1 pc ls (st.map (ga_v E)))
/-- the method that runs -/
def ga_B (E : ga_E) (d : Nat) (y : MethodName) (cc : ByteArray) (nL mc ms : Nat) (X : ga_X) : Prop :=
  X.1.tables.exec = Jvm.exec ∧ X.2.2.2.2.2.2.2.2.2.1.code = cc ∧ X.2.2.2.2.2.2.2.2.2.1.maxLocals = nL ∧ X.2.2.2.2.1.vm.findClass y.cls = some X.2.2.2.2.2.1.cls ∧ (∀ w ∈ ga_T, w.before X.2.2.2.2.2.2.1 X.2.2.2.2.1 = true) ∧
  X.2.2.2.2.2.2.2.2.1.locks = false ∧ X.2.2.2.2.2.2.2.2.1.name = y.name ∧ ga_K E X.2.2.2.2.1 ∧ ga_V E ∧ d ≤ X.2.2.2.1.frames ∧ 60 * d ≤ X.2.2.2.1.locals ∧ mc ≤ X.2.2.2.1.cells ∧ ms ≤ X.2.2.2.1.slots
def ga_Q (E : ga_E) (Post : Option Value → ga_M → Prop) : Array Value → State → Outcome → State → Prop := fun _ st o t =>
  ∃ (r : Option Value) (M : ga_M), o = .returned (r.map (ga_v E)) ∧ Post r M ∧ ga_R E M t.heap ∧ va_F (fun q => E.1 ≤ q) st t
/-- and how it ends -/
def ga_P (E : ga_E) (rt : Option FieldType) (mc ms : Nat) (Post : Option Value → ga_M → Prop) (X : ga_X) : Prop :=
  X.2.2.2.2.2.2.2.2.1.sig.returnType = rt ∧ X.2.2.2.2.2.2.2.2.2.2 = MQ X.2.2.2.2.2.2.2.1 (ga_Q E Post) X.2.2.2.2.2.2.1 X.2.2.2.2.1 mc ms (fun q => E.1 ≤ q)
def ga_rm (d mc ms : Nat) : Room := { frames := d, cells := mc, slots := ms, locals := 60 * d }
def ga_Pc (E : ga_E) (as : List Value) (M : ga_M) : Array Value → State → Prop := fun v U => v = (as.map (ga_v E)).toArray ∧ ga_R E M U.heap ∧ ga_K E U ∧ ga_V E
/-- A CONTRACT: method y over memory M -/
def ga_Mt (E : ga_E) (d : Nat) (y : MethodName) (cc : ByteArray) (nL : Nat) (rt : Option FieldType) (mc ms : Nat) (as : List Value) (M : ga_M) (Post : Option Value → ga_M → Prop) : Prop :=
  ∀ l : Launch, Met l y (Cond.code y cc nL rt :: ga_T) (ga_rm d mc ms) (ga_Pc E as M) (ga_Q E Post) mc ms (fun q => E.1 ≤ q)
def ga_as : List Value → List (Option Value)
  | [] => []
  | v :: t => match v with
    | .long x => some (.long x) :: none :: ga_as t
    | .double x => some (.double x) :: none :: ga_as t
    | w => some w :: ga_as t
theorem ga_as_lk (E : ga_E) : ∀ (as : List Value) (k j : Nat) (w : Value), ga_lk (ga_as as) j = some w → (k + j, ga_v E w) ∈ lv_args k (as.map (ga_v E))
  | [], k, j, w, h => by simp [ga_as, ga_lk] at h
  | v :: t, k, j, w, h => by
    have key : ∀ {u : Value}, v = u → u.category = 1 → ga_lk (some u :: ga_as t) j = some w → (k + j, ga_v E w) ∈ lv_args k ((v :: t).map (ga_v E)) := by
      intro u e hc h
      subst e
      rw [List.map_cons, lv_args, if_neg (by rw [ga_v_cat]; omega)]
      cases j with
      | zero => simp [ga_lk] at h; subst h; exact List.mem_cons_self
      | succ j =>
        have := ga_as_lk E t (k + 1) j w h
        rw [show k + 1 + j = k + (j + 1) by omega] at this
        exact List.mem_cons_of_mem _ this
    have key2 : ∀ {u : Value}, v = u → u.category = 2 → ga_lk (some u :: none :: ga_as t) j = some w → (k + j, ga_v E w) ∈ lv_args k ((v :: t).map (ga_v E)) := by
      intro u e hc h
      subst e
      rw [List.map_cons, lv_args, if_pos (by rw [ga_v_cat]; omega)]
      match j, h with
      | 0, h => simp [ga_lk] at h; subst h; exact List.mem_cons_self
      | 1, h => simp [ga_lk] at h
      | j + 2, h =>
        have := ga_as_lk E t (k + 2) j w h
        rw [show k + 2 + j = k + (j + 2) by omega] at this
        exact List.mem_cons_of_mem _ this
    cases v with
    | long x => exact key2 rfl rfl h
    | double x => exact key2 rfl rfl h
    | int x => exact key rfl rfl h
    | float x => exact key rfl rfl h
    | null => exact key rfl rfl h
    | ref x => exact key rfl rfl h
    | retAddr x => exact key rfl rfl h
def ga_wd : List Value → Nat
  | [] => 0
  | v :: t => v.category + ga_wd t
theorem ga_sl_len (E : ga_E) : ∀ (as : List Value), (lg_sl (as.map (ga_v E))).length = ga_wd as
  | [] => rfl
  | v :: t => by
    have ih := ga_sl_len E t
    have hc : lg_sl ((v :: t).map (ga_v E)) = (if (ga_v E v).category = 2 then [Slot.val (ga_v E v), .second] else [.val (ga_v E v)]) ++ lg_sl (t.map (ga_v E)) := by simp [lg_sl]
    rw [hc, List.length_append, ih, ga_v_cat, ga_wd]
    rcases lv_cat v with h | h <;> simp [h]
set_option maxHeartbeats 4000000 in
theorem ga_Mt.of {E : ga_E} {d : Nat} {y : MethodName} {cc : ByteArray} {nL : Nat} {rt : Option FieldType} {mc ms : Nat} {as : List Value} {M : ga_M} {Post : Option Value → ga_M → Prop} (hy : plainName y.cls = true) (hw : Nat.ble (ga_wd as) nL = true)
    (body : ∀ X, ga_B E d y cc nL mc ms X → ga_P E rt mc ms Post X → ga_G E X 0 0 0 (ga_as as) [] M) : ga_Mt E d y cc nL rt mc ms as M Post := by
  intro l
  refine Met.ofW (cc := cc) (maxL := nL) (ret := rt) hy rfl ?_
  intro p e s m args below meth c s₁ B hml hv
  obtain ⟨rfl, hR, hK, hV⟩ := hv
  have hts := atoms_spec (ws := Cond.code y cc nL rt :: ga_T) B.pre
  have hwd : ga_wd as ≤ nL := Nat.le_of_ble_eq_true hw
  have hl := lv_entry (as.map (ga_v E)) (n := nL) (by rw [ga_sl_len]; exact hwd)
  rw [lg_entry_eq]
  subst hml
  exact body (p, l, e, (headSpec (Cond.code y cc c.maxLocals rt :: ga_T) (ga_rm d mc ms)).room, s, m, _, below, meth, c, MQ below (ga_Q E Post) _ s mc ms (fun q => E.1 ≤ q))
    ⟨B.exec, B.bytes, rfl, findClass_of_methodNamed B.named, fun w h => hts w (List.mem_cons_of_mem _ h), B.notSynchronized, (name_of_methodNamed B.named B.method).1, hK, hV, Nat.le_refl _, Nat.le_refl _, Nat.le_refl _, Nat.le_refl _⟩
    ⟨B.returns, rfl⟩ s.heap [] _ hR (ga_less hl (fun j w h => by have := ga_as_lk E as 0 j w h; rwa [Nat.zero_add] at this)) va_S.rf
