/-! ===== what holds at the law's entry ===== -/
section
variable {s : State} {args : Array Value}
theorem st_classes (hts : ∀ w ∈ lw_tbl, w.before args s = true) : ∃ (dC : Nat → ClassId) (dI : Nat → Nat → Nat), ∀ (k : Nat) (q : vw_C), vwCl[k]? = some q → u_Kn s q.1 q.2.1 q.2.2 (dC k) (dI k) := by
  obtain ⟨c0, i0, h0⟩ := u_known (C := RX0) (T := TX0) (N := 8) (n := 8) hts (fun w hw => (wi_0 w hw).1) (hts _ (List.mem_filter.mp qX0).1)
  obtain ⟨c1, i1, h1⟩ := u_known (C := RX1) (T := TX1) (N := 6) (n := 6) hts (fun w hw => (wi_1 w hw).1) (hts _ (List.mem_filter.mp qX1).1)
  obtain ⟨c2, i2, h2⟩ := u_known (C := RX2) (T := TX2) (N := 7) (n := 7) hts (fun w hw => (wi_2 w hw).1) (hts _ (List.mem_filter.mp qX2).1)
  obtain ⟨c3, i3, h3⟩ := u_known (C := RX3) (T := TX3) (N := 4) (n := 4) hts (fun w hw => (wi_3 w hw).1) (hts _ (List.mem_filter.mp qX3).1)
  obtain ⟨c4, i4, h4⟩ := u_known (C := RX4) (T := TX4) (N := 15) (n := 15) hts (fun w hw => (wi_4 w hw).1) (hts _ (List.mem_filter.mp qX4).1)
  obtain ⟨c5, i5, h5⟩ := u_known (C := RX5) (T := TX5) (N := 3) (n := 3) hts (fun w hw => (wi_5 w hw).1) (hts _ (List.mem_filter.mp qX5).1)
  obtain ⟨c6, i6, h6⟩ := u_known (C := RX6) (T := TX6) (N := 9) (n := 9) hts (fun w hw => (wi_6 w hw).1) (hts _ (List.mem_filter.mp qX6).1)
  obtain ⟨c7, i7, h7⟩ := u_known (C := RX7) (T := TX7) (N := 9) (n := 9) hts (fun w hw => (wi_7 w hw).1) (hts _ (List.mem_filter.mp qX7).1)
  obtain ⟨c8, i8, h8⟩ := u_known (C := RX8) (T := TX8) (N := 4) (n := 4) hts (fun w hw => (wi_8 w hw).1) (hts _ (List.mem_filter.mp qX8).1)
  obtain ⟨c9, i9, h9⟩ := u_known (C := RX9) (T := TX9) (N := 2) (n := 2) hts (fun w hw => (wi_9 w hw).1) (hts _ (List.mem_filter.mp qX9).1)
  obtain ⟨c10, i10, h10⟩ := u_known (C := RX10) (T := TX10) (N := 9) (n := 9) hts (fun w hw => (wi_10 w hw).1) (hts _ (List.mem_filter.mp qX10).1)
  obtain ⟨c11, i11, h11⟩ := u_known (C := RX11) (T := TX11) (N := 44) (n := 44) hts (fun w hw => (wi_11 w hw).1) (hts _ (List.mem_filter.mp qX11).1)
  refine ⟨fun k => if k = 0 then c0 else if k = 1 then c1 else if k = 2 then c2 else if k = 3 then c3 else if k = 4 then c4 else if k = 5 then c5 else if k = 6 then c6 else if k = 7 then c7 else if k = 8 then c8 else if k = 9 then c9 else if k = 10 then c10 else c11, fun k => if k = 0 then i0 else if k = 1 then i1 else if k = 2 then i2 else if k = 3 then i3 else if k = 4 then i4 else if k = 5 then i5 else if k = 6 then i6 else if k = 7 then i7 else if k = 8 then i8 else if k = 9 then i9 else if k = 10 then i10 else i11, ?_⟩
  intro k q hq
  match k, hq with
  | 0, hq => cases hq; exact h0
  | 1, hq => cases hq; exact h1
  | 2, hq => cases hq; exact h2
  | 3, hq => cases hq; exact h3
  | 4, hq => cases hq; exact h4
  | 5, hq => cases hq; exact h5
  | 6, hq => cases hq; exact h6
  | 7, hq => cases hq; exact h7
  | 8, hq => cases hq; exact h8
  | 9, hq => cases hq; exact h9
  | 10, hq => cases hq; exact h10
  | 11, hq => cases hq; exact h11
  | k + 12, hq => simp [vwCl] at hq
theorem st_arr {ty : FieldType} (h : (Cond.arrayClass ty).before args s = true) : ∃ c, ArrOfT s c ty ∧ s.vm.findClass ("[" ++ ty.toString) = some c := by
  obtain ⟨c, k, comp, h1, h2, h3⟩ := Cond.arrayClass_spec h
  exact ⟨c, fun n z => ⟨fun k h => (by cases h), k, h2, comp, h3⟩, h1⟩
theorem st_arq {C : String} (h : (Cond.arrayOver (.object C)).before args s = true) : ∃ c, ArrOfT s c (.object C) ∧ va_RA s c (.object C) := by
  obtain ⟨comp, c, k, h1, h2, h3, h4, h5⟩ := Cond.arrayOver_spec h
  exact ⟨c, fun n z => ⟨fun k h => (by cases h), k, h3, comp, h4⟩, k, comp, h3, h4, h1, h5⟩
theorem st_nest (hts : ∀ w ∈ lw_tbl, w.before args s = true) : ∀ q ∈ ga_nest, va_Nw (.methodLinkNest q.1 q.2.1 q.2.2.1 q.2.2.2) s := by
  have h : ∀ q ∈ ga_nest, Cond.methodLinkNest q.1 q.2.1 q.2.2.1 q.2.2.2 ∈ lw_tbl := by decide +kernel
  exact fun q hq => va_Nw.of rfl (hts _ (h q hq))
theorem w_sref : ∀ i, i < 7 → Cond.stringRef "ThreeDays$Reader" (w_ix.getD i 0) (w_tx.getD i "") ∈ lw_tbl := by
  intro i hi
  match i, hi with
  | 0, _ => exact List.mem_of_getElem? (i := 195) (by decide +kernel)
  | 1, _ => exact List.mem_of_getElem? (i := 250) (by decide +kernel)
  | 2, _ => exact List.mem_of_getElem? (i := 251) (by decide +kernel)
  | 3, _ => exact List.mem_of_getElem? (i := 252) (by decide +kernel)
  | 4, _ => exact List.mem_of_getElem? (i := 253) (by decide +kernel)
  | 5, _ => exact List.mem_of_getElem? (i := 254) (by decide +kernel)
  | 6, _ => exact List.mem_of_getElem? (i := 255) (by decide +kernel)
abbrev w_tm (i : Nat) : Term := .string "ThreeDays$Reader" (w_ix.getD i 0)
abbrev w_tv (i : Nat) : Term := .field (w_tm i) "java/lang/String" "value" "[B"
theorem w_m1 : ∀ i, i < 7 → Cond.exactly (w_tm i) "java/lang/String" ∈ flatC (Jvm.Cond.and given_1 narrow_1) ∧ Cond.eq (.field (w_tm i) "java/lang/String" "coder" "B") (.int 0) ∈ flatC (Jvm.Cond.and given_1 narrow_1) ∧ Cond.arrayOf (w_tv i) .byte ∈ flatC (Jvm.Cond.and given_1 narrow_1) ∧ Cond.eq (.length (w_tv i)) (.int (Int32.ofNat (w_len.getD i 0))) ∈ flatC (Jvm.Cond.and given_1 narrow_1) := by decide +kernel
theorem w_m2 : ∀ i, i < 7 → ∀ j, j < 98 → j < w_len.getD i 0 → Cond.eq (.elem (w_tv i) (.int (Int32.ofNat j))) (.int ((w_byt.getD i []).getD j 0)) ∈ flatC (Jvm.Cond.and given_1 narrow_1) := by decide +kernel
theorem w_m3 : ∀ i, i < 7 → ∀ j, j < 7 → i ≠ j → Cond.not (.eq (w_tm i) (w_tm j)) ∈ flatC (Jvm.Cond.and given_1 narrow_1) ∨ Cond.not (.eq (w_tm j) (w_tm i)) ∈ flatC (Jvm.Cond.and given_1 narrow_1) := by decide +kernel
theorem w_m4 : Cond.eq (.static "java/lang/String" "COMPACT_STRINGS" "Z") (.int 1) ∈ flatC (Jvm.Cond.and given_1 narrow_1) ∧ Cond.isRef (.static "jdk/internal/util/Preconditions" "SIOOBE_FORMATTER" "Ljava/util/function/BiFunction;") ∈ flatC (Jvm.Cond.and given_1 narrow_1) := by decide +kernel
theorem st_text (hts : ∀ w ∈ lw_tbl, w.before args s = true) (hgv : (Jvm.Cond.and given_1 narrow_1).before args s = true) {A : Nat → Prop} (hA : ∀ a : Nat, a < s.heap.size → ¬ A a) : ∃ (adK adV : Nat → Nat) (bf : Nat), va_Z "java/lang/String" "COMPACT_STRINGS" "Z" (.int 1) A s s.heap ∧ (va_Z "jdk/internal/util/Preconditions" "SIOOBE_FORMATTER" "Ljava/util/function/BiFunction;" .null A s s.heap ∨ va_Z "jdk/internal/util/Preconditions" "SIOOBE_FORMATTER" "Ljava/util/function/BiFunction;" (.ref bf) A s s.heap) ∧
    ∀ i, i < 7 → va_O "java/lang/String" (adK i) A s s.heap ∧ va_OF "java/lang/String" "coder" "B" (.int 0) (adK i) A s s.heap ∧ va_OF "java/lang/String" "value" "[B" (.ref (adV i)) (adK i) A s s.heap ∧ va_T .byte (adV i) (w_len.getD i 0) (fun j => .int (w_c i j)) A s s.heap ∧ vk_R "ThreeDays$Reader" (w_ix.getD i 0) (w_tx.getD i "") (adK i) s := by
  have hf := flat_of_before _ hgv
  obtain ⟨adK, adV, hS, hev⟩ := vk_Sof (args := args) (s := s) (N := 7) (tm := w_tm) (len := w_len) (byt := w_byt) (A := A) (fun i hi => by have := (w_ok i hi).1; omega) (fun i hi => hf _ (w_m1 i hi).1) (fun i hi => hf _ (w_m1 i hi).2.1) (fun i hi => hf _ (w_m1 i hi).2.2.1) (fun i hi => hf _ (w_m1 i hi).2.2.2) (fun i hi j hj => hf _ (w_m2 i hi j (by have := (w_ok i hi).1; omega) hj)) (fun i j hi hj hij => (w_m3 i hi j hj hij).imp (hf _) (hf _)) hA
  have l1 : (Cond.laysStatic "java/lang/String" "COMPACT_STRINGS" "Z").before args s = true := hts _ (List.mem_of_getElem? (i := 208) (by decide +kernel))
  have l2 : (Cond.laysStatic "jdk/internal/util/Preconditions" "SIOOBE_FORMATTER" "Ljava/util/function/BiFunction;").before args s = true := hts _ (List.mem_of_getElem? (i := 224) (by decide +kernel))
  have n1 : (Cond.initialized "java/lang/String").before args s = true := hts _ (List.mem_of_getElem? (i := 81) (by decide +kernel))
  have n2 : (Cond.initialized "jdk/internal/util/Preconditions").before args s = true := hts _ (List.mem_of_getElem? (i := 83) (by decide +kernel))
  have z1 := va_Zof (A := A) l1 n1 (va_eqt (hf _ w_m4.1)) hA
  obtain ⟨v, hv, hvr⟩ := Cond.isRef_spec (hf _ w_m4.2)
  have z2 := va_Zof (A := A) l2 n2 hv hA
  have fin : ∀ bf : Nat, (v = .null ∨ v = .ref bf) → ∃ (adK adV : Nat → Nat) (bf : Nat), va_Z "java/lang/String" "COMPACT_STRINGS" "Z" (.int 1) A s s.heap ∧ (va_Z "jdk/internal/util/Preconditions" "SIOOBE_FORMATTER" "Ljava/util/function/BiFunction;" .null A s s.heap ∨ va_Z "jdk/internal/util/Preconditions" "SIOOBE_FORMATTER" "Ljava/util/function/BiFunction;" (.ref bf) A s s.heap) ∧
      ∀ i, i < 7 → va_O "java/lang/String" (adK i) A s s.heap ∧ va_OF "java/lang/String" "coder" "B" (.int 0) (adK i) A s s.heap ∧ va_OF "java/lang/String" "value" "[B" (.ref (adV i)) (adK i) A s s.heap ∧ va_T .byte (adV i) (w_len.getD i 0) (fun j => .int (w_c i j)) A s s.heap ∧ vk_R "ThreeDays$Reader" (w_ix.getD i 0) (w_tx.getD i "") (adK i) s := fun bf hb =>
    ⟨adK, adV, bf, z1, hb.elim (fun e => Or.inl (by rw [e] at z2; exact z2)) (fun e => Or.inr (by rw [e] at z2; exact z2)), fun i hi => ⟨(hS.1 i hi).1, (hS.1 i hi).2.1, (hS.1 i hi).2.2.1, (hS.1 i hi).2.2.2, vk_R.of (hts _ (w_sref i hi)) (hev i hi)⟩⟩
  cases v with
  | null => exact fin 0 (Or.inl rfl)
  | ref a => exact fin a (Or.inr rfl)
  | int x => cases hvr
  | long x => cases hvr
  | float x => cases hvr
  | double x => cases hvr
  | retAddr x => cases hvr
end
