/-! ===== THE STATE: the cells of the class (0 .. 30), of the reference (79 .. 105) ===== -/
abbrev k_0 (ask : Int32) : ga_C := ga_o 10 [.ref 1, .ref 3, .ref 6, .ref 9, .ref 13, .ref 27, .ref 15, .ref 21, .int ask]
abbrev k_T (k : Nat) : ga_C := ga_o 9 [.ref 2, .int (nI k)]
abbrev k_R (rn : Nat) : ga_C := ga_o 5 [.ref 4, .ref 5, .int (nI rn)]
abbrev k_C (fm em sp : Int32) (fn : Nat) (op : Int32) : ga_C := ga_o 2 [.ref 7, .ref 8, .int fm, .int em, .int sp, .int (nI fn), .int op]
abbrev k_L (an : Nat) : ga_C := ga_o 3 [.ref 10, .ref 11, .ref 12, .int (nI an)]
abbrev k_D (rl : Value) (p tk ta : Int32) (tv : Int64) (fd fa : Int32) : ga_C := ga_o 4 [.long 16052, .long 294, .long 20773, .long 13368, .long 13614, .long 21483564, .ref 14, .ref 1, rl, .int p, .int tk, .int ta, .long tv, .int fd, .int fa]
abbrev k_U (b : Nat) (top size tot sm : Int32) : ga_C := ga_o 6 [.ref (b + 1), .ref (b + 2), .ref (b + 3), .ref (b + 4), .ref (b + 5), .int top, .int size, .int tot, .int sm]
abbrev k_B (ka : Nat) : ga_C := ga_o 1 [.ref 3, .ref 9, .ref 29, .ref 28, .ref 15, .int (nI ka)]
abbrev k_Y (hd : Int32) : ga_C := ga_o 8 [.ref 6, .ref 9, .ref 30, .int hd]
abbrev m_O (tp rd fe em sp ac td sm tt p sz fk fp nw md nt pl op : Int32) : ga_C := ga_o 11 [.ref 80, .int tp, .int rd, .ref 81, .int fe, .ref 82, .ref 83, .ref 84, .int em, .int sp, .int ac, .ref 85, .ref 86, .ref 87, .ref 88, .ref 89, .ref 90, .int td, .ref 91, .ref 92, .int sm, .ref 93, .ref 94, .ref 95, .int tt, .int p, .int sz, .int fk, .int fp, .int nw, .int md, .int nt, .ref 96, .ref 97, .ref 98, .ref 99, .ref 100, .ref 101, .ref 102, .int pl, .int op, .ref 103, .ref 104, .ref 105]
def t_20 (tb : Nat → Int32) (k : Nat) (a b c d e : Int32) : Nat → Int32 := t_4 (t_4 (t_4 (t_4 (t_4 tb k a) (k + 4) b) (k + 8) c) (k + 12) d) (k + 16) e
/-- numbers: a comparison with a literal, both ways -/
theorem nI_lit_lt {x : Int32} (a b : Nat) (hx : x = nI a) (ha : a < 2147483648) (hb : b < 2147483648) : x < nI b ↔ a < b := by subst hx; exact nI_ltI ha hb
theorem t_sshr : ∀ v : Int32, (v >>> ((24 : Int32) &&& 31)) &&& 255 = t_by v 24 ∧ (v >>> ((16 : Int32) &&& 31)) &&& 255 = t_by v 16 ∧ (v >>> ((8 : Int32) &&& 31)) &&& 255 = t_by v 8 ∧ (v >>> ((0 : Int32) &&& 31)) &&& 255 = t_by v 0 := by
  intro v
  have key : ∀ (s : Nat), s ≤ 24 → ∀ (a : Int32) (b : UInt32), (a.toBitVec.smod 32).toNat = s → (b.toBitVec % 32).toNat = s → (v >>> a) &&& 255 = (v.toUInt32 >>> b).toInt32 &&& 255 := by
    intro s hs a b ha hb
    apply Int32.toBitVec_inj.mp
    apply BitVec.eq_of_getLsbD_eq
    intro i hi
    have h255 : (255 : Int32).toBitVec = 255#32 := rfl
    rw [Int32.toBitVec_and, Int32.toBitVec_and, BitVec.getLsbD_and, BitVec.getLsbD_and, h255]
    by_cases h8 : i < 8
    · congr 1
      have e1 : (v >>> a).toBitVec = v.toBitVec.sshiftRight (a.toBitVec.smod 32).toNat := rfl
      have e2 : ((v.toUInt32 >>> b).toInt32).toBitVec = v.toBitVec >>> (b.toBitVec % 32).toNat := rfl
      rw [e1, e2, ha, hb, BitVec.getLsbD_sshiftRight, BitVec.getLsbD_ushiftRight]
      have hsi : s + i < 32 := by omega
      rw [if_pos hsi, decide_eq_false (by omega)]
      rfl
    · have : (255#32).getLsbD i = false := by
        have : ∀ j : Fin 32, ¬ j.val < 8 → (255#32).getLsbD j.val = false := by decide
        exact this ⟨i, hi⟩ h8
      rw [this, Bool.and_false, Bool.and_false]
  exact ⟨key 24 (by omega) _ _ (by decide) (by decide), key 16 (by omega) _ _ (by decide) (by decide), key 8 (by omega) _ _ (by decide) (by decide), key 0 (by omega) _ _ (by decide) (by decide)⟩
