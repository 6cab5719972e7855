/-! bits -/
theorem bit_1 {k : Nat} (hk : k < 32) (l : Nat) : bitI ((1 : Int32) <<< (nI k &&& 31)) l ↔ l = k := by
  unfold bitI
  rw [shl_eq k hk, BitVec.getLsbD_twoPow]
  simp only [Bool.and_eq_true, decide_eq_true_eq]
  omega
theorem bit_or (x y : Int32) (l : Nat) : bitI (x ||| y) l ↔ bitI x l ∨ bitI y l := by
  unfold bitI
  rw [Int32.toBitVec_or, BitVec.getLsbD_or, Bool.or_eq_true]
theorem bit_nd (x y : Int32) (l : Nat) : bitI (x &&& y) l ↔ bitI x l ∧ bitI y l := by
  unfold bitI
  rw [Int32.toBitVec_and, BitVec.getLsbD_and, Bool.and_eq_true]
theorem bit_xor (x y : Int32) (l : Nat) : bitI (x ^^^ y) l ↔ (bitI x l ↔ ¬ bitI y l) := by
  unfold bitI
  rw [Int32.toBitVec_xor, BitVec.getLsbD_xor]
  cases x.toBitVec.getLsbD l <;> cases y.toBitVec.getLsbD l <;> decide
theorem bit_0 (l : Nat) : ¬ bitI 0 l := by
  unfold bitI
  rw [show (0 : Int32).toBitVec = 0#32 from rfl, BitVec.getLsbD_zero]
  decide
theorem bit_z (x : Int32) : x = 0 ↔ ∀ l, ¬ bitI x l := by
  constructor
  · rintro rfl l; exact bit_0 l
  · intro h
    rw [← Int32.toBitVec_inj]
    apply BitVec.eq_of_getLsbD_eq
    intro i _
    have h1 := h i
    unfold bitI at h1
    rw [show (0 : Int32).toBitVec = 0#32 from rfl, BitVec.getLsbD_zero]
    exact Bool.eq_false_iff.mpr h1
