/-! the law's own arrays beside the class's pool -/
section OV
variable {S M : PT} {a q n i : Nat} {v : Int32}
theorem ov_a (h : gK M a = 12) (S : PT) : gK (ov S M) a = 12 ∧ gN (ov S M) a = gN M a ∧ gA (ov S M) a = gA M a := by
  have h0 : ¬ gK M a = 0 := by rw [h]; decide
  exact ⟨(if_neg h0).trans h, if_neg h0, if_neg h0⟩
theorem ov_sA (h : gK M a = 12) (S : PT) (i : Nat) (v : Int32) : sA (ov S M) a i v = ov S (sA M a i v) := by
  have h0 : ¬ gK M a = 0 := by rw [h]; decide
  have e : gA (ov S M) a = gA M a := if_neg h0
  have e2 : va_up (gA (ov S M)) a (upd (gA (ov S M) a) i v) = (fun b => if gK M b = 0 then gA S b else va_up (gA M) a (upd (gA M a) i v) b) := by
    funext b
    rw [e]
    by_cases hb : b = a
    · subst hb
      rw [if_neg h0, va_up_self, va_up_self]
    · rw [va_up_ne _ _ hb, va_up_ne _ _ hb]
      rfl
  unfold sA
  rw [e2]
  rfl
/-- a new row of the law's -/
def nM (S M : PT) (q n : Nat) : PT := (va_up (gK M) q 12, (fun f b => if b = q then gI S f b else gI M f b), (fun f b => if b = q then gJ S f b else gJ M f b), (fun f b => if b = q then gP S f b else gP M f b), va_up (gN M) q n, va_up (gA M) q (fun _ => 0), va_up (gB M) q (fun _ => 0), va_up (gR M) q (fun _ => none))
theorem nM_K (S M : PT) (q n b : Nat) : gK (nM S M q n) b = if b = q then 12 else gK M b := by
  show va_up (gK M) q 12 b = _
  by_cases e : b = q
  · subst e; rw [va_up_self, if_pos rfl]
  · rw [va_up_ne _ _ e, if_neg e]
theorem nM_n (S M : PT) (q n : Nat) : gK (nM S M q n) q = 12 ∧ gN (nM S M q n) q = n ∧ gA (nM S M q n) q = fun _ => 0 := ⟨va_up_self _ _ _, va_up_self _ _ _, va_up_self _ _ _⟩
theorem nM_o (S M : PT) {q b : Nat} (n : Nat) (h : b ≠ q) : gK (nM S M q n) b = gK M b ∧ gN (nM S M q n) b = gN M b ∧ gA (nM S M q n) b = gA M b := ⟨va_up_ne _ _ h, va_up_ne _ _ h, va_up_ne _ _ h⟩
theorem ov_0 (h : gK (ov S M) q = 0) : gK S q = 0 ∧ gK M q = 0 := by
  have hM : gK M q = 0 := by
    by_cases z : gK M q = 0
    · exact z
    · exact (if_neg z).symm.trans h
  exact ⟨(if_pos hM).symm.trans h, hM⟩
theorem ov_nA (h : gK (ov S M) q = 0) (n : Nat) : nA (ov S M) q 12 n = ov S (nM S M q n) := by
  obtain ⟨hS, hM⟩ := ov_0 h
  have n12 : ¬ (12 : Nat) = 0 := by decide
  have p1 : va_up (gK (ov S M)) q 12 = fun b => if gK (nM S M q n) b = 0 then gK S b else gK (nM S M q n) b := by
    funext b
    rw [nM_K]
    by_cases e : b = q
    · subst e; rw [va_up_self, if_pos rfl, if_neg n12]
    · rw [va_up_ne _ _ e, if_neg e]; rfl
  have p2 : gI (ov S M) = fun f b => if gK (nM S M q n) b = 0 then gI S f b else gI (nM S M q n) f b := by
    funext f b
    rw [nM_K]
    show (if gK M b = 0 then gI S f b else gI M f b) = if _ then _ else (if b = q then gI S f b else gI M f b)
    by_cases e : b = q
    · subst e; rw [if_pos hM, if_pos rfl, if_neg n12, if_pos rfl]
    · rw [if_neg e, if_neg e]
  have p3 : gJ (ov S M) = fun f b => if gK (nM S M q n) b = 0 then gJ S f b else gJ (nM S M q n) f b := by
    funext f b
    rw [nM_K]
    show (if gK M b = 0 then gJ S f b else gJ M f b) = if _ then _ else (if b = q then gJ S f b else gJ M f b)
    by_cases e : b = q
    · subst e; rw [if_pos hM, if_pos rfl, if_neg n12, if_pos rfl]
    · rw [if_neg e, if_neg e]
  have p4 : gP (ov S M) = fun f b => if gK (nM S M q n) b = 0 then gP S f b else gP (nM S M q n) f b := by
    funext f b
    rw [nM_K]
    show (if gK M b = 0 then gP S f b else gP M f b) = if _ then _ else (if b = q then gP S f b else gP M f b)
    by_cases e : b = q
    · subst e; rw [if_pos hM, if_pos rfl, if_neg n12, if_pos rfl]
    · rw [if_neg e, if_neg e]
  have p5 : va_up (gN (ov S M)) q n = fun b => if gK (nM S M q n) b = 0 then gN S b else gN (nM S M q n) b := by
    funext b
    rw [nM_K]
    by_cases e : b = q
    · subst e; rw [va_up_self, if_pos rfl, if_neg n12]; exact (va_up_self _ _ _).symm
    · rw [va_up_ne _ _ e, if_neg e, (nM_o S M n e).2.1]; rfl
  have p6 : va_up (gA (ov S M)) q (fun _ => 0) = fun b => if gK (nM S M q n) b = 0 then gA S b else gA (nM S M q n) b := by
    funext b
    rw [nM_K]
    by_cases e : b = q
    · subst e; rw [va_up_self, if_pos rfl, if_neg n12]; exact (va_up_self _ _ _).symm
    · rw [va_up_ne _ _ e, if_neg e, (nM_o S M n e).2.2]; rfl
  have p7 : va_up (gB (ov S M)) q (fun _ => 0) = fun b => if gK (nM S M q n) b = 0 then gB S b else gB (nM S M q n) b := by
    funext b
    rw [nM_K]
    by_cases e : b = q
    · subst e; rw [va_up_self, if_pos rfl, if_neg n12]; exact (va_up_self _ _ _).symm
    · rw [va_up_ne _ _ e, if_neg e, show gB (nM S M q n) b = gB M b from va_up_ne _ _ e]; rfl
  have p8 : va_up (gR (ov S M)) q (fun _ => none) = fun b => if gK (nM S M q n) b = 0 then gR S b else gR (nM S M q n) b := by
    funext b
    rw [nM_K]
    by_cases e : b = q
    · subst e; rw [va_up_self, if_pos rfl, if_neg n12]; exact (va_up_self _ _ _).symm
    · rw [va_up_ne _ _ e, if_neg e, show gR (nM S M q n) b = gR M b from va_up_ne _ _ e]; rfl
  show (va_up (gK (ov S M)) q 12, gI (ov S M), gJ (ov S M), gP (ov S M), va_up (gN (ov S M)) q n, va_up (gA (ov S M)) q (fun _ => 0), va_up (gB (ov S M)) q (fun _ => 0), va_up (gR (ov S M)) q (fun _ => none)) = _
  rw [p1, p2, p3, p4, p5, p6, p7, p8]
  rfl
theorem dis_nM (hd : dis S M) (h : gK S q = 0) (n : Nat) : dis S (nM S M q n) := fun b hb => by
  rw [nM_K] at hb
  by_cases e : b = q
  · rw [e]; exact h
  · rw [if_neg e] at hb; exact hd b hb
theorem dis_sA (hd : dis S M) (a i : Nat) (v : Int32) : dis S (sA M a i v) := hd
theorem ov_P0 (S : PT) : ov S P0 = S := rfl
theorem dis_P0 (S : PT) : dis S P0 := fun a h => absurd rfl h
/-- the law's three rows -/
def MA (M : PT) (m s w : Nat) (fm fs fw : Nat → Int32) : Prop := (gK M m = 12 ∧ gN M m = 4 ∧ gA M m = fm) ∧ (gK M s = 12 ∧ gN M s = 18 ∧ gA M s = fs) ∧ (gK M w = 12 ∧ gN M w = 64 ∧ gA M w = fw) ∧ m ≠ s ∧ m ≠ w ∧ s ≠ w
theorem sA_A (M : PT) (a i : Nat) (v : Int32) (b : Nat) : gA (sA M a i v) b = if b = a then upd (gA M a) i v else gA M b := by
  show va_up (gA M) a (upd (gA M a) i v) b = _
  by_cases e : b = a
  · subst e; rw [va_up_self, if_pos rfl]
  · rw [va_up_ne _ _ e, if_neg e]
variable {m s w : Nat} {fm fs fw : Nat → Int32}
theorem MA_m (H : MA M m s w fm fs fw) (i : Nat) (v : Int32) : MA (sA M m i v) m s w (upd fm i v) fs fw := by
  obtain ⟨⟨a1, a2, a3⟩, ⟨b1, b2, b3⟩, ⟨c1, c2, c3⟩, d1, d2, d3⟩ := H
  exact ⟨⟨a1, a2, by rw [sA_A, if_pos rfl, a3]⟩, ⟨b1, b2, by rw [sA_A, if_neg (Ne.symm d1), b3]⟩, ⟨c1, c2, by rw [sA_A, if_neg (Ne.symm d2), c3]⟩, d1, d2, d3⟩
theorem MA_s (H : MA M m s w fm fs fw) (i : Nat) (v : Int32) : MA (sA M s i v) m s w fm (upd fs i v) fw := by
  obtain ⟨⟨a1, a2, a3⟩, ⟨b1, b2, b3⟩, ⟨c1, c2, c3⟩, d1, d2, d3⟩ := H
  exact ⟨⟨a1, a2, by rw [sA_A, if_neg d1, a3]⟩, ⟨b1, b2, by rw [sA_A, if_pos rfl, b3]⟩, ⟨c1, c2, by rw [sA_A, if_neg (Ne.symm d3), c3]⟩, d1, d2, d3⟩
theorem MA_w (H : MA M m s w fm fs fw) (i : Nat) (v : Int32) : MA (sA M w i v) m s w fm fs (upd fw i v) := by
  obtain ⟨⟨a1, a2, a3⟩, ⟨b1, b2, b3⟩, ⟨c1, c2, c3⟩, d1, d2, d3⟩ := H
  exact ⟨⟨a1, a2, by rw [sA_A, if_neg d2, a3]⟩, ⟨b1, b2, by rw [sA_A, if_neg d3, b3]⟩, ⟨c1, c2, by rw [sA_A, if_pos rfl, c3]⟩, d1, d2, d3⟩
end OV
