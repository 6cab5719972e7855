/-! the class's constructor -/
def Vi (ks : List Nat) (l j : Nat) : Prop := l ∈ ks ∧ j = 0
def Vj (i : Nat) (l j : Nat) : Prop := Vi [11, 12, 2, 16, 19, 18, 17, 9] l j ∨ (l = 4 ∧ j < i)
theorem Vi_n (ks : List Nat) (k : Nat) : Vn (Vi ks) k 0 = Vi (k :: ks) := by
  funext l j
  apply propext
  unfold Vn Vi
  simp only [List.mem_cons]
  constructor
  · rintro (⟨a, b⟩ | ⟨a, b⟩)
    · exact ⟨Or.inr a, b⟩
    · exact ⟨Or.inl a, b⟩
  · rintro ⟨a | a, b⟩
    · exact Or.inr ⟨a, b⟩
    · exact Or.inl ⟨a, b⟩
theorem Vj_0 : Vi [11, 12, 2, 16, 19, 18, 17, 9] = Vj 0 := by
  funext l j
  apply propext
  unfold Vj
  exact ⟨Or.inl, fun h => h.elim id (fun z => absurd z.2 (Nat.not_lt_zero _))⟩
theorem Vj_s (i : Nat) : Vn (Vj i) 4 i = Vj (i + 1) := by
  funext l j
  apply propext
  unfold Vn Vj
  constructor
  · rintro ((h | ⟨a, b⟩) | ⟨a, b⟩)
    · exact Or.inl h
    · exact Or.inr ⟨a, by omega⟩
    · exact Or.inr ⟨a, by omega⟩
  · rintro (h | ⟨a, b⟩)
    · exact Or.inl (Or.inl h)
    · by_cases e : j = i
      · exact Or.inr ⟨a, e⟩
      · exact Or.inl (Or.inr ⟨a, by omega⟩)
theorem Vj_VC (len : Nat → Nat) : Vj 6 = VC (fun _ => 0) len := by
  funext l j
  apply propext
  unfold Vj Vi VC
  simp only [List.mem_cons, List.not_mem_nil, or_false]
  split
  · omega
  · omega
  · omega
  · omega
  · omega
  · omega
  · omega
  · omega
  · omega
  · omega
  · omega
  · exact ⟨fun h => by omega, False.elim⟩
  · omega
  · omega
  · omega
  · omega
  · omega
  · omega
  · rename_i h1 h2 h3 h4 h5 h6 h7 h8 h9 h11 h12 h13 h15 h16 h17 h18 h19 h20
    constructor
    · rintro (⟨h, -⟩ | ⟨h, -⟩)
      · rcases h with h | h | h | h | h | h | h | h
        · exact h11 h
        · exact h12 h
        · exact h2 h
        · exact h16 h
        · exact h19 h
        · exact h18 h
        · exact h17 h
        · exact h9 h
      · exact h4 h
    · exact False.elim
/-- all numbers of the tables are 0 -/
def TZ (T : CT) : Prop := (∀ F j, tI T F j = 0) ∧ ∀ j, tJ T j = 0
def Tz : CT := (fun _ _ => 0, fun _ => 0, fun _ _ => none, fun _ _ => 0, fun _ _ _ => none, fun _ => 0, fun _ => 0)
section I
variable {ad : Nat → Nat → Nat} {S : PT} {T : CT} {ks : List Nat}
theorem TZ_N (h : TZ T) (k i : Nat) : TZ (uN T k i) := by
  refine ⟨fun F j => ?_, fun j => ?_⟩
  · show (if F / 100 = k ∧ j = i then 0 else tI T F j) = 0
    split
    · rfl
    · exact h.1 F j
  · show (if k = 4 ∧ j = i then 0 else tJ T j) = 0
    split
    · rfl
    · exact h.2 j
theorem TZ_I (h : TZ T) (F i : Nat) : TZ (uI T F i 0) := by
  refine ⟨fun G j => ?_, h.2⟩
  show up2 (tI T) F i 0 G j = 0
  unfold up2
  split
  · rfl
  · exact h.1 G j
theorem TZ_P (h : TZ T) (F i : Nat) (v : Option Nat) : TZ (uP T F i v) := ⟨h.1, h.2⟩
theorem TZ_M (h : TZ T) (k i m : Nat) : TZ (uM T k i m) := ⟨h.1, h.2⟩
theorem TZ_R (h : TZ T) (k i j : Nat) (v : Option Nat) : TZ (uR T k i j v) := ⟨h.1, h.2⟩
theorem iA (R : RC ad (Vi ks) S T) (W : WJ (Vi ks) T) (Z : TZ T) {q k m : Nat} (hk : k ∉ ks) (h12 : 12 ≤ k) (h20 : k ≠ 20) (hq : gK S q = 0) {S1 : PT} (e1 : S1 = nA S q k m) :
    ∃ ad', RC ad' (Vi (k :: ks)) S1 (uM T k 0 m) ∧ WJ (Vi (k :: ks)) (uM T k 0 m) ∧ TZ (uM T k 0 m) ∧ ad' k 0 = q ∧ ∀ l j, l ≠ k → ad' l j = ad l j := by
  have hn : ¬ Vi ks k 0 := fun h => hk h.1
  refine ⟨up2 ad k 0 q, ?_, ?_, TZ_M Z _ _ _, up2_s _ _ _ _, fun l j hl => up2_f _ _ _ _ hl⟩
  · rw [e1, ← Vi_n]
    exact RC_nA R W.1 hq hn h12 (fun _ => rfl) h20
  · rw [← Vi_n]
    exact WJ_nA W hn h12
theorem iO (R : RC ad (Vi ks) S T) (W : WJ (Vi ks) T) (Z : TZ T) {q k : Nat} (hk : k ∉ ks) (h1 : 1 ≤ k) (h11 : k ≤ 11) (hq : gK S q = 0) {S1 : PT} (e1 : S1 = nO S q k) :
    ∃ ad', RC ad' (Vi (k :: ks)) S1 (uN T k 0) ∧ WJ (Vi (k :: ks)) (uN T k 0) ∧ TZ (uN T k 0) ∧ ad' k 0 = q ∧ ∀ l j, l ≠ k → ad' l j = ad l j := by
  have hn : ¬ Vi ks k 0 := fun h => hk h.1
  refine ⟨up2 ad k 0 q, ?_, ?_, TZ_N Z _ _, up2_s _ _ _ _, fun l j hl => up2_f _ _ _ _ hl⟩
  · rw [e1, ← Vi_n]
    exact RC_nO R W.1 hq hn h1 h11
  · rw [← Vi_n]
    exact WJ_nO W hn h11
theorem iP (R : RC ad (Vi ks) S T) (W : WJ (Vi ks) T) (Z : TZ T) (k s : Nat) {F x q : Nat} (hk : k ∈ ks) (hF : F = 100 * k + s) (hs : s < 100) (h11 : k ≤ 11) (ht : tk F ∈ ks) (ht20 : tk F ≠ 20) (ex : ad k 0 = x) (eq : ad (tk F) 0 = q) {S1 : PT} (e1 : S1 = sP S F x (some q)) :
    RC ad (Vi ks) S1 (uP T F 0 (some 0)) ∧ WJ (Vi ks) (uP T F 0 (some 0)) ∧ TZ (uP T F 0 (some 0)) := by
  subst ex
  refine ⟨RC_uP R (Q := fun S' => RC ad (Vi ks) S' (uP T F 0 (some 0))) ⟨hk, rfl⟩ s hF hs h11 (some 0) (by rw [← eq]; rfl) (fun S' R' => R') S1 e1, WJ_uP W ht20 (fun t h => by cases h; exact ⟨ht, rfl⟩), TZ_P Z _ _ _⟩
theorem iE (R : RC ad (Vi ks) S T) (W : WJ (Vi ks) T) (Z : TZ T) {x q : Nat} (hk : 11 ∈ ks) (ex : ad 11 0 = x) (eq : ad 20 0 = q) {S1 : PT} (e1 : S1 = sP S 1101 x (some q)) :
    RC ad (Vi ks) S1 (uP T 1101 0 (some 0)) ∧ WJ (Vi ks) (uP T 1101 0 (some 0)) ∧ TZ (uP T 1101 0 (some 0)) := by
  subst ex
  refine ⟨RC_uP R (Q := fun S' => RC ad (Vi ks) S' (uP T 1101 0 (some 0))) (k := 11) ⟨hk, rfl⟩ 1 rfl (by decide) (by decide) (some 0) (by rw [← eq]; rfl) (fun S' R' => R') S1 e1, ⟨WF_uP W.1 (fun t _ h => absurd rfl h), fun l s j h1 h2 h3 h4 h5 => ?_⟩, TZ_P Z _ _ _⟩
  rw [tP_o h5]
  exact W.2 l s j h1 h2 h3 h4 h5
theorem i0 (e0 x : Nat) : ∃ ad, RC ad (Vi [9]) (nO P0 x 9) (uN Tz 9 0) ∧ WJ (Vi [9]) (uN Tz 9 0) ∧ TZ (uN Tz 9 0) ∧ ad 9 0 = x ∧ ad 20 0 = e0 := by
  have no : ∀ l j, ¬ Vi [] l j := fun l j h => by cases h.1
  have R0 : RC (fun _ _ => e0) (Vi []) P0 Tz := ⟨fun k i h => absurd h (no k i), fun k i _ h => absurd h (no k i), fun k s i h => absurd h (no k i), fun i h => absurd h (no 4 i), fun k i h => absurd h (no k i), fun i h => absurd h (no 12 i), fun i h => absurd h (no 13 i)⟩
  have W0 : WJ (Vi []) Tz := ⟨⟨fun k s i t h => absurd h (no k i), fun k i j t h => absurd h (no k i)⟩, fun k s i h => absurd h (no k i)⟩
  obtain ⟨A, R, W, Z, e, o⟩ := iO R0 W0 ⟨fun _ _ => rfl, fun _ => rfl⟩ (q := x) (k := 9) (by decide) (by decide) (by decide) rfl rfl
  exact ⟨A, R, W, Z, e, o 20 0 (by decide)⟩
/-- what the tables hold when i parties are there -/
def TJ (i : Nat) (T : CT) : Prop := TZ T ∧ (tP T 900 0 = some 0 ∧ tP T 902 0 = some 0 ∧ tP T 904 0 = some 0 ∧ tP T 906 0 = some 0 ∧ tP T 907 0 = some 0 ∧ tP T 908 0 = some 0 ∧ tP T 200 0 = some 0 ∧ tP T 1101 0 = some 0) ∧ (tN T 17 0 = 6 ∧ tN T 18 0 = 30 ∧ tN T 19 0 = 24 ∧ tN T 16 0 = 6 ∧ tN T 12 0 = 64) ∧ (tR T 17 0 = fun _ => none) ∧ (tR T 18 0 = fun _ => none) ∧ (tR T 19 0 = fun _ => none) ∧ (∀ j, tR T 16 0 j = iT (j < i) (some j) none)
theorem TJ_s {i : Nat} (h : TJ i T) : TJ (i + 1) (uR (uN T 4 i) 16 0 i (some i)) := by
  obtain ⟨z, ⟨a1, a2, a3, a4, a5, a6, a7, a8⟩, b, c1, c2, c3, c4⟩ := h
  have e : ∀ F, F / 100 ≠ 4 → tP (uR (uN T 4 i) 16 0 i (some i)) F 0 = tP T F 0 := fun F hF => by rw [tP_uR, tP_N hF]
  refine ⟨TZ_R (TZ_N z _ _) _ _ _ _, ⟨?_, ?_, ?_, ?_, ?_, ?_, ?_, ?_⟩, ?_, ?_, ?_, ?_, fun j => ?_⟩
  · rw [e 900 (by decide)]; exact a1
  · rw [e 902 (by decide)]; exact a2
  · rw [e 904 (by decide)]; exact a3
  · rw [e 906 (by decide)]; exact a4
  · rw [e 907 (by decide)]; exact a5
  · rw [e 908 (by decide)]; exact a6
  · rw [e 200 (by decide)]; exact a7
  · rw [e 1101 (by decide)]; exact a8
  · rw [tN_uR, tN_uN]; exact b
  · rw [tR_of (by decide), tR_uN]; exact c1
  · rw [tR_of (by decide), tR_uN]; exact c2
  · rw [tR_of (by decide), tR_uN]; exact c3
  · rw [tR_s, tR_uN, c4]
    by_cases e : j = i
    · rw [if_pos e, iT_T (by omega), e]
    · rw [if_neg e]
      by_cases hl : j < i
      · rw [iT_T hl, iT_T (by omega)]
      · rw [iT_F hl, iT_F (by omega)]
theorem X8_l {e0 m0 x : Nat} {mc ms : Nat} {post : PT → Prop} : ∀ (d i c0 n0 : Nat) (ad : Nat → Nat → Nat) (S : PT) (T : CT), i + d = 6 → RC ad (Vj i) S T → WJ (Vj i) T → TJ i T → ad 9 0 = x → ad 20 0 = e0 → c0 + d ≤ mc → n0 + 4 * d ≤ ms →
    (∀ ad' S' T', RC ad' (Vj 6) S' T' → WJ (Vj 6) T' → TJ 6 T' → ad' 9 0 = x → ad' 20 0 = e0 → post S') → w_X8_init_l64 e0 m0 x mc ms post (d + 1) c0 n0 S (nI i) := by
  intro d
  induction d with
  | zero =>
    intro i c0 n0 ad S T hi R W A ex e20 hc hn h
    have e : i = 6 := by omega
    subst e
    have o9 := RC_o9 R (show Vj 6 9 0 from Or.inl ⟨by decide, rfl⟩)
    have o16 := RC_a16 R (show Vj 6 16 0 from Or.inl ⟨by decide, rfl⟩)
    rw [ex] at o9
    unfold w_X8_init_l64
    refine ⟨by omega, by omega, o9.1, ad 16 0, ?_, o16.1, ?_⟩
    · rw [o9.2.2.2.2.2.2.2.1, A.2.1.2.2.2.1]; rfl
    · rw [o16.2.1, A.2.2.1.2.2.2.1]
      exact ⟨fun _ => h ad S T R W A ex e20, fun hn => absurd (by decide) hn⟩
  | succ d ih =>
    intro i c0 n0 ad S T hi R W A ex e20 hc hn h
    have o9 := RC_o9 R (show Vj i 9 0 from Or.inl ⟨by decide, rfl⟩)
    have o16 := RC_a16 R (show Vj i 16 0 from Or.inl ⟨by decide, rfl⟩)
    rw [ex] at o9
    have c : ¬ nI 6 ≤ nI i := by rw [qn_le (by omega) (by omega)]; omega
    unfold w_X8_init_l64
    refine ⟨by omega, by omega, o9.1, ad 16 0, ?_, o16.1, ?_⟩
    · rw [o9.2.2.2.2.2.2.2.1, A.2.1.2.2.2.1]; rfl
    rw [o16.2.1, A.2.2.1.2.2.2.1]
    refine ⟨fun hn => absurd hn c, fun _ => ⟨by omega, by omega, ?_⟩⟩
    intro q S1 hq e1
    have hno : ¬ Vj i 4 i := by
      rintro (⟨h, -⟩ | ⟨-, h⟩)
      · revert h; decide
      · omega
    have R1 := RC_nO R W.1 hq hno (by decide) (by decide)
    have W1 := WJ_nO W hno (by decide)
    rw [Vj_s] at R1 W1
    rw [← e1] at R1
    have e7 : ∀ k j, k ≠ 4 → up2 ad 4 i q k j = ad k j := fun k j hk => up2_f _ _ _ _ hk
    have eq7 : up2 ad 4 i q 4 i = q := up2_s _ _ _ _
    generalize up2 ad 4 i q = A1 at *
    have v4 : Vj (i + 1) 4 i := Or.inr ⟨rfl, by omega⟩
    have v16 : Vj (i + 1) 16 0 := Or.inl ⟨by decide, rfl⟩
    have o4 := RC_o4 R1 v4
    have o16' := RC_a16 R1 v16
    rw [eq7] at o4
    rw [← e7 16 0 (by decide)]
    unfold w_X3_init
    refine ⟨o16'.1, o4.1, ?_, ?_⟩
    · rw [o16'.2.1, tN_uN, A.2.2.1.2.2.2.1]
      exact vin_nI (by omega) (by omega)
    rw [qn_nat (show i < 2147483648 by omega), qn_s]
    refine RC_uR R1 v16 (by decide) (some i) (by rw [← eq7]; rfl) (fun S3 R3 => ?_)
    exact ih (i + 1) (c0 + 1) (n0 + 4) A1 S3 _ (by omega) R3 (WJ_uR W1 (fun t ht => by cases ht; exact v4)) (TJ_s A) (by rw [e7 9 0 (by decide)]; exact ex) (by rw [e7 20 0 (by decide)]; exact e20) (by omega) (by omega) h
theorem X8_mk {e0 m0 x : Nat} {post : PT → Prop} (h : ∀ ad S' T, RC ad (Vj 6) S' T → WJ (Vj 6) T → TJ 6 T → ad 9 0 = x → ad 20 0 = e0 → post S') : w_X8_init e0 m0 x (nO P0 x 9) 60 2000 post := by
  obtain ⟨A0, R, W, Z, x0, y0⟩ := i0 e0 x
  unfold w_X8_init
  refine ⟨by decide, by decide, ?_⟩
  intro q S1 hq e1
  obtain ⟨A1, R1, W1, Z1, eq, o1⟩ := iA R W Z (by decide) (by decide) (by decide) hq e1
  have x1 : A1 9 0 = x := (o1 9 0 (by decide)).trans x0
  have y1 : A1 20 0 = e0 := (o1 20 0 (by decide)).trans y0
  refine ⟨by rw [← x1]; exact (RC_o9 R1 ⟨by decide, rfl⟩).1, ?_⟩
  clear R W Z o1 hq e1 x0 y0
  intro S2 e2
  obtain ⟨R2, W2, Z2⟩ := iP R1 W1 Z1 9 0 (by decide) rfl (by decide) (by decide) (by decide) (by decide) x1 eq e2
  refine ⟨by decide, by decide, ?_⟩
  clear R1 W1 Z1 e2 eq
  intro q S3 hq e1
  obtain ⟨A3, R3, W3, Z3, eq, o1⟩ := iA R2 W2 Z2 (by decide) (by decide) (by decide) hq e1
  have x3 : A3 9 0 = x := (o1 9 0 (by decide)).trans x1
  have y3 : A3 20 0 = e0 := (o1 20 0 (by decide)).trans y1
  clear R2 W2 Z2 hq e1 o1 x1 y1
  intro S4 e2
  obtain ⟨R4, W4, Z4⟩ := iP R3 W3 Z3 9 2 (by decide) rfl (by decide) (by decide) (by decide) (by decide) x3 eq e2
  clear R3 W3 Z3 eq e2
  refine ⟨by decide, by decide, ?_⟩
  intro q S5 hq e1
  obtain ⟨A5, R5, W5, Z5, eq, o1⟩ := iA R4 W4 Z4 (by decide) (by decide) (by decide) hq e1
  have x5 : A5 9 0 = x := (o1 9 0 (by decide)).trans x3
  have y5 : A5 20 0 = e0 := (o1 20 0 (by decide)).trans y3
  clear R4 W4 Z4 hq e1 o1 x3 y3
  intro S6 e2
  obtain ⟨R6, W6, Z6⟩ := iP R5 W5 Z5 9 4 (by decide) rfl (by decide) (by decide) (by decide) (by decide) x5 eq e2
  clear R5 W5 Z5 eq e2
  refine ⟨by decide, by decide, ?_⟩
  intro q S7 hq e1
  obtain ⟨A7, R7, W7, Z7, eq, o1⟩ := iA R6 W6 Z6 (by decide) (by decide) (by decide) hq e1
  have x7 : A7 9 0 = x := (o1 9 0 (by decide)).trans x5
  have y7 : A7 20 0 = e0 := (o1 20 0 (by decide)).trans y5
  clear R6 W6 Z6 hq e1 o1 x5 y5
  intro S8 e2
  obtain ⟨R8, W8, Z8⟩ := iP R7 W7 Z7 9 6 (by decide) rfl (by decide) (by decide) (by decide) (by decide) x7 eq e2
  clear R7 W7 Z7 eq e2
  refine ⟨by decide, by decide, ?_⟩
  intro q S9 hq e1
  obtain ⟨A9, R9, W9, Z9, eq, o1⟩ := iO R8 W8 Z8 (by decide) (by decide) (by decide) hq e1
  have x9 : A9 9 0 = x := (o1 9 0 (by decide)).trans x7
  have y9 : A9 20 0 = e0 := (o1 20 0 (by decide)).trans y7
  clear R8 W8 Z8 hq e1 o1 x7 y7
  refine ⟨1, 64, by decide, by decide, ?_⟩
  unfold w_X1_init
  refine ⟨by decide, by decide, ?_⟩
  intro q1 S10 hq e1
  obtain ⟨A10, R10, W10, Z10, eq1, o1⟩ := iA R9 W9 Z9 (by decide) (by decide) (by decide) hq e1
  have x10 : A10 9 0 = x := (o1 9 0 (by decide)).trans x9
  have y10 : A10 20 0 = e0 := (o1 20 0 (by decide)).trans y9
  have eqa : A10 2 0 = q := (o1 2 0 (by decide)).trans eq
  clear R9 W9 Z9 hq e1 o1 x9 y9 eq
  refine ⟨by rw [← eqa]; exact (RC_o2 R10 ⟨by decide, rfl⟩).1, ?_⟩
  intro S11 e2
  obtain ⟨R11, W11, Z11⟩ := iP R10 W10 Z10 2 0 (by decide) rfl (by decide) (by decide) (by decide) (by decide) eqa eq1 e2
  clear R10 W10 Z10 eq1 e2
  refine ⟨by rw [← x10]; exact (RC_o9 R11 ⟨by decide, rfl⟩).1, ?_⟩
  intro S12 e2
  obtain ⟨R12, W12, Z12⟩ := iP R11 W11 Z11 9 7 (by decide) rfl (by decide) (by decide) (by decide) (by decide) x10 eqa e2
  clear R11 W11 Z11 eqa e2
  refine ⟨by decide, by decide, ?_⟩
  intro q2 S13 hq e1
  obtain ⟨A13, R13, W13, Z13, eq, o1⟩ := iO R12 W12 Z12 (by decide) (by decide) (by decide) hq e1
  have x13 : A13 9 0 = x := (o1 9 0 (by decide)).trans x10
  have y13 : A13 20 0 = e0 := (o1 20 0 (by decide)).trans y10
  clear R12 W12 Z12 hq e1 o1 x10 y10
  unfold w_Jx4a65c_init_da8c8 w_Jxc12de_init_da8c8 w_Jxa1e45_init_da8c8
  have k13 : gK S13 q2 = 11 := by rw [← eq]; exact (RC_o11 R13 ⟨by decide, rfl⟩).1
  refine ⟨k13, ?_⟩
  rw [← eq]
  refine RC_uI (k := 11) R13 ⟨by decide, rfl⟩ 0 rfl (by decide) (by decide) (fun S14 R14 => ?_)
  have W14 := WJ_uI (F := 1100) (i := 0) (v := 0) W13
  have Z14 := TZ_I Z13 1100 0
  refine ⟨(RC_o11 R14 ⟨by decide, rfl⟩).1, ?_⟩
  intro S15 e2
  obtain ⟨R15, W15, Z15⟩ := iE R14 W14 Z14 (by decide) rfl y13 e2
  clear R13 W13 Z13 R14 W14 Z14 e2
  refine ⟨by rw [← x13]; exact (RC_o9 R15 ⟨by decide, rfl⟩).1, ?_⟩
  intro S16 e2
  obtain ⟨R16, W16, Z16⟩ := iP R15 W15 Z15 9 8 (by decide) rfl (by decide) (by decide) (by decide) (by decide) x13 rfl e2
  clear R15 W15 Z15 e2
  rw [Vj_0] at R16 W16
  refine ⟨7, X8_l 6 0 _ _ A13 S16 _ rfl R16 W16 ⟨Z16, ?_, ?_, ?_, ?_, ?_, fun j => ?_⟩ x13 y13 (by decide) (by decide) h⟩
  · refine ⟨?_, ?_, ?_, ?_, ?_, ?_, ?_, ?_⟩ <;> simp (disch := decide) only [tP_s, tP_o, tP_uM, tP_N, tP_uI]
  · refine ⟨?_, ?_, ?_, ?_, ?_⟩ <;> simp (disch := decide) only [tN_uP, tN_uM, tN_uN, tN_uI, up2_s, up2_f]
  · simp (disch := decide) only [tR_uP, tR_uM, tR_uN, tR_uI, up2_s, up2_f]
  · simp (disch := decide) only [tR_uP, tR_uM, tR_uN, tR_uI, up2_s, up2_f]
  · simp (disch := decide) only [tR_uP, tR_uM, tR_uN, tR_uI, up2_s, up2_f]
  · rw [iT_F (Nat.not_lt_zero _)]
    simp (disch := decide) only [tR_uP, tR_uM, tR_uN, tR_uI, up2_s, up2_f]
theorem bh_0 (f : Nat) : 0 ≤ bh f := by
  unfold bh
  split <;> decide
theorem bl_0 (f : Nat) : bl f ≤ 0 := by
  unfold bl
  split
  · decide
  · split
    · decide
    · split
      · decide
      · decide
theorem sg_B (a b : Nat) : IB (sg a b) := by
  intro f i
  have h0 := bl_0 f
  have h1 := bh_0 f
  have e1 : (-1 : Int32).toInt = -1 := by decide
  have e0 : (0 : Int32).toInt = 0 := by decide
  have key : ∀ P : Prop, (P → f = 13 ∨ f = 6 ∨ f = 8) → P → bl f ≤ (-1 : Int32).toInt ∧ (-1 : Int32).toInt ≤ bh f := by
    intro P hp p
    rw [e1]
    refine ⟨?_, by omega⟩
    rcases hp p with rfl | rfl | rfl
    · decide
    · decide
    · decide
  unfold sg
  by_cases h : f = 13 ∧ i < a
  · rw [iT_T h]
    exact key _ (fun z => Or.inl z.1) h
  · rw [iT_F h]
    by_cases h2 : (f = 6 ∨ f = 8) ∧ i < b
    · rw [iT_T h2]
      exact key _ (fun z => Or.inr z.1) h2
    · rw [iT_F h2, e0]
      exact ⟨h0, h1⟩
theorem sg_z {a b f : Nat} (h : f ≠ 13 ∧ f ≠ 6 ∧ f ≠ 8) (j : Nat) : sg a b f j = 0 := by
  unfold sg
  rw [iT_F (by omega), iT_F (by omega)]
theorem sg_13 {a b j : Nat} (h : j < a) : sg a b 13 j = -1 := iT_T ⟨rfl, h⟩
theorem sg_6 {a b f j : Nat} (hf : f = 6 ∨ f = 8) (h : j < b) : sg a b f j = -1 := by
  unfold sg
  rw [iT_F (by omega), iT_T ⟨hf, h⟩]
theorem g_init (A : TJ 6 T) : GI (uM T 13 0 1) (sg 240 6) (fun _ => 0) (fun _ => 0) (fun _ => 0) 0 0 := by
  obtain ⟨⟨zI, zJ⟩, ⟨a1, a2, a3, a4, a5, a6, a7, a8⟩, ⟨b1, b2, b3, b4, b5⟩, c1, c2, c3, c4⟩ := A
  have n0 : ∀ k : Nat, ¬ k < 0 := Nat.not_lt_zero
  refine ⟨⟨?_, ?_, fun j hj => absurd hj (n0 j), fun j hj => absurd hj (n0 j), fun j hj => absurd hj (n0 j), fun j i hj => absurd hj (n0 j), ?_, sg_B _ _⟩, ⟨fun j hj => absurd hj (n0 j), fun j i hj => absurd hj (n0 j)⟩, fun j hj => absurd hj (n0 j), fun p hp => ?_, ?_, ?_, ?_, ?_, ?_, ?_, ?_, ?_, ?_, ?_, ?_, ?_⟩
  · refine ⟨?_, by decide, ?_, by decide, ?_, by decide, ?_, by decide, by decide⟩
    · exact sg_z (by decide) 0
    · exact sg_z (by decide) 0
    · exact sg_z (by decide) 0
    · exact sg_z (by decide) 0
  · refine ⟨zI _ _, zI _ _, zI _ _, ?_, a1, a2, a3, a4, a5, a6, ?_, ?_, ?_, ?_, fun i => ?_, fun i => ?_, fun i => ?_, fun i hi => ?_, ?_⟩
    · rw [sg_z (by decide)]; exact zI _ _
    · rw [tN_uM, up2_f _ _ _ _ (by decide)]; exact b1
    · rw [tN_uM, up2_f _ _ _ _ (by decide)]; exact b2
    · rw [tN_uM, up2_f _ _ _ _ (by decide)]; exact b3
    · rw [tN_uM, up2_f _ _ _ _ (by decide)]; exact b4
    · rw [tR_uM, up2_f _ _ _ _ (by decide), c1, iT_F (n0 i)]
    · rw [tR_uM, up2_f _ _ _ _ (by decide), c2, iT_F (n0 i)]
    · rw [tR_uM, up2_f _ _ _ _ (by decide), c3, iT_F (n0 i)]
    · rw [tR_uM, up2_f _ _ _ _ (by decide), c4, iT_T hi]
    · rw [tN_uM, up2_s]
  · refine ⟨fun j hj => absurd hj (n0 j), fun j hj => absurd hj (n0 j), fun j hj => absurd hj (n0 j), fun j hj => absurd hj (n0 j), fun q hq hn => absurd (sg_13 hq) hn, fun k _ => sg_z (by decide) _⟩
  · refine ⟨zJ p, fun _ => ⟨zI _ _, ?_, ?_⟩⟩
    · rw [sg_z (by decide)]; exact zI _ _
    · rw [sg_z (by decide)]; exact zI _ _
  · refine ⟨0, 0, zI _ _, by decide, a7, ?_, by decide, by decide, fun w _ => rfl⟩
    rw [tN_uM, up2_f _ _ _ _ (by decide)]; exact b5
  · exact ⟨fun j hj => absurd hj (n0 j), fun a b _ hj => absurd hj (n0 b), fun j hj => absurd hj (n0 j), fun j hj => absurd hj (n0 j), fun j hj => absurd hj (n0 j)⟩
  · exact ⟨a8, zI _ _, fun h => absurd h (n0 0)⟩
  · exact fun j _ hj => ⟨sg_6 (Or.inl rfl) hj, sg_z (by decide) _, sg_6 (Or.inr rfl) hj, sg_z (by decide) _⟩
  · exact fun q _ hn => absurd (sg_z (by decide) _) hn
  · exact fun t _ => sg_z (by decide) _
  · exact fun k _ => ⟨sg_z (by decide) _, sg_z (by decide) _, sg_z (by decide) _, sg_z (by decide) _, sg_z (by decide) _⟩
  · intro q k hq hk e
    rw [sg_13 hq] at e
    exact absurd e (by rw [ieq, nI_toInt (by omega), show (-1 : Int32).toInt = -1 from by decide]; omega)
  · exact ⟨fun a b _ _ _ => sg_z (by decide) _, fun a b _ _ _ => sg_z (by decide) _⟩
  · exact fun k _ => sg_z (by decide) _
  · intro j
    rw [sg_z (by decide), sg_z (by decide), ile]; omega
  · intro p
    rw [sg_z (by decide)]
    exact ⟨by decide, by decide⟩
/-- the state at the start -/
theorem RC_u13 {V : Nat → Nat → Prop} (R : RC ad V S T) (h : ∀ i, ¬ V 13 i) : RC ad V S (uM T 13 0 1) := by
  obtain ⟨r1, r2, r3, r4, r5, r6, r7⟩ := R
  refine ⟨r1, r2, r3, r4, fun k i hv h12 => ?_, r6, fun i hv => absurd hv (h i)⟩
  have hne : ¬ (k = 13 ∧ i = 0) := fun e => h i (by rw [e.1] at hv; exact hv)
  have b := r5 k i hv h12
  refine ⟨?_, fun h15 j => ?_⟩
  · rw [b.1, tN_uM, up2_ne _ _ hne]
  · rw [b.2 h15 j, tR_uM, up2_ne _ _ hne]
theorem WJ_u13 {V : Nat → Nat → Prop} (W : WJ V T) : WJ V (uM T 13 0 1) := by
  refine ⟨⟨W.1.1, fun k i j t hv h15 e => ?_⟩, W.2⟩
  rw [tR_uM, up2_ne _ _ (show ¬ (k = 13 ∧ i = 0) by omega)] at e
  exact W.1.2 k i j t hv h15 e
theorem ST_0 {e0 x : Nat} (R : RC ad (Vj 6) S T) (W : WJ (Vj 6) T) (A : TJ 6 T) (ex : ad 9 0 = x) (e20 : ad 20 0 = e0) : ST e0 x (ad 13 0) S (sg 240 6) (fun _ => 0) 0 64 := by
  have hn : ∀ i, ¬ Vj 6 13 i := by
    rintro i (⟨h, -⟩ | ⟨h, -⟩)
    · revert h; decide
    · revert h; decide
  have R1 := RC_u13 R hn
  have W1 := WJ_u13 W
  rw [Vj_VC (z_len (sg 240 6))] at R1 W1
  refine ⟨ad, fun _ => 0, fun _ => 0, uM T 13 0 1, 0, R1, W1, ex, rfl, fun _ => e20, fun h => absurd h (Nat.lt_irrefl _), Nat.le_refl _, sg_z (by decide) _, by decide, GI_up (Nat.zero_le _) (Nat.le_refl _) (g_init A), ?_⟩
  rw [tN_uM, up2_f _ _ _ _ (by decide)]; exact A.2.2.1.2.2.2.2
end I
