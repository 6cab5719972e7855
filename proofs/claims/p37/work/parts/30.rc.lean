/-! the pool of the class: the i-th of kind k lies at ad k i; V k i: it is there; T: what it holds, pointers as numbers -/
abbrev CT : Type := SG × MU × (Nat → Nat → Option Nat) × (Nat → Nat → Nat) × (Nat → Nat → Nat → Option Nat) × (Nat → Int32) × (Nat → Int64)
def tI (T : CT) : SG := T.1
def tJ (T : CT) : MU := T.2.1
def tP (T : CT) : Nat → Nat → Option Nat := T.2.2.1
def tN (T : CT) : Nat → Nat → Nat := T.2.2.2.1
def tR (T : CT) : Nat → Nat → Nat → Option Nat := T.2.2.2.2.1
def tA (T : CT) : Nat → Int32 := T.2.2.2.2.2.1
def tB (T : CT) : Nat → Int64 := T.2.2.2.2.2.2
def uI (T : CT) (F i : Nat) (v : Int32) : CT := (up2 (tI T) F i v, tJ T, tP T, tN T, tR T, tA T, tB T)
def uJ (T : CT) (i : Nat) (v : Int64) : CT := (tI T, vp_updL (tJ T) i v, tP T, tN T, tR T, tA T, tB T)
def uP (T : CT) (F i : Nat) (v : Option Nat) : CT := (tI T, tJ T, up2 (tP T) F i v, tN T, tR T, tA T, tB T)
def uR (T : CT) (k i j : Nat) (v : Option Nat) : CT := (tI T, tJ T, tP T, tN T, up2 (tR T) k i (va_up (tR T k i) j v), tA T, tB T)
def uA (T : CT) (i : Nat) (v : Int32) : CT := (tI T, tJ T, tP T, tN T, tR T, upd (tA T) i v, tB T)
def uB (T : CT) (i : Nat) (v : Int64) : CT := (tI T, tJ T, tP T, tN T, tR T, tA T, vp_updL (tB T) i v)
/-- the i-th of kind k is new -/
def uN (T : CT) (k i : Nat) : CT := ((fun F j => if F / 100 = k ∧ j = i then 0 else tI T F j), (fun j => if k = 4 ∧ j = i then 0 else tJ T j), (fun F j => if F / 100 = k ∧ j = i then none else tP T F j), tN T, tR T, tA T, tB T)
/-- an array of kind k is new, of n places -/
def uM (T : CT) (k i n : Nat) : CT := (tI T, tJ T, tP T, up2 (tN T) k i n, up2 (tR T) k i (fun _ => none), (if k = 12 then (fun _ => 0) else tA T), (if k = 13 then (fun _ => 0) else tB T))
def tk (F : Nat) : Nat := if F = 100 then 8 else if F = 104 then 1 else if F = 200 then 12 else if F = 303 then 1 else if F = 503 then 5 else if F = 504 then 15 else if F = 600 then 5 else if F = 602 then 8 else if F = 701 then 5 else if F = 802 then 5 else if F = 900 then 17 else if F = 902 then 18 else if F = 904 then 19 else if F = 906 then 16 else if F = 907 then 2 else if F = 908 then 11 else 20
def ek (k : Nat) : Nat := if k = 15 then 3 else if k = 16 then 4 else if k = 17 then 5 else if k = 18 then 7 else if k = 19 then 8 else 6
def RC (ad : Nat → Nat → Nat) (V : Nat → Nat → Prop) (S : PT) (T : CT) : Prop :=
  (∀ k i, V k i → gK S (ad k i) = k ∧ 1 ≤ k) ∧ (∀ k i j, V k i → V k j → ad k i = ad k j → i = j) ∧
  (∀ k s i, V k i → k ≤ 11 → s < 100 → gI S (100 * k + s) (ad k i) = tI T (100 * k + s) i ∧ gP S (100 * k + s) (ad k i) = (tP T (100 * k + s) i).map (ad (tk (100 * k + s)))) ∧
  (∀ i, V 4 i → gJ S 400 (ad 4 i) = tJ T i) ∧
  (∀ k i, V k i → 12 ≤ k → gN S (ad k i) = tN T k i ∧ (15 ≤ k → ∀ j, gR S (ad k i) j = (tR T k i j).map (ad (ek k)))) ∧
  (∀ i, V 12 i → i = 0 ∧ gA S (ad 12 i) = tA T) ∧ (∀ i, V 13 i → i = 0 ∧ gB S (ad 13 i) = tB T)
/-- no pointer but to what is there (the list's row aside) -/
def WF (V : Nat → Nat → Prop) (T : CT) : Prop :=
  (∀ k s i t, V k i → k ≤ 11 → s < 100 → tP T (100 * k + s) i = some t → tk (100 * k + s) ≠ 20 → V (tk (100 * k + s)) t) ∧
  (∀ k i j t, V k i → 15 ≤ k → tR T k i j = some t → V (ek k) t)
section RCs
variable {ad : Nat → Nat → Nat} {V : Nat → Nat → Prop} {S : PT} {T : CT}
theorem RC_o1 (R : RC ad V S T) {i : Nat} (h : V 1 i) : gK S (ad 1 i) = 1 ∧ gP S 100 (ad 1 i) = (tP T 100 i).map (ad 8) ∧ gI S 101 (ad 1 i) = tI T 101 i ∧ gI S 102 (ad 1 i) = tI T 102 i ∧ gI S 103 (ad 1 i) = tI T 103 i ∧ gP S 104 (ad 1 i) = (tP T 104 i).map (ad 1) ∧ gI S 105 (ad 1 i) = tI T 105 i :=
  ⟨(R.1 1 i h).1, (R.2.2.1 1 0 i h (by decide) (by decide)).2, (R.2.2.1 1 1 i h (by decide) (by decide)).1, (R.2.2.1 1 2 i h (by decide) (by decide)).1, (R.2.2.1 1 3 i h (by decide) (by decide)).1, (R.2.2.1 1 4 i h (by decide) (by decide)).2, (R.2.2.1 1 5 i h (by decide) (by decide)).1⟩
theorem RC_o2 (R : RC ad V S T) {i : Nat} (h : V 2 i) : gK S (ad 2 i) = 2 ∧ gP S 200 (ad 2 i) = (tP T 200 i).map (ad 12) ∧ gI S 201 (ad 2 i) = tI T 201 i :=
  ⟨(R.1 2 i h).1, (R.2.2.1 2 0 i h (by decide) (by decide)).2, (R.2.2.1 2 1 i h (by decide) (by decide)).1⟩
theorem RC_o3 (R : RC ad V S T) {i : Nat} (h : V 3 i) : gK S (ad 3 i) = 3 ∧ gI S 300 (ad 3 i) = tI T 300 i ∧ gI S 301 (ad 3 i) = tI T 301 i ∧ gI S 302 (ad 3 i) = tI T 302 i ∧ gP S 303 (ad 3 i) = (tP T 303 i).map (ad 1) :=
  ⟨(R.1 3 i h).1, (R.2.2.1 3 0 i h (by decide) (by decide)).1, (R.2.2.1 3 1 i h (by decide) (by decide)).1, (R.2.2.1 3 2 i h (by decide) (by decide)).1, (R.2.2.1 3 3 i h (by decide) (by decide)).2⟩
theorem RC_o4 (R : RC ad V S T) {i : Nat} (h : V 4 i) : gK S (ad 4 i) = 4 ∧ gJ S 400 (ad 4 i) = tJ T i ∧ gI S 401 (ad 4 i) = tI T 401 i ∧ gI S 402 (ad 4 i) = tI T 402 i ∧ gI S 403 (ad 4 i) = tI T 403 i :=
  ⟨(R.1 4 i h).1, R.2.2.2.1 i h, (R.2.2.1 4 1 i h (by decide) (by decide)).1, (R.2.2.1 4 2 i h (by decide) (by decide)).1, (R.2.2.1 4 3 i h (by decide) (by decide)).1⟩
theorem RC_o5 (R : RC ad V S T) {i : Nat} (h : V 5 i) : gK S (ad 5 i) = 5 ∧ gI S 500 (ad 5 i) = tI T 500 i ∧ gI S 501 (ad 5 i) = tI T 501 i ∧ gI S 502 (ad 5 i) = tI T 502 i ∧ gP S 503 (ad 5 i) = (tP T 503 i).map (ad 5) ∧ gP S 504 (ad 5 i) = (tP T 504 i).map (ad 15) ∧ gI S 505 (ad 5 i) = tI T 505 i ∧ gI S 506 (ad 5 i) = tI T 506 i ∧ gI S 507 (ad 5 i) = tI T 507 i ∧ gI S 508 (ad 5 i) = tI T 508 i ∧ gI S 509 (ad 5 i) = tI T 509 i ∧ gI S 510 (ad 5 i) = tI T 510 i ∧ gI S 511 (ad 5 i) = tI T 511 i :=
  ⟨(R.1 5 i h).1, (R.2.2.1 5 0 i h (by decide) (by decide)).1, (R.2.2.1 5 1 i h (by decide) (by decide)).1, (R.2.2.1 5 2 i h (by decide) (by decide)).1, (R.2.2.1 5 3 i h (by decide) (by decide)).2, (R.2.2.1 5 4 i h (by decide) (by decide)).2, (R.2.2.1 5 5 i h (by decide) (by decide)).1, (R.2.2.1 5 6 i h (by decide) (by decide)).1, (R.2.2.1 5 7 i h (by decide) (by decide)).1, (R.2.2.1 5 8 i h (by decide) (by decide)).1, (R.2.2.1 5 9 i h (by decide) (by decide)).1, (R.2.2.1 5 10 i h (by decide) (by decide)).1, (R.2.2.1 5 11 i h (by decide) (by decide)).1⟩
theorem RC_o6 (R : RC ad V S T) {i : Nat} (h : V 6 i) : gK S (ad 6 i) = 6 ∧ gP S 600 (ad 6 i) = (tP T 600 i).map (ad 5) ∧ gI S 601 (ad 6 i) = tI T 601 i ∧ gP S 602 (ad 6 i) = (tP T 602 i).map (ad 8) ∧ gI S 603 (ad 6 i) = tI T 603 i :=
  ⟨(R.1 6 i h).1, (R.2.2.1 6 0 i h (by decide) (by decide)).2, (R.2.2.1 6 1 i h (by decide) (by decide)).1, (R.2.2.1 6 2 i h (by decide) (by decide)).2, (R.2.2.1 6 3 i h (by decide) (by decide)).1⟩
theorem RC_o7 (R : RC ad V S T) {i : Nat} (h : V 7 i) : gK S (ad 7 i) = 7 ∧ gI S 700 (ad 7 i) = tI T 700 i ∧ gP S 701 (ad 7 i) = (tP T 701 i).map (ad 5) ∧ gI S 702 (ad 7 i) = tI T 702 i ∧ gI S 703 (ad 7 i) = tI T 703 i ∧ gI S 704 (ad 7 i) = tI T 704 i ∧ gI S 705 (ad 7 i) = tI T 705 i ∧ gI S 706 (ad 7 i) = tI T 706 i ∧ gI S 707 (ad 7 i) = tI T 707 i :=
  ⟨(R.1 7 i h).1, (R.2.2.1 7 0 i h (by decide) (by decide)).1, (R.2.2.1 7 1 i h (by decide) (by decide)).2, (R.2.2.1 7 2 i h (by decide) (by decide)).1, (R.2.2.1 7 3 i h (by decide) (by decide)).1, (R.2.2.1 7 4 i h (by decide) (by decide)).1, (R.2.2.1 7 5 i h (by decide) (by decide)).1, (R.2.2.1 7 6 i h (by decide) (by decide)).1, (R.2.2.1 7 7 i h (by decide) (by decide)).1⟩
theorem RC_o8 (R : RC ad V S T) {i : Nat} (h : V 8 i) : gK S (ad 8 i) = 8 ∧ gI S 800 (ad 8 i) = tI T 800 i ∧ gI S 801 (ad 8 i) = tI T 801 i ∧ gP S 802 (ad 8 i) = (tP T 802 i).map (ad 5) ∧ gI S 803 (ad 8 i) = tI T 803 i ∧ gI S 804 (ad 8 i) = tI T 804 i ∧ gI S 805 (ad 8 i) = tI T 805 i ∧ gI S 806 (ad 8 i) = tI T 806 i ∧ gI S 807 (ad 8 i) = tI T 807 i ∧ gI S 808 (ad 8 i) = tI T 808 i ∧ gI S 809 (ad 8 i) = tI T 809 i ∧ gI S 810 (ad 8 i) = tI T 810 i ∧ gI S 811 (ad 8 i) = tI T 811 i ∧ gI S 812 (ad 8 i) = tI T 812 i ∧ gI S 813 (ad 8 i) = tI T 813 i ∧ gI S 814 (ad 8 i) = tI T 814 i ∧ gI S 815 (ad 8 i) = tI T 815 i ∧ gI S 816 (ad 8 i) = tI T 816 i ∧ gI S 817 (ad 8 i) = tI T 817 i :=
  ⟨(R.1 8 i h).1, (R.2.2.1 8 0 i h (by decide) (by decide)).1, (R.2.2.1 8 1 i h (by decide) (by decide)).1, (R.2.2.1 8 2 i h (by decide) (by decide)).2, (R.2.2.1 8 3 i h (by decide) (by decide)).1, (R.2.2.1 8 4 i h (by decide) (by decide)).1, (R.2.2.1 8 5 i h (by decide) (by decide)).1, (R.2.2.1 8 6 i h (by decide) (by decide)).1, (R.2.2.1 8 7 i h (by decide) (by decide)).1, (R.2.2.1 8 8 i h (by decide) (by decide)).1, (R.2.2.1 8 9 i h (by decide) (by decide)).1, (R.2.2.1 8 10 i h (by decide) (by decide)).1, (R.2.2.1 8 11 i h (by decide) (by decide)).1, (R.2.2.1 8 12 i h (by decide) (by decide)).1, (R.2.2.1 8 13 i h (by decide) (by decide)).1, (R.2.2.1 8 14 i h (by decide) (by decide)).1, (R.2.2.1 8 15 i h (by decide) (by decide)).1, (R.2.2.1 8 16 i h (by decide) (by decide)).1, (R.2.2.1 8 17 i h (by decide) (by decide)).1⟩
theorem RC_o9 (R : RC ad V S T) {i : Nat} (h : V 9 i) : gK S (ad 9 i) = 9 ∧ gP S 900 (ad 9 i) = (tP T 900 i).map (ad 17) ∧ gI S 901 (ad 9 i) = tI T 901 i ∧ gP S 902 (ad 9 i) = (tP T 902 i).map (ad 18) ∧ gI S 903 (ad 9 i) = tI T 903 i ∧ gP S 904 (ad 9 i) = (tP T 904 i).map (ad 19) ∧ gI S 905 (ad 9 i) = tI T 905 i ∧ gP S 906 (ad 9 i) = (tP T 906 i).map (ad 16) ∧ gP S 907 (ad 9 i) = (tP T 907 i).map (ad 2) ∧ gP S 908 (ad 9 i) = (tP T 908 i).map (ad 11) ∧ gI S 909 (ad 9 i) = tI T 909 i :=
  ⟨(R.1 9 i h).1, (R.2.2.1 9 0 i h (by decide) (by decide)).2, (R.2.2.1 9 1 i h (by decide) (by decide)).1, (R.2.2.1 9 2 i h (by decide) (by decide)).2, (R.2.2.1 9 3 i h (by decide) (by decide)).1, (R.2.2.1 9 4 i h (by decide) (by decide)).2, (R.2.2.1 9 5 i h (by decide) (by decide)).1, (R.2.2.1 9 6 i h (by decide) (by decide)).2, (R.2.2.1 9 7 i h (by decide) (by decide)).2, (R.2.2.1 9 8 i h (by decide) (by decide)).2, (R.2.2.1 9 9 i h (by decide) (by decide)).1⟩
theorem RC_o11 (R : RC ad V S T) {i : Nat} (h : V 11 i) : gK S (ad 11 i) = 11 ∧ gI S 1100 (ad 11 i) = tI T 1100 i ∧ gP S 1101 (ad 11 i) = (tP T 1101 i).map (ad 20) ∧ gI S 1102 (ad 11 i) = tI T 1102 i :=
  ⟨(R.1 11 i h).1, (R.2.2.1 11 0 i h (by decide) (by decide)).1, (R.2.2.1 11 1 i h (by decide) (by decide)).2, (R.2.2.1 11 2 i h (by decide) (by decide)).1⟩
theorem RC_a15 (R : RC ad V S T) {i : Nat} (h : V 15 i) : gK S (ad 15 i) = 15 ∧ gN S (ad 15 i) = tN T 15 i ∧ (∀ j, gR S (ad 15 i) j = (tR T 15 i j).map (ad 3)) :=
  ⟨(R.1 15 i h).1, (R.2.2.2.2.1 15 i h (by decide)).1, (R.2.2.2.2.1 15 i h (by decide)).2 (by decide)⟩
theorem RC_a16 (R : RC ad V S T) {i : Nat} (h : V 16 i) : gK S (ad 16 i) = 16 ∧ gN S (ad 16 i) = tN T 16 i ∧ (∀ j, gR S (ad 16 i) j = (tR T 16 i j).map (ad 4)) :=
  ⟨(R.1 16 i h).1, (R.2.2.2.2.1 16 i h (by decide)).1, (R.2.2.2.2.1 16 i h (by decide)).2 (by decide)⟩
theorem RC_a17 (R : RC ad V S T) {i : Nat} (h : V 17 i) : gK S (ad 17 i) = 17 ∧ gN S (ad 17 i) = tN T 17 i ∧ (∀ j, gR S (ad 17 i) j = (tR T 17 i j).map (ad 5)) :=
  ⟨(R.1 17 i h).1, (R.2.2.2.2.1 17 i h (by decide)).1, (R.2.2.2.2.1 17 i h (by decide)).2 (by decide)⟩
theorem RC_a18 (R : RC ad V S T) {i : Nat} (h : V 18 i) : gK S (ad 18 i) = 18 ∧ gN S (ad 18 i) = tN T 18 i ∧ (∀ j, gR S (ad 18 i) j = (tR T 18 i j).map (ad 7)) :=
  ⟨(R.1 18 i h).1, (R.2.2.2.2.1 18 i h (by decide)).1, (R.2.2.2.2.1 18 i h (by decide)).2 (by decide)⟩
theorem RC_a19 (R : RC ad V S T) {i : Nat} (h : V 19 i) : gK S (ad 19 i) = 19 ∧ gN S (ad 19 i) = tN T 19 i ∧ (∀ j, gR S (ad 19 i) j = (tR T 19 i j).map (ad 8)) :=
  ⟨(R.1 19 i h).1, (R.2.2.2.2.1 19 i h (by decide)).1, (R.2.2.2.2.1 19 i h (by decide)).2 (by decide)⟩
theorem RC_a20 (R : RC ad V S T) {i : Nat} (h : V 20 i) : gK S (ad 20 i) = 20 ∧ gN S (ad 20 i) = tN T 20 i ∧ (∀ j, gR S (ad 20 i) j = (tR T 20 i j).map (ad 6)) :=
  ⟨(R.1 20 i h).1, (R.2.2.2.2.1 20 i h (by decide)).1, (R.2.2.2.2.1 20 i h (by decide)).2 (by decide)⟩
theorem RC_a12 (R : RC ad V S T) (h : V 12 0) : gK S (ad 12 0) = 12 ∧ gN S (ad 12 0) = tN T 12 0 ∧ gA S (ad 12 0) = tA T :=
  ⟨(R.1 12 0 h).1, (R.2.2.2.2.1 12 0 h (by decide)).1, (R.2.2.2.2.2.1 0 h).2⟩
theorem RC_a13 (R : RC ad V S T) (h : V 13 0) : gK S (ad 13 0) = 13 ∧ gN S (ad 13 0) = tN T 13 0 ∧ gB S (ad 13 0) = tB T :=
  ⟨(R.1 13 0 h).1, (R.2.2.2.2.1 13 0 h (by decide)).1, (R.2.2.2.2.2.2 0 h).2⟩
theorem RC_ne (R : RC ad V S T) {k l i j : Nat} (h : V k i) (g : V l j) (e : ad k i = ad l j) : k = l ∧ i = j := by
  have h1 := (R.1 k i h).1
  have g1 := (R.1 l j g).1
  rw [e, g1] at h1
  subst h1
  exact ⟨rfl, R.2.1 _ i j h g e⟩
theorem RC_eq (R : RC ad V S T) {k i j : Nat} (h : V k i) (g : V k j) : (some (ad k i) = some (ad k j)) = (i = j) := by
  apply propext
  constructor
  · intro e; exact (RC_ne R h g (Option.some.inj e)).2
  · intro e; rw [e]
theorem RC_wI (R : RC ad V S T) {k i s : Nat} (h : V k i) (hs : s < 100) (hk : k ≤ 11) (v : Int32) : RC ad V (sI S (100 * k + s) (ad k i) v) (uI T (100 * k + s) i v) := by
  obtain ⟨r1, r2, r3, r4, r5, r6, r7⟩ := R
  refine ⟨r1, r2, fun l t j hj hl ht => ⟨?_, (r3 l t j hj hl ht).2⟩, r4, r5, r6, r7⟩
  show up2 (gI S) (100 * k + s) (ad k i) v (100 * l + t) (ad l j) = up2 (tI T) (100 * k + s) i v (100 * l + t) j
  unfold up2
  by_cases e : 100 * l + t = 100 * k + s
  · have e1 : l = k := by omega
    subst e1
    by_cases e2 : j = i
    · subst e2; rw [if_pos ⟨e, rfl⟩, if_pos ⟨e, rfl⟩]
    · rw [if_neg (fun n => e2 (r2 l j i hj h n.2)), if_neg (fun n => e2 n.2)]; exact (r3 l t j hj hl ht).1
  · rw [if_neg (fun n => e n.1), if_neg (fun n => e n.1)]; exact (r3 l t j hj hl ht).1
theorem RC_wP (R : RC ad V S T) {k i s : Nat} (h : V k i) (hs : s < 100) (hk : k ≤ 11) (v : Option Nat) : RC ad V (sP S (100 * k + s) (ad k i) (v.map (ad (tk (100 * k + s))))) (uP T (100 * k + s) i v) := by
  obtain ⟨r1, r2, r3, r4, r5, r6, r7⟩ := R
  refine ⟨r1, r2, fun l t j hj hl ht => ⟨(r3 l t j hj hl ht).1, ?_⟩, r4, r5, r6, r7⟩
  show up2 (gP S) (100 * k + s) (ad k i) _ (100 * l + t) (ad l j) = (up2 (tP T) (100 * k + s) i v (100 * l + t) j).map _
  unfold up2
  by_cases e : 100 * l + t = 100 * k + s
  · have e1 : l = k := by omega
    subst e1
    by_cases e2 : j = i
    · subst e2; rw [if_pos ⟨e, rfl⟩, if_pos ⟨e, rfl⟩, e]
    · rw [if_neg (fun n => e2 (r2 l j i hj h n.2)), if_neg (fun n => e2 n.2)]; exact (r3 l t j hj hl ht).2
  · rw [if_neg (fun n => e n.1), if_neg (fun n => e n.1)]; exact (r3 l t j hj hl ht).2
theorem RC_wJ (R : RC ad V S T) {i : Nat} (h : V 4 i) (v : Int64) : RC ad V (sJ S 400 (ad 4 i) v) (uJ T i v) := by
  obtain ⟨r1, r2, r3, r4, r5, r6, r7⟩ := R
  refine ⟨r1, r2, r3, fun j hj => ?_, r5, r6, r7⟩
  show up2 (gJ S) 400 (ad 4 i) v 400 (ad 4 j) = vp_updL (tJ T) i v j
  unfold up2 vp_updL
  by_cases e2 : j = i
  · subst e2; rw [if_pos ⟨rfl, rfl⟩, if_pos rfl]
  · rw [if_neg (fun n => e2 (r2 4 j i hj h n.2)), if_neg e2]; exact r4 j hj
theorem RC_wA (R : RC ad V S T) (h : V 12 0) (i : Nat) (v : Int32) : RC ad V (sA S (ad 12 0) i v) (uA T i v) := by
  obtain ⟨r1, r2, r3, r4, r5, r6, r7⟩ := R
  refine ⟨r1, r2, r3, r4, r5, fun j hj => ⟨(r6 j hj).1, ?_⟩, r7⟩
  have e0 := (r6 j hj).1
  subst e0
  show va_up (gA S) (ad 12 0) (upd (gA S (ad 12 0)) i v) (ad 12 0) = upd (tA T) i v
  rw [(r6 0 h).2]; simp [va_up]
theorem RC_wB (R : RC ad V S T) (h : V 13 0) (i : Nat) (v : Int64) : RC ad V (sB S (ad 13 0) i v) (uB T i v) := by
  obtain ⟨r1, r2, r3, r4, r5, r6, r7⟩ := R
  refine ⟨r1, r2, r3, r4, r5, r6, fun j hj => ⟨(r7 j hj).1, ?_⟩⟩
  have e0 := (r7 j hj).1
  subst e0
  show va_up (gB S) (ad 13 0) (vp_updL (gB S (ad 13 0)) i v) (ad 13 0) = vp_updL (tB T) i v
  rw [(r7 0 h).2]; simp [va_up]
theorem RC_wR (R : RC ad V S T) {k i : Nat} (h : V k i) (hk : 15 ≤ k) (j : Nat) (v : Option Nat) : RC ad V (sR S (ad k i) j (v.map (ad (ek k)))) (uR T k i j v) := by
  obtain ⟨r1, r2, r3, r4, r5, r6, r7⟩ := R
  refine ⟨r1, r2, r3, r4, fun l t hl h12 => ⟨(r5 l t hl h12).1, fun h15 n => ?_⟩, r6, r7⟩
  by_cases e : ad l t = ad k i
  · have e1 := (r1 l t hl).1
    have e2 := (r1 k i h).1
    rw [e, e2] at e1
    subst e1
    have e3 := r2 _ t i hl h e
    subst e3
    show va_up (gR S) (ad k t) (va_up (gR S (ad k t)) j _) (ad k t) n = (up2 (tR T) k t (va_up (tR T k t) j v) k t n).map _
    rw [show up2 (tR T) k t (va_up (tR T k t) j v) k t = va_up (tR T k t) j v from up2_s _ _ _ _]
    unfold va_up
    by_cases en : n = j
    · simp [en]
    · simp [en, (r5 k t h (by omega)).2 hk n]
  · show va_up (gR S) (ad k i) (va_up (gR S (ad k i)) j _) (ad l t) n = (up2 (tR T) k i (va_up (tR T k i) j v) l t n).map _
    rw [show up2 (tR T) k i (va_up (tR T k i) j v) l t = tR T l t from if_neg (fun n => e (by rw [n.1, n.2]))]
    simp only [va_up, e, if_false]
    exact (r5 l t hl h12).2 h15 n
theorem RC_uI (R : RC ad V S T) {k i : Nat} (h : V k i) (s : Nat) {F : Nat} (hF : F = 100 * k + s) (hs : s < 100) (hk : k ≤ 11) {v : Int32} {Q : PT → Prop} (c : ∀ S', RC ad V S' (uI T F i v) → Q S') : ∀ S', S' = sI S F (ad k i) v → Q S' := fun S' e => by subst e; subst hF; exact c _ (RC_wI R h hs hk v)
theorem RC_uP (R : RC ad V S T) {k i : Nat} (h : V k i) (s : Nat) {F : Nat} (hF : F = 100 * k + s) (hs : s < 100) (hk : k ≤ 11) (v : Option Nat) {p : Option Nat} (hp : p = v.map (ad (tk F))) {Q : PT → Prop} (c : ∀ S', RC ad V S' (uP T F i v) → Q S') : ∀ S', S' = sP S F (ad k i) p → Q S' := fun S' e => by subst e; subst hF; subst hp; exact c _ (RC_wP R h hs hk v)
theorem RC_uJ (R : RC ad V S T) {i : Nat} (h : V 4 i) {v : Int64} {Q : PT → Prop} (c : ∀ S', RC ad V S' (uJ T i v) → Q S') : ∀ S', S' = sJ S 400 (ad 4 i) v → Q S' := fun S' e => by subst e; exact c _ (RC_wJ R h v)
theorem RC_uA (R : RC ad V S T) (h : V 12 0) {i : Nat} {v : Int32} {Q : PT → Prop} (c : ∀ S', RC ad V S' (uA T i v) → Q S') : ∀ S', S' = sA S (ad 12 0) i v → Q S' := fun S' e => by subst e; exact c _ (RC_wA R h i v)
theorem RC_uB (R : RC ad V S T) (h : V 13 0) {i : Nat} {v : Int64} {Q : PT → Prop} (c : ∀ S', RC ad V S' (uB T i v) → Q S') : ∀ S', S' = sB S (ad 13 0) i v → Q S' := fun S' e => by subst e; exact c _ (RC_wB R h i v)
theorem RC_uR (R : RC ad V S T) {k i : Nat} (h : V k i) (hk : 15 ≤ k) {j : Nat} (v : Option Nat) {p : Option Nat} (hp : p = v.map (ad (ek k))) {Q : PT → Prop} (c : ∀ S', RC ad V S' (uR T k i j v) → Q S') : ∀ S', S' = sR S (ad k i) j p → Q S' := fun S' e => by subst e; subst hp; exact c _ (RC_wR R h hk j v)
end RCs
