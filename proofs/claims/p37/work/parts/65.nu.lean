/-! one more of a kind -/
def nU (n : Nat → Nat) (K : Nat) : Nat → Nat := fun k => if k = K then n K + 1 else n k
theorem nU_s (n : Nat → Nat) (K : Nat) : nU n K K = n K + 1 := if_pos rfl
theorem nU_o (n : Nat → Nat) {K k : Nat} (h : k ≠ K) : nU n K k = n k := if_neg h
theorem VC_eq {n n' len : Nat → Nat} {l j : Nat} (h1 : l = 1 → n' 1 = n 1) (h5 : l = 3 ∨ l = 5 ∨ l = 15 → n' 5 = n 5) (h6 : l = 6 ∨ l = 20 → n' 6 = n 6) (h7 : l = 7 → n' 7 = n 7) (h8 : l = 8 → n' 8 = n 8) : VC n' len l j = VC n len l j := by
  unfold VC
  split
  · rw [h1 rfl]
  · rfl
  · rw [h5 (by omega)]
  · rfl
  · rw [h5 (by omega)]
  · rw [h6 (by omega)]
  · rw [h7 rfl]
  · rw [h8 rfl]
  · rfl
  · rfl
  · rfl
  · rfl
  · rw [h5 (by omega)]
  · rfl
  · rfl
  · rfl
  · rfl
  · rw [h6 (by omega)]
  · rfl
theorem VC_nU {n len : Nat → Nat} {K : Nat} (hK : K = 7 ∨ K = 8 ∨ K = 1) : Vn (VC n len) K (n K) = VC (nU n K) len := by
  funext l j
  apply propext
  unfold Vn
  by_cases e : l = K
  · subst e
    rcases hK with rfl | rfl | rfl
    · show (j < n 7 ∨ 7 = 7 ∧ j = n 7) ↔ j < nU n 7 7
      rw [nU_s]; omega
    · show (j < n 8 ∨ 8 = 8 ∧ j = n 8) ↔ j < nU n 8 8
      rw [nU_s]; omega
    · show (j < n 1 ∨ 1 = 1 ∧ j = n 1) ↔ j < nU n 1 1
      rw [nU_s]; omega
  · rw [VC_eq (n := n) (n' := nU n K) (fun _ => nU_o n (by omega)) (fun _ => nU_o n (by omega)) (fun _ => nU_o n (by omega)) (fun _ => nU_o n (by omega)) (fun _ => nU_o n (by omega))]
    exact ⟨fun h => h.elim id (fun z => absurd z.1 e), Or.inl⟩
theorem not_VC {n len : Nat → Nat} {K : Nat} (hK : K = 7 ∨ K = 8 ∨ K = 1 ∨ K = 6 ∨ K = 5) : ¬ VC n len K (n K) := by
  rcases hK with rfl | rfl | rfl | rfl | rfl
  · exact Nat.lt_irrefl _
  · exact Nat.lt_irrefl _
  · exact Nat.lt_irrefl _
  · exact Nat.lt_irrefl _
  · exact Nat.lt_irrefl _
section C
variable {V : Nat → Nat → Prop} {T : CT}
theorem WF_uP (W : WF V T) {F i : Nat} {v : Option Nat} (hv : ∀ t, v = some t → tk F ≠ 20 → V (tk F) t) : WF V (uP T F i v) := by
  refine ⟨fun k s j t h1 h2 h3 h4 h5 => ?_, W.2⟩
  replace h4 : up2 (tP T) F i v (100 * k + s) j = some t := h4
  by_cases e : 100 * k + s = F ∧ j = i
  · rw [e.1, e.2, up2_s] at h4
    rw [e.1] at h5 ⊢
    exact hv t h4 h5
  · rw [up2_ne _ _ e] at h4
    exact W.1 k s j t h1 h2 h3 h4 h5
theorem WF_uR (W : WF V T) {k i j : Nat} {v : Option Nat} (hv : ∀ t, v = some t → V (ek k) t) : WF V (uR T k i j v) := by
  refine ⟨W.1, fun l m x t h1 h2 h3 => ?_⟩
  replace h3 : up2 (tR T) k i (va_up (tR T k i) j v) l m x = some t := h3
  by_cases e : l = k ∧ m = i
  · rw [e.1, e.2, up2_s] at h3
    unfold va_up at h3
    by_cases ex : x = j
    · rw [if_pos ex] at h3
      rw [e.1]; exact hv t h3
    · rw [if_neg ex] at h3
      rw [e.1]
      exact W.2 k i x t (by rw [← e.1, ← e.2]; exact h1) (by rw [← e.1]; exact h2) h3
  · rw [up2_ne _ _ e] at h3
    exact W.2 l m x t h1 h2 h3
theorem WF_m {V' : Nat → Nat → Prop} (W : WF V T) (h1 : ∀ k i, V' k i → V k i) (h2 : ∀ k i, V k i → V' k i) : WF V' T :=
  ⟨fun k s i t a b c d e => h2 _ _ (W.1 k s i t (h1 _ _ a) b c d e), fun k i j t a b c => h2 _ _ (W.2 k i j t (h1 _ _ a) b c)⟩
theorem tI_N {k i F : Nat} (h : F / 100 ≠ k) : tI (uN T k i) F = tI T F := by
  funext j
  show (if F / 100 = k ∧ j = i then 0 else tI T F j) = tI T F j
  rw [if_neg (fun e => h e.1)]
theorem tI_Ni {k i F j : Nat} (h : j ≠ i) : tI (uN T k i) F j = tI T F j := by
  show (if F / 100 = k ∧ j = i then 0 else tI T F j) = tI T F j
  rw [if_neg (fun e => h e.2)]
theorem tI_Ns {k i F : Nat} (h : F / 100 = k) : tI (uN T k i) F i = 0 := by
  show (if F / 100 = k ∧ i = i then 0 else tI T F i) = 0
  rw [if_pos ⟨h, rfl⟩]
theorem tP_N {k i F : Nat} (h : F / 100 ≠ k) : tP (uN T k i) F = tP T F := by
  funext j
  show (if F / 100 = k ∧ j = i then none else tP T F j) = tP T F j
  rw [if_neg (fun e => h e.1)]
theorem tP_Ni {k i F j : Nat} (h : j ≠ i) : tP (uN T k i) F j = tP T F j := by
  show (if F / 100 = k ∧ j = i then none else tP T F j) = tP T F j
  rw [if_neg (fun e => h e.2)]
theorem tP_Ns {k i F : Nat} (h : F / 100 = k) : tP (uN T k i) F i = none := by
  show (if F / 100 = k ∧ i = i then none else tP T F i) = none
  rw [if_pos ⟨h, rfl⟩]
theorem tP_o {F i G j : Nat} {v : Option Nat} (h : G ≠ F) : tP (uP T F i v) G j = tP T G j := by
  show up2 (tP T) F i v G j = _
  rw [up2_f _ _ _ _ h]
theorem tP_i {F i G j : Nat} {v : Option Nat} (h : j ≠ i) : tP (uP T F i v) G j = tP T G j := by
  show up2 (tP T) F i v G j = _
  rw [up2_i _ _ h]
theorem tP_s {F i : Nat} {v : Option Nat} : tP (uP T F i v) F i = v := up2_s _ _ _ _
theorem tP_of {F i G : Nat} {v : Option Nat} (h : G ≠ F) : tP (uP T F i v) G = tP T G := by
  funext j; exact tP_o h
theorem tI_of {F i G : Nat} {v : Int32} (h : G ≠ F) : tI (uI T F i v) G = tI T G := by
  funext j; exact tI_o h
theorem tR_of {k i j l : Nat} {v : Option Nat} (h : l ≠ k) : tR (uR T k i j v) l = tR T l := by
  funext m
  show up2 (tR T) k i (va_up (tR T k i) j v) l m = _
  rw [up2_f _ _ _ _ h]
theorem tI_uP {F i : Nat} {v : Option Nat} : tI (uP T F i v) = tI T := id rfl
theorem tI_uR {k i j : Nat} {v : Option Nat} : tI (uR T k i j v) = tI T := id rfl
theorem tP_uI {F i : Nat} {v : Int32} : tP (uI T F i v) = tP T := id rfl
theorem tP_uR {k i j : Nat} {v : Option Nat} : tP (uR T k i j v) = tP T := id rfl
theorem tR_uI {F i : Nat} {v : Int32} : tR (uI T F i v) = tR T := id rfl
theorem tR_uP {F i : Nat} {v : Option Nat} : tR (uP T F i v) = tR T := id rfl
theorem tR_uN {k i : Nat} : tR (uN T k i) = tR T := id rfl
theorem tN_uI {F i : Nat} {v : Int32} : tN (uI T F i v) = tN T := id rfl
theorem tN_uP {F i : Nat} {v : Option Nat} : tN (uP T F i v) = tN T := id rfl
theorem tN_uR {k i j : Nat} {v : Option Nat} : tN (uR T k i j v) = tN T := id rfl
theorem tN_uN {k i : Nat} : tN (uN T k i) = tN T := id rfl
theorem tJ_uI {F i : Nat} {v : Int32} : tJ (uI T F i v) = tJ T := id rfl
theorem tJ_uP {F i : Nat} {v : Option Nat} : tJ (uP T F i v) = tJ T := id rfl
theorem tJ_uR {k i j : Nat} {v : Option Nat} : tJ (uR T k i j v) = tJ T := id rfl
theorem tA_uI {F i : Nat} {v : Int32} : tA (uI T F i v) = tA T := id rfl
theorem tA_uP {F i : Nat} {v : Option Nat} : tA (uP T F i v) = tA T := id rfl
theorem tA_uR {k i j : Nat} {v : Option Nat} : tA (uR T k i j v) = tA T := id rfl
theorem tA_uN {k i : Nat} : tA (uN T k i) = tA T := id rfl
theorem tB_uI {F i : Nat} {v : Int32} : tB (uI T F i v) = tB T := id rfl
theorem tB_uP {F i : Nat} {v : Option Nat} : tB (uP T F i v) = tB T := id rfl
theorem tB_uR {k i j : Nat} {v : Option Nat} : tB (uR T k i j v) = tB T := id rfl
theorem tB_uN {k i : Nat} : tB (uN T k i) = tB T := id rfl
theorem tJ_N {k i : Nat} (h : k ≠ 4) : tJ (uN T k i) = tJ T := by
  funext j
  show (if k = 4 ∧ j = i then 0 else tJ T j) = tJ T j
  rw [if_neg (fun e => h e.1)]
theorem tR_s {k i j : Nat} {v : Option Nat} (x : Nat) : tR (uR T k i j v) k i x = if x = j then v else tR T k i x := by
  show up2 (tR T) k i (va_up (tR T k i) j v) k i x = _
  rw [up2_s]; rfl
end C
/-- no pointer to the list's row but the list's -/
def NJ (V : Nat → Nat → Prop) (T : CT) : Prop := ∀ k s i, V k i → k ≤ 11 → s < 100 → tk (100 * k + s) = 20 → 100 * k + s ≠ 1101 → tP T (100 * k + s) i = none
def WJ (V : Nat → Nat → Prop) (T : CT) : Prop := WF V T ∧ NJ V T
section C
variable {V : Nat → Nat → Prop} {T : CT}
theorem WJ_uI {F i : Nat} {v : Int32} (W : WJ V T) : WJ V (uI T F i v) := W
theorem WJ_uP (W : WJ V T) {F i : Nat} {v : Option Nat} (hF : tk F ≠ 20) (hv : ∀ t, v = some t → V (tk F) t) : WJ V (uP T F i v) := by
  refine ⟨WF_uP W.1 (fun t ht _ => hv t ht), fun k s j h1 h2 h3 h4 h5 => ?_⟩
  rw [show tP (uP T F i v) (100 * k + s) j = tP T (100 * k + s) j from tP_o (fun e => hF (by rw [← e]; exact h4))]
  exact W.2 k s j h1 h2 h3 h4 h5
theorem WJ_uR (W : WJ V T) {k i j : Nat} {v : Option Nat} (hv : ∀ t, v = some t → V (ek k) t) : WJ V (uR T k i j v) := ⟨WF_uR W.1 hv, W.2⟩
theorem WJ_nO (W : WJ V T) {k i : Nat} (h : ¬ V k i) (hk : k ≤ 11) : WJ (Vn V k i) (uN T k i) := by
  refine ⟨WF_nO W.1 h hk, fun l s j h1 h2 h3 h4 h5 => ?_⟩
  show (if (100 * l + s) / 100 = k ∧ j = i then none else tP T (100 * l + s) j) = none
  by_cases e : (100 * l + s) / 100 = k ∧ j = i
  · rw [if_pos e]
  · rw [if_neg e]
    rcases h1 with h1 | ⟨e1, e2⟩
    · exact W.2 l s j h1 h2 h3 h4 h5
    · exact absurd ⟨by omega, e2⟩ e
theorem SW_J {T' : CT} (a : SW T T') (W : WJ V T) : WJ V T' := ⟨SW_F a W.1, by have := W.2; unfold NJ at *; rw [a.1]; exact this⟩
end C
/-- an object of kind k is made -/
theorem RC_uO {ad : Nat → Nat → Nat} {n len : Nat → Nat} {S : PT} {T : CT} (R : RC ad (VC n len) S T) (W : WJ (VC n len) T) {K : Nat} (hK : K = 7 ∨ K = 8 ∨ K = 1) {Q : Nat → PT → Prop}
    (c : ∀ q S', RC (up2 ad K (n K) q) (VC (nU n K) len) S' (uN T K (n K)) → WJ (VC (nU n K) len) (uN T K (n K)) → Q q S') : ∀ (q : Nat) (S' : PT), gK S q = 0 → S' = nO S q K → Q q S' := by
  intro q S' hq e
  subst e
  have hno : ¬ VC n len K (n K) := not_VC (by omega)
  have R' := RC_nO R W.1 hq hno (by omega) (by omega)
  have W' := WJ_nO W hno (by omega)
  rw [VC_nU hK] at R' W'
  exact c q _ R' W'
