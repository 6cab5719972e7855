/-! what is new in the pool of the class -/
section RCn
variable {ad : Nat → Nat → Nat} {V : Nat → Nat → Prop} {S : PT} {T : CT}
def Vn (V : Nat → Nat → Prop) (k i : Nat) : Nat → Nat → Prop := fun l j => V l j ∨ (l = k ∧ j = i)
theorem RC_far (R : RC ad V S T) {q : Nat} (hq : gK S q = 0) {l j : Nat} (h : V l j) : ad l j ≠ q := by
  intro e
  have h1 := R.1 l j h
  rw [e, hq] at h1
  omega
theorem up2_ne {α : Type} (f : Nat → Nat → α) {i a j b : Nat} (v : α) (h : ¬ (j = i ∧ b = a)) : up2 f i a v j b = f j b := if_neg h
theorem map_ad {ad : Nat → Nat → Nat} {k i q l : Nat} {p : Option Nat} (h : ∀ t, p = some t → ¬ (l = k ∧ t = i)) : p.map (up2 ad k i q l) = p.map (ad l) := by
  cases p with
  | none => rfl
  | some t => simp only [Option.map_some]; rw [up2_ne _ _ (h t rfl)]
theorem RC_nO (R : RC ad V S T) (W : WF V T) {q k i : Nat} (hq : gK S q = 0) (h : ¬ V k i) (hk1 : 1 ≤ k) (hk : k ≤ 11) : RC (up2 ad k i q) (Vn V k i) (nO S q k) (uN T k i) := by
  have far := @RC_far ad V S T R q hq
  have ne : ∀ l j, V l j → ¬ (l = k ∧ j = i) := fun l j hv e => h (by rw [← e.1, ← e.2]; exact hv)
  obtain ⟨r1, r2, r3, r4, r5, r6, r7⟩ := R
  have old : ∀ l j, V l j → up2 ad k i q l j = ad l j := fun l j hv => up2_ne _ _ (ne l j hv)
  have new : up2 ad k i q k i = q := up2_s _ _ _ _
  refine ⟨?_, ?_, ?_, ?_, ?_, ?_, ?_⟩
  · rintro l j (hv | ⟨rfl, rfl⟩)
    · rw [old l j hv]
      refine ⟨?_, (r1 l j hv).2⟩
      show va_up (gK S) q k (ad l j) = l
      simp [va_up, far hv, (r1 l j hv).1]
    · rw [new]
      exact ⟨by show va_up (gK S) q l q = l; simp [va_up], hk1⟩
  · rintro l j j2 (hv | ⟨e1, e2⟩) (hv2 | ⟨e3, e4⟩) e
    · rw [old l j hv, old l j2 hv2] at e; exact r2 l j j2 hv hv2 e
    · subst e3; subst e4; rw [old l j hv, new] at e; exact absurd e (far hv)
    · subst e1; subst e2; rw [old l j2 hv2, new] at e; exact absurd e.symm (far hv2)
    · rw [e2, e4]
  · rintro l s j (hv | ⟨e1, e2⟩) hl hs
    · rw [old l j hv]
      have b := r3 l s j hv hl hs
      have nf := ne l j hv
      refine ⟨?_, ?_⟩
      · show (if ad l j = q then 0 else gI S (100 * l + s) (ad l j)) = (if (100 * l + s) / 100 = k ∧ j = i then 0 else tI T (100 * l + s) j)
        rw [if_neg (far hv), if_neg (fun e => nf ⟨by omega, e.2⟩)]; exact b.1
      · show (if ad l j = q then none else gP S (100 * l + s) (ad l j)) = (if (100 * l + s) / 100 = k ∧ j = i then none else tP T (100 * l + s) j).map _
        rw [if_neg (far hv), if_neg (fun e => nf ⟨by omega, e.2⟩), b.2, map_ad]
        intro t ht e
        by_cases h20 : tk (100 * l + s) = 20
        · omega
        · exact ne _ _ (W.1 l s j t hv hl hs ht h20) e
    · subst e1; subst e2
      rw [new]
      refine ⟨?_, ?_⟩
      · show (if q = q then 0 else gI S (100 * l + s) q) = (if (100 * l + s) / 100 = l ∧ j = j then 0 else tI T (100 * l + s) j)
        rw [if_pos rfl, if_pos ⟨by omega, rfl⟩]
      · show (if q = q then none else gP S (100 * l + s) q) = (if (100 * l + s) / 100 = l ∧ j = j then none else tP T (100 * l + s) j).map _
        rw [if_pos rfl, if_pos ⟨by omega, rfl⟩]; rfl
  · rintro j (hv | ⟨e1, e2⟩)
    · rw [old 4 j hv]
      show (if ad 4 j = q then 0 else gJ S 400 (ad 4 j)) = (if k = 4 ∧ j = i then 0 else tJ T j)
      rw [if_neg (far hv), if_neg (fun e => ne 4 j hv ⟨e.1.symm, e.2⟩)]; exact r4 j hv
    · subst e1; subst e2
      rw [new]
      show (if q = q then 0 else gJ S 400 q) = (if 4 = 4 ∧ j = j then 0 else tJ T j)
      rw [if_pos rfl, if_pos ⟨rfl, rfl⟩]
  · rintro l j (hv | ⟨e1, e2⟩) h12
    · rw [old l j hv]
      have b := r5 l j hv h12
      refine ⟨b.1, fun h15 n => ?_⟩
      have b2 := b.2 h15 n
      show gR S (ad l j) n = (tR T l j n).map _
      rw [b2, map_ad]
      intro t ht e
      exact ne _ _ (W.2 l j n t hv h15 ht) e
    · omega
  · rintro j (hv | ⟨e1, e2⟩)
    · rw [old 12 j hv]; exact r6 j hv
    · omega
  · rintro j (hv | ⟨e1, e2⟩)
    · rw [old 13 j hv]; exact r7 j hv
    · omega
theorem WF_nO (W : WF V T) {k i : Nat} (h : ¬ V k i) (hk : k ≤ 11) : WF (Vn V k i) (uN T k i) := by
  have ne : ∀ l j, V l j → ¬ (l = k ∧ j = i) := fun l j hv e => h (by rw [← e.1, ← e.2]; exact hv)
  refine ⟨?_, ?_⟩
  · rintro l s j t (hv | ⟨e1, e2⟩) hl hs ht h20
    · replace ht : (if (100 * l + s) / 100 = k ∧ j = i then none else tP T (100 * l + s) j) = some t := ht
      rw [if_neg (fun e => ne l j hv ⟨by omega, e.2⟩)] at ht
      exact Or.inl (W.1 l s j t hv hl hs ht h20)
    · subst e1; subst e2
      replace ht : (if (100 * l + s) / 100 = l ∧ j = j then none else tP T (100 * l + s) j) = some t := ht
      rw [if_pos ⟨by omega, rfl⟩] at ht
      cases ht
  · rintro l j n t (hv | ⟨e1, e2⟩) h15 ht
    · exact Or.inl (W.2 l j n t hv h15 ht)
    · omega
theorem RC_nA (R : RC ad V S T) (W : WF V T) {q k i n : Nat} (hq : gK S q = 0) (h : ¬ V k i) (hk : 12 ≤ k) (h2 : k = 12 ∨ k = 13 → i = 0) (h20 : k ≠ 20) : RC (up2 ad k i q) (Vn V k i) (nA S q k n) (uM T k i n) := by
  have far := @RC_far ad V S T R q hq
  have ne : ∀ l j, V l j → ¬ (l = k ∧ j = i) := fun l j hv e => h (by rw [← e.1, ← e.2]; exact hv)
  obtain ⟨r1, r2, r3, r4, r5, r6, r7⟩ := R
  have old : ∀ l j, V l j → up2 ad k i q l j = ad l j := fun l j hv => up2_ne _ _ (ne l j hv)
  have new : up2 ad k i q k i = q := up2_s _ _ _ _
  refine ⟨?_, ?_, ?_, ?_, ?_, ?_, ?_⟩
  · rintro l j (hv | ⟨rfl, rfl⟩)
    · rw [old l j hv]
      refine ⟨?_, (r1 l j hv).2⟩
      show va_up (gK S) q k (ad l j) = l
      simp [va_up, far hv, (r1 l j hv).1]
    · rw [new]
      exact ⟨by show va_up (gK S) q l q = l; simp [va_up], by omega⟩
  · rintro l j j2 (hv | ⟨e1, e2⟩) (hv2 | ⟨e3, e4⟩) e
    · rw [old l j hv, old l j2 hv2] at e; exact r2 l j j2 hv hv2 e
    · subst e3; subst e4; rw [old l j hv, new] at e; exact absurd e (far hv)
    · subst e1; subst e2; rw [old l j2 hv2, new] at e; exact absurd e.symm (far hv2)
    · rw [e2, e4]
  · rintro l s j (hv | ⟨e1, e2⟩) hl hs
    · rw [old l j hv]
      have b := r3 l s j hv hl hs
      refine ⟨b.1, ?_⟩
      show gP S (100 * l + s) (ad l j) = (tP T (100 * l + s) j).map _
      rw [b.2, map_ad]
      intro t ht e
      by_cases hh : tk (100 * l + s) = 20
      · omega
      · exact ne _ _ (W.1 l s j t hv hl hs ht hh) e
    · omega
  · rintro j (hv | ⟨e1, e2⟩)
    · rw [old 4 j hv]; exact r4 j hv
    · omega
  · rintro l j (hv | ⟨e1, e2⟩) h12
    · rw [old l j hv]
      have b := r5 l j hv h12
      have nf := ne l j hv
      refine ⟨?_, fun h15 m => ?_⟩
      · show va_up (gN S) q n (ad l j) = up2 (tN T) k i n l j
        rw [up2_ne _ _ nf]; simp [va_up, far hv, b.1]
      · show va_up (gR S) q (fun _ => none) (ad l j) m = (up2 (tR T) k i (fun _ => none) l j m).map _
        rw [up2_ne _ _ nf]
        simp only [va_up, far hv, if_false]
        rw [b.2 h15 m, map_ad]
        intro t ht e
        exact ne _ _ (W.2 l j m t hv h15 ht) e
    · subst e1; subst e2
      rw [new]
      refine ⟨?_, fun h15 m => ?_⟩
      · show va_up (gN S) q n q = up2 (tN T) l j n l j
        rw [up2_s]; simp [va_up]
      · show va_up (gR S) q (fun _ => none) q m = (up2 (tR T) l j (fun _ => none) l j m).map _
        rw [up2_s]; simp [va_up]
  · rintro j (hv | ⟨e1, e2⟩)
    · rw [old 12 j hv]
      have b := r6 j hv
      refine ⟨b.1, ?_⟩
      have k12 : k ≠ 12 := fun e => ne 12 j hv ⟨e.symm, by rw [b.1, h2 (Or.inl e)]⟩
      show va_up (gA S) q (fun _ => 0) (ad 12 j) = (if k = 12 then (fun _ => 0) else tA T)
      rw [if_neg k12]; simp [va_up, far hv, b.2]
    · subst e1; subst e2
      refine ⟨h2 (Or.inl rfl), ?_⟩
      rw [new]
      show va_up (gA S) q (fun _ => 0) q = (if 12 = 12 then (fun _ => 0) else tA T)
      simp [va_up]
  · rintro j (hv | ⟨e1, e2⟩)
    · rw [old 13 j hv]
      have b := r7 j hv
      refine ⟨b.1, ?_⟩
      have k13 : k ≠ 13 := fun e => ne 13 j hv ⟨e.symm, by rw [b.1, h2 (Or.inr e)]⟩
      show va_up (gB S) q (fun _ => 0) (ad 13 j) = (if k = 13 then (fun _ => 0) else tB T)
      rw [if_neg k13]; simp [va_up, far hv, b.2]
    · subst e1; subst e2
      refine ⟨h2 (Or.inr rfl), ?_⟩
      rw [new]
      show va_up (gB S) q (fun _ => 0) q = (if 13 = 13 then (fun _ => 0) else tB T)
      simp [va_up]
end RCn
