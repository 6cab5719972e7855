/-! the list of what was told -/
theorem shr_1 : ∀ c : Nat, c < 600 → (nI c >>> (1 &&& 31)) = nI (c / 2) := by decide +kernel
theorem tk1101 : tk 1101 = 20 := rfl
/-- the list's row, grown -/
def uL (T : CT) (m : Nat) (f : Nat → Option Nat) : CT := (tI T, tJ T, up2 (tP T) 1101 0 (some 0), up2 (tN T) 20 0 m, up2 (tR T) 20 0 f, tA T, tB T)
section C
variable {ad : Nat → Nat → Nat} {V V' : Nat → Nat → Prop} {S : PT} {T : CT}
theorem RC_g20 (R : RC ad V S T) (J : NJ V T) (v20 : ∀ i, V 20 i → i = 0) (v11 : ∀ i, V 11 i ↔ i = 0) (hV : ∀ k i, V' k i ↔ (V k i ∨ (k = 20 ∧ i = 0))) {q m : Nat} (hq : gK S q = 0) (f g : Nat → Option Nat) (hg : ∀ i, g i = (f i).map (ad 6)) :
    RC (up2 ad 20 0 q) V' (sP (cpR (nA S q 20 m) q g) 1101 (ad 11 0) (some q)) (uL T m f) := by
  have far := @RC_far ad V S T R q hq
  obtain ⟨r1, r2, r3, r4, r5, r6, r7⟩ := R
  have old : ∀ l j, ¬ (l = 20 ∧ j = 0) → up2 ad 20 0 q l j = ad l j := fun l j h => up2_ne _ _ h
  have new : up2 ad 20 0 q 20 0 = q := up2_s _ _ _ _
  have is20 : ∀ j, V' 20 j → j = 0 := fun j h => ((hV 20 j).mp h).elim (v20 j) (fun e => e.2)
  have was : ∀ l j, V' l j → l ≠ 20 → V l j := fun l j h e => ((hV l j).mp h).elim id (fun z => absurd z.1 e)
  have old2 : ∀ l j, l ≠ 20 → up2 ad 20 0 q l j = ad l j := fun l j h => old l j (fun e => h e.1)
  refine ⟨?_, ?_, ?_, ?_, ?_, ?_, ?_⟩
  · intro l j hv
    by_cases e : l = 20
    · subst e
      rw [is20 j hv, new]
      exact ⟨by show va_up (gK S) q 20 q = 20; simp [va_up], by decide⟩
    · have hv0 := was l j hv e
      rw [old2 l j e]
      refine ⟨?_, (r1 l j hv0).2⟩
      show va_up (gK S) q 20 (ad l j) = l
      simp [va_up, far hv0, (r1 l j hv0).1]
  · intro l j j2 hv hv2 e
    by_cases el : l = 20
    · subst el; rw [is20 j hv, is20 j2 hv2]
    · rw [old2 l j el, old2 l j2 el] at e
      exact r2 l j j2 (was l j hv el) (was l j2 hv2 el) e
  · intro l s j hv hl hs
    have hv0 := was l j hv (by omega)
    rw [old2 l j (by omega)]
    have b := r3 l s j hv0 hl hs
    refine ⟨b.1, ?_⟩
    show up2 (gP S) 1101 (ad 11 0) (some q) (100 * l + s) (ad l j) = (up2 (tP T) 1101 0 (some 0) (100 * l + s) j).map _
    by_cases e : 100 * l + s = 1101
    · have el : l = 11 := by omega
      subst el
      have ej := (v11 j).mp hv0
      subst ej
      rw [e, up2_s, up2_s]
      show some q = some (up2 ad 20 0 q (tk 1101) 0)
      rw [tk1101, new]
    · rw [up2_f _ _ _ _ e, up2_f _ _ _ _ e, b.2]
      by_cases h20 : tk (100 * l + s) = 20
      · rw [J l s j hv0 hl hs h20 e]; rfl
      · rw [map_ad]
        rintro t ht ⟨e1, -⟩
        exact h20 e1
  · intro j hv
    rw [old2 4 j (by decide)]; exact r4 j (was 4 j hv (by decide))
  · intro l j hv h12
    by_cases e : l = 20
    · subst e
      rw [is20 j hv, new]
      refine ⟨?_, fun h15 i => ?_⟩
      · show va_up (gN S) q m q = up2 (tN T) 20 0 m 20 0
        rw [up2_s]; simp [va_up]
      · show va_up (va_up (gR S) q (fun _ => none)) q g q i = (up2 (tR T) 20 0 f 20 0 i).map (up2 ad 20 0 q (ek 20))
        rw [up2_s, show ek 20 = 6 from rfl, map_ad (fun t _ e => absurd e.1 (by decide)), ← hg i]
        simp [va_up]
    · have hv0 := was l j hv e
      rw [old2 l j e]
      have b := r5 l j hv0 h12
      refine ⟨?_, fun h15 i => ?_⟩
      · show va_up (gN S) q m (ad l j) = up2 (tN T) 20 0 m l j
        rw [up2_f _ _ _ _ e]; simp [va_up, far hv0, b.1]
      · show va_up (va_up (gR S) q (fun _ => none)) q g (ad l j) i = (up2 (tR T) 20 0 f l j i).map _
        rw [up2_f _ _ _ _ e, map_ad (fun t _ e => ek20 e.1), ← b.2 h15 i]
        simp [va_up, far hv0]
  · intro j hv
    have b := r6 j (was 12 j hv (by decide))
    refine ⟨b.1, ?_⟩
    rw [old2 12 j (by decide)]
    show va_up (gA S) q (fun _ => 0) (ad 12 j) = tA T
    simp [va_up, far (was 12 j hv (by decide)), b.2]
  · intro j hv
    have b := r7 j (was 13 j hv (by decide))
    refine ⟨b.1, ?_⟩
    rw [old2 13 j (by decide)]
    show va_up (gB S) q (fun _ => 0) (ad 13 j) = tB T
    simp [va_up, far (was 13 j hv (by decide)), b.2]
theorem cpR_id (S : PT) (q m : Nat) : cpR (nA S q 20 m) q (fun _ => none) = nA S q 20 m := by
  unfold cpR
  have : va_up (gR (nA S q 20 m)) q (fun _ => none) = gR (nA S q 20 m) := by
    funext a
    show va_up (va_up (gR S) q (fun _ => none)) q (fun _ => none) a = va_up (gR S) q (fun _ => none) a
    unfold va_up
    by_cases e : a = q
    · rw [if_pos e, if_pos e]
    · rw [if_neg e]
  rw [this]
  rfl
theorem WJ_L (W : WJ V T) (hV : ∀ k i, V' k i ↔ (V k i ∨ (k = 20 ∧ i = 0))) {m : Nat} {f : Nat → Option Nat} (hf : ∀ i t, f i = some t → V 6 t) : WJ V' (uL T m f) := by
  refine ⟨⟨fun k s i t h1 h2 h3 h4 h5 => ?_, fun k i j t h1 h2 h3 => ?_⟩, fun k s i h1 h2 h3 h4 h5 => ?_⟩
  · have hv0 := ((hV k i).mp h1).elim id (fun z => absurd z.1 (by omega))
    replace h4 : up2 (tP T) 1101 0 (some 0) (100 * k + s) i = some t := h4
    by_cases e : 100 * k + s = 1101
    · rw [e] at h5; exact absurd rfl h5
    · rw [up2_f _ _ _ _ e] at h4
      exact (hV _ _).mpr (Or.inl (W.1.1 k s i t hv0 h2 h3 h4 h5))
  · replace h3 : up2 (tR T) 20 0 f k i j = some t := h3
    by_cases e : k = 20 ∧ i = 0
    · rw [e.1, e.2, up2_s] at h3
      rw [e.1]
      exact (hV _ _).mpr (Or.inl (hf j t h3))
    · rw [up2_ne _ _ e] at h3
      exact (hV _ _).mpr (Or.inl (W.1.2 k i j t (((hV k i).mp h1).elim id (fun z => absurd z e)) h2 h3))
  · have hv0 := ((hV k i).mp h1).elim id (fun z => absurd z.1 (by omega))
    show up2 (tP T) 1101 0 (some 0) (100 * k + s) i = none
    rw [up2_f _ _ _ _ h5]
    exact W.2 k s i hv0 h2 h3 h4 h5
end C
