/-! the ledger: growth, a row more -/
theorem tk12 {F : Nat} (h : tk F = 12) : F = 200 := by
  unfold tk at h
  by_cases e : F = 200
  · exact e
  · grind (splits := 30)
theorem ek12 {k : Nat} (h : ek k = 12) : False := by
  unfold ek at h
  repeat (split at h; · omega)
  omega
theorem ek20 {k : Nat} (h : ek k = 20) : False := by
  unfold ek at h
  repeat (split at h; · omega)
  omega
/-- the ledger's row, grown -/
def uG (T : CT) (m : Nat) (f : Nat → Int32) : CT := (tI T, tJ T, up2 (tP T) 200 0 (some 0), up2 (tN T) 12 0 m, tR T, f, tB T)
section C
variable {ad : Nat → Nat → Nat} {V : Nat → Nat → Prop} {S : PT} {T : CT}
theorem RC_g12 (R : RC ad V S T) (v12 : ∀ i, V 12 i ↔ i = 0) (v2 : ∀ i, V 2 i ↔ i = 0) {q m : Nat} (hq : gK S q = 0) (f : Nat → Int32) : RC (up2 ad 12 0 q) V (sP (cpA (nA S q 12 m) q f) 200 (ad 2 0) (some q)) (uG T m f) := by
  have far := @RC_far ad V S T R q hq
  obtain ⟨r1, r2, r3, r4, r5, r6, r7⟩ := R
  have old : ∀ l j, ¬ (l = 12 ∧ j = 0) → up2 ad 12 0 q l j = ad l j := fun l j h => up2_ne _ _ h
  have new : up2 ad 12 0 q 12 0 = q := up2_s _ _ _ _
  have old2 : ∀ l j, V l j → l ≠ 12 → up2 ad 12 0 q l j = ad l j := fun l j _ h => old l j (fun e => h e.1)
  have is12 : ∀ j, V 12 j → j = 0 := fun j h => (v12 j).mp h
  have eK : ∀ a, a ≠ q → gK (sP (cpA (nA S q 12 m) q f) 200 (ad 2 0) (some q)) a = gK S a := fun a h => if_neg h
  have eI : ∀ F a, gI (sP (cpA (nA S q 12 m) q f) 200 (ad 2 0) (some q)) F a = gI S F a := fun _ _ => rfl
  refine ⟨?_, ?_, ?_, ?_, ?_, ?_, ?_⟩
  · intro l j hv
    by_cases e : l = 12
    · subst e
      rw [is12 j hv, new]
      exact ⟨by show va_up (gK S) q 12 q = 12; simp [va_up], by decide⟩
    · rw [old2 l j hv e, eK _ (far hv)]
      exact r1 l j hv
  · intro l j j2 hv hv2 e
    by_cases el : l = 12
    · subst el; rw [is12 j hv, is12 j2 hv2]
    · rw [old2 l j hv el, old2 l j2 hv2 el] at e
      exact r2 l j j2 hv hv2 e
  · intro l s j hv hl hs
    rw [old2 l j hv (by omega)]
    have b := r3 l s j hv hl hs
    refine ⟨b.1, ?_⟩
    show up2 (gP S) 200 (ad 2 0) (some q) (100 * l + s) (ad l j) = (up2 (tP T) 200 0 (some 0) (100 * l + s) j).map _
    by_cases e : 100 * l + s = 200
    · have el : l = 2 := by omega
      subst el
      have ej := (v2 j).mp hv
      subst ej
      rw [e, up2_s, up2_s]
      show some q = some (up2 ad 12 0 q (tk 200) 0)
      rw [show tk 200 = 12 from rfl, new]
    · rw [up2_f _ _ _ _ e, up2_f _ _ _ _ e, b.2, map_ad]
      rintro t ht ⟨e1, -⟩
      exact e (tk12 e1)
  · intro j hv
    rw [old2 4 j hv (by decide)]; exact r4 j hv
  · intro l j hv h12
    by_cases e : l = 12
    · subst e
      rw [is12 j hv, new]
      refine ⟨?_, fun h15 => absurd h15 (by decide)⟩
      show va_up (gN S) q m q = up2 (tN T) 12 0 m 12 0
      rw [up2_s]; simp [va_up]
    · rw [old2 l j hv e]
      have b := r5 l j hv h12
      refine ⟨?_, fun h15 i => ?_⟩
      · show va_up (gN S) q m (ad l j) = up2 (tN T) 12 0 m l j
        rw [up2_f _ _ _ _ e]; simp [va_up, far hv, b.1]
      · show va_up (gR S) q (fun _ => none) (ad l j) i = (tR T l j i).map _
        rw [map_ad (fun t _ e => ek12 e.1), ← b.2 h15 i]
        simp [va_up, far hv]
  · intro j hv
    refine ⟨is12 j hv, ?_⟩
    rw [is12 j hv, new]
    show va_up (va_up (gA S) q (fun _ => 0)) q f q = f
    simp [va_up]
  · intro j hv
    have b := r7 j hv
    refine ⟨b.1, ?_⟩
    rw [old2 13 j hv (by decide)]
    show va_up (gB S) q (fun _ => 0) (ad 13 j) = tB T
    simp [va_up, far hv, b.2]
end C
/-! an amount, its payer and its payee out of a row -/
theorem row_ok {p q : Nat} (hp : p < 6) (hq : q < 6) {a : Int32} (h0 : 0 ≤ a.toInt) (h1 : a.toInt ≤ 2000) :
    (a * 64 + nI p * 8 + nI q) / 64 = a ∧ (a * 64 + nI p * 8 + nI q) / 8 - (a * 64 + nI p * 8 + nI q) / 8 / 8 * 8 = nI p ∧ (a * 64 + nI p * 8 + nI q) - (a * 64 + nI p * 8 + nI q) / 8 * 8 = nI q := by
  have hw : (a * 64 + nI p * 8 + nI q).toInt = a.toInt * 64 + p * 8 + q := by
    rw [tadd, tadd, tmul, tmul, nI_toInt (by omega), nI_toInt (by omega), show (64 : Int32).toInt = 64 from by decide, show (8 : Int32).toInt = 8 from by decide]
    omega
  generalize hz : a * 64 + nI p * 8 + nI q = w at *
  have c64 : (64 : Int32).toInt = 64 := by decide
  have c8 : (8 : Int32).toInt = 8 := by decide
  have d64 : (w / 64).toInt = w.toInt / 64 := by rw [tdiv (by omega) (by decide), c64]
  have d8 : (w / 8).toInt = w.toInt / 8 := by rw [tdiv (by omega) (by decide), c8]
  have d88 : (w / 8 / 8).toInt = w.toInt / 8 / 8 := by rw [tdiv (by rw [d8]; omega) (by decide), c8, d8]
  refine ⟨?_, ?_, ?_⟩
  · rw [ieq, d64]; omega
  · rw [ieq, tsub, tmul, d8, d88, c8, nI_toInt (by omega)]; omega
  · rw [ieq, tsub, tmul, d8, c8, nI_toInt (by omega)]; omega
theorem bal_c {A A' : Nat → Int32} (w : Int32) : ∀ r : Nat, (∀ i, i < r → A' i = A i) → bal A' w r = bal A w r
  | 0, _ => rfl
  | r + 1, h => by rw [bal, bal, bal_c w r (fun i hi => h i (by omega)), h r (by omega)]
theorem bal_pay (A : Nat → Int32) {r p q w : Nat} (hp : p < 6) (hq : q < 6) (hw : w < 6) {a : Int32} (h0 : 0 ≤ a.toInt) (h1 : a.toInt ≤ 2000) {μ : MU} (h : ∀ w, w < 6 → bal A (nI w) r = μ w) :
    bal (upd A r (a * 64 + nI p * 8 + nI q)) (nI w) (r + 1) = z_pay μ p q a w := by
  obtain ⟨e1, e2, e3⟩ := row_ok hp hq h0 h1
  have ep : (nI p = nI w) = (p = w) := propext (qn_eq (by omega) (by omega))
  have eq : (nI q = nI w) = (q = w) := propext (qn_eq (by omega) (by omega))
  rw [bal, upd_s, bal_c _ r (fun i hi => upd_o A _ (by omega)), h w hw]
  unfold bal1 z_pay vp_updL
  rw [e1, e2, e3, ep, eq]
  by_cases hpw : p = w
  · subst hpw
    by_cases hqw : q = p
    · subst hqw; rw [iT_T rfl, iT_T rfl]; simp
    · rw [iT_F hqw, iT_T rfl]; simp [show p ≠ q from fun e => hqw e.symm]
  · by_cases hqw : q = w
    · subst hqw; rw [iT_T rfl, iT_F hpw]; simp [show q ≠ p from fun e => hpw e.symm]
    · rw [iT_F hqw, iT_F hpw]; simp [show w ≠ q from fun e => hqw e.symm, show w ≠ p from fun e => hpw e.symm]
