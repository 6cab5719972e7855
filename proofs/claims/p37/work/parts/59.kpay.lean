/-! a payment -/
/-- what a method that pays may do: T becomes T' -/
def PMe (n len : Nat → Nat) (T T' : CT) (w : (Nat → Nat → Nat) → PT → Nat → Nat → (PT → Prop) → Prop) : Prop :=
  tN T 12 0 ≤ tN T' 12 0 ∧ ∀ (ad : Nat → Nat → Nat) (S : PT) (mc ms : Nat) (post : PT → Prop), RC ad (VC n len) S T → tN T' 12 0 - tN T 12 0 ≤ mc → 2 * (tN T' 12 0 - tN T 12 0) ≤ ms → (∀ ad' S', RC ad' (VC n len) S' T' → (∀ k i, k ≠ 12 → ad' k i = ad k i) → post S') → w ad S mc ms post
/-- only the money differs -/
def SL (T T' : CT) : Prop := (∀ F, ¬ F = 201 → tI T' F = tI T F) ∧ tP T' = tP T ∧ (∀ k, ¬ k = 12 → tN T' k = tN T k) ∧ tR T' = tR T ∧ tB T' = tB T
theorem SL_r (T : CT) : SL T T := ⟨fun _ _ => rfl, rfl, fun _ _ => rfl, rfl, rfl⟩
theorem SL_t {T T1 T2 : CT} (a : SL T T1) (b : SL T1 T2) : SL T T2 :=
  ⟨fun F h => (b.1 F h).trans (a.1 F h), b.2.1.trans a.2.1, fun k h => (b.2.2.1 k h).trans (a.2.2.1 k h), b.2.2.2.1.trans a.2.2.2.1, b.2.2.2.2.trans a.2.2.2.2⟩
section C
variable {ad : Nat → Nat → Nat} {S : PT} {T : CT} {σ : SG} {n len : Nat → Nat} {μ : MU} {pl : Nat → Nat} {B E : Nat}
theorem v12_VC : ∀ i, VC n len 12 i ↔ i = 0 := fun _ => Iff.rfl
theorem v2_VC : ∀ i, VC n len 2 i ↔ i = 0 := fun _ => Iff.rfl
theorem k_enter38 (R : RC ad (VC n len) S T) {r m : Nat} (h1 : tI T 201 0 = nI r) (h2 : tN T 12 0 = m) (hr : r < m) (hm : m ≤ 262144) (h3 : tP T 200 0 = some 0) (x1 x2 x3 : Int32) {mc ms c0 n0 : Nat} (hc : c0 ≤ mc) (hn : n0 ≤ ms) {post : PT → Prop}
    (h : ∀ S', RC ad (VC n len) S' (uI (uA T r (x3 * 64 + x1 * 8 + x2)) 201 0 (nI (r + 1))) → post S') : w_X1_enter_b38 (ad 2 0) x1 x2 x3 mc ms post c0 n0 S := by
  have o2 := RC_o2 R (VC_2 (n := n) (len := len))
  have o12 := RC_a12 R (VC_12 (n := n) (len := len))
  unfold w_X1_enter_b38 w_X1_enter_b80
  rw [o2.2.1, o2.2.2, h1, h3]
  refine ⟨hc, hn, o2.1, ad 12 0, rfl, o12.1, ?_⟩
  rw [o12.2.1, h2]
  refine ⟨fun hle => ?_, fun _ => ⟨vin_nI hr (by omega), ?_⟩⟩
  · rw [qn_le (by omega) (by omega)] at hle; omega
  · rw [qn_nat (show r < 2147483648 by omega)]
    refine RC_uA R VC_12 (fun S1 R1 => ?_)
    have e1 : gI S1 201 (ad 2 0) = nI r := by rw [(RC_o2 R1 VC_2).2.2]; exact h1
    rw [e1, qn_s]
    exact RC_uI R1 VC_2 1 rfl (by decide) (by decide) (fun S2 R2 => ⟨hc, hn, h S2 R2⟩)
theorem if_nlt {x y : Int32} {α : Type} (a b : α) (h : ¬ x < y) : (if x < y then a else b) = b := if_neg h
theorem uG_P {m : Nat} {f : Nat → Int32} : tP (uG T m f) 200 0 = some 0 := by show up2 (tP T) 200 0 (some 0) 200 0 = _; rw [up2_s]
theorem uG_N {m : Nat} {f : Nat → Int32} : tN (uG T m f) 12 0 = m := by show up2 (tN T) 12 0 m 12 0 = _; rw [up2_s]
theorem k_enter (L : DL T μ B) (hB : B < 262144) {p q : Nat} (hp : p < 6) (hq : q < 6) {a : Int32} (ha0 : 0 ≤ a.toInt) (ha1 : a.toInt ≤ 2000) :
    ∃ T', DL T' (z_pay μ p q a) (B + 1) ∧ tJ T' = tJ T ∧ SL T T' ∧ PMe n len T T' (fun ad S mc ms post => w_X1_enter (ad 2 0) (nI p) (nI q) a S mc ms post) := by
  obtain ⟨r, k, h1, hr, h3, h2, hk, hrm, hb⟩ := L
  have h2k : 2 ^ k ≤ 2 ^ 12 := Nat.pow_le_pow_right (by decide) hk
  have hb2 : ∀ A : Nat → Int32, (∀ i, i < r → A i = tA T i) → ∀ w, w < 6 → bal (upd A r (a * 64 + nI p * 8 + nI q)) (nI w) (r + 1) = z_pay μ p q a w := fun A hA w hw => bal_pay A hp hq hw ha0 ha1 (fun w hw => by rw [bal_c _ r hA]; exact hb w hw)
  by_cases hlt : r < 64 * 2 ^ k
  · refine ⟨uI (uA T r (a * 64 + nI p * 8 + nI q)) 201 0 (nI (r + 1)), ⟨r + 1, k, tI_s, by omega, h3, h2, hk, by omega, fun w hw => hb2 _ (fun _ _ => rfl) w hw⟩, rfl, ⟨fun F hF => sg_o (σ := tI T) hF, rfl, fun _ _ => rfl, rfl, rfl⟩, Nat.le_refl _, ?_⟩
    intro ad S mc ms post R hmc hms h
    have o2 := RC_o2 R (VC_2 (n := n) (len := len))
    have o12 := RC_a12 R (VC_12 (n := n) (len := len))
    show w_X1_enter (ad 2 0) (nI p) (nI q) a S mc ms post
    unfold w_X1_enter
    refine ⟨o2.1, ad 12 0, by rw [o2.2.1, h3]; rfl, o12.1, ?_⟩
    rw [o2.2.2, h1, o12.2.1, h2]
    refine ⟨fun _ => k_enter38 R h1 h2 hlt (by omega) h3 _ _ _ (Nat.zero_le _) (Nat.zero_le _) (fun S' R' => h ad S' R' (fun _ _ _ => rfl)), fun hn => absurd ?_ hn⟩
    rw [qn_lt (by omega) (by omega)]; exact hlt
  · have er : r = 64 * 2 ^ k := by omega
    have hk12 : k < 12 := by
      refine Classical.byContradiction (fun hn => ?_)
      have : k = 12 := by omega
      rw [this] at er
      omega
    have hks : 64 * 2 ^ (k + 1) = 2 * r := by rw [Nat.pow_succ]; omega
    have h2k1 : 2 ^ (k + 1) ≤ 2 ^ 12 := Nat.pow_le_pow_right (by decide) hk12
    have hr1 : 1 ≤ r := by have : 0 < 2 ^ k := Nat.pow_pos (by decide); omega
    have hA : ∀ i, i < r → va_cpy (tA T) (fun _ => 0) 0 0 r i = tA T i := fun i hi => by unfold va_cpy; rw [if_pos ⟨by omega, by omega⟩]; congr 1; omega
    refine ⟨uI (uA (uG T (2 * r) (va_cpy (tA T) (fun _ => 0) 0 0 r)) r (a * 64 + nI p * 8 + nI q)) 201 0 (nI (r + 1)), ⟨r + 1, k + 1, tI_s, by omega, uG_P (T := T) (m := 2 * r) (f := va_cpy (tA T) (fun _ => 0) 0 0 r), ?_, hk12, by omega, fun w hw => hb2 _ hA w hw⟩, rfl, ⟨fun F hF => sg_o (σ := tI T) hF, ?_, fun l hl => ?_, rfl, rfl⟩, ?_, ?_⟩
    · show up2 (tN T) 12 0 (2 * r) 12 0 = _
      rw [up2_s, hks]
    · show up2 (tP T) 200 0 (some 0) = tP T
      funext F i
      by_cases e : F = 200 ∧ i = 0
      · rw [e.1, e.2, up2_s, h3]
      · rw [up2_ne _ _ e]
    · show up2 (tN T) 12 0 (2 * r) l = tN T l
      funext i
      rw [up2_f _ _ _ _ hl]
    · show tN T 12 0 ≤ up2 (tN T) 12 0 (2 * r) 12 0
      rw [up2_s]; omega
    intro ad S mc ms post R hmc hms h
    have ecap : tN (uI (uA (uG T (2 * r) (va_cpy (tA T) (fun _ => 0) 0 0 r)) r (a * 64 + nI p * 8 + nI q)) 201 0 (nI (r + 1))) 12 0 = 2 * r := uG_N (T := T) (m := 2 * r) (f := va_cpy (tA T) (fun _ => 0) 0 0 r)
    rw [ecap, h2] at hmc hms
    have o2 := RC_o2 R (VC_2 (n := n) (len := len))
    have o12 := RC_a12 R (VC_12 (n := n) (len := len))
    have e200 : gP S 200 (ad 2 0) = some (ad 12 0) := by rw [o2.2.1, h3]; rfl
    have c1 : ¬ nI r < nI (64 * 2 ^ k) := by rw [qn_lt (by omega) (by omega)]; omega
    have c2 : ¬ 262144 ≤ nI r := by rw [show (262144 : Int32) = nI 262144 from rfl, qn_le (by omega) (by omega)]; omega
    have e2 : 2 * nI r = nI (2 * r) := by rw [show (2 : Int32) = nI 2 from rfl, qn_mul]
    have t2 : (nI (2 * r)).toNatClampNeg = 2 * r := qn_nat (by omega)
    have c3 : ¬ nI (2 * r) = nI (64 * 2 ^ k) := by rw [qn_eq (by omega) (by omega)]; omega
    have c4 : ¬ nI (2 * r) < 0 := by rw [ilt, nI_toInt (by omega), I0]; omega
    have c5 : ¬ nI (2 * r) < nI (64 * 2 ^ k) := by rw [qn_lt (by omega) (by omega)]; omega
    have c6 : ¬ nI (64 * 2 ^ k) < 0 := by rw [ilt, nI_toInt (by omega), I0]; omega
    have t3 : (nI (64 * 2 ^ k)).toNatClampNeg = r := by rw [qn_nat (by omega), er]
    have t0 : (0 : Int32).toNatClampNeg = 0 := by decide
    show w_X1_enter (ad 2 0) (nI p) (nI q) a S mc ms post
    unfold w_X1_enter
    refine ⟨o2.1, ad 12 0, e200, o12.1, ?_⟩
    rw [o2.2.2, h1, o12.2.1, h2]
    refine ⟨fun hc => absurd hc c1, fun _ => ⟨fun hc => absurd hc c2, fun _ => ⟨1, 2 * r, by omega, by omega, ?_⟩⟩⟩
    unfold w_J7_copyOf_59c91
    rw [e200, e2]
    refine ⟨ad 12 0, rfl, o12.1, ?_⟩
    rw [o12.2.1, h2, t2]
    refine ⟨fun _ => ⟨c4, by omega, by omega, by omega, ?_⟩, fun hc => absurd hc c3⟩
    intro q4 S5 hq4 e5
    have hne : ad 12 0 ≠ q4 := RC_far R hq4 (VC_12 (n := n) (len := len))
    have gn1 : gN S5 (ad 12 0) = 64 * 2 ^ k := by rw [e5]; show va_up (gN S) q4 (2 * r) (ad 12 0) = _; simp [va_up, hne, o12.2.1, h2]
    have gn2 : gN S5 q4 = 2 * r := by rw [e5]; show va_up (gN S) q4 (2 * r) q4 = _; simp [va_up]
    have ga1 : gA S5 (ad 12 0) = tA T := by rw [e5]; show va_up (gA S) q4 _ (ad 12 0) = _; simp [va_up, hne, o12.2.2]
    have ga2 : gA S5 q4 = fun _ => 0 := by rw [e5]; show va_up (gA S) q4 _ q4 = _; simp [va_up]
    rw [gn1, gn2, ga1, ga2, if_nlt _ _ c5, t3, t0]
    refine ⟨c6, by omega, by omega, ?_⟩
    intro S17 e17
    have hne2 : ad 2 0 ≠ q4 := RC_far R hq4 (VC_2 (n := n) (len := len))
    have gk : gK S17 (ad 2 0) = 2 := by rw [e17, e5]; show va_up (gK S) q4 12 (ad 2 0) = 2; simp [va_up, hne2, o2.1]
    refine ⟨gk, fun S21 e21 => ?_⟩
    have R2 := RC_g12 R v12_VC v2_VC hq4 (m := 2 * r) (va_cpy (tA T) (fun _ => 0) 0 0 r)
    rw [e17, e5] at e21
    rw [← e21] at R2
    have ea : up2 ad 12 0 q4 2 0 = ad 2 0 := up2_f _ _ _ _ (by decide)
    rw [← ea]
    refine k_enter38 (T := uG T (2 * r) (va_cpy (tA T) (fun _ => 0) 0 0 r)) R2 h1 uG_N (by omega) (by omega) uG_P _ _ _ (by omega) (by omega) (fun S' R' => h _ S' R' (fun l i hl => up2_f _ _ _ _ hl))
theorem k_pay (H : DQ T σ n) (L : DL T μ B) (hB : B < 262144) (P : ∀ p, p < 6 → tJ T p = μ p) {p q : Nat} (hp : p < 6) (hq : q < 6) {a : Int32} (ha0 : 0 ≤ a.toInt) (ha1 : a.toInt ≤ 2000) :
    ∃ T', DL T' (z_pay μ p q a) (B + 1) ∧ (∀ w, w < 6 → tJ T' w = z_pay μ p q a w) ∧ SL T T' ∧ PMe n (z_len σ) T T' (fun ad S mc ms post => w_X8_pay (ad 9 0) (nI p) (nI q) a S mc ms post) := by
  obtain ⟨T', L', eJ', sl, hcap, c⟩ := k_enter (n := n) (len := z_len σ) (T := uJ (uJ T p (tJ T p - a.toInt64)) q (tJ (uJ T p (tJ T p - a.toInt64)) q + a.toInt64)) L hB hp hq ha0 ha1
  refine ⟨T', L', fun w hw => ?_, ⟨fun F hF => sl.1 F hF, sl.2.1, fun k hk => sl.2.2.1 k hk, sl.2.2.2.1, sl.2.2.2.2⟩, hcap, ?_⟩
  · rw [eJ']
    show vp_updL (vp_updL (tJ T) p (tJ T p - a.toInt64)) q (vp_updL (tJ T) p (tJ T p - a.toInt64) q + a.toInt64) w = vp_updL (vp_updL μ p (μ p - a.toInt64)) q (vp_updL μ p (μ p - a.toInt64) q + a.toInt64) w
    unfold vp_updL
    rw [P p hp, P q hq, P w hw]
  · intro ad S mc ms post R hmc hms h
    have in5 : ∀ i : Nat, i < 6 → 0 ≤ nI i ∧ nI i ≤ 5 := fun i hi => by rw [ile, ile, nI_toInt (by omega), I0, show (5 : Int32).toInt = 5 from by decide]; omega
    have o9 := RC_o9 R (VC_9 (n := n) (len := z_len σ))
    have p907 : tP T 907 0 = some 0 := H.2.1.2.2.2.2.2.2.2.2.1
    show w_X8_pay (ad 9 0) (nI p) (nI q) a S mc ms post
    unfold w_X8_pay
    refine ⟨o9.1, ?_⟩
    rw [k_partyAt R H, iT_T (in5 p hp), qn_nat (show p < 2147483648 by omega)]
    refine ⟨o9.1, ?_⟩
    rw [k_partyAt R H, iT_T (in5 q hq), qn_nat (show q < 2147483648 by omega)]
    refine ⟨fun e => (by cases e), fun a7 e7 => ⟨fun e => (by cases e), fun a9 e9 => ?_⟩⟩
    cases e7; cases e9
    refine ⟨(RC_o4 R (VC_4 hp)).1, ?_⟩
    rw [(RC_o4 R (VC_4 hp)).2.1]
    refine RC_uJ R (VC_4 hp) (fun S1 R1 => ⟨(RC_o4 R1 (VC_4 hq)).1, ?_⟩)
    rw [(RC_o4 R1 (VC_4 hq)).2.1]
    refine RC_uJ R1 (VC_4 hq) (fun S2 R2 => ?_)
    have o92 := RC_o9 R2 (VC_9 (n := n) (len := z_len σ))
    refine ⟨o92.1, ad 2 0, ?_, (RC_o2 R2 VC_2).1, tN T' 12 0 - tN T 12 0, 2 * (tN T' 12 0 - tN T 12 0), by omega, by omega, ?_⟩
    · have := o92.2.2.2.2.2.2.2.2.1
      rw [this]
      show (tP T 907 0).map _ = _
      rw [p907]; rfl
    · exact c ad S2 _ _ _ R2 (Nat.le_refl _) (Nat.le_refl _) (fun ad' S' R' e => ⟨by omega, by omega, h ad' S' R' e⟩)
end C
