/-! pass -/
section C
variable {ad : Nat → Nat → Nat} {S : PT} {T : CT} {σ : SG} {n len : Nat → Nat} {μ : MU} {pl : Nat → Nat} {B E : Nat}
theorem z_len_run (x : AS) (a b : Nat) (m : Nat) : z_len (z_run x a b m).1 = z_len x.1 := z_len_c (fun j => z_run_f x a b j (by decide) (by decide) (by decide) (by decide) (by decide) m)
theorem g_pass_l {l0 : Nat → Nat} {x0 : AS} {h N K : Nat} (hl : z_len x0.1 = l0) (h0 : x0.1 0 0 = nI h) (hN : h + N ≤ 9999) (hK : ∀ i, i ≤ N → pot (h + i) + K ≤ 262000) : ∀ (d i : Nat) (T : CT), i + d = N → GI T (z_run x0 (n 5) (n 8) i).1 (z_run x0 (n 5) (n 8) i).2 n pl (pot (h + i) + K) E →
    ∃ T', GI T' (z_run x0 (n 5) (n 8) N).1 (z_run x0 (n 5) (n 8) N).2 n pl (pot (h + N) + K) E ∧ SW T T' ∧ tN T 12 0 ≤ tN T' 12 0 ∧ ∀ (ad : Nat → Nat → Nat) (S : PT) (mc ms c0 n0 : Nat) (post : Int32 → PT → Prop) (postX : String → PT → Prop), RC ad (VC n l0) S T → c0 + (tN T' 12 0 - tN T 12 0) ≤ mc → n0 + 2 * (tN T' 12 0 - tN T 12 0) ≤ ms →
    (∀ ad' S', RC ad' (VC n l0) S' T' → (∀ l j, l ≠ 12 → ad' l j = ad l j) → post (nI (h + N)) S') → w_X8_pass_l48 (ad 9 0) (nI N) mc ms post postX (d + 1) c0 n0 S (nI i) := by
  have e00 : ∀ i, (z_run x0 (n 5) (n 8) i).1 0 0 = nI (h + i) := fun i => by rw [z_run_0, h0, qn_add]
  intro d
  induction d with
  | zero =>
    intro i T hi G
    have e1 : i = N := by omega
    subst e1
    refine ⟨T, G, ⟨rfl, rfl⟩, Nat.le_refl _, ?_⟩
    intro ad S mc ms c0 n0 post postX R hc hn hp
    unfold w_X8_pass_l48
    have o9 := RC_o9 R (VC_9 (n := n) (len := l0))
    have g909 : gI S 909 (ad 9 0) = nI (h + i) := by rw [o9.2.2.2.2.2.2.2.2.2.2, G.1.2.1.2.2.2.1, e00]
    refine ⟨by omega, by omega, fun _ => ⟨o9.1, ?_⟩, fun hn => absurd (by rw [qn_le (by omega) (by omega)]; exact Nat.le_refl _) hn⟩
    rw [g909]
    exact hp ad S R (fun _ _ _ => rfl)
  | succ d ih =>
    intro i T hi G
    have hl1 : z_len (z_run x0 (n 5) (n 8) i).1 = l0 := by rw [z_len_run]; exact hl
    obtain ⟨T1, G1, sw1, c1⟩ := g_hour G (e00 i) (by omega) (by rw [show h + i + 1 = h + (i + 1) by omega]; exact hK (i + 1) (by omega))
    rw [hl1] at c1
    rw [show h + i + 1 = h + (i + 1) by omega] at G1
    have G1' : GI T1 (z_run x0 (n 5) (n 8) (i + 1)).1 (z_run x0 (n 5) (n 8) (i + 1)).2 n pl (pot (h + (i + 1)) + K) E := G1
    obtain ⟨T', G', sw2, cap2, cc⟩ := ih (i + 1) T1 (by omega) G1'
    have cap1 := c1.1
    refine ⟨T', G', SW_t sw1 sw2, by omega, ?_⟩
    intro ad S mc ms c0 n0 post postX R hc hn hp
    unfold w_X8_pass_l48
    have c : ¬ nI N ≤ nI i := by rw [qn_le (by omega) (by omega)]; omega
    refine ⟨by omega, by omega, fun hn => absurd hn c, fun _ => ⟨(RC_o9 R VC_9).1, tN T1 12 0 - tN T 12 0, 2 * (tN T1 12 0 - tN T 12 0), by omega, by omega, ?_⟩⟩
    refine c1.2 ad S _ _ _ R (Nat.le_refl _) (Nat.le_refl _) (fun ad1 S1 R1 e1 => ?_)
    rw [qn_s, ← e1 9 0 (by decide)]
    exact cc ad1 S1 mc ms _ _ post postX R1 (by omega) (by omega) (fun ad' S' R' e' => hp ad' S' R' (fun l j hl => (e' l j hl).trans (e1 l j hl)))
theorem k_pass {h K : Nat} (H : GI T σ μ n pl (pot h + K) E) (e0 : σ 0 0 = nI h) (h99 : h ≤ 9999) (hK : K ≤ 100000) (x : Int32) : ∃ T', (q_pass σ x = 0 → ∃ h', h' ≤ 9999 ∧ (u_pass σ μ x (n 5) (n 8)).1 0 0 = nI h' ∧ GI T' (u_pass σ μ x (n 5) (n 8)).1 (u_pass σ μ x (n 5) (n 8)).2 n pl (pot h' + K) E) ∧ SW T T' ∧ (tN T 12 0 ≤ tN T' 12 0 ∧ tN T' 12 0 ≤ 262144 ∧ (¬ q_pass σ x = 0 → tN T' 12 0 = tN T 12 0)) ∧
    ∀ (ad : Nat → Nat → Nat) (S : PT) (mc ms : Nat) (post : Int32 → PT → Prop) (postX : String → PT → Prop), RC ad (VC n (z_len σ)) S T → 1 + (tN T' 12 0 - tN T 12 0) ≤ mc → 6 + 2 * (tN T' 12 0 - tN T 12 0) ≤ ms →
    (q_pass σ x = 1 → postX "java/lang/IllegalArgumentException" S) → (q_pass σ x = 2 → postX "java/lang/IllegalStateException" S) →
    (q_pass σ x = 0 → ∀ ad' S', RC ad' (VC n (z_len σ)) S' T' → (∀ k i, k ≠ 12 → ad' k i = ad k i) → post (σ 0 0 + x) S') → w_X8_pass (ad 9 0) x S mc ms post postX := by
  by_cases hx : 1 ≤ x ∧ x ≤ 200
  · have a1 := hx.1
    have a2 := hx.2
    rw [ile, show (1 : Int32).toInt = 1 from by decide] at a1
    rw [ile, show (200 : Int32).toInt = 200 from by decide] at a2
    obtain ⟨N, hN, rfl, hN2⟩ := ex_nI (x := x) (n := 201) (by rw [ilt, I0]; omega) (by omega)
    have es : σ 0 0 + nI N = nI (h + N) := by rw [e0, qn_add]
    have c99 : nI (h + N) ≤ 9999 ↔ h + N ≤ 9999 := by rw [show (9999 : Int32) = nI 9999 from rfl, qn_le (by omega) (by omega)]
    have eq : q_pass σ (nI N) = iT (¬ h + N ≤ 9999) 2 0 := by
      unfold q_pass
      rw [iT_F (show ¬ ¬ _ from fun z => z hx), es, propext c99]
    rw [eq, es]
    have path : ∀ (ad : Nat → Nat → Nat) (S : PT) (mc ms : Nat) (post : Int32 → PT → Prop) (postX : String → PT → Prop), RC ad (VC n (z_len σ)) S T → 1 ≤ mc → 6 ≤ ms → (¬ h + N ≤ 9999 → postX "java/lang/IllegalStateException" S) → (h + N ≤ 9999 → ∃ m, w_X8_pass_l48 (ad 9 0) (nI N) mc ms post postX m 0 0 S 0) → w_X8_pass (ad 9 0) (nI N) S mc ms post postX := by
      intro ad S mc ms post postX R hmc hms b1 b2
      unfold w_X8_pass
      have o9 := RC_o9 R (VC_9 (n := n) (len := z_len σ))
      refine ⟨fun z => ?_, fun _ => ⟨fun _ => ⟨o9.1, ?_⟩, fun z => absurd hx.2 z⟩⟩
      · rw [ilt, show (1 : Int32).toInt = 1 from by decide] at z; omega
      rw [o9.2.2.2.2.2.2.2.2.2.2, H.1.2.1.2.2.2.1, es, propext c99]
      exact ⟨b2, fun z => ⟨by omega, by omega, b1 z⟩⟩
    by_cases h9 : h + N ≤ 9999
    · have G0 := gp_49 H 0
      have pm : ∀ i, i ≤ N → pot (h + i) + K ≤ 262000 := fun i hi => by have := pot_le (h + i) (by omega); omega
      have hl0 : z_len (up2 σ 49 0 0) = z_len σ := z_len_c (fun j => by rw [up2_f _ _ _ _ (by decide)])
      have h00 : (up2 σ 49 0 0 : SG) 0 0 = nI h := by rw [up2_f _ _ _ _ (by decide)]; exact e0
      obtain ⟨T', G', sw, cap, cc⟩ := g_pass_l (E := E) (x0 := (up2 σ 49 0 0, μ)) hl0 h00 h9 pm N 0 T (by omega) G0
      have eu : u_pass σ μ (nI N) (n 5) (n 8) = z_run (up2 σ 49 0 0, μ) (n 5) (n 8) N := by unfold u_pass; rw [qn_nat hN2]
      rw [eu]
      refine ⟨T', fun _ => ⟨h + N, h9, ?_, G'⟩, sw, ⟨cap, cap_le G', fun z => absurd (iT_F (fun y => y h9)) z⟩, ?_⟩
      · rw [z_run_0]
        show up2 σ 49 0 0 0 0 + nI N = _
        rw [h00, qn_add]
      intro ad S mc ms post postX R hmc hms hx1 hx2 hp
      refine path ad S mc ms post postX R (by omega) (by omega) (fun z => absurd h9 z) (fun _ => ⟨N + 1, ?_⟩)
      exact cc ad S mc ms 0 0 post postX R (by omega) (by omega) (hp (iT_F (fun z => z h9)))
    · refine ⟨T, fun hq => ?_, ⟨rfl, rfl⟩, ⟨Nat.le_refl _, cap_le H, fun _ => rfl⟩, ?_⟩
      · rw [iT_T h9] at hq; exact absurd hq (by decide)
      intro ad S mc ms post postX R hmc hms hx1 hx2 hp
      exact path ad S mc ms post postX R (by omega) (by omega) (fun z => hx2 (iT_T h9)) (fun z => absurd z h9)
  · have hq : q_pass σ x = 1 := by unfold q_pass; exact iT_T hx
    refine ⟨T, fun z => by rw [hq] at z; exact absurd z (by decide), ⟨rfl, rfl⟩, ⟨Nat.le_refl _, cap_le H, fun _ => rfl⟩, ?_⟩
    intro ad S mc ms post postX R hmc hms hx1 hx2 hp
    unfold w_X8_pass w_X8_pass_b12
    have b12 : 0 ≤ mc ∧ 0 ≤ ms ∧ 0 + 1 ≤ mc ∧ 0 + 6 ≤ ms ∧ postX "java/lang/IllegalArgumentException" S := ⟨by omega, by omega, by omega, by omega, hx1 hq⟩
    refine ⟨fun _ => b12, fun z => ⟨fun z2 => ?_, fun _ => b12⟩⟩
    exact absurd ⟨by rw [← not_lt32]; exact z, z2⟩ hx
end C
