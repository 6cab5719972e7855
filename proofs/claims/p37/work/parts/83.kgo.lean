/-! an hour, hours -/
theorem bit_ext {x y : Int32} (h : ∀ l, bitI x l ↔ bitI y l) : x = y := by
  rw [← Int32.toBitVec_inj]
  apply BitVec.eq_of_getLsbD_eq
  intro i _
  have h1 := h i
  unfold bitI at h1
  cases hx : x.toBitVec.getLsbD i <;> cases hy : y.toBitVec.getLsbD i <;> simp_all
theorem bit_srch (P : Nat → Prop) : ∀ m : Nat, m ≤ 32 → ∀ l, bitI (z_srch P m) l ↔ (l < m ∧ P l)
  | 0, _, l => ⟨fun h => absurd h (bit_0 l), fun h => absurd h.1 (Nat.not_lt_zero _)⟩
  | m + 1, hm, l => by
    have ih := bit_srch P m (by omega) l
    rw [z_srch_s]
    by_cases e : P m
    · rw [iT_T e, bit_or, bit_1 (by omega), ih]
      constructor
      · rintro (⟨a, b⟩ | a)
        · exact ⟨by omega, b⟩
        · rw [a]; exact ⟨by omega, e⟩
      · rintro ⟨a, b⟩
        by_cases el : l = m
        · exact Or.inr el
        · exact Or.inl ⟨by omega, b⟩
    · rw [iT_F e, q_or0, ih]
      constructor
      · rintro ⟨a, b⟩; exact ⟨by omega, b⟩
      · rintro ⟨a, b⟩
        refine ⟨?_, b⟩
        by_cases el : l = m
        · rw [el] at b; exact absurd b e
        · omega
/-- fields P of the streets as told -/
noncomputable def seI (T : CT) (P : Nat → Prop) (N : Nat) (v : Nat → Nat → Int32) : CT := ((fun F j => iT (P F ∧ j < N) (v F j) (tI T F j)), tJ T, tP T, tN T, tR T, tA T, tB T)
section C
variable {ad : Nat → Nat → Nat} {S : PT} {T : CT} {σ : SG} {n len : Nat → Nat} {μ : MU} {pl : Nat → Nat} {B E : Nat}
theorem seI_T {P : Nat → Prop} {N : Nat} {v : Nat → Nat → Int32} {F j : Nat} (h : P F) (hj : j < N) : tI (seI T P N v) F j = v F j := iT_T ⟨h, hj⟩
theorem seI_F {P : Nat → Prop} {N : Nat} {v : Nat → Nat → Int32} {F : Nat} (h : ¬ P F) : tI (seI T P N v) F = tI T F := by
  funext j; exact iT_F (fun z => h z.1)
theorem seI_S {P : Nat → Prop} {N : Nat} {v : Nat → Nat → Int32} : S5 P T (seI T P N v) := ⟨fun _ h => seI_F h, rfl, rfl, rfl, rfl, rfl, rfl⟩
theorem RC_se {P : Nat → Prop} {v : Nat → Nat → Int32} {T' : CT} (R : RC ad (VC n len) S T') (L : S5 P T T') (hP : ∀ F, P F → F / 100 = 5) (hv : ∀ F j, P F → j < n 5 → tI T' F j = v F j) : RC ad (VC n len) S (seI T P (n 5) v) := by
  obtain ⟨r1, r2, r3, r4, r5, r6, r7⟩ := R
  obtain ⟨l1, l2, l3, l4, l5, l6, l7⟩ := L
  refine ⟨r1, r2, fun k s i hk h11 hs => ⟨?_, ?_⟩, fun i hi => ?_, fun k i hk h12 => ?_, fun i hi => ?_, fun i hi => ?_⟩
  · rw [(r3 k s i hk h11 hs).1]
    by_cases e : P (100 * k + s)
    · have h5 := hP _ e
      have k5 : k = 5 := by omega
      subst k5
      rw [seI_T e hk, hv _ _ e hk]
    · rw [seI_F e, l1 _ e]
  · rw [(r3 k s i hk h11 hs).2, l2]; rfl
  · rw [r4 i hi, l5]; rfl
  · have := r5 k i hk h12
    rw [l3, l4] at this
    exact this
  · have := r6 i hi
    rw [l6] at this
    exact this
  · have := r7 i hi
    rw [l7] at this
    exact this
theorem g_take (G : GI T σ μ n pl B E) : ∃ T4, S5 (fun F => F = 509) T T4 ∧ TK T4 σ n ∧ ∀ (ad : Nat → Nat → Nat) (S : PT) (post : PT → Prop), RC ad (VC n (z_len σ)) S T → (∀ S', RC ad (VC n (z_len σ)) S' T4 → post S') → w_X8_takeStreets (ad 9 0) S post := by
  have h24 : n 8 ≤ 24 := G.1.1.2.2.2.2.2.1
  refine ⟨seI T (fun F => F = 509) (n 5) (fun _ j => z_srch (fun l => σ 25 l = nI j ∧ z_takes σ l) (n 8)), seI_S, fun j hj l => ?_, ?_⟩
  · rw [seI_T (P := fun F => F = 509) rfl hj, bit_srch _ _ (by omega)]
  · intro ad S post R h
    refine k_takeStreets G R (fun S' T'' R' L K => h S' (RC_se R' L (fun F hF => by rw [hF]) (fun F j hF hj => ?_)))
    rw [hF]
    refine bit_ext (fun l => ?_)
    rw [K j hj l, bit_srch _ _ (by omega)]
theorem g_move (G : GI T σ μ n pl B E) (K : TK T σ n) : ∃ T5, SW T T5 ∧ tN T5 = tN T ∧ GI T5 (z_waits σ (n 5) (n 8)) μ n pl B E ∧ ∀ (ad : Nat → Nat → Nat) (S : PT) (post : PT → Prop), RC ad (VC n (z_len σ)) S T → (∀ S', RC ad (VC n (z_len σ)) S' T5 → post S') → w_X8_moveQueues (ad 9 0) S post := by
  have e0 : ∀ f, ¬ f = 11 → z_w0 σ (n 5) f = σ f := fun f a => by funext j; exact z_w0_f _ _ a _
  have e1 : ∀ f, ¬ f = 11 → z_w1 (z_w0 σ (n 5)) (n 8) (n 5) f = σ f := fun f a => by funext j; rw [z_w1_f _ _ _ a, e0 f a]
  have ew : ∀ f, ¬ (f = 10 ∨ f = 11) → z_waits σ (n 5) (n 8) f = σ f := fun f hf => by
    funext j
    unfold z_waits
    rw [z_w2_f _ _ _ (by omega), e1 f (by omega)]
  refine ⟨seI T (fun F => F = 510 ∨ F = 511) (n 5) (fun F j => if F = 510 then 0 else z_waits σ (n 5) (n 8) 10 j), ⟨rfl, rfl⟩, rfl, ?_, ?_⟩
  · refine gp_q G seI_S ew (z_w2_B (z_w1_B (z_w0_B G.1.2.2.2.2.2.2.2 (n 5)) (n 8) (n 5)) (n 8) (n 5)) (fun j hj => ?_) (fun j hj => ?_) (fun j hj => ?_)
    · rw [seI_T (P := fun F => F = 510 ∨ F = 511) (Or.inl rfl) hj, if_pos rfl]
    · rw [seI_T (P := fun F => F = 510 ∨ F = 511) (Or.inr rfl) hj, if_neg (by decide)]
    · unfold z_waits
      rw [z_w2_10 _ _ _ _ hj, e1 10 (by decide)]
  · intro ad S post R h
    refine k_moveQueues G K R (fun S' T' R' L G' => h S' (RC_se R' L (fun F hF => by omega) (fun F j hF hj => ?_)))
    have D := G'.1.2.2.1 j hj
    rcases hF with e | e
    · rw [e, if_pos rfl]; exact D.2.2.2.2.2.2.2.2.1
    · rw [e, if_neg (by decide)]; exact D.2.2.2.2.2.2.2.2.2.1
theorem z_len_ends (x : AS) (a b : Nat) : z_len (z_ends x a b).1 = z_len x.1 := z_len_c (fun j => z_ends_f x a b j (by decide) (by decide))
/-- takers, rents, queues -/
theorem g_b28 (G : GI T σ μ n pl B E) {b : Nat} (hbz : z_busy σ → b = 48) (hB : B + 48 ≤ 262144) : ∃ T', GI T' (z_ends (σ, μ) (n 5) (n 8)).1 (z_ends (σ, μ) (n 5) (n 8)).2 n pl (B + b) E ∧ SW T T' ∧ tN T 12 0 ≤ tN T' 12 0 ∧
    ∀ (ad : Nat → Nat → Nat) (S : PT) (mc ms c0 n0 : Nat) (post : PT → Prop), RC ad (VC n (z_len σ)) S T → c0 + (tN T' 12 0 - tN T 12 0) ≤ mc → n0 + 2 * (tN T' 12 0 - tN T 12 0) ≤ ms →
    (∀ ad' S', RC ad' (VC n (z_len σ)) S' T' → (∀ l j, l ≠ 12 → ad' l j = ad l j) → post S') → w_X8_goOneHour_b28 (ad 9 0) mc ms post c0 n0 S := by
  obtain ⟨T4, L4, K4, c4⟩ := g_take G
  have G4 := gp_509 G L4
  unfold z_ends
  by_cases hb : z_busy σ
  · obtain ⟨T5, G5, K5, sw5, cap5, c5⟩ := g_charge_l (l0 := z_len σ) (μ0 := μ) rfl 24 0 T4 μ B rfl G4 K4 (by omega) (by rw [Nat.zero_min]; rfl)
    obtain ⟨T6, sw6, n6, G6, c6⟩ := g_move G5 K5
    have e4 : tN T4 12 0 = tN T 12 0 := by rw [L4.2.2.1]
    have e6 : tN T6 12 0 = tN T5 12 0 := by rw [n6]
    rw [iT_T hb, hbz hb]
    refine ⟨T6, G6, SW_t (S5_W L4) (SW_t sw5 sw6), by omega, ?_⟩
    intro ad S mc ms c0 n0 post R hc hn h
    unfold w_X8_goOneHour_b28 w_X8_goOneHour_b43
    refine ⟨by omega, by omega, (RC_o9 R VC_9).1, c4 ad S _ R (fun S1 R1 => ⟨(RC_o9 R1 VC_9).1, ?_⟩)⟩
    rw [k_isBusy R1 G4.1, bI_0]
    refine ⟨fun hn => absurd hb hn, fun _ => ⟨(RC_o9 R1 VC_9).1, tN T5 12 0 - tN T4 12 0, 2 * (tN T5 12 0 - tN T4 12 0), by omega, by omega, ?_⟩⟩
    unfold w_X8_chargeTakers
    refine ⟨25, c5 ad S1 _ _ 0 0 _ R1 (by omega) (by omega) (fun ad2 S2 R2 e2 => ⟨by omega, by omega, ?_⟩)⟩
    rw [← e2 9 0 (by decide)]
    exact ⟨(RC_o9 R2 VC_9).1, c6 ad2 S2 _ R2 (fun S3 R3 => h ad2 S3 R3 e2)⟩
  · obtain ⟨T6, sw6, n6, G6, c6⟩ := g_move G4 K4
    have e4 : tN T4 12 0 = tN T 12 0 := by rw [L4.2.2.1]
    have e6 : tN T6 12 0 = tN T4 12 0 := by rw [n6]
    rw [iT_F hb]
    refine ⟨T6, GI_up (by omega) (Nat.le_refl _) G6, SW_t (S5_W L4) sw6, by omega, ?_⟩
    intro ad S mc ms c0 n0 post R hc hn h
    unfold w_X8_goOneHour_b28 w_X8_goOneHour_b43
    refine ⟨by omega, by omega, (RC_o9 R VC_9).1, c4 ad S _ R (fun S1 R1 => ⟨(RC_o9 R1 VC_9).1, ?_⟩)⟩
    rw [k_isBusy R1 G4.1, bI_0]
    exact ⟨fun _ => ⟨by omega, by omega, (RC_o9 R1 VC_9).1, c6 ad S1 _ R1 (fun S3 R3 => h ad S3 R3 (fun _ _ _ => rfl))⟩, fun hn => absurd hb hn⟩
def cb (r : Nat) : Nat := if r < 7 then 0 else if r < 16 then min (r - 6) 3 else min (r - 12) 6
def pot (h : Nat) : Nat := 336 * (h / 24) + 48 * cb (h % 24)
theorem pot_day (h : Nat) (hd : (h + 1) % 24 = 0) : pot h + 48 = pot (h + 1) := by
  unfold pot
  have e1 : (h + 1) / 24 = h / 24 + 1 := by omega
  have e2 : h % 24 = 23 := by omega
  rw [hd, e1, e2, show cb 23 = 6 from by decide, show cb 0 = 0 from by decide]
  omega
theorem cb_s : ∀ r : Nat, r < 23 → cb r + (if (7 ≤ r + 1 ∧ r + 1 ≤ 9) ∨ (16 ≤ r + 1 ∧ r + 1 ≤ 18) then 1 else 0) = cb (r + 1) := by decide
theorem pot_hour (h : Nat) (hd : ¬ (h + 1) % 24 = 0) : pot h + (if (7 ≤ (h + 1) % 24 ∧ (h + 1) % 24 ≤ 9) ∨ (16 ≤ (h + 1) % 24 ∧ (h + 1) % 24 ≤ 18) then 48 else 0) = pot (h + 1) := by
  have e1 : (h + 1) / 24 = h / 24 := by omega
  have e2 : (h + 1) % 24 = h % 24 + 1 := by omega
  have := cb_s (h % 24) (by omega)
  unfold pot
  rw [e1, e2, ← this]
  split <;> omega
theorem pot_le (h : Nat) (hh : h ≤ 9999) : pot h ≤ 140000 := by
  have : ∀ r : Nat, r < 24 → cb r ≤ 6 := by decide
  have := this (h % 24) (by omega)
  have e : pot h = 336 * (h / 24) + 48 * cb (h % 24) := rfl
  by_cases hd : h / 24 = 416
  · have hr : h % 24 ≤ 15 := by omega
    have c15 : ∀ r : Nat, r ≤ 15 → cb r ≤ 3 := by decide
    have := c15 _ hr
    rw [e, hd]; omega
  · have : h / 24 ≤ 415 := by omega
    rw [e]; omega
theorem hour_n (Hb : IB σ) : ∃ h : Nat, h ≤ 9999 ∧ σ 0 0 = nI h ∧ (σ 0 0).toInt.toNat = h := by
  obtain ⟨h, eh, hh, hh2⟩ := IB_nI Hb 0 0 rfl
  have : (h : Int) ≤ 9999 := hh
  exact ⟨h, by omega, eh, by rw [eh, nI_toInt hh2]; omega⟩
theorem mod24 (h : Nat) (hh : h < 100000) : nI h - nI h / 24 * 24 = nI (h % 24) := by
  have t : (nI h / 24).toInt = (h / 24 : Nat) := by
    rw [tdiv (by rw [nI_toInt (by omega)]; omega) (by decide), nI_toInt (by omega), show (24 : Int32).toInt = 24 from by decide]; omega
  rw [ieq, tsub, tmul, t, nI_toInt (by omega), nI_toInt (by omega), show (24 : Int32).toInt = 24 from by decide]
  omega
theorem g_hour {h K : Nat} (H : GI T σ μ n pl (pot h + K) E) (e0 : σ 0 0 = nI h) (hh : h < 9999) (hK : pot (h + 1) + K ≤ 262000) : ∃ T', GI T' (z_hour (σ, μ) (n 5) (n 8)).1 (z_hour (σ, μ) (n 5) (n 8)).2 n pl (pot (h + 1) + K) E ∧ SW T T' ∧
    PMe n (z_len σ) T T' (fun ad S mc ms post => w_X8_goOneHour (ad 9 0) S mc ms post) := by
  have G1 := g_tick H (by rw [e0, nI_toInt (by omega)]; omega)
  have es1 : σ 0 0 + 1 = nI (h + 1) := by rw [e0, qn_s]
  rw [es1] at G1
  have hl1 : z_len (up2 σ 0 0 (nI (h + 1))) = z_len σ := z_len_c (fun j => by rw [up2_f _ _ _ _ (by decide)])
  have m24 := mod24 (h + 1) (by omega)
  have z24 : (nI ((h + 1) % 24) = 0) ↔ (h + 1) % 24 = 0 := by rw [show (0 : Int32) = nI 0 from rfl, qn_eq (by omega) (by omega)]
  unfold z_hour
  rw [show (σ, μ).1 = σ from rfl, show (σ, μ).2 = μ from rfl, es1, m24]
  have start : ∀ (ad : Nat → Nat → Nat) (S : PT) (mc ms : Nat) (post : PT → Prop), RC ad (VC n (z_len σ)) S T → (∀ S1, RC ad (VC n (z_len σ)) S1 (uI T 909 0 (nI (h + 1))) → (¬ (h + 1) % 24 = 0 → w_X8_goOneHour_b28 (ad 9 0) mc ms post 0 0 S1) ∧ ((h + 1) % 24 = 0 → ∃ m23 m24, 0 + m23 ≤ mc ∧ 0 + m24 ≤ ms ∧ w_X8_settleAsked (ad 9 0) S1 m23 m24 (fun S21 => gK S21 (ad 9 0) = 9 ∧ ∃ m30 m31, (0 + m23) + m30 ≤ mc ∧ (0 + m24) + m31 ≤ ms ∧ w_X8_fineLate (ad 9 0) S21 m30 m31 (fun S28 => w_X8_goOneHour_b28 (ad 9 0) mc ms post ((0 + m23) + m30) ((0 + m24) + m31) S28)))) → w_X8_goOneHour (ad 9 0) S mc ms post := by
    intro ad S mc ms post R c
    unfold w_X8_goOneHour
    have o9 := RC_o9 R (VC_9 (n := n) (len := z_len σ))
    refine ⟨o9.1, ?_⟩
    rw [o9.2.2.2.2.2.2.2.2.2.2, H.1.2.1.2.2.2.1, es1]
    refine RC_uI R VC_9 9 rfl (by decide) (by decide) (fun S1 R1 => ?_)
    have g909 : gI S1 909 (ad 9 0) = nI (h + 1) := by rw [(RC_o9 R1 VC_9).2.2.2.2.2.2.2.2.2.2, tI_s]
    rw [g909, m24, propext z24]
    exact c S1 R1
  by_cases hd : (h + 1) % 24 = 0
  · rw [iT_T (z24.mpr hd)]
    unfold z_late
    have hp := pot_day h hd
    obtain ⟨T2, G2, sw2, cap2, c2⟩ := g_settle_l (l0 := z_len σ) (x0 := (up2 σ 0 0 (nI (h + 1)), μ)) 24 0 _ (up2 σ 0 0 (nI (h + 1)), μ) (pot h + K) rfl hl1 G1 (by omega) (by rw [Nat.zero_min]; rfl)
    have hl2 : z_len (z_set (up2 σ 0 0 (nI (h + 1)), μ) (n 8) (n 8)).1 = z_len σ := by
      rw [← hl1]; exact z_len_c (fun j => z_set_f _ _ _ (by decide) (by decide) _)
    obtain ⟨T3, G3, sw3, cap3, c3⟩ := g_fine_l (l0 := z_len σ) (μ0 := (z_set (up2 σ 0 0 (nI (h + 1)), μ) (n 8) (n 8)).2) hl2 24 0 T2 _ (pot h + K + 24) rfl G2 (by omega) (by rw [Nat.zero_min]; rfl)
    have e00 : (z_set (up2 σ 0 0 (nI (h + 1)), μ) (n 8) (n 8)).1 0 0 = nI (h + 1) := by
      rw [z_set_f _ _ _ (by decide) (by decide)]
      show up2 σ 0 0 (nI (h + 1)) 0 0 = _
      exact up2_s _ _ _ _
    have nb : ¬ z_busy (z_set (up2 σ 0 0 (nI (h + 1)), μ) (n 8) (n 8)).1 := by
      unfold z_busy
      rw [e00, m24, hd]
      rintro (z | z)
      · exact absurd z.1 (by decide)
      · exact absurd z.1 (by decide)
    obtain ⟨T4, G4, sw4, cap4, c4⟩ := g_b28 (b := 0) G3 (fun z => absurd z nb) (by omega)
    rw [hl2] at c4
    have ecap : tN (uI T 909 0 (nI (h + 1))) 12 0 = tN T 12 0 := rfl
    refine ⟨T4, GI_up (by omega) (Nat.le_refl _) G4, ⟨sw4.1.trans (sw3.1.trans sw2.1), sw4.2.trans (sw3.2.trans sw2.2)⟩, by omega, ?_⟩
    intro ad S mc ms post R hmc hms hpost
    refine start ad S mc ms post R (fun S1 R1 => ⟨fun hn => absurd hd hn, fun _ => ⟨tN T2 12 0 - tN T 12 0, 2 * (tN T2 12 0 - tN T 12 0), by omega, by omega, ?_⟩⟩)
    unfold w_X8_settleAsked
    refine ⟨25, c2 ad S1 _ _ 0 0 _ R1 (by omega) (by omega) (fun ad2 S2 R2 e2 => ?_)⟩
    rw [← e2 9 0 (by decide)]
    refine ⟨(RC_o9 R2 VC_9).1, tN T3 12 0 - tN T2 12 0, 2 * (tN T3 12 0 - tN T2 12 0), by omega, by omega, ?_⟩
    unfold w_X8_fineLate
    refine ⟨25, c3 ad2 S2 _ _ 0 0 _ R2 (by omega) (by omega) (fun ad3 S3 R3 e3 => ?_)⟩
    rw [← e3 9 0 (by decide)]
    exact c4 ad3 S3 mc ms _ _ post R3 (by omega) (by omega) (fun ad' S' R' e' => hpost ad' S' R' (fun k i hk => ((e' k i hk).trans (e3 k i hk)).trans (e2 k i hk)))
  · rw [iT_F (fun z => hd (z24.mp z))]
    have hp := pot_hour h hd
    have hbz : z_busy (up2 σ 0 0 (nI (h + 1))) → (if (7 ≤ (h + 1) % 24 ∧ (h + 1) % 24 ≤ 9) ∨ (16 ≤ (h + 1) % 24 ∧ (h + 1) % 24 ≤ 18) then 48 else 0) = 48 := by
      unfold z_busy
      rw [up2_s, m24]
      intro z
      refine if_pos ?_
      rw [show (7 : Int32) = nI 7 from rfl, show (9 : Int32) = nI 9 from rfl, show (16 : Int32) = nI 16 from rfl, show (18 : Int32) = nI 18 from rfl, qn_le (by omega) (by omega), qn_le (by omega) (by omega), qn_le (by omega) (by omega), qn_le (by omega) (by omega)] at z
      exact z
    obtain ⟨T4, G4, sw4, cap4, c4⟩ := g_b28 G1 hbz (by
      have : pot h ≤ pot (h + 1) := by omega
      omega)
    rw [hl1] at c4
    have ecap : tN (uI T 909 0 (nI (h + 1))) 12 0 = tN T 12 0 := rfl
    refine ⟨T4, GI_up (by omega) (Nat.le_refl _) G4, ⟨sw4.1, sw4.2⟩, by omega, ?_⟩
    intro ad S mc ms post R hmc hms hpost
    exact start ad S mc ms post R (fun S1 R1 => ⟨fun _ => c4 ad S1 mc ms 0 0 post R1 (by omega) (by omega) hpost, fun z => absurd z hd⟩)
end C
