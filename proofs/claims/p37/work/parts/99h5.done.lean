/-! what works do: all of it -/
section DNI
variable {u9 v9 e0 m0 x o m s w : Nat} {S M : PT} {σ σ' : SG} {μ μ' : MU} {C cap t : Nat} {n : Nat → Nat} {h : Nat}
theorem pick_l (L : LW u9 v9 e0 x m s w S M σ μ C cap t) (H : ST e0 x o S σ μ C cap) (F : SF σ n h) (hC : C < 512) (G X : Int32) : ∀ rem v k, v + rem = n 8 → k < n 8 → ∃ kf, kf < n 8 ∧ ∀ {mc ms c0 n0 : Nat} {post : Int32 → PT → Prop}, c0 + rem ≤ mc → n0 + 6 * rem ≤ ms → (∀ c1 n1, c1 ≤ c0 + rem → n1 ≤ n0 + 6 * rem → w_L_isDone_b51 e0 m0 (some x) (some m) (some w) G X mc ms post c1 n1 (ov S M) (nI kf)) → w_L_isDone_l11 e0 m0 (some x) (some m) (some w) G X mc ms post (rem + 1) c0 n0 (ov S M) (nI k) (nI v) := by
  have hd := L.2.1
  have h8 : n 8 ≤ 24 := F.1.2.2.2.2.2.1
  obtain ⟨⟨km, nm, am⟩, -, -⟩ := LW_rows L F
  obtain ⟨A0, A1, A2, A3⟩ := LW_n L F
  have v3m : vp_in 3 (gN (ov S M) m) := by rw [nm]; exact vin_nI (k := 3) (by omega) (by omega)
  intro rem
  induction rem with
  | zero =>
    intro v k hv hk
    refine ⟨k, hk, fun {mc ms c0 n0 post} h1 h2 hb => ⟨by omega, by omega, m, rfl, km, v3m, ?_⟩⟩
    rw [cl_3, am, A3, qn_le (by omega) (by omega)]
    exact ⟨fun _ => hb _ _ (by omega) (by omega), fun z => absurd (by omega) z⟩
  | succ rem ih =>
    intro v k hv hk
    have qk : (nI k).toNatClampNeg = k := qn_nat (by omega)
    have ne8 : ¬ nI (n 8) = 0 := by rw [ieq, nI_toInt (by omega), I0]; omega
    by_cases hG : G ≤ 5 ∨ σ 33 k = 3
    · refine ⟨k, hk, fun {mc ms c0 n0 post} h1 h2 hb => ⟨by omega, by omega, m, rfl, km, v3m, ?_⟩⟩
      rw [cl_3, am, A3, qn_le (by omega) (by omega)]
      refine ⟨fun _ => hb _ _ (by omega) (by omega), fun _ => ⟨fun _ => hb _ _ (by omega) (by omega), fun z5 => ⟨S, M, rfl, hd, x, rfl, ST_K H, 1, 6, by omega, by omega, ?_⟩⟩⟩
      refine s_of H hC _ _ 1 6 _ _ (Nat.le_refl _) (Nat.le_refl _) (fun hq => absurd (q_of_0 F hk ⟨by decide, by decide⟩) hq) (fun _ _ => ?_)
      rw [wh_0, qk]
      exact ⟨fun _ => hb _ _ (by omega) (by omega), fun z => absurd (hG.elim (fun z2 => absurd z2 z5) id) z⟩
    · obtain ⟨kf, hkf, K⟩ := ih (v + 1) ((k + 1) % n 8) (by omega) (Nat.mod_lt _ (by omega))
      refine ⟨kf, hkf, fun {mc ms c0 n0 post} h1 h2 hb => ⟨by omega, by omega, m, rfl, km, v3m, ?_⟩⟩
      rw [cl_3, am, A3, qn_le (by omega) (by omega)]
      refine ⟨fun z => absurd z (by omega), fun _ => ⟨fun z => absurd (Or.inl z) hG, fun z5 => ⟨S, M, rfl, hd, x, rfl, ST_K H, 1, 6, by omega, by omega, ?_⟩⟩⟩
      refine s_of H hC _ _ 1 6 _ _ (Nat.le_refl _) (Nat.le_refl _) (fun hq => absurd (q_of_0 F hk ⟨by decide, by decide⟩) hq) (fun _ _ => ?_)
      rw [wh_0, qk]
      refine ⟨fun z => absurd (Or.inr z) hG, fun _ => ⟨km, v3m, ?_⟩⟩
      rw [am, A3]
      refine ⟨ne8, ?_⟩
      rw [qn_s, qn_s, irem_nI (by omega) (by omega) (by omega)]
      exact K (by omega) (by omega) (fun c1 n1 g1 g2 => hb c1 n1 (by omega) (by omega))
theorem pick_ok (L : LW u9 v9 e0 x m s w S M σ μ C cap t) (H : ST e0 x o S σ μ C cap) (F : SF σ n h) (hC : C < 512) (G : Int32) {X : Nat} (hX : X < 2147483648) (h0 : 0 < n 8) : ∃ kf, kf < n 8 ∧ ∀ {mc ms : Nat} {post : Int32 → PT → Prop}, 24 ≤ mc → 144 ≤ ms → (∀ c1 n1, c1 ≤ 24 → n1 ≤ 144 → w_L_isDone_b51 e0 m0 (some x) (some m) (some w) G (nI X) mc ms post c1 n1 (ov S M) (nI kf)) → w_L_isDone e0 m0 (some x) (some m) (some w) G (nI X) (ov S M) mc ms post := by
  have h8 : n 8 ≤ 24 := F.1.2.2.2.2.2.1
  obtain ⟨⟨km, nm, am⟩, -, -⟩ := LW_rows L F
  obtain ⟨A0, A1, A2, A3⟩ := LW_n L F
  have v3m : vp_in 3 (gN (ov S M) m) := by rw [nm]; exact vin_nI (k := 3) (by omega) (by omega)
  have ne8 : ¬ nI (n 8) = 0 := by rw [ieq, nI_toInt (by omega), I0]; omega
  obtain ⟨kf, hkf, K⟩ := pick_l (e0 := e0) (m0 := m0) L H F hC G (nI X) (n 8) 0 (X % n 8) (by omega) (Nat.mod_lt _ h0)
  refine ⟨kf, hkf, fun {mc ms post} h1 h2 hb => ?_⟩
  unfold w_L_isDone
  refine ⟨m, rfl, km, v3m, ?_⟩
  rw [cl_3, am, A3, irem_nI hX h0 (by omega)]
  exact ⟨ne8, n 8 + 1, K (by omega) (by omega) (fun c1 n1 g1 g2 => hb c1 n1 (by omega) (by omega))⟩
theorem doneA (L : LW u9 v9 e0 x m s w S M σ μ C cap t) (H : ST e0 x o S σ μ C cap) (F : SF σ n h) (ht : t ≤ 140) {k X : Nat} (hk : k < n 8) (hX : X < 2147483648) {G : Nat} (hG : G < 16) : ∃ cap', cap ≤ cap' ∧ cap' ≤ 262144 ∧ ∀ {mc ms c0 n0 : Nat} {post : Int32 → PT → Prop}, c0 + 200 + (cap' - cap) ≤ mc → n0 + 9000 + 2 * (cap' - cap) ≤ ms → (∀ S' M' σ' μ' C', LW u9 v9 e0 x m s w S' M' σ' μ' C' cap' (t + 1) → post 1 (ov S' M')) → w_L_isDone_b51 e0 m0 (some x) (some m) (some w) (nI G) (nI X) mc ms post c0 n0 (ov S M) (nI k) := by
  have hcap := L.2.2.2.2.2.2
  rcases (show G = 0 ∨ G = 1 ∨ G = 2 ∨ G = 3 ∨ G = 4 ∨ G = 5 ∨ G = 6 ∨ G = 7 ∨ G = 8 ∨ G = 9 ∨ G = 10 ∨ G = 11 ∨ G = 12 ∨ G = 13 ∨ G = 14 ∨ G = 15 by omega) with e | e | e | e | e | e | e | e | e | e | e | e | e | e | e | e <;> rw [e]
  · exact done_grant L H F ht hk hX
  · exact ⟨cap, Nat.le_refl _, hcap, fun {mc ms c0 n0 post} h1 h2 kk => done_refuse L H F ht hk hX (by omega) (by omega) kk⟩
  · exact ⟨cap, Nat.le_refl _, hcap, fun {mc ms c0 n0 post} h1 h2 kk => done_vary L H F ht hk hX (by omega) (by omega) kk⟩
  · exact ⟨cap, Nat.le_refl _, hcap, fun {mc ms c0 n0 post} h1 h2 kk => done_exempt L H F ht hk hX (by omega) (by omega) kk⟩
  · exact ⟨cap, Nat.le_refl _, hcap, fun {mc ms c0 n0 post} h1 h2 kk => done_agree L H F ht hk hX (by omega) (by omega) kk⟩
  · exact ⟨cap, Nat.le_refl _, hcap, fun {mc ms c0 n0 post} h1 h2 kk => done_start L H F ht hk hX (by omega) (by omega) kk⟩
  · exact done_open L H F ht hk hX (Or.inl rfl)
  · exact done_open L H F ht hk hX (Or.inr (Or.inl rfl))
  · exact done_open L H F ht hk hX (Or.inr (Or.inr (Or.inl rfl)))
  · exact done_open L H F ht hk hX (Or.inr (Or.inr (Or.inr rfl)))
  · exact ⟨cap, Nat.le_refl _, hcap, fun {mc ms c0 n0 post} h1 h2 kk => done_fill L H F ht hk hX (Or.inl rfl) (by omega) (by omega) kk⟩
  · exact ⟨cap, Nat.le_refl _, hcap, fun {mc ms c0 n0 post} h1 h2 kk => done_fill L H F ht hk hX (Or.inr (Or.inl rfl)) (by omega) (by omega) kk⟩
  · exact ⟨cap, Nat.le_refl _, hcap, fun {mc ms c0 n0 post} h1 h2 kk => done_fill L H F ht hk hX (Or.inr (Or.inr rfl)) (by omega) (by omega) kk⟩
  · exact ⟨cap, Nat.le_refl _, hcap, fun {mc ms c0 n0 post} h1 h2 kk => done_plate L H F ht hk hX (by omega) (by omega) kk⟩
  · exact ⟨cap, Nat.le_refl _, hcap, fun {mc ms c0 n0 post} h1 h2 kk => done_extend L H F ht hk hX (by omega) (by omega) kk⟩
  · exact ⟨cap, Nat.le_refl _, hcap, fun {mc ms c0 n0 post} h1 h2 kk => done_stop L H F ht hk hX (by omega) (by omega) kk⟩
/-- isDone -/
theorem done_ok (L : LW u9 v9 e0 x m s w S M σ μ C cap t) (ht : t ≤ 140) {X : Nat} (hX : X < 2147483648) (h0 : 0 < (σ 23 0).toNatClampNeg) {G : Nat} (hG : G < 16) : ∃ cap', cap ≤ cap' ∧ cap' ≤ 262144 ∧ ∀ {mc ms : Nat} {post : Int32 → PT → Prop}, 300 + (cap' - cap) ≤ mc → 10000 + 2 * (cap' - cap) ≤ ms → (∀ S' M' σ' μ' C', LW u9 v9 e0 x m s w S' M' σ' μ' C' cap' (t + 1) → post 1 (ov S' M')) → w_L_isDone e0 m0 (some x) (some m) (some w) (nI G) (nI X) (ov S M) mc ms post := by
  obtain ⟨o, H⟩ := L.1
  obtain ⟨n, h, F, -⟩ := ST_SF H
  have hC : C < 512 := by have := L.2.2.2.2.2.1; omega
  rw [N8 F] at h0
  obtain ⟨kf, hk, K⟩ := pick_ok (e0 := e0) (m0 := m0) L H F hC (nI G) hX h0
  obtain ⟨cap', c1, c2, D⟩ := doneA (e0 := e0) (m0 := m0) L H F ht hk hX hG
  exact ⟨cap', c1, c2, fun {mc ms post} h1 h2 kk => K (by omega) (by omega) (fun c1 n1 g1 g2 => D (by omega) (by omega) kk)⟩
end DNI
