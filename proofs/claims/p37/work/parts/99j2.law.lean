/-! the law: what a turn does -/
section LAWT
variable {u9 v9 e0 m0 x m s w x0 L : Nat} {xs : Nat → Int32} {S M : PT} {σ : SG} {μ : MU} {C cap t G : Nat}
set_option maxRecDepth 100000 in
set_option maxHeartbeats 4000000 in
theorem turn_laid (W : LW u9 v9 e0 x m s w S M σ μ C cap t) (ht : t < 130) (hu : 1 ≤ t → 1 ≤ u9) (hv : 3 ≤ t → 1 ≤ v9) {X : Nat} (hX : X < 2147483648) (hG : G < 8) (hG2 : (G = 0 ∧ t < 3 - 1) ∨ 5 ≤ t) : ∃ cap', cap ≤ cap' ∧ cap' ≤ 262144 ∧ ∀ {mc ms : Nat} {post : Int32 → PT → Prop} {k57 : Nat → Nat → PT → Option Nat → Option Nat → Option Nat → Option Nat → Int32 → Int32 → Prop} {c1 n1 : Nat}, c1 + 940 + 14000 * rf t + (cap' - cap) ≤ mc → n1 + 14000 + 450000 * rf t + 2 * (cap' - cap) ≤ ms → (∀ S' M' σ' μ' C' u' v', LW u' v' e0 x m s w S' M' σ' μ' C' cap' (t + 1) → 1 ≤ u' → (3 ≤ t + 1 → 1 ≤ v') → ∀ c2 n2, c2 ≤ c1 + 940 + 14000 * rf t + (cap' - cap) → n2 ≤ n1 + 14000 + 450000 * rf t + 2 * (cap' - cap) → k57 c2 n2 (ov S' M') (some x) (some m) (some s) (some w) 1 (nI (t + 1))) → w_L_law_b104 e0 m0 L xs x0 mc ms post k57 c1 n1 (ov S M) (some x) (some m) (some s) (some w) (nI t) (nI X) (nI G) := by
  obtain ⟨o, H⟩ := W.1
  obtain ⟨n, h, F, -⟩ := ST_SF H
  have hC : C < 512 := by have := W.2.2.2.2.2.1; omega
  have hd := W.2.1
  have h5 : n 5 ≤ 6 := F.1.2.1
  have h9 := F.2.2.1
  have I := W.2.2.2.2.1
  have hcap := W.2.2.2.2.2.2
  have gr := W.2.2.2.2.2.1
  rw [N5 F, N8 F] at gr
  have h16 := W.2.2.2.1.2.2.2
  rw [N8 F] at h16
  obtain ⟨A0, A1, A2, A3⟩ := LW_n W F
  have AS := W.2.2.2.1.2.1
  rw [N5 F] at AS
  obtain ⟨⟨km, nm, am⟩, ⟨ks, ns, as9⟩, ⟨kw, nw, aw⟩⟩ := LW_rows W F
  have e46 : nI X / 46 = nI (X / 46) := idiv_nI (b := 46) hX (by omega) (by omega)
  have d8 : (8 : Int32) ≤ nI G ↔ 8 ≤ G := qn_le (a := 8) (by omega) (by omega)
  have d13 : (13 : Int32) ≤ nI G ↔ 13 ≤ G := qn_le (a := 13) (by omega) (by omega)
  have d21 : (21 : Int32) ≤ nI G ↔ 21 ≤ G := qn_le (a := 21) (by omega) (by omega)
  have d23 : (23 : Int32) ≤ nI G ↔ 23 ≤ G := qn_le (a := 23) (by omega) (by omega)
  have d25 : (25 : Int32) ≤ nI G ↔ 25 ≤ G := qn_le (a := 25) (by omega) (by omega)
  have v1m : vp_in 1 (gN (ov S M) m) := by rw [nm]; exact vin_nI (k := 1) (by omega) (by omega)
  have v3m : vp_in 3 (gN (ov S M) m) := by rw [nm]; exact vin_nI (k := 3) (by omega) (by omega)
  have hY46 : X / 46 < 2147483648 := by omega
  refine ⟨cap, Nat.le_refl _, hcap, fun {mc ms post k57 c1 n1} hc hn kk => ?_⟩
  have e6 : (6 : Int32) ≤ nI G ↔ 6 ≤ G := qn_le (a := 6) (by omega) (by omega)
  have e3 : (1 : Int32) + (nI G - nI G / 3 * 3) = nI (1 + G % 3) := by
    rw [show nI G - nI G / 3 * 3 = nI (G % 3) from irem_nI (b := 3) (by omega) (by omega) (by omega)]
    exact qn_add 1 _
  unfold w_L_law_b104
  rw [e3, e46]
  refine ⟨by omega, by omega, fun z => absurd (d8.mp z) (by omega), fun _ => ?_⟩
  have b141 : ∀ G2 : Nat, G2 < 6 → (G2 = 0 ∨ 5 ≤ t) → w_L_law_b141 e0 m0 L xs x0 mc ms post k57 c1 n1 (ov S M) (some x) (some m) (some s) (some w) (nI t) (nI X) (nI (X / 46)) (some x) (some m) (some s) (nI G2) := fun G2 h2 h3 => by
    unfold w_L_law_b141
    refine ⟨by omega, by omega, 300, 10000, by omega, by omega, ?_⟩
    by_cases z : G2 = 0
    · refine laid_ok W (by omega) h2 hY46 (Or.inl z) (Nat.le_refl _) (Nat.le_refl _) (a9 := 1) (Or.inr ⟨z, rfl⟩) (fun S' M' σ' μ' C' W' => ?_)
      exact tail_ok W' ht hX hY46 (by omega) (by omega) (fun c2 n2 g1 g2 => kk S' M' σ' μ' C' _ _ W' (by omega) (fun z3 => hv (by omega)) c2 n2 (by omega) (by omega))
    · have p5 : 0 < n 5 := by have := hu (by omega); omega
      refine laid_ok W (by omega) h2 hY46 (Or.inr (by rw [N5 F]; exact p5)) (Nat.le_refl _) (Nat.le_refl _) (Or.inl (Nat.le_refl _)) (fun S' M' σ' μ' C' W' => ?_)
      exact tail_ok W' ht hX hY46 (by omega) (by omega) (fun c2 n2 g1 g2 => kk S' M' σ' μ' C' _ _ W' (hu (by omega)) (fun _ => hv (by omega)) c2 n2 (by omega) (by omega))
  exact ⟨fun z => b141 _ (by omega) (hG2.elim (fun z2 => absurd (e6.mp z) (by omega)) Or.inr), fun z => b141 G (Nat.lt_of_not_le (fun z2 => z (e6.mpr z2))) (hG2.imp (fun z => z.1) id)⟩
set_option maxRecDepth 100000 in
set_option maxHeartbeats 4000000 in
theorem turn_asked (W : LW u9 v9 e0 x m s w S M σ μ C cap t) (ht : t < 130) (hu : 1 ≤ t → 1 ≤ u9) (hv : 3 ≤ t → 1 ≤ v9) {X : Nat} (hX : X < 2147483648) (hG : 8 ≤ G) (hG1 : G < 13) (h2 : 2 ≤ t) : ∃ cap', cap ≤ cap' ∧ cap' ≤ 262144 ∧ ∀ {mc ms : Nat} {post : Int32 → PT → Prop} {k57 : Nat → Nat → PT → Option Nat → Option Nat → Option Nat → Option Nat → Int32 → Int32 → Prop} {c1 n1 : Nat}, c1 + 940 + 14000 * rf t + (cap' - cap) ≤ mc → n1 + 14000 + 450000 * rf t + 2 * (cap' - cap) ≤ ms → (∀ S' M' σ' μ' C' u' v', LW u' v' e0 x m s w S' M' σ' μ' C' cap' (t + 1) → 1 ≤ u' → (3 ≤ t + 1 → 1 ≤ v') → ∀ c2 n2, c2 ≤ c1 + 940 + 14000 * rf t + (cap' - cap) → n2 ≤ n1 + 14000 + 450000 * rf t + 2 * (cap' - cap) → k57 c2 n2 (ov S' M') (some x) (some m) (some s) (some w) 1 (nI (t + 1))) → w_L_law_b104 e0 m0 L xs x0 mc ms post k57 c1 n1 (ov S M) (some x) (some m) (some s) (some w) (nI t) (nI X) (nI G) := by
  obtain ⟨o, H⟩ := W.1
  obtain ⟨n, h, F, -⟩ := ST_SF H
  have hC : C < 512 := by have := W.2.2.2.2.2.1; omega
  have hd := W.2.1
  have h5 : n 5 ≤ 6 := F.1.2.1
  have h9 := F.2.2.1
  have I := W.2.2.2.2.1
  have hcap := W.2.2.2.2.2.2
  have gr := W.2.2.2.2.2.1
  rw [N5 F, N8 F] at gr
  have h16 := W.2.2.2.1.2.2.2
  rw [N8 F] at h16
  obtain ⟨A0, A1, A2, A3⟩ := LW_n W F
  have AS := W.2.2.2.1.2.1
  rw [N5 F] at AS
  obtain ⟨⟨km, nm, am⟩, ⟨ks, ns, as9⟩, ⟨kw, nw, aw⟩⟩ := LW_rows W F
  have e46 : nI X / 46 = nI (X / 46) := idiv_nI (b := 46) hX (by omega) (by omega)
  have d8 : (8 : Int32) ≤ nI G ↔ 8 ≤ G := qn_le (a := 8) (by omega) (by omega)
  have d13 : (13 : Int32) ≤ nI G ↔ 13 ≤ G := qn_le (a := 13) (by omega) (by omega)
  have d21 : (21 : Int32) ≤ nI G ↔ 21 ≤ G := qn_le (a := 21) (by omega) (by omega)
  have d23 : (23 : Int32) ≤ nI G ↔ 23 ≤ G := qn_le (a := 23) (by omega) (by omega)
  have d25 : (25 : Int32) ≤ nI G ↔ 25 ≤ G := qn_le (a := 25) (by omega) (by omega)
  have v1m : vp_in 1 (gN (ov S M) m) := by rw [nm]; exact vin_nI (k := 1) (by omega) (by omega)
  have v3m : vp_in 3 (gN (ov S M) m) := by rw [nm]; exact vin_nI (k := 3) (by omega) (by omega)
  have hY46 : X / 46 < 2147483648 := by omega
  refine ⟨cap, Nat.le_refl _, hcap, fun {mc ms post k57 c1 n1} hc hn kk => ?_⟩
  have p5 : 0 < n 5 := by have := hu (by omega); omega
  unfold w_L_law_b104
  rw [e46]
  refine ⟨by omega, by omega, fun _ => ⟨fun z => absurd (d13.mp z) (by omega), fun _ => ?_⟩, fun z => absurd (d8.mpr (by omega)) z⟩
  refine ⟨m, rfl, km, v3m, ?_⟩
  rw [cl_3, am, A3]
  have e16 : nI (n 8) = 16 ↔ n 8 = 16 := qn_eq (b := 16) (by omega) (by omega)
  have b179 : ∀ {S' M' : PT} {σ' : SG} {μ' : MU} {C' u' v' : Nat} {c2 n2 : Nat}, LW u' v' e0 x m s w S' M' σ' μ' C' cap (t + 1) → 1 ≤ u' → 1 ≤ v' → c2 ≤ c1 + 300 → n2 ≤ n1 + 10000 → w_L_law_b179 e0 m0 L xs x0 mc ms post k57 c2 n2 (ov S' M') (some x) (some m) (some s) (some w) (nI t) (nI X) (nI (X / 46)) := fun {S' M' σ' μ' C' u' v' c2 n2} W' hu' hv' g1 g2 => by
    unfold w_L_law_b179 w_L_law_b184
    exact ⟨by omega, by omega, by omega, by omega, tail_ok W' ht hX hY46 (by omega) (by omega) (fun c2 n2 g1 g2 => kk S' M' σ' μ' C' _ _ W' hu' (fun _ => hv') c2 n2 (by omega) (by omega))⟩
  refine ⟨fun z => b179 (LW_gr (LW_up W) (a9 := 1) (b9 := 1) (by rw [N5 F]; omega) (by rw [N8 F, e16.mp z]; omega)) (Nat.le_refl _) (Nat.le_refl _) (by omega) (by omega), fun z => ⟨300, 10000, by omega, by omega, ?_⟩⟩
  have z2 : ¬ n 8 = 16 := fun z2 => z (e16.mpr z2)
  exact asked_ok W (by omega) hY46 (by rw [N5 F]; exact p5) (by rw [N8 F]; omega) (Nat.le_refl _) (Nat.le_refl _) (b9 := 1) (by omega) (fun S' M' σ' μ' C' W' => ⟨fun z => absurd z (by decide), fun _ => b179 W' (hu (by omega)) (Nat.le_refl _) (by omega) (by omega)⟩)
set_option maxRecDepth 100000 in
set_option maxHeartbeats 4000000 in
theorem turn_passed (W : LW u9 v9 e0 x m s w S M σ μ C cap t) (ht : t < 130) (hu : 1 ≤ t → 1 ≤ u9) (hv : 3 ≤ t → 1 ≤ v9) {X : Nat} (hX : X < 2147483648) (hG : 13 ≤ G) (hG1 : G < 21) (h2 : 5 ≤ t) : ∃ cap', cap ≤ cap' ∧ cap' ≤ 262144 ∧ ∀ {mc ms : Nat} {post : Int32 → PT → Prop} {k57 : Nat → Nat → PT → Option Nat → Option Nat → Option Nat → Option Nat → Int32 → Int32 → Prop} {c1 n1 : Nat}, c1 + 940 + 14000 * rf t + (cap' - cap) ≤ mc → n1 + 14000 + 450000 * rf t + 2 * (cap' - cap) ≤ ms → (∀ S' M' σ' μ' C' u' v', LW u' v' e0 x m s w S' M' σ' μ' C' cap' (t + 1) → 1 ≤ u' → (3 ≤ t + 1 → 1 ≤ v') → ∀ c2 n2, c2 ≤ c1 + 940 + 14000 * rf t + (cap' - cap) → n2 ≤ n1 + 14000 + 450000 * rf t + 2 * (cap' - cap) → k57 c2 n2 (ov S' M') (some x) (some m) (some s) (some w) 1 (nI (t + 1))) → w_L_law_b104 e0 m0 L xs x0 mc ms post k57 c1 n1 (ov S M) (some x) (some m) (some s) (some w) (nI t) (nI X) (nI G) := by
  obtain ⟨o, H⟩ := W.1
  obtain ⟨n, h, F, -⟩ := ST_SF H
  have hC : C < 512 := by have := W.2.2.2.2.2.1; omega
  have hd := W.2.1
  have h5 : n 5 ≤ 6 := F.1.2.1
  have h9 := F.2.2.1
  have I := W.2.2.2.2.1
  have hcap := W.2.2.2.2.2.2
  have gr := W.2.2.2.2.2.1
  rw [N5 F, N8 F] at gr
  have h16 := W.2.2.2.1.2.2.2
  rw [N8 F] at h16
  obtain ⟨A0, A1, A2, A3⟩ := LW_n W F
  have AS := W.2.2.2.1.2.1
  rw [N5 F] at AS
  obtain ⟨⟨km, nm, am⟩, ⟨ks, ns, as9⟩, ⟨kw, nw, aw⟩⟩ := LW_rows W F
  have e46 : nI X / 46 = nI (X / 46) := idiv_nI (b := 46) hX (by omega) (by omega)
  have d8 : (8 : Int32) ≤ nI G ↔ 8 ≤ G := qn_le (a := 8) (by omega) (by omega)
  have d13 : (13 : Int32) ≤ nI G ↔ 13 ≤ G := qn_le (a := 13) (by omega) (by omega)
  have d21 : (21 : Int32) ≤ nI G ↔ 21 ≤ G := qn_le (a := 21) (by omega) (by omega)
  have d23 : (23 : Int32) ≤ nI G ↔ 23 ≤ G := qn_le (a := 23) (by omega) (by omega)
  have d25 : (25 : Int32) ≤ nI G ↔ 25 ≤ G := qn_le (a := 25) (by omega) (by omega)
  have v1m : vp_in 1 (gN (ov S M) m) := by rw [nm]; exact vin_nI (k := 1) (by omega) (by omega)
  have v3m : vp_in 3 (gN (ov S M) m) := by rw [nm]; exact vin_nI (k := 3) (by omega) (by omega)
  have hY46 : X / 46 < 2147483648 := by omega
  obtain ⟨cap', g1, g2, K⟩ := passed_ok (m0 := m0) W (by omega) hY46
  refine ⟨cap', g1, g2, fun {mc ms post k57 c1 n1} hc hn kk => ?_⟩
  unfold w_L_law_b104
  rw [e46]
  refine ⟨by omega, by omega, fun _ => ⟨fun _ => ⟨fun z => absurd (d21.mp z) (by omega), fun _ => ?_⟩, fun z => absurd (d13.mpr (by omega)) z⟩, fun z => absurd (d8.mpr (by omega)) z⟩
  refine ⟨300 + (cap' - cap), 10000 + 2 * (cap' - cap), by omega, by omega, K (Nat.le_refl _) (Nat.le_refl _) (fun S' M' σ' μ' C' W' => ?_)⟩
  exact tail_ok W' ht hX hY46 (by omega) (by omega) (fun c2 n2 g1 g2 => kk S' M' σ' μ' C' _ _ W' (hu (by omega)) (fun _ => hv (by omega)) c2 n2 (by omega) (by omega))
theorem mcap {a b c : Nat} (h : a ≤ b) : b - a + a = b := Nat.sub_add_cancel h
set_option maxRecDepth 100000 in
set_option maxHeartbeats 4000000 in
theorem turn_done (W : LW u9 v9 e0 x m s w S M σ μ C cap t) (ht : t < 130) (hu : 1 ≤ t → 1 ≤ u9) (hv : 3 ≤ t → 1 ≤ v9) {X : Nat} (hX : X < 2147483648) (hG : 25 ≤ G) (hG1 : G < 46) (h2 : 5 ≤ t) : ∃ cap', cap ≤ cap' ∧ cap' ≤ 262144 ∧ ∀ {mc ms : Nat} {post : Int32 → PT → Prop} {k57 : Nat → Nat → PT → Option Nat → Option Nat → Option Nat → Option Nat → Int32 → Int32 → Prop} {c1 n1 : Nat}, c1 + 940 + 14000 * rf t + (cap' - cap) ≤ mc → n1 + 14000 + 450000 * rf t + 2 * (cap' - cap) ≤ ms → (∀ S' M' σ' μ' C' u' v', LW u' v' e0 x m s w S' M' σ' μ' C' cap' (t + 1) → 1 ≤ u' → (3 ≤ t + 1 → 1 ≤ v') → ∀ c2 n2, c2 ≤ c1 + 940 + 14000 * rf t + (cap' - cap) → n2 ≤ n1 + 14000 + 450000 * rf t + 2 * (cap' - cap) → k57 c2 n2 (ov S' M') (some x) (some m) (some s) (some w) 1 (nI (t + 1))) → w_L_law_b104 e0 m0 L xs x0 mc ms post k57 c1 n1 (ov S M) (some x) (some m) (some s) (some w) (nI t) (nI X) (nI G) := by
  obtain ⟨o, H⟩ := W.1
  obtain ⟨n, h, F, -⟩ := ST_SF H
  have hC : C < 512 := by have := W.2.2.2.2.2.1; omega
  have hd := W.2.1
  have h5 : n 5 ≤ 6 := F.1.2.1
  have h9 := F.2.2.1
  have I := W.2.2.2.2.1
  have hcap := W.2.2.2.2.2.2
  have gr := W.2.2.2.2.2.1
  rw [N5 F, N8 F] at gr
  have h16 := W.2.2.2.1.2.2.2
  rw [N8 F] at h16
  obtain ⟨A0, A1, A2, A3⟩ := LW_n W F
  have AS := W.2.2.2.1.2.1
  rw [N5 F] at AS
  obtain ⟨⟨km, nm, am⟩, ⟨ks, ns, as9⟩, ⟨kw, nw, aw⟩⟩ := LW_rows W F
  have e46 : nI X / 46 = nI (X / 46) := idiv_nI (b := 46) hX (by omega) (by omega)
  have d8 : (8 : Int32) ≤ nI G ↔ 8 ≤ G := qn_le (a := 8) (by omega) (by omega)
  have d13 : (13 : Int32) ≤ nI G ↔ 13 ≤ G := qn_le (a := 13) (by omega) (by omega)
  have d21 : (21 : Int32) ≤ nI G ↔ 21 ≤ G := qn_le (a := 21) (by omega) (by omega)
  have d23 : (23 : Int32) ≤ nI G ↔ 23 ≤ G := qn_le (a := 23) (by omega) (by omega)
  have d25 : (25 : Int32) ≤ nI G ↔ 25 ≤ G := qn_le (a := 25) (by omega) (by omega)
  have v1m : vp_in 1 (gN (ov S M) m) := by rw [nm]; exact vin_nI (k := 1) (by omega) (by omega)
  have v3m : vp_in 3 (gN (ov S M) m) := by rw [nm]; exact vin_nI (k := 3) (by omega) (by omega)
  have hY46 : X / 46 < 2147483648 := by omega
  have p8 : 0 < n 8 := by have := hv (by omega); omega
  have hg9 : ∃ G2 : Nat, G2 < 16 ∧ (G < 41 → G2 = G - 25) ∧ (41 ≤ G → G < 43 → G2 = 0) ∧ (43 ≤ G → G < 45 → G2 = 5) ∧ (45 ≤ G → G2 = 7) := by
    rcases (show G < 41 ∨ (41 ≤ G ∧ G < 43) ∨ (43 ≤ G ∧ G < 45) ∨ 45 ≤ G by omega) with z | z | z | z
    · exact ⟨G - 25, by omega, fun _ => rfl, fun a => by omega, fun a => by omega, fun a => by omega⟩
    · exact ⟨0, by omega, fun a => by omega, fun a _ => rfl, fun a => by omega, fun a => by omega⟩
    · exact ⟨5, by omega, fun a => by omega, fun a => by omega, fun a _ => rfl, fun a => by omega⟩
    · exact ⟨7, by omega, fun a => by omega, fun a => by omega, fun a => by omega, fun a => rfl⟩
  obtain ⟨G2, h16b, q1, q2, q3, q4⟩ := hg9
  obtain ⟨cap', g1, g2, K⟩ := done_ok (m0 := m0) W (by omega) hY46 (by rw [N8 F]; exact p8) h16b
  refine ⟨cap', g1, g2, fun {mc ms post k57 c1 n1} hc hn kk => ?_⟩
  have e25 : nI G - 25 = nI (G - 25) := isub_nI (b := 25) (by omega) (by omega)
  have d16 : (16 : Int32) ≤ nI (G - 25) ↔ 16 ≤ G - 25 := qn_le (a := 16) (by omega) (by omega)
  have d18 : (18 : Int32) ≤ nI (G - 25) ↔ 18 ≤ G - 25 := qn_le (a := 18) (by omega) (by omega)
  have d20 : (20 : Int32) ≤ nI (G - 25) ↔ 20 ≤ G - 25 := qn_le (a := 20) (by omega) (by omega)
  have b474 : w_L_law_b474 e0 m0 L xs x0 mc ms post k57 c1 n1 (ov S M) (some x) (some m) (some s) (some w) (nI t) (nI X) (nI (X / 46)) (some x) (some m) (some w) (nI G2) := by
    unfold w_L_law_b474
    refine ⟨by omega, by omega, 300 + (cap' - cap), 10000 + 2 * (cap' - cap), by omega, by omega, K (Nat.le_refl _) (Nat.le_refl _) (fun S' M' σ' μ' C' W' => ?_)⟩
    exact tail_ok W' ht hX hY46 (by omega) (by omega) (fun c2 n2 g1 g2 => kk S' M' σ' μ' C' _ _ W' (hu (by omega)) (fun _ => hv (by omega)) c2 n2 (by omega) (by omega))
  unfold w_L_law_b104
  rw [e46]
  refine ⟨by omega, by omega, fun _ => ⟨fun _ => ⟨fun _ => ⟨fun _ => ⟨fun _ => ?_, fun z => absurd (d25.mpr (by omega)) z⟩, fun z => absurd (d23.mpr (by omega)) z⟩, fun z => absurd (d21.mpr (by omega)) z⟩, fun z => absurd (d13.mpr (by omega)) z⟩, fun z => absurd (d8.mpr (by omega)) z⟩
  rw [e25]
  refine ⟨fun z16 => ⟨fun z18 => ⟨fun z20 => ?_, fun z20 => ?_⟩, fun z18 => ?_⟩, fun z16 => ?_⟩
  · rw [show (7 : Int32) = nI G2 from by rw [q4 (by have := d20.mp z20; omega)]; rfl]; exact b474
  · have y : ¬ 20 ≤ G - 25 := fun z => z20 (d20.mpr z)
    rw [show (5 : Int32) = nI G2 from by rw [q3 (by have := d18.mp z18; omega) (by omega)]; rfl]; exact b474
  · have y : ¬ 18 ≤ G - 25 := fun z => z18 (d18.mpr z)
    rw [show (0 : Int32) = nI G2 from by rw [q2 (by have := d16.mp z16; omega) (by omega)]; rfl]; exact b474
  · have y : ¬ 16 ≤ G - 25 := fun z => z16 (d16.mpr z)
    rw [← q1 (by omega)]; exact b474
set_option maxRecDepth 100000 in
set_option maxHeartbeats 4000000 in
theorem turn_defect (W : LW u9 v9 e0 x m s w S M σ μ C cap t) (ht : t < 130) (hu : 1 ≤ t → 1 ≤ u9) (hv : 3 ≤ t → 1 ≤ v9) {X : Nat} (hX : X < 2147483648) (hG : 21 ≤ G) (hG1 : G < 23) (h2 : 5 ≤ t) : ∃ cap', cap ≤ cap' ∧ cap' ≤ 262144 ∧ ∀ {mc ms : Nat} {post : Int32 → PT → Prop} {k57 : Nat → Nat → PT → Option Nat → Option Nat → Option Nat → Option Nat → Int32 → Int32 → Prop} {c1 n1 : Nat}, c1 + 940 + 14000 * rf t + (cap' - cap) ≤ mc → n1 + 14000 + 450000 * rf t + 2 * (cap' - cap) ≤ ms → (∀ S' M' σ' μ' C' u' v', LW u' v' e0 x m s w S' M' σ' μ' C' cap' (t + 1) → 1 ≤ u' → (3 ≤ t + 1 → 1 ≤ v') → ∀ c2 n2, c2 ≤ c1 + 940 + 14000 * rf t + (cap' - cap) → n2 ≤ n1 + 14000 + 450000 * rf t + 2 * (cap' - cap) → k57 c2 n2 (ov S' M') (some x) (some m) (some s) (some w) 1 (nI (t + 1))) → w_L_law_b104 e0 m0 L xs x0 mc ms post k57 c1 n1 (ov S M) (some x) (some m) (some s) (some w) (nI t) (nI X) (nI G) := by
  obtain ⟨o, H⟩ := W.1
  obtain ⟨n, h, F, -⟩ := ST_SF H
  have hC : C < 512 := by have := W.2.2.2.2.2.1; omega
  have hd := W.2.1
  have h5 : n 5 ≤ 6 := F.1.2.1
  have h9 := F.2.2.1
  have I := W.2.2.2.2.1
  have hcap := W.2.2.2.2.2.2
  have gr := W.2.2.2.2.2.1
  rw [N5 F, N8 F] at gr
  have h16 := W.2.2.2.1.2.2.2
  rw [N8 F] at h16
  obtain ⟨A0, A1, A2, A3⟩ := LW_n W F
  have AS := W.2.2.2.1.2.1
  rw [N5 F] at AS
  obtain ⟨⟨km, nm, am⟩, ⟨ks, ns, as9⟩, ⟨kw, nw, aw⟩⟩ := LW_rows W F
  have e46 : nI X / 46 = nI (X / 46) := idiv_nI (b := 46) hX (by omega) (by omega)
  have d8 : (8 : Int32) ≤ nI G ↔ 8 ≤ G := qn_le (a := 8) (by omega) (by omega)
  have d13 : (13 : Int32) ≤ nI G ↔ 13 ≤ G := qn_le (a := 13) (by omega) (by omega)
  have d21 : (21 : Int32) ≤ nI G ↔ 21 ≤ G := qn_le (a := 21) (by omega) (by omega)
  have d23 : (23 : Int32) ≤ nI G ↔ 23 ≤ G := qn_le (a := 23) (by omega) (by omega)
  have d25 : (25 : Int32) ≤ nI G ↔ 25 ≤ G := qn_le (a := 25) (by omega) (by omega)
  have v1m : vp_in 1 (gN (ov S M) m) := by rw [nm]; exact vin_nI (k := 1) (by omega) (by omega)
  have v3m : vp_in 3 (gN (ov S M) m) := by rw [nm]; exact vin_nI (k := 3) (by omega) (by omega)
  have hY46 : X / 46 < 2147483648 := by omega
  have p5 : 0 < n 5 := by have := hu (by omega); omega
  have ne5 : ¬ nI (n 5) = 0 := by rw [ieq, nI_toInt (by omega), I0]; omega
  have hj : X / 46 % n 5 < n 5 := Nat.mod_lt _ p5
  have eJ : nI (X / 46) - nI (X / 46) / nI (n 5) * nI (n 5) = nI (X / 46 % n 5) := irem_nI hY46 p5 (by omega)
  generalize X / 46 % n 5 = j at hj eJ
  have qj : (nI j).toNatClampNeg = j := qn_nat (by omega)
  have l9 := len_2 F j
  obtain ⟨as1, -, -, sl, sl2⟩ := AS j hj
  have t2 : (σ 2 j).toInt = (z_len σ j : Int) := by rw [l9.1]; exact nI_toInt (by omega)
  have as2 : gA M s (nI j).toNatClampNeg = nI (z_len σ j) := by rw [qj, as1]; exact l9.1
  have nel : ¬ nI (z_len σ j) = 0 := by rw [ieq, nI_toInt (by omega), I0]; omega
  have vj : vp_in (nI j) (gN (ov S M) s) := by rw [ns]; exact vin_nI (by omega) (by omega)
  have e6 : nI (X / 46) / 6 = nI (X / 46 / 6) := idiv_nI (b := 6) hY46 (by omega) (by omega)
  have ha : X / 46 / 6 % z_len σ j < z_len σ j := Nat.mod_lt _ (by omega)
  have eM : nI (X / 46 / 6) - nI (X / 46 / 6) / nI (z_len σ j) * nI (z_len σ j) = nI (X / 46 / 6 % z_len σ j) := irem_nI (by omega) (by omega) (by omega)
  generalize X / 46 / 6 % z_len σ j = a at ha eM
  have e84 : nI (X / 46) / 84 = nI (X / 46 / 84) := idiv_nI (b := 84) hY46 (by omega) (by omega)
  have e30 : nI (X / 46 / 84) - nI (X / 46 / 84) / 30 * 30 = nI (X / 46 / 84 % 30) := irem_nI (b := 30) (by omega) (by omega) (by omega)
  have hdp : 0 ≤ nI (X / 46 / 84 % 30) ∧ nI (X / 46 / 84 % 30) ≤ 300 := ⟨by rw [ile, I0, nI_toInt (by omega)]; omega, by rw [ile, nI_toInt (by omega), tl_300]; omega⟩
  generalize X / 46 / 84 % 30 = dd at hdp e30
  have hq0 := q_asks_0 F hj ha hdp
  obtain ⟨cap', g1, g2, g3, ka⟩ := a_defect (e0 := e0) (m0 := m0) H hC hd (nI j) (nI a) (nI dd) 0 0
  rw [qj] at ka
  refine ⟨cap', g1, g2, fun {mc ms post k57 c1 n1} hc hn kk => ?_⟩
  unfold w_L_law_b104
  rw [e46]
  refine ⟨by omega, by omega, fun _ => ⟨fun _ => ⟨fun _ => ⟨fun z => absurd (d23.mp z) (by omega), fun _ => ?_⟩, fun z => absurd (d21.mpr (by omega)) z⟩, fun z => absurd (d13.mpr (by omega)) z⟩, fun z => absurd (d8.mpr (by omega)) z⟩
  refine ⟨m, rfl, km, v1m, ?_⟩
  rw [cl_1, am, A1, eJ]
  refine ⟨ne5, s, rfl, ks, vj, ?_⟩
  rw [as9, as2, e6, eM, e84, e30]
  refine ⟨nel, S, M, rfl, hd, x, rfl, ST_K H, 1, 6, by omega, by omega, ?_⟩
  refine s_money H hC _ 1 6 _ _ (Nat.le_refl _) (Nat.le_refl _) (fun hq => absurd (q_mo_0 (p := 5) (by omega)) hq) (fun _ _ => ?_)
  refine ⟨S, M, rfl, hd, ST_K H, 1, 6, by omega, by omega, ?_⟩
  refine s_liable H hC _ _ _ 1 6 _ _ (Nat.le_refl _) (Nat.le_refl _) (fun hq => absurd hq0 hq) (fun _ _ => ?_)
  refine ⟨60 + (cap' - cap), 2000 + 2 * (cap' - cap), by omega, by omega, ?_⟩
  refine ka (Nat.le_refl _) (Nat.le_refl _) (fun hne => absurd hq0 hne) (fun _ S1 hd1 H1 => ?_)
  rw [cl_5, qj]
  generalize hits : z_liab σ j (z_q (nI j) (nI a)) (nI dd) (σ 40 0).toNatClampNeg = its at H1
  have b24 : ∀ k, (σ 24 k).toNatClampNeg < 5 := fun k => w24 F.2.2.2.1 k
  have hLM : LM (m_defect σ μ its) (150 * (σ 0 0).toNatClampNeg + 32 * (t + 1)) := by
    unfold m_defect
    exact iT_ind (fun y : MU => LM y (150 * (σ 0 0).toNatClampNeg + 32 * (t + 1))) (fun _ => LM_up (by omega) I.2.2.2.2.2.1) (fun _ => LM_cost F I (by omega) _ (by decide) (by decide))
  have hLI : LI (u_defect σ its) (m_defect σ μ its) (t + 1) := LI_m (LI_c (lf_defect its) I) (by rw [lf_defect its 0 (by unfold lf; omega)]; exact hLM)
  have W' := LW_mk W H1 hd1 (LA_c (la_defect its) W.2.2.2.1) hLI (by omega) g2
  have hm5 : m_defect σ μ its 5 = iT (its = -1) (μ 5) (μ 5 + (300 : Int32).toInt64) := by
    unfold m_defect
    by_cases z : its = -1
    · rw [iT_T z, iT_T z]
    · rw [iT_F z, iT_F z, pay_at, iT_T rfl, iT_F (by have := b24 its.toNatClampNeg; omega)]
  have b310 : ∀ {c2 n2 : Nat} (v : Int32), c2 ≤ c1 + 200 + (cap' - cap) → n2 ≤ n1 + 6000 + 2 * (cap' - cap) → m_defect σ μ its 5 = μ 5 + v.toInt64 → w_L_law_b310 e0 m0 L xs x0 mc ms post k57 c2 n2 (ov S1 M) (some x) (some m) (some s) (some w) (nI t) (nI X) (nI (X / 46)) (m_defect σ μ its 5) (μ 5) v := fun {c2 n2} v k1 k2 ev => by
    unfold w_L_law_b310
    refine ⟨by omega, by omega, fun z => absurd ((lg_cmp_eq _ _).mpr ev) z, fun _ => ?_⟩
    unfold w_L_law_b321
    exact ⟨by omega, by omega, tail_ok W' ht hX hY46 (by omega) (by omega) (fun c2 n2 g1 g2 => kk _ _ _ _ _ _ _ W' (hu (by omega)) (fun _ => hv (by omega)) c2 n2 (by omega) (by omega))⟩
  refine ⟨fun z => absurd rfl z, fun _ => ⟨S1, M, rfl, hd1, ST_K H1, 1, 6, by omega, by omega, ?_⟩⟩
  refine s_money H1 (by omega) _ 1 6 _ _ (Nat.le_refl _) (Nat.le_refl _) (fun hq => absurd (q_mo_0 (p := 5) (by omega)) hq) (fun _ _ => ?_)
  rw [cl_5]
  refine ⟨fun z => b310 300 (by omega) (by omega) (hm5.trans (iT_F z)), fun z => b310 0 (by omega) (by omega) ?_⟩
  rw [hm5, iT_T z, show ((0 : Int32).toInt64 : Int64) = 0 from by decide, Int64.add_zero]
set_option maxRecDepth 100000 in
set_option maxHeartbeats 4000000 in
theorem turn_core (W : LW u9 v9 e0 x m s w S M σ μ C cap t) (ht : t < 130) (hu : 1 ≤ t → 1 ≤ u9) (hv : 3 ≤ t → 1 ≤ v9) {X : Nat} (hX : X < 2147483648) (hG : 23 ≤ G) (hG1 : G < 25) (h2 : 5 ≤ t) : ∃ cap', cap ≤ cap' ∧ cap' ≤ 262144 ∧ ∀ {mc ms : Nat} {post : Int32 → PT → Prop} {k57 : Nat → Nat → PT → Option Nat → Option Nat → Option Nat → Option Nat → Int32 → Int32 → Prop} {c1 n1 : Nat}, c1 + 940 + 14000 * rf t + (cap' - cap) ≤ mc → n1 + 14000 + 450000 * rf t + 2 * (cap' - cap) ≤ ms → (∀ S' M' σ' μ' C' u' v', LW u' v' e0 x m s w S' M' σ' μ' C' cap' (t + 1) → 1 ≤ u' → (3 ≤ t + 1 → 1 ≤ v') → ∀ c2 n2, c2 ≤ c1 + 940 + 14000 * rf t + (cap' - cap) → n2 ≤ n1 + 14000 + 450000 * rf t + 2 * (cap' - cap) → k57 c2 n2 (ov S' M') (some x) (some m) (some s) (some w) 1 (nI (t + 1))) → w_L_law_b104 e0 m0 L xs x0 mc ms post k57 c1 n1 (ov S M) (some x) (some m) (some s) (some w) (nI t) (nI X) (nI G) := by
  obtain ⟨o, H⟩ := W.1
  obtain ⟨n, h, F, -⟩ := ST_SF H
  have hC : C < 512 := by have := W.2.2.2.2.2.1; omega
  have hd := W.2.1
  have h5 : n 5 ≤ 6 := F.1.2.1
  have h9 := F.2.2.1
  have I := W.2.2.2.2.1
  have hcap := W.2.2.2.2.2.2
  have gr := W.2.2.2.2.2.1
  rw [N5 F, N8 F] at gr
  have h16 := W.2.2.2.1.2.2.2
  rw [N8 F] at h16
  obtain ⟨A0, A1, A2, A3⟩ := LW_n W F
  have AS := W.2.2.2.1.2.1
  rw [N5 F] at AS
  obtain ⟨⟨km, nm, am⟩, ⟨ks, ns, as9⟩, ⟨kw, nw, aw⟩⟩ := LW_rows W F
  have e46 : nI X / 46 = nI (X / 46) := idiv_nI (b := 46) hX (by omega) (by omega)
  have d8 : (8 : Int32) ≤ nI G ↔ 8 ≤ G := qn_le (a := 8) (by omega) (by omega)
  have d13 : (13 : Int32) ≤ nI G ↔ 13 ≤ G := qn_le (a := 13) (by omega) (by omega)
  have d21 : (21 : Int32) ≤ nI G ↔ 21 ≤ G := qn_le (a := 21) (by omega) (by omega)
  have d23 : (23 : Int32) ≤ nI G ↔ 23 ≤ G := qn_le (a := 23) (by omega) (by omega)
  have d25 : (25 : Int32) ≤ nI G ↔ 25 ≤ G := qn_le (a := 25) (by omega) (by omega)
  have v1m : vp_in 1 (gN (ov S M) m) := by rw [nm]; exact vin_nI (k := 1) (by omega) (by omega)
  have v3m : vp_in 3 (gN (ov S M) m) := by rw [nm]; exact vin_nI (k := 3) (by omega) (by omega)
  have hY46 : X / 46 < 2147483648 := by omega
  have p5 : 0 < n 5 := by have := hu (by omega); omega
  have ne5 : ¬ nI (n 5) = 0 := by rw [ieq, nI_toInt (by omega), I0]; omega
  have hj : X / 46 % n 5 < n 5 := Nat.mod_lt _ p5
  have eJ : nI (X / 46) - nI (X / 46) / nI (n 5) * nI (n 5) = nI (X / 46 % n 5) := irem_nI hY46 p5 (by omega)
  generalize X / 46 % n 5 = j at hj eJ
  have qj : (nI j).toNatClampNeg = j := qn_nat (by omega)
  have l9 := len_2 F j
  obtain ⟨as1, -, -, sl, sl2⟩ := AS j hj
  have t2 : (σ 2 j).toInt = (z_len σ j : Int) := by rw [l9.1]; exact nI_toInt (by omega)
  have as2 : gA M s (nI j).toNatClampNeg = nI (z_len σ j) := by rw [qj, as1]; exact l9.1
  have nel : ¬ nI (z_len σ j) = 0 := by rw [ieq, nI_toInt (by omega), I0]; omega
  have vj : vp_in (nI j) (gN (ov S M) s) := by rw [ns]; exact vin_nI (by omega) (by omega)
  have e6 : nI (X / 46) / 6 = nI (X / 46 / 6) := idiv_nI (b := 6) hY46 (by omega) (by omega)
  have ha : X / 46 / 6 % z_len σ j < z_len σ j := Nat.mod_lt _ (by omega)
  have eM : nI (X / 46 / 6) - nI (X / 46 / 6) / nI (z_len σ j) * nI (z_len σ j) = nI (X / 46 / 6 % z_len σ j) := irem_nI (by omega) (by omega) (by omega)
  generalize X / 46 / 6 % z_len σ j = a at ha eM
  refine ⟨cap, Nat.le_refl _, hcap, fun {mc ms post k57 c1 n1} hc hn kk => ?_⟩
  unfold w_L_law_b104
  rw [e46]
  refine ⟨by omega, by omega, fun _ => ⟨fun _ => ⟨fun _ => ⟨fun _ => ⟨fun z => absurd (d25.mp z) (by omega), fun _ => ?_⟩, fun z => absurd (d23.mpr (by omega)) z⟩, fun z => absurd (d21.mpr (by omega)) z⟩, fun z => absurd (d13.mpr (by omega)) z⟩, fun z => absurd (d8.mpr (by omega)) z⟩
  refine ⟨m, rfl, km, v1m, ?_⟩
  rw [cl_1, am, A1, eJ]
  refine ⟨ne5, s, rfl, ks, vj, ?_⟩
  rw [as9, as2, e6, eM]
  have b417 : ∀ {S' M' : PT} {σ' : SG} {μ' : MU} {C' u' v' : Nat} {c2 n2 : Nat}, LW u' v' e0 x m s w S' M' σ' μ' C' cap (t + 1) → 1 ≤ u' → 1 ≤ v' → c2 ≤ c1 + 300 → n2 ≤ n1 + 10000 → w_L_law_b417 e0 m0 L xs x0 mc ms post k57 c2 n2 (ov S' M') (some x) (some m) (some s) (some w) (nI t) (nI X) (nI (X / 46)) := fun {S' M' σ' μ' C' u' v' c2 n2} W' hu' hv' g1 g2 => by
    unfold w_L_law_b417 w_L_law_b422
    exact ⟨by omega, by omega, by omega, by omega, tail_ok W' ht hX hY46 (by omega) (by omega) (fun c2 n2 g1 g2 => kk S' M' σ' μ' C' _ _ W' hu' (fun _ => hv') c2 n2 (by omega) (by omega))⟩
  have hqi : q_core σ (nI j) (nI a) (σ 40 0).toNatClampNeg = iT (z_lat σ (nI j) (nI a) (σ 40 0).toNatClampNeg = -1 ∨ ¬ σ 45 (z_lat σ (nI j) (nI a) (σ 40 0).toNatClampNeg).toNatClampNeg = 0) 2 0 := by unfold q_core; rw [iT_F (fun z => z (in_mt F hj ha))]
  have n40 := N1 F
  refine ⟨nel, 60, 2000, by omega, by omega, ?_⟩
  refine a_core H hC hd _ _ _ _ _ (Nat.le_refl _) (Nat.le_refl _) (fun hne => ?_) (fun h0 S1 hd1 H1 => ?_)
  · have e9 : q_core σ (nI j) (nI a) (σ 40 0).toNatClampNeg = 2 := by
      rw [hqi] at hne ⊢
      exact iT_T (Classical.byContradiction (fun z => hne (iT_F z)))
    rw [e9, cQ_2]
    exact ⟨fun _ => b417 (LW_up W) (hu (by omega)) (hv (by omega)) (by omega) (by omega), fun z => absurd rfl z⟩
  · have hc9 : ¬ (z_lat σ (nI j) (nI a) (σ 40 0).toNatClampNeg = -1 ∨ ¬ σ 45 (z_lat σ (nI j) (nI a) (σ 40 0).toNatClampNeg).toNatClampNeg = 0) := fun z => absurd (hqi.symm.trans h0) (by rw [iT_T z]; decide)
    rcases laN_in (fun k => σ 41 k = z_q (nI j) (nI a)) (σ 40 0).toNatClampNeg with e | ⟨f, hf, hfq, ef⟩
    · exact absurd (Or.inl e) hc9
    have elat : z_lat σ (nI j) (nI a) (σ 40 0).toNatClampNeg = nI f := ef
    have qf : (nI f).toNatClampNeg = f := qn_nat (by omega)
    rw [elat, qf] at H1 ⊢
    have b44 := nf F.2.2.2.1 44 f rfl
    obtain ⟨e44, b44b⟩ := b44
    have b100 : ((σ 44 f).toNatClampNeg : Int) ≤ 100 := b44b
    have t44 : (σ 44 f).toInt = ((σ 44 f).toNatClampNeg : Int) := by
      have := congrArg Int32.toInt e44
      rw [nI_toInt (by omega)] at this
      exact this
    have W' := LW_mk W H1 hd1 (LA_c (la_core f) W.2.2.2.1) (LI_up (LI_c (lf_core f) I) (show t ≤ t + 1 by omega)) (by omega) hcap
    have gB : ∀ {c2 n2 : Nat}, c2 ≤ c1 + 300 → n2 ≤ n1 + 10000 → w_L_law_b417 e0 m0 L xs x0 mc ms post k57 c2 n2 (ov S1 M) (some x) (some m) (some s) (some w) (nI t) (nI X) (nI (X / 46)) := fun k1 k2 => b417 W' (hu (by omega)) (hv (by omega)) k1 k2
    obtain ⟨n2', h2', F1, -⟩ := ST_SF H1
    have c41 : (u_core σ f) 41 = σ 41 := by
      unfold u_core
      rw [up2_g (by decide), up2_g (by decide), up2_g (by decide), up2_g (by decide)]
    have c40 : (u_core σ f) 40 = σ 40 := by
      unfold u_core
      rw [up2_g (by decide), up2_g (by decide), up2_g (by decide), up2_g (by decide)]
    have c45 : (u_core σ f) 45 f = 1 := by
      unfold u_core
      rw [up2_f _ _ _ _ (by decide), up2_f _ _ _ _ (by decide), up2_s]
    have c2 : (u_core σ f) 2 = σ 2 := la_core f 2 (by unfold la; omega)
    have e51 : n2' 5 = n 5 := by
      have a1 := N5 F1
      rw [la_core f 1 (by unfold la; omega)] at a1
      exact a1.symm.trans (N5 F)
    have ha1 : a < z_len (u_core σ f) j := by
      have e1 : z_len (u_core σ f) j = z_len σ j := congrArg Int32.toNatClampNeg (congrFun c2 j)
      rw [e1]; exact ha
    have hj1 : j < n2' 5 := by omega
    have eq2 : q_core (u_core σ f) (nI j) (nI a) (u_core σ f 40 0).toNatClampNeg = 2 := by
      have el : z_lat (u_core σ f) (nI j) (nI a) (u_core σ f 40 0).toNatClampNeg = nI f := by
        rw [← elat]
        unfold z_lat
        rw [c41, c40]
      unfold q_core
      rw [iT_F (fun z => z (in_mt F1 hj1 ha1)), el, qf]
      exact iT_T (Or.inr (by rw [c45]; decide))
    refine ⟨fun _ => gB (by omega) (by omega), fun _ => ⟨fun z => ?_, fun _ => ⟨fun z => ?_, fun _ => ⟨S1, M, rfl, hd1, x, rfl, ST_K H1, 1, 6, by omega, by omega, ?_⟩⟩⟩⟩
    · rw [ilt, I0] at z; omega
    · rw [ilt, tl_100] at z; omega
    refine s_metre H1 (by omega) _ _ _ 1 6 _ _ (Nat.le_refl _) (Nat.le_refl _) (fun hq => absurd (q_metre_0 F1 hj1 ha1 ⟨by decide, by decide⟩) hq) (fun _ _ => ?_)
    rw [mw_3, c41, c40]
    have hcl := cN_le (fun k => σ 41 k = z_q (nI j) (nI a)) (σ 40 0).toNatClampNeg
    refine ⟨fun z => ?_, fun _ => ⟨60, 2000, by omega, by omega, ?_⟩⟩
    · exfalso
      have hp := cN_pos (P := fun k => σ 41 k = z_q (nI j) (nI a)) hf hfq
      rw [ile, I0, nI_toInt (by omega)] at z
      omega
    refine a_core H1 (by omega) hd1 _ _ _ _ _ (Nat.le_refl _) (Nat.le_refl _) (fun hne => ?_) (fun h0 => absurd (eq2.symm.trans h0) (by decide))
    rw [eq2, cQ_2]
    exact ⟨fun z => absurd rfl z, fun _ => gB (by omega) (by omega)⟩
end LAWT
