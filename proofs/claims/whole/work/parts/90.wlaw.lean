/-! the loop over the calls, and the law -/
section C
variable {e0 m0 x o m L : Nat}
theorem k_step {σ : SG} {μ : MU} {C cap : Nat} {S SM : PT} {A : Nat → Nat} {c s : Nat} {K : PT → PT → Nat → Nat → Prop} (H : ST e0 x o S σ μ C cap) (R : RM A m SM σ μ) (hC : C < 512) (hc : c ≤ cB C cap) (hs : s ≤ sB2 C cap) (k : GO e0 x o m A C K) (op a1 a2 a3 a4 a5 a6 a7 a8 : Int32) :
    w_step e0 m0 x m o op a1 a2 a3 a4 a5 a6 a7 a8 S SM c s K := by
  unfold w_step
  refine ⟨fun _ => ?_, fun _ => o_0 H R hC hc hs k _ _ _ _, fun _ => o_1 H R hC hc hs k _, fun _ => o_2 H R hC hc hs k _ _ _, fun _ => o_3 H R hC hc hs k _ _ _ _ _, fun _ => o_4 H R hC hc hs k _ _ _ _, fun _ => o_5 H R hC hc hs k _, fun _ => o_6 H R hC hc hs k _, fun _ => o_7 H R hC hc hs k _ _, fun _ => o_8 H R hC hc hs k _ _ _ _ _ _ _ _, fun _ => o_9 H R hC hc hs k _ _, fun _ => o_10 H R hC hc hs k _, fun _ => o_11 H R hC hc hs k _ _, fun _ => o_12 H R hC hc hs k _, fun _ => o_13 H R hC hc hs k _ _, fun _ => o_14 H R hC hc hs k _, fun _ => o_15 H R hC hc hs k _ _, fun _ => o_16 H R hC hc hs k _ _ _, fun _ => o_17 H R hC hc hs k _, fun _ => o_18 H R hC hc hs k _, fun _ => o_19 H R hC hc hs k _, fun _ => o_20 H R hC hc hs k _, fun _ => o_21 H R hC hc hs k _ _ _, fun _ => o_22 H R hC hc hs k _ _, fun _ => o_23 H R hC hc hs k _ _ _, fun _ => o_24 H R hC hc hs k _ _ _, fun _ => o_25 H R hC hc hs k _, fun _ => o_26 H R hC hc hs k _ _, fun _ => o_27 H R hC hc hs k _ _, fun _ => o_28 H R hC hc hs k _ _ _, fun _ => o_29 H R hC hc hs k _ _ _, fun _ => o_30 H R hC hc hs k _, fun _ => o_31 H R hC hc hs k _, fun _ => o_32 H R hC hc hs k _, fun _ => o_33 H R hC hc hs k _⟩
  have c1 : cB C cap = 400 + 60 * C + cap := rfl
  have c2 : sB2 C cap = 20000 + 2000 * C + 2 * cap := rfl
  have c3 : cB (C + 1) cap = 400 + 60 * (C + 1) + cap := rfl
  have c4 : sB2 (C + 1) cap = 20000 + 2000 * (C + 1) + 2 * cap := rfl
  exact k _ _ _ _ _ _ _ (ST_up (Nat.le_succ C) H) R (by omega) (by omega)
theorem k_calls (xs : Nat → Int32) (hL : L ≤ 4608) : ∀ (d C : Nat) (A : Nat → Nat) (σ : SG) (μ : MU) (cap : Nat) (S SM : PT) (c s : Nat), ST e0 x o S σ μ C cap → RM A m SM σ μ → C ≤ 512 → L < 9 * (C + d) + 9 → c ≤ cB C cap → s ≤ sB2 C cap → w_loop e0 m0 x m o L xs (d + 1) (nI (9 * C)) S SM c s := by
  intro d
  induction d with
  | zero =>
    intro C A σ μ cap S SM c s H R hC hd hc hs
    have hb := (ST_B H).2
    have c1 : cB C cap = 400 + 60 * C + cap := rfl
    have c2 : sB2 C cap = 20000 + 2000 * C + 2 * cap := rfl
    unfold w_loop
    refine ⟨by omega, by omega, fun h => absurd ?_ h⟩
    rw [ilt, tsub, nI_toInt (by omega), nI_toInt (by omega), show (9 : Int32).toInt = 9 from by decide]
    omega
  | succ d ih =>
    intro C A σ μ cap S SM c s H R hC hd hc hs
    have hb := (ST_B H).2
    have c1 : cB C cap = 400 + 60 * C + cap := rfl
    have c2 : sB2 C cap = 20000 + 2000 * C + 2 * cap := rfl
    unfold w_loop
    refine ⟨by omega, by omega, fun h => ?_⟩
    rw [ilt, tsub, nI_toInt (by omega), nI_toInt (by omega), show (9 : Int32).toInt = 9 from by decide] at h
    have h9 : 9 * C + 9 ≤ L := by omega
    have v : ∀ j : Nat, j ≤ 8 → vp_in (nI (9 * C) + nI j) L := fun j hj => by rw [qn_add]; exact vin_nI (by omega) (by omega)
    refine ⟨vin_nI (by omega) (by omega), v 1 (by decide), v 2 (by decide), v 3 (by decide), v 4 (by decide), v 5 (by decide), v 6 (by decide), v 7 (by decide), v 8 (by decide), ?_⟩
    refine k_step H R (by omega) hc hs (fun S' SM' c' s' σ' μ' cap' H' R' hc' hs' => ?_) _ _ _ _ _ _ _ _ _
    have e9 : nI (9 * C) + 9 = nI (9 * (C + 1)) := by
      rw [show (9 : Int32) = nI 9 from by decide, qn_add]
      exact congrArg nI (by omega)
    rw [e9]
    exact ih (C + 1) A σ' μ' cap' S' SM' c' s' H' R' (by omega) (by omega) hc' hs'
theorem pure_law (e0 m0 L : Nat) (xs : Nat → Int32) (hL : L ≤ 4608) : w_law e0 m0 L xs := by
  intro x S1 e1
  subst e1
  refine ⟨60, 2000, by decide, by decide, X8_mk (fun ad S2 T R W A ex e20 => ⟨by decide, by decide, ?_⟩)⟩
  intro m T1 e1
  subst e1
  refine ⟨60, 8000, by decide, by decide, X9_mk (fun B T2 RMM => ⟨by decide, by decide, ?_⟩)⟩
  intro o S3 ho e3
  exact ⟨L + 1, k_calls xs hL L 0 B _ _ _ _ _ _ _ (ST_0 R W A ex e20 ho e3) RMM (by decide) (by omega) (by decide) (by decide)⟩
end C
