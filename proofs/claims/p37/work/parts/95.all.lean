/-! the law's sum over all that can be asked: the same, where nothing has changed -/
section ALL
variable {u9 v9 e0 m0 x o m s w : Nat} {S M : PT} {σ : SG} {μ : MU} {C cap t : Nat} {n : Nat → Nat} {h : Nat}
theorem all_l75 (H : ST e0 x o S σ μ C cap) (hC : C < 512) (hd : dis S M) (F : SF σ n h) (km : gK (ov S M) m = 12) (nm : gN (ov S M) m = 4) (A3 : gA (ov S M) m 3 = nI (n 8)) : ∀ rem k, k + rem = 8 * n 8 → ∀ v3 : Int64, ∃ f : Int64, ∀ (mc ms : Nat) (post : Int64 → PT → Prop) (c0 n0 : Nat), c0 + rem ≤ mc → n0 + 6 * rem ≤ ms → post f (ov S M) → w_L_all_l75 (some x) (some m) (some s) mc ms post (rem + 1) c0 n0 (ov S M) v3 (nI k) := by
  have h8 : n 8 ≤ 24 := F.1.2.2.2.2.2.1
  have e8 : (8 : Int32) * nI (n 8) = nI (8 * n 8) := qn_mul 8 (n 8)
  have v3in : vp_in 3 (gN (ov S M) m) := by rw [nm]; exact vin_nI (k := 3) (by omega) (by omega)
  intro rem
  induction rem with
  | zero =>
    intro k hk v3
    refine ⟨v3, fun mc ms post c0 n0 h1 h2 hp => ?_⟩
    refine ⟨by omega, by omega, m, rfl, km, v3in, fun _ => hp, fun hn => absurd ?_ hn⟩
    rw [cl_3, A3, e8, qn_le (by omega) (by omega)]; omega
  | succ rem ih =>
    intro k hk v3
    have hk8 : k / 8 < n 8 := by omega
    have e1 : nI k / 8 = nI (k / 8) := idiv_nI (b := 8) (by omega) (by omega) (by omega)
    have e2 : nI k - nI k / 8 * 8 = nI (k % 8) := irem_nI (b := 8) (by omega) (by omega) (by omega)
    obtain ⟨f, hf⟩ := ih (k + 1) (by omega) ((31 * v3) + (z_what σ (nI (k / 8)).toNatClampNeg (nI (k % 8))).toInt64)
    refine ⟨f, fun mc ms post c0 n0 h1 h2 hp => ?_⟩
    refine ⟨by omega, by omega, m, rfl, km, v3in, fun hle => absurd hle ?_, fun _ => ⟨S, M, rfl, hd, x, rfl, ST_K H, 1, 6, by omega, by omega, ?_⟩⟩
    · rw [cl_3, A3, e8, qn_le (by omega) (by omega)]; omega
    · rw [e2, e1]
      refine s_of H hC _ _ 1 6 _ _ (Nat.le_refl _) (Nat.le_refl _) (fun hq => absurd (q_of_0 F hk8 (w_07 (by omega))) hq) (fun _ _ => ?_)
      rw [qn_s]
      exact hf mc ms post (c0 + 1) (n0 + 6) (by omega) (by omega) hp
theorem all_l7 (H : ST e0 x o S σ μ C cap) (hC : C < 512) (hd : dis S M) (F : SF σ n h) (km : gK (ov S M) m = 12) (nm : gN (ov S M) m = 4) (A3 : gA (ov S M) m 3 = nI (n 8)) (A1 : gA (ov S M) m 1 = nI (n 5)) (ks : gK (ov S M) s = 12) (ns : gN (ov S M) s = 18) (AS : ∀ j, j < n 5 → gA (ov S M) s j = σ 2 j) : ∀ rem k, k + rem = 6 → ∀ v3 : Int64, ∃ f : Int64, ∀ (mc ms : Nat) (post : Int64 → PT → Prop) (c0 n0 : Nat), c0 + 3 * rem + 200 ≤ mc → n0 + 18 * rem + 1200 ≤ ms → post f (ov S M) → w_L_all_l7 (some x) (some m) (some s) mc ms post (rem + 1) c0 n0 (ov S M) v3 (nI k) := by
  have h8 : n 8 ≤ 24 := F.1.2.2.2.2.2.1
  have h5 : n 5 ≤ 6 := F.1.2.1
  have v1in : vp_in 1 (gN (ov S M) m) := by rw [nm]; exact vin_nI (k := 1) (by omega) (by omega)
  intro rem
  induction rem with
  | zero =>
    intro k hk v3
    obtain ⟨f, hf⟩ := all_l75 (s := s) H hC hd F km nm A3 (8 * n 8) 0 (by omega) v3
    refine ⟨f, fun mc ms post c0 n0 h1 h2 hp => ?_⟩
    refine ⟨by omega, by omega, fun _ => ⟨_, hf mc ms post c0 n0 (by omega) (by omega) hp⟩, fun hn => absurd ?_ hn⟩
    rw [show (6 : Int32) = nI 6 from rfl, qn_le (by omega) (by omega)]; omega
  | succ rem ih =>
    intro k hk v3
    have nle : ¬ (6 : Int32) ≤ nI k := by rw [show (6 : Int32) = nI 6 from rfl, qn_le (by omega) (by omega)]; omega
    by_cases hk5 : k < n 5
    · have l9 := len_2 F k
      have l1 : 1 ≤ z_len σ k := (F.2.2.2.2.1.1 k hk5).1
      have ae : gA (ov S M) s (nI k).toNatClampNeg - 1 = nI (z_len σ k - 1) := by
        rw [qn_nat (by omega), AS k hk5, l9.1]; exact isub_nI (b := 1) l1 (by omega)
      obtain ⟨f, hf⟩ := ih (k + 1) (by omega) ((1000003 * v3) + μ (nI k).toNatClampNeg + ((σ 10 (nI k).toNatClampNeg).toInt64 + (31 * (z_srch (z_sr σ (nI k) 0 (nI (z_len σ k - 1))) (σ 14 0).toNatClampNeg).toInt64)))
      refine ⟨f, fun mc ms post c0 n0 h1 h2 hp => ?_⟩
      refine ⟨by omega, by omega, fun hle => absurd hle nle, fun _ => ⟨S, M, rfl, hd, x, rfl, ST_K H, 1, 6, by omega, by omega, ?_⟩⟩
      refine s_money H hC _ 1 6 _ _ (Nat.le_refl _) (Nat.le_refl _) (fun hq => absurd (q_mo_0 (by omega)) hq) (fun _ _ => ?_)
      refine ⟨m, rfl, km, v1in, fun hle => absurd hle ?_, fun _ => ⟨S, M, rfl, hd, ST_K H, 1, 6, by omega, by omega, ?_⟩⟩
      · rw [cl_1, A1, qn_le (by omega) (by omega)]; omega
      refine s_queue H hC _ 1 6 _ _ (Nat.le_refl _) (Nat.le_refl _) (fun hq => absurd (q_st_0 F hk5) hq) (fun _ _ => ?_)
      refine ⟨s, rfl, ks, by rw [ns]; exact vin_nI (by omega) (by omega), S, M, rfl, hd, ST_K H, 1, 6, by omega, by omega, ?_⟩
      rw [ae]
      refine s_search H hC _ _ _ 1 6 _ _ (Nat.le_refl _) (Nat.le_refl _) (fun hq => absurd (q_search_0 F (a := 0) hk5 (by omega) (by omega)) hq) (fun _ _ => ?_)
      refine ⟨by omega, by omega, ?_⟩
      rw [qn_s]
      exact hf mc ms post _ _ (by omega) (by omega) hp
    · obtain ⟨f, hf⟩ := ih (k + 1) (by omega) ((1000003 * v3) + μ (nI k).toNatClampNeg + 0)
      refine ⟨f, fun mc ms post c0 n0 h1 h2 hp => ?_⟩
      refine ⟨by omega, by omega, fun hle => absurd hle nle, fun _ => ⟨S, M, rfl, hd, x, rfl, ST_K H, 1, 6, by omega, by omega, ?_⟩⟩
      refine s_money H hC _ 1 6 _ _ (Nat.le_refl _) (Nat.le_refl _) (fun hq => absurd (q_mo_0 (by omega)) hq) (fun _ _ => ?_)
      refine ⟨m, rfl, km, v1in, fun _ => ⟨by omega, by omega, ?_⟩, fun hn => absurd ?_ hn⟩
      · rw [qn_s]
        exact hf mc ms post _ _ (by omega) (by omega) hp
      · rw [cl_1, A1, qn_le (by omega) (by omega)]; omega
/-- the rows of the law, as its methods see them -/
theorem LW_rows (L : LW u9 v9 e0 x m s w S M σ μ C cap t) (F : SF σ n h) : (gK (ov S M) m = 12 ∧ gN (ov S M) m = 4 ∧ gA (ov S M) m = gA M m) ∧ (gK (ov S M) s = 12 ∧ gN (ov S M) s = 18 ∧ gA (ov S M) s = gA M s) ∧ (gK (ov S M) w = 12 ∧ gN (ov S M) w = 64 ∧ gA (ov S M) w = gA M w) := by
  obtain ⟨-, -, ⟨⟨a1, a2, -⟩, ⟨b1, b2, -⟩, ⟨c1, c2, -⟩, -⟩, -⟩ := L
  have a := ov_a a1 S
  have b := ov_a b1 S
  have c := ov_a c1 S
  exact ⟨⟨a.1, a.2.1.trans a2, a.2.2⟩, ⟨b.1, b.2.1.trans b2, b.2.2⟩, ⟨c.1, c.2.1.trans c2, c.2.2⟩⟩
theorem all_ok (L : LW u9 v9 e0 x m s w S M σ μ C cap t) (ht : t ≤ 140) : ∃ f : Int64, ∀ (mc ms : Nat) (post : Int64 → PT → Prop), 300 ≤ mc → 1500 ≤ ms → post f (ov S M) → w_L_all (some x) (some m) (some s) (ov S M) mc ms post := by
  obtain ⟨o, H⟩ := L.1
  obtain ⟨n, h, F, hn⟩ := ST_SF H
  obtain ⟨⟨km, nm, am⟩, ⟨ks, ns, as9⟩, -⟩ := LW_rows L F
  obtain ⟨-, hd, -, ⟨⟨A0, A1, A2, A3⟩, AS, -, -⟩, -, hC, -⟩ := L
  obtain ⟨f, hf⟩ := all_l7 (o := o) H (by omega) hd F km nm (by rw [am, A3]; exact F.1.2.2.2.2.1) (by rw [am, A1]; exact F.1.1) ks ns (fun j hj => by rw [as9]; exact (AS j (by rw [N5 F]; exact hj)).1) 6 0 rfl 7
  exact ⟨f, fun mc ms post h1 h2 hp => ⟨7, hf mc ms post 0 0 (by omega) (by omega) hp⟩⟩
end ALL
