/-! what is laid, the rest of it -/
section LD2
variable {u9 v9 e0 m0 x o m s w : Nat} {S M : PT} {σ : SG} {μ : MU} {C cap t : Nat} {n : Nat → Nat} {h : Nat}
theorem SF_day (F : SF σ n h) : (z_today σ).toInt = ((h / 24 : Nat) : Int) := by rw [(today_nI F).1]; exact nI_toInt (by have := F.2.2.1; omega)
/-- a trial hole -/
theorem laid3_ok (L : LW u9 v9 e0 x m s w S M σ μ C cap t) (H : ST e0 x o S σ μ C cap) (F : SF σ n h) (ht : t ≤ 140) {j y : Nat} (hj : j < n 5) (hy : y < z_len σ j) {Y : Int32} {mc ms c0 n0 : Nat} {post : Int32 → PT → Prop} (hmc : c0 + 200 ≤ mc) (hms : n0 + 5000 ≤ ms) (kk : ∀ S' M' σ' μ' C', LW u9 v9 e0 x m s w S' M' σ' μ' C' cap (t + 1) → post 1 (ov S' M')) : w_L_isLaid_b527 e0 m0 (some x) (some m) (some s) 3 Y mc ms post c0 n0 (ov S M) (nI j) (nI y) := by
  have hC : C < 512 := by have := L.2.2.2.2.2.1; omega
  have hd := L.2.1
  have h5 : n 5 ≤ 6 := F.1.2.1
  have h7 : n 7 ≤ 30 := F.1.2.2.2.1
  have l40 := (len_2 F j).2
  have qj : (nI j).toNatClampNeg = j := qn_nat (by omega)
  have qy : (nI y).toNatClampNeg = y := qn_nat (by omega)
  have hq : q_trial σ (nI j) (nI y) = 0 := by unfold q_trial; rw [iT_F (fun z => z (in_mt F hj hy))]
  have fr := fr_trial (σ := σ) (nI j) (nI y)
  have fr2 := fr_trial (σ := u_trial σ (nI j) (nI y)) (nI j) (nI y)
  obtain ⟨-, -, A2, -⟩ := LW_n L F
  unfold w_L_isLaid_b527
  refine ⟨by omega, by omega, fun z => absurd rfl z, fun _ => ⟨60, 2000, by omega, by omega, ?_⟩⟩
  refine a_trial H hC hd _ _ _ _ _ (Nat.le_refl _) (Nat.le_refl _) (fun z => absurd hq z) (fun _ S1 hd1 H1 => ?_)
  rw [N7 F]
  have cl := cN_le (fun t => z_lies σ t (nI j) (nI y)) (n 7)
  obtain ⟨⟨km, nm, am⟩, -, -⟩ := MA_ov L.2.2.1 S1
  obtain ⟨n1, h1, F1, -⟩ := ST_SF H1
  have L1 := LW_mk L H1 hd1 (LA_c fr.2 L.2.2.2.1) (LI_c fr.1 (LI_up L.2.2.2.2.1 (show t ≤ t + 1 by omega))) (by have := L.2.2.2.2.2.1; omega) L.2.2.2.2.2.2
  have e5 : n1 5 = n 5 := by
    have g : (u_trial σ (nI j) (nI y)) 1 0 = σ 1 0 := congrFun (fr.2 1 (by unfold la; omega)) 0
    have a1 := N5 F1
    rw [g, N5 F] at a1
    exact a1.symm
  have e7 : n1 7 = n 7 := by
    have g : (u_trial σ (nI j) (nI y)) 14 0 = σ 14 0 := congrFun (fr.2 14 (by unfold la; omega)) 0
    have a1 := N7 F1
    rw [g, N7 F] at a1
    exact a1.symm
  have el : z_len (u_trial σ (nI j) (nI y)) j = z_len σ j := by unfold z_len; rw [fr.2 2 (by unfold la; omega)]
  have e12 : (u_trial σ (nI j) (nI y)) 12 (40 * j + y) = 1 := by unfold u_trial; rw [qj, qy, up2_s]
  have hq1 : q_trial (u_trial σ (nI j) (nI y)) (nI j) (nI y) = 0 := by unfold q_trial; rw [iT_F (fun z => z (in_mt F1 (by omega) (by omega)))]
  have hlies : ∀ t, z_lies (u_trial σ (nI j) (nI y)) t (nI j) (nI y) = z_lies σ t (nI j) (nI y) := fun t => by
    unfold z_lies u_trial
    simp only [up2_f, ne_eq, Nat.reduceEqDiff, not_false_eq_true]
  refine ⟨fun z => ?_, fun _ => ⟨m, rfl, km, by rw [nm]; exact vin_nI (k := 2) (by omega) (by omega), ?_⟩⟩
  · exfalso
    rw [ilt, nI_toInt (by omega), I0] at z; omega
  rw [cl_2, am, A2]
  refine ⟨fun z => ?_, fun _ => ⟨S1, M, rfl, hd1, x, rfl, ST_K H1, 1, 6, by omega, by omega, ?_⟩⟩
  · exfalso
    rw [qn_lt (by omega) (by omega)] at z; omega
  refine s_metre H1 hC _ _ _ 1 6 _ _ (Nat.le_refl _) (Nat.le_refl _) (fun hq => absurd (q_metre_0 F1 (by omega) (by omega) ⟨by decide, by decide⟩) hq) (fun _ _ => ?_)
  rw [mw_1, mat_nI (by omega) (by omega), e12, iT_F (by decide)]
  refine ⟨fun z => absurd rfl z, fun _ => ⟨60, 2000, by omega, by omega, ?_⟩⟩
  refine a_trial H1 hC hd1 _ _ _ _ _ (Nat.le_refl _) (Nat.le_refl _) (fun z => absurd hq1 z) (fun _ S2 hd2 H2 => ?_)
  rw [N7 F1, e7, show (fun t => z_lies (u_trial σ (nI j) (nI y)) t (nI j) (nI y)) = fun t => z_lies σ t (nI j) (nI y) from funext hlies]
  refine ⟨fun z => absurd rfl z, fun _ => ?_⟩
  unfold w_L_isLaid_b596
  exact ⟨by omega, by omega, bo_1, kk _ _ _ _ _ ⟨⟨o, H2⟩, hd2, L.2.2.1, LA_c fr2.2 L1.2.2.2.1, LI_c fr2.1 L1.2.2.2.2.1, ⟨L1.2.2.2.2.2.1.1, LA_gr L (LA_c fr2.2 L1.2.2.2.1) rfl rfl⟩, L.2.2.2.2.2.2⟩⟩
/-- an embargo -/
theorem laid5_ok (L : LW u9 v9 e0 x m s w S M σ μ C cap t) (H : ST e0 x o S σ μ C cap) (F : SF σ n h) (ht : t ≤ 140) {j : Nat} (hj : j < n 5) {v6 how : Int32} (hh3 : ¬ how = 3) (hh4 : ¬ how = 4) {Y : Nat} (hY : Y < 2147483648) {mc ms c0 n0 : Nat} {post : Int32 → PT → Prop} (hmc : c0 + 200 ≤ mc) (hms : n0 + 5000 ≤ ms) (kk : ∀ S' M' σ' μ' C', LW u9 v9 e0 x m s w S' M' σ' μ' C' cap (t + 1) → post 1 (ov S' M')) : w_L_isLaid_b527 e0 m0 (some x) (some m) (some s) how (nI Y) mc ms post c0 n0 (ov S M) (nI j) v6 := by
  have hC : C < 512 := by have := L.2.2.2.2.2.1; omega
  have hd := L.2.1
  have h8 : n 8 ≤ 24 := F.1.2.2.2.2.2.1
  have h9 := F.2.2.1
  obtain ⟨A0, -, -, A3⟩ := LW_n L F
  obtain ⟨⟨km, nm, am⟩, -, -⟩ := LW_rows L F
  have e6 : nI Y / 6 = nI (Y / 6) := idiv_nI (b := 6) hY (by omega) (by omega)
  have e20 : (nI Y / 6) - (nI Y / 6) / 20 * 20 = nI (Y / 6 % 20) := by rw [e6]; exact irem_nI (b := 20) (by omega) (by omega) (by omega)
  have e120 : nI Y / 120 = nI (Y / 120) := idiv_nI (b := 120) hY (by omega) (by omega)
  have e5 : (nI Y / 120) - (nI Y / 120) / 5 * 5 = nI (Y / 120 % 5) := by rw [e120]; exact irem_nI (b := 5) (by omega) (by omega) (by omega)
  have hlim : h / 24 + Y / 6 % 20 + Y / 120 % 5 ≤ 999 := by omega
  have hq : q_embargo σ (nI j) (nI (h / 24 + Y / 6 % 20)) (nI (h / 24 + Y / 6 % 20 + Y / 120 % 5)) = 0 := by
    unfold q_embargo
    rw [iT_F (fun z => z (in_s F hj)), iT_F]
    intro z
    refine z ⟨⟨?_, ?_⟩, ?_, ?_⟩
    · rw [ile, I0, nI_toInt (by omega)]; omega
    · rw [ile, nI_toInt (by omega), tl_999]; omega
    · rw [qn_le (by omega) (by omega)]; omega
    · rw [ile, nI_toInt (by omega), tl_999]; omega
  have v0 : vp_in 0 (gN (ov S M) m) := by rw [nm]; exact vin_nI (k := 0) (by omega) (by omega)
  have fr := fr_embargo (σ := σ) (nI j) (nI (h / 24 + Y / 6 % 20)) (nI (h / 24 + Y / 6 % 20 + Y / 120 % 5))
  unfold w_L_isLaid_b527
  rw [e20, e5, cl_0]
  refine ⟨by omega, by omega, fun _ => ⟨fun _ => ⟨m, rfl, km, v0, v0, 60, 2000, by omega, by omega, ?_⟩, fun z => absurd z hh4⟩, fun z => absurd z hh3⟩
  rw [am, A0, (today_nI F).2, qn_add, qn_add]
  refine a_embargo H hC hd _ _ _ _ _ (Nat.le_refl _) (Nat.le_refl _) (fun z => absurd hq z) (fun _ S1 hd1 H1 => ?_)
  rw [N8 F]
  have cl := cN_le (z_caught (u_embargo σ (nI j) (nI (h / 24 + Y / 6 % 20)) (nI (h / 24 + Y / 6 % 20 + Y / 120 % 5))) (nI j) (nI (h / 24 + Y / 6 % 20)) (nI (h / 24 + Y / 6 % 20 + Y / 120 % 5))) (n 8)
  obtain ⟨⟨km1, nm1, am1⟩, -, -⟩ := MA_ov L.2.2.1 S1
  refine ⟨fun z => ?_, fun _ => ⟨km1, by rw [nm1]; exact vin_nI (k := 3) (by omega) (by omega), ?_⟩⟩
  · exfalso
    rw [ilt, nI_toInt (by omega), I0] at z; omega
  rw [cl_3, am1, A3]
  refine ⟨fun z => ?_, fun _ => ?_⟩
  · exfalso
    rw [qn_lt (by omega) (by omega)] at z; omega
  unfold w_L_isLaid_b753
  exact ⟨by omega, by omega, bo_1, kk _ _ _ _ _ (LW_mk L H1 hd1 (LA_c fr.2 L.2.2.2.1) (LI_c fr.1 (LI_up L.2.2.2.2.1 (show t ≤ t + 1 by omega))) (by have := L.2.2.2.2.2.1; omega) L.2.2.2.2.2.2)⟩
/-- a surface -/
theorem laid4_ok (L : LW u9 v9 e0 x m s w S M σ μ C cap t) (H : ST e0 x o S σ μ C cap) (F : SF σ n h) (ht : t ≤ 140) {j : Nat} (hj : j < n 5) {v6 Y : Int32} {mc ms c0 n0 : Nat} {post : Int32 → PT → Prop} (hmc : c0 + 200 ≤ mc) (hms : n0 + 5000 ≤ ms) (kk : ∀ S' M' σ' μ' C', LW u9 v9 e0 x m s w S' M' σ' μ' C' cap (t + 1) → post 1 (ov S' M')) : w_L_isLaid_b527 e0 m0 (some x) (some m) (some s) 4 Y mc ms post c0 n0 (ov S M) (nI j) v6 := by
  have hC : C < 512 := by have := L.2.2.2.2.2.1; omega
  have hd := L.2.1
  have h5 : n 5 ≤ 6 := F.1.2.1
  have l40 := len_2 F j
  have qj : (nI j).toNatClampNeg = j := qn_nat (by omega)
  obtain ⟨⟨km, nm, am⟩, ⟨ks, ns, as9⟩, -⟩ := LW_rows L F
  obtain ⟨A0, -, -, -⟩ := LW_n L F
  have AS := L.2.2.2.1.2.1
  rw [N5 F] at AS
  have as2 : gA (ov S M) s (nI j).toNatClampNeg = nI (z_len σ j) := by rw [qj, as9, (AS j hj).1]; exact l40.1
  have hn13 : ∀ q, ¬ σ 13 q < 0 ↔ ¬ σ 13 q = -1 := fun q => by
    have b := F.2.2.2.1 13 q
    rw [show bl 13 = -1 from rfl, show bh 13 = 23 from rfl] at b
    rw [ilt, ieq, I0, tl_m1]; omega
  have loop : ∀ rem y, y + rem = z_len σ j → ∀ v8 : Int32, (v8 = 0 ↔ ∀ i, i < y → σ 13 (40 * j + i) = -1) → ∀ c1 n1, c1 + rem + 70 ≤ mc → n1 + 6 * rem + 2100 ≤ ms → w_L_isLaid_l608 e0 m0 (some x) (some m) (some s) 4 Y mc ms post (rem + 1) c1 n1 (ov S M) (nI j) v8 (nI y) := by
    intro rem
    induction rem with
    | zero =>
      intro y hy v8 hv c1 n1 hc hn
      have fr := fr_surface (σ := σ) (nI j)
      have open0 : (cN (fun i => ¬ σ 13 (40 * j + i) = -1) 40 = 0) ↔ v8 = 0 := by
        rw [cN_0, hv]
        constructor
        · intro z i hi
          exact Classical.byContradiction (fun hne => z i (by omega) hne)
        · intro z i hi hne
          have dv := F.2.2.2.2.1.2.2.2.2.1 (40 * j + i) (by omega) hne
          have e1 : (40 * j + i) % 40 = i := by omega
          have e2 : (40 * j + i) / 40 = j := by omega
          rw [e1, e2] at dv
          exact hne (z i (by omega))
      refine ⟨by omega, by omega, s, rfl, ks, by rw [ns]; exact vin_nI (by omega) (by omega), fun _ => ⟨60, 2000, by omega, by omega, ?_⟩, fun z => absurd ?_ z⟩
      · by_cases h8 : v8 = 0
        · have hq : q_surface σ (nI j) = 0 := by unfold q_surface; rw [qj, iT_F (fun z => z (in_s F hj)), iT_F (fun z => z (open0.mpr h8))]
          refine a_surface H hC hd _ _ _ _ _ (Nat.le_refl _) (Nat.le_refl _) (fun z => absurd hq z) (fun _ S1 hd1 H1 => ?_)
          obtain ⟨⟨km1, nm1, am1⟩, -, -⟩ := MA_ov L.2.2.1 S1
          refine ⟨fun _ => ⟨m, rfl, km1, by rw [nm1]; exact vin_nI (k := 0) (by omega) (by omega), ?_⟩, fun z => absurd h8 z⟩
          rw [cl_0, am1, A0]
          unfold w_L_isLaid_b677
          refine ⟨by omega, by omega, fun z => absurd rfl z, fun _ => ?_⟩
          unfold w_L_isLaid_b685
          exact ⟨by omega, by omega, bo_1, kk _ _ _ _ _ (LW_mk L H1 hd1 (LA_c fr.2 L.2.2.2.1) (LI_c fr.1 (LI_up L.2.2.2.2.1 (show t ≤ t + 1 by omega))) (by have := L.2.2.2.2.2.1; omega) L.2.2.2.2.2.2)⟩
        · have hq : q_surface σ (nI j) = 2 := by unfold q_surface; rw [qj, iT_F (fun z => z (in_s F hj)), iT_T (fun z => h8 (open0.mp z))]
          refine ra_surface H hC hd _ _ _ _ _ hq (by decide) cQ_2 _ _ _ (Nat.le_refl _) (Nat.le_refl _) ?_
          refine ⟨fun z => absurd z h8, fun _ => ?_⟩
          unfold w_L_isLaid_b677
          refine ⟨by omega, by omega, fun z => absurd rfl z, fun _ => ?_⟩
          unfold w_L_isLaid_b685
          exact ⟨by omega, by omega, bo_1, kk _ _ _ _ _ (LW_up L)⟩
      · rw [as2, qn_le (by omega) (by omega)]; omega
    | succ rem ih =>
      intro y hy v8 hv c1 n1 hc hn
      have b639 : ∀ (v9 : Int32) c2 n2, c2 + rem + 70 ≤ mc → n2 + 6 * rem + 2100 ≤ ms → (v9 = 0 ↔ ∀ i, i < y + 1 → σ 13 (40 * j + i) = -1) → w_L_isLaid_b639 e0 m0 (some x) (some m) (some s) 4 Y mc ms post (w_L_isLaid_l608 e0 m0 (some x) (some m) (some s) 4 Y mc ms post (rem + 1)) c2 n2 (ov S M) (nI j) (nI y) v9 := fun v9 c2 n2 g1 g2 g3 => by
        unfold w_L_isLaid_b639
        refine ⟨by omega, by omega, ?_⟩
        rw [qn_s]
        exact ih (y + 1) (by omega) v9 g3 c2 n2 g1 g2
      have b634 : ∀ c2 n2, c2 + rem + 70 ≤ mc → n2 + 6 * rem + 2100 ≤ ms → (¬ ∀ i, i < y + 1 → σ 13 (40 * j + i) = -1) → w_L_isLaid_b634 e0 m0 (some x) (some m) (some s) 4 Y mc ms post (w_L_isLaid_l608 e0 m0 (some x) (some m) (some s) 4 Y mc ms post (rem + 1)) c2 n2 (ov S M) (nI j) (nI y) := fun c2 n2 g1 g2 g3 => by
        unfold w_L_isLaid_b634
        exact ⟨by omega, by omega, b639 1 c2 n2 g1 g2 ⟨fun z => absurd z (by decide), fun z => absurd z g3⟩⟩
      refine ⟨by omega, by omega, s, rfl, ks, by rw [ns]; exact vin_nI (by omega) (by omega), fun z => ?_, fun _ => ⟨fun h8 => b634 _ _ (by omega) (by omega) (fun z => h8 (hv.mpr (fun i hi => z i (by omega)))), fun h8 => ⟨S, M, rfl, hd, x, rfl, ST_K H, 1, 6, by omega, by omega, ?_⟩⟩⟩
      · exfalso
        rw [as2, qn_le (by omega) (by omega)] at z; omega
      refine s_metre H hC _ _ _ 1 6 _ _ (Nat.le_refl _) (Nat.le_refl _) (fun hq => absurd (q_metre_0 F hj (show y < z_len σ j by omega) ⟨by decide, by decide⟩) hq) (fun _ _ => ?_)
      rw [mw_2, mat_nI (by omega) (by omega)]
      refine ⟨fun z => b639 0 _ _ (by omega) (by omega) ⟨fun _ i hi => ?_, fun _ => rfl⟩, fun z => b634 _ _ (by omega) (by omega) (fun g => (hn13 _).mp z (g y (by omega)))⟩
      by_cases e : i = y
      · rw [e]
        exact Classical.byContradiction (fun g => (hn13 _).mpr g z)
      · exact hv.mp h8 i (by omega)
  unfold w_L_isLaid_b527
  exact ⟨by omega, by omega, fun _ => ⟨fun z => absurd rfl z, fun _ => ⟨z_len σ j + 1, loop (z_len σ j) 0 (by omega) 0 ⟨fun _ i hi => absurd hi (Nat.not_lt_zero i), fun _ => rfl⟩ c0 n0 (by omega) (by omega)⟩⟩, fun z => absurd z (by decide)⟩
end LD2
