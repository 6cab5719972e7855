/-! a street is told of -/
section LD0
variable {u9 v9 e0 m0 x o m s w : Nat} {S M : PT} {σ : SG} {μ : MU} {C cap t : Nat} {n : Nat → Nat} {h : Nat}
theorem LA_street {fm fs fw : Nat → Int32} (F : SF σ n h) (A : LA σ fm fs fw) (h6 : n 5 < 6) {v1 v2 v3 g : Int32} (b1 : 2 ≤ v1.toInt) (b2 : v1.toInt ≤ 13) : LA (u_street σ v1 g v2 v3) (upd fm 1 (nI (n 5 + 1))) (upd (upd (upd fs (n 5) v1) (6 + n 5) v2) (12 + n 5) v3) fw := by
  have e5 := N5 F
  have hS : ∀ f j, f ≠ 1 → f ≠ 2 → f ≠ 3 → f ≠ 4 → f ≠ 5 → f ≠ 49 → (u_street σ v1 g v2 v3) f j = σ f j := fun f j a1 a2 a3 a4 a5 a9 => by
    unfold u_street
    rw [up2_f _ _ _ _ a1, up2_f _ _ _ _ a5, up2_f _ _ _ _ a4, up2_f _ _ _ _ a3, up2_f _ _ _ _ a2, up2_f _ _ _ _ a9]
  have h1 : (u_street σ v1 g v2 v3) 1 0 = nI (n 5 + 1) := by unfold u_street; rw [up2_s, F.1.1, qn_s]
  have h2 : (u_street σ v1 g v2 v3) 2 = upd (σ 2) (n 5) v1 := by
    unfold u_street
    rw [up2_g (by decide), up2_g (by decide), up2_g (by decide), up2_g (by decide), up2_sf, up2_g (by decide), e5]
  have h4 : (u_street σ v1 g v2 v3) 4 = upd (σ 4) (n 5) v2 := by
    unfold u_street
    rw [up2_g (by decide), up2_g (by decide), up2_sf, up2_g (by decide), up2_g (by decide), up2_g (by decide), e5]
  have h5' : (u_street σ v1 g v2 v3) 5 = upd (σ 5) (n 5) v3 := by
    unfold u_street
    rw [up2_g (by decide), up2_sf, up2_g (by decide), up2_g (by decide), up2_g (by decide), up2_g (by decide), e5]
  obtain ⟨⟨A0, A1, A2, A3⟩, AS, AW, A16⟩ := A
  rw [e5] at AS
  unfold LA
  rw [h1, qn_nat (show n 5 + 1 < 2147483648 by omega), h2, h4, h5']
  refine ⟨⟨?_, ?_, ?_, ?_⟩, fun j hj => ?_, ?_, ?_⟩
  · rw [upd_o _ _ (by decide), A0, hS 0 0 (by decide) (by decide) (by decide) (by decide) (by decide) (by decide)]
  · exact upd_s _ _ _
  · rw [upd_o _ _ (by decide), A2, hS 14 0 (by decide) (by decide) (by decide) (by decide) (by decide) (by decide)]
  · rw [upd_o _ _ (by decide), A3, hS 23 0 (by decide) (by decide) (by decide) (by decide) (by decide) (by decide)]
  · by_cases e : j = n 5
    · rw [e, upd_s, upd_s, upd_s, upd_o _ _ (show n 5 ≠ 12 + n 5 by omega), upd_o _ _ (show n 5 ≠ 6 + n 5 by omega), upd_s, upd_o _ _ (show 6 + n 5 ≠ 12 + n 5 by omega), upd_s, upd_s]
      exact ⟨rfl, rfl, rfl, b1, b2⟩
    · rw [upd_o (σ 2) _ e, upd_o (σ 4) _ e, upd_o (σ 5) _ e, upd_o _ _ (show j ≠ 12 + n 5 by omega), upd_o _ _ (show j ≠ 6 + n 5 by omega), upd_o _ _ e, upd_o _ _ (show 6 + j ≠ 12 + n 5 by omega), upd_o _ _ (show 6 + j ≠ 6 + n 5 by omega), upd_o _ _ (show 6 + j ≠ n 5 by omega), upd_o _ _ (show 12 + j ≠ 12 + n 5 by omega), upd_o _ _ (show 12 + j ≠ 6 + n 5 by omega), upd_o _ _ (show 12 + j ≠ n 5 by omega)]
      exact AS j (by omega)
  · rw [hS 23 0 (by decide) (by decide) (by decide) (by decide) (by decide) (by decide)]
    intro k hk
    rw [hS 25 k (by decide) (by decide) (by decide) (by decide) (by decide) (by decide), hS 26 k (by decide) (by decide) (by decide) (by decide) (by decide) (by decide), hS 27 k (by decide) (by decide) (by decide) (by decide) (by decide) (by decide), hS 24 k (by decide) (by decide) (by decide) (by decide) (by decide) (by decide), hS 28 k (by decide) (by decide) (by decide) (by decide) (by decide) (by decide)]
    exact AW k hk
  · rw [hS 23 0 (by decide) (by decide) (by decide) (by decide) (by decide) (by decide)]
    exact A16
theorem lf_street (a b c d : Int32) : ∀ f, lf f → (u_street σ a b c d) f = σ f := fun f hf => by
  funext j
  unfold u_street
  rcases hf with rfl | rfl | rfl | rfl | rfl | rfl | rfl | rfl | rfl | rfl | rfl | rfl | rfl | rfl <;> simp only [up2_f, ne_eq, Nat.reduceEqDiff, not_false_eq_true]
set_option maxHeartbeats 1000000 in
theorem laid0_b64 (L : LW u9 v9 e0 x m s w S M σ μ C cap t) (F : SF σ n h) (H : ST e0 x o S σ μ C cap) (ht : t ≤ 140) (h6 : n 5 < 6) {Y : Nat} (hY : Y < 2147483648) {v3 : Int32} (h3 : v3 = -1 ∨ ∃ j, j < n 5 ∧ v3 = nI j) {how : Int32} {mc ms c0 n0 : Nat} {post : Int32 → PT → Prop} (hmc : c0 + 60 ≤ mc) (hms : n0 + 2000 ≤ ms) {a9 : Nat} (hu : a9 ≤ u9 ∨ a9 = 1) (k : ∀ S' M' σ' μ' C', LW a9 v9 e0 x m s w S' M' σ' μ' C' cap (t + 1) → post 1 (ov S' M')) : w_L_isLaid_b64 e0 m0 (some x) (some m) (some s) how (nI Y) mc ms post c0 n0 (ov S M) v3 := by
  have hC : C < 512 := by have := L.2.2.2.2.2.1; omega
  have hd := L.2.1
  have ma := L.2.2.1
  have hA := L.2.2.2.1
  have e12 : nI Y - nI Y / 12 * 12 = nI (Y % 12) := irem_nI (b := 12) hY (by omega) (by omega)
  have ed12 : nI Y / 12 = nI (Y / 12) := idiv_nI (b := 12) hY (by omega) (by omega)
  have e400 : (nI Y / 12) - (nI Y / 12) / 400 * 400 = nI (Y / 12 % 400) := by rw [ed12]; exact irem_nI (b := 400) (by omega) (by omega) (by omega)
  have ed5 : nI Y / 5 = nI (Y / 5) := idiv_nI (b := 5) hY (by omega) (by omega)
  have e4 : (nI Y / 5) - (nI Y / 5) / 4 * 4 = nI (Y / 5 % 4) := by rw [ed5]; exact irem_nI (b := 4) (by omega) (by omega) (by omega)
  have A1 : gA M m 1 = nI (n 5) := by rw [hA.1.2.1]; exact F.1.1
  have ma1 := MA_s ma (n 5) (2 + nI (Y % 12))
  have ma2 := MA_s ma1 (6 + n 5) (nI (Y / 12 % 400))
  have ma3 := MA_s ma2 (12 + n 5) v3
  have ma4 := MA_m ma3 1 (nI (n 5 + 1))
  obtain ⟨⟨km, nm, am⟩, ⟨ks, ns, as9⟩, -⟩ := MA_ov ma S
  obtain ⟨⟨km1, nm1, am1⟩, ⟨ks1, ns1, as1⟩, -⟩ := MA_ov ma1 S
  obtain ⟨⟨km2, nm2, am2⟩, ⟨ks2, ns2, as2⟩, -⟩ := MA_ov ma2 S
  obtain ⟨⟨km3, nm3, am3⟩, ⟨ks3, ns3, as3⟩, -⟩ := MA_ov ma3 S
  obtain ⟨⟨km4, nm4, am4⟩, ⟨ks4, ns4, as4⟩, -⟩ := MA_ov ma4 S
  have v1 : vp_in 1 4 := vin_nI (k := 1) (by omega) (by omega)
  have q5 : (nI (n 5)).toNatClampNeg = n 5 := qn_nat (by omega)
  have a6 : (6 : Int32) + nI (n 5) = nI (6 + n 5) := qn_add 6 _
  have a12 : (12 : Int32) + nI (n 5) = nI (12 + n 5) := qn_add 12 _
  have q6 : (nI (6 + n 5)).toNatClampNeg = 6 + n 5 := qn_nat (by omega)
  have q12 : (nI (12 + n 5)).toNatClampNeg = 12 + n 5 := qn_nat (by omega)
  have s1 : nI (n 5 + 1) - 1 = nI (n 5) := isub_nI (b := 1) (by omega) (by omega)
  have p5 : (5 : Int32) + nI (n 5 + 1) = nI (6 + n 5) := by
    have := qn_add 5 (n 5 + 1)
    rw [show 5 + (n 5 + 1) = 6 + n 5 by omega] at this
    exact this
  have u1 : ∀ v : Int32, upd (gA M m) 1 v 1 = v := fun v => upd_s _ _ _
  have r1 : upd (upd (upd (gA M s) (n 5) (2 + nI (Y % 12))) (6 + n 5) (nI (Y / 12 % 400))) (12 + n 5) v3 (n 5) = 2 + nI (Y % 12) := by
    rw [upd_o _ _ (show n 5 ≠ 12 + n 5 by omega), upd_o _ _ (show n 5 ≠ 6 + n 5 by omega), upd_s]
  have r2 : upd (upd (upd (gA M s) (n 5) (2 + nI (Y % 12))) (6 + n 5) (nI (Y / 12 % 400))) (12 + n 5) v3 (6 + n 5) = nI (Y / 12 % 400) := by
    rw [upd_o _ _ (show 6 + n 5 ≠ 12 + n 5 by omega), upd_s]
  unfold w_L_isLaid_b64
  rw [e12, e400, e4]
  refine ⟨by omega, by omega, m, rfl, km, by rw [nm]; exact v1, s, rfl, ks, ?_⟩
  rw [cl_1, am, A1, q5]
  refine ⟨by rw [ns]; exact vin_nI (by omega) (by omega), ?_⟩
  rintro _ rfl
  rw [ov_sA ma.2.1.1, am1, A1, a6, q6]
  refine ⟨by rw [nm1]; exact v1, by rw [ns1]; exact vin_nI (by omega) (by omega), ?_⟩
  rintro _ rfl
  rw [ov_sA ma1.2.1.1, am2, A1, a12, q12]
  refine ⟨by rw [nm2]; exact v1, by rw [ns2]; exact vin_nI (by omega) (by omega), ?_⟩
  rintro _ rfl
  rw [ov_sA ma2.2.1.1, am3, A1, qn_s]
  refine ⟨by rw [nm3]; exact v1, by rw [nm3]; exact v1, ?_⟩
  rintro _ rfl
  rw [ov_sA ma3.1.1, am4, as4, u1, s1, p5, q5, q6, r1, r2]
  refine ⟨by rw [nm4]; exact v1, by rw [ns4]; exact vin_nI (by omega) (by omega), by rw [nm4]; exact v1, by rw [ns4]; exact vin_nI (by omega) (by omega), 60, 2000, by omega, by omega, ?_⟩
  have hd4 : dis S (sA (sA (sA (sA M s (n 5) (2 + nI (Y % 12))) s (6 + n 5) (nI (Y / 12 % 400))) s (12 + n 5) v3) m 1 (nI (n 5 + 1))) := hd
  have tv1 : (2 + nI (Y % 12)).toInt = 2 + ((Y % 12 : Nat) : Int) := by rw [tadd, nI_toInt (by omega), tl_2]; omega
  have hq : q_street σ (2 + nI (Y % 12)) (nI (Y / 5 % 4)) (nI (Y / 12 % 400)) v3 = 0 := by
    unfold q_street
    rw [iT_F, iT_F, iT_F]
    · rw [F.1.1, ieq, nI_toInt (by omega), tl_6]; omega
    · intro z
      refine z ⟨⟨?_, ?_⟩, ⟨?_, ?_⟩, ?_, ?_⟩
      · rw [ile, tv1, tl_1]; omega
      · rw [ile, tv1, tl_40]; omega
      · rw [ile, I0, nI_toInt (by omega)]; omega
      · rw [ile, nI_toInt (by omega), tl_3]; omega
      · rw [ile, I0, nI_toInt (by omega)]; omega
      · rw [ile, nI_toInt (by omega), tl_999]; omega
    · rintro ⟨z1, z2⟩
      rcases h3 with e | ⟨j, hj, e⟩
      · exact z1 e
      · rw [e] at z2; exact z2 (in_s F hj)
  have hLA := LA_street (v1 := 2 + nI (Y % 12)) (v2 := nI (Y / 12 % 400)) (v3 := v3) (g := nI (Y / 5 % 4)) F hA h6 (by omega) (by omega)
  have hgr : a9 ≤ (u_street σ (2 + nI (Y % 12)) (nI (Y / 5 % 4)) (nI (Y / 12 % 400)) v3 1 0).toNatClampNeg ∧ v9 ≤ (u_street σ (2 + nI (Y % 12)) (nI (Y / 5 % 4)) (nI (Y / 12 % 400)) v3 23 0).toNatClampNeg := by
    have e1 := hLA.1.2.1.symm.trans (upd_s _ _ _)
    have e23 := hLA.1.2.2.2.symm.trans (upd_o _ _ (show 3 ≠ 1 by decide))
    have g := L.2.2.2.2.2.1
    rw [e1, e23, hA.1.2.2.2, qn_nat (by omega)]
    rw [N5 F] at g
    exact ⟨by omega, g.2.2⟩
  refine a_street H hC hd4 _ _ _ _ _ (Nat.le_refl _) (Nat.le_refl _) (fun z => absurd hq z) (fun _ S' hd' H' => ?_)
  obtain ⟨⟨km5, nm5, am5⟩, -, -⟩ := MA_ov ma4 S'
  refine ⟨km5, by rw [nm5]; exact v1, ?_⟩
  rw [am5, u1, s1, F.1.1, qn_s, s1]
  refine ⟨fun z => absurd rfl z, fun _ => ?_⟩
  unfold w_L_isLaid_b153
  refine ⟨by omega, by omega, bo_1, k _ _ _ _ _ (LW_mk2 H' hd' ma4 hLA (LI_c (lf_street _ _ _ _) (LI_up L.2.2.2.2.1 (by omega))) (by have := L.2.2.2.2.2.1; omega) hgr L.2.2.2.2.2.2)⟩
theorem LW_n (L : LW u9 v9 e0 x m s w S M σ μ C cap t) (F : SF σ n h) : gA M m 0 = σ 0 0 ∧ gA M m 1 = nI (n 5) ∧ gA M m 2 = nI (n 7) ∧ gA M m 3 = nI (n 8) := by
  obtain ⟨-, -, -, ⟨⟨A0, A1, A2, A3⟩, -⟩, -⟩ := L
  exact ⟨A0, A1.trans F.1.1, A2.trans F.1.2.2.1, A3.trans F.1.2.2.2.2.1⟩
theorem laid0_ok (L : LW u9 v9 e0 x m s w S M σ μ C cap t) (ht : t ≤ 140) {Y : Nat} (hY : Y < 2147483648) {how : Int32} {mc ms c0 n0 : Nat} {post : Int32 → PT → Prop} (hmc : c0 + 60 ≤ mc) (hms : n0 + 2000 ≤ ms) {a9 : Nat} (hu : a9 ≤ u9 ∨ a9 = 1) (k : ∀ S' M' σ' μ' C', LW a9 v9 e0 x m s w S' M' σ' μ' C' cap (t + 1) → post 1 (ov S' M')) : w_L_isLaid_b10 e0 m0 (some x) (some m) (some s) how (nI Y) mc ms post c0 n0 (ov S M) := by
  obtain ⟨o, H⟩ := L.1
  obtain ⟨n, h, F, -⟩ := ST_SF H
  have hC : C < 512 := by have := L.2.2.2.2.2.1; omega
  obtain ⟨⟨km, nm, am⟩, -, -⟩ := LW_rows L F
  obtain ⟨-, A1, -, -⟩ := LW_n L F
  have h5 : n 5 ≤ 6 := F.1.2.1
  have v1 : vp_in 1 (gN (ov S M) m) := by rw [nm]; exact vin_nI (k := 1) (by omega) (by omega)
  unfold w_L_isLaid_b10
  refine ⟨by omega, by omega, m, rfl, km, v1, ?_⟩
  rw [cl_1, am, A1]
  refine ⟨fun h6 => ?_, fun h6 => ?_⟩
  · have h6' : n 5 < 6 := by
      have : ¬ n 5 = 6 := fun e => h6 (by rw [e]; rfl)
      omega
    have b52 : w_L_isLaid_b52 e0 m0 (some x) (some m) (some s) how (nI Y) mc ms post c0 n0 (ov S M) := by
      unfold w_L_isLaid_b52
      exact ⟨by omega, by omega, laid0_b64 L F H ht h6' hY (Or.inl rfl) hmc hms hu k⟩
    refine ⟨fun _ => b52, fun _ => ⟨v1, fun hne => ⟨v1, hne, ?_⟩, fun _ => b52⟩⟩
    have p5 : 0 < n 5 := by
      rcases Nat.eq_zero_or_pos (n 5) with z | z
      · exact absurd (by rw [z]; rfl) hne
      · exact z
    have e3 : nI Y / 3 = nI (Y / 3) := idiv_nI (b := 3) hY (by omega) (by omega)
    rw [e3, irem_nI (by omega) p5 (by omega)]
    exact laid0_b64 L F H ht h6' hY (Or.inr ⟨_, Nat.mod_lt _ p5, rfl⟩) hmc hms hu k
  · refine ⟨60, 2000, by omega, by omega, ?_⟩
    have hq : q_street σ 5 0 0 (-1) = 3 := by
      unfold q_street
      rw [iT_F (fun z => z.1 rfl), iT_F (fun z => z (by decide)), iT_T (F.1.1.trans h6)]
    refine ra_street H hC L.2.1 _ _ _ _ _ hq (by decide) cA_3 _ _ _ (Nat.le_refl _) (Nat.le_refl _) ⟨fun z => absurd rfl z, fun _ => ?_⟩
    unfold w_L_isLaid_b38
    exact ⟨by omega, by omega, bo_1, k _ _ _ _ _ (LW_gr (LW_up L) (by have g := L.2.2.2.2.2.1; rw [N5 F] at g ⊢; have e6 : n 5 = 6 := (qn_eq (b := 6) (by omega) (by omega)).mp h6; omega) L.2.2.2.2.2.1.2.2)⟩
end LD0
