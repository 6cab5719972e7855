/-! a thing is laid; all that is laid -/
section LD3
variable {u9 v9 e0 m0 x o m s w : Nat} {S M : PT} {σ : SG} {μ : MU} {C cap t : Nat} {n : Nat → Nat} {h : Nat} {fm fs fw : Nat → Int32}
theorem thing_f (a b c d e : Int32) {f : Nat} (h12 : f ≠ 12) (h14 : f ≠ 14) (h15 : f ≠ 15) (h16 : f ≠ 16) (h17 : f ≠ 17) (h18 : f ≠ 18) (h19 : f ≠ 19) (h49 : f ≠ 49) : (u_thing σ a b c d e) f = σ f := by
  funext j
  unfold u_thing
  rw [up2_f _ _ _ _ h14, z_uns_f _ _ _ _ h12, up2_f _ _ _ _ h19, up2_f _ _ _ _ h18, up2_f _ _ _ _ h17, up2_f _ _ _ _ h16, up2_f _ _ _ _ h15, up2_f _ _ _ _ h49]
theorem fr_thing (a b c d e : Int32) : (∀ f, lf f → (u_thing σ a b c d e) f = σ f) ∧ (∀ f, la f → f ≠ 14 → (u_thing σ a b c d e) f = σ f) := by
  refine ⟨fun f hf => ?_, fun f hf h14 => ?_⟩
  · unfold lf at hf
    exact thing_f _ _ _ _ _ (by omega) (by omega) (by omega) (by omega) (by omega) (by omega) (by omega) (by omega)
  · unfold la at hf
    exact thing_f _ _ _ _ _ (by omega) (by omega) (by omega) (by omega) (by omega) (by omega) (by omega) (by omega)
theorem LA_14 {σ' : SG} (hf : ∀ f, la f → f ≠ 14 → σ' f = σ f) (v : Int32) (h14 : σ' 14 0 = v) (A : LA σ fm fs fw) : LA σ' (upd fm 2 v) fs fw := by
  obtain ⟨⟨A0, A1, A2, A3⟩, AS, AW, A16⟩ := A
  unfold LA
  rw [hf 0 (by unfold la; omega) (by decide), hf 1 (by unfold la; omega) (by decide), hf 2 (by unfold la; omega) (by decide), hf 4 (by unfold la; omega) (by decide), hf 5 (by unfold la; omega) (by decide), hf 23 (by unfold la; omega) (by decide), hf 24 (by unfold la; omega) (by decide), hf 25 (by unfold la; omega) (by decide), hf 26 (by unfold la; omega) (by decide), hf 27 (by unfold la; omega) (by decide), hf 28 (by unfold la; omega) (by decide)]
  exact ⟨⟨by rw [upd_o _ _ (by decide)]; exact A0, by rw [upd_o _ _ (by decide)]; exact A1, by rw [upd_s, h14], by rw [upd_o _ _ (by decide)]; exact A3⟩, AS, AW, A16⟩
set_option maxRecDepth 100000 in
set_option maxHeartbeats 1000000 in
theorem laid1_ok (L : LW u9 v9 e0 x m s w S M σ μ C cap t) (H : ST e0 x o S σ μ C cap) (F : SF σ n h) (ht : t ≤ 140) (h30 : ¬ nI (n 7) = 30) {j a b p d : Nat} (hj : j < n 5) (hab : a ≤ b) (hb : b < z_len σ j) (hp : p < 5) (hd9 : d < 250) {Y : Int32} {mc ms : Nat} {post : Int32 → PT → Prop} (hmc : 300 ≤ mc) (hms : 10000 ≤ ms) (kk : ∀ S' M' σ' μ' C', LW u9 v9 e0 x m s w S' M' σ' μ' C' cap (t + 1) → post 1 (ov S' M')) : w_L_act e0 m0 (some x) 3 (nI p) (nI j) (nI a) (nI b) (10 + nI d) (ov S (sA M m 2 (nI (n 7) + 1))) 60 2000 (fun r212 S211 => gK S211 m = 12 ∧ vp_in 2 (gN S211 m) ∧ (¬ r212 = ((gA S211 m ((2 : Int32).toNatClampNeg)) - 1) → w_L_isLaid_b275 e0 m0 (some x) (some m) (some s) 1 Y mc ms post (0 + 60) (0 + 2000) S211 (nI j) (nI a) (nI b) 0) ∧ (r212 = ((gA S211 m ((2 : Int32).toNatClampNeg)) - 1) → w_L_isLaid_b275 e0 m0 (some x) (some m) (some s) 1 Y mc ms post (0 + 60) (0 + 2000) S211 (nI j) (nI a) (nI b) 1)) := by
  have hC : C < 512 := by have := L.2.2.2.2.2.1; omega
  have hd := L.2.1
  have h5 : n 5 ≤ 6 := F.1.2.1
  have h7 : n 7 ≤ 30 := F.1.2.2.2.1
  have h7' : n 7 < 30 := by
    have : ¬ n 7 = 30 := fun e => h30 (by rw [e]; rfl)
    omega
  have l40 := (len_2 F j).2
  have qj : (nI j).toNatClampNeg = j := qn_nat (by omega)
  have qa : (nI a).toNatClampNeg = a := qn_nat (by omega)
  have qb : (nI b).toNatClampNeg = b := qn_nat (by omega)
  have q7 : (nI (n 7)).toNatClampNeg = n 7 := qn_nat (by omega)
  have e14 : (σ 14 0).toNatClampNeg = n 7 := N7 F
  rw [qn_s]
  have ma1 := MA_m L.2.2.1 2 (nI (n 7 + 1))
  have td : (10 + nI d).toInt = 10 + (d : Int) := by rw [tadd, nI_toInt (by omega), tl_10]; omega
  have hq : q_thing σ (nI p) (nI j) (nI a) (nI b) (10 + nI d) = 0 := by
    unfold q_thing
    rw [iT_F, iT_F, iT_F]
    · rw [F.1.2.2.1]; exact h30
    · intro z
      refine z ⟨?_, ?_, ?_⟩
      · rw [qn_lt (by omega) (by omega)]; omega
      · rw [ile, td, tl_10]; omega
      · rw [ile, td, tl_300]; omega
    · intro z
      refine z ⟨⟨?_, ?_⟩, in_mt F hj (by omega), in_mt F hj hb⟩
      · rw [ile, I0, nI_toInt (by omega)]; omega
      · rw [ile, nI_toInt (by omega), tl_4]; omega
  have fr := fr_thing (σ := σ) (nI p) (nI j) (nI a) (nI b) (10 + nI d)
  have hd1 : dis S (sA M m 2 (nI (n 7 + 1))) := hd
  refine a_thing H hC hd1 _ _ _ _ _ (Nat.le_refl _) (Nat.le_refl _) (fun z => absurd hq z) (fun _ S1 hd2 H1 => ?_)
  obtain ⟨⟨km, nm, am⟩, -, -⟩ := MA_ov ma1 S1
  have v2 : vp_in 2 4 := vin_nI (k := 2) (by omega) (by omega)
  have s1 : nI (n 7 + 1) - 1 = nI (n 7) := isub_nI (b := 1) (by omega) (by omega)
  rw [cl_2, am, upd_s, F.1.2.2.1, qn_s, s1]
  refine ⟨km, by rw [nm]; exact v2, fun z => absurd rfl z, fun _ => ?_⟩
  have g14 : (u_thing σ (nI p) (nI j) (nI a) (nI b) (10 + nI d)) 14 0 = nI (n 7 + 1) := by
    unfold u_thing; rw [up2_s, F.1.2.2.1, qn_s]
  have g12 : ∀ y, a ≤ y → y ≤ b → (u_thing σ (nI p) (nI j) (nI a) (nI b) (10 + nI d)) 12 (40 * j + y) = 0 := fun y h1 h2 => by
    unfold u_thing
    rw [up2_f _ _ _ _ (by decide)]
    unfold z_uns
    rw [qj, qa, qb]
    exact if_pos ⟨rfl, by omega, by omega⟩
  have g16 : (u_thing σ (nI p) (nI j) (nI a) (nI b) (10 + nI d)) 16 (n 7) = nI j := by
    unfold u_thing
    rw [up2_f _ _ _ _ (by decide), z_uns_f _ _ _ _ (by decide), up2_f _ _ _ _ (by decide), up2_f _ _ _ _ (by decide), up2_f _ _ _ _ (by decide), e14, up2_s]
  have g17 : (u_thing σ (nI p) (nI j) (nI a) (nI b) (10 + nI d)) 17 (n 7) = nI a := by
    unfold u_thing
    rw [up2_f _ _ _ _ (by decide), z_uns_f _ _ _ _ (by decide), up2_f _ _ _ _ (by decide), up2_f _ _ _ _ (by decide), e14, up2_s]
  have g18 : (u_thing σ (nI p) (nI j) (nI a) (nI b) (10 + nI d)) 18 (n 7) = nI b := by
    unfold u_thing
    rw [up2_f _ _ _ _ (by decide), z_uns_f _ _ _ _ (by decide), up2_f _ _ _ _ (by decide), e14, up2_s]
  have g20 : (u_thing σ (nI p) (nI j) (nI a) (nI b) (10 + nI d)) 20 (n 7) = 0 := by
    rw [thing_f _ _ _ _ _ (by decide) (by decide) (by decide) (by decide) (by decide) (by decide) (by decide) (by decide)]
    exact F.2.2.2.2.2.2.2.2.1 (n 7) (Nat.le_refl _)
  have LAn := LA_14 fr.2 _ g14 L.2.2.2.1
  have LIn := LI_c fr.1 (LI_up L.2.2.2.2.1 (show t ≤ t + 1 by omega))
  obtain ⟨n1, h1, F1, -⟩ := ST_SF H1
  have e5 : n1 5 = n 5 := by
    have g : (u_thing σ (nI p) (nI j) (nI a) (nI b) (10 + nI d)) 1 0 = σ 1 0 := congrFun (fr.1 1 |> fun _ => thing_f _ _ _ _ _ (by decide) (by decide) (by decide) (by decide) (by decide) (by decide) (by decide) (by decide)) 0
    have a1 := N5 F1
    rw [g, N5 F] at a1
    exact a1.symm
  have e7 : n1 7 = n 7 + 1 := by
    have a1 := N7 F1
    rw [g14, qn_nat (by omega)] at a1
    exact a1.symm
  have el : z_len (u_thing σ (nI p) (nI j) (nI a) (nI b) (10 + nI d)) j = z_len σ j := by
    unfold z_len; rw [thing_f _ _ _ _ _ (by decide) (by decide) (by decide) (by decide) (by decide) (by decide) (by decide) (by decide)]
  generalize hσ : u_thing σ (nI p) (nI j) (nI a) (nI b) (10 + nI d) = σ1 at *
  have hqs : q_survey σ1 (nI (n 7)) = 2 := by
    unfold q_survey
    rw [iT_F (fun z => z (in_t F1 (by omega))), q7, iT_T]
    rintro ⟨y, hy, ⟨z1, z2⟩, z3⟩
    rw [g17, qn_le (by omega) (by omega)] at z1
    rw [g18, qn_le (by omega) (by omega)] at z2
    rw [g16, qj] at z3
    exact z3 (g12 y z1 z2)
  have loop : ∀ rem y, y + rem = b + 1 → a ≤ y → ∀ c1 n9, c1 + rem + 130 ≤ mc → n9 + 6 * rem + 4100 ≤ ms → w_L_isLaid_l281 e0 m0 (some x) (some m) (some s) 1 Y mc ms post (rem + 1) c1 n9 (ov S1 (sA M m 2 (nI (n 7 + 1)))) (nI j) (nI b) 1 (nI y) := by
    intro rem
    induction rem with
    | zero =>
      intro y hy hay c1 n9 hc hn
      refine ⟨by omega, by omega, fun _ => ⟨fun z => absurd z (by decide), fun _ => ⟨m, rfl, km, by rw [nm]; exact v2, 60, 2000, by omega, by omega, ?_⟩⟩, fun z => absurd ?_ z⟩
      · rw [cl_2, am, upd_s, s1]
        refine ra_survey H1 hC hd2 _ _ _ _ _ hqs (by decide) cQ_2 _ _ _ (Nat.le_refl _) (Nat.le_refl _) ?_
        refine ⟨fun z => absurd rfl z, fun _ => ⟨km, by rw [nm]; exact v2, 60, 2000, by omega, by omega, ?_⟩⟩
        rw [am, upd_s, s1]
        refine a_lose H1 hC hd2 _ _ _ _ _ (Nat.le_refl _) (Nat.le_refl _) (fun z => absurd (q_lose_0 F1 (by omega)) z) (fun _ S2 hd3 H2 => ?_)
        rw [q7, g20, iT_T rfl]
        have fr2 := fr_lose (σ := σ1) (nI (n 7))
        refine ⟨fun z => absurd rfl z, fun _ => ?_⟩
        unfold w_L_isLaid_b365
        exact ⟨by omega, by omega, bo_1, kk _ _ _ _ _ (LW_mk2 H2 hd3 ma1 (LA_c fr2.2 LAn) (LI_c fr2.1 LIn) (by have := L.2.2.2.2.2.1; omega) (LA_gr L (LA_c fr2.2 LAn) (upd_o _ _ (by decide)) (upd_o _ _ (by decide))) L.2.2.2.2.2.2)⟩
      · rw [qn_lt (by omega) (by omega)]; omega
    | succ rem ih =>
      intro y hy hay c1 n9 hc hn
      refine ⟨by omega, by omega, fun z => ?_, fun _ => ⟨fun z => absurd z (by decide), fun _ => ⟨S1, _, rfl, hd2, x, rfl, ST_K H1, 1, 6, by omega, by omega, ?_⟩⟩⟩
      · exfalso
        rw [qn_lt (by omega) (by omega)] at z; omega
      refine s_metre H1 hC _ _ _ 1 6 _ _ (Nat.le_refl _) (Nat.le_refl _) (fun hq => absurd (q_metre_0 F1 (show j < n1 5 by omega) (show y < z_len σ1 j by omega) ⟨by decide, by decide⟩) hq) (fun _ _ => ?_)
      rw [mw_1, mat_nI (by omega) (by omega), g12 y hay (by omega), iT_T rfl]
      refine ⟨fun z => absurd rfl z, fun _ => ?_⟩
      unfold w_L_isLaid_b310
      refine ⟨by omega, by omega, ?_⟩
      rw [qn_s]
      exact ih (y + 1) (by omega) (by omega) _ _ (by omega) (by omega)
  unfold w_L_isLaid_b275
  exact ⟨by omega, by omega, b + 1 - a + 1, loop (b + 1 - a) a (by omega) (Nat.le_refl _) _ _ (by omega) (by omega)⟩
end LD3
