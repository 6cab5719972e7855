/-! what is laid: things, records, trial holes, surfaces, embargoes -/
section LD1
variable {u9 v9 e0 m0 x o m s w : Nat} {S M : PT} {σ : SG} {μ : MU} {C cap t : Nat} {n : Nat → Nat} {h : Nat}
theorem cN_5 {P : Nat → Prop} (k : Nat) (hP : ∀ y, y < k → P y → y < 5) : cN P k ≤ 5 := by
  by_cases e : k ≤ 5
  · have := cN_le P k; omega
  · rw [cN_more k (show 5 ≤ k by omega) (fun q h1 h2 hp => by have := hP q h2 hp; omega)]
    exact cN_le P 5
theorem bh_le (F : SF σ n h) {f i : Nat} (h0 : bl f = 0) {b : Nat} (hb : bh f = (b : Int)) : σ f i = nI (σ f i).toNatClampNeg ∧ (σ f i).toNatClampNeg ≤ b := by
  have := nf F.2.2.2.1 f i h0
  rw [hb] at this
  exact ⟨this.1, by omega⟩
theorem fr_record (a b c d : Int32) : (∀ f, lf f → (u_record σ a b c d) f = σ f) ∧ (∀ f, la f → (u_record σ a b c d) f = σ f) := by
  refine ⟨fun f hf => ?_, fun f hf => ?_⟩
  · funext j
    unfold u_record
    rcases hf with rfl | rfl | rfl | rfl | rfl | rfl | rfl | rfl | rfl | rfl | rfl | rfl | rfl | rfl <;> simp only [up2_f, ne_eq, Nat.reduceEqDiff, not_false_eq_true]
  · funext j
    unfold u_record
    rcases hf with rfl | rfl | rfl | rfl | rfl | rfl | rfl | rfl | rfl | rfl | rfl | rfl <;> simp only [up2_f, ne_eq, Nat.reduceEqDiff, not_false_eq_true]
theorem fr_survey (a : Int32) : (∀ f, lf f → (u_survey σ a) f = σ f) ∧ (∀ f, la f → (u_survey σ a) f = σ f) := by
  refine ⟨fun f hf => ?_, fun f hf => ?_⟩
  · funext j
    unfold u_survey
    rcases hf with rfl | rfl | rfl | rfl | rfl | rfl | rfl | rfl | rfl | rfl | rfl | rfl | rfl | rfl <;> simp only [up2_f, ne_eq, Nat.reduceEqDiff, not_false_eq_true]
  · funext j
    unfold u_survey
    rcases hf with rfl | rfl | rfl | rfl | rfl | rfl | rfl | rfl | rfl | rfl | rfl | rfl <;> simp only [up2_f, ne_eq, Nat.reduceEqDiff, not_false_eq_true]
theorem fr_lose (a : Int32) : (∀ f, lf f → (u_lose σ a) f = σ f) ∧ (∀ f, la f → (u_lose σ a) f = σ f) := by
  refine ⟨fun f hf => ?_, fun f hf => ?_⟩
  · funext j
    unfold u_lose
    rcases hf with rfl | rfl | rfl | rfl | rfl | rfl | rfl | rfl | rfl | rfl | rfl | rfl | rfl | rfl <;> simp only [up2_f, ne_eq, Nat.reduceEqDiff, not_false_eq_true]
  · funext j
    unfold u_lose
    rcases hf with rfl | rfl | rfl | rfl | rfl | rfl | rfl | rfl | rfl | rfl | rfl | rfl <;> simp only [up2_f, ne_eq, Nat.reduceEqDiff, not_false_eq_true]
theorem fr_trial (a b : Int32) : (∀ f, lf f → (u_trial σ a b) f = σ f) ∧ (∀ f, la f → (u_trial σ a b) f = σ f) := by
  refine ⟨fun f hf => ?_, fun f hf => ?_⟩
  · funext j
    unfold u_trial
    rcases hf with rfl | rfl | rfl | rfl | rfl | rfl | rfl | rfl | rfl | rfl | rfl | rfl | rfl | rfl <;> simp only [up2_f, ne_eq, Nat.reduceEqDiff, not_false_eq_true]
  · funext j
    unfold u_trial
    rcases hf with rfl | rfl | rfl | rfl | rfl | rfl | rfl | rfl | rfl | rfl | rfl | rfl <;> simp only [up2_f, ne_eq, Nat.reduceEqDiff, not_false_eq_true]
theorem fr_surface (a : Int32) : (∀ f, lf f → (u_surface σ a) f = σ f) ∧ (∀ f, la f → (u_surface σ a) f = σ f) := by
  refine ⟨fun f hf => ?_, fun f hf => ?_⟩
  · funext j
    unfold u_surface
    rcases hf with rfl | rfl | rfl | rfl | rfl | rfl | rfl | rfl | rfl | rfl | rfl | rfl | rfl | rfl <;> simp only [up2_f, ne_eq, Nat.reduceEqDiff, not_false_eq_true]
  · funext j
    unfold u_surface
    rcases hf with rfl | rfl | rfl | rfl | rfl | rfl | rfl | rfl | rfl | rfl | rfl | rfl <;> simp only [up2_f, ne_eq, Nat.reduceEqDiff, not_false_eq_true]
theorem fr_embargo (a b c : Int32) : (∀ f, lf f → (u_embargo σ a b c) f = σ f) ∧ (∀ f, la f → (u_embargo σ a b c) f = σ f) := by
  refine ⟨fun f hf => ?_, fun f hf => ?_⟩
  · funext j
    unfold u_embargo
    rcases hf with rfl | rfl | rfl | rfl | rfl | rfl | rfl | rfl | rfl | rfl | rfl | rfl | rfl | rfl <;> simp only [up2_f, ne_eq, Nat.reduceEqDiff, not_false_eq_true]
  · funext j
    unfold u_embargo
    rcases hf with rfl | rfl | rfl | rfl | rfl | rfl | rfl | rfl | rfl | rfl | rfl | rfl <;> simp only [up2_f, ne_eq, Nat.reduceEqDiff, not_false_eq_true]
/-- a thing's street -/
theorem SF_th (F : SF σ n h) {k : Nat} (hk : k < n 7) : ∃ j a b : Nat, σ 16 k = nI j ∧ σ 17 k = nI a ∧ σ 18 k = nI b ∧ j < n 5 ∧ a ≤ b ∧ b < z_len σ j := by
  obtain ⟨h1, h2, h3⟩ := F.2.2.2.2.1.2.1 k hk
  have b5 := bh_le F (f := 16) (i := k) rfl (b := 5) rfl
  have b6 := bh_le F (f := 17) (i := k) rfl (b := 39) rfl
  have b7 := bh_le F (f := 18) (i := k) rfl (b := 39) rfl
  refine ⟨_, _, _, b5.1, b6.1, b7.1, h1, ?_, h3⟩
  rw [b6.1, b7.1] at h2
  exact (qn_le (by omega) (by omega)).mp h2
theorem susN_rec (F : SF σ n h) {k y d : Nat} (hk : k < n 7) (hy : y < 2) (hd : d < 4) : ∃ c : Nat, 1 ≤ c ∧ c ≤ 5 ∧ z_susN (u_record σ (nI k) 0 (nI y) (nI d)) (nI k).toNatClampNeg = nI c := by
  have h7 : n 7 ≤ 30 := F.1.2.2.2.1
  obtain ⟨j, a, b, e16, -, -, hj, -, hb⟩ := SF_th F hk
  have l40 := (len_2 F j).2
  have qk : (nI k).toNatClampNeg = k := qn_nat (by omega)
  have g20 : (u_record σ (nI k) 0 (nI y) (nI d)) 20 k = 1 := by
    unfold u_record; rw [qk, up2_f _ _ _ _ (by decide), up2_f _ _ _ _ (by decide), up2_s]
  have g21 : (u_record σ (nI k) 0 (nI y) (nI d)) 21 k = 0 - nI d := by
    unfold u_record; rw [qk, up2_f _ _ _ _ (by decide), up2_s]
  have g22 : (u_record σ (nI k) 0 (nI y) (nI d)) 22 k = nI y + nI d := by
    unfold u_record; rw [qk, up2_s]
  have g16 : (u_record σ (nI k) 0 (nI y) (nI d)) 16 k = nI j := by
    unfold u_record; rw [up2_f _ _ _ _ (by decide), up2_f _ _ _ _ (by decide), up2_f _ _ _ _ (by decide), up2_f _ _ _ _ (by decide), e16]
  have g2 : (u_record σ (nI k) 0 (nI y) (nI d)) 2 = σ 2 := (fr_record _ _ _ _).2 2 (by unfold la; omega)
  have hl : z_len (u_record σ (nI k) 0 (nI y) (nI d)) ((u_record σ (nI k) 0 (nI y) (nI d)) 16 (nI k).toNatClampNeg).toNatClampNeg = z_len σ j := by
    unfold z_len; rw [qk, g16, g2, qn_nat (by have := F.1.2.1; omega)]
  unfold z_susN
  rw [hl, qk]
  refine ⟨_, ?_, ?_, rfl⟩
  · have := cN_pos (P := fun y9 => z_susB (u_record σ (nI k) 0 (nI y) (nI d)) k ((u_record σ (nI k) 0 (nI y) (nI d)) 16 k) (nI y9)) (m := z_len σ j) (i := 0) (by omega) (by
      unfold z_susB
      rw [g20, g21, g22]
      refine ⟨by decide, rfl, ?_, ?_⟩
      · rw [ile, tsub, nI_toInt (by omega), nI_toInt (by omega), I0]; omega
      · rw [ile, tadd, nI_toInt (by omega), nI_toInt (by omega), nI_toInt (by omega)]; omega)
    omega
  · refine cN_5 _ (fun y9 h9 hp => ?_)
    have := hp.2.2.2
    rw [g22, ile, tadd, nI_toInt (by omega), nI_toInt (by omega), nI_toInt (by omega)] at this
    omega
theorem susN_sur (F : SF σ n h) {k : Nat} (hk : k < n 7) : ¬ z_susN (u_survey σ (nI k)) (nI k).toNatClampNeg ≤ 0 := by
  have h7 : n 7 ≤ 30 := F.1.2.2.2.1
  obtain ⟨j, a, b, e16, e17, e18, hj, hab, hb⟩ := SF_th F hk
  have l40 := (len_2 F j).2
  have qk : (nI k).toNatClampNeg = k := qn_nat (by omega)
  have g20 : (u_survey σ (nI k)) 20 k = 1 := by
    unfold u_survey; rw [qk, up2_f _ _ _ _ (by decide), up2_f _ _ _ _ (by decide), up2_s]
  have g21 : (u_survey σ (nI k)) 21 k = nI a - 0 := by
    unfold u_survey; rw [qk, up2_f _ _ _ _ (by decide), up2_s, e17]
  have g22 : (u_survey σ (nI k)) 22 k = nI b + 0 := by
    unfold u_survey; rw [qk, up2_s, e18]
  have g16 : (u_survey σ (nI k)) 16 k = nI j := by
    unfold u_survey; rw [up2_f _ _ _ _ (by decide), up2_f _ _ _ _ (by decide), up2_f _ _ _ _ (by decide), up2_f _ _ _ _ (by decide), e16]
  have g2 : (u_survey σ (nI k)) 2 = σ 2 := (fr_survey _).2 2 (by unfold la; omega)
  have hl : z_len (u_survey σ (nI k)) ((u_survey σ (nI k)) 16 k).toNatClampNeg = z_len σ j := by
    unfold z_len; rw [g16, g2, qn_nat (by have := F.1.2.1; omega)]
  unfold z_susN
  rw [qk, hl]
  have p := cN_pos (P := fun y9 => z_susB (u_survey σ (nI k)) k ((u_survey σ (nI k)) 16 k) (nI y9)) (m := z_len σ j) (i := a) (by omega) (by
      unfold z_susB
      rw [g20, g21, g22]
      refine ⟨by decide, rfl, ?_, ?_⟩
      · rw [ile, tsub, nI_toInt (by omega), I0]; omega
      · rw [ile, tadd, nI_toInt (by omega), nI_toInt (by omega), I0]; omega)
  have l := cN_le (fun y9 => z_susB (u_survey σ (nI k)) k ((u_survey σ (nI k)) 16 k) (nI y9)) (z_len σ j)
  rw [ile, nI_toInt (by omega), I0]
  omega
theorem q_sur_again (k : Nat) (hk : k < 1000) (h0 : q_survey σ (nI k) = 0) : q_survey (u_survey σ (nI k)) (nI k) = 0 := by
  have qk : (nI k).toNatClampNeg = k := qn_nat (by omega)
  have hg : ∀ f j, f ≠ 20 → f ≠ 21 → f ≠ 22 → f ≠ 49 → (u_survey σ (nI k)) f j = σ f j := fun f j a b c d => by
    unfold u_survey; rw [up2_f _ _ _ _ c, up2_f _ _ _ _ b, up2_f _ _ _ _ a, up2_f _ _ _ _ d]
  have e : q_survey (u_survey σ (nI k)) (nI k) = q_survey σ (nI k) := by
    unfold q_survey aN z_sure
    simp only [hg 14 _ (by decide) (by decide) (by decide) (by decide), hg 17 _ (by decide) (by decide) (by decide) (by decide), hg 18 _ (by decide) (by decide) (by decide) (by decide), hg 16 _ (by decide) (by decide) (by decide) (by decide), hg 12 _ (by decide) (by decide) (by decide) (by decide)]
  rw [e]; exact h0
theorem q_lose_0 (F : SF σ n h) {k : Nat} (hk : k < n 7) : q_lose σ (nI k) = 0 := by unfold q_lose; rw [iT_F (fun z => z (in_t F hk))]
/-- records: told, lost or surveyed -/
theorem laid2_ok (L : LW u9 v9 e0 x m s w S M σ μ C cap t) (H : ST e0 x o S σ μ C cap) (F : SF σ n h) (ht : t ≤ 140) {k y d : Nat} (hk : k < n 7) (hy : y < 2) (hd : d < 4) {P9 : Prop} (hlen : ∀ j, j < n 5 → 2 ≤ z_len σ j) {Y how : Int32} {mc ms : Nat} {post : Int32 → PT → Prop} (hmc : 300 ≤ mc) (hms : 10000 ≤ ms) (kk : ∀ S' M' σ' μ' C', LW u9 v9 e0 x m s w S' M' σ' μ' C' cap (t + 1) → post 1 (ov S' M')) : w_L_act e0 m0 (some x) 4 (nI k) 0 (nI y) (nI d) 0 (ov S M) 60 2000 (fun r177 S176 => (P9 → ∃ m184 m185, (0 + 60) + m184 ≤ mc ∧ (0 + 2000) + m185 ≤ ms ∧ w_L_act e0 m0 (some x) 6 (nI k) 0 0 0 0 S176 m184 m185 (fun r183 S182 => (r177 ≤ 0 → w_L_isLaid_b525 e0 m0 (some x) (some m) (some s) how Y mc ms post ((0 + 60) + m184) ((0 + 2000) + m185) S182) ∧ (¬ r177 ≤ 0 → (8 < r177 → w_L_isLaid_b525 e0 m0 (some x) (some m) (some s) how Y mc ms post ((0 + 60) + m184) ((0 + 2000) + m185) S182) ∧ (¬ 8 < r177 → (r183 = (-1713000) → w_L_isLaid_b521 e0 m0 (some x) (some m) (some s) how Y mc ms post ((0 + 60) + m184) ((0 + 2000) + m185) S182) ∧ (¬ r183 = (-1713000) → (¬ r183 = r177 → w_L_isLaid_b525 e0 m0 (some x) (some m) (some s) how Y mc ms post ((0 + 60) + m184) ((0 + 2000) + m185) S182) ∧ (r183 = r177 → ∃ m190 m191, ((0 + 60) + m184) + m190 ≤ mc ∧ ((0 + 2000) + m185) + m191 ≤ ms ∧ w_L_act e0 m0 (some x) 6 (nI k) 0 0 0 0 S182 m190 m191 (fun r189 S188 => (r189 ≤ 0 → w_L_isLaid_b525 e0 m0 (some x) (some m) (some s) how Y mc ms post (((0 + 60) + m184) + m190) (((0 + 2000) + m185) + m191) S188) ∧ (¬ r189 ≤ 0 → w_L_isLaid_b521 e0 m0 (some x) (some m) (some s) how Y mc ms post (((0 + 60) + m184) + m190) (((0 + 2000) + m185) + m191) S188)))))))) ∧ (¬ P9 → (r177 ≤ 0 → w_L_isLaid_b464 e0 m0 (some x) (some m) (some s) how Y mc ms post (0 + 60) (0 + 2000) S176) ∧ (¬ r177 ≤ 0 → (8 < r177 → w_L_isLaid_b464 e0 m0 (some x) (some m) (some s) how Y mc ms post (0 + 60) (0 + 2000) S176) ∧ (¬ 8 < r177 → ∃ m196 m197, (0 + 60) + m196 ≤ mc ∧ (0 + 2000) + m197 ≤ ms ∧ w_L_act e0 m0 (some x) 5 (nI k) 0 0 0 0 S176 m196 m197 (fun r195 S194 => (¬ r195 = 1 → w_L_isLaid_b464 e0 m0 (some x) (some m) (some s) how Y mc ms post ((0 + 60) + m196) ((0 + 2000) + m197) S194) ∧ (r195 = 1 → ∃ m202 m203, ((0 + 60) + m196) + m202 ≤ mc ∧ ((0 + 2000) + m197) + m203 ≤ ms ∧ w_L_act e0 m0 (some x) 5 (nI k) 0 0 0 0 S194 m202 m203 (fun r201 S200 => (¬ r201 = 0 → w_L_isLaid_b464 e0 m0 (some x) (some m) (some s) how Y mc ms post (((0 + 60) + m196) + m202) (((0 + 2000) + m197) + m203) S200) ∧ (r201 = 0 → w_L_isLaid_b465 e0 m0 (some x) (some m) (some s) how Y mc ms post (((0 + 60) + m196) + m202) (((0 + 2000) + m197) + m203) S200 1)))))))) := by
  have hC : C < 512 := by have := L.2.2.2.2.2.1; omega
  have hd1 := L.2.1
  obtain ⟨j, a, b, e16, -, -, hj, -, hb⟩ := SF_th F hk
  have hl := hlen j hj
  have h7 : n 7 ≤ 30 := F.1.2.2.2.1
  have qk : (nI k).toNatClampNeg = k := qn_nat (by omega)
  have hq : q_record σ (nI k) 0 (nI y) (nI d) = 0 := by
    unfold q_record
    rw [qk, e16, iT_F, iT_F]
    · rintro (z | z)
      · rw [ilt, nI_toInt (by omega), I0] at z; omega
      · refine z ⟨?_, ?_⟩
        · rw [ile, I0, nI_toInt (by omega)]; omega
        · rw [ile, nI_toInt (by omega), tl_3]; omega
    · exact fun z => z ⟨in_t F hk, in_mt F (y := 0) hj (by omega), in_mt F hj (by omega)⟩
  obtain ⟨c, c1, c5, ec⟩ := susN_rec F hk hy hd
  have n0 : ¬ nI c ≤ 0 := by rw [ile, nI_toInt (by omega), I0]; omega
  have n8 : ¬ 8 < nI c := by rw [ilt, nI_toInt (by omega), tl_8]; omega
  refine a_record H hC hd1 _ _ _ _ _ (Nat.le_refl _) (Nat.le_refl _) (fun z => absurd hq z) (fun _ S1 hd2 H1 => ?_)
  rw [ec]
  have fr1 := fr_record (σ := σ) (nI k) 0 (nI y) (nI d)
  have L1 := LW_mk L H1 hd2 (LA_c fr1.2 L.2.2.2.1) (LI_c fr1.1 (LI_up L.2.2.2.2.1 (show t ≤ t + 1 by omega))) (by have := L.2.2.2.2.2.1; omega) L.2.2.2.2.2.2
  obtain ⟨n1, h1, F1, -⟩ := ST_SF H1
  have e7 : n1 7 = n 7 := by
    have g : (u_record σ (nI k) 0 (nI y) (nI d)) 14 0 = σ 14 0 := congrFun (fr1.2 14 (by unfold la; omega)) 0
    have a1 := N7 F1
    rw [g, N7 F] at a1
    exact a1.symm
  have hk1 : k < n1 7 := by omega
  generalize hσ : u_record σ (nI k) 0 (nI y) (nI d) = σ1 at *
  have bound : ∀ {S9 : PT} {σ9 : SG}, ST e0 x o S9 σ9 μ C cap → dis S9 M → (∀ f, lf f → σ9 f = σ1 f) → (∀ f, la f → σ9 f = σ1 f) → post 1 (ov S9 M) := fun H9 d9 f1 f2 => kk _ _ _ _ _ ⟨⟨o, H9⟩, d9, L.2.2.1, LA_c f2 L1.2.2.2.1, LI_c f1 L1.2.2.2.2.1, ⟨L1.2.2.2.2.2.1.1, LA_gr L (LA_c f2 L1.2.2.2.1) rfl rfl⟩, L.2.2.2.2.2.2⟩
  refine ⟨fun _ => ⟨60, 2000, by omega, by omega, ?_⟩, fun _ => ⟨fun z => absurd z n0, fun _ => ⟨fun z => absurd z n8, fun _ => ⟨60, 2000, by omega, by omega, ?_⟩⟩⟩⟩
  · have b521 : ∀ {c2 n2 : Nat} {Z : PT}, c2 ≤ mc → n2 ≤ ms → post 1 Z → w_L_isLaid_b521 e0 m0 (some x) (some m) (some s) how Y mc ms post c2 n2 Z := fun g1 g2 g3 => by
      unfold w_L_isLaid_b521 w_L_isLaid_b526
      exact ⟨g1, g2, g1, g2, bo_1, g3⟩
    by_cases hs : aN (z_sure σ1 k) 40
    · have hq2 : q_survey σ1 (nI k) = 0 := by unfold q_survey; rw [iT_F (fun z => z (in_t F1 hk1)), qk, iT_F (fun z => z hs)]
      refine a_survey H1 hC hd2 _ _ _ _ _ (Nat.le_refl _) (Nat.le_refl _) (fun z => absurd hq2 z) (fun _ S2 hd3 H2 => ?_)
      rw [ec]
      have nn9 : ¬ nI c = -1713000 := by rw [ieq, nI_toInt (by omega), show (-1713000 : Int32).toInt = -1713000 from by decide]; omega
      refine ⟨fun z => absurd z n0, fun _ => ⟨fun z => absurd z n8, fun _ => ⟨fun z => absurd z nn9, fun _ => ⟨fun z => absurd rfl z, fun _ => ⟨60, 2000, by omega, by omega, ?_⟩⟩⟩⟩⟩
      have hq3 := q_sur_again k (by omega) hq2
      have fr2 := fr_survey (σ := σ1) (nI k)
      have fr3 := fr_survey (σ := u_survey σ1 (nI k)) (nI k)
      obtain ⟨n2, h2, F2, -⟩ := ST_SF H2
      have e72 : n2 7 = n 7 := by
        have g : (u_survey σ1 (nI k)) 14 0 = σ1 14 0 := congrFun (fr2.2 14 (by unfold la; omega)) 0
        have a1 := N7 F2
        rw [g, N7 F1] at a1
        omega
      refine a_survey H2 hC hd3 _ _ _ _ _ (Nat.le_refl _) (Nat.le_refl _) (fun z => absurd hq3 z) (fun _ S3 hd4 H3 => ?_)
      exact ⟨fun z => absurd z (susN_sur F1 hk1), fun _ => b521 (by omega) (by omega) (bound H3 hd4 (fun f hf => (fr3.1 f hf).trans (fr2.1 f hf)) (fun f hf => (fr3.2 f hf).trans (fr2.2 f hf)))⟩
    · have hq2 : q_survey σ1 (nI k) = 2 := by unfold q_survey; rw [iT_F (fun z => z (in_t F1 hk1)), qk, iT_T hs]
      refine ra_survey H1 hC hd2 _ _ _ _ _ hq2 (by decide) cQ_2 _ _ _ (Nat.le_refl _) (Nat.le_refl _) ?_
      exact ⟨fun z => absurd z n0, fun _ => ⟨fun z => absurd z n8, fun _ => ⟨fun _ => b521 (by omega) (by omega) (bound H1 hd2 (fun _ _ => rfl) (fun _ _ => rfl)), fun z => absurd rfl z⟩⟩⟩
  · have e20 : σ1 20 k = 1 := by
      rw [← hσ]; unfold u_record; rw [qk, up2_f _ _ _ _ (by decide), up2_f _ _ _ _ (by decide), up2_s]
    have fr2 := fr_lose (σ := σ1) (nI k)
    have fr3 := fr_lose (σ := u_lose σ1 (nI k)) (nI k)
    refine a_lose H1 hC hd2 _ _ _ _ _ (Nat.le_refl _) (Nat.le_refl _) (fun z => absurd (q_lose_0 F1 hk1) z) (fun _ S2 hd3 H2 => ?_)
    rw [qk, e20, iT_F (by decide)]
    obtain ⟨n2, h2, F2, -⟩ := ST_SF H2
    have e72 : n2 7 = n 7 := by
      have g : (u_lose σ1 (nI k)) 14 0 = σ1 14 0 := congrFun (fr2.2 14 (by unfold la; omega)) 0
      have a1 := N7 F2
      rw [g, N7 F1] at a1
      omega
    refine ⟨fun z => absurd rfl z, fun _ => ⟨60, 2000, by omega, by omega, ?_⟩⟩
    refine a_lose H2 hC hd3 _ _ _ _ _ (Nat.le_refl _) (Nat.le_refl _) (fun z => absurd (q_lose_0 F2 (by omega)) z) (fun _ S3 hd4 H3 => ?_)
    have e20' : (u_lose σ1 (nI k)) 20 k = 0 := by unfold u_lose; rw [qk, up2_s]
    rw [qk, e20', iT_T rfl]
    refine ⟨fun z => absurd rfl z, fun _ => ?_⟩
    unfold w_L_isLaid_b465
    exact ⟨by omega, by omega, bo_1, bound H3 hd4 (fun f hf => (fr3.1 f hf).trans (fr2.1 f hf)) (fun f hf => (fr3.2 f hf).trans (fr2.2 f hf))⟩
end LD1
