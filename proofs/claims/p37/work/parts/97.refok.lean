/-! what is to be refused: all of it -/
theorem ix4 (k : Nat) : (4 : Int32) * nI k = nI (4 * k) := qn_mul 4 k
theorem ix41 (k : Nat) : (4 : Int32) * nI k + 1 = nI (4 * k + 1) := by rw [ix4]; exact qn_add _ 1
theorem ix42 (k : Nat) : (4 : Int32) * nI k + 2 = nI (4 * k + 2) := by rw [ix4]; exact qn_add _ 2
theorem ix43 (k : Nat) : (4 : Int32) * nI k + 3 = nI (4 * k + 3) := by rw [ix4]; exact qn_add _ 3
section REFS
variable {u9 v9 e0 m0 x o m s w : Nat} {S M : PT} {σ : SG} {μ : MU} {C cap t : Nat} {n : Nat → Nat} {h : Nat}
set_option maxRecDepth 100000 in
set_option maxHeartbeats 2000000 in
theorem refl_h (L : LW u9 v9 e0 x m s w S M σ μ C cap t) (H : ST e0 x o S σ μ C cap) (hC : C < 512) (hd : dis S M) (F : SF σ n h) {X : Nat} (hX : X < 2147483648) {vi vf : Int32} {f : Int64} (hall : ∀ (mc ms : Nat) (post : Int64 → PT → Prop), 300 ≤ mc → 1500 ≤ ms → post f (ov S M) → w_L_all (some x) (some m) (some s) (ov S M) mc ms post) (hi : ¬ (0 ≤ vi ∧ vi ≤ σ 23 0 - 1)) (hf : ¬ (0 ≤ vf ∧ vf ≤ 4)) {mc ms : Nat} {post : Int32 → PT → Prop} (hp : post 1 (ov S M)) : ∀ rem j, j + rem = n 5 → ∀ c1 n1, c1 + 1400 * rem + 1000 ≤ mc → n1 + 50000 * rem + 25000 ≤ ms → w_L_isRefused_l738 e0 m0 (some x) (some m) (some s) (some w) (nI X) mc ms post (rem + 1) c1 n1 (ov S M) 0 vi vf f 1 (nI j) := by
  have h5 : n 5 ≤ 6 := F.1.2.1
  have h8 : n 8 ≤ 24 := F.1.2.2.2.2.2.1
  obtain ⟨⟨km, nm, am⟩, ⟨ks, ns, as9⟩, ⟨kw, nw, aw⟩⟩ := LW_rows L F
  obtain ⟨-, -, -, ⟨⟨A0, A1, A2, A3⟩, AS, AW, A16⟩, -⟩ := L
  rw [← am] at A0 A1 A2 A3
  rw [N5 F] at AS
  rw [N8 F] at AW A16
  have v0in : vp_in 0 (gN (ov S M) m) := by rw [nm]; exact vin_nI (k := 0) (by omega) (by omega)
  have v1in : vp_in 1 (gN (ov S M) m) := by rw [nm]; exact vin_nI (k := 1) (by omega) (by omega)
  have v3in : vp_in 3 (gN (ov S M) m) := by rw [nm]; exact vin_nI (k := 3) (by omega) (by omega)
  have er : nI X - nI X / 30 * 30 = nI (X % 30) := irem_nI (b := 30) hX (by omega) (by omega)
  have eR : (nI X - nI X / 30 * 30).toInt = ((X % 30 : Nat) : Int) := by rw [er]; exact nI_toInt (by omega)
  have er3 : nI X - nI X / 3 * 3 = nI (X % 3) := irem_nI (b := 3) hX (by omega) (by omega)
  have hr3 : nI X - nI X / 3 * 3 = 0 ∨ nI X - nI X / 3 * 3 = 1 ∨ nI X - nI X / 3 * 3 = 2 := by
    rw [er3]
    rcases (show X % 3 = 0 ∨ X % 3 = 1 ∨ X % 3 = 2 by omega) with e | e | e <;> rw [e]
    · exact Or.inl rfl
    · exact Or.inr (Or.inl rfl)
    · exact Or.inr (Or.inr rfl)
  have h2e : nI X / 2 = nI (X / 2) := idiv_nI (b := 2) hX (by omega) (by omega)
  have fin : ∀ c1 n1, c1 + 300 ≤ mc → n1 + 1500 ≤ ms → w_L_isRefused_b1568 e0 m0 (some x) (some m) (some s) (some w) (nI X) mc ms post c1 n1 (ov S M) f 1 := fun c1 n1 h1 h2 => by
    unfold w_L_isRefused_b1568
    refine ⟨by omega, by omega, fun z => absurd z (by decide), fun _ => ⟨300, 1500, by omega, by omega, hall _ _ _ (Nat.le_refl _) (Nat.le_refl _) ⟨fun z => absurd ((lg_cmp_eq f f).mpr rfl) z, fun _ => ?_⟩⟩⟩
    unfold w_L_isRefused_b1590
    exact ⟨by omega, by omega, bo_1, hp⟩
  intro rem
  induction rem with
  | zero =>
    intro j hj c1 n1 hc hn
    refine ⟨by omega, by omega, m, rfl, km, v1in, fun _ => ?_, fun z => absurd ?_ z⟩
    · unfold w_L_isRefused_b1278
      refine ⟨by omega, by omega, fun z => absurd z (by decide), fun _ => ⟨m, rfl, km, v3in, fun _ => fin _ _ (by omega) (by omega), fun hn0 => ?_⟩⟩
      have e3 : gA (ov S M) m ((3 : Int32).toNatClampNeg) = nI (n 8) := by rw [cl_3, A3]; exact F.1.2.2.2.2.1
      rw [e3] at hn0 ⊢
      have p8 : 0 < n 8 := by
        rcases Nat.eq_zero_or_pos (n 8) with z | z
        · exact absurd (by rw [z]; decide) hn0
        · exact z
      have hk : (X / 2) % n 8 < n 8 := Nat.mod_lt _ p8
      have idx : nI X / 2 - nI X / 2 / nI (n 8) * nI (n 8) = nI ((X / 2) % n 8) := by rw [h2e]; exact irem_nI (by omega) p8 (by omega)
      rw [idx]
      generalize (X / 2) % n 8 = j at hk
      have ne8 : ¬ nI (n 8) = 0 := by rw [ieq, nI_toInt (by omega), I0]; omega
      refine ⟨v3in, ne8, fun _ => ?_, fun z => absurd rfl z⟩
      obtain ⟨w0, w1, w2, -, -⟩ := AW j hk
      have i1 : ((4 : Int32) * nI j + 1).toNatClampNeg = 4 * j + 1 := by rw [ix41]; exact qn_nat (by omega)
      have i2 : ((4 : Int32) * nI j + 2).toNatClampNeg = 4 * j + 2 := by rw [ix42]; exact qn_nat (by omega)
      have n26 := nf F.2.2.2.1 26 j rfl
      have n27 := nf F.2.2.2.1 27 j rfl
      have ord : σ 26 j ≤ σ 27 j := (F.2.2.2.2.1.2.2.1 j hk).2.1
      have b1 : bh 26 = 39 := rfl
      have b2 : bh 27 = 39 := rfl
      rw [b1] at n26
      rw [b2] at n27
      have t26 : (σ 26 j).toInt = ((σ 26 j).toNatClampNeg : Int) := by rw [n26.1, qn_nat (by omega)]; exact nI_toInt (by omega)
      have t27 : (σ 27 j).toInt = ((σ 27 j).toNatClampNeg : Int) := by rw [n27.1, qn_nat (by omega)]; exact nI_toInt (by omega)
      refine ref3_h H hC hd F (Nat.mod_lt X (by omega)) eR hk kw (by rw [nw, ix41]; exact vin_nI (by omega) (by omega)) (by rw [nw, ix42]; exact vin_nI (by omega) (by omega)) hi ?_ ⟨in_k F hk, ?_, ?_⟩ (by omega) (by omega) (fun c2 n2 h1 h2 => fin c2 n2 (by omega) (by omega))
      · rw [i2, aw, w2, qn_nat (show j < 2147483648 by omega)]
        simp only [ile, tadd, tsub, tl_1]
        omega
      · rw [i1, aw, w1, qn_nat (show j < 2147483648 by omega), ile]; omega
      · rw [i1, aw, w1, qn_nat (show j < 2147483648 by omega)]; exact ord
    · rw [cl_1, A1, F.1.1, qn_le (by omega) (by omega)]; omega
  | succ rem ih =>
    intro j hj c1 n1 hc hn
    have hj5 : j < n 5 := by omega
    obtain ⟨s0, -, -, sl, -⟩ := AS j hj5
    have l9 := len_2 F j
    have t2 : (σ 2 j).toInt = (z_len σ j : Int) := by rw [l9.1]; exact nI_toInt (by omega)
    refine ⟨by omega, by omega, m, rfl, km, v1in, fun z => absurd z ?_, fun _ => ⟨fun z => absurd z (by decide), fun _ => ⟨fun _ => ⟨s, rfl, ks, by rw [ns]; exact vin_nI (by omega) (by omega), ?_⟩, fun z => absurd rfl z⟩⟩⟩
    · rw [cl_1, A1, F.1.1, qn_le (by omega) (by omega)]; omega
    unfold w_L_isRefused_b776
    refine ⟨by omega, by omega, fun _ => ?_, fun z => absurd rfl z⟩
    refine ref2_h H hC hd F (Nat.mod_lt X (by omega)) eR hr3 hj5 (by omega) km v0in A0 hf ?_ (by omega) (by omega) (fun c2 n2 h1 h2 => ?_)
    · rw [qn_nat (show j < 2147483648 by omega), as9, s0]
      simp only [ile, I0, tadd, tsub, eR, t2, tl_1]
      omega
    · rw [qn_s]
      exact ih (j + 1) (by omega) c2 n2 (by omega) (by omega)
set_option maxRecDepth 100000 in
set_option maxHeartbeats 2000000 in
theorem refl_l (L : LW u9 v9 e0 x m s w S M σ μ C cap t) (H : ST e0 x o S σ μ C cap) (hC : C < 512) (hd : dis S M) (F : SF σ n h) {X : Nat} (hX : X < 2147483648) {vi vf : Int32} {f : Int64} (hall : ∀ (mc ms : Nat) (post : Int64 → PT → Prop), 300 ≤ mc → 1500 ≤ ms → post f (ov S M) → w_L_all (some x) (some m) (some s) (ov S M) mc ms post) (hi : ¬ (0 ≤ vi ∧ vi ≤ σ 23 0 - 1)) (hf : ¬ (0 ≤ vf ∧ vf ≤ 4)) {mc ms : Nat} {post : Int32 → PT → Prop} (hp : post 1 (ov S M)) : ∀ rem j, j + rem = n 5 → ∀ c1 n1, c1 + 1400 * rem + 1000 ≤ mc → n1 + 50000 * rem + 25000 ≤ ms → w_L_isRefused_l738 e0 m0 (some x) (some m) (some s) (some w) (nI X) mc ms post (rem + 1) c1 n1 (ov S M) 1 vi vf f 1 (nI j) := by
  have h5 : n 5 ≤ 6 := F.1.2.1
  have h8 : n 8 ≤ 24 := F.1.2.2.2.2.2.1
  obtain ⟨⟨km, nm, am⟩, ⟨ks, ns, as9⟩, ⟨kw, nw, aw⟩⟩ := LW_rows L F
  obtain ⟨-, -, -, ⟨⟨A0, A1, A2, A3⟩, AS, AW, A16⟩, -⟩ := L
  rw [← am] at A0 A1 A2 A3
  rw [N5 F] at AS
  rw [N8 F] at AW A16
  have v0in : vp_in 0 (gN (ov S M) m) := by rw [nm]; exact vin_nI (k := 0) (by omega) (by omega)
  have v1in : vp_in 1 (gN (ov S M) m) := by rw [nm]; exact vin_nI (k := 1) (by omega) (by omega)
  have v3in : vp_in 3 (gN (ov S M) m) := by rw [nm]; exact vin_nI (k := 3) (by omega) (by omega)
  have er : nI X - nI X / 30 * 30 = nI (X % 30) := irem_nI (b := 30) hX (by omega) (by omega)
  have eR : (nI X - nI X / 30 * 30).toInt = ((X % 30 : Nat) : Int) := by rw [er]; exact nI_toInt (by omega)
  have er3 : nI X - nI X / 3 * 3 = nI (X % 3) := irem_nI (b := 3) hX (by omega) (by omega)
  have hr3 : nI X - nI X / 3 * 3 = 0 ∨ nI X - nI X / 3 * 3 = 1 ∨ nI X - nI X / 3 * 3 = 2 := by
    rw [er3]
    rcases (show X % 3 = 0 ∨ X % 3 = 1 ∨ X % 3 = 2 by omega) with e | e | e <;> rw [e]
    · exact Or.inl rfl
    · exact Or.inr (Or.inl rfl)
    · exact Or.inr (Or.inr rfl)
  have h2e : nI X / 2 = nI (X / 2) := idiv_nI (b := 2) hX (by omega) (by omega)
  have fin : ∀ c1 n1, c1 + 300 ≤ mc → n1 + 1500 ≤ ms → w_L_isRefused_b1568 e0 m0 (some x) (some m) (some s) (some w) (nI X) mc ms post c1 n1 (ov S M) f 1 := fun c1 n1 h1 h2 => by
    unfold w_L_isRefused_b1568
    refine ⟨by omega, by omega, fun z => absurd z (by decide), fun _ => ⟨300, 1500, by omega, by omega, hall _ _ _ (Nat.le_refl _) (Nat.le_refl _) ⟨fun z => absurd ((lg_cmp_eq f f).mpr rfl) z, fun _ => ?_⟩⟩⟩
    unfold w_L_isRefused_b1590
    exact ⟨by omega, by omega, bo_1, hp⟩
  intro rem
  induction rem with
  | zero =>
    intro j hj c1 n1 hc hn
    refine ⟨by omega, by omega, m, rfl, km, v1in, fun _ => ?_, fun z => absurd ?_ z⟩
    · unfold w_L_isRefused_b1278
      refine ⟨by omega, by omega, fun z => absurd z (by decide), fun _ => ⟨m, rfl, km, v3in, fun _ => fin _ _ (by omega) (by omega), fun hn0 => ?_⟩⟩
      have e3 : gA (ov S M) m ((3 : Int32).toNatClampNeg) = nI (n 8) := by rw [cl_3, A3]; exact F.1.2.2.2.2.1
      rw [e3] at hn0 ⊢
      have p8 : 0 < n 8 := by
        rcases Nat.eq_zero_or_pos (n 8) with z | z
        · exact absurd (by rw [z]; decide) hn0
        · exact z
      have hk : (X / 2) % n 8 < n 8 := Nat.mod_lt _ p8
      have idx : nI X / 2 - nI X / 2 / nI (n 8) * nI (n 8) = nI ((X / 2) % n 8) := by rw [h2e]; exact irem_nI (by omega) p8 (by omega)
      rw [idx]
      generalize (X / 2) % n 8 = j at hk
      have ne8 : ¬ nI (n 8) = 0 := by rw [ieq, nI_toInt (by omega), I0]; omega
      refine ⟨v3in, ne8, fun z => absurd z (by decide), fun _ => ?_⟩
      obtain ⟨w0, w1, w2, -, -⟩ := AW j hk
      have i1 : ((4 : Int32) * nI j + 1).toNatClampNeg = 4 * j + 1 := by rw [ix41]; exact qn_nat (by omega)
      have i2 : ((4 : Int32) * nI j + 2).toNatClampNeg = 4 * j + 2 := by rw [ix42]; exact qn_nat (by omega)
      have n26 := nf F.2.2.2.1 26 j rfl
      have n27 := nf F.2.2.2.1 27 j rfl
      have ord : σ 26 j ≤ σ 27 j := (F.2.2.2.2.1.2.2.1 j hk).2.1
      have b1 : bh 26 = 39 := rfl
      have b2 : bh 27 = 39 := rfl
      rw [b1] at n26
      rw [b2] at n27
      have t26 : (σ 26 j).toInt = ((σ 26 j).toNatClampNeg : Int) := by rw [n26.1, qn_nat (by omega)]; exact nI_toInt (by omega)
      have t27 : (σ 27 j).toInt = ((σ 27 j).toNatClampNeg : Int) := by rw [n27.1, qn_nat (by omega)]; exact nI_toInt (by omega)
      refine ref3_l H hC hd F (Nat.mod_lt X (by omega)) eR hk kw (by rw [nw, ix41]; exact vin_nI (by omega) (by omega)) (by rw [nw, ix42]; exact vin_nI (by omega) (by omega)) hi ?_ ⟨in_k F hk, ?_, ?_⟩ (by omega) (by omega) (fun c2 n2 h1 h2 => fin c2 n2 (by omega) (by omega))
      · rw [i1, aw, w1, qn_nat (show j < 2147483648 by omega)]
        simp only [ile, tadd, tsub, tl_1]
        omega
      · rw [i1, aw, w1, qn_nat (show j < 2147483648 by omega), ile]; omega
      · rw [i1, aw, w1, qn_nat (show j < 2147483648 by omega)]; exact ord
    · rw [cl_1, A1, F.1.1, qn_le (by omega) (by omega)]; omega
  | succ rem ih =>
    intro j hj c1 n1 hc hn
    have hj5 : j < n 5 := by omega
    obtain ⟨s0, -, -, sl, -⟩ := AS j hj5
    have l9 := len_2 F j
    have t2 : (σ 2 j).toInt = (z_len σ j : Int) := by rw [l9.1]; exact nI_toInt (by omega)
    refine ⟨by omega, by omega, m, rfl, km, v1in, fun z => absurd z ?_, fun _ => ⟨fun z => absurd z (by decide), fun _ => ⟨fun z => absurd z (by decide), fun _ => ?_⟩⟩⟩
    · rw [cl_1, A1, F.1.1, qn_le (by omega) (by omega)]; omega
    unfold w_L_isRefused_b776
    refine ⟨by omega, by omega, fun z => absurd z (by decide), fun _ => ?_⟩
    refine ref2_l H hC hd F (Nat.mod_lt X (by omega)) eR hr3 hj5 (by omega) km v0in A0 hf ?_ (by omega) (by omega) (fun c2 n2 h1 h2 => ?_)
    · simp only [ile, I0, tsub, eR, tl_m1]
      omega
    · rw [qn_s]
      exact ih (j + 1) (by omega) c2 n2 (by omega) (by omega)
set_option maxRecDepth 100000 in
set_option maxHeartbeats 2000000 in
theorem refused_ok (L : LW u9 v9 e0 x m s w S M σ μ C cap t) (ht : t ≤ 140) {X : Nat} (hX : X < 2147483648) {mc ms : Nat} {post : Int32 → PT → Prop} (hmc : 14000 ≤ mc) (hms : 450000 ≤ ms) (hp : post 1 (ov S M)) : w_L_isRefused e0 m0 (some x) (some m) (some s) (some w) (nI X) (ov S M) mc ms post := by
  obtain ⟨f, hall⟩ := all_ok L ht
  obtain ⟨o, H⟩ := L.1
  obtain ⟨n, h, F, hn6⟩ := ST_SF H
  have h5 : n 5 ≤ 6 := F.1.2.1
  have h7 : n 7 ≤ 30 := F.1.2.2.2.1
  have h8 : n 8 ≤ 24 := F.1.2.2.2.2.2.1
  have hC : C < 512 := by have := L.2.2.2.2.2.1; omega
  have hd := L.2.1
  obtain ⟨⟨km, nm, am⟩, -, -⟩ := LW_rows L F
  obtain ⟨A0, A1, A2, A3⟩ := L.2.2.2.1.1
  rw [← am] at A0 A1 A2 A3
  have v1in : vp_in 1 (gN (ov S M) m) := by rw [nm]; exact vin_nI (k := 1) (by omega) (by omega)
  have v2in : vp_in 2 (gN (ov S M) m) := by rw [nm]; exact vin_nI (k := 2) (by omega) (by omega)
  have v3in : vp_in 3 (gN (ov S M) m) := by rw [nm]; exact vin_nI (k := 3) (by omega) (by omega)
  have er : nI X - nI X / 30 * 30 = nI (X % 30) := irem_nI (b := 30) hX (by omega) (by omega)
  have eR : (nI X - nI X / 30 * 30).toInt = ((X % 30 : Nat) : Int) := by rw [er]; exact nI_toInt (by omega)
  have er2 : nI X - nI X / 2 * 2 = nI (X % 2) := irem_nI (b := 2) hX (by omega) (by omega)
  have t5 : (σ 1 0).toInt = (n 5 : Int) := by rw [F.1.1]; exact nI_toInt (by omega)
  have t7 : (σ 14 0).toInt = (n 7 : Int) := by rw [F.1.2.2.1]; exact nI_toInt (by omega)
  have t8 : (σ 23 0).toInt = (n 8 : Int) := by rw [F.1.2.2.2.2.1]; exact nI_toInt (by omega)
  unfold w_L_isRefused
  rcases Nat.mod_two_eq_zero_or_one X with hx | hx
  · refine ⟨fun z => absurd (by rw [er2, hx]; rfl) z, fun _ => ?_⟩
    unfold w_L_isRefused_b12
    refine ⟨by omega, by omega, fun z => absurd z (by decide), fun _ => ?_⟩
    unfold w_L_isRefused_b38
    refine ⟨by omega, by omega, fun z => absurd z (by decide), fun _ => ?_⟩
    unfold w_L_isRefused_b64
    refine ⟨by omega, by omega, fun z => absurd z (by decide), fun _ => ?_⟩
    unfold w_L_isRefused_b90
    refine ⟨by omega, by omega, fun z => absurd z (by decide), fun _ => ?_⟩
    unfold w_L_isRefused_b114
    refine ⟨by omega, by omega, 300, 1500, by omega, by omega, hall _ _ _ (Nat.le_refl _) (Nat.le_refl _) ⟨fun z => absurd z (by decide), fun _ => ?_⟩⟩
    have q1 : ∀ y : Int32, ¬ (0 ≤ (-1) - (nI X - nI X / 30 * 30) ∧ (-1) - (nI X - nI X / 30 * 30) ≤ y) := fun y => by simp only [ile, I0, tsub, eR, tl_m1]; omega
    refine ref1_l H hC hd F (Nat.mod_lt X (by omega)) eR (q1 _) (q1 _) (q1 _) (q1 _) (by simp only [ieq, tsub, eR, tl_m1, tl_m2]; omega) (by simp only [ile, I0, tsub, eR, tl_m2]; omega) (by omega) (by omega) (fun c1 n1 h1 h2 => ?_)
    have q3 := q1 (σ 23 0 - 1)
    have q4 := q1 4
    unfold w_L_isRefused_b733
    exact ⟨by omega, by omega, n 5 + 1, refl_l L H hC hd F hX hall q3 q4 hp (n 5) 0 (by omega) c1 n1 (by omega) (by omega)⟩
  · refine ⟨fun _ => ?_, fun z => absurd (er2 ▸ z) (by rw [hx]; decide)⟩
    unfold w_L_isRefused_b12
    refine ⟨by omega, by omega, fun _ => ⟨m, rfl, km, v1in, ?_⟩, fun z => absurd rfl z⟩
    unfold w_L_isRefused_b38
    refine ⟨by omega, by omega, fun _ => ⟨m, rfl, km, v2in, ?_⟩, fun z => absurd rfl z⟩
    unfold w_L_isRefused_b64
    refine ⟨by omega, by omega, fun _ => ⟨m, rfl, km, v3in, ?_⟩, fun z => absurd rfl z⟩
    unfold w_L_isRefused_b90
    refine ⟨by omega, by omega, fun _ => ?_, fun z => absurd rfl z⟩
    unfold w_L_isRefused_b114
    refine ⟨by omega, by omega, 300, 1500, by omega, by omega, hall _ _ _ (Nat.le_refl _) (Nat.le_refl _) ⟨fun _ => ⟨m, rfl, km, v1in, ?_⟩, fun z => absurd rfl z⟩⟩
    have q1 : ¬ (0 ≤ gA (ov S M) m ((1 : Int32).toNatClampNeg) + (nI X - nI X / 30 * 30) ∧ gA (ov S M) m ((1 : Int32).toNatClampNeg) + (nI X - nI X / 30 * 30) ≤ σ 1 0 - 1) := by rw [cl_1, A1]; simp only [ile, I0, tadd, tsub, eR, t5, tl_1]; omega
    have q1d : ¬ gA (ov S M) m ((1 : Int32).toNatClampNeg) + (nI X - nI X / 30 * 30) = -1 := by rw [cl_1, A1]; simp only [ieq, tadd, eR, t5, tl_m1]; omega
    have q2 : ¬ (0 ≤ gA (ov S M) m ((2 : Int32).toNatClampNeg) + (nI X - nI X / 30 * 30) ∧ gA (ov S M) m ((2 : Int32).toNatClampNeg) + (nI X - nI X / 30 * 30) ≤ σ 14 0 - 1) := by rw [cl_2, A2]; simp only [ile, I0, tadd, tsub, eR, t7, tl_1]; omega
    have q3 : ¬ (0 ≤ gA (ov S M) m ((3 : Int32).toNatClampNeg) + (nI X - nI X / 30 * 30) ∧ gA (ov S M) m ((3 : Int32).toNatClampNeg) + (nI X - nI X / 30 * 30) ≤ σ 23 0 - 1) := by rw [cl_3, A3]; simp only [ile, I0, tadd, tsub, eR, t8, tl_1]; omega
    have q4 : ¬ ((0 : Int32) ≤ 5 + (nI X - nI X / 30 * 30) ∧ 5 + (nI X - nI X / 30 * 30) ≤ 4) := by simp only [ile, I0, tadd, eR, tl_5, tl_4]; omega
    refine ref1_h H hC hd F (Nat.mod_lt X (by omega)) eR q1 q2 q3 q4 q1d q1 (by omega) (by omega) (fun c1 n1 h1 h2 => ?_)
    unfold w_L_isRefused_b733
    exact ⟨by omega, by omega, n 5 + 1, refl_h L H hC hd F hX hall q3 q4 hp (n 5) 0 (by omega) c1 n1 (by omega) (by omega)⟩
end REFS
