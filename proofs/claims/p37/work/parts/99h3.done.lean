/-! what works do: grant, agree, fill -/
section DNG
variable {u9 v9 e0 m0 x o m s w : Nat} {S M : PT} {σ σ' : SG} {μ μ' : MU} {C cap t : Nat} {n : Nat → Nat} {h : Nat}
theorem agr_s (k o : Nat) (hk : k < 24) (ho : o < 24) : u_agree σ (nI k) (nI o) 39 (24 * k + o) = iT (σ 39 (24 * k + o) = 0) 1 0 ∧ u_agree σ (nI k) (nI o) 39 (24 * o + k) = iT (σ 39 (24 * k + o) = 0) 1 0 := by
  unfold u_agree
  rw [qn_nat (by omega), qn_nat (by omega)]
  refine ⟨?_, up2_s _ _ _ _⟩
  by_cases e : 24 * k + o = 24 * o + k
  · rw [e, up2_s]
  · rw [up2_i _ _ e, up2_s]
theorem q_agr (F : SF σ n h) {k o : Nat} (hk : k < n 8) (ho : o < n 8) : q_agree σ (nI k) (nI o) = iT (k = o) 2 0 := by
  have h8 : n 8 ≤ 24 := F.1.2.2.2.2.2.1
  unfold q_agree
  rw [iT_F (fun z => z ⟨in_k F hk, in_k F ho⟩), propext (qn_eq (a := k) (b := o) (by omega) (by omega))]
theorem tog (v : Int32) : (iT ((iT (v = 0) 1 0 : Int32) = 0) 0 1 : Int32) = iT (v = 0) 1 0 := by
  by_cases z : v = 0
  · rw [iT_T z]; exact iT_F (by decide)
  · rw [iT_F z]; exact iT_T rfl
set_option maxRecDepth 100000 in
set_option maxHeartbeats 2000000 in
theorem done_agree (L : LW u9 v9 e0 x m s w S M σ μ C cap t) (H : ST e0 x o S σ μ C cap) (F : SF σ n h) (ht : t ≤ 140) {k X : Nat} (hk : k < n 8) (hX : X < 2147483648) {mc ms c0 n0 : Nat} {post : Int32 → PT → Prop} (hmc : c0 + 200 ≤ mc) (hms : n0 + 9000 ≤ ms) (kk : ∀ S' M' σ' μ' C', LW u9 v9 e0 x m s w S' M' σ' μ' C' cap (t + 1) → post 1 (ov S' M')) : w_L_isDone_b51 e0 m0 (some x) (some m) (some w) 4 (nI X) mc ms post c0 n0 (ov S M) (nI k) := by
  have hC : C < 512 := by have := L.2.2.2.2.2.1; omega
  have hd := L.2.1
  have h8 : n 8 ≤ 24 := F.1.2.2.2.2.2.1
  have h9 := F.2.2.1
  have qk : (nI k).toNatClampNeg = k := qn_nat (by omega)
  have e8 := N8 F
  obtain ⟨⟨km, nm, am⟩, -, ⟨kw, nw, aw⟩⟩ := LW_rows L F
  obtain ⟨A0, A1, A2, A3⟩ := LW_n L F
  obtain ⟨AS, AW, A16⟩ := L.2.2.2.1.2
  rw [e8] at AW A16
  obtain ⟨w0, w1, w2, w3, wd⟩ := AW k hk
  have e24 : nI X / 24 = nI (X / 24) := idiv_nI (b := 24) hX (by omega) (by omega)
  have i3 : (nI (4 * k + 3)).toNatClampNeg = 4 * k + 3 := qn_nat (by omega)
  have i1 : (nI (4 * k + 1)).toNatClampNeg = 4 * k + 1 := qn_nat (by omega)
  have i2 : (nI (4 * k + 2)).toNatClampNeg = 4 * k + 2 := qn_nat (by omega)
  have i0 : (nI (4 * k)).toNatClampNeg = 4 * k := qn_nat (by omega)
  have v3 : vp_in (nI (4 * k + 3)) (gN (ov S M) w) := by rw [nw]; exact vin_nI (by omega) (by omega)
  have v1 : vp_in (nI (4 * k + 1)) (gN (ov S M) w) := by rw [nw]; exact vin_nI (by omega) (by omega)
  have v2 : vp_in (nI (4 * k + 2)) (gN (ov S M) w) := by rw [nw]; exact vin_nI (by omega) (by omega)
  have v0 : vp_in (nI (4 * k)) (gN (ov S M) w) := by rw [nw]; exact vin_nI (by omega) (by omega)
  have I := L.2.2.2.2.1
  have hCt := L.2.2.2.2.2.1
  have hcap := L.2.2.2.2.2.2
  unfold w_L_isDone_b51
  refine ⟨by omega, by omega, S, M, rfl, hd, x, rfl, ST_K H, 1, 6, by omega, by omega, ?_⟩
  refine s_of H hC _ _ 1 6 _ _ (Nat.le_refl _) (Nat.le_refl _) (fun hq => absurd (q_of_0 F hk ⟨by decide, by decide⟩) hq) (fun _ _ => ?_)
  rw [wh_0, qk, ix43]
  refine ⟨w, rfl, kw, v3, ?_⟩
  refine ⟨fun _ => ⟨fun _ => ⟨fun _ => ⟨fun _ => ⟨fun z => absurd rfl z, fun _ => ?_⟩, fun z => absurd z (by decide)⟩, fun z => absurd z (by decide)⟩, fun z => absurd z (by decide)⟩, fun z => absurd z (by decide)⟩
  have finx : ∀ {c1 n1 : Nat} {S' : PT}, c1 ≤ mc → n1 ≤ ms → post 1 (ov S' M) → w_L_isDone_b546 e0 m0 (some x) (some m) (some w) 4 (nI X) mc ms post c1 n1 (ov S' M) := fun g1 g2 hp => by
    unfold w_L_isDone_b546 w_L_isDone_b551
    exact ⟨g1, g2, g1, g2, bo_1, hp⟩
  have p8 : 0 < n 8 := by omega
  have ne8 : ¬ nI (n 8) = 0 := by rw [ieq, nI_toInt (by omega), I0]; omega
  have v3m : vp_in 3 (gN (ov S M) m) := by rw [nm]; exact vin_nI (k := 3) (by omega) (by omega)
  refine ⟨m, rfl, km, v3m, ?_⟩
  rw [cl_3, am, A3, e24, irem_nI (by omega) p8 (by omega)]
  have ho : X / 24 % n 8 < n 8 := Nat.mod_lt _ p8
  generalize X / 24 % n 8 = other at ho
  have qo : (nI other).toNatClampNeg = other := qn_nat (by omega)
  have hqi := q_agr F hk ho
  have e3 : nI (X / 24) - nI (X / 24) / 3 * 3 = nI (X / 24 % 3) := irem_nI (b := 3) (by omega) (by omega) (by omega)
  have b505 : ∀ {c1 n1 : Nat} {S1 : PT} {σ1 : SG} {r s0 : Int32}, s0 = 1 → (H1 : ST e0 x o S1 σ1 μ C cap) → dis S1 M → LA σ1 (gA M m) (gA M s) (gA M w) → LI σ1 μ t → (other = k ∨ (¬ other = k ∧ iT (σ1 39 (24 * other + k) = 0) 1 0 = 1 - r)) → c1 + 65 ≤ mc → n1 + 2100 ≤ ms → w_L_isDone_b505 e0 m0 (some x) (some m) (some w) 4 (nI X) mc ms post c1 n1 (ov S1 M) (nI k) (nI (X / 24)) (nI other) r s0 := fun {c1 n1 S1 σ1 r s0} es H1 hd1 hA hI hr g1 g2 => by
    have LWn := kk _ _ _ _ _ (LW_mk L H1 hd1 hA (LI_up hI (show t ≤ t + 1 by omega)) (by omega) hcap)
    unfold w_L_isDone_b505
    refine ⟨by omega, by omega, fun z => absurd (es.symm.trans z) (by decide), fun _ => ⟨fun _ => finx (by omega) (by omega) LWn, fun hne => ⟨fun _ => finx (by omega) (by omega) LWn, fun _ => ?_⟩⟩⟩
    have hne2 : ¬ other = k := fun e => hne (by rw [e])
    rcases hr with z | ⟨-, hr⟩
    · exact absurd z hne2
    obtain ⟨n1, h1, F1, -⟩ := ST_SF H1
    have e81 : n1 8 = n 8 := by
      have a1 := N8 F1
      have a2 := hA.1.2.2.2
      rw [A3] at a2
      rw [← a2, qn_nat (by omega)] at a1
      exact a1.symm
    refine ⟨60, 2000, by omega, by omega, ?_⟩
    have hq2 : q_agree σ1 (nI other) (nI k) = 0 := by rw [q_agr F1 (by omega) (by omega)]; exact iT_F hne2
    refine a_agree H1 hC hd1 _ _ _ _ _ (Nat.le_refl _) (Nat.le_refl _) (fun hne => absurd hq2 hne) (fun h0 S2 hd2 H2 => ?_)
    have LWn2 := kk _ _ _ _ _ (LW_mk L H2 hd2 (LA_c (la_agree _ _) hA) (LI_up (LI_c (lf_agree _ _) hI) (show t ≤ t + 1 by omega)) (by omega) hcap)
    rw [tog, qk, qo, hr]
    exact ⟨fun z => absurd rfl z, fun _ => finx (by omega) (by omega) LWn2⟩
  refine ⟨ne8, 60, 2000, by omega, by omega, ?_⟩
  refine a_agree H hC hd _ _ _ _ _ (Nat.le_refl _) (Nat.le_refl _) (fun hne => ?_) (fun h0 S1 hd1 H1 => ?_)
  · have hko : k = other := Classical.byContradiction (fun z => hne (by rw [hqi]; exact iT_F z))
    have e9 : q_agree σ (nI k) (nI other) = 2 := by rw [hqi]; exact iT_T hko
    rw [e9, cC_2]
    exact ⟨fun z => absurd (by rw [hko]) z, fun _ => ⟨fun z => absurd rfl z, fun _ => b505 rfl H hd L.2.2.2.1 I (Or.inl hko.symm) (by omega) (by omega)⟩⟩
  · have hko : ¬ k = other := fun z => absurd (hqi.symm.trans h0) (by rw [iT_T z]; decide)
    have hA1 := LA_c (la_agree (nI k) (nI other)) L.2.2.2.1
    have hI1 : LI (u_agree σ (nI k) (nI other)) μ t := LI_c (lf_agree _ _) I
    obtain ⟨s1, s2⟩ := agr_s (σ := σ) k other (by omega) (by omega)
    obtain ⟨n1, h1, F1, -⟩ := ST_SF H1
    have e81 : n1 8 = n 8 := by
      have a1 := N8 F1
      rw [la_agree _ _ 23 (by unfold la; omega)] at a1
      exact a1.symm.trans e8
    have hk1 : k < n1 8 := by omega
    rw [tog, qk, qo]
    have neo : ¬ nI other = nI k := fun z => hko ((qn_eq (by omega) (by omega)).mp z).symm
    by_cases z : σ 39 (24 * k + other) = 0
    · rw [iT_T z] at s1 s2 ⊢
      refine ⟨fun _ => ⟨fun z => absurd z (by decide), fun _ => ⟨fun z => absurd z (by decide), fun _ => ⟨S1, M, rfl, hd1, ST_K H1, 1, 6, by omega, by omega, ?_⟩⟩⟩, fun z => absurd z neo⟩
      refine s_meets H1 hC _ _ 1 6 _ _ (Nat.le_refl _) (Nat.le_refl _) (fun hq => absurd (q_meets_0 F1 hk1 (in_k F ho).1) hq) (fun _ _ => ?_)
      refine ⟨fun z9 => ?_, fun _ => ?_⟩
      · exfalso
        unfold z_meets at z9
        rw [qk, qo] at z9
        rcases first_spec (z_meet (u_agree σ (nI k) (nI other)) k) ((u_agree σ (nI k) (nI other) 23 0).toNatClampNeg - other) other with e | ⟨l, l1, l2, hl, e⟩
        · rw [e, ieq, nI_toInt (by omega), tl_m1] at z9; omega
        · rw [N8 F1] at l2
          rw [e, qn_eq (by omega) (by omega)] at z9
          have := hl.2.2.2.1
          rw [z9, s1] at this
          exact absurd this (by decide)
      · unfold w_L_isDone_b500
        exact ⟨by omega, by omega, b505 rfl H1 hd1 hA1 hI1 (Or.inr ⟨fun e => hko e.symm, by rw [s2]; exact (iT_F (by decide)).trans (by decide)⟩) (by omega) (by omega)⟩
    · rw [iT_F z] at s1 s2 ⊢
      refine ⟨fun _ => ⟨fun z => absurd z (by decide), fun _ => ⟨fun _ => ?_, fun z => absurd rfl z⟩⟩, fun z => absurd z neo⟩
      unfold w_L_isDone_b500
      exact ⟨by omega, by omega, b505 rfl H1 hd1 hA1 hI1 (Or.inr ⟨fun e => hko e.symm, by rw [s2]; exact (iT_T rfl).trans (by decide)⟩) (by omega) (by omega)⟩
theorem LI_fill (F : SF σ n h) (I : LI σ μ t) {k : Nat} (hk : k < 24) (y d : Int32) (hz : z_at σ k y < 240) (h13 : σ 13 (z_at σ k y) = nI k) (h511 : (σ 40 0).toNatClampNeg < 600) (h9 : (σ 40 0 + 1).toNatClampNeg = (σ 40 0).toNatClampNeg + 1) : LI (u_fill σ (nI k) y d) μ t := by
  have qk : (nI k).toNatClampNeg = k := qn_nat (by omega)
  obtain ⟨I1, I2, I4, I5, I7, I8, I9⟩ := I
  have g : ∀ f, (f = 0 ∨ f = 10 ∨ f = 25 ∨ f = 26 ∨ f = 27 ∨ f = 31 ∨ f = 33 ∨ f = 35 ∨ f = 36 ∨ f = 37) → (u_fill σ (nI k) y d) f = σ f := fun f hf9 => by
    unfold u_fill
    rw [up2_g (by omega), up2_g (by omega), up2_g (by omega), up2_g (by omega), up2_g (by omega), up2_g (by omega), up2_g (by omega)]
  have a40 : u_fill σ (nI k) y d 40 0 = σ 40 0 + 1 := by unfold u_fill; rw [up2_s]
  have a41 : u_fill σ (nI k) y d 41 (σ 40 0).toNatClampNeg = nI (z_at σ k y) ∧ ∀ i, i ≠ (σ 40 0).toNatClampNeg → u_fill σ (nI k) y d 41 i = σ 41 i := by
    unfold u_fill
    rw [qk]
    refine ⟨by rw [up2_f _ _ _ _ (by decide), up2_f _ _ _ _ (by decide), up2_f _ _ _ _ (by decide), up2_f _ _ _ _ (by decide), up2_s], fun i hi => by rw [up2_f _ _ _ _ (by decide), up2_f _ _ _ _ (by decide), up2_f _ _ _ _ (by decide), up2_f _ _ _ _ (by decide), up2_i _ _ hi, up2_f _ _ _ _ (by decide), up2_f _ _ _ _ (by decide)]⟩
  have a42 : u_fill σ (nI k) y d 42 (σ 40 0).toNatClampNeg = nI k ∧ ∀ i, i ≠ (σ 40 0).toNatClampNeg → u_fill σ (nI k) y d 42 i = σ 42 i := by
    unfold u_fill
    refine ⟨by rw [up2_f _ _ _ _ (by decide), up2_f _ _ _ _ (by decide), up2_f _ _ _ _ (by decide), up2_s], fun i hi => by rw [up2_f _ _ _ _ (by decide), up2_f _ _ _ _ (by decide), up2_f _ _ _ _ (by decide), up2_i _ _ hi, up2_f _ _ _ _ (by decide), up2_f _ _ _ _ (by decide), up2_f _ _ _ _ (by decide)]⟩
  have a13 : u_fill σ (nI k) y d 13 (z_at σ k y) = -1 ∧ ∀ i, i ≠ z_at σ k y → u_fill σ (nI k) y d 13 i = σ 13 i := by
    unfold u_fill
    rw [qk]
    refine ⟨by rw [up2_f _ _ _ _ (by decide), up2_f _ _ _ _ (by decide), up2_f _ _ _ _ (by decide), up2_f _ _ _ _ (by decide), up2_f _ _ _ _ (by decide), up2_s], fun i hi => by rw [up2_f _ _ _ _ (by decide), up2_f _ _ _ _ (by decide), up2_f _ _ _ _ (by decide), up2_f _ _ _ _ (by decide), up2_f _ _ _ _ (by decide), up2_i _ _ hi, up2_f _ _ _ _ (by decide)]⟩
  unfold LI
  rw [g 0 (by omega), g 10 (by omega), g 25 (by omega), g 26 (by omega), g 27 (by omega), g 31 (by omega), g 33 (by omega), g 35 (by omega), g 36 (by omega), g 37 (by omega), a40, h9]
  refine ⟨fun q l hq hl e => ?_, I2, fun f hf => ?_, I5, I7, I8, I9⟩
  · by_cases z : q = z_at σ k y
    · rw [z, a13.1, ieq, nI_toInt (by omega), tl_m1] at e; omega
    · rw [a13.2 q z] at e; exact I1 q l hq hl e
  · by_cases z : f = (σ 40 0).toNatClampNeg
    · rw [z, a41.1, a42.1, qk, qn_nat (by omega)]
      exact (I1 _ k hz hk h13).2
    · rw [a41.2 f z, a42.2 f z]; exact I4 f (by omega)
set_option maxRecDepth 100000 in
set_option maxHeartbeats 4000000 in
theorem done_fill (L : LW u9 v9 e0 x m s w S M σ μ C cap t) (H : ST e0 x o S σ μ C cap) (F : SF σ n h) (ht : t ≤ 140) {k X : Nat} (hk : k < n 8) (hX : X < 2147483648) {G : Int32} (hG : G = 10 ∨ G = 11 ∨ G = 12) {mc ms c0 n0 : Nat} {post : Int32 → PT → Prop} (hmc : c0 + 200 ≤ mc) (hms : n0 + 9000 ≤ ms) (kk : ∀ S' M' σ' μ' C', LW u9 v9 e0 x m s w S' M' σ' μ' C' cap (t + 1) → post 1 (ov S' M')) : w_L_isDone_b51 e0 m0 (some x) (some m) (some w) G (nI X) mc ms post c0 n0 (ov S M) (nI k) := by
  have hC : C < 512 := by have := L.2.2.2.2.2.1; omega
  have hd := L.2.1
  have h8 : n 8 ≤ 24 := F.1.2.2.2.2.2.1
  have h9 := F.2.2.1
  have qk : (nI k).toNatClampNeg = k := qn_nat (by omega)
  have e8 := N8 F
  obtain ⟨⟨km, nm, am⟩, -, ⟨kw, nw, aw⟩⟩ := LW_rows L F
  obtain ⟨A0, A1, A2, A3⟩ := LW_n L F
  obtain ⟨AS, AW, A16⟩ := L.2.2.2.1.2
  rw [e8] at AW A16
  obtain ⟨w0, w1, w2, w3, wd⟩ := AW k hk
  have e24 : nI X / 24 = nI (X / 24) := idiv_nI (b := 24) hX (by omega) (by omega)
  have i3 : (nI (4 * k + 3)).toNatClampNeg = 4 * k + 3 := qn_nat (by omega)
  have i1 : (nI (4 * k + 1)).toNatClampNeg = 4 * k + 1 := qn_nat (by omega)
  have i2 : (nI (4 * k + 2)).toNatClampNeg = 4 * k + 2 := qn_nat (by omega)
  have i0 : (nI (4 * k)).toNatClampNeg = 4 * k := qn_nat (by omega)
  have v3 : vp_in (nI (4 * k + 3)) (gN (ov S M) w) := by rw [nw]; exact vin_nI (by omega) (by omega)
  have v1 : vp_in (nI (4 * k + 1)) (gN (ov S M) w) := by rw [nw]; exact vin_nI (by omega) (by omega)
  have v2 : vp_in (nI (4 * k + 2)) (gN (ov S M) w) := by rw [nw]; exact vin_nI (by omega) (by omega)
  have v0 : vp_in (nI (4 * k)) (gN (ov S M) w) := by rw [nw]; exact vin_nI (by omega) (by omega)
  have I := L.2.2.2.2.1
  have hCt := L.2.2.2.2.2.1
  have hcap := L.2.2.2.2.2.2
  have g0 : ¬ G = 0 := by rcases hG with e | e | e <;> rw [e] <;> decide
  have g1 : ¬ G = 1 := by rcases hG with e | e | e <;> rw [e] <;> decide
  have g2 : ¬ G = 2 := by rcases hG with e | e | e <;> rw [e] <;> decide
  have g3 : ¬ G = 3 := by rcases hG with e | e | e <;> rw [e] <;> decide
  have g4 : ¬ G = 4 := by rcases hG with e | e | e <;> rw [e] <;> decide
  have g5 : ¬ G = 5 := by rcases hG with e | e | e <;> rw [e] <;> decide
  have g10 : (10 : Int32) ≤ G := by rcases hG with e | e | e <;> rw [e] <;> decide
  have g13 : ¬ (13 : Int32) ≤ G := by rcases hG with e | e | e <;> rw [e] <;> decide
  unfold w_L_isDone_b51
  refine ⟨by omega, by omega, S, M, rfl, hd, x, rfl, ST_K H, 1, 6, by omega, by omega, ?_⟩
  refine s_of H hC _ _ 1 6 _ _ (Nat.le_refl _) (Nat.le_refl _) (fun hq => absurd (q_of_0 F hk ⟨by decide, by decide⟩) hq) (fun _ _ => ?_)
  rw [wh_0, qk, ix43]
  refine ⟨w, rfl, kw, v3, ?_⟩
  obtain ⟨j, a, b, e25, e26, e27, hj, hab, hb⟩ := SF_wk F hk
  have lb := (len_2 F j).2
  have eD : nI b - nI a + 1 = nI (b - a + 1) := by rw [isub_nI hab (by omega), qn_s]
  have neD : ¬ nI (b - a + 1) = 0 := by rw [ieq, nI_toInt (by omega), I0]; omega
  rw [ix41, ix42, ix4, aw, i1, i2, w1, w2, e26, e27, eD]
  refine ⟨fun _ => ⟨fun _ => ⟨fun _ => ⟨fun _ => ⟨fun _ => ⟨fun _ => ⟨v1, v2, v1, ?_, fun _ => ⟨fun z => absurd z g13, fun _ => ?_⟩, fun z => absurd g10 z⟩, fun z => absurd z g5⟩, fun z => absurd z g4⟩, fun z => absurd z g3⟩, fun z => absurd z g2⟩, fun z => absurd z g1⟩, fun z => absurd z g0⟩
  · exact neD
  have yl : X / 24 % (b - a + 1) < b - a + 1 := Nat.mod_lt _ (by omega)
  rw [e24, irem_nI (by omega) (by omega) (by omega), qn_add]
  generalize X / 24 % (b - a + 1) = r at yl
  have ey : a + r < z_len σ j := by omega
  have h5 : n 5 ≤ 6 := F.1.2.1
  have eat : z_at σ k (nI (a + r)) = 40 * j + (a + r) := by unfold z_at; rw [e25, qn_nat (by omega), qn_nat (by omega)]
  have hzof : z_of σ (nI k) (nI (a + r)) := by
    unfold z_of
    rw [qk, e26, e27, qn_le (by omega) (by omega), qn_le (by omega) (by omega)]
    exact ⟨in_k F hk, by omega, by omega⟩
  have em : z_mat (nI j) (nI (a + r)) = 40 * j + (a + r) := mat_nI (by omega) (by omega)
  have ezq : z_q (nI j) (nI (a + r)) = nI (40 * j + (a + r)) := zq_nI j (a + r)
  have n40 := N1 F
  refine ⟨v0, ⟨S, M, rfl, hd, ST_K H, 1, 6, by omega, by omega, ?_⟩⟩
  rw [i0, w0, e25]
  refine s_metre H hC _ _ _ 1 6 _ _ (Nat.le_refl _) (Nat.le_refl _) (fun hq => absurd (q_metre_0 F hj ey ⟨by decide, by decide⟩) hq) (fun _ _ => ?_)
  rw [mw_2, em]
  have d0 : 0 ≤ nI (X / 24 / 40 % 101) ∧ nI (X / 24 / 40 % 101) ≤ 100 := ⟨by rw [ile, I0, nI_toInt (by omega)]; omega, by rw [ile, nI_toInt (by omega), tl_100]; omega⟩
  have hqi : q_fill σ (nI k) (nI (a + r)) (nI (X / 24 / 40 % 101)) = iT (¬ σ 13 (40 * j + (a + r)) = nI k) 3 0 := by
    unfold q_fill
    rw [iT_F (fun z => z hzof), iT_F (fun z => z d0), qk, eat]
  have finx : ∀ {c1 n1 : Nat} {S' : PT}, c1 ≤ mc → n1 ≤ ms → post 1 (ov S' M) → w_L_isDone_b1063 e0 m0 (some x) (some m) (some w) G (nI X) mc ms post c1 n1 (ov S' M) 1 := fun g1 g2 hp => by
    unfold w_L_isDone_b1063
    exact ⟨g1, g2, bo_1, hp⟩
  have e240 : nI (X / 24) / 40 = nI (X / 24 / 40) := idiv_nI (b := 40) (by omega) (by omega) (by omega)
  have er101 : nI (X / 24 / 40) - nI (X / 24 / 40) / 101 * 101 = nI (X / 24 / 40 % 101) := irem_nI (b := 101) (by omega) (by omega) (by omega)
  have b955 : ∀ {c1 n1 : Nat} (s0 : Int32), ((s0 = 0 ∧ ¬ σ 13 (40 * j + (a + r)) = nI k) ∨ (s0 = 1 ∧ σ 13 (40 * j + (a + r)) = nI k)) → c1 + 80 ≤ mc → n1 + 3000 ≤ ms → w_L_isDone_b955 e0 m0 (some x) (some m) (some w) G (nI X) mc ms post c1 n1 (ov S M) (nI k) (nI (X / 24)) (nI (a + r)) s0 := fun {c1 n1} s0 hs g1 g2 => by
    unfold w_L_isDone_b955
    rw [ix4, e240, er101]
    refine ⟨by omega, by omega, w, rfl, kw, v0, S, M, rfl, hd, x, rfl, ST_K H, 1, 6, by omega, by omega, ?_⟩
    rw [aw, i0, w0, e25]
    refine s_metre H hC _ _ _ 1 6 _ _ (Nat.le_refl _) (Nat.le_refl _) (fun hq => absurd (q_metre_0 F hj ey ⟨by decide, by decide⟩) hq) (fun _ _ => ?_)
    rw [mw_3, ezq]
    refine ⟨60, 2000, by omega, by omega, ?_⟩
    refine a_fill H hC hd _ _ _ _ _ (Nat.le_refl _) (Nat.le_refl _) (fun hne => ?_) (fun h0 S1 hd1 H1 => ?_)
    · have h13 : ¬ σ 13 (40 * j + (a + r)) = nI k := fun z => hne (by rw [hqi]; exact iT_F (fun z2 => z2 z))
      have e9 : q_fill σ (nI k) (nI (a + r)) (nI (X / 24 / 40 % 101)) = 3 := by rw [hqi]; exact iT_T h13
      rw [e9, cA_3]
      rcases hs with ⟨es, -⟩ | ⟨-, hc⟩
      · exact ⟨fun _ => ⟨fun z => absurd rfl z, fun _ => finx (by omega) (by omega) (kk _ _ _ _ _ (LW_up L))⟩, fun z => absurd es z⟩
      · exact absurd hc h13
    · have h13 : σ 13 (40 * j + (a + r)) = nI k := Classical.byContradiction (fun z => absurd (hqi.symm.trans h0) (by rw [iT_T z]; decide))
      rcases hs with ⟨-, hc⟩ | ⟨es, -⟩
      · exact absurd h13 hc
      have hs0 : ¬ s0 = 0 := by rw [es]; decide
      have e41 : (σ 40 0 + 1).toNatClampNeg = n 1 + 1 := by rw [F.1.2.2.2.2.2.2.1, qn_s]; exact qn_nat (by omega)
      have hLI : LI (u_fill σ (nI k) (nI (a + r)) (nI (X / 24 / 40 % 101))) μ t := LI_fill F I (by omega) _ _ (by rw [eat]; omega) (by rw [eat]; exact h13) (by rw [n40.1]; omega) (by rw [e41, n40.1])
      have LWn := kk _ _ _ _ _ (LW_mk L H1 hd1 (LA_c (la_fill _ _ _) L.2.2.2.1) (LI_up hLI (by omega)) (by omega) hcap)
      have l25 := congrFun (la_fill (σ := σ) (nI k) (nI (a + r)) (nI (X / 24 / 40 % 101)) 2 (by unfold la; omega)) j
      have l5 := congrFun (la_fill (σ := σ) (nI k) (nI (a + r)) (nI (X / 24 / 40 % 101)) 1 (by unfold la; omega)) 0
      have s40 : u_fill σ (nI k) (nI (a + r)) (nI (X / 24 / 40 % 101)) 40 0 = σ 40 0 + 1 := by unfold u_fill; rw [up2_s]
      have s13 : u_fill σ (nI k) (nI (a + r)) (nI (X / 24 / 40 % 101)) 13 (40 * j + (a + r)) = -1 := by
        unfold u_fill
        rw [qk, eat, up2_f _ _ _ _ (by decide), up2_f _ _ _ _ (by decide), up2_f _ _ _ _ (by decide), up2_f _ _ _ _ (by decide), up2_f _ _ _ _ (by decide), up2_s]
      have s41 : ∀ i, u_fill σ (nI k) (nI (a + r)) (nI (X / 24 / 40 % 101)) 41 i = if i = n 1 then nI (40 * j + (a + r)) else σ 41 i := fun i => by
        unfold u_fill
        rw [qk, eat, n40.1, up2_f _ _ _ _ (by decide), up2_f _ _ _ _ (by decide), up2_f _ _ _ _ (by decide), up2_f _ _ _ _ (by decide)]
        by_cases e : i = n 1
        · rw [if_pos e, e, up2_s]
        · rw [if_neg e, up2_i _ _ e, up2_f _ _ _ _ (by decide), up2_f _ _ _ _ (by decide)]
      have ecn : cN (fun f => u_fill σ (nI k) (nI (a + r)) (nI (X / 24 / 40 % 101)) 41 f = nI (40 * j + (a + r))) (n 1 + 1) = cN (fun f => σ 41 f = nI (40 * j + (a + r))) (n 1) + 1 := by
        show cN _ (n 1) + iT (_) 1 0 = _
        rw [iT_T ((s41 _).trans (if_pos rfl)), cN_cong (n 1) (fun i hi => by rw [s41, if_neg (by omega)])]
      have hcn := cN_le (fun f => σ 41 f = nI (40 * j + (a + r))) (n 1)
      obtain ⟨n2, h2, F2, -⟩ := ST_SF H1
      have e51 : n2 5 = n 5 := by
        have a1 := N5 F2
        rw [l5] at a1
        exact a1.symm.trans (N5 F)
      have ey2 : a + r < z_len (u_fill σ (nI k) (nI (a + r)) (nI (X / 24 / 40 % 101))) j := by
        have e1 : z_len (u_fill σ (nI k) (nI (a + r)) (nI (X / 24 / 40 % 101))) j = z_len σ j := congrArg Int32.toNatClampNeg l25
        rw [e1]; exact ey
      have hj2 : j < n2 5 := by omega
      obtain ⟨-, -, ⟨kw1, nw1, aw1⟩⟩ := MA_ov L.2.2.1 S1
      have v01 : vp_in (nI (4 * k)) (gN (ov S1 M) w) := by rw [nw1]; exact vin_nI (by omega) (by omega)
      rw [qk, eat, n40.1, ecn]
      refine ⟨fun z => absurd z hs0, fun _ => ⟨fun z => absurd (qn_s _).symm z, fun _ => ⟨kw1, v01, ⟨S1, M, rfl, hd1, ST_K H1, 1, 6, by omega, by omega, ?_⟩⟩⟩⟩
      rw [aw1, w0, e25]
      refine s_metre H1 (by omega) _ _ _ 1 6 _ _ (Nat.le_refl _) (Nat.le_refl _) (fun hq => absurd (q_metre_0 F2 hj2 ey2 ⟨by decide, by decide⟩) hq) (fun _ _ => ?_)
      rw [mw_2, em, s13]
      refine ⟨fun z => absurd rfl z, fun _ => ⟨kw1, v01, ⟨S1, M, rfl, hd1, ST_K H1, 1, 6, by omega, by omega, ?_⟩⟩⟩
      rw [aw1, w0, e25]
      refine s_metre H1 (by omega) _ _ _ 1 6 _ _ (Nat.le_refl _) (Nat.le_refl _) (fun hq => absurd (q_metre_0 F2 hj2 ey2 ⟨by decide, by decide⟩) hq) (fun _ _ => ?_)
      rw [mw_3, ezq, s40, e41, ecn]
      exact ⟨fun z => absurd rfl z, fun _ => finx (by omega) (by omega) LWn⟩
  exact ⟨fun z => b955 0 (Or.inl ⟨rfl, z⟩) (by omega) (by omega), fun z => b955 1 (Or.inr ⟨rfl, z⟩) (by omega) (by omega)⟩
end DNG
