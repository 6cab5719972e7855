/-! what works do: vary, start, plate, extend, stop -/
section DNF
variable {u9 v9 e0 m0 x o m s w : Nat} {S M : PT} {σ σ' : SG} {μ μ' : MU} {C cap t : Nat} {n : Nat → Nat} {h : Nat}
theorem hasc (hf : ∀ f, f ≠ 36 → f ≠ 49 → σ' f = σ f) (j nW : Nat) : z_met σ' j nW = z_met σ j nW := by
  unfold z_met z_meet z_may z_on z_has z_end z_last z_today z_near
  rw [hf 33 (by decide) (by decide), hf 30 (by decide) (by decide), hf 31 (by decide) (by decide), hf 0 (by decide) (by decide), hf 39 (by decide) (by decide), hf 25 (by decide) (by decide), hf 26 (by decide) (by decide), hf 27 (by decide) (by decide), hf 5 (by decide) (by decide)]
theorem bars_3 {j nW : Nat} (e : z_bars σ j nW = 3) : z_met σ j nW := by
  rcases bars_in (σ := σ) j nW with z | z | z | ⟨-, z⟩
  · rw [z] at e; exact absurd e (by decide)
  · rw [z] at e; exact absurd e (by decide)
  · rw [z] at e; exact absurd e (by decide)
  · exact z
theorem n1713 {v : Int32} (h1 : -1000 ≤ v.toInt) : ¬ v = -1713000 := by
  rw [ieq, show (-1713000 : Int32).toInt = -1713000 from by decide]; omega
set_option maxRecDepth 100000 in
set_option maxHeartbeats 2000000 in
theorem done_vary (L : LW u9 v9 e0 x m s w S M σ μ C cap t) (H : ST e0 x o S σ μ C cap) (F : SF σ n h) (ht : t ≤ 140) {k X : Nat} (hk : k < n 8) (hX : X < 2147483648) {mc ms c0 n0 : Nat} {post : Int32 → PT → Prop} (hmc : c0 + 200 ≤ mc) (hms : n0 + 9000 ≤ ms) (kk : ∀ S' M' σ' μ' C', LW u9 v9 e0 x m s w S' M' σ' μ' C' cap (t + 1) → post 1 (ov S' M')) : w_L_isDone_b51 e0 m0 (some x) (some m) (some w) 2 (nI X) mc ms post c0 n0 (ov S M) (nI k) := by
  have hC : C < 512 := by have := L.2.2.2.2.2.1; omega
  have hd := L.2.1
  have h8 : n 8 ≤ 24 := F.1.2.2.2.2.2.1
  have h9 := F.2.2.1
  have qk : (nI k).toNatClampNeg = k := qn_nat (by omega)
  have e8 := N8 F
  obtain ⟨⟨km, nm, am⟩, -, ⟨kw, nw, aw⟩⟩ := LW_rows L F
  obtain ⟨A0, A1, A2, A3⟩ := LW_n L F
  obtain ⟨AS, AW, A16⟩ := L.2.2.2.1.2
  rw [e8] at AW A16
  obtain ⟨w0, w1, w2, w3, wd⟩ := AW k hk
  have e24 : nI X / 24 = nI (X / 24) := idiv_nI (b := 24) hX (by omega) (by omega)
  have i3 : (nI (4 * k + 3)).toNatClampNeg = 4 * k + 3 := qn_nat (by omega)
  have i1 : (nI (4 * k + 1)).toNatClampNeg = 4 * k + 1 := qn_nat (by omega)
  have i2 : (nI (4 * k + 2)).toNatClampNeg = 4 * k + 2 := qn_nat (by omega)
  have i0 : (nI (4 * k)).toNatClampNeg = 4 * k := qn_nat (by omega)
  have v3 : vp_in (nI (4 * k + 3)) (gN (ov S M) w) := by rw [nw]; exact vin_nI (by omega) (by omega)
  have v1 : vp_in (nI (4 * k + 1)) (gN (ov S M) w) := by rw [nw]; exact vin_nI (by omega) (by omega)
  have v2 : vp_in (nI (4 * k + 2)) (gN (ov S M) w) := by rw [nw]; exact vin_nI (by omega) (by omega)
  have v0 : vp_in (nI (4 * k)) (gN (ov S M) w) := by rw [nw]; exact vin_nI (by omega) (by omega)
  have I := L.2.2.2.2.1
  have hCt := L.2.2.2.2.2.1
  have hcap := L.2.2.2.2.2.2
  unfold w_L_isDone_b51
  refine ⟨by omega, by omega, S, M, rfl, hd, x, rfl, ST_K H, 1, 6, by omega, by omega, ?_⟩
  refine s_of H hC _ _ 1 6 _ _ (Nat.le_refl _) (Nat.le_refl _) (fun hq => absurd (q_of_0 F hk ⟨by decide, by decide⟩) hq) (fun _ _ => ?_)
  rw [wh_0, qk, ix43]
  refine ⟨w, rfl, kw, v3, ?_⟩
  refine ⟨fun _ => ⟨fun _ => ⟨fun z => absurd rfl z, fun _ => ?_⟩, fun z => absurd z (by decide)⟩, fun z => absurd z (by decide)⟩
  have finx : ∀ {c1 n1 : Nat} {S' : PT}, c1 ≤ mc → n1 ≤ ms → post 1 (ov S' M) → w_L_isDone_b371 e0 m0 (some x) (some m) (some w) 2 (nI X) mc ms post c1 n1 (ov S' M) 1 := fun g1 g2 hp => by
    unfold w_L_isDone_b371
    exact ⟨g1, g2, bo_1, hp⟩
  have hc4 := in_c (X / 24)
  have er4 : nI (X / 24) - nI (X / 24) / 4 * 4 = nI (X / 24 % 4) := irem_nI (b := 4) (by omega) (by omega) (by omega)
  rw [e24, er4]
  have hqi : q_vary σ (nI k) (nI (X / 24 % 4)) = iT (¬ z_on σ k) 3 0 := by unfold q_vary; rw [iT_F (fun z => z (in_k F hk)), iT_F (fun z => z hc4), qk]
  refine ⟨S, M, rfl, hd, ST_K H, 1, 6, by omega, by omega, ?_⟩
  refine s_of H hC _ _ 1 6 _ _ (Nat.le_refl _) (Nat.le_refl _) (fun hq => absurd (q_of_0 F hk ⟨by decide, by decide⟩) hq) (fun _ _ => ?_)
  rw [wh_3, qk]
  refine ⟨60, 2000, by omega, by omega, ?_⟩
  refine a_vary H hC hd _ _ _ _ _ (Nat.le_refl _) (Nat.le_refl _) (fun hne => ?_) (fun h0 S1 hd1 H1 => ?_)
  · have hon : ¬ z_on σ k := fun e => hne (by rw [hqi]; exact iT_F (fun z => z e))
    have e3 : q_vary σ (nI k) (nI (X / 24 % 4)) = 3 := by rw [hqi]; exact iT_T hon
    rw [e3, cA_3]
    exact ⟨fun z => absurd (Or.inl z) hon, fun _ => ⟨fun _ => ⟨fun z => absurd rfl z, fun _ => finx (by omega) (by omega) (kk _ _ _ _ _ (LW_up L))⟩, fun z => absurd (Or.inr z) hon⟩⟩
  · have hon : z_on σ k := Classical.byContradiction (fun z => absurd (hqi.symm.trans h0) (by rw [iT_T z]; decide))
    have s34 : u_vary σ (nI k) (nI (X / 24 % 4)) 34 k = nI (X / 24 % 4) := by unfold u_vary; rw [qk, up2_f _ _ _ _ (by decide), up2_s]
    have s35 : u_vary σ (nI k) (nI (X / 24 % 4)) 35 k = σ 35 k + 1 := by unfold u_vary; rw [qk, up2_s]
    have ub := I.2.2.2.1 k (by omega)
    have hLI : LI (u_vary σ (nI k) (nI (X / 24 % 4))) μ (t + 1) := LI_b (k := k) I (fun f a _ c _ => lf_vary _ _ f a c) (fun j hj => ⟨by unfold u_vary; rw [up2_f _ _ _ _ (by decide), up2_f _ _ _ _ (by decide), up2_f _ _ _ _ (by decide)], by unfold u_vary; rw [qk, up2_i _ _ hj, up2_f _ _ _ _ (by decide), up2_f _ _ _ _ (by decide)], by unfold u_vary; rw [up2_f _ _ _ _ (by decide), up2_f _ _ _ _ (by decide), up2_f _ _ _ _ (by decide)]⟩) (by
      have a1 : u_vary σ (nI k) (nI (X / 24 % 4)) 36 k = σ 36 k := by unfold u_vary; rw [up2_f _ _ _ _ (by decide), up2_f _ _ _ _ (by decide), up2_f _ _ _ _ (by decide)]
      have a2 : u_vary σ (nI k) (nI (X / 24 % 4)) 31 k = σ 31 k := by unfold u_vary; rw [up2_f _ _ _ _ (by decide), up2_f _ _ _ _ (by decide), up2_f _ _ _ _ (by decide)]
      rw [a1, a2, s35, tadd, tl_1]
      omega)
    have LWn := kk _ _ _ _ _ (LW_mk L H1 hd1 (LA_c (la_vary _ _) L.2.2.2.1) hLI (by omega) hcap)
    obtain ⟨n1, h1, F1, -⟩ := ST_SF H1
    have e81 : n1 8 = n 8 := by
      have a1 := N8 F1
      rw [la_vary _ _ 23 (by unfold la; omega)] at a1
      exact a1.symm.trans e8
    have hk1 : k < n1 8 := by omega
    have b316 : ∀ {c1 n1 : Nat}, c1 + 10 ≤ mc → n1 + 60 ≤ ms → w_L_isDone_b316 e0 m0 (some x) (some m) (some w) 2 (nI X) mc ms post c1 n1 (ov S1 M) (nI k) (nI (X / 24)) (σ 35 k) (σ 35 k + 1) := fun g1 g2 => by
      unfold w_L_isDone_b316
      refine ⟨by omega, by omega, fun z => absurd rfl z, fun _ => ⟨S1, M, rfl, hd1, x, rfl, ST_K H1, 1, 6, by omega, by omega, ?_⟩⟩
      refine s_of H1 hC _ _ 1 6 _ _ (Nat.le_refl _) (Nat.le_refl _) (fun hq => absurd (q_of_0 F1 hk1 ⟨by decide, by decide⟩) hq) (fun _ _ => ?_)
      rw [wh_2, qk]
      rw [s34, er4]
      refine ⟨fun z => absurd rfl z, fun _ => ⟨S1, M, rfl, hd1, ST_K H1, 1, 6, by omega, by omega, ?_⟩⟩
      refine s_of H1 hC _ _ 1 6 _ _ (Nat.le_refl _) (Nat.le_refl _) (fun hq => absurd (q_of_0 F1 hk1 ⟨by decide, by decide⟩) hq) (fun _ _ => ?_)
      rw [wh_3, qk]
      rw [s35]
      exact ⟨fun z => absurd rfl z, fun _ => finx (by omega) (by omega) LWn⟩
    rw [qk]
    refine ⟨fun _ => b316 (by omega) (by omega), fun z1 => ⟨fun z3 => ?_, fun _ => b316 (by omega) (by omega)⟩⟩
    exfalso
    rcases hon with e | e
    · exact z1 e
    · exact z3 e
set_option maxRecDepth 100000 in
set_option maxHeartbeats 2000000 in
theorem done_start (L : LW u9 v9 e0 x m s w S M σ μ C cap t) (H : ST e0 x o S σ μ C cap) (F : SF σ n h) (ht : t ≤ 140) {k X : Nat} (hk : k < n 8) (hX : X < 2147483648) {mc ms c0 n0 : Nat} {post : Int32 → PT → Prop} (hmc : c0 + 200 ≤ mc) (hms : n0 + 9000 ≤ ms) (kk : ∀ S' M' σ' μ' C', LW u9 v9 e0 x m s w S' M' σ' μ' C' cap (t + 1) → post 1 (ov S' M')) : w_L_isDone_b51 e0 m0 (some x) (some m) (some w) 5 (nI X) mc ms post c0 n0 (ov S M) (nI k) := by
  have hC : C < 512 := by have := L.2.2.2.2.2.1; omega
  have hd := L.2.1
  have h8 : n 8 ≤ 24 := F.1.2.2.2.2.2.1
  have h9 := F.2.2.1
  have qk : (nI k).toNatClampNeg = k := qn_nat (by omega)
  have e8 := N8 F
  obtain ⟨⟨km, nm, am⟩, -, ⟨kw, nw, aw⟩⟩ := LW_rows L F
  obtain ⟨A0, A1, A2, A3⟩ := LW_n L F
  obtain ⟨AS, AW, A16⟩ := L.2.2.2.1.2
  rw [e8] at AW A16
  obtain ⟨w0, w1, w2, w3, wd⟩ := AW k hk
  have e24 : nI X / 24 = nI (X / 24) := idiv_nI (b := 24) hX (by omega) (by omega)
  have i3 : (nI (4 * k + 3)).toNatClampNeg = 4 * k + 3 := qn_nat (by omega)
  have i1 : (nI (4 * k + 1)).toNatClampNeg = 4 * k + 1 := qn_nat (by omega)
  have i2 : (nI (4 * k + 2)).toNatClampNeg = 4 * k + 2 := qn_nat (by omega)
  have i0 : (nI (4 * k)).toNatClampNeg = 4 * k := qn_nat (by omega)
  have v3 : vp_in (nI (4 * k + 3)) (gN (ov S M) w) := by rw [nw]; exact vin_nI (by omega) (by omega)
  have v1 : vp_in (nI (4 * k + 1)) (gN (ov S M) w) := by rw [nw]; exact vin_nI (by omega) (by omega)
  have v2 : vp_in (nI (4 * k + 2)) (gN (ov S M) w) := by rw [nw]; exact vin_nI (by omega) (by omega)
  have v0 : vp_in (nI (4 * k)) (gN (ov S M) w) := by rw [nw]; exact vin_nI (by omega) (by omega)
  have I := L.2.2.2.2.1
  have hCt := L.2.2.2.2.2.1
  have hcap := L.2.2.2.2.2.2
  unfold w_L_isDone_b51
  refine ⟨by omega, by omega, S, M, rfl, hd, x, rfl, ST_K H, 1, 6, by omega, by omega, ?_⟩
  refine s_of H hC _ _ 1 6 _ _ (Nat.le_refl _) (Nat.le_refl _) (fun hq => absurd (q_of_0 F hk ⟨by decide, by decide⟩) hq) (fun _ _ => ?_)
  rw [wh_0, qk, ix43]
  refine ⟨w, rfl, kw, v3, ?_⟩
  refine ⟨fun _ => ⟨fun _ => ⟨fun _ => ⟨fun _ => ⟨fun _ => ⟨fun z => absurd rfl z, fun _ => ?_⟩, fun z => absurd z (by decide)⟩, fun z => absurd z (by decide)⟩, fun z => absurd z (by decide)⟩, fun z => absurd z (by decide)⟩, fun z => absurd z (by decide)⟩
  have finx : ∀ {c1 n1 : Nat} {S' : PT}, c1 ≤ mc → n1 ≤ ms → post 1 (ov S' M) → w_L_isDone_b643 e0 m0 (some x) (some m) (some w) 5 (nI X) mc ms post c1 n1 (ov S' M) 1 := fun g1 g2 hp => by
    unfold w_L_isDone_b643
    exact ⟨g1, g2, bo_1, hp⟩
  have hqi : q_start σ (nI k) = iT (¬ σ 33 k = 1 ∨ ¬ (σ 30 k ≤ z_today σ ∧ z_today σ ≤ z_last σ k)) 2 0 := by unfold q_start; rw [iT_F (fun z => z (in_k F hk)), qk]
  refine ⟨60, 2000, by omega, by omega, ?_⟩
  refine a_start H hC hd _ _ _ _ _ (Nat.le_refl _) (Nat.le_refl _) (fun hne => ?_) (fun h0 S1 hd1 H1 => ?_)
  · have e3 : q_start σ (nI k) = 2 := by
      rw [hqi] at hne ⊢
      exact iT_T (Classical.byContradiction (fun z => hne (iT_F z)))
    rw [e3, cQ_2]
    refine ⟨fun z => absurd rfl z, fun _ => ⟨S, M, rfl, hd, ST_K H, 1, 6, by omega, by omega, ?_⟩⟩
    refine s_of H hC _ _ 1 6 _ _ (Nat.le_refl _) (Nat.le_refl _) (fun hq => absurd (q_of_0 F hk ⟨by decide, by decide⟩) hq) (fun _ _ => ?_)
    rw [wh_0, qk]
    exact ⟨fun z => absurd rfl z, fun _ => finx (by omega) (by omega) (kk _ _ _ _ _ (LW_up L))⟩
  · have hcs : σ 33 k = 1 ∧ z_today σ ≤ z_last σ k := by
      refine Classical.byContradiction (fun z => absurd (hqi.symm.trans h0) ?_)
      rw [iT_T]
      · decide
      · exact Classical.byContradiction (fun z2 => z ⟨Classical.byContradiction (fun z3 => z2 (Or.inl z3)), Classical.byContradiction (fun z3 => z2 (Or.inr (fun z4 => z3 z4.2)))⟩)
    have s33 : u_start σ (nI k) 33 k = 3 := by unfold u_start; rw [qk, up2_s]
    have slast : z_last (u_start σ (nI k)) k = z_last σ k := by unfold z_last u_start; rw [up2_f _ _ _ _ (by decide), up2_f _ _ _ _ (by decide), up2_f _ _ _ _ (by decide), up2_f _ _ _ _ (by decide)]
    have hLI : LI (u_start σ (nI k)) μ t := LI_wk (k := k) I (fun f a b _ => lf_start _ f a b) (fun j hj => by unfold u_start; rw [qk, up2_i _ _ hj, up2_f _ _ _ _ (by decide)]) (fun j _ => by unfold u_start; rw [up2_f _ _ _ _ (by decide), up2_f _ _ _ _ (by decide)]) (Or.inr s33) (Or.inl s33)
    have LWn := kk _ _ _ _ _ (LW_mk L H1 hd1 (LA_c (la_start _) L.2.2.2.1) (LI_up hLI (by omega)) (by omega) hcap)
    obtain ⟨n1, h1, F1, -⟩ := ST_SF H1
    have e81 : n1 8 = n 8 := by
      have a1 := N8 F1
      rw [la_start _ 23 (by unfold la; omega)] at a1
      exact a1.symm.trans e8
    have hk1 : k < n1 8 := by omega
    have nl := n1713 (v := z_last σ k) (by have := last_b I F (by omega) (k := k) (by omega); omega)
    rw [qk]
    refine ⟨fun _ => ⟨fun z => absurd hcs.1 z, fun _ => ⟨S1, M, rfl, hd1, ST_K H1, 1, 6, by omega, by omega, ?_⟩⟩, fun z => absurd z nl⟩
    refine s_of H1 hC _ _ 1 6 _ _ (Nat.le_refl _) (Nat.le_refl _) (fun hq => absurd (q_of_0 F1 hk1 ⟨by decide, by decide⟩) hq) (fun _ _ => ?_)
    rw [wh_0, qk]
    rw [s33]
    refine ⟨fun z => absurd rfl z, fun _ => ⟨S1, M, rfl, hd1, ST_K H1, 1, 6, by omega, by omega, ?_⟩⟩
    refine s_of H1 hC _ _ 1 6 _ _ (Nat.le_refl _) (Nat.le_refl _) (fun hq => absurd (q_of_0 F1 hk1 ⟨by decide, by decide⟩) hq) (fun _ _ => ?_)
    rw [wh_1, qk]
    rw [slast]
    obtain ⟨⟨km1, nm1, am1⟩, -, -⟩ := MA_ov L.2.2.1 S1
    refine ⟨fun z => absurd rfl z, fun _ => ⟨m, rfl, km1, by rw [nm1]; exact vin_nI (k := 0) (by omega) (by omega), ?_⟩⟩
    rw [cl_0, am1, A0]
    refine ⟨fun z => ?_, fun _ => finx (by omega) (by omega) LWn⟩
    have a1 := hcs.2
    unfold z_today at a1
    rw [ile] at a1
    rw [ilt] at z
    omega
set_option maxRecDepth 100000 in
set_option maxHeartbeats 4000000 in
theorem done_plate (L : LW u9 v9 e0 x m s w S M σ μ C cap t) (H : ST e0 x o S σ μ C cap) (F : SF σ n h) (ht : t ≤ 140) {k X : Nat} (hk : k < n 8) (hX : X < 2147483648) {mc ms c0 n0 : Nat} {post : Int32 → PT → Prop} (hmc : c0 + 200 ≤ mc) (hms : n0 + 9000 ≤ ms) (kk : ∀ S' M' σ' μ' C', LW u9 v9 e0 x m s w S' M' σ' μ' C' cap (t + 1) → post 1 (ov S' M')) : w_L_isDone_b51 e0 m0 (some x) (some m) (some w) 13 (nI X) mc ms post c0 n0 (ov S M) (nI k) := by
  have hC : C < 512 := by have := L.2.2.2.2.2.1; omega
  have hd := L.2.1
  have h8 : n 8 ≤ 24 := F.1.2.2.2.2.2.1
  have h9 := F.2.2.1
  have qk : (nI k).toNatClampNeg = k := qn_nat (by omega)
  have e8 := N8 F
  obtain ⟨⟨km, nm, am⟩, -, ⟨kw, nw, aw⟩⟩ := LW_rows L F
  obtain ⟨A0, A1, A2, A3⟩ := LW_n L F
  obtain ⟨AS, AW, A16⟩ := L.2.2.2.1.2
  rw [e8] at AW A16
  obtain ⟨w0, w1, w2, w3, wd⟩ := AW k hk
  have e24 : nI X / 24 = nI (X / 24) := idiv_nI (b := 24) hX (by omega) (by omega)
  have i3 : (nI (4 * k + 3)).toNatClampNeg = 4 * k + 3 := qn_nat (by omega)
  have i1 : (nI (4 * k + 1)).toNatClampNeg = 4 * k + 1 := qn_nat (by omega)
  have i2 : (nI (4 * k + 2)).toNatClampNeg = 4 * k + 2 := qn_nat (by omega)
  have i0 : (nI (4 * k)).toNatClampNeg = 4 * k := qn_nat (by omega)
  have v3 : vp_in (nI (4 * k + 3)) (gN (ov S M) w) := by rw [nw]; exact vin_nI (by omega) (by omega)
  have v1 : vp_in (nI (4 * k + 1)) (gN (ov S M) w) := by rw [nw]; exact vin_nI (by omega) (by omega)
  have v2 : vp_in (nI (4 * k + 2)) (gN (ov S M) w) := by rw [nw]; exact vin_nI (by omega) (by omega)
  have v0 : vp_in (nI (4 * k)) (gN (ov S M) w) := by rw [nw]; exact vin_nI (by omega) (by omega)
  have I := L.2.2.2.2.1
  have hCt := L.2.2.2.2.2.1
  have hcap := L.2.2.2.2.2.2

  unfold w_L_isDone_b51
  refine ⟨by omega, by omega, S, M, rfl, hd, x, rfl, ST_K H, 1, 6, by omega, by omega, ?_⟩
  refine s_of H hC _ _ 1 6 _ _ (Nat.le_refl _) (Nat.le_refl _) (fun hq => absurd (q_of_0 F hk ⟨by decide, by decide⟩) hq) (fun _ _ => ?_)
  rw [wh_0, qk, ix43]
  refine ⟨w, rfl, kw, v3, ?_⟩
  obtain ⟨j, a, b, e25, e26, e27, hj, hab, hb⟩ := SF_wk F hk
  have lb := (len_2 F j).2
  have eD : nI b - nI a + 1 = nI (b - a + 1) := by rw [isub_nI hab (by omega), qn_s]
  have neD : ¬ nI (b - a + 1) = 0 := by rw [ieq, nI_toInt (by omega), I0]; omega
  rw [ix41, ix42, aw, i1, i2, w1, w2, e26, e27, eD]
  refine ⟨fun _ => ⟨fun _ => ⟨fun _ => ⟨fun _ => ⟨fun _ => ⟨fun _ => ⟨v1, v2, v1, ?_, fun _ => ⟨fun _ => ⟨fun z => absurd rfl z, fun _ => ?_⟩, fun z => absurd (by decide) z⟩, fun z => absurd (by decide) z⟩, fun z => absurd z (by decide)⟩, fun z => absurd z (by decide)⟩, fun z => absurd z (by decide)⟩, fun z => absurd z (by decide)⟩, fun z => absurd z (by decide)⟩, fun z => absurd z (by decide)⟩
  · exact neD
  have fin : ∀ {c1 n1 : Nat} {S' : PT}, c1 ≤ mc → n1 ≤ ms → post 1 (ov S' M) → ∀ a b : Int32, a = b → w_L_isDone_b1107 e0 m0 (some x) (some m) (some w) 13 (nI X) mc ms post c1 n1 (ov S' M) a b := fun g1 g2 hp a b e => by
    unfold w_L_isDone_b1107 w_L_isDone_b1115
    exact ⟨g1, g2, fun z => absurd e z, fun _ => ⟨g1, g2, bo_1, hp⟩⟩
  have hq1 : ¬ q_plate σ (nI k) = 1 := by
    unfold q_plate
    rw [iT_F (fun z => z (in_k F hk))]
    exact iT_ind (fun y : Int32 => ¬ y = 1) (fun _ => by decide) (fun _ => by decide)
  have hqi : q_plate σ (nI k) = iT (¬ σ 33 k = 3) 2 0 := by unfold q_plate; rw [iT_F (fun z => z (in_k F hk)), qk]
  refine ⟨S, M, rfl, hd, ST_K H, 1, 6, by omega, by omega, ?_⟩
  refine s_of H hC _ _ 1 6 _ _ (Nat.le_refl _) (Nat.le_refl _) (fun hq => absurd (q_of_0 F hk ⟨by decide, by decide⟩) hq) (fun _ _ => ?_)
  rw [wh_6, qk]
  refine ⟨60, 2000, by omega, by omega, ?_⟩
  refine a_plate H hC hd _ _ _ _ _ (Nat.le_refl _) (Nat.le_refl _) (fun hne => ?_) (fun h0 S1 hd1 H1 => ?_)
  · have h33 : ¬ σ 33 k = 3 := fun e => hne (by rw [hqi]; exact iT_F (fun z => z e))
    have ec : cQ (q_plate σ (nI k)) = -1713000 := iT_F hq1
    rw [ec]
    exact ⟨fun _ => fin (by omega) (by omega) (kk _ _ _ _ _ (LW_up L)) _ _ rfl, fun z => absurd z h33⟩
  · have h33 : σ 33 k = 3 := Classical.byContradiction (fun z => absurd (hqi.symm.trans h0) (by rw [iT_T z]; decide))
    have e7 : (iT (((iT (σ 37 k = 0) 1 0) : Int32) = 0) 0 1 : Int32) = 1 - iT (σ 37 k = 0) 0 1 := by
      by_cases z : σ 37 k = 0
      · rw [iT_T z, iT_T z]; exact (iT_F (by decide)).trans (by decide)
      · rw [iT_F z, iT_F z]; exact (iT_T rfl).trans (by decide)
    have hLI : LI (u_plate σ (nI k)) μ t := LI_wk (k := k) I (fun f a _ b => lf_plate _ f a b) (fun j _ => by unfold u_plate; rw [up2_f _ _ _ _ (by decide), up2_f _ _ _ _ (by decide)]) (fun j hj => by unfold u_plate; rw [qk, up2_i _ _ hj, up2_f _ _ _ _ (by decide)]) (Or.inr (by unfold u_plate; rw [up2_f _ _ _ _ (by decide), up2_f _ _ _ _ (by decide)]; exact h33)) (Or.inl (by unfold u_plate; rw [up2_f _ _ _ _ (by decide), up2_f _ _ _ _ (by decide)]; exact h33))
    have LWn := kk _ _ _ _ _ (LW_mk L H1 hd1 (LA_c (la_plate _) L.2.2.2.1) (LI_up hLI (by omega)) (by omega) hcap)
    rw [qk]
    exact ⟨fun z => absurd h33 z, fun _ => fin (by omega) (by omega) LWn _ _ e7⟩
set_option maxRecDepth 100000 in
set_option maxHeartbeats 4000000 in
theorem done_extend (L : LW u9 v9 e0 x m s w S M σ μ C cap t) (H : ST e0 x o S σ μ C cap) (F : SF σ n h) (ht : t ≤ 140) {k X : Nat} (hk : k < n 8) (hX : X < 2147483648) {mc ms c0 n0 : Nat} {post : Int32 → PT → Prop} (hmc : c0 + 200 ≤ mc) (hms : n0 + 9000 ≤ ms) (kk : ∀ S' M' σ' μ' C', LW u9 v9 e0 x m s w S' M' σ' μ' C' cap (t + 1) → post 1 (ov S' M')) : w_L_isDone_b51 e0 m0 (some x) (some m) (some w) 14 (nI X) mc ms post c0 n0 (ov S M) (nI k) := by
  have hC : C < 512 := by have := L.2.2.2.2.2.1; omega
  have hd := L.2.1
  have h8 : n 8 ≤ 24 := F.1.2.2.2.2.2.1
  have h9 := F.2.2.1
  have qk : (nI k).toNatClampNeg = k := qn_nat (by omega)
  have e8 := N8 F
  obtain ⟨⟨km, nm, am⟩, -, ⟨kw, nw, aw⟩⟩ := LW_rows L F
  obtain ⟨A0, A1, A2, A3⟩ := LW_n L F
  obtain ⟨AS, AW, A16⟩ := L.2.2.2.1.2
  rw [e8] at AW A16
  obtain ⟨w0, w1, w2, w3, wd⟩ := AW k hk
  have e24 : nI X / 24 = nI (X / 24) := idiv_nI (b := 24) hX (by omega) (by omega)
  have i3 : (nI (4 * k + 3)).toNatClampNeg = 4 * k + 3 := qn_nat (by omega)
  have i1 : (nI (4 * k + 1)).toNatClampNeg = 4 * k + 1 := qn_nat (by omega)
  have i2 : (nI (4 * k + 2)).toNatClampNeg = 4 * k + 2 := qn_nat (by omega)
  have i0 : (nI (4 * k)).toNatClampNeg = 4 * k := qn_nat (by omega)
  have v3 : vp_in (nI (4 * k + 3)) (gN (ov S M) w) := by rw [nw]; exact vin_nI (by omega) (by omega)
  have v1 : vp_in (nI (4 * k + 1)) (gN (ov S M) w) := by rw [nw]; exact vin_nI (by omega) (by omega)
  have v2 : vp_in (nI (4 * k + 2)) (gN (ov S M) w) := by rw [nw]; exact vin_nI (by omega) (by omega)
  have v0 : vp_in (nI (4 * k)) (gN (ov S M) w) := by rw [nw]; exact vin_nI (by omega) (by omega)
  have I := L.2.2.2.2.1
  have hCt := L.2.2.2.2.2.1
  have hcap := L.2.2.2.2.2.2

  unfold w_L_isDone_b51
  refine ⟨by omega, by omega, S, M, rfl, hd, x, rfl, ST_K H, 1, 6, by omega, by omega, ?_⟩
  refine s_of H hC _ _ 1 6 _ _ (Nat.le_refl _) (Nat.le_refl _) (fun hq => absurd (q_of_0 F hk ⟨by decide, by decide⟩) hq) (fun _ _ => ?_)
  rw [wh_0, qk, ix43]
  refine ⟨w, rfl, kw, v3, ?_⟩
  obtain ⟨j, a, b, e25, e26, e27, hj, hab, hb⟩ := SF_wk F hk
  have lb := (len_2 F j).2
  have eD : nI b - nI a + 1 = nI (b - a + 1) := by rw [isub_nI hab (by omega), qn_s]
  have neD : ¬ nI (b - a + 1) = 0 := by rw [ieq, nI_toInt (by omega), I0]; omega
  rw [ix41, ix42, aw, i1, i2, w1, w2, e26, e27, eD]
  refine ⟨fun _ => ⟨fun _ => ⟨fun _ => ⟨fun _ => ⟨fun _ => ⟨fun _ => ⟨v1, v2, v1, ?_, fun _ => ⟨fun _ => ⟨fun _ => ⟨fun z => absurd rfl z, fun _ => ?_⟩, fun z => absurd z (by decide)⟩, fun z => absurd (by decide) z⟩, fun z => absurd (by decide) z⟩, fun z => absurd z (by decide)⟩, fun z => absurd z (by decide)⟩, fun z => absurd z (by decide)⟩, fun z => absurd z (by decide)⟩, fun z => absurd z (by decide)⟩, fun z => absurd z (by decide)⟩
  · exact neD
  have finx : ∀ {c1 n1 : Nat} {S' : PT}, c1 ≤ mc → n1 ≤ ms → post 1 (ov S' M) → w_L_isDone_b1242 e0 m0 (some x) (some m) (some w) 14 (nI X) mc ms post c1 n1 (ov S' M) 1 := fun g1 g2 hp => by
    unfold w_L_isDone_b1242
    exact ⟨g1, g2, bo_1, hp⟩
  refine ⟨S, M, rfl, hd, ST_K H, 1, 6, by omega, by omega, ?_⟩
  refine s_of H hC _ _ 1 6 _ _ (Nat.le_refl _) (Nat.le_refl _) (fun hq => absurd (q_of_0 F hk ⟨by decide, by decide⟩) hq) (fun _ _ => ?_)
  rw [wh_4, qk]
  refine ⟨S, M, rfl, hd, ST_K H, 1, 6, by omega, by omega, ?_⟩
  refine s_of H hC _ _ 1 6 _ _ (Nat.le_refl _) (Nat.le_refl _) (fun hq => absurd (q_of_0 F hk ⟨by decide, by decide⟩) hq) (fun _ _ => ?_)
  rw [wh_1, qk]
  have hqi : q_extend σ (nI k) (σ 23 0).toNatClampNeg = iT (¬ σ 33 k = 3 ∨ σ 36 k ≤ 0) 2 (iT (z_met (z_two σ k) k (σ 23 0).toNatClampNeg) 2 0) := by unfold q_extend; rw [iT_F (fun z => z (in_k F hk)), qk]
  refine ⟨60, 2000, by omega, by omega, ?_⟩
  refine a_extend H hC hd _ _ _ _ _ (Nat.le_refl _) (Nat.le_refl _) (fun hne => ?_) (fun h0 S1 hd1 H1 => ?_)
  · have e3 : q_extend σ (nI k) (σ 23 0).toNatClampNeg = 2 := by
      rw [hqi] at hne ⊢
      by_cases z : ¬ σ 33 k = 3 ∨ σ 36 k ≤ 0
      · exact iT_T z
      · rw [iT_F z] at hne ⊢
        exact iT_T (Classical.byContradiction (fun z => hne (iT_F z)))
    rw [e3, cQ_2]
    refine ⟨fun z => absurd rfl z, fun _ => ⟨S, M, rfl, hd, ST_K H, 1, 6, by omega, by omega, ?_⟩⟩
    refine s_of H hC _ _ 1 6 _ _ (Nat.le_refl _) (Nat.le_refl _) (fun hq => absurd (q_of_0 F hk ⟨by decide, by decide⟩) hq) (fun _ _ => ?_)
    rw [wh_1, qk]
    refine ⟨fun z => absurd rfl z, fun _ => ⟨S, M, rfl, hd, ST_K H, 1, 6, by omega, by omega, ?_⟩⟩
    refine s_of H hC _ _ 1 6 _ _ (Nat.le_refl _) (Nat.le_refl _) (fun hq => absurd (q_of_0 F hk ⟨by decide, by decide⟩) hq) (fun _ _ => ?_)
    rw [wh_4, qk]
    exact ⟨fun z => absurd rfl z, fun _ => finx (by omega) (by omega) (kk _ _ _ _ _ (LW_up L))⟩
  · have hc1 : ¬ (¬ σ 33 k = 3 ∨ σ 36 k ≤ 0) := fun z => absurd (hqi.symm.trans h0) (by rw [iT_T z]; decide)
    have hc2 : ¬ z_met (z_two σ k) k (σ 23 0).toNatClampNeg := fun z => absurd (hqi.symm.trans h0) (by rw [iT_F hc1, iT_T z]; decide)
    have h33 : σ 33 k = 3 := Classical.byContradiction (fun z => hc1 (Or.inl z))
    have h36 : ¬ σ 36 k ≤ 0 := fun z => hc1 (Or.inr z)
    have s36 : u_extend σ (nI k) 36 k = σ 36 k - 1 := by unfold u_extend; rw [qk, up2_s]
    have s31 : u_extend σ (nI k) 31 k = σ 31 k + 2 := by unfold u_extend z_two; rw [qk, up2_f _ _ _ _ (by decide), up2_f _ _ _ _ (by decide), up2_s]
    have ub := I.2.2.2.1 k (by omega)
    have hLI : LI (u_extend σ (nI k)) μ (t + 1) := LI_b (k := k) I (fun f a b _ c => lf_extend _ f a b c) (fun j hj => ⟨by unfold u_extend z_two; rw [qk, up2_f _ _ _ _ (by decide), up2_f _ _ _ _ (by decide), up2_i _ _ hj], by unfold u_extend z_two; rw [up2_f _ _ _ _ (by decide), up2_f _ _ _ _ (by decide), up2_f _ _ _ _ (by decide)], by unfold u_extend z_two; rw [qk, up2_i _ _ hj, up2_f _ _ _ _ (by decide), up2_f _ _ _ _ (by decide)]⟩) (by
      have a2 : u_extend σ (nI k) 35 k = σ 35 k := by unfold u_extend z_two; rw [up2_f _ _ _ _ (by decide), up2_f _ _ _ _ (by decide), up2_f _ _ _ _ (by decide)]
      rw [ile, I0] at h36
      rw [s36, s31, a2, tsub, tadd, tl_1, tl_2]
      omega)
    have LWn := kk _ _ _ _ _ (LW_mk L H1 hd1 (LA_c (la_extend _) L.2.2.2.1) hLI (by omega) hcap)
    obtain ⟨n1, h1, F1, -⟩ := ST_SF H1
    have e81 : n1 8 = n 8 := by
      have a1 := N8 F1
      rw [la_extend _ 23 (by unfold la; omega)] at a1
      exact a1.symm.trans e8
    have hk1 : k < n1 8 := by omega
    have lab := last_b I F (by omega) (k := k) (by omega)
    have nl := n1713 (v := z_last σ k + 2) (by rw [tadd, tl_2]; omega)
    rw [qk]
    refine ⟨fun _ => ⟨fun z => absurd h33 z, fun _ => ⟨fun z => absurd z h36, fun _ => ⟨fun z => absurd rfl z, fun _ => ⟨S1, M, rfl, hd1, ST_K H1, 1, 6, by omega, by omega, ?_⟩⟩⟩⟩, fun z => absurd z nl⟩
    refine s_of H1 hC _ _ 1 6 _ _ (Nat.le_refl _) (Nat.le_refl _) (fun hq => absurd (q_of_0 F1 hk1 ⟨by decide, by decide⟩) hq) (fun _ _ => ?_)
    rw [wh_4, qk]
    rw [s36]
    refine ⟨fun z => absurd rfl z, fun _ => ⟨S1, M, rfl, hd1, ST_K H1, 1, 6, by omega, by omega, ?_⟩⟩
    refine s_bars H1 hC _ 1 6 _ _ (Nat.le_refl _) (Nat.le_refl _) (fun hq => absurd (q_wk_0 F1 hk1) hq) (fun _ _ => ?_)
    rw [qk]
    refine ⟨fun z => ?_, fun _ => finx (by omega) (by omega) LWn⟩
    have z9 := bars_3 z
    rw [la_extend _ 23 (by unfold la; omega), hasc (σ := z_two σ k) (fun f f1 f2 => by unfold u_extend; rw [qk, up2_g f1, up2_g f2])] at z9
    exact absurd z9 hc2
set_option maxRecDepth 100000 in
set_option maxHeartbeats 4000000 in
theorem done_stop (L : LW u9 v9 e0 x m s w S M σ μ C cap t) (H : ST e0 x o S σ μ C cap) (F : SF σ n h) (ht : t ≤ 140) {k X : Nat} (hk : k < n 8) (hX : X < 2147483648) {mc ms c0 n0 : Nat} {post : Int32 → PT → Prop} (hmc : c0 + 200 ≤ mc) (hms : n0 + 9000 ≤ ms) (kk : ∀ S' M' σ' μ' C', LW u9 v9 e0 x m s w S' M' σ' μ' C' cap (t + 1) → post 1 (ov S' M')) : w_L_isDone_b51 e0 m0 (some x) (some m) (some w) 15 (nI X) mc ms post c0 n0 (ov S M) (nI k) := by
  have hC : C < 512 := by have := L.2.2.2.2.2.1; omega
  have hd := L.2.1
  have h8 : n 8 ≤ 24 := F.1.2.2.2.2.2.1
  have h9 := F.2.2.1
  have qk : (nI k).toNatClampNeg = k := qn_nat (by omega)
  have e8 := N8 F
  obtain ⟨⟨km, nm, am⟩, -, ⟨kw, nw, aw⟩⟩ := LW_rows L F
  obtain ⟨A0, A1, A2, A3⟩ := LW_n L F
  obtain ⟨AS, AW, A16⟩ := L.2.2.2.1.2
  rw [e8] at AW A16
  obtain ⟨w0, w1, w2, w3, wd⟩ := AW k hk
  have e24 : nI X / 24 = nI (X / 24) := idiv_nI (b := 24) hX (by omega) (by omega)
  have i3 : (nI (4 * k + 3)).toNatClampNeg = 4 * k + 3 := qn_nat (by omega)
  have i1 : (nI (4 * k + 1)).toNatClampNeg = 4 * k + 1 := qn_nat (by omega)
  have i2 : (nI (4 * k + 2)).toNatClampNeg = 4 * k + 2 := qn_nat (by omega)
  have i0 : (nI (4 * k)).toNatClampNeg = 4 * k := qn_nat (by omega)
  have v3 : vp_in (nI (4 * k + 3)) (gN (ov S M) w) := by rw [nw]; exact vin_nI (by omega) (by omega)
  have v1 : vp_in (nI (4 * k + 1)) (gN (ov S M) w) := by rw [nw]; exact vin_nI (by omega) (by omega)
  have v2 : vp_in (nI (4 * k + 2)) (gN (ov S M) w) := by rw [nw]; exact vin_nI (by omega) (by omega)
  have v0 : vp_in (nI (4 * k)) (gN (ov S M) w) := by rw [nw]; exact vin_nI (by omega) (by omega)
  have I := L.2.2.2.2.1
  have hCt := L.2.2.2.2.2.1
  have hcap := L.2.2.2.2.2.2

  unfold w_L_isDone_b51
  refine ⟨by omega, by omega, S, M, rfl, hd, x, rfl, ST_K H, 1, 6, by omega, by omega, ?_⟩
  refine s_of H hC _ _ 1 6 _ _ (Nat.le_refl _) (Nat.le_refl _) (fun hq => absurd (q_of_0 F hk ⟨by decide, by decide⟩) hq) (fun _ _ => ?_)
  rw [wh_0, qk, ix43]
  refine ⟨w, rfl, kw, v3, ?_⟩
  obtain ⟨j, a, b, e25, e26, e27, hj, hab, hb⟩ := SF_wk F hk
  have lb := (len_2 F j).2
  have eD : nI b - nI a + 1 = nI (b - a + 1) := by rw [isub_nI hab (by omega), qn_s]
  have neD : ¬ nI (b - a + 1) = 0 := by rw [ieq, nI_toInt (by omega), I0]; omega
  rw [ix41, ix42, aw, i1, i2, w1, w2, e26, e27, eD]
  refine ⟨fun _ => ⟨fun _ => ⟨fun _ => ⟨fun _ => ⟨fun _ => ⟨fun _ => ⟨v1, v2, v1, ?_, fun _ => ⟨fun _ => ⟨fun _ => ⟨fun _ => ?_, fun z => absurd z (by decide)⟩, fun z => absurd z (by decide)⟩, fun z => absurd (by decide) z⟩, fun z => absurd (by decide) z⟩, fun z => absurd z (by decide)⟩, fun z => absurd z (by decide)⟩, fun z => absurd z (by decide)⟩, fun z => absurd z (by decide)⟩, fun z => absurd z (by decide)⟩, fun z => absurd z (by decide)⟩
  · exact neD
  have hqi : q_stop σ (nI k) = iT (¬ σ 33 k = 3 ∨ ¬ z_opens σ (nI k) = 0) 2 0 := by unfold q_stop; rw [iT_F (fun z => z (in_k F hk)), qk]
  have finx : ∀ {c1 n1 : Nat} {S' : PT}, c1 ≤ mc → n1 ≤ ms → post 1 (ov S' M) → w_L_isDone_b1344 e0 m0 (some x) (some m) (some w) 15 (nI X) mc ms post c1 n1 (ov S' M) := fun g1 g2 hp => by
    unfold w_L_isDone_b1344 w_L_isDone_b1349
    exact ⟨g1, g2, g1, g2, bo_1, hp⟩
  have b1299 : ∀ {c1 n1 : Nat} (v10 s0 : Int32), ((v10 = 0 ∧ (¬ σ 33 k = 3 ∨ ¬ z_opens σ (nI k) = 0)) ∨ (v10 = 1 ∧ (σ 33 k = 3 ∧ z_opens σ (nI k) = 0) ∧ s0 = z_end σ k - z_last σ k)) → c1 + 70 ≤ mc → n1 + 2500 ≤ ms → w_L_isDone_b1299 e0 m0 (some x) (some m) (some w) 15 (nI X) mc ms post c1 n1 (ov S M) (nI k) v10 s0 := fun {c1 n1} v10 s0 hv g1 g2 => by
    unfold w_L_isDone_b1299
    refine ⟨by omega, by omega, 60, 2000, by omega, by omega, ?_⟩
    refine a_stop H hC hd _ _ _ _ _ (Nat.le_refl _) (Nat.le_refl _) (fun hne => ?_) (fun h0 S1 hd1 H1 => ?_)
    · rcases hv with ⟨ev, hc⟩ | ⟨-, hc, -⟩
      · have e3 : q_stop σ (nI k) = 2 := by rw [hqi]; exact iT_T hc
        rw [e3, cQ_2]
        refine ⟨fun _ => ?_, fun z => absurd ev z⟩
        unfold w_L_isDone_b1325
        exact ⟨by omega, by omega, fun z => absurd rfl z, fun _ => ⟨fun _ => finx (by omega) (by omega) (kk _ _ _ _ _ (LW_up L)), fun z => absurd ev z⟩⟩
      · exact absurd (by rw [hqi]; exact iT_F (fun z => z.elim (fun z => z hc.1) (fun z => z hc.2))) hne
    · rcases hv with ⟨-, hc⟩ | ⟨ev, hc, es⟩
      · exact absurd (hqi.symm.trans h0) (by rw [iT_T hc]; decide)
      · have hv0 : ¬ v10 = 0 := by rw [ev]; decide
        have s33 : u_stop σ (nI k) 33 k = 4 := by unfold u_stop; rw [qk, up2_f _ _ _ _ (by decide), up2_s]
        have hLI : LI (u_stop σ (nI k)) μ t := LI_wk (k := k) I (fun f a b c => lf_stop _ f a b c) (fun j hj => by unfold u_stop; rw [qk, up2_f _ _ _ _ (by decide), up2_i _ _ hj, up2_f _ _ _ _ (by decide)]) (fun j hj => by unfold u_stop; rw [qk, up2_i _ _ hj, up2_f _ _ _ _ (by decide), up2_f _ _ _ _ (by decide)]) (Or.inl (fun q9 h9 e => (cN_0 240).mp hc.2 q9 h9 e)) (Or.inr (by unfold u_stop; rw [qk, up2_s]))
        have LWn := kk _ _ _ _ _ (LW_mk L H1 hd1 (LA_c (la_stop _) L.2.2.2.1) (LI_up hLI (by omega)) (by omega) hcap)
        obtain ⟨n1, h1, F1, -⟩ := ST_SF H1
        have e81 : n1 8 = n 8 := by
          have a1 := N8 F1
          rw [la_stop _ 23 (by unfold la; omega)] at a1
          exact a1.symm.trans e8
        have hk1 : k < n1 8 := by omega
        rw [qk, ← es]
        refine ⟨fun z => absurd z hv0, fun _ => ?_⟩
        unfold w_L_isDone_b1325
        refine ⟨by omega, by omega, fun z => absurd rfl z, fun _ => ⟨fun z => absurd z hv0, fun _ => ⟨S1, M, rfl, hd1, x, rfl, ST_K H1, 1, 6, by omega, by omega, ?_⟩⟩⟩
        refine s_of H1 hC _ _ 1 6 _ _ (Nat.le_refl _) (Nat.le_refl _) (fun hq => absurd (q_of_0 F1 hk1 ⟨by decide, by decide⟩) hq) (fun _ _ => ?_)
        rw [wh_0, qk]
        rw [s33]
        exact ⟨fun z => absurd rfl z, fun _ => finx (by omega) (by omega) LWn⟩
  have b1264 : ∀ {c1 n1 : Nat} (v10 : Int32), ((v10 = 0 ∧ (¬ σ 33 k = 3 ∨ ¬ z_opens σ (nI k) = 0)) ∨ (v10 = 1 ∧ (σ 33 k = 3 ∧ z_opens σ (nI k) = 0))) → c1 + 80 ≤ mc → n1 + 2600 ≤ ms → w_L_isDone_b1264 e0 m0 (some x) (some m) (some w) 15 (nI X) mc ms post c1 n1 (ov S M) (nI k) v10 := fun {c1 n1} v10 hv g1 g2 => by
    unfold w_L_isDone_b1264
    refine ⟨by omega, by omega, S, M, rfl, hd, x, rfl, ST_K H, 1, 6, by omega, by omega, ?_⟩
    refine s_of H hC _ _ 1 6 _ _ (Nat.le_refl _) (Nat.le_refl _) (fun hq => absurd (q_of_0 F hk ⟨by decide, by decide⟩) hq) (fun _ _ => ?_)
    rw [wh_1, qk]
    have v0m : vp_in 0 (gN (ov S M) m) := by rw [nm]; exact vin_nI (k := 0) (by omega) (by omega)
    refine ⟨m, rfl, km, v0m, ?_⟩
    rw [cl_0, am, A0]
    refine ⟨fun hle => b1299 v10 0 ?_ (by omega) (by omega), fun hle => ⟨v0m, b1299 v10 _ ?_ (by omega) (by omega)⟩⟩
    · rcases hv with z | ⟨z1, z2⟩
      · exact Or.inl z
      · refine Or.inr ⟨z1, z2, ?_⟩
        unfold z_end
        rw [iT_F (fun z => z.2 hle)]
        exact (Int32.sub_self _).symm
    · rcases hv with z | ⟨z1, z2⟩
      · exact Or.inl z
      · refine Or.inr ⟨z1, z2, ?_⟩
        unfold z_end
        rw [iT_T ⟨z2.1, hle⟩]
        rfl
  have b1263 : ∀ {c1 n1 : Nat}, (¬ σ 33 k = 3 ∨ ¬ z_opens σ (nI k) = 0) → c1 + 80 ≤ mc → n1 + 2600 ≤ ms → w_L_isDone_b1263 e0 m0 (some x) (some m) (some w) 15 (nI X) mc ms post c1 n1 (ov S M) (nI k) := fun {c1 n1} hv g1 g2 => by
    unfold w_L_isDone_b1263
    exact ⟨by omega, by omega, b1264 0 (Or.inl ⟨rfl, hv⟩) g1 g2⟩
  refine ⟨fun z => b1263 (Or.inl z) (by omega) (by omega), fun h33 => ⟨S, M, rfl, hd, ST_K H, 1, 6, by omega, by omega, ?_⟩⟩
  refine s_of H hC _ _ 1 6 _ _ (Nat.le_refl _) (Nat.le_refl _) (fun hq => absurd (q_of_0 F hk ⟨by decide, by decide⟩) hq) (fun _ _ => ?_)
  rw [wh_5, qk]
  have hop : nI (z_opens σ (nI k)) = 0 ↔ z_opens σ (nI k) = 0 := qn_eq (b := 0) (by have := opens_le σ (nI k); omega) (by omega)
  exact ⟨fun z => b1263 (Or.inr (fun z2 => z (hop.mpr z2))) (by omega) (by omega), fun z => b1264 1 (Or.inr ⟨rfl, h33, hop.mp z⟩) (by omega) (by omega)⟩
end DNF
