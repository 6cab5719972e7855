/-! what works do, and what is told of it -/
section DNC
variable {u9 v9 e0 m0 x o m s w : Nat} {S M : PT} {σ σ' : SG} {μ μ' : MU} {C cap t : Nat} {n : Nat → Nat} {h : Nat}
set_option maxRecDepth 100000 in
set_option maxHeartbeats 2000000 in
theorem done_refuse (L : LW u9 v9 e0 x m s w S M σ μ C cap t) (H : ST e0 x o S σ μ C cap) (F : SF σ n h) (ht : t ≤ 140) {k X : Nat} (hk : k < n 8) (hX : X < 2147483648) {mc ms c0 n0 : Nat} {post : Int32 → PT → Prop} (hmc : c0 + 200 ≤ mc) (hms : n0 + 9000 ≤ ms) (kk : ∀ S' M' σ' μ' C', LW u9 v9 e0 x m s w S' M' σ' μ' C' cap (t + 1) → post 1 (ov S' M')) : w_L_isDone_b51 e0 m0 (some x) (some m) (some w) 1 (nI X) mc ms post c0 n0 (ov S M) (nI k) := by
  have hC : C < 512 := by have := L.2.2.2.2.2.1; omega
  have hd := L.2.1
  have h8 : n 8 ≤ 24 := F.1.2.2.2.2.2.1
  have h9 := F.2.2.1
  have qk : (nI k).toNatClampNeg = k := qn_nat (by omega)
  have e8 := N8 F
  obtain ⟨⟨km, nm, am⟩, -, ⟨kw, nw, aw⟩⟩ := LW_rows L F
  obtain ⟨A0, A1, A2, A3⟩ := LW_n L F
  obtain ⟨AS, AW, A16⟩ := L.2.2.2.1.2
  rw [e8] at AW A16
  obtain ⟨w0, w1, w2, w3, wd⟩ := AW k hk
  have e24 : nI X / 24 = nI (X / 24) := idiv_nI (b := 24) hX (by omega) (by omega)
  have i3 : (nI (4 * k + 3)).toNatClampNeg = 4 * k + 3 := qn_nat (by omega)
  have i1 : (nI (4 * k + 1)).toNatClampNeg = 4 * k + 1 := qn_nat (by omega)
  have i2 : (nI (4 * k + 2)).toNatClampNeg = 4 * k + 2 := qn_nat (by omega)
  have i0 : (nI (4 * k)).toNatClampNeg = 4 * k := qn_nat (by omega)
  have v3 : vp_in (nI (4 * k + 3)) (gN (ov S M) w) := by rw [nw]; exact vin_nI (by omega) (by omega)
  have v1 : vp_in (nI (4 * k + 1)) (gN (ov S M) w) := by rw [nw]; exact vin_nI (by omega) (by omega)
  have v2 : vp_in (nI (4 * k + 2)) (gN (ov S M) w) := by rw [nw]; exact vin_nI (by omega) (by omega)
  have v0 : vp_in (nI (4 * k)) (gN (ov S M) w) := by rw [nw]; exact vin_nI (by omega) (by omega)
  have I := L.2.2.2.2.1
  have hCt := L.2.2.2.2.2.1
  have hcap := L.2.2.2.2.2.2
  unfold w_L_isDone_b51
  refine ⟨by omega, by omega, S, M, rfl, hd, x, rfl, ST_K H, 1, 6, by omega, by omega, ?_⟩
  refine s_of H hC _ _ 1 6 _ _ (Nat.le_refl _) (Nat.le_refl _) (fun hq => absurd (q_of_0 F hk ⟨by decide, by decide⟩) hq) (fun _ _ => ?_)
  rw [wh_0, qk, ix43]
  refine ⟨w, rfl, kw, v3, ?_⟩
  refine ⟨fun _ => ⟨fun z => absurd rfl z, fun _ => ?_⟩, fun z => absurd z (by decide)⟩
  have fin : ∀ {c1 n1 : Nat} {S' : PT}, c1 ≤ mc → n1 ≤ ms → post 1 (ov S' M) → w_L_isDone_b272 e0 m0 (some x) (some m) (some w) 1 (nI X) mc ms post c1 n1 (ov S' M) 1 := fun g1 g2 hp => by
    unfold w_L_isDone_b272
    exact ⟨g1, g2, bo_1, hp⟩
  have hq12 : ¬ q_refuse σ (nI k) = 1 := by
    unfold q_refuse
    rw [iT_F (fun z => z (in_k F hk))]
    exact iT_ind (fun y : Int32 => ¬ y = 1) (fun _ => by decide) (fun _ => by decide)
  have hqc : ¬ q_refuse σ (nI k) = 0 → cQ (q_refuse σ (nI k)) = -1713000 ∧ 2 ≤ σ 33 k := fun hne => by
    refine ⟨iT_F hq12, ?_⟩
    unfold q_refuse at hne
    rw [iT_F (fun z => z (in_k F hk)), qk] at hne
    obtain ⟨a, ea, ha⟩ := wst_in F k
    rw [ea] at hne ⊢
    have h0 : ¬ a = 0 ∧ ¬ a = 1 := by
      refine Classical.byContradiction (fun hn => hne (iT_F (fun z => hn ⟨fun e => z.1 (by rw [e]; rfl), fun e => z.2 (by rw [e]; rfl)⟩)))
    exact (qn_le (a := 2) (by omega) (by omega)).mpr (by omega)
  refine ⟨60, 2000, by omega, by omega, ?_⟩
  refine a_refuse H hC hd _ _ _ _ _ (Nat.le_refl _) (Nat.le_refl _) (fun hne => ?_) (fun h0 S1 hd1 H1 => ?_)
  · obtain ⟨ec, e2⟩ := hqc hne
    rw [ec]
    exact ⟨fun _ => ⟨fun z => absurd rfl z, fun _ => fin (by omega) (by omega) (kk _ _ _ _ _ (LW_up L))⟩, fun z => absurd e2 z⟩
  · have h33 : σ 33 k = 0 ∨ σ 33 k = 1 := by
      unfold q_refuse at h0
      rw [iT_F (fun z => z (in_k F hk)), qk] at h0
      refine Classical.byContradiction (fun hn => ?_)
      rw [iT_T ⟨fun z => hn (Or.inl z), fun z => hn (Or.inr z)⟩] at h0
      exact absurd h0 (by decide)
    have s33 : u_refuse σ (nI k) 33 k = 2 := by unfold u_refuse; rw [qk, up2_s]
    have hLI : LI (u_refuse σ (nI k)) μ t := LI_wk (k := k) I (fun f a b _ => lf_refuse _ f a b) (fun j hj => by unfold u_refuse; rw [qk, up2_i _ _ hj, up2_f _ _ _ _ (by decide)]) (fun j _ => by unfold u_refuse; rw [up2_f _ _ _ _ (by decide), up2_f _ _ _ _ (by decide)]) (Or.inl (fun q9 h9 e => by
      have a := (I.1 q9 k h9 (by omega) e).1
      rcases h33 with z | z <;> rw [z] at a <;> exact absurd a (by decide))) (Or.inr (by
      have a : u_refuse σ (nI k) 37 k = σ 37 k := by unfold u_refuse; rw [up2_f _ _ _ _ (by decide), up2_f _ _ _ _ (by decide)]
      rw [a]
      exact I.2.1 k (by omega) (by rcases h33 with z | z <;> rw [z] <;> decide)))
    have LWn := kk _ _ _ _ _ (LW_mk L H1 hd1 (LA_c (la_refuse _) L.2.2.2.1) (LI_up hLI (by omega)) (by omega) hcap)
    obtain ⟨n1, h1, F1, -⟩ := ST_SF H1
    have e81 : n1 8 = n 8 := by
      have a1 := N8 F1
      rw [la_refuse _ 23 (by unfold la; omega)] at a1
      exact a1.symm.trans e8
    have hk1 : k < n1 8 := by omega
    rw [qk]
    refine ⟨fun z => ?_, fun _ => ⟨fun z => absurd rfl z, fun _ => ⟨S1, M, rfl, hd1, ST_K H1, 1, 6, by omega, by omega, ?_⟩⟩⟩
    · exfalso
      rcases h33 with e | e <;> rw [e] at z <;> exact absurd z (by decide)
    · refine s_of H1 hC _ _ 1 6 _ _ (Nat.le_refl _) (Nat.le_refl _) (fun hq => absurd (q_of_0 F1 hk1 ⟨by decide, by decide⟩) hq) (fun _ _ => ?_)
      rw [wh_0, qk]
      rw [s33]
      exact ⟨fun z => absurd rfl z, fun _ => fin (by omega) (by omega) LWn⟩
set_option maxRecDepth 100000 in
set_option maxHeartbeats 2000000 in
theorem done_exempt (L : LW u9 v9 e0 x m s w S M σ μ C cap t) (H : ST e0 x o S σ μ C cap) (F : SF σ n h) (ht : t ≤ 140) {k X : Nat} (hk : k < n 8) (hX : X < 2147483648) {mc ms c0 n0 : Nat} {post : Int32 → PT → Prop} (hmc : c0 + 200 ≤ mc) (hms : n0 + 9000 ≤ ms) (kk : ∀ S' M' σ' μ' C', LW u9 v9 e0 x m s w S' M' σ' μ' C' cap (t + 1) → post 1 (ov S' M')) : w_L_isDone_b51 e0 m0 (some x) (some m) (some w) 3 (nI X) mc ms post c0 n0 (ov S M) (nI k) := by
  have hC : C < 512 := by have := L.2.2.2.2.2.1; omega
  have hd := L.2.1
  have h8 : n 8 ≤ 24 := F.1.2.2.2.2.2.1
  have h9 := F.2.2.1
  have qk : (nI k).toNatClampNeg = k := qn_nat (by omega)
  have e8 := N8 F
  obtain ⟨⟨km, nm, am⟩, -, ⟨kw, nw, aw⟩⟩ := LW_rows L F
  obtain ⟨A0, A1, A2, A3⟩ := LW_n L F
  obtain ⟨AS, AW, A16⟩ := L.2.2.2.1.2
  rw [e8] at AW A16
  obtain ⟨w0, w1, w2, w3, wd⟩ := AW k hk
  have e24 : nI X / 24 = nI (X / 24) := idiv_nI (b := 24) hX (by omega) (by omega)
  have i3 : (nI (4 * k + 3)).toNatClampNeg = 4 * k + 3 := qn_nat (by omega)
  have i1 : (nI (4 * k + 1)).toNatClampNeg = 4 * k + 1 := qn_nat (by omega)
  have i2 : (nI (4 * k + 2)).toNatClampNeg = 4 * k + 2 := qn_nat (by omega)
  have i0 : (nI (4 * k)).toNatClampNeg = 4 * k := qn_nat (by omega)
  have v3 : vp_in (nI (4 * k + 3)) (gN (ov S M) w) := by rw [nw]; exact vin_nI (by omega) (by omega)
  have v1 : vp_in (nI (4 * k + 1)) (gN (ov S M) w) := by rw [nw]; exact vin_nI (by omega) (by omega)
  have v2 : vp_in (nI (4 * k + 2)) (gN (ov S M) w) := by rw [nw]; exact vin_nI (by omega) (by omega)
  have v0 : vp_in (nI (4 * k)) (gN (ov S M) w) := by rw [nw]; exact vin_nI (by omega) (by omega)
  have I := L.2.2.2.2.1
  have hCt := L.2.2.2.2.2.1
  have hcap := L.2.2.2.2.2.2
  unfold w_L_isDone_b51
  refine ⟨by omega, by omega, S, M, rfl, hd, x, rfl, ST_K H, 1, 6, by omega, by omega, ?_⟩
  refine s_of H hC _ _ 1 6 _ _ (Nat.le_refl _) (Nat.le_refl _) (fun hq => absurd (q_of_0 F hk ⟨by decide, by decide⟩) hq) (fun _ _ => ?_)
  rw [wh_0, qk, ix43]
  refine ⟨w, rfl, kw, v3, ?_⟩
  refine ⟨fun _ => ⟨fun _ => ⟨fun _ => ⟨fun z => absurd rfl z, fun _ => ?_⟩, fun z => absurd z (by decide)⟩, fun z => absurd z (by decide)⟩, fun z => absurd z (by decide)⟩
  have fin : ∀ {c1 n1 : Nat} {S' : PT}, c1 ≤ mc → n1 ≤ ms → post 1 (ov S' M) → w_L_isDone_b426 e0 m0 (some x) (some m) (some w) 3 (nI X) mc ms post c1 n1 (ov S' M) 1 := fun g1 g2 hp => by
    unfold w_L_isDone_b426
    exact ⟨g1, g2, bo_1, hp⟩
  refine ⟨S, M, rfl, hd, ST_K H, 1, 6, by omega, by omega, ?_⟩
  refine s_of H hC _ _ 1 6 _ _ (Nat.le_refl _) (Nat.le_refl _) (fun hq => absurd (q_of_0 F hk ⟨by decide, by decide⟩) hq) (fun _ _ => ?_)
  rw [wh_7, qk]
  have hq : q_exempt σ (nI k) = 0 := iT_F (fun z => z (in_k F hk))
  refine ⟨60, 2000, by omega, by omega, ?_⟩
  refine a_exempt H hC hd _ _ _ _ _ (Nat.le_refl _) (Nat.le_refl _) (fun hne => absurd hq hne) (fun h0 S1 hd1 H1 => ?_)
  have s38 : u_exempt σ (nI k) 38 k = iT (σ 38 k = 0) 1 0 := by unfold u_exempt; rw [qk, up2_s]
  have hLI : LI (u_exempt σ (nI k)) μ t := LI_c (lf_exempt _) I
  have LWn := kk _ _ _ _ _ (LW_mk L H1 hd1 (LA_c (la_exempt _) L.2.2.2.1) (LI_up hLI (by omega)) (by omega) hcap)
  obtain ⟨n1, h1, F1, -⟩ := ST_SF H1
  have e81 : n1 8 = n 8 := by
    have a1 := N8 F1
    rw [la_exempt _ 23 (by unfold la; omega)] at a1
    exact a1.symm.trans e8
  have hk1 : k < n1 8 := by omega
  have e7 : (iT (((iT (σ 38 k = 0) 1 0) : Int32) = 0) 0 1 : Int32) = 1 - iT (σ 38 k = 0) 0 1 := by
    by_cases z : σ 38 k = 0
    · rw [iT_T z, iT_T z]; exact (iT_F (by decide)).trans (by decide)
    · rw [iT_F z, iT_F z]; exact (iT_T rfl).trans (by decide)
  rw [qk, e7]
  refine ⟨fun z => absurd rfl z, fun _ => ⟨S1, M, rfl, hd1, ST_K H1, 1, 6, by omega, by omega, ?_⟩⟩
  refine s_of H1 hC _ _ 1 6 _ _ (Nat.le_refl _) (Nat.le_refl _) (fun hq => absurd (q_of_0 F1 hk1 ⟨by decide, by decide⟩) hq) (fun _ _ => ?_)
  rw [wh_7, qk]
  rw [s38, e7]
  exact ⟨fun z => absurd rfl z, fun _ => fin (by omega) (by omega) LWn⟩
end DNC
