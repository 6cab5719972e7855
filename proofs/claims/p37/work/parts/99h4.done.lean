/-! what works do: grant, open -/
section DNH
variable {u9 v9 e0 m0 x o m s w : Nat} {S M : PT} {σ σ' : SG} {μ μ' : MU} {C cap t : Nat} {n : Nat → Nat} {h : Nat}
theorem jsm {x : Int} (h0 : 0 ≤ x) (h1 : x < 1000000) : x.bmod (2 ^ 64) = x := by
  rw [Int.bmod_def]; omega
theorem la_open (a b : Int32) (nT : Nat) : ∀ f, la f → (u_open σ a b nT) f = σ f := fun f hf => by
  funext j
  unfold u_open
  rcases hf with rfl | rfl | rfl | rfl | rfl | rfl | rfl | rfl | rfl | rfl | rfl | rfl <;> simp only [up2_f, ne_eq, Nat.reduceEqDiff, not_false_eq_true]
theorem LI_open (I : LI σ μ t) {k j b nT : Nat} (hk : k < 24) (h33 : σ 33 k = 3) (e25 : σ 25 k = nI j) (hj : j < 6) (hb : b < 40) (h26 : σ 26 k ≤ nI b) (h27 : nI b ≤ σ 27 k) (hs : 0 ≤ (z_struck σ k (nI b) nT).toInt ∧ (z_struck σ k (nI b) nT).toInt ≤ 30) (ht : t ≤ 140) : LI (u_open σ (nI k) (nI b) nT) μ (t + 1) := by
  have qk : (nI k).toNatClampNeg = k := qn_nat (by omega)
  have eat : z_at σ k (nI b) = 40 * j + b := by unfold z_at; rw [e25, qn_nat (by omega), qn_nat (by omega)]
  obtain ⟨I1, I2, I4, I5, I7, I8, I9⟩ := I
  have g : ∀ f, (f = 0 ∨ f = 10 ∨ f = 25 ∨ f = 26 ∨ f = 27 ∨ f = 31 ∨ f = 33 ∨ f = 35 ∨ f = 37 ∨ f = 40 ∨ f = 41 ∨ f = 42) → (u_open σ (nI k) (nI b) nT) f = σ f := fun f hf9 => by
    unfold u_open
    rw [up2_g (by omega), up2_g (by omega), up2_g (by omega), up2_g (by omega)]
  have a13 : u_open σ (nI k) (nI b) nT 13 (40 * j + b) = nI k ∧ ∀ i, i ≠ 40 * j + b → u_open σ (nI k) (nI b) nT 13 i = σ 13 i := by
    unfold u_open
    rw [qk, eat]
    exact ⟨up2_s _ _ _ _, fun i hi => by rw [up2_i _ _ hi, up2_f _ _ _ _ (by decide), up2_f _ _ _ _ (by decide), up2_f _ _ _ _ (by decide)]⟩
  have a36 : u_open σ (nI k) (nI b) nT 36 k = σ 36 k + z_struck σ k (nI b) nT ∧ ∀ i, i ≠ k → u_open σ (nI k) (nI b) nT 36 i = σ 36 i := by
    unfold u_open
    rw [qk]
    exact ⟨by rw [up2_f _ _ _ _ (by decide), up2_f _ _ _ _ (by decide), up2_s], fun i hi => by rw [up2_f _ _ _ _ (by decide), up2_f _ _ _ _ (by decide), up2_i _ _ hi, up2_f _ _ _ _ (by decide)]⟩
  unfold LI
  rw [g 0 (by omega), g 10 (by omega), g 25 (by omega), g 26 (by omega), g 27 (by omega), g 31 (by omega), g 33 (by omega), g 35 (by omega), g 37 (by omega), g 40 (by omega), g 41 (by omega), g 42 (by omega)]
  refine ⟨fun q l hq hl e => ?_, I2, I4, fun l hl => ?_, I7, LM_up (by omega) I8, by omega⟩
  · by_cases z : q = 40 * j + b
    · rw [z, a13.1, qn_eq (by omega) (by omega)] at e
      rw [z, ← e, show (40 * j + b) / 40 = j by omega, show (40 * j + b) % 40 = b by omega]
      exact ⟨h33, e25, h26, h27⟩
    · rw [a13.2 q z] at e; exact I1 q l hq hl e
  · have u := I5 l hl
    by_cases z : l = k
    · rw [z] at u ⊢
      rw [a36.1, tadd]
      omega
    · rw [a36.2 l z]
      omega
theorem smu_ok {B k : Nat} {y : Int32} (HL : LM μ B) (hB : B ≤ 10000000) (hp : (σ 24 k).toNatClampNeg < 5) (ho : ∀ i, (σ 15 i).toNatClampNeg < 5) : ∀ i, i ≤ 32 → LM (z_smu σ μ k y i) (B + i) ∧ (z_smu σ μ k y i (σ 24 k).toNatClampNeg).toInt ≤ (μ (σ 24 k).toNatClampNeg).toInt ∧ (μ (σ 24 k).toNatClampNeg).toInt - 1000 * (cN (z_hit σ k y) i : Int) ≤ (z_smu σ μ k y i (σ 24 k).toNatClampNeg).toInt
  | 0, _ => ⟨HL, Int.le_refl _, by show _ - 1000 * ((0 : Nat) : Int) ≤ (μ _).toInt; omega⟩
  | i + 1, hi => by
    obtain ⟨h1, h2, h3⟩ := smu_ok HL hB hp ho i (by omega)
    have e0 : z_smu σ μ k y (i + 1) = iT (z_hit σ k y i) (z_pay (z_smu σ μ k y i) (σ 24 k).toNatClampNeg (σ 15 i).toNatClampNeg 1000) (z_smu σ μ k y i) := rfl
    have e1 : cN (z_hit σ k y) (i + 1) = cN (z_hit σ k y) i + iT (z_hit σ k y i) 1 0 := rfl
    have hbp := h1.2.2 (σ 24 k).toNatClampNeg (by omega)
    have oi := ho i
    rw [e0, e1]
    by_cases z : z_hit σ k y i
    · rw [iT_T z, iT_T z]
      refine ⟨LM_pay h1 (by omega) hp (by omega) (by rw [tl_1000]; omega) (by rw [tl_1000]; omega), ?_⟩
      rw [pay_at]
      generalize z_smu σ μ k y i = ν at *
      generalize (σ 24 k).toNatClampNeg = p at *
      have ec : (1000 : Int32).toInt64.toInt = 1000 := by rw [jof, tl_1000]
      by_cases e : p = (σ 15 i).toNatClampNeg
      · rw [iT_T e, iT_T e.symm, jadd, jsub, ec]; omega
      · rw [iT_F e, iT_T rfl, jsub, ec]; omega
    · rw [iT_F z, iT_F z]
      exact ⟨LM_up (by omega) h1, h2, by omega⟩
set_option maxRecDepth 100000 in
set_option maxHeartbeats 4000000 in
theorem done_grant (L : LW u9 v9 e0 x m s w S M σ μ C cap t) (H : ST e0 x o S σ μ C cap) (F : SF σ n h) (ht : t ≤ 140) {k X : Nat} (hk : k < n 8) (hX : X < 2147483648) : ∃ cap', cap ≤ cap' ∧ cap' ≤ 262144 ∧ ∀ {mc ms c0 n0 : Nat} {post : Int32 → PT → Prop}, c0 + 200 + (cap' - cap) ≤ mc → n0 + 9000 + 2 * (cap' - cap) ≤ ms → (∀ S' M' σ' μ' C', LW u9 v9 e0 x m s w S' M' σ' μ' C' cap' (t + 1) → post 1 (ov S' M')) → w_L_isDone_b51 e0 m0 (some x) (some m) (some w) 0 (nI X) mc ms post c0 n0 (ov S M) (nI k) := by
  have hC : C < 512 := by have := L.2.2.2.2.2.1; omega
  have hd := L.2.1
  have h8 : n 8 ≤ 24 := F.1.2.2.2.2.2.1
  have h9 := F.2.2.1
  have qk : (nI k).toNatClampNeg = k := qn_nat (by omega)
  have e8 := N8 F
  obtain ⟨⟨km, nm, am⟩, -, ⟨kw, nw, aw⟩⟩ := LW_rows L F
  obtain ⟨A0, A1, A2, A3⟩ := LW_n L F
  obtain ⟨AS, AW, A16⟩ := L.2.2.2.1.2
  rw [e8] at AW A16
  obtain ⟨w0, w1, w2, w3, wd⟩ := AW k hk
  have e24 : nI X / 24 = nI (X / 24) := idiv_nI (b := 24) hX (by omega) (by omega)
  have i3 : (nI (4 * k + 3)).toNatClampNeg = 4 * k + 3 := qn_nat (by omega)
  have i1 : (nI (4 * k + 1)).toNatClampNeg = 4 * k + 1 := qn_nat (by omega)
  have i2 : (nI (4 * k + 2)).toNatClampNeg = 4 * k + 2 := qn_nat (by omega)
  have i0 : (nI (4 * k)).toNatClampNeg = 4 * k := qn_nat (by omega)
  have v3 : vp_in (nI (4 * k + 3)) (gN (ov S M) w) := by rw [nw]; exact vin_nI (by omega) (by omega)
  have v1 : vp_in (nI (4 * k + 1)) (gN (ov S M) w) := by rw [nw]; exact vin_nI (by omega) (by omega)
  have v2 : vp_in (nI (4 * k + 2)) (gN (ov S M) w) := by rw [nw]; exact vin_nI (by omega) (by omega)
  have v0 : vp_in (nI (4 * k)) (gN (ov S M) w) := by rw [nw]; exact vin_nI (by omega) (by omega)
  have I := L.2.2.2.2.1
  have hCt := L.2.2.2.2.2.1
  have hcap := L.2.2.2.2.2.2

  have er4 : nI (X / 24) - nI (X / 24) / 4 * 4 = nI (X / 24 % 4) := irem_nI (b := 4) (by omega) (by omega) (by omega)
  obtain ⟨cap', g1, g2, g3, ka⟩ := a_grant (e0 := e0) (m0 := m0) H hC hd (nI k) (nI (X / 24 % 4)) 0 0 0
  refine ⟨cap', g1, g2, fun {mc ms c0 n0 post} hmc hms kk => ?_⟩
  unfold w_L_isDone_b51
  refine ⟨by omega, by omega, S, M, rfl, hd, x, rfl, ST_K H, 1, 6, by omega, by omega, ?_⟩
  refine s_of H hC _ _ 1 6 _ _ (Nat.le_refl _) (Nat.le_refl _) (fun hq => absurd (q_of_0 F hk ⟨by decide, by decide⟩) hq) (fun _ _ => ?_)
  rw [wh_0, qk, ix43]
  refine ⟨w, rfl, kw, v3, ?_⟩
  refine ⟨fun z => absurd rfl z, fun _ => ?_⟩
  rw [e24, er4]
  have finx : ∀ {c1 n1 : Nat} {S' : PT}, c1 ≤ mc → n1 ≤ ms → post 1 (ov S' M) → w_L_isDone_b208 e0 m0 (some x) (some m) (some w) 0 (nI X) mc ms post c1 n1 (ov S' M) 1 := fun g1 g2 hp => by
    unfold w_L_isDone_b208
    exact ⟨g1, g2, bo_1, hp⟩
  have hqi : q_grant σ (nI k) (nI (X / 24 % 4)) (σ 23 0).toNatClampNeg = iT (¬ σ 33 k = 0 ∨ ¬ z_bars σ k (σ 23 0).toNatClampNeg ≤ 0) 3 0 := by unfold q_grant; rw [iT_F (fun z => z (in_k F hk)), iT_F (fun z => z (in_c (X / 24))), qk]
  have b24 := nf F.2.2.2.1 24 k rfl
  obtain ⟨e23, b23⟩ := b24
  have b4 : ((σ 24 k).toNatClampNeg : Int) ≤ 4 := b23
  have cb := cost_b F k
  have hLM := LM_cost F I ht k (c := z_cost σ k) cb.1 (by omega)
  generalize hp9 : (σ 24 k).toNatClampNeg = p at e23 b4 hLM
  have qp : (nI p).toNatClampNeg = p := qn_nat (by omega)
  refine ⟨S, M, rfl, hd, ST_K H, 1, 6, by omega, by omega, ?_⟩
  refine s_bars H hC _ 1 6 _ _ (Nat.le_refl _) (Nat.le_refl _) (fun hq => absurd (q_wk_0 F hk) hq) (fun _ _ => ?_)
  refine ⟨S, M, rfl, hd, ST_K H, 1, 6, by omega, by omega, ?_⟩
  rw [qk, aw, i3, w3, e23]
  refine s_money H hC _ 1 6 _ _ (Nat.le_refl _) (Nat.le_refl _) (fun hq => absurd (q_mo_0 (p := p) (by omega)) hq) (fun _ _ => ?_)
  rw [qp]
  refine ⟨60 + (cap' - cap), 2000 + 2 * (cap' - cap), by omega, by omega, ?_⟩
  refine ka (Nat.le_refl _) (Nat.le_refl _) (fun hne => ?_) (fun h0 S1 hd1 H1 => ?_)
  · have hc : ¬ σ 33 k = 0 ∨ ¬ z_bars σ k (σ 23 0).toNatClampNeg ≤ 0 := Classical.byContradiction (fun z => hne (by rw [hqi]; exact iT_F z))
    have LWn := kk _ _ _ _ _ (by rw [g3 hne]; exact LW_up L)
    have e9 : q_grant σ (nI k) (nI (X / 24 % 4)) (σ 23 0).toNatClampNeg = 3 := by rw [hqi]; exact iT_T hc
    have b131 : ∀ {c1 n1 : Nat}, c1 ≤ mc → n1 ≤ ms → w_L_isDone_b131 e0 m0 (some x) (some m) (some w) 0 (nI X) mc ms post c1 n1 (ov S M) := fun g1 g2 => by
      unfold w_L_isDone_b131
      exact ⟨g1, g2, finx g1 g2 LWn⟩
    rw [e9, cA_3]
    refine ⟨fun z => absurd rfl z, fun _ => ⟨fun _ => b131 (by omega) (by omega), fun h0 => ⟨fun hb => ?_, fun _ => b131 (by omega) (by omega)⟩⟩⟩
    exact absurd (hc.elim (fun z => absurd h0 z) id) (fun z => z hb)
  · have hc : ¬ (¬ σ 33 k = 0 ∨ ¬ z_bars σ k (σ 23 0).toNatClampNeg ≤ 0) := fun z => absurd (hqi.symm.trans h0) (by rw [iT_T z]; decide)
    have h33 : σ 33 k = 0 := Classical.byContradiction (fun z => hc (Or.inl z))
    have hbr : z_bars σ k (σ 23 0).toNatClampNeg = 0 := by
      have hb : z_bars σ k (σ 23 0).toNatClampNeg ≤ 0 := Classical.byContradiction (fun z => hc (Or.inr z))
      rcases bars_in (σ := σ) k (σ 23 0).toNatClampNeg with e | e | e | ⟨e, -⟩
      · exact e
      · rw [e] at hb; exact absurd hb (by decide)
      · rw [e] at hb; exact absurd hb (by decide)
      · rw [e] at hb; exact absurd hb (by decide)
    rw [qk, hp9] at H1
    have s33 : u_grant σ (nI k) (nI (X / 24 % 4)) 33 k = 1 := by unfold u_grant; rw [qk, up2_f _ _ _ _ (by decide), up2_s]
    have s34 : u_grant σ (nI k) (nI (X / 24 % 4)) 34 k = nI (X / 24 % 4) := by unfold u_grant; rw [qk, up2_s]
    have hLI : LI (u_grant σ (nI k) (nI (X / 24 % 4))) μ t := LI_wk (k := k) I (fun f a b _ => lf_grant _ _ f a b) (fun j hj => by unfold u_grant; rw [qk, up2_f _ _ _ _ (by decide), up2_i _ _ hj, up2_f _ _ _ _ (by decide)]) (fun j _ => by unfold u_grant; rw [up2_f _ _ _ _ (by decide), up2_f _ _ _ _ (by decide), up2_f _ _ _ _ (by decide)]) (Or.inl (fun q9 h9 e => by
      have a := (I.1 q9 k h9 (by omega) e).1
      rw [h33] at a; exact absurd a (by decide))) (Or.inr (by
      have a : u_grant σ (nI k) (nI (X / 24 % 4)) 37 k = σ 37 k := by unfold u_grant; rw [up2_f _ _ _ _ (by decide), up2_f _ _ _ _ (by decide), up2_f _ _ _ _ (by decide)]
      rw [a]
      exact I.2.1 k (by omega) (by rw [h33]; decide)))
    have hLI2 := LI_m hLI (by rw [lf_grant _ _ 0 (by unfold lf; omega) (by decide)]; exact hLM)
    have LWn := kk _ _ _ _ _ (LW_mk L H1 hd1 (LA_c (la_grant _ _) L.2.2.2.1) hLI2 (by omega) g2)
    obtain ⟨n1, h1, F1, -⟩ := ST_SF H1
    have e81 : n1 8 = n 8 := by
      have a1 := N8 F1
      rw [la_grant _ _ 23 (by unfold la; omega)] at a1
      exact a1.symm.trans e8
    have hk1 : k < n1 8 := by omega
    have nl := n1713 (v := z_cost σ k) (by omega)
    rw [qk]
    have epay : z_pay μ p 5 (z_cost σ k) p = μ p - (z_cost σ k).toInt64 := by rw [pay_at, iT_F (by omega), iT_T rfl]
    refine ⟨fun _ => ⟨fun z => absurd h33 z, fun _ => ⟨fun z => absurd hbr z, fun _ => ⟨fun z => ?_, fun _ => ⟨fun z => ?_, fun _ => ⟨S1, M, rfl, hd1, ST_K H1, 1, 6, by omega, by omega, ?_⟩⟩⟩⟩⟩, fun z => absurd z nl⟩
    · rw [ilt, I0] at z; omega
    · rw [ilt, tl_240] at z; omega
    refine s_of H1 (by omega) _ _ 1 6 _ _ (Nat.le_refl _) (Nat.le_refl _) (fun hq => absurd (q_of_0 F1 hk1 ⟨by decide, by decide⟩) hq) (fun _ _ => ?_)
    rw [wh_0, qk]
    rw [s33]
    refine ⟨fun z => absurd rfl z, fun _ => ⟨S1, M, rfl, hd1, ST_K H1, 1, 6, by omega, by omega, ?_⟩⟩
    refine s_of H1 (by omega) _ _ 1 6 _ _ (Nat.le_refl _) (Nat.le_refl _) (fun hq => absurd (q_of_0 F1 hk1 ⟨by decide, by decide⟩) hq) (fun _ _ => ?_)
    rw [wh_2, qk]
    rw [s34]
    refine ⟨fun z => absurd rfl z, fun _ => ⟨S1, M, rfl, hd1, ST_K H1, 1, 6, by omega, by omega, ?_⟩⟩
    refine s_money H1 (by omega) _ 1 6 _ _ (Nat.le_refl _) (Nat.le_refl _) (fun hq => absurd (q_mo_0 (p := p) (by omega)) hq) (fun _ _ => ?_)
    rw [qp, epay]
    exact ⟨fun z => absurd ((lg_cmp_eq _ _).mpr rfl) z, fun _ => finx (by omega) (by omega) LWn⟩
set_option maxRecDepth 100000 in
set_option maxHeartbeats 4000000 in
theorem done_open (L : LW u9 v9 e0 x m s w S M σ μ C cap t) (H : ST e0 x o S σ μ C cap) (F : SF σ n h) (ht : t ≤ 140) {k X : Nat} (hk : k < n 8) (hX : X < 2147483648) {G : Int32} (hG : G = 6 ∨ G = 7 ∨ G = 8 ∨ G = 9) : ∃ cap', cap ≤ cap' ∧ cap' ≤ 262144 ∧ ∀ {mc ms c0 n0 : Nat} {post : Int32 → PT → Prop}, c0 + 200 + (cap' - cap) ≤ mc → n0 + 9000 + 2 * (cap' - cap) ≤ ms → (∀ S' M' σ' μ' C', LW u9 v9 e0 x m s w S' M' σ' μ' C' cap' (t + 1) → post 1 (ov S' M')) → w_L_isDone_b51 e0 m0 (some x) (some m) (some w) G (nI X) mc ms post c0 n0 (ov S M) (nI k) := by
  have hC : C < 512 := by have := L.2.2.2.2.2.1; omega
  have hd := L.2.1
  have h8 : n 8 ≤ 24 := F.1.2.2.2.2.2.1
  have h9 := F.2.2.1
  have qk : (nI k).toNatClampNeg = k := qn_nat (by omega)
  have e8 := N8 F
  obtain ⟨⟨km, nm, am⟩, -, ⟨kw, nw, aw⟩⟩ := LW_rows L F
  obtain ⟨A0, A1, A2, A3⟩ := LW_n L F
  obtain ⟨AS, AW, A16⟩ := L.2.2.2.1.2
  rw [e8] at AW A16
  obtain ⟨w0, w1, w2, w3, wd⟩ := AW k hk
  have e24 : nI X / 24 = nI (X / 24) := idiv_nI (b := 24) hX (by omega) (by omega)
  have i3 : (nI (4 * k + 3)).toNatClampNeg = 4 * k + 3 := qn_nat (by omega)
  have i1 : (nI (4 * k + 1)).toNatClampNeg = 4 * k + 1 := qn_nat (by omega)
  have i2 : (nI (4 * k + 2)).toNatClampNeg = 4 * k + 2 := qn_nat (by omega)
  have i0 : (nI (4 * k)).toNatClampNeg = 4 * k := qn_nat (by omega)
  have v3 : vp_in (nI (4 * k + 3)) (gN (ov S M) w) := by rw [nw]; exact vin_nI (by omega) (by omega)
  have v1 : vp_in (nI (4 * k + 1)) (gN (ov S M) w) := by rw [nw]; exact vin_nI (by omega) (by omega)
  have v2 : vp_in (nI (4 * k + 2)) (gN (ov S M) w) := by rw [nw]; exact vin_nI (by omega) (by omega)
  have v0 : vp_in (nI (4 * k)) (gN (ov S M) w) := by rw [nw]; exact vin_nI (by omega) (by omega)
  have I := L.2.2.2.2.1
  have hCt := L.2.2.2.2.2.1
  have hcap := L.2.2.2.2.2.2
  have g0 : ¬ G = 0 := by rcases hG with e | e | e | e <;> rw [e] <;> decide
  have g1x : ¬ G = 1 := by rcases hG with e | e | e | e <;> rw [e] <;> decide
  have g2x : ¬ G = 2 := by rcases hG with e | e | e | e <;> rw [e] <;> decide
  have g3x : ¬ G = 3 := by rcases hG with e | e | e | e <;> rw [e] <;> decide
  have g4 : ¬ G = 4 := by rcases hG with e | e | e | e <;> rw [e] <;> decide
  have g5 : ¬ G = 5 := by rcases hG with e | e | e | e <;> rw [e] <;> decide
  have g10 : ¬ (10 : Int32) ≤ G := by rcases hG with e | e | e | e <;> rw [e] <;> decide
  obtain ⟨j, a, b, e25, e26, e27, hj, hab, hb⟩ := SF_wk F hk
  have lb := (len_2 F j).2
  have eD : nI b - nI a + 1 = nI (b - a + 1) := by rw [isub_nI hab (by omega), qn_s]
  have neD : ¬ nI (b - a + 1) = 0 := by rw [ieq, nI_toInt (by omega), I0]; omega
  have yl : X / 24 % (b - a + 1) < b - a + 1 := Nat.mod_lt _ (by omega)
  generalize hr9 : X / 24 % (b - a + 1) = r at yl
  have ey : a + r < z_len σ j := by omega
  have h5 : n 5 ≤ 6 := F.1.2.1
  have eat : z_at σ k (nI (a + r)) = 40 * j + (a + r) := by unfold z_at; rw [e25, qn_nat (by omega), qn_nat (by omega)]
  obtain ⟨cap', g1, g2, g3, ka⟩ := a_open (e0 := e0) (m0 := m0) H hC hd (nI k) (nI (a + r)) 0 0 0
  have h26 : σ 26 k ≤ nI (a + r) := by rw [e26, qn_le (by omega) (by omega)]; omega
  have h27 : nI (a + r) ≤ σ 27 k := by rw [e27, qn_le (by omega) (by omega)]; omega
  have hzof : z_of σ (nI k) (nI (a + r)) := by
    unfold z_of
    rw [qk]
    exact ⟨in_k F hk, h26, h27⟩
  have em : z_mat (nI j) (nI (a + r)) = 40 * j + (a + r) := mat_nI (by omega) (by omega)
  have b24 := nf F.2.2.2.1 24 k rfl
  obtain ⟨e23, b23⟩ := b24
  have b4 : ((σ 24 k).toNatClampNeg : Int) ≤ 4 := b23
  have qp : (nI (σ 24 k).toNatClampNeg).toNatClampNeg = (σ 24 k).toNatClampNeg := qn_nat (by omega)
  have h00 := nf F.2.2.2.1 0 0 rfl
  have h01 : ((σ 0 0).toNatClampNeg : Int) ≤ 9999 := h00.2
  have ho : ∀ i, (σ 15 i).toNatClampNeg < 5 := fun i => by
    have z := (nf F.2.2.2.1 15 i rfl).2
    rw [show bh 15 = 4 from rfl] at z
    omega
  have e7 := N7 F
  have h7 : n 7 ≤ 30 := F.1.2.2.2.1
  have hsmu := smu_ok (y := nI (a + r)) I.2.2.2.2.2.1 (by omega) (show (σ 24 k).toNatClampNeg < 5 by omega) ho (n 7) (by omega)
  have hqi : q_open σ (nI k) (nI (a + r)) (σ 14 0).toNatClampNeg = iT (z_off σ k (40 * j + (a + r)) (nI (a + r)) (σ 14 0).toNatClampNeg) 2 0 := by
    unfold q_open
    rw [iT_F (fun z => z hzof), qk, eat]
  have hstr : ∃ f : Nat, z_struck σ k (nI (a + r)) (σ 14 0).toNatClampNeg = nI f ∧ f ≤ 30 ∧ (¬ σ 12 (40 * j + (a + r)) = 0 → f = 0) ∧ LM (m_open σ μ (nI k) (nI (a + r)) (σ 14 0).toNatClampNeg) (150 * (σ 0 0).toNatClampNeg + 32 * (t + 1)) ∧ (m_open σ μ (nI k) (nI (a + r)) (σ 14 0).toNatClampNeg (σ 24 k).toNatClampNeg).toInt ≤ (μ (σ 24 k).toNatClampNeg).toInt ∧ (μ (σ 24 k).toNatClampNeg).toInt - 1000 * (f : Int) ≤ (m_open σ μ (nI k) (nI (a + r)) (σ 14 0).toNatClampNeg (σ 24 k).toNatClampNeg).toInt := by
    have hcl := cN_le (z_hit σ k (nI (a + r))) (n 7)
    unfold z_struck m_open
    rw [qk, eat, e7]
    by_cases z : σ 12 (40 * j + (a + r)) = 0
    · rw [iT_T z, iT_T z]
      exact ⟨_, rfl, by omega, fun z2 => absurd z z2, LM_up (by omega) hsmu.1, hsmu.2.1, hsmu.2.2⟩
    · rw [iT_F z, iT_F z]
      exact ⟨0, rfl, by omega, fun _ => rfl, LM_up (by omega) I.2.2.2.2.2.1, Int.le_refl _, by omega⟩
  obtain ⟨f, efs, hf30, hf0, hLM, hm1, hm2⟩ := hstr
  refine ⟨cap', g1, g2, fun {mc ms c0 n0 post} hmc hms kk => ?_⟩
  unfold w_L_isDone_b51
  refine ⟨by omega, by omega, S, M, rfl, hd, x, rfl, ST_K H, 1, 6, by omega, by omega, ?_⟩
  refine s_of H hC _ _ 1 6 _ _ (Nat.le_refl _) (Nat.le_refl _) (fun hq => absurd (q_of_0 F hk ⟨by decide, by decide⟩) hq) (fun _ _ => ?_)
  rw [wh_0, qk, ix43]
  refine ⟨w, rfl, kw, v3, ?_⟩
  rw [ix41, ix42, ix4, aw, i1, i2, w1, w2, e26, e27, eD]
  refine ⟨fun _ => ⟨fun _ => ⟨fun _ => ⟨fun _ => ⟨fun _ => ⟨fun _ => ⟨v1, v2, v1, ?_, fun z => absurd z g10, fun _ => ?_⟩, fun z => absurd z g5⟩, fun z => absurd z g4⟩, fun z => absurd z g3x⟩, fun z => absurd z g2x⟩, fun z => absurd z g1x⟩, fun z => absurd z g0⟩
  · exact neD
  rw [e24, irem_nI (by omega) (by omega) (by omega), hr9, qn_add]
  have finx : ∀ {c1 n1 : Nat} {S' : PT}, c1 ≤ mc → n1 ≤ ms → post 1 (ov S' M) → w_L_isDone_b925 e0 m0 (some x) (some m) (some w) G (nI X) mc ms post c1 n1 (ov S' M) 1 := fun g1 g2 hp => by
    unfold w_L_isDone_b925
    exact ⟨g1, g2, bo_1, hp⟩
  have fnI : (nI f).toInt = f := nI_toInt (by omega)
  have b747 : ∀ {c1 n1 : Nat} (v12 s0 : Int32), v12 = iT (σ 12 (40 * j + (a + r)) = 0) 0 1 → s0 = bI (aN (fun t => z_susB σ t (nI j) (nI (a + r))) (σ 14 0).toNatClampNeg) → c1 + 100 + (cap' - cap) ≤ mc → n1 + 3000 + 2 * (cap' - cap) ≤ ms → w_L_isDone_b747 e0 m0 (some x) (some m) (some w) G (nI X) mc ms post c1 n1 (ov S M) (nI k) (σ 33 k) (nI (σ 24 k).toNatClampNeg) (nI (a + r)) (σ 36 k) (nI (z_opens σ (nI k))) v12 s0 := fun {c1 n1} v12 s0 hv hs k1 k2 => by
    unfold w_L_isDone_b747
    refine ⟨by omega, by omega, S, M, rfl, hd, x, rfl, ST_K H, 1, 6, by omega, by omega, ?_⟩
    refine s_money H hC _ 1 6 _ _ (Nat.le_refl _) (Nat.le_refl _) (fun hq => absurd (q_mo_0 (by omega)) hq) (fun _ _ => ?_)
    rw [qp]
    refine ⟨60 + (cap' - cap), 2000 + 2 * (cap' - cap), by omega, by omega, ?_⟩
    refine ka (Nat.le_refl _) (Nat.le_refl _) (fun hne => ?_) (fun h0 S1 hd1 H1 => ?_)
    · have e9 : q_open σ (nI k) (nI (a + r)) (σ 14 0).toNatClampNeg = 2 := by
        rw [hqi] at hne ⊢
        exact iT_T (Classical.byContradiction (fun z => hne (iT_F z)))
      have LWn := kk _ _ _ _ _ (by rw [g3 hne]; exact LW_up L)
      rw [e9, cQ_2]
      refine ⟨fun z => absurd rfl z, fun _ => ⟨S, M, rfl, hd, ST_K H, 1, 6, by omega, by omega, ?_⟩⟩
      refine s_of H hC _ _ 1 6 _ _ (Nat.le_refl _) (Nat.le_refl _) (fun hq => absurd (q_of_0 F hk ⟨by decide, by decide⟩) hq) (fun _ _ => ?_)
      rw [wh_5, qk]
      refine ⟨fun z => absurd rfl z, fun _ => ⟨S, M, rfl, hd, ST_K H, 1, 6, by omega, by omega, ?_⟩⟩
      refine s_of H hC _ _ 1 6 _ _ (Nat.le_refl _) (Nat.le_refl _) (fun hq => absurd (q_of_0 F hk ⟨by decide, by decide⟩) hq) (fun _ _ => ?_)
      rw [wh_4, qk]
      exact ⟨fun z => absurd rfl z, fun _ => finx (by omega) (by omega) LWn⟩
    · have hoff : ¬ z_off σ k (40 * j + (a + r)) (nI (a + r)) (σ 14 0).toNatClampNeg := fun z => absurd (hqi.symm.trans h0) (by rw [iT_T z]; decide)
      have h33 : σ 33 k = 3 := Classical.byContradiction (fun z => hoff (Or.inl z))
      have h13 : σ 13 (40 * j + (a + r)) = -1 := Classical.byContradiction (fun z => hoff (Or.inr (Or.inr (Or.inr (Or.inl z)))))
      have hsus : σ 12 (40 * j + (a + r)) = 0 → ¬ aN (fun t => z_susB σ t (nI j) (nI (a + r))) (σ 14 0).toNatClampNeg := fun z z2 => hoff (Or.inr (Or.inr (Or.inr (Or.inr ⟨z, by rw [e25]; exact z2⟩))))
      have hLIo := LI_open (nT := (σ 14 0).toNatClampNeg) I (show k < 24 by omega) h33 e25 (show j < 6 by omega) (show a + r < 40 by omega) h26 h27 (by rw [efs, fnI]; omega) ht
      have hLI2 : LI (u_open σ (nI k) (nI (a + r)) (σ 14 0).toNatClampNeg) (m_open σ μ (nI k) (nI (a + r)) (σ 14 0).toNatClampNeg) (t + 1) := by
        obtain ⟨J1, J2, J4, J5, J7, J8, J9⟩ := hLIo
        exact ⟨J1, J2, J4, J5, J7, by rw [la_open _ _ _ 0 (by unfold la; omega)]; exact hLM, J9⟩
      have LWn := kk _ _ _ _ _ (LW_mk L H1 hd1 (LA_c (la_open _ _ _) L.2.2.2.1) hLI2 (by omega) g2)
      have l25 := congrFun (la_open (σ := σ) (nI k) (nI (a + r)) (σ 14 0).toNatClampNeg 2 (by unfold la; omega)) j
      have l5 := congrFun (la_open (σ := σ) (nI k) (nI (a + r)) (σ 14 0).toNatClampNeg 1 (by unfold la; omega)) 0
      have s36 : u_open σ (nI k) (nI (a + r)) (σ 14 0).toNatClampNeg 36 k = σ 36 k + nI f := by
        unfold u_open
        rw [qk, up2_f _ _ _ _ (by decide), up2_f _ _ _ _ (by decide), up2_s, efs]
      have s12 : u_open σ (nI k) (nI (a + r)) (σ 14 0).toNatClampNeg 12 (40 * j + (a + r)) = 1 := by
        unfold u_open
        rw [qk, eat, up2_f _ _ _ _ (by decide), up2_s]
      have s13 : ∀ i, u_open σ (nI k) (nI (a + r)) (σ 14 0).toNatClampNeg 13 i = if i = 40 * j + (a + r) then nI k else σ 13 i := fun i => by
        unfold u_open
        rw [qk, eat]
        by_cases e : i = 40 * j + (a + r)
        · rw [if_pos e, e, up2_s]
        · rw [if_neg e, up2_i _ _ e, up2_f _ _ _ _ (by decide), up2_f _ _ _ _ (by decide), up2_f _ _ _ _ (by decide)]
      have eop : z_opens (u_open σ (nI k) (nI (a + r)) (σ 14 0).toNatClampNeg) (nI k) = z_opens σ (nI k) + 1 := by
        have c := cN_up (P := fun q => σ 13 q = nI k) (Q := fun q => u_open σ (nI k) (nI (a + r)) (σ 14 0).toNatClampNeg 13 q = nI k) (q := 40 * j + (a + r)) 240 (fun i hi => by rw [s13, if_neg hi]) (by rw [h13, ieq, nI_toInt (by omega), tl_m1]; omega) (by rw [s13, if_pos rfl])
        rw [iT_T (by omega)] at c
        exact c
      obtain ⟨n2, h2, F2, -⟩ := ST_SF H1
      have e51 : n2 5 = n 5 := by
        have a1 := N5 F2
        rw [l5] at a1
        exact a1.symm.trans (N5 F)
      have e82 : n2 8 = n 8 := by
        have a1 := N8 F2
        rw [la_open _ _ _ 23 (by unfold la; omega)] at a1
        exact a1.symm.trans e8
      have hk2 : k < n2 8 := by omega
      have ey2 : a + r < z_len (u_open σ (nI k) (nI (a + r)) (σ 14 0).toNatClampNeg) j := by
        have e1 : z_len (u_open σ (nI k) (nI (a + r)) (σ 14 0).toNatClampNeg) j = z_len σ j := congrArg Int32.toNatClampNeg l25
        rw [e1]; exact ey
      have hj2 : j < n2 5 := by omega
      obtain ⟨-, -, ⟨kw1, nw1, aw1⟩⟩ := MA_ov L.2.2.1 S1
      have v01 : vp_in (nI (4 * k)) (gN (ov S1 M) w) := by rw [nw1]; exact vin_nI (by omega) (by omega)
      have nl := n1713 (v := nI f) (by omega)
      rw [qk, efs]
      have ejm : (1000 * (nI f).toInt64 : Int64).toInt = 1000 * (f : Int) := by
        rw [Int64.toInt_mul, jof, fnI, show (1000 : Int64).toInt = 1000 from by decide]
        exact jsm (by omega) (by omega)
      have hb2 := I.2.2.2.2.2.1.2.2 (σ 24 k).toNatClampNeg (by omega)
      have b842 : ∀ {c1 n1 : Nat}, c1 + 30 ≤ mc → n1 + 180 ≤ ms → w_L_isDone_b842 e0 m0 (some x) (some m) (some w) G (nI X) mc ms post c1 n1 (ov S1 M) (nI k) (nI (σ 24 k).toNatClampNeg) (nI (a + r)) (σ 36 k) (nI (z_opens σ (nI k))) (μ (σ 24 k).toNatClampNeg) (nI f) := fun {c1 n1} k1 k2 => by
        unfold w_L_isDone_b842
        rw [ix4]
        refine ⟨by omega, by omega, S1, M, rfl, hd1, x, rfl, ST_K H1, 1, 6, by omega, by omega, ?_⟩
        refine s_of H1 (by omega) _ _ 1 6 _ _ (Nat.le_refl _) (Nat.le_refl _) (fun hq => absurd (q_of_0 F2 hk2 ⟨by decide, by decide⟩) hq) (fun _ _ => ?_)
        rw [wh_4, qk]
        rw [s36]
        refine ⟨fun z => absurd rfl z, fun _ => ⟨S1, M, rfl, hd1, ST_K H1, 1, 6, by omega, by omega, ?_⟩⟩
        refine s_of H1 (by omega) _ _ 1 6 _ _ (Nat.le_refl _) (Nat.le_refl _) (fun hq => absurd (q_of_0 F2 hk2 ⟨by decide, by decide⟩) hq) (fun _ _ => ?_)
        rw [wh_5, qk]
        rw [eop, qn_s]
        refine ⟨fun z => absurd rfl z, fun _ => ⟨w, rfl, kw1, v01, S1, M, rfl, hd1, ST_K H1, 1, 6, by omega, by omega, ?_⟩⟩
        rw [aw1, i0, w0, e25]
        refine s_metre H1 (by omega) _ _ _ 1 6 _ _ (Nat.le_refl _) (Nat.le_refl _) (fun hq => absurd (q_metre_0 F2 hj2 ey2 ⟨by decide, by decide⟩) hq) (fun _ _ => ?_)
        rw [mw_1, em, s12, iT_F (show ¬ (1 : Int32) = 0 by decide)]
        refine ⟨fun z => absurd rfl z, fun _ => ⟨S1, M, rfl, hd1, ST_K H1, 1, 6, by omega, by omega, ?_⟩⟩
        refine s_money H1 (by omega) _ 1 6 _ _ (Nat.le_refl _) (Nat.le_refl _) (fun hq => absurd (q_mo_0 (by omega)) hq) (fun _ _ => ?_)
        rw [qp]
        refine ⟨fun z => ?_, fun _ => ⟨S1, M, rfl, hd1, ST_K H1, 1, 6, by omega, by omega, ?_⟩⟩
        · rw [lg_cmp_gt, jlt] at z; omega
        refine s_money H1 (by omega) _ 1 6 _ _ (Nat.le_refl _) (Nat.le_refl _) (fun hq => absurd (q_mo_0 (by omega)) hq) (fun _ _ => ?_)
        rw [qp]
        refine ⟨fun z => ?_, fun _ => finx (by omega) (by omega) LWn⟩
        rw [lg_cmp_lt, jlt, jsub, ejm] at z; omega
      have b832 : ∀ {c1 n1 : Nat}, c1 + 30 ≤ mc → n1 + 180 ≤ ms → w_L_isDone_b832 e0 m0 (some x) (some m) (some w) G (nI X) mc ms post c1 n1 (ov S1 M) (nI k) (nI (σ 24 k).toNatClampNeg) (nI (a + r)) (σ 36 k) (nI (z_opens σ (nI k))) v12 s0 (μ (σ 24 k).toNatClampNeg) (nI f) := fun {c1 n1} k1 k2 => by
        unfold w_L_isDone_b832
        refine ⟨by omega, by omega, fun _ => b842 k1 k2, fun z => ⟨fun z2 => absurd ?_ z2, fun _ => b842 k1 k2⟩⟩
        rw [hs]
        refine bI_F (hsus (Classical.byContradiction (fun z3 => ?_)))
        rw [hv, iT_F z3] at z
        exact absurd z (by decide)
      refine ⟨fun _ => ⟨fun z => absurd h33 z, fun _ => ⟨fun z => ?_, fun _ => ⟨fun _ => b832 (by omega) (by omega), fun z => ⟨fun z2 => ?_, fun _ => b832 (by omega) (by omega)⟩⟩⟩⟩, fun z => absurd z nl⟩
      · rw [ilt, I0, fnI] at z; omega
      · exfalso
        have h12 : ¬ σ 12 (40 * j + (a + r)) = 0 := fun z3 => z (by rw [hv]; exact iT_T z3)
        exact z2 (by rw [hf0 h12]; rfl)
  have b723 : ∀ {c1 n1 : Nat} (s0 : Int32), s0 = iT (σ 12 (40 * j + (a + r)) = 0) 0 1 → c1 + 105 + (cap' - cap) ≤ mc → n1 + 3030 + 2 * (cap' - cap) ≤ ms → w_L_isDone_b723 e0 m0 (some x) (some m) (some w) G (nI X) mc ms post c1 n1 (ov S M) (nI k) (σ 33 k) (nI (σ 24 k).toNatClampNeg) (nI (a + r)) (σ 36 k) (nI (z_opens σ (nI k))) s0 := fun {c1 n1} s0 hs k1 k2 => by
    unfold w_L_isDone_b723
    rw [ix4]
    refine ⟨by omega, by omega, w, rfl, kw, v0, S, M, rfl, hd, x, rfl, ST_K H, 1, 6, by omega, by omega, ?_⟩
    rw [aw, i0, w0, e25]
    refine s_metre H hC _ _ _ 1 6 _ _ (Nat.le_refl _) (Nat.le_refl _) (fun hq => absurd (q_metre_0 F hj ey ⟨by decide, by decide⟩) hq) (fun _ _ => ?_)
    rw [mw_0]
    refine ⟨fun z => b747 s0 0 hs ?_ (by omega) (by omega), fun z => b747 s0 1 hs z.symm (by omega) (by omega)⟩
    exact (Classical.byContradiction (fun z2 => z (bI_T (Classical.byContradiction (fun z3 => z2 (bI_F z3).symm)))))
  refine ⟨S, M, rfl, hd, ST_K H, 1, 6, by omega, by omega, ?_⟩
  refine s_of H hC _ _ 1 6 _ _ (Nat.le_refl _) (Nat.le_refl _) (fun hq => absurd (q_of_0 F hk ⟨by decide, by decide⟩) hq) (fun _ _ => ?_)
  rw [wh_4, qk]
  refine ⟨S, M, rfl, hd, ST_K H, 1, 6, by omega, by omega, ?_⟩
  refine s_of H hC _ _ 1 6 _ _ (Nat.le_refl _) (Nat.le_refl _) (fun hq => absurd (q_of_0 F hk ⟨by decide, by decide⟩) hq) (fun _ _ => ?_)
  rw [wh_5, qk]
  refine ⟨kw, v0, S, M, rfl, hd, ST_K H, 1, 6, by omega, by omega, ?_⟩
  rw [aw, i0, w0, e25, i3, w3, e23]
  refine s_metre H hC _ _ _ 1 6 _ _ (Nat.le_refl _) (Nat.le_refl _) (fun hq => absurd (q_metre_0 F hj ey ⟨by decide, by decide⟩) hq) (fun _ _ => ?_)
  rw [mw_1, em]
  refine ⟨fun z => b723 0 ?_ (by omega) (by omega), fun z => b723 1 z.symm (by omega) (by omega)⟩
  exact (Classical.byContradiction (fun z2 => z (iT_F (fun z3 => z2 (iT_T z3).symm))))
end DNH
