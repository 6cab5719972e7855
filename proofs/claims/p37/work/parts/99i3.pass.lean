/-! hours that go by: isPassed -/
section PSM
variable {u9 v9 e0 m0 x o m s w q9 : Nat} {S M : PT} {σ : SG} {μ : MU} {n : Nat → Nat} {h t C cap : Nat} {fm fs fw : Nat → Int32}
theorem a_passM (H : ST e0 x o S σ μ C cap) (hC : C < 512) (a b c d e : Int32) : ∃ cap', cap ≤ cap' ∧ cap' ≤ 262144 ∧ (¬ (q_pass σ a) = 0 → cap' = cap) ∧ ∀ {M : PT} {mc ms : Nat} {post : Int32 → PT → Prop}, dis S M → 60 + (cap' - cap) ≤ mc → 2000 + 2 * (cap' - cap) ≤ ms → (¬ (q_pass σ a) = 0 → post (cE (q_pass σ a)) (ov S M)) → ((q_pass σ a) = 0 → ∀ S', dis S' M → ST e0 x o S' ((u_pass σ μ a (σ 1 0).toNatClampNeg (σ 23 0).toNatClampNeg).1) ((u_pass σ μ a (σ 1 0).toNatClampNeg (σ 23 0).toNatClampNeg).2) (C + 1) cap' → post (σ 0 0 + a) (ov S' M)) → w_L_act e0 m0 (some x) 19 a b c d e (ov S M) mc ms post := by
  obtain ⟨cap', c1, c2, c3, k⟩ := s_pass H hC a
  refine ⟨cap', c1, c2, c3, fun {M mc ms post} hd hmc hms hx k2 => ?_⟩
  unfold w_L_act
  refine ⟨fun _ => ⟨fun _ => ⟨fun _ => ⟨fun _ => ⟨fun _ => ⟨fun _ => ⟨fun _ => ⟨fun _ => ⟨fun _ => ⟨fun _ => ⟨fun _ => ⟨fun _ => ⟨fun _ => ⟨fun _ => ⟨fun _ => ⟨fun _ => ⟨fun _ => ⟨fun _ => ⟨fun _ => ⟨fun h => absurd rfl h, fun _ => ⟨S, M, rfl, hd, x, rfl, ST_K H, mc, ms, by omega, by omega, ?_⟩⟩, fun h => absurd h (by decide)⟩, fun h => absurd h (by decide)⟩, fun h => absurd h (by decide)⟩, fun h => absurd h (by decide)⟩, fun h => absurd h (by decide)⟩, fun h => absurd h (by decide)⟩, fun h => absurd h (by decide)⟩, fun h => absurd h (by decide)⟩, fun h => absurd h (by decide)⟩, fun h => absurd h (by decide)⟩, fun h => absurd h (by decide)⟩, fun h => absurd h (by decide)⟩, fun h => absurd h (by decide)⟩, fun h => absurd h (by decide)⟩, fun h => absurd h (by decide)⟩, fun h => absurd h (by decide)⟩, fun h => absurd h (by decide)⟩, fun h => absurd h (by decide)⟩, fun h => absurd h (by decide)⟩
  exact k mc ms _ _ (by omega) (by omega) (fun hq hd' => hcE _ (fun z => post z (ov S M)) (hx hq)) (fun hq S' H' hd' => ⟨by omega, by omega, k2 hq S' hd' H'⟩)
def QR (M : PT) (q : Nat) (g : Nat → Int32) : Prop := gK M q = 12 ∧ gN M q = 6 ∧ gA M q = g
theorem MA_q (H : MA M m s w fm fs fw) {q : Nat} (h1 : q ≠ m) (h2 : q ≠ s) (h3 : q ≠ w) (i : Nat) (v : Int32) : MA (sA M q i v) m s w fm fs fw := by
  obtain ⟨⟨a1, a2, a3⟩, ⟨b1, b2, b3⟩, ⟨c1, c2, c3⟩, d⟩ := H
  exact ⟨⟨a1, a2, by rw [sA_A, if_neg (Ne.symm h1), a3]⟩, ⟨b1, b2, by rw [sA_A, if_neg (Ne.symm h2), b3]⟩, ⟨c1, c2, by rw [sA_A, if_neg (Ne.symm h3), c3]⟩, d⟩
theorem QR_q {q : Nat} {g : Nat → Int32} (H : QR M q g) (i : Nat) (v : Int32) : QR (sA M q i v) q (upd g i v) := ⟨H.1, H.2.1, by rw [sA_A, if_pos rfl, H.2.2]⟩
theorem QR_o {q a : Nat} {g : Nat → Int32} (H : QR M q g) (h1 : q ≠ a) (i : Nat) (v : Int32) : QR (sA M a i v) q g := ⟨H.1, H.2.1, by rw [sA_A, if_neg h1, H.2.2]⟩
theorem QR_ov {q : Nat} {g : Nat → Int32} (H : QR M q g) (S : PT) : gK (ov S M) q = 12 ∧ gN (ov S M) q = 6 ∧ gA (ov S M) q = g := by
  obtain ⟨a, b, c⟩ := ov_a H.1 S
  exact ⟨a, b.trans H.2.1, c.trans H.2.2⟩
set_option maxRecDepth 100000 in
set_option maxHeartbeats 2000000 in
/-- the queues afterwards -/
theorem pass_q (H : ST e0 x o S σ μ C cap) (hC : C < 512) (hd : dis S M) (F : SF σ n h) (ma : MA M m s w fm fs fw) (hm1 : fm 1 = nI (n 5)) {q : Nat} {g : Nat → Int32} (hq : QR M q g) (hs : ∀ j, j < n 5 → fs (6 + j) = σ 4 j ∧ fs (12 + j) = σ 5 j) {N X : Nat} (hN : N ≤ 60) (hg : ∀ j, j < n 5 → 0 ≤ (g j).toInt ∧ (g j).toInt ≤ 40000000 ∧ 0 ≤ (σ 10 j).toInt ∧ (σ 10 j).toInt ≤ (g j).toInt + (N * ((σ 4 j).toNatClampNeg + ar σ j (n 5)) : Nat)) {mc ms : Nat} {post : Int32 → PT → Prop} (hp : post 1 (ov S M)) : ∀ rem k, k + rem = n 5 → ∀ c1 n1, c1 + 2 * rem ≤ mc → n1 + 12 * rem ≤ ms → w_L_isPassed_l107 e0 m0 (some x) (some m) (some s) (nI X) mc ms post (rem + 1) c1 n1 (ov S M) (nI N) (some q) 1 (nI k) := by
  have h5 : n 5 ≤ 6 := F.1.2.1
  have ib := F.2.2.2.1
  obtain ⟨⟨km, nm, am⟩, ⟨ks, ns, as9⟩, -⟩ := MA_ov ma S
  obtain ⟨kq, nq, aq⟩ := QR_ov hq S
  have v1m : vp_in 1 (gN (ov S M) m) := by rw [nm]; exact vin_nI (k := 1) (by omega) (by omega)
  intro rem
  induction rem with
  | zero =>
    intro k hk c1 n1 hc hn
    refine ⟨by omega, by omega, m, rfl, km, v1m, ?_⟩
    rw [cl_1, am, hm1, qn_le (by omega) (by omega)]
    refine ⟨fun _ => ?_, fun z => absurd (by omega) z⟩
    unfold w_L_isPassed_b218
    exact ⟨by omega, by omega, bo_1, hp⟩
  | succ rem ih =>
    intro k hk c1 n1 hc hn
    have hk5 : k < n 5 := by omega
    have e6 : (6 : Int32) + nI k = nI (6 + k) := qn_add 6 _
    have q6 : (nI (6 + k)).toNatClampNeg = 6 + k := qn_nat (by omega)
    have qk : (nI k).toNatClampNeg = k := qn_nat (by omega)
    have v6 : vp_in (nI (6 + k)) (gN (ov S M) s) := by rw [ns]; exact vin_nI (by omega) (by omega)
    refine ⟨by omega, by omega, m, rfl, km, v1m, ?_⟩
    rw [cl_1, am, hm1, qn_le (by omega) (by omega), e6, q6]
    refine ⟨fun z => absurd z (by omega), fun _ => ⟨fun z => absurd z (by decide), fun _ => ⟨s, rfl, ks, v6, n 5 + 1, ?_⟩⟩⟩
    rw [as9, (hs k hk5).1, (v4b ib k).1]
    have gk := hg k hk5
    have al := ar_le ib k (n 5)
    have v4 := (v4b ib k).2
    have inner : ∀ r2 j, j + r2 = n 5 → w_L_isPassed_l132 e0 m0 (some x) (some m) (some s) (nI X) mc ms post (w_L_isPassed_l107 e0 m0 (some x) (some m) (some s) (nI X) mc ms post (rem + 1)) (r2 + 1) c1 n1 (ov S M) (nI N) (some q) (nI k) (nI ((σ 4 k).toNatClampNeg + ar σ k j)) (nI j) := fun r2 => by
      induction r2 with
      | zero =>
        intro j hj
        have ej : j = n 5 := by omega
        subst ej
        refine ⟨by omega, by omega, m, rfl, km, v1m, ?_⟩
        rw [cl_1, am, hm1, qn_le (by omega) (by omega), qn_mul]
        refine ⟨fun _ => ⟨S, M, rfl, hd, x, rfl, ST_K H, 1, 6, by omega, by omega, ?_⟩, fun z => absurd (by omega) z⟩
        refine s_queue H hC _ 1 6 _ _ (Nat.le_refl _) (Nat.le_refl _) (fun hq => absurd (q_st_0 F hk5) hq) (fun _ _ => ?_)
        refine ⟨q, rfl, kq, by rw [nq]; exact vin_nI (by omega) (by omega), ?_⟩
        rw [qk, aq]
        have hm : N * ((σ 4 k).toNatClampNeg + ar σ k (n 5)) ≤ 60 * 4000 := Nat.mul_le_mul (by omega) (by omega)
        have tN : (nI (N * ((σ 4 k).toNatClampNeg + ar σ k (n 5)))).toInt = (N * ((σ 4 k).toNatClampNeg + ar σ k (n 5)) : Nat) := nI_toInt (by omega)
        refine ⟨fun z => ?_, fun _ => ⟨S, M, rfl, hd, ST_K H, 1, 6, by omega, by omega, ?_⟩⟩
        · exfalso
          rw [ilt, tadd, tN] at z
          generalize N * ((σ 4 k).toNatClampNeg + ar σ k (n 5)) = zz at *
          omega
        refine s_queue H hC _ 1 6 _ _ (Nat.le_refl _) (Nat.le_refl _) (fun hq => absurd (q_st_0 F hk5) hq) (fun _ _ => ?_)
        rw [qk]
        refine ⟨fun z => ?_, fun _ => ?_⟩
        · exfalso
          rw [ilt, I0] at z
          omega
        unfold w_L_isPassed_b210
        rw [qn_s]
        exact ⟨by omega, by omega, ih (k + 1) (by omega) _ _ (by omega) (by omega)⟩
      | succ r2 ih2 =>
        intro j hj
        have e12 : (12 : Int32) + nI j = nI (12 + j) := qn_add 12 _
        have e6j : (6 : Int32) + nI j = nI (6 + j) := qn_add 6 _
        have q12 : (nI (12 + j)).toNatClampNeg = 12 + j := qn_nat (by omega)
        have q6j : (nI (6 + j)).toNatClampNeg = 6 + j := qn_nat (by omega)
        have v12 : vp_in (nI (12 + j)) (gN (ov S M) s) := by rw [ns]; exact vin_nI (by omega) (by omega)
        have v6j : vp_in (nI (6 + j)) (gN (ov S M) s) := by rw [ns]; exact vin_nI (by omega) (by omega)
        have nx := ih2 (j + 1) (by omega)
        have b4 := v4b ib j
        have ed2 : nI (σ 4 j).toNatClampNeg / 2 = nI ((σ 4 j).toNatClampNeg / 2) := idiv_nI (b := 2) (by omega) (by omega) (by omega)
        refine ⟨by omega, by omega, m, rfl, km, v1m, ?_⟩
        rw [cl_1, am, hm1, qn_le (by omega) (by omega), e12, q12, e6j, q6j]
        refine ⟨fun z => absurd z (by omega), fun _ => ⟨s, rfl, ks, v12, ?_⟩⟩
        rw [as9, (hs j (by omega)).1, (hs j (by omega)).2, b4.1, ed2]
        have ear : ar σ k (j + 1) = ar σ k j + iT (σ 5 j = nI k) ((σ 4 j).toNatClampNeg / 2) 0 := rfl
        rw [ear] at nx
        refine ⟨fun z => ?_, fun z => ⟨v6j, ?_⟩⟩
        · unfold w_L_isPassed_b167
          rw [iT_F z] at nx
          rw [qn_s, show (nI ((σ 4 k).toNatClampNeg + ar σ k j) + 0 : Int32) = nI ((σ 4 k).toNatClampNeg + ar σ k j + 0) from qn_add _ 0, Nat.add_assoc]
          exact ⟨by omega, by omega, nx⟩
        · unfold w_L_isPassed_b167
          rw [iT_T z] at nx
          rw [qn_s, qn_add, Nat.add_assoc]
          exact ⟨by omega, by omega, nx⟩
    exact inner (n 5) 0 (by omega)
set_option maxRecDepth 100000 in
set_option maxHeartbeats 2000000 in
theorem passed_ok (L : LW u9 v9 e0 x m s w S M σ μ C cap t) (ht : t ≤ 140) {X : Nat} (hX : X < 2147483648) : ∃ cap', cap ≤ cap' ∧ cap' ≤ 262144 ∧ ∀ {mc ms : Nat} {post : Int32 → PT → Prop}, 300 + (cap' - cap) ≤ mc → 10000 + 2 * (cap' - cap) ≤ ms → (∀ S' M' σ' μ' C', LW u9 v9 e0 x m s w S' M' σ' μ' C' cap' (t + 1) → post 1 (ov S' M')) → w_L_isPassed e0 m0 (some x) (some m) (some s) (nI X) (ov S M) mc ms post := by
  obtain ⟨o, H⟩ := L.1
  obtain ⟨n, h, F, -⟩ := ST_SF H
  have hC : C < 512 := by have := L.2.2.2.2.2.1; omega
  have hd := L.2.1
  have h5 : n 5 ≤ 6 := F.1.2.1
  have h9 := F.2.2.1
  have I := L.2.2.2.2.1
  obtain ⟨A0, A1, A2, A3⟩ := LW_n L F
  have AS := L.2.2.2.1.2.1
  rw [N5 F] at AS
  have e5 : nI X - nI X / 5 * 5 = nI (X % 5) := irem_nI (b := 5) hX (by omega) (by omega)
  have hN9 : ∃ N B : Nat, 1 ≤ N ∧ N ≤ 60 ∧ (B = 20 ∨ B = 60) ∧ N = 1 + X % B ∧ (X % 5 = 0 → B = 60) ∧ (¬ X % 5 = 0 → B = 20) := by
    by_cases z : X % 5 = 0
    · exact ⟨1 + X % 60, 60, by omega, by omega, Or.inr rfl, rfl, fun _ => rfl, fun z2 => absurd z z2⟩
    · exact ⟨1 + X % 20, 20, by omega, by omega, Or.inl rfl, rfl, fun z2 => absurd z2 z, fun _ => rfl⟩
  obtain ⟨N, B, hN1, hN, hBB, eN, hB1, hB2⟩ := hN9
  obtain ⟨cap', g1, g2, g3, ka⟩ := a_passM (e0 := e0) (m0 := m0) H hC (nI N) 0 0 0 0
  obtain ⟨hq0, hLI, hbd, hs0, hla, hqu⟩ := pass_all F I ht hN1 hN
  refine ⟨cap', g1, g2, fun {mc ms post} hmc hms kk => ?_⟩
  rw [N5 F, N8 F] at ka
  have base : ∀ {M1 : PT} {q : Nat} {g : Nat → Int32}, dis S M1 → MA M1 m s w (gA M m) (gA M s) (gA M w) → QR M1 q g → q ≠ m → (∀ j, j < n 5 → g j = σ 10 j) → ∀ {c1 n1 : Nat}, c1 + 100 + (cap' - cap) ≤ mc → n1 + 5000 + 2 * (cap' - cap) ≤ ms → w_L_isPassed_l28 e0 m0 (some x) (some m) (some s) (nI X) mc ms post 1 c1 n1 (ov S M1) (nI N) (some q) (nI (n 5)) := fun {M1 q g} hd1 ma hq hqm hg {c1 n1} k1 k2 => by
    obtain ⟨⟨km, nm, am⟩, -, -⟩ := MA_ov ma S
    have v1m : vp_in 1 (gN (ov S M1) m) := by rw [nm]; exact vin_nI (k := 1) (by omega) (by omega)
    have v0m : vp_in 0 (gN (ov S M1) m) := by rw [nm]; exact vin_nI (k := 0) (by omega) (by omega)
    refine ⟨by omega, by omega, m, rfl, km, v1m, ?_⟩
    rw [cl_1, am, A1]
    refine ⟨fun _ => ⟨S, M1, rfl, hd1, x, rfl, ST_K H, 1, 6, by omega, by omega, ?_⟩, fun z => absurd (by rw [ile]; omega) z⟩
    refine s_money H hC _ 1 6 _ _ (Nat.le_refl _) (Nat.le_refl _) (fun hq => absurd (q_mo_0 (p := 5) (by omega)) hq) (fun _ _ => ?_)
    rw [cl_5]
    refine ⟨km, v0m, v0m, ?_⟩
    rintro _ rfl
    rw [cl_0, am, A0, ov_sA ma.1.1]
    have ma2 := MA_m ma 0 (σ 0 0 + nI N)
    have hq2 := QR_o hq hqm 0 (σ 0 0 + nI N)
    refine ⟨60 + (cap' - cap), 2000 + 2 * (cap' - cap), by omega, by omega, ?_⟩
    refine ka (dis_sA hd1 m 0 _) (Nat.le_refl _) (Nat.le_refl _) (fun hne => absurd hq0 hne) (fun _ S1 hd2 H1 => ?_)
    obtain ⟨⟨km2, nm2, am2⟩, -, -⟩ := MA_ov ma2 S1
    have v0m2 : vp_in 0 (gN (ov S1 (sA M1 m 0 (σ 0 0 + nI N))) m) := by rw [nm2]; exact vin_nI (k := 0) (by omega) (by omega)
    have es0 : σ 0 0 + nI N = nI (h + N) := by rw [F.2.1, qn_add]
    have hA : LA (u_pass σ μ (nI N) (n 5) (n 8)).1 (upd (gA M m) 0 (σ 0 0 + nI N)) (gA M s) (gA M w) := by
      obtain ⟨⟨a0, a1, a2, a3⟩, aS, aW, a16⟩ := L.2.2.2.1
      unfold LA
      rw [hs0, hla 1 (by unfold la; omega) (by decide), hla 14 (by unfold la; omega) (by decide), hla 23 (by unfold la; omega) (by decide), hla 2 (by unfold la; omega) (by decide), hla 4 (by unfold la; omega) (by decide), hla 5 (by unfold la; omega) (by decide), hla 24 (by unfold la; omega) (by decide), hla 25 (by unfold la; omega) (by decide), hla 26 (by unfold la; omega) (by decide), hla 27 (by unfold la; omega) (by decide), hla 28 (by unfold la; omega) (by decide)]
      exact ⟨⟨by rw [upd_s, es0], by rw [upd_o _ _ (by decide)]; exact a1, by rw [upd_o _ _ (by decide)]; exact a2, by rw [upd_o _ _ (by decide)]; exact a3⟩, aS, aW, a16⟩
    have LWn := kk _ _ _ _ _ (LW_mk2 H1 hd2 ma2 hA hLI (by have := L.2.2.2.2.2.1; omega) (LA_gr L hA (upd_o _ _ (by decide)) (upd_o _ _ (by decide))) g2)
    obtain ⟨n1', h1, F1, -⟩ := ST_SF H1
    have e51 : n1' 5 = n 5 := by
      have a1 := N5 F1
      rw [hla 1 (by unfold la; omega) (by decide)] at a1
      exact a1.symm.trans (N5 F)
    have hl4 := hla 4 (by unfold la; omega) (by decide)
    have hl5 := hla 5 (by unfold la; omega) (by decide)
    refine ⟨km2, v0m2, ?_⟩
    rw [am2, upd_s]
    refine ⟨fun z => absurd rfl z, fun _ => ⟨S1, _, rfl, hd2, ST_K H1, 1, 6, by omega, by omega, ?_⟩⟩
    refine s_money H1 (by have := L.2.2.2.2.2.1; omega) _ 1 6 _ _ (Nat.le_refl _) (Nat.le_refl _) (fun hq => absurd (q_mo_0 (p := 5) (by omega)) hq) (fun _ _ => ?_)
    rw [cl_5]
    refine ⟨fun z => ?_, fun _ => ?_⟩
    · rw [lg_cmp_lt, jlt] at z; omega
    unfold w_L_isPassed_b102
    refine ⟨by omega, by omega, n1' 5 + 1, ?_⟩
    refine pass_q H1 (by have := L.2.2.2.2.2.1; omega) hd2 F1 ma2 (by rw [upd_o _ _ (by decide), e51]; exact A1) hq2 (fun j hj => ?_) hN (fun j hj => ?_) LWn (n1' 5) 0 (by omega) _ _ (by omega) (by omega)
    · rw [hl4, hl5]
      have a := AS j (by omega)
      exact ⟨a.2.1, a.2.2.1⟩
    · have b := hqu j (by omega)
      have i10 := I.2.2.2.2.1 j (by omega)
      have th : (σ 0 0).toInt = (h : Int) := by rw [F.2.1, nI_toInt (by omega)]
      rw [hg j (by omega), hl4, e51, ar_c' hl4 hl5]
      omega
  have loop : ∀ rem i, i + rem = n 5 → ∀ {M1 : PT} {q : Nat} {g : Nat → Int32}, dis S M1 → MA M1 m s w (gA M m) (gA M s) (gA M w) → QR M1 q g → q ≠ m → q ≠ s → q ≠ w → (∀ j, j < i → g j = σ 10 j) → ∀ {c1 n1 : Nat}, c1 + rem + 100 + (cap' - cap) ≤ mc → n1 + 6 * rem + 5000 + 2 * (cap' - cap) ≤ ms → w_L_isPassed_l28 e0 m0 (some x) (some m) (some s) (nI X) mc ms post (rem + 1) c1 n1 (ov S M1) (nI N) (some q) (nI i) := fun rem => by
    induction rem with
    | zero =>
      intro i hi M1 q g hd1 ma hq hqm _ _ hg c1 n1 k1 k2
      have ei : i = n 5 := by omega
      subst ei
      exact base hd1 ma hq hqm hg (by omega) (by omega)
    | succ rem ih =>
      intro i hi M1 q g hd1 ma hq hqm hqs hqw hg c1 n1 k1 k2
      obtain ⟨⟨km, nm, am⟩, -, -⟩ := MA_ov ma S
      obtain ⟨kq, nq, aq⟩ := QR_ov hq S
      have v1m : vp_in 1 (gN (ov S M1) m) := by rw [nm]; exact vin_nI (k := 1) (by omega) (by omega)
      have qi : (nI i).toNatClampNeg = i := qn_nat (by omega)
      refine ⟨by omega, by omega, m, rfl, km, v1m, ?_⟩
      rw [cl_1, am, A1, qn_le (by omega) (by omega)]
      refine ⟨fun z => absurd z (by omega), fun _ => ⟨S, M1, rfl, hd1, x, rfl, ST_K H, 1, 6, by omega, by omega, ?_⟩⟩
      refine s_queue H hC _ 1 6 _ _ (Nat.le_refl _) (Nat.le_refl _) (fun hq => absurd (q_st_0 F (by omega)) hq) (fun _ _ => ?_)
      refine ⟨q, rfl, kq, by rw [nq]; exact vin_nI (by omega) (by omega), ?_⟩
      rintro _ rfl
      rw [qi, ov_sA hq.1, qn_s]
      refine ih (i + 1) (by omega) (dis_sA hd1 q i _) (MA_q ma hqm hqs hqw i _) (QR_q hq i _) hqm hqs hqw (fun j hj => ?_) (by omega) (by omega)
      by_cases e : j = i
      · rw [e, upd_s]
      · rw [upd_o _ _ e]; exact hg j (by omega)
  have b15 : w_L_isPassed_b15 e0 m0 (some x) (some m) (some s) (nI X) mc ms post 0 0 (ov S M) 1 (nI X) (nI B) := by
    unfold w_L_isPassed_b15
    have neB : ¬ nI B = 0 := by rw [ieq, nI_toInt (by omega), I0]; omega
    have eR : nI X - nI X / nI B * nI B = nI (X % B) := irem_nI hX (by omega) (by omega)
    have e1 : (1 : Int32) + nI (X % B) = nI N := by rw [eN]; exact qn_add 1 _
    rw [eR, e1]
    refine ⟨by omega, by omega, neB, by omega, by omega, fun q S114 hk hS => ?_⟩
    subst hS
    rw [ov_nA hk]
    obtain ⟨kS, kM⟩ := ov_0 hk
    obtain ⟨⟨a1, a2, a3⟩, ⟨b1, b2, b3⟩, ⟨c1, c2, c3⟩, d⟩ := L.2.2.1
    have qm : q ≠ m := fun e => by rw [e, a1] at kM; exact absurd kM (by decide)
    have qs : q ≠ s := fun e => by rw [e, b1] at kM; exact absurd kM (by decide)
    have qw : q ≠ w := fun e => by rw [e, c1] at kM; exact absurd kM (by decide)
    have o1 := nM_o S M (q := q) 6 (Ne.symm qm)
    have o2 := nM_o S M (q := q) 6 (Ne.symm qs)
    have o3 := nM_o S M (q := q) 6 (Ne.symm qw)
    have mq : MA (nM S M q 6) m s w (gA M m) (gA M s) (gA M w) := ⟨⟨o1.1.trans a1, o1.2.1.trans a2, o1.2.2⟩, ⟨o2.1.trans b1, o2.2.1.trans b2, o2.2.2⟩, ⟨o3.1.trans c1, o3.2.1.trans c2, o3.2.2⟩, d⟩
    have nn := nM_n S M q 6
    exact ⟨n 5 + 1, loop (n 5) 0 (by omega) (dis_nM hd kS 6) mq ⟨nn.1, nn.2.1, nn.2.2⟩ qm qs qw (fun j hj => by omega) (by omega) (by omega)⟩
  unfold w_L_isPassed
  rw [e5]
  refine ⟨fun z => ?_, fun z => ?_⟩
  · have e := hB2 (fun z2 => z (by rw [z2]; rfl))
    rw [e] at b15
    exact b15
  · have z2 : X % 5 = 0 := (qn_eq (b := 0) (by omega) (by omega)).mp z
    have e := hB1 z2
    rw [e] at b15
    exact b15
end PSM
