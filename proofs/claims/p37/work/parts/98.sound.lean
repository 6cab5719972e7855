/-! the board is sound at every turn -/
section SND
variable {u9 v9 e0 m0 x o m s w : Nat} {S M : PT} {σ : SG} {μ : MU} {C cap t : Nat} {n : Nat → Nat} {h : Nat}
theorem wh_0 (k : Nat) : z_what σ k 0 = σ 33 k := iT_T rfl
theorem wh_1 (k : Nat) : z_what σ k 1 = z_last σ k := (iT_F (by decide)).trans (iT_T rfl)
theorem wh_2 (k : Nat) : z_what σ k 2 = σ 34 k := (iT_F (by decide)).trans ((iT_F (by decide)).trans (iT_T rfl))
theorem wh_3 (k : Nat) : z_what σ k 3 = σ 35 k := (iT_F (by decide)).trans ((iT_F (by decide)).trans ((iT_F (by decide)).trans (iT_T rfl)))
theorem wh_4 (k : Nat) : z_what σ k 4 = σ 36 k := (iT_F (by decide)).trans ((iT_F (by decide)).trans ((iT_F (by decide)).trans ((iT_F (by decide)).trans (iT_T rfl))))
theorem wh_5 (k : Nat) : z_what σ k 5 = nI (z_opens σ (nI k)) := (iT_F (by decide)).trans ((iT_F (by decide)).trans ((iT_F (by decide)).trans ((iT_F (by decide)).trans ((iT_F (by decide)).trans (iT_T rfl)))))
theorem wh_6 (k : Nat) : z_what σ k 6 = iT (σ 37 k = 0) 0 1 := (iT_F (by decide)).trans ((iT_F (by decide)).trans ((iT_F (by decide)).trans ((iT_F (by decide)).trans ((iT_F (by decide)).trans ((iT_F (by decide)).trans (iT_T rfl))))))
theorem wh_7 (k : Nat) : z_what σ k 7 = iT (σ 38 k = 0) 0 1 := (iT_F (by decide)).trans ((iT_F (by decide)).trans ((iT_F (by decide)).trans ((iT_F (by decide)).trans ((iT_F (by decide)).trans ((iT_F (by decide)).trans (iT_F (by decide)))))))
theorem mw_0 (a b : Int32) (nT nF : Nat) : z_mwhat σ a b 0 nT nF = bI (aN (fun t => z_susB σ t a b) nT) := iT_T rfl
theorem mw_1 (a b : Int32) (nT nF : Nat) : z_mwhat σ a b 1 nT nF = iT (σ 12 (z_mat a b) = 0) 0 1 := (iT_F (by decide)).trans (iT_T rfl)
theorem mw_2 (a b : Int32) (nT nF : Nat) : z_mwhat σ a b 2 nT nF = σ 13 (z_mat a b) := (iT_F (by decide)).trans ((iT_F (by decide)).trans (iT_T rfl))
theorem mw_3 (a b : Int32) (nT nF : Nat) : z_mwhat σ a b 3 nT nF = nI (cN (fun k => σ 41 k = z_q a b) nF) := (iT_F (by decide)).trans ((iT_F (by decide)).trans (iT_F (by decide)))
theorem mat_nI {j y : Nat} (hj : j < 1000) (hy : y < 1000) : z_mat (nI j) (nI y) = 40 * j + y := by unfold z_mat; rw [qn_nat (by omega), qn_nat (by omega)]
theorem zq_nI (j y : Nat) : z_q (nI j) (nI y) = nI (40 * j + y) := by unfold z_q; rw [show (40 : Int32) = nI 40 from rfl, qn_mul, qn_add]
def sumM (μ : MU) : Nat → Int64
  | 0 => 0
  | k + 1 => sumM μ k + μ k
theorem sum_0 {B : Nat} (H : LM μ B) (hB : B ≤ 100000000) : sumM μ 6 = 0 := by
  obtain ⟨h0, -, hb⟩ := H
  have b0 := hb 0 (by omega); have b1 := hb 1 (by omega); have b2 := hb 2 (by omega); have b3 := hb 3 (by omega); have b4 := hb 4 (by omega); have b5 := hb 5 (by omega)
  have z : (0 : Int64).toInt = 0 := by decide
  have e1 : (sumM μ 1).toInt = (μ 0).toInt := by show ((0 : Int64) + μ 0).toInt = _; rw [jadd, z]; omega
  have e2 : (sumM μ 2).toInt = (μ 0).toInt + (μ 1).toInt := by show (sumM μ 1 + μ 1).toInt = _; rw [jadd, e1]; omega
  have e3 : (sumM μ 3).toInt = (μ 0).toInt + (μ 1).toInt + (μ 2).toInt := by show (sumM μ 2 + μ 2).toInt = _; rw [jadd, e2]; omega
  have e4 : (sumM μ 4).toInt = (μ 0).toInt + (μ 1).toInt + (μ 2).toInt + (μ 3).toInt := by show (sumM μ 3 + μ 3).toInt = _; rw [jadd, e3]; omega
  have e5 : (sumM μ 5).toInt = (μ 0).toInt + (μ 1).toInt + (μ 2).toInt + (μ 3).toInt + (μ 4).toInt := by show (sumM μ 4 + μ 4).toInt = _; rw [jadd, e4]; omega
  rw [jeq, z]
  show (sumM μ 5 + μ 5).toInt = 0
  rw [jadd, e5]; omega
/-- the streets -/
theorem snd_3 (L : LW u9 v9 e0 x m s w S M σ μ C cap t) (H : ST e0 x o S σ μ C cap) (hC : C < 512) (hd : dis S M) (F : SF σ n h) (ht : t ≤ 140) {X : Nat} (hX : X < 2147483648) {mc ms : Nat} {post : Int32 → PT → Prop} (hp : post 1 (ov S M)) : ∀ rem j, j + rem = n 5 → ∀ c1 n1, c1 + 12 * rem ≤ mc → n1 + 72 * rem ≤ ms → w_L_areSound_l353 (some x) (some m) (some s) (some w) (nI X) mc ms post (rem + 1) c1 n1 (ov S M) 1 (nI j) := by
  have h5 : n 5 ≤ 6 := F.1.2.1
  have h7 : n 7 ≤ 30 := F.1.2.2.2.1
  have h8 : n 8 ≤ 24 := F.1.2.2.2.2.2.1
  have hn1 := N1 F
  have ib := F.2.2.2.1
  obtain ⟨⟨km, nm, am⟩, ⟨ks, ns, as9⟩, ⟨kw, nw, aw⟩⟩ := LW_rows L F
  obtain ⟨-, -, -, ⟨⟨A0, A1, A2, A3⟩, AS, AW, A16⟩, ⟨I1, I2, I4, I5, I7, I8, I9⟩, -⟩ := L
  rw [← am] at A0 A1 A2 A3
  rw [N5 F] at AS
  rw [N8 F] at AW A16
  rw [hn1.1] at I4
  have v1in : vp_in 1 (gN (ov S M) m) := by rw [nm]; exact vin_nI (k := 1) (by omega) (by omega)
  have hm7 : nI X / 7 = nI (X / 7) := idiv_nI (b := 7) hX (by omega) (by omega)
  have hdep : (nI X / 7) - (nI X / 7) / 301 * 301 = nI (X / 7 % 301) := by rw [hm7]; exact irem_nI (b := 301) (by omega) (by omega) (by omega)
  intro rem
  induction rem with
  | zero =>
    intro j hj c1 n1 hc hn
    refine ⟨by omega, by omega, m, rfl, km, v1in, fun _ => ?_, fun z => absurd ?_ z⟩
    · unfold w_L_areSound_b641
      exact ⟨by omega, by omega, bo_1, hp⟩
    · rw [cl_1, A1, F.1.1, qn_le (by omega) (by omega)]; omega
  | succ rem ih =>
    intro j hj c1 n1 hc hn
    have hj5 : j < n 5 := by omega
    obtain ⟨s0, -, -, sl, sl2⟩ := AS j hj5
    have l9 := len_2 F j
    have t2 : (σ 2 j).toInt = (z_len σ j : Int) := by rw [l9.1]; exact nI_toInt (by omega)
    have hl : 0 < z_len σ j := by omega
    have qj : (nI j).toNatClampNeg = j := qn_nat (by omega)
    have as2 : gA (ov S M) s (nI j).toNatClampNeg = nI (z_len σ j) := by rw [qj, as9, s0]; exact l9.1
    have hy : X % z_len σ j < z_len σ j := Nat.mod_lt _ hl
    have ey : nI X - nI X / nI (z_len σ j) * nI (z_len σ j) = nI (X % z_len σ j) := irem_nI hX hl (by omega)
    have ne0 : ¬ nI (z_len σ j) = 0 := by rw [ieq, nI_toInt (by omega), I0]; omega
    refine ⟨by omega, by omega, m, rfl, km, v1in, fun z => absurd z ?_, fun _ => ⟨fun z => absurd z (by decide), fun _ => ⟨s, rfl, ks, by rw [ns]; exact vin_nI (by omega) (by omega), ?_⟩⟩⟩
    · rw [cl_1, A1, F.1.1, qn_le (by omega) (by omega)]; omega
    rw [as2, ey, hdep]
    generalize hyy : X % z_len σ j = y at hy
    have hdd : 0 ≤ nI (X / 7 % 301) ∧ nI (X / 7 % 301) ≤ 300 := ⟨by rw [ile, I0, nI_toInt (by omega)]; omega, by rw [ile, nI_toInt (by omega), tl_300]; omega⟩
    generalize hdn : X / 7 % 301 = dd at hdd
    have hdb : dd < 301 := by omega
    have kk : ∀ c2 n2, c2 + 12 * rem ≤ mc → n2 + 72 * rem ≤ ms → w_L_areSound_b628 (some x) (some m) (some s) (some w) (nI X) mc ms post (w_L_areSound_l353 (some x) (some m) (some s) (some w) (nI X) mc ms post (rem + 1)) c2 n2 (ov S M) (nI j) := fun c2 n2 h1 h2 => by
      unfold w_L_areSound_b628
      refine ⟨by omega, by omega, ?_⟩
      unfold w_L_areSound_b633
      refine ⟨by omega, by omega, ?_⟩
      rw [qn_s]
      exact ih (j + 1) (by omega) c2 n2 h1 h2
    refine ⟨ne0, S, M, rfl, hd, x, rfl, ST_K H, 1, 6, by omega, by omega, ?_⟩
    refine s_metre H hC _ _ _ 1 6 _ _ (Nat.le_refl _) (Nat.le_refl _) (fun hq => absurd (q_metre_0 F hj5 hy ⟨by decide, by decide⟩) hq) (fun _ _ => ?_)
    refine ⟨S, M, rfl, hd, ST_K H, 1, 6, by omega, by omega, ?_⟩
    refine s_search H hC _ _ _ 1 6 _ _ (Nat.le_refl _) (Nat.le_refl _) (fun hq => absurd (q_search_0 F hj5 (Nat.le_refl _) hy) hq) (fun _ _ => ?_)
    refine ⟨S, M, rfl, hd, ST_K H, 1, 6, by omega, by omega, ?_⟩
    refine s_liable H hC _ _ _ 1 6 _ _ (Nat.le_refl _) (Nat.le_refl _) (fun hq => absurd (q_asks_0 F hj5 hy hdd) hq) (fun _ _ => ?_)
    refine ⟨S, M, rfl, hd, ST_K H, 1, 6, by omega, by omega, ?_⟩
    refine s_queue H hC _ 1 6 _ _ (Nat.le_refl _) (Nat.le_refl _) (fun hq => absurd (q_st_0 F hj5) hq) (fun _ _ => ?_)
    rw [mw_2, mat_nI (by omega) (by omega), N7 F, hn1.1, zq_nI, qj]
    have b484 : ∀ c2 n2, c2 + 12 * rem + 4 ≤ mc → n2 + 72 * rem + 24 ≤ ms → w_L_areSound_b484 (some x) (some m) (some s) (some w) (nI X) mc ms post (w_L_areSound_l353 (some x) (some m) (some s) (some w) (nI X) mc ms post (rem + 1)) c2 n2 (ov S M) (nI j) (nI y) (z_srch (z_sr σ (nI j) (nI y) (nI y)) (n 7)) (nI dd) (z_liab σ j (nI (40 * j + y)) (nI dd) (n 1)) := fun c2 n2 h1 h2 => by
      unfold w_L_areSound_b484
      refine ⟨by omega, by omega, S, M, rfl, hd, x, rfl, ST_K H, 1, 6, by omega, by omega, ?_⟩
      refine s_metre H hC _ _ _ 1 6 _ _ (Nat.le_refl _) (Nat.le_refl _) (fun hq => absurd (q_metre_0 F hj5 hy ⟨by decide, by decide⟩) hq) (fun _ _ => ?_)
      rw [mw_0, N7 F]
      have b503 : ∀ {s0 s1 : Int32}, s0 = s1 → w_L_areSound_b503 (some x) (some m) (some s) (some w) (nI X) mc ms post (w_L_areSound_l353 (some x) (some m) (some s) (some w) (nI X) mc ms post (rem + 1)) (c2 + 1) (n2 + 6) (ov S M) (nI j) (nI y) (z_srch (z_sr σ (nI j) (nI y) (nI y)) (n 7)) (nI dd) (z_liab σ j (nI (40 * j + y)) (nI dd) (n 1)) s0 s1 := fun {s0 s1} e => by
        unfold w_L_areSound_b503
        refine ⟨by omega, by omega, fun z => absurd e z, fun _ => ⟨s, rfl, ks, by rw [ns]; exact vin_nI (by omega) (by omega), S, M, rfl, hd, x, rfl, ST_K H, 1, 6, by omega, by omega, ?_⟩⟩
        rw [as2, show nI (z_len σ j) - 1 = nI (z_len σ j - 1) from isub_nI (b := 1) (by omega) (by omega)]
        refine s_search H hC _ _ _ 1 6 _ _ (Nat.le_refl _) (Nat.le_refl _) (fun hq => absurd (q_search_0 F (a := 0) hj5 (by omega) (by omega)) hq) (fun _ _ => ?_)
        rw [N7 F]
        have hsub : z_srch (z_sr σ (nI j) 0 (nI (z_len σ j - 1))) (n 7) &&& z_srch (z_sr σ (nI j) (nI y) (nI y)) (n 7) = z_srch (z_sr σ (nI j) (nI y) (nI y)) (n 7) := srch_sub (by omega) (fun q hq => by
          have g1 := hq.2.2.1
          have g2 := hq.2.2.2
          rw [ile, nI_toInt (by omega)] at g1 g2
          refine ⟨hq.1, hq.2.1, ?_, ?_⟩
          · rw [ile, nI_toInt (by omega)]; omega
          · rw [ile, I0]; omega)
        refine ⟨fun z => absurd hsub z, fun _ => ⟨S, M, rfl, hd, ST_K H, 1, 6, by omega, by omega, ?_⟩⟩
        refine s_liableAnew H hC _ _ _ 1 6 _ _ (Nat.le_refl _) (Nat.le_refl _) (fun hq => absurd (q_asks_0 F hj5 hy hdd) hq) (fun _ _ => ?_)
        rw [hn1.1, zq_nI, qj]
        refine ⟨fun z => absurd rfl z, fun _ => ⟨fun _ => kk _ _ (by omega) (by omega), fun hne => ⟨S, M, rfl, hd, ST_K H, 1, 6, by omega, by omega, ?_⟩⟩⟩
        refine s_metre H hC _ _ _ 1 6 _ _ (Nat.le_refl _) (Nat.le_refl _) (fun hq => absurd (q_metre_0 F hj5 hy ⟨by decide, by decide⟩) hq) (fun _ _ => ?_)
        rw [mw_3, hn1.1, zq_nI]
        rcases liab_spec (σ := σ) j (nI (40 * j + y)) (nI dd) (n 1) hn1.2 with z | ⟨f, hf, h41, h28, hz⟩
        · exact absurd z hne
        rw [hz]
        obtain ⟨ww, e42, -, hw2⟩ := IB_nI ib 42 f rfl
        have hw8 : ww < n 8 := by
          have := F.2.2.2.2.1.2.2.2.1 f hf
          rw [e42, qn_nat hw2] at this
          exact this
        have i4 := I4 f hf
        rw [h41, e42, qn_nat hw2, qn_nat (show 40 * j + y < 2147483648 by omega), show (40 * j + y) / 40 = j by omega, show (40 * j + y) % 40 = y by omega] at i4
        rw [e42, qn_nat hw2] at h28
        rw [e42]
        obtain ⟨w0, w1, w2, -, w5⟩ := AW ww hw8
        have c0' : (4 * nI ww).toNatClampNeg = 4 * ww := by rw [ix4]; exact qn_nat (by omega)
        have c1' : (4 * nI ww + 1).toNatClampNeg = 4 * ww + 1 := by rw [ix41]; exact qn_nat (by omega)
        have c2' : (4 * nI ww + 2).toNatClampNeg = 4 * ww + 2 := by rw [ix42]; exact qn_nat (by omega)
        have vi0 : vp_in (4 * nI ww) (gN (ov S M) w) := by rw [nw, ix4]; exact vin_nI (by omega) (by omega)
        have vi1 : vp_in (4 * nI ww + 1) (gN (ov S M) w) := by rw [nw, ix41]; exact vin_nI (by omega) (by omega)
        have vi2 : vp_in (4 * nI ww + 2) (gN (ov S M) w) := by rw [nw, ix42]; exact vin_nI (by omega) (by omega)
        have pos : ¬ nI (cN (fun k => σ 41 k = nI (40 * j + y)) (n 1)) ≤ 0 := by
          have p1 := cN_pos (P := fun k => σ 41 k = nI (40 * j + y)) hf h41
          have p2 := cN_le (fun k => σ 41 k = nI (40 * j + y)) (n 1)
          rw [ile, nI_toInt (by omega), I0]; omega
        refine ⟨fun z => absurd z pos, fun _ => ⟨w, rfl, kw, vi0, ?_⟩⟩
        rw [c0', c1', c2', aw, w0, w1, w2]
        refine ⟨fun z => absurd i4.1 z, fun _ => ⟨vi1, fun z => ?_, fun _ => ⟨vi2, fun z => ?_, fun _ => ⟨vi1, vi2, fun z => ?_, fun _ => kk _ _ (by omega) (by omega)⟩⟩⟩⟩
        · have := i4.2.1; rw [ile] at this; rw [ilt] at z; omega
        · have := i4.2.2; rw [ile] at this; rw [ilt] at z; omega
        · exfalso
          have b26 := nf ib 26 ww rfl
          have b27 := nf ib 27 ww rfl
          rw [show bh 26 = 39 from rfl] at b26
          rw [show bh 27 = 39 from rfl] at b27
          rw [ilt, tadd, tadd, tmul, tmul, tl_10, tl_7, tl_11, nI_toInt (by omega)] at z
          rw [ile, nI_toInt (by omega)] at h28
          have t26 : (σ 26 ww).toInt = ((σ 26 ww).toNatClampNeg : Int) := by rw [b26.1, qn_nat (by omega)]; exact nI_toInt (by omega)
          have t27 : (σ 27 ww).toInt = ((σ 27 ww).toNatClampNeg : Int) := by rw [b27.1, qn_nat (by omega)]; exact nI_toInt (by omega)
          omega
      have s0 := srch_0 (z_sr σ (nI j) (nI y) (nI y)) (n 7) (by omega)
      refine ⟨fun hv => b503 (bI_T ?_), fun hv => b503 (bI_F (s0.mp hv))⟩
      exact Classical.byContradiction (fun z => hv (s0.mpr z))
    have i7 := I7 j (by omega)
    refine ⟨fun z => ?_, fun _ => ⟨fun _ => b484 _ _ (by omega) (by omega), fun hne => ?_⟩⟩
    · exfalso; rw [ilt, I0] at z; omega
    have hq240 : 40 * j + y < 240 := by omega
    have b13 := ib 13 (40 * j + y)
    have hb13 : bl 13 = -1 := rfl
    have hh13 : bh 13 = 23 := rfl
    rw [hb13, hh13] at b13
    have hneI : (σ 13 (40 * j + y)).toInt ≠ -1 := fun z => hne (by rw [ieq, z]; rfl)
    obtain ⟨ww, e13, hw24⟩ : ∃ ww : Nat, σ 13 (40 * j + y) = nI ww ∧ ww < 24 := ⟨(σ 13 (40 * j + y)).toInt.toNat, by rw [ieq, nI_toInt (by omega)]; omega, by omega⟩
    have hw8 : ww < n 8 := F.2.2.2.2.2.2.2.2.2.2.1 _ ww hq240 hw24 e13
    have i1 := I1 _ ww hq240 hw24 e13
    rw [show (40 * j + y) / 40 = j by omega, show (40 * j + y) % 40 = y by omega] at i1
    rw [e13]
    obtain ⟨w0, w1, w2, -, w5⟩ := AW ww hw8
    have c0' : (4 * nI ww).toNatClampNeg = 4 * ww := by rw [ix4]; exact qn_nat (by omega)
    have c1' : (4 * nI ww + 1).toNatClampNeg = 4 * ww + 1 := by rw [ix41]; exact qn_nat (by omega)
    have c2' : (4 * nI ww + 2).toNatClampNeg = 4 * ww + 2 := by rw [ix42]; exact qn_nat (by omega)
    have vi0 : vp_in (4 * nI ww) (gN (ov S M) w) := by rw [nw, ix4]; exact vin_nI (by omega) (by omega)
    have vi1 : vp_in (4 * nI ww + 1) (gN (ov S M) w) := by rw [nw, ix41]; exact vin_nI (by omega) (by omega)
    have vi2 : vp_in (4 * nI ww + 2) (gN (ov S M) w) := by rw [nw, ix42]; exact vin_nI (by omega) (by omega)
    refine ⟨w, rfl, kw, vi0, ?_⟩
    rw [c0', c1', c2', aw, w0, w1, w2]
    refine ⟨fun z => absurd i1.2.1 z, fun _ => ⟨vi1, fun z => ?_, fun _ => ⟨vi2, fun z => ?_, fun _ => ⟨S, M, rfl, hd, ST_K H, 1, 6, by omega, by omega, ?_⟩⟩⟩⟩
    · exfalso; have := i1.2.2.1; rw [ile] at this; rw [ilt] at z; omega
    · exfalso; have := i1.2.2.2; rw [ile] at this; rw [ilt] at z; omega
    refine s_of H hC _ _ 1 6 _ _ (Nat.le_refl _) (Nat.le_refl _) (fun hq => absurd (q_of_0 F hw8 ⟨by decide, by decide⟩) hq) (fun _ _ => ?_)
    rw [wh_0, qn_nat (show ww < 2147483648 by omega)]
    exact ⟨fun z => absurd i1.1 z, fun _ => b484 _ _ (by omega) (by omega)⟩
end SND
