/-! all that is laid -/
section LD4
variable {u9 v9 e0 m0 x o m s w : Nat} {S M : PT} {σ : SG} {μ : MU} {C cap t : Nat} {n : Nat → Nat} {h : Nat}
set_option maxRecDepth 100000 in
set_option maxHeartbeats 2000000 in
theorem laid_ok (L : LW u9 v9 e0 x m s w S M σ μ C cap t) (ht : t ≤ 140) {G Y : Nat} (hG : G < 6) (hY : Y < 2147483648) (hS : G = 0 ∨ 0 < (σ 1 0).toNatClampNeg) {mc ms : Nat} {post : Int32 → PT → Prop} (hmc : 300 ≤ mc) (hms : 10000 ≤ ms) {a9 : Nat} (hu : a9 ≤ u9 ∨ (G = 0 ∧ a9 = 1)) (kk : ∀ S' M' σ' μ' C', LW a9 v9 e0 x m s w S' M' σ' μ' C' cap (t + 1) → post 1 (ov S' M')) : w_L_isLaid e0 m0 (some x) (some m) (some s) (nI G) (nI Y) (ov S M) mc ms post := by
  obtain ⟨o, H⟩ := L.1
  obtain ⟨n, h, F, -⟩ := ST_SF H
  have hC : C < 512 := by have := L.2.2.2.2.2.1; omega
  have hd := L.2.1
  have h5 : n 5 ≤ 6 := F.1.2.1
  have h7 : n 7 ≤ 30 := F.1.2.2.2.1
  obtain ⟨⟨km, nm, am⟩, ⟨ks, ns, as9⟩, -⟩ := LW_rows L F
  obtain ⟨A0, A1, A2, A3⟩ := LW_n L F
  have AS := L.2.2.2.1.2.1
  rw [N5 F] at AS hS
  have v1 : vp_in 1 (gN (ov S M) m) := by rw [nm]; exact vin_nI (k := 1) (by omega) (by omega)
  have v2 : vp_in 2 (gN (ov S M) m) := by rw [nm]; exact vin_nI (k := 2) (by omega) (by omega)
  unfold w_L_isLaid
  by_cases g0 : G = 0
  · rw [g0]
    exact ⟨fun _ => laid0_ok L ht hY (by omega) (by omega) (hu.imp id (fun z => z.2)) kk, fun z => absurd rfl z⟩
  have p5 : 0 < n 5 := by omega
  replace L := LW_mono L (hu.elim id (fun z => absurd z.1 g0)) (Nat.le_refl v9)
  have hn0 : ¬ nI G = 0 := by rw [ieq, nI_toInt (by omega), I0]; omega
  have ne5 : ¬ nI (n 5) = 0 := by rw [ieq, nI_toInt (by omega), I0]; omega
  refine ⟨fun z => absurd z hn0, fun _ => ⟨m, rfl, km, v1, ?_⟩⟩
  rw [cl_1, cl_2, am, A1, A2]
  refine ⟨fun _ => ⟨v1, ne5, s, rfl, ks, ?_⟩, fun z => absurd z ne5⟩
  rw [irem_nI hY p5 (by omega)]
  have hj : Y % n 5 < n 5 := Nat.mod_lt _ p5
  generalize Y % n 5 = j at hj
  have qj : (nI j).toNatClampNeg = j := qn_nat (by omega)
  have l9 := len_2 F j
  obtain ⟨as1, -, -, sl, sl2⟩ := AS j hj
  have t2 : (σ 2 j).toInt = (z_len σ j : Int) := by rw [l9.1]; exact nI_toInt (by omega)
  have as2 : gA (ov S M) s (nI j).toNatClampNeg = nI (z_len σ j) := by rw [qj, as9, as1]; exact l9.1
  have hlen : ∀ i, i < n 5 → 2 ≤ z_len σ i := fun i hi => by
    have a := (AS i hi).2.2.2.1
    have b : (σ 2 i).toInt = (z_len σ i : Int) := by rw [(len_2 F i).1]; exact nI_toInt (by have := (len_2 F i).2; omega)
    omega
  have hl2 := hlen j hj
  have e6 : nI Y / 6 = nI (Y / 6) := idiv_nI (b := 6) hY (by omega) (by omega)
  have e84 : nI Y / 84 = nI (Y / 84) := idiv_nI (b := 84) hY (by omega) (by omega)
  have e7 : nI Y / 7 = nI (Y / 7) := idiv_nI (b := 7) hY (by omega) (by omega)
  have e3 : nI Y / 3 = nI (Y / 3) := idiv_nI (b := 3) hY (by omega) (by omega)
  have nel : ¬ nI (z_len σ j) = 0 := by rw [ieq, nI_toInt (by omega), I0]; omega
  have vj : vp_in (nI j) (gN (ov S M) s) := by rw [ns]; exact vin_nI (by omega) (by omega)
  have hal : Y / 6 % z_len σ j < z_len σ j := Nat.mod_lt _ (by omega)
  have eF : nI (Y / 6) - nI (Y / 6) / nI (z_len σ j) * nI (z_len σ j) = nI (Y / 6 % z_len σ j) := irem_nI (by omega) (by omega) (by omega)
  rw [as2, e6, eF]
  generalize Y / 6 % z_len σ j = a at hal
  have eD : nI (z_len σ j) - nI a = nI (z_len σ j - a) := isub_nI (by omega) (by omega)
  have neD : ¬ nI (z_len σ j - a) = 0 := by rw [ieq, nI_toInt (by omega), I0]; omega
  have eT : nI (Y / 84) - nI (Y / 84) / nI (z_len σ j - a) * nI (z_len σ j - a) = nI (Y / 84 % (z_len σ j - a)) := irem_nI (by omega) (by omega) (by omega)
  have hdl : Y / 84 % (z_len σ j - a) < z_len σ j - a := Nat.mod_lt _ (by omega)
  have e250 : nI (Y / 7) - nI (Y / 7) / 250 * 250 = nI (Y / 7 % 250) := irem_nI (b := 250) (by omega) (by omega) (by omega)
  have eo : nI Y - nI Y / 5 * 5 = nI (Y % 5) := irem_nI (b := 5) hY (by omega) (by omega)
  have ey : nI Y - nI Y / 2 * 2 = nI (Y % 2) := irem_nI (b := 2) hY (by omega) (by omega)
  have e4 : nI (Y / 3) - nI (Y / 3) / 4 * 4 = nI (Y / 3 % 4) := irem_nI (b := 4) (by omega) (by omega) (by omega)
  rw [eD, e84, eT, e7, e250, eo, ey, e3, e4, qn_add]
  generalize Y / 84 % (z_len σ j - a) = dd at hdl
  refine ⟨vj, nel, vj, neD, ?_⟩
  rcases (show G = 1 ∨ G = 2 ∨ G = 3 ∨ G = 4 ∨ G = 5 by omega) with e | e | e | e | e <;> subst e
  · refine ⟨fun z => absurd rfl z, fun _ => ⟨v2, fun h30 => ⟨v2, v2, ?_⟩, fun h30 => ⟨60, 2000, by omega, by omega, ?_⟩⟩⟩
    · rintro _ rfl
      rw [ov_sA L.2.2.1.1.1]
      exact ⟨60, 2000, by omega, by omega, laid1_ok L H F ht h30 hj (by omega) (by omega) (by omega) (by omega) hmc hms kk⟩
    · have hq : q_thing σ 0 (nI j) 0 0 50 = 3 := by
        unfold q_thing
        rw [iT_F (fun z => z ⟨p_04, in_mt F (y := 0) hj (by omega), in_mt F (y := 0) hj (by omega)⟩), iT_F (fun z => z (by decide)), iT_T (F.1.2.2.1.trans h30)]
      refine ra_thing H hC hd _ _ _ _ _ hq (by decide) cA_3 _ _ _ (Nat.le_refl _) (Nat.le_refl _) ⟨fun z => absurd rfl z, fun _ => ?_⟩
      unfold w_L_isLaid_b227
      exact ⟨by omega, by omega, bo_1, kk _ _ _ _ _ (LW_up L)⟩
  · refine ⟨fun _ => ⟨fun z => absurd rfl z, fun _ => ⟨v2, fun _ => laid5_ok L H F ht hj (by decide) (by decide) hY (by omega) (by omega) kk, fun hp => ?_⟩⟩, fun z => absurd z (by decide)⟩
    have p7 : 0 < n 7 := by
      rcases Nat.eq_zero_or_pos (n 7) with z | z
      · exact absurd (by rw [z]; decide) hp
      · exact z
    have ne7 : ¬ nI (n 7) = 0 := by rw [ieq, nI_toInt (by omega), I0]; omega
    rw [irem_nI (show Y / 7 < 2147483648 by omega) p7 (by omega)]
    exact ⟨v2, ne7, 60, 2000, by omega, by omega, laid2_ok L H F ht (Nat.mod_lt _ p7) (by omega) (by omega) hlen hmc hms kk⟩
  · exact ⟨fun _ => ⟨fun _ => laid3_ok L H F ht hj hal (by omega) (by omega) kk, fun z => absurd z (by decide)⟩, fun z => absurd z (by decide)⟩
  · exact ⟨fun _ => ⟨fun _ => laid4_ok L H F ht hj (by omega) (by omega) kk, fun z => absurd z (by decide)⟩, fun z => absurd z (by decide)⟩
  · exact ⟨fun _ => ⟨fun _ => laid5_ok L H F ht hj (by decide) (by decide) hY (by omega) (by omega) kk, fun z => absurd z (by decide)⟩, fun z => absurd z (by decide)⟩
end LD4
