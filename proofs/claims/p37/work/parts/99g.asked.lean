/-! works are asked for -/
section ASK9
variable {u9 v9 e0 m0 x o m s w : Nat} {S M : PT} {σ : SG} {μ : MU} {C cap t : Nat} {n : Nat → Nat} {h : Nat} {fm fs fw : Nat → Int32}
theorem ask_f (p a b c d k f g : Int32) {F9 : Nat} (h1 : F9 ≠ 23) (h2 : F9 < 24 ∨ 33 < F9) (h3 : F9 ≠ 49) : (u_ask σ p a b c d k f g) F9 = σ F9 := by
  funext j
  unfold u_ask
  rw [up2_f _ _ _ _ h1, up2_f _ _ _ _ (by omega), up2_f _ _ _ _ (by omega), up2_f _ _ _ _ (by omega), up2_f _ _ _ _ (by omega), up2_f _ _ _ _ (by omega), up2_f _ _ _ _ (by omega), up2_f _ _ _ _ (by omega), up2_f _ _ _ _ (by omega), up2_f _ _ _ _ (by omega), up2_f _ _ _ _ (by omega), up2_f _ _ _ _ h3]
theorem ask_o (p a b c d k f g : Int32) {F9 j : Nat} (h1 : F9 ≠ 23) (h3 : F9 ≠ 49) (hj : j ≠ (σ 23 0).toNatClampNeg) : (u_ask σ p a b c d k f g) F9 j = σ F9 j := by
  unfold u_ask
  rw [up2_f _ _ _ _ h1, up2_ne _ _ (fun z => hj z.2), up2_ne _ _ (fun z => hj z.2), up2_ne _ _ (fun z => hj z.2), up2_ne _ _ (fun z => hj z.2), up2_ne _ _ (fun z => hj z.2), up2_ne _ _ (fun z => hj z.2), up2_ne _ _ (fun z => hj z.2), up2_ne _ _ (fun z => hj z.2), up2_ne _ _ (fun z => hj z.2), up2_ne _ _ (fun z => hj z.2), up2_f _ _ _ _ h3]
theorem ask_n (p a b c d k f g : Int32) : (u_ask σ p a b c d k f g) 24 (σ 23 0).toNatClampNeg = p ∧ (u_ask σ p a b c d k f g) 25 (σ 23 0).toNatClampNeg = a ∧ (u_ask σ p a b c d k f g) 26 (σ 23 0).toNatClampNeg = b ∧ (u_ask σ p a b c d k f g) 27 (σ 23 0).toNatClampNeg = c ∧ (u_ask σ p a b c d k f g) 28 (σ 23 0).toNatClampNeg = d ∧ (u_ask σ p a b c d k f g) 29 (σ 23 0).toNatClampNeg = k ∧ (u_ask σ p a b c d k f g) 30 (σ 23 0).toNatClampNeg = f ∧ (u_ask σ p a b c d k f g) 31 (σ 23 0).toNatClampNeg = g ∧ (u_ask σ p a b c d k f g) 33 (σ 23 0).toNatClampNeg = iT (k = 3) 1 0 ∧ (u_ask σ p a b c d k f g) 23 0 = σ 23 0 + 1 := by
  unfold u_ask
  refine ⟨?_, ?_, ?_, ?_, ?_, ?_, ?_, ?_, ?_, ?_⟩
  · rw [up2_f _ _ _ _ (by decide), up2_f _ _ _ _ (by decide), up2_f _ _ _ _ (by decide), up2_f _ _ _ _ (by decide), up2_f _ _ _ _ (by decide), up2_f _ _ _ _ (by decide), up2_f _ _ _ _ (by decide), up2_f _ _ _ _ (by decide), up2_f _ _ _ _ (by decide), up2_f _ _ _ _ (by decide), up2_s]
  · rw [up2_f _ _ _ _ (by decide), up2_f _ _ _ _ (by decide), up2_f _ _ _ _ (by decide), up2_f _ _ _ _ (by decide), up2_f _ _ _ _ (by decide), up2_f _ _ _ _ (by decide), up2_f _ _ _ _ (by decide), up2_f _ _ _ _ (by decide), up2_f _ _ _ _ (by decide), up2_s]
  · rw [up2_f _ _ _ _ (by decide), up2_f _ _ _ _ (by decide), up2_f _ _ _ _ (by decide), up2_f _ _ _ _ (by decide), up2_f _ _ _ _ (by decide), up2_f _ _ _ _ (by decide), up2_f _ _ _ _ (by decide), up2_f _ _ _ _ (by decide), up2_s]
  · rw [up2_f _ _ _ _ (by decide), up2_f _ _ _ _ (by decide), up2_f _ _ _ _ (by decide), up2_f _ _ _ _ (by decide), up2_f _ _ _ _ (by decide), up2_f _ _ _ _ (by decide), up2_f _ _ _ _ (by decide), up2_s]
  · rw [up2_f _ _ _ _ (by decide), up2_f _ _ _ _ (by decide), up2_f _ _ _ _ (by decide), up2_f _ _ _ _ (by decide), up2_f _ _ _ _ (by decide), up2_f _ _ _ _ (by decide), up2_s]
  · rw [up2_f _ _ _ _ (by decide), up2_f _ _ _ _ (by decide), up2_f _ _ _ _ (by decide), up2_f _ _ _ _ (by decide), up2_f _ _ _ _ (by decide), up2_s]
  · rw [up2_f _ _ _ _ (by decide), up2_f _ _ _ _ (by decide), up2_f _ _ _ _ (by decide), up2_f _ _ _ _ (by decide), up2_s]
  · rw [up2_f _ _ _ _ (by decide), up2_f _ _ _ _ (by decide), up2_f _ _ _ _ (by decide), up2_s]
  · rw [up2_f _ _ _ _ (by decide), up2_s]
  · rw [up2_s]
theorem note_v {k A : Int32} (hA : iT (k = 0) (20 : Int32) (iT (k = 1) 8 (iT (k = 2) 3 0)) = A) (g : Int32) : z_note k g = A ∨ z_note k g = 2 * A := by
  unfold z_note
  rw [hA]
  by_cases e : 2 ≤ g
  · rw [iT_T e]; exact Or.inl rfl
  · rw [iT_F e]; exact Or.inr rfl
theorem note_1 (g : Int32) : (z_note (nI 1) g).toInt ≤ ((16 : Nat) : Int) := by
  rcases note_v (k := nI 1) (A := 8) ((iT_F (by decide)).trans (iT_T (by decide))) g with e | e <;> rw [e] <;> decide
theorem note_2 (g : Int32) : (z_note (nI 2) g).toInt ≤ ((6 : Nat) : Int) := by
  rcases note_v (k := nI 2) (A := 3) ((iT_F (by decide)).trans ((iT_F (by decide)).trans (iT_T (by decide)))) g with e | e <;> rw [e] <;> decide
theorem LI_ask (F : SF σ n h) (I : LI σ μ t) (p a b c d k f : Int32) {g : Int32} (g0 : 0 ≤ g.toInt) (g6 : g.toInt ≤ 60) : LI (u_ask σ p a b c d k f g) μ t := by
  have e8 := N8 F
  have h8 : n 8 ≤ 24 := F.1.2.2.2.2.2.1
  have fd := F.2.2.2.2.2.2.2.2.2.1 (n 8) (Nat.le_refl _)
  have hn1 := N1 F
  obtain ⟨I1, I2, I4, I5, I7, I8, I9⟩ := I
  have gf : ∀ F9, (F9 < 23 ∨ 33 < F9) → F9 ≠ 49 → (u_ask σ p a b c d k f g) F9 = σ F9 := fun F9 h1 h2 => ask_f _ _ _ _ _ _ _ _ (by omega) (by omega) h2
  have go : ∀ F9 j, F9 ≠ 23 → F9 ≠ 49 → j ≠ n 8 → (u_ask σ p a b c d k f g) F9 j = σ F9 j := fun F9 j h1 h2 h3 => ask_o _ _ _ _ _ _ _ _ h1 h2 (by rw [e8]; exact h3)
  have gn := ask_n (σ := σ) p a b c d k f g
  rw [e8] at gn
  unfold LI
  rw [gf 13 (by omega) (by decide), gf 37 (by omega) (by decide), gf 40 (by omega) (by decide), gf 41 (by omega) (by decide), gf 42 (by omega) (by decide), gf 36 (by omega) (by decide), gf 35 (by omega) (by decide), gf 10 (by omega) (by decide), gf 0 (by omega) (by decide)]
  refine ⟨fun q k9 hq hk e => ?_, fun k9 hk e => ?_, fun f9 hf => ?_, fun k9 hk => ?_, I7, I8, I9⟩
  · have hk8 : k9 < n 8 := F.2.2.2.2.2.2.2.2.2.2.1 q k9 hq hk e
    rw [go 33 k9 (by decide) (by decide) (by omega), go 25 k9 (by decide) (by decide) (by omega), go 26 k9 (by decide) (by decide) (by omega), go 27 k9 (by decide) (by decide) (by omega)]
    exact I1 q k9 hq hk e
  · by_cases z : k9 = n 8
    · rw [z]; exact fd.2.2.2.1
    · rw [go 33 k9 (by decide) (by decide) z] at e
      exact I2 k9 hk e
  · have hw : (σ 42 f9).toNatClampNeg < n 8 := F.2.2.2.2.1.2.2.2.1 f9 (by rw [← hn1.1]; exact hf)
    rw [go 25 _ (by decide) (by decide) (by omega), go 26 _ (by decide) (by decide) (by omega), go 27 _ (by decide) (by decide) (by omega)]
    exact I4 f9 hf
  · by_cases z : k9 = n 8
    · rw [z, gn.2.2.2.2.2.2.2.1, fd.2.1, fd.2.2.1, I0]
      omega
    · rw [go 31 k9 (by decide) (by decide) z]
      exact I5 k9 hk
theorem LA_ask (F : SF σ n h) (A : LA σ fm fs fw) (h15 : n 8 < 16) (p a b c k f g : Int32) {d : Int32} (hdp : d.toInt = 10 + 7 * b.toInt + 11 * c.toInt) : LA (u_ask σ p a b c d k f g) (upd fm 3 (nI (n 8 + 1))) fs (upd (upd (upd (upd fw (4 * n 8) a) (4 * n 8 + 1) b) (4 * n 8 + 2) c) (4 * n 8 + 3) p) := by
  have e8 := N8 F
  obtain ⟨⟨A0, A1, A2, A3⟩, AS, AW, A16⟩ := A
  rw [e8] at AW A16
  have gf : ∀ F9, (F9 < 23 ∨ 33 < F9) → F9 ≠ 49 → (u_ask σ p a b c d k f g) F9 = σ F9 := fun F9 h1 h2 => ask_f _ _ _ _ _ _ _ _ (by omega) (by omega) h2
  have go : ∀ F9 j, F9 ≠ 23 → F9 ≠ 49 → j ≠ n 8 → (u_ask σ p a b c d k f g) F9 j = σ F9 j := fun F9 j h1 h2 h3 => ask_o _ _ _ _ _ _ _ _ h1 h2 (by rw [e8]; exact h3)
  have gn := ask_n (σ := σ) p a b c d k f g
  rw [e8] at gn
  have g23 : (u_ask σ p a b c d k f g) 23 0 = nI (n 8 + 1) := by rw [gn.2.2.2.2.2.2.2.2.2, F.1.2.2.2.2.1, qn_s]
  unfold LA
  rw [g23, qn_nat (show n 8 + 1 < 2147483648 by omega), gf 0 (by omega) (by decide), gf 1 (by omega) (by decide), gf 14 (by omega) (by decide), gf 2 (by omega) (by decide), gf 4 (by omega) (by decide), gf 5 (by omega) (by decide)]
  refine ⟨⟨by rw [upd_o _ _ (by decide)]; exact A0, by rw [upd_o _ _ (by decide)]; exact A1, by rw [upd_o _ _ (by decide)]; exact A2, upd_s _ _ _⟩, AS, fun k9 hk => ?_, by omega⟩
  by_cases z : k9 = n 8
  · subst z
    rw [gn.1, gn.2.1, gn.2.2.1, gn.2.2.2.1, gn.2.2.2.2.1]
    refine ⟨?_, ?_, ?_, upd_s _ _ _, hdp⟩
    · rw [upd_o _ _ (by omega), upd_o _ _ (by omega), upd_o _ _ (by omega), upd_s]
    · rw [upd_o _ _ (by omega), upd_o _ _ (by omega), upd_s]
    · rw [upd_o _ _ (by omega), upd_s]
  · rw [go 25 k9 (by decide) (by decide) z, go 26 k9 (by decide) (by decide) z, go 27 k9 (by decide) (by decide) z, go 24 k9 (by decide) (by decide) z, go 28 k9 (by decide) (by decide) z]
    have u : ∀ i, i < 4 → upd (upd (upd (upd fw (4 * n 8) a) (4 * n 8 + 1) b) (4 * n 8 + 2) c) (4 * n 8 + 3) p (4 * k9 + i) = fw (4 * k9 + i) := fun i hi => by
      rw [upd_o _ _ (by omega), upd_o _ _ (by omega), upd_o _ _ (by omega), upd_o _ _ (by omega)]
    have u0 : upd (upd (upd (upd fw (4 * n 8) a) (4 * n 8 + 1) b) (4 * n 8 + 2) c) (4 * n 8 + 3) p (4 * k9) = fw (4 * k9) := by
      rw [upd_o _ _ (by omega), upd_o _ _ (by omega), upd_o _ _ (by omega), upd_o _ _ (by omega)]
    rw [u0, u 1 (by omega), u 2 (by omega), u 3 (by omega)]
    exact AW k9 (by omega)
set_option maxRecDepth 100000 in
set_option maxHeartbeats 2000000 in
theorem asked_b115 (L : LW u9 v9 e0 x m s w S M σ μ C cap t) (H : ST e0 x o S σ μ C cap) (F : SF σ n h) (ht : t ≤ 140) (h16 : n 8 < 16) {j a b kd sl : Nat} (hj : j < n 5) (hab : a ≤ b) (hb : b < z_len σ j) (hb13 : b ≤ 12) (hkd : kd ≤ 3) (hsl : (z_note (nI kd) (σ 3 j)).toInt ≤ sl) (hs40 : sl ≤ 40) {Y : Nat} (hY : Y < 2147483648) {mc ms c0 n0 : Nat} {post : Int32 → PT → Prop} (hmc : c0 + 100 ≤ mc) (hms : n0 + 2100 ≤ ms) {b9 : Nat} (hv : b9 ≤ v9 + 1) (kk : ∀ S' M' σ' μ' C', LW u9 b9 e0 x m s w S' M' σ' μ' C' cap (t + 1) → post 1 (ov S' M')) : w_L_isAsked_b115 (some x) (some m) (some s) (some w) (nI Y) mc ms post c0 n0 (ov S M) (nI j) (nI a) (nI b) (nI kd) (nI (h / 24)) (nI sl) := by
  have hC : C < 512 := by have := L.2.2.2.2.2.1; omega
  have hd := L.2.1
  have h5 : n 5 ≤ 6 := F.1.2.1
  have h9 := F.2.2.1
  have l40 := (len_2 F j).2
  have qj : (nI j).toNatClampNeg = j := qn_nat (by omega)
  have e5 : nI Y / 5 = nI (Y / 5) := idiv_nI (b := 5) hY (by omega) (by omega)
  have e19 : nI Y / 19 = nI (Y / 19) := idiv_nI (b := 19) hY (by omega) (by omega)
  have e38 : nI Y / 38 = nI (Y / 38) := idiv_nI (b := 38) hY (by omega) (by omega)
  have e55 : (nI Y / 5) - (nI Y / 5) / 5 * 5 = nI (Y / 5 % 5) := by rw [e5]; exact irem_nI (b := 5) (by omega) (by omega) (by omega)
  have e192 : (nI Y / 19) - (nI Y / 19) / 2 * 2 = nI (Y / 19 % 2) := by rw [e19]; exact irem_nI (b := 2) (by omega) (by omega) (by omega)
  have e386 : (nI Y / 38) - (nI Y / 38) / 6 * 6 = nI (Y / 38 % 6) := by rw [e38]; exact irem_nI (b := 6) (by omega) (by omega) (by omega)
  have e1 : (1 : Int32) + nI (Y / 38 % 6) = nI (1 + Y / 38 % 6) := qn_add 1 _
  unfold w_L_isAsked_b115
  rw [e55, e192, e386, qn_add, qn_add, e1]
  generalize hday : h / 24 + sl + Y / 19 % 2 = day
  have hdep : (10 + 7 * nI a + 11 * nI b : Int32).toInt = 10 + 7 * (a : Int) + 11 * (b : Int) := by
    have z1 : (7 : Int32) * nI a = nI (7 * a) := qn_mul 7 a
    have z2 : (11 : Int32) * nI b = nI (11 * b) := qn_mul 11 b
    have z3 : (10 : Int32) + nI (7 * a) = nI (10 + 7 * a) := qn_add 10 _
    rw [z1, z2, z3, qn_add, nI_toInt (by omega)]; omega
  have hq : q_ask σ (nI (Y / 5 % 5)) (nI j) (nI a) (nI b) (10 + 7 * nI a + 11 * nI b) (nI kd) (nI day) (nI (1 + Y / 38 % 6)) = 0 := by
    unfold q_ask
    rw [iT_F, iT_F, iT_F, iT_F]
    · rw [F.1.2.2.2.2.1, ieq, nI_toInt (by omega), tl_24]; omega
    · intro z
      refine z ⟨?_, ?_⟩
      · rw [qj, ile, tadd, SF_day F, nI_toInt (by omega)]
        have := note_le (nI kd) (σ 3 j)
        omega
      · rw [ile, nI_toInt (by omega), tl_999]; omega
    · intro z
      refine z ⟨?_, ⟨?_, ?_⟩, ⟨?_, ?_⟩, ?_, ?_⟩
      · rw [qn_lt (by omega) (by omega)]; omega
      · rw [ile, hdep, tl_10]; omega
      · rw [ile, hdep, tl_300]; omega
      · rw [ile, I0, nI_toInt (by omega)]; omega
      · rw [ile, nI_toInt (by omega), tl_3]; omega
      · rw [ile, nI_toInt (by omega), tl_1]; omega
      · rw [ile, nI_toInt (by omega), tl_60]; omega
    · intro z
      refine z ⟨⟨?_, ?_⟩, in_mt F hj (by omega), in_mt F hj hb⟩
      · rw [ile, I0, nI_toInt (by omega)]; omega
      · rw [ile, nI_toInt (by omega), tl_4]; omega
  refine ⟨by omega, by omega, 60, 2000, by omega, by omega, ?_⟩
  refine a_ask H hC hd _ _ _ _ _ _ _ (Nat.le_refl _) (Nat.le_refl _) (fun z => absurd hq z) (fun _ S1 hd1 H1 => ?_)
  have e8 := N8 F
  have gn := ask_n (σ := σ) (nI (Y / 5 % 5)) (nI j) (nI a) (nI b) (10 + 7 * nI a + 11 * nI b) (nI kd) (nI day) (nI (1 + Y / 38 % 6))
  have fd := F.2.2.2.2.2.2.2.2.2.1 (n 8) (Nat.le_refl _)
  have gf : ∀ F9, (F9 < 23 ∨ 33 < F9) → F9 ≠ 49 → (u_ask σ (nI (Y / 5 % 5)) (nI j) (nI a) (nI b) (10 + 7 * nI a + 11 * nI b) (nI kd) (nI day) (nI (1 + Y / 38 % 6))) F9 = σ F9 := fun F9 h1 h2 => ask_f _ _ _ _ _ _ _ _ (by omega) (by omega) h2
  have hLI := LI_ask F (LI_up L.2.2.2.2.1 (show t ≤ t + 1 by omega)) (nI (Y / 5 % 5)) (nI j) (nI a) (nI b) (10 + 7 * nI a + 11 * nI b) (nI kd) (nI day) (g := nI (1 + Y / 38 % 6)) (by rw [nI_toInt (by omega)]; omega) (by rw [nI_toInt (by omega)]; omega)
  have hLA := LA_ask F L.2.2.2.1 h16 (nI (Y / 5 % 5)) (nI j) (nI a) (nI b) (nI kd) (nI day) (nI (1 + Y / 38 % 6)) (d := 10 + 7 * nI a + 11 * nI b) (by rw [hdep, nI_toInt (by omega), nI_toInt (by omega)])
  obtain ⟨n1, h1, F1, -⟩ := ST_SF H1
  rw [e8] at gn
  have g23 : (u_ask σ (nI (Y / 5 % 5)) (nI j) (nI a) (nI b) (10 + 7 * nI a + 11 * nI b) (nI kd) (nI day) (nI (1 + Y / 38 % 6))) 23 0 = nI (n 8 + 1) := by rw [gn.2.2.2.2.2.2.2.2.2, F.1.2.2.2.2.1, qn_s]
  have e81 : n1 8 = n 8 + 1 := by
    have a1 := N8 F1
    rw [g23, qn_nat (by omega)] at a1
    exact a1.symm
  have f34 := congrFun (gf 34 (by omega) (by decide)) (n 8)
  have f35 := congrFun (gf 35 (by omega) (by decide)) (n 8)
  have f36 := congrFun (gf 36 (by omega) (by decide)) (n 8)
  rw [fd.1] at f34
  rw [fd.2.1] at f35
  rw [fd.2.2.1] at f36
  generalize hσ : u_ask σ (nI (Y / 5 % 5)) (nI j) (nI a) (nI b) (10 + 7 * nI a + 11 * nI b) (nI kd) (nI day) (nI (1 + Y / 38 % 6)) = σ1 at *
  have hk8 : n 8 < n1 8 := by omega
  have q8 : (nI (n 8)).toNatClampNeg = n 8 := qn_nat (by omega)
  obtain ⟨⟨km, nm, am⟩, -, ⟨kw, nw, aw⟩⟩ := MA_ov L.2.2.1 S1
  obtain ⟨A0, A1, A2, A3⟩ := LW_n L F
  have ma1 := MA_w L.2.2.1 (4 * n 8) (nI j)
  have ma2 := MA_w ma1 (4 * n 8 + 1) (nI a)
  have ma3 := MA_w ma2 (4 * n 8 + 2) (nI b)
  have ma4 := MA_w ma3 (4 * n 8 + 3) (nI (Y / 5 % 5))
  have ma5 := MA_m ma4 3 (nI (n 8 + 1))
  obtain ⟨-, -, ⟨-, nw1, -⟩⟩ := MA_ov ma1 S1
  obtain ⟨-, -, ⟨-, nw2, -⟩⟩ := MA_ov ma2 S1
  obtain ⟨-, -, ⟨-, nw3, -⟩⟩ := MA_ov ma3 S1
  obtain ⟨⟨-, nm4, am4⟩, -, -⟩ := MA_ov ma4 S1
  obtain ⟨⟨-, nm5, am5⟩, -, -⟩ := MA_ov ma5 S1
  have v3 : vp_in 3 4 := vin_nI (k := 3) (by omega) (by omega)
  have i0 : (nI (4 * n 8)).toNatClampNeg = 4 * n 8 := qn_nat (by omega)
  have i1 : (nI (4 * n 8 + 1)).toNatClampNeg = 4 * n 8 + 1 := qn_nat (by omega)
  have i2 : (nI (4 * n 8 + 2)).toNatClampNeg = 4 * n 8 + 2 := qn_nat (by omega)
  have i3 : (nI (4 * n 8 + 3)).toNatClampNeg = 4 * n 8 + 3 := qn_nat (by omega)
  have s1 : nI (n 8 + 1) - 1 = nI (n 8) := isub_nI (b := 1) (by omega) (by omega)
  refine ⟨m, rfl, km, by rw [nm]; exact v3, w, rfl, kw, ?_⟩
  rw [cl_3, am, A3, ix43, ix42, ix41, ix4, i0, i1, i2, i3]
  refine ⟨by rw [nw]; exact vin_nI (by omega) (by omega), ?_⟩
  rintro _ rfl
  rw [ov_sA L.2.2.1.2.2.1.1]
  refine ⟨by rw [nw1]; exact vin_nI (by omega) (by omega), ?_⟩
  rintro _ rfl
  rw [ov_sA ma1.2.2.1.1]
  refine ⟨by rw [nw2]; exact vin_nI (by omega) (by omega), ?_⟩
  rintro _ rfl
  rw [ov_sA ma2.2.2.1.1]
  refine ⟨by rw [nw3]; exact vin_nI (by omega) (by omega), ?_⟩
  rintro _ rfl
  rw [ov_sA ma3.2.2.1.1, am4, A3, qn_s]
  refine ⟨by rw [nm4]; exact v3, by rw [nm4]; exact v3, ?_⟩
  rintro _ rfl
  rw [ov_sA ma4.1.1, am5, upd_s, s1, F.1.2.2.2.2.1, qn_s, s1]
  have hd5 : dis S1 (sA (sA (sA (sA (sA M w (4 * n 8) (nI j)) w (4 * n 8 + 1) (nI a)) w (4 * n 8 + 2) (nI b)) w (4 * n 8 + 3) (nI (Y / 5 % 5))) m 3 (nI (n 8 + 1))) := hd1
  refine ⟨by rw [nm5]; exact v3, fun z => absurd rfl z, fun _ => ⟨S1, _, rfl, hd5, x, rfl, ST_K H1, 1, 6, by omega, by omega, ?_⟩⟩
  refine s_of H1 hC _ _ 1 6 _ _ (Nat.le_refl _) (Nat.le_refl _) (fun hq => absurd (q_of_0 F1 hk8 ⟨by decide, by decide⟩) hq) (fun _ _ => ?_)
  rw [wh_0, q8, gn.2.2.2.2.2.2.2.2.1]
  have hgr : u9 ≤ (σ1 1 0).toNatClampNeg ∧ b9 ≤ (σ1 23 0).toNatClampNeg := by
    have e1 := hLA.1.2.1.symm.trans (upd_o _ _ (by decide))
    have e23 := hLA.1.2.2.2.symm.trans (upd_s _ _ _)
    have g := L.2.2.2.2.2.1
    rw [e1, e23, L.2.2.2.1.1.2.1, qn_nat (by omega)]
    rw [N8 F] at g
    exact ⟨g.2.1, by omega⟩
  have LWn : LW u9 b9 e0 x m s w S1 (sA (sA (sA (sA (sA M w (4 * n 8) (nI j)) w (4 * n 8 + 1) (nI a)) w (4 * n 8 + 2) (nI b)) w (4 * n 8 + 3) (nI (Y / 5 % 5))) m 3 (nI (n 8 + 1))) σ1 μ C cap (t + 1) := LW_mk2 H1 hd5 ma5 hLA hLI (by have := L.2.2.2.2.2.1; omega) hgr L.2.2.2.2.2.2
  have b303 : ∀ {c2 n2 : Nat}, c2 ≤ mc → n2 ≤ ms → w_L_isAsked_b303 (some x) (some m) (some s) (some w) (nI Y) mc ms post c2 n2 (ov S1 (sA (sA (sA (sA (sA M w (4 * n 8) (nI j)) w (4 * n 8 + 1) (nI a)) w (4 * n 8 + 2) (nI b)) w (4 * n 8 + 3) (nI (Y / 5 % 5))) m 3 (nI (n 8 + 1)))) := fun g1 g2 => by
    unfold w_L_isAsked_b303 w_L_isAsked_b308
    exact ⟨g1, g2, g1, g2, bo_1, kk _ _ _ _ _ LWn⟩
  have b234 : ∀ {s0 s1 : Int32}, s0 = s1 → w_L_isAsked_b234 (some x) (some m) (some s) (some w) (nI Y) mc ms post (c0 + 60 + 1) (n0 + 2000 + 6) (ov S1 (sA (sA (sA (sA (sA M w (4 * n 8) (nI j)) w (4 * n 8 + 1) (nI a)) w (4 * n 8 + 2) (nI b)) w (4 * n 8 + 3) (nI (Y / 5 % 5))) m 3 (nI (n 8 + 1)))) (nI kd) (nI day) (nI (n 8)) s0 s1 := fun {s0 s1} e => by
    unfold w_L_isAsked_b234
    rw [e386]
    refine ⟨by omega, by omega, fun z => absurd e z, fun _ => ⟨S1, _, rfl, hd5, x, rfl, ST_K H1, 1, 6, by omega, by omega, ?_⟩⟩
    refine s_of H1 hC _ _ 1 6 _ _ (Nat.le_refl _) (Nat.le_refl _) (fun hq => absurd (q_of_0 F1 hk8 ⟨by decide, by decide⟩) hq) (fun _ _ => ?_)
    have elast : z_last σ1 (n 8) = nI day + nI (Y / 38 % 6) := by
      unfold z_last
      rw [gn.2.2.2.2.2.2.1, gn.2.2.2.2.2.2.2.1, qn_add, qn_add, show day + (1 + Y / 38 % 6) = day + Y / 38 % 6 + 1 by omega]
      exact isub_nI (b := 1) (by omega) (by omega)
    rw [wh_1, q8, elast]
    refine ⟨fun z => absurd rfl z, fun _ => ⟨S1, _, rfl, hd5, ST_K H1, 1, 6, by omega, by omega, ?_⟩⟩
    refine s_of H1 hC _ _ 1 6 _ _ (Nat.le_refl _) (Nat.le_refl _) (fun hq => absurd (q_of_0 F1 hk8 ⟨by decide, by decide⟩) hq) (fun _ _ => ?_)
    rw [wh_2, q8, f34]
    refine ⟨fun z => absurd rfl z, fun _ => ⟨S1, _, rfl, hd5, ST_K H1, 1, 6, by omega, by omega, ?_⟩⟩
    refine s_of H1 hC _ _ 1 6 _ _ (Nat.le_refl _) (Nat.le_refl _) (fun hq => absurd (q_of_0 F1 hk8 ⟨by decide, by decide⟩) hq) (fun _ _ => ?_)
    rw [wh_3, q8, f35]
    refine ⟨fun z => absurd rfl z, fun _ => ⟨S1, _, rfl, hd5, ST_K H1, 1, 6, by omega, by omega, ?_⟩⟩
    refine s_of H1 hC _ _ 1 6 _ _ (Nat.le_refl _) (Nat.le_refl _) (fun hq => absurd (q_of_0 F1 hk8 ⟨by decide, by decide⟩) hq) (fun _ _ => ?_)
    rw [wh_4, q8, f36]
    refine ⟨fun z => absurd rfl z, fun _ => ⟨fun _ => b303 (by omega) (by omega), fun h3 => ⟨S1, _, rfl, hd5, ST_K H1, 1, 6, by omega, by omega, ?_⟩⟩⟩
    refine s_bars H1 hC _ 1 6 _ _ (Nat.le_refl _) (Nat.le_refl _) (fun hq => absurd (q_wk_0 F1 hk8) hq) (fun _ _ => ?_)
    have eb : z_bars σ1 (nI (n 8)).toNatClampNeg (σ1 23 0).toNatClampNeg = 0 := by
      unfold z_bars
      rw [q8, gn.2.2.2.2.2.1]
      exact iT_T h3
    rw [eb]
    exact ⟨fun z => absurd rfl z, fun _ => b303 (by omega) (by omega)⟩
  exact ⟨fun z => b234 (iT_F z), fun z => b234 (iT_T z)⟩
set_option maxRecDepth 100000 in
set_option maxHeartbeats 2000000 in
theorem asked_ok (L : LW u9 v9 e0 x m s w S M σ μ C cap t) (ht : t ≤ 140) {Y : Nat} (hY : Y < 2147483648) (hS : 0 < (σ 1 0).toNatClampNeg) (h16 : (σ 23 0).toNatClampNeg < 16) {mc ms : Nat} {post : Int32 → PT → Prop} (hmc : 300 ≤ mc) (hms : 10000 ≤ ms) {b9 : Nat} (hv : b9 ≤ v9 + 1) (kk : ∀ S' M' σ' μ' C', LW u9 b9 e0 x m s w S' M' σ' μ' C' cap (t + 1) → post 1 (ov S' M')) : w_L_isAsked (some x) (some m) (some s) (some w) (nI Y) (ov S M) mc ms post := by
  obtain ⟨o, H⟩ := L.1
  obtain ⟨n, h, F, -⟩ := ST_SF H
  have hd := L.2.1
  have h5 : n 5 ≤ 6 := F.1.2.1
  obtain ⟨⟨km, nm, am⟩, ⟨ks, ns, as9⟩, -⟩ := LW_rows L F
  obtain ⟨A0, A1, A2, A3⟩ := LW_n L F
  have AS := L.2.2.2.1.2.1
  rw [N5 F] at AS hS
  rw [N8 F] at h16
  have v1 : vp_in 1 (gN (ov S M) m) := by rw [nm]; exact vin_nI (k := 1) (by omega) (by omega)
  have v0 : vp_in 0 (gN (ov S M) m) := by rw [nm]; exact vin_nI (k := 0) (by omega) (by omega)
  have ne5 : ¬ nI (n 5) = 0 := by rw [ieq, nI_toInt (by omega), I0]; omega
  have h9 := F.2.2.1
  unfold w_L_isAsked
  refine ⟨m, rfl, km, v1, ?_⟩
  rw [cl_1, am, A1]
  refine ⟨ne5, s, rfl, ks, ?_⟩
  rw [irem_nI hY hS (by omega)]
  have hj : Y % n 5 < n 5 := Nat.mod_lt _ hS
  generalize Y % n 5 = j at hj
  have qj : (nI j).toNatClampNeg = j := qn_nat (by omega)
  have l9 := len_2 F j
  obtain ⟨as1, -, -, sl, sl2⟩ := AS j hj
  have t2 : (σ 2 j).toInt = (z_len σ j : Int) := by rw [l9.1]; exact nI_toInt (by omega)
  have as2 : gA (ov S M) s (nI j).toNatClampNeg = nI (z_len σ j) := by rw [qj, as9, as1]; exact l9.1
  have e6 : nI Y / 6 = nI (Y / 6) := idiv_nI (b := 6) hY (by omega) (by omega)
  have e84 : nI Y / 84 = nI (Y / 84) := idiv_nI (b := 84) hY (by omega) (by omega)
  have e11 : nI Y / 11 = nI (Y / 11) := idiv_nI (b := 11) hY (by omega) (by omega)
  have e55 : nI Y / 55 = nI (Y / 55) := idiv_nI (b := 55) hY (by omega) (by omega)
  have nel : ¬ nI (z_len σ j) = 0 := by rw [ieq, nI_toInt (by omega), I0]; omega
  have vj : vp_in (nI j) (gN (ov S M) s) := by rw [ns]; exact vin_nI (by omega) (by omega)
  have hal : Y / 6 % z_len σ j < z_len σ j := Nat.mod_lt _ (by omega)
  have eF : nI (Y / 6) - nI (Y / 6) / nI (z_len σ j) * nI (z_len σ j) = nI (Y / 6 % z_len σ j) := irem_nI (by omega) (by omega) (by omega)
  rw [as2, e6, eF]
  generalize Y / 6 % z_len σ j = a at hal
  have eD : nI (z_len σ j) - nI a = nI (z_len σ j - a) := isub_nI (by omega) (by omega)
  have neD : ¬ nI (z_len σ j - a) = 0 := by rw [ieq, nI_toInt (by omega), I0]; omega
  have eT : nI (Y / 84) - nI (Y / 84) / nI (z_len σ j - a) * nI (z_len σ j - a) = nI (Y / 84 % (z_len σ j - a)) := irem_nI (by omega) (by omega) (by omega)
  have hdl : Y / 84 % (z_len σ j - a) < z_len σ j - a := Nat.mod_lt _ (by omega)
  have e5 : nI (Y / 11) - nI (Y / 11) / 5 * 5 = nI (Y / 11 % 5) := irem_nI (b := 5) (by omega) (by omega) (by omega)
  have e3 : nI (Y / 55) - nI (Y / 55) / 3 * 3 = nI (Y / 55 % 3) := irem_nI (b := 3) (by omega) (by omega) (by omega)
  rw [eD, e84, eT, e11, e5, e55, e3, qn_add]
  generalize Y / 84 % (z_len σ j - a) = dd at hdl
  have b74 : ∀ kd, kd ≤ 3 → w_L_isAsked_b74 (some x) (some m) (some s) (some w) (nI Y) mc ms post 0 0 (ov S M) (nI j) (nI a) (nI (a + dd)) (nI kd) := fun kd hkd => by
    unfold w_L_isAsked_b74
    refine ⟨by omega, by omega, m, rfl, km, v0, ?_⟩
    rw [cl_0, am, A0, (today_nI F).2]
    have go := fun sl hsl hs40 => asked_b115 L H F ht h16 hj (show a ≤ a + dd by omega) (by omega) (by omega) hkd (sl := sl) hsl hs40 hY (mc := mc) (ms := ms) (c0 := 0) (n0 := 0) (post := post) (by omega) (by omega) hv kk
    rcases (show kd = 0 ∨ kd = 1 ∨ kd = 2 ∨ kd = 3 by omega) with e | e | e | e <;> subst e
    · exact ⟨fun z => absurd rfl z, fun _ => go 40 (by have := note_le (nI 0) (σ 3 j); omega) (by omega)⟩
    · exact ⟨fun _ => ⟨fun z => absurd rfl z, fun _ => go 16 (note_1 (σ 3 j)) (by omega)⟩, fun z => absurd z (by decide)⟩
    · exact ⟨fun _ => ⟨fun _ => ⟨fun z => absurd rfl z, fun _ => go 6 (note_2 (σ 3 j)) (by omega)⟩, fun z => absurd z (by decide)⟩, fun z => absurd z (by decide)⟩
    · refine ⟨fun _ => ⟨fun _ => ⟨fun _ => go 0 ?_ (by omega), fun z => absurd z (by decide)⟩, fun z => absurd z (by decide)⟩, fun z => absurd z (by decide)⟩
      have e9 : z_note (nI 3) (σ 3 j) = 0 := note_3 (σ 3 j)
      rw [e9, I0]
      decide
  refine ⟨vj, nel, vj, neD, fun _ => ⟨fun _ => b74 3 (by omega), fun _ => b74 2 (by omega)⟩, fun _ => b74 (Y / 55 % 3) (by omega)⟩
end ASK9
