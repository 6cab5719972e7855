/-! the calls of the class over the whole state -/
theorem xA_1 : xA 1 = "java/lang/IndexOutOfBoundsException" := if_pos rfl
theorem xA_2 : xA 2 = "java/lang/IllegalArgumentException" := by unfold xA; rw [if_neg (by decide), if_pos rfl]
theorem xA_3 : xA 3 = "java/lang/IllegalStateException" := by unfold xA; rw [if_neg (by decide), if_neg (by decide)]
theorem xB_1 : xQ 1 = "java/lang/IndexOutOfBoundsException" := if_pos rfl
theorem xB_2 : xQ 2 = "java/lang/IllegalStateException" := by unfold xQ; rw [if_neg (by decide)]
theorem xC_1 : xC 1 = "java/lang/IndexOutOfBoundsException" := if_pos rfl
theorem xC_2 : xC 2 = "java/lang/IllegalArgumentException" := by unfold xC; rw [if_neg (by decide)]
theorem xE_1 : xE 1 = "java/lang/IllegalArgumentException" := if_pos rfl
theorem xE_2 : xE 2 = "java/lang/IllegalStateException" := by unfold xE; rw [if_neg (by decide)]
theorem hXa {q t : Int32} {X : Int32 → String} {nm : String} {postX : String → PT → Prop} {S : PT} (hX : ¬ q = 0 → postX (X q) S) (ht : ¬ t = 0) (e : X t = nm) : q = t → postX nm S := fun h => by
  subst h
  have := hX ht
  rw [e] at this
  exact this
theorem uf49_street (σ : SG) (a1 a2 a3 a4 : Int32) : (u_street σ a1 a2 a3 a4) 49 0 = 0 := by unfold u_street; simp only [up2_s, up2_f, ne_eq, Nat.reduceEqDiff, not_false_eq_true]
theorem uf0_street (σ : SG) (a1 a2 a3 a4 : Int32) (j : Nat) : (u_street σ a1 a2 a3 a4) 0 j = σ 0 j := by unfold u_street; simp only [up2_s, up2_f, ne_eq, Nat.reduceEqDiff, not_false_eq_true]
theorem uf49_surface (σ : SG) (a1 : Int32) : (u_surface σ a1) 49 0 = 0 := by unfold u_surface; simp only [up2_s, up2_f, ne_eq, Nat.reduceEqDiff, not_false_eq_true]
theorem uf0_surface (σ : SG) (a1 : Int32) (j : Nat) : (u_surface σ a1) 0 j = σ 0 j := by unfold u_surface; simp only [up2_s, up2_f, ne_eq, Nat.reduceEqDiff, not_false_eq_true]
theorem uf2_surface (σ : SG) (a1 : Int32) (j : Nat) : (u_surface σ a1) 2 j = σ 2 j := by unfold u_surface; simp only [up2_s, up2_f, ne_eq, Nat.reduceEqDiff, not_false_eq_true]
theorem uf49_embargo (σ : SG) (a1 a2 a3 : Int32) : (u_embargo σ a1 a2 a3) 49 0 = 0 := by unfold u_embargo; simp only [up2_s, up2_f, ne_eq, Nat.reduceEqDiff, not_false_eq_true]
theorem uf0_embargo (σ : SG) (a1 a2 a3 : Int32) (j : Nat) : (u_embargo σ a1 a2 a3) 0 j = σ 0 j := by unfold u_embargo; simp only [up2_s, up2_f, ne_eq, Nat.reduceEqDiff, not_false_eq_true]
theorem uf2_embargo (σ : SG) (a1 a2 a3 : Int32) (j : Nat) : (u_embargo σ a1 a2 a3) 2 j = σ 2 j := by unfold u_embargo; simp only [up2_s, up2_f, ne_eq, Nat.reduceEqDiff, not_false_eq_true]
theorem uf49_thing (σ : SG) (a1 a2 a3 a4 a5 : Int32) : (u_thing σ a1 a2 a3 a4 a5) 49 0 = 0 := by unfold u_thing; rw [up2_f _ _ _ _ (by decide), z_uns_f _ _ _ _ (by decide)]; simp only [up2_s, up2_f, ne_eq, Nat.reduceEqDiff, not_false_eq_true]
theorem uf0_thing (σ : SG) (a1 a2 a3 a4 a5 : Int32) (j : Nat) : (u_thing σ a1 a2 a3 a4 a5) 0 j = σ 0 j := by unfold u_thing; rw [up2_f _ _ _ _ (by decide), z_uns_f _ _ _ _ (by decide)]; simp only [up2_s, up2_f, ne_eq, Nat.reduceEqDiff, not_false_eq_true]
theorem uf2_thing (σ : SG) (a1 a2 a3 a4 a5 : Int32) (j : Nat) : (u_thing σ a1 a2 a3 a4 a5) 2 j = σ 2 j := by unfold u_thing; rw [up2_f _ _ _ _ (by decide), z_uns_f _ _ _ _ (by decide)]; simp only [up2_s, up2_f, ne_eq, Nat.reduceEqDiff, not_false_eq_true]
theorem uf49_record (σ : SG) (a1 a2 a3 a4 : Int32) : (u_record σ a1 a2 a3 a4) 49 0 = 0 := by unfold u_record; simp only [up2_s, up2_f, ne_eq, Nat.reduceEqDiff, not_false_eq_true]
theorem uf0_record (σ : SG) (a1 a2 a3 a4 : Int32) (j : Nat) : (u_record σ a1 a2 a3 a4) 0 j = σ 0 j := by unfold u_record; simp only [up2_s, up2_f, ne_eq, Nat.reduceEqDiff, not_false_eq_true]
theorem uf2_record (σ : SG) (a1 a2 a3 a4 : Int32) (j : Nat) : (u_record σ a1 a2 a3 a4) 2 j = σ 2 j := by unfold u_record; simp only [up2_s, up2_f, ne_eq, Nat.reduceEqDiff, not_false_eq_true]
theorem uf49_lose (σ : SG) (a1 : Int32) : (u_lose σ a1) 49 0 = 0 := by unfold u_lose; simp only [up2_s, up2_f, ne_eq, Nat.reduceEqDiff, not_false_eq_true]
theorem uf0_lose (σ : SG) (a1 : Int32) (j : Nat) : (u_lose σ a1) 0 j = σ 0 j := by unfold u_lose; simp only [up2_s, up2_f, ne_eq, Nat.reduceEqDiff, not_false_eq_true]
theorem uf2_lose (σ : SG) (a1 : Int32) (j : Nat) : (u_lose σ a1) 2 j = σ 2 j := by unfold u_lose; simp only [up2_s, up2_f, ne_eq, Nat.reduceEqDiff, not_false_eq_true]
theorem uf49_survey (σ : SG) (a1 : Int32) : (u_survey σ a1) 49 0 = 0 := by unfold u_survey; simp only [up2_s, up2_f, ne_eq, Nat.reduceEqDiff, not_false_eq_true]
theorem uf0_survey (σ : SG) (a1 : Int32) (j : Nat) : (u_survey σ a1) 0 j = σ 0 j := by unfold u_survey; simp only [up2_s, up2_f, ne_eq, Nat.reduceEqDiff, not_false_eq_true]
theorem uf2_survey (σ : SG) (a1 : Int32) (j : Nat) : (u_survey σ a1) 2 j = σ 2 j := by unfold u_survey; simp only [up2_s, up2_f, ne_eq, Nat.reduceEqDiff, not_false_eq_true]
theorem uf49_trial (σ : SG) (a1 a2 : Int32) : (u_trial σ a1 a2) 49 0 = 0 := by unfold u_trial; simp only [up2_s, up2_f, ne_eq, Nat.reduceEqDiff, not_false_eq_true]
theorem uf0_trial (σ : SG) (a1 a2 : Int32) (j : Nat) : (u_trial σ a1 a2) 0 j = σ 0 j := by unfold u_trial; simp only [up2_s, up2_f, ne_eq, Nat.reduceEqDiff, not_false_eq_true]
theorem uf2_trial (σ : SG) (a1 a2 : Int32) (j : Nat) : (u_trial σ a1 a2) 2 j = σ 2 j := by unfold u_trial; simp only [up2_s, up2_f, ne_eq, Nat.reduceEqDiff, not_false_eq_true]
theorem uf49_ask (σ : SG) (a1 a2 a3 a4 a5 a6 a7 a8 : Int32) : (u_ask σ a1 a2 a3 a4 a5 a6 a7 a8) 49 0 = 0 := by unfold u_ask; simp only [up2_s, up2_f, ne_eq, Nat.reduceEqDiff, not_false_eq_true]
theorem uf0_ask (σ : SG) (a1 a2 a3 a4 a5 a6 a7 a8 : Int32) (j : Nat) : (u_ask σ a1 a2 a3 a4 a5 a6 a7 a8) 0 j = σ 0 j := by unfold u_ask; simp only [up2_s, up2_f, ne_eq, Nat.reduceEqDiff, not_false_eq_true]
theorem uf2_ask (σ : SG) (a1 a2 a3 a4 a5 a6 a7 a8 : Int32) (j : Nat) : (u_ask σ a1 a2 a3 a4 a5 a6 a7 a8) 2 j = σ 2 j := by unfold u_ask; simp only [up2_s, up2_f, ne_eq, Nat.reduceEqDiff, not_false_eq_true]
theorem uf49_grant (σ : SG) (a1 a2 : Int32) : (u_grant σ a1 a2) 49 0 = 0 := by unfold u_grant; simp only [up2_s, up2_f, ne_eq, Nat.reduceEqDiff, not_false_eq_true]
theorem uf0_grant (σ : SG) (a1 a2 : Int32) (j : Nat) : (u_grant σ a1 a2) 0 j = σ 0 j := by unfold u_grant; simp only [up2_s, up2_f, ne_eq, Nat.reduceEqDiff, not_false_eq_true]
theorem uf2_grant (σ : SG) (a1 a2 : Int32) (j : Nat) : (u_grant σ a1 a2) 2 j = σ 2 j := by unfold u_grant; simp only [up2_s, up2_f, ne_eq, Nat.reduceEqDiff, not_false_eq_true]
theorem uf49_refuse (σ : SG) (a1 : Int32) : (u_refuse σ a1) 49 0 = 0 := by unfold u_refuse; simp only [up2_s, up2_f, ne_eq, Nat.reduceEqDiff, not_false_eq_true]
theorem uf0_refuse (σ : SG) (a1 : Int32) (j : Nat) : (u_refuse σ a1) 0 j = σ 0 j := by unfold u_refuse; simp only [up2_s, up2_f, ne_eq, Nat.reduceEqDiff, not_false_eq_true]
theorem uf2_refuse (σ : SG) (a1 : Int32) (j : Nat) : (u_refuse σ a1) 2 j = σ 2 j := by unfold u_refuse; simp only [up2_s, up2_f, ne_eq, Nat.reduceEqDiff, not_false_eq_true]
theorem uf49_vary (σ : SG) (a1 a2 : Int32) : (u_vary σ a1 a2) 49 0 = 0 := by unfold u_vary; simp only [up2_s, up2_f, ne_eq, Nat.reduceEqDiff, not_false_eq_true]
theorem uf0_vary (σ : SG) (a1 a2 : Int32) (j : Nat) : (u_vary σ a1 a2) 0 j = σ 0 j := by unfold u_vary; simp only [up2_s, up2_f, ne_eq, Nat.reduceEqDiff, not_false_eq_true]
theorem uf2_vary (σ : SG) (a1 a2 : Int32) (j : Nat) : (u_vary σ a1 a2) 2 j = σ 2 j := by unfold u_vary; simp only [up2_s, up2_f, ne_eq, Nat.reduceEqDiff, not_false_eq_true]
theorem uf49_exempt (σ : SG) (a1 : Int32) : (u_exempt σ a1) 49 0 = 0 := by unfold u_exempt; simp only [up2_s, up2_f, ne_eq, Nat.reduceEqDiff, not_false_eq_true]
theorem uf0_exempt (σ : SG) (a1 : Int32) (j : Nat) : (u_exempt σ a1) 0 j = σ 0 j := by unfold u_exempt; simp only [up2_s, up2_f, ne_eq, Nat.reduceEqDiff, not_false_eq_true]
theorem uf2_exempt (σ : SG) (a1 : Int32) (j : Nat) : (u_exempt σ a1) 2 j = σ 2 j := by unfold u_exempt; simp only [up2_s, up2_f, ne_eq, Nat.reduceEqDiff, not_false_eq_true]
theorem uf49_agree (σ : SG) (a1 a2 : Int32) : (u_agree σ a1 a2) 49 0 = 0 := by unfold u_agree; simp only [up2_s, up2_f, ne_eq, Nat.reduceEqDiff, not_false_eq_true]
theorem uf0_agree (σ : SG) (a1 a2 : Int32) (j : Nat) : (u_agree σ a1 a2) 0 j = σ 0 j := by unfold u_agree; simp only [up2_s, up2_f, ne_eq, Nat.reduceEqDiff, not_false_eq_true]
theorem uf2_agree (σ : SG) (a1 a2 : Int32) (j : Nat) : (u_agree σ a1 a2) 2 j = σ 2 j := by unfold u_agree; simp only [up2_s, up2_f, ne_eq, Nat.reduceEqDiff, not_false_eq_true]
theorem uf49_start (σ : SG) (a1 : Int32) : (u_start σ a1) 49 0 = 0 := by unfold u_start; simp only [up2_s, up2_f, ne_eq, Nat.reduceEqDiff, not_false_eq_true]
theorem uf0_start (σ : SG) (a1 : Int32) (j : Nat) : (u_start σ a1) 0 j = σ 0 j := by unfold u_start; simp only [up2_s, up2_f, ne_eq, Nat.reduceEqDiff, not_false_eq_true]
theorem uf2_start (σ : SG) (a1 : Int32) (j : Nat) : (u_start σ a1) 2 j = σ 2 j := by unfold u_start; simp only [up2_s, up2_f, ne_eq, Nat.reduceEqDiff, not_false_eq_true]
theorem uf49_open (σ : SG) (a1 a2 : Int32) (N : Nat) : (u_open σ a1 a2 N) 49 0 = 0 := by unfold u_open; simp only [up2_s, up2_f, ne_eq, Nat.reduceEqDiff, not_false_eq_true]
theorem uf0_open (σ : SG) (a1 a2 : Int32) (N : Nat) (j : Nat) : (u_open σ a1 a2 N) 0 j = σ 0 j := by unfold u_open; simp only [up2_s, up2_f, ne_eq, Nat.reduceEqDiff, not_false_eq_true]
theorem uf2_open (σ : SG) (a1 a2 : Int32) (N : Nat) (j : Nat) : (u_open σ a1 a2 N) 2 j = σ 2 j := by unfold u_open; simp only [up2_s, up2_f, ne_eq, Nat.reduceEqDiff, not_false_eq_true]
theorem uf49_fill (σ : SG) (a1 a2 a3 : Int32) : (u_fill σ a1 a2 a3) 49 0 = 0 := by unfold u_fill; simp only [up2_s, up2_f, ne_eq, Nat.reduceEqDiff, not_false_eq_true]
theorem uf0_fill (σ : SG) (a1 a2 a3 : Int32) (j : Nat) : (u_fill σ a1 a2 a3) 0 j = σ 0 j := by unfold u_fill; simp only [up2_s, up2_f, ne_eq, Nat.reduceEqDiff, not_false_eq_true]
theorem uf2_fill (σ : SG) (a1 a2 a3 : Int32) (j : Nat) : (u_fill σ a1 a2 a3) 2 j = σ 2 j := by unfold u_fill; simp only [up2_s, up2_f, ne_eq, Nat.reduceEqDiff, not_false_eq_true]
theorem uf49_plate (σ : SG) (a1 : Int32) : (u_plate σ a1) 49 0 = 0 := by unfold u_plate; simp only [up2_s, up2_f, ne_eq, Nat.reduceEqDiff, not_false_eq_true]
theorem uf0_plate (σ : SG) (a1 : Int32) (j : Nat) : (u_plate σ a1) 0 j = σ 0 j := by unfold u_plate; simp only [up2_s, up2_f, ne_eq, Nat.reduceEqDiff, not_false_eq_true]
theorem uf2_plate (σ : SG) (a1 : Int32) (j : Nat) : (u_plate σ a1) 2 j = σ 2 j := by unfold u_plate; simp only [up2_s, up2_f, ne_eq, Nat.reduceEqDiff, not_false_eq_true]
theorem uf49_extend (σ : SG) (a1 : Int32) : (u_extend σ a1) 49 0 = 0 := by unfold u_extend z_two; simp only [up2_s, up2_f, ne_eq, Nat.reduceEqDiff, not_false_eq_true]
theorem uf0_extend (σ : SG) (a1 : Int32) (j : Nat) : (u_extend σ a1) 0 j = σ 0 j := by unfold u_extend z_two; simp only [up2_s, up2_f, ne_eq, Nat.reduceEqDiff, not_false_eq_true]
theorem uf2_extend (σ : SG) (a1 : Int32) (j : Nat) : (u_extend σ a1) 2 j = σ 2 j := by unfold u_extend z_two; simp only [up2_s, up2_f, ne_eq, Nat.reduceEqDiff, not_false_eq_true]
theorem uf49_stop (σ : SG) (a1 : Int32) : (u_stop σ a1) 49 0 = 0 := by unfold u_stop; simp only [up2_s, up2_f, ne_eq, Nat.reduceEqDiff, not_false_eq_true]
theorem uf0_stop (σ : SG) (a1 : Int32) (j : Nat) : (u_stop σ a1) 0 j = σ 0 j := by unfold u_stop; simp only [up2_s, up2_f, ne_eq, Nat.reduceEqDiff, not_false_eq_true]
theorem uf2_stop (σ : SG) (a1 : Int32) (j : Nat) : (u_stop σ a1) 2 j = σ 2 j := by unfold u_stop; simp only [up2_s, up2_f, ne_eq, Nat.reduceEqDiff, not_false_eq_true]
theorem uf49_defect (σ : SG) (w : Int32) : (u_defect σ w) 49 0 = 0 := by unfold u_defect; exact iT_ind (fun y : SG => y 49 0 = 0) (fun _ => by simp only [up2_s, up2_f, ne_eq, Nat.reduceEqDiff, not_false_eq_true]) (fun _ => by simp only [up2_s, up2_f, ne_eq, Nat.reduceEqDiff, not_false_eq_true])
theorem uf0_defect (σ : SG) (w : Int32) (j : Nat) : (u_defect σ w) 0 j = σ 0 j := by unfold u_defect; exact iT_ind (fun y : SG => y 0 j = σ 0 j) (fun _ => by simp only [up2_s, up2_f, ne_eq, Nat.reduceEqDiff, not_false_eq_true]) (fun _ => by simp only [up2_s, up2_f, ne_eq, Nat.reduceEqDiff, not_false_eq_true])
theorem uf2_defect (σ : SG) (w : Int32) (j : Nat) : (u_defect σ w) 2 j = σ 2 j := by unfold u_defect; exact iT_ind (fun y : SG => y 2 j = σ 2 j) (fun _ => by simp only [up2_s, up2_f, ne_eq, Nat.reduceEqDiff, not_false_eq_true]) (fun _ => by simp only [up2_s, up2_f, ne_eq, Nat.reduceEqDiff, not_false_eq_true])
theorem uf49_core (σ : SG) (f : Nat) : (u_core σ f) 49 0 = 0 := by unfold u_core; simp only [up2_s, up2_f, ne_eq, Nat.reduceEqDiff, not_false_eq_true]
theorem uf0_core (σ : SG) (f : Nat) (j : Nat) : (u_core σ f) 0 j = σ 0 j := by unfold u_core; simp only [up2_s, up2_f, ne_eq, Nat.reduceEqDiff, not_false_eq_true]
theorem uf2_core (σ : SG) (f : Nat) (j : Nat) : (u_core σ f) 2 j = σ 2 j := by unfold u_core; simp only [up2_s, up2_f, ne_eq, Nat.reduceEqDiff, not_false_eq_true]
section C
variable {e0 m0 x o : Nat} {S : PT} {σ : SG} {μ : MU} {C cap : Nat}
theorem ST_mk {ad : Nat → Nat → Nat} {n pl : Nat → Nat} {T : CT} {h B E : Nat} {l' : Nat → Nat} (R : RC ad (VC n l') S T) (W : WJ (VC n l') T) (hl : l' = z_len σ) (x9 : ad 9 0 = x) (x13 : ad 13 0 = o) (b5 : n 6 = 0 → ad 20 0 = e0) (b6 : 0 < n 6 → ad 20 0 ≠ e0) (b7 : n 6 ≤ C) (b8 : σ 0 0 = nI h) (b9 : h ≤ 9999) (G : GI T σ μ n pl B E) (hB : B ≤ pot h + 30 * C) (hE : E ≤ 2 * C) (hcap : tN T 12 0 = cap) : ST e0 x o S σ μ C cap := by
  subst hl
  exact ⟨ad, n, pl, T, h, R, W, x9, x13, b5, b6, b7, b8, b9, GI_up hB hE G, hcap⟩
theorem nn {T : CT} {n : Nat → Nat} (H : DQ T σ n) : (σ 23 0).toNatClampNeg = n 8 ∧ (σ 14 0).toNatClampNeg = n 7 ∧ (σ 40 0).toNatClampNeg = n 1 ∧ (σ 1 0).toNatClampNeg = n 5 := by
  obtain ⟨a1, a2, a3, a4, a5, a6, a7, a8, a9⟩ := H.1
  rw [a1, a3, a5, a7]
  exact ⟨qn_nat (by omega), qn_nat (by omega), qn_nat (by omega), qn_nat (by omega)⟩
theorem s_street (H : ST e0 x o S σ μ C cap) (hC : C < 512) (a1 a2 a3 a4 : Int32) : CD (α := Int32) e0 x o S (u_street σ a1 a2 a3 a4) μ C cap (q_street σ a1 a2 a3 a4) (σ 1 0 + 1 - 1) xA (fun mc ms post postX => w_X8_street x a1 a2 a3 a4 S mc ms post postX) := by
  have H0 := H
  obtain ⟨ad, n, pl, T, hh, R, W, rfl, rfl, H5, H6, H7, H8, H9, G, rfl⟩ := H
  obtain ⟨e8, e7, e1, e5⟩ := nn G.1
  have pl9 := pot_le hh H9
  refine fun mc ms post postX hmc hms hX hp => ?_
  exact k_street R W G a1 a2 a3 a4 (by omega) (by omega) (hXa hX (by decide) xA_1) (hXa hX (by decide) xA_2) (hXa hX (by decide) xA_3) (fun hq ad' S' T' R' W' e en G' => hp hq S' (ST_mk R' W' rfl (e 9 0 (by decide) (by decide) (by decide)) (e 13 0 (by decide) (by decide) (by decide)) (fun z => (e 20 0 (by decide) (by decide) (by decide)).trans (H5 z)) (fun z => by rw [e 20 0 (by decide) (by decide) (by decide)]; exact H6 z) (by show n 6 ≤ C; omega) (by rw [uf0_street]; exact H8) H9 G' (by omega) (by omega) (by rw [en])))
theorem s_surface (H : ST e0 x o S σ μ C cap) (hC : C < 512) (a1 : Int32) : CD (α := Int32) e0 x o S (u_surface σ a1) μ (C + 1) cap (q_surface σ a1) (z_today σ + 99) xQ (fun mc ms post postX => w_X8_surface e0 m0 x a1 S mc ms post postX) := by
  have H0 := H
  obtain ⟨ad, n, pl, T, hh, R, W, rfl, rfl, H5, H6, H7, H8, H9, G, rfl⟩ := H
  obtain ⟨e8, e7, e1, e5⟩ := nn G.1
  have pl9 := pot_le hh H9
  refine fun mc ms post postX hmc hms hX hp => ?_
  have n6 : nU n 6 6 = n 6 + 1 := nU_s _ _
  exact k_surface R W G (by omega) H5 H6 a1 (by omega) (by omega) (hXa hX (by decide) xB_1) (hXa hX (by decide) xB_2) (fun hq ad' S' T' R' W' e hne en G' => hp hq S' (ST_mk R' W' (z_len_c (fun j => uf2_surface σ a1 j)).symm (e 9 0 (by decide) (by decide)) (e 13 0 (by decide) (by decide)) (fun z => by omega) (fun _ => hne) (by omega) (by rw [uf0_surface]; exact H8) H9 G' (by omega) (by omega) (by rw [en])))
theorem s_embargo (H : ST e0 x o S σ μ C cap) (hC : C < 512) (a1 a2 a3 : Int32) : CD (α := Int32) e0 x o S (u_embargo σ a1 a2 a3) μ C cap (q_embargo σ a1 a2 a3) (nI (cN (z_caught (u_embargo σ a1 a2 a3) a1 a2 a3) (σ 23 0).toNatClampNeg)) xC (fun mc ms post postX => w_X8_embargo x a1 a2 a3 S mc ms post postX) := by
  have H0 := H
  obtain ⟨ad, n, pl, T, hh, R, W, rfl, rfl, H5, H6, H7, H8, H9, G, rfl⟩ := H
  obtain ⟨e8, e7, e1, e5⟩ := nn G.1
  have pl9 := pot_le hh H9
  rw [e8]
  refine fun mc ms post postX hmc hms hX hp => ?_
  exact k_embargo R G a1 a2 a3 (by omega) (by omega) (hXa hX (by decide) xC_1) (hXa hX (by decide) xC_2) (fun hq S' T' R' sm G' => hp hq S' (ST_mk R' (SW_J ⟨sm.1, sm.2.2⟩ W) (z_len_c (fun j => uf2_embargo σ a1 a2 a3 j)).symm rfl rfl H5 H6 (by omega) (by rw [uf0_embargo]; exact H8) H9 G' (by omega) (by omega) (by rw [sm.2.1])))
theorem s_thing (H : ST e0 x o S σ μ C cap) (hC : C < 512) (a1 a2 a3 a4 a5 : Int32) : CD (α := Int32) e0 x o S (u_thing σ a1 a2 a3 a4 a5) μ C cap (q_thing σ a1 a2 a3 a4 a5) (σ 14 0 + 1 - 1) xA (fun mc ms post postX => w_X8_thing x a1 a2 a3 a4 a5 S mc ms post postX) := by
  have H0 := H
  obtain ⟨ad, n, pl, T, hh, R, W, rfl, rfl, H5, H6, H7, H8, H9, G, rfl⟩ := H
  obtain ⟨e8, e7, e1, e5⟩ := nn G.1
  have pl9 := pot_le hh H9
  refine fun mc ms post postX hmc hms hX hp => ?_
  exact k_thing R W G a1 a2 a3 a4 a5 (by omega) (by omega) (hXa hX (by decide) xA_1) (hXa hX (by decide) xA_2) (hXa hX (by decide) xA_3) (fun hq ad' S' T' R' W' e en G' => hp hq S' (ST_mk R' W' (z_len_c (fun j => uf2_thing σ a1 a2 a3 a4 a5 j)).symm (e 9 0 (by decide)) (e 13 0 (by decide)) (fun z => (e 20 0 (by decide)).trans (H5 z)) (fun z => by rw [e 20 0 (by decide)]; exact H6 z) (by show n 6 ≤ C; omega) (by rw [uf0_thing]; exact H8) H9 G' (by omega) (by omega) (by rw [en])))
theorem s_record (H : ST e0 x o S σ μ C cap) (hC : C < 512) (a1 a2 a3 a4 : Int32) : CD (α := Int32) e0 x o S (u_record σ a1 a2 a3 a4) μ C cap (q_record σ a1 a2 a3 a4) (z_susN (u_record σ a1 a2 a3 a4) a1.toNatClampNeg) xC (fun mc ms post postX => w_X8_record x a1 a2 a3 a4 S mc ms post postX) := by
  have H0 := H
  obtain ⟨ad, n, pl, T, hh, R, W, rfl, rfl, H5, H6, H7, H8, H9, G, rfl⟩ := H
  obtain ⟨e8, e7, e1, e5⟩ := nn G.1
  have pl9 := pot_le hh H9
  refine fun mc ms post postX hmc hms hX hp => ?_
  exact k_record R G a1 a2 a3 a4 (by omega) (by omega) (hXa hX (by decide) xC_1) (hXa hX (by decide) xC_2) (fun hq S' T' R' sm G' => hp hq S' (ST_mk R' (SW_J ⟨sm.1, sm.2.2⟩ W) (z_len_c (fun j => uf2_record σ a1 a2 a3 a4 j)).symm rfl rfl H5 H6 (by omega) (by rw [uf0_record]; exact H8) H9 G' (by omega) (by omega) (by rw [sm.2.1])))
theorem s_lose (H : ST e0 x o S σ μ C cap) (hC : C < 512) (a1 : Int32) : CD (α := Int32) e0 x o S (u_lose σ a1) μ C cap (q_lose σ a1) (σ 20 a1.toNatClampNeg) xQ (fun mc ms post postX => w_X8_lose x a1 S mc ms post postX) := by
  have H0 := H
  obtain ⟨ad, n, pl, T, hh, R, W, rfl, rfl, H5, H6, H7, H8, H9, G, rfl⟩ := H
  obtain ⟨e8, e7, e1, e5⟩ := nn G.1
  have pl9 := pot_le hh H9
  refine fun mc ms post postX hmc hms hX hp => ?_
  exact k_lose R G.1 a1 (by omega) (by omega) (hXa hX (by decide) xB_1) (fun hq S' R' => hp hq S' (ST_mk R' W (z_len_c (fun j => uf2_lose σ a1 j)).symm rfl rfl H5 H6 (by omega) (by rw [uf0_lose]; exact H8) H9 (gp_lose G hq) (by omega) (by omega) rfl))
theorem s_survey (H : ST e0 x o S σ μ C cap) (hC : C < 512) (a1 : Int32) : CD (α := Int32) e0 x o S (u_survey σ a1) μ C cap (q_survey σ a1) (z_susN σ a1.toNatClampNeg) xQ (fun mc ms post postX => w_X8_survey x a1 S mc ms post postX) := by
  have H0 := H
  obtain ⟨ad, n, pl, T, hh, R, W, rfl, rfl, H5, H6, H7, H8, H9, G, rfl⟩ := H
  obtain ⟨e8, e7, e1, e5⟩ := nn G.1
  have pl9 := pot_le hh H9
  refine fun mc ms post postX hmc hms hX hp => ?_
  exact k_survey R G a1 (by omega) (by omega) (hXa hX (by decide) xB_1) (hXa hX (by decide) xB_2) (fun hq S' T' R' sm G' => hp hq S' (ST_mk R' (SW_J ⟨sm.1, sm.2.2⟩ W) (z_len_c (fun j => uf2_survey σ a1 j)).symm rfl rfl H5 H6 (by omega) (by rw [uf0_survey]; exact H8) H9 G' (by omega) (by omega) (by rw [sm.2.1])))
theorem s_trial (H : ST e0 x o S σ μ C cap) (hC : C < 512) (a1 a2 : Int32) : CD (α := Int32) e0 x o S (u_trial σ a1 a2) μ C cap (q_trial σ a1 a2) (nI (cN (fun t => z_lies σ t a1 a2) (σ 14 0).toNatClampNeg)) xQ (fun mc ms post postX => w_X8_trial x a1 a2 S mc ms post postX) := by
  have H0 := H
  obtain ⟨ad, n, pl, T, hh, R, W, rfl, rfl, H5, H6, H7, H8, H9, G, rfl⟩ := H
  obtain ⟨e8, e7, e1, e5⟩ := nn G.1
  have pl9 := pot_le hh H9
  rw [e7]
  refine fun mc ms post postX hmc hms hX hp => ?_
  exact k_trial R G a1 a2 (by omega) (by omega) (hXa hX (by decide) xB_1) (fun hq S' T' R' sm G' => hp hq S' (ST_mk R' (SW_J ⟨sm.1, sm.2.2⟩ W) (z_len_c (fun j => uf2_trial σ a1 a2 j)).symm rfl rfl H5 H6 (by omega) (by rw [uf0_trial]; exact H8) H9 G' (by omega) (by omega) (by rw [sm.2.1])))
theorem s_ask (H : ST e0 x o S σ μ C cap) (hC : C < 512) (a1 a2 a3 a4 a5 a6 a7 a8 : Int32) : CD (α := Int32) e0 x o S (u_ask σ a1 a2 a3 a4 a5 a6 a7 a8) μ C cap (q_ask σ a1 a2 a3 a4 a5 a6 a7 a8) (σ 23 0 + 1 - 1) xA (fun mc ms post postX => w_X8_ask x a1 a2 a3 a4 a5 a6 a7 a8 S mc ms post postX) := by
  have H0 := H
  obtain ⟨ad, n, pl, T, hh, R, W, rfl, rfl, H5, H6, H7, H8, H9, G, rfl⟩ := H
  obtain ⟨e8, e7, e1, e5⟩ := nn G.1
  have pl9 := pot_le hh H9
  refine fun mc ms post postX hmc hms hX hp => ?_
  exact k_ask R W G a1 a2 a3 a4 a5 a6 a7 a8 (by omega) (by omega) (hXa hX (by decide) xA_1) (hXa hX (by decide) xA_2) (hXa hX (by decide) xA_3) (fun hq ad' S' T' R' W' e en G' => hp hq S' (ST_mk R' W' (z_len_c (fun j => uf2_ask σ a1 a2 a3 a4 a5 a6 a7 a8 j)).symm (e 9 0 (by decide)) (e 13 0 (by decide)) (fun z => (e 20 0 (by decide)).trans (H5 z)) (fun z => by rw [e 20 0 (by decide)]; exact H6 z) (by show n 6 ≤ C; omega) (by rw [uf0_ask]; exact H8) H9 G' (by omega) (by omega) (by rw [en])))
theorem s_grant (H : ST e0 x o S σ μ C cap) (hC : C < 512) (a1 a2 : Int32) : CC (α := Int32) e0 x o S σ μ C cap (C + 1) (q_grant σ a1 a2 (σ 23 0).toNatClampNeg) (z_cost σ a1.toNatClampNeg) (u_grant σ a1 a2) (z_pay μ (σ 24 a1.toNatClampNeg).toNatClampNeg 5 (z_cost σ a1.toNatClampNeg)) xA (fun mc ms post postX => w_X8_grant x a1 a2 S mc ms post postX) := by
  have H0 := H
  obtain ⟨ad, n, pl, T, hh, R, W, rfl, rfl, H5, H6, H7, H8, H9, G, rfl⟩ := H
  obtain ⟨e8, e7, e1, e5⟩ := nn G.1
  have pl9 := pot_le hh H9
  rw [e8]
  obtain ⟨T', g, sw, ⟨c1, c2, c3⟩, k⟩ := k_grant G (by omega) a1 a2
  refine ⟨tN T' 12 0, c1, c2, c3, fun mc ms post postX hmc hms hX hp => ?_⟩
  refine k ad S mc ms post postX R (by omega) (by omega) (hXa hX (by decide) xA_1) (hXa hX (by decide) xA_2) (hXa hX (by decide) xA_3) (fun hq ad' S' R' e => hp hq S' (ST_mk R' (SW_J sw W) (z_len_c (fun j => uf2_grant σ a1 a2 j)).symm (e 9 0 (by decide)) (e 13 0 (by decide)) (fun z => (e 20 0 (by decide)).trans (H5 z)) (fun z => by rw [e 20 0 (by decide)]; exact H6 z) (by omega) (by rw [uf0_grant]; exact H8) H9 (g hq) (by omega) (by omega) rfl))
theorem s_refuse (H : ST e0 x o S σ μ C cap) (hC : C < 512) (a1 : Int32) : CD (α := Int32) e0 x o S (u_refuse σ a1) μ C cap (q_refuse σ a1) (σ 33 a1.toNatClampNeg) xQ (fun mc ms post postX => w_X8_refuse x a1 S mc ms post postX) := by
  have H0 := H
  obtain ⟨ad, n, pl, T, hh, R, W, rfl, rfl, H5, H6, H7, H8, H9, G, rfl⟩ := H
  obtain ⟨e8, e7, e1, e5⟩ := nn G.1
  have pl9 := pot_le hh H9
  refine fun mc ms post postX hmc hms hX hp => ?_
  exact k_refuse R G.1 a1 (by omega) (by omega) (hXa hX (by decide) xB_1) (hXa hX (by decide) xB_2) (fun hq S' R' => hp hq S' (ST_mk R' W (z_len_c (fun j => uf2_refuse σ a1 j)).symm rfl rfl H5 H6 (by omega) (by rw [uf0_refuse]; exact H8) H9 (gp_refuse G hq) (by omega) (by omega) rfl))
theorem s_vary (H : ST e0 x o S σ μ C cap) (hC : C < 512) (a1 a2 : Int32) : CD (α := Int32) e0 x o S (u_vary σ a1 a2) μ C cap (q_vary σ a1 a2) (σ 35 a1.toNatClampNeg + 1) xA (fun mc ms post postX => w_X8_vary x a1 a2 S mc ms post postX) := by
  have H0 := H
  obtain ⟨ad, n, pl, T, hh, R, W, rfl, rfl, H5, H6, H7, H8, H9, G, rfl⟩ := H
  obtain ⟨e8, e7, e1, e5⟩ := nn G.1
  have pl9 := pot_le hh H9
  refine fun mc ms post postX hmc hms hX hp => ?_
  exact k_vary R G.1 a1 a2 (by omega) (by omega) (hXa hX (by decide) xA_1) (hXa hX (by decide) xA_2) (hXa hX (by decide) xA_3) (fun hq S' R' => hp hq S' (ST_mk R' W (z_len_c (fun j => uf2_vary σ a1 a2 j)).symm rfl rfl H5 H6 (by omega) (by rw [uf0_vary]; exact H8) H9 (gp_vary G hq) (by omega) (by omega) rfl))
theorem s_exempt (H : ST e0 x o S σ μ C cap) (hC : C < 512) (a1 : Int32) : CD (α := Int32) e0 x o S (u_exempt σ a1) μ C cap (q_exempt σ a1) (iT (σ 38 a1.toNatClampNeg = 0) 1 0) xQ (fun mc ms post postX => w_X8_exempt x a1 S mc ms post postX) := by
  have H0 := H
  obtain ⟨ad, n, pl, T, hh, R, W, rfl, rfl, H5, H6, H7, H8, H9, G, rfl⟩ := H
  obtain ⟨e8, e7, e1, e5⟩ := nn G.1
  have pl9 := pot_le hh H9
  refine fun mc ms post postX hmc hms hX hp => ?_
  exact k_exempt R G.1 a1 (by omega) (by omega) (hXa hX (by decide) xB_1) (fun hq S' R' => hp hq S' (ST_mk R' W (z_len_c (fun j => uf2_exempt σ a1 j)).symm rfl rfl H5 H6 (by omega) (by rw [uf0_exempt]; exact H8) H9 (gp_exempt G hq) (by omega) (by omega) rfl))
theorem s_agree (H : ST e0 x o S σ μ C cap) (hC : C < 512) (a1 a2 : Int32) : CD (α := Int32) e0 x o S (u_agree σ a1 a2) μ C cap (q_agree σ a1 a2) (iT (σ 39 (24 * a1.toNatClampNeg + a2.toNatClampNeg) = 0) 1 0) xC (fun mc ms post postX => w_X8_agree x a1 a2 S mc ms post postX) := by
  have H0 := H
  obtain ⟨ad, n, pl, T, hh, R, W, rfl, rfl, H5, H6, H7, H8, H9, G, rfl⟩ := H
  obtain ⟨e8, e7, e1, e5⟩ := nn G.1
  have pl9 := pot_le hh H9
  refine fun mc ms post postX hmc hms hX hp => ?_
  exact k_agree R G a1 a2 (by omega) (by omega) (hXa hX (by decide) xC_1) (hXa hX (by decide) xC_2) (fun hq S' T' R' sm G' => hp hq S' (ST_mk R' (SW_J ⟨sm.1, sm.2.2⟩ W) (z_len_c (fun j => uf2_agree σ a1 a2 j)).symm rfl rfl H5 H6 (by omega) (by rw [uf0_agree]; exact H8) H9 G' (by omega) (by omega) (by rw [sm.2.1])))
theorem s_start (H : ST e0 x o S σ μ C cap) (hC : C < 512) (a1 : Int32) : CD (α := Int32) e0 x o S (u_start σ a1) μ C cap (q_start σ a1) (z_last σ a1.toNatClampNeg) xQ (fun mc ms post postX => w_X8_start x a1 S mc ms post postX) := by
  have H0 := H
  obtain ⟨ad, n, pl, T, hh, R, W, rfl, rfl, H5, H6, H7, H8, H9, G, rfl⟩ := H
  obtain ⟨e8, e7, e1, e5⟩ := nn G.1
  have pl9 := pot_le hh H9
  refine fun mc ms post postX hmc hms hX hp => ?_
  exact k_start R G.1 a1 (by omega) (by omega) (hXa hX (by decide) xB_1) (hXa hX (by decide) xB_2) (fun hq S' R' => hp hq S' (ST_mk R' W (z_len_c (fun j => uf2_start σ a1 j)).symm rfl rfl H5 H6 (by omega) (by rw [uf0_start]; exact H8) H9 (gp_start G hq) (by omega) (by omega) rfl))
theorem s_open (H : ST e0 x o S σ μ C cap) (hC : C < 512) (a1 a2 : Int32) : CC (α := Int32) e0 x o S σ μ C cap (C + 1) (q_open σ a1 a2 (σ 14 0).toNatClampNeg) (z_struck σ a1.toNatClampNeg a2 (σ 14 0).toNatClampNeg) (u_open σ a1 a2 (σ 14 0).toNatClampNeg) (m_open σ μ a1 a2 (σ 14 0).toNatClampNeg) xQ (fun mc ms post postX => w_X8_open x a1 a2 S mc ms post postX) := by
  have H0 := H
  obtain ⟨ad, n, pl, T, hh, R, W, rfl, rfl, H5, H6, H7, H8, H9, G, rfl⟩ := H
  obtain ⟨e8, e7, e1, e5⟩ := nn G.1
  have pl9 := pot_le hh H9
  rw [e7]
  obtain ⟨T', g, sw, ⟨c1, c2, c3⟩, k⟩ := k_open G (by omega) a1 a2
  refine ⟨tN T' 12 0, c1, c2, c3, fun mc ms post postX hmc hms hX hp => ?_⟩
  refine k ad S mc ms post postX R (by omega) (by omega) (hXa hX (by decide) xB_1) (hXa hX (by decide) xB_2) (fun hq ad' S' R' e => hp hq S' (ST_mk R' (SW_J sw W) (z_len_c (fun j => uf2_open σ a1 a2 (n 7) j)).symm (e 9 0 (by decide)) (e 13 0 (by decide)) (fun z => (e 20 0 (by decide)).trans (H5 z)) (fun z => by rw [e 20 0 (by decide)]; exact H6 z) (by omega) (by rw [uf0_open]; exact H8) H9 (g hq) (by omega) (by omega) rfl))
theorem s_fill (H : ST e0 x o S σ μ C cap) (hC : C < 512) (a1 a2 a3 : Int32) : CD (α := Int32) e0 x o S (u_fill σ a1 a2 a3) μ (C + 1) cap (q_fill σ a1 a2 a3) (nI (cN (fun k => u_fill σ a1 a2 a3 41 k = nI (z_at σ a1.toNatClampNeg a2)) ((σ 40 0).toNatClampNeg + 1))) xA (fun mc ms post postX => w_X8_fill e0 m0 x a1 a2 a3 S mc ms post postX) := by
  have H0 := H
  obtain ⟨ad, n, pl, T, hh, R, W, rfl, rfl, H5, H6, H7, H8, H9, G, rfl⟩ := H
  obtain ⟨e8, e7, e1, e5⟩ := nn G.1
  have pl9 := pot_le hh H9
  rw [e1]
  refine fun mc ms post postX hmc hms hX hp => ?_
  have n6 : nU (nU n 1) 6 6 = n 6 + 1 := nU_s _ _
  exact k_fill R W G (by omega) H5 H6 a1 a2 a3 (by omega) (by omega) (hXa hX (by decide) xA_1) (hXa hX (by decide) xA_2) (hXa hX (by decide) xA_3) (fun hq ad' S' T' R' W' e hne en G' => hp hq S' (ST_mk R' W' (z_len_c (fun j => uf2_fill σ a1 a2 a3 j)).symm (e 9 0 (by decide) (by decide) (by decide)) (e 13 0 (by decide) (by decide) (by decide)) (fun z => by omega) (fun _ => hne) (by omega) (by rw [uf0_fill]; exact H8) H9 G' (by omega) (by omega) (by rw [en])))
theorem s_plate (H : ST e0 x o S σ μ C cap) (hC : C < 512) (a1 : Int32) : CD (α := Int32) e0 x o S (u_plate σ a1) μ C cap (q_plate σ a1) (iT (σ 37 a1.toNatClampNeg = 0) 1 0) xQ (fun mc ms post postX => w_X8_plate x a1 S mc ms post postX) := by
  have H0 := H
  obtain ⟨ad, n, pl, T, hh, R, W, rfl, rfl, H5, H6, H7, H8, H9, G, rfl⟩ := H
  obtain ⟨e8, e7, e1, e5⟩ := nn G.1
  have pl9 := pot_le hh H9
  refine fun mc ms post postX hmc hms hX hp => ?_
  exact k_plate R G.1 a1 (by omega) (by omega) (hXa hX (by decide) xB_1) (hXa hX (by decide) xB_2) (fun hq S' R' => hp hq S' (ST_mk R' W (z_len_c (fun j => uf2_plate σ a1 j)).symm rfl rfl H5 H6 (by omega) (by rw [uf0_plate]; exact H8) H9 (gp_plate G hq) (by omega) (by omega) rfl))
theorem s_extend (H : ST e0 x o S σ μ C cap) (hC : C < 512) (a1 : Int32) : CD (α := Int32) e0 x o S (u_extend σ a1) μ C cap (q_extend σ a1 (σ 23 0).toNatClampNeg) (z_last σ a1.toNatClampNeg + 2) xQ (fun mc ms post postX => w_X8_extend x a1 S mc ms post postX) := by
  have H0 := H
  obtain ⟨ad, n, pl, T, hh, R, W, rfl, rfl, H5, H6, H7, H8, H9, G, rfl⟩ := H
  obtain ⟨e8, e7, e1, e5⟩ := nn G.1
  have pl9 := pot_le hh H9
  rw [e8]
  refine fun mc ms post postX hmc hms hX hp => ?_
  exact k_extend R G a1 (by omega) (by omega) (hXa hX (by decide) xB_1) (hXa hX (by decide) xB_2) (fun hq S' T' R' sm G' => hp hq S' (ST_mk R' (SW_J ⟨sm.1, sm.2.2⟩ W) (z_len_c (fun j => uf2_extend σ a1 j)).symm rfl rfl H5 H6 (by omega) (by rw [uf0_extend]; exact H8) H9 G' (by omega) (by omega) (by rw [sm.2.1])))
theorem s_stop (H : ST e0 x o S σ μ C cap) (hC : C < 512) (a1 : Int32) : CD (α := Int32) e0 x o S (u_stop σ a1) μ C cap (q_stop σ a1) (z_end σ a1.toNatClampNeg - z_last σ a1.toNatClampNeg) xQ (fun mc ms post postX => w_X8_stop x a1 S mc ms post postX) := by
  have H0 := H
  obtain ⟨ad, n, pl, T, hh, R, W, rfl, rfl, H5, H6, H7, H8, H9, G, rfl⟩ := H
  obtain ⟨e8, e7, e1, e5⟩ := nn G.1
  have pl9 := pot_le hh H9
  refine fun mc ms post postX hmc hms hX hp => ?_
  exact k_stop R G.1 a1 (by omega) (by omega) (hXa hX (by decide) xB_1) (hXa hX (by decide) xB_2) (fun hq S' R' => hp hq S' (ST_mk R' W (z_len_c (fun j => uf2_stop σ a1 j)).symm rfl rfl H5 H6 (by omega) (by rw [uf0_stop]; exact H8) H9 (gp_stop G hq) (by omega) (by omega) rfl))
theorem s_pass (H : ST e0 x o S σ μ C cap) (hC : C < 512) (a1 : Int32) : CC (α := Int32) e0 x o S σ μ C cap (C + 1) (q_pass σ a1) (σ 0 0 + a1) ((u_pass σ μ a1 (σ 1 0).toNatClampNeg (σ 23 0).toNatClampNeg).1) ((u_pass σ μ a1 (σ 1 0).toNatClampNeg (σ 23 0).toNatClampNeg).2) xE (fun mc ms post postX => w_X8_pass x a1 S mc ms post postX) := by
  have H0 := H
  obtain ⟨ad, n, pl, T, hh, R, W, rfl, rfl, H5, H6, H7, H8, H9, G, rfl⟩ := H
  obtain ⟨e8, e7, e1, e5⟩ := nn G.1
  have pl9 := pot_le hh H9
  rw [e5, e8]
  obtain ⟨T', g, sw, ⟨c1, c2, c3⟩, k⟩ := k_pass G H8 H9 (by omega) a1
  refine ⟨tN T' 12 0, c1, c2, c3, fun mc ms post postX hmc hms hX hp => ?_⟩
  refine k ad S mc ms post postX R (by omega) (by omega) (hXa hX (by decide) xE_1) (hXa hX (by decide) xE_2) (fun hq ad' S' R' e => hp hq S' ?_)
  obtain ⟨h', b9, b8, G'⟩ := g hq
  have hl : z_len σ = z_len (u_pass σ μ a1 (n 5) (n 8)).1 := by
    unfold u_pass
    rw [z_len_run]
    exact (z_len_c (fun j => by show up2 σ 49 0 0 2 j = _; rw [up2_f _ _ _ _ (by decide)])).symm
  exact ST_mk R' (SW_J sw W) hl (e 9 0 (by decide)) (e 13 0 (by decide)) (fun z => (e 20 0 (by decide)).trans (H5 z)) (fun z => by rw [e 20 0 (by decide)]; exact H6 z) (by omega) b8 b9 G' (by omega) (by omega) rfl
theorem s_defect (H : ST e0 x o S σ μ C cap) (hC : C < 512) (a1 a2 a3 : Int32) : CC (α := Int32) e0 x o S σ μ C cap (C + 1) (q_asks σ a1 a2 a3) (z_liab σ a1.toNatClampNeg (z_q a1 a2) a3 (σ 40 0).toNatClampNeg) (u_defect σ (z_liab σ a1.toNatClampNeg (z_q a1 a2) a3 (σ 40 0).toNatClampNeg)) (m_defect σ μ (z_liab σ a1.toNatClampNeg (z_q a1 a2) a3 (σ 40 0).toNatClampNeg)) xC (fun mc ms post postX => w_X8_defect x a1 a2 a3 S mc ms post postX) := by
  have H0 := H
  obtain ⟨ad, n, pl, T, hh, R, W, rfl, rfl, H5, H6, H7, H8, H9, G, rfl⟩ := H
  obtain ⟨e8, e7, e1, e5⟩ := nn G.1
  have pl9 := pot_le hh H9
  rw [e1]
  obtain ⟨T', g, sw, ⟨c1, c2, c3⟩, k⟩ := k_defect G (by omega) (by omega) a1 a2 a3
  refine ⟨tN T' 12 0, c1, c2, c3, fun mc ms post postX hmc hms hX hp => ?_⟩
  refine k ad S mc ms post postX R (by omega) (by omega) (hXa hX (by decide) xC_1) (hXa hX (by decide) xC_2) (fun hq ad' S' R' e => hp hq S' (ST_mk R' (SW_J sw W) (z_len_c (fun j => uf2_defect σ (z_liab σ a1.toNatClampNeg (z_q a1 a2) a3 (n 1)) j)).symm (e 9 0 (by decide)) (e 13 0 (by decide)) (fun z => (e 20 0 (by decide)).trans (H5 z)) (fun z => by rw [e 20 0 (by decide)]; exact H6 z) (by omega) (by rw [uf0_defect]; exact H8) H9 (g hq) (by omega) (by omega) rfl))
theorem s_core (H : ST e0 x o S σ μ C cap) (hC : C < 512) (a1 a2 : Int32) : CD (α := Int32) e0 x o S (u_core σ (z_lat σ a1 a2 (σ 40 0).toNatClampNeg).toNatClampNeg) μ (C + 1) cap (q_core σ a1 a2 (σ 40 0).toNatClampNeg) (σ 44 (z_lat σ a1 a2 (σ 40 0).toNatClampNeg).toNatClampNeg) xQ (fun mc ms post postX => w_X8_core x a1 a2 S mc ms post postX) := by
  have H0 := H
  obtain ⟨ad, n, pl, T, hh, R, W, rfl, rfl, H5, H6, H7, H8, H9, G, rfl⟩ := H
  obtain ⟨e8, e7, e1, e5⟩ := nn G.1
  have pl9 := pot_le hh H9
  rw [e1]
  refine fun mc ms post postX hmc hms hX hp => ?_
  exact k_core R G (by omega) a1 a2 (by omega) (by omega) (hXa hX (by decide) xB_1) (hXa hX (by decide) xB_2) (fun hq S' T' R' sm G' => hp hq S' (ST_mk R' (SW_J ⟨sm.1, sm.2.2⟩ W) (z_len_c (fun j => uf2_core σ (z_lat σ a1 a2 (n 1)).toNatClampNeg j)).symm rfl rfl H5 H6 (by omega) (by rw [uf0_core]; exact H8) H9 G' (by omega) (by omega) (by rw [sm.2.1])))
theorem s_liable (H : ST e0 x o S σ μ C cap) (hC : C < 512) (a1 a2 a3 : Int32) : CQ (α := Int32) S (q_asks σ a1 a2 a3) (z_liab σ a1.toNatClampNeg (z_q a1 a2) a3 (σ 40 0).toNatClampNeg) xC (fun mc ms post postX => w_X8_liable x a1 a2 a3 S mc ms post postX) := by
  have H0 := H
  obtain ⟨ad, n, pl, T, hh, R, W, rfl, rfl, H5, H6, H7, H8, H9, G, rfl⟩ := H
  obtain ⟨e8, e7, e1, e5⟩ := nn G.1
  have pl9 := pot_le hh H9
  rw [e1]
  refine fun mc ms post postX hmc hms hX hp => ?_
  exact k_liable R G.1 G.2.1 a1 a2 a3 (by omega) (by omega) (hXa hX (by decide) xC_1) (hXa hX (by decide) xC_2) hp
theorem s_liableAnew (H : ST e0 x o S σ μ C cap) (hC : C < 512) (a1 a2 a3 : Int32) : CQ (α := Int32) S (q_asks σ a1 a2 a3) (z_liab σ a1.toNatClampNeg (z_q a1 a2) a3 (σ 40 0).toNatClampNeg) xC (fun mc ms post postX => w_X8_liableAnew x a1 a2 a3 S mc ms post postX) := by
  have H0 := H
  obtain ⟨ad, n, pl, T, hh, R, W, rfl, rfl, H5, H6, H7, H8, H9, G, rfl⟩ := H
  obtain ⟨e8, e7, e1, e5⟩ := nn G.1
  have pl9 := pot_le hh H9
  rw [e1]
  refine fun mc ms post postX hmc hms hX hp => ?_
  exact k_liableAnew R W G a1 a2 a3 (by omega) (by omega) (hXa hX (by decide) xC_1) (hXa hX (by decide) xC_2) hp
theorem s_bars (H : ST e0 x o S σ μ C cap) (hC : C < 512) (a1 : Int32) : CQ (α := Int32) S (q_wk σ a1) (z_bars σ a1.toNatClampNeg (σ 23 0).toNatClampNeg) xQ (fun mc ms post postX => w_X8_bars x a1 S mc ms post postX) := by
  have H0 := H
  obtain ⟨ad, n, pl, T, hh, R, W, rfl, rfl, H5, H6, H7, H8, H9, G, rfl⟩ := H
  obtain ⟨e8, e7, e1, e5⟩ := nn G.1
  have pl9 := pot_le hh H9
  rw [e8]
  refine fun mc ms post postX hmc hms hX hp => ?_
  exact k_bars R G.1 a1 (by omega) (by omega) (hXa hX (by decide) xB_1) hp
theorem s_meets (H : ST e0 x o S σ μ C cap) (hC : C < 512) (a1 a2 : Int32) : CQ (α := Int32) S (q_meets σ a1 a2) (z_meets σ a1.toNatClampNeg a2 (σ 23 0).toNatClampNeg) xC (fun mc ms post postX => w_X8_meets x a1 a2 S mc ms post postX) := by
  have H0 := H
  obtain ⟨ad, n, pl, T, hh, R, W, rfl, rfl, H5, H6, H7, H8, H9, G, rfl⟩ := H
  obtain ⟨e8, e7, e1, e5⟩ := nn G.1
  have pl9 := pot_le hh H9
  rw [e8]
  refine fun mc ms post postX hmc hms hX hp => ?_
  exact k_meets R G.1 a1 a2 (by omega) (by omega) (hXa hX (by decide) xC_1) (hXa hX (by decide) xC_2) hp
theorem s_of (H : ST e0 x o S σ μ C cap) (hC : C < 512) (a1 a2 : Int32) : CQ (α := Int32) S (q_of σ a1 a2) (z_what σ a1.toNatClampNeg a2) xC (fun mc ms post postX => w_X8_of x a1 a2 S mc ms post postX) := by
  have H0 := H
  obtain ⟨ad, n, pl, T, hh, R, W, rfl, rfl, H5, H6, H7, H8, H9, G, rfl⟩ := H
  obtain ⟨e8, e7, e1, e5⟩ := nn G.1
  have pl9 := pot_le hh H9
  refine fun mc ms post postX hmc hms hX hp => ?_
  exact k_of R G.1 a1 a2 (by omega) (by omega) (hXa hX (by decide) xC_1) (hXa hX (by decide) xC_2) hp
theorem s_metre (H : ST e0 x o S σ μ C cap) (hC : C < 512) (a1 a2 a3 : Int32) : CQ (α := Int32) S (q_metre σ a1 a2 a3) (z_mwhat σ a1 a2 a3 (σ 14 0).toNatClampNeg (σ 40 0).toNatClampNeg) xC (fun mc ms post postX => w_X8_metre x a1 a2 a3 S mc ms post postX) := by
  have H0 := H
  obtain ⟨ad, n, pl, T, hh, R, W, rfl, rfl, H5, H6, H7, H8, H9, G, rfl⟩ := H
  obtain ⟨e8, e7, e1, e5⟩ := nn G.1
  have pl9 := pot_le hh H9
  rw [e7, e1]
  refine fun mc ms post postX hmc hms hX hp => ?_
  exact k_metre R G.1 a1 a2 a3 (by omega) (by omega) (hXa hX (by decide) xC_1) (hXa hX (by decide) xC_2) hp
theorem s_search (H : ST e0 x o S σ μ C cap) (hC : C < 512) (a1 a2 a3 : Int32) : CQ (α := Int32) S (q_search σ a1 a2 a3) (z_srch (z_sr σ a1 a2 a3) (σ 14 0).toNatClampNeg) xC (fun mc ms post postX => w_X8_search x a1 a2 a3 S mc ms post postX) := by
  have H0 := H
  obtain ⟨ad, n, pl, T, hh, R, W, rfl, rfl, H5, H6, H7, H8, H9, G, rfl⟩ := H
  obtain ⟨e8, e7, e1, e5⟩ := nn G.1
  have pl9 := pot_le hh H9
  rw [e7]
  refine fun mc ms post postX hmc hms hX hp => ?_
  exact k_search R G.1 a1 a2 a3 (by omega) (by omega) (hXa hX (by decide) xC_1) (hXa hX (by decide) xC_2) hp
theorem s_queue (H : ST e0 x o S σ μ C cap) (hC : C < 512) (a1 : Int32) : CQ (α := Int32) S (q_st σ a1) (σ 10 a1.toNatClampNeg) xQ (fun mc ms post postX => w_X8_queue x a1 S mc ms post postX) := by
  have H0 := H
  obtain ⟨ad, n, pl, T, hh, R, W, rfl, rfl, H5, H6, H7, H8, H9, G, rfl⟩ := H
  obtain ⟨e8, e7, e1, e5⟩ := nn G.1
  have pl9 := pot_le hh H9
  refine fun mc ms post postX hmc hms hX hp => ?_
  exact k_queue R G.1 a1 (by omega) (by omega) (hXa hX (by decide) xB_1) hp
theorem s_due (H : ST e0 x o S σ μ C cap) (hC : C < 512) (a1 : Int32) : CQ (α := Int32) S (q_pr a1) (z_due σ a1 (σ 40 0).toNatClampNeg) xQ (fun mc ms post postX => w_X8_due x a1 S mc ms post postX) := by
  have H0 := H
  obtain ⟨ad, n, pl, T, hh, R, W, rfl, rfl, H5, H6, H7, H8, H9, G, rfl⟩ := H
  obtain ⟨e8, e7, e1, e5⟩ := nn G.1
  have pl9 := pot_le hh H9
  rw [e1]
  refine fun mc ms post postX hmc hms hX hp => ?_
  exact k_due R G.1 G.2.2.2.1 (fun p => by have := G.2.2.2.2.2.2.2.2.2.2.2.2.2.2.2 p; omega) a1 (by omega) (by omega) (hXa hX (by decide) xB_1) hp
theorem s_money (H : ST e0 x o S σ μ C cap) (hC : C < 512) (a1 : Int32) : CQ (α := Int64) S (q_mo a1) (μ a1.toNatClampNeg) xQ (fun mc ms post postX => w_X8_money x a1 S mc ms post postX) := by
  have H0 := H
  obtain ⟨ad, n, pl, T, hh, R, W, rfl, rfl, H5, H6, H7, H8, H9, G, rfl⟩ := H
  obtain ⟨e8, e7, e1, e5⟩ := nn G.1
  have pl9 := pot_le hh H9
  refine fun mc ms post postX hmc hms hX hp => ?_
  exact k_money R G.1 G.2.2.2.1 a1 (by omega) (by omega) (hXa hX (by decide) xB_1) hp
theorem s_moneyAnew (H : ST e0 x o S σ μ C cap) (hC : C < 512) (a1 : Int32) : CQ (α := Int64) S (q_mo a1) (μ a1.toNatClampNeg) xQ (fun mc ms post postX => w_X8_moneyAnew x a1 S mc ms post postX) := by
  have H0 := H
  obtain ⟨ad, n, pl, T, hh, R, W, rfl, rfl, H5, H6, H7, H8, H9, G, rfl⟩ := H
  obtain ⟨e8, e7, e1, e5⟩ := nn G.1
  have pl9 := pot_le hh H9
  refine fun mc ms post postX hmc hms hX hp => ?_
  exact k_moneyAnew R G a1 (by omega) (by omega) (hXa hX (by decide) xB_1) hp
end C
