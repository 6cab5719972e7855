/-! what is to be refused is refused, and changes nothing -/
theorem tl_1 : (1 : Int32).toInt = 1 := by decide
theorem tl_2 : (2 : Int32).toInt = 2 := by decide
theorem tl_3 : (3 : Int32).toInt = 3 := by decide
theorem tl_4 : (4 : Int32).toInt = 4 := by decide
theorem tl_5 : (5 : Int32).toInt = 5 := by decide
theorem tl_6 : (6 : Int32).toInt = 6 := by decide
theorem tl_7 : (7 : Int32).toInt = 7 := by decide
theorem tl_8 : (8 : Int32).toInt = 8 := by decide
theorem tl_9 : (9 : Int32).toInt = 9 := by decide
theorem tl_10 : (10 : Int32).toInt = 10 := by decide
theorem tl_11 : (11 : Int32).toInt = 11 := by decide
theorem tl_24 : (24 : Int32).toInt = 24 := by decide
theorem tl_30 : (30 : Int32).toInt = 30 := by decide
theorem tl_40 : (40 : Int32).toInt = 40 := by decide
theorem tl_41 : (41 : Int32).toInt = 41 := by decide
theorem tl_47 : (47 : Int32).toInt = 47 := by decide
theorem tl_50 : (50 : Int32).toInt = 50 := by decide
theorem tl_60 : (60 : Int32).toInt = 60 := by decide
theorem tl_61 : (61 : Int32).toInt = 61 := by decide
theorem tl_99 : (99 : Int32).toInt = 99 := by decide
theorem tl_100 : (100 : Int32).toInt = 100 := by decide
theorem tl_101 : (101 : Int32).toInt = 101 := by decide
theorem tl_200 : (200 : Int32).toInt = 200 := by decide
theorem tl_201 : (201 : Int32).toInt = 201 := by decide
theorem tl_240 : (240 : Int32).toInt = 240 := by decide
theorem tl_300 : (300 : Int32).toInt = 300 := by decide
theorem tl_301 : (301 : Int32).toInt = 301 := by decide
theorem tl_999 : (999 : Int32).toInt = 999 := by decide
theorem tl_1000 : (1000 : Int32).toInt = 1000 := by decide
theorem tl_m1 : (-1 : Int32).toInt = -1 := by decide
theorem tl_m2 : (-2 : Int32).toInt = -2 := by decide
section REF
variable {e0 m0 x o m s w : Nat} {S M : PT} {σ : SG} {μ : MU} {C cap t : Nat} {n : Nat → Nat} {h : Nat}
theorem rq_street1 {d : Int32} (h1 : ¬ d = -1) (h2 : ¬ (0 ≤ d ∧ d ≤ σ 1 0 - 1)) (a b c : Int32) : q_street σ a b c d = 1 := iT_T ⟨h1, h2⟩
theorem rq_street2 {a b c : Int32} (hh : ¬ ((1 ≤ a ∧ a ≤ 40) ∧ (0 ≤ b ∧ b ≤ 3) ∧ 0 ≤ c ∧ c ≤ 999)) : q_street σ a b c (-1) = 2 := by unfold q_street; rw [iT_F (fun z => z.1 rfl), iT_T hh]
theorem rq_emb2 {a b c : Int32} (h1 : 0 ≤ a ∧ a ≤ σ 1 0 - 1) (hh : ¬ ((0 ≤ b ∧ b ≤ 999) ∧ b ≤ c ∧ c ≤ 999)) : q_embargo σ a b c = 2 := by unfold q_embargo; rw [iT_F (fun z => z h1), iT_T hh]
theorem rq_thing2 {a b c d e : Int32} (h1 : (0 ≤ a ∧ a ≤ 4) ∧ z_mt σ b c ∧ z_mt σ b d) (hh : ¬ (¬ d < c ∧ 10 ≤ e ∧ e ≤ 300)) : q_thing σ a b c d e = 2 := by unfold q_thing; rw [iT_F (fun z => z h1), iT_T hh]
theorem rq_pass1 {a : Int32} (hh : ¬ (1 ≤ a ∧ a ≤ 200)) : q_pass σ a = 1 := iT_T hh
theorem rq_asks2 {a b c : Int32} (h1 : z_mt σ a b) (hh : ¬ (0 ≤ c ∧ c ≤ 300)) : q_asks σ a b c = 2 := by unfold q_asks; rw [iT_F (fun z => z h1), iT_T hh]
theorem rq_ask2a {a b c d e f g i : Int32} (h1 : (0 ≤ a ∧ a ≤ 4) ∧ z_mt σ b c ∧ z_mt σ b d) (hh : ¬ (¬ d < c ∧ (10 ≤ e ∧ e ≤ 300) ∧ (0 ≤ f ∧ f ≤ 3) ∧ 1 ≤ i ∧ i ≤ 60)) : q_ask σ a b c d e f g i = 2 := by unfold q_ask; rw [iT_F (fun z => z h1), iT_T hh]
theorem rq_ask2b {a b c d e f g i : Int32} (h1 : (0 ≤ a ∧ a ≤ 4) ∧ z_mt σ b c ∧ z_mt σ b d) (h2 : ¬ d < c ∧ (10 ≤ e ∧ e ≤ 300) ∧ (0 ≤ f ∧ f ≤ 3) ∧ 1 ≤ i ∧ i ≤ 60) (hh : ¬ (z_today σ + z_note f (σ 3 b.toNatClampNeg) ≤ g ∧ g ≤ 999)) : q_ask σ a b c d e f g i = 2 := by unfold q_ask; rw [iT_F (fun z => z h1), iT_F (fun z => z h2), iT_T hh]
theorem rq_metre2 {a b c : Int32} (h1 : z_mt σ a b) (hh : ¬ (0 ≤ c ∧ c ≤ 3)) : q_metre σ a b c = 2 := by unfold q_metre; rw [iT_F (fun z => z h1), iT_T hh]
theorem rq_search2 {a b c : Int32} (h1 : z_mt σ a b ∧ z_mt σ a c) (hh : ¬ b ≤ c) : q_search σ a b c = 2 := by unfold q_search; rw [iT_F (fun z => z h1), iT_T hh]
theorem rq_grant2 {a b : Int32} (h1 : 0 ≤ a ∧ a ≤ σ 23 0 - 1) (hh : ¬ (0 ≤ b ∧ b ≤ 3)) (nW : Nat) : q_grant σ a b nW = 2 := by unfold q_grant; rw [iT_F (fun z => z h1), iT_T hh]
theorem rq_vary2 {a b : Int32} (h1 : 0 ≤ a ∧ a ≤ σ 23 0 - 1) (hh : ¬ (0 ≤ b ∧ b ≤ 3)) : q_vary σ a b = 2 := by unfold q_vary; rw [iT_F (fun z => z h1), iT_T hh]
theorem rq_agree2 {a : Int32} (h1 : 0 ≤ a ∧ a ≤ σ 23 0 - 1) : q_agree σ a a = 2 := by unfold q_agree; rw [iT_F (fun z => z ⟨h1, h1⟩), iT_T rfl]
theorem rq_fill2 {a b c : Int32} (h1 : z_of σ a b) (hh : ¬ (0 ≤ c ∧ c ≤ 100)) : q_fill σ a b c = 2 := by unfold q_fill; rw [iT_F (fun z => z h1), iT_T hh]
theorem rq_meets2 {a b : Int32} (h1 : 0 ≤ a ∧ a ≤ σ 23 0 - 1) (hh : ¬ 0 ≤ b) : q_meets σ a b = 2 := by unfold q_meets; rw [iT_F (fun z => z h1), iT_T hh]
theorem rq_of2 {a b : Int32} (h1 : 0 ≤ a ∧ a ≤ σ 23 0 - 1) (hh : ¬ (0 ≤ b ∧ b ≤ 7)) : q_of σ a b = 2 := by unfold q_of; rw [iT_F (fun z => z h1), iT_T hh]
theorem p_04 : (0 : Int32) ≤ 0 ∧ (0 : Int32) ≤ 4 := ⟨by decide, by decide⟩
theorem note_ge (k g : Int32) (hk : k = 0 ∨ k = 1 ∨ k = 2) : 3 ≤ (z_note k g).toInt ∧ (z_note k g).toInt ≤ 40 := by
  unfold z_note
  generalize hA : iT (k = 0) (20 : Int32) (iT (k = 1) 8 (iT (k = 2) 3 0)) = A
  have h9 : A = 20 ∨ A = 8 ∨ A = 3 := by
    rcases hk with rfl | rfl | rfl
    · exact Or.inl (hA.symm.trans (iT_T rfl))
    · exact Or.inr (Or.inl (hA.symm.trans ((iT_F (by decide)).trans (iT_T rfl))))
    · exact Or.inr (Or.inr (hA.symm.trans ((iT_F (by decide)).trans ((iT_F (by decide)).trans (iT_T rfl)))))
  rcases h9 with rfl | rfl | rfl
  · exact iT_ind (fun y : Int32 => 3 ≤ y.toInt ∧ y.toInt ≤ 40) (fun _ => by decide) (fun _ => by decide)
  · exact iT_ind (fun y : Int32 => 3 ≤ y.toInt ∧ y.toInt ≤ 40) (fun _ => by decide) (fun _ => by decide)
  · exact iT_ind (fun y : Int32 => 3 ≤ y.toInt ∧ y.toInt ≤ 40) (fun _ => by decide) (fun _ => by decide)
theorem note_0 (k g : Int32) (h0 : ¬ k = 0) (h1 : ¬ k = 1) (h2 : ¬ k = 2) : z_note k g = 0 := by
  unfold z_note
  rw [iT_F h0, iT_F h1, iT_F h2]
  exact iT_ind (fun y : Int32 => y = 0) (fun _ => rfl) (fun _ => by decide)
theorem note_3 (g : Int32) : z_note 3 g = 0 := note_0 3 g (by decide) (by decide) (by decide)
theorem note_le (k g : Int32) : 0 ≤ (z_note k g).toInt ∧ (z_note k g).toInt ≤ 40 := by
  by_cases hk : k = 0 ∨ k = 1 ∨ k = 2
  · have := note_ge k g hk; omega
  · rw [note_0 k g (fun z => hk (Or.inl z)) (fun z => hk (Or.inr (Or.inl z))) (fun z => hk (Or.inr (Or.inr z)))]
    exact ⟨by decide, by decide⟩
theorem today_nI (F : SF σ n h) : z_today σ = nI (h / 24) ∧ σ 0 0 / 24 = nI (h / 24) := by
  have e : σ 0 0 / 24 = nI (h / 24) := by rw [F.2.1]; exact idiv_nI (b := 24) (by have := F.2.2.1; omega) (by omega) (by omega)
  exact ⟨e, e⟩
set_option maxHeartbeats 4000000 in
theorem ref1_h (H : ST e0 x o S σ μ C cap) (hC : C < 512) (hd : dis S M) (F : SF σ n h) {v : Int32} {r : Nat} (hr : r < 30) (eR : (v - v / 30 * 30).toInt = r) {vs vt vi vf d : Int32} {f : Int64} (hs : ¬ (0 ≤ vs ∧ vs ≤ σ 1 0 - 1)) (ht : ¬ (0 ≤ vt ∧ vt ≤ σ 14 0 - 1)) (hi : ¬ (0 ≤ vi ∧ vi ≤ σ 23 0 - 1)) (hf : ¬ (0 ≤ vf ∧ vf ≤ 4)) (h1 : ¬ d = -1) (h2 : ¬ (0 ≤ d ∧ d ≤ σ 1 0 - 1)) {mc ms : Nat} {post : Int32 → PT → Prop} {c0 n0 : Nat} (hc : c0 + 2400 ≤ mc) (hn : n0 + 80000 ≤ ms) (k : ∀ c1 n1, c1 ≤ c0 + 2400 → n1 ≤ n0 + 80000 → w_L_isRefused_b733 e0 m0 (some x) (some m) (some s) (some w) v mc ms post c1 n1 (ov S M) 0 vi vf f 1) : w_L_isRefused_b154 e0 m0 (some x) (some m) (some s) (some w) v mc ms post c0 n0 (ov S M) 0 vs vt vi vf f (some x) 0 5 0 0 d := by
  unfold w_L_isRefused_b154
  refine ⟨by omega, by omega, ?_⟩
  refine ⟨60, 2000, by omega, by omega, ra_street H hC hd _ _ _ _ _ (rq_street1 h1 h2 _ _ _) (by decide) cA_1 _ _ _ (Nat.le_refl _) (Nat.le_refl _) ⟨fun z => absurd rfl z, fun _ => ?_⟩⟩
  refine ⟨fun _ => ?_, fun z => absurd rfl z⟩
  unfold w_L_isRefused_b182
  refine ⟨by omega, by omega, ?_⟩
  refine ⟨60, 2000, by omega, by omega, off_ok (Nat.le_refl _) (Nat.le_refl _) (ra_street H hC hd _ _ _ _ _ (rq_street2 (by simp only [eR, ile, ilt, ieq, tadd, tsub, tmul, I0, tl_m1, tl_m2, tl_1, tl_2, tl_3, tl_4, tl_5, tl_6, tl_7, tl_8, tl_9, tl_10, tl_11, tl_24, tl_30, tl_40, tl_41, tl_47, tl_50, tl_60, tl_61, tl_99, tl_100, tl_101, tl_200, tl_201, tl_240, tl_300, tl_301, tl_999, tl_1000]; omega)) (by decide) cA_2) ⟨fun z => absurd z (by decide), fun _ => ?_⟩⟩
  refine ⟨fun _ => ?_, fun z => absurd rfl z⟩
  unfold w_L_isRefused_b211
  refine ⟨by omega, by omega, ?_⟩
  refine ⟨60, 2000, by omega, by omega, off_ok (Nat.le_refl _) (Nat.le_refl _) (ra_street H hC hd _ _ _ _ _ (rq_street2 (by simp only [eR, ile, ilt, ieq, tadd, tsub, tmul, I0, tl_m1, tl_m2, tl_1, tl_2, tl_3, tl_4, tl_5, tl_6, tl_7, tl_8, tl_9, tl_10, tl_11, tl_24, tl_30, tl_40, tl_41, tl_47, tl_50, tl_60, tl_61, tl_99, tl_100, tl_101, tl_200, tl_201, tl_240, tl_300, tl_301, tl_999, tl_1000]; omega)) (by decide) cA_2) ⟨fun z => absurd z (by decide), fun _ => ?_⟩⟩
  refine ⟨fun _ => ?_, fun z => absurd rfl z⟩
  unfold w_L_isRefused_b242
  refine ⟨by omega, by omega, ?_⟩
  refine ⟨60, 2000, by omega, by omega, off_ok (Nat.le_refl _) (Nat.le_refl _) (ra_street H hC hd _ _ _ _ _ (rq_street2 (by simp only [eR, ile, ilt, ieq, tadd, tsub, tmul, I0, tl_m1, tl_m2, tl_1, tl_2, tl_3, tl_4, tl_5, tl_6, tl_7, tl_8, tl_9, tl_10, tl_11, tl_24, tl_30, tl_40, tl_41, tl_47, tl_50, tl_60, tl_61, tl_99, tl_100, tl_101, tl_200, tl_201, tl_240, tl_300, tl_301, tl_999, tl_1000]; omega)) (by decide) cA_2) ⟨fun z => absurd z (by decide), fun _ => ?_⟩⟩
  refine ⟨60, 2000, by omega, by omega, no_ok (Nat.le_refl _) (Nat.le_refl _) (ra_surface H hC hd _ _ _ _ _ (by unfold q_surface; exact iT_T hs) (by decide) cQ_1) ⟨fun z => absurd z (by decide), fun _ => ?_⟩⟩
  refine ⟨60, 2000, by omega, by omega, no_ok (Nat.le_refl _) (Nat.le_refl _) (ra_embargo H hC hd _ _ _ _ _ (by unfold q_embargo; exact iT_T hs) (by decide) cC_1) ⟨fun z => absurd z (by decide), fun _ => ?_⟩⟩
  refine ⟨60, 2000, by omega, by omega, ra_thing H hC hd _ _ _ _ _ (by unfold q_thing; exact iT_T (fun z => hs z.2.1.1)) (by decide) cA_1 _ _ _ (Nat.le_refl _) (Nat.le_refl _) ⟨fun z => absurd rfl z, fun _ => ?_⟩⟩
  refine ⟨60, 2000, by omega, by omega, ra_record H hC hd _ _ _ _ _ (by unfold q_record; exact iT_T (fun z => ht z.1)) (by decide) cC_1 _ _ _ (Nat.le_refl _) (Nat.le_refl _) ⟨fun z => absurd rfl z, fun _ => ?_⟩⟩
  refine ⟨60, 2000, by omega, by omega, no_ok (Nat.le_refl _) (Nat.le_refl _) (ra_lose H hC hd _ _ _ _ _ (by unfold q_lose; exact iT_T ht) (by decide) cQ_1) ⟨fun z => absurd z (by decide), fun _ => ?_⟩⟩
  refine ⟨60, 2000, by omega, by omega, no_ok (Nat.le_refl _) (Nat.le_refl _) (ra_survey H hC hd _ _ _ _ _ (by unfold q_survey; exact iT_T ht) (by decide) cQ_1) ⟨fun z => absurd z (by decide), fun _ => ?_⟩⟩
  refine ⟨60, 2000, by omega, by omega, no_ok (Nat.le_refl _) (Nat.le_refl _) (ra_trial H hC hd _ _ _ _ _ (by unfold q_trial; exact iT_T (fun z => hs z.1)) (by decide) cQ_1) ⟨fun z => absurd z (by decide), fun _ => ?_⟩⟩
  refine ⟨60, 2000, by omega, by omega, no_ok (Nat.le_refl _) (Nat.le_refl _) (ra_grant H hC hd _ _ _ _ _ (by unfold q_grant; exact iT_T hi) (by decide) cA_1) ⟨fun z => absurd z (by decide), fun _ => ?_⟩⟩
  refine ⟨60, 2000, by omega, by omega, no_ok (Nat.le_refl _) (Nat.le_refl _) (ra_refuse H hC hd _ _ _ _ _ (by unfold q_refuse; exact iT_T hi) (by decide) cQ_1) ⟨fun z => absurd z (by decide), fun _ => ?_⟩⟩
  refine ⟨60, 2000, by omega, by omega, no_ok (Nat.le_refl _) (Nat.le_refl _) (ra_vary H hC hd _ _ _ _ _ (by unfold q_vary; exact iT_T hi) (by decide) cA_1) ⟨fun z => absurd z (by decide), fun _ => ?_⟩⟩
  refine ⟨60, 2000, by omega, by omega, no_ok (Nat.le_refl _) (Nat.le_refl _) (ra_exempt H hC hd _ _ _ _ _ (by unfold q_exempt; exact iT_T hi) (by decide) cQ_1) ⟨fun z => absurd z (by decide), fun _ => ?_⟩⟩
  refine ⟨60, 2000, by omega, by omega, no_ok (Nat.le_refl _) (Nat.le_refl _) (ra_agree H hC hd _ _ _ _ _ (by unfold q_agree; exact iT_T (fun z => hi z.1)) (by decide) cC_1) ⟨fun z => absurd z (by decide), fun _ => ?_⟩⟩
  refine ⟨60, 2000, by omega, by omega, no_ok (Nat.le_refl _) (Nat.le_refl _) (ra_start H hC hd _ _ _ _ _ (by unfold q_start; exact iT_T hi) (by decide) cQ_1) ⟨fun z => absurd z (by decide), fun _ => ?_⟩⟩
  refine ⟨60, 2000, by omega, by omega, no_ok (Nat.le_refl _) (Nat.le_refl _) (ra_open H hC hd _ _ _ _ _ (by unfold q_open; exact iT_T (fun z => hi z.1)) (by decide) cQ_1) ⟨fun z => absurd z (by decide), fun _ => ?_⟩⟩
  refine ⟨60, 2000, by omega, by omega, no_ok (Nat.le_refl _) (Nat.le_refl _) (ra_fill H hC hd _ _ _ _ _ (by unfold q_fill; exact iT_T (fun z => hi z.1)) (by decide) cA_1) ⟨fun z => absurd z (by decide), fun _ => ?_⟩⟩
  refine ⟨60, 2000, by omega, by omega, no_ok (Nat.le_refl _) (Nat.le_refl _) (ra_plate H hC hd _ _ _ _ _ (by unfold q_plate; exact iT_T hi) (by decide) cQ_1) ⟨fun z => absurd z (by decide), fun _ => ?_⟩⟩
  refine ⟨60, 2000, by omega, by omega, no_ok (Nat.le_refl _) (Nat.le_refl _) (ra_extend H hC hd _ _ _ _ _ (by unfold q_extend; exact iT_T hi) (by decide) cQ_1) ⟨fun z => absurd z (by decide), fun _ => ?_⟩⟩
  refine ⟨60, 2000, by omega, by omega, no_ok (Nat.le_refl _) (Nat.le_refl _) (ra_stop H hC hd _ _ _ _ _ (by unfold q_stop; exact iT_T hi) (by decide) cQ_1) ⟨fun z => absurd z (by decide), fun _ => ?_⟩⟩
  refine ⟨fun _ => ?_, fun z => absurd rfl z⟩
  unfold w_L_isRefused_b514
  refine ⟨by omega, by omega, ?_⟩
  refine ⟨60, 2000, by omega, by omega, off_ok (Nat.le_refl _) (Nat.le_refl _) (ra_pass H hC hd _ _ _ _ _ (rq_pass1 (by simp only [eR, ile, ilt, ieq, tadd, tsub, tmul, I0, tl_m1, tl_m2, tl_1, tl_2, tl_3, tl_4, tl_5, tl_6, tl_7, tl_8, tl_9, tl_10, tl_11, tl_24, tl_30, tl_40, tl_41, tl_47, tl_50, tl_60, tl_61, tl_99, tl_100, tl_101, tl_200, tl_201, tl_240, tl_300, tl_301, tl_999, tl_1000]; omega)) (by decide) cE_1) ⟨fun z => absurd z (by decide), fun _ => ?_⟩⟩
  refine ⟨60, 2000, by omega, by omega, no_ok (Nat.le_refl _) (Nat.le_refl _) (ra_defect H hC hd _ _ _ _ _ (by unfold q_asks; exact iT_T (fun z => hs z.1)) (by decide) cC_1) ⟨fun z => absurd z (by decide), fun _ => ?_⟩⟩
  refine ⟨60, 2000, by omega, by omega, no_ok (Nat.le_refl _) (Nat.le_refl _) (ra_core H hC hd _ _ _ _ _ (by unfold q_core; exact iT_T (fun z => hs z.1)) (by decide) cQ_1) ⟨fun z => absurd z (by decide), fun _ => ?_⟩⟩
  refine ⟨60, 2000, by omega, by omega, no_ok (Nat.le_refl _) (Nat.le_refl _) (ra_liable H hC hd _ _ _ _ _ (by unfold q_asks; exact iT_T (fun z => hs z.1)) (by decide) cC_1) ⟨fun z => absurd z (by decide), fun _ => ?_⟩⟩
  refine ⟨60, 2000, by omega, by omega, no_ok (Nat.le_refl _) (Nat.le_refl _) (ra_liableAnew H hC hd _ _ _ _ _ (by unfold q_asks; exact iT_T (fun z => hs z.1)) (by decide) cC_1) ⟨fun z => absurd z (by decide), fun _ => ?_⟩⟩
  refine ⟨60, 2000, by omega, by omega, no_ok (Nat.le_refl _) (Nat.le_refl _) (ra_bars H hC hd _ _ _ _ _ (by unfold q_wk; exact iT_T hi) (by decide) cQ_1) ⟨fun z => absurd z (by decide), fun _ => ?_⟩⟩
  refine ⟨60, 2000, by omega, by omega, no_ok (Nat.le_refl _) (Nat.le_refl _) (ra_meets H hC hd _ _ _ _ _ (by unfold q_meets; exact iT_T hi) (by decide) cC_1) ⟨fun z => absurd z (by decide), fun _ => ?_⟩⟩
  refine ⟨60, 2000, by omega, by omega, no_ok (Nat.le_refl _) (Nat.le_refl _) (ra_of H hC hd _ _ _ _ _ (by unfold q_of; exact iT_T hi) (by decide) cC_1) ⟨fun z => absurd z (by decide), fun _ => ?_⟩⟩
  refine ⟨60, 2000, by omega, by omega, no_ok (Nat.le_refl _) (Nat.le_refl _) (ra_metre H hC hd _ _ _ _ _ (by unfold q_metre; exact iT_T (fun z => hs z.1)) (by decide) cC_1) ⟨fun z => absurd z (by decide), fun _ => ?_⟩⟩
  refine ⟨60, 2000, by omega, by omega, no_ok (Nat.le_refl _) (Nat.le_refl _) (ra_search H hC hd _ _ _ _ _ (by unfold q_search; exact iT_T (fun z => hs z.1.1)) (by decide) cC_1) ⟨fun z => absurd z (by decide), fun _ => ?_⟩⟩
  refine ⟨60, 2000, by omega, by omega, no_ok (Nat.le_refl _) (Nat.le_refl _) (ra_queue H hC hd _ _ _ _ _ (by unfold q_st; exact iT_T hs) (by decide) cQ_1) ⟨fun z => absurd z (by decide), fun _ => ?_⟩⟩
  refine ⟨60, 2000, by omega, by omega, no_ok (Nat.le_refl _) (Nat.le_refl _) (ra_due H hC hd _ _ _ _ _ (by unfold q_pr; exact iT_T hf) (by decide) cQ_1) ⟨fun z => absurd z (by decide), fun _ => ?_⟩⟩
  refine ⟨fun _ => ?_, fun z => absurd rfl z⟩
  unfold w_L_isRefused_b701
  refine ⟨by omega, by omega, ?_⟩
  refine ⟨60, 2000, by omega, by omega, no_ok (Nat.le_refl _) (Nat.le_refl _) (ra_money H hC hd _ _ _ _ _ (by unfold q_mo; exact iT_T (by simp only [eR, ile, ilt, ieq, tadd, tsub, tmul, I0, tl_m1, tl_m2, tl_1, tl_2, tl_3, tl_4, tl_5, tl_6, tl_7, tl_8, tl_9, tl_10, tl_11, tl_24, tl_30, tl_40, tl_41, tl_47, tl_50, tl_60, tl_61, tl_99, tl_100, tl_101, tl_200, tl_201, tl_240, tl_300, tl_301, tl_999, tl_1000]; omega)) (by decide) cQ_1) ⟨fun z => absurd z (by decide), fun _ => ?_⟩⟩
  refine ⟨60, 2000, by omega, by omega, ra_ask H hC hd _ _ _ _ _ _ _ (by unfold q_ask; exact iT_T (fun z => hs z.2.1.1)) (by decide) cA_1 _ _ _ (Nat.le_refl _) (Nat.le_refl _) ⟨fun z => absurd rfl z, fun _ => ?_⟩⟩
  exact k _ _ (by omega) (by omega)
set_option maxHeartbeats 4000000 in
theorem ref2_h (H : ST e0 x o S σ μ C cap) (hC : C < 512) (hd : dis S M) (F : SF σ n h) {v : Int32} {r : Nat} (hr : r < 30) (eR : (v - v / 30 * 30).toInt = r) (hr3 : v - v / 3 * 3 = 0 ∨ v - v / 3 * 3 = 1 ∨ v - v / 3 * 3 = 2) {j : Nat} (hj : j < n 5) (hl : 2 ≤ z_len σ j) (km : gK (ov S M) m = 12) (v0in : vp_in 0 (gN (ov S M) m)) (A0 : gA (ov S M) m 0 = σ 0 0) {vi vf vm : Int32} {f : Int64} (hf : ¬ (0 ≤ vf ∧ vf ≤ 4)) (hm : ¬ (0 ≤ vm ∧ vm ≤ σ 2 (nI j).toNatClampNeg - 1)) {mc ms : Nat} {post : Int32 → PT → Prop} {c0 n0 : Nat} {k738 : Nat → Nat → PT → Int32 → Int32 → Int32 → Int64 → Int32 → Int32 → Prop} (hc : c0 + 1400 ≤ mc) (hn : n0 + 50000 ≤ ms) (k : ∀ c1 n1, c1 ≤ c0 + 1400 → n1 ≤ n0 + 50000 → k738 c1 n1 (ov S M) 0 vi vf f 1 (nI j + 1)) : w_L_isRefused_b792 e0 m0 (some x) (some m) (some s) (some w) v mc ms post k738 c0 n0 (ov S M) 0 vi vf f (nI j) vm (some x) 2 (nI j) 5 := by
  have l9 := len_2 F j
  have l2 : 2 ≤ z_len σ j := hl
  have e2 : (σ 2 j).toInt = (z_len σ j : Int) := by rw [l9.1]; exact nI_toInt (by omega)
  have mt0 : z_mt σ (nI j) 0 := in_mt F (y := 0) hj (by omega)
  have mt1 : z_mt σ (nI j) 1 := in_mt F (y := 1) hj (by omega)
  have td := today_nI F
  have h9 := F.2.2.1
  have et : (z_today σ).toInt = ((h / 24 : Nat) : Int) := by rw [td.1]; exact nI_toInt (by omega)
  have qn5 : (nI j).toNatClampNeg = j := qn_nat (by have := F.1.2.1; omega)
  unfold w_L_isRefused_b792
  refine ⟨by omega, by omega, ?_⟩
  refine ⟨fun _ => ?_, fun z => absurd rfl z⟩
  unfold w_L_isRefused_b802
  refine ⟨by omega, by omega, ?_⟩
  refine ⟨60, 2000, by omega, by omega, off_ok (Nat.le_refl _) (Nat.le_refl _) (ra_embargo H hC hd _ _ _ _ _ (rq_emb2 (in_s F hj) (by simp only [eR, ile, ilt, ieq, tadd, tsub, tmul, I0, tl_m1, tl_m2, tl_1, tl_2, tl_3, tl_4, tl_5, tl_6, tl_7, tl_8, tl_9, tl_10, tl_11, tl_24, tl_30, tl_40, tl_41, tl_47, tl_50, tl_60, tl_61, tl_99, tl_100, tl_101, tl_200, tl_201, tl_240, tl_300, tl_301, tl_999, tl_1000]; omega)) (by decide) cC_2) ⟨fun z => absurd z (by decide), fun _ => ?_⟩⟩
  refine ⟨60, 2000, by omega, by omega, ra_thing H hC hd _ _ _ _ _ (by unfold q_thing; exact iT_T (fun z => hf z.1)) (by decide) cA_1 _ _ _ (Nat.le_refl _) (Nat.le_refl _) ⟨fun z => absurd rfl z, fun _ => ?_⟩⟩
  refine ⟨60, 2000, by omega, by omega, ra_thing H hC hd _ _ _ _ _ (by unfold q_thing; exact iT_T (fun z => hm z.2.1.2)) (by decide) cA_1 _ _ _ (Nat.le_refl _) (Nat.le_refl _) ⟨fun z => absurd rfl z, fun _ => ?_⟩⟩
  refine ⟨60, 2000, by omega, by omega, off_ok (Nat.le_refl _) (Nat.le_refl _) (ra_thing H hC hd _ _ _ _ _ (rq_thing2 ⟨p_04, mt1, mt0⟩ (by decide)) (by decide) cA_2) ⟨fun z => absurd z (by decide), fun _ => ?_⟩⟩
  refine ⟨fun _ => ?_, fun z => absurd rfl z⟩
  unfold w_L_isRefused_b885
  refine ⟨by omega, by omega, ?_⟩
  refine ⟨60, 2000, by omega, by omega, off_ok (Nat.le_refl _) (Nat.le_refl _) (ra_thing H hC hd _ _ _ _ _ (rq_thing2 ⟨p_04, mt0, mt0⟩ (by simp only [eR, ile, ilt, ieq, tadd, tsub, tmul, I0, tl_m1, tl_m2, tl_1, tl_2, tl_3, tl_4, tl_5, tl_6, tl_7, tl_8, tl_9, tl_10, tl_11, tl_24, tl_30, tl_40, tl_41, tl_47, tl_50, tl_60, tl_61, tl_99, tl_100, tl_101, tl_200, tl_201, tl_240, tl_300, tl_301, tl_999, tl_1000]; omega)) (by decide) cA_2) ⟨fun z => absurd z (by decide), fun _ => ?_⟩⟩
  refine ⟨60, 2000, by omega, by omega, no_ok (Nat.le_refl _) (Nat.le_refl _) (ra_trial H hC hd _ _ _ _ _ (by unfold q_trial; exact iT_T (fun z => hm z.2)) (by decide) cQ_1) ⟨fun z => absurd z (by decide), fun _ => ?_⟩⟩
  refine ⟨60, 2000, by omega, by omega, no_ok (Nat.le_refl _) (Nat.le_refl _) (ra_defect H hC hd _ _ _ _ _ (by unfold q_asks; exact iT_T (fun z => hm z.2)) (by decide) cC_1) ⟨fun z => absurd z (by decide), fun _ => ?_⟩⟩
  refine ⟨fun _ => ?_, fun z => absurd rfl z⟩
  unfold w_L_isRefused_b945
  refine ⟨by omega, by omega, ?_⟩
  refine ⟨60, 2000, by omega, by omega, off_ok (Nat.le_refl _) (Nat.le_refl _) (ra_defect H hC hd _ _ _ _ _ (rq_asks2 mt0 (by simp only [eR, ile, ilt, ieq, tadd, tsub, tmul, I0, tl_m1, tl_m2, tl_1, tl_2, tl_3, tl_4, tl_5, tl_6, tl_7, tl_8, tl_9, tl_10, tl_11, tl_24, tl_30, tl_40, tl_41, tl_47, tl_50, tl_60, tl_61, tl_99, tl_100, tl_101, tl_200, tl_201, tl_240, tl_300, tl_301, tl_999, tl_1000]; omega)) (by decide) cC_2) ⟨fun z => absurd z (by decide), fun _ => ?_⟩⟩
  refine ⟨60, 2000, by omega, by omega, no_ok (Nat.le_refl _) (Nat.le_refl _) (ra_core H hC hd _ _ _ _ _ (by unfold q_core; exact iT_T (fun z => hm z.2)) (by decide) cQ_1) ⟨fun z => absurd z (by decide), fun _ => ?_⟩⟩
  refine ⟨60, 2000, by omega, by omega, ra_ask H hC hd _ _ _ _ _ _ _ (by unfold q_ask; exact iT_T (fun z => hf z.1)) (by decide) cA_1 _ _ _ (Nat.le_refl _) (Nat.le_refl _) ⟨fun z => absurd rfl z, fun _ => ?_⟩⟩
  refine ⟨60, 2000, by omega, by omega, ra_ask H hC hd _ _ _ _ _ _ _ (by unfold q_ask; exact iT_T (fun z => hm z.2.2.2)) (by decide) cA_1 _ _ _ (Nat.le_refl _) (Nat.le_refl _) ⟨fun z => absurd rfl z, fun _ => ?_⟩⟩
  refine ⟨60, 2000, by omega, by omega, ra_ask H hC hd _ _ _ _ _ _ _ (rq_ask2a ⟨p_04, mt1, mt0⟩ (by decide)) (by decide) cA_2 _ _ _ (Nat.le_refl _) (Nat.le_refl _) ⟨fun z => absurd rfl z, fun _ => ?_⟩⟩
  refine ⟨fun _ => ?_, fun z => absurd rfl z⟩
  unfold w_L_isRefused_b1048
  refine ⟨by omega, by omega, ?_⟩
  refine ⟨60, 2000, by omega, by omega, ra_ask H hC hd _ _ _ _ _ _ _ (rq_ask2a ⟨p_04, mt0, mt0⟩ (by simp only [eR, ile, ilt, ieq, tadd, tsub, tmul, I0, tl_m1, tl_m2, tl_1, tl_2, tl_3, tl_4, tl_5, tl_6, tl_7, tl_8, tl_9, tl_10, tl_11, tl_24, tl_30, tl_40, tl_41, tl_47, tl_50, tl_60, tl_61, tl_99, tl_100, tl_101, tl_200, tl_201, tl_240, tl_300, tl_301, tl_999, tl_1000]; omega)) (by decide) cA_2 _ _ _ (Nat.le_refl _) (Nat.le_refl _) ⟨fun z => absurd rfl z, fun _ => ?_⟩⟩
  refine ⟨fun _ => ?_, fun z => absurd rfl z⟩
  unfold w_L_isRefused_b1092
  refine ⟨by omega, by omega, ?_⟩
  refine ⟨60, 2000, by omega, by omega, ra_ask H hC hd _ _ _ _ _ _ _ (rq_ask2b ⟨p_04, mt0, mt0⟩ (by decide) (by rw [note_3]; simp only [ile, ilt, ieq, tadd, tsub, tmul, I0, et, eR, tl_m1, tl_m2, tl_1, tl_2, tl_3, tl_4, tl_5, tl_6, tl_7, tl_8, tl_9, tl_10, tl_11, tl_24, tl_30, tl_40, tl_41, tl_47, tl_50, tl_60, tl_61, tl_99, tl_100, tl_101, tl_200, tl_201, tl_240, tl_300, tl_301, tl_999, tl_1000]; omega)) (by decide) cA_2 _ _ _ (Nat.le_refl _) (Nat.le_refl _) ⟨fun z => absurd rfl z, fun _ => ?_⟩⟩
  refine ⟨m, rfl, km, v0in, ?_⟩
  refine ⟨60, 2000, by omega, by omega, ra_ask H hC hd _ _ _ _ _ _ _ (rq_ask2b ⟨p_04, mt0, mt0⟩ ⟨by decide, by decide, (by rcases hr3 with e | e | e <;> rw [e] <;> decide), by decide⟩ (by have := note_ge (v - v / 3 * 3) (σ 3 (nI j).toNatClampNeg) hr3; simp only [cl_0, A0, td.2, ile, tadd, et, nI_toInt (show h / 24 < 2147483648 by omega), tl_m1, tl_m2, tl_1, tl_2, tl_3, tl_4, tl_5, tl_6, tl_7, tl_8, tl_9, tl_10, tl_11, tl_24, tl_30, tl_40, tl_41, tl_47, tl_50, tl_60, tl_61, tl_99, tl_100, tl_101, tl_200, tl_201, tl_240, tl_300, tl_301, tl_999, tl_1000]; omega)) (by decide) cA_2 _ _ _ (Nat.le_refl _) (Nat.le_refl _) ⟨fun z => absurd rfl z, fun _ => ?_⟩⟩
  refine ⟨fun _ => ?_, fun z => absurd rfl z⟩
  unfold w_L_isRefused_b1155
  refine ⟨by omega, by omega, ?_⟩
  refine ⟨60, 2000, by omega, by omega, ra_ask H hC hd _ _ _ _ _ _ _ (rq_ask2a ⟨p_04, mt0, mt0⟩ (by simp only [eR, ile, ilt, ieq, tadd, tsub, tmul, I0, tl_m1, tl_m2, tl_1, tl_2, tl_3, tl_4, tl_5, tl_6, tl_7, tl_8, tl_9, tl_10, tl_11, tl_24, tl_30, tl_40, tl_41, tl_47, tl_50, tl_60, tl_61, tl_99, tl_100, tl_101, tl_200, tl_201, tl_240, tl_300, tl_301, tl_999, tl_1000]; omega)) (by decide) cA_2 _ _ _ (Nat.le_refl _) (Nat.le_refl _) ⟨fun z => absurd rfl z, fun _ => ?_⟩⟩
  refine ⟨60, 2000, by omega, by omega, no_ok (Nat.le_refl _) (Nat.le_refl _) (ra_liable H hC hd _ _ _ _ _ (by unfold q_asks; exact iT_T (fun z => hm z.2)) (by decide) cC_1) ⟨fun z => absurd z (by decide), fun _ => ?_⟩⟩
  refine ⟨fun _ => ?_, fun z => absurd rfl z⟩
  unfold w_L_isRefused_b1197
  refine ⟨by omega, by omega, ?_⟩
  refine ⟨60, 2000, by omega, by omega, off_ok (Nat.le_refl _) (Nat.le_refl _) (ra_liableAnew H hC hd _ _ _ _ _ (rq_asks2 mt0 (by simp only [eR, ile, ilt, ieq, tadd, tsub, tmul, I0, tl_m1, tl_m2, tl_1, tl_2, tl_3, tl_4, tl_5, tl_6, tl_7, tl_8, tl_9, tl_10, tl_11, tl_24, tl_30, tl_40, tl_41, tl_47, tl_50, tl_60, tl_61, tl_99, tl_100, tl_101, tl_200, tl_201, tl_240, tl_300, tl_301, tl_999, tl_1000]; omega)) (by decide) cC_2) ⟨fun z => absurd z (by decide), fun _ => ?_⟩⟩
  refine ⟨60, 2000, by omega, by omega, no_ok (Nat.le_refl _) (Nat.le_refl _) (ra_metre H hC hd _ _ _ _ _ (by unfold q_metre; exact iT_T (fun z => hm z.2)) (by decide) cC_1) ⟨fun z => absurd z (by decide), fun _ => ?_⟩⟩
  refine ⟨fun _ => ?_, fun z => absurd rfl z⟩
  unfold w_L_isRefused_b1242
  refine ⟨by omega, by omega, ?_⟩
  refine ⟨60, 2000, by omega, by omega, off_ok (Nat.le_refl _) (Nat.le_refl _) (ra_metre H hC hd _ _ _ _ _ (rq_metre2 mt0 (by simp only [eR, ile, ilt, ieq, tadd, tsub, tmul, I0, tl_m1, tl_m2, tl_1, tl_2, tl_3, tl_4, tl_5, tl_6, tl_7, tl_8, tl_9, tl_10, tl_11, tl_24, tl_30, tl_40, tl_41, tl_47, tl_50, tl_60, tl_61, tl_99, tl_100, tl_101, tl_200, tl_201, tl_240, tl_300, tl_301, tl_999, tl_1000]; omega)) (by decide) cC_2) ⟨fun z => absurd z (by decide), fun _ => ?_⟩⟩
  refine ⟨60, 2000, by omega, by omega, off_ok (Nat.le_refl _) (Nat.le_refl _) (ra_search H hC hd _ _ _ _ _ (rq_search2 ⟨mt1, mt0⟩ (by decide)) (by decide) cC_2) ⟨fun z => absurd z (by decide), fun _ => ?_⟩⟩
  unfold w_L_isRefused_b1270
  refine ⟨by omega, by omega, ?_⟩
  exact k _ _ (by omega) (by omega)
set_option maxHeartbeats 4000000 in
theorem ref3_h (H : ST e0 x o S σ μ C cap) (hC : C < 512) (hd : dis S M) (F : SF σ n h) {v : Int32} {r : Nat} (hr : r < 30) (eR : (v - v / 30 * 30).toInt = r) {j : Nat} (hk : j < n 8) (kw : gK (ov S M) w = 12) (w1in : vp_in (4 * nI j + 1) (gN (ov S M) w)) (w2in : vp_in (4 * nI j + 2) (gN (ov S M) w)) {vi : Int32} {f : Int64} (hi : ¬ (0 ≤ vi ∧ vi ≤ σ 23 0 - 1)) (hw9 : ¬ (σ 26 (nI j).toNatClampNeg ≤ (gA (ov S M) w (((4 * nI j) + 2)).toNatClampNeg) + 1 ∧ (gA (ov S M) w (((4 * nI j) + 2)).toNatClampNeg) + 1 ≤ σ 27 (nI j).toNatClampNeg)) (ho9 : z_of σ (nI j) (gA (ov S M) w (((4 * nI j) + 1)).toNatClampNeg)) {mc ms : Nat} {post : Int32 → PT → Prop} {c0 n0 : Nat} (hc : c0 + 600 ≤ mc) (hn : n0 + 20000 ≤ ms) (k : ∀ c1 n1, c1 ≤ c0 + 600 → n1 ≤ n0 + 20000 → w_L_isRefused_b1568 e0 m0 (some x) (some m) (some s) (some w) v mc ms post c1 n1 (ov S M) f 1) : w_L_isRefused_b1320 e0 m0 (some x) (some m) (some s) (some w) v mc ms post c0 n0 (ov S M) 0 vi f (nI j) (some x) 8 (nI j) (4 + (v - v / 30 * 30)) := by
  have ik := in_k F hk
  have qk : (nI j).toNatClampNeg = j := qn_nat (by have := F.1.2.2.2.2.2.1; omega)
  have h8 : n 8 ≤ 24 := F.1.2.2.2.2.2.1
  unfold w_L_isRefused_b1320
  refine ⟨by omega, by omega, ?_⟩
  refine ⟨60, 2000, by omega, by omega, off_ok (Nat.le_refl _) (Nat.le_refl _) (ra_grant H hC hd _ _ _ _ _ (rq_grant2 ik (by simp only [eR, ile, ilt, ieq, tadd, tsub, tmul, I0, tl_m1, tl_m2, tl_1, tl_2, tl_3, tl_4, tl_5, tl_6, tl_7, tl_8, tl_9, tl_10, tl_11, tl_24, tl_30, tl_40, tl_41, tl_47, tl_50, tl_60, tl_61, tl_99, tl_100, tl_101, tl_200, tl_201, tl_240, tl_300, tl_301, tl_999, tl_1000]; omega) _) (by decide) cA_2) ⟨fun z => absurd z (by decide), fun _ => ?_⟩⟩
  refine ⟨fun _ => ?_, fun z => absurd rfl z⟩
  unfold w_L_isRefused_b1350
  refine ⟨by omega, by omega, ?_⟩
  refine ⟨60, 2000, by omega, by omega, off_ok (Nat.le_refl _) (Nat.le_refl _) (ra_vary H hC hd _ _ _ _ _ (rq_vary2 ik (by simp only [eR, ile, ilt, ieq, tadd, tsub, tmul, I0, tl_m1, tl_m2, tl_1, tl_2, tl_3, tl_4, tl_5, tl_6, tl_7, tl_8, tl_9, tl_10, tl_11, tl_24, tl_30, tl_40, tl_41, tl_47, tl_50, tl_60, tl_61, tl_99, tl_100, tl_101, tl_200, tl_201, tl_240, tl_300, tl_301, tl_999, tl_1000]; omega)) (by decide) cA_2) ⟨fun z => absurd z (by decide), fun _ => ?_⟩⟩
  refine ⟨60, 2000, by omega, by omega, no_ok (Nat.le_refl _) (Nat.le_refl _) (ra_agree H hC hd _ _ _ _ _ (by unfold q_agree; exact iT_T (fun z => hi z.2)) (by decide) cC_1) ⟨fun z => absurd z (by decide), fun _ => ?_⟩⟩
  refine ⟨60, 2000, by omega, by omega, off_ok (Nat.le_refl _) (Nat.le_refl _) (ra_agree H hC hd _ _ _ _ _ (rq_agree2 ik) (by decide) cC_2) ⟨fun z => absurd z (by decide), fun _ => ?_⟩⟩
  refine ⟨fun _ => ⟨w, rfl, kw, w2in, ?_⟩, fun z => absurd rfl z⟩
  unfold w_L_isRefused_b1422
  refine ⟨by omega, by omega, ?_⟩
  refine ⟨60, 2000, by omega, by omega, no_ok (Nat.le_refl _) (Nat.le_refl _) (ra_open H hC hd _ _ _ _ _ (by unfold q_open; exact iT_T (fun z => hw9 z.2)) (by decide) cQ_1) ⟨fun z => absurd z (by decide), fun _ => ?_⟩⟩
  refine ⟨fun _ => ⟨w, rfl, kw, w2in, ?_⟩, fun z => absurd rfl z⟩
  unfold w_L_isRefused_b1462
  refine ⟨by omega, by omega, ?_⟩
  refine ⟨60, 2000, by omega, by omega, no_ok (Nat.le_refl _) (Nat.le_refl _) (ra_fill H hC hd _ _ _ _ _ (by unfold q_fill; exact iT_T (fun z => hw9 z.2)) (by decide) cA_1) ⟨fun z => absurd z (by decide), fun _ => ?_⟩⟩
  refine ⟨w, rfl, kw, w1in, ?_⟩
  refine ⟨fun _ => ?_, fun z => absurd rfl z⟩
  unfold w_L_isRefused_b1501
  refine ⟨by omega, by omega, ?_⟩
  refine ⟨60, 2000, by omega, by omega, off_ok (Nat.le_refl _) (Nat.le_refl _) (ra_fill H hC hd _ _ _ _ _ (rq_fill2 ho9 (by simp only [eR, ile, ilt, ieq, tadd, tsub, tmul, I0, tl_m1, tl_m2, tl_1, tl_2, tl_3, tl_4, tl_5, tl_6, tl_7, tl_8, tl_9, tl_10, tl_11, tl_24, tl_30, tl_40, tl_41, tl_47, tl_50, tl_60, tl_61, tl_99, tl_100, tl_101, tl_200, tl_201, tl_240, tl_300, tl_301, tl_999, tl_1000]; omega)) (by decide) cA_2) ⟨fun z => absurd z (by decide), fun _ => ?_⟩⟩
  refine ⟨60, 2000, by omega, by omega, off_ok (Nat.le_refl _) (Nat.le_refl _) (ra_meets H hC hd _ _ _ _ _ (rq_meets2 ik (by simp only [eR, ile, ilt, ieq, tadd, tsub, tmul, I0, tl_m1, tl_m2, tl_1, tl_2, tl_3, tl_4, tl_5, tl_6, tl_7, tl_8, tl_9, tl_10, tl_11, tl_24, tl_30, tl_40, tl_41, tl_47, tl_50, tl_60, tl_61, tl_99, tl_100, tl_101, tl_200, tl_201, tl_240, tl_300, tl_301, tl_999, tl_1000]; omega)) (by decide) cC_2) ⟨fun z => absurd z (by decide), fun _ => ?_⟩⟩
  refine ⟨fun _ => ?_, fun z => absurd rfl z⟩
  unfold w_L_isRefused_b1552
  refine ⟨by omega, by omega, ?_⟩
  refine ⟨60, 2000, by omega, by omega, off_ok (Nat.le_refl _) (Nat.le_refl _) (ra_of H hC hd _ _ _ _ _ (rq_of2 ik (by simp only [eR, ile, ilt, ieq, tadd, tsub, tmul, I0, tl_m1, tl_m2, tl_1, tl_2, tl_3, tl_4, tl_5, tl_6, tl_7, tl_8, tl_9, tl_10, tl_11, tl_24, tl_30, tl_40, tl_41, tl_47, tl_50, tl_60, tl_61, tl_99, tl_100, tl_101, tl_200, tl_201, tl_240, tl_300, tl_301, tl_999, tl_1000]; omega)) (by decide) cC_2) ⟨fun z => absurd z (by decide), fun _ => ?_⟩⟩
  unfold w_L_isRefused_b1566
  refine ⟨by omega, by omega, ?_⟩
  exact k _ _ (by omega) (by omega)
set_option maxHeartbeats 4000000 in
theorem ref1_l (H : ST e0 x o S σ μ C cap) (hC : C < 512) (hd : dis S M) (F : SF σ n h) {v : Int32} {r : Nat} (hr : r < 30) (eR : (v - v / 30 * 30).toInt = r) {vs vt vi vf d : Int32} {f : Int64} (hs : ¬ (0 ≤ vs ∧ vs ≤ σ 1 0 - 1)) (ht : ¬ (0 ≤ vt ∧ vt ≤ σ 14 0 - 1)) (hi : ¬ (0 ≤ vi ∧ vi ≤ σ 23 0 - 1)) (hf : ¬ (0 ≤ vf ∧ vf ≤ 4)) (h1 : ¬ d = -1) (h2 : ¬ (0 ≤ d ∧ d ≤ σ 1 0 - 1)) {mc ms : Nat} {post : Int32 → PT → Prop} {c0 n0 : Nat} (hc : c0 + 2400 ≤ mc) (hn : n0 + 80000 ≤ ms) (k : ∀ c1 n1, c1 ≤ c0 + 2400 → n1 ≤ n0 + 80000 → w_L_isRefused_b733 e0 m0 (some x) (some m) (some s) (some w) v mc ms post c1 n1 (ov S M) 1 vi vf f 1) : w_L_isRefused_b154 e0 m0 (some x) (some m) (some s) (some w) v mc ms post c0 n0 (ov S M) 1 vs vt vi vf f (some x) 0 5 0 0 d := by
  unfold w_L_isRefused_b154
  refine ⟨by omega, by omega, ?_⟩
  refine ⟨60, 2000, by omega, by omega, ra_street H hC hd _ _ _ _ _ (rq_street1 h1 h2 _ _ _) (by decide) cA_1 _ _ _ (Nat.le_refl _) (Nat.le_refl _) ⟨fun z => absurd rfl z, fun _ => ?_⟩⟩
  refine ⟨fun z => absurd z (by decide), fun _ => ?_⟩
  unfold w_L_isRefused_b182
  refine ⟨by omega, by omega, ?_⟩
  refine ⟨60, 2000, by omega, by omega, off_ok (Nat.le_refl _) (Nat.le_refl _) (ra_street H hC hd _ _ _ _ _ (rq_street2 (by simp only [eR, ile, ilt, ieq, tadd, tsub, tmul, I0, tl_m1, tl_m2, tl_1, tl_2, tl_3, tl_4, tl_5, tl_6, tl_7, tl_8, tl_9, tl_10, tl_11, tl_24, tl_30, tl_40, tl_41, tl_47, tl_50, tl_60, tl_61, tl_99, tl_100, tl_101, tl_200, tl_201, tl_240, tl_300, tl_301, tl_999, tl_1000]; omega)) (by decide) cA_2) ⟨fun z => absurd z (by decide), fun _ => ?_⟩⟩
  refine ⟨fun z => absurd z (by decide), fun _ => ?_⟩
  unfold w_L_isRefused_b211
  refine ⟨by omega, by omega, ?_⟩
  refine ⟨60, 2000, by omega, by omega, off_ok (Nat.le_refl _) (Nat.le_refl _) (ra_street H hC hd _ _ _ _ _ (rq_street2 (by simp only [eR, ile, ilt, ieq, tadd, tsub, tmul, I0, tl_m1, tl_m2, tl_1, tl_2, tl_3, tl_4, tl_5, tl_6, tl_7, tl_8, tl_9, tl_10, tl_11, tl_24, tl_30, tl_40, tl_41, tl_47, tl_50, tl_60, tl_61, tl_99, tl_100, tl_101, tl_200, tl_201, tl_240, tl_300, tl_301, tl_999, tl_1000]; omega)) (by decide) cA_2) ⟨fun z => absurd z (by decide), fun _ => ?_⟩⟩
  refine ⟨fun z => absurd z (by decide), fun _ => ?_⟩
  unfold w_L_isRefused_b242
  refine ⟨by omega, by omega, ?_⟩
  refine ⟨60, 2000, by omega, by omega, off_ok (Nat.le_refl _) (Nat.le_refl _) (ra_street H hC hd _ _ _ _ _ (rq_street2 (by simp only [eR, ile, ilt, ieq, tadd, tsub, tmul, I0, tl_m1, tl_m2, tl_1, tl_2, tl_3, tl_4, tl_5, tl_6, tl_7, tl_8, tl_9, tl_10, tl_11, tl_24, tl_30, tl_40, tl_41, tl_47, tl_50, tl_60, tl_61, tl_99, tl_100, tl_101, tl_200, tl_201, tl_240, tl_300, tl_301, tl_999, tl_1000]; omega)) (by decide) cA_2) ⟨fun z => absurd z (by decide), fun _ => ?_⟩⟩
  refine ⟨60, 2000, by omega, by omega, no_ok (Nat.le_refl _) (Nat.le_refl _) (ra_surface H hC hd _ _ _ _ _ (by unfold q_surface; exact iT_T hs) (by decide) cQ_1) ⟨fun z => absurd z (by decide), fun _ => ?_⟩⟩
  refine ⟨60, 2000, by omega, by omega, no_ok (Nat.le_refl _) (Nat.le_refl _) (ra_embargo H hC hd _ _ _ _ _ (by unfold q_embargo; exact iT_T hs) (by decide) cC_1) ⟨fun z => absurd z (by decide), fun _ => ?_⟩⟩
  refine ⟨60, 2000, by omega, by omega, ra_thing H hC hd _ _ _ _ _ (by unfold q_thing; exact iT_T (fun z => hs z.2.1.1)) (by decide) cA_1 _ _ _ (Nat.le_refl _) (Nat.le_refl _) ⟨fun z => absurd rfl z, fun _ => ?_⟩⟩
  refine ⟨60, 2000, by omega, by omega, ra_record H hC hd _ _ _ _ _ (by unfold q_record; exact iT_T (fun z => ht z.1)) (by decide) cC_1 _ _ _ (Nat.le_refl _) (Nat.le_refl _) ⟨fun z => absurd rfl z, fun _ => ?_⟩⟩
  refine ⟨60, 2000, by omega, by omega, no_ok (Nat.le_refl _) (Nat.le_refl _) (ra_lose H hC hd _ _ _ _ _ (by unfold q_lose; exact iT_T ht) (by decide) cQ_1) ⟨fun z => absurd z (by decide), fun _ => ?_⟩⟩
  refine ⟨60, 2000, by omega, by omega, no_ok (Nat.le_refl _) (Nat.le_refl _) (ra_survey H hC hd _ _ _ _ _ (by unfold q_survey; exact iT_T ht) (by decide) cQ_1) ⟨fun z => absurd z (by decide), fun _ => ?_⟩⟩
  refine ⟨60, 2000, by omega, by omega, no_ok (Nat.le_refl _) (Nat.le_refl _) (ra_trial H hC hd _ _ _ _ _ (by unfold q_trial; exact iT_T (fun z => hs z.1)) (by decide) cQ_1) ⟨fun z => absurd z (by decide), fun _ => ?_⟩⟩
  refine ⟨60, 2000, by omega, by omega, no_ok (Nat.le_refl _) (Nat.le_refl _) (ra_grant H hC hd _ _ _ _ _ (by unfold q_grant; exact iT_T hi) (by decide) cA_1) ⟨fun z => absurd z (by decide), fun _ => ?_⟩⟩
  refine ⟨60, 2000, by omega, by omega, no_ok (Nat.le_refl _) (Nat.le_refl _) (ra_refuse H hC hd _ _ _ _ _ (by unfold q_refuse; exact iT_T hi) (by decide) cQ_1) ⟨fun z => absurd z (by decide), fun _ => ?_⟩⟩
  refine ⟨60, 2000, by omega, by omega, no_ok (Nat.le_refl _) (Nat.le_refl _) (ra_vary H hC hd _ _ _ _ _ (by unfold q_vary; exact iT_T hi) (by decide) cA_1) ⟨fun z => absurd z (by decide), fun _ => ?_⟩⟩
  refine ⟨60, 2000, by omega, by omega, no_ok (Nat.le_refl _) (Nat.le_refl _) (ra_exempt H hC hd _ _ _ _ _ (by unfold q_exempt; exact iT_T hi) (by decide) cQ_1) ⟨fun z => absurd z (by decide), fun _ => ?_⟩⟩
  refine ⟨60, 2000, by omega, by omega, no_ok (Nat.le_refl _) (Nat.le_refl _) (ra_agree H hC hd _ _ _ _ _ (by unfold q_agree; exact iT_T (fun z => hi z.1)) (by decide) cC_1) ⟨fun z => absurd z (by decide), fun _ => ?_⟩⟩
  refine ⟨60, 2000, by omega, by omega, no_ok (Nat.le_refl _) (Nat.le_refl _) (ra_start H hC hd _ _ _ _ _ (by unfold q_start; exact iT_T hi) (by decide) cQ_1) ⟨fun z => absurd z (by decide), fun _ => ?_⟩⟩
  refine ⟨60, 2000, by omega, by omega, no_ok (Nat.le_refl _) (Nat.le_refl _) (ra_open H hC hd _ _ _ _ _ (by unfold q_open; exact iT_T (fun z => hi z.1)) (by decide) cQ_1) ⟨fun z => absurd z (by decide), fun _ => ?_⟩⟩
  refine ⟨60, 2000, by omega, by omega, no_ok (Nat.le_refl _) (Nat.le_refl _) (ra_fill H hC hd _ _ _ _ _ (by unfold q_fill; exact iT_T (fun z => hi z.1)) (by decide) cA_1) ⟨fun z => absurd z (by decide), fun _ => ?_⟩⟩
  refine ⟨60, 2000, by omega, by omega, no_ok (Nat.le_refl _) (Nat.le_refl _) (ra_plate H hC hd _ _ _ _ _ (by unfold q_plate; exact iT_T hi) (by decide) cQ_1) ⟨fun z => absurd z (by decide), fun _ => ?_⟩⟩
  refine ⟨60, 2000, by omega, by omega, no_ok (Nat.le_refl _) (Nat.le_refl _) (ra_extend H hC hd _ _ _ _ _ (by unfold q_extend; exact iT_T hi) (by decide) cQ_1) ⟨fun z => absurd z (by decide), fun _ => ?_⟩⟩
  refine ⟨60, 2000, by omega, by omega, no_ok (Nat.le_refl _) (Nat.le_refl _) (ra_stop H hC hd _ _ _ _ _ (by unfold q_stop; exact iT_T hi) (by decide) cQ_1) ⟨fun z => absurd z (by decide), fun _ => ?_⟩⟩
  refine ⟨fun z => absurd z (by decide), fun _ => ?_⟩
  unfold w_L_isRefused_b514
  refine ⟨by omega, by omega, ?_⟩
  refine ⟨60, 2000, by omega, by omega, off_ok (Nat.le_refl _) (Nat.le_refl _) (ra_pass H hC hd _ _ _ _ _ (rq_pass1 (by simp only [eR, ile, ilt, ieq, tadd, tsub, tmul, I0, tl_m1, tl_m2, tl_1, tl_2, tl_3, tl_4, tl_5, tl_6, tl_7, tl_8, tl_9, tl_10, tl_11, tl_24, tl_30, tl_40, tl_41, tl_47, tl_50, tl_60, tl_61, tl_99, tl_100, tl_101, tl_200, tl_201, tl_240, tl_300, tl_301, tl_999, tl_1000]; omega)) (by decide) cE_1) ⟨fun z => absurd z (by decide), fun _ => ?_⟩⟩
  refine ⟨60, 2000, by omega, by omega, no_ok (Nat.le_refl _) (Nat.le_refl _) (ra_defect H hC hd _ _ _ _ _ (by unfold q_asks; exact iT_T (fun z => hs z.1)) (by decide) cC_1) ⟨fun z => absurd z (by decide), fun _ => ?_⟩⟩
  refine ⟨60, 2000, by omega, by omega, no_ok (Nat.le_refl _) (Nat.le_refl _) (ra_core H hC hd _ _ _ _ _ (by unfold q_core; exact iT_T (fun z => hs z.1)) (by decide) cQ_1) ⟨fun z => absurd z (by decide), fun _ => ?_⟩⟩
  refine ⟨60, 2000, by omega, by omega, no_ok (Nat.le_refl _) (Nat.le_refl _) (ra_liable H hC hd _ _ _ _ _ (by unfold q_asks; exact iT_T (fun z => hs z.1)) (by decide) cC_1) ⟨fun z => absurd z (by decide), fun _ => ?_⟩⟩
  refine ⟨60, 2000, by omega, by omega, no_ok (Nat.le_refl _) (Nat.le_refl _) (ra_liableAnew H hC hd _ _ _ _ _ (by unfold q_asks; exact iT_T (fun z => hs z.1)) (by decide) cC_1) ⟨fun z => absurd z (by decide), fun _ => ?_⟩⟩
  refine ⟨60, 2000, by omega, by omega, no_ok (Nat.le_refl _) (Nat.le_refl _) (ra_bars H hC hd _ _ _ _ _ (by unfold q_wk; exact iT_T hi) (by decide) cQ_1) ⟨fun z => absurd z (by decide), fun _ => ?_⟩⟩
  refine ⟨60, 2000, by omega, by omega, no_ok (Nat.le_refl _) (Nat.le_refl _) (ra_meets H hC hd _ _ _ _ _ (by unfold q_meets; exact iT_T hi) (by decide) cC_1) ⟨fun z => absurd z (by decide), fun _ => ?_⟩⟩
  refine ⟨60, 2000, by omega, by omega, no_ok (Nat.le_refl _) (Nat.le_refl _) (ra_of H hC hd _ _ _ _ _ (by unfold q_of; exact iT_T hi) (by decide) cC_1) ⟨fun z => absurd z (by decide), fun _ => ?_⟩⟩
  refine ⟨60, 2000, by omega, by omega, no_ok (Nat.le_refl _) (Nat.le_refl _) (ra_metre H hC hd _ _ _ _ _ (by unfold q_metre; exact iT_T (fun z => hs z.1)) (by decide) cC_1) ⟨fun z => absurd z (by decide), fun _ => ?_⟩⟩
  refine ⟨60, 2000, by omega, by omega, no_ok (Nat.le_refl _) (Nat.le_refl _) (ra_search H hC hd _ _ _ _ _ (by unfold q_search; exact iT_T (fun z => hs z.1.1)) (by decide) cC_1) ⟨fun z => absurd z (by decide), fun _ => ?_⟩⟩
  refine ⟨60, 2000, by omega, by omega, no_ok (Nat.le_refl _) (Nat.le_refl _) (ra_queue H hC hd _ _ _ _ _ (by unfold q_st; exact iT_T hs) (by decide) cQ_1) ⟨fun z => absurd z (by decide), fun _ => ?_⟩⟩
  refine ⟨60, 2000, by omega, by omega, no_ok (Nat.le_refl _) (Nat.le_refl _) (ra_due H hC hd _ _ _ _ _ (by unfold q_pr; exact iT_T hf) (by decide) cQ_1) ⟨fun z => absurd z (by decide), fun _ => ?_⟩⟩
  refine ⟨fun z => absurd z (by decide), fun _ => ?_⟩
  unfold w_L_isRefused_b701
  refine ⟨by omega, by omega, ?_⟩
  refine ⟨60, 2000, by omega, by omega, no_ok (Nat.le_refl _) (Nat.le_refl _) (ra_money H hC hd _ _ _ _ _ (by unfold q_mo; exact iT_T (by simp only [eR, ile, ilt, ieq, tadd, tsub, tmul, I0, tl_m1, tl_m2, tl_1, tl_2, tl_3, tl_4, tl_5, tl_6, tl_7, tl_8, tl_9, tl_10, tl_11, tl_24, tl_30, tl_40, tl_41, tl_47, tl_50, tl_60, tl_61, tl_99, tl_100, tl_101, tl_200, tl_201, tl_240, tl_300, tl_301, tl_999, tl_1000]; omega)) (by decide) cQ_1) ⟨fun z => absurd z (by decide), fun _ => ?_⟩⟩
  refine ⟨60, 2000, by omega, by omega, ra_ask H hC hd _ _ _ _ _ _ _ (by unfold q_ask; exact iT_T (fun z => hs z.2.1.1)) (by decide) cA_1 _ _ _ (Nat.le_refl _) (Nat.le_refl _) ⟨fun z => absurd rfl z, fun _ => ?_⟩⟩
  exact k _ _ (by omega) (by omega)
set_option maxHeartbeats 4000000 in
theorem ref2_l (H : ST e0 x o S σ μ C cap) (hC : C < 512) (hd : dis S M) (F : SF σ n h) {v : Int32} {r : Nat} (hr : r < 30) (eR : (v - v / 30 * 30).toInt = r) (hr3 : v - v / 3 * 3 = 0 ∨ v - v / 3 * 3 = 1 ∨ v - v / 3 * 3 = 2) {j : Nat} (hj : j < n 5) (hl : 2 ≤ z_len σ j) (km : gK (ov S M) m = 12) (v0in : vp_in 0 (gN (ov S M) m)) (A0 : gA (ov S M) m 0 = σ 0 0) {vi vf vm : Int32} {f : Int64} (hf : ¬ (0 ≤ vf ∧ vf ≤ 4)) (hm : ¬ (0 ≤ vm ∧ vm ≤ σ 2 (nI j).toNatClampNeg - 1)) {mc ms : Nat} {post : Int32 → PT → Prop} {c0 n0 : Nat} {k738 : Nat → Nat → PT → Int32 → Int32 → Int32 → Int64 → Int32 → Int32 → Prop} (hc : c0 + 1400 ≤ mc) (hn : n0 + 50000 ≤ ms) (k : ∀ c1 n1, c1 ≤ c0 + 1400 → n1 ≤ n0 + 50000 → k738 c1 n1 (ov S M) 1 vi vf f 1 (nI j + 1)) : w_L_isRefused_b792 e0 m0 (some x) (some m) (some s) (some w) v mc ms post k738 c0 n0 (ov S M) 1 vi vf f (nI j) vm (some x) 2 (nI j) (-1) := by
  have l9 := len_2 F j
  have l2 : 2 ≤ z_len σ j := hl
  have e2 : (σ 2 j).toInt = (z_len σ j : Int) := by rw [l9.1]; exact nI_toInt (by omega)
  have mt0 : z_mt σ (nI j) 0 := in_mt F (y := 0) hj (by omega)
  have mt1 : z_mt σ (nI j) 1 := in_mt F (y := 1) hj (by omega)
  have td := today_nI F
  have h9 := F.2.2.1
  have et : (z_today σ).toInt = ((h / 24 : Nat) : Int) := by rw [td.1]; exact nI_toInt (by omega)
  have qn5 : (nI j).toNatClampNeg = j := qn_nat (by have := F.1.2.1; omega)
  unfold w_L_isRefused_b792
  refine ⟨by omega, by omega, ?_⟩
  refine ⟨fun z => absurd z (by decide), fun _ => ?_⟩
  unfold w_L_isRefused_b802
  refine ⟨by omega, by omega, ?_⟩
  refine ⟨60, 2000, by omega, by omega, off_ok (Nat.le_refl _) (Nat.le_refl _) (ra_embargo H hC hd _ _ _ _ _ (rq_emb2 (in_s F hj) (by simp only [eR, ile, ilt, ieq, tadd, tsub, tmul, I0, tl_m1, tl_m2, tl_1, tl_2, tl_3, tl_4, tl_5, tl_6, tl_7, tl_8, tl_9, tl_10, tl_11, tl_24, tl_30, tl_40, tl_41, tl_47, tl_50, tl_60, tl_61, tl_99, tl_100, tl_101, tl_200, tl_201, tl_240, tl_300, tl_301, tl_999, tl_1000]; omega)) (by decide) cC_2) ⟨fun z => absurd z (by decide), fun _ => ?_⟩⟩
  refine ⟨60, 2000, by omega, by omega, ra_thing H hC hd _ _ _ _ _ (by unfold q_thing; exact iT_T (fun z => hf z.1)) (by decide) cA_1 _ _ _ (Nat.le_refl _) (Nat.le_refl _) ⟨fun z => absurd rfl z, fun _ => ?_⟩⟩
  refine ⟨60, 2000, by omega, by omega, ra_thing H hC hd _ _ _ _ _ (by unfold q_thing; exact iT_T (fun z => hm z.2.1.2)) (by decide) cA_1 _ _ _ (Nat.le_refl _) (Nat.le_refl _) ⟨fun z => absurd rfl z, fun _ => ?_⟩⟩
  refine ⟨60, 2000, by omega, by omega, off_ok (Nat.le_refl _) (Nat.le_refl _) (ra_thing H hC hd _ _ _ _ _ (rq_thing2 ⟨p_04, mt1, mt0⟩ (by decide)) (by decide) cA_2) ⟨fun z => absurd z (by decide), fun _ => ?_⟩⟩
  refine ⟨fun z => absurd z (by decide), fun _ => ?_⟩
  unfold w_L_isRefused_b885
  refine ⟨by omega, by omega, ?_⟩
  refine ⟨60, 2000, by omega, by omega, off_ok (Nat.le_refl _) (Nat.le_refl _) (ra_thing H hC hd _ _ _ _ _ (rq_thing2 ⟨p_04, mt0, mt0⟩ (by simp only [eR, ile, ilt, ieq, tadd, tsub, tmul, I0, tl_m1, tl_m2, tl_1, tl_2, tl_3, tl_4, tl_5, tl_6, tl_7, tl_8, tl_9, tl_10, tl_11, tl_24, tl_30, tl_40, tl_41, tl_47, tl_50, tl_60, tl_61, tl_99, tl_100, tl_101, tl_200, tl_201, tl_240, tl_300, tl_301, tl_999, tl_1000]; omega)) (by decide) cA_2) ⟨fun z => absurd z (by decide), fun _ => ?_⟩⟩
  refine ⟨60, 2000, by omega, by omega, no_ok (Nat.le_refl _) (Nat.le_refl _) (ra_trial H hC hd _ _ _ _ _ (by unfold q_trial; exact iT_T (fun z => hm z.2)) (by decide) cQ_1) ⟨fun z => absurd z (by decide), fun _ => ?_⟩⟩
  refine ⟨60, 2000, by omega, by omega, no_ok (Nat.le_refl _) (Nat.le_refl _) (ra_defect H hC hd _ _ _ _ _ (by unfold q_asks; exact iT_T (fun z => hm z.2)) (by decide) cC_1) ⟨fun z => absurd z (by decide), fun _ => ?_⟩⟩
  refine ⟨fun z => absurd z (by decide), fun _ => ?_⟩
  unfold w_L_isRefused_b945
  refine ⟨by omega, by omega, ?_⟩
  refine ⟨60, 2000, by omega, by omega, off_ok (Nat.le_refl _) (Nat.le_refl _) (ra_defect H hC hd _ _ _ _ _ (rq_asks2 mt0 (by simp only [eR, ile, ilt, ieq, tadd, tsub, tmul, I0, tl_m1, tl_m2, tl_1, tl_2, tl_3, tl_4, tl_5, tl_6, tl_7, tl_8, tl_9, tl_10, tl_11, tl_24, tl_30, tl_40, tl_41, tl_47, tl_50, tl_60, tl_61, tl_99, tl_100, tl_101, tl_200, tl_201, tl_240, tl_300, tl_301, tl_999, tl_1000]; omega)) (by decide) cC_2) ⟨fun z => absurd z (by decide), fun _ => ?_⟩⟩
  refine ⟨60, 2000, by omega, by omega, no_ok (Nat.le_refl _) (Nat.le_refl _) (ra_core H hC hd _ _ _ _ _ (by unfold q_core; exact iT_T (fun z => hm z.2)) (by decide) cQ_1) ⟨fun z => absurd z (by decide), fun _ => ?_⟩⟩
  refine ⟨60, 2000, by omega, by omega, ra_ask H hC hd _ _ _ _ _ _ _ (by unfold q_ask; exact iT_T (fun z => hf z.1)) (by decide) cA_1 _ _ _ (Nat.le_refl _) (Nat.le_refl _) ⟨fun z => absurd rfl z, fun _ => ?_⟩⟩
  refine ⟨60, 2000, by omega, by omega, ra_ask H hC hd _ _ _ _ _ _ _ (by unfold q_ask; exact iT_T (fun z => hm z.2.2.2)) (by decide) cA_1 _ _ _ (Nat.le_refl _) (Nat.le_refl _) ⟨fun z => absurd rfl z, fun _ => ?_⟩⟩
  refine ⟨60, 2000, by omega, by omega, ra_ask H hC hd _ _ _ _ _ _ _ (rq_ask2a ⟨p_04, mt1, mt0⟩ (by decide)) (by decide) cA_2 _ _ _ (Nat.le_refl _) (Nat.le_refl _) ⟨fun z => absurd rfl z, fun _ => ?_⟩⟩
  refine ⟨fun z => absurd z (by decide), fun _ => ?_⟩
  unfold w_L_isRefused_b1048
  refine ⟨by omega, by omega, ?_⟩
  refine ⟨60, 2000, by omega, by omega, ra_ask H hC hd _ _ _ _ _ _ _ (rq_ask2a ⟨p_04, mt0, mt0⟩ (by simp only [eR, ile, ilt, ieq, tadd, tsub, tmul, I0, tl_m1, tl_m2, tl_1, tl_2, tl_3, tl_4, tl_5, tl_6, tl_7, tl_8, tl_9, tl_10, tl_11, tl_24, tl_30, tl_40, tl_41, tl_47, tl_50, tl_60, tl_61, tl_99, tl_100, tl_101, tl_200, tl_201, tl_240, tl_300, tl_301, tl_999, tl_1000]; omega)) (by decide) cA_2 _ _ _ (Nat.le_refl _) (Nat.le_refl _) ⟨fun z => absurd rfl z, fun _ => ?_⟩⟩
  refine ⟨fun z => absurd z (by decide), fun _ => ⟨m, rfl, km, v0in, ?_⟩⟩
  unfold w_L_isRefused_b1092
  refine ⟨by omega, by omega, ?_⟩
  refine ⟨60, 2000, by omega, by omega, ra_ask H hC hd _ _ _ _ _ _ _ (rq_ask2b ⟨p_04, mt0, mt0⟩ (by decide) (by rw [note_3]; simp only [cl_0, A0, td.2, nI_toInt (show h / 24 < 2147483648 by omega), ile, ilt, ieq, tadd, tsub, tmul, I0, et, eR, tl_m1, tl_m2, tl_1, tl_2, tl_3, tl_4, tl_5, tl_6, tl_7, tl_8, tl_9, tl_10, tl_11, tl_24, tl_30, tl_40, tl_41, tl_47, tl_50, tl_60, tl_61, tl_99, tl_100, tl_101, tl_200, tl_201, tl_240, tl_300, tl_301, tl_999, tl_1000]; omega)) (by decide) cA_2 _ _ _ (Nat.le_refl _) (Nat.le_refl _) ⟨fun z => absurd rfl z, fun _ => ?_⟩⟩
  refine ⟨m, rfl, km, v0in, ?_⟩
  refine ⟨60, 2000, by omega, by omega, ra_ask H hC hd _ _ _ _ _ _ _ (rq_ask2b ⟨p_04, mt0, mt0⟩ ⟨by decide, by decide, (by rcases hr3 with e | e | e <;> rw [e] <;> decide), by decide⟩ (by have := note_ge (v - v / 3 * 3) (σ 3 (nI j).toNatClampNeg) hr3; simp only [cl_0, A0, td.2, ile, tadd, et, nI_toInt (show h / 24 < 2147483648 by omega), tl_m1, tl_m2, tl_1, tl_2, tl_3, tl_4, tl_5, tl_6, tl_7, tl_8, tl_9, tl_10, tl_11, tl_24, tl_30, tl_40, tl_41, tl_47, tl_50, tl_60, tl_61, tl_99, tl_100, tl_101, tl_200, tl_201, tl_240, tl_300, tl_301, tl_999, tl_1000]; omega)) (by decide) cA_2 _ _ _ (Nat.le_refl _) (Nat.le_refl _) ⟨fun z => absurd rfl z, fun _ => ?_⟩⟩
  refine ⟨fun z => absurd z (by decide), fun _ => ?_⟩
  unfold w_L_isRefused_b1155
  refine ⟨by omega, by omega, ?_⟩
  refine ⟨60, 2000, by omega, by omega, ra_ask H hC hd _ _ _ _ _ _ _ (rq_ask2a ⟨p_04, mt0, mt0⟩ (by simp only [eR, ile, ilt, ieq, tadd, tsub, tmul, I0, tl_m1, tl_m2, tl_1, tl_2, tl_3, tl_4, tl_5, tl_6, tl_7, tl_8, tl_9, tl_10, tl_11, tl_24, tl_30, tl_40, tl_41, tl_47, tl_50, tl_60, tl_61, tl_99, tl_100, tl_101, tl_200, tl_201, tl_240, tl_300, tl_301, tl_999, tl_1000]; omega)) (by decide) cA_2 _ _ _ (Nat.le_refl _) (Nat.le_refl _) ⟨fun z => absurd rfl z, fun _ => ?_⟩⟩
  refine ⟨60, 2000, by omega, by omega, no_ok (Nat.le_refl _) (Nat.le_refl _) (ra_liable H hC hd _ _ _ _ _ (by unfold q_asks; exact iT_T (fun z => hm z.2)) (by decide) cC_1) ⟨fun z => absurd z (by decide), fun _ => ?_⟩⟩
  refine ⟨fun z => absurd z (by decide), fun _ => ?_⟩
  unfold w_L_isRefused_b1197
  refine ⟨by omega, by omega, ?_⟩
  refine ⟨60, 2000, by omega, by omega, off_ok (Nat.le_refl _) (Nat.le_refl _) (ra_liableAnew H hC hd _ _ _ _ _ (rq_asks2 mt0 (by simp only [eR, ile, ilt, ieq, tadd, tsub, tmul, I0, tl_m1, tl_m2, tl_1, tl_2, tl_3, tl_4, tl_5, tl_6, tl_7, tl_8, tl_9, tl_10, tl_11, tl_24, tl_30, tl_40, tl_41, tl_47, tl_50, tl_60, tl_61, tl_99, tl_100, tl_101, tl_200, tl_201, tl_240, tl_300, tl_301, tl_999, tl_1000]; omega)) (by decide) cC_2) ⟨fun z => absurd z (by decide), fun _ => ?_⟩⟩
  refine ⟨60, 2000, by omega, by omega, no_ok (Nat.le_refl _) (Nat.le_refl _) (ra_metre H hC hd _ _ _ _ _ (by unfold q_metre; exact iT_T (fun z => hm z.2)) (by decide) cC_1) ⟨fun z => absurd z (by decide), fun _ => ?_⟩⟩
  refine ⟨fun z => absurd z (by decide), fun _ => ?_⟩
  unfold w_L_isRefused_b1242
  refine ⟨by omega, by omega, ?_⟩
  refine ⟨60, 2000, by omega, by omega, off_ok (Nat.le_refl _) (Nat.le_refl _) (ra_metre H hC hd _ _ _ _ _ (rq_metre2 mt0 (by simp only [eR, ile, ilt, ieq, tadd, tsub, tmul, I0, tl_m1, tl_m2, tl_1, tl_2, tl_3, tl_4, tl_5, tl_6, tl_7, tl_8, tl_9, tl_10, tl_11, tl_24, tl_30, tl_40, tl_41, tl_47, tl_50, tl_60, tl_61, tl_99, tl_100, tl_101, tl_200, tl_201, tl_240, tl_300, tl_301, tl_999, tl_1000]; omega)) (by decide) cC_2) ⟨fun z => absurd z (by decide), fun _ => ?_⟩⟩
  refine ⟨60, 2000, by omega, by omega, off_ok (Nat.le_refl _) (Nat.le_refl _) (ra_search H hC hd _ _ _ _ _ (rq_search2 ⟨mt1, mt0⟩ (by decide)) (by decide) cC_2) ⟨fun z => absurd z (by decide), fun _ => ?_⟩⟩
  unfold w_L_isRefused_b1270
  refine ⟨by omega, by omega, ?_⟩
  exact k _ _ (by omega) (by omega)
set_option maxHeartbeats 4000000 in
theorem ref3_l (H : ST e0 x o S σ μ C cap) (hC : C < 512) (hd : dis S M) (F : SF σ n h) {v : Int32} {r : Nat} (hr : r < 30) (eR : (v - v / 30 * 30).toInt = r) {j : Nat} (hk : j < n 8) (kw : gK (ov S M) w = 12) (w1in : vp_in (4 * nI j + 1) (gN (ov S M) w)) (w2in : vp_in (4 * nI j + 2) (gN (ov S M) w)) {vi : Int32} {f : Int64} (hi : ¬ (0 ≤ vi ∧ vi ≤ σ 23 0 - 1)) (hw9 : ¬ (σ 26 (nI j).toNatClampNeg ≤ (gA (ov S M) w (((4 * nI j) + 1)).toNatClampNeg) - 1 ∧ (gA (ov S M) w (((4 * nI j) + 1)).toNatClampNeg) - 1 ≤ σ 27 (nI j).toNatClampNeg)) (ho9 : z_of σ (nI j) (gA (ov S M) w (((4 * nI j) + 1)).toNatClampNeg)) {mc ms : Nat} {post : Int32 → PT → Prop} {c0 n0 : Nat} (hc : c0 + 600 ≤ mc) (hn : n0 + 20000 ≤ ms) (k : ∀ c1 n1, c1 ≤ c0 + 600 → n1 ≤ n0 + 20000 → w_L_isRefused_b1568 e0 m0 (some x) (some m) (some s) (some w) v mc ms post c1 n1 (ov S M) f 1) : w_L_isRefused_b1320 e0 m0 (some x) (some m) (some s) (some w) v mc ms post c0 n0 (ov S M) 1 vi f (nI j) (some x) 8 (nI j) (-1) := by
  have ik := in_k F hk
  have qk : (nI j).toNatClampNeg = j := qn_nat (by have := F.1.2.2.2.2.2.1; omega)
  have h8 : n 8 ≤ 24 := F.1.2.2.2.2.2.1
  unfold w_L_isRefused_b1320
  refine ⟨by omega, by omega, ?_⟩
  refine ⟨60, 2000, by omega, by omega, off_ok (Nat.le_refl _) (Nat.le_refl _) (ra_grant H hC hd _ _ _ _ _ (rq_grant2 ik (by simp only [eR, ile, ilt, ieq, tadd, tsub, tmul, I0, tl_m1, tl_m2, tl_1, tl_2, tl_3, tl_4, tl_5, tl_6, tl_7, tl_8, tl_9, tl_10, tl_11, tl_24, tl_30, tl_40, tl_41, tl_47, tl_50, tl_60, tl_61, tl_99, tl_100, tl_101, tl_200, tl_201, tl_240, tl_300, tl_301, tl_999, tl_1000]; omega) _) (by decide) cA_2) ⟨fun z => absurd z (by decide), fun _ => ?_⟩⟩
  refine ⟨fun z => absurd z (by decide), fun _ => ?_⟩
  unfold w_L_isRefused_b1350
  refine ⟨by omega, by omega, ?_⟩
  refine ⟨60, 2000, by omega, by omega, off_ok (Nat.le_refl _) (Nat.le_refl _) (ra_vary H hC hd _ _ _ _ _ (rq_vary2 ik (by simp only [eR, ile, ilt, ieq, tadd, tsub, tmul, I0, tl_m1, tl_m2, tl_1, tl_2, tl_3, tl_4, tl_5, tl_6, tl_7, tl_8, tl_9, tl_10, tl_11, tl_24, tl_30, tl_40, tl_41, tl_47, tl_50, tl_60, tl_61, tl_99, tl_100, tl_101, tl_200, tl_201, tl_240, tl_300, tl_301, tl_999, tl_1000]; omega)) (by decide) cA_2) ⟨fun z => absurd z (by decide), fun _ => ?_⟩⟩
  refine ⟨60, 2000, by omega, by omega, no_ok (Nat.le_refl _) (Nat.le_refl _) (ra_agree H hC hd _ _ _ _ _ (by unfold q_agree; exact iT_T (fun z => hi z.2)) (by decide) cC_1) ⟨fun z => absurd z (by decide), fun _ => ?_⟩⟩
  refine ⟨60, 2000, by omega, by omega, off_ok (Nat.le_refl _) (Nat.le_refl _) (ra_agree H hC hd _ _ _ _ _ (rq_agree2 ik) (by decide) cC_2) ⟨fun z => absurd z (by decide), fun _ => ?_⟩⟩
  refine ⟨fun z => absurd z (by decide), fun _ => ⟨w, rfl, kw, w1in, ?_⟩⟩
  unfold w_L_isRefused_b1422
  refine ⟨by omega, by omega, ?_⟩
  refine ⟨60, 2000, by omega, by omega, no_ok (Nat.le_refl _) (Nat.le_refl _) (ra_open H hC hd _ _ _ _ _ (by unfold q_open; exact iT_T (fun z => hw9 z.2)) (by decide) cQ_1) ⟨fun z => absurd z (by decide), fun _ => ?_⟩⟩
  refine ⟨fun z => absurd z (by decide), fun _ => ⟨w, rfl, kw, w1in, ?_⟩⟩
  unfold w_L_isRefused_b1462
  refine ⟨by omega, by omega, ?_⟩
  refine ⟨60, 2000, by omega, by omega, no_ok (Nat.le_refl _) (Nat.le_refl _) (ra_fill H hC hd _ _ _ _ _ (by unfold q_fill; exact iT_T (fun z => hw9 z.2)) (by decide) cA_1) ⟨fun z => absurd z (by decide), fun _ => ?_⟩⟩
  refine ⟨w, rfl, kw, w1in, ?_⟩
  refine ⟨fun z => absurd z (by decide), fun _ => ?_⟩
  unfold w_L_isRefused_b1501
  refine ⟨by omega, by omega, ?_⟩
  refine ⟨60, 2000, by omega, by omega, off_ok (Nat.le_refl _) (Nat.le_refl _) (ra_fill H hC hd _ _ _ _ _ (rq_fill2 ho9 (by simp only [eR, ile, ilt, ieq, tadd, tsub, tmul, I0, tl_m1, tl_m2, tl_1, tl_2, tl_3, tl_4, tl_5, tl_6, tl_7, tl_8, tl_9, tl_10, tl_11, tl_24, tl_30, tl_40, tl_41, tl_47, tl_50, tl_60, tl_61, tl_99, tl_100, tl_101, tl_200, tl_201, tl_240, tl_300, tl_301, tl_999, tl_1000]; omega)) (by decide) cA_2) ⟨fun z => absurd z (by decide), fun _ => ?_⟩⟩
  refine ⟨60, 2000, by omega, by omega, off_ok (Nat.le_refl _) (Nat.le_refl _) (ra_meets H hC hd _ _ _ _ _ (rq_meets2 ik (by simp only [eR, ile, ilt, ieq, tadd, tsub, tmul, I0, tl_m1, tl_m2, tl_1, tl_2, tl_3, tl_4, tl_5, tl_6, tl_7, tl_8, tl_9, tl_10, tl_11, tl_24, tl_30, tl_40, tl_41, tl_47, tl_50, tl_60, tl_61, tl_99, tl_100, tl_101, tl_200, tl_201, tl_240, tl_300, tl_301, tl_999, tl_1000]; omega)) (by decide) cC_2) ⟨fun z => absurd z (by decide), fun _ => ?_⟩⟩
  refine ⟨fun z => absurd z (by decide), fun _ => ?_⟩
  unfold w_L_isRefused_b1552
  refine ⟨by omega, by omega, ?_⟩
  refine ⟨60, 2000, by omega, by omega, off_ok (Nat.le_refl _) (Nat.le_refl _) (ra_of H hC hd _ _ _ _ _ (rq_of2 ik (by simp only [eR, ile, ilt, ieq, tadd, tsub, tmul, I0, tl_m1, tl_m2, tl_1, tl_2, tl_3, tl_4, tl_5, tl_6, tl_7, tl_8, tl_9, tl_10, tl_11, tl_24, tl_30, tl_40, tl_41, tl_47, tl_50, tl_60, tl_61, tl_99, tl_100, tl_101, tl_200, tl_201, tl_240, tl_300, tl_301, tl_999, tl_1000]; omega)) (by decide) cC_2) ⟨fun z => absurd z (by decide), fun _ => ?_⟩⟩
  unfold w_L_isRefused_b1566
  refine ⟨by omega, by omega, ?_⟩
  exact k _ _ (by omega) (by omega)
end REF
