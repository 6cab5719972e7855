/-! the board is sound: works, money -/
section SND2
variable {u9 v9 e0 m0 x o m s w : Nat} {S M : PT} {σ : SG} {μ : MU} {C cap t : Nat} {n : Nat → Nat} {h : Nat}
theorem SF_wk (F : SF σ n h) {k : Nat} (hk : k < n 8) : ∃ j a b : Nat, σ 25 k = nI j ∧ σ 26 k = nI a ∧ σ 27 k = nI b ∧ j < n 5 ∧ a ≤ b ∧ b < z_len σ j := by
  have ib := F.2.2.2.1
  obtain ⟨h1, h2, h3⟩ := F.2.2.2.2.1.2.2.1 k hk
  have b5 := nf ib 25 k rfl
  have b6 := nf ib 26 k rfl
  have b7 := nf ib 27 k rfl
  have l9 := (len_2 F (σ 25 k).toNatClampNeg).2
  refine ⟨_, _, _, b5.1, b6.1, b7.1, h1, ?_, h3⟩
  have r6 : ((σ 26 k).toNatClampNeg : Int) ≤ 39 := b6.2
  rw [b6.1, b7.1] at h2
  exact (qn_le (by omega) (by omega)).mp h2
theorem snd_chk (H : ST e0 x o S σ μ C cap) (hC : C < 512) (hd : dis S M) (F : SF σ n h) (I : LI σ μ t) (ht : t ≤ 140) {v : Int32} {mc ms : Nat} {post : Int32 → PT → Prop} {k108 : Nat → Nat → PT → Int32 → Int32 → Prop} {k R : Nat} (hk : k < n 8) (kk : ∀ c2 n2, c2 + R ≤ mc → n2 + 6 * R ≤ ms → k108 c2 n2 (ov S M) 1 (nI k + 1)) {c1 n1 : Nat} (hc : c1 + 5 + R ≤ mc) (hn : n1 + 30 + 6 * R ≤ ms) : w_L_areSound_b241 (some x) (some m) (some s) (some w) v mc ms post k108 c1 n1 (ov S M) (nI k) (σ 33 k) (z_bars σ k (n 8)) (z_first (z_meet σ k) (n 8) 0) := by
  have h8 : n 8 ≤ 24 := F.1.2.2.2.2.2.1
  have qk : (nI k).toNatClampNeg = k := qn_nat (by omega)
  have pk : (0 : Int32) ≤ nI k := (in_k F hk).1
  have ff := F.2.2.2.2.2.2.2.2.2.2.2
  have hbr : ¬ z_bars σ k (n 8) < 0 ∧ ¬ 4 ≤ z_bars σ k (n 8) := by rcases bars_in (σ := σ) k (n 8) with e | e | e | ⟨e, -⟩ <;> rw [e] <;> decide
  have b337 : ∀ c2 n2, c2 + R ≤ mc → n2 + 6 * R ≤ ms → w_L_areSound_b337 (some x) (some m) (some s) (some w) v mc ms post k108 c2 n2 (ov S M) (nI k) := fun c2 n2 h1 h2 => by
    unfold w_L_areSound_b337
    refine ⟨by omega, by omega, ?_⟩
    unfold w_L_areSound_b342
    exact ⟨by omega, by omega, kk c2 n2 h1 h2⟩
  have b291 : ∀ c2 n2, c2 + R + 3 ≤ mc → n2 + 6 * R + 18 ≤ ms → w_L_areSound_b291 (some x) (some m) (some s) (some w) v mc ms post k108 c2 n2 (ov S M) (nI k) (z_first (z_meet σ k) (n 8) 0) := fun c2 n2 h1 h2 => by
    unfold w_L_areSound_b291
    rcases first_spec (z_meet σ k) (n 8) 0 with e | ⟨l, -, hl, hm, e⟩
    · rw [e]
      exact ⟨by omega, by omega, fun _ => b337 _ _ (by omega) (by omega), fun z => absurd (by decide) z⟩
    · rw [e]
      have hl8 : l < n 8 := by omega
      have ql : (nI l).toNatClampNeg = l := qn_nat (by omega)
      have ql1 : (nI l + 1).toNatClampNeg = l + 1 := by rw [qn_s]; exact qn_nat (by omega)
      have pl : (0 : Int32) ≤ nI l := (in_k F hl8).1
      have pl1 : (0 : Int32) ≤ nI l + 1 := by rw [qn_s, ile, I0, nI_toInt (by omega)]; omega
      refine ⟨by omega, by omega, fun z => absurd pl (by rw [ilt] at z; rw [ile]; omega), fun _ => ⟨S, M, rfl, hd, x, rfl, ST_K H, 1, 6, by omega, by omega, ?_⟩⟩
      refine s_meets H hC _ _ 1 6 _ _ (Nat.le_refl _) (Nat.le_refl _) (fun hq => absurd (q_meets_0 F hl8 pk) hq) (fun _ _ => ?_)
      unfold z_meets
      rw [N8 F, ql, qk]
      refine ⟨fun z => absurd (first_hit (by omega) (meet_sym ff (by omega) (by omega) hm)) z, fun _ => ⟨S, M, rfl, hd, ST_K H, 1, 6, by omega, by omega, ?_⟩⟩
      refine s_meets H hC _ _ 1 6 _ _ (Nat.le_refl _) (Nat.le_refl _) (fun hq => absurd (q_meets_0 F hk pl) hq) (fun _ _ => ?_)
      unfold z_meets
      rw [N8 F, ql, qk]
      refine ⟨fun z => absurd (first_hit (by omega) hm) z, fun _ => ⟨S, M, rfl, hd, ST_K H, 1, 6, by omega, by omega, ?_⟩⟩
      refine s_meets H hC _ _ 1 6 _ _ (Nat.le_refl _) (Nat.le_refl _) (fun hq => absurd (q_meets_0 F hk pl1) hq) (fun _ _ => ?_)
      unfold z_meets
      rw [N8 F, ql1, qk]
      refine ⟨fun z => ?_, fun _ => b337 _ _ (by omega) (by omega)⟩
      exfalso
      rcases first_spec (z_meet σ k) (n 8 - (l + 1)) (l + 1) with e2 | ⟨l2, g1, g2, -, e2⟩
      · rw [e2, ieq, nI_toInt (by omega), tl_m1] at z; omega
      · rw [e2, ieq, nI_toInt (by omega), nI_toInt (by omega)] at z; omega
  have b280 : ∀ c2 n2, c2 + R + 3 ≤ mc → n2 + 6 * R + 18 ≤ ms → w_L_areSound_b280 (some x) (some m) (some s) (some w) v mc ms post k108 c2 n2 (ov S M) (nI k) (z_bars σ k (n 8)) (z_first (z_meet σ k) (n 8) 0) := fun c2 n2 h1 h2 => by
    unfold w_L_areSound_b280
    refine ⟨by omega, by omega, fun _ => b291 _ _ h1 h2, fun e3 => ⟨fun z => ?_, fun _ => b291 _ _ h1 h2⟩⟩
    exfalso
    rcases bars_in (σ := σ) k (n 8) with e | e | e | ⟨-, hm⟩
    · rw [e] at e3; exact absurd e3 (by decide)
    · rw [e] at e3; exact absurd e3 (by decide)
    · rw [e] at e3; exact absurd e3 (by decide)
    · obtain ⟨l, hl, -, hm⟩ := hm
      rcases first_spec (z_meet σ k) (n 8) 0 with e | ⟨l2, -, h9, -, e⟩
      · exact (first_no (z_meet σ k) (n 8) 0 (by omega)).mp e l (by omega) (by omega) hm
      · rw [e, ilt, nI_toInt (by omega), I0] at z; omega
  have b274 : (σ 33 k = 2 ∨ σ 33 k = 4) → ∀ c2 n2, c2 + R + 3 ≤ mc → n2 + 6 * R + 18 ≤ ms → w_L_areSound_b274 (some x) (some m) (some s) (some w) v mc ms post k108 c2 n2 (ov S M) (nI k) (z_bars σ k (n 8)) (z_first (z_meet σ k) (n 8) 0) := fun hst c2 n2 h1 h2 => by
    unfold w_L_areSound_b274
    refine ⟨by omega, by omega, fun z => absurd ((first_no (z_meet σ k) (n 8) 0 (by omega)).mpr (fun l _ _ hm => ?_)) z, fun _ => b280 _ _ h1 h2⟩
    have hon : ¬ z_on σ k := by
      rintro (e | e)
      · rcases hst with g | g <;> rw [g] at e <;> exact absurd e (by decide)
      · rcases hst with g | g <;> rw [g] at e <;> exact absurd e (by decide)
    rcases hm.1 with ⟨a, -⟩ | ⟨-, a⟩
    · exact hon a
    · rcases hst with g | g <;> rw [g] at a <;> exact absurd a (by decide)
  unfold w_L_areSound_b241
  refine ⟨by omega, by omega, fun z => absurd z hbr.1, fun _ => ⟨fun z => absurd z hbr.2, fun _ => ⟨S, M, rfl, hd, x, rfl, ST_K H, 1, 6, by omega, by omega, ?_⟩⟩⟩
  refine s_of H hC _ _ 1 6 _ _ (Nat.le_refl _) (Nat.le_refl _) (fun hq => absurd (q_of_0 F hk ⟨by decide, by decide⟩) hq) (fun _ _ => ?_)
  rw [wh_4, qk]
  have i5 := I.2.2.2.1 k (by omega)
  refine ⟨fun z => ?_, fun _ => ⟨fun e => b274 (Or.inl e) _ _ (by omega) (by omega), fun _ => ⟨fun _ => b280 _ _ (by omega) (by omega), fun e => b274 (Or.inr e) _ _ (by omega) (by omega)⟩⟩⟩
  exfalso
  rw [ilt, I0] at z
  omega
set_option maxRecDepth 100000 in
set_option maxHeartbeats 1000000 in
theorem snd_143 (L : LW u9 v9 e0 x m s w S M σ μ C cap t) (H : ST e0 x o S σ μ C cap) (hC : C < 512) (hd : dis S M) (F : SF σ n h) (ht : t ≤ 140) {v : Int32} {mc ms : Nat} {post : Int32 → PT → Prop} {k108 : Nat → Nat → PT → Int32 → Int32 → Prop} {k R : Nat} (hk : k < n 8) (kk : ∀ c2 n2, c2 + R ≤ mc → n2 + 6 * R ≤ ms → k108 c2 n2 (ov S M) 1 (nI k + 1)) {j a b : Nat} (e25 : σ 25 k = nI j) (e26 : σ 26 k = nI a) (e27 : σ 27 k = nI b) (hj : j < n 5) (hb : b < z_len σ j) : ∀ rem y, y + rem = b + 1 → ∀ c1 n1, c1 + rem + 10 + R ≤ mc → n1 + 6 * rem + 60 + 6 * R ≤ ms → w_L_areSound_l143 (some x) (some m) (some s) (some w) v mc ms post k108 (rem + 1) c1 n1 (ov S M) (nI k) (σ 33 k) (nI (cN (fun q => σ 13 q = nI k) (40 * j + y))) (nI y) := by
  have h5 : n 5 ≤ 6 := F.1.2.1
  have h8 : n 8 ≤ 24 := F.1.2.2.2.2.2.1
  have l40 := (len_2 F j).2
  obtain ⟨-, -, ⟨kw, nw, aw⟩⟩ := LW_rows L F
  obtain ⟨-, -, -, ⟨-, -, AW, A16⟩, I, -⟩ := L
  obtain ⟨I1, I2, I4, I5, I7, I8, I9⟩ := id I
  rw [N8 F] at AW A16
  obtain ⟨w0, w1, w2, -, -⟩ := AW k hk
  have qk : (nI k).toNatClampNeg = k := qn_nat (by omega)
  have c0' : (4 * nI k).toNatClampNeg = 4 * k := by rw [ix4]; exact qn_nat (by omega)
  have c2' : (4 * nI k + 2).toNatClampNeg = 4 * k + 2 := by rw [ix42]; exact qn_nat (by omega)
  have vi0 : vp_in (4 * nI k) (gN (ov S M) w) := by rw [nw, ix4]; exact vin_nI (by omega) (by omega)
  have vi2 : vp_in (4 * nI k + 2) (gN (ov S M) w) := by rw [nw, ix42]; exact vin_nI (by omega) (by omega)
  have chk := fun c1 n1 => snd_chk (w := w) (m := m) (s := s) H hC hd F I ht (v := v) (mc := mc) (ms := ms) (post := post) hk kk (c1 := c1) (n1 := n1)
  intro rem
  induction rem with
  | zero =>
    intro y hy c1 n1 hc hn
    refine ⟨by omega, by omega, w, rfl, kw, vi2, fun _ => ⟨S, M, rfl, hd, x, rfl, ST_K H, 1, 6, by omega, by omega, ?_⟩, fun z => absurd ?_ z⟩
    · refine s_bars H hC _ 1 6 _ _ (Nat.le_refl _) (Nat.le_refl _) (fun hq => absurd (q_wk_0 F hk) hq) (fun _ _ => ?_)
      refine ⟨S, M, rfl, hd, ST_K H, 1, 6, by omega, by omega, ?_⟩
      refine s_meets H hC _ _ 1 6 _ _ (Nat.le_refl _) (Nat.le_refl _) (fun hq => absurd (q_meets_0 F hk (by decide)) hq) (fun _ _ => ?_)
      refine ⟨S, M, rfl, hd, ST_K H, 1, 6, by omega, by omega, ?_⟩
      refine s_of H hC _ _ 1 6 _ _ (Nat.le_refl _) (Nat.le_refl _) (fun hq => absurd (q_of_0 F hk ⟨by decide, by decide⟩) hq) (fun _ _ => ?_)
      unfold z_meets
      rw [wh_5, N8 F, qk, cl_0, Nat.sub_zero]
      have e5 : z_opens σ (nI k) = cN (fun q => σ 13 q = nI k) (40 * j + y) := by
        refine cN_more 240 (by omega) (fun q h1 h2 hp => ?_)
        have i1 := I1 q k h2 (by omega) hp
        have g1 := i1.2.1
        rw [e25, qn_eq (by omega) (by omega)] at g1
        have g2 := i1.2.2.2
        rw [e27, qn_le (by omega) (by omega)] at g2
        omega
      rw [e5]
      refine ⟨fun z => absurd rfl z, fun _ => ⟨fun _ => chk _ _ (by omega) (by omega), fun h3 => ⟨fun z => ?_, fun _ => ⟨S, M, rfl, hd, ST_K H, 1, 6, by omega, by omega, ?_⟩⟩⟩⟩
      · exfalso
        refine z ?_
        rw [← e5]
        have : z_opens σ (nI k) = 0 := (cN_0 240).mpr (fun q hq hp => h3 (I1 q k hq (by omega) hp).1)
        rw [this]; rfl
      · refine s_of H hC _ _ 1 6 _ _ (Nat.le_refl _) (Nat.le_refl _) (fun hq => absurd (q_of_0 F hk ⟨by decide, by decide⟩) hq) (fun _ _ => ?_)
        rw [wh_6, qk, iT_T (I2 k (by omega) h3)]
        exact ⟨fun z => absurd rfl z, fun _ => chk _ _ (by omega) (by omega)⟩
    · rw [c2', aw, w2, e27, qn_lt (by omega) (by omega)]; omega
  | succ rem ih =>
    intro y hy c1 n1 hc hn
    refine ⟨by omega, by omega, w, rfl, kw, vi2, fun z => ?_, fun _ => ⟨vi0, S, M, rfl, hd, x, rfl, ST_K H, 1, 6, by omega, by omega, ?_⟩⟩
    · exfalso
      rw [c2', aw, w2, e27, qn_lt (by omega) (by omega)] at z; omega
    rw [c0', aw, w0, e25]
    refine s_metre H hC _ _ _ 1 6 _ _ (Nat.le_refl _) (Nat.le_refl _) (fun hq => absurd (q_metre_0 F hj (show y < z_len σ j by omega) ⟨by decide, by decide⟩) hq) (fun _ _ => ?_)
    rw [mw_2, mat_nI (by omega) (by omega)]
    have step : ∀ v9 : Int32, nI (cN (fun q => σ 13 q = nI k) (40 * j + y)) + v9 = nI (cN (fun q => σ 13 q = nI k) (40 * j + (y + 1))) → w_L_areSound_b181 (some x) (some m) (some s) (some w) v mc ms post k108 (w_L_areSound_l143 (some x) (some m) (some s) (some w) v mc ms post k108 (rem + 1)) (c1 + 1) (n1 + 6) (ov S M) (nI k) (σ 33 k) (nI y) (nI (cN (fun q => σ 13 q = nI k) (40 * j + y))) v9 := fun v9 e => by
      unfold w_L_areSound_b181
      refine ⟨by omega, by omega, ?_⟩
      rw [e, qn_s]
      exact ih (y + 1) (by omega) _ _ (by omega) (by omega)
    have e1 : 40 * j + (y + 1) = 40 * j + y + 1 := rfl
    refine ⟨fun hne => step 0 ?_, fun he => step 1 ?_⟩
    · rw [e1, cN_s, iT_F hne]
      have := qn_add (cN (fun q => σ 13 q = nI k) (40 * j + y)) 0
      exact this
    · rw [e1, cN_s, iT_T he]
      exact qn_s _
set_option maxRecDepth 100000 in
set_option maxHeartbeats 1000000 in
theorem snd_2 (L : LW u9 v9 e0 x m s w S M σ μ C cap t) (H : ST e0 x o S σ μ C cap) (hC : C < 512) (hd : dis S M) (F : SF σ n h) (ht : t ≤ 140) {X : Nat} (hX : X < 2147483648) {mc ms : Nat} {post : Int32 → PT → Prop} (hp : post 1 (ov S M)) : ∀ rem k, k + rem = n 8 → ∀ c1 n1, c1 + 30 * rem + 80 ≤ mc → n1 + 180 * rem + 480 ≤ ms → w_L_areSound_l108 (some x) (some m) (some s) (some w) (nI X) mc ms post (rem + 1) c1 n1 (ov S M) 1 (nI k) := by
  have h5 : n 5 ≤ 6 := F.1.2.1
  have h8 : n 8 ≤ 24 := F.1.2.2.2.2.2.1
  have s3 := fun c1 n1 => snd_3 L H hC hd F ht hX (mc := mc) (ms := ms) hp (n 5) 0 (by omega) c1 n1
  obtain ⟨⟨km, nm, am⟩, -, ⟨kw, nw, aw⟩⟩ := LW_rows L F
  obtain ⟨-, -, -, ⟨⟨A0, A1, A2, A3⟩, AS, AW, A16⟩, ⟨I1, -⟩, -⟩ := id L
  rw [← am] at A0 A1 A2 A3
  rw [N5 F] at AS
  rw [N8 F] at AW A16
  have v3in : vp_in 3 (gN (ov S M) m) := by rw [nm]; exact vin_nI (k := 3) (by omega) (by omega)
  intro rem
  induction rem with
  | zero =>
    intro k hk c1 n1 hc hn
    refine ⟨by omega, by omega, m, rfl, km, v3in, fun _ => ?_, fun z => absurd ?_ z⟩
    · unfold w_L_areSound_b350
      exact ⟨by omega, by omega, n 5 + 1, s3 c1 n1 (by omega) (by omega)⟩
    · rw [cl_3, A3, F.1.2.2.2.2.1, qn_le (by omega) (by omega)]; omega
  | succ rem ih =>
    intro k hk c1 n1 hc hn
    have hk8 : k < n 8 := by omega
    obtain ⟨j, a, b, e25, e26, e27, hj, hab, hb⟩ := SF_wk F hk8
    have qk : (nI k).toNatClampNeg = k := qn_nat (by omega)
    obtain ⟨w0, w1, w2, -, -⟩ := AW k hk8
    obtain ⟨-, -, -, -, sl2⟩ := AS j hj
    have l9 := len_2 F j
    have t2 : (σ 2 j).toInt = (z_len σ j : Int) := by rw [l9.1]; exact nI_toInt (by omega)
    have c1' : (4 * nI k + 1).toNatClampNeg = 4 * k + 1 := by rw [ix41]; exact qn_nat (by omega)
    have vi1 : vp_in (4 * nI k + 1) (gN (ov S M) w) := by rw [nw, ix41]; exact vin_nI (by omega) (by omega)
    refine ⟨by omega, by omega, m, rfl, km, v3in, fun z => absurd z ?_, fun _ => ⟨fun z => absurd z (by decide), fun _ => ⟨S, M, rfl, hd, x, rfl, ST_K H, 1, 6, by omega, by omega, ?_⟩⟩⟩
    · rw [cl_3, A3, F.1.2.2.2.2.1, qn_le (by omega) (by omega)]; omega
    refine s_of H hC _ _ 1 6 _ _ (Nat.le_refl _) (Nat.le_refl _) (fun hq => absurd (q_of_0 F hk8 ⟨by decide, by decide⟩) hq) (fun _ _ => ?_)
    refine ⟨w, rfl, kw, vi1, b + 1 - a + 1, ?_⟩
    rw [wh_0, qk, c1', aw, w1, e26]
    have z0 : cN (fun q => σ 13 q = nI k) (40 * j + a) = 0 := (cN_0 _).mpr (fun q hq hp => by
      have i1 := I1 q k (by omega) (by omega) hp
      have g1 := i1.2.1
      rw [e25, qn_eq (by omega) (by omega)] at g1
      have g2 := i1.2.2.1
      rw [e26, qn_le (by omega) (by omega)] at g2
      omega)
    have key := snd_143 (v := nI X) (mc := mc) (ms := ms) (post := post) (k108 := w_L_areSound_l108 (some x) (some m) (some s) (some w) (nI X) mc ms post (rem + 1)) (R := 30 * rem + 80) L H hC hd F ht hk8 (fun c2 n2 g1 g2 => by rw [qn_s]; exact ih (k + 1) (by omega) c2 n2 (by omega) (by omega)) e25 e26 e27 hj hb (b + 1 - a) a (by omega) (c1 + 1) (n1 + 6) (by omega) (by omega)
    rw [z0] at key
    exact key
theorem snd_1 (L : LW u9 v9 e0 x m s w S M σ μ C cap t) (H : ST e0 x o S σ μ C cap) (hC : C < 512) (hd : dis S M) (F : SF σ n h) (ht : t ≤ 140) {X : Nat} (hX : X < 2147483648) {mc ms : Nat} {post : Int32 → PT → Prop} (hp : post 1 (ov S M)) : ∀ rem k, k + rem = 6 → ∀ c1 n1, c1 + 4 * rem + 600 ≤ mc → n1 + 24 * rem + 3600 ≤ ms → w_L_areSound_l9 (some x) (some m) (some s) (some w) (nI X) mc ms post (rem + 1) c1 n1 (ov S M) (sumM μ k) 1 (nI k) := by
  have h8 : n 8 ≤ 24 := F.1.2.2.2.2.2.1
  have h16 := L.2.2.2.1.2.2.2
  rw [N8 F] at h16
  have lm := L.2.2.2.2.1.2.2.2.2.2.1
  have h9 := F.2.2.1
  have e00 : (σ 0 0).toNatClampNeg = h := by rw [F.2.1]; exact qn_nat (by omega)
  rw [e00] at lm
  have s0 := sum_0 lm (by omega)
  have s2 := fun c1 n1 => snd_2 L H hC hd F ht hX (mc := mc) (ms := ms) hp (n 8) 0 (by omega) c1 n1
  intro rem
  induction rem with
  | zero =>
    intro k hk c1 n1 hc hn
    have e6 : k = 6 := by omega
    subst e6
    refine ⟨by omega, by omega, fun _ => ?_, fun z => absurd (by decide) z⟩
    unfold w_L_areSound_b76
    rw [s0]
    refine ⟨by omega, by omega, fun z => absurd z (by decide), fun _ => ⟨fun z => absurd ((lg_cmp_eq 0 0).mpr rfl) z, fun _ => ⟨S, M, rfl, hd, x, rfl, ST_K H, 1, 6, by omega, by omega, ?_⟩⟩⟩
    refine s_money H hC _ 1 6 _ _ (Nat.le_refl _) (Nat.le_refl _) (fun hq => absurd (q_mo_0 (p := 5) (by omega)) hq) (fun _ _ => ?_)
    refine ⟨fun z => ?_, fun _ => ?_⟩
    · exfalso
      rw [cl_5, lg_cmp_lt, jlt, show (0 : Int64).toInt = 0 from by decide] at z
      have := lm.2.1
      omega
    · unfold w_L_areSound_b103
      exact ⟨by omega, by omega, n 8 + 1, s2 _ _ (by omega) (by omega)⟩
  | succ rem ih =>
    intro k hk c1 n1 hc hn
    have b63 : ∀ c2 n2, c2 + 4 * rem + 600 ≤ mc → n2 + 24 * rem + 3600 ≤ ms → w_L_areSound_b63 (some x) (some m) (some s) (some w) (nI X) mc ms post (w_L_areSound_l9 (some x) (some m) (some s) (some w) (nI X) mc ms post (rem + 1)) c2 n2 (ov S M) (sumM μ k + μ k) (nI k) := fun c2 n2 g1 g2 => by
      unfold w_L_areSound_b63
      refine ⟨by omega, by omega, ?_⟩
      unfold w_L_areSound_b68
      refine ⟨by omega, by omega, ?_⟩
      rw [qn_s]
      exact ih (k + 1) (by omega) c2 n2 g1 g2
    have qk : (nI k).toNatClampNeg = k := qn_nat (by omega)
    refine ⟨by omega, by omega, fun z => ?_, fun _ => ⟨fun z => absurd z (by decide), fun _ => ⟨S, M, rfl, hd, x, rfl, ST_K H, 1, 6, by omega, by omega, ?_⟩⟩⟩
    · exfalso
      rw [show (6 : Int32) = nI 6 from rfl, qn_le (by omega) (by omega)] at z; omega
    refine s_money H hC _ 1 6 _ _ (Nat.le_refl _) (Nat.le_refl _) (fun hq => absurd (q_mo_0 (by omega)) hq) (fun _ _ => ?_)
    refine ⟨S, M, rfl, hd, ST_K H, 1, 6, by omega, by omega, ?_⟩
    refine s_money H hC _ 1 6 _ _ (Nat.le_refl _) (Nat.le_refl _) (fun hq => absurd (q_mo_0 (by omega)) hq) (fun _ _ => ?_)
    refine ⟨S, M, rfl, hd, ST_K H, 1, 6, by omega, by omega, ?_⟩
    refine s_moneyAnew H hC _ 1 6 _ _ (Nat.le_refl _) (Nat.le_refl _) (fun hq => absurd (q_mo_0 (by omega)) hq) (fun _ _ => ?_)
    rw [qk]
    refine ⟨fun z => absurd ((lg_cmp_eq _ _).mpr rfl) z, fun _ => ⟨fun _ => b63 _ _ (by omega) (by omega), fun h5 => ⟨S, M, rfl, hd, ST_K H, 1, 6, by omega, by omega, ?_⟩⟩⟩
    have k5 : k < 5 := by
      have : ¬ k = 5 := fun e => h5 (by rw [e]; rfl)
      omega
    refine s_due H hC _ 1 6 _ _ (Nat.le_refl _) (Nat.le_refl _) (fun hq => absurd (q_pr_0 k5) hq) (fun _ _ => ?_)
    exact ⟨fun z => absurd z (due_ge _ _), fun _ => b63 _ _ (by omega) (by omega)⟩
theorem sound_ok (L : LW u9 v9 e0 x m s w S M σ μ C cap t) (ht : t ≤ 140) {X : Nat} (hX : X < 2147483648) {mc ms : Nat} {post : Int32 → PT → Prop} (hmc : 640 ≤ mc) (hms : 4000 ≤ ms) (hp : post 1 (ov S M)) : w_L_areSound (some x) (some m) (some s) (some w) (nI X) (ov S M) mc ms post := by
  obtain ⟨o, H⟩ := L.1
  obtain ⟨n, h, F, -⟩ := ST_SF H
  have hC : C < 512 := by have := L.2.2.2.2.2.1; omega
  exact ⟨7, snd_1 L H hC L.2.1 F ht hX hp 6 0 rfl 0 0 (by omega) (by omega)⟩
end SND2
