/-! fill: the call -/
section C
variable {ad : Nat → Nat → Nat} {S : PT} {T : CT} {σ : SG} {n len : Nat → Nat} {μ : MU} {pl : Nat → Nat} {B E : Nat}
theorem k_fill {e0 m0 : Nat} (R : RC ad (VC n (z_len σ)) S T) (W : WJ (VC n (z_len σ)) T) (H : GI T σ μ n pl B E) (h512 : n 6 < 512) (he1 : n 6 = 0 → ad 20 0 = e0) (he2 : 0 < n 6 → ad 20 0 ≠ e0) (x y d : Int32) {mc ms : Nat} (h1 : 60 ≤ mc) (h6 : 2000 ≤ ms) {post : Int32 → PT → Prop} {postX : String → PT → Prop}
    (hx1 : q_fill σ x y d = 1 → postX "java/lang/IndexOutOfBoundsException" S) (hx2 : q_fill σ x y d = 2 → postX "java/lang/IllegalArgumentException" S) (hx3 : q_fill σ x y d = 3 → postX "java/lang/IllegalStateException" S)
    (h : q_fill σ x y d = 0 → ∀ ad' S' T', RC ad' (VC (nU (nU n 1) 6) (z_len σ)) S' T' → WJ (VC (nU (nU n 1) 6) (z_len σ)) T' → (∀ k i, k ≠ 1 → k ≠ 6 → k ≠ 20 → ad' k i = ad k i) → ad' 20 0 ≠ e0 → tN T' 12 = tN T 12 → GI T' (u_fill σ x y d) μ (nU (nU n 1) 6) (fun l => if l = n 1 then n 6 else pl l) B E → post (nI (cN (fun k => u_fill σ x y d 41 k = nI (z_at σ x.toNatClampNeg y)) (n 1 + 1))) S') : w_X8_fill e0 m0 (ad 9 0) x y d S mc ms post postX := by
  have Hb := H.1.2.2.2.2.2.2.2
  unfold w_X8_fill
  unfold q_fill at hx1 hx2 hx3 h
  have b34 : ¬ z_of σ x y → w_X8_fill_b34 e0 m0 (ad 9 0) x y d mc ms post postX 0 0 S := fun hn => ⟨by omega, by omega, by omega, by omega, hx1 (iT_T hn)⟩
  refine ⟨(RC_o9 R VC_9).1, ?_⟩
  rw [k_worksAt R H.1]
  by_cases hof : z_of σ x y
  · obtain ⟨k, s, i, hk, rfl, rfl, hs, hi, hi40, es, ea, hk24⟩ := of_n H.1 hof
    have qk : (nI k).toNatClampNeg = k := qn_nat (by omega)
    have h6' : n 5 ≤ 6 := H.1.1.2.1
    have es2 : (σ 25 k).toNatClampNeg = s := by rw [es]; exact qn_nat (by omega)
    have n16 : n 1 ≤ n 6 := H.1.1.2.2.2.2.2.2.2.1
    rw [iT_F (show ¬ ¬ _ from fun z => z hof)] at hx2 hx3 h
    rw [qk, ea] at hx3 h
    rw [iT_T hof.1, qk]
    refine ⟨fun e => (by cases e), fun a e => ?_⟩
    cases e
    have o8 := RC_o8 R (VC_8 (n := n) (len := z_len σ) hk)
    have o3 := RC_o3 R (VC_3 (n := n) (len := z_len σ) hs hi hi40)
    refine ⟨o8.1, ?_⟩
    have hof2 := hof.2
    rw [qk] at hof2
    rw [k_ownMetreAt R H.1 hk, iT_T hof2, ea]
    unfold w_X8_fill_b22
    refine ⟨by omega, by omega, fun e => (by cases e), fun a33 e33 => ⟨fun e => (by cases e), fun a35 e35 => ?_⟩⟩
    cases e33; cases e35
    have b55 : ¬ (0 ≤ d ∧ d ≤ 100) → w_X8_fill_b55 e0 m0 (ad 9 0) (nI k) (nI i) d mc ms post postX 0 0 S := fun hn => ⟨by omega, by omega, by omega, by omega, hx2 (iT_T hn)⟩
    refine ⟨fun d0 => b55 (fun z => by have := z.1; rw [← not_lt32] at this; exact this d0), fun d0 => ⟨fun d1 => ?_, fun d1 => b55 (fun z => d1 z.2)⟩⟩
    rw [not_lt32] at d0
    rw [iT_F (show ¬ ¬ _ from fun z => z ⟨d0, d1⟩)] at hx3 h
    obtain ⟨m0', m1, m2, m3⟩ := H.1.2.2.2.2.2.1 s i hs hi
    obtain ⟨w0, w1, w2, -⟩ := (H.1.2.2.2.1 k hk).1
    refine ⟨o3.1, o8.1, ?_⟩
    rw [o3.2.2.1, m1, o8.2.1, w0]
    refine ⟨fun h13 => ?_, fun h13 => ⟨by omega, by omega, hx3 (iT_T h13)⟩⟩
    have h9 := h (iT_F (fun z => z h13))
    have v3 : VC n (z_len σ) 3 (40 * s + i) := VC_3 hs hi hi40
    refine RC_uI R v3 1 rfl (by decide) (by decide) (fun S1 R1 => ?_)
    have g815 : gI S1 815 (ad 8 k) = tI T 815 k := by rw [(RC_o8 R1 (VC_8 hk)).2.2.2.2.2.2.2.2.2.2.2.2.2.2.2.2.1, tI_o (by decide)]
    rw [g815]
    refine RC_uI R1 (VC_8 hk) 15 rfl (by decide) (by decide) (fun S2 R2 => ?_)
    have p908 : tP T 908 0 = some 0 := H.1.2.1.2.2.2.2.2.2.2.2.2.1
    have o92 := RC_o9 R2 (VC_9 (n := n) (len := z_len σ))
    have o112 := RC_o11 R2 (VC_11 (n := n) (len := z_len σ))
    have g908 : gP S2 908 (ad 9 0) = some (ad 11 0) := by rw [o92.2.2.2.2.2.2.2.2.2.1, tP_uI, tP_uI, p908]; rfl
    have gsz : gI S2 1102 (ad 11 0) = nI (n 6) := by rw [o112.2.2.2, tI_o (by decide), tI_o (by decide)]; exact H.2.2.2.2.2.2.1.2.1
    unfold w_Jx4a65c_size_8abf5
    refine ⟨o92.1, _, g908, o112.1, o112.1, ?_⟩
    rw [gsz]
    refine ⟨fun hz => ?_, fun _ => ⟨by omega, by omega, ?_⟩⟩
    · rw [show (512 : Int32) = nI 512 from rfl, qn_le (by omega) (by omega)] at hz; omega
    refine RC_uO R2 (WJ_uI (WJ_uI W)) (Or.inr (Or.inr rfl)) (fun q S3 R3 W3 => ?_)
    have e7 : ∀ k i, k ≠ 1 → up2 ad 1 (n 1) q k i = ad k i := fun k i hk => up2_f _ _ _ _ hk
    have eq7 : up2 ad 1 (n 1) q 1 (n 1) = q := up2_s _ _ _ _
    generalize up2 ad 1 (n 1) q = A at *
    rw [← e7 3 (40 * s + i) (by decide), ← e7 8 k (by decide), ← e7 9 0 (by decide), ← eq7]
    have v1 : VC (nU n 1) (z_len σ) 1 (n 1) := by show n 1 < nU n 1 1; rw [nU_s]; omega
    have v3' : VC (nU n 1) (z_len σ) 3 (40 * s + i) := v3
    have v8' : VC (nU n 1) (z_len σ) 8 k := hk
    have v5' : VC (nU n 1) (z_len σ) 5 s := hs
    have o93 := RC_o9 R3 (VC_9 (n := nU n 1) (len := z_len σ))
    have o113 := RC_o11 R3 (VC_11 (n := nU n 1) (len := z_len σ))
    have g909 : gI S3 909 (A 9 0) = σ 0 0 := by
      rw [o93.2.2.2.2.2.2.2.2.2.2, tI_N (by decide), tI_o (by decide), tI_o (by decide), H.1.2.1.2.2.2.1]
    have g9083 : gP S3 908 (A 9 0) = some (A 11 0) := by rw [o93.2.2.2.2.2.2.2.2.2.1, tP_N (by decide), tP_uI, tP_uI, p908]; rfl
    have gsz3 : gI S3 1102 (A 11 0) = nI (n 6) := by rw [o113.2.2.2, tI_N (by decide), tI_o (by decide), tI_o (by decide)]; exact H.2.2.2.2.2.2.1.2.1
    have g303 : gP S3 303 (A 3 (40 * s + i)) = (tP T 303 (40 * s + i)).map (A 1) := by
      rw [(RC_o3 R3 v3').2.2.2.2, tP_N (by decide), tP_uI, tP_uI]
    unfold w_X8_today
    refine ⟨o93.1, o93.1, ?_⟩
    rw [g909]
    have etd : σ 0 0 / 24 = z_today σ := rfl
    rw [etd]
    refine ⟨o93.1, _, g9083, o113.1, o113.1, ?_⟩
    rw [gsz3]
    refine ⟨(RC_o3 R3 v3').1, ?_⟩
    rw [g303]
    unfold w_X0_init
    refine ⟨(RC_o1 R3 v1).1, ?_⟩
    refine RC_uP R3 v1 0 rfl (by decide) (by decide) (some k) rfl (fun S4 R4 => ?_)
    refine RC_uI R4 v1 1 rfl (by decide) (by decide) (fun S5 R5 => ?_)
    refine RC_uI R5 v1 2 rfl (by decide) (by decide) (fun S6 R6 => ?_)
    refine RC_uI R6 v1 3 rfl (by decide) (by decide) (fun S7 R7 => ?_)
    refine RC_uP R7 v1 4 rfl (by decide) (by decide) (tP T 303 (40 * s + i)) rfl (fun S8 R8 => ⟨(RC_o3 R8 v3').1, ?_⟩)
    refine RC_uP R8 v3' 3 rfl (by decide) (by decide) (some (n 1)) rfl (fun S9 R9 => ?_)
    have g302 : gI S9 302 (A 3 (40 * s + i)) = tI T 302 (40 * s + i) := by
      rw [(RC_o3 R9 v3').2.2.2.1]
      simp only [tI_N, tI_uP, tI_uR, tP_uI, tP_uR, tR_uI, tR_uP, tR_uN, tN_uI, tN_uP, tN_uR, tN_uN, tJ_uI, tJ_uP, tJ_uR, tJ_N, tA_uI, tA_uP, tA_uR, tA_uN, tB_uI, tB_uP, tB_uR, tB_uN, tI_s, tI_o, tP_s, tP_o, tI_Ns, tP_Ns, ne_eq, Nat.reduceEqDiff, Nat.reduceDiv, Nat.reduceMul, Nat.reduceAdd, not_false_eq_true]
    rw [g302]
    refine RC_uI R9 v3' 2 rfl (by decide) (by decide) (fun S10 R10 => ⟨by omega, by omega, ?_⟩)
    have R10' : RC A (VC (nU n 1) (z_len σ)) S10 (y_fil T (n 1) (40 * s + i) k (n 6) d (z_today σ)) := R10
    have hF : n 1 < nU n 1 1 := by rw [nU_s]; omega
    have W10 : WJ (VC (nU n 1) (z_len σ)) (y_fil T (n 1) (40 * s + i) k (n 6) d (z_today σ)) := by
      unfold y_fil
      refine WJ_uI (WJ_uP (WJ_uP (WJ_uI (WJ_uI (WJ_uI (WJ_uP W3 (by decide) (fun t ht => by cases ht; exact v8'))))) (by decide) (fun t ht => ?_)) (by decide) (fun t ht => by cases ht; exact hF))
      rw [m3] at ht
      have := (lastO_in _ _ _ ht).1
      show t < nU n 1 1
      rw [nU_s]; omega
    obtain ⟨yx1, yx2, yx3, yx4⟩ := fil_x T (n 1) (40 * s + i) k (n 6) d (z_today σ)
    have yI : ∀ G, ¬ (G = 301 ∨ G = 302 ∨ G = 815 ∨ G / 100 = 1) → tI (y_fil T (n 1) (40 * s + i) k (n 6) d (z_today σ)) G = tI T G := fun G h => fil_I _ _ _ _ _ _ _ h
    have yP : ∀ G, ¬ (G = 303 ∨ G / 100 = 1) → tP (y_fil T (n 1) (40 * s + i) k (n 6) d (z_today σ)) G = tP T G := fun G h => fil_P _ _ _ _ _ _ _ h
    have GY := fun T6 p (hp : p < 5) (ep : σ 24 k = nI p) L => g_fill (d := d) (T6 := T6) (p := p) H h512 hk hs hi h13 es hp ep (by rw [ile, I0] at d0; exact d0) (by rw [ile, show (100 : Int32).toInt = 100 from by decide] at d1; exact d1) rfl L
    generalize hYg : y_fil T (n 1) (40 * s + i) k (n 6) d (z_today σ) = Y at *
    refine RC_uO6 R10' W10 (fun q2 S11 R11 W11 => ?_)
    rw [show nU n 1 6 = n 6 from rfl] at R11 W11
    have e8 : ∀ k i, k ≠ 6 → up2 A 6 (nU n 1 6) q2 k i = A k i := fun k i hk => up2_f _ _ _ _ hk
    have eq8 : up2 A 6 (nU n 1 6) q2 6 (n 6) = q2 := up2_s _ _ _ _
    rw [show nU n 1 6 = n 6 from rfl] at e8 eq8
    generalize up2 A 6 (n 6) q2 = A2 at *
    have v6 : Vn (VC (nU n 1) (z_len σ)) 6 (n 6) 6 (n 6) := Or.inr ⟨rfl, rfl⟩
    have v82 : Vn (VC (nU n 1) (z_len σ)) 6 (n 6) 8 k := Or.inl v8'
    have v52 : Vn (VC (nU n 1) (z_len σ)) 6 (n 6) 5 s := Or.inl v5'
    have v92 : Vn (VC (nU n 1) (z_len σ)) 6 (n 6) 9 0 := Or.inl rfl
    rw [← e8 3 (40 * s + i) (by decide), ← e8 8 k (by decide), ← e8 9 0 (by decide), ← eq8]
    have o911 := RC_o9 R11 v92
    have g90911 : gI S11 909 (A2 9 0) = σ 0 0 := by
      rw [o911.2.2.2.2.2.2.2.2.2.2, tI_N (by decide), yI 909 (by omega), H.1.2.1.2.2.2.1]
    have g802 : gP S11 802 (A2 8 k) = some (A2 5 s) := by
      rw [(RC_o8 R11 v82).2.2.2.1, tP_N (by decide), yP 802 (by omega), w2, es2]; rfl
    refine ⟨(RC_o8 R11 v82).1, o911.1, o911.1, ?_⟩
    rw [g90911, etd, g802]
    unfold w_X5_init
    refine ⟨(RC_o6 R11 v6).1, ?_⟩
    refine RC_uP R11 v6 0 rfl (by decide) (by decide) (some s) rfl (fun S12 R12 => ?_)
    refine RC_uI R12 v6 1 rfl (by decide) (by decide) (fun S13 R13 => ?_)
    refine RC_uP R13 v6 2 rfl (by decide) (by decide) (some k) rfl (fun S14 R14 => ?_)
    refine RC_uI R14 v6 3 rfl (by decide) (by decide) (fun S15 R15 => ?_)
    have R15' : RC A2 (Vn (VC (nU n 1) (z_len σ)) 6 (n 6)) S15 (y_tel Y (n 6) s (nI i) (some k) (z_today σ)) := R15
    have W15 : WJ (Vn (VC (nU n 1) (z_len σ)) 6 (n 6)) (y_tel Y (n 6) s (nI i) (some k) (z_today σ)) := by
      unfold y_tel
      exact WJ_uI (WJ_uP (WJ_uI (WJ_uP W11 (by decide) (fun t ht => by cases ht; exact v52))) (by decide) (fun t ht => by cases ht; exact v82))
    obtain ⟨x1, x2, x3, x4⟩ := tel_x Y (n 6) s (nI i) (some k) (z_today σ)
    have D15 : DTb (y_tel Y (n 6) s (nI i) (some k) (z_today σ)) (nU n 1) := by
      obtain ⟨t1, t2, t3⟩ := H.2.2.2.2.2.2.1
      refine ⟨by rw [tel_P _ _ _ _ _ _ (by decide), yP 1101 (by omega)]; exact t1, by rw [tel_I _ _ _ _ _ _ (by decide), yI 1102 (by omega)]; exact t2, ?_⟩
      rw [x1, x2, yx1, yx2]; exact t3
    refine ⟨(RC_o9 R15' v92).1, 1, 1024, by omega, by omega, ?_⟩
    refine k_tell (n := nU n 1) R15' W15 rfl h512 D15 (by rw [tel_P _ _ _ _ _ _ (by decide), yP 908 (by omega)]; exact p908) (fun hz => by rw [e8 20 0 (by decide), e7 20 0 (by decide)]; exact he1 hz) (fun hz => by rw [e8 20 0 (by decide), e7 20 0 (by decide)]; exact he2 hz) (by omega) (by omega) (fun ad' S' T' R' W' e' hne L => ?_)
    obtain ⟨p, hp, ep, ep2⟩ := pr_n Hb k
    have G := GY T' p hp ep L
    have v8f : VC (nU (nU n 1) 6) (z_len σ) 8 k := hk
    have v3f : VC (nU (nU n 1) 6) (z_len σ) 3 (40 * s + i) := v3
    rw [← e' 3 (40 * s + i) (by decide), ← e' 8 k (by decide), ← e' 9 0 (by decide)]
    have o8f := RC_o8 R' v8f
    have g801 : gI S' 801 (ad' 8 k) = nI p := by
      rw [o8f.2.2.1, L.1 801 (by omega), tel_I _ _ _ _ _ _ (by decide), yI 801 (by omega), w1, ep]
    have eu : u_fill σ (nI k) (nI i) d = up2 (up2 (up2 (up2 (up2 (up2 (up2 σ 49 0 0) 13 (40 * s + i) (-1)) 41 (n 1) (nI (40 * s + i))) 42 (n 1) (nI k)) 43 (n 1) (z_today σ)) 44 (n 1) d) 40 0 (nI (n 1 + 1)) := by
      have e40 : σ 40 0 = nI (n 1) := H.1.1.2.2.2.2.2.2.1
      unfold u_fill
      rw [e40, qk, ea, qn_s, qn_nat (show n 1 < 2147483648 by omega)]
    rw [← eu] at G
    have hl : z_len (u_fill σ (nI k) (nI i) d) = z_len σ := z_len_c (fun j => by rw [eu]; simp only [up2_f, ne_eq, Nat.reduceEqDiff, not_false_eq_true])
    refine ⟨o8f.1, (RC_o9 R' VC_9).1, ?_⟩
    rw [g801]
    have R'' := R'
    rw [← hl] at R''
    refine k_countFill R'' (DQ_401 G.1) hp (fun S'' R3 => ?_)
    rw [hl] at R3
    unfold w_X8_fill_b194
    refine ⟨by omega, by omega, _, rfl, (RC_o3 R3 v3f).1, ?_⟩
    have g302f : gI S'' 302 (ad' 3 (40 * s + i)) = nI (cN (fun l => u_fill σ (nI k) (nI i) d 41 l = nI (40 * s + i)) (n 1 + 1)) := by
      rw [(RC_o3 R3 v3f).2.2.2.1]
      have := (G.1.2.2.2.2.2.1 s i hs (by rw [hl]; exact hi)).2.2.1
      rw [this, show nU (nU n 1) 6 1 = n 1 + 1 from by rw [nU_o _ (by decide), nU_s]]
    rw [g302f]
    refine h9 ad' S'' _ R3 (WJ_uI W') (fun a b ha hb hc => ((e' a b hc).trans (e8 a b hb)).trans (e7 a b ha)) hne ?_ G
    rw [tN_uI, L.2.2.1 12 (by decide), x1, yx1]
  · by_cases hv : 0 ≤ x ∧ x ≤ σ 23 0 - 1
    · rw [iT_T hv]
      obtain ⟨k, hk, rfl, hk2⟩ := wk_n H.1 hv
      rw [qn_nat hk2]
      refine ⟨fun e => (by cases e), fun a48 e48 => ?_⟩
      cases e48
      refine ⟨(RC_o8 R (VC_8 (n := n) (len := z_len σ) hk)).1, ?_⟩
      have hn : ¬ (σ 26 k ≤ y ∧ y ≤ σ 27 k) := fun z => hof ⟨hv, by rw [qn_nat hk2]; exact z⟩
      rw [k_ownMetreAt R H.1 hk, iT_F hn]
      unfold w_X8_fill_b22
      exact ⟨by omega, by omega, fun e => (by cases e), fun a33 e33 => ⟨fun _ => b34 hof, fun a35 e35 => (by cases e35)⟩⟩
    · rw [iT_F hv]
      unfold w_X8_fill_b22
      exact ⟨fun _ => ⟨by omega, by omega, fun _ => b34 hof, fun a e => (by cases e)⟩, fun a e => (by cases e)⟩
end C
