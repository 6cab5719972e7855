/-! telling -/
def TL (T T' : CT) (N : Nat) : Prop := (∀ F, ¬ (F = 1100 ∨ F = 1102) → tI T' F = tI T F) ∧ tP T' = tP T ∧ (∀ k, ¬ k = 20 → tN T' k = tN T k) ∧ (∀ k, ¬ k = 20 → tR T' k = tR T k) ∧ tJ T' = tJ T ∧ tA T' = tA T ∧
  tI T' 1102 0 = nI (N + 1) ∧ N + 1 ≤ tN T' 20 0 ∧ tN T' 20 0 ≤ 1024 ∧ ∀ j, tR T' 20 0 j = iT (j < N + 1) (some j) none
section C
variable {ad : Nat → Nat → Nat} {S : PT} {T : CT} {σ : SG} {n len : Nat → Nat} {μ : MU} {pl : Nat → Nat} {B E : Nat}
theorem VC_nU6 (k i : Nat) : VC (nU n 6) len k i ↔ (Vn (VC n len) 6 (n 6) k i ∨ (k = 20 ∧ i = 0)) := by
  unfold Vn
  by_cases e : k = 6
  · subst e
    show i < nU n 6 6 ↔ ((i < n 6 ∨ (6 = 6 ∧ i = n 6)) ∨ (6 = 20 ∧ i = 0))
    rw [nU_s]; omega
  · by_cases e2 : k = 20
    · subst e2
      show (i = 0 ∧ 0 < nU n 6 6) ↔ (((i = 0 ∧ 0 < n 6) ∨ (20 = 6 ∧ i = n 6)) ∨ (20 = 20 ∧ i = 0))
      rw [nU_s]; omega
    · rw [VC_eq (n := n) (n' := nU n 6) (fun _ => nU_o n (by omega)) (fun _ => nU_o n (by omega)) (fun h => by omega) (fun _ => nU_o n (by omega)) (fun _ => nU_o n (by omega))]
      exact ⟨fun h => Or.inl (Or.inl h), fun h => h.elim (fun z => z.elim id (fun y => absurd y.1 e)) (fun z => absurd z.1 e2)⟩
theorem VC_nU6p (h : 0 < n 6) : Vn (VC n len) 6 (n 6) = VC (nU n 6) len := by
  funext k i
  apply propext
  rw [VC_nU6]
  refine ⟨Or.inl, fun z => z.elim id (fun y => ?_)⟩
  rw [y.1, y.2]
  exact Or.inl ⟨rfl, h⟩
theorem uL_N {m : Nat} {f : Nat → Option Nat} : tN (uL T m f) 20 0 = m := by show up2 (tN T) 20 0 m 20 0 = _; rw [up2_s]
theorem add1_sub (x : Int32) : x + 1 - x = 1 := by rw [Int32.add_comm, Int32.add_sub_cancel]
theorem k_b11 {e0 m0 N m : Nat} (R : RC ad (VC (nU n 6) len) S T) (hN : n 6 = N) (hN5 : N < 512) (hm : tN T 20 0 = m) (hNm : N < m) (hm2 : m ≤ 1024) {mc ms c0 n0 : Nat} (hc : c0 ≤ mc) (hn : n0 ≤ ms) {post : PT → Prop}
    (h : ∀ S', RC ad (VC (nU n 6) len) S' (uI (uR T 20 0 N (some N)) 1102 0 (nI (N + 1))) → post S') : w_Jx4a65c_add_72be8_b11 e0 m0 (ad 11 0) (some (ad 6 N)) (nI N) mc ms post c0 n0 S (some (ad 20 0)) := by
  have v20 : VC (nU n 6) len 20 0 := ⟨rfl, by rw [nU_s]; omega⟩
  have v6 : VC (nU n 6) len 6 N := by show N < nU n 6 6; rw [nU_s]; omega
  have v11 : VC (nU n 6) len 11 0 := rfl
  have o20 := RC_a20 R v20
  unfold w_Jx4a65c_add_72be8_b11
  refine ⟨hc, hn, _, rfl, o20.1, _, rfl, (RC_o6 R v6).1, ?_, ?_⟩
  · rw [o20.2.1, hm]; exact vin_nI hNm (by omega)
  · rw [qn_nat (show N < 2147483648 by omega)]
    refine RC_uR R v20 (by decide) (some N) rfl (fun S1 R1 => ⟨(RC_o11 R1 v11).1, ?_⟩)
    rw [qn_s]
    exact RC_uI R1 v11 2 rfl (by decide) (by decide) h
theorem k_tell {e0 m0 N : Nat} (R : RC ad (Vn (VC n len) 6 (n 6)) S T) (W : WJ (Vn (VC n len) 6 (n 6)) T) (hN : n 6 = N) (hN5 : N < 512) (D : DTb T n) (p908 : tP T 908 0 = some 0) (he1 : n 6 = 0 → ad 20 0 = e0) (he2 : 0 < n 6 → ad 20 0 ≠ e0)
    {mc ms : Nat} (hmc : 1 ≤ mc) (hms : 1024 ≤ ms) {post : PT → Prop}
    (h : ∀ ad' S' T', RC ad' (VC (nU n 6) len) S' T' → WJ (VC (nU n 6) len) T' → (∀ k i, k ≠ 20 → ad' k i = ad k i) → ad' 20 0 ≠ e0 → TL T T' N → post S') : w_X8_tell e0 m0 (ad 9 0) (some (ad 6 N)) S mc ms post := by
  obtain ⟨d1, d2, d3⟩ := D
  have v9 : Vn (VC n len) 6 (n 6) 9 0 := Or.inl rfl
  have v11 : Vn (VC n len) 6 (n 6) 11 0 := Or.inl rfl
  have o9 := RC_o9 R v9
  have o11 := RC_o11 R v11
  have g908 : gP S 908 (ad 9 0) = some (ad 11 0) := by rw [o9.2.2.2.2.2.2.2.2.2.1, p908]; rfl
  unfold w_X8_tell w_Jx4a65c_size_8abf5
  refine ⟨o9.1, _, g908, o11.1, o11.1, ?_⟩
  rw [o11.2.2.2, d2, hN]
  refine ⟨fun h5 => ?_, fun _ => ⟨o9.1, _, g908, o11.1, 1, 1024, by omega, by omega, ?_⟩⟩
  · rw [show (512 : Int32) = nI 512 from rfl, qn_le (by omega) (by omega)] at h5; omega
  unfold w_X8_tell_b22 w_Jx4a65c_add_9ea2d
  refine ⟨o11.1, ?_⟩
  rw [o11.2.1]
  refine RC_uI R v11 0 rfl (by decide) (by decide) (fun S1 R1 => ⟨1, 1024, by omega, by omega, ?_⟩)
  have o111 := RC_o11 R1 v11
  have g1101 : gP S1 1101 (ad 11 0) = some (ad 20 0) := by
    rw [o111.2.2.1]
    show (tP T 1101 0).map _ = _
    rw [d1]; rfl
  have g1102 : gI S1 1102 (ad 11 0) = nI N := by
    rw [o111.2.2.2, tI_o (by decide), d2, hN]
  rw [g1101, g1102]
  have W1 : WJ (Vn (VC n len) 6 (n 6)) (uI T 1100 0 (tI T 1100 0 + 1)) := W
  have hV : ∀ k i, VC (nU n 6) len k i ↔ (Vn (VC n len) 6 (n 6) k i ∨ (k = 20 ∧ i = 0)) := VC_nU6
  have v20z : ∀ i, Vn (VC n len) 6 (n 6) 20 i → i = 0 := fun i hi => hi.elim (fun z => z.1) (fun z => absurd z.1 (by decide))
  have v11z : ∀ i, Vn (VC n len) 6 (n 6) 11 i ↔ i = 0 := fun i => ⟨fun hi => hi.elim id (fun z => absurd z.1 (by decide)), fun e => by rw [e]; exact v11⟩
  -- what stands at the end
  have fin : ∀ (ad2 : Nat → Nat → Nat) (S2 : PT) (T2 : CT) (m c0 n0 : Nat), c0 ≤ 1 → n0 ≤ 1024 → RC ad2 (VC (nU n 6) len) S2 T2 → WJ (VC (nU n 6) len) T2 → (∀ k i, k ≠ 20 → ad2 k i = ad k i) → ad2 20 0 ≠ e0 → tN T2 20 0 = m → N < m → m ≤ 1024 →
      (∀ F, ¬ (F = 1100 ∨ F = 1102) → tI T2 F = tI T F) → tP T2 = tP T → (∀ k, ¬ k = 20 → tN T2 k = tN T k) → (∀ k, ¬ k = 20 → tR T2 k = tR T k) → tJ T2 = tJ T → tA T2 = tA T → (∀ j, tR T2 20 0 j = iT (j < N) (some j) none) →
      w_Jx4a65c_add_72be8_b11 e0 m0 (ad 11 0) (some (ad 6 N)) (nI N) 1 1024 (fun S4 => 0 + 1 ≤ mc ∧ 0 + 1024 ≤ ms ∧ post S4) c0 n0 S2 (some (ad2 20 0)) := by
    intro ad2 S2 T2 m c0 n0 hc hn R2 W2 e2 hne hm hNm hm2 i1 i2 i3 i4 i5 i6 i7
    rw [← e2 11 0 (by decide), ← e2 6 N (by decide)]
    refine k_b11 R2 hN hN5 hm hNm hm2 hc hn (fun S' R' => ⟨by omega, by omega, h ad2 S' _ R' ?_ e2 hne ?_⟩)
    · refine WJ_uI (WJ_uR W2 (fun t ht => ?_))
      cases ht
      show N < nU n 6 6
      rw [nU_s]; omega
    · refine ⟨fun F hF => ?_, i2, fun k hk => ?_, fun k hk => ?_, i5, i6, tI_s, ?_, ?_, fun j => ?_⟩
      · rw [tI_of (by omega), tI_uR]; exact i1 F hF
      · rw [tN_uI, tN_uR]; exact i3 k hk
      · rw [tR_uI, tR_of hk]; exact i4 k hk
      · rw [tN_uI, tN_uR, hm]; omega
      · rw [tN_uI, tN_uR, hm]; omega
      · rw [tR_uI, tR_s, i7]
        by_cases e : j = N
        · rw [if_pos e, iT_T (by omega), e]
        · rw [if_neg e]
          by_cases hj : j < N
          · rw [iT_T hj, iT_T (by omega)]
          · rw [iT_F hj, iT_F (by omega)]
  have i1 : ∀ F, ¬ (F = 1100 ∨ F = 1102) → tI (uI T 1100 0 (tI T 1100 0 + 1)) F = tI T F := fun F hF => tI_of (by omega)
  unfold w_Jx4a65c_add_72be8
  refine ⟨_, rfl, ?_⟩
  by_cases hz : n 6 = 0
  · -- the first one
    have ee := he1 hz
    have hN0 : N = 0 := by omega
    have een : eN e0 S1 (ad 20 0) = 0 := by unfold eN; rw [if_pos ee]
    refine ⟨Or.inl ee, ?_⟩
    rw [een]
    refine ⟨fun hn => absurd (by rw [hN0]) hn, fun _ => ⟨o111.1, 1, 10, by omega, by omega, ?_⟩⟩
    unfold w_Jx4a65c_grow_d5877
    refine ⟨o111.1, 1, 10, by omega, by omega, ?_⟩
    unfold w_Jx4a65c_grow_92f84
    rw [g1101, g1102]
    refine ⟨o111.1, _, rfl, Or.inl ee, ?_⟩
    rw [een]
    refine ⟨fun hn => absurd hn (by decide), fun _ => ⟨fun _ => ?_, fun hn => absurd (by rw [ee]) hn⟩⟩
    have e10 : (if (10 : Int32) < nI N + 1 then nI N + 1 else 10) = 10 := by rw [hN0]; decide
    have t10 : (10 : Int32).toNatClampNeg = 10 := by decide
    rw [e10, t10]
    refine ⟨by decide, by omega, by omega, by omega, ?_⟩
    intro q S2 hq e2 hqe S3 e3
    have R3 := RC_g20 R1 W1.2 v20z v11z hV (m := 10) hq (fun _ => none) (fun _ => none) (fun _ => rfl)
    rw [cpR_id, ← e2, ← e3] at R3
    have W3 := WJ_L W1 hV (m := 10) (f := fun _ => none) (fun i t ht => by cases ht)
    have e20 : up2 ad 20 0 q 20 0 = q := up2_s _ _ _ _
    have := fin (up2 ad 20 0 q) S3 _ 10 (0 + 1) (0 + 10) (by omega) (by omega) R3 W3 (fun k i hk => up2_f _ _ _ _ hk) (by rw [e20]; exact hqe) uL_N (by omega) (by omega) i1 ?_ (fun k hk => ?_) (fun k hk => ?_) rfl rfl (fun j => ?_)
    · rw [e20] at this; exact this
    · show up2 (tP T) 1101 0 (some 0) = tP T
      rw [← d1]
      funext F i
      by_cases e : F = 1101 ∧ i = 0
      · rw [e.1, e.2, up2_s]
      · rw [up2_ne _ _ e]
    · funext i; exact up2_f _ _ _ _ hk
    · funext i; exact up2_f _ _ _ _ hk
    · show up2 (tR T) 20 0 (fun _ => none) 20 0 j = _
      rw [up2_s, iT_F (by omega)]
  · -- there are some
    have hpos : 0 < n 6 := by omega
    have hne := he2 hpos
    obtain ⟨c1, c2, c3⟩ := d3 hpos
    have v20 : Vn (VC n len) 6 (n 6) 20 0 := Or.inl ⟨rfl, hpos⟩
    have o20 := RC_a20 R1 v20
    have een : eN e0 S1 (ad 20 0) = tN T 20 0 := by unfold eN; rw [if_neg hne, o20.2.1]; rfl
    refine ⟨Or.inr o20.1, ?_⟩
    rw [een]
    rw [hN] at c1 c3
    refine ⟨fun hn => ?_, fun hcap => ?_⟩
    · have hlt : N < tN T 20 0 := by
        rw [qn_eq (by omega) (by omega)] at hn; omega
      have R2 := R1
      have W2 := W1
      rw [VC_nU6p hpos] at R2 W2
      exact fin ad S1 _ (tN T 20 0) 0 0 (by omega) (by omega) R2 W2 (fun _ _ _ => rfl) hne rfl hlt c2 i1 rfl (fun _ _ => rfl) (fun _ _ => rfl) rfl rfl c3
    · have hcN : tN T 20 0 = N := by
        rw [qn_eq (by omega) (by omega)] at hcap; omega
      have hN1 : 0 < N := by omega
      have cM : ∃ M : Nat, M = N + (if N / 2 < 1 then 1 else N / 2) ∧ N < M ∧ M ≤ 800 := by
        refine ⟨_, rfl, ?_, ?_⟩
        · split <;> omega
        · split <;> omega
      obtain ⟨M, eM, hM1, hM2⟩ := cM
      refine ⟨o111.1, 1, M, by omega, by omega, ?_⟩
      unfold w_Jx4a65c_grow_d5877
      refine ⟨o111.1, 1, M, by omega, by omega, ?_⟩
      unfold w_Jx4a65c_grow_92f84
      rw [g1101, g1102]
      refine ⟨o111.1, _, rfl, Or.inr o20.1, ?_⟩
      rw [een, hcN]
      have c0N : 0 < nI N := by rw [ilt, I0, nI_toInt (by omega)]; omega
      refine ⟨fun _ => ?_, fun hn => absurd c0N hn⟩
      unfold w_Jx4a65c_grow_92f84_b20 w_J8_newLength_cabcc
      rw [add1_sub, shr_1 N (by omega)]
      have e2 : nI N + (if (1 : Int32) < nI (N / 2) then nI (N / 2) else 1) = nI M := by
        have i1 : (1 : Int32) < nI (N / 2) ↔ 1 < N / 2 := by rw [show (1 : Int32) = nI 1 from rfl, qn_lt (by omega) (by omega)]
        by_cases hh : 1 < N / 2
        · rw [if_pos (i1.mpr hh), qn_add, eM, if_neg (by omega)]
        · rw [if_neg (fun z => hh (i1.mp z)), show (1 : Int32) = nI 1 from rfl, qn_add, eM]
          congr 1
          split <;> omega
      rw [e2]
      have f1 : ¬ nI M ≤ 0 := by rw [ile, I0, nI_toInt (by omega)]; omega
      have f2 : ¬ 2147483639 < nI M := by rw [ilt, nI_toInt (by omega), show (2147483639 : Int32).toInt = 2147483639 from by decide]; omega
      refine ⟨by omega, by omega, fun z => absurd z f1, fun _ => ⟨fun z => absurd z f2, fun _ => ⟨o111.1, 1, M, by omega, by omega, ?_⟩⟩⟩
      unfold w_J7_copyOf_1904c
      rw [g1101]
      refine ⟨_, rfl, o20.1, 1, M, by omega, by omega, ?_⟩
      unfold w_J7_copyOf_6403c
      have tM : (nI M).toNatClampNeg = M := qn_nat (by omega)
      have f3 : ¬ nI M < 0 := by rw [ilt, I0, nI_toInt (by omega)]; omega
      rw [tM]
      refine ⟨fun z => absurd rfl z, fun _ => ⟨f3, by omega, by omega, by omega, ?_⟩⟩
      intro q S2 hq es2 hqe
      have hne20 : ad 20 0 ≠ q := RC_far R1 hq v20
      have gk2 : gK S2 (ad 20 0) = 20 := by rw [es2]; show va_up (gK S1) q 20 (ad 20 0) = 20; simp only [va_up, hne20, if_false]; exact o20.1
      have gn2 : gN S2 (ad 20 0) = N := by rw [es2]; show va_up (gN S1) q M (ad 20 0) = N; simp only [va_up, hne20, if_false]; rw [o20.2.1]; exact hcN
      have gn2q : gN S2 q = M := by rw [es2]; show va_up (gN S1) q M q = M; simp [va_up]
      have gr2 : gR S2 (ad 20 0) = fun j => (tR T 20 0 j).map (ad 6) := by
        rw [es2]; show va_up (gR S1) q _ (ad 20 0) = _
        simp only [va_up, hne20, if_false]
        funext j; exact o20.2.2 j
      have gr2q : gR S2 q = fun _ => none := by rw [es2]; show va_up (gR S1) q _ q = _; simp [va_up]
      have f4 : ¬ nI M < nI N := by rw [qn_lt (by omega) (by omega)]; omega
      have f5 : ¬ nI N < 0 := by rw [ilt, I0, nI_toInt (by omega)]; omega
      have tN0 : (nI N).toNatClampNeg = N := qn_nat (by omega)
      have t0 : (0 : Int32).toNatClampNeg = 0 := by decide
      refine ⟨_, rfl, gk2, ?_⟩
      rw [gn2, gn2q, gr2, gr2q, if_nlt _ _ f4, tN0, t0]
      refine ⟨f5, by omega, by omega, ?_, ?_⟩
      · intro i hi y hy
        replace hy : (tR T 20 0 (0 + i)).map (ad 6) = some y := hy
        rw [Nat.zero_add, c3, iT_T hi] at hy
        cases hy
        have v6 : Vn (VC n len) 6 (n 6) 6 i := Or.inl (show i < n 6 by omega)
        rw [es2]
        show va_up (gK S1) q 20 (ad 6 i) = 6
        have := RC_far R1 hq v6
        simp only [va_up, this, if_false]
        exact (RC_o6 R1 v6).1
      · intro S18 es18
        have hne11 : ad 11 0 ≠ q := RC_far R1 hq v11
        have gk18 : gK S18 (ad 11 0) = 11 := by
          rw [es18, es2]; show va_up (gK S1) q 20 (ad 11 0) = 11
          simp only [va_up, hne11, if_false]; exact o111.1
        refine ⟨gk18, ?_⟩
        intro S19 es19
        have R3 := RC_g20 R1 W1.2 v20z v11z hV (m := M) hq (tR T 20 0) (va_cpy (fun j => (tR T 20 0 j).map (ad 6)) (fun _ => none) 0 0 N) (fun i => ?_)
        · rw [← es2, ← es18, ← es19] at R3
          have W3 := WJ_L W1 hV (m := M) (f := tR T 20 0) (fun i t ht => ?_)
          · have e20 : up2 ad 20 0 q 20 0 = q := up2_s _ _ _ _
            have := fin (up2 ad 20 0 q) S19 _ M (0 + 1) (0 + M) (by omega) (by omega) R3 W3 (fun k i hk => up2_f _ _ _ _ hk) (by rw [e20]; exact hqe) uL_N hM1 (by omega) i1 ?_ (fun k hk => ?_) (fun k hk => ?_) rfl rfl (fun j => ?_)
            · rw [e20] at this; exact this
            · show up2 (tP T) 1101 0 (some 0) = tP T
              rw [← d1]
              funext F i
              by_cases e : F = 1101 ∧ i = 0
              · rw [e.1, e.2, up2_s]
              · rw [up2_ne _ _ e]
            · funext i; exact up2_f _ _ _ _ hk
            · funext i; exact up2_f _ _ _ _ hk
            · show up2 (tR T) 20 0 (tR T 20 0) 20 0 j = _
              rw [up2_s]; exact c3 j
          · rw [c3] at ht
            by_cases hi : i < N
            · rw [iT_T hi] at ht; cases ht; exact Or.inl (show i < n 6 by omega)
            · rw [iT_F hi] at ht; cases ht
        · unfold va_cpy
          by_cases hi : i < N
          · rw [if_pos ⟨by omega, by omega⟩, show 0 + (i - 0) = i by omega]
          · rw [if_neg (by omega), c3, iT_F hi]; rfl
end C
