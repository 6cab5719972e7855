/-! a street goes through the bundle -/
def y_st0 (T : CT) (J : Nat) (g f : Int32) (ar : Option Nat) : CT := uP (uI (uI (uI (uI (uI (uI (uI (uN T 5 J) 505 J (-1)) 506 J (-1)) 507 J (-1)) 508 J (-1)) 500 J (nI J)) 501 J g) 502 J f) 503 J ar
def y_str (T : CT) (J L : Nat) (g f : Int32) (ar : Option Nat) : CT := uP (uM (y_st0 T J g f ar) 15 J L) 504 J (some J)
section C
variable {ad : Nat → Nat → Nat} {S : PT} {T : CT} {σ : SG} {n len : Nat → Nat} {μ : MU} {pl : Nat → Nat} {B E : Nat}
theorem tI_uM {k i m : Nat} : tI (uM T k i m) = tI T := id rfl
theorem tP_uM {k i m : Nat} : tP (uM T k i m) = tP T := id rfl
theorem tJ_uM {k i m : Nat} : tJ (uM T k i m) = tJ T := id rfl
theorem tN_uM {k i m : Nat} : tN (uM T k i m) = up2 (tN T) k i m := id rfl
theorem tR_uM {k i m : Nat} : tR (uM T k i m) = up2 (tR T) k i (fun _ => none) := id rfl
theorem tA_uM {k i m : Nat} (h : k ≠ 12) : tA (uM T k i m) = tA T := if_neg h
theorem str_I (T : CT) (J L : Nat) (g f : Int32) (ar : Option Nat) {F : Nat} (h : ¬ F / 100 = 5) : tI (y_str T J L g f ar) F = tI T F ∧ tP (y_str T J L g f ar) F = tP T F := by
  unfold y_str y_st0
  constructor
  · rw [tI_uP, tI_uM, tI_uP, tI_of (by omega), tI_of (by omega), tI_of (by omega), tI_of (by omega), tI_of (by omega), tI_of (by omega), tI_of (by omega), tI_N h]
  · rw [tP_of (by omega), tP_uM, tP_of (by omega), tP_uI, tP_uI, tP_uI, tP_uI, tP_uI, tP_uI, tP_uI, tP_N h]
theorem str_i (T : CT) (J L : Nat) (g f : Int32) (ar : Option Nat) (F : Nat) {i : Nat} (h : i ≠ J) : tI (y_str T J L g f ar) F i = tI T F i ∧ tP (y_str T J L g f ar) F i = tP T F i := by
  unfold y_str y_st0
  constructor
  · rw [tI_uP, tI_uM, tI_uP, tI_i h, tI_i h, tI_i h, tI_i h, tI_i h, tI_i h, tI_i h, tI_Ni h]
  · rw [tP_i h, tP_uM, tP_i h, tP_uI, tP_uI, tP_uI, tP_uI, tP_uI, tP_uI, tP_uI, tP_Ni h]
theorem str_x (T : CT) (J L : Nat) (g f : Int32) (ar : Option Nat) : tJ (y_str T J L g f ar) = tJ T ∧ tA (y_str T J L g f ar) = tA T ∧ tN (y_str T J L g f ar) = up2 (tN T) 15 J L ∧ tR (y_str T J L g f ar) = up2 (tR T) 15 J (fun _ => none) := by
  unfold y_str y_st0
  refine ⟨?_, ?_, ?_, ?_⟩
  · rw [tJ_uP, tJ_uM]; simp only [tI_uP, tI_uR, tP_uI, tP_uR, tR_uI, tR_uP, tR_uN, tN_uI, tN_uP, tN_uR, tN_uN, tJ_uI, tJ_uP, tJ_uR, tJ_N, tA_uI, tA_uP, tA_uR, tA_uN, tB_uI, tB_uP, tB_uR, tB_uN, tI_s, tI_o, tP_s, tP_o, tI_Ns, tP_Ns, ne_eq, Nat.reduceEqDiff, Nat.reduceDiv, Nat.reduceMul, Nat.reduceAdd, not_false_eq_true]
  · rw [tA_uP, tA_uM (by decide)]; simp only [tI_uP, tI_uR, tP_uI, tP_uR, tR_uI, tR_uP, tR_uN, tN_uI, tN_uP, tN_uR, tN_uN, tJ_uI, tJ_uP, tJ_uR, tJ_N, tA_uI, tA_uP, tA_uR, tA_uN, tB_uI, tB_uP, tB_uR, tB_uN, tI_s, tI_o, tP_s, tP_o, tI_Ns, tP_Ns, ne_eq, Nat.reduceEqDiff, Nat.reduceDiv, Nat.reduceMul, Nat.reduceAdd, not_false_eq_true]
  · rw [tN_uP, tN_uM]; simp only [tI_uP, tI_uR, tP_uI, tP_uR, tR_uI, tR_uP, tR_uN, tN_uI, tN_uP, tN_uR, tN_uN, tJ_uI, tJ_uP, tJ_uR, tJ_N, tA_uI, tA_uP, tA_uR, tA_uN, tB_uI, tB_uP, tB_uR, tB_uN, tI_s, tI_o, tP_s, tP_o, tI_Ns, tP_Ns, ne_eq, Nat.reduceEqDiff, Nat.reduceDiv, Nat.reduceMul, Nat.reduceAdd, not_false_eq_true]
  · rw [tR_uP, tR_uM]; simp only [tI_uP, tI_uR, tP_uI, tP_uR, tR_uI, tR_uP, tR_uN, tN_uI, tN_uP, tN_uR, tN_uN, tJ_uI, tJ_uP, tJ_uR, tJ_N, tA_uI, tA_uP, tA_uR, tA_uN, tB_uI, tB_uP, tB_uR, tB_uN, tI_s, tI_o, tP_s, tP_o, tI_Ns, tP_Ns, ne_eq, Nat.reduceEqDiff, Nat.reduceDiv, Nat.reduceMul, Nat.reduceAdd, not_false_eq_true]
theorem str_J (T : CT) (J L : Nat) (g f : Int32) (ar : Option Nat) : tI (y_str T J L g f ar) 500 J = nI J ∧ tI (y_str T J L g f ar) 501 J = g ∧ tI (y_str T J L g f ar) 502 J = f ∧ tP (y_str T J L g f ar) 503 J = ar ∧ tP (y_str T J L g f ar) 504 J = some J ∧
    tI (y_str T J L g f ar) 505 J = -1 ∧ tI (y_str T J L g f ar) 506 J = -1 ∧ tI (y_str T J L g f ar) 507 J = -1 ∧ tI (y_str T J L g f ar) 508 J = -1 ∧ tI (y_str T J L g f ar) 510 J = 0 ∧ tI (y_str T J L g f ar) 511 J = 0 := by
  unfold y_str y_st0
  refine ⟨?_, ?_, ?_, ?_, ?_, ?_, ?_, ?_, ?_, ?_, ?_⟩ <;> simp only [tI_uM, tP_uM, tI_uP, tI_uR, tP_uI, tP_uR, tR_uI, tR_uP, tR_uN, tN_uI, tN_uP, tN_uR, tN_uN, tJ_uI, tJ_uP, tJ_uR, tJ_N, tA_uI, tA_uP, tA_uR, tA_uN, tB_uI, tB_uP, tB_uR, tB_uN, tI_s, tI_o, tP_s, tP_o, tI_Ns, tP_Ns, ne_eq, Nat.reduceEqDiff, Nat.reduceDiv, Nat.reduceMul, Nat.reduceAdd, not_false_eq_true]
theorem g_street (H : GI T σ μ n pl B E) (hJ : n 5 < 6) {L : Nat} (hL1 : 1 ≤ L) (hL : L ≤ 40) {g f d : Int32} (hg0 : 0 ≤ g.toInt) (hg1 : g.toInt ≤ 3) (hf0 : 0 ≤ f.toInt) (hf1 : f.toInt ≤ 999) (hd : d = -1 ∨ ∃ k : Nat, k < n 5 ∧ d = nI k ∧ k < 2147483648) {σ' : SG}
    (es : σ' = up2 (up2 (up2 (up2 (up2 (up2 σ 49 0 0) 2 (n 5) (nI L)) 3 (n 5) g) 4 (n 5) f) 5 (n 5) d) 1 0 (nI (n 5 + 1))) {T5 : CT} (A : SS (y_str T (n 5) L g f (iT (d = -1) none (some d.toNatClampNeg))) T5 (n 5) L) :
    GI (uI (uR T5 17 0 (n 5) (some (n 5))) 901 0 (nI (n 5 + 1))) σ' μ (nU n 5) pl B E := by
  obtain ⟨⟨h1, h9, h5, h8, h7, h3, hv, hb⟩, ⟨hdd, hs⟩, hr, h4, hl, hta, htb, fa, fb, fc, fd, fe, ff, fg, fh, fi⟩ := H
  generalize hY : y_str T (n 5) L g f (iT (d = -1) none (some d.toNatClampNeg)) = Y at A
  obtain ⟨a1, a2, a3, a4, a5, a6, a7, a8, a9⟩ := A
  have yI : ∀ F, ¬ F / 100 = 5 → tI Y F = tI T F ∧ tP Y F = tP T F := fun F h => by rw [← hY]; exact str_I _ _ _ _ _ _ h
  have yi : ∀ F i, i ≠ n 5 → tI Y F i = tI T F i ∧ tP Y F i = tP T F i := fun F i h => by rw [← hY]; exact str_i _ _ _ _ _ _ F h
  have yx := str_x T (n 5) L g f (iT (d = -1) none (some d.toNatClampNeg))
  have yJ := str_J T (n 5) L g f (iT (d = -1) none (some d.toNatClampNeg))
  rw [hY] at yx yJ
  have f511 := fa (n 5) (Nat.le_refl _) hJ
  have eS : ∀ x, ¬ (x = 1 ∨ x = 2 ∨ x = 3 ∨ x = 4 ∨ x = 5 ∨ x = 49) → σ' x = σ x := fun x h => by rw [es, sg_o (by omega), sg_o (by omega), sg_o (by omega), sg_o (by omega), sg_o (by omega), sg_o (by omega)]
  have eI : ∀ F, ¬ (F / 100 = 5 ∨ F / 100 = 3 ∨ F = 901) → tI (uI (uR T5 17 0 (n 5) (some (n 5))) 901 0 (nI (n 5 + 1))) F = tI T F := fun F h => by rw [tI_of (by omega), tI_uR, (a1 F (by omega)).1, (yI F (by omega)).1]
  have eP : ∀ F, ¬ (F / 100 = 5 ∨ F / 100 = 3) → tP (uI (uR T5 17 0 (n 5) (some (n 5))) 901 0 (nI (n 5 + 1))) F = tP T F := fun F h => by rw [tP_uI, tP_uR, (a1 F (by omega)).2, (yI F (by omega)).2]
  have eN : ∀ k, ¬ (k = 15) → tN (uI (uR T5 17 0 (n 5) (some (n 5))) 901 0 (nI (n 5 + 1))) k = tN T k := fun k h => by
    rw [tN_uI, tN_uR, a3, yx.2.2.1]; funext x; exact up2_f _ _ _ _ h
  have eR : ∀ k, ¬ (k = 15 ∨ k = 17) → tR (uI (uR T5 17 0 (n 5) (some (n 5))) 901 0 (nI (n 5 + 1))) k = tR T k := fun k h => by
    rw [tR_uI, tR_of (by omega), a4 k (by omega), yx.2.2.2]; funext x; exact up2_f _ _ _ _ (by omega)
  have eJ : tJ (uI (uR T5 17 0 (n 5) (some (n 5))) 901 0 (nI (n 5 + 1))) = tJ T := by rw [tJ_uI, tJ_uR, a8, yx.1]
  have eA : tA (uI (uR T5 17 0 (n 5) (some (n 5))) 901 0 (nI (n 5 + 1))) = tA T := by rw [tA_uI, tA_uR, a9, yx.2.1]
  have eM : μ = μ := rfl
  have ei : ∀ x j, j ≠ n 5 → x ≠ 1 → x ≠ 49 → σ' x j = σ x j := fun x j h h1 h49 => by rw [es, up2_f _ _ _ _ h1, up2_i _ _ h, up2_i _ _ h, up2_i _ _ h, up2_i _ _ h, up2_f _ _ _ _ h49]
  have s1 : σ' 1 0 = nI (n 5 + 1) := by rw [es, up2_s]
  have s2 : σ' 2 (n 5) = nI L := by rw [es]; simp only [up2_s, up2_f, ne_eq, Nat.reduceEqDiff, not_false_eq_true]
  have s3 : σ' 3 (n 5) = g := by rw [es]; simp only [up2_s, up2_f, ne_eq, Nat.reduceEqDiff, not_false_eq_true]
  have s4 : σ' 4 (n 5) = f := by rw [es]; simp only [up2_s, up2_f, ne_eq, Nat.reduceEqDiff, not_false_eq_true]
  have s5 : σ' 5 (n 5) = d := by rw [es]; simp only [up2_s, up2_f, ne_eq, Nat.reduceEqDiff, not_false_eq_true]
  have lJ : z_len σ' (n 5) = L := by unfold z_len; rw [s2]; exact qn_nat (by omega)
  have lo : ∀ j, j ≠ n 5 → z_len σ' j = z_len σ j := fun j h => by unfold z_len; rw [ei 2 j h (by decide) (by decide)]
  have iJ : ∀ F, F / 100 = 5 → tI (uI (uR T5 17 0 (n 5) (some (n 5))) 901 0 (nI (n 5 + 1))) F = tI Y F ∧ tP (uI (uR T5 17 0 (n 5) (some (n 5))) 901 0 (nI (n 5 + 1))) F = tP Y F := fun F h => by
    rw [tI_of (by omega), tI_uR, tP_uI, tP_uR]; exact a1 F (by omega)
  refine ⟨⟨?_, ?_, ?_, (fun k hk => ⟨D8_c (fun F hF => by rw [eI F (by first | omega | exact not_false)]) (fun F hF => by rw [eP F (by first | omega | exact not_false)]) (fun f a b => by rw [eS f (by first | omega | exact not_false)]) (by unfold z_opens; rw [eS 13 (by first | omega | exact not_false)]) (h8 k hk).1, D8a_c (by rw [eI 814 (by first | omega | exact not_false)]) (eS 39 (by first | omega | exact not_false)) (h8 k hk).2⟩), ?_, ?_, ?_, ?_⟩, ⟨?_, ?_⟩, ?_, (fun p hp => D4_c (by rw [eJ]) (fun F hF => by rw [eI F (by first | omega | exact not_false)]) (by rw [eM]) (eS 24 (by first | omega | exact not_false)) (eS 42 (by first | omega | exact not_false)) (by rw [eS 46 (by first | omega | exact not_false)]) (by rw [eS 47 (by first | omega | exact not_false)]) (h4 p hp)), (DL_c (eI 201 (by first | omega | exact not_false)) (eP 200 (by first | omega | exact not_false)) (eN 12 (by first | omega | exact not_false)) eA eM hl), ?_, ?_, ?_, ?_, (FRc_c (eS 20 (by first | omega | exact not_false)) fc), (FRd_c (fun f hf => eS f (by first | omega | exact not_false)) fd), (FRe_c (eS 13 (by first | omega | exact not_false)) fe), (FRf_c (eS 39 (by first | omega | exact not_false)) ff), (FRg_c (eS 45 (by first | omega | exact not_false)) fg), (FRh_c (eS 7 (by first | omega | exact not_false)) (eS 40 (by first | omega | exact not_false)) fh), (FRi_c (eS 46 (by first | omega | exact not_false)) fi)⟩
  · obtain ⟨b1, b2, b3, b4, b5, b6, b7, b8, b9⟩ := h1
    unfold DN
    rw [s1, eS 14 (by omega), eS 23 (by omega), eS 40 (by omega), nU_s]
    exact ⟨rfl, by omega, b3, b4, b5, b6, b7, b8, b9⟩
  · obtain ⟨b0, b1, b2, b3, b4, b5, b6, b7, b8, b9, b10, b11, b12, b13, b14, b15, b16, b17, b18⟩ := h9
    unfold D9
    rw [eI 903 (by omega), eI 905 (by omega), eI 909 (by omega), eP 900 (by omega), eP 902 (by omega), eP 904 (by omega), eP 906 (by omega), eP 907 (by omega), eP 908 (by omega), eN 17 (by omega), eN 18 (by omega), eN 19 (by omega), eN 16 (by omega), eN 13 (by omega), eR 18 (by omega), eR 19 (by omega), eR 16 (by omega), eS 0 (by omega), nU_s]
    refine ⟨tI_s, b1, b2, b3, b4, b5, b6, b7, b8, b9, b10, b11, b12, b13, fun i => ?_, b15, b16, b17, b18⟩
    rw [tR_uI, tR_s, a4 17 (by decide), yx.2.2.2, up2_f _ _ _ _ (show 17 ≠ 15 by decide), b14]
    by_cases e : i = n 5
    · rw [if_pos e, iT_T (by omega), e]
    · rw [if_neg e]
      by_cases hi : i < n 5
      · rw [iT_T hi, iT_T (by omega)]
      · rw [iT_F hi, iT_F (by omega)]
  · intro j hj
    rw [nU_s] at hj
    by_cases e : j = n 5
    · rw [e]
      obtain ⟨q0, q1', q2, q3, q4, q5, q6, q7, q8, q9, q10⟩ := yJ
      unfold D5
      rw [s3, s4, s5, lJ, eS 6 (by omega), eS 8 (by omega), eS 9 (by omega), eS 10 (by omega), (iJ 500 rfl).1, (iJ 501 rfl).1, (iJ 502 rfl).1, (iJ 503 rfl).2, (iJ 504 rfl).2, (iJ 505 rfl).1, (iJ 506 rfl).1, (iJ 507 rfl).1, (iJ 510 rfl).1, (iJ 511 rfl).1, f511.1, f511.2.2.1, f511.2.2.2]
      refine ⟨q0, q1', q2, q3, q4, q5, fun h => absurd rfl h, q7, q9, q10, ?_, fun i => ?_⟩
      · rw [tN_uI, tN_uR, a3, yx.2.2.1, up2_s]
      · rw [tR_uI, tR_of (by decide)]; exact a6 i
    · refine D5_c (T := T) (fun F hF _ _ => ?_) (fun F hF => ?_) ?_ ?_ (fun x p q _ => ei x j e (by omega) (by omega)) (h5 j (by omega))
      · rw [(iJ F hF).1]; exact (yi F j e).1
      · rw [(iJ F hF).2]; exact (yi F j e).2
      · rw [tN_uI, tN_uR, a3, yx.2.2.1, up2_i _ _ e]
      · rw [tR_uI, tR_of (by decide), a5 j e, yx.2.2.2, up2_i _ _ e]
  · intro t ht
    have hst := (hv.2.1 t ht).1
    obtain ⟨d0, d1, d2, d3, d4, d5, d6⟩ := h7 t ht
    unfold D7
    rw [eS 15 (by omega), eS 16 (by omega), eS 17 (by omega), eS 18 (by omega), eS 19 (by omega), eS 20 (by omega), eS 21 (by omega), eS 22 (by omega), ei 2 _ (by omega) (by decide) (by decide), eI 700 (by omega), eP 701 (by omega), eI 702 (by omega), eI 703 (by omega), eI 704 (by omega), eI 705 (by omega), eI 706 (by omega), eI 707 (by omega)]
    exact ⟨d0, d1, d2, d3, d4, d5, d6⟩
  · intro j i hj hi
    rw [nU_s] at hj
    show D3 _ σ' (n 1) (40 * j + i)
    by_cases e : j = n 5
    · rw [e, lJ] at hi
      have a7i := a7 i hi
      have z12 : σ 12 (40 * n 5 + i) = 0 := Classical.byContradiction (fun h => by have := (fb _ (by omega) h).1; omega)
      have z13 : σ 13 (40 * n 5 + i) = -1 := Classical.byContradiction (fun h => by have := (hv.2.2.2.2.1 _ (by omega) h).1; omega)
      have zc : ∀ l, l < n 1 → ¬ σ 41 l = nI (40 * n 5 + i) := fun l hl2 h => by
        have := (hta.2.2.1 l hl2).1
        rw [h, qn_nat (by omega)] at this; omega
      unfold D3
      rw [e, eS 12 (by omega), eS 13 (by omega), eS 41 (by omega), z12, z13, (cN_0 _).mpr zc]
      refine ⟨by rw [tI_o (by decide), tI_uR]; exact a7i.1, by rw [tI_o (by decide), tI_uR]; exact a7i.2.1, by rw [tI_o (by decide), tI_uR]; exact a7i.2.2.1, ?_⟩
      rw [tP_uI, tP_uR, a7i.2.2.2]
      cases hf : lastO (fun k => σ 41 k = nI (40 * n 5 + i)) (n 1) with
      | none => rfl
      | some l => exact absurd (lastO_in _ _ _ hf).2 (zc l (lastO_in _ _ _ hf).1)
    · rw [lo j e] at hi
      have hi40 := (z_len_i hb j).2
      have out : ¬ (40 * n 5 ≤ 40 * j + i ∧ 40 * j + i < 40 * n 5 + 40) := by omega
      refine D3_c (T := T) (fun F hF => ?_) ?_ (by rw [eS 12 (by omega)]) (by rw [eS 13 (by omega)]) (eS 41 (by omega)) (h3 j i (by omega) hi)
      · rw [tI_o (by omega), tI_uR, (a2 F _ out).1, (yI F (by omega)).1]
      · rw [tP_uI, tP_uR, (a2 303 _ out).2, (yI 303 (by decide)).2]
  · obtain ⟨v1, v2, v3, v4, v5, v6⟩ := hv
    unfold DV
    rw [eS 13 (by omega), eS 16 (by omega), eS 17 (by omega), eS 18 (by omega), eS 25 (by omega), eS 26 (by omega), eS 27 (by omega), eS 42 (by omega), eS 39 (by omega), nU_s]
    refine ⟨fun j hj => ?_, fun t ht => ?_, fun k hk => ?_, v4, fun q hq h0 => ?_, v6⟩
    · by_cases e : j = n 5
      · rw [e, lJ, s5]
        refine ⟨hL1, hd.imp id (fun ⟨k, hk, ek, hk2⟩ => by rw [ek, qn_nat hk2]; exact hk)⟩
      · rw [lo j e, ei 5 j e (by decide) (by decide)]; exact v1 j (by omega)
    · have := v2 t ht
      rw [lo _ (by omega)]; exact ⟨by omega, this.2⟩
    · have := v3 k hk
      rw [lo _ (by omega)]; exact ⟨by omega, this.2⟩
    · have := v5 q hq h0
      rw [lo _ (by omega)]; exact ⟨by omega, this.2⟩
  · have db : -1 ≤ d.toInt ∧ d.toInt ≤ 5 := by
      rcases hd with h | ⟨k, hk, ek, hk2⟩
      · rw [h]; decide
      · rw [ek, nI_toInt hk2]; omega
    rw [es]
    refine IB_up (IB_up (IB_up (IB_up (IB_up (IB_49 hb 0) 2 _ ?_ ?_) 3 _ ?_ ?_) 4 _ ?_ ?_) 5 _ ?_ ?_) 1 0 ?_ ?_
    all_goals (try rw [nI_toInt (by omega)])
    all_goals simp only [bl, bh]
    all_goals first | omega | (simp; done) | (simp; omega)
  · intro k hk
    exact D1_c (fun F hF => by rw [eI F (by omega)]) (fun F hF => by rw [eP F (by omega)]) (fun x a b => eS x (by omega)) (hdd k hk)
  · intro j k hj hk
    rw [nU_s] at hj
    replace hk : k < n 1 := hk
    by_cases e : j = n 5
    · rw [e, (iJ 508 rfl).1, yJ.2.2.2.2.2.2.2.2.1, eS 7 (by omega), f511.2.1]
      have k512 : n 1 ≤ 512 := by have := h1.2.2.2.2.2.2.2.1; have := h1.2.2.2.2.2.2.2.2; omega
      have p512 : n 6 ≤ 512 := h1.2.2.2.2.2.2.2.2
      have pk := hta.1 k hk
      refine ⟨fun _ => ?_, fun _ => ?_⟩
      · rw [ile, I0, nI_toInt (by omega)]; omega
      · rw [ile, nI_toInt (by omega), show (-1 : Int32).toInt = -1 from by decide]; omega
    · rw [(iJ 508 rfl).1, (yi 508 j e).1, eS 7 (by omega)]
      exact hs j k (by omega) hk
  · intro t ht h20
    rw [eS 20 (by omega)] at h20
    have hst := (hv.2.1 t ht).1
    rw [eS 16 (by omega), eS 21 (by omega), eS 22 (by omega), ei 2 _ (by omega) (by decide) (by decide)]
    exact hr t ht h20
  · obtain ⟨t1, t2, t3, t4, t5⟩ := hta
    unfold DTa
    rw [eS 41 (by omega), eS 42 (by omega), eS 43 (by omega), eP 600 (by omega), eP 602 (by omega), eI 601 (by omega), eI 603 (by omega), nU_s]
    refine ⟨t1, t2, fun k hk => ?_, fun i hi => ?_, fun j hj => ?_⟩
    · have := t3 k hk
      exact ⟨by omega, this.2⟩
    · rcases t4 i hi with h | ⟨ha, j, hj, hb2, hc⟩
      · exact Or.inl h
      · exact Or.inr ⟨ha, j, by omega, hb2, by rw [(iJ 508 rfl).1, (yi 508 j (by omega)).1]; exact hc⟩
    · by_cases e : j = n 5
      · rw [e, (iJ 508 rfl).1]; exact Or.inl yJ.2.2.2.2.2.2.2.2.1
      · rw [(iJ 508 rfl).1, (yi 508 j e).1]; exact t5 j (by omega)
  · exact DTb_c (eI 1102 (by omega)) (eP 1101 (by omega)) (eN 20 (by omega)) (eR 20 (by omega)) htb
  · intro j hj hj6
    rw [nU_s] at hj
    rw [eS 6 (by omega), eS 7 (by omega), eS 8 (by omega), eS 10 (by omega)]
    exact fa j (by omega) hj6
  · intro q hq h0
    rw [eS 12 (by omega)] at h0
    have := fb q hq h0
    rw [nU_s, lo _ (by omega)]
    exact ⟨by omega, this.2⟩
end C
