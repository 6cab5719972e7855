/-! the class's calls that only ask: metres, holes that are due -/
section K
variable {ad : Nat → Nat → Nat} {n : Nat → Nat} {S : PT} {T : CT} {σ : SG} {μ : MU} {pl : Nat → Nat}
theorem k_metre (R : RC ad (VC n (z_len σ)) S T) (H : DQ T σ n) (x y w : Int32) {mc ms : Nat} (h1 : 1 ≤ mc) (h6 : 6 ≤ ms) {post : Int32 → PT → Prop} {postX : String → PT → Prop}
    (hx1 : q_metre σ x y w = 1 → postX "java/lang/IndexOutOfBoundsException" S) (hx2 : q_metre σ x y w = 2 → postX "java/lang/IllegalArgumentException" S) (h : q_metre σ x y w = 0 → post (z_mwhat σ x y w (n 7) (n 1)) S) : w_X8_metre (ad 9 0) x y w S mc ms post postX := by
  unfold w_X8_metre
  unfold q_metre at hx1 hx2 h
  have b34 : ¬ z_mt σ x y → w_X8_metre_b34 (ad 9 0) x y w mc ms post postX 0 0 S := fun hn => ⟨by omega, by omega, by omega, by omega, hx1 (iT_T hn)⟩
  refine ⟨(RC_o9 R VC_9).1, ?_⟩
  rw [k_streetAt R H]
  unfold w_X8_metre_b22
  by_cases hv : 0 ≤ x ∧ x ≤ σ 1 0 - 1
  · rw [iT_T hv]
    obtain ⟨s, hs, rfl, hs2⟩ := st_n H hv
    rw [qn_nat hs2]
    refine ⟨fun e => (by cases e), fun a9 e => ?_⟩
    cases e
    refine ⟨(RC_o5 R (VC_5 hs)).1, ?_⟩
    rw [k_metreAt R H hs]
    refine ⟨by omega, by omega, fun e => (by cases e), fun a9 e => ?_⟩
    by_cases ha : 0 ≤ y ∧ y ≤ σ 2 s - 1
    · rw [iT_T ha]
      have ha' := ha
      obtain ⟨i, hi, rfl, hi40⟩ := len_in H ha
      have hm : z_mt σ (nI s) (nI i) := by unfold z_mt; rw [qn_nat hs2]; exact ⟨hv, ha⟩
      rw [iT_F (show ¬ ¬ _ from fun n => n hm)] at h hx2
      rw [qn_nat (show i < 2147483648 by omega)]
      refine ⟨fun e => (by cases e), fun a3 e3 => ?_⟩
      cases e3
      have o3 := RC_o3 R (VC_3 (len := z_len σ) hs hi hi40)
      obtain ⟨m0, m1, m2, -⟩ := H.2.2.2.2.2.1 s i hs hi
      have good : 0 ≤ w.toInt → w.toInt ≤ 3 → post (z_mwhat σ (nI s) (nI i) w (n 7) (n 1)) S := fun a b => h (iT_F (fun z => z ⟨by rw [ile, I0]; exact a, by rw [ile, show (3 : Int32).toInt = 3 from by decide]; exact b⟩))
      have is : ∀ i : Nat, i < 8 → w.toInt = i → w = nI i := fun i hi e => by rw [ieq, nI_toInt (by omega)]; exact e
      have w0 : ∀ a b c d : Int32, iT (nI 0 = 0) a (iT (nI 0 = 1) b (iT (nI 0 = 2) c d)) = a := fun a b c d => iT_T rfl
      have w1 : ∀ a b c d : Int32, iT (nI 1 = 0) a (iT (nI 1 = 1) b (iT (nI 1 = 2) c d)) = b := fun a b c d => by rw [iT_F (show ¬ nI 1 = 0 by decide), iT_T (show nI 1 = 1 from rfl)]
      have w2 : ∀ a b c d : Int32, iT (nI 2 = 0) a (iT (nI 2 = 1) b (iT (nI 2 = 2) c d)) = c := fun a b c d => by rw [iT_F (show ¬ nI 2 = 0 by decide), iT_F (show ¬ nI 2 = 1 by decide), iT_T (show nI 2 = 2 from rfl)]
      have w3 : ∀ a b c d : Int32, iT (nI 3 = 0) a (iT (nI 3 = 1) b (iT (nI 3 = 2) c d)) = d := fun a b c d => by rw [iT_F (show ¬ nI 3 = 0 by decide), iT_F (show ¬ nI 3 = 1 by decide), iT_F (show ¬ nI 3 = 2 by decide)]
      have em : z_mat (nI s) (nI i) = 40 * s + i := by unfold z_mat; rw [qn_nat hs2, qn_nat (show i < 2147483648 by omega)]
      unfold w_X8_metre_b91 w_X8_metre_b105
      refine ⟨fun ho => ⟨by omega, by omega, hx2 (iT_T (fun z => ?_))⟩, fun e => ?_, fun e => ?_, fun e => ?_, fun e => ?_⟩
      · have z1 := z.1; have z2 := z.2
        rw [ile, I0] at z1
        rw [ile, show (3 : Int32).toInt = 3 from by decide] at z2
        omega
      all_goals
        have g := good (by omega) (by omega)
        unfold z_mwhat at g
        rw [em] at g
      · rw [is 0 (by omega) e, w0] at g
        refine ⟨(RC_o9 R VC_9).1, ?_⟩
        rw [k_isSuspect R H hs ha', bI_0]
        exact ⟨fun h0 => by rw [bI_F h0] at g; exact ⟨by omega, by omega, g⟩, fun h0 => by rw [bI_T (Classical.not_not.mp h0)] at g; exact ⟨by omega, by omega, g⟩⟩
      · rw [is 1 (by omega) e, w1] at g
        refine ⟨o3.1, ?_⟩
        rw [o3.2.1, m0]
        exact ⟨fun h0 => by rw [iT_T h0] at g; exact ⟨by omega, by omega, g⟩, fun h0 => by rw [iT_F h0] at g; exact ⟨by omega, by omega, g⟩⟩
      · rw [is 2 (by omega) e, w2] at g
        refine ⟨o3.1, ?_⟩
        rw [o3.2.2.1, m1]
        exact g
      · rw [is 3 (by omega) e, w3, z_q, at_eq] at g
        refine ⟨o3.1, ?_⟩
        rw [o3.2.2.2.1, m2]
        exact g
    · rw [iT_F ha]
      exact ⟨fun _ => b34 (fun z => ha (by have := z.2; rw [qn_nat hs2] at this; exact this)), fun a e => (by cases e)⟩
  · rw [iT_F hv]
    exact ⟨fun _ => ⟨by omega, by omega, fun _ => b34 (fun z => hv z.1), fun a e => (by cases e)⟩, fun a e => (by cases e)⟩
theorem k_due (R : RC ad (VC n (z_len σ)) S T) (H : DQ T σ n) (HP : ∀ p, p < 6 → D4 T σ μ (n 1) p) (hf : ∀ p, 0 ≤ (σ 46 p).toInt ∧ (σ 46 p).toInt ≤ 100000) (x : Int32) {mc ms : Nat} (h1 : 1 ≤ mc) (h6 : 6 ≤ ms) {post : Int32 → PT → Prop} {postX : String → PT → Prop}
    (hx1 : q_pr x = 1 → postX "java/lang/IndexOutOfBoundsException" S) (h : q_pr x = 0 → post (z_due σ x (n 1)) S) : w_X8_due (ad 9 0) x S mc ms post postX := by
  unfold w_X8_due w_X8_due_b17
  unfold q_pr at hx1 h
  refine ⟨(RC_o9 R VC_9).1, ?_⟩
  rw [k_partyAt R H]
  have no : ¬ (0 ≤ x ∧ x ≤ 4) → 0 ≤ mc ∧ 0 ≤ ms ∧ 0 + 1 ≤ mc ∧ 0 + 6 ≤ ms ∧ postX "java/lang/IndexOutOfBoundsException" S := fun hn => ⟨by omega, by omega, by omega, by omega, hx1 (iT_T hn)⟩
  by_cases hv : 0 ≤ x ∧ x ≤ 5
  · rw [iT_T hv]
    refine ⟨fun e => (by cases e), fun a e => ?_⟩
    cases e
    rw [k_isPromoter, bI_0]
    refine ⟨fun hp => ?_, fun hp => no hp⟩
    rw [Classical.not_not] at hp
    obtain ⟨p, hp5, rfl, hp2⟩ := ex_nI (x := x) (n := 5) (by rw [not_lt32]; exact hp.1) (by have := hp.2; rw [ile, show (4 : Int32).toInt = 4 from by decide] at this; omega)
    obtain ⟨c1, c2, c3⟩ := (HP p (by omega)).2 hp5
    have h9 := h (iT_F (fun z => z hp))
    rw [qn_nat hp2]
    simp only [RC_o4 R (VC_4 (show p < 6 by omega)), c1, c2, c3, true_and]
    unfold z_due at h9
    rw [qn_nat hp2] at h9
    have eh : z_hun (σ 46 p) = 5 + 5 * (if 9 < σ 46 p then 9 else σ 46 p) := by
      have hb := hf p
      have e1 : (5 + 5 * σ 46 p).toInt = 5 + 5 * (σ 46 p).toInt := by
        rw [tadd, tmul, show (5 : Int32).toInt = 5 from by decide]; omega
      unfold z_hun
      by_cases h9 : 9 < σ 46 p
      · rw [if_pos h9]
        rw [ilt, show (9 : Int32).toInt = 9 from by decide] at h9
        by_cases h50 : 5 + 5 * σ 46 p ≤ 50
        · rw [ile, e1, show (50 : Int32).toInt = 50 from by decide] at h50; omega
        · rw [iT_F h50]; decide
      · rw [if_neg h9]
        rw [ilt, show (9 : Int32).toInt = 9 from by decide] at h9
        rw [iT_T (by rw [ile, e1, show (50 : Int32).toInt = 50 from by decide]; omega)]
    rw [eh] at h9
    generalize hz : (nI (cN (z_fb σ (nI p)) (n 1)) * (5 + 5 * (if 9 < σ 46 p then 9 else σ 46 p)) + 99) / 100 - σ 47 p = v at h9 ⊢
    by_cases h0 : v < 0
    · rw [if_pos h0]
      rw [iT_F (by rw [not_le32]; exact h0)] at h9
      exact h9
    · rw [if_neg h0]
      rw [iT_T (by rw [← not_lt32]; exact h0)] at h9
      exact h9
  · rw [iT_F hv]
    exact ⟨fun _ => no (fun z => hv ⟨z.1, by have := z.2; rw [ile, show (4 : Int32).toInt = 4 from by decide] at this; rw [ile, show (5 : Int32).toInt = 5 from by decide]; omega⟩), fun a e => (by cases e)⟩
end K
