/-! the class's calls that only ask: who is liable, what works are -/
section K
variable {ad : Nat → Nat → Nat} {n : Nat → Nat} {S : PT} {T : CT} {σ : SG} {μ : MU} {pl : Nat → Nat}
theorem liab_n (H : DQ T σ n) (s : Nat) (q d : Int32) : z_liab σ s q d (n 1) = -1 ∨ ∃ w : Nat, w < n 8 ∧ z_liab σ s q d (n 1) = nI w ∧ w < 2147483648 := by
  unfold z_liab
  have h512 : n 1 ≤ 512 := by have := H.1.2.2.2.2.2.2.2.1; have := H.1.2.2.2.2.2.2.2.2; omega
  rcases laN_in (z_deep σ q d) (n 1) with h | ⟨k, hk, -, h⟩
  · rw [h]; unfold z_by; rw [iT_T rfl]; exact Or.inl rfl
  · rw [h]
    unfold z_by
    refine iT_ind (fun y => y = -1 ∨ ∃ w : Nat, w < n 8 ∧ y = nI w ∧ w < 2147483648) (fun _ => Or.inl rfl) (fun _ => iT_ind (fun y => y = -1 ∨ ∃ w : Nat, w < n 8 ∧ y = nI w ∧ w < 2147483648) (fun _ => Or.inl rfl) (fun _ => Or.inr ?_))
    rw [qn_nat (by omega)]
    obtain ⟨w, ew, hw, hw2⟩ := IB_nI H.2.2.2.2.2.2.2 42 k rfl
    have hv := H.2.2.2.2.2.2.1.2.2.2.1 k hk
    rw [ew, qn_nat hw2] at hv
    exact ⟨w, hv, ew, hw2⟩
theorem k_numberOf (R : RC ad (VC n (z_len σ)) S T) (H : DQ T σ n) {x : Int32} (hx : x = -1 ∨ ∃ w : Nat, w < n 8 ∧ x = nI w ∧ w < 2147483648) {post : Int32 → PT → Prop} (h : post x S) : w_X8_numberOf (iT (x = -1) none (some (ad 8 x.toNatClampNeg))) S post := by
  unfold w_X8_numberOf w_X8_numberOf_b12
  by_cases e : x = -1
  · rw [iT_T e]
    exact ⟨fun _ => by rw [← e]; exact h, fun a ea => by cases ea⟩
  · obtain ⟨w, hw, rfl, hw2⟩ := hx.resolve_left e
    rw [iT_F e, qn_nat hw2]
    refine ⟨fun ea => (by cases ea), fun a ea => ?_⟩
    cases ea
    simp only [RC_o8 R (VC_8 hw), (H.2.2.2.1 w hw).1.1, true_and]
    exact h
theorem k_liable (R : RC ad (VC n (z_len σ)) S T) (H : DQ T σ n) (F : DF T σ n pl) (x y d : Int32) {mc ms : Nat} (h1 : 1 ≤ mc) (h6 : 6 ≤ ms) {post : Int32 → PT → Prop} {postX : String → PT → Prop}
    (hx1 : q_asks σ x y d = 1 → postX "java/lang/IndexOutOfBoundsException" S) (hx2 : q_asks σ x y d = 2 → postX "java/lang/IllegalArgumentException" S) (h : q_asks σ x y d = 0 → post (z_liab σ x.toNatClampNeg (z_q x y) d (n 1)) S) : w_X8_liable (ad 9 0) x y d S mc ms post postX := by
  unfold w_X8_liable
  unfold q_asks at hx1 hx2 h
  have b34 : ¬ z_mt σ x y → w_X8_liable_b34 (ad 9 0) x y d mc ms post postX 0 0 S := fun hn => ⟨by omega, by omega, by omega, by omega, hx1 (iT_T hn)⟩
  refine ⟨(RC_o9 R VC_9).1, ?_⟩
  rw [k_streetAt R H]
  unfold w_X8_liable_b22
  by_cases hv : 0 ≤ x ∧ x ≤ σ 1 0 - 1
  · rw [iT_T hv]
    obtain ⟨s, hs, rfl, hs2⟩ := st_n H hv
    rw [qn_nat hs2]
    refine ⟨fun e => (by cases e), fun a9 e => ?_⟩
    cases e
    refine ⟨(RC_o5 R (VC_5 hs)).1, ?_⟩
    rw [k_metreAt R H hs]
    refine ⟨by omega, by omega, fun e => (by cases e), fun a9 e => ?_⟩
    by_cases ha : 0 ≤ y ∧ y ≤ σ 2 s - 1
    · rw [iT_T ha]
      obtain ⟨i, hi, rfl, hi40⟩ := len_in H ha
      have hm : z_mt σ (nI s) (nI i) := by unfold z_mt; rw [qn_nat hs2]; exact ⟨hv, ha⟩
      rw [iT_F (show ¬ ¬ _ from fun n => n hm)] at h hx2
      rw [qn_nat (show i < 2147483648 by omega)]
      refine ⟨fun e => (by cases e), fun a3 e3 => ?_⟩
      have b55 : ¬ (0 ≤ d ∧ d ≤ 300) → w_X8_liable_b55 (ad 9 0) (nI s) (nI i) d mc ms post postX 0 0 S := fun hn => ⟨by omega, by omega, by omega, by omega, hx2 (iT_T hn)⟩
      refine ⟨fun hd => b55 (fun z => by have := z.1; rw [← not_lt32] at this; exact this hd), fun hd => ⟨fun hd2 => ⟨(RC_o9 R VC_9).1, ?_⟩, fun hd2 => b55 (fun z => hd2 z.2)⟩⟩
      have h9 := h (iT_F (fun z => z ⟨by rw [← not_lt32]; exact hd, hd2⟩))
      rw [qn_nat hs2, z_q, at_eq] at h9
      exact k_whoIsLiable R H F hs hi d (k_numberOf R H (liab_n H s (nI (40 * s + i)) d) h9)
    · rw [iT_F ha]
      exact ⟨fun _ => b34 (fun z => ha (by have := z.2; rw [qn_nat hs2] at this; exact this)), fun a e => (by cases e)⟩
  · rw [iT_F hv]
    exact ⟨fun _ => ⟨by omega, by omega, fun _ => b34 (fun z => hv z.1), fun a e => (by cases e)⟩, fun a e => (by cases e)⟩
theorem k_of (R : RC ad (VC n (z_len σ)) S T) (H : DQ T σ n) (x w : Int32) {mc ms : Nat} (h1 : 1 ≤ mc) (h6 : 6 ≤ ms) {post : Int32 → PT → Prop} {postX : String → PT → Prop}
    (hx1 : q_of σ x w = 1 → postX "java/lang/IndexOutOfBoundsException" S) (hx2 : q_of σ x w = 2 → postX "java/lang/IllegalArgumentException" S) (h : q_of σ x w = 0 → post (z_what σ x.toNatClampNeg w) S) : w_X8_of (ad 9 0) x w S mc ms post postX := by
  unfold w_X8_of w_X8_of_b110 w_X8_of_b123
  unfold q_of at hx1 hx2 h
  refine ⟨(RC_o9 R VC_9).1, ?_⟩
  rw [k_worksAt R H]
  by_cases hv : 0 ≤ x ∧ x ≤ σ 23 0 - 1
  · rw [iT_T hv]
    obtain ⟨k, hk, rfl, hk2⟩ := wk_n H hv
    rw [qn_nat hk2] at h ⊢
    rw [iT_F (show ¬ ¬ _ from fun n => n hv)] at h hx2
    refine ⟨fun e => (by cases e), fun a e => ?_⟩
    cases e
    obtain ⟨-, -, -, -, -, -, -, -, -, d9, d10, d11, d12, d13, d15, d16, d17⟩ := (H.2.2.2.1 k hk).1
    simp only [RC_o8 R (VC_8 hk), d9, d10, d11, d12, d13, d15, d16, d17, true_and]
    have good : 0 ≤ w.toInt → w.toInt ≤ 7 → post (z_what σ k w) S := fun a b => h (iT_F (fun z => z ⟨by rw [ile, I0]; exact a, by rw [ile, show (7 : Int32).toInt = 7 from by decide]; exact b⟩))
    have is : ∀ i : Nat, i < 8 → w.toInt = i → w = nI i := fun i hi e => by rw [ieq, nI_toInt (by omega)]; exact e
    refine ⟨fun ho => ⟨by omega, by omega, hx2 (iT_T (fun z => ?_))⟩, fun e => ?_, fun e => ?_, fun e => ?_, fun e => ?_, fun e => ?_, fun e => ?_, fun e => ?_, fun e => ?_⟩
    · have z1 := z.1; have z2 := z.2
      rw [ile, I0] at z1
      rw [ile, show (7 : Int32).toInt = 7 from by decide] at z2
      omega
    all_goals have g := good (by omega) (by omega)
    · rw [is 0 (by omega) e, z_what_0] at g; exact g
    · rw [is 1 (by omega) e, z_what_1] at g; exact g
    · rw [is 2 (by omega) e, z_what_2] at g; exact g
    · rw [is 3 (by omega) e, z_what_3] at g; exact g
    · rw [is 4 (by omega) e, z_what_4] at g; exact g
    · rw [is 5 (by omega) e, z_what_5] at g; exact g
    · rw [is 6 (by omega) e, z_what_6] at g
      exact ⟨fun h0 => by rw [iT_T h0] at g; exact ⟨by omega, by omega, g⟩, fun h0 => by rw [iT_F h0] at g; exact ⟨by omega, by omega, g⟩⟩
    · rw [is 7 (by omega) e, z_what_7] at g
      exact ⟨fun h0 => by rw [iT_T h0] at g; exact ⟨by omega, by omega, g⟩, fun h0 => by rw [iT_F h0] at g; exact ⟨by omega, by omega, g⟩⟩
  · rw [iT_F hv]
    exact ⟨fun _ => ⟨by omega, by omega, hx1 (iT_T hv)⟩, fun a e => (by cases e)⟩
end K
