/-! the class's calls that only ask -/
theorem q_v {P : Prop} {a X : Int32} (h : ¬ P) : iT (¬ P) a X = a := iT_T h
section K
variable {ad : Nat → Nat → Nat} {n : Nat → Nat} {S : PT} {T : CT} {σ : SG} {μ : MU}
theorem below_n {x : Int32} {m : Nat} (hm : m < 1000) (h : 0 ≤ x ∧ x ≤ nI m - 1) : ∃ i : Nat, i < m ∧ x = nI i ∧ i < 2147483648 := by
  have h1 := h.1
  have h2 := h.2
  rw [ile, I0] at h1
  rw [ile, tsub, nI_toInt (by omega), show (1 : Int32).toInt = 1 from by decide] at h2
  exact ex_nI (by rw [ilt, I0]; omega) (by omega)
theorem st_n (H : DQ T σ n) {x : Int32} (h : 0 ≤ x ∧ x ≤ σ 1 0 - 1) : ∃ i : Nat, i < n 5 ∧ x = nI i ∧ i < 2147483648 := by
  rw [H.1.1] at h; exact below_n (by have := H.1.2.1; omega) h
theorem th_n (H : DQ T σ n) {x : Int32} (h : 0 ≤ x ∧ x ≤ σ 14 0 - 1) : ∃ i : Nat, i < n 7 ∧ x = nI i ∧ i < 2147483648 := by
  rw [H.1.2.2.1] at h; exact below_n (by have := H.1.2.2.2.1; omega) h
theorem wk_n (H : DQ T σ n) {x : Int32} (h : 0 ≤ x ∧ x ≤ σ 23 0 - 1) : ∃ i : Nat, i < n 8 ∧ x = nI i ∧ i < 2147483648 := by
  rw [H.1.2.2.2.2.1] at h; exact below_n (by have := H.1.2.2.2.2.2.1; omega) h
theorem k_queue (R : RC ad (VC n (z_len σ)) S T) (H : DQ T σ n) (x : Int32) {mc ms : Nat} (h1 : 1 ≤ mc) (h6 : 6 ≤ ms) {post : Int32 → PT → Prop} {postX : String → PT → Prop}
    (hx1 : q_st σ x = 1 → postX "java/lang/IndexOutOfBoundsException" S) (h : q_st σ x = 0 → post (σ 10 x.toNatClampNeg) S) : w_X8_queue (ad 9 0) x S mc ms post postX := by
  unfold w_X8_queue q_st at *
  refine ⟨(RC_o9 R VC_9).1, ?_⟩
  rw [k_streetAt R H]
  by_cases hv : 0 ≤ x ∧ x ≤ σ 1 0 - 1
  · rw [iT_T hv]
    obtain ⟨s, hs, rfl, hs2⟩ := st_n H hv
    obtain ⟨-, -, -, -, -, -, -, -, -, e11, -⟩ := H.2.2.1 s hs
    rw [qn_nat hs2] at h ⊢
    refine ⟨fun e => (by cases e), fun a e => ?_⟩
    cases e
    simp only [RC_o5 R (VC_5 hs), e11, true_and]
    exact h (iT_F (fun n => n hv))
  · rw [iT_F hv]
    exact ⟨fun _ => ⟨by omega, by omega, hx1 (iT_T hv)⟩, fun a e => by cases e⟩
theorem k_bars (R : RC ad (VC n (z_len σ)) S T) (H : DQ T σ n) (x : Int32) {mc ms : Nat} (h1 : 1 ≤ mc) (h6 : 6 ≤ ms) {post : Int32 → PT → Prop} {postX : String → PT → Prop}
    (hx1 : q_wk σ x = 1 → postX "java/lang/IndexOutOfBoundsException" S) (h : q_wk σ x = 0 → post (z_bars σ x.toNatClampNeg (n 8)) S) : w_X8_bars (ad 9 0) x S mc ms post postX := by
  unfold w_X8_bars q_wk at *
  refine ⟨(RC_o9 R VC_9).1, ?_⟩
  rw [k_worksAt R H]
  by_cases hv : 0 ≤ x ∧ x ≤ σ 23 0 - 1
  · rw [iT_T hv]
    obtain ⟨k, hk, rfl, hk2⟩ := wk_n H hv
    rw [qn_nat hk2] at h ⊢
    refine ⟨fun e => (by cases e), fun a e => ⟨(RC_o9 R VC_9).1, ?_⟩⟩
    exact k_whatBars R H hk (h (iT_F (fun n => n hv)))
  · rw [iT_F hv]
    exact ⟨fun _ => ⟨by omega, by omega, hx1 (iT_T hv)⟩, fun a e => by cases e⟩
theorem k_meets (R : RC ad (VC n (z_len σ)) S T) (H : DQ T σ n) (x f : Int32) {mc ms : Nat} (h1 : 1 ≤ mc) (h6 : 6 ≤ ms) {post : Int32 → PT → Prop} {postX : String → PT → Prop}
    (hx1 : q_meets σ x f = 1 → postX "java/lang/IndexOutOfBoundsException" S) (hx2 : q_meets σ x f = 2 → postX "java/lang/IllegalArgumentException" S) (h : q_meets σ x f = 0 → post (z_meets σ x.toNatClampNeg f (n 8)) S) : w_X8_meets (ad 9 0) x f S mc ms post postX := by
  unfold w_X8_meets q_meets at *
  refine ⟨(RC_o9 R VC_9).1, ?_⟩
  rw [k_worksAt R H]
  by_cases hv : 0 ≤ x ∧ x ≤ σ 23 0 - 1
  · rw [iT_T hv]
    obtain ⟨k, hk, rfl, hk2⟩ := wk_n H hv
    rw [qn_nat hk2] at h ⊢
    rw [iT_F (show ¬ ¬ _ from fun n => n hv)] at h hx2
    refine ⟨fun e => (by cases e), fun a e => ?_⟩
    cases e
    refine ⟨fun h0 => ?_, fun h0 => ⟨by omega, by omega, hx2 (iT_T h0)⟩⟩
    have h00 := h0
    rw [ile, I0] at h00
    have hf2 := Ihi f
    obtain ⟨i, hi, rfl, hi2⟩ := ex_nI (x := f) (n := f.toInt.toNat + 1) (by rw [ilt, I0]; omega) (by omega)
    have h9 := h (iT_F (fun n => n h0))
    unfold z_meets at h9
    rw [qn_nat hi2, ← first_c (fun l => fm_all σ k l)] at h9
    simp only [RC_o9 R VC_9, RC_o8 R (VC_8 hk), k_today R H, k_endOn R hk (H.2.2.2.1 k hk).1, true_and]
    exact k_firstMet R H hk _ 0 hi2 _ h9
  · rw [iT_F hv]
    exact ⟨fun _ => ⟨by omega, by omega, hx1 (iT_T hv)⟩, fun a e => by cases e⟩
theorem k_search (R : RC ad (VC n (z_len σ)) S T) (H : DQ T σ n) (x a b : Int32) {mc ms : Nat} (h1 : 1 ≤ mc) (h6 : 6 ≤ ms) {post : Int32 → PT → Prop} {postX : String → PT → Prop}
    (hx1 : q_search σ x a b = 1 → postX "java/lang/IndexOutOfBoundsException" S) (hx2 : q_search σ x a b = 2 → postX "java/lang/IllegalArgumentException" S) (h : q_search σ x a b = 0 → post (z_srch (z_sr σ x a b) (n 7)) S) : w_X8_search (ad 9 0) x a b S mc ms post postX := by
  unfold w_X8_search w_X8_search_b30 q_search at *
  refine ⟨(RC_o9 R VC_9).1, ?_⟩
  rw [k_streetAt R H]
  have no : ¬ (z_mt σ x a ∧ z_mt σ x b) → 0 ≤ mc ∧ 0 ≤ ms ∧ 0 + 1 ≤ mc ∧ 0 + 6 ≤ ms ∧ postX "java/lang/IndexOutOfBoundsException" S := fun hn => ⟨by omega, by omega, by omega, by omega, hx1 (iT_T hn)⟩
  by_cases hv : 0 ≤ x ∧ x ≤ σ 1 0 - 1
  · rw [iT_T hv]
    obtain ⟨s, hs, rfl, hs2⟩ := st_n H hv
    rw [qn_nat hs2]
    refine ⟨fun e => (by cases e), fun a9 e => ?_⟩
    cases e
    refine ⟨(RC_o5 R (VC_5 hs)).1, ?_⟩
    rw [k_metreAt R H hs]
    by_cases ha : 0 ≤ a ∧ a ≤ σ 2 s - 1
    · rw [iT_T ha]
      refine ⟨fun e => (by cases e), fun a8 e => ⟨(RC_o5 R (VC_5 hs)).1, ?_⟩⟩
      rw [k_metreAt R H hs]
      by_cases hb : 0 ≤ b ∧ b ≤ σ 2 s - 1
      · rw [iT_T hb]
        have hm : z_mt σ (nI s) a ∧ z_mt σ (nI s) b := by
          unfold z_mt; rw [qn_nat hs2]; exact ⟨⟨hv, ha⟩, hv, hb⟩
        rw [iT_F (show ¬ ¬ _ from fun n => n hm)] at h hx2
        refine ⟨fun e => (by cases e), fun a7 e => ⟨fun hab => ⟨(RC_o9 R VC_9).1, ?_⟩, fun hab => ⟨by omega, by omega, hx2 (iT_T hab)⟩⟩⟩
        rw [k_suspects R H hs ha hb]
        exact h (iT_F (fun n => n hab))
      · rw [iT_F hb]
        exact ⟨fun _ => no (fun z => hb (by have := z.2.2; rw [qn_nat hs2] at this; exact this)), fun a e => by cases e⟩
    · rw [iT_F ha]
      exact ⟨fun _ => no (fun z => ha (by have := z.1.2; rw [qn_nat hs2] at this; exact this)), fun a e => by cases e⟩
  · rw [iT_F hv]
    exact ⟨fun _ => no (fun z => hv z.1.1), fun a e => by cases e⟩
theorem k_money (R : RC ad (VC n (z_len σ)) S T) (H : DQ T σ n) (HP : ∀ p, p < 6 → D4 T σ μ (n 1) p) (x : Int32) {mc ms : Nat} (h1 : 1 ≤ mc) (h6 : 6 ≤ ms) {post : Int64 → PT → Prop} {postX : String → PT → Prop}
    (hx1 : q_mo x = 1 → postX "java/lang/IndexOutOfBoundsException" S) (h : q_mo x = 0 → post (μ x.toNatClampNeg) S) : w_X8_money (ad 9 0) x S mc ms post postX := by
  unfold w_X8_money
  refine ⟨(RC_o9 R VC_9).1, ?_⟩
  rw [k_partyAt R H]
  by_cases hv : 0 ≤ x ∧ x ≤ 5
  · rw [iT_T hv]
    have hq : q_mo x = 0 := iT_F (fun n => n hv)
    obtain ⟨p, hp, rfl⟩ := mo_in hq
    have h9 := h hq
    rw [qn_nat (by omega)] at h9 ⊢
    refine ⟨fun e => (by cases e), fun a e => ?_⟩
    cases e
    simp only [RC_o4 R (VC_4 hp), (HP p hp).1, true_and]
    exact h9
  · rw [iT_F hv]
    exact ⟨fun _ => ⟨by omega, by omega, hx1 (iT_T hv)⟩, fun a e => by cases e⟩
end K
