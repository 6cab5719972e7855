/-! what is found by going through all: moneyAnew, liableAnew -/
theorem laN_max {P : Nat → Prop} {k : Nat} (hP : P k) : ∀ m : Nat, k < m → (∀ l, l < m → P l → l ≤ k) → laN P m = nI k
  | 0, h, _ => absurd h (Nat.not_lt_zero _)
  | m + 1, h, hm => by
    rw [laN_s]
    by_cases e : k = m
    · rw [← e, iT_T hP]
    · rw [iT_F (fun z => e (by have := hm m (by omega) z; omega))]
      exact laN_max hP m (by omega) (fun l hl hp => hm l (by omega) hp)
theorem laN_no {P : Nat → Prop} : ∀ m : Nat, (∀ l, l < m → ¬ P l) → laN P m = -1
  | 0, _ => rfl
  | m + 1, h => by rw [laN_s, iT_F (h m (by omega))]; exact laN_no m (fun l hl => h l (by omega))
section C
variable {ad : Nat → Nat → Nat} {S : PT} {T : CT} {σ : SG} {n len : Nat → Nat} {μ : MU} {pl : Nat → Nat} {B E : Nat}
theorem k_moneyAnew (R : RC ad (VC n (z_len σ)) S T) (H : GI T σ μ n pl B E) (x : Int32) {mc ms : Nat} (h1 : 1 ≤ mc) (h6 : 6 ≤ ms) {post : Int64 → PT → Prop} {postX : String → PT → Prop}
    (hx1 : q_mo x = 1 → postX "java/lang/IndexOutOfBoundsException" S) (h : q_mo x = 0 → post (μ x.toNatClampNeg) S) : w_X8_moneyAnew (ad 9 0) x S mc ms post postX := by
  unfold w_X8_moneyAnew
  refine ⟨(RC_o9 R VC_9).1, ?_⟩
  rw [k_partyAt R H.1]
  by_cases hv : 0 ≤ x ∧ x ≤ 5
  · rw [iT_T hv]
    have hq : q_mo x = 0 := iT_F (fun n => n hv)
    obtain ⟨p, hp, rfl⟩ := mo_in hq
    have h9 := h hq
    rw [qn_nat (by omega)] at h9 ⊢
    refine ⟨fun e => (by cases e), fun a e => ?_⟩
    have o9 := RC_o9 R (VC_9 (n := n) (len := z_len σ))
    have o2 := RC_o2 R (VC_2 (n := n) (len := z_len σ))
    have o12 := RC_a12 R (VC_12 (n := n) (len := z_len σ))
    obtain ⟨r, k, l1, -, l3, l4, l5, l6, l7⟩ := H.2.2.2.2.1
    have p907 : tP T 907 0 = some 0 := H.1.2.1.2.2.2.2.2.2.2.2.1
    have g907 : gP S 907 (ad 9 0) = some (ad 2 0) := by rw [o9.2.2.2.2.2.2.2.2.1, p907]; rfl
    have g200 : gP S 200 (ad 2 0) = some (ad 12 0) := by rw [o2.2.1, l3]; rfl
    have h2k : 2 ^ k ≤ 2 ^ 12 := Nat.pow_le_pow_right (by decide) l5
    refine ⟨o9.1, _, g907, o2.1, ?_⟩
    unfold w_X1_balanceOf
    rw [show (∃ m, w_X1_balanceOf_l5 (ad 2 0) (nI p) post m S 0 0) = post (bal (tA T) (nI p) r) S from ?_]
    · rw [l7 p hp]; exact h9
    refine loop_ex (N := r) (i0 := 0) (fun i => bal (tA T) (nI p) i) (fun m c v => w_X1_balanceOf_l5 (ad 2 0) (nI p) post m S c v) _ (Nat.zero_le _) rfl rfl (fun _ _ => rfl) (fun m => ?_) (fun m i _ hi => ?_)
    · show w_X1_balanceOf_l5 (ad 2 0) (nI p) post (m + 1) S _ _ = _
      unfold w_X1_balanceOf_l5 w_X1_balanceOf_b85
      rw [o2.2.2, l1]
      have c : nI r ≤ nI r := by rw [qn_le (by omega) (by omega)]; exact Nat.le_refl _
      simp only [o2.1, c, true_and, true_implies, not_true, false_implies, and_true]
    · show w_X1_balanceOf_l5 (ad 2 0) (nI p) post (m + 1) S _ _ = w_X1_balanceOf_l5 (ad 2 0) (nI p) post m S _ _
      conv => lhs; unfold w_X1_balanceOf_l5
      unfold w_X1_balanceOf_b59 w_X1_balanceOf_b79
      have c : ¬ nI r ≤ nI i := by rw [qn_le (by omega) (by omega)]; omega
      have c1 : ¬ nI (64 * 2 ^ k) ≤ nI i := by rw [qn_le (by omega) (by omega)]; omega
      have c2 : vp_in (nI i) (64 * 2 ^ k) := vin_nI (by omega) (by omega)
      have c3 : (nI i).toNatClampNeg = i := qn_nat (by omega)
      simp only [o2.1, o2.2.2, l1, g200, o12.1, o12.2.1, l4, o12.2.2, c, c1, c2, c3, true_and, true_implies, not_true, false_implies, and_true, not_false_eq_true, Option.some.injEq, exists_eq_left', qn_s, br2, br2', bal, bal1]
      ((try simp only [iT]) <;> (repeat' split) <;> first | rfl | grind | (exfalso; simp_all; done) | (simp_all; done) | (simp only [ile, ilt] at *; (repeat' split) <;> first | rfl | (exfalso; omega) | (exfalso; simp_all; done)))
  · rw [iT_F hv]
    exact ⟨fun _ => ⟨by omega, by omega, hx1 (iT_T hv)⟩, fun a e => by cases e⟩
/-- what is so behind the first i tellings -/
def JA (ad : Nat → Nat → Nat) (T : CT) (σ : SG) (n pl : Nat → Nat) (s : Nat) (q d : Int32) (i : Nat) (v6 : Option Nat) (v7 v8 : Int32) : Prop :=
  (v6 = none ∧ ∀ k, k < n 1 → pl k < i → ¬ z_deep σ q d k) ∨
  (∃ k, k < n 1 ∧ pl k < i ∧ z_deep σ q d k ∧ (∀ l, l < n 1 → pl l < i → z_deep σ q d l → l ≤ k) ∧ v6 = some (ad 8 (σ 42 k).toNatClampNeg) ∧ v7 = σ 43 k ∧ (¬ v8 = 0 ↔ ∃ t, pl k < t ∧ t < i ∧ tP T 602 t = none ∧ tP T 600 t = some s))
theorem k_anew_l (R : RC ad (VC n (z_len σ)) S T) (W : WJ (VC n (z_len σ)) T) (H : GI T σ μ n pl B E) {s y : Nat} (hs : s < n 5) (hy : y < 40) (d : Int32) (x1 : Int32) {mc ms : Nat} {post : Int32 → PT → Prop} {postX : String → PT → Prop} (h : post (z_liab σ s (nI (40 * s + y)) d (n 1)) S) :
    ∀ (m i : Nat) (v6 : Option Nat) (v7 v8 : Int32), i + m = n 6 → JA ad T σ n pl s (nI (40 * s + y)) d i v6 v7 v8 → w_X8_liableAnew_l78 (ad 9 0) x1 (nI y) d mc ms post postX (m + 1) 0 0 S (some (ad 5 s)) v6 v7 v8 (nI i) := by
  have Hb := H.1.2.2.2.2.2.2.2
  have h512 : n 6 ≤ 512 := H.1.1.2.2.2.2.2.2.2.2
  have n16 : n 1 ≤ n 6 := H.1.1.2.2.2.2.2.2.2.1
  have n56 : n 5 ≤ 6 := H.1.1.2.1
  have o9 := RC_o9 R (VC_9 (n := n) (len := z_len σ))
  have o11 := RC_o11 R (VC_11 (n := n) (len := z_len σ))
  have p908 : tP T 908 0 = some 0 := H.1.2.1.2.2.2.2.2.2.2.2.2.1
  have g908 : gP S 908 (ad 9 0) = some (ad 11 0) := by rw [o9.2.2.2.2.2.2.2.2.2.1, p908]; rfl
  obtain ⟨tb1, tb2, tb3⟩ := H.2.2.2.2.2.2.1
  obtain ⟨t1, t2, t3, t4, t5⟩ := H.2.2.2.2.2.1
  have gsz : gI S 1102 (ad 11 0) = nI (n 6) := by rw [o11.2.2.2, tb2]
  intro m
  induction m with
  | zero =>
    intro i v6 v7 v8 hi J
    have ei : i = n 6 := by omega
    subst ei
    unfold w_X8_liableAnew_l78 w_Jx4a65c_size_8abf5
    refine ⟨Nat.zero_le _, Nat.zero_le _, o9.1, _, g908, o11.1, o11.1, ?_⟩
    rw [gsz]
    refine ⟨fun _ => ?_, fun hn => absurd (by rw [qn_le (by omega) (by omega)]; exact Nat.le_refl _) hn⟩
    unfold w_X8_liableAnew_b197 w_X8_liableAnew_b199
    rcases J with ⟨e6, J⟩ | ⟨k, hk, hpk, hd, hmax, e6, e7, e8⟩
    · rw [e6]
      refine ⟨fun _ => ⟨Nat.zero_le _, Nat.zero_le _, ?_⟩, fun a e => (by cases e)⟩
      unfold z_liab at h
      rw [laN_no (n 1) (fun l hl => J l hl (t1 l hl))] at h
      unfold z_by at h
      rw [iT_T rfl] at h
      exact h
    · rw [e6]
      refine ⟨fun e => (by cases e), fun a e => ?_⟩
      cases e
      have hw := H.1.2.2.2.2.2.2.1.2.2.2.1 k hk
      have o8 := RC_o8 R (VC_8 (n := n) (len := z_len σ) hw)
      unfold z_liab at h
      rw [laN_max hd (n 1) hk (fun l hl hp => hmax l hl (t1 l hl) hp)] at h
      unfold z_by at h
      have hne : ¬ nI k = -1 := by rw [ieq, nI_toInt (by omega), show (-1 : Int32).toInt = -1 from by decide]; omega
      rw [iT_F hne, qn_nat (show k < 2147483648 by omega)] at h
      refine ⟨o9.1, ?_⟩
      rw [k_today R H.1]
      refine ⟨o8.1, ?_⟩
      rw [k_daysLiable R hw (H.1.2.2.2.1 _ hw).1, e7]
      have es : (¬ v8 = 0) ↔ ¬ σ 7 s ≤ nI k := by
        rw [e8, ← H.2.1.2 s k hs hk]
        constructor
        · rintro ⟨t, ht1, ht2, ht3, ht4⟩ hle
          rcases t4 t ht2 with ⟨l, hl, el⟩ | ⟨-, j, hj, ej, hj2⟩
          · have := (t3 l hl).2.2.2.1
            rw [el, ht3] at this; cases this
          · rw [ej] at ht4
            cases ht4
            have : nI t ≤ nI (pl k) := by
              rw [ile] at hj2 hle ⊢; omega
            rw [qn_le (by omega) (by omega)] at this; omega
        · intro hle
          rcases t5 s hs with h5 | ⟨t, ht, et, ht2, ht3⟩
          · exfalso
            apply hle
            rw [h5, ile, nI_toInt (by omega), show (-1 : Int32).toInt = -1 from by decide]; omega
          · rw [et, qn_le (by omega) (by omega)] at hle
            exact ⟨t, by omega, ht, ht2, ht3⟩
      have num : gI S 800 (ad 8 (σ 42 k).toNatClampNeg) = σ 42 k := by
        obtain ⟨w, ew, -, hw2⟩ := IB_nI Hb 42 k rfl
        rw [o8.2.1, (H.1.2.2.2.1 _ hw).1.1, ew, qn_nat hw2]
      have old : z_old σ k ↔ iT (σ 28 (σ 42 k).toNatClampNeg < 120) 200 300 < z_today σ - σ 43 k := by
        unfold z_old; rw [not_le32]
      have good : ¬ (z_old σ k ∨ (¬ 10 ≤ d ∧ ¬ σ 7 s ≤ nI k)) → 0 ≤ mc ∧ 0 ≤ ms ∧ ∃ a1, some (ad 8 (σ 42 k).toNatClampNeg) = some a1 ∧ gK S a1 = 8 ∧ post (gI S 800 a1) S := by
        intro hc
        rw [iT_F hc] at h
        exact ⟨Nat.zero_le _, Nat.zero_le _, _, rfl, o8.1, by rw [num]; exact h⟩
      refine ⟨fun ho => ?_, fun ho => ⟨fun h0 => good (fun z => z.elim (fun y => ho (old.mp y)) (fun y => (es.mpr y.2) h0)), fun h0 => ⟨fun h10 => good (fun z => z.elim (fun y => ho (old.mp y)) (fun y => y.1 h10)), fun h10 => ?_⟩⟩⟩
      · rw [iT_T (Or.inl (old.mpr ho))] at h
        exact ⟨Nat.zero_le _, Nat.zero_le _, h⟩
      · rw [iT_T (Or.inr ⟨h10, es.mp h0⟩)] at h
        exact ⟨Nat.zero_le _, Nat.zero_le _, h⟩
  | succ m ih =>
    intro i v6 v7 v8 hi J
    have hi6 : i < n 6 := by omega
    obtain ⟨c1, c2, c3⟩ := tb3 (by omega)
    have v20 : VC n (z_len σ) 20 0 := ⟨rfl, by omega⟩
    have v6i : VC n (z_len σ) 6 i := hi6
    have o20 := RC_a20 R v20
    have o6 := RC_o6 R v6i
    have g1101 : gP S 1101 (ad 11 0) = some (ad 20 0) := by rw [o11.2.2.1, tb1]; rfl
    unfold w_X8_liableAnew_l78 w_Jx4a65c_size_8abf5
    refine ⟨Nat.zero_le _, Nat.zero_le _, o9.1, _, g908, o11.1, o11.1, ?_⟩
    rw [gsz]
    have c : ¬ nI (n 6) ≤ nI i := by rw [qn_le (by omega) (by omega)]; omega
    refine ⟨fun hn => absurd hn c, fun _ => ⟨o9.1, _, g908, o11.1, ?_⟩⟩
    unfold w_Jx4a65c_get_915e3 w_J15_checkIndex_7cf53 w_J3_checkIndex_8e157
    rw [gsz]
    have f1 : ¬ nI i < 0 := by rw [ilt, I0, nI_toInt (by omega)]; omega
    have f2 : nI i < nI (n 6) := by rw [qn_lt (by omega) (by omega)]; exact hi6
    refine ⟨o11.1, fun hn => absurd hn f1, fun _ => ⟨fun _ => ⟨o11.1, ?_⟩, fun hn => absurd f2 hn⟩⟩
    unfold w_Jx4a65c_elementData_915e3
    refine ⟨o11.1, _, g1101, o20.1, by rw [o20.2.1]; exact vin_nI (by omega) (by omega), ?_⟩
    rw [o20.2.2, qn_nat (show i < 2147483648 by omega), c3, iT_T hi6]
    refine ⟨ad 6 i, rfl, o6.1, ?_⟩
    -- on: what the next telling does
    have next : ∀ w6 w7 w8, JA ad T σ n pl s (nI (40 * s + y)) d (i + 1) w6 w7 w8 → w_X8_liableAnew_b160 (ad 9 0) x1 (nI y) d mc ms post postX (w_X8_liableAnew_l78 (ad 9 0) x1 (nI y) d mc ms post postX (m + 1)) 0 0 S (some (ad 5 s)) w6 w7 w8 (nI i) := by
      intro w6 w7 w8 J'
      unfold w_X8_liableAnew_b160
      rw [qn_s]
      exact ⟨Nat.zero_le _, Nat.zero_le _, ih (i + 1) w6 w7 w8 (by omega) J'⟩
    unfold w_X5_isFillOf w_X5_isFillOf_b27 w_X5_isFillOf_b28
    refine ⟨o6.1, ?_⟩
    rcases t4 i hi6 with ⟨k, hk, ek⟩ | ⟨e602, j, hj, e600, hj2⟩
    · -- a fill
      obtain ⟨u1, u2, u3, u4, u5⟩ := t3 k hk
      rw [ek] at u2 u3 u4 u5
      have hw := H.1.2.2.2.2.2.2.1.2.2.2.1 k hk
      have o8 := RC_o8 R (VC_8 (n := n) (len := z_len σ) hw)
      have g602 : gP S 602 (ad 6 i) = some (ad 8 (σ 42 k).toNatClampNeg) := by rw [o6.2.2.2.1, u4]; rfl
      have g600 : gP S 600 (ad 6 i) = some (ad 5 ((σ 41 k).toNatClampNeg / 40)) := by rw [o6.2.1, u2]; rfl
      obtain ⟨q, eq, hq, hq2⟩ := IB_nI Hb 41 k rfl
      have hq239 : (q : Int) ≤ 239 := hq
      rw [eq, qn_nat hq2] at u1 u3 g600
      rw [g602, g600, RC_eq R (VC_5 u1) (VC_5 hs), o6.2.2.1, u3, qn_eq (by omega) (by omega)]
      -- the surfaces are the same
      have sf : ∀ t, (t < i + 1 ∧ tP T 602 t = none) ↔ (t < i ∧ tP T 602 t = none) := by
        intro t
        refine ⟨fun z => ⟨?_, z.2⟩, fun z => ⟨by omega, z.2⟩⟩
        by_cases e : t = i
        · rw [e, u4] at z; cases z.2
        · omega
      have keep : ¬ z_deep σ (nI (40 * s + y)) d k → JA ad T σ n pl s (nI (40 * s + y)) d (i + 1) v6 v7 v8 := by
        intro hnd
        have old : ∀ l, l < n 1 → pl l < i + 1 → z_deep σ (nI (40 * s + y)) d l → pl l < i := by
          intro l hl hl2 hd
          by_cases e : pl l = i
          · exfalso
            have : l = k := by
              by_cases h1 : l < k
              · have := t2 l k h1 hk; omega
              · by_cases h2 : k < l
                · have := t2 k l h2 hl; omega
                · omega
            rw [this] at hd; exact hnd hd
          · omega
        rcases J with ⟨e6, J⟩ | ⟨k0, hk0, hpk, hd, hmax, e6, e7, e8⟩
        · exact Or.inl ⟨e6, fun l hl hl2 hd => J l hl (old l hl hl2 hd) hd⟩
        · refine Or.inr ⟨k0, hk0, by omega, hd, fun l hl hl2 hd2 => hmax l hl (old l hl hl2 hd2) hd2, e6, e7, ?_⟩
          rw [e8]
          constructor
          · rintro ⟨t, a1, a2, a3, a4⟩; exact ⟨t, a1, by omega, a3, a4⟩
          · rintro ⟨t, a1, a2, a3, a4⟩; exact ⟨t, a1, ((sf t).mp ⟨a2, a3⟩).1, a3, a4⟩
      have b147 : ¬ z_deep σ (nI (40 * s + y)) d k → w_X8_liableAnew_b147 (ad 9 0) x1 (nI y) d mc ms post postX (w_X8_liableAnew_l78 (ad 9 0) x1 (nI y) d mc ms post postX (m + 1)) 0 0 S (some (ad 5 s)) v6 v7 v8 (nI i) (some (ad 6 i)) := by
        intro hnd
        unfold w_X8_liableAnew_b147 w_X5_isSurfaceOf w_X5_isSurfaceOf_b19 w_X5_isSurfaceOf_b20
        refine ⟨Nat.zero_le _, Nat.zero_le _, _, rfl, o6.1, o6.1, ?_⟩
        rw [g602]
        refine ⟨fun e => (by cases e), fun a e => ⟨bo_0, fun _ => next v6 v7 v8 (keep hnd), fun e0 => absurd rfl e0⟩⟩
      refine ⟨fun e => (by cases e), fun a3 e3 => ⟨fun hne => ⟨bo_0, fun _ => b147 (fun z => hne ?_), fun e0 => absurd rfl e0⟩, fun he => ⟨fun hne => ⟨bo_0, fun _ => b147 (fun z => hne ?_), fun e0 => absurd rfl e0⟩, fun he2 => ⟨bo_1, fun e0 => absurd e0 (by decide), fun _ => ⟨o6.1, _, g602, o8.1, ?_⟩⟩⟩⟩⟩
      · have z1 := z.1
        rw [eq, qn_eq (by omega) (by omega)] at z1
        omega
      · have z1 := z.1
        rw [eq, qn_eq (by omega) (by omega)] at z1
        omega
      · have g807 : gI S 807 (ad 8 (σ 42 k).toNatClampNeg) = σ 28 (σ 42 k).toNatClampNeg := by rw [o8.2.2.2.2.2.2.2.2.1, (H.1.2.2.2.1 _ hw).1.2.2.2.2.2.2.2.1]
        rw [g807, o6.2.2.2.2, u5]
        refine ⟨fun hlt => b147 (fun z => by have := z.2; rw [← not_lt32] at this; exact this hlt), fun hlt => next _ _ _ (Or.inr ⟨k, hk, by omega, ⟨?_, by rw [← not_lt32]; exact hlt⟩, fun l hl hl2 _ => ?_, g602, rfl, ?_⟩)⟩
        · rw [eq, qn_eq (by omega) (by omega)]; omega
        · by_cases h2 : k < l
          · have := t2 k l h2 hl; omega
          · omega
        · refine ⟨fun z => absurd rfl z, ?_⟩
          rintro ⟨t, a1, a2, -, -⟩; omega
    · -- a surface
      have g602 : gP S 602 (ad 6 i) = none := by rw [o6.2.2.2.1, e602]; rfl
      have g600 : gP S 600 (ad 6 i) = some (ad 5 j) := by rw [o6.2.1, e600]; rfl
      have old : ∀ l, l < n 1 → pl l < i + 1 → pl l < i := by
        intro l hl hl2
        by_cases e : pl l = i
        · exfalso
          have := (t3 l hl).2.2.2.1
          rw [e, e602] at this; cases this
        · omega
      rw [g602]
      refine ⟨fun _ => ⟨bo_0, fun _ => ?_, fun e0 => absurd rfl e0⟩, fun a e => (by cases e)⟩
      unfold w_X8_liableAnew_b147 w_X5_isSurfaceOf w_X5_isSurfaceOf_b19 w_X5_isSurfaceOf_b20
      refine ⟨Nat.zero_le _, Nat.zero_le _, _, rfl, o6.1, o6.1, ?_⟩
      rw [g602, g600, RC_eq R (VC_5 hj) (VC_5 hs)]
      refine ⟨fun _ => ⟨fun hne => ⟨bo_0, fun _ => next v6 v7 v8 ?_, fun e0 => absurd rfl e0⟩, fun he => ⟨bo_1, fun e0 => absurd e0 (by decide), fun _ => next v6 v7 1 ?_⟩⟩, fun a e => (by cases e)⟩
      · rcases J with ⟨e6, J⟩ | ⟨k0, hk0, hpk, hd, hmax, e6, e7, e8⟩
        · exact Or.inl ⟨e6, fun l hl hl2 hd => J l hl (old l hl hl2) hd⟩
        · refine Or.inr ⟨k0, hk0, by omega, hd, fun l hl hl2 hd2 => hmax l hl (old l hl hl2) hd2, e6, e7, ?_⟩
          rw [e8]
          constructor
          · rintro ⟨t, a1, a2, a3, a4⟩; exact ⟨t, a1, by omega, a3, a4⟩
          · rintro ⟨t, a1, a2, a3, a4⟩
            refine ⟨t, a1, ?_, a3, a4⟩
            by_cases e : t = i
            · rw [e, e600] at a4; cases a4; exact absurd rfl hne
            · omega
      · rcases J with ⟨e6, J⟩ | ⟨k0, hk0, hpk, hd, hmax, e6, e7, e8⟩
        · exact Or.inl ⟨e6, fun l hl hl2 hd => J l hl (old l hl hl2) hd⟩
        · refine Or.inr ⟨k0, hk0, by omega, hd, fun l hl hl2 hd2 => hmax l hl (old l hl hl2) hd2, e6, e7, ?_⟩
          exact ⟨fun _ => ⟨i, hpk, by omega, e602, by rw [e600, he]⟩, fun _ => by decide⟩
theorem k_liableAnew (R : RC ad (VC n (z_len σ)) S T) (W : WJ (VC n (z_len σ)) T) (H : GI T σ μ n pl B E) (x y d : Int32) {mc ms : Nat} (h1 : 1 ≤ mc) (h6 : 6 ≤ ms) {post : Int32 → PT → Prop} {postX : String → PT → Prop}
    (hx1 : q_asks σ x y d = 1 → postX "java/lang/IndexOutOfBoundsException" S) (hx2 : q_asks σ x y d = 2 → postX "java/lang/IllegalArgumentException" S) (h : q_asks σ x y d = 0 → post (z_liab σ x.toNatClampNeg (z_q x y) d (n 1)) S) : w_X8_liableAnew (ad 9 0) x y d S mc ms post postX := by
  unfold w_X8_liableAnew
  unfold q_asks at hx1 hx2 h
  have b34 : ¬ z_mt σ x y → w_X8_liableAnew_b34 (ad 9 0) x y d mc ms post postX 0 0 S := fun hn => ⟨by omega, by omega, by omega, by omega, hx1 (iT_T hn)⟩
  refine ⟨(RC_o9 R VC_9).1, ?_⟩
  rw [k_streetAt R H.1]
  unfold w_X8_liableAnew_b22
  by_cases hv : 0 ≤ x ∧ x ≤ σ 1 0 - 1
  · rw [iT_T hv]
    obtain ⟨s, hs, rfl, hs2⟩ := st_n H.1 hv
    rw [qn_nat hs2]
    refine ⟨fun e => (by cases e), fun a9 e => ?_⟩
    cases e
    refine ⟨(RC_o5 R (VC_5 hs)).1, ?_⟩
    rw [k_metreAt R H.1 hs]
    refine ⟨by omega, by omega, fun e => (by cases e), fun a9 e => ?_⟩
    by_cases ha : 0 ≤ y ∧ y ≤ σ 2 s - 1
    · rw [iT_T ha]
      obtain ⟨i, hi, rfl, hi40⟩ := len_in H.1 ha
      have hm : z_mt σ (nI s) (nI i) := by unfold z_mt; rw [qn_nat hs2]; exact ⟨hv, ha⟩
      rw [iT_F (show ¬ ¬ _ from fun n => n hm)] at h hx2
      rw [qn_nat (show i < 2147483648 by omega)]
      refine ⟨fun e => (by cases e), fun a3 e3 => ?_⟩
      have b55 : ¬ (0 ≤ d ∧ d ≤ 300) → w_X8_liableAnew_b55 (ad 9 0) (nI s) (nI i) d mc ms post postX 0 0 S := fun hn => ⟨by omega, by omega, by omega, by omega, hx2 (iT_T hn)⟩
      refine ⟨fun hd => b55 (fun z => by have := z.1; rw [← not_lt32] at this; exact this hd), fun hd => ⟨fun hd2 => ?_, fun hd2 => b55 (fun z => hd2 z.2)⟩⟩
      have h9 := h (iT_F (fun z => z ⟨by rw [← not_lt32]; exact hd, hd2⟩))
      rw [qn_nat hs2, z_q, at_eq] at h9
      refine ⟨n 6 + 1, ?_⟩
      exact k_anew_l R W H hs hi40 d _ h9 (n 6) 0 none 0 0 (by omega) (Or.inl ⟨rfl, fun k hk hk2 => absurd hk2 (Nat.not_lt_zero _)⟩)
    · rw [iT_F ha]
      exact ⟨fun _ => b34 (fun z => ha (by have := z.2; rw [qn_nat hs2] at this; exact this)), fun a e => (by cases e)⟩
  · rw [iT_F hv]
    exact ⟨fun _ => ⟨by omega, by omega, fun _ => b34 (fun z => hv z.1), fun a e => (by cases e)⟩, fun a e => (by cases e)⟩
end C
