/-! numbers, and what a sound board answers -/
theorem nf {σ : SG} (B : IB σ) (f i : Nat) (h0 : bl f = 0) : σ f i = nI (σ f i).toNatClampNeg ∧ ((σ f i).toNatClampNeg : Int) ≤ bh f := by
  obtain ⟨k, e, h1, h2⟩ := IB_nI B f i h0
  rw [e, qn_nat h2]
  exact ⟨rfl, h1⟩
theorem idiv_nI {a b : Nat} (ha : a < 2147483648) (hb0 : 0 < b) (hb : b < 2147483648) : nI a / nI b = nI (a / b) := by
  have h1 := nI_toInt ha
  have h2 := nI_toInt hb
  have h3 : a / b < 2147483648 := Nat.lt_of_le_of_lt (Nat.div_le_self _ _) ha
  rw [ieq, tdiv (by omega) (by omega), h1, h2, nI_toInt h3]
  exact (Int.natCast_ediv a b).symm
theorem isub_nI {a b : Nat} (h : b ≤ a) (ha : a < 2147483648) : nI a - nI b = nI (a - b) := by
  rw [ieq, tsub, nI_toInt ha, nI_toInt (by omega), nI_toInt (by omega)]; omega
theorem irem_nI {a b : Nat} (ha : a < 2147483648) (hb0 : 0 < b) (hb : b < 2147483648) : nI a - nI a / nI b * nI b = nI (a % b) := by
  have h3 := Nat.div_mul_le_self a b
  have h4 := Nat.div_add_mod a b
  rw [idiv_nI ha hb0 hb, qn_mul, isub_nI h3 ha]
  rw [Nat.mul_comm] at h4
  congr 1
  omega
theorem cl_0 : (0 : Int32).toNatClampNeg = 0 := by decide
theorem cl_1 : (1 : Int32).toNatClampNeg = 1 := by decide
theorem cl_2 : (2 : Int32).toNatClampNeg = 2 := by decide
theorem cl_3 : (3 : Int32).toNatClampNeg = 3 := by decide
theorem cl_5 : (5 : Int32).toNatClampNeg = 5 := by decide
theorem vp_l {k n : Nat} (hk : k < n) (hn : n < 2147483648) : vp_in (nI k) n = True := eq_true (vin_nI hk hn)
section SEM
variable {σ : SG} {μ : MU} {n : Nat → Nat} {h t : Nat}
theorem cN_more {P : Nat → Prop} {a : Nat} : ∀ b, a ≤ b → (∀ q, a ≤ q → q < b → ¬ P q) → cN P b = cN P a
  | 0, hab, _ => by rw [show a = 0 by omega]
  | b + 1, hab, hn => by
    by_cases e : a = b + 1
    · rw [e]
    · show cN P b + iT (P b) 1 0 = cN P a
      rw [iT_F (hn b (by omega) (by omega)), cN_more b (by omega) (fun q h1 h2 => hn q h1 (by omega))]
      rfl
theorem first_hit {P : Nat → Prop} {d i : Nat} (hd : 0 < d) (hp : P i) : z_first P d i = nI i := by
  cases d with
  | zero => omega
  | succ d => exact iT_T hp
theorem first_spec (P : Nat → Prop) : ∀ d i, z_first P d i = -1 ∨ ∃ l, i ≤ l ∧ l < i + d ∧ P l ∧ z_first P d i = nI l
  | 0, _ => Or.inl rfl
  | d + 1, i => by
    by_cases e : P i
    · exact Or.inr ⟨i, Nat.le_refl _, by omega, e, iT_T e⟩
    · have e2 : z_first P (d + 1) i = z_first P d (i + 1) := iT_F e
      rw [e2]
      rcases first_spec P d (i + 1) with h | ⟨l, h1, h2, h3⟩
      · exact Or.inl h
      · exact Or.inr ⟨l, by omega, by omega, h3⟩
theorem may_sym {j k : Nat} (h : z_may σ j k) : z_may σ k j := by
  rcases h with ⟨a, b | b⟩ | ⟨a, b⟩
  · exact Or.inl ⟨b, Or.inl a⟩
  · exact Or.inr ⟨a, b⟩
  · exact Or.inl ⟨a, Or.inr b⟩
theorem near_sym {j k : Nat} (h : z_near σ j k) : z_near σ k j := by
  unfold z_near at *
  by_cases e : σ 25 j = σ 25 k
  · rw [iT_T e] at h; rw [iT_T e.symm]; exact h.symm
  · rw [iT_F e] at h; rw [iT_F (fun z => e z.symm)]; exact h.symm
theorem meet_sym (ff : FRf σ n) {j k : Nat} (hj : j < 24) (hk : k < 24) (H : z_meet σ j k) : z_meet σ k j := by
  obtain ⟨h1, h2, h3, h4, h5⟩ := H
  exact ⟨may_sym h1, Ne.symm h2, ⟨h3.2, h3.1⟩, ff.2 j k hj hk h4, near_sym h5⟩
theorem bars_in (j nW : Nat) : z_bars σ j nW = 0 ∨ z_bars σ j nW = 1 ∨ z_bars σ j nW = 2 ∨ (z_bars σ j nW = 3 ∧ z_met σ j nW) := by
  unfold z_bars
  by_cases h1 : σ 29 j = 3
  · rw [iT_T h1]; exact Or.inl rfl
  · rw [iT_F h1]
    by_cases h2 : ¬ σ 8 (σ 25 j).toNatClampNeg = -1 ∧ z_has σ j (σ 8 (σ 25 j).toNatClampNeg) (σ 9 (σ 25 j).toNatClampNeg)
    · rw [iT_T h2]; exact Or.inr (Or.inl rfl)
    · rw [iT_F h2]
      by_cases h3 : ¬ σ 6 (σ 25 j).toNatClampNeg = -1 ∧ σ 38 j = 0 ∧ z_has σ j (σ 6 (σ 25 j).toNatClampNeg) (σ 6 (σ 25 j).toNatClampNeg + 99)
      · rw [iT_T h3]; exact Or.inr (Or.inr (Or.inl rfl))
      · rw [iT_F h3]
        by_cases h4 : z_met σ j nW
        · rw [iT_T h4]; exact Or.inr (Or.inr (Or.inr ⟨rfl, h4⟩))
        · rw [iT_F h4]; exact Or.inl rfl
theorem bit_ext9 {x y : Int32} (h : ∀ l, bitI x l ↔ bitI y l) : x = y := Int32.toBitVec_inj.mp (BitVec.eq_of_getLsbD_eq (fun i _ => Bool.eq_iff_iff.mpr (h i)))
theorem bit_andb (x y : Int32) (l : Nat) : bitI (x &&& y) l ↔ bitI x l ∧ bitI y l := by
  unfold bitI
  rw [Int32.toBitVec_and, BitVec.getLsbD_and, Bool.and_eq_true]
theorem srch_sub {P Q : Nat → Prop} {m : Nat} (hm : m ≤ 32) (h : ∀ t, P t → Q t) : z_srch Q m &&& z_srch P m = z_srch P m := bit_ext9 (fun l => by
  rw [bit_andb, bit_srch Q m hm, bit_srch P m hm]
  exact ⟨fun h => h.2, fun h9 => ⟨⟨h9.1, h l h9.2⟩, h9⟩⟩)
theorem liab_spec (s : Nat) (q d : Int32) (nF : Nat) (hF : nF ≤ 512) : z_liab σ s q d nF = -1 ∨ ∃ f, f < nF ∧ σ 41 f = q ∧ d ≤ σ 28 (σ 42 f).toNatClampNeg ∧ z_liab σ s q d nF = σ 42 f := by
  unfold z_liab
  rcases laN_in (z_deep σ q d) nF with h | ⟨k, hk, hd, h⟩
  · rw [h]; unfold z_by; rw [iT_T rfl]; exact Or.inl rfl
  · rw [h]
    unfold z_by
    have hn : ¬ nI k = -1 := by rw [ieq, nI_toInt (by omega), show (-1 : Int32).toInt = -1 from by decide]; omega
    rw [iT_F hn, qn_nat (by omega)]
    by_cases h2 : z_old σ k ∨ (¬ 10 ≤ d ∧ ¬ σ 7 s ≤ nI k)
    · rw [iT_T h2]; exact Or.inl rfl
    · rw [iT_F h2]; exact Or.inr ⟨k, hk, hd.1, hd.2, rfl⟩
theorem due_ge (x : Int32) (nF : Nat) : ¬ z_due σ x nF < 0 := by
  unfold z_due
  refine iT_ind (fun y : Int32 => ¬ y < 0) (fun h => ?_) (fun _ => by decide)
  rw [ile] at h; rw [ilt]; omega
theorem cN_pos {P : Nat → Prop} {m i : Nat} (hi : i < m) (hp : P i) : ¬ cN P m = 0 := fun h => (cN_0 m).mp h i hi hp
/-- places of what there is -/
theorem in_k (F : SF σ n h) {k : Nat} (hk : k < n 8) : 0 ≤ nI k ∧ nI k ≤ σ 23 0 - 1 := by
  obtain ⟨⟨-, -, -, -, e, e2, -⟩, -⟩ := F
  rw [ile, ile, I0, e, tsub, nI_toInt (by omega), nI_toInt (by omega), show (1 : Int32).toInt = 1 from by decide]; omega
theorem in_s (F : SF σ n h) {k : Nat} (hk : k < n 5) : 0 ≤ nI k ∧ nI k ≤ σ 1 0 - 1 := by
  obtain ⟨⟨e, e2, -⟩, -⟩ := F
  rw [ile, ile, I0, e, tsub, nI_toInt (by omega), nI_toInt (by omega), show (1 : Int32).toInt = 1 from by decide]; omega
theorem in_t (F : SF σ n h) {k : Nat} (hk : k < n 7) : 0 ≤ nI k ∧ nI k ≤ σ 14 0 - 1 := by
  obtain ⟨⟨-, -, e, e2, -⟩, -⟩ := F
  rw [ile, ile, I0, e, tsub, nI_toInt (by omega), nI_toInt (by omega), show (1 : Int32).toInt = 1 from by decide]; omega
theorem len_2 (F : SF σ n h) (j : Nat) : σ 2 j = nI (z_len σ j) ∧ z_len σ j ≤ 40 := by
  obtain ⟨-, -, -, ib, -⟩ := F
  have := nf ib 2 j rfl
  exact ⟨this.1, by have := this.2; unfold z_len; rw [show bh 2 = 40 from rfl] at this; omega⟩
theorem in_y (F : SF σ n h) {j y : Nat} (hy : y < z_len σ j) : 0 ≤ nI y ∧ nI y ≤ σ 2 j - 1 := by
  obtain ⟨e, e2⟩ := len_2 F j
  rw [ile, ile, I0, e, tsub, nI_toInt (by omega), nI_toInt (by omega), show (1 : Int32).toInt = 1 from by decide]; omega
theorem in_mt (F : SF σ n h) {j y : Nat} (hj : j < n 5) (hy : y < z_len σ j) : z_mt σ (nI j) (nI y) := by
  have h5 : n 5 ≤ 6 := F.1.2.1
  unfold z_mt
  rw [qn_nat (by omega)]
  exact ⟨in_s F hj, in_y F hy⟩
theorem N5 (F : SF σ n h) : (σ 1 0).toNatClampNeg = n 5 := by rw [F.1.1]; exact qn_nat (by have := F.1.2.1; omega)
theorem N7 (F : SF σ n h) : (σ 14 0).toNatClampNeg = n 7 := by rw [F.1.2.2.1]; exact qn_nat (by have := F.1.2.2.2.1; omega)
theorem N8 (F : SF σ n h) : (σ 23 0).toNatClampNeg = n 8 := by rw [F.1.2.2.2.2.1]; exact qn_nat (by have := F.1.2.2.2.2.2.1; omega)
theorem N1 (F : SF σ n h) : (σ 40 0).toNatClampNeg = n 1 ∧ n 1 ≤ 512 := by
  have h1 := F.1.2.2.2.2.2.2.2.1
  have h2 := F.1.2.2.2.2.2.2.2.2
  rw [F.1.2.2.2.2.2.2.1]; exact ⟨qn_nat (by omega), by omega⟩
theorem q_of_0 (F : SF σ n h) {k : Nat} (hk : k < n 8) {w : Int32} (hw : 0 ≤ w ∧ w ≤ 7) : q_of σ (nI k) w = 0 := by
  unfold q_of; rw [iT_F (fun z => z (in_k F hk)), iT_F (fun z => z hw)]
theorem q_wk_0 (F : SF σ n h) {k : Nat} (hk : k < n 8) : q_wk σ (nI k) = 0 := by
  unfold q_wk; rw [iT_F (fun z => z (in_k F hk))]
theorem q_meets_0 (F : SF σ n h) {k : Nat} (hk : k < n 8) {f : Int32} (hf : 0 ≤ f) : q_meets σ (nI k) f = 0 := by
  unfold q_meets; rw [iT_F (fun z => z (in_k F hk)), iT_F (fun z => z hf)]
theorem q_metre_0 (F : SF σ n h) {j y : Nat} (hj : j < n 5) (hy : y < z_len σ j) {w : Int32} (hw : 0 ≤ w ∧ w ≤ 3) : q_metre σ (nI j) (nI y) w = 0 := by
  unfold q_metre; rw [iT_F (fun z => z (in_mt F hj hy)), iT_F (fun z => z hw)]
theorem q_search_0 (F : SF σ n h) {j a b : Nat} (hj : j < n 5) (hab : a ≤ b) (hb : b < z_len σ j) : q_search σ (nI j) (nI a) (nI b) = 0 := by
  have := (len_2 F j).2
  unfold q_search; rw [iT_F (fun z => z ⟨in_mt F hj (by omega), in_mt F hj hb⟩), iT_F (fun z => z ((qn_le (by omega) (by omega)).mpr hab))]
theorem q_asks_0 (F : SF σ n h) {j y : Nat} (hj : j < n 5) (hy : y < z_len σ j) {d : Int32} (hd : 0 ≤ d ∧ d ≤ 300) : q_asks σ (nI j) (nI y) d = 0 := by
  unfold q_asks; rw [iT_F (fun z => z (in_mt F hj hy)), iT_F (fun z => z hd)]
theorem q_st_0 (F : SF σ n h) {j : Nat} (hj : j < n 5) : q_st σ (nI j) = 0 := by
  unfold q_st; rw [iT_F (fun z => z (in_s F hj))]
theorem q_mo_0 {p : Nat} (hp : p < 6) : q_mo (nI p) = 0 := by
  unfold q_mo; rw [iT_F (fun z => z ⟨by rw [ile, I0, nI_toInt (by omega)]; omega, by rw [ile, nI_toInt (by omega), show (5 : Int32).toInt = 5 from by decide]; omega⟩)]
theorem q_pr_0 {p : Nat} (hp : p < 5) : q_pr (nI p) = 0 := by
  unfold q_pr; rw [iT_F (fun z => z ⟨by rw [ile, I0, nI_toInt (by omega)]; omega, by rw [ile, nI_toInt (by omega), show (4 : Int32).toInt = 4 from by decide]; omega⟩)]
theorem w_07 {w : Nat} (h : w ≤ 7) : 0 ≤ nI w ∧ nI w ≤ 7 := ⟨by rw [ile, I0, nI_toInt (by omega)]; omega, by rw [ile, nI_toInt (by omega), show (7 : Int32).toInt = 7 from by decide]; omega⟩
end SEM
