/-! the whole state; a call on both sides -/
def xA (q : Int32) : String := if q = 1 then "java/lang/IndexOutOfBoundsException" else if q = 2 then "java/lang/IllegalArgumentException" else "java/lang/IllegalStateException"
def xQ (q : Int32) : String := if q = 1 then "java/lang/IndexOutOfBoundsException" else "java/lang/IllegalStateException"
def xC (q : Int32) : String := if q = 1 then "java/lang/IndexOutOfBoundsException" else "java/lang/IllegalArgumentException"
def xE (q : Int32) : String := if q = 1 then "java/lang/IllegalArgumentException" else "java/lang/IllegalStateException"
/-- the class's object x, the law's row o, behind C calls -/
def ST (e0 x o : Nat) (S : PT) (σ : SG) (μ : MU) (C cap : Nat) : Prop :=
  ∃ (ad : Nat → Nat → Nat) (n pl : Nat → Nat) (T : CT) (h : Nat), RC ad (VC n (z_len σ)) S T ∧ WJ (VC n (z_len σ)) T ∧ ad 9 0 = x ∧ ad 13 0 = o ∧ (n 6 = 0 → ad 20 0 = e0) ∧ (0 < n 6 → ad 20 0 ≠ e0) ∧ n 6 ≤ C ∧ σ 0 0 = nI h ∧ h ≤ 9999 ∧ GI T σ μ n pl (pot h + 30 * C) (2 * C) ∧ tN T 12 0 = cap
section C
variable {e0 x o : Nat} {ad : Nat → Nat → Nat} {S : PT} {T : CT} {σ : SG} {n pl : Nat → Nat} {μ : MU} {B E C cap : Nat}
theorem GI_uB (H : GI T σ μ n pl B E) {i : Nat} {v : Int64} : GI (uB T i v) σ μ n pl B E := by
  obtain ⟨⟨h1, h9, h5, h8, h7, h3, hv, hb⟩, ⟨hd, hs⟩, hr, h4, hl, hta, htb, fa, fb, fc, fd, fe, ff, fg, fh, fi⟩ := H
  have eS : ∀ f, ¬ False → σ f = σ f := fun _ _ => rfl
  have eI : ∀ F9, ¬ False → tI (uB T i v) F9 = tI T F9 := fun _ _ => rfl
  have eP : ∀ F9, ¬ False → tP (uB T i v) F9 = tP T F9 := fun _ _ => rfl
  have eN : ∀ F9, ¬ False → tN (uB T i v) F9 = tN T F9 := fun _ _ => rfl
  have eR : ∀ F9, ¬ False → tR (uB T i v) F9 = tR T F9 := fun _ _ => rfl
  have eA : tA (uB T i v) = tA T := rfl
  have eJ : tJ (uB T i v) = tJ T := rfl
  have eM : μ = μ := rfl
  exact ⟨⟨h1, (D9_d (fun F hF => eI F (by first | omega | exact not_false)) (fun F hF => eP F (by first | omega | exact not_false)) (fun k hk => eN k (by first | omega | exact not_false)) (fun k hk hk2 => eR k (by first | omega | exact not_false)) (by rw [eS 0 (by first | omega | exact not_false)]) h9), (fun j hj => D5_c (fun F hF _ _ => by rw [eI F (by first | omega | exact not_false)]) (fun F hF => by rw [eP F (by first | omega | exact not_false)]) (by rw [eN 15 (by first | omega | exact not_false)]) (by rw [eR 15 (by first | omega | exact not_false)]) (fun f a b _ => by rw [eS f (by first | omega | exact not_false)]) (h5 j hj)), (fun k hk => ⟨D8_c (fun F hF => by rw [eI F (by first | omega | exact not_false)]) (fun F hF => by rw [eP F (by first | omega | exact not_false)]) (fun f a b => by rw [eS f (by first | omega | exact not_false)]) (by unfold z_opens; rw [eS 13 (by first | omega | exact not_false)]) (h8 k hk).1, D8a_c (by rw [eI 814 (by first | omega | exact not_false)]) (eS 39 (by first | omega | exact not_false)) (h8 k hk).2⟩), (fun t ht => D7_c (fun F hF => by rw [eI F (by first | omega | exact not_false)]) (fun F hF => by rw [eP F (by first | omega | exact not_false)]) (fun f a b => by rw [eS f (by first | omega | exact not_false)]) (eS 2 (by first | omega | exact not_false)) (h7 t ht)), fun j i hj hi => D3_c (fun F hF => by rw [eI F not_false]) (by rw [eP 303 not_false]) rfl rfl rfl (h3 j i hj hi), hv, hb⟩, ⟨(fun k hk => D1_c (fun F hF => by rw [eI F (by first | omega | exact not_false)]) (fun F hF => by rw [eP F (by first | omega | exact not_false)]) (fun f a b => eS f (by first | omega | exact not_false)) (hd k hk)), (DS_c (eI 508 (by first | omega | exact not_false)) (eS 7 (by first | omega | exact not_false)) hs)⟩, hr, (fun p hp => D4_c (by rw [eJ]) (fun F hF => by rw [eI F (by first | omega | exact not_false)]) (by rw [eM]) (eS 24 (by first | omega | exact not_false)) (eS 42 (by first | omega | exact not_false)) (by rw [eS 46 (by first | omega | exact not_false)]) (by rw [eS 47 (by first | omega | exact not_false)]) (h4 p hp)), (DL_c (eI 201 (by first | omega | exact not_false)) (eP 200 (by first | omega | exact not_false)) (eN 12 (by first | omega | exact not_false)) eA eM hl), (DTa_c (fun F hF => eI F (by first | omega | exact not_false)) (fun F hF => eP F (by first | omega | exact not_false)) (fun f hf => eS f (by first | omega | exact not_false)) hta), (DTb_c (eI 1102 (by first | omega | exact not_false)) (eP 1101 (by first | omega | exact not_false)) (eN 20 (by first | omega | exact not_false)) (eR 20 (by first | omega | exact not_false)) htb), fa, fb, fc, fd, fe, ff, fg, fh, fi⟩
theorem ST_up {C' : Nat} (h : C ≤ C') (H : ST e0 x o S σ μ C cap) : ST e0 x o S σ μ C' cap := by
  obtain ⟨ad, n, pl, T, hh, a1, a2, a3, a4, a5, a6, a7, a8, a9, a10, a11⟩ := H
  exact ⟨ad, n, pl, T, hh, a1, a2, a3, a4, a5, a6, by omega, a8, a9, GI_up (by omega) (by omega) a10, a11⟩
theorem ST_49 (H : ST e0 x o S σ μ C cap) (t : Int32) : ST e0 x o S (up2 σ 49 0 t) μ (C + 1) cap := by
  obtain ⟨ad, n, pl, T, hh, a1, a2, a3, a4, a5, a6, a7, a8, a9, a10, a11⟩ := H
  have hl : z_len (up2 σ 49 0 t) = z_len σ := z_len_c (fun j => by rw [up2_f _ _ _ _ (by decide)])
  refine ⟨ad, n, pl, T, hh, by rw [hl]; exact a1, by rw [hl]; exact a2, a3, a4, a5, a6, by omega, by rw [up2_f _ _ _ _ (by decide)]; exact a8, a9, GI_up (by omega) (by omega) (gp_49 a10 t), a11⟩
theorem ST_K (H : ST e0 x o S σ μ C cap) : gK S x = 9 := by
  obtain ⟨ad, n, pl, T, hh, a1, a2, a3, a4, -⟩ := H
  rw [← a3]
  exact (RC_o9 a1 (VC_9 (n := n) (len := z_len σ))).1
theorem ST_B (H : ST e0 x o S σ μ C cap) : IB σ ∧ cap ≤ 262144 := by
  obtain ⟨ad, n, pl, T, hh, a1, a2, a3, a4, a5, a6, a7, a8, a9, a10, a11⟩ := H
  exact ⟨a10.1.2.2.2.2.2.2.2, by rw [← a11]; exact cap_le a10⟩
def cB (C cap : Nat) : Nat := 400 + 60 * C + cap
def sB2 (C cap : Nat) : Nat := 20000 + 2000 * C + 2 * cap
/-- a call of the class: what it answers, what it throws, what is so behind it -/
def CC {α : Type} (e0 x o : Nat) (S : PT) (σ : SG) (μ : MU) (C cap C' : Nat) (q : Int32) (r : α) (σ' : SG) (μ' : MU) (X : Int32 → String) (W : Nat → Nat → (α → PT → Prop) → (String → PT → Prop) → Prop) : Prop :=
  ∃ cap', cap ≤ cap' ∧ cap' ≤ 262144 ∧ (¬ q = 0 → cap' = cap) ∧ ∀ (mc ms : Nat) (post : α → PT → Prop) (postX : String → PT → Prop), 60 + (cap' - cap) ≤ mc → 2000 + 2 * (cap' - cap) ≤ ms → (¬ q = 0 → postX (X q) S) → (q = 0 → ∀ S', ST e0 x o S' σ' μ' C' cap' → post r S') → W mc ms post postX
/-- a call that pays nothing -/
def CD {α : Type} (e0 x o : Nat) (S : PT) (σ' : SG) (μ' : MU) (C' cap : Nat) (q : Int32) (r : α) (X : Int32 → String) (W : Nat → Nat → (α → PT → Prop) → (String → PT → Prop) → Prop) : Prop :=
  ∀ (mc ms : Nat) (post : α → PT → Prop) (postX : String → PT → Prop), 60 ≤ mc → 2000 ≤ ms → (¬ q = 0 → postX (X q) S) → (q = 0 → ∀ S', ST e0 x o S' σ' μ' C' cap → post r S') → W mc ms post postX
/-- a question: it leaves all as it was -/
def CQ {α : Type} (S : PT) (q : Int32) (r : α) (X : Int32 → String) (W : Nat → Nat → (α → PT → Prop) → (String → PT → Prop) → Prop) : Prop :=
  ∀ (mc ms : Nat) (post : α → PT → Prop) (postX : String → PT → Prop), 1 ≤ mc → 6 ≤ ms → (¬ q = 0 → postX (X q) S) → (q = 0 → post r S) → W mc ms post postX
end C
