/-! all that goes together -/
theorem up2_sf (f : SG) (i a : Nat) (v : Int32) : up2 f i a v i = upd (f i) a v := by
  funext j
  unfold up2 upd
  by_cases e : j = a
  · rw [if_pos ⟨rfl, e⟩, if_pos e]
  · rw [if_neg (fun h => e h.2), if_neg e]
theorem upd_s (g : Nat → Int32) (a : Nat) (v : Int32) : upd g a v a = v := if_pos rfl
theorem upd_o (g : Nat → Int32) {a b : Nat} (v : Int32) (h : b ≠ a) : upd g a v b = g b := if_neg h
/-- nothing but numbers has changed -/
def SM (T T' : CT) : Prop := tP T' = tP T ∧ tN T' = tN T ∧ tR T' = tR T
/-! rows that are not in use yet, and the rest that is so of the reference's state -/
def FRa (σ : SG) (n : Nat → Nat) : Prop := ∀ j, n 5 ≤ j → j < 6 → σ 6 j = -1 ∧ σ 7 j = 0 ∧ σ 8 j = -1 ∧ σ 10 j = 0
def FRb (σ : SG) (n : Nat → Nat) : Prop := ∀ q, q < 240 → ¬ σ 12 q = 0 → q / 40 < n 5 ∧ q % 40 < z_len σ (q / 40)
def FRc (σ : SG) (n : Nat → Nat) : Prop := ∀ t, n 7 ≤ t → σ 20 t = 0
def FRd (σ : SG) (n : Nat → Nat) : Prop := ∀ k, n 8 ≤ k → σ 34 k = 0 ∧ σ 35 k = 0 ∧ σ 36 k = 0 ∧ σ 37 k = 0 ∧ σ 38 k = 0
def FRe (σ : SG) (n : Nat → Nat) : Prop := ∀ q k, q < 240 → k < 24 → σ 13 q = nI k → k < n 8
def FRf (σ : SG) (n : Nat → Nat) : Prop := (∀ a b, a < 24 → b < 24 → n 8 ≤ a ∨ n 8 ≤ b → σ 39 (24 * a + b) = 0) ∧ (∀ a b, a < 24 → b < 24 → σ 39 (24 * a + b) = 0 → σ 39 (24 * b + a) = 0)
def FRg (σ : SG) (n : Nat → Nat) : Prop := ∀ k, n 1 ≤ k → σ 45 k = 0
def FRh (σ : SG) : Prop := ∀ j, σ 7 j ≤ σ 40 0
def FRi (σ : SG) (E : Nat) : Prop := ∀ p, 0 ≤ (σ 46 p).toInt ∧ (σ 46 p).toInt ≤ E
noncomputable def bal1 (a w : Int32) (v : Int64) : Int64 := iT (a / 8 - a / 8 / 8 * 8 = w) (v - (a / 64).toInt64) v
noncomputable def bal (A : Nat → Int32) (w : Int32) : Nat → Int64
  | 0 => 0
  | i + 1 => iT (A i - A i / 8 * 8 = w) (bal1 (A i) w (bal A w i) + (A i / 64).toInt64) (bal1 (A i) w (bal A w i))
/-- the ledger: at most B rows -/
def DL (T : CT) (μ : MU) (B : Nat) : Prop := ∃ r k : Nat, tI T 201 0 = nI r ∧ r ≤ B ∧ tP T 200 0 = some 0 ∧ tN T 12 0 = 64 * 2 ^ k ∧ k ≤ 12 ∧ r ≤ 64 * 2 ^ k ∧ ∀ w, w < 6 → bal (tA T) (nI w) r = μ w
/-- what was told -/
def DTa (T : CT) (σ : SG) (n pl : Nat → Nat) : Prop :=
  (∀ k, k < n 1 → pl k < n 6) ∧ (∀ a b, a < b → b < n 1 → pl a < pl b) ∧
  (∀ k, k < n 1 → (σ 41 k).toNatClampNeg / 40 < n 5 ∧ tP T 600 (pl k) = some ((σ 41 k).toNatClampNeg / 40) ∧ tI T 601 (pl k) = nI ((σ 41 k).toNatClampNeg % 40) ∧ tP T 602 (pl k) = some (σ 42 k).toNatClampNeg ∧ tI T 603 (pl k) = σ 43 k) ∧
  (∀ i, i < n 6 → (∃ k, k < n 1 ∧ pl k = i) ∨ (tP T 602 i = none ∧ ∃ j, j < n 5 ∧ tP T 600 i = some j ∧ nI i ≤ tI T 508 j)) ∧
  (∀ j, j < n 5 → tI T 508 j = -1 ∨ ∃ i, i < n 6 ∧ tI T 508 j = nI i ∧ tP T 602 i = none ∧ tP T 600 i = some j)
/-- the list of it -/
def DTb (T : CT) (n : Nat → Nat) : Prop := tP T 1101 0 = some 0 ∧ tI T 1102 0 = nI (n 6) ∧ (0 < n 6 → n 6 ≤ tN T 20 0 ∧ tN T 20 0 ≤ 1024 ∧ ∀ j, tR T 20 0 j = iT (j < n 6) (some j) none)
def GI (T : CT) (σ : SG) (μ : MU) (n pl : Nat → Nat) (B E : Nat) : Prop :=
  DQ T σ n ∧ DF T σ n pl ∧ DR σ n ∧ (∀ p, p < 6 → D4 T σ μ (n 1) p) ∧ DL T μ B ∧ DTa T σ n pl ∧ DTb T n ∧ FRa σ n ∧ FRb σ n ∧ FRc σ n ∧ FRd σ n ∧ FRe σ n ∧ FRf σ n ∧ FRg σ n ∧ FRh σ ∧ FRi σ E
section C
variable {T T' : CT} {σ σ' : SG} {n : Nat → Nat} {μ μ' : MU} {pl : Nat → Nat} {B E : Nat}
theorem D9_d (hI : ∀ F, F / 100 = 9 → tI T' F = tI T F) (hP : ∀ F, F / 100 = 9 → tP T' F = tP T F) (hN : ∀ k, (k = 13 ∨ k = 16 ∨ k = 17 ∨ k = 18 ∨ k = 19) → tN T' k = tN T k) (hR : ∀ k, 16 ≤ k → k ≤ 19 → tR T' k = tR T k) (h0 : σ' 0 0 = σ 0 0) (D : D9 T σ n) : D9 T' σ' n := by
  unfold D9 at *
  rw [hI 901 rfl, hI 903 rfl, hI 905 rfl, hI 909 rfl, hP 900 rfl, hP 902 rfl, hP 904 rfl, hP 906 rfl, hP 907 rfl, hP 908 rfl, hN 13 (by omega), hN 16 (by omega), hN 17 (by omega), hN 18 (by omega), hN 19 (by omega), hR 16 (by decide) (by decide), hR 17 (by decide) (by decide), hR 18 (by decide) (by decide), hR 19 (by decide) (by decide), h0]
  exact D
theorem D8_d {k : Nat} (hI : ∀ F, F / 100 = 8 → F ≠ 814 → tI T' F k = tI T F k) (hP : ∀ F, F / 100 = 8 → tP T' F k = tP T F k) (h : ∀ f, 24 ≤ f → f ≤ 38 → σ' f k = σ f k) (ho : z_opens σ' (nI k) = z_opens σ (nI k)) (D : D8 T σ k) : D8 T' σ' k := by
  unfold D8 z_last at *
  rw [hI 800 rfl (by decide), hI 801 rfl (by decide), hP 802 rfl, hI 803 rfl (by decide), hI 804 rfl (by decide), hI 805 rfl (by decide), hI 806 rfl (by decide), hI 807 rfl (by decide), hI 808 rfl (by decide), hI 809 rfl (by decide), hI 810 rfl (by decide), hI 811 rfl (by decide), hI 812 rfl (by decide), hI 813 rfl (by decide), hI 815 rfl (by decide), hI 816 rfl (by decide), hI 817 rfl (by decide), ho,
    h 24 (by decide) (by decide), h 25 (by decide) (by decide), h 26 (by decide) (by decide), h 27 (by decide) (by decide), h 28 (by decide) (by decide), h 29 (by decide) (by decide), h 30 (by decide) (by decide), h 31 (by decide) (by decide), h 32 (by decide) (by decide), h 33 (by decide) (by decide), h 34 (by decide) (by decide), h 35 (by decide) (by decide), h 36 (by decide) (by decide), h 37 (by decide) (by decide), h 38 (by decide) (by decide)]
  exact D
theorem DR_c (h : ∀ f, (f = 2 ∨ f = 16 ∨ f = 20 ∨ f = 21 ∨ f = 22) → σ' f = σ f) (D : DR σ n) : DR σ' n := by
  unfold DR at *; rw [h 2 (by omega), h 16 (by omega), h 20 (by omega), h 21 (by omega), h 22 (by omega)]; exact D
theorem DS_c (h8 : tI T' 508 = tI T 508) (h7 : σ' 7 = σ 7) (D : ∀ j k, j < n 5 → k < n 1 → (tI T 508 j ≤ nI (pl k) ↔ σ 7 j ≤ nI k)) : ∀ j k, j < n 5 → k < n 1 → (tI T' 508 j ≤ nI (pl k) ↔ σ' 7 j ≤ nI k) := by
  rw [h8, h7]; exact D
theorem DL_c (hI : tI T' 201 = tI T 201) (hP : tP T' 200 = tP T 200) (hN : tN T' 12 = tN T 12) (hA : tA T' = tA T) (hm : μ' = μ) (D : DL T μ B) : DL T' μ' B := by
  unfold DL at *; rw [hI, hP, hN, hA, hm]; exact D
theorem DTa_c (hI : ∀ F, (F = 601 ∨ F = 603 ∨ F = 508) → tI T' F = tI T F) (hP : ∀ F, (F = 600 ∨ F = 602) → tP T' F = tP T F) (h : ∀ f, (f = 41 ∨ f = 42 ∨ f = 43) → σ' f = σ f) (D : DTa T σ n pl) : DTa T' σ' n pl := by
  unfold DTa at *
  rw [hI 601 (by omega), hI 603 (by omega), hI 508 (by omega), hP 600 (by omega), hP 602 (by omega), h 41 (by omega), h 42 (by omega), h 43 (by omega)]; exact D
theorem DTb_c (hI : tI T' 1102 = tI T 1102) (hP : tP T' 1101 = tP T 1101) (hN : tN T' 20 = tN T 20) (hR : tR T' 20 = tR T 20) (D : DTb T n) : DTb T' n := by
  unfold DTb at *; rw [hI, hP, hN, hR]; exact D
theorem FRa_c (h : ∀ f, (f = 6 ∨ f = 7 ∨ f = 8 ∨ f = 10) → σ' f = σ f) (D : FRa σ n) : FRa σ' n := by
  unfold FRa at *; rw [h 6 (by omega), h 7 (by omega), h 8 (by omega), h 10 (by omega)]; exact D
theorem FRb_c (h2 : σ' 2 = σ 2) (h12 : σ' 12 = σ 12) (D : FRb σ n) : FRb σ' n := by
  unfold FRb z_len at *; rw [h2, h12]; exact D
theorem FRc_c (h : σ' 20 = σ 20) (D : FRc σ n) : FRc σ' n := by unfold FRc at *; rw [h]; exact D
theorem FRd_c (h : ∀ f, (34 ≤ f ∧ f ≤ 38) → σ' f = σ f) (D : FRd σ n) : FRd σ' n := by
  unfold FRd at *; rw [h 34 (by omega), h 35 (by omega), h 36 (by omega), h 37 (by omega), h 38 (by omega)]; exact D
theorem FRe_c (h : σ' 13 = σ 13) (D : FRe σ n) : FRe σ' n := by unfold FRe at *; rw [h]; exact D
theorem FRf_c (h : σ' 39 = σ 39) (D : FRf σ n) : FRf σ' n := by unfold FRf at *; rw [h]; exact D
theorem FRg_c (h : σ' 45 = σ 45) (D : FRg σ n) : FRg σ' n := by unfold FRg at *; rw [h]; exact D
theorem FRh_c (h7 : σ' 7 = σ 7) (h40 : σ' 40 = σ 40) (D : FRh σ) : FRh σ' := by unfold FRh at *; rw [h7, h40]; exact D
theorem FRi_c (h : σ' 46 = σ 46) (D : FRi σ E) : FRi σ' E := by unfold FRi at *; rw [h]; exact D
end C
section C
variable {ad : Nat → Nat → Nat} {S : PT} {T : CT} {σ : SG} {n : Nat → Nat} {μ : MU} {pl : Nat → Nat} {B E : Nat}
/-- a call that throws -/
theorem gp_49 (H : GI T σ μ n pl B E) (t : Int32) : GI T (up2 σ 49 0 t) μ n pl B E := by
  obtain ⟨H, ⟨hd, hs⟩, hr, h4, hl, hta, htb, fa, fb, fc, fd, fe, ff, fg, fh, fi⟩ := H
  have eS : ∀ f, ¬ (f = 49) → up2 σ 49 0 t f = σ f := fun f h => sg_o h
  have eI : ∀ F9, ¬ False → tI (T) F9 = tI T F9 := fun _ _ => rfl
  have eP : ∀ F9, ¬ False → tP (T) F9 = tP T F9 := fun _ _ => rfl
  have eN : ∀ F9, ¬ False → tN (T) F9 = tN T F9 := fun _ _ => rfl
  have eR : ∀ F9, ¬ False → tR (T) F9 = tR T F9 := fun _ _ => rfl
  have eA : tA (T) = tA T := rfl
  have eJ : tJ (T) = tJ T := rfl
  have eM : μ = μ := rfl
  exact ⟨p_49 H t, ⟨(fun k hk => D1_c (fun F hF => by rw [eI F (by first | omega | exact not_false)]) (fun F hF => by rw [eP F (by first | omega | exact not_false)]) (fun f a b => eS f (by first | omega | exact not_false)) (hd k hk)), (DS_c (eI 508 (by first | omega | exact not_false)) (eS 7 (by first | omega | exact not_false)) hs)⟩, (DR_c (fun f hf => eS f (by first | omega | exact not_false)) hr), (fun p hp => D4_c (by rw [eJ]) (fun F hF => by rw [eI F (by first | omega | exact not_false)]) (by rw [eM]) (eS 24 (by first | omega | exact not_false)) (eS 42 (by first | omega | exact not_false)) (by rw [eS 46 (by first | omega | exact not_false)]) (by rw [eS 47 (by first | omega | exact not_false)]) (h4 p hp)), (DL_c (eI 201 (by first | omega | exact not_false)) (eP 200 (by first | omega | exact not_false)) (eN 12 (by first | omega | exact not_false)) eA eM hl), (DTa_c (fun F hF => eI F (by first | omega | exact not_false)) (fun F hF => eP F (by first | omega | exact not_false)) (fun f hf => eS f (by first | omega | exact not_false)) hta), (DTb_c (eI 1102 (by first | omega | exact not_false)) (eP 1101 (by first | omega | exact not_false)) (eN 20 (by first | omega | exact not_false)) (eR 20 (by first | omega | exact not_false)) htb), (FRa_c (fun f hf => eS f (by first | omega | exact not_false)) fa), (FRb_c (eS 2 (by first | omega | exact not_false)) (eS 12 (by first | omega | exact not_false)) fb), (FRc_c (eS 20 (by first | omega | exact not_false)) fc), (FRd_c (fun f hf => eS f (by first | omega | exact not_false)) fd), (FRe_c (eS 13 (by first | omega | exact not_false)) fe), (FRf_c (eS 39 (by first | omega | exact not_false)) ff), (FRg_c (eS 45 (by first | omega | exact not_false)) fg), (FRh_c (eS 7 (by first | omega | exact not_false)) (eS 40 (by first | omega | exact not_false)) fh), (FRi_c (eS 46 (by first | omega | exact not_false)) fi)⟩
/-- one field of works is set -/
theorem gp_wk (H : GI T σ μ n pl B E) {k : Nat} (hk : k < n 8) {v : Int32} {F f : Nat} (hp : (F = 810 ∧ f = 33) ∨ (F = 811 ∧ f = 34) ∨ (F = 812 ∧ f = 35) ∨ (F = 813 ∧ f = 36) ∨ (F = 816 ∧ f = 37) ∨ (F = 817 ∧ f = 38)) (b1 : bl f ≤ v.toInt) (b2 : v.toInt ≤ bh f) : GI (uI T F k v) (up2 σ f k v) μ n pl B E := by
  obtain ⟨H, ⟨hd, hs⟩, hr, h4, hl, hta, htb, fa, fb, fc, fd, fe, ff, fg, fh, fi⟩ := H
  have hF : 810 ≤ F ∧ F ≤ 817 ∧ F ≠ 814 := by omega
  have hf : 33 ≤ f ∧ f ≤ 38 := by omega
  have eS : ∀ g, ¬ (g = f) → up2 σ f k v g = σ g := fun g h => sg_o h
  have eI : ∀ G, ¬ (G = F) → tI (uI T F k v) G = tI T G := fun G h => sg_o (σ := tI T) h
  have eP : ∀ F9, ¬ False → tP (uI T F k v) F9 = tP T F9 := fun _ _ => rfl
  have eN : ∀ F9, ¬ False → tN (uI T F k v) F9 = tN T F9 := fun _ _ => rfl
  have eR : ∀ F9, ¬ False → tR (uI T F k v) F9 = tR T F9 := fun _ _ => rfl
  have eA : tA (uI T F k v) = tA T := rfl
  have eJ : tJ (uI T F k v) = tJ T := rfl
  have eM : μ = μ := rfl
  refine ⟨p_wk H hp b1 b2, ⟨(fun k hk => D1_c (fun F hF => by rw [eI F (by first | omega | exact not_false)]) (fun F hF => by rw [eP F (by first | omega | exact not_false)]) (fun f a b => eS f (by first | omega | exact not_false)) (hd k hk)), (DS_c (eI 508 (by first | omega | exact not_false)) (eS 7 (by first | omega | exact not_false)) hs)⟩, (DR_c (fun f hf => eS f (by first | omega | exact not_false)) hr), (fun p hp => D4_c (by rw [eJ]) (fun F hF => by rw [eI F (by first | omega | exact not_false)]) (by rw [eM]) (eS 24 (by first | omega | exact not_false)) (eS 42 (by first | omega | exact not_false)) (by rw [eS 46 (by first | omega | exact not_false)]) (by rw [eS 47 (by first | omega | exact not_false)]) (h4 p hp)), (DL_c (eI 201 (by first | omega | exact not_false)) (eP 200 (by first | omega | exact not_false)) (eN 12 (by first | omega | exact not_false)) eA eM hl), (DTa_c (fun F hF => eI F (by first | omega | exact not_false)) (fun F hF => eP F (by first | omega | exact not_false)) (fun f hf => eS f (by first | omega | exact not_false)) hta), (DTb_c (eI 1102 (by first | omega | exact not_false)) (eP 1101 (by first | omega | exact not_false)) (eN 20 (by first | omega | exact not_false)) (eR 20 (by first | omega | exact not_false)) htb), (FRa_c (fun f hf => eS f (by first | omega | exact not_false)) fa), (FRb_c (eS 2 (by first | omega | exact not_false)) (eS 12 (by first | omega | exact not_false)) fb), (FRc_c (eS 20 (by first | omega | exact not_false)) fc), ?_, (FRe_c (eS 13 (by first | omega | exact not_false)) fe), (FRf_c (eS 39 (by first | omega | exact not_false)) ff), (FRg_c (eS 45 (by first | omega | exact not_false)) fg), (FRh_c (eS 7 (by first | omega | exact not_false)) (eS 40 (by first | omega | exact not_false)) fh), (FRi_c (eS 46 (by first | omega | exact not_false)) fi)⟩
  intro l hl2
  have hlk : l ≠ k := by omega
  have e : ∀ g, up2 σ f k v g l = σ g l := fun g => up2_i _ _ hlk
  rw [e, e, e, e, e]
  exact fd l hl2
end C
