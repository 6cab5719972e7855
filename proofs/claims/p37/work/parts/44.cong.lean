/-! what a change elsewhere leaves -/
section C
variable {T T' : CT} {σ σ' : SG} {n : Nat → Nat} {μ μ' : MU} {pl : Nat → Nat}
theorem z_len_c (h : ∀ j, σ' 2 j = σ 2 j) : z_len σ' = z_len σ := by funext j; unfold z_len; rw [h]
theorem DN_c (h1 : σ' 1 0 = σ 1 0) (h2 : σ' 14 0 = σ 14 0) (h3 : σ' 23 0 = σ 23 0) (h4 : σ' 40 0 = σ 40 0) (D : DN σ n) : DN σ' n := by
  unfold DN at *; rw [h1, h2, h3, h4]; exact D
theorem D9_c (hI : ∀ F, F / 100 = 9 → tI T' F = tI T F) (hP : ∀ F, F / 100 = 9 → tP T' F = tP T F) (hN : tN T' = tN T) (hR : ∀ k, 16 ≤ k → k ≤ 19 → tR T' k = tR T k) (h0 : σ' 0 0 = σ 0 0) (D : D9 T σ n) : D9 T' σ' n := by
  unfold D9 at *
  rw [hI 901 rfl, hI 903 rfl, hI 905 rfl, hI 909 rfl, hP 900 rfl, hP 902 rfl, hP 904 rfl, hP 906 rfl, hP 907 rfl, hP 908 rfl, hN, hR 16 (by decide) (by decide), hR 17 (by decide) (by decide), hR 18 (by decide) (by decide), hR 19 (by decide) (by decide), h0]
  exact D
theorem D5_c {j : Nat} (hI : ∀ F, F / 100 = 5 → F ≠ 508 → F ≠ 509 → tI T' F j = tI T F j) (hP : ∀ F, F / 100 = 5 → tP T' F j = tP T F j) (hN : tN T' 15 j = tN T 15 j) (hR : tR T' 15 j = tR T 15 j) (h : ∀ f, 2 ≤ f → f ≤ 10 → f ≠ 7 → σ' f j = σ f j) (D : D5 T σ j) : D5 T' σ' j := by
  unfold D5 z_len at *
  rw [hI 500 rfl (by decide) (by decide), hI 501 rfl (by decide) (by decide), hI 502 rfl (by decide) (by decide), hP 503 rfl, hP 504 rfl, hI 505 rfl (by decide) (by decide), hI 506 rfl (by decide) (by decide), hI 507 rfl (by decide) (by decide), hI 510 rfl (by decide) (by decide), hI 511 rfl (by decide) (by decide), hN, hR,
    h 2 (by decide) (by decide) (by decide), h 3 (by decide) (by decide) (by decide), h 4 (by decide) (by decide) (by decide), h 5 (by decide) (by decide) (by decide), h 6 (by decide) (by decide) (by decide), h 8 (by decide) (by decide) (by decide), h 9 (by decide) (by decide) (by decide), h 10 (by decide) (by decide) (by decide)]
  exact D
theorem D8_c {k : Nat} (hI : ∀ F, F / 100 = 8 → tI T' F k = tI T F k) (hP : ∀ F, F / 100 = 8 → tP T' F k = tP T F k) (h : ∀ f, 24 ≤ f → f ≤ 38 → σ' f k = σ f k) (ho : z_opens σ' (nI k) = z_opens σ (nI k)) (D : D8 T σ k) : D8 T' σ' k := by
  unfold D8 z_last at *
  rw [hI 800 rfl, hI 801 rfl, hP 802 rfl, hI 803 rfl, hI 804 rfl, hI 805 rfl, hI 806 rfl, hI 807 rfl, hI 808 rfl, hI 809 rfl, hI 810 rfl, hI 811 rfl, hI 812 rfl, hI 813 rfl, hI 815 rfl, hI 816 rfl, hI 817 rfl, ho,
    h 24 (by decide) (by decide), h 25 (by decide) (by decide), h 26 (by decide) (by decide), h 27 (by decide) (by decide), h 28 (by decide) (by decide), h 29 (by decide) (by decide), h 30 (by decide) (by decide), h 31 (by decide) (by decide), h 32 (by decide) (by decide), h 33 (by decide) (by decide), h 34 (by decide) (by decide), h 35 (by decide) (by decide), h 36 (by decide) (by decide), h 37 (by decide) (by decide), h 38 (by decide) (by decide)]
  exact D
theorem D8a_c {k : Nat} (hI : tI T' 814 k = tI T 814 k) (h : σ' 39 = σ 39) (D : D8a T σ k) : D8a T' σ' k := by
  unfold D8a at *; rw [hI, h]; exact D
theorem D7_c {t : Nat} (hI : ∀ F, F / 100 = 7 → tI T' F t = tI T F t) (hP : ∀ F, F / 100 = 7 → tP T' F t = tP T F t) (h : ∀ f, 15 ≤ f → f ≤ 22 → σ' f t = σ f t) (h2 : σ' 2 = σ 2) (D : D7 T σ t) : D7 T' σ' t := by
  unfold D7 at *
  rw [hI 700 rfl, hP 701 rfl, hI 702 rfl, hI 703 rfl, hI 704 rfl, hI 705 rfl, hI 706 rfl, hI 707 rfl, h2,
    h 15 (by decide) (by decide), h 16 (by decide) (by decide), h 17 (by decide) (by decide), h 18 (by decide) (by decide), h 19 (by decide) (by decide), h 20 (by decide) (by decide), h 21 (by decide) (by decide), h 22 (by decide) (by decide)]
  exact D
theorem D3_c {nF q : Nat} (hI : ∀ F, F / 100 = 3 → tI T' F q = tI T F q) (hP : tP T' 303 q = tP T 303 q) (h12 : σ' 12 q = σ 12 q) (h13 : σ' 13 q = σ 13 q) (h41 : σ' 41 = σ 41) (D : D3 T σ nF q) : D3 T' σ' nF q := by
  unfold D3 at *
  rw [hI 300 rfl, hI 301 rfl, hI 302 rfl, hP, h12, h13, h41]
  exact D
theorem D1_c {k : Nat} (hI : ∀ F, F / 100 = 1 → tI T' F k = tI T F k) (hP : ∀ F, F / 100 = 1 → tP T' F k = tP T F k) (h : ∀ f, 41 ≤ f → f ≤ 45 → σ' f = σ f) (D : D1 T σ pl k) : D1 T' σ' pl k := by
  unfold D1 at *
  rw [hP 100 rfl, hI 101 rfl, hI 102 rfl, hI 103 rfl, hP 104 rfl, hI 105 rfl, h 41 (by decide) (by decide), h 42 (by decide) (by decide), h 43 (by decide) (by decide), h 44 (by decide) (by decide), h 45 (by decide) (by decide)]
  exact D
theorem D4_c {nF p : Nat} (hJ : tJ T' p = tJ T p) (hI : ∀ F, F / 100 = 4 → tI T' F p = tI T F p) (hm : μ' p = μ p) (h24 : σ' 24 = σ 24) (h42 : σ' 42 = σ 42) (h46 : σ' 46 p = σ 46 p) (h47 : σ' 47 p = σ 47 p) (D : D4 T σ μ nF p) : D4 T' σ' μ' nF p := by
  unfold D4 at *
  have e : z_fb σ' (nI p) = z_fb σ (nI p) := by funext k; unfold z_fb; rw [h24, h42]
  rw [hJ, hI 401 rfl, hI 402 rfl, hI 403 rfl, hm, e, h46, h47]
  exact D
theorem DV_c (h : ∀ f, (f = 2 ∨ f = 5 ∨ f = 13 ∨ f = 16 ∨ f = 17 ∨ f = 18 ∨ f = 25 ∨ f = 26 ∨ f = 27 ∨ f = 39 ∨ f = 42) → σ' f = σ f) (D : DV σ n) : DV σ' n := by
  have hl : z_len σ' = z_len σ := z_len_c (fun j => by rw [h 2 (by omega)])
  unfold DV at *
  rw [hl, h 5 (by omega), h 13 (by omega), h 16 (by omega), h 17 (by omega), h 18 (by omega), h 25 (by omega), h 26 (by omega), h 27 (by omega), h 39 (by omega), h 42 (by omega)]
  exact D
end C
