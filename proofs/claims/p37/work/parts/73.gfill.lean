/-! a fill -/
def y_fil (T : CT) (F q k N : Nat) (d t : Int32) : CT := uI (uP (uP (uI (uI (uI (uP (uN (uI (uI T 301 q (-1)) 815 k (tI T 815 k - 1)) 1 F) 100 F (some k)) 101 F t) 102 F d) 103 F (nI N)) 104 F (tP T 303 q)) 303 q (some F)) 302 q (tI T 302 q + 1)
section C
variable {ad : Nat → Nat → Nat} {S : PT} {T : CT} {σ : SG} {n len : Nat → Nat} {μ : MU} {pl : Nat → Nat} {B E : Nat}
theorem fil_I (T : CT) (F q k N : Nat) (d t : Int32) {G : Nat} (h : ¬ (G = 301 ∨ G = 302 ∨ G = 815 ∨ G / 100 = 1)) : tI (y_fil T F q k N d t) G = tI T G := by
  unfold y_fil
  rw [tI_of (by omega), tI_uP, tI_uP, tI_of (by omega), tI_of (by omega), tI_of (by omega), tI_uP, tI_N (by omega), tI_of (by omega), tI_of (by omega)]
theorem fil_P (T : CT) (F q k N : Nat) (d t : Int32) {G : Nat} (h : ¬ (G = 303 ∨ G / 100 = 1)) : tP (y_fil T F q k N d t) G = tP T G := by
  unfold y_fil
  rw [tP_uI, tP_of (by omega), tP_of (by omega), tP_uI, tP_uI, tP_uI, tP_of (by omega), tP_N (by omega), tP_uI, tP_uI]
theorem fil_x (T : CT) (F q k N : Nat) (d t : Int32) : tN (y_fil T F q k N d t) = tN T ∧ tR (y_fil T F q k N d t) = tR T ∧ tJ (y_fil T F q k N d t) = tJ T ∧ tA (y_fil T F q k N d t) = tA T := by
  unfold y_fil
  refine ⟨?_, ?_, ?_, ?_⟩ <;> simp only [tI_uP, tI_uR, tP_uI, tP_uR, tR_uI, tR_uP, tR_uN, tN_uI, tN_uP, tN_uR, tN_uN, tJ_uI, tJ_uP, tJ_uR, tJ_N, tA_uI, tA_uP, tA_uR, tA_uN, tB_uI, tB_uP, tB_uR, tB_uN, tI_s, tI_o, tP_s, tP_o, tI_Ns, tP_Ns, ne_eq, Nat.reduceEqDiff, Nat.reduceDiv, Nat.reduceMul, Nat.reduceAdd, not_false_eq_true]
theorem fil_q (T : CT) (F q k N : Nat) (d t : Int32) : tI (y_fil T F q k N d t) 301 q = -1 ∧ tI (y_fil T F q k N d t) 302 q = tI T 302 q + 1 ∧ tP (y_fil T F q k N d t) 303 q = some F ∧ tI (y_fil T F q k N d t) 815 k = tI T 815 k - 1 := by
  unfold y_fil
  refine ⟨?_, ?_, ?_, ?_⟩
  · simp only [tI_N, tI_uP, tI_uR, tP_uI, tP_uR, tR_uI, tR_uP, tR_uN, tN_uI, tN_uP, tN_uR, tN_uN, tJ_uI, tJ_uP, tJ_uR, tJ_N, tA_uI, tA_uP, tA_uR, tA_uN, tB_uI, tB_uP, tB_uR, tB_uN, tI_s, tI_o, tP_s, tP_o, tI_Ns, tP_Ns, ne_eq, Nat.reduceEqDiff, Nat.reduceDiv, Nat.reduceMul, Nat.reduceAdd, not_false_eq_true]
  · simp only [tI_uP, tI_uR, tP_uI, tP_uR, tR_uI, tR_uP, tR_uN, tN_uI, tN_uP, tN_uR, tN_uN, tJ_uI, tJ_uP, tJ_uR, tJ_N, tA_uI, tA_uP, tA_uR, tA_uN, tB_uI, tB_uP, tB_uR, tB_uN, tI_s, tI_o, tP_s, tP_o, tI_Ns, tP_Ns, ne_eq, Nat.reduceEqDiff, Nat.reduceDiv, Nat.reduceMul, Nat.reduceAdd, not_false_eq_true]
  · simp only [tI_uP, tI_uR, tP_uI, tP_uR, tR_uI, tR_uP, tR_uN, tN_uI, tN_uP, tN_uR, tN_uN, tJ_uI, tJ_uP, tJ_uR, tJ_N, tA_uI, tA_uP, tA_uR, tA_uN, tB_uI, tB_uP, tB_uR, tB_uN, tI_s, tI_o, tP_s, tP_o, tI_Ns, tP_Ns, ne_eq, Nat.reduceEqDiff, Nat.reduceDiv, Nat.reduceMul, Nat.reduceAdd, not_false_eq_true]
  · simp only [tI_N, tI_uP, tI_uR, tP_uI, tP_uR, tR_uI, tR_uP, tR_uN, tN_uI, tN_uP, tN_uR, tN_uN, tJ_uI, tJ_uP, tJ_uR, tJ_N, tA_uI, tA_uP, tA_uR, tA_uN, tB_uI, tB_uP, tB_uR, tB_uN, tI_s, tI_o, tP_s, tP_o, tI_Ns, tP_Ns, ne_eq, Nat.reduceEqDiff, Nat.reduceDiv, Nat.reduceMul, Nat.reduceAdd, not_false_eq_true]
theorem fil_qo (T : CT) (F q k N : Nat) (d t : Int32) {i : Nat} (h : i ≠ q) : tI (y_fil T F q k N d t) 301 i = tI T 301 i ∧ tI (y_fil T F q k N d t) 302 i = tI T 302 i ∧ tP (y_fil T F q k N d t) 303 i = tP T 303 i := by
  unfold y_fil
  refine ⟨?_, ?_, ?_⟩
  · rw [tI_i h]; simp only [tI_N, tI_uP, tI_uR, tP_uI, tP_uR, tR_uI, tR_uP, tR_uN, tN_uI, tN_uP, tN_uR, tN_uN, tJ_uI, tJ_uP, tJ_uR, tJ_N, tA_uI, tA_uP, tA_uR, tA_uN, tB_uI, tB_uP, tB_uR, tB_uN, tI_s, tI_o, tP_s, tP_o, tI_Ns, tP_Ns, ne_eq, Nat.reduceEqDiff, Nat.reduceDiv, Nat.reduceMul, Nat.reduceAdd, not_false_eq_true]; rw [tI_i h]
  · rw [tI_i h]; simp only [tI_N, tI_uP, tI_uR, tP_uI, tP_uR, tR_uI, tR_uP, tR_uN, tN_uI, tN_uP, tN_uR, tN_uN, tJ_uI, tJ_uP, tJ_uR, tJ_N, tA_uI, tA_uP, tA_uR, tA_uN, tB_uI, tB_uP, tB_uR, tB_uN, tI_s, tI_o, tP_s, tP_o, tI_Ns, tP_Ns, ne_eq, Nat.reduceEqDiff, Nat.reduceDiv, Nat.reduceMul, Nat.reduceAdd, not_false_eq_true]
  · rw [tP_uI, tP_i h]; simp only [tP_N, tI_uP, tI_uR, tP_uI, tP_uR, tR_uI, tR_uP, tR_uN, tN_uI, tN_uP, tN_uR, tN_uN, tJ_uI, tJ_uP, tJ_uR, tJ_N, tA_uI, tA_uP, tA_uR, tA_uN, tB_uI, tB_uP, tB_uR, tB_uN, tI_s, tI_o, tP_s, tP_o, tI_Ns, tP_Ns, ne_eq, Nat.reduceEqDiff, Nat.reduceDiv, Nat.reduceMul, Nat.reduceAdd, not_false_eq_true]
theorem fil_ko (T : CT) (F q k N : Nat) (d t : Int32) {l : Nat} (h : l ≠ k) : tI (y_fil T F q k N d t) 815 l = tI T 815 l := by
  unfold y_fil
  simp only [tI_N, tI_uP, tI_uR, tP_uI, tP_uR, tR_uI, tR_uP, tR_uN, tN_uI, tN_uP, tN_uR, tN_uN, tJ_uI, tJ_uP, tJ_uR, tJ_N, tA_uI, tA_uP, tA_uR, tA_uN, tB_uI, tB_uP, tB_uR, tB_uN, tI_s, tI_o, tP_s, tP_o, tI_Ns, tP_Ns, ne_eq, Nat.reduceEqDiff, Nat.reduceDiv, Nat.reduceMul, Nat.reduceAdd, not_false_eq_true]; rw [tI_i h]; simp only [tI_uP, tI_uR, tP_uI, tP_uR, tR_uI, tR_uP, tR_uN, tN_uI, tN_uP, tN_uR, tN_uN, tJ_uI, tJ_uP, tJ_uR, tJ_N, tA_uI, tA_uP, tA_uR, tA_uN, tB_uI, tB_uP, tB_uR, tB_uN, tI_s, tI_o, tP_s, tP_o, tI_Ns, tP_Ns, ne_eq, Nat.reduceEqDiff, Nat.reduceDiv, Nat.reduceMul, Nat.reduceAdd, not_false_eq_true]
theorem fil_F (T : CT) (F q k N : Nat) (d t : Int32) : tP (y_fil T F q k N d t) 100 F = some k ∧ tI (y_fil T F q k N d t) 101 F = t ∧ tI (y_fil T F q k N d t) 102 F = d ∧ tI (y_fil T F q k N d t) 103 F = nI N ∧ tP (y_fil T F q k N d t) 104 F = tP T 303 q ∧ tI (y_fil T F q k N d t) 105 F = 0 := by
  unfold y_fil
  refine ⟨?_, ?_, ?_, ?_, ?_, ?_⟩ <;> simp only [tI_uP, tI_uR, tP_uI, tP_uR, tR_uI, tR_uP, tR_uN, tN_uI, tN_uP, tN_uR, tN_uN, tJ_uI, tJ_uP, tJ_uR, tJ_N, tA_uI, tA_uP, tA_uR, tA_uN, tB_uI, tB_uP, tB_uR, tB_uN, tI_s, tI_o, tP_s, tP_o, tI_Ns, tP_Ns, ne_eq, Nat.reduceEqDiff, Nat.reduceDiv, Nat.reduceMul, Nat.reduceAdd, not_false_eq_true]
theorem fil_Fo (T : CT) (F q k N : Nat) (d t : Int32) {i : Nat} (h : i ≠ F) {G : Nat} (hG : G / 100 = 1) : tI (y_fil T F q k N d t) G i = tI T G i ∧ tP (y_fil T F q k N d t) G i = tP T G i := by
  unfold y_fil
  constructor
  · rw [tI_o (by omega), tI_uP, tI_uP, tI_i h, tI_i h, tI_i h, tI_uP, tI_Ni h, tI_o (by omega), tI_o (by omega)]
  · rw [tP_uI, tP_o (by omega), tP_i h, tP_uI, tP_uI, tP_uI, tP_i h, tP_Ni h, tP_uI, tP_uI]
theorem DQ_401 {p : Nat} {v : Int32} (H : DQ (uI T 401 p v) σ n) : DQ T σ n := by
  obtain ⟨h1, h9, h5, h8, h7, h3, hv, hb⟩ := H
  have eS : ∀ f, ¬ False → σ f = σ f := fun _ _ => rfl
  have eI : ∀ F, ¬ F = 401 → tI T F = tI (uI T 401 p v) F := fun F h => (tI_of h).symm
  have eP : ∀ F, ¬ False → tP T F = tP (uI T 401 p v) F := fun _ _ => by rw [tP_uI]
  have eN : ∀ F, ¬ False → tN T F = tN (uI T 401 p v) F := fun _ _ => by rw [tN_uI]
  have eR : ∀ F, ¬ False → tR T F = tR (uI T 401 p v) F := fun _ _ => by rw [tR_uI]
  exact ⟨h1, (D9_d (fun F hF => eI F (by first | omega | exact not_false)) (fun F hF => eP F (by first | omega | exact not_false)) (fun k hk => eN k (by first | omega | exact not_false)) (fun k hk hk2 => eR k (by first | omega | exact not_false)) (by rw [eS 0 (by first | omega | exact not_false)]) h9), (fun j hj => D5_c (fun F hF _ _ => by rw [eI F (by first | omega | exact not_false)]) (fun F hF => by rw [eP F (by first | omega | exact not_false)]) (by rw [eN 15 (by first | omega | exact not_false)]) (by rw [eR 15 (by first | omega | exact not_false)]) (fun f a b _ => by rw [eS f (by first | omega | exact not_false)]) (h5 j hj)), (fun k hk => ⟨D8_c (fun F hF => by rw [eI F (by first | omega | exact not_false)]) (fun F hF => by rw [eP F (by first | omega | exact not_false)]) (fun f a b => by rw [eS f (by first | omega | exact not_false)]) (by unfold z_opens; rw [eS 13 (by first | omega | exact not_false)]) (h8 k hk).1, D8a_c (by rw [eI 814 (by first | omega | exact not_false)]) (eS 39 (by first | omega | exact not_false)) (h8 k hk).2⟩), (fun t ht => D7_c (fun F hF => by rw [eI F (by first | omega | exact not_false)]) (fun F hF => by rw [eP F (by first | omega | exact not_false)]) (fun f a b => by rw [eS f (by first | omega | exact not_false)]) (eS 2 (by first | omega | exact not_false)) (h7 t ht)), fun j i hj hi => D3_c (fun F hF => by rw [eI F (by omega)]) (by rw [eP 303 not_false]) rfl rfl rfl (h3 j i hj hi), hv, hb⟩
theorem g_fill (H : GI T σ μ n pl B E) (h512 : n 6 < 512) {k s i p : Nat} {d : Int32} (hk : k < n 8) (hs0 : s < n 5) (hi : i < z_len σ s) (h13 : σ 13 (40 * s + i) = nI k) (es25 : σ 25 k = nI s) (hp : p < 5) (ep : σ 24 k = nI p) (hd1 : 0 ≤ d.toInt) (hd2 : d.toInt ≤ 100) {σ' : SG}
    (es : σ' = up2 (up2 (up2 (up2 (up2 (up2 (up2 σ 49 0 0) 13 (40 * s + i) (-1)) 41 (n 1) (nI (40 * s + i))) 42 (n 1) (nI k)) 43 (n 1) (z_today σ)) 44 (n 1) d) 40 0 (nI (n 1 + 1))) {T6 : CT}
    (L : TL (y_tel (y_fil T (n 1) (40 * s + i) k (n 6) d (z_today σ)) (n 6) s (nI i) (some k) (z_today σ)) T6 (n 6)) :
    GI (uI T6 401 p (tI T6 401 p + 1)) σ' μ (nU (nU n 1) 6) (fun l => if l = n 1 then n 6 else pl l) B E := by
  obtain ⟨⟨h1, h9, h5, h8, h7, h3, hv, hb⟩, ⟨hd, hs⟩, hr, h4, hl, hta, htb, fa, fb, fc, fd, fe, ff, fg, fh, fi⟩ := H
  have hi40 := (z_len_i hb s).2
  have h24 : n 8 ≤ 24 := h1.2.2.2.2.2.1
  have h6 : n 5 ≤ 6 := h1.2.1
  have e40 : σ 40 0 = nI (n 1) := h1.2.2.2.2.2.2.1
  have n16 : n 1 ≤ n 6 := h1.2.2.2.2.2.2.2.1
  have q240 : 40 * s + i < 240 := by omega
  generalize hY : y_fil T (n 1) (40 * s + i) k (n 6) d (z_today σ) = Y at L
  obtain ⟨l1, l2, l3, l4, l5, l6, l7, l8, l9, l10⟩ := L
  obtain ⟨x1, x2, x3, x4⟩ := tel_x Y (n 6) s (nI i) (some k) (z_today σ)
  obtain ⟨s1, s2, s3, s4⟩ := tel_s Y (n 6) s (nI i) (some k) (z_today σ)
  have fI : ∀ G, ¬ (G = 301 ∨ G = 302 ∨ G = 815 ∨ G / 100 = 1) → tI Y G = tI T G := fun G h => by rw [← hY]; exact fil_I _ _ _ _ _ _ _ h
  have fP : ∀ G, ¬ (G = 303 ∨ G / 100 = 1) → tP Y G = tP T G := fun G h => by rw [← hY]; exact fil_P _ _ _ _ _ _ _ h
  have fx := fil_x T (n 1) (40 * s + i) k (n 6) d (z_today σ)
  have fq := fil_q T (n 1) (40 * s + i) k (n 6) d (z_today σ)
  have fF := fil_F T (n 1) (40 * s + i) k (n 6) d (z_today σ)
  have fqo : ∀ q, q ≠ 40 * s + i → tI Y 301 q = tI T 301 q ∧ tI Y 302 q = tI T 302 q ∧ tP Y 303 q = tP T 303 q := fun q h => by rw [← hY]; exact fil_qo _ _ _ _ _ _ _ h
  have fko : ∀ l, l ≠ k → tI Y 815 l = tI T 815 l := fun l h => by rw [← hY]; exact fil_ko _ _ _ _ _ _ _ h
  have fFo : ∀ l, l ≠ n 1 → ∀ G, G / 100 = 1 → tI Y G l = tI T G l ∧ tP Y G l = tP T G l := fun l h G hG => by rw [← hY]; exact fil_Fo _ _ _ _ _ _ _ h hG
  rw [hY] at fx fq fF
  -- the whole way
  have yI : ∀ G, ¬ (G = 401 ∨ G / 100 = 6 ∨ G = 1100 ∨ G = 1102) → tI (uI T6 401 p (tI T6 401 p + 1)) G = tI Y G := fun G h => by rw [tI_of (by omega), l1 G (by omega), tel_I _ _ _ _ _ _ (by omega)]
  have yP : ∀ G, ¬ (G / 100 = 6) → tP (uI T6 401 p (tI T6 401 p + 1)) G = tP Y G := fun G h => by rw [tP_uI, l2, tel_P _ _ _ _ _ _ h]
  have eI : ∀ G, ¬ (G = 301 ∨ G = 302 ∨ G = 815 ∨ G / 100 = 1 ∨ G = 401 ∨ G / 100 = 6 ∨ G = 1100 ∨ G = 1102) → tI (uI T6 401 p (tI T6 401 p + 1)) G = tI T G := fun G h => by rw [yI G (by omega), fI G (by omega)]
  have eP : ∀ G, ¬ (G = 303 ∨ G / 100 = 1 ∨ G / 100 = 6) → tP (uI T6 401 p (tI T6 401 p + 1)) G = tP T G := fun G h => by rw [yP G (by omega), fP G (by omega)]
  have eN : ∀ l, ¬ (l = 20) → tN (uI T6 401 p (tI T6 401 p + 1)) l = tN T l := fun l h => by rw [tN_uI, l3 l h, x1, fx.1]
  have eR : ∀ l, ¬ (l = 20) → tR (uI T6 401 p (tI T6 401 p + 1)) l = tR T l := fun l h => by rw [tR_uI, l4 l h, x2, fx.2.1]
  have eJ : tJ (uI T6 401 p (tI T6 401 p + 1)) = tJ T := by rw [tJ_uI, l5, x3, fx.2.2.1]
  have eA : tA (uI T6 401 p (tI T6 401 p + 1)) = tA T := by rw [tA_uI, l6, x4, fx.2.2.2]
  have eM : μ = μ := rfl
  have eS : ∀ g, ¬ (g = 13 ∨ g = 40 ∨ g = 41 ∨ g = 42 ∨ g = 43 ∨ g = 44 ∨ g = 49) → σ' g = σ g := fun g h => by rw [es, sg_o (by omega), sg_o (by omega), sg_o (by omega), sg_o (by omega), sg_o (by omega), sg_o (by omega), sg_o (by omega)]
  have s13 : σ' 13 (40 * s + i) = -1 := by rw [es]; simp only [up2_s, up2_f, ne_eq, Nat.reduceEqDiff, not_false_eq_true]
  have s13o : ∀ q, q ≠ 40 * s + i → σ' 13 q = σ 13 q := fun q h => by rw [es, up2_f _ _ _ _ (by decide), up2_f _ _ _ _ (by decide), up2_f _ _ _ _ (by decide), up2_f _ _ _ _ (by decide), up2_f _ _ _ _ (by decide), up2_i _ _ h, up2_f _ _ _ _ (by decide)]
  have s41 : σ' 41 (n 1) = nI (40 * s + i) := by rw [es]; simp only [up2_s, up2_f, ne_eq, Nat.reduceEqDiff, not_false_eq_true]
  have s42 : σ' 42 (n 1) = nI k := by rw [es]; simp only [up2_s, up2_f, ne_eq, Nat.reduceEqDiff, not_false_eq_true]
  have s43 : σ' 43 (n 1) = z_today σ := by rw [es]; simp only [up2_s, up2_f, ne_eq, Nat.reduceEqDiff, not_false_eq_true]
  have s44 : σ' 44 (n 1) = d := by rw [es]; simp only [up2_s, up2_f, ne_eq, Nat.reduceEqDiff, not_false_eq_true]
  have s40 : σ' 40 0 = nI (n 1 + 1) := by rw [es, up2_s]
  have so : ∀ g l, (g = 41 ∨ g = 42 ∨ g = 43 ∨ g = 44) → l ≠ n 1 → σ' g l = σ g l := fun g l hg h => by rw [es, up2_f _ _ _ _ (by omega), up2_i _ _ h, up2_i _ _ h, up2_i _ _ h, up2_i _ _ h, up2_f _ _ _ _ (by omega), up2_f _ _ _ _ (by omega)]
  have hlz : z_len σ' = z_len σ := z_len_c (fun j => by rw [eS 2 (by omega)])
  have n1' : nU (nU n 1) 6 1 = n 1 + 1 := by rw [nU_o _ (by decide), nU_s]
  have n6' : nU (nU n 1) 6 6 = n 6 + 1 := by rw [nU_s, nU_o _ (by decide)]
  have no : ∀ l : Nat, l < 24 → ¬ (-1 : Int32) = nI l := fun l hl => by rw [ieq, nI_toInt (by omega), show (-1 : Int32).toInt = -1 from by decide]; omega
  have tb := today_b hb
  have qe : ∀ q, q < 240 → (nI (40 * s + i) = nI q ↔ 40 * s + i = q) := fun q hq => qn_eq (by omega) (by omega)
  have c41 : ∀ x : Int32, ∀ m, m ≤ n 1 → cN (fun l => σ' 41 l = x) m = cN (fun l => σ 41 l = x) m := fun x m hm => cN_cong m (fun l hl => by rw [so 41 l (by omega) (by omega)])
  have o41 : ∀ x : Int32, ∀ m, m ≤ n 1 → lastO (fun l => σ' 41 l = x) m = lastO (fun l => σ 41 l = x) m := fun x m hm => lastO_c m (fun l hl => by rw [so 41 l (by omega) (by omega)])
  refine ⟨⟨?_, (D9_d (fun F hF => eI F (by first | omega | exact not_false)) (fun F hF => eP F (by first | omega | exact not_false)) (fun k hk => eN k (by first | omega | exact not_false)) (fun k hk hk2 => eR k (by first | omega | exact not_false)) (by rw [eS 0 (by first | omega | exact not_false)]) h9), (fun j hj => D5_c (fun F hF _ _ => by rw [eI F (by first | omega | exact not_false)]) (fun F hF => by rw [eP F (by first | omega | exact not_false)]) (by rw [eN 15 (by first | omega | exact not_false)]) (by rw [eR 15 (by first | omega | exact not_false)]) (fun f a b _ => by rw [eS f (by first | omega | exact not_false)]) (h5 j hj)), ?_, (fun t ht => D7_c (fun F hF => by rw [eI F (by first | omega | exact not_false)]) (fun F hF => by rw [eP F (by first | omega | exact not_false)]) (fun f a b => by rw [eS f (by first | omega | exact not_false)]) (eS 2 (by first | omega | exact not_false)) (h7 t ht)), ?_, ?_, ?_⟩, ⟨?_, ?_⟩, (DR_c (fun f hf => eS f (by first | omega | exact not_false)) hr), ?_, (DL_c (eI 201 (by first | omega | exact not_false)) (eP 200 (by first | omega | exact not_false)) (eN 12 (by first | omega | exact not_false)) eA eM hl), ?_, ?_, (FRa_c (fun f hf => eS f (by first | omega | exact not_false)) fa), (FRb_c (eS 2 (by first | omega | exact not_false)) (eS 12 (by first | omega | exact not_false)) fb), (FRc_c (eS 20 (by first | omega | exact not_false)) fc), (FRd_c (fun f hf => eS f (by first | omega | exact not_false)) fd), ?_, (FRf_c (eS 39 (by first | omega | exact not_false)) ff), ?_, ?_, (FRi_c (eS 46 (by first | omega | exact not_false)) fi)⟩
  · obtain ⟨a1, a2, a3, a4, a5, a6, a7, a8, a9⟩ := h1
    unfold DN
    rw [eS 1 (by omega), eS 14 (by omega), eS 23 (by omega), s40, n1', n6']
    exact ⟨a1, a2, a3, a4, a5, a6, rfl, by omega, by omega⟩
  · intro l hl2
    replace hl2 : l < n 8 := hl2
    refine ⟨?_, D8a_c (by rw [eI 814 (by omega)]) (eS 39 (by omega)) (h8 l hl2).2⟩
    by_cases e : l = k
    · subst e
      have ho : z_opens σ (nI l) = z_opens σ' (nI l) + 1 := by
        unfold z_opens
        rw [cN_up (P := fun q => σ' 13 q = nI l) (Q := fun q => σ 13 q = nI l) (q := 40 * s + i) 240 (fun q hq => by rw [s13o q hq]) (by rw [s13]; exact no l (by omega)) h13, iT_T q240]
      have hz := opens_le σ (nI l)
      have e815 : tI (uI T6 401 p (tI T6 401 p + 1)) 815 l = nI (z_opens σ' (nI l)) := by
        rw [yI 815 (by omega), fq.2.2.2, (h8 l hl2).1.2.2.2.2.2.2.2.2.2.2.2.2.2.2.1, ho]
        rw [ieq, tsub, nI_toInt (by omega), nI_toInt (by omega), show (1 : Int32).toInt = 1 from by decide]; omega
      obtain ⟨d0, d1, d2, d3, d4, d5, d6, d7, d8, d9, d10, d11, d12, d13, d15, d16, d17⟩ := (h8 l hl2).1
      unfold D8 z_last at *
      rw [e815, eS 24 (by omega), eS 25 (by omega), eS 26 (by omega), eS 27 (by omega), eS 28 (by omega), eS 29 (by omega), eS 30 (by omega), eS 31 (by omega), eS 32 (by omega), eS 33 (by omega), eS 34 (by omega), eS 35 (by omega), eS 36 (by omega), eS 37 (by omega), eS 38 (by omega),
        eI 800 (by omega), eI 801 (by omega), eP 802 (by omega), eI 803 (by omega), eI 804 (by omega), eI 805 (by omega), eI 806 (by omega), eI 807 (by omega), eI 808 (by omega), eI 809 (by omega), eI 810 (by omega), eI 811 (by omega), eI 812 (by omega), eI 813 (by omega), eI 816 (by omega), eI 817 (by omega)]
      exact ⟨d0, d1, d2, d3, d4, d5, d6, d7, d8, d9, d10, d11, d12, d13, rfl, d16, d17⟩
    · refine D8_c (T := T) (fun F hF => ?_) (fun F hF => by rw [eP F (by omega)]) (fun f a b => by rw [eS f (by omega)]) ?_ (h8 l hl2).1
      · by_cases e8 : F = 815
        · rw [e8, yI 815 (by omega)]; exact fko l e
        · rw [eI F (by omega)]
      · unfold z_opens
        refine cN_cong 240 (fun q _ => ?_)
        by_cases hq : q = 40 * s + i
        · rw [hq, s13, h13, qn_eq (by omega) (by omega)]
          exact ⟨fun z => absurd z (no l (by omega)), fun z => absurd z.symm e⟩
        · rw [s13o q hq]
  · intro j l hj hl2
    replace hj : j < n 5 := hj
    rw [hlz] at hl2
    have D := h3 j l hj hl2
    have hl40 := (z_len_i hb j).2
    rw [n1']
    by_cases e : 40 * j + l = 40 * s + i
    · rw [e] at D ⊢
      obtain ⟨d0, d1, d2, d3⟩ := D
      unfold D3
      rw [eS 12 (by omega), s13, eI 300 (by omega), yI 301 (by omega), yI 302 (by omega), yP 303 (by omega), fq.1, fq.2.1, fq.2.2.1]
      refine ⟨d0, rfl, ?_, ?_⟩
      · rw [cN_s, iT_T s41, c41 _ _ (Nat.le_refl _), d2, qn_s]
      · rw [lastO, iT_T s41]
    · obtain ⟨d0, d1, d2, d3⟩ := D
      have f0 := fqo _ e
      have ne : ¬ σ' 41 (n 1) = nI (40 * j + l) := by rw [s41, qe _ (by omega)]; exact fun z => e z.symm
      unfold D3
      rw [eS 12 (by omega), s13o _ e, eI 300 (by omega), yI 301 (by omega), yI 302 (by omega), yP 303 (by omega), f0.1, f0.2.1, f0.2.2]
      refine ⟨d0, d1, ?_, ?_⟩
      · rw [cN_s, iT_F ne, c41 _ _ (Nat.le_refl _)]; exact d2
      · rw [lastO, iT_F ne, o41 _ _ (Nat.le_refl _)]; exact d3
  · obtain ⟨v1, v2, v3, v4, v5, v6⟩ := hv
    unfold DV
    rw [hlz, eS 5 (by omega), eS 16 (by omega), eS 17 (by omega), eS 18 (by omega), eS 25 (by omega), eS 26 (by omega), eS 27 (by omega), eS 39 (by omega), n1']
    refine ⟨v1, v2, v3, fun l hl2 => ?_, fun q hq h0 => ?_, v6⟩
    · by_cases e : l = n 1
      · rw [e, s42, qn_nat (by omega)]; exact hk
      · rw [so 42 l (by omega) e]; exact v4 l (by omega)
    · by_cases e : q = 40 * s + i
      · rw [e, s13] at h0; exact absurd rfl h0
      · rw [s13o q e] at h0; exact v5 q hq h0
  · rw [es]
    refine IB_up (IB_up (IB_up (IB_up (IB_up (IB_up (v := -1) (IB_49 hb 0) 13 _ (by decide) (by decide)) 41 _ ?_ ?_) 42 _ ?_ ?_) 43 _ ?_ ?_) 44 _ ?_ ?_) 40 0 ?_ ?_
    all_goals (try rw [nI_toInt (by omega)])
    all_goals simp only [bl, bh]
    all_goals first | omega | (simp; done) | (simp; omega)
  · intro l hl2
    rw [n1'] at hl2
    by_cases e : l = n 1
    · rw [e]
      unfold D1
      dsimp only
      rw [s42, s43, s44, s41, eS 45 (by omega), fg (n 1) (Nat.le_refl _), if_pos rfl, yP 100 (by omega), yI 101 (by omega), yI 102 (by omega), yI 103 (by omega), yP 104 (by omega), yI 105 (by omega)]
      refine ⟨by rw [fF.1, qn_nat (by omega)], fF.2.1, fF.2.2.1, fF.2.2.2.1, ?_, fF.2.2.2.2.2⟩
      rw [fF.2.2.2.2.1, o41 _ _ (Nat.le_refl _)]
      exact (h3 s i hs0 hi).2.2.2
    · obtain ⟨d0, d1, d2, d3, d4, d5⟩ := hd l (by omega)
      unfold D1
      dsimp only
      rw [so 42 l (by omega) e, so 43 l (by omega) e, so 44 l (by omega) e, so 41 l (by omega) e, eS 45 (by omega), if_neg e, yP 100 (by omega), yI 101 (by omega), yI 102 (by omega), yI 103 (by omega), yP 104 (by omega), yI 105 (by omega),
        (fFo l e 100 rfl).2, (fFo l e 101 rfl).1, (fFo l e 102 rfl).1, (fFo l e 103 rfl).1, (fFo l e 104 rfl).2, (fFo l e 105 rfl).1]
      exact ⟨d0, d1, d2, d3, by rw [o41 _ _ (by omega)]; exact d4, d5⟩
  · intro j l hj hl2
    replace hj : j < n 5 := hj
    rw [n1'] at hl2
    show tI (uI T6 401 p (tI T6 401 p + 1)) 508 j ≤ nI (if l = n 1 then n 6 else pl l) ↔ σ' 7 j ≤ nI l
    rw [eI 508 (by omega), eS 7 (by omega)]
    by_cases e : l = n 1
    · rw [if_pos e, e]
      refine ⟨fun _ => by rw [← e40]; exact fh j, fun _ => ?_⟩
      rcases hta.2.2.2.2 j hj with h | ⟨x, hx, h, -⟩
      · rw [h, ile, nI_toInt (by omega), show (-1 : Int32).toInt = -1 from by decide]; omega
      · rw [h, qn_le (by omega) (by omega)]; omega
    · rw [if_neg e]
      exact hs j l hj (by omega)
  · intro w hw
    have D := h4 w hw
    rw [n1']
    unfold D4 at *
    rw [eJ, eI 402 (by omega), eI 403 (by omega), eS 46 (by omega), eS 47 (by omega)]
    refine ⟨D.1, fun hw5 => ⟨?_, (D.2 hw5).2⟩⟩
    have ec : cN (z_fb σ' (nI w)) (n 1) = cN (z_fb σ (nI w)) (n 1) := cN_cong _ (fun q hq => by
      unfold z_fb
      rw [so 42 q (by omega) (by omega), eS 24 (by omega)])
    have eF : z_fb σ' (nI w) (n 1) ↔ p = w := by
      unfold z_fb
      rw [s42, qn_nat (show k < 2147483648 by omega), eS 24 (by omega), ep, qn_eq (by omega) (by omega)]
    have e401 : tI T6 401 w = nI (cN (z_fb σ (nI w)) (n 1)) := by
      rw [l1 401 (by omega), tel_I _ _ _ _ _ _ (by decide), fI 401 (by omega)]
      exact (D.2 hw5).1
    rw [cN_s, ec]
    by_cases e : w = p
    · subst e
      rw [tI_s, e401, iT_T (eF.mpr rfl), qn_s]
    · rw [tI_i e, e401, iT_F (fun z => e (eF.mp z).symm)]
  · obtain ⟨t1, t2, t3, t4, t5⟩ := hta
    have g6I : ∀ G l, G / 100 = 6 → l ≠ n 6 → tI (uI T6 401 p (tI T6 401 p + 1)) G l = tI T G l := fun G l hG h => by rw [tI_of (by omega), l1 G (by omega), tel_Ii _ _ _ _ _ _ h, fI G (by omega)]
    have g6P : ∀ G l, G / 100 = 6 → l ≠ n 6 → tP (uI T6 401 p (tI T6 401 p + 1)) G l = tP T G l := fun G l hG h => by rw [tP_uI, l2, tel_Pi _ _ _ _ _ _ h, fP G (by omega)]
    have a600 : tP (uI T6 401 p (tI T6 401 p + 1)) 600 (n 6) = some s := by rw [tP_uI, l2]; exact s1
    have a601 : tI (uI T6 401 p (tI T6 401 p + 1)) 601 (n 6) = nI i := by rw [tI_of (by decide), l1 601 (by omega)]; exact s2
    have a602 : tP (uI T6 401 p (tI T6 401 p + 1)) 602 (n 6) = some k := by rw [tP_uI, l2]; exact s3
    have a603 : tI (uI T6 401 p (tI T6 401 p + 1)) 603 (n 6) = z_today σ := by rw [tI_of (by decide), l1 603 (by omega)]; exact s4
    unfold DTa
    rw [n1', n6']
    refine ⟨fun l hl2 => ?_, fun a b hab hb2 => ?_, fun l hl2 => ?_, fun x hx => ?_, fun j hj => ?_⟩
    · show (if l = n 1 then n 6 else pl l) < n 6 + 1
      by_cases e : l = n 1
      · rw [if_pos e]; omega
      · rw [if_neg e]; have := t1 l (by omega); omega
    · show (if a = n 1 then n 6 else pl a) < (if b = n 1 then n 6 else pl b)
      rw [if_neg (show a ≠ n 1 by omega)]
      by_cases e : b = n 1
      · rw [if_pos e]; exact t1 a (by omega)
      · rw [if_neg e]; exact t2 a b hab (by omega)
    · show _ ∧ tP _ 600 (if l = n 1 then n 6 else pl l) = _ ∧ tI _ 601 (if l = n 1 then n 6 else pl l) = _ ∧ tP _ 602 (if l = n 1 then n 6 else pl l) = _ ∧ tI _ 603 (if l = n 1 then n 6 else pl l) = _
      by_cases e : l = n 1
      · rw [if_pos e, e, s41, s42, s43, qn_nat (by omega), qn_nat (by omega), show (40 * s + i) / 40 = s by omega, show (40 * s + i) % 40 = i by omega]
        exact ⟨hs0, a600, a601, a602, a603⟩
      · have hp2 := t1 l (by omega)
        rw [if_neg e, so 41 l (by omega) e, so 42 l (by omega) e, so 43 l (by omega) e, g6P 600 _ rfl (by omega), g6I 601 _ rfl (by omega), g6P 602 _ rfl (by omega), g6I 603 _ rfl (by omega)]
        exact t3 l (by omega)
    · by_cases e : x = n 6
      · exact Or.inl ⟨n 1, by omega, by show (if n 1 = n 1 then n 6 else pl (n 1)) = x; rw [if_pos rfl, e]⟩
      · rcases t4 x (by omega) with ⟨l, hl2, h⟩ | ⟨ha, j, hj, hb2, hc⟩
        · exact Or.inl ⟨l, by omega, by show (if l = n 1 then n 6 else pl l) = x; rw [if_neg (by omega)]; exact h⟩
        · exact Or.inr ⟨by rw [g6P 602 x rfl e]; exact ha, j, hj, by rw [g6P 600 x rfl e]; exact hb2, by rw [eI 508 (by omega)]; exact hc⟩
    · rw [eI 508 (by omega)]
      rcases t5 j hj with h | ⟨x, hx, ha, hb2, hc⟩
      · exact Or.inl h
      · exact Or.inr ⟨x, by omega, ha, by rw [g6P 602 x rfl (by omega)]; exact hb2, by rw [g6P 600 x rfl (by omega)]; exact hc⟩
  · refine ⟨by rw [eP 1101 (by omega)]; exact htb.1, by rw [tI_of (by decide), n6']; exact l7, fun _ => ?_⟩
    rw [n6', tN_uI, tR_uI]
    exact ⟨l8, l9, l10⟩
  · intro q l hq hl2 h0
    by_cases e : q = 40 * s + i
    · rw [e, s13] at h0; exact absurd h0 (no l hl2)
    · rw [s13o q e] at h0; exact fe q l hq hl2 h0
  · intro l hl2
    rw [n1'] at hl2
    rw [eS 45 (by omega)]
    exact fg l (by omega)
  · intro j
    have := fh j
    rw [e40] at this
    rw [eS 7 (by omega), s40]
    rw [ile] at this ⊢
    rw [nI_toInt (by omega)] at this ⊢
    omega
end C
