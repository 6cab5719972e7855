theorem ov_K {S M : PT} (a : Nat) : gK (ov S M) a = if gK M a = 0 then gK S a else gK M a := rfl
theorem cF_ov0 {cy : Nat → Nat} {S M : PT} {a : Nat} (h : gK M a = 0) : cF cy S a = cF cy (ov S M) a := by
  refine cF_keep ?_ (fun f => ?_) (fun f => ?_) (fun f => ?_) ?_ ?_ ?_ ?_
  · exact if_pos h
  · exact if_pos h
  · exact if_pos h
  · exact if_pos h
  · exact if_pos h
  · exact if_pos h
  · exact if_pos h
  · exact if_pos h
theorem cF_ov1 {cy : Nat → Nat} {S M : PT} {a : Nat} (h : ¬ gK M a = 0) : cF cy M a = cF cy (ov S M) a := by
  refine cF_keep ?_ (fun f => ?_) (fun f => ?_) (fun f => ?_) ?_ ?_ ?_ ?_
  · exact if_neg h
  · exact if_neg h
  · exact if_neg h
  · exact if_neg h
  · exact if_neg h
  · exact if_neg h
  · exact if_neg h
  · exact if_neg h
theorem pl_i {L : List Nat} {f : Nat → va_E} {i : Nat} {q : Nat × va_E} (h : (va_pl L f)[i]? = some q) : L[i]? = some q.1 ∧ q = (q.1, f q.1) := by
  unfold va_pl at h
  rw [List.getElem?_map] at h
  cases e : L[i]? with
  | none => rw [e] at h; cases h
  | some a => rw [e] at h; cases h; exact ⟨rfl, rfl⟩
theorem pl_j {L : List Nat} {f : Nat → va_E} {i a : Nat} (h : L[i]? = some a) : (va_pl L f)[i]? = some (a, f a) := by
  unfold va_pl
  rw [List.getElem?_map, h]
  rfl
theorem D_nd {A : Nat → Prop} {L : List Nat} {f : Nat → va_E} (h : va_D A (va_pl L f)) : L.Nodup := by
  refine List.pairwise_iff_getElem.mpr (fun i j hi hj hij e => ?_)
  have h1 : L[i]? = some L[i] := List.getElem?_eq_getElem hi
  have h2 : L[j]? = some L[j] := List.getElem?_eq_getElem hj
  have := h.1 i j _ _ (pl_j h1) (pl_j h2) e
  omega
theorem D_mk {A : Nat → Prop} {L : List Nat} {f : Nat → va_E} (hn : L.Nodup) (hA : ∀ a, a ∈ L → A a) : va_D A (va_pl L f) := by
  refine ⟨fun i j p q hp hq e => ?_, fun k q hk => hA _ (List.mem_of_getElem? (pl_i hk).1)⟩
  have h1 := (pl_i hp).1
  have h2 := (pl_i hq).1
  rw [← e] at h2
  exact (List.getElem?_inj (List.getElem?_eq_some_iff.mp h1).1 hn).mp (h1.trans h2.symm)
theorem D_A {A : Nat → Prop} {L : List Nat} {f : Nat → va_E} (h : va_D A (va_pl L f)) {a : Nat} (ha : a ∈ L) : A a := by
  obtain ⟨k, hk⟩ := va_pl_get (X := []) (f := f) ha
  exact h.2 k _ hk
theorem P_sub {D : va_G} {cl : List vw_C} {L L1 : List Nat} {f f1 : Nat → va_E} {H : Heap} (h : va_P D cl (va_pl L f) H) (hs : ∀ a, a ∈ L1 → a ∈ L ∧ f1 a = f a) : va_P D cl (va_pl L1 f1) H := fun k q hk => by
  obtain ⟨h1, h2⟩ := pl_i hk
  obtain ⟨ha, hf⟩ := hs q.1 (List.mem_of_getElem? h1)
  obtain ⟨k2, hk2⟩ := va_pl_get (X := []) (f := f) ha
  have := h k2 _ hk2
  rw [h2, hf]
  exact this
theorem dis_of {S M : PT} {L1 L2 : List Nat} (h1 : dm S L1) (h2 : dm M L2) (hx : ∀ a, a ∈ L1 → a ∉ L2) : dis S M := fun a hM => by
  by_cases h : gK S a = 0
  · exact h
  · exact absurd ((h2 a).mpr hM) (hx a ((h1 a).mpr h))
/-- what a call on one pool leaves of the other -/
theorem other {cy : Nat → Nat} {D : va_G} {S1 S2 : PT} {L1 L2 : List Nat} {H H1 : Heap} (hP2 : va_P D vwCl (va_pl L2 (cF cy S2)) H) (hx : ∀ a, a ∈ L1 → a ∉ L2) (hk : ∀ q : Nat, q < H.size → ¬ fA cy S1 L1 H.size q → H1[q]? = H[q]?) : va_P D vwCl (va_pl L2 (cF cy S2)) H1 := by
  refine hP2.kept (fun k q hq => ?_)
  have hl := (hP2 k q hq).lt
  refine hk q.1 hl (fun h => ?_)
  have hm : q.1 ∈ L2 := by
    have := List.mem_of_getElem? hq
    obtain ⟨a, ha, rfl⟩ := List.mem_map.mp this
    exact ha
  rcases h with ⟨k2, e, h⟩ | h
  · have := List.mem_of_getElem? h
    obtain ⟨a, ha, he⟩ := List.mem_map.mp this
    have : a = q.1 := congrArg Prod.fst he
    exact hx a ha (this ▸ hm)
  · omega
theorem apart2 {cy : Nat → Nat} {D : va_G} {S1 S1' S2 : PT} {L1 L1' L2 : List Nat} {H : Heap} (hP2 : va_P D vwCl (va_pl L2 (cF cy S2)) H) (hx : ∀ a, a ∈ L1 → a ∉ L2) (hD : va_D (fA cy S1 L1 H.size) (va_pl L1' (cF cy S1'))) : ∀ a, a ∈ L1' → a ∉ L2 := fun a ha h2 => by
  obtain ⟨k, hk⟩ := va_pl_get (X := []) (f := cF cy S1') ha
  have h := hD.2 k _ hk
  rcases h with ⟨k2, e, h⟩ | h
  · have := List.mem_of_getElem? h
    obtain ⟨b, hb, he⟩ := List.mem_map.mp this
    have : b = a := congrArg Prod.fst he
    exact hx b hb (this ▸ h2)
  · obtain ⟨k3, hk3⟩ := va_pl_get (X := []) (f := cF cy S2) h2
    have := (hP2 k3 _ hk3).lt
    exact absurd this (by show ¬ a < H.size; omega)
section GO
variable {p : Program} {l : Launch} {e : Env} {R : Room} {s : State} {m : MethodId} {args : Array Value} {below : List Frame} {meth : Method} {c : Code} {D : va_G} {cy : Nat → Nat} {A : Nat → Prop}  {nL : Nat} {Q : State → Prop} {S : PT} {cells slots pc : Nat} {lv : List (Nat × Value)} {rest : List Value} {cc : ByteArray} {Ts : List Cond} {own : String} {c0 : Cond}
theorem ov_in {M : PT} (hd : dis S M) (k : ∀ (L1 L2 : List Nat) (H : Heap) (locs : List Loc) (ls : Array Slot), dm S L1 → dm M L2 → va_P D vwCl (va_pl L1 (cF cy S)) H → va_P D vwCl (va_pl L2 (cF cy M)) H → (va_D A (va_pl L1 (cF cy S)) ∧ va_D A (va_pl L2 (cF cy M)) ∧ ∀ a, a ∈ L1 → a ∉ L2) → va_S A s.heap H locs → lv_has ls nL lv → W p l e R s m args below meth c H locs cells slots Q (F0 m pc ls rest)) : G p l e R s m args below meth c D cy A s.heap nL Q (ov S M) cells slots pc lv rest := by
  intro L H locs ls a1 a2 a3 a4 a5
  have hn := D_nd a3
  have m1 : ∀ a, a ∈ L.filter (fun a => decide (gK S a ≠ 0)) ↔ gK S a ≠ 0 := fun a => by
    rw [List.mem_filter, a1 a, ov_K]
    constructor
    · intro h; simpa using h.2
    · intro h
      have hM : gK M a = 0 := by
        by_cases z : gK M a = 0
        · exact z
        · exact absurd (hd a z) h
      rw [if_pos hM]
      exact ⟨h, by simpa using h⟩
  have m2 : ∀ a, a ∈ L.filter (fun a => decide (gK M a ≠ 0)) ↔ gK M a ≠ 0 := fun a => by
    rw [List.mem_filter, a1 a, ov_K]
    constructor
    · intro h; simpa using h.2
    · intro h
      rw [if_neg h]
      exact ⟨h, by simpa using h⟩
  refine k (L.filter (fun a => decide (gK S a ≠ 0))) (L.filter (fun a => decide (gK M a ≠ 0))) H locs ls m1 m2 (P_sub a2 (fun a ha => ⟨(List.mem_filter.mp ha).1, ?_⟩)) (P_sub a2 (fun a ha => ⟨(List.mem_filter.mp ha).1, cF_ov1 ((m2 a).mp ha)⟩)) ⟨D_mk (hn.filter _) (fun a ha => D_A a3 (List.mem_filter.mp ha).1), D_mk (hn.filter _) (fun a ha => D_A a3 (List.mem_filter.mp ha).1), fun a h1 h2 => (m1 a).mp h1 (hd a ((m2 a).mp h2))⟩ a4 a5
  have h1 := (m1 a).mp ha
  exact cF_ov0 (by
    by_cases z : gK M a = 0
    · exact z
    · exact absurd (hd a z) h1)
theorem ov_out {M : PT} (k : G p l e R s m args below meth c D cy A s.heap nL Q (ov S M) cells slots pc lv rest) : ∀ (L1 L2 : List Nat) (H : Heap) (locs : List Loc) (ls : Array Slot), dm S L1 → dm M L2 → va_P D vwCl (va_pl L1 (cF cy S)) H → va_P D vwCl (va_pl L2 (cF cy M)) H → (va_D A (va_pl L1 (cF cy S)) ∧ va_D A (va_pl L2 (cF cy M)) ∧ ∀ a, a ∈ L1 → a ∉ L2) → va_S A s.heap H locs → lv_has ls nL lv → W p l e R s m args below meth c H locs cells slots Q (F0 m pc ls rest) := by
  intro L1 L2 H locs ls b1 b2 b3 b4 b5 a4 a5
  have hd := dis_of b1 b2 b5.2.2
  have e0 : ∀ a, a ∈ L1 → gK M a = 0 := fun a ha => by
    by_cases z : gK M a = 0
    · exact z
    · exact absurd (hd a z) ((b1 a).mp ha)
  have e : va_pl (L1 ++ L2) (cF cy (ov S M)) = va_pl L1 (cF cy S) ++ va_pl L2 (cF cy M) := by
    unfold va_pl
    rw [List.map_append]
    refine congr (congrArg _ ?_) ?_
    · exact List.map_congr_left (fun a ha => by rw [← cF_ov0 (e0 a ha)])
    · exact List.map_congr_left (fun a ha => by rw [← cF_ov1 ((b2 a).mp ha)])
  have n1 := D_nd b5.1
  have n2 := D_nd b5.2.1
  refine k (L1 ++ L2) H locs ls (fun a => ?_) (by rw [e]; exact b3.app b4) (D_mk (List.nodup_append.mpr ⟨n1, n2, fun a h1 b h2 hab => b5.2.2 a h1 (hab ▸ h2)⟩) (fun a ha => (List.mem_append.mp ha).elim (D_A b5.1) (D_A b5.2.1))) a4 a5
  rw [List.mem_append, ov_K, b1 a, b2 a]
  by_cases z : gK M a = 0
  · rw [if_pos z]
    exact ⟨fun h => h.elim id (fun h => absurd z h), Or.inl⟩
  · rw [if_neg z]
    exact ⟨fun _ => z, fun _ => Or.inr z⟩
theorem G_fxcalli (C : Cx p s m args meth c cc nL (c0 :: GW) own D cy A s.heap) (hZ : ZZ cy A s s.heap) {ret : Option FieldType} {b : Nat} {y : MethodName} {bytes : ByteArray} {maxL index n fr lo mc ms : Nat} {As stk : List Value} {post : Int32 → PT → Prop} {postX : String → PT → Prop} {k N : Nat} {Tf : u_T} {S0 M : PT} (hov : S = ov S0 M) (hdis : dis S0 M) (hk : gK S0 b = k) (hk1 : 1 ≤ k ∧ k ≤ 11) (hc : vwCl[ck k]? = some (y.cls, Tf, N)) (hlink : Cond.methodLink own index y ∈ GW) (hinst : Cond.instanceMethod y ∈ GW) (hsel : Cond.selects y.cls y y ∈ GW) (hini9 : Cond.initialized y.cls ∈ GW) (hcode : Cond.code y bytes maxL ret ∈ GW) (hy : y.cls ≠ "java/lang/invoke/MethodHandle" ∧ y.cls ≠ "java/lang/invoke/VarHandle" ∧ (parseMethodDescriptor y.desc).map (fun d => d.parameters.length) = some n) (hR : fr + 1 ≤ R.frames ∧ 8 + (maxL + 11) + lo ≤ R.locals) (hM : Xi l y (Wm y bytes maxL ret) fr lo D cy (va_rf (some b) :: As) S0 mc ms post postX) (hn : As.length = n) (hst : stk = As.reverse ++ va_rf (some b) :: rest) (hrest : (rest.map fun v => v.category).sum ≤ 8) (hdg : decode cc pc = .ok (.invokevirtual index, 3)) (hf : cells + mc ≤ R.cells ∧ slots + ms ≤ R.slots)
    (kx : ∀ (E : String) (S1 : PT), dis S1 M → postX E S1 → ∃ (pre : List ExceptionTableEntry) (x : ExceptionTableEntry) (suf : List ExceptionTableEntry) (name : String), c.exceptionTable.toList = pre ++ x :: suf ∧ (∀ z ∈ pre, z.catchType ≠ 0 ∧ ∃ nm : String, Cond.classLink own z.catchType nm ∈ c0 :: GW ∧ va_Nc E nm s) ∧ covers x pc = true ∧ x.catchType ≠ 0 ∧ Cond.classLink own x.catchType name ∈ c0 :: GW ∧ Cond.castable E name ∈ NWn ∧ ∀ q : Nat, G p l e R s m args below meth c D cy A s.heap nL Q (ov S1 M) (cells + mc) (slots + ms) x.handlerPc lv ([va_rf (some q)]))
    (kk : ∀ (r : Int32) (S1 : PT), dis S1 M → post r S1 → G p l e R s m args below meth c D cy A s.heap nL Q (ov S1 M) (cells + mc) (slots + ms) (pc + 3) lv (.int r :: rest)) : G p l e R s m args below meth c D cy A s.heap nL Q S cells slots pc lv stk := by
  subst hov
  refine ov_in hdis (fun L1 L2 H locs ls b1 b2 b3 b4 b5 a4 a5 => ?_)
  obtain ⟨q0, h0⟩ := pl_at (cy := cy) b1 (a := b) (by omega)
  rw [cF_o hk hk1.2] at h0
  refine vx_calli (vx_runV (As := As) (rest := rest) ⟨C.1, C.2.1, C.2.2.1, C.2.2.2.1, C.2.2.2.2.1⟩ (hM L1 H.size b1) (cwV n C.2.2.2.2.1 (goodV hlink hinst hsel hini9 hcode) rfl rfl rfl ⟨rfl, hy⟩ hR) ⟨preW.blind, va_recv C.2.2.2.2.2.1.1 b3 hc h0, preW.at C.2.2.2.2.2.1 hZ C.2.2.2.2.2.2.1 b3 b5.1 a4⟩ rfl hn a5.1 hst (lv_room hrest) hdg hf) a4 (fun q _ h => fA_in b5.1 a4 C.2.2.2.2.2.2.1 q h) (fA_in b5.1 a4 C.2.2.2.2.2.2.1) (fun q _ h => fA_in b5.1 a4 C.2.2.2.2.2.2.1 q h) (fun E ce q9 u t H1 locs1 ht hvm hp hB hz1 hk9 hS1 g1 g2 g3 => ?_) (fun r u t H1 locs1 ht hvm hw hB hz1 hk9 hS1 => ?_)
  · obtain ⟨hpx, hdm, hP1, hD1⟩ := hB
    rw [ht] at hP1
    have hap := apart2 b4 b5.2.2 hD1
    obtain ⟨pre, x, suf, name, e1, e2, e3, e4, e5, e6, kq⟩ := kx E u.1 (dis_of hdm b2 hap) hpx
    exact vx_catch C.2.2.2.1 pre x suf e1 (fun z hz => Or.inr ⟨(e2 z hz).1, by obtain ⟨nm, n1, n2⟩ := (e2 z hz).2; exact ⟨nm, C.2.2.2.2.1 _ n1, n2⟩⟩) e3 e4 (C.2.2.2.2.1 _ e5) (va_Nw.use (NWn_on _ e6) (C.2.2.2.2.2.1.2.1 _ e6)) g1 g2 g3 (ov_out (kq q9) u.2 L2 H1 locs1 ls hdm b2 hP1 (other b4 b5.2.2 hk9) ⟨hD1.weaken (fun k q _ h => fA_in b5.1 a4 C.2.2.2.2.2.2.1 q.1 h), b5.2.1, hap⟩ hS1 a5)
  · obtain ⟨hP1, hD1⟩ := hB
    rw [ht] at hP1
    have hap := apart2 b4 b5.2.2 hD1
    exact ov_out (kk r u.1 (dis_of hw.2 b2 hap) hw.1) u.2 L2 H1 locs1 ls hw.2 b2 hP1 (other b4 b5.2.2 hk9) ⟨hD1.weaken (fun k q _ h => fA_in b5.1 a4 C.2.2.2.2.2.2.1 q.1 h), b5.2.1, hap⟩ hS1 a5
theorem G_fxcalll (C : Cx p s m args meth c cc nL (c0 :: GW) own D cy A s.heap) (hZ : ZZ cy A s s.heap) {ret : Option FieldType} {b : Nat} {y : MethodName} {bytes : ByteArray} {maxL index n fr lo mc ms : Nat} {As stk : List Value} {post : Int64 → PT → Prop} {postX : String → PT → Prop} {k N : Nat} {Tf : u_T} {S0 M : PT} (hov : S = ov S0 M) (hdis : dis S0 M) (hk : gK S0 b = k) (hk1 : 1 ≤ k ∧ k ≤ 11) (hc : vwCl[ck k]? = some (y.cls, Tf, N)) (hlink : Cond.methodLink own index y ∈ GW) (hinst : Cond.instanceMethod y ∈ GW) (hsel : Cond.selects y.cls y y ∈ GW) (hini9 : Cond.initialized y.cls ∈ GW) (hcode : Cond.code y bytes maxL ret ∈ GW) (hy : y.cls ≠ "java/lang/invoke/MethodHandle" ∧ y.cls ≠ "java/lang/invoke/VarHandle" ∧ (parseMethodDescriptor y.desc).map (fun d => d.parameters.length) = some n) (hR : fr + 1 ≤ R.frames ∧ 8 + (maxL + 11) + lo ≤ R.locals) (hM : Xl l y (Wm y bytes maxL ret) fr lo D cy (va_rf (some b) :: As) S0 mc ms post postX) (hn : As.length = n) (hst : stk = As.reverse ++ va_rf (some b) :: rest) (hrest : (rest.map fun v => v.category).sum ≤ 8) (hdg : decode cc pc = .ok (.invokevirtual index, 3)) (hf : cells + mc ≤ R.cells ∧ slots + ms ≤ R.slots)
    (kx : ∀ (E : String) (S1 : PT), dis S1 M → postX E S1 → ∃ (pre : List ExceptionTableEntry) (x : ExceptionTableEntry) (suf : List ExceptionTableEntry) (name : String), c.exceptionTable.toList = pre ++ x :: suf ∧ (∀ z ∈ pre, z.catchType ≠ 0 ∧ ∃ nm : String, Cond.classLink own z.catchType nm ∈ c0 :: GW ∧ va_Nc E nm s) ∧ covers x pc = true ∧ x.catchType ≠ 0 ∧ Cond.classLink own x.catchType name ∈ c0 :: GW ∧ Cond.castable E name ∈ NWn ∧ ∀ q : Nat, G p l e R s m args below meth c D cy A s.heap nL Q (ov S1 M) (cells + mc) (slots + ms) x.handlerPc lv ([va_rf (some q)]))
    (kk : ∀ (r : Int64) (S1 : PT), dis S1 M → post r S1 → G p l e R s m args below meth c D cy A s.heap nL Q (ov S1 M) (cells + mc) (slots + ms) (pc + 3) lv (.long r :: rest)) : G p l e R s m args below meth c D cy A s.heap nL Q S cells slots pc lv stk := by
  subst hov
  refine ov_in hdis (fun L1 L2 H locs ls b1 b2 b3 b4 b5 a4 a5 => ?_)
  obtain ⟨q0, h0⟩ := pl_at (cy := cy) b1 (a := b) (by omega)
  rw [cF_o hk hk1.2] at h0
  refine vx_calll (vx_runV (As := As) (rest := rest) ⟨C.1, C.2.1, C.2.2.1, C.2.2.2.1, C.2.2.2.2.1⟩ (hM L1 H.size b1) (cwV n C.2.2.2.2.1 (goodV hlink hinst hsel hini9 hcode) rfl rfl rfl ⟨rfl, hy⟩ hR) ⟨preW.blind, va_recv C.2.2.2.2.2.1.1 b3 hc h0, preW.at C.2.2.2.2.2.1 hZ C.2.2.2.2.2.2.1 b3 b5.1 a4⟩ rfl hn a5.1 hst (lv_room hrest) hdg hf) a4 (fun q _ h => fA_in b5.1 a4 C.2.2.2.2.2.2.1 q h) (fA_in b5.1 a4 C.2.2.2.2.2.2.1) (fun q _ h => fA_in b5.1 a4 C.2.2.2.2.2.2.1 q h) (fun E ce q9 u t H1 locs1 ht hvm hp hB hz1 hk9 hS1 g1 g2 g3 => ?_) (fun r u t H1 locs1 ht hvm hw hB hz1 hk9 hS1 => ?_)
  · obtain ⟨hpx, hdm, hP1, hD1⟩ := hB
    rw [ht] at hP1
    have hap := apart2 b4 b5.2.2 hD1
    obtain ⟨pre, x, suf, name, e1, e2, e3, e4, e5, e6, kq⟩ := kx E u.1 (dis_of hdm b2 hap) hpx
    exact vx_catch C.2.2.2.1 pre x suf e1 (fun z hz => Or.inr ⟨(e2 z hz).1, by obtain ⟨nm, n1, n2⟩ := (e2 z hz).2; exact ⟨nm, C.2.2.2.2.1 _ n1, n2⟩⟩) e3 e4 (C.2.2.2.2.1 _ e5) (va_Nw.use (NWn_on _ e6) (C.2.2.2.2.2.1.2.1 _ e6)) g1 g2 g3 (ov_out (kq q9) u.2 L2 H1 locs1 ls hdm b2 hP1 (other b4 b5.2.2 hk9) ⟨hD1.weaken (fun k q _ h => fA_in b5.1 a4 C.2.2.2.2.2.2.1 q.1 h), b5.2.1, hap⟩ hS1 a5)
  · obtain ⟨hP1, hD1⟩ := hB
    rw [ht] at hP1
    have hap := apart2 b4 b5.2.2 hD1
    exact ov_out (kk r u.1 (dis_of hw.2 b2 hap) hw.1) u.2 L2 H1 locs1 ls hw.2 b2 hP1 (other b4 b5.2.2 hk9) ⟨hD1.weaken (fun k q _ h => fA_in b5.1 a4 C.2.2.2.2.2.2.1 q.1 h), b5.2.1, hap⟩ hS1 a5
theorem goodWS {c0 : Cond} {own : String} {index : Nat} {y : MethodName} {b : ByteArray} {n : Nat} {r : Option FieldType} {hh : List (Nat × Nat × Nat × Nat)} (h1 : Cond.methodLink own index y ∈ GW) (h2 : Cond.static y ∈ GW) (h4 : Cond.initialized y.cls ∈ GW) (h : Cond.codeWith y b n r hh ∈ GW) : GoodIn (c0 :: GW) (va_wsS own index y (Wh y b n r hh)) := fun w hw => by
  have hw' : w ∈ GW := by
    rcases List.mem_append.mp hw with hw | hw
    · simp only [List.mem_cons, List.not_mem_nil, or_false] at hw
      rcases hw with rfl | rfl | rfl
      · exact h1
      · exact h2
      · exact h4
    · rcases List.mem_cons.mp hw with rfl | hw
      · exact h
      · exact hw
  exact ⟨List.mem_cons_of_mem _ hw', good_of_word (GW_good hw')⟩
theorem G_callSWi (C : Cx p s m args meth c cc nL (c0 :: GW) own D cy A s.heap) (hZ : ZZ cy A s s.heap) {ret : Option FieldType} {hh : List (Nat × Nat × Nat × Nat)} {y : MethodName} {bytes : ByteArray} {maxL index n fr lo mc ms : Nat} {As stk : List Value} {post : Int32 → PT → Prop} (hlink : Cond.methodLink own index y ∈ GW) (hstat : Cond.static y ∈ GW) (hini : Cond.initialized y.cls ∈ GW) (hcode : Cond.codeWith y bytes maxL ret hh ∈ GW) (hy : y.cls ≠ "java/lang/invoke/MethodHandle" ∧ y.cls ≠ "java/lang/invoke/VarHandle" ∧ (parseMethodDescriptor y.desc).map (fun d => d.parameters.length) = some n) (hR : fr + 1 ≤ R.frames ∧ 8 + (maxL + 11) + lo ≤ R.locals) (hM : Mi l y (Wh y bytes maxL ret hh) fr lo D cy As S mc ms post) (hn : As.length = n) (hst : stk = As.reverse ++ rest) (hrest : (rest.map fun v => v.category).sum ≤ 8) (hdg : decode cc pc = .ok (.invokestatic index, 3)) (hf : cells + mc ≤ R.cells ∧ slots + ms ≤ R.slots) (kk : ∀ (r : Int32) (S1 : PT), post r S1 → G p l e R s m args below meth c D cy A s.heap nL Q S1 (cells + mc) (slots + ms) (pc + 3) lv (.int r :: rest)) : G p l e R s m args below meth c D cy A s.heap nL Q S cells slots pc lv stk := by
  intro L H locs ls a1 a2 a3 a4 a5
  refine va_calli (vx_runSW (As := As) (rest := rest) (hh := hh) ⟨C.1, C.2.1, C.2.2.1, C.2.2.2.1, C.2.2.2.2.1⟩ (hM L H.size a1) (vx_cwSW n C.2.2.2.2.1 (goodWS hlink hstat hini hcode) rfl rfl rfl hy hR) ⟨preW.blind, preW.at C.2.2.2.2.2.1 hZ C.2.2.2.2.2.2.1 a2 a3 a4⟩ rfl hn a5.1 hst (lv_room hrest) hdg hf) a4 (fun q _ h => fA_in a3 a4 C.2.2.2.2.2.2.1 q h) (fA_in a3 a4 C.2.2.2.2.2.2.1) (fun r u t H1 locs1 ht hvm hw hB hz1 hk9 hS1 => ?_)
  obtain ⟨hP1, hD1⟩ := hB
  rw [ht] at hP1
  exact kk r u.1 hw.1 u.2 H1 locs1 ls hw.2 hP1 (hD1.weaken (fun k q _ h => fA_in a3 a4 C.2.2.2.2.2.2.1 q.1 h)) hS1 a5
end GO
theorem X_warm {b L : Nat} {xs : Nat → Int32} {s U : State} {H : Heap} (hW : s.WarmedH U.vm) (h : va_X b L xs s H) : va_X b L xs U H := by
  obtain ⟨scr, h1, h2, h3⟩ := h
  exact ⟨scr, h1, State.isArrayOf_alike hW.alike h2, h3⟩
theorem X_calling {b L : Nat} {xs : Nat → Int32} {U : State} {H : Heap} (a : Array Value) (g : JFrame) (mk : MethodId) (h : va_X b L xs U H) : va_X b L xs (U.calling g mk a) H := by
  obtain ⟨scr, h1, h2, h3⟩ := h
  exact ⟨scr, h1, State.isArrayOf_alike (Vm.Alike.refl U.vm) h2, h3⟩
theorem X_kept {b L : Nat} {xs : Nat → Int32} {U : State} {H H1 : Heap} (h : va_X b L xs U H) (hq : H1[b]? = H[b]?) : va_X b L xs U H1 := by
  obtain ⟨scr, h1, h3⟩ := h
  exact ⟨scr, hq.trans h1, h3⟩
def preX (D : va_G) (cy : Nat → Nat) (b L : Nat) (xs : Nat → Int32) (sz : Nat) : State → Prop := fun U => preW D cy P0 [] sz U ∧ va_X b L xs U U.heap ∧ b < sz
theorem preX.blind {D : va_G} {cy : Nat → Nat} {b L : Nat} {xs : Nat → Int32} {sz : Nat} {As : List Value} : FrameBlind (va_Pc As (preX D cy b L xs sz)) := fun a U g mk q => by
  obtain ⟨q0, ⟨q1, qP, qK, qD, qZ⟩, qX, qb⟩ := q
  exact ⟨q0, ⟨q1, qP, qK.calling a g mk, qD, qZ.calling a g mk⟩, X_calling a g mk qX, qb⟩
theorem dm_P0 : dm P0 [] := fun a => ⟨fun h => absurd h (List.not_mem_nil), fun h => absurd rfl h⟩
theorem P_P0 {D : va_G} {cl : List vw_C} {f : Nat → va_E} {H : Heap} : va_P D cl (va_pl [] f) H := fun k q h => by simp [va_pl] at h
theorem D_P0 {A : Nat → Prop} {f : Nat → va_E} : va_D A (va_pl [] f) := ⟨fun i j p q h => by simp [va_pl] at h, fun k q h => by simp [va_pl] at h⟩
/-- the script's contract: nothing is written, the answer alone -/
def MX (l : Launch) (y : MethodName) (ws : List Cond) (fr lo : Nat) (D : va_G) (cy : Nat → Nat) (As : List Value) (b L : Nat) (xs : Nat → Int32) (post : Int32 → PT → Prop) : Prop := ∀ sz : Nat, Met l y ws { frames := fr, cells := 0, slots := 0, locals := lo } (va_Pc As (preX D cy b L xs sz)) (va_Qi (fun r (u : PT × List Nat) => post r u.1 ∧ dm u.1 u.2) (bw D cy (fA cy P0 [] sz)) (fA cy P0 [] sz)) 0 0 (fA cy P0 [] sz)
theorem MX_of {l : Launch} {y : MethodName} {fr lo : Nat} {D : va_G} {cy : Nat → Nat} {As : List Value} {b L : Nat} {xs : Nat → Int32} {post : Int32 → PT → Prop} {cc : ByteArray} {maxL : Nat} {ret : Option FieldType} {own : String} (hy : plainName y.cls = true) (how : y.cls = own) (hlen : (lg_sl As).length ≤ maxL) (body : ∀ (p : Program) (e : Env) (s : State) (m : MethodId) (below : List Frame) (meth : Method) (c : Code) (A : Nat → Prop), Cx p s m As.toArray meth c cc maxL (Wm y cc maxL ret) own D cy A s.heap → va_X b L xs s s.heap → b < s.heap.size → ¬ A b → meth.sig.returnType = ret → G p l e { frames := fr, cells := 0, slots := 0, locals := lo } s m As.toArray below meth c D cy A s.heap maxL (MQ below (va_Qi (fun r (u : PT × List Nat) => post r u.1 ∧ dm u.1 u.2) (bw D cy A) A) As.toArray s 0 0 A) P0 0 0 0 (lv_args 0 As) []) : MX l y (Wm y cc maxL ret) fr lo D cy As b L xs post := by
  intro sz
  refine Met.ofW (cc := cc) (maxL := maxL) (ret := ret) hy rfl ?_
  intro p e s m args below meth c s₁ B hml hv
  obtain ⟨rfl, ⟨hsz, hP, hK, hD0, hZ⟩, hX, hbl⟩ := hv
  have hts := atoms_spec (ws := Wm y cc maxL ret) B.pre
  have hown : s.vm.findClass own = some m.cls := how ▸ findClass_of_methodNamed B.named
  subst hsz
  have hA : ∀ q : Nat, s.heap.size ≤ q → fA cy P0 [] s.heap.size q := fun q h => Or.inr h
  have hbA : ¬ fA cy P0 [] s.heap.size b := fun h => by
    rcases h with ⟨k, e, h⟩ | h
    · simp [va_pl] at h
    · omega
  have hl := lv_entry As (n := maxL) hlen
  rw [lg_entry_eq]
  exact body p e s m below meth c (fA cy P0 [] s.heap.size) ⟨B.exec, B.bytes, hml, hown, hts, hK, hA, B.notSynchronized⟩ hX hbl hbA B.returns [] s.heap [] _ dm_P0 hP hD0.self va_S.rf hl
section GX9
variable {p : Program} {l : Launch} {e : Env} {R : Room} {s : State} {m : MethodId} {args : Array Value} {below : List Frame} {meth : Method} {c : Code} {D : va_G} {cy : Nat → Nat} {A : Nat → Prop}  {nL : Nat} {Q : State → Prop} {S : PT} {cells slots pc : Nat} {lv : List (Nat × Value)} {rest : List Value} {cc : ByteArray} {Ts : List Cond} {own : String} {c0 : Cond}
theorem G_sld (C : Cx p s m args meth c cc nL Ts own D cy A s.heap) {b L : Nat} {xs : Nat → Int32} {i : Int32} (hX : va_X b L xs s s.heap) (hbl : b < s.heap.size) (hbA : ¬ A b) (hin : vp_in i L) (hdg : decode cc pc = .ok (.iaload, 1)) (k : G p l e R s m args below meth c D cy A s.heap nL Q S cells slots (pc + 1) lv (.int (xs i.toNatClampNeg) :: rest)) : G p l e R s m args below meth c D cy A s.heap nL Q S cells slots pc lv (.int i :: va_rf (some b) :: rest) := fun L0 H locs ls a1 a2 a3 a4 a5 => va_sld C.1 C.2.1 hX hbl hbA a4 hin hdg (k L0 H locs ls a1 a2 a3 a4 a5)
theorem G_slen (C : Cx p s m args meth c cc nL Ts own D cy A s.heap) {b L : Nat} {xs : Nat → Int32} (hX : va_X b L xs s s.heap) (hbl : b < s.heap.size) (hbA : ¬ A b) (hdg : decode cc pc = .ok (.arraylength, 1)) (k : G p l e R s m args below meth c D cy A s.heap nL Q S cells slots (pc + 1) lv (.int (nI L) :: rest)) : G p l e R s m args below meth c D cy A s.heap nL Q S cells slots pc lv (va_rf (some b) :: rest) := fun L0 H locs ls a1 a2 a3 a4 a5 => va_slen C.1 C.2.1 hX hbl hbA a4 hdg (k L0 H locs ls a1 a2 a3 a4 a5)
theorem G_dice (C : Cx p s m args meth c cc nL (c0 :: GW) own D cy A s.heap) (hZ : ZZ cy A s s.heap) {b L : Nat} {xs : Nat → Int32} (hX : va_X b L xs s s.heap) (hbl : b < s.heap.size) (hbA : ¬ A b) {y : MethodName} {bytes : ByteArray} {maxL index n fr lo : Nat} {ret : Option FieldType} {As stk : List Value} {post : Int32 → PT → Prop} (hlink : Cond.methodLink own index y ∈ GW) (hstat : Cond.static y ∈ GW) (hini9 : Cond.initialized y.cls ∈ GW) (hcode : Cond.code y bytes maxL ret ∈ GW) (hy : y.cls ≠ "java/lang/invoke/MethodHandle" ∧ y.cls ≠ "java/lang/invoke/VarHandle" ∧ (parseMethodDescriptor y.desc).map (fun d => d.parameters.length) = some n) (hR : fr + 1 ≤ R.frames ∧ 8 + (maxL + 11) + lo ≤ R.locals) (hM : MX l y (Wm y bytes maxL ret) fr lo D cy As b L xs post) (hn : As.length = n) (hst : stk = As.reverse ++ rest) (hrest : (rest.map fun v => v.category).sum ≤ 8) (hdg : decode cc pc = .ok (.invokestatic index, 3)) (hf : cells + 0 ≤ R.cells ∧ slots + 0 ≤ R.slots) (kk : ∀ (r : Int32) (S1 : PT), post r S1 → G p l e R s m args below meth c D cy A s.heap nL Q S (cells + 0) (slots + 0) (pc + 3) lv (.int r :: rest)) : G p l e R s m args below meth c D cy A s.heap nL Q S cells slots pc lv stk := by
  intro L0 H locs ls a1 a2 a3 a4 a5
  have hin : ∀ q, fA cy P0 [] H.size q → A q := fun q h => by
    rcases h with ⟨k, e, h⟩ | h
    · simp [va_pl] at h
    · exact C.2.2.2.2.2.2.1 q (Nat.le_trans a4.1 h)
  have hpre : ∀ U : State, U.heap = H → s.WarmedH U.vm → va_Pc As (preX D cy b L xs H.size) As.toArray U := fun U hU hW =>
    ⟨rfl, ⟨by rw [hU], P_P0, C.2.2.2.2.2.1.warm hW, D_P0, by rw [hU]; exact ((hZ.kept a4.2.1).narrow hin).warm hW⟩, by rw [hU]; exact X_warm hW (X_kept hX (a4.2.1 b hbl hbA)), Nat.lt_of_lt_of_le hbl a4.1⟩
  refine va_calli (va_runS (As := As) (rest := rest) ⟨C.1, C.2.1, C.2.2.1, C.2.2.2.1, C.2.2.2.2.1⟩ (hM H.size) ⟨callB_of n C.2.2.2.2.1 (goodW hcode) rfl rfl rfl (C.2.2.2.2.1 _ (List.mem_cons_of_mem _ hini9)) (C.2.2.2.2.1 _ (List.mem_cons_of_mem _ hlink)) hy hR, C.2.2.2.2.1 _ (List.mem_cons_of_mem _ hstat)⟩ ⟨preX.blind, hpre⟩ rfl hn a5.1 hst (lv_room hrest) hdg hf) a4 (fun q _ h => hin q h) hin (fun r u t H1 locs1 ht hvm hw hB hz1 hk9 hS1 => ?_)
  refine kk r u.1 hw.1 L0 H1 locs1 ls a1 (a2.kept (fun k q hq => ?_)) a3 hS1 a5
  have hl := (a2 k q hq).lt
  refine hk9 q.1 hl (fun h => ?_)
  rcases h with ⟨k, e, h⟩ | h
  · simp [va_pl] at h
  · omega
end GX9
