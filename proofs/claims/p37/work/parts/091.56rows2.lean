def xB (D : va_G) (cy : Nat → Nat) (A : Nat → Prop) (postX : String → PT → Prop) : String → State → State → Prop := vx_X (fun _ : PT × List Nat => True) (fun E u t => postX E u.1 ∧ dm u.1 u.2 ∧ bw D cy A u t) A
def Xi (l : Launch) (y : MethodName) (ws : List Cond) (fr lo : Nat) (D : va_G) (cy : Nat → Nat) (As : List Value) (S : PT) (mc ms : Nat) (post : Int32 → PT → Prop) (postX : String → PT → Prop) : Prop := ∀ (L : List Nat) (sz : Nat), dm S L → vx_Met l y ws { frames := fr, cells := mc, slots := ms, locals := lo } (va_Pc As (preW D cy S L sz)) (va_Qi (fun r (u : PT × List Nat) => post r u.1 ∧ dm u.1 u.2) (bw D cy (fA cy S L sz)) (fA cy S L sz)) (xB D cy (fA cy S L sz) postX) mc ms (fA cy S L sz)
abbrev QXi (below : List Frame) (D : va_G) (cy : Nat → Nat) (A : Nat → Prop) (As : List Value) (s : State) (mc ms : Nat) (post : Int32 → PT → Prop) (postX : String → PT → Prop) : State → Prop := vx_MQ below (va_Qi (fun r (u : PT × List Nat) => post r u.1 ∧ dm u.1 u.2) (bw D cy A) A) (xB D cy A postX) As.toArray s mc ms A
theorem Xi_of {l : Launch} {y : MethodName} {fr lo : Nat} {D : va_G} {cy : Nat → Nat} {As : List Value} {S : PT} {mc ms : Nat} {post : Int32 → PT → Prop} {postX : String → PT → Prop} {cc : ByteArray} {maxL : Nat} {ret : Option FieldType} {own : String} (hy : plainName y.cls = true) (how : y.cls = own) (hlen : (lg_sl As).length ≤ maxL) (body : ∀ (p : Program) (e : Env) (s : State) (m : MethodId) (below : List Frame) (meth : Method) (c : Code) (A : Nat → Prop), Cx p s m As.toArray meth c cc maxL (Wm y cc maxL ret) own D cy A s.heap → ZZ cy A s s.heap → meth.sig.returnType = ret → (∀ x ∈ c.exceptionTable.toList, False) → G p l e { frames := fr, cells := mc, slots := ms, locals := lo } s m As.toArray below meth c D cy A s.heap maxL (QXi below D cy A As s mc ms post postX) S 0 0 0 (lv_args 0 As) []) : Xi l y (Wm y cc maxL ret) fr lo D cy As S mc ms post postX := by
  intro L sz hL
  refine vx_ofW (cc := cc) (maxL := maxL) (ret := ret) hy rfl ?_
  intro p e s m args below meth c s₁ B hml hx9 hv
  obtain ⟨rfl, hsz, hP, hK, hD0, hZ⟩ := hv
  have hts := atoms_spec (ws := Wm y cc maxL ret) B.pre
  have hown : s.vm.findClass own = some m.cls := how ▸ findClass_of_methodNamed B.named
  subst hsz
  have hA : ∀ q : Nat, s.heap.size ≤ q → fA cy S L s.heap.size q := fun q h => Or.inr h
  have hl := lv_entry As (n := maxL) hlen
  rw [lg_entry_eq]
  exact body p e s m below meth c (fA cy S L s.heap.size) ⟨B.exec, B.bytes, hml, hown, hts, hK, hA, B.notSynchronized⟩ hZ B.returns hx9 L s.heap [] _ hL hP hD0.self va_S.rf hl
def Xl (l : Launch) (y : MethodName) (ws : List Cond) (fr lo : Nat) (D : va_G) (cy : Nat → Nat) (As : List Value) (S : PT) (mc ms : Nat) (post : Int64 → PT → Prop) (postX : String → PT → Prop) : Prop := ∀ (L : List Nat) (sz : Nat), dm S L → vx_Met l y ws { frames := fr, cells := mc, slots := ms, locals := lo } (va_Pc As (preW D cy S L sz)) (va_Ql (fun r (u : PT × List Nat) => post r u.1 ∧ dm u.1 u.2) (bw D cy (fA cy S L sz)) (fA cy S L sz)) (xB D cy (fA cy S L sz) postX) mc ms (fA cy S L sz)
abbrev QXl (below : List Frame) (D : va_G) (cy : Nat → Nat) (A : Nat → Prop) (As : List Value) (s : State) (mc ms : Nat) (post : Int64 → PT → Prop) (postX : String → PT → Prop) : State → Prop := vx_MQ below (va_Ql (fun r (u : PT × List Nat) => post r u.1 ∧ dm u.1 u.2) (bw D cy A) A) (xB D cy A postX) As.toArray s mc ms A
theorem Xl_of {l : Launch} {y : MethodName} {fr lo : Nat} {D : va_G} {cy : Nat → Nat} {As : List Value} {S : PT} {mc ms : Nat} {post : Int64 → PT → Prop} {postX : String → PT → Prop} {cc : ByteArray} {maxL : Nat} {ret : Option FieldType} {own : String} (hy : plainName y.cls = true) (how : y.cls = own) (hlen : (lg_sl As).length ≤ maxL) (body : ∀ (p : Program) (e : Env) (s : State) (m : MethodId) (below : List Frame) (meth : Method) (c : Code) (A : Nat → Prop), Cx p s m As.toArray meth c cc maxL (Wm y cc maxL ret) own D cy A s.heap → ZZ cy A s s.heap → meth.sig.returnType = ret → (∀ x ∈ c.exceptionTable.toList, False) → G p l e { frames := fr, cells := mc, slots := ms, locals := lo } s m As.toArray below meth c D cy A s.heap maxL (QXl below D cy A As s mc ms post postX) S 0 0 0 (lv_args 0 As) []) : Xl l y (Wm y cc maxL ret) fr lo D cy As S mc ms post postX := by
  intro L sz hL
  refine vx_ofW (cc := cc) (maxL := maxL) (ret := ret) hy rfl ?_
  intro p e s m args below meth c s₁ B hml hx9 hv
  obtain ⟨rfl, hsz, hP, hK, hD0, hZ⟩ := hv
  have hts := atoms_spec (ws := Wm y cc maxL ret) B.pre
  have hown : s.vm.findClass own = some m.cls := how ▸ findClass_of_methodNamed B.named
  subst hsz
  have hA : ∀ q : Nat, s.heap.size ≤ q → fA cy S L s.heap.size q := fun q h => Or.inr h
  have hl := lv_entry As (n := maxL) hlen
  rw [lg_entry_eq]
  exact body p e s m below meth c (fA cy S L s.heap.size) ⟨B.exec, B.bytes, hml, hown, hts, hK, hA, B.notSynchronized⟩ hZ B.returns hx9 L s.heap [] _ hL hP hD0.self va_S.rf hl
section GX
variable {c0 : Cond} {p : Program} {l : Launch} {e : Env} {R : Room} {s : State} {m : MethodId} {args : Array Value} {below : List Frame} {meth : Method} {c : Code} {D : va_G} {cy : Nat → Nat} {A : Nat → Prop}  {nL : Nat} {Q : State → Prop} {S : PT} {cells slots pc : Nat} {lv : List (Nat × Value)} {rest : List Value} {cc : ByteArray} {Ts : List Cond} {own : String}
theorem G_vx {Qc : Array Value → State → Outcome → State → Prop} {XC : String → State → State → Prop} {mc ms : Nat} {free : Nat → Prop} {st : List Value} (k : G p l e R s m args below meth c D cy A s.heap nL (MQ below Qc args s mc ms free) S cells slots pc lv st) : G p l e R s m args below meth c D cy A s.heap nL (vx_MQ below Qc XC args s mc ms free) S cells slots pc lv st := fun L H locs ls a1 a2 a3 a4 a5 => vx_ret (k L H locs ls a1 a2 a3 a4 a5)
theorem at_IOOBE_g : ∀ w ∈ (vx_atS "Trenchboard" 56 "java/lang/IndexOutOfBoundsException" ["java/lang/RuntimeException", "java/lang/Exception"]).filter goodWord, w ∈ lw_tbl := by decide +kernel
theorem at_IOOBE_n : ∀ w ∈ (vx_atS "Trenchboard" 56 "java/lang/IndexOutOfBoundsException" ["java/lang/RuntimeException", "java/lang/Exception"]).filter (fun w => !goodWord w), w ∈ NWn := by decide +kernel
theorem at_IOOBE_o : ∀ w ∈ Cond.classLink "Trenchboard" 52 "java/lang/IndexOutOfBoundsException" :: Cond.initialized "java/lang/IndexOutOfBoundsException" :: vx_atS "Trenchboard" 56 "java/lang/IndexOutOfBoundsException" ["java/lang/RuntimeException", "java/lang/Exception"], vx_ot w = true := by decide +kernel
theorem at_IOOBE {args : Array Value} (hts : ∀ w ∈ c0 :: GW, w.before args s = true) (hK : KK D cy s) : ∀ w ∈ vx_atS "Trenchboard" 56 "java/lang/IndexOutOfBoundsException" ["java/lang/RuntimeException", "java/lang/Exception"], w.before args s = true := vx_hat (fun w hw => hts w (List.mem_cons_of_mem _ (mGW (at_IOOBE_g w hw) (List.mem_filter.mp hw).2))) at_IOOBE_n (fun w hw => va_Nw.use (NWn_on w hw) (hK.2.1 w hw))
theorem at_IAE_g : ∀ w ∈ (vx_atS "Trenchboard" 63 "java/lang/IllegalArgumentException" ["java/lang/RuntimeException", "java/lang/Exception"]).filter goodWord, w ∈ lw_tbl := by decide +kernel
theorem at_IAE_n : ∀ w ∈ (vx_atS "Trenchboard" 63 "java/lang/IllegalArgumentException" ["java/lang/RuntimeException", "java/lang/Exception"]).filter (fun w => !goodWord w), w ∈ NWn := by decide +kernel
theorem at_IAE_o : ∀ w ∈ Cond.classLink "Trenchboard" 59 "java/lang/IllegalArgumentException" :: Cond.initialized "java/lang/IllegalArgumentException" :: vx_atS "Trenchboard" 63 "java/lang/IllegalArgumentException" ["java/lang/RuntimeException", "java/lang/Exception"], vx_ot w = true := by decide +kernel
theorem at_IAE {args : Array Value} (hts : ∀ w ∈ c0 :: GW, w.before args s = true) (hK : KK D cy s) : ∀ w ∈ vx_atS "Trenchboard" 63 "java/lang/IllegalArgumentException" ["java/lang/RuntimeException", "java/lang/Exception"], w.before args s = true := vx_hat (fun w hw => hts w (List.mem_cons_of_mem _ (mGW (at_IAE_g w hw) (List.mem_filter.mp hw).2))) at_IAE_n (fun w hw => va_Nw.use (NWn_on w hw) (hK.2.1 w hw))
theorem at_ISE_g : ∀ w ∈ (vx_atS "Trenchboard" 72 "java/lang/IllegalStateException" ["java/lang/RuntimeException", "java/lang/Exception"]).filter goodWord, w ∈ lw_tbl := by decide +kernel
theorem at_ISE_n : ∀ w ∈ (vx_atS "Trenchboard" 72 "java/lang/IllegalStateException" ["java/lang/RuntimeException", "java/lang/Exception"]).filter (fun w => !goodWord w), w ∈ NWn := by decide +kernel
theorem at_ISE_o : ∀ w ∈ Cond.classLink "Trenchboard" 68 "java/lang/IllegalStateException" :: Cond.initialized "java/lang/IllegalStateException" :: vx_atS "Trenchboard" 72 "java/lang/IllegalStateException" ["java/lang/RuntimeException", "java/lang/Exception"], vx_ot w = true := by decide +kernel
theorem at_ISE {args : Array Value} (hts : ∀ w ∈ c0 :: GW, w.before args s = true) (hK : KK D cy s) : ∀ w ∈ vx_atS "Trenchboard" 72 "java/lang/IllegalStateException" ["java/lang/RuntimeException", "java/lang/Exception"], w.before args s = true := vx_hat (fun w hw => hts w (List.mem_cons_of_mem _ (mGW (at_ISE_g w hw) (List.mem_filter.mp hw).2))) at_ISE_n (fun w hw => va_Nw.use (NWn_on w hw) (hK.2.1 w hw))
theorem G_throw (C : Cx p s m args meth c cc nL (c0 :: GW) own D cy A s.heap) (hZ : ZZ cy A s s.heap) (hl : l.stackTraces = false) (hout : ∀ x ∈ c.exceptionTable.toList, False) {cls text : String} {ik is ic mc ms : Nat} {Qc : Array Value → State → Outcome → State → Prop} {postX : String → PT → Prop} (hown9 : own = "Trenchboard") (hcls : Bundle.fit cls = true) (hk : Cond.classLink "Trenchboard" ik cls ∈ GW) (hini : Cond.initialized cls ∈ GW) (hstr : ("Trenchboard", is, text) ∈ STRS) (hat : ∀ w ∈ vx_atS "Trenchboard" ic cls ["java/lang/RuntimeException", "java/lang/Exception"], w.before args s = true) (hgood : ∀ w ∈ Cond.classLink "Trenchboard" ik cls :: Cond.initialized cls :: vx_atS "Trenchboard" ic cls ["java/lang/RuntimeException", "java/lang/Exception"], vx_ot w = true) (d0 : decode cc pc = .ok (.new ik, 3)) (d3 : decode cc (pc + 3) = .ok (.dup, 1)) (d4 : decode cc (pc + 4) = .ok (.ldc is, 2)) (d6 : decode cc (pc + 6) = .ok (.invokespecial ic, 3)) (d9 : decode cc (pc + 9) = .ok (.athrow, 1)) (hRf : 6 ≤ R.frames) (hRl : (rest.map fun v => v.category).sum + 82 ≤ R.locals) (hc : cells + 1 ≤ mc) (hs : slots + 6 ≤ ms) (hRc : mc ≤ R.cells) (hRs : ms ≤ R.slots) (hp : postX cls S) : G p l e R s m args below meth c D cy A s.heap nL (vx_MQ below Qc (xB D cy A postX) args s mc ms A) S cells slots pc lv rest := by
  intro L H locs ls a1 a2 a3 a4 a5
  subst hown9
  obtain ⟨sa, hsa⟩ := hZ.2.2.2.2.2 _ hstr
  exact vx_throwS (own := "Trenchboard") (names := ["java/lang/RuntimeException", "java/lang/Exception"]) C.1 C.2.1 hl C.2.2.2.1 hcls (by decide) (C.2.2.2.2.1 _ (List.mem_cons_of_mem _ hk)) (C.2.2.2.2.1 _ (List.mem_cons_of_mem _ hini)) hsa hat hgood hZ.1 hZ.2.1 a4 (a5.1.trans C.2.2.1.symm) d0 d3 d4 d6 d9 (fun x hx => (hout x hx).elim) (by show 2 + 3 < _; omega) (by show _ + (13 * (2 + 1) + 43) ≤ _; omega) (by omega) (by omega) C.2.2.2.2.2.2.2
    (fun t hvm hz hk9 => ⟨(S, L), trivial, ⟨hp, a1, a2.kept (fun k x hx => hk9 x.1 ((a2 k x hx).lt)), a3⟩, ⟨Nat.le_trans a4.1 hz, fun q h1 h2 => (hk9 q (Nat.lt_of_lt_of_le h1 a4.1)).trans (a4.2.1 q h1 h2)⟩⟩) a4.2.2 hc hs
theorem G_throwW (C : Cx p s m args meth c cc nL (c0 :: GW) own D cy A s.heap) (hZ : ZZ cy A s s.heap) (hl : l.stackTraces = false) (hout : ∀ x ∈ c.exceptionTable.toList, False) {cls text : String} {ik is ic mc ms : Nat} {Qc : Array Value → State → Outcome → State → Prop} {postX : String → PT → Prop} (hown9 : own = "Trenchboard") (hcls : Bundle.fit cls = true) (hk : Cond.classLink "Trenchboard" ik cls ∈ GW) (hini : Cond.initialized cls ∈ GW) (hstr : ("Trenchboard", is, text) ∈ STRS) (hat : ∀ w ∈ vx_atS "Trenchboard" ic cls ["java/lang/RuntimeException", "java/lang/Exception"], w.before args s = true) (hgood : ∀ w ∈ Cond.classLink "Trenchboard" ik cls :: Cond.initialized cls :: vx_atS "Trenchboard" ic cls ["java/lang/RuntimeException", "java/lang/Exception"], vx_ot w = true) (d0 : decode cc pc = .ok (.new ik, 3)) (d3 : decode cc (pc + 3) = .ok (.dup, 1)) (d4 : decode cc (pc + 4) = .ok (.ldc_w is, 3)) (d6 : decode cc (pc + 7) = .ok (.invokespecial ic, 3)) (d9 : decode cc (pc + 10) = .ok (.athrow, 1)) (hRf : 6 ≤ R.frames) (hRl : (rest.map fun v => v.category).sum + 82 ≤ R.locals) (hc : cells + 1 ≤ mc) (hs : slots + 6 ≤ ms) (hRc : mc ≤ R.cells) (hRs : ms ≤ R.slots) (hp : postX cls S) : G p l e R s m args below meth c D cy A s.heap nL (vx_MQ below Qc (xB D cy A postX) args s mc ms A) S cells slots pc lv rest := by
  intro L H locs ls a1 a2 a3 a4 a5
  subst hown9
  obtain ⟨sa, hsa⟩ := hZ.2.2.2.2.2 _ hstr
  exact vx_throwSW (own := "Trenchboard") (names := ["java/lang/RuntimeException", "java/lang/Exception"]) C.1 C.2.1 hl C.2.2.2.1 hcls (by decide) (C.2.2.2.2.1 _ (List.mem_cons_of_mem _ hk)) (C.2.2.2.2.1 _ (List.mem_cons_of_mem _ hini)) hsa hat hgood hZ.1 hZ.2.1 a4 (a5.1.trans C.2.2.1.symm) d0 d3 d4 d6 d9 (fun x hx => (hout x hx).elim) (by show 2 + 3 < _; omega) (by show _ + (13 * (2 + 1) + 43) ≤ _; omega) (by omega) (by omega) C.2.2.2.2.2.2.2
    (fun t hvm hz hk9 => ⟨(S, L), trivial, ⟨hp, a1, a2.kept (fun k x hx => hk9 x.1 ((a2 k x hx).lt)), a3⟩, ⟨Nat.le_trans a4.1 hz, fun q h1 h2 => (hk9 q (Nat.lt_of_lt_of_le h1 a4.1)).trans (a4.2.1 q h1 h2)⟩⟩) a4.2.2 hc hs
theorem G_ne0 (C : Cx p s m args meth c cc nL (c0 :: GW) own D cy A s.heap) (hZ : ZZ cy A s s.heap) {e0 : Nat} (he : e0 = cy 9) {a : Nat} (hk : gK S a ≠ 0) (k : ¬ a = e0 → G p l e R s m args below meth c D cy A s.heap nL Q S cells slots pc lv rest) : G p l e R s m args below meth c D cy A s.heap nL Q S cells slots pc lv rest := by
  intro L H locs ls a1 a2 a3 a4 a5
  obtain ⟨q0, h0⟩ := pl_at (cy := cy) a1 (a := a) hk
  exact k (fun e => hZ.2.2.2.1.1 (by rw [← he, ← e]; exact a3.2 _ _ h0)) L H locs ls a1 a2 a3 a4 a5
theorem G_gets (C : Cx p s m args meth c cc nL (c0 :: GW) own D cy A s.heap) (hZ : ZZ cy A s s.heap) {e0 : Nat} (he : e0 = cy 9) {index : Nat} (hlink : Cond.fieldLink own index "java/util/ArrayList" "DEFAULTCAPACITY_EMPTY_ELEMENTDATA" "[Ljava/lang/Object;" ∈ GW) (hdg : decode cc pc = .ok (.getstatic index, 3)) (k : G p l e R s m args below meth c D cy A s.heap nL Q S cells slots (pc + 3) lv (va_rf (some e0) :: rest)) : G p l e R s m args below meth c D cy A s.heap nL Q S cells slots pc lv rest := fun L H locs ls a1 a2 a3 a4 a5 =>
  va_gets C.1 C.2.1 hZ.2.2.1 a4 C.2.2.2.1 (C.2.2.2.2.1 _ (List.mem_cons_of_mem _ hlink)) (fun _ h => h) hdg (by rw [← he]; exact k L H locs ls a1 a2 a3 a4 a5)
theorem G_alenE (C : Cx p s m args meth c cc nL (c0 :: GW) own D cy A s.heap) (hZ : ZZ cy A s s.heap) {e0 : Nat} (he : e0 = cy 9) {a : Nat} (h : a = e0 ∨ gK S a = 20) (hdg : decode cc pc = .ok (.arraylength, 1)) (kk : G p l e R s m args below meth c D cy A s.heap nL Q S cells slots (pc + 1) lv (.int (nI (eN e0 S a)) :: rest)) : G p l e R s m args below meth c D cy A s.heap nL Q S cells slots pc lv (va_rf (some a) :: rest) := by
  intro L H locs ls a1 a2 a3 a4 a5
  subst he
  by_cases ha : a = cy 9
  · subst ha
    have kk := kk L H locs ls a1 a2 a3 a4 a5
    rw [show eN (cy 9) S (cy 9) = 0 by simp [eN]] at kk
    obtain ⟨cell, c1, c2, c3⟩ := hZ.2.2.2.1.2
    have h9 : H[cy 9]? = some cell := (a4.2.1 (cy 9) (Array.getElem?_eq_some_iff.mp c1).1 hZ.2.2.2.1.1).trans c1
    exact W.alen C.1 C.2.1 h9 c3 (n := nI 0) (by rw [c2]; rfl) rfl rfl hdg kk
  · have kk := kk L H locs ls a1 a2 a3 a4 a5
    rw [show eN (cy 9) S a = gN S a by simp [eN, ha]] at kk
    have hk := h.resolve_left ha
    obtain ⟨q0, h0⟩ := pl_at (cy := cy) a1 (a := a) (by omega)
    rw [cF_R hk (by omega)] at h0
    exact va_alen C.1 C.2.1 C.2.2.2.2.2.1.1 a2 q0 8 h0 rfl rfl hdg kk
/-- a Telling into a row of Object -/
theorem G_aastO (C : Cx p s m args meth c cc nL (c0 :: GW) own D cy A s.heap) (hZ : ZZ cy A s s.heap) {a b : Nat} {i : Int32} (hk : gK S a = 20) (hb : gK S b = 6) (hin : vp_in i (gN S a)) (hdg : decode cc pc = .ok (.aastore, 1)) (kk : G p l e R s m args below meth c D cy A s.heap nL Q (sR S a i.toNatClampNeg (some b)) cells slots (pc + 1) lv rest) : G p l e R s m args below meth c D cy A s.heap nL Q S cells slots pc lv (va_rf (some b) :: .int i :: va_rf (some a) :: rest) := by
  intro L H locs ls a1 a2 a3 a4 a5
  obtain ⟨q0, h0⟩ := pl_at (cy := cy) a1 (a := a) (by omega)
  have h0' := h0
  rw [cF_R hk (by omega)] at h0
  obtain ⟨q1, h1⟩ := pl_at (cy := cy) a1 (a := b) (by omega)
  rw [cF_o hb (by omega)] at h1
  refine va_astqO C.1 C.2.1 C.2.2.2.2.2.1.1 a2 a3 a4 q0 8 q1 6 (r := (RX5, TX5, 4)) h0 rfl (C.2.2.2.2.2.1.2.1 (.castable "Trenchboard$Telling" "java/lang/Object") (by simp [NWn])) h1 rfl hin hdg (fun H locs b2 b3 b4 => ?_)
  rw [pl_set (S' := sR S a i.toNatClampNeg (some b)) a1 (by omega) a3 h0' (cF_setR cy _ hk (by omega) _)] at b2 b3
  exact kk L H locs ls a1 b2 b3 b4 a5
theorem G_ldcM (C : Cx p s m args meth c cc nL (c0 :: GW) own D cy A s.heap) (hZ : ZZ cy A s s.heap) {m0 : Nat} (hm : m0 = cy 10) {index : Nat} (hlink : Cond.classLink own index "[Ljava/lang/Object;" ∈ GW) (hdg : decode cc pc = .ok (.ldc index, 2)) (k : G p l e R s m args below meth c D cy A s.heap nL Q S cells slots (pc + 2) lv (va_rf (some m0) :: rest)) : G p l e R s m args below meth c D cy A s.heap nL Q S cells slots pc lv rest := fun L H locs ls a1 a2 a3 a4 a5 => va_ldcM C.1 C.2.1 C.2.2.2.1 (C.2.2.2.2.1 _ (List.mem_cons_of_mem _ hlink)) hZ.2.2.2.2.1 hdg (by rw [← hm]; exact k L H locs ls a1 a2 a3 a4 a5)
theorem arr_nm {ty : FieldType} {t0 cA : Nat} {nm : String} (hK : KK D cy s) (ht : (tyl cy)[t0]? = some (cA, ty)) (hn : "[" ++ ty.toString = nm) : s.vm.findClass nm = some cA := by
  have h := (hK.1.2 t0 _ ht).2
  subst hn
  cases ty with
  | object E => obtain ⟨_, _, _, _, _, e1⟩ := h; exact e1
  | _ => exact h
theorem rowObj {L : List Nat} {H : Heap} {a : Nat} (h : ∀ a, a ∈ L ↔ gK S a ≠ 0) (hK : KK D cy s) (hP : va_P D vwCl (va_pl L (cF cy S)) H) (hk : gK S a = 20) : ∃ cell : Cell, H[a]? = some cell ∧ cell.vm.isStatics = false ∧ s.vm.findClass "[Ljava/lang/Object;" = some cell.cls := by
  obtain ⟨q0, h0⟩ := pl_at (cy := cy) h (a := a) (by omega)
  rw [cF_R hk (by omega)] at h0
  exact ⟨_, hP q0 _ h0, rfl, arr_nm (t0 := 8) hK rfl (by decide)⟩
theorem G_getC (C : Cx p s m args meth c cc nL (c0 :: GW) own D cy A s.heap) (hZ : ZZ cy A s s.heap) {m0 : Nat} (hm : m0 = cy 10) {a index : Nat} (hk : gK S a = 20) (hlink : Cond.methodLink own index ⟨"java/lang/Object", "getClass", "()Ljava/lang/Class;"⟩ ∈ GW) (hsel : Cond.selects "[Ljava/lang/Object;" ⟨"java/lang/Object", "getClass", "()Ljava/lang/Class;"⟩ ⟨"java/lang/Object", "getClass", "()Ljava/lang/Class;"⟩ ∈ GW) (hinst : Cond.instanceMethod ⟨"java/lang/Object", "getClass", "()Ljava/lang/Class;"⟩ ∈ GW) (hnat : Cond.native ⟨"java/lang/Object", "getClass", "()Ljava/lang/Class;"⟩ ∈ GW) (hframes : 1 ≤ R.frames) (hlocals : (rest.map fun v => v.category).sum + 14 ≤ R.locals) (hdg : decode cc pc = .ok (.invokevirtual index, 3)) (k : G p l e R s m args below meth c D cy A s.heap nL Q S cells slots (pc + 3) lv (va_rf (some m0) :: rest)) : G p l e R s m args below meth c D cy A s.heap nL Q S cells slots pc lv (va_rf (some a) :: rest) := fun L H locs ls a1 a2 a3 a4 a5 =>
  va_getC C.1 C.2.1 (C.2.2.1.trans a5.1.symm) C.2.2.2.1 (C.2.2.2.2.1 _ (List.mem_cons_of_mem _ hlink)) (va_Nw.use rfl (C.2.2.2.2.2.1.2.1 (.declares ⟨"java/lang/Object", "getClass", "()Ljava/lang/Class;"⟩) (by simp [NWn]))) (C.2.2.2.2.1 _ (List.mem_cons_of_mem _ hsel)) (C.2.2.2.2.1 _ (List.mem_cons_of_mem _ hinst)) (C.2.2.2.2.1 _ (List.mem_cons_of_mem _ hnat)) hZ.2.2.2.2.1 (rowObj a1 C.2.2.2.2.2.1 a2 hk) hframes hlocals hdg (by rw [← hm]; exact k L H locs ls a1 a2 a3 a4 a5)
theorem G_castR (C : Cx p s m args meth c cc nL (c0 :: GW) own D cy A s.heap) (hZ : ZZ cy A s s.heap) {a index : Nat} (hk : gK S a = 20) (hlink : Cond.classLink own index "[Ljava/lang/Object;" ∈ GW) (hdg : decode cc pc = .ok (.checkcast index, 3)) (k : G p l e R s m args below meth c D cy A s.heap nL Q S cells slots (pc + 3) lv (va_rf (some a) :: rest)) : G p l e R s m args below meth c D cy A s.heap nL Q S cells slots pc lv (va_rf (some a) :: rest) := by
  intro L H locs ls a1 a2 a3 a4 a5
  obtain ⟨q0, h0⟩ := pl_at (cy := cy) a1 (a := a) (by omega)
  rw [cF_R hk (by omega)] at h0
  exact va_castA C.1 C.2.1 C.2.2.2.1 (C.2.2.2.2.1 _ (List.mem_cons_of_mem _ hlink)) a2 q0 h0 (arr_nm (t0 := 8) C.2.2.2.2.2.1 rfl (by decide)) hdg (k L H locs ls a1 a2 a3 a4 a5)
theorem G_castT (C : Cx p s m args meth c cc nL (c0 :: GW) own D cy A s.heap) (hZ : ZZ cy A s s.heap) {a index : Nat} (hk : gK S a = 6) (hlink : Cond.classLink own index "Trenchboard$Telling" ∈ GW) (hdg : decode cc pc = .ok (.checkcast index, 3)) (k : G p l e R s m args below meth c D cy A s.heap nL Q S cells slots (pc + 3) lv (va_rf (some a) :: rest)) : G p l e R s m args below meth c D cy A s.heap nL Q S cells slots pc lv (va_rf (some a) :: rest) := by
  intro L H locs ls a1 a2 a3 a4 a5
  obtain ⟨q0, h0⟩ := pl_at (cy := cy) a1 (a := a) (by omega)
  rw [cF_o hk (by omega)] at h0
  exact va_castS C.1 C.2.1 C.2.2.2.1 (C.2.2.2.2.1 _ (List.mem_cons_of_mem _ hlink)) (C.2.2.2.2.2.1.1.1 6 (RX5, TX5, 4) rfl).2 (va_recv (q := (RX5, TX5, 4)) C.2.2.2.2.2.1.1 a2 rfl h0) hdg (k L H locs ls a1 a2 a3 a4 a5)
theorem cF_cpA (cy : Nat → Nat) {S : PT} {a : Nat} (h : gK S a = 12) (f : Nat → Int32) : va_up (cF cy S) a (.inl (cy 0, gN S a, .inl f)) = cF cy (cpA S a f) := by
  funext b
  by_cases hb : b = a
  · subst hb
    rw [va_up_self, cF_I (S := cpA S b f) h]
    simp [cpA, gA, gN, va_up]
  · rw [va_up_ne _ _ hb]
    exact cF_keep rfl (fun _ => rfl) (fun _ => rfl) (fun _ => rfl) rfl (by simp [cpA, gA, va_up, hb]) rfl rfl
theorem cF_cpR (cy : Nat → Nat) {S : PT} {a k : Nat} (h : gK S a = k) (hk : 15 ≤ k) (f : Nat → Option Nat) : va_up (cF cy S) a (.inl (cy (k - 12), gN S a, .inr (.inr (.inr (.inr f))))) = cF cy (cpR S a f) := by
  funext b
  by_cases hb : b = a
  · subst hb
    rw [va_up_self, cF_R (k := k) (S := cpR S b f) h hk]
    simp [cpR, gR, gN, va_up]
  · rw [va_up_ne _ _ hb]
    exact cF_keep rfl (fun _ => rfl) (fun _ => rfl) (fun _ => rfl) rfl rfl rfl (by simp [cpR, gR, va_up, hb])
theorem G_copyI (C : Cx p s m args meth c cc nL (c0 :: GW) own D cy A s.heap) (hZ : ZZ cy A s s.heap) {a a0 index : Nat} {sp dp n : Int32} (hlink : Cond.methodLink own index arraycopyName ∈ GW) (hnat : Cond.native arraycopyName ∈ GW) (hstat : Cond.static arraycopyName ∈ GW) (hini : Cond.initialized "java/lang/System" ∈ GW) (hk : gK S a = 12) (hk0 : gK S a0 = 12) (h1 : ¬ sp < 0) (h2 : ¬ dp < 0) (h3 : ¬ n < 0) (h4 : sp.toNatClampNeg + n.toNatClampNeg ≤ gN S a0) (h5 : dp.toNatClampNeg + n.toNatClampNeg ≤ gN S a) (hframes : 1 ≤ R.frames) (hlocals : (rest.map fun v => v.category).sum + (nativeFrameWords "java/lang/System" "arraycopy" 5 + 11) ≤ R.locals) (hdg : decode cc pc = .ok (.invokestatic index, 3)) (kk : G p l e R s m args below meth c D cy A s.heap nL Q (cpA S a (va_cpy (gA S a0) (gA S a) sp.toNatClampNeg dp.toNatClampNeg n.toNatClampNeg)) cells slots (pc + 3) lv rest) : G p l e R s m args below meth c D cy A s.heap nL Q S cells slots pc lv (.int n :: .int dp :: va_rf (some a) :: .int sp :: va_rf (some a0) :: rest) := by
  intro L H locs ls a1 a2 a3 a4 a5
  obtain ⟨q0, g0⟩ := pl_at (cy := cy) a1 (a := a0) (by omega)
  rw [cF_I hk0] at g0
  obtain ⟨q1, g1⟩ := pl_at (cy := cy) a1 (a := a) (by omega)
  have g1' := g1
  rw [cF_I hk] at g1
  refine va_copyi (ty := .int) C.1 C.2.1 (C.2.2.1.trans a5.1.symm) C.2.2.2.1 (C.2.2.2.2.1 _ (List.mem_cons_of_mem _ hlink)) (C.2.2.2.2.1 _ (List.mem_cons_of_mem _ hnat)) (C.2.2.2.2.1 _ (List.mem_cons_of_mem _ hstat)) (C.2.2.2.2.1 _ (List.mem_cons_of_mem _ hini)) C.2.2.2.2.2.1.1 a2 a3 a4 q0 q1 0 0 g0 g1 rfl rfl rfl h1 h2 h3 h4 h5 (fun i hi => rfl) hframes hlocals hdg (fun H locs b2 b3 b4 => ?_)
  rw [pl_set (S' := cpA S a (va_cpy (gA S a0) (gA S a) sp.toNatClampNeg dp.toNatClampNeg n.toNatClampNeg)) a1 (by omega) a3 g1' (cF_cpA cy hk _)] at b2 b3
  exact kk L H locs ls a1 b2 b3 b4 a5
theorem G_copyR (C : Cx p s m args meth c cc nL (c0 :: GW) own D cy A s.heap) (hZ : ZZ cy A s s.heap) {a a0 index : Nat} {sp dp n : Int32} (hlink : Cond.methodLink own index arraycopyName ∈ GW) (hnat : Cond.native arraycopyName ∈ GW) (hstat : Cond.static arraycopyName ∈ GW) (hini : Cond.initialized "java/lang/System" ∈ GW) (hk : gK S a = 20) (hk0 : gK S a0 = 20) (h1 : ¬ sp < 0) (h2 : ¬ dp < 0) (h3 : ¬ n < 0) (h4 : sp.toNatClampNeg + n.toNatClampNeg ≤ gN S a0) (h5 : dp.toNatClampNeg + n.toNatClampNeg ≤ gN S a) (hel : ∀ i : Nat, i < n.toNatClampNeg → ∀ y : Nat, gR S a0 (sp.toNatClampNeg + i) = some y → gK S y = 6) (hframes : 1 ≤ R.frames) (hlocals : (rest.map fun v => v.category).sum + (nativeFrameWords "java/lang/System" "arraycopy" 5 + 11) ≤ R.locals) (hdg : decode cc pc = .ok (.invokestatic index, 3)) (kk : G p l e R s m args below meth c D cy A s.heap nL Q (cpR S a (va_cpy (gR S a0) (gR S a) sp.toNatClampNeg dp.toNatClampNeg n.toNatClampNeg)) cells slots (pc + 3) lv rest) : G p l e R s m args below meth c D cy A s.heap nL Q S cells slots pc lv (.int n :: .int dp :: va_rf (some a) :: .int sp :: va_rf (some a0) :: rest) := by
  intro L H locs ls a1 a2 a3 a4 a5
  obtain ⟨q0, g0⟩ := pl_at (cy := cy) a1 (a := a0) (by omega)
  rw [cF_R hk0 (by omega)] at g0
  obtain ⟨q1, g1⟩ := pl_at (cy := cy) a1 (a := a) (by omega)
  have g1' := g1
  rw [cF_R hk (by omega)] at g1
  have hcas : (Cond.castable "Trenchboard$Telling" "java/lang/Object").before #[] s = true := va_Nw.use rfl (C.2.2.2.2.2.1.2.1 (.castable "Trenchboard$Telling" "java/lang/Object") (by simp [NWn]))
  refine va_copyq (C := "Trenchboard$Telling") (E0 := "java/lang/Object") (E1 := "java/lang/Object") C.1 C.2.1 (C.2.2.1.trans a5.1.symm) C.2.2.2.1 (C.2.2.2.2.1 _ (List.mem_cons_of_mem _ hlink)) (C.2.2.2.2.1 _ (List.mem_cons_of_mem _ hnat)) (C.2.2.2.2.1 _ (List.mem_cons_of_mem _ hstat)) (C.2.2.2.2.1 _ (List.mem_cons_of_mem _ hini)) C.2.2.2.2.2.1.1 a2 a3 a4 q0 q1 8 8 g0 g1 rfl rfl h1 h2 h3 h4 h5 (fun i hi y hy => ?_) (fun comp c9 e1 e2 => ?_) hframes hlocals hdg (fun H locs b2 b3 b4 => ?_)
  · have hy6 := hel i hi y hy
    obtain ⟨q2, g2⟩ := pl_at (cy := cy) a1 (a := y) (by omega)
    rw [cF_o hy6 (by omega)] at g2
    exact va_recv (q := (RX5, TX5, 4)) C.2.2.2.2.2.1.1 a2 rfl g2
  · obtain ⟨c3, c4, hc3, hc4, hasg⟩ := Cond.castable_spec hcas
    cases Option.some.inj (hc3.symm.trans e2)
    cases Option.some.inj (hc4.symm.trans e1)
    exact hasg
  · rw [pl_set (S' := cpR S a (va_cpy (gR S a0) (gR S a) sp.toNatClampNeg dp.toNatClampNeg n.toNatClampNeg)) a1 (by omega) a3 g1' (cF_cpR cy hk (by omega) _)] at b2 b3
    exact kk L H locs ls a1 b2 b3 b4 a5
theorem G_rf4 {r r1 : Option Nat} {v1 v2 v3 v4 : Value} (hr : r = r1) (k : G p l e R s m args below meth c D cy A s.heap nL Q S cells slots pc lv (v1 :: v2 :: v3 :: v4 :: va_rf r1 :: rest)) : G p l e R s m args below meth c D cy A s.heap nL Q S cells slots pc lv (v1 :: v2 :: v3 :: v4 :: va_rf r :: rest) := hr ▸ k
theorem G_get2 (C : Cx p s m args meth c cc nL Ts own D cy A s.heap) {CC ref : String} {Tf : u_T} {N k i a index : Nat} {v : Value} (hk : gK S a = k) (hk1 : 1 ≤ k ∧ k ≤ 11) (hc : vwCl[ck k]? = some (CC, Tf, N)) (hin : ∀ w ∈ u_ws CC Tf N, w ∈ Ts) (hi : i < N) (hlink : Cond.fieldLink own index ref (Tf i).2.1 (Tf i).2.2.1 ∈ Ts) (hsf : Cond.sameField ref (Tf i).1 (Tf i).2.1 (Tf i).2.2.1 ∈ Ts) (hv : (cfl S k a 0 (lay k))[i]? = some v) (hdg : decode cc pc = .ok (.getfield index, 3)) (kk : G p l e R s m args below meth c D cy A s.heap nL Q S cells slots (pc + 3) lv (v :: rest)) : G p l e R s m args below meth c D cy A s.heap nL Q S cells slots pc lv (va_rf (some a) :: rest) := by
  intro L H locs ls a1 a2 a3 a4 a5
  obtain ⟨q0, h0⟩ := pl_at (cy := cy) a1 (a := a) (by omega)
  rw [cF_o hk hk1.2] at h0
  exact va_get C.1 C.2.1 C.2.2.2.2.1 hin C.2.2.2.1 C.2.2.2.2.2.1.1 a2 q0 h0 hc i hi (C.2.2.2.2.1 _ hlink) (fun x h => u_same (C.2.2.2.2.1 _ hsf) x h) hv hdg (kk L H locs ls a1 a2 a3 a4 a5)
theorem G_putI2 (C : Cx p s m args meth c cc nL Ts own D cy A s.heap) {CC ref : String} {Tf : u_T} {N k i f a index : Nat} {x : Int32} {ty0 : Nat → FieldType} {ty : FieldType} (hk : gK S a = k) (hk1 : 1 ≤ k ∧ k ≤ 11) (hc : vwCl[ck k]? = some (CC, Tf, N)) (hin : ∀ w ∈ u_ws CC Tf N, w ∈ Ts) (hty : ∀ k, k < N → parseFieldDescriptor (Tf k).2.2.1 = some (ty0 k)) (hnm : ∀ a, a < N → ∀ b, b < N → a ≠ b → (Tf a).2.1 ≠ (Tf b).2.1) (hi : i < N) (hlink : Cond.fieldLink own index ref (Tf i).2.1 (Tf i).2.2.1 ∈ Ts) (hsf : Cond.sameField ref (Tf i).1 (Tf i).2.1 (Tf i).2.2.1 ∈ Ts) (hfin : (Tf i).2.2.2 = false) (hd : ty0 i = ty) (hn : narrow ty (.int x) = .int x) (hfit : fits ty (.int x) = true) (ht : (lay k)[i]? = some 0) (hf : 100 * k + i = f) (hdg : decode cc pc = .ok (.putfield index, 3)) (kk : G p l e R s m args below meth c D cy A s.heap nL Q (sI S f a x) cells slots (pc + 3) lv rest) : G p l e R s m args below meth c D cy A s.heap nL Q S cells slots pc lv (.int x :: va_rf (some a) :: rest) := by
  intro L H locs ls a1 a2 a3 a4 a5
  subst hf
  subst hd
  obtain ⟨q0, h0⟩ := pl_at (cy := cy) a1 (a := a) (by omega)
  have h0' := h0
  rw [cF_o hk hk1.2] at h0
  refine va_put C.1 C.2.1 C.2.2.2.2.1 hin ty0 hty hnm C.2.2.2.1 C.2.2.2.2.2.1.1 a2 a3 a4 q0 h0 hc i hi (C.2.2.2.2.1 _ hlink) (fun x h => u_same (C.2.2.2.2.1 _ hsf) x h) hfin (hty i hi) hn hfit (by rw [cfl_len]; exact (List.getElem?_eq_some_iff.mp ht).1) hdg (fun H locs b2 b3 b4 => ?_)
  rw [pl_set (S' := sI S (100 * k + i) a x) a1 (by omega) a3 h0' (cF_setI cy hk hk1.2 x ht)] at b2 b3
  exact kk L H locs ls a1 b2 b3 b4 a5
theorem G_xcalli (C : Cx p s m args meth c cc nL (c0 :: GW) own D cy A s.heap) (hZ : ZZ cy A s s.heap) {ret : Option FieldType} {b : Nat} {y : MethodName} {bytes : ByteArray} {maxL index n fr lo mc ms : Nat} {As stk : List Value} {post : Int32 → PT → Prop} {postX : String → PT → Prop} {k N : Nat} {Tf : u_T} (hk : gK S b = k) (hk1 : 1 ≤ k ∧ k ≤ 11) (hc : vwCl[ck k]? = some (y.cls, Tf, N)) (hlink : Cond.methodLink own index y ∈ GW) (hinst : Cond.instanceMethod y ∈ GW) (hsel : Cond.selects y.cls y y ∈ GW) (hini9 : Cond.initialized y.cls ∈ GW) (hcode : Cond.code y bytes maxL ret ∈ GW) (hy : y.cls ≠ "java/lang/invoke/MethodHandle" ∧ y.cls ≠ "java/lang/invoke/VarHandle" ∧ (parseMethodDescriptor y.desc).map (fun d => d.parameters.length) = some n) (hR : fr + 1 ≤ R.frames ∧ 8 + (maxL + 11) + lo ≤ R.locals) (hM : Xi l y (Wm y bytes maxL ret) fr lo D cy (va_rf (some b) :: As) S mc ms post postX) (hn : As.length = n) (hst : stk = As.reverse ++ va_rf (some b) :: rest) (hrest : (rest.map fun v => v.category).sum ≤ 8) (hdg : decode cc pc = .ok (.invokevirtual index, 3)) (hf : cells + mc ≤ R.cells ∧ slots + ms ≤ R.slots)
    (kx : ∀ (E : String) (S1 : PT), postX E S1 → ∃ (pre : List ExceptionTableEntry) (x : ExceptionTableEntry) (suf : List ExceptionTableEntry) (name : String), c.exceptionTable.toList = pre ++ x :: suf ∧ (∀ z ∈ pre, z.catchType ≠ 0 ∧ ∃ nm : String, Cond.classLink own z.catchType nm ∈ c0 :: GW ∧ va_Nc E nm s) ∧ covers x pc = true ∧ x.catchType ≠ 0 ∧ Cond.classLink own x.catchType name ∈ c0 :: GW ∧ Cond.castable E name ∈ NWn ∧ ∀ q : Nat, G p l e R s m args below meth c D cy A s.heap nL Q S1 (cells + mc) (slots + ms) x.handlerPc lv ([va_rf (some q)]))
    (kk : ∀ (r : Int32) (S1 : PT), post r S1 → G p l e R s m args below meth c D cy A s.heap nL Q S1 (cells + mc) (slots + ms) (pc + 3) lv (.int r :: rest)) : G p l e R s m args below meth c D cy A s.heap nL Q S cells slots pc lv stk := by
  intro L H locs ls a1 a2 a3 a4 a5
  obtain ⟨q0, h0⟩ := pl_at (cy := cy) a1 (a := b) (by omega)
  rw [cF_o hk hk1.2] at h0
  refine vx_calli (vx_runV (As := As) (rest := rest) ⟨C.1, C.2.1, C.2.2.1, C.2.2.2.1, C.2.2.2.2.1⟩ (hM L H.size a1) (cwV n C.2.2.2.2.1 (goodV hlink hinst hsel hini9 hcode) rfl rfl rfl ⟨rfl, hy⟩ hR) ⟨preW.blind, va_recv C.2.2.2.2.2.1.1 a2 hc h0, preW.at C.2.2.2.2.2.1 hZ C.2.2.2.2.2.2.1 a2 a3 a4⟩ rfl hn a5.1 hst (lv_room hrest) hdg hf) a4 (fun q _ h => fA_in a3 a4 C.2.2.2.2.2.2.1 q h) (fA_in a3 a4 C.2.2.2.2.2.2.1) (fun q _ h => fA_in a3 a4 C.2.2.2.2.2.2.1 q h) (fun E ce q9 u t H1 locs1 ht hvm hp hB hz1 hk9 hS1 g1 g2 g3 => ?_) (fun r u t H1 locs1 ht hvm hw hB hz1 hk9 hS1 => ?_)
  · obtain ⟨hpx, hdm, hP1, hD1⟩ := hB
    rw [ht] at hP1
    obtain ⟨pre, x, suf, name, e1, e2, e3, e4, e5, e6, kq⟩ := kx E u.1 hpx
    exact vx_catch C.2.2.2.1 pre x suf e1 (fun z hz => Or.inr ⟨(e2 z hz).1, by obtain ⟨nm, n1, n2⟩ := (e2 z hz).2; exact ⟨nm, C.2.2.2.2.1 _ n1, n2⟩⟩) e3 e4 (C.2.2.2.2.1 _ e5) (va_Nw.use (NWn_on _ e6) (C.2.2.2.2.2.1.2.1 _ e6)) g1 g2 g3 (kq q9 u.2 H1 locs1 ls hdm hP1 (hD1.weaken (fun k q _ h => fA_in a3 a4 C.2.2.2.2.2.2.1 q.1 h)) hS1 a5)
  · obtain ⟨hP1, hD1⟩ := hB
    rw [ht] at hP1
    exact kk r u.1 hw.1 u.2 H1 locs1 ls hw.2 hP1 (hD1.weaken (fun k q _ h => fA_in a3 a4 C.2.2.2.2.2.2.1 q.1 h)) hS1 a5
theorem G_xcalll (C : Cx p s m args meth c cc nL (c0 :: GW) own D cy A s.heap) (hZ : ZZ cy A s s.heap) {ret : Option FieldType} {b : Nat} {y : MethodName} {bytes : ByteArray} {maxL index n fr lo mc ms : Nat} {As stk : List Value} {post : Int64 → PT → Prop} {postX : String → PT → Prop} {k N : Nat} {Tf : u_T} (hk : gK S b = k) (hk1 : 1 ≤ k ∧ k ≤ 11) (hc : vwCl[ck k]? = some (y.cls, Tf, N)) (hlink : Cond.methodLink own index y ∈ GW) (hinst : Cond.instanceMethod y ∈ GW) (hsel : Cond.selects y.cls y y ∈ GW) (hini9 : Cond.initialized y.cls ∈ GW) (hcode : Cond.code y bytes maxL ret ∈ GW) (hy : y.cls ≠ "java/lang/invoke/MethodHandle" ∧ y.cls ≠ "java/lang/invoke/VarHandle" ∧ (parseMethodDescriptor y.desc).map (fun d => d.parameters.length) = some n) (hR : fr + 1 ≤ R.frames ∧ 8 + (maxL + 11) + lo ≤ R.locals) (hM : Xl l y (Wm y bytes maxL ret) fr lo D cy (va_rf (some b) :: As) S mc ms post postX) (hn : As.length = n) (hst : stk = As.reverse ++ va_rf (some b) :: rest) (hrest : (rest.map fun v => v.category).sum ≤ 8) (hdg : decode cc pc = .ok (.invokevirtual index, 3)) (hf : cells + mc ≤ R.cells ∧ slots + ms ≤ R.slots)
    (kx : ∀ (E : String) (S1 : PT), postX E S1 → ∃ (pre : List ExceptionTableEntry) (x : ExceptionTableEntry) (suf : List ExceptionTableEntry) (name : String), c.exceptionTable.toList = pre ++ x :: suf ∧ (∀ z ∈ pre, z.catchType ≠ 0 ∧ ∃ nm : String, Cond.classLink own z.catchType nm ∈ c0 :: GW ∧ va_Nc E nm s) ∧ covers x pc = true ∧ x.catchType ≠ 0 ∧ Cond.classLink own x.catchType name ∈ c0 :: GW ∧ Cond.castable E name ∈ NWn ∧ ∀ q : Nat, G p l e R s m args below meth c D cy A s.heap nL Q S1 (cells + mc) (slots + ms) x.handlerPc lv ([va_rf (some q)]))
    (kk : ∀ (r : Int64) (S1 : PT), post r S1 → G p l e R s m args below meth c D cy A s.heap nL Q S1 (cells + mc) (slots + ms) (pc + 3) lv (.long r :: rest)) : G p l e R s m args below meth c D cy A s.heap nL Q S cells slots pc lv stk := by
  intro L H locs ls a1 a2 a3 a4 a5
  obtain ⟨q0, h0⟩ := pl_at (cy := cy) a1 (a := b) (by omega)
  rw [cF_o hk hk1.2] at h0
  refine vx_calll (vx_runV (As := As) (rest := rest) ⟨C.1, C.2.1, C.2.2.1, C.2.2.2.1, C.2.2.2.2.1⟩ (hM L H.size a1) (cwV n C.2.2.2.2.1 (goodV hlink hinst hsel hini9 hcode) rfl rfl rfl ⟨rfl, hy⟩ hR) ⟨preW.blind, va_recv C.2.2.2.2.2.1.1 a2 hc h0, preW.at C.2.2.2.2.2.1 hZ C.2.2.2.2.2.2.1 a2 a3 a4⟩ rfl hn a5.1 hst (lv_room hrest) hdg hf) a4 (fun q _ h => fA_in a3 a4 C.2.2.2.2.2.2.1 q h) (fA_in a3 a4 C.2.2.2.2.2.2.1) (fun q _ h => fA_in a3 a4 C.2.2.2.2.2.2.1 q h) (fun E ce q9 u t H1 locs1 ht hvm hp hB hz1 hk9 hS1 g1 g2 g3 => ?_) (fun r u t H1 locs1 ht hvm hw hB hz1 hk9 hS1 => ?_)
  · obtain ⟨hpx, hdm, hP1, hD1⟩ := hB
    rw [ht] at hP1
    obtain ⟨pre, x, suf, name, e1, e2, e3, e4, e5, e6, kq⟩ := kx E u.1 hpx
    exact vx_catch C.2.2.2.1 pre x suf e1 (fun z hz => Or.inr ⟨(e2 z hz).1, by obtain ⟨nm, n1, n2⟩ := (e2 z hz).2; exact ⟨nm, C.2.2.2.2.1 _ n1, n2⟩⟩) e3 e4 (C.2.2.2.2.1 _ e5) (va_Nw.use (NWn_on _ e6) (C.2.2.2.2.2.1.2.1 _ e6)) g1 g2 g3 (kq q9 u.2 H1 locs1 ls hdm hP1 (hD1.weaken (fun k q _ h => fA_in a3 a4 C.2.2.2.2.2.2.1 q.1 h)) hS1 a5)
  · obtain ⟨hP1, hD1⟩ := hB
    rw [ht] at hP1
    exact kk r u.1 hw.1 u.2 H1 locs1 ls hw.2 hP1 (hD1.weaken (fun k q _ h => fA_in a3 a4 C.2.2.2.2.2.2.1 q.1 h)) hS1 a5
end GX
def Wh (y : MethodName) (b : ByteArray) (n : Nat) (r : Option FieldType) (hh : List (Nat × Nat × Nat × Nat)) : List Cond := .codeWith y b n r hh :: GW
theorem goodH {c0 : Cond} {y : MethodName} {b : ByteArray} {n : Nat} {r : Option FieldType} {hh : List (Nat × Nat × Nat × Nat)} (h : Cond.codeWith y b n r hh ∈ GW) : GoodIn (c0 :: GW) (Wh y b n r hh) := fun w hw => by
  have hw' : w ∈ GW := by
    rcases List.mem_cons.mp hw with rfl | hw
    · exact h
    · exact hw
  exact ⟨List.mem_cons_of_mem _ hw', good_of_word (GW_good hw')⟩
theorem Met_ofWH {l : Launch} {y : MethodName} {ws ws' : List Cond} {rm : Room} {Pc : Array Value → State → Prop} {Qc : Array Value → State → Outcome → State → Prop} {mc ms : Nat} {free : Addr → Prop} {cc : ByteArray} {maxL : Nat} {ret : Option FieldType} {hh : List (Nat × Nat × Nat × Nat)}
    (hy : plainName y.cls = true) (hw : ws = Cond.codeWith y cc maxL ret hh :: ws')
    (body : ∀ p e s m args below meth c s₁, BodyLoose p l y (headSpec ws rm) cc maxL ret e s m args below meth c s₁ → c.maxLocals = maxL → Pc args s →
      W p l e (headSpec ws rm).room s m args below meth c s.heap [] 0 0 (MQ below Qc args s mc ms free) (entryFrame m args maxL)) : Met l y ws rm Pc Qc mc ms free := by
  refine MetFree.of_bodyS (code := cc) (maxLocals := maxL) (ret := ret) hy ?_ ?_
  · intro args s m h hn
    obtain ⟨m9, meth, c, hn9, h1, h2, h3, h4, -, h5, h6, -⟩ := Cond.codeWith_spec (atoms_spec (ws := ws) h _ (by rw [hw]; exact List.mem_cons_self))
    cases hn.symm.trans hn9
    exact ⟨meth, c, h1, h2, h3, h4, h5, h6⟩
  · intro p e s m args below meth c s₁ B hml hP _
    have hh0 : s₁.heap = s.heap := by rw [B.state]; rfl
    obtain ⟨t, a1, o, b1, b2, b3⟩ := body p e s m args below meth c s₁ B hml hP s₁ hh0 (Stand.of_body B)
    exact ⟨t, o, a1, b1, b2, ⟨b3.1, b3.2⟩⟩
theorem Mih_of {l : Launch} {y : MethodName} {fr lo : Nat} {D : va_G} {cy : Nat → Nat} {As : List Value} {S : PT} {mc ms : Nat} {post : Int32 → PT → Prop} {cc : ByteArray} {maxL : Nat} {ret : Option FieldType} {hh : List (Nat × Nat × Nat × Nat)} {own : String} (hy : plainName y.cls = true) (how : y.cls = own) (hlen : (lg_sl As).length ≤ maxL) (body : ∀ (p : Program) (e : Env) (s : State) (m : MethodId) (below : List Frame) (meth : Method) (c : Code) (A : Nat → Prop), Cx p s m As.toArray meth c cc maxL (Wh y cc maxL ret hh) own D cy A s.heap → ZZ cy A s s.heap → meth.sig.returnType = ret → c.exceptionTable.toList = tableOf hh → G p l e { frames := fr, cells := mc, slots := ms, locals := lo } s m As.toArray below meth c D cy A s.heap maxL (QMi below D cy A As s mc ms post) S 0 0 0 (lv_args 0 As) []) : Mi l y (Wh y cc maxL ret hh) fr lo D cy As S mc ms post := by
  intro L sz hL
  refine Met_ofWH (cc := cc) (maxL := maxL) (ret := ret) (hh := hh) hy rfl ?_
  intro p e s m args below meth c s₁ B hml hv
  obtain ⟨rfl, hsz, hP, hK, hD0, hZ⟩ := hv
  have hts := atoms_spec (ws := Wh y cc maxL ret hh) B.pre
  have hown : s.vm.findClass own = some m.cls := how ▸ findClass_of_methodNamed B.named
  have hT := vx_table (x := y) B (hts _ List.mem_cons_self)
  subst hsz
  have hA : ∀ q : Nat, s.heap.size ≤ q → fA cy S L s.heap.size q := fun q h => Or.inr h
  have hl := lv_entry As (n := maxL) hlen
  rw [lg_entry_eq]
  exact body p e s m below meth c (fA cy S L s.heap.size) ⟨B.exec, B.bytes, hml, hown, hts, hK, hA, B.notSynchronized⟩ hZ B.returns hT L s.heap [] _ hL hP hD0.self va_S.rf hl
theorem bo_fit {x : Int32} (h : bo x) : fits .boolean (.int x) = true := by
  have h2 := fits_narrow_boolean x
  rw [bo_nar h] at h2
  exact h2
theorem kn0 {S S1 : PT} {q k b j : Nat} (e : S1 = nO S q k) (hq : gK S q = 0) (hj : j ≠ 0) (h : gK S b = j) : gK S1 b = j := by
  subst e
  have hb : b ≠ q := fun z => hj (by rw [← h, z]; exact hq)
  simp [nO, gK, va_up, hb]; exact h
theorem kn1 {S S1 : PT} {q k : Nat} (e : S1 = nO S q k) : gK S1 q = k := by subst e; simp [nO, gK, va_up]
theorem ka0 {S S1 : PT} {q k n b j : Nat} (e : S1 = nA S q k n) (hq : gK S q = 0) (hj : j ≠ 0) (h : gK S b = j) : gK S1 b = j := by
  subst e
  have hb : b ≠ q := fun z => hj (by rw [← h, z]; exact hq)
  simp [nA, gK, va_up, hb]; exact h
theorem ka1 {S S1 : PT} {q k n : Nat} (e : S1 = nA S q k n) : gK S1 q = k := by subst e; simp [nA, gK, va_up]
theorem kcpA {S S1 : PT} {a b k : Nat} {f : Nat → Int32} (e : S1 = cpA S a f) (h : gK S b = k) : gK S1 b = k := by rw [e]; exact h
theorem kcpR {S S1 : PT} {a b k : Nat} {f : Nat → Option Nat} (e : S1 = cpR S a f) (h : gK S b = k) : gK S1 b = k := by rw [e]; exact h
theorem dv_X0 : ∀ j, j < 6 → defaultValue (tyX0 j) = vp_V [Value.null, Value.int 0, Value.int 0, Value.int 0, Value.null, Value.int 0] j := by
  intro j hj
  rcases (show j = 0 ∨ j = 1 ∨ j = 2 ∨ j = 3 ∨ j = 4 ∨ j = 5 by omega) with rfl | rfl | rfl | rfl | rfl | rfl <;> rfl
theorem dv_X1 : ∀ j, j < 2 → defaultValue (tyX1 j) = vp_V [Value.null, Value.int 0] j := by
  intro j hj
  rcases (show j = 0 ∨ j = 1 by omega) with rfl | rfl <;> rfl
theorem dv_X2 : ∀ j, j < 4 → defaultValue (tyX2 j) = vp_V [Value.int 0, Value.int 0, Value.int 0, Value.null] j := by
  intro j hj
  rcases (show j = 0 ∨ j = 1 ∨ j = 2 ∨ j = 3 by omega) with rfl | rfl | rfl | rfl <;> rfl
theorem dv_X3 : ∀ j, j < 4 → defaultValue (tyX3 j) = vp_V [Value.long 0, Value.int 0, Value.int 0, Value.int 0] j := by
  intro j hj
  rcases (show j = 0 ∨ j = 1 ∨ j = 2 ∨ j = 3 by omega) with rfl | rfl | rfl | rfl <;> rfl
theorem dv_X4 : ∀ j, j < 12 → defaultValue (tyX4 j) = vp_V [Value.int 0, Value.int 0, Value.int 0, Value.null, Value.null, Value.int 0, Value.int 0, Value.int 0, Value.int 0, Value.int 0, Value.int 0, Value.int 0] j := by
  intro j hj
  rcases (show j = 0 ∨ j = 1 ∨ j = 2 ∨ j = 3 ∨ j = 4 ∨ j = 5 ∨ j = 6 ∨ j = 7 ∨ j = 8 ∨ j = 9 ∨ j = 10 ∨ j = 11 by omega) with rfl | rfl | rfl | rfl | rfl | rfl | rfl | rfl | rfl | rfl | rfl | rfl <;> rfl
theorem dv_X5 : ∀ j, j < 4 → defaultValue (tyX5 j) = vp_V [Value.null, Value.int 0, Value.null, Value.int 0] j := by
  intro j hj
  rcases (show j = 0 ∨ j = 1 ∨ j = 2 ∨ j = 3 by omega) with rfl | rfl | rfl | rfl <;> rfl
theorem dv_X6 : ∀ j, j < 8 → defaultValue (tyX6 j) = vp_V [Value.int 0, Value.null, Value.int 0, Value.int 0, Value.int 0, Value.int 0, Value.int 0, Value.int 0] j := by
  intro j hj
  rcases (show j = 0 ∨ j = 1 ∨ j = 2 ∨ j = 3 ∨ j = 4 ∨ j = 5 ∨ j = 6 ∨ j = 7 by omega) with rfl | rfl | rfl | rfl | rfl | rfl | rfl | rfl <;> rfl
theorem dv_X7 : ∀ j, j < 18 → defaultValue (tyX7 j) = vp_V [Value.int 0, Value.int 0, Value.null, Value.int 0, Value.int 0, Value.int 0, Value.int 0, Value.int 0, Value.int 0, Value.int 0, Value.int 0, Value.int 0, Value.int 0, Value.int 0, Value.int 0, Value.int 0, Value.int 0, Value.int 0] j := by
  intro j hj
  rcases (show j = 0 ∨ j = 1 ∨ j = 2 ∨ j = 3 ∨ j = 4 ∨ j = 5 ∨ j = 6 ∨ j = 7 ∨ j = 8 ∨ j = 9 ∨ j = 10 ∨ j = 11 ∨ j = 12 ∨ j = 13 ∨ j = 14 ∨ j = 15 ∨ j = 16 ∨ j = 17 by omega) with rfl | rfl | rfl | rfl | rfl | rfl | rfl | rfl | rfl | rfl | rfl | rfl | rfl | rfl | rfl | rfl | rfl | rfl <;> rfl
theorem dv_X8 : ∀ j, j < 10 → defaultValue (tyX8 j) = vp_V [Value.null, Value.int 0, Value.null, Value.int 0, Value.null, Value.int 0, Value.null, Value.null, Value.null, Value.int 0] j := by
  intro j hj
  rcases (show j = 0 ∨ j = 1 ∨ j = 2 ∨ j = 3 ∨ j = 4 ∨ j = 5 ∨ j = 6 ∨ j = 7 ∨ j = 8 ∨ j = 9 by omega) with rfl | rfl | rfl | rfl | rfl | rfl | rfl | rfl | rfl | rfl <;> rfl
theorem dv_Jx4a65c : ∀ j, j < 3 → defaultValue (tyJx4a65c j) = vp_V [Value.int 0, Value.null, Value.int 0] j := by
  intro j hj
  rcases (show j = 0 ∨ j = 1 ∨ j = 2 by omega) with rfl | rfl | rfl <;> rfl
