def lay : Nat → List Nat := fun k => match k with
  | 1 => [2, 0, 0, 0, 2, 0]
  | 2 => [2, 0]
  | 3 => [0, 0, 0, 2]
  | 4 => [1, 0, 0, 0]
  | 5 => [0, 0, 0, 2, 2, 0, 0, 0, 0, 0, 0, 0]
  | 6 => [2, 0, 2, 0]
  | 7 => [0, 2, 0, 0, 0, 0, 0, 0]
  | 8 => [0, 0, 2, 0, 0, 0, 0, 0, 0, 0, 0, 0, 0, 0, 0, 0, 0, 0]
  | 9 => [2, 0, 2, 0, 2, 0, 2, 2, 2, 0]
  | 11 => [0, 2, 0]
  | _ => []
def ck (k : Nat) : Nat := if k = 11 then 0 else k
def cfield (S : PT) (k a i t : Nat) : Value := match t with
  | 0 => .int (gI S (100 * k + i) a)
  | 1 => .long (gJ S (100 * k + i) a)
  | _ => va_rf (gP S (100 * k + i) a)
def cfl (S : PT) (k a : Nat) : Nat → List Nat → List Value
  | _, [] => []
  | i, t :: ts => cfield S k a i t :: cfl S k a (i + 1) ts
def cF (cy : Nat → Nat) (S : PT) (a : Nat) : va_E :=
  if gK S a ≤ 11 then .inr (ck (gK S a), cfl S (gK S a) a 0 (lay (gK S a)))
  else if gK S a = 12 then .inl (cy 0, gN S a, .inl (gA S a))
  else if gK S a = 13 then .inl (cy 1, gN S a, .inr (.inl (gB S a)))
  else if gK S a = 14 then .inl (cy 2, gN S a, .inl (gA S a))
  else .inl (cy (gK S a - 12), gN S a, .inr (.inr (.inr (.inr (gR S a)))))
def tyl (cy : Nat → Nat) : List (ClassId × FieldType) := [(cy 0, .int), (cy 1, .int), (cy 2, .int), (cy 3, .object "Trenchboard$Metre"), (cy 4, .object "Trenchboard$Party"), (cy 5, .object "Trenchboard$Street"), (cy 6, .object "Trenchboard$Thing"), (cy 7, .object "Trenchboard$Works"), (cy 8, .object "java/lang/Object")]
theorem cF_o {cy : Nat → Nat} {S : PT} {a k : Nat} (h : gK S a = k) (hk : k ≤ 11) : cF cy S a = .inr (ck k, cfl S k a 0 (lay k)) := by
  subst h; simp [cF, hk]
theorem cF_I {cy : Nat → Nat} {S : PT} {a : Nat} (h : gK S a = 12) : cF cy S a = .inl (cy 0, gN S a, .inl (gA S a)) := by simp [cF, h]
theorem cF_J {cy : Nat → Nat} {S : PT} {a : Nat} (h : gK S a = 13) : cF cy S a = .inl (cy 1, gN S a, .inr (.inl (gB S a))) := by simp [cF, h]
theorem cF_Z {cy : Nat → Nat} {S : PT} {a : Nat} (h : gK S a = 14) : cF cy S a = .inl (cy 2, gN S a, .inl (gA S a)) := by simp [cF, h]
theorem cF_R {cy : Nat → Nat} {S : PT} {a k : Nat} (h : gK S a = k) (hk : 15 ≤ k) : cF cy S a = .inl (cy (k - 12), gN S a, .inr (.inr (.inr (.inr (gR S a))))) := by
  subst h
  rw [cF, if_neg (by omega), if_neg (by omega), if_neg (by omega), if_neg (by omega)]
theorem cfl_len (S : PT) (k a : Nat) : ∀ (ts : List Nat) (i : Nat), (cfl S k a i ts).length = ts.length
  | [], _ => rfl
  | _ :: ts, i => by rw [cfl, List.length_cons, cfl_len S k a ts, List.length_cons]
theorem cfl_cong {S S' : PT} {k a : Nat} : ∀ (ts : List Nat) (i : Nat), (∀ j t, cfield S k a j t = cfield S' k a j t) → cfl S k a i ts = cfl S' k a i ts
  | [], _, _ => rfl
  | _ :: ts, i, h => by rw [cfl, cfl, h, cfl_cong ts (i + 1) h]
theorem cfl_cong2 {S S' : PT} {k a : Nat} : ∀ (ts : List Nat) (i : Nat), (∀ j t, i ≤ j → cfield S k a j t = cfield S' k a j t) → cfl S k a i ts = cfl S' k a i ts
  | [], _, _ => rfl
  | _ :: ts, i, h => by rw [cfl, cfl, h i _ (Nat.le_refl _), cfl_cong2 ts (i + 1) (fun j t hj => h j t (by omega))]
/-- one field is set -/
theorem cfl_set {S S' : PT} {k a : Nat} {v : Value} {n : Nat} (hS : ∀ j t, j ≠ n → cfield S k a j t = cfield S' k a j t) : ∀ (ts : List Nat) (i j t : Nat), ts[j]? = some t → i + j = n → cfield S' k a n t = v → (cfl S k a i ts).set j v = cfl S' k a i ts
  | [], _, _, _, h, _, _ => by simp at h
  | t0 :: ts, i, 0, t, h, hn, hv => by
    have ht : t0 = t := by simpa using h
    subst ht
    have hn : i = n := by omega
    subst hn
    rw [cfl, cfl, List.set_cons_zero, hv, cfl_cong2 ts (i + 1) (fun j t hj => hS j t (by omega))]
  | t0 :: ts, i, j + 1, t, h, hn, hv => by
    rw [cfl, cfl, List.set_cons_succ, hS i t0 (by omega), cfl_set hS ts (i + 1) j t (by simpa using h) (by omega) hv]
theorem cF_keep {cy : Nat → Nat} {S S' : PT} {b : Nat} (hK : gK S' b = gK S b) (hI : ∀ f, gI S' f b = gI S f b) (hJ : ∀ f, gJ S' f b = gJ S f b) (hP : ∀ f, gP S' f b = gP S f b) (hN : gN S' b = gN S b) (hA : gA S' b = gA S b) (hB : gB S' b = gB S b) (hR : gR S' b = gR S b) : cF cy S b = cF cy S' b := by
  have hc : ∀ k j t, cfield S k b j t = cfield S' k b j t := fun k j t => by
    unfold cfield
    rw [hI, hJ, hP]
  unfold cF
  rw [hK, hN, hA, hB, hR, cfl_cong _ _ (hc (gK S b))]
theorem cF_setI (cy : Nat → Nat) {S : PT} {a k i : Nat} (h : gK S a = k) (hk : k ≤ 11) (x : Int32) (hi : (lay k)[i]? = some 0) : va_up (cF cy S) a (.inr (ck k, (cfl S k a 0 (lay k)).set i (.int x))) = cF cy (sI S (100 * k + i) a x) := by
  funext b
  by_cases hb : b = a
  · subst hb
    rw [va_up_self, cF_o (k := k) (S := sI S (100 * k + i) b x) h hk, cfl_set (S' := sI S (100 * k + i) b x) (n := i) (fun j t hj => ?_) (lay k) 0 i 0 hi (by omega) (by simp [cfield, sI, gI, up2])]
    simp only [cfield, sI, gI, gJ, gP, up2]
    have : ¬ 100 * k + j = 100 * k + i := by omega
    simp [this, hj]
  · rw [va_up_ne _ _ hb]
    exact cF_keep rfl (fun f => by simp [sI, gI, up2, hb]) (fun _ => rfl) (fun _ => rfl) rfl rfl rfl rfl
theorem cF_setJ (cy : Nat → Nat) {S : PT} {a k i : Nat} (h : gK S a = k) (hk : k ≤ 11) (x : Int64) (hi : (lay k)[i]? = some 1) : va_up (cF cy S) a (.inr (ck k, (cfl S k a 0 (lay k)).set i (.long x))) = cF cy (sJ S (100 * k + i) a x) := by
  funext b
  by_cases hb : b = a
  · subst hb
    rw [va_up_self, cF_o (k := k) (S := sJ S (100 * k + i) b x) h hk, cfl_set (S' := sJ S (100 * k + i) b x) (n := i) (fun j t hj => ?_) (lay k) 0 i 1 hi (by omega) (by simp [cfield, sJ, gJ, up2])]
    simp only [cfield, sJ, gI, gJ, gP, up2]
    have : ¬ 100 * k + j = 100 * k + i := by omega
    simp [this, hj]
  · rw [va_up_ne _ _ hb]
    exact cF_keep rfl (fun _ => rfl) (fun f => by simp [sJ, gJ, up2, hb]) (fun _ => rfl) rfl rfl rfl rfl
theorem cF_setP (cy : Nat → Nat) {S : PT} {a k i : Nat} (h : gK S a = k) (hk : k ≤ 11) (x : Option Nat) (hi : (lay k)[i]? = some 2) : va_up (cF cy S) a (.inr (ck k, (cfl S k a 0 (lay k)).set i (va_rf x))) = cF cy (sP S (100 * k + i) a x) := by
  funext b
  by_cases hb : b = a
  · subst hb
    rw [va_up_self, cF_o (k := k) (S := sP S (100 * k + i) b x) h hk, cfl_set (S' := sP S (100 * k + i) b x) (n := i) (fun j t hj => ?_) (lay k) 0 i 2 hi (by omega) (by simp [cfield, sP, gP, up2])]
    simp only [cfield, sP, gI, gJ, gP, up2]
    have : ¬ 100 * k + j = 100 * k + i := by omega
    simp [this, hj]
  · rw [va_up_ne _ _ hb]
    exact cF_keep rfl (fun _ => rfl) (fun _ => rfl) (fun f => by simp [sP, gP, up2, hb]) rfl rfl rfl rfl
theorem cF_setA (cy : Nat → Nat) {S : PT} {a : Nat} (i : Nat) (h : gK S a = 12) (x : Int32) : va_up (cF cy S) a (.inl (cy 0, gN S a, .inl (upd (gA S a) i x))) = cF cy (sA S a i x) := by
  funext b
  by_cases hb : b = a
  · subst hb
    rw [va_up_self, cF_I (S := sA S b i x) h]
    simp [sA, gA, gN, va_up]
  · rw [va_up_ne _ _ hb]
    exact cF_keep rfl (fun _ => rfl) (fun _ => rfl) (fun _ => rfl) rfl (by simp [sA, gA, va_up, hb]) rfl rfl
theorem cF_setZ (cy : Nat → Nat) {S : PT} {a : Nat} (i : Nat) (h : gK S a = 14) (x : Int32) : va_up (cF cy S) a (.inl (cy 2, gN S a, .inl (upd (gA S a) i x))) = cF cy (sA S a i x) := by
  funext b
  by_cases hb : b = a
  · subst hb
    rw [va_up_self, cF_Z (S := sA S b i x) h]
    simp [sA, gA, gN, va_up]
  · rw [va_up_ne _ _ hb]
    exact cF_keep rfl (fun _ => rfl) (fun _ => rfl) (fun _ => rfl) rfl (by simp [sA, gA, va_up, hb]) rfl rfl
theorem cF_setB (cy : Nat → Nat) {S : PT} {a : Nat} (i : Nat) (h : gK S a = 13) (x : Int64) : va_up (cF cy S) a (.inl (cy 1, gN S a, .inr (.inl (vp_updL (gB S a) i x)))) = cF cy (sB S a i x) := by
  funext b
  by_cases hb : b = a
  · subst hb
    rw [va_up_self, cF_J (S := sB S b i x) h]
    simp [sB, gB, gN, va_up]
  · rw [va_up_ne _ _ hb]
    exact cF_keep rfl (fun _ => rfl) (fun _ => rfl) (fun _ => rfl) rfl rfl (by simp [sB, gB, va_up, hb]) rfl
theorem cF_setR (cy : Nat → Nat) {S : PT} {a k : Nat} (i : Nat) (h : gK S a = k) (hk : 15 ≤ k) (x : Option Nat) : va_up (cF cy S) a (.inl (cy (k - 12), gN S a, .inr (.inr (.inr (.inr (va_up (gR S a) i x)))))) = cF cy (sR S a i x) := by
  funext b
  by_cases hb : b = a
  · subst hb
    rw [va_up_self, cF_R (k := k) (S := sR S b i x) h hk]
    simp [sR, gR, gN, va_up]
  · rw [va_up_ne _ _ hb]
    exact cF_keep rfl (fun _ => rfl) (fun _ => rfl) (fun _ => rfl) rfl rfl rfl (by simp [sR, gR, va_up, hb])
theorem cfl_new {S : PT} {k q : Nat} : ∀ (ts : List Nat) (i : Nat), cfl (nO S q k) k q i ts = ts.map (fun t => match t with | 0 => Value.int 0 | 1 => Value.long 0 | _ => Value.null)
  | [], _ => rfl
  | t :: ts, i => by
    rw [cfl, cfl_new ts (i + 1), List.map_cons]
    congr 1
    match t with
    | 0 => simp [cfield, nO, gI]
    | 1 => simp [cfield, nO, gJ]
    | _ + 2 => simp [cfield, nO, gP, va_rf]
theorem cF_new (cy : Nat → Nat) {S : PT} {q k : Nat} (hk : k ≤ 11) {fs : List Value} (hfs : (lay k).map (fun t => match t with | 0 => Value.int 0 | 1 => Value.long 0 | _ => Value.null) = fs) : va_up (cF cy S) q (.inr (ck k, fs)) = cF cy (nO S q k) := by
  funext b
  by_cases hb : b = q
  · subst hb
    rw [va_up_self, cF_o (k := k) (S := nO S b k) (by simp [nO, gK, va_up]) hk, cfl_new, hfs]
  · rw [va_up_ne _ _ hb]
    exact cF_keep (by simp [nO, gK, va_up, hb]) (fun f => by simp [nO, gI, hb]) (fun f => by simp [nO, gJ, hb]) (fun f => by simp [nO, gP, hb]) rfl rfl rfl rfl
theorem cF_newA (cy : Nat → Nat) {S : PT} {q k n : Nat} {x : va_E} (hx : cF cy (nA S q k n) q = x) : va_up (cF cy S) q x = cF cy (nA S q k n) := by
  funext b
  by_cases hb : b = q
  · subst hb
    rw [va_up_self, hx]
  · rw [va_up_ne _ _ hb]
    exact cF_keep (by simp [nA, gK, va_up, hb]) (fun _ => rfl) (fun _ => rfl) (fun _ => rfl) (by simp [nA, gN, va_up, hb]) (by simp [nA, gA, va_up, hb]) (by simp [nA, gB, va_up, hb]) (by simp [nA, gR, va_up, hb])

/-- the words that aren't good ones, kept by hand -/
def NWn : List Cond := [.methodLinkNest "Trenchboard" 35 yX1_init "Trenchboard", .methodLinkNest "Trenchboard" 47 yX3_init "Trenchboard", .methodLinkNest "Trenchboard$Street" 49 yX2_init "Trenchboard", .methodLinkNest "Trenchboard$Street" 53 yX8_overlap "Trenchboard", .castable "java/lang/IndexOutOfBoundsException" "java/lang/IndexOutOfBoundsException", .castable "java/lang/IllegalArgumentException" "java/lang/IllegalArgumentException", .castable "java/lang/IllegalStateException" "java/lang/IllegalStateException", .castable "Trenchboard$Telling" "java/lang/Object", .declares ⟨"java/lang/RuntimeException", "<init>", "(Ljava/lang/String;)V"⟩, .declares ⟨"java/lang/Exception", "<init>", "(Ljava/lang/String;)V"⟩, .declares ⟨"java/lang/Throwable", "<init>", "(Ljava/lang/String;)V"⟩, .declares ⟨"java/lang/Object", "getClass", "()Ljava/lang/Class;"⟩]
def AOs : List String := ["Trenchboard$Street", "Trenchboard$Thing", "Trenchboard$Works", "Trenchboard$Party", "Trenchboard$Metre", "java/lang/Object"]
def STRS : List (String × Nat × String) := [("Trenchboard", 54, "no such way around"), ("Trenchboard", 61, "metres, class or flow out of range"), ("Trenchboard", 70, "no more streets"), ("Trenchboard", 76, "no such street"), ("Trenchboard", 82, "a metre is open"), ("Trenchboard", 106, "days out of range"), ("Trenchboard", 139, "no such promoter, street or metre"), ("Trenchboard", 141, "metres the wrong way round, or depth out of range"), ("Trenchboard", 146, "no more things"), ("Trenchboard", 162, "no such thing or metre"), ("Trenchboard", 164, "metres the wrong way round, or off out of range"), ("Trenchboard", 173, "no such thing"), ("Trenchboard", 181, "no metre of it is sure"), ("Trenchboard", 189, "no such street or metre"), ("Trenchboard", 195, "metres the wrong way round, depth or kind out of range"), ("Trenchboard", 201, "day or days out of range"), ("Trenchboard", 206, "no more works"), ("Trenchboard", 225, "no such works"), ("Trenchboard", 227, "conditions out of range"), ("Trenchboard", 233, "not asked, or barred"), ("Trenchboard", 242, "neither asked nor granted"), ("Trenchboard", 247, "neither granted nor run"), ("Trenchboard", 258, "the same works twice"), ("Trenchboard", 270, "not granted, or on none of their days"), ("Trenchboard", 275, "no such works, or no metre of theirs"), ("Trenchboard", 286, "not run, plated, or to be quiet"), ("Trenchboard", 294, "open, or suspect and not sure"), ("Trenchboard", 303, "density out of range"), ("Trenchboard", 305, "not open by these works"), ("Trenchboard", 326, "not run"), ("Trenchboard", 331, "not run, or no find for it"), ("Trenchboard", 343, "would meet others"), ("Trenchboard", 345, "not run, or a metre is open"), ("Trenchboard", 350, "hours out of range"), ("Trenchboard", 355, "too late an hour"), ("Trenchboard", 360, "depth out of range"), ("Trenchboard", 375, "no fill, or it was cored"), ("Trenchboard", 411, "from below 0"), ("Trenchboard", 413, "what out of range"), ("Trenchboard", 415, "metres the wrong way round"), ("Trenchboard", 428, "no such promoter"), ("Trenchboard", 440, "no such promoter, nor the board")]
def NCs : List (String × String) := [("java/lang/IllegalArgumentException", "java/lang/IndexOutOfBoundsException"), ("java/lang/IllegalStateException", "java/lang/IndexOutOfBoundsException"), ("java/lang/IllegalStateException", "java/lang/IllegalArgumentException")]
def KK (D : va_G) (cy : Nat → Nat) (U : State) : Prop := va_K D vwCl (tyl cy) U ∧ (∀ w ∈ NWn, va_Nw w U) ∧ (∀ E ∈ AOs, va_AO E U) ∧ ∀ x ∈ NCs, va_Nc x.1 x.2 U
theorem NWn_on : ∀ w ∈ NWn, w.onTables = true := by
  intro w hw
  simp only [NWn, List.mem_cons, List.not_mem_nil, or_false] at hw
  rcases hw with rfl | rfl | rfl | rfl | rfl | rfl | rfl | rfl | rfl | rfl | rfl | rfl <;> rfl
theorem KK.warm {D : va_G} {cy : Nat → Nat} {s U : State} (hW : s.WarmedH U.vm) (h : KK D cy s) : KK D cy U := by
  refine ⟨va_K.moved hW.alike h.1, fun w hw => ?_, fun E hE => (h.2.2.1 E hE).moved hW.alike, fun x hx => (h.2.2.2 x hx).moved hW.alike⟩
  have h2 := h.2.1 w hw
  simp only [NWn, List.mem_cons, List.not_mem_nil, or_false] at hw
  rcases hw with rfl | rfl | rfl | rfl | rfl | rfl | rfl | rfl | rfl | rfl | rfl | rfl <;> first | exact va_Nw.warmM hW h2 | exact va_Nw.warmC hW h2 | exact va_Nw.warmD hW h2
theorem KK.calling {D : va_G} {cy : Nat → Nat} {U : State} (a : Array Value) (g : JFrame) (mk : MethodId) (h : KK D cy U) : KK D cy (U.calling g mk a) := by
  refine ⟨va_K.moved (u := U) (U := U.calling g mk a) (Vm.Alike.refl U.vm) h.1, fun w hw => ?_, fun E hE => (h.2.2.1 E hE).moved (Vm.Alike.refl U.vm), fun x hx => (h.2.2.2 x hx).moved (Vm.Alike.refl U.vm)⟩
  have h2 := h.2.1 w hw
  exact va_Nw.same (u := U) (U := U.calling g mk a) (NWn_on w hw) rfl h2
/-- what is fixed in a method's walk -/
def Cx (p : Program) (s : State) (m : MethodId) (args : Array Value) (meth : Method) (c : Code) (cc : ByteArray) (nL : Nat) (Ts : List Cond) (own : String) (D : va_G) (cy : Nat → Nat) (A : Nat → Prop) (H0 : Heap) : Prop :=
  p.tables.exec = Jvm.exec ∧ c.code = cc ∧ c.maxLocals = nL ∧ s.vm.findClass own = some m.cls ∧ (∀ w ∈ Ts, w.before args s = true) ∧ KK D cy s ∧ (∀ q, H0.size ≤ q → A q) ∧ meth.locks = false
/-- THE JUDGEMENT: from the pool S, at pc with the locals lv and the stack stk, the machine comes to a state with Q -/
def G (p : Program) (l : Launch) (e : Env) (R : Room) (s : State) (m : MethodId) (args : Array Value) (below : List Frame) (meth : Method) (c : Code) (D : va_G) (cy : Nat → Nat) (A : Nat → Prop) (H0 : Heap) (nL : Nat) (Q : State → Prop) (S : PT) (cells slots pc : Nat) (lv : List (Nat × Value)) (stk : List Value) : Prop :=
  ∀ (L : List Nat) (H : Heap) (locs : List Loc) (ls : Array Slot), (∀ a, a ∈ L ↔ gK S a ≠ 0) → va_P D vwCl (va_pl L (cF cy S)) H → va_D A (va_pl L (cF cy S)) → va_S A H0 H locs → lv_has ls nL lv → W p l e R s m args below meth c H locs cells slots Q (F0 m pc ls stk)

section GR
variable {p : Program} {l : Launch} {e : Env} {R : Room} {s : State} {m : MethodId} {args : Array Value} {below : List Frame} {meth : Method} {c : Code} {D : va_G} {cy : Nat → Nat} {A : Nat → Prop} {H0 : Heap} {nL : Nat} {Q : State → Prop} {S : PT} {cells slots pc : Nat} {lv : List (Nat × Value)} {rest : List Value} {cc : ByteArray} {Ts : List Cond} {own : String}
theorem G_iconst (C : Cx p s m args meth c cc nL Ts own D cy A H0) {n : Int} {v : Int32} (hdg : decode cc pc = .ok (.iconst n, 1)) (hv : Int32.ofInt n = v) (k : G p l e R s m args below meth c D cy A H0 nL Q S cells slots (pc + 1) lv (.int v :: rest)) : G p l e R s m args below meth c D cy A H0 nL Q S cells slots pc lv rest := fun L H locs ls a1 a2 a3 a4 a5 => lv_iconst C.1 C.2.1 hdg hv (k L H locs ls a1 a2 a3 a4 a5)
theorem G_bipush (C : Cx p s m args meth c cc nL Ts own D cy A H0) {n : Int} {v : Int32} (hdg : decode cc pc = .ok (.bipush n, 2)) (hv : (Int8.ofInt n).toInt32 = v) (k : G p l e R s m args below meth c D cy A H0 nL Q S cells slots (pc + 2) lv (.int v :: rest)) : G p l e R s m args below meth c D cy A H0 nL Q S cells slots pc lv rest := fun L H locs ls a1 a2 a3 a4 a5 => lv_bipush C.1 C.2.1 hdg hv (k L H locs ls a1 a2 a3 a4 a5)
theorem G_sipush (C : Cx p s m args meth c cc nL Ts own D cy A H0) {n : Int} {v : Int32} (hdg : decode cc pc = .ok (.sipush n, 3)) (hv : (Int16.ofInt n).toInt32 = v) (k : G p l e R s m args below meth c D cy A H0 nL Q S cells slots (pc + 3) lv (.int v :: rest)) : G p l e R s m args below meth c D cy A H0 nL Q S cells slots pc lv rest := fun L H locs ls a1 a2 a3 a4 a5 => lv_sipush C.1 C.2.1 hdg hv (k L H locs ls a1 a2 a3 a4 a5)
theorem G_lconst (C : Cx p s m args meth c cc nL Ts own D cy A H0) {n : Fin 2} {v : Int64} (hdg : decode cc pc = .ok (.lconst n, 1)) (hv : Int64.ofNat (n : Nat) = v) (k : G p l e R s m args below meth c D cy A H0 nL Q S cells slots (pc + 1) lv (.long v :: rest)) : G p l e R s m args below meth c D cy A H0 nL Q S cells slots pc lv rest := fun L H locs ls a1 a2 a3 a4 a5 => lv_lconst C.1 C.2.1 hdg hv (k L H locs ls a1 a2 a3 a4 a5)
theorem G_null (C : Cx p s m args meth c cc nL Ts own D cy A H0) (hdg : decode cc pc = .ok (.aconst_null, 1)) (k : G p l e R s m args below meth c D cy A H0 nL Q S cells slots (pc + 1) lv (va_rf none :: rest)) : G p l e R s m args below meth c D cy A H0 nL Q S cells slots pc lv rest := fun L H locs ls a1 a2 a3 a4 a5 => lv_null C.1 C.2.1 hdg (k L H locs ls a1 a2 a3 a4 a5)
theorem G_ldc (C : Cx p s m args meth c cc nL Ts own D cy A H0) {index : Nat} {v : Int32} (hc : Cond.constant own index v ∈ Ts) (hdg : decode cc pc = .ok (.ldc index, 2)) (k : G p l e R s m args below meth c D cy A H0 nL Q S cells slots (pc + 2) lv (.int v :: rest)) : G p l e R s m args below meth c D cy A H0 nL Q S cells slots pc lv rest := fun L H locs ls a1 a2 a3 a4 a5 => lv_ldc C.1 C.2.1 C.2.2.2.1 (C.2.2.2.2.1 _ hc) hdg (k L H locs ls a1 a2 a3 a4 a5)
theorem G_iload_n (C : Cx p s m args meth c cc nL Ts own D cy A H0) {k4 : Fin 4} {i : Nat} {x : Int32} (j : Nat) (hdg : decode cc pc = .ok (.iload_n k4, 1)) (hi : (k4 : Nat) = i) (hl : lv[j]? = some (i, .int x)) (k : G p l e R s m args below meth c D cy A H0 nL Q S cells slots (pc + 1) lv (.int x :: rest)) : G p l e R s m args below meth c D cy A H0 nL Q S cells slots pc lv rest := fun L H locs ls a1 a2 a3 a4 a5 => lv_iload_n C.1 C.2.1 hdg hi (lv_at a5 j hl) (k L H locs ls a1 a2 a3 a4 a5)
theorem G_iload (C : Cx p s m args meth c cc nL Ts own D cy A H0) {i : Nat} {x : Int32} (j : Nat) (hdg : decode cc pc = .ok (.iload i, 2)) (hl : lv[j]? = some (i, .int x)) (k : G p l e R s m args below meth c D cy A H0 nL Q S cells slots (pc + 2) lv (.int x :: rest)) : G p l e R s m args below meth c D cy A H0 nL Q S cells slots pc lv rest := fun L H locs ls a1 a2 a3 a4 a5 => lv_iload C.1 C.2.1 hdg (lv_at a5 j hl) (k L H locs ls a1 a2 a3 a4 a5)
theorem G_lload_n (C : Cx p s m args meth c cc nL Ts own D cy A H0) {k4 : Fin 4} {i : Nat} {x : Int64} (j : Nat) (hdg : decode cc pc = .ok (.lload_n k4, 1)) (hi : (k4 : Nat) = i) (hl : lv[j]? = some (i, .long x)) (k : G p l e R s m args below meth c D cy A H0 nL Q S cells slots (pc + 1) lv (.long x :: rest)) : G p l e R s m args below meth c D cy A H0 nL Q S cells slots pc lv rest := fun L H locs ls a1 a2 a3 a4 a5 => lv_lload_n C.1 C.2.1 hdg hi (lv_at a5 j hl) (k L H locs ls a1 a2 a3 a4 a5)
theorem G_lload (C : Cx p s m args meth c cc nL Ts own D cy A H0) {i : Nat} {x : Int64} (j : Nat) (hdg : decode cc pc = .ok (.lload i, 2)) (hl : lv[j]? = some (i, .long x)) (k : G p l e R s m args below meth c D cy A H0 nL Q S cells slots (pc + 2) lv (.long x :: rest)) : G p l e R s m args below meth c D cy A H0 nL Q S cells slots pc lv rest := fun L H locs ls a1 a2 a3 a4 a5 => lv_lload C.1 C.2.1 hdg (lv_at a5 j hl) (k L H locs ls a1 a2 a3 a4 a5)
theorem G_aload_n (C : Cx p s m args meth c cc nL Ts own D cy A H0) {k4 : Fin 4} {i : Nat} {x : Option Nat} (j : Nat) (hdg : decode cc pc = .ok (.aload_n k4, 1)) (hi : (k4 : Nat) = i) (hl : lv[j]? = some (i, va_rf x)) (k : G p l e R s m args below meth c D cy A H0 nL Q S cells slots (pc + 1) lv (va_rf x :: rest)) : G p l e R s m args below meth c D cy A H0 nL Q S cells slots pc lv rest := by
  intro L H locs ls a1 a2 a3 a4 a5
  have k := k L H locs ls a1 a2 a3 a4 a5
  cases x with
  | none => exact lv_aload_nN C.1 C.2.1 hdg hi (lv_at a5 j hl) k
  | some x => exact lv_aload_n C.1 C.2.1 hdg hi (lv_at a5 j hl) k
theorem G_aload (C : Cx p s m args meth c cc nL Ts own D cy A H0) {i : Nat} {x : Option Nat} (j : Nat) (hdg : decode cc pc = .ok (.aload i, 2)) (hl : lv[j]? = some (i, va_rf x)) (k : G p l e R s m args below meth c D cy A H0 nL Q S cells slots (pc + 2) lv (va_rf x :: rest)) : G p l e R s m args below meth c D cy A H0 nL Q S cells slots pc lv rest := by
  intro L H locs ls a1 a2 a3 a4 a5
  have k := k L H locs ls a1 a2 a3 a4 a5
  cases x with
  | none => exact lv_aloadN C.1 C.2.1 hdg (lv_at a5 j hl) k
  | some x => exact lv_aload C.1 C.2.1 hdg (lv_at a5 j hl) k
theorem G_istore_n (C : Cx p s m args meth c cc nL Ts own D cy A H0) {k4 : Fin 4} {i : Nat} {x : Int32} {lv' : List (Nat × Value)} (hdg : decode cc pc = .ok (.istore_n k4, 1)) (hi : (k4 : Nat) = i) (hn : i < nL) (hl : (i, Value.int x) :: lv.filter (fun q => !(q.1 == i) && !(q.1 + 1 == i && q.2.category == 2)) = lv') (k : G p l e R s m args below meth c D cy A H0 nL Q S cells slots (pc + 1) lv' rest) : G p l e R s m args below meth c D cy A H0 nL Q S cells slots pc lv (.int x :: rest) := fun L H locs ls a1 a2 a3 a4 a5 => lv_istore_n C.1 C.2.1 hdg hi a5 hn hl (fun ls a5 => k L H locs ls a1 a2 a3 a4 a5)
theorem G_istore (C : Cx p s m args meth c cc nL Ts own D cy A H0) {i : Nat} {x : Int32} {lv' : List (Nat × Value)} (hdg : decode cc pc = .ok (.istore i, 2)) (hn : i < nL) (hl : (i, Value.int x) :: lv.filter (fun q => !(q.1 == i) && !(q.1 + 1 == i && q.2.category == 2)) = lv') (k : G p l e R s m args below meth c D cy A H0 nL Q S cells slots (pc + 2) lv' rest) : G p l e R s m args below meth c D cy A H0 nL Q S cells slots pc lv (.int x :: rest) := fun L H locs ls a1 a2 a3 a4 a5 => lv_istore C.1 C.2.1 hdg a5 hn hl (fun ls a5 => k L H locs ls a1 a2 a3 a4 a5)
theorem G_lstore_n (C : Cx p s m args meth c cc nL Ts own D cy A H0) {k4 : Fin 4} {i : Nat} {x : Int64} {lv' : List (Nat × Value)} (hdg : decode cc pc = .ok (.lstore_n k4, 1)) (hi : (k4 : Nat) = i) (hn : i + 1 < nL) (hl : (i, Value.long x) :: lv.filter (fun q => !(q.1 == i) && (!(q.1 == i + 1) && !(q.1 + 1 == i && q.2.category == 2))) = lv') (k : G p l e R s m args below meth c D cy A H0 nL Q S cells slots (pc + 1) lv' rest) : G p l e R s m args below meth c D cy A H0 nL Q S cells slots pc lv (.long x :: rest) := fun L H locs ls a1 a2 a3 a4 a5 => lv_lstore_n C.1 C.2.1 hdg hi a5 hn hl (fun ls a5 => k L H locs ls a1 a2 a3 a4 a5)
theorem G_lstore (C : Cx p s m args meth c cc nL Ts own D cy A H0) {i : Nat} {x : Int64} {lv' : List (Nat × Value)} (hdg : decode cc pc = .ok (.lstore i, 2)) (hn : i + 1 < nL) (hl : (i, Value.long x) :: lv.filter (fun q => !(q.1 == i) && (!(q.1 == i + 1) && !(q.1 + 1 == i && q.2.category == 2))) = lv') (k : G p l e R s m args below meth c D cy A H0 nL Q S cells slots (pc + 2) lv' rest) : G p l e R s m args below meth c D cy A H0 nL Q S cells slots pc lv (.long x :: rest) := fun L H locs ls a1 a2 a3 a4 a5 => lv_lstore C.1 C.2.1 hdg a5 hn hl (fun ls a5 => k L H locs ls a1 a2 a3 a4 a5)
theorem G_astore_n (C : Cx p s m args meth c cc nL Ts own D cy A H0) {k4 : Fin 4} {i : Nat} {x : Option Nat} {lv' : List (Nat × Value)} (hdg : decode cc pc = .ok (.astore_n k4, 1)) (hi : (k4 : Nat) = i) (hn : i < nL) (hl : (i, va_rf x) :: lv.filter (fun q => !(q.1 == i) && !(q.1 + 1 == i && q.2.category == 2)) = lv') (k : G p l e R s m args below meth c D cy A H0 nL Q S cells slots (pc + 1) lv' rest) : G p l e R s m args below meth c D cy A H0 nL Q S cells slots pc lv (va_rf x :: rest) := by
  intro L H locs ls a1 a2 a3 a4 a5
  cases x with
  | none => exact lv_astore_nN C.1 C.2.1 hdg hi a5 hn hl (fun ls a5 => k L H locs ls a1 a2 a3 a4 a5)
  | some x => exact lv_astore_n C.1 C.2.1 hdg hi a5 hn hl (fun ls a5 => k L H locs ls a1 a2 a3 a4 a5)
theorem G_astore (C : Cx p s m args meth c cc nL Ts own D cy A H0) {i : Nat} {x : Option Nat} {lv' : List (Nat × Value)} (hdg : decode cc pc = .ok (.astore i, 2)) (hn : i < nL) (hl : (i, va_rf x) :: lv.filter (fun q => !(q.1 == i) && !(q.1 + 1 == i && q.2.category == 2)) = lv') (k : G p l e R s m args below meth c D cy A H0 nL Q S cells slots (pc + 2) lv' rest) : G p l e R s m args below meth c D cy A H0 nL Q S cells slots pc lv (va_rf x :: rest) := by
  intro L H locs ls a1 a2 a3 a4 a5
  cases x with
  | none => exact lv_astoreN C.1 C.2.1 hdg a5 hn hl (fun ls a5 => k L H locs ls a1 a2 a3 a4 a5)
  | some x => exact lv_astore C.1 C.2.1 hdg a5 hn hl (fun ls a5 => k L H locs ls a1 a2 a3 a4 a5)
theorem G_iinc (C : Cx p s m args meth c cc nL Ts own D cy A H0) {i : Nat} (j : Nat) {n : Int} {x v : Int32} {lv' : List (Nat × Value)} (hdg : decode cc pc = .ok (.iinc i n, 3)) (hk : lv[j]? = some (i, .int x)) (hv : x + Int32.ofInt n = v) (hn : i < nL) (hl : (i, Value.int v) :: lv.filter (fun q => !(q.1 == i) && !(q.1 + 1 == i && q.2.category == 2)) = lv') (k : G p l e R s m args below meth c D cy A H0 nL Q S cells slots (pc + 3) lv' rest) : G p l e R s m args below meth c D cy A H0 nL Q S cells slots pc lv rest := fun L H locs ls a1 a2 a3 a4 a5 => lv_iinc C.1 C.2.1 hdg a5 hk hv hn hl (fun ls a5 => k L H locs ls a1 a2 a3 a4 a5)
theorem G_iadd (C : Cx p s m args meth c cc nL Ts own D cy A H0) {x y : Int32} (hdg : decode cc pc = .ok (.iadd, 1)) (k : G p l e R s m args below meth c D cy A H0 nL Q S cells slots (pc + 1) lv (.int (x + y) :: rest)) : G p l e R s m args below meth c D cy A H0 nL Q S cells slots pc lv (.int y :: .int x :: rest) := fun L H locs ls a1 a2 a3 a4 a5 => lv_iadd C.1 C.2.1 hdg (k L H locs ls a1 a2 a3 a4 a5)
theorem G_isub (C : Cx p s m args meth c cc nL Ts own D cy A H0) {x y : Int32} (hdg : decode cc pc = .ok (.isub, 1)) (k : G p l e R s m args below meth c D cy A H0 nL Q S cells slots (pc + 1) lv (.int (x - y) :: rest)) : G p l e R s m args below meth c D cy A H0 nL Q S cells slots pc lv (.int y :: .int x :: rest) := fun L H locs ls a1 a2 a3 a4 a5 => lv_isub C.1 C.2.1 hdg (k L H locs ls a1 a2 a3 a4 a5)
theorem G_imul (C : Cx p s m args meth c cc nL Ts own D cy A H0) {x y : Int32} (hdg : decode cc pc = .ok (.imul, 1)) (k : G p l e R s m args below meth c D cy A H0 nL Q S cells slots (pc + 1) lv (.int (x * y) :: rest)) : G p l e R s m args below meth c D cy A H0 nL Q S cells slots pc lv (.int y :: .int x :: rest) := fun L H locs ls a1 a2 a3 a4 a5 => lv_imul C.1 C.2.1 hdg (k L H locs ls a1 a2 a3 a4 a5)
theorem G_iand (C : Cx p s m args meth c cc nL Ts own D cy A H0) {x y : Int32} (hdg : decode cc pc = .ok (.iand, 1)) (k : G p l e R s m args below meth c D cy A H0 nL Q S cells slots (pc + 1) lv (.int (x &&& y) :: rest)) : G p l e R s m args below meth c D cy A H0 nL Q S cells slots pc lv (.int y :: .int x :: rest) := fun L H locs ls a1 a2 a3 a4 a5 => lv_iand C.1 C.2.1 hdg (k L H locs ls a1 a2 a3 a4 a5)
theorem G_ior (C : Cx p s m args meth c cc nL Ts own D cy A H0) {x y : Int32} (hdg : decode cc pc = .ok (.ior, 1)) (k : G p l e R s m args below meth c D cy A H0 nL Q S cells slots (pc + 1) lv (.int (x ||| y) :: rest)) : G p l e R s m args below meth c D cy A H0 nL Q S cells slots pc lv (.int y :: .int x :: rest) := fun L H locs ls a1 a2 a3 a4 a5 => lv_ior C.1 C.2.1 hdg (k L H locs ls a1 a2 a3 a4 a5)
theorem G_ixor (C : Cx p s m args meth c cc nL Ts own D cy A H0) {x y : Int32} (hdg : decode cc pc = .ok (.ixor, 1)) (k : G p l e R s m args below meth c D cy A H0 nL Q S cells slots (pc + 1) lv (.int (x ^^^ y) :: rest)) : G p l e R s m args below meth c D cy A H0 nL Q S cells slots pc lv (.int y :: .int x :: rest) := fun L H locs ls a1 a2 a3 a4 a5 => lv_ixor C.1 C.2.1 hdg (k L H locs ls a1 a2 a3 a4 a5)
theorem G_idiv (C : Cx p s m args meth c cc nL Ts own D cy A H0) {x y : Int32} (hdg : decode cc pc = .ok (.idiv, 1)) (hne : ¬ y = 0) (k : G p l e R s m args below meth c D cy A H0 nL Q S cells slots (pc + 1) lv (.int (x / y) :: rest)) : G p l e R s m args below meth c D cy A H0 nL Q S cells slots pc lv (.int y :: .int x :: rest) := fun L H locs ls a1 a2 a3 a4 a5 => lv_idiv C.1 C.2.1 hdg hne (k L H locs ls a1 a2 a3 a4 a5)
theorem G_irem (C : Cx p s m args meth c cc nL Ts own D cy A H0) {x y : Int32} (hdg : decode cc pc = .ok (.irem, 1)) (hne : ¬ y = 0) (k : G p l e R s m args below meth c D cy A H0 nL Q S cells slots (pc + 1) lv (.int (x - x / y * y) :: rest)) : G p l e R s m args below meth c D cy A H0 nL Q S cells slots pc lv (.int y :: .int x :: rest) := fun L H locs ls a1 a2 a3 a4 a5 => lv_irem C.1 C.2.1 hdg hne (k L H locs ls a1 a2 a3 a4 a5)
theorem G_ladd (C : Cx p s m args meth c cc nL Ts own D cy A H0) {x y : Int64} (hdg : decode cc pc = .ok (.ladd, 1)) (k : G p l e R s m args below meth c D cy A H0 nL Q S cells slots (pc + 1) lv (.long (x + y) :: rest)) : G p l e R s m args below meth c D cy A H0 nL Q S cells slots pc lv (.long y :: .long x :: rest) := fun L H locs ls a1 a2 a3 a4 a5 => lv_ladd C.1 C.2.1 hdg (k L H locs ls a1 a2 a3 a4 a5)
theorem G_lsub (C : Cx p s m args meth c cc nL Ts own D cy A H0) {x y : Int64} (hdg : decode cc pc = .ok (.lsub, 1)) (k : G p l e R s m args below meth c D cy A H0 nL Q S cells slots (pc + 1) lv (.long (x - y) :: rest)) : G p l e R s m args below meth c D cy A H0 nL Q S cells slots pc lv (.long y :: .long x :: rest) := fun L H locs ls a1 a2 a3 a4 a5 => lv_lsub C.1 C.2.1 hdg (k L H locs ls a1 a2 a3 a4 a5)
theorem G_lmul (C : Cx p s m args meth c cc nL Ts own D cy A H0) {x y : Int64} (hdg : decode cc pc = .ok (.lmul, 1)) (k : G p l e R s m args below meth c D cy A H0 nL Q S cells slots (pc + 1) lv (.long (x * y) :: rest)) : G p l e R s m args below meth c D cy A H0 nL Q S cells slots pc lv (.long y :: .long x :: rest) := fun L H locs ls a1 a2 a3 a4 a5 => lv_lmul C.1 C.2.1 hdg (k L H locs ls a1 a2 a3 a4 a5)
theorem G_ishl (C : Cx p s m args meth c cc nL Ts own D cy A H0) {x y : Int32} (hdg : decode cc pc = .ok (.ishl, 1)) (k : G p l e R s m args below meth c D cy A H0 nL Q S cells slots (pc + 1) lv (.int (x <<< (y &&& 31)) :: rest)) : G p l e R s m args below meth c D cy A H0 nL Q S cells slots pc lv (.int y :: .int x :: rest) := fun L H locs ls a1 a2 a3 a4 a5 => lv_ishl C.1 C.2.1 hdg (k L H locs ls a1 a2 a3 a4 a5)
theorem G_ishr (C : Cx p s m args meth c cc nL Ts own D cy A H0) {x y : Int32} (hdg : decode cc pc = .ok (.ishr, 1)) (k : G p l e R s m args below meth c D cy A H0 nL Q S cells slots (pc + 1) lv (.int (x >>> (y &&& 31)) :: rest)) : G p l e R s m args below meth c D cy A H0 nL Q S cells slots pc lv (.int y :: .int x :: rest) := fun L H locs ls a1 a2 a3 a4 a5 => lv_ishr C.1 C.2.1 hdg (k L H locs ls a1 a2 a3 a4 a5)
theorem G_i2l (C : Cx p s m args meth c cc nL Ts own D cy A H0) {x : Int32} (hdg : decode cc pc = .ok (.i2l, 1)) (k : G p l e R s m args below meth c D cy A H0 nL Q S cells slots (pc + 1) lv (.long x.toInt64 :: rest)) : G p l e R s m args below meth c D cy A H0 nL Q S cells slots pc lv (.int x :: rest) := fun L H locs ls a1 a2 a3 a4 a5 => lv_i2l C.1 C.2.1 hdg rfl (k L H locs ls a1 a2 a3 a4 a5)
theorem G_l2i (C : Cx p s m args meth c cc nL Ts own D cy A H0) {x : Int64} (hdg : decode cc pc = .ok (.l2i, 1)) (k : G p l e R s m args below meth c D cy A H0 nL Q S cells slots (pc + 1) lv (.int x.toInt32 :: rest)) : G p l e R s m args below meth c D cy A H0 nL Q S cells slots pc lv (.long x :: rest) := fun L H locs ls a1 a2 a3 a4 a5 => lv_l2i C.1 C.2.1 hdg rfl (k L H locs ls a1 a2 a3 a4 a5)
theorem G_lcmp (C : Cx p s m args meth c cc nL Ts own D cy A H0) {x y : Int64} (hdg : decode cc pc = .ok (.lcmp, 1)) (k : G p l e R s m args below meth c D cy A H0 nL Q S cells slots (pc + 1) lv (.int (lg_cmp x y) :: rest)) : G p l e R s m args below meth c D cy A H0 nL Q S cells slots pc lv (.long y :: .long x :: rest) := fun L H locs ls a1 a2 a3 a4 a5 => W.lcmp C.1 C.2.1 hdg (k L H locs ls a1 a2 a3 a4 a5)
theorem G_ldc2 (C : Cx p s m args meth c cc nL Ts own D cy A H0) {index : Nat} {v : Int64} (hc : Cond.constantLong own index v ∈ Ts) (hdg : decode cc pc = .ok (.ldc2_w index, 3)) (k : G p l e R s m args below meth c D cy A H0 nL Q S cells slots (pc + 3) lv (.long v :: rest)) : G p l e R s m args below meth c D cy A H0 nL Q S cells slots pc lv rest := fun L H locs ls a1 a2 a3 a4 a5 => lv_ldc2 C.1 C.2.1 C.2.2.2.1 (C.2.2.2.2.1 _ hc) hdg (k L H locs ls a1 a2 a3 a4 a5)
theorem G_goto (C : Cx p s m args meth c cc nL Ts own D cy A H0) {off : Int} {tgt : Nat} (hdg : decode cc pc = .ok (.goto off, 3)) (ht : (pc : Int) + off = (tgt : Int)) (k : G p l e R s m args below meth c D cy A H0 nL Q S cells slots tgt lv rest) : G p l e R s m args below meth c D cy A H0 nL Q S cells slots pc lv rest := fun L H locs ls a1 a2 a3 a4 a5 => lv_goto C.1 C.2.1 hdg ht (k L H locs ls a1 a2 a3 a4 a5)
theorem G_dup (C : Cx p s m args meth c cc nL Ts own D cy A H0) {va : Value} (hdg : decode cc pc = .ok (.dup, 1)) (hva : va.category = 1) (k : G p l e R s m args below meth c D cy A H0 nL Q S cells slots (pc + 1) lv (va :: va :: rest)) : G p l e R s m args below meth c D cy A H0 nL Q S cells slots pc lv (va :: rest) := fun L H locs ls a1 a2 a3 a4 a5 => lv_dup C.1 C.2.1 hdg hva (k L H locs ls a1 a2 a3 a4 a5)
theorem G_pop (C : Cx p s m args meth c cc nL Ts own D cy A H0) {va : Value} (hdg : decode cc pc = .ok (.pop, 1)) (hva : va.category = 1) (k : G p l e R s m args below meth c D cy A H0 nL Q S cells slots (pc + 1) lv rest) : G p l e R s m args below meth c D cy A H0 nL Q S cells slots pc lv (va :: rest) := fun L H locs ls a1 a2 a3 a4 a5 => lv_pop C.1 C.2.1 hdg hva (k L H locs ls a1 a2 a3 a4 a5)
theorem G_dup2 (C : Cx p s m args meth c cc nL Ts own D cy A H0) {va vb : Value} (hdg : decode cc pc = .ok (.dup2, 1)) (hva : va.category = 1) (hvb : vb.category = 1) (k : G p l e R s m args below meth c D cy A H0 nL Q S cells slots (pc + 1) lv (va :: vb :: va :: vb :: rest)) : G p l e R s m args below meth c D cy A H0 nL Q S cells slots pc lv (va :: vb :: rest) := fun L H locs ls a1 a2 a3 a4 a5 => lv_dup2_11 C.1 C.2.1 hdg hva hvb (k L H locs ls a1 a2 a3 a4 a5)
theorem G_dup_x1 (C : Cx p s m args meth c cc nL Ts own D cy A H0) {va vb : Value} (hdg : decode cc pc = .ok (.dup_x1, 1)) (hva : va.category = 1) (hvb : vb.category = 1) (k : G p l e R s m args below meth c D cy A H0 nL Q S cells slots (pc + 1) lv (va :: vb :: va :: rest)) : G p l e R s m args below meth c D cy A H0 nL Q S cells slots pc lv (va :: vb :: rest) := fun L H locs ls a1 a2 a3 a4 a5 => lv_dup_x1 C.1 C.2.1 hdg hva hvb (k L H locs ls a1 a2 a3 a4 a5)
theorem G_if_eq (C : Cx p s m args meth c cc nL Ts own D cy A H0) {x : Int32} {off : Int} {tgt : Nat} (hdg : decode cc pc = .ok (.ifCond .eq off, 3)) (ht : (pc : Int) + off = (tgt : Int)) (kt : x = 0 → G p l e R s m args below meth c D cy A H0 nL Q S cells slots tgt lv rest) (kf : ¬ (x = 0) → G p l e R s m args below meth c D cy A H0 nL Q S cells slots (pc + 3) lv rest) : G p l e R s m args below meth c D cy A H0 nL Q S cells slots pc lv (.int x :: rest) := fun L H locs ls a1 a2 a3 a4 a5 => lv_if_eq C.1 C.2.1 hdg ht (fun h => kt h L H locs ls a1 a2 a3 a4 a5) (fun h => kf h L H locs ls a1 a2 a3 a4 a5)
theorem G_icmp_eq (C : Cx p s m args meth c cc nL Ts own D cy A H0) {x y : Int32} {off : Int} {tgt : Nat} (hdg : decode cc pc = .ok (.if_icmp .eq off, 3)) (ht : (pc : Int) + off = (tgt : Int)) (kt : x = y → G p l e R s m args below meth c D cy A H0 nL Q S cells slots tgt lv rest) (kf : ¬ (x = y) → G p l e R s m args below meth c D cy A H0 nL Q S cells slots (pc + 3) lv rest) : G p l e R s m args below meth c D cy A H0 nL Q S cells slots pc lv (.int y :: .int x :: rest) := fun L H locs ls a1 a2 a3 a4 a5 => lv_icmp_eq C.1 C.2.1 hdg ht (fun h => kt h L H locs ls a1 a2 a3 a4 a5) (fun h => kf h L H locs ls a1 a2 a3 a4 a5)
theorem G_if_ne (C : Cx p s m args meth c cc nL Ts own D cy A H0) {x : Int32} {off : Int} {tgt : Nat} (hdg : decode cc pc = .ok (.ifCond .ne off, 3)) (ht : (pc : Int) + off = (tgt : Int)) (kt : ¬ x = 0 → G p l e R s m args below meth c D cy A H0 nL Q S cells slots tgt lv rest) (kf : x = 0 → G p l e R s m args below meth c D cy A H0 nL Q S cells slots (pc + 3) lv rest) : G p l e R s m args below meth c D cy A H0 nL Q S cells slots pc lv (.int x :: rest) := fun L H locs ls a1 a2 a3 a4 a5 => lv_if_ne C.1 C.2.1 hdg ht (fun h => kt h L H locs ls a1 a2 a3 a4 a5) (fun h => kf h L H locs ls a1 a2 a3 a4 a5)
theorem G_icmp_ne (C : Cx p s m args meth c cc nL Ts own D cy A H0) {x y : Int32} {off : Int} {tgt : Nat} (hdg : decode cc pc = .ok (.if_icmp .ne off, 3)) (ht : (pc : Int) + off = (tgt : Int)) (kt : ¬ x = y → G p l e R s m args below meth c D cy A H0 nL Q S cells slots tgt lv rest) (kf : x = y → G p l e R s m args below meth c D cy A H0 nL Q S cells slots (pc + 3) lv rest) : G p l e R s m args below meth c D cy A H0 nL Q S cells slots pc lv (.int y :: .int x :: rest) := fun L H locs ls a1 a2 a3 a4 a5 => lv_icmp_ne C.1 C.2.1 hdg ht (fun h => kt h L H locs ls a1 a2 a3 a4 a5) (fun h => kf h L H locs ls a1 a2 a3 a4 a5)
theorem G_if_lt (C : Cx p s m args meth c cc nL Ts own D cy A H0) {x : Int32} {off : Int} {tgt : Nat} (hdg : decode cc pc = .ok (.ifCond .lt off, 3)) (ht : (pc : Int) + off = (tgt : Int)) (kt : x < 0 → G p l e R s m args below meth c D cy A H0 nL Q S cells slots tgt lv rest) (kf : ¬ (x < 0) → G p l e R s m args below meth c D cy A H0 nL Q S cells slots (pc + 3) lv rest) : G p l e R s m args below meth c D cy A H0 nL Q S cells slots pc lv (.int x :: rest) := fun L H locs ls a1 a2 a3 a4 a5 => lv_if_lt C.1 C.2.1 hdg ht (fun h => kt h L H locs ls a1 a2 a3 a4 a5) (fun h => kf h L H locs ls a1 a2 a3 a4 a5)
theorem G_icmp_lt (C : Cx p s m args meth c cc nL Ts own D cy A H0) {x y : Int32} {off : Int} {tgt : Nat} (hdg : decode cc pc = .ok (.if_icmp .lt off, 3)) (ht : (pc : Int) + off = (tgt : Int)) (kt : x < y → G p l e R s m args below meth c D cy A H0 nL Q S cells slots tgt lv rest) (kf : ¬ (x < y) → G p l e R s m args below meth c D cy A H0 nL Q S cells slots (pc + 3) lv rest) : G p l e R s m args below meth c D cy A H0 nL Q S cells slots pc lv (.int y :: .int x :: rest) := fun L H locs ls a1 a2 a3 a4 a5 => lv_icmp_lt C.1 C.2.1 hdg ht (fun h => kt h L H locs ls a1 a2 a3 a4 a5) (fun h => kf h L H locs ls a1 a2 a3 a4 a5)
theorem G_if_ge (C : Cx p s m args meth c cc nL Ts own D cy A H0) {x : Int32} {off : Int} {tgt : Nat} (hdg : decode cc pc = .ok (.ifCond .ge off, 3)) (ht : (pc : Int) + off = (tgt : Int)) (kt : 0 ≤ x → G p l e R s m args below meth c D cy A H0 nL Q S cells slots tgt lv rest) (kf : ¬ (0 ≤ x) → G p l e R s m args below meth c D cy A H0 nL Q S cells slots (pc + 3) lv rest) : G p l e R s m args below meth c D cy A H0 nL Q S cells slots pc lv (.int x :: rest) := fun L H locs ls a1 a2 a3 a4 a5 => lv_if_ge C.1 C.2.1 hdg ht (fun h => kt h L H locs ls a1 a2 a3 a4 a5) (fun h => kf h L H locs ls a1 a2 a3 a4 a5)
theorem G_icmp_ge (C : Cx p s m args meth c cc nL Ts own D cy A H0) {x y : Int32} {off : Int} {tgt : Nat} (hdg : decode cc pc = .ok (.if_icmp .ge off, 3)) (ht : (pc : Int) + off = (tgt : Int)) (kt : y ≤ x → G p l e R s m args below meth c D cy A H0 nL Q S cells slots tgt lv rest) (kf : ¬ (y ≤ x) → G p l e R s m args below meth c D cy A H0 nL Q S cells slots (pc + 3) lv rest) : G p l e R s m args below meth c D cy A H0 nL Q S cells slots pc lv (.int y :: .int x :: rest) := fun L H locs ls a1 a2 a3 a4 a5 => lv_icmp_ge C.1 C.2.1 hdg ht (fun h => kt h L H locs ls a1 a2 a3 a4 a5) (fun h => kf h L H locs ls a1 a2 a3 a4 a5)
theorem G_if_gt (C : Cx p s m args meth c cc nL Ts own D cy A H0) {x : Int32} {off : Int} {tgt : Nat} (hdg : decode cc pc = .ok (.ifCond .gt off, 3)) (ht : (pc : Int) + off = (tgt : Int)) (kt : 0 < x → G p l e R s m args below meth c D cy A H0 nL Q S cells slots tgt lv rest) (kf : ¬ (0 < x) → G p l e R s m args below meth c D cy A H0 nL Q S cells slots (pc + 3) lv rest) : G p l e R s m args below meth c D cy A H0 nL Q S cells slots pc lv (.int x :: rest) := fun L H locs ls a1 a2 a3 a4 a5 => lv_if_gt C.1 C.2.1 hdg ht (fun h => kt h L H locs ls a1 a2 a3 a4 a5) (fun h => kf h L H locs ls a1 a2 a3 a4 a5)
theorem G_icmp_gt (C : Cx p s m args meth c cc nL Ts own D cy A H0) {x y : Int32} {off : Int} {tgt : Nat} (hdg : decode cc pc = .ok (.if_icmp .gt off, 3)) (ht : (pc : Int) + off = (tgt : Int)) (kt : y < x → G p l e R s m args below meth c D cy A H0 nL Q S cells slots tgt lv rest) (kf : ¬ (y < x) → G p l e R s m args below meth c D cy A H0 nL Q S cells slots (pc + 3) lv rest) : G p l e R s m args below meth c D cy A H0 nL Q S cells slots pc lv (.int y :: .int x :: rest) := fun L H locs ls a1 a2 a3 a4 a5 => lv_icmp_gt C.1 C.2.1 hdg ht (fun h => kt h L H locs ls a1 a2 a3 a4 a5) (fun h => kf h L H locs ls a1 a2 a3 a4 a5)
theorem G_if_le (C : Cx p s m args meth c cc nL Ts own D cy A H0) {x : Int32} {off : Int} {tgt : Nat} (hdg : decode cc pc = .ok (.ifCond .le off, 3)) (ht : (pc : Int) + off = (tgt : Int)) (kt : x ≤ 0 → G p l e R s m args below meth c D cy A H0 nL Q S cells slots tgt lv rest) (kf : ¬ (x ≤ 0) → G p l e R s m args below meth c D cy A H0 nL Q S cells slots (pc + 3) lv rest) : G p l e R s m args below meth c D cy A H0 nL Q S cells slots pc lv (.int x :: rest) := fun L H locs ls a1 a2 a3 a4 a5 => lv_if_le C.1 C.2.1 hdg ht (fun h => kt h L H locs ls a1 a2 a3 a4 a5) (fun h => kf h L H locs ls a1 a2 a3 a4 a5)
theorem G_icmp_le (C : Cx p s m args meth c cc nL Ts own D cy A H0) {x y : Int32} {off : Int} {tgt : Nat} (hdg : decode cc pc = .ok (.if_icmp .le off, 3)) (ht : (pc : Int) + off = (tgt : Int)) (kt : x ≤ y → G p l e R s m args below meth c D cy A H0 nL Q S cells slots tgt lv rest) (kf : ¬ (x ≤ y) → G p l e R s m args below meth c D cy A H0 nL Q S cells slots (pc + 3) lv rest) : G p l e R s m args below meth c D cy A H0 nL Q S cells slots pc lv (.int y :: .int x :: rest) := fun L H locs ls a1 a2 a3 a4 a5 => lv_icmp_le C.1 C.2.1 hdg ht (fun h => kt h L H locs ls a1 a2 a3 a4 a5) (fun h => kf h L H locs ls a1 a2 a3 a4 a5)
theorem G_ifnull (C : Cx p s m args meth c cc nL Ts own D cy A H0) {r : Option Nat} {off : Int} {tgt : Nat} (hdg : decode cc pc = .ok (.ifnull off, 3)) (ht : (pc : Int) + off = (tgt : Int)) (kt : r = none → G p l e R s m args below meth c D cy A H0 nL Q S cells slots tgt lv rest) (kf : ∀ a, r = some a → G p l e R s m args below meth c D cy A H0 nL Q S cells slots (pc + 3) lv rest) : G p l e R s m args below meth c D cy A H0 nL Q S cells slots pc lv (va_rf r :: rest) := by
  intro L H locs ls a1 a2 a3 a4 a5
  cases r with
  | none => exact lv_ifnullN C.1 C.2.1 hdg ht (kt rfl L H locs ls a1 a2 a3 a4 a5)
  | some a => exact lv_ifnull C.1 C.2.1 hdg (kf a rfl L H locs ls a1 a2 a3 a4 a5)
theorem G_ifnonnull (C : Cx p s m args meth c cc nL Ts own D cy A H0) {r : Option Nat} {off : Int} {tgt : Nat} (hdg : decode cc pc = .ok (.ifnonnull off, 3)) (ht : (pc : Int) + off = (tgt : Int)) (kf : r = none → G p l e R s m args below meth c D cy A H0 nL Q S cells slots (pc + 3) lv rest) (kt : ∀ a, r = some a → G p l e R s m args below meth c D cy A H0 nL Q S cells slots tgt lv rest) : G p l e R s m args below meth c D cy A H0 nL Q S cells slots pc lv (va_rf r :: rest) := by
  intro L H locs ls a1 a2 a3 a4 a5
  cases r with
  | none => exact lv_ifnonnullN C.1 C.2.1 hdg (kf rfl L H locs ls a1 a2 a3 a4 a5)
  | some a => exact lv_ifnonnull C.1 C.2.1 hdg ht (kt a rfl L H locs ls a1 a2 a3 a4 a5)
theorem G_acmp_eq (C : Cx p s m args meth c cc nL Ts own D cy A H0) {rx ry : Option Nat} {off : Int} {tgt : Nat} (hdg : decode cc pc = .ok (.if_acmp .eq off, 3)) (ht : (pc : Int) + off = (tgt : Int)) (kt : rx = ry → G p l e R s m args below meth c D cy A H0 nL Q S cells slots tgt lv rest) (kf : ¬ rx = ry → G p l e R s m args below meth c D cy A H0 nL Q S cells slots (pc + 3) lv rest) : G p l e R s m args below meth c D cy A H0 nL Q S cells slots pc lv (va_rf ry :: va_rf rx :: rest) := fun L H locs ls a1 a2 a3 a4 a5 => lv_acmp_eq C.1 C.2.1 hdg ht (fun h => kt h L H locs ls a1 a2 a3 a4 a5) (fun h => kf h L H locs ls a1 a2 a3 a4 a5)
theorem G_acmp_ne (C : Cx p s m args meth c cc nL Ts own D cy A H0) {rx ry : Option Nat} {off : Int} {tgt : Nat} (hdg : decode cc pc = .ok (.if_acmp .ne off, 3)) (ht : (pc : Int) + off = (tgt : Int)) (kt : ¬ rx = ry → G p l e R s m args below meth c D cy A H0 nL Q S cells slots tgt lv rest) (kf : rx = ry → G p l e R s m args below meth c D cy A H0 nL Q S cells slots (pc + 3) lv rest) : G p l e R s m args below meth c D cy A H0 nL Q S cells slots pc lv (va_rf ry :: va_rf rx :: rest) := fun L H locs ls a1 a2 a3 a4 a5 => lv_acmp_ne C.1 C.2.1 hdg ht (fun h => kt h L H locs ls a1 a2 a3 a4 a5) (fun h => kf h L H locs ls a1 a2 a3 a4 a5)
theorem G_tableIn (C : Cx p s m args meth c cc nL Ts own D cy A H0) {dflt lo hi : Int} {offs : Array Int} {len : Nat} {x : Int32} {off : Int} {tgt : Nat} (hdg : decode cc pc = .ok (.tableswitch dflt lo hi offs, len)) (h1 : ¬ x.toInt < lo) (h2 : ¬ hi < x.toInt) (ho : offs[(x.toInt - lo).toNat]? = some off) (ht : (pc : Int) + off = (tgt : Int)) (k : G p l e R s m args below meth c D cy A H0 nL Q S cells slots tgt lv rest) : G p l e R s m args below meth c D cy A H0 nL Q S cells slots pc lv (.int x :: rest) := fun L H locs ls a1 a2 a3 a4 a5 => lv_tableIn C.1 C.2.1 hdg h1 h2 ho ht (k L H locs ls a1 a2 a3 a4 a5)
theorem G_tableOut (C : Cx p s m args meth c cc nL Ts own D cy A H0) {dflt lo hi : Int} {offs : Array Int} {len : Nat} {x : Int32} {tgt : Nat} (hdg : decode cc pc = .ok (.tableswitch dflt lo hi offs, len)) (h : x.toInt < lo ∨ hi < x.toInt) (ht : (pc : Int) + dflt = (tgt : Int)) (k : G p l e R s m args below meth c D cy A H0 nL Q S cells slots tgt lv rest) : G p l e R s m args below meth c D cy A H0 nL Q S cells slots pc lv (.int x :: rest) := fun L H locs ls a1 a2 a3 a4 a5 => lv_tableOut C.1 C.2.1 hdg h ht (k L H locs ls a1 a2 a3 a4 a5)
theorem G_lv (C : Cx p s m args meth c cc nL Ts own D cy A H0) {lv' : List (Nat × Value)} (js : List Nat) (hl : lv_pick lv js = lv') (k : G p l e R s m args below meth c D cy A H0 nL Q S cells slots pc lv' rest) : G p l e R s m args below meth c D cy A H0 nL Q S cells slots pc lv rest := fun L H locs ls a1 a2 a3 a4 a5 => k L H locs ls a1 a2 a3 a4 (lv_sub a5 js hl)
theorem G_widen {k n : Nat} (h1 : cells ≤ k) (h2 : slots ≤ n) (kk : G p l e R s m args below meth c D cy A H0 nL Q S k n pc lv rest) : G p l e R s m args below meth c D cy A H0 nL Q S cells slots pc lv rest := fun L H locs ls a1 a2 a3 a4 a5 => W.widen h1 h2 (kk L H locs ls a1 a2 a3 a4 a5)
/-- a pooled cell among the world's cells -/
theorem pl_at {L : List Nat} {a : Nat} (h : ∀ a, a ∈ L ↔ gK S a ≠ 0) (hk : gK S a ≠ 0) : ∃ q0 : Nat, (va_pl L (cF cy S))[q0]? = some (a, cF cy S a) := by
  obtain ⟨q0, h0⟩ := va_pl_get (X := []) (f := cF cy S) ((h a).mpr hk)
  exact ⟨q0, h0⟩
theorem pl_set {L : List Nat} {a q0 : Nat} {x : va_E} {S' : PT} (h : ∀ a, a ∈ L ↔ gK S a ≠ 0) (hk : gK S a ≠ 0) (hD : va_D A (va_pl L (cF cy S))) (h0 : (va_pl L (cF cy S))[q0]? = some (a, cF cy S a)) (hx : va_up (cF cy S) a x = cF cy S') : (va_pl L (cF cy S)).set q0 (a, x) = va_pl L (cF cy S') := by
  have h2 := va_pl_set (X := []) (e := x) hD ((h a).mpr hk) h0
  rw [hx] at h2
  exact h2
theorem G_get (C : Cx p s m args meth c cc nL Ts own D cy A H0) {CC ref : String} {Tf : u_T} {N k i a index : Nat} {v : Value} (hk : gK S a = k) (hk1 : 1 ≤ k ∧ k ≤ 11) (hc : vwCl[ck k]? = some (CC, Tf, N)) (hin : ∀ w ∈ u_ws CC Tf N, w ∈ Ts) (hi : i < N) (hlink : Cond.fieldLink own index ref (Tf i).2.1 (Tf i).2.2.1 ∈ Ts) (hsame : (Tf i).1 = ref) (hv : (cfl S k a 0 (lay k))[i]? = some v) (hdg : decode cc pc = .ok (.getfield index, 3)) (kk : G p l e R s m args below meth c D cy A H0 nL Q S cells slots (pc + 3) lv (v :: rest)) : G p l e R s m args below meth c D cy A H0 nL Q S cells slots pc lv (va_rf (some a) :: rest) := by
  intro L H locs ls a1 a2 a3 a4 a5
  obtain ⟨q0, h0⟩ := pl_at (cy := cy) a1 (a := a) (by omega)
  rw [cF_o hk hk1.2] at h0
  exact va_get C.1 C.2.1 C.2.2.2.2.1 hin C.2.2.2.1 C.2.2.2.2.2.1.1 a2 q0 h0 hc i hi (C.2.2.2.2.1 _ hlink) (fun x h => by rw [hsame] at h; exact h) hv hdg (kk L H locs ls a1 a2 a3 a4 a5)
theorem G_putI (C : Cx p s m args meth c cc nL Ts own D cy A H0) {CC ref : String} {Tf : u_T} {N k i f a index : Nat} {x : Int32} {ty0 : Nat → FieldType} {ty : FieldType} (hk : gK S a = k) (hk1 : 1 ≤ k ∧ k ≤ 11) (hc : vwCl[ck k]? = some (CC, Tf, N)) (hin : ∀ w ∈ u_ws CC Tf N, w ∈ Ts) (hty : ∀ k, k < N → parseFieldDescriptor (Tf k).2.2.1 = some (ty0 k)) (hnm : ∀ a, a < N → ∀ b, b < N → a ≠ b → (Tf a).2.1 ≠ (Tf b).2.1) (hi : i < N) (hlink : Cond.fieldLink own index ref (Tf i).2.1 (Tf i).2.2.1 ∈ Ts) (hsame : (Tf i).1 = ref) (hfin : (Tf i).2.2.2 = false) (hd : ty0 i = ty) (hn : narrow ty (.int x) = .int x) (hfit : fits ty (.int x) = true) (ht : (lay k)[i]? = some 0) (hf : 100 * k + i = f) (hdg : decode cc pc = .ok (.putfield index, 3)) (kk : G p l e R s m args below meth c D cy A H0 nL Q (sI S f a x) cells slots (pc + 3) lv rest) : G p l e R s m args below meth c D cy A H0 nL Q S cells slots pc lv (.int x :: va_rf (some a) :: rest) := by
  intro L H locs ls a1 a2 a3 a4 a5
  subst hf
  subst hd
  obtain ⟨q0, h0⟩ := pl_at (cy := cy) a1 (a := a) (by omega)
  have h0' := h0
  rw [cF_o hk hk1.2] at h0
  refine va_put C.1 C.2.1 C.2.2.2.2.1 hin ty0 hty hnm C.2.2.2.1 C.2.2.2.2.2.1.1 a2 a3 a4 q0 h0 hc i hi (C.2.2.2.2.1 _ hlink) (fun x h => by rw [hsame] at h; exact h) hfin (hty i hi) hn hfit (by rw [cfl_len]; exact (List.getElem?_eq_some_iff.mp ht).1) hdg (fun H locs b2 b3 b4 => ?_)
  rw [pl_set (S' := sI S (100 * k + i) a x) a1 (by omega) a3 h0' (cF_setI cy hk hk1.2 x ht)] at b2 b3
  exact kk L H locs ls a1 b2 b3 b4 a5
theorem G_putIF (C : Cx p s m args meth c cc nL Ts own D cy A H0) {CC ref : String} {Tf : u_T} {N k i f a index : Nat} {x : Int32} {ty0 : Nat → FieldType} {ty : FieldType} (hk : gK S a = k) (hk1 : 1 ≤ k ∧ k ≤ 11) (hc : vwCl[ck k]? = some (CC, Tf, N)) (hin : ∀ w ∈ u_ws CC Tf N, w ∈ Ts) (hty : ∀ k, k < N → parseFieldDescriptor (Tf k).2.2.1 = some (ty0 k)) (hnm : ∀ a, a < N → ∀ b, b < N → a ≠ b → (Tf a).2.1 ≠ (Tf b).2.1) (hi : i < N) (hlink : Cond.fieldLink own index ref (Tf i).2.1 (Tf i).2.2.1 ∈ Ts) (hsame : (Tf i).1 = ref) (hfin : (Tf i).2.2.2 = true) (hin2 : meth.name = "<init>") (hdecl : (Tf i).1 = own) (hd : ty0 i = ty) (hn : narrow ty (.int x) = .int x) (hfit : fits ty (.int x) = true) (ht : (lay k)[i]? = some 0) (hf : 100 * k + i = f) (hdg : decode cc pc = .ok (.putfield index, 3)) (kk : G p l e R s m args below meth c D cy A H0 nL Q (sI S f a x) cells slots (pc + 3) lv rest) : G p l e R s m args below meth c D cy A H0 nL Q S cells slots pc lv (.int x :: va_rf (some a) :: rest) := by
  intro L H locs ls a1 a2 a3 a4 a5
  subst hf
  subst hd
  obtain ⟨q0, h0⟩ := pl_at (cy := cy) a1 (a := a) (by omega)
  have h0' := h0
  rw [cF_o hk hk1.2] at h0
  refine va_putF C.1 C.2.1 C.2.2.2.2.1 hin ty0 hty hnm C.2.2.2.1 C.2.2.2.2.2.1.1 a2 a3 a4 q0 h0 hc i hi (C.2.2.2.2.1 _ hlink) (fun x h => by rw [hsame] at h; exact h) hfin hin2 hdecl (hty i hi) hn hfit (by rw [cfl_len]; exact (List.getElem?_eq_some_iff.mp ht).1) hdg (fun H locs b2 b3 b4 => ?_)
  rw [pl_set (S' := sI S (100 * k + i) a x) a1 (by omega) a3 h0' (cF_setI cy hk hk1.2 x ht)] at b2 b3
  exact kk L H locs ls a1 b2 b3 b4 a5
theorem G_putJ (C : Cx p s m args meth c cc nL Ts own D cy A H0) {CC ref : String} {Tf : u_T} {N k i f a index : Nat} {x : Int64} {ty0 : Nat → FieldType} {ty : FieldType} (hk : gK S a = k) (hk1 : 1 ≤ k ∧ k ≤ 11) (hc : vwCl[ck k]? = some (CC, Tf, N)) (hin : ∀ w ∈ u_ws CC Tf N, w ∈ Ts) (hty : ∀ k, k < N → parseFieldDescriptor (Tf k).2.2.1 = some (ty0 k)) (hnm : ∀ a, a < N → ∀ b, b < N → a ≠ b → (Tf a).2.1 ≠ (Tf b).2.1) (hi : i < N) (hlink : Cond.fieldLink own index ref (Tf i).2.1 (Tf i).2.2.1 ∈ Ts) (hsame : (Tf i).1 = ref) (hfin : (Tf i).2.2.2 = false) (hd : ty0 i = ty) (hn : narrow ty (.long x) = .long x) (hfit : fits ty (.long x) = true) (ht : (lay k)[i]? = some 1) (hf : 100 * k + i = f) (hdg : decode cc pc = .ok (.putfield index, 3)) (kk : G p l e R s m args below meth c D cy A H0 nL Q (sJ S f a x) cells slots (pc + 3) lv rest) : G p l e R s m args below meth c D cy A H0 nL Q S cells slots pc lv (.long x :: va_rf (some a) :: rest) := by
  intro L H locs ls a1 a2 a3 a4 a5
  subst hf
  subst hd
  obtain ⟨q0, h0⟩ := pl_at (cy := cy) a1 (a := a) (by omega)
  have h0' := h0
  rw [cF_o hk hk1.2] at h0
  refine va_put C.1 C.2.1 C.2.2.2.2.1 hin ty0 hty hnm C.2.2.2.1 C.2.2.2.2.2.1.1 a2 a3 a4 q0 h0 hc i hi (C.2.2.2.2.1 _ hlink) (fun x h => by rw [hsame] at h; exact h) hfin (hty i hi) hn hfit (by rw [cfl_len]; exact (List.getElem?_eq_some_iff.mp ht).1) hdg (fun H locs b2 b3 b4 => ?_)
  rw [pl_set (S' := sJ S (100 * k + i) a x) a1 (by omega) a3 h0' (cF_setJ cy hk hk1.2 x ht)] at b2 b3
  exact kk L H locs ls a1 b2 b3 b4 a5
theorem G_putJF (C : Cx p s m args meth c cc nL Ts own D cy A H0) {CC ref : String} {Tf : u_T} {N k i f a index : Nat} {x : Int64} {ty0 : Nat → FieldType} {ty : FieldType} (hk : gK S a = k) (hk1 : 1 ≤ k ∧ k ≤ 11) (hc : vwCl[ck k]? = some (CC, Tf, N)) (hin : ∀ w ∈ u_ws CC Tf N, w ∈ Ts) (hty : ∀ k, k < N → parseFieldDescriptor (Tf k).2.2.1 = some (ty0 k)) (hnm : ∀ a, a < N → ∀ b, b < N → a ≠ b → (Tf a).2.1 ≠ (Tf b).2.1) (hi : i < N) (hlink : Cond.fieldLink own index ref (Tf i).2.1 (Tf i).2.2.1 ∈ Ts) (hsame : (Tf i).1 = ref) (hfin : (Tf i).2.2.2 = true) (hin2 : meth.name = "<init>") (hdecl : (Tf i).1 = own) (hd : ty0 i = ty) (hn : narrow ty (.long x) = .long x) (hfit : fits ty (.long x) = true) (ht : (lay k)[i]? = some 1) (hf : 100 * k + i = f) (hdg : decode cc pc = .ok (.putfield index, 3)) (kk : G p l e R s m args below meth c D cy A H0 nL Q (sJ S f a x) cells slots (pc + 3) lv rest) : G p l e R s m args below meth c D cy A H0 nL Q S cells slots pc lv (.long x :: va_rf (some a) :: rest) := by
  intro L H locs ls a1 a2 a3 a4 a5
  subst hf
  subst hd
  obtain ⟨q0, h0⟩ := pl_at (cy := cy) a1 (a := a) (by omega)
  have h0' := h0
  rw [cF_o hk hk1.2] at h0
  refine va_putF C.1 C.2.1 C.2.2.2.2.1 hin ty0 hty hnm C.2.2.2.1 C.2.2.2.2.2.1.1 a2 a3 a4 q0 h0 hc i hi (C.2.2.2.2.1 _ hlink) (fun x h => by rw [hsame] at h; exact h) hfin hin2 hdecl (hty i hi) hn hfit (by rw [cfl_len]; exact (List.getElem?_eq_some_iff.mp ht).1) hdg (fun H locs b2 b3 b4 => ?_)
  rw [pl_set (S' := sJ S (100 * k + i) a x) a1 (by omega) a3 h0' (cF_setJ cy hk hk1.2 x ht)] at b2 b3
  exact kk L H locs ls a1 b2 b3 b4 a5
theorem G_putP (C : Cx p s m args meth c cc nL Ts own D cy A H0) {CC ref : String} {Tf : u_T} {N k i f a index : Nat} {x : Option Nat} {ty0 : Nat → FieldType} {ty : FieldType} (hk : gK S a = k) (hk1 : 1 ≤ k ∧ k ≤ 11) (hc : vwCl[ck k]? = some (CC, Tf, N)) (hin : ∀ w ∈ u_ws CC Tf N, w ∈ Ts) (hty : ∀ k, k < N → parseFieldDescriptor (Tf k).2.2.1 = some (ty0 k)) (hnm : ∀ a, a < N → ∀ b, b < N → a ≠ b → (Tf a).2.1 ≠ (Tf b).2.1) (hi : i < N) (hlink : Cond.fieldLink own index ref (Tf i).2.1 (Tf i).2.2.1 ∈ Ts) (hsame : (Tf i).1 = ref) (hfin : (Tf i).2.2.2 = false) (hd : ty0 i = ty) (hn : narrow ty (va_rf x) = va_rf x) (hfit : fits ty (va_rf x) = true) (ht : (lay k)[i]? = some 2) (hf : 100 * k + i = f) (hdg : decode cc pc = .ok (.putfield index, 3)) (kk : G p l e R s m args below meth c D cy A H0 nL Q (sP S f a x) cells slots (pc + 3) lv rest) : G p l e R s m args below meth c D cy A H0 nL Q S cells slots pc lv (va_rf x :: va_rf (some a) :: rest) := by
  intro L H locs ls a1 a2 a3 a4 a5
  subst hf
  subst hd
  obtain ⟨q0, h0⟩ := pl_at (cy := cy) a1 (a := a) (by omega)
  have h0' := h0
  rw [cF_o hk hk1.2] at h0
  refine va_put C.1 C.2.1 C.2.2.2.2.1 hin ty0 hty hnm C.2.2.2.1 C.2.2.2.2.2.1.1 a2 a3 a4 q0 h0 hc i hi (C.2.2.2.2.1 _ hlink) (fun x h => by rw [hsame] at h; exact h) hfin (hty i hi) hn hfit (by rw [cfl_len]; exact (List.getElem?_eq_some_iff.mp ht).1) hdg (fun H locs b2 b3 b4 => ?_)
  rw [pl_set (S' := sP S (100 * k + i) a x) a1 (by omega) a3 h0' (cF_setP cy hk hk1.2 x ht)] at b2 b3
  exact kk L H locs ls a1 b2 b3 b4 a5
theorem G_putPF (C : Cx p s m args meth c cc nL Ts own D cy A H0) {CC ref : String} {Tf : u_T} {N k i f a index : Nat} {x : Option Nat} {ty0 : Nat → FieldType} {ty : FieldType} (hk : gK S a = k) (hk1 : 1 ≤ k ∧ k ≤ 11) (hc : vwCl[ck k]? = some (CC, Tf, N)) (hin : ∀ w ∈ u_ws CC Tf N, w ∈ Ts) (hty : ∀ k, k < N → parseFieldDescriptor (Tf k).2.2.1 = some (ty0 k)) (hnm : ∀ a, a < N → ∀ b, b < N → a ≠ b → (Tf a).2.1 ≠ (Tf b).2.1) (hi : i < N) (hlink : Cond.fieldLink own index ref (Tf i).2.1 (Tf i).2.2.1 ∈ Ts) (hsame : (Tf i).1 = ref) (hfin : (Tf i).2.2.2 = true) (hin2 : meth.name = "<init>") (hdecl : (Tf i).1 = own) (hd : ty0 i = ty) (hn : narrow ty (va_rf x) = va_rf x) (hfit : fits ty (va_rf x) = true) (ht : (lay k)[i]? = some 2) (hf : 100 * k + i = f) (hdg : decode cc pc = .ok (.putfield index, 3)) (kk : G p l e R s m args below meth c D cy A H0 nL Q (sP S f a x) cells slots (pc + 3) lv rest) : G p l e R s m args below meth c D cy A H0 nL Q S cells slots pc lv (va_rf x :: va_rf (some a) :: rest) := by
  intro L H locs ls a1 a2 a3 a4 a5
  subst hf
  subst hd
  obtain ⟨q0, h0⟩ := pl_at (cy := cy) a1 (a := a) (by omega)
  have h0' := h0
  rw [cF_o hk hk1.2] at h0
  refine va_putF C.1 C.2.1 C.2.2.2.2.1 hin ty0 hty hnm C.2.2.2.1 C.2.2.2.2.2.1.1 a2 a3 a4 q0 h0 hc i hi (C.2.2.2.2.1 _ hlink) (fun x h => by rw [hsame] at h; exact h) hfin hin2 hdecl (hty i hi) hn hfit (by rw [cfl_len]; exact (List.getElem?_eq_some_iff.mp ht).1) hdg (fun H locs b2 b3 b4 => ?_)
  rw [pl_set (S' := sP S (100 * k + i) a x) a1 (by omega) a3 h0' (cF_setP cy hk hk1.2 x ht)] at b2 b3
  exact kk L H locs ls a1 b2 b3 b4 a5
theorem G_iald (C : Cx p s m args meth c cc nL Ts own D cy A H0) {a : Nat} {i : Int32} (hk : gK S a = 12) (hin : vp_in i (gN S a)) (hdg : decode cc pc = .ok (.iaload, 1)) (kk : G p l e R s m args below meth c D cy A H0 nL Q S cells slots (pc + 1) lv (.int (gA S a i.toNatClampNeg) :: rest)) : G p l e R s m args below meth c D cy A H0 nL Q S cells slots pc lv (.int i :: va_rf (some a) :: rest) := by
  intro L H locs ls a1 a2 a3 a4 a5
  obtain ⟨q0, h0⟩ := pl_at (cy := cy) a1 (a := a) (by omega)
  rw [cF_I hk] at h0
  exact va_iald C.1 C.2.1 C.2.2.2.2.2.1.1 a2 q0 0 h0 rfl hin hdg (kk L H locs ls a1 a2 a3 a4 a5)
theorem G_aald (C : Cx p s m args meth c cc nL Ts own D cy A H0) {a k : Nat} {i : Int32} {E : String} (hk : gK S a = k) (hk1 : 15 ≤ k) (ht : (tyl cy)[k - 12]? = some (cy (k - 12), .object E)) (hin : vp_in i (gN S a)) (hdg : decode cc pc = .ok (.aaload, 1)) (kk : G p l e R s m args below meth c D cy A H0 nL Q S cells slots (pc + 1) lv (va_rf (gR S a i.toNatClampNeg) :: rest)) : G p l e R s m args below meth c D cy A H0 nL Q S cells slots pc lv (.int i :: va_rf (some a) :: rest) := by
  intro L H locs ls a1 a2 a3 a4 a5
  obtain ⟨q0, h0⟩ := pl_at (cy := cy) a1 (a := a) (by omega)
  rw [cF_R hk hk1] at h0
  exact va_aldq C.1 C.2.1 C.2.2.2.2.2.1.1 a2 q0 (k - 12) h0 ht hin hdg (kk L H locs ls a1 a2 a3 a4 a5)
theorem G_iast (C : Cx p s m args meth c cc nL Ts own D cy A H0) {a : Nat} {i : Int32} {x : Int32} (hk : gK S a = 12) (hin : vp_in i (gN S a)) (hdg : decode cc pc = .ok (.iastore, 1)) (kk : G p l e R s m args below meth c D cy A H0 nL Q (sA S a i.toNatClampNeg x) cells slots (pc + 1) lv rest) : G p l e R s m args below meth c D cy A H0 nL Q S cells slots pc lv (.int x :: .int i :: va_rf (some a) :: rest) := by
  intro L H locs ls a1 a2 a3 a4 a5
  obtain ⟨q0, h0⟩ := pl_at (cy := cy) a1 (a := a) (by omega)
  have h0' := h0
  rw [cF_I hk] at h0
  refine va_iast C.1 C.2.1 C.2.2.2.2.2.1.1 a2 a3 a4 q0 0 h0 rfl hin hdg (fun H locs b2 b3 b4 => ?_)
  rw [pl_set (S' := sA S a i.toNatClampNeg x) a1 (by omega) a3 h0' (cF_setA cy _ hk x)] at b2 b3
  exact kk L H locs ls a1 b2 b3 b4 a5
theorem G_aast (C : Cx p s m args meth c cc nL Ts own D cy A H0) {a k b kb N : Nat} {i : Int32} {E : String} {Tf : u_T} (hk : gK S a = k) (hk1 : 15 ≤ k) (ht : (tyl cy)[k - 12]? = some (cy (k - 12), .object E)) (hb : gK S b = kb) (hb1 : 1 ≤ kb ∧ kb ≤ 11) (hc : vwCl[ck kb]? = some (E, Tf, N)) (hin : vp_in i (gN S a)) (hdg : decode cc pc = .ok (.aastore, 1)) (kk : G p l e R s m args below meth c D cy A H0 nL Q (sR S a i.toNatClampNeg (some b)) cells slots (pc + 1) lv rest) : G p l e R s m args below meth c D cy A H0 nL Q S cells slots pc lv (va_rf (some b) :: .int i :: va_rf (some a) :: rest) := by
  intro L H locs ls a1 a2 a3 a4 a5
  obtain ⟨q0, h0⟩ := pl_at (cy := cy) a1 (a := a) (by omega)
  have h0' := h0
  rw [cF_R hk hk1] at h0
  obtain ⟨q1, h1⟩ := pl_at (cy := cy) a1 (a := b) (by omega)
  rw [cF_o hb hb1.2] at h1
  refine va_astq C.1 C.2.1 C.2.2.2.2.2.1.1 a2 a3 a4 q0 (k - 12) q1 (ck kb) (r := (E, Tf, N)) h0 ht h1 hc hin hdg (fun H locs b2 b3 b4 => ?_)
  rw [pl_set (S' := sR S a i.toNatClampNeg (some b)) a1 (by omega) a3 h0' (cF_setR cy _ hk hk1 _)] at b2 b3
  exact kk L H locs ls a1 b2 b3 b4 a5
theorem G_alen (C : Cx p s m args meth c cc nL Ts own D cy A H0) {a k : Nat} {n : Nat} (hk : gK S a = k) (hk1 : 12 ≤ k ∧ k ≤ 20) (hn : gN S a = n) (hdg : decode cc pc = .ok (.arraylength, 1)) (kk : G p l e R s m args below meth c D cy A H0 nL Q S cells slots (pc + 1) lv (.int (nI n) :: rest)) : G p l e R s m args below meth c D cy A H0 nL Q S cells slots pc lv (va_rf (some a) :: rest) := by
  intro L H locs ls a1 a2 a3 a4 a5
  subst hn
  obtain ⟨q0, h0⟩ := pl_at (cy := cy) a1 (a := a) (by omega)
  rcases (show k = 12 ∨ k = 13 ∨ k = 14 ∨ 15 ≤ k by omega) with h | h | h | h
  · subst h; rw [cF_I hk] at h0
    exact va_alen C.1 C.2.1 C.2.2.2.2.2.1.1 a2 q0 0 h0 rfl rfl hdg (kk L H locs ls a1 a2 a3 a4 a5)
  · subst h; rw [cF_J hk] at h0
    exact va_alen C.1 C.2.1 C.2.2.2.2.2.1.1 a2 q0 1 h0 rfl rfl hdg (kk L H locs ls a1 a2 a3 a4 a5)
  · subst h; rw [cF_Z hk] at h0
    exact va_alen C.1 C.2.1 C.2.2.2.2.2.1.1 a2 q0 2 h0 rfl rfl hdg (kk L H locs ls a1 a2 a3 a4 a5)
  · rw [cF_R hk h] at h0
    rcases (show k = 15 ∨ k = 16 ∨ k = 17 ∨ k = 18 ∨ k = 19 ∨ k = 20 by omega) with h | h | h | h | h | h <;> subst h
    · exact va_alen C.1 C.2.1 C.2.2.2.2.2.1.1 a2 q0 3 h0 rfl rfl hdg (kk L H locs ls a1 a2 a3 a4 a5)
    · exact va_alen C.1 C.2.1 C.2.2.2.2.2.1.1 a2 q0 4 h0 rfl rfl hdg (kk L H locs ls a1 a2 a3 a4 a5)
    · exact va_alen C.1 C.2.1 C.2.2.2.2.2.1.1 a2 q0 5 h0 rfl rfl hdg (kk L H locs ls a1 a2 a3 a4 a5)
    · exact va_alen C.1 C.2.1 C.2.2.2.2.2.1.1 a2 q0 6 h0 rfl rfl hdg (kk L H locs ls a1 a2 a3 a4 a5)
    · exact va_alen C.1 C.2.1 C.2.2.2.2.2.1.1 a2 q0 7 h0 rfl rfl hdg (kk L H locs ls a1 a2 a3 a4 a5)
    · exact va_alen C.1 C.2.1 C.2.2.2.2.2.1.1 a2 q0 8 h0 rfl rfl hdg (kk L H locs ls a1 a2 a3 a4 a5)
theorem pl_new {L : List Nat} {q : Nat} {x : va_E} {S' : PT} {H : Heap} (h : ∀ a, a ∈ L ↔ gK S a ≠ 0) (hD : va_D A (va_pl L (cF cy S) ++ [(q, x)])) (hx : va_up (cF cy S) q x = cF cy S') (hK' : gK S' q ≠ 0) (hKo : ∀ b, b ≠ q → gK S' b = gK S b) : gK S q = 0 ∧ (∀ a, a ∈ L ++ [q] ↔ gK S' a ≠ 0) ∧ va_pl L (cF cy S) ++ [(q, x)] = va_pl (L ++ [q]) (cF cy S') := by
  have hq : q ∉ L := va_pl_fresh2 (X := []) hD
  have h0 : gK S q = 0 := by
    rcases Nat.eq_zero_or_pos (gK S q) with z | z
    · exact z
    · exact absurd ((h q).mpr (by omega)) hq
  refine ⟨h0, fun a => ?_, ?_⟩
  · by_cases ha : a = q
    · subst ha; simp [hK']
    · rw [hKo a ha, ← h a]; simp [ha]
  · rw [va_pl_push hq, hx]
theorem G_new (C : Cx p s m args meth c cc nL Ts own D cy A H0) {CC : String} {Tf : u_T} {N k index : Nat} {ty : Nat → FieldType} {fs : List Value} (hk1 : 1 ≤ k ∧ k ≤ 11) (hc : vwCl[ck k]? = some (CC, Tf, N)) (hin : ∀ w ∈ u_ws CC Tf N, w ∈ Ts) (hty : ∀ k, k < N → parseFieldDescriptor (Tf k).2.2.1 = some (ty k)) (hcl : Cond.classLink own index CC ∈ Ts) (hinst : Cond.instantiable CC N ∈ Ts) (hini : Cond.initialized CC ∈ Ts) (hfs : (lay k).map (fun t => match t with | 0 => Value.int 0 | 1 => Value.long 0 | _ => Value.null) = fs) (hfs2 : ∀ j, j < N → defaultValue (ty j) = vp_V fs j) (hcells : cells + 1 ≤ R.cells) (hslots : slots + N ≤ R.slots) (hdg : decode cc pc = .ok (.new index, 3)) (kk : ∀ q, gK S q = 0 → G p l e R s m args below meth c D cy A H0 nL Q (nO S q k) (cells + 1) (slots + N) (pc + 3) lv (va_rf (some q) :: rest)) : G p l e R s m args below meth c D cy A H0 nL Q S cells slots pc lv rest := by
  intro L H locs ls a1 a2 a3 a4 a5
  refine va_new C.1 C.2.1 C.2.2.2.2.1 hin ty hty C.2.2.2.1 (C.2.2.2.2.1 _ hcl) (C.2.2.2.2.1 _ hinst) (C.2.2.2.2.1 _ hini) C.2.2.2.2.2.1.1 a2 a3 a4 C.2.2.2.2.2.2.1 hc hfs2 hcells hslots hdg (fun q H1 b2 b3 b4 => ?_)
  obtain ⟨g1, g2, g3⟩ := pl_new (S' := nO S q k) (H := H1) a1 b3 (cF_new cy hk1.2 hfs) (by simp [nO, gK, va_up]; omega) (fun b hb => by simp [nO, gK, va_up, hb])
  rw [g3] at b2 b3
  exact kk q g1 (L ++ [q]) H1 locs ls g2 b2 b3 b4 a5
theorem K_arr {ty : FieldType} {cA cB : ClassId} {t0 : Nat} {tys : List (ClassId × FieldType)} (hK : va_K D vwCl (tyl cy) s) (ht : (tyl cy)[t0]? = some (cB, ty)) (hK2 : va_K D vwCl (tyl cy ++ [(cA, ty)]) s) : cA = cB := by
  have h1 := (hK.2 t0 _ ht).2
  have h2 := (hK2.2 (tyl cy).length (cA, ty) (by simp)).2
  cases ty with
  | object E =>
    obtain ⟨_, _, _, _, _, e1⟩ := h1
    obtain ⟨_, _, _, _, _, e2⟩ := h2
    exact Option.some.inj (e2.symm.trans e1)
  | _ =>
    first
    | exact Option.some.inj (Eq.trans (Eq.symm (show s.vm.findClass _ = some cA from h2)) (show s.vm.findClass _ = some cB from h1))
theorem G_newI (C : Cx p s m args meth c cc nL Ts own D cy A H0) {i : Int32} {n : Nat} (harr : Cond.arrayClass .int ∈ Ts) (hn0 : ¬ i < 0) (hn : i.toNatClampNeg = n) (hbytes : n * componentBytes .int ≤ 536870912) (hcells : cells + 1 ≤ R.cells) (hslots : slots + n ≤ R.slots) (hdg : decode cc pc = .ok (.newarray .int, 2)) (kk : ∀ q, gK S q = 0 → G p l e R s m args below meth c D cy A H0 nL Q (nA S q 12 n) (cells + 1) (slots + n) (pc + 2) lv (va_rf (some q) :: rest)) : G p l e R s m args below meth c D cy A H0 nL Q S cells slots pc lv (.int i :: rest) := by
  intro L H locs ls a1 a2 a3 a4 a5
  refine va_newa (atype := .int) (ty := .int) (a0 := (n, .inl (fun _ => 0))) C.1 C.2.1 (C.2.2.2.2.1 _ harr) rfl C.2.2.2.2.2.1.1 a2 a3 a4 C.2.2.2.2.2.2.1 (fun cA => rfl) hn0 hn hbytes hcells hslots hdg (fun q cA H1 hK2 b2 b3 b4 => ?_)
  have hcA : cA = cy 0 := K_arr (t0 := 0) (tys := []) C.2.2.2.2.2.1.1 rfl hK2
  subst hcA
  obtain ⟨g1, g2, g3⟩ := pl_new (S' := nA S q 12 n) (H := H1) a1 b3 (cF_newA cy (by rw [cF_I (by simp [nA, gK, va_up])]; simp [nA, gA, gB, gN, va_up])) (by simp [nA, gK, va_up]) (fun b hb => by simp [nA, gK, va_up, hb])
  rw [g3] at b2 b3
  exact kk q g1 (L ++ [q]) H1 locs ls g2 b2 b3 b4 a5
theorem G_newR (C : Cx p s m args meth c cc nL Ts own D cy A H0) {i : Int32} {n k index : Nat} {E : String} (hcl : Cond.classLink own index E ∈ Ts) (hao : va_AO E s) (hk1 : 15 ≤ k) (ht : (tyl cy)[k - 12]? = some (cy (k - 12), .object E)) (hn0 : ¬ i < 0) (hn : i.toNatClampNeg = n) (hbytes : n * 4 ≤ 536870912) (hcells : cells + 1 ≤ R.cells) (hslots : slots + n ≤ R.slots) (hdg : decode cc pc = .ok (.anewarray index, 3)) (kk : ∀ q, gK S q = 0 → G p l e R s m args below meth c D cy A H0 nL Q (nA S q k n) (cells + 1) (slots + n) (pc + 3) lv (va_rf (some q) :: rest)) : G p l e R s m args below meth c D cy A H0 nL Q S cells slots pc lv (.int i :: rest) := by
  intro L H locs ls a1 a2 a3 a4 a5
  refine va_newq C.1 C.2.1 C.2.2.2.1 (C.2.2.2.2.1 _ hcl) hao C.2.2.2.2.2.1.1 a2 a3 a4 C.2.2.2.2.2.2.1 hn0 hn hbytes hcells hslots hdg (fun q cA H1 hK2 b2 b3 b4 => ?_)
  have hcA : cA = cy (k - 12) := K_arr (t0 := k - 12) (tys := []) C.2.2.2.2.2.1.1 ht hK2
  subst hcA
  obtain ⟨g1, g2, g3⟩ := pl_new (S' := nA S q k n) (H := H1) a1 b3 (cF_newA cy (by rw [cF_R (k := k) (by simp [nA, gK, va_up]) hk1]; simp [nA, gR, gN, va_up])) (by simp [nA, gK, va_up]; omega) (fun b hb => by simp [nA, gK, va_up, hb])
  rw [g3] at b2 b3
  exact kk q g1 (L ++ [q]) H1 locs ls g2 b2 b3 b4 a5
end GR
