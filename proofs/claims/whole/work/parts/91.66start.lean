/-! the law's walk from its entry -/
theorem st_ai {args : Array Value} {s : State} (h : (Cond.arrayClass .int).before args s = true) : ∃ cA : ClassId, ArrOfT s cA .int ∧ va_RA s cA .int := by
  obtain ⟨cA, kA, comp, h1, h2, h3⟩ := Cond.arrayClass_spec h
  exact ⟨cA, fun n z => ⟨fun k h => (by cases h), kA, h2, comp, h3⟩, h1⟩
theorem st_al {args : Array Value} {s : State} (h : (Cond.arrayClass .long).before args s = true) : ∃ cA : ClassId, ArrOfT s cA .long ∧ va_RA s cA .long := by
  obtain ⟨cA, kA, comp, h1, h2, h3⟩ := Cond.arrayClass_spec h
  exact ⟨cA, fun n z => ⟨fun k h => (by cases h), kA, h2, comp, h3⟩, h1⟩
theorem st_ab {args : Array Value} {s : State} (h : (Cond.arrayClass .boolean).before args s = true) : ∃ cA : ClassId, ArrOfT s cA .boolean ∧ va_RA s cA .boolean := by
  obtain ⟨cA, kA, comp, h1, h2, h3⟩ := Cond.arrayClass_spec h
  exact ⟨cA, fun n z => ⟨fun k h => (by cases h), kA, h2, comp, h3⟩, h1⟩
theorem st_ao {args : Array Value} {s : State} {C : String} (h : (Cond.arrayOver (.object C)).before args s = true) : ∃ cA : ClassId, ArrOfT s cA (.object C) ∧ va_RA s cA (.object C) := by
  obtain ⟨comp, c, k, h1, h2, h3, h4, h5⟩ := Cond.arrayOver_spec h
  exact ⟨c, fun N z => ⟨(fun k h => by cases h), k, h3, comp, h4⟩, k, comp, h3, h4, h1, h5⟩
theorem st_nw {args : Array Value} {s : State} (hts : ∀ w ∈ lw_tbl, w.before args s = true) : ∀ w ∈ NWn, va_Nw w s := by
  unfold NWn
  refine List.forall_mem_cons.mpr ⟨va_Nw.of rfl (hts _ tw_1_44), ?_⟩
  refine List.forall_mem_cons.mpr ⟨va_Nw.of rfl (hts _ tw_1_83), ?_⟩
  refine List.forall_mem_cons.mpr ⟨va_Nw.of rfl (hts _ tw_2_16), ?_⟩
  refine List.forall_mem_cons.mpr ⟨va_Nw.of rfl (hts _ tw_2_199), ?_⟩
  refine List.forall_mem_cons.mpr ⟨va_Nw.of rfl (hts _ tw_1_147), ?_⟩
  refine List.forall_mem_cons.mpr ⟨va_Nw.of rfl (hts _ tw_1_215), ?_⟩
  refine List.forall_mem_cons.mpr ⟨va_Nw.of rfl (hts _ tw_1_231), ?_⟩
  refine List.forall_mem_cons.mpr ⟨va_Nw.of rfl (hts _ tw_7_115), ?_⟩
  refine List.forall_mem_cons.mpr ⟨va_Nw.of rfl (hts _ tw_1_149), ?_⟩
  refine List.forall_mem_cons.mpr ⟨va_Nw.of rfl (hts _ tw_1_151), ?_⟩
  refine List.forall_mem_cons.mpr ⟨va_Nw.of rfl (hts _ tw_1_153), ?_⟩
  refine List.forall_mem_cons.mpr ⟨va_Nw.of rfl (hts _ tw_7_121), ?_⟩
  exact fun x hx => absurd hx (List.not_mem_nil)
theorem st_ov {args : Array Value} {s : State} (hts : ∀ w ∈ lw_tbl, w.before args s = true) : ∀ E ∈ AOs, va_AO E s := by
  unfold AOs
  refine List.forall_mem_cons.mpr ⟨va_AO.of (hts _ tw_1_35), ?_⟩
  refine List.forall_mem_cons.mpr ⟨va_AO.of (hts _ tw_1_37), ?_⟩
  refine List.forall_mem_cons.mpr ⟨va_AO.of (hts _ tw_1_39), ?_⟩
  refine List.forall_mem_cons.mpr ⟨va_AO.of (hts _ tw_1_41), ?_⟩
  refine List.forall_mem_cons.mpr ⟨va_AO.of (hts _ tw_2_14), ?_⟩
  refine List.forall_mem_cons.mpr ⟨va_AO.of (hts _ tw_2_177), ?_⟩
  exact fun x hx => absurd hx (List.not_mem_nil)
theorem st_nc {args : Array Value} {s : State} (n1 : narrow_1_1.before args s = true) : ∀ x ∈ NCs, va_Nc x.1 x.2 s := by
  unfold NCs
  refine List.forall_mem_cons.mpr ⟨va_Nc.of (sy_nc1 n1), ?_⟩
  refine List.forall_mem_cons.mpr ⟨va_Nc.of (sy_nc2 n1), ?_⟩
  refine List.forall_mem_cons.mpr ⟨va_Nc.of (sy_nc3 n1), ?_⟩
  exact fun x hx => absurd hx (List.not_mem_nil)
theorem st_len {args : Array Value} {s : State} {t : Term} {a : Nat} {cell : Cell} (q1 : t.eval args s none [] s = some (.ref a)) (q3 : s.heap[a]? = some cell) (hl : (Cond.eq (Term.length t) (Term.int (0 : Int32))).before args s = true) : cell.slots.size.toInt32 = 0 := by
  have h0 : (Term.int (0 : Int32)).eval args s none [] s = some (.int 0) := rfl
  unfold Cond.before Cond.holds at hl
  rw [beq_iff_eq] at hl
  cases hr : s.arrayAt? a with
  | none =>
    have ev : (Term.length t).eval args s none [] s = none := by simp [Term.eval, q1, hr]
    simp [Cond.value, ev] at hl
  | some cell2 =>
    have hc := (State.arrayAt?_spec hr).1
    rw [q3] at hc
    cases hc
    by_cases hs : cell.slots.size < 2 ^ 31
    · have ev : (Term.length t).eval args s none [] s = some (.int cell.slots.size.toInt32) := by simp [Term.eval, q1, hr, hs]
      rw [Cond.eq_ints ev h0] at hl
      simpa using hl
    · have ev : (Term.length t).eval args s none [] s = none := by simp [Term.eval, q1, hr, hs]
      simp [Cond.value, ev] at hl
/-- the list's empty row -/
theorem st_row {args : Array Value} {s : State} (hts : ∀ w ∈ lw_tbl, w.before args s = true) (n1 : narrow_1_1.before args s = true) : ∃ a : Nat, va_Z "java/util/ArrayList" "DEFAULTCAPACITY_EMPTY_ELEMENTDATA" "[Ljava/lang/Object;" (.ref a) (fun q => s.heap.size ≤ q) s s.heap ∧ ¬ s.heap.size ≤ a ∧ ∃ cell : Cell, s.heap[a]? = some cell ∧ cell.slots.size.toInt32 = 0 ∧ s.isArrayOf cell (.object "java/lang/Object") := by
  have hA : ∀ a : Nat, a < s.heap.size → ¬ s.heap.size ≤ a := fun a h => Nat.not_le.mpr h
  obtain ⟨a, c, cell, k, q1, q2, q3, q4, q5, q6, -⟩ := Cond.exactly_spec (sy_exa n1)
  obtain ⟨comp, c8, k8, o1, o2, o3, o4, o5⟩ := Cond.arrayOver_spec (hts _ tw_2_177)
  have e5 : "[" ++ (FieldType.object "java/lang/Object").toString = "[Ljava/lang/Object;" := by decide +kernel
  rw [e5] at o5
  have e8 : c = c8 := by
    have h : some c = some c8 := q2.symm.trans o5
    cases h
    rfl
  subst e8
  have hlt : a < s.heap.size := (Array.getElem?_eq_some_iff.mp q3).1
  refine ⟨a, va_Zref (hts _ tw_1_69) (hts _ (GW_tbl tw_1_5)) q1 hA, Nat.not_le.mpr hlt, cell, q3, ?_, fun k h => ?_, k8, by rw [q6]; exact o3, comp, o4⟩
  · exact st_len q1 q3 (sy_len n1)
  · rw [h] at q5
    exact absurd (show true = false from q5) (by decide)
theorem st_zz {args : Array Value} {s : State} (hts : ∀ w ∈ lw_tbl, w.before args s = true) (n1 : narrow_1_1.before args s = true) (n2 : narrow_1_2.before args s = true) (n3 : narrow_1_3.before args s = true) (n4 : narrow_1_4.before args s = true) : ∃ a9 a10 : Nat, ∀ cy : Nat → Nat, cy 9 = a9 → cy 10 = a10 → ZZ cy (fun q => s.heap.size ≤ q) s s.heap := by
  have hA : ∀ a : Nat, a < s.heap.size → ¬ s.heap.size ≤ a := fun a h => Nat.not_le.mpr h
  obtain ⟨a9, z1, z2, z3⟩ := st_row hts n1
  obtain ⟨a10, z4⟩ := va_Mi.of (sy_mir n1)
  refine ⟨a9, a10, fun cy e9 e10 => ?_⟩
  unfold ZZ
  rw [e9, e10]
  exact ⟨vx_Zqof (hts _ tw_1_172) (hts _ (GW_tbl tw_1_8)) (sy_una n1) hA, vx_Zqof (hts _ tw_1_174) (hts _ (GW_tbl tw_1_8)) (sy_sup n1) hA, z1, ⟨z2, z3⟩, z4, st_strs hts n1 n2 n3 n4⟩
theorem st_cl {args : Array Value} {s : State} (hts : ∀ w ∈ lw_tbl, w.before args s = true) : ∃ D : va_G, ∀ (k : Nat) (q : vw_C), vwCl[k]? = some q → u_Kn s q.1 q.2.1 q.2.2 (D.1 k) (D.2 k) := by
  have hg : ∀ w ∈ GW, w.before args s = true := fun w hw => hts w (GW_tbl hw)
  obtain ⟨c0, i0, h0⟩ := u_known (C := RJx4a65c) (T := TJx4a65c) (N := 3) (n := 3) hg fwJx4a65c (hg _ tw_1_57)
  obtain ⟨c1, i1, h1⟩ := u_known (C := RX0) (T := TX0) (N := 6) (n := 6) hg fwX0 (hg _ tw_4_104)
  obtain ⟨c2, i2, h2⟩ := u_known (C := RX1) (T := TX1) (N := 2) (n := 2) hg fwX1 (hg _ tw_1_43)
  obtain ⟨c3, i3, h3⟩ := u_known (C := RX2) (T := TX2) (N := 4) (n := 4) hg fwX2 (hg _ tw_2_15)
  obtain ⟨c4, i4, h4⟩ := u_known (C := RX3) (T := TX3) (N := 4) (n := 4) hg fwX3 (hg _ tw_1_82)
  obtain ⟨c5, i5, h5⟩ := u_known (C := RX4) (T := TX4) (N := 12) (n := 12) hg fwX4 (hg _ tw_2_5)
  obtain ⟨c6, i6, h6⟩ := u_known (C := RX5) (T := TX5) (N := 4) (n := 4) hg fwX5 (hg _ tw_2_104)
  obtain ⟨c7, i7, h7⟩ := u_known (C := RX6) (T := TX6) (N := 8) (n := 8) hg fwX6 (hg _ tw_2_219)
  obtain ⟨c8, i8, h8⟩ := u_known (C := RX7) (T := TX7) (N := 18) (n := 18) hg fwX7 (hg _ tw_3_87)
  obtain ⟨c9, i9, h9⟩ := u_known (C := RX8) (T := TX8) (N := 10) (n := 10) hg fwX8 (hg _ tw_1_27)
  obtain ⟨c10, i10, h10⟩ := u_known (C := RX9) (T := TX9) (N := 50) (n := 50) hg fwX9 (hg _ tw_5_123)
  refine ⟨(fun k => [c0, c1, c2, c3, c4, c5, c6, c7, c8, c9, c10].getD k 0, fun k => [i0, i1, i2, i3, i4, i5, i6, i7, i8, i9, i10].getD k (fun _ => 0)), ?_⟩
  intro k q hq
  match k, hq with
  | 0, hq => cases hq; exact h0
  | 1, hq => cases hq; exact h1
  | 2, hq => cases hq; exact h2
  | 3, hq => cases hq; exact h3
  | 4, hq => cases hq; exact h4
  | 5, hq => cases hq; exact h5
  | 6, hq => cases hq; exact h6
  | 7, hq => cases hq; exact h7
  | 8, hq => cases hq; exact h8
  | 9, hq => cases hq; exact h9
  | 10, hq => cases hq; exact h10
  | k + 11, hq => simp [vwCl] at hq
theorem st_ty {args : Array Value} {s : State} (hts : ∀ w ∈ lw_tbl, w.before args s = true) (a9 a10 : Nat) : ∃ cy : Nat → Nat, cy 9 = a9 ∧ cy 10 = a10 ∧ ∀ (k : Nat) (q : ClassId × FieldType), (tyl cy)[k]? = some q → ArrOfT s q.1 q.2 ∧ va_RA s q.1 q.2 := by
  have hg : ∀ w ∈ GW, w.before args s = true := fun w hw => hts w (GW_tbl hw)
  obtain ⟨c0, h0⟩ := st_ai (hg _ tw_1_55)
  obtain ⟨c1, h1⟩ := st_al (hg _ tw_6_40)
  obtain ⟨c2, h2⟩ := st_ab (hg _ tw_6_39)
  obtain ⟨c3, h3⟩ := st_ao (hts _ tw_2_14)
  obtain ⟨c4, h4⟩ := st_ao (hts _ tw_1_41)
  obtain ⟨c5, h5⟩ := st_ao (hts _ tw_1_35)
  obtain ⟨c6, h6⟩ := st_ao (hts _ tw_1_37)
  obtain ⟨c7, h7⟩ := st_ao (hts _ tw_1_39)
  obtain ⟨c8, h8⟩ := st_ao (hts _ tw_2_177)
  refine ⟨fun k => [c0, c1, c2, c3, c4, c5, c6, c7, c8, a9, a10].getD k 0, rfl, rfl, ?_⟩
  intro k q hq
  match k, hq with
  | 0, hq => cases hq; exact h0
  | 1, hq => cases hq; exact h1
  | 2, hq => cases hq; exact h2
  | 3, hq => cases hq; exact h3
  | 4, hq => cases hq; exact h4
  | 5, hq => cases hq; exact h5
  | 6, hq => cases hq; exact h6
  | 7, hq => cases hq; exact h7
  | 8, hq => cases hq; exact h8
  | k + 9, hq => simp [tyl] at hq
set_option maxHeartbeats 4000000 in
set_option maxRecDepth 100000 in
theorem st_walk {p : Program} {l : Launch} {e : Env} {s : State} {m9 : MethodId} {below : List Frame} {meth : Method} {c : Code} {D : va_G} {cy : Nat → Nat} {b L : Nat} {xs : Nat → Int32} (hl : l.stackTraces = false) (C : Cx p s m9 #[va_rf (some b)] meth c cL_law 8 lw_tbl "TrenchboardLaw" D cy (fun q => s.heap.size ≤ q) s.heap) (hZ : ZZ cy (fun q => s.heap.size ≤ q) s s.heap) (hX : va_X b L xs s s.heap) (hbl : b < s.heap.size) (hr : meth.sig.returnType = ret) (hlocks : meth.locks = false) (hL : L ≤ 4608) :
    GL p l e room_1 s m9 #[va_rf (some b)] below meth c D cy (fun q => s.heap.size ≤ q) s.heap 8 (lw_Z below #[Value.ref b] s) P0 P0 0 0 0 [(0, va_rf (some b))] [] := by
  have k1 : (300000 : Nat) ≤ room_1.cells := by decide
  have k2 : (2000000 : Nat) ≤ room_1.slots := by decide
  have law := pure_law (cy 9) (cy 10) L xs hL
  refine GL_new1 C hZ (CC := RX8) (Tf := TX8) (N := 10) (k := 9) (fs := [Value.null, Value.int 0, Value.null, Value.int 0, Value.null, Value.int 0, Value.null, Value.null, Value.null, Value.int 0]) (by decide) rfl fwX8 tyX8_ok tw_1_26 tw_1_27 tw_1_1 rfl dv_X8 (by omega) (by omega) dL_law_0 (fun x hx => ?_)
  obtain ⟨m1, m2, b1, b2, law⟩ := law x _ rfl
  refine GL_dup C dL_law_3 rfl ?_
  refine GL_callI1 C hZ (b := x) (y := yX8_init) (bytes := prog_1_method_1_code) (maxL := 2) (n := 0) (fr := 4) (lo := 76) (As := []) tw_1_28 tw_1_29 tw_1_1 rfl tw_1_30 (by decide +kernel) (by decide) (c_X8_init l D cy (cy 9) (cy 10) rfl rfl x _ m1 m2 _ law) rfl rfl (Nat.le_of_ble_eq_true rfl) dL_law_4 ⟨by omega, by omega⟩ (fun S2 law => ?_)
  obtain ⟨b3, b4, law⟩ := law
  refine GL_astore_n C (x := some x) (lv' := [(1, va_rf (some x)), (0, va_rf (some b))]) dL_law_7 rfl (by decide) rfl ?_
  refine GL_new2 C hZ (CC := RX9) (Tf := TX9) (N := 50) (k := 10) (by decide) rfl fwX9 tyX9_ok tw_5_122 tw_5_123 tw_1_7 rfl dv_X9 (by omega) (by omega) dL_law_8 (fun m hm => ?_)
  obtain ⟨m3, m4, b5, b6, law⟩ := law m _ rfl
  refine GL_dup C dL_law_11 rfl ?_
  refine GL_callI2 C hZ (b := m) (y := yX9_init) (bytes := prog_11_method_1_code) (maxL := 2) (n := 0) (fr := 1) (lo := 16) (As := []) tw_5_124 tw_5_125 tw_1_7 rfl tw_5_126 (by decide +kernel) (by decide) (c_X9_init l D cy m _ m3 m4 _ law) rfl rfl (Nat.le_of_ble_eq_true rfl) dL_law_12 ⟨by omega, by omega⟩ (fun T2 law => ?_)
  obtain ⟨b7, b8, law⟩ := law
  refine GL_astore_n C (x := some m) (lv' := [(2, va_rf (some m)), (1, va_rf (some x)), (0, va_rf (some b))]) dL_law_15 rfl (by decide) rfl ?_
  refine GL_iconst C (v := 1) dL_law_16 (by decide) ?_
  refine GL_newJ C hZ (n := 1) tw_6_40 (by decide) (by decide) (by decide) (by omega) (by omega) dL_law_17 (fun o ho => ?_)
  obtain ⟨n, law⟩ := law o _ ho rfl
  refine GL_astore_n C (x := some o) (lv' := [(3, va_rf (some o)), (2, va_rf (some m)), (1, va_rf (some x)), (0, va_rf (some b))]) dL_law_19 rfl (by decide) rfl ?_
  refine GL_iconst C (v := 0) dL_law_20 (by decide) ?_
  refine GL_istore C (x := 0) (lv' := [(4, Value.int 0), (3, va_rf (some o)), (2, va_rf (some m)), (1, va_rf (some x)), (0, va_rf (some b))]) dL_law_21 (by decide) rfl ?_
  refine GL_lv C (lv' := [(0, va_rf (some b)), (1, va_rf (some x)), (2, va_rf (some m)), (3, va_rf (some o)), (4, Value.int 0)]) [4, 3, 2, 1, 0] rfl ?_
  refine GL_widen (k := 1 + m1 + 1 + m3 + 1) (n := 10 + m2 + 50 + m4 + 1) (by omega) (by omega) ?_
  exact k_loop hl C hZ hX hbl (Nat.not_le.mpr hbl) rfl hr hlocks (cy 9) (cy 10) x m o rfl rfl n 0 _ _ _ _ law
set_option maxHeartbeats 4000000 in
/-- from the entry, for every script of at most 4608 ints, the law comes to its end with true -/
theorem whole_start {p : Program} {e : Env} {s : State} {m : MethodId} {below : List Frame} {meth : Method} {c : Code} (l : Launch) (hflags : l.flags = flags0) {b L : Nat} {xs : Nat → Int32} (hL : L ≤ 4608) (C0 : lw_At p s m meth c b L xs) : W p l e room_1 s m #[Value.ref b] below meth c s.heap [] 0 0 (lw_Z below #[Value.ref b] s) (entryFrame m ([Value.ref b] : List Value).toArray 8) := by
  obtain ⟨hx, hb, hr, hml, hown, hts, hX, hbl, hlocks, hgv⟩ := id C0
  have hst : l.stackTraces = false := by
    unfold Launch.stackTraces
    rw [hflags]
    decide +kernel
  have hn := b_r hgv
  have n12 := b_l hn
  have n34 := b_r hn
  obtain ⟨a9, a10, hz⟩ := st_zz hts (b_l n12) (b_r n12) (b_l n34) (b_r n34)
  obtain ⟨D, hD⟩ := st_cl hts
  obtain ⟨cy, e9, e10, hT⟩ := st_ty hts a9 a10
  have C : Cx p s m #[va_rf (some b)] meth c cL_law 8 lw_tbl "TrenchboardLaw" D cy (fun q => s.heap.size ≤ q) s.heap := ⟨hx, hb, hml, hown, hts, ⟨⟨hD, hT⟩, st_nw hts, st_ov hts, st_nc (b_l n12)⟩, fun q h => h, hlocks⟩
  have key := st_walk (e := e) (below := below) hst C (hz cy e9 e10) hX hbl hr hlocks hL
  have hl := lv_entry ([.ref b]) (n := 8) (Nat.le_of_ble_eq_true rfl)
  rw [lg_entry_eq]
  generalize (lg_sl ([.ref b]) ++ List.replicate (8 - (lg_sl ([.ref b])).length) Slot.unset).toArray = ls at hl ⊢
  have hl : lv_has ls 8 [(0, .ref b)] := hl
  have d0 : dm P0 [] := fun a => ⟨fun h => absurd h (List.not_mem_nil), fun h => absurd rfl h⟩
  have p0 : va_P D vwCl (va_pl [] (cF cy P0)) s.heap := fun k q h => by simp [va_pl] at h
  have v0 : va_D (fun q : Nat => s.heap.size ≤ q) (va_pl [] (cF cy P0)) := ⟨fun i j p q h => by simp [va_pl] at h, fun k q h => by simp [va_pl] at h⟩
  exact key [] [] s.heap [] ls d0 d0 p0 p0 ⟨v0, v0, fun a h => absurd h (List.not_mem_nil)⟩ va_S.rf hl
