/-! the law's walk from its entry -/
theorem st_ai {args : Array Value} {s : State} (h : (Cond.arrayClass .int).before args s = true) : ∃ cA : ClassId, ArrOfT s cA .int ∧ va_RA s cA .int := by
  obtain ⟨cA, kA, comp, h1, h2, h3⟩ := Cond.arrayClass_spec h
  exact ⟨cA, fun n z => ⟨fun k h => (by cases h), kA, h2, comp, h3⟩, h1⟩
theorem st_ao {args : Array Value} {s : State} {C : String} (h : (Cond.arrayOver (.object C)).before args s = true) : ∃ cA : ClassId, ArrOfT s cA (.object C) ∧ va_RA s cA (.object C) := by
  obtain ⟨comp, c, k, h1, h2, h3, h4, h5⟩ := Cond.arrayOver_spec h
  exact ⟨c, fun N z => ⟨(fun k h => by cases h), k, h3, comp, h4⟩, k, comp, h3, h4, h1, h5⟩
theorem st_nw {args : Array Value} {s : State} (hts : ∀ w ∈ lw_tbl, w.before args s = true) : ∀ w ∈ NWn, va_Nw w s := by
  unfold NWn
  refine List.forall_mem_cons.mpr ⟨va_Nw.of rfl (hts _ tw_1_43), ?_⟩
  refine List.forall_mem_cons.mpr ⟨va_Nw.of rfl (hts _ tw_1_82), ?_⟩
  refine List.forall_mem_cons.mpr ⟨va_Nw.of rfl (hts _ tw_2_74), ?_⟩
  refine List.forall_mem_cons.mpr ⟨va_Nw.of rfl (hts _ tw_3_6), ?_⟩
  refine List.forall_mem_cons.mpr ⟨va_Nw.of rfl (hts _ tw_1_144), ?_⟩
  refine List.forall_mem_cons.mpr ⟨va_Nw.of rfl (hts _ tw_1_212), ?_⟩
  refine List.forall_mem_cons.mpr ⟨va_Nw.of rfl (hts _ tw_2_49), ?_⟩
  refine List.forall_mem_cons.mpr ⟨va_Nw.of rfl (hts _ tw_5_75), ?_⟩
  refine List.forall_mem_cons.mpr ⟨va_Nw.of rfl (hts _ tw_1_146), ?_⟩
  refine List.forall_mem_cons.mpr ⟨va_Nw.of rfl (hts _ tw_1_148), ?_⟩
  refine List.forall_mem_cons.mpr ⟨va_Nw.of rfl (hts _ tw_1_150), ?_⟩
  refine List.forall_mem_cons.mpr ⟨va_Nw.of rfl (hts _ tw_5_81), ?_⟩
  exact fun x hx => absurd hx (List.not_mem_nil)
theorem st_ov {args : Array Value} {s : State} (hts : ∀ w ∈ lw_tbl, w.before args s = true) : ∀ E ∈ AOs, va_AO E s := by
  unfold AOs
  refine List.forall_mem_cons.mpr ⟨va_AO.of (hts _ tw_1_34), ?_⟩
  refine List.forall_mem_cons.mpr ⟨va_AO.of (hts _ tw_1_36), ?_⟩
  refine List.forall_mem_cons.mpr ⟨va_AO.of (hts _ tw_1_38), ?_⟩
  refine List.forall_mem_cons.mpr ⟨va_AO.of (hts _ tw_1_40), ?_⟩
  refine List.forall_mem_cons.mpr ⟨va_AO.of (hts _ tw_2_72), ?_⟩
  refine List.forall_mem_cons.mpr ⟨va_AO.of (hts _ tw_2_227), ?_⟩
  exact fun x hx => absurd hx (List.not_mem_nil)
theorem st_nc {args : Array Value} {s : State} (n1 : narrow_1_1.before args s = true) : ∀ x ∈ NCs, va_Nc x.1 x.2 s := by
  unfold NCs
  refine List.forall_mem_cons.mpr ⟨va_Nc.of (sy_nc1 n1), ?_⟩
  refine List.forall_mem_cons.mpr ⟨va_Nc.of (sy_nc2 n1), ?_⟩
  refine List.forall_mem_cons.mpr ⟨va_Nc.of (sy_nc3 n1), ?_⟩
  exact fun x hx => absurd hx (List.not_mem_nil)
theorem st_len {args : Array Value} {s : State} {t : Term} {a : Nat} {cell : Cell} (q1 : t.eval args s none [] s = some (.ref a)) (q3 : s.heap[a]? = some cell) (hl : (Cond.eq (Term.length t) (Term.int (0 : Int32))).before args s = true) : cell.slots.size.toInt32 = 0 := by
  have h0 : (Term.int (0 : Int32)).eval args s none [] s = some (.int 0) := rfl
  unfold Cond.before Cond.holds at hl
  rw [beq_iff_eq] at hl
  cases hr : s.arrayAt? a with
  | none =>
    have ev : (Term.length t).eval args s none [] s = none := by simp [Term.eval, q1, hr]
    simp [Cond.value, ev] at hl
  | some cell2 =>
    have hc := (State.arrayAt?_spec hr).1
    rw [q3] at hc
    cases hc
    by_cases hs : cell.slots.size < 2 ^ 31
    · have ev : (Term.length t).eval args s none [] s = some (.int cell.slots.size.toInt32) := by simp [Term.eval, q1, hr, hs]
      rw [Cond.eq_ints ev h0] at hl
      simpa using hl
    · have ev : (Term.length t).eval args s none [] s = none := by simp [Term.eval, q1, hr, hs]
      simp [Cond.value, ev] at hl
/-- the list's empty row -/
theorem st_row {args : Array Value} {s : State} (hts : ∀ w ∈ lw_tbl, w.before args s = true) (n1 : narrow_1_1.before args s = true) : ∃ a : Nat, va_Z "java/util/ArrayList" "DEFAULTCAPACITY_EMPTY_ELEMENTDATA" "[Ljava/lang/Object;" (.ref a) (fun q => s.heap.size ≤ q) s s.heap ∧ ¬ s.heap.size ≤ a ∧ ∃ cell : Cell, s.heap[a]? = some cell ∧ cell.slots.size.toInt32 = 0 ∧ s.isArrayOf cell (.object "java/lang/Object") := by
  have hA : ∀ a : Nat, a < s.heap.size → ¬ s.heap.size ≤ a := fun a h => Nat.not_le.mpr h
  obtain ⟨a, c, cell, k, q1, q2, q3, q4, q5, q6, -⟩ := Cond.exactly_spec (sy_exa n1)
  obtain ⟨comp, c8, k8, o1, o2, o3, o4, o5⟩ := Cond.arrayOver_spec (hts _ tw_2_227)
  have e5 : "[" ++ (FieldType.object "java/lang/Object").toString = "[Ljava/lang/Object;" := by decide +kernel
  rw [e5] at o5
  have e8 : c = c8 := by
    have h : some c = some c8 := q2.symm.trans o5
    cases h
    rfl
  subst e8
  have hlt : a < s.heap.size := (Array.getElem?_eq_some_iff.mp q3).1
  refine ⟨a, va_Zref (hts _ tw_1_68) (hts _ (GW_tbl tw_1_5)) q1 hA, Nat.not_le.mpr hlt, cell, q3, ?_, fun k h => ?_, k8, by rw [q6]; exact o3, comp, o4⟩
  · exact st_len q1 q3 (sy_len n1)
  · rw [h] at q5
    exact absurd (show true = false from q5) (by decide)
theorem st_zz {args : Array Value} {s : State} (hts : ∀ w ∈ lw_tbl, w.before args s = true) (n1 : narrow_1_1.before args s = true) (n2 : narrow_1_2.before args s = true) (n3 : narrow_1_3.before args s = true) (n4 : narrow_1_4.before args s = true) : ∃ a9 a10 : Nat, ∀ cy : Nat → Nat, cy 9 = a9 → cy 10 = a10 → ZZ cy (fun q => s.heap.size ≤ q) s s.heap := by
  have hA : ∀ a : Nat, a < s.heap.size → ¬ s.heap.size ≤ a := fun a h => Nat.not_le.mpr h
  obtain ⟨a9, z1, z2, z3⟩ := st_row hts n1
  obtain ⟨a10, z4⟩ := va_Mi.of (sy_mir n1)
  refine ⟨a9, a10, fun cy e9 e10 => ?_⟩
  unfold ZZ
  rw [e9, e10]
  exact ⟨vx_Zqof (hts _ tw_1_169) (hts _ (GW_tbl tw_1_7)) (sy_una n1) hA, vx_Zqof (hts _ tw_1_171) (hts _ (GW_tbl tw_1_7)) (sy_sup n1) hA, z1, ⟨z2, z3⟩, z4, st_strs hts n1 n2 n3 n4⟩
theorem st_cl {args : Array Value} {s : State} (hts : ∀ w ∈ lw_tbl, w.before args s = true) : ∃ D : va_G, ∀ (k : Nat) (q : vw_C), vwCl[k]? = some q → u_Kn s q.1 q.2.1 q.2.2 (D.1 k) (D.2 k) := by
  have hg : ∀ w ∈ GW, w.before args s = true := fun w hw => hts w (GW_tbl hw)
  obtain ⟨c0, i0, h0⟩ := u_known (C := RJx4a65c) (T := TJx4a65c) (N := 3) (n := 3) hg fwJx4a65c (hg _ tw_1_56)
  obtain ⟨c1, i1, h1⟩ := u_known (C := RX0) (T := TX0) (N := 6) (n := 6) hg fwX0 (hg _ tw_3_237)
  obtain ⟨c2, i2, h2⟩ := u_known (C := RX1) (T := TX1) (N := 2) (n := 2) hg fwX1 (hg _ tw_1_42)
  obtain ⟨c3, i3, h3⟩ := u_known (C := RX2) (T := TX2) (N := 4) (n := 4) hg fwX2 (hg _ tw_2_73)
  obtain ⟨c4, i4, h4⟩ := u_known (C := RX3) (T := TX3) (N := 4) (n := 4) hg fwX3 (hg _ tw_1_81)
  obtain ⟨c5, i5, h5⟩ := u_known (C := RX4) (T := TX4) (N := 12) (n := 12) hg fwX4 (hg _ tw_2_63)
  obtain ⟨c6, i6, h6⟩ := u_known (C := RX5) (T := TX5) (N := 4) (n := 4) hg fwX5 (hg _ tw_2_155)
  obtain ⟨c7, i7, h7⟩ := u_known (C := RX6) (T := TX6) (N := 8) (n := 8) hg fwX6 (hg _ tw_3_17)
  obtain ⟨c8, i8, h8⟩ := u_known (C := RX7) (T := TX7) (N := 18) (n := 18) hg fwX7 (hg _ tw_4_206)
  obtain ⟨c9, i9, h9⟩ := u_known (C := RX8) (T := TX8) (N := 10) (n := 10) hg fwX8 (hg _ tw_1_26)
  refine ⟨(fun k => [c0, c1, c2, c3, c4, c5, c6, c7, c8, c9].getD k 0, fun k => [i0, i1, i2, i3, i4, i5, i6, i7, i8, i9].getD k (fun _ => 0)), ?_⟩
  intro k q hq
  match k, hq with
  | 0, hq => cases hq; exact h0
  | 1, hq => cases hq; exact h1
  | 2, hq => cases hq; exact h2
  | 3, hq => cases hq; exact h3
  | 4, hq => cases hq; exact h4
  | 5, hq => cases hq; exact h5
  | 6, hq => cases hq; exact h6
  | 7, hq => cases hq; exact h7
  | 8, hq => cases hq; exact h8
  | 9, hq => cases hq; exact h9
  | k + 10, hq => simp [vwCl] at hq
theorem st_ty {args : Array Value} {s : State} (hts : ∀ w ∈ lw_tbl, w.before args s = true) (a9 a10 : Nat) : ∃ cy : Nat → Nat, cy 9 = a9 ∧ cy 10 = a10 ∧ ∀ (k : Nat) (q : ClassId × FieldType), (tyl cy)[k]? = some q → ArrOfT s q.1 q.2 ∧ va_RA s q.1 q.2 := by
  have hg : ∀ w ∈ GW, w.before args s = true := fun w hw => hts w (GW_tbl hw)
  obtain ⟨c0, h0⟩ := st_ai (hg _ tw_1_54)
  obtain ⟨c3, h3⟩ := st_ao (hts _ tw_2_72)
  obtain ⟨c4, h4⟩ := st_ao (hts _ tw_1_40)
  obtain ⟨c5, h5⟩ := st_ao (hts _ tw_1_34)
  obtain ⟨c6, h6⟩ := st_ao (hts _ tw_1_36)
  obtain ⟨c7, h7⟩ := st_ao (hts _ tw_1_38)
  obtain ⟨c8, h8⟩ := st_ao (hts _ tw_2_227)
  refine ⟨fun k => [c0, c0, c0, c3, c4, c5, c6, c7, c8, a9, a10].getD k 0, rfl, rfl, ?_⟩
  intro k q hq
  match k, hq with
  | 0, hq => cases hq; exact h0
  | 1, hq => cases hq; exact h0
  | 2, hq => cases hq; exact h0
  | 3, hq => cases hq; exact h3
  | 4, hq => cases hq; exact h4
  | 5, hq => cases hq; exact h5
  | 6, hq => cases hq; exact h6
  | 7, hq => cases hq; exact h7
  | 8, hq => cases hq; exact h8
  | k + 9, hq => simp [tyl] at hq
set_option maxHeartbeats 4000000 in
set_option maxRecDepth 100000 in
/-- from the entry, for every script of at most 260 ints, the law comes to its end with true -/
theorem whole_start {p : Program} {e : Env} {s : State} {m : MethodId} {below : List Frame} {meth : Method} {c : Code} (l : Launch) (hflags : l.flags = flags0) {b L : Nat} {xs : Nat → Int32} (hL : L ≤ 260) (C0 : lw_At p s m meth c b L xs) : W p l e room_1 s m #[Value.ref b] below meth c s.heap [] 0 0 (lw_Z below #[Value.ref b] s) (entryFrame m ([Value.ref b] : List Value).toArray 16) := by
  obtain ⟨hx, hb, hr, hml, hown, hts, hX, hbl, hlocks, hgv⟩ := id C0
  have hst : l.stackTraces = false := by
    unfold Launch.stackTraces
    rw [hflags]
    decide +kernel
  have hn := b_r hgv
  have n12 := b_l hn
  have n34 := b_r hn
  obtain ⟨a9, a10, hz⟩ := st_zz hts (b_l n12) (b_r n12) (b_l n34) (b_r n34)
  obtain ⟨D, hD⟩ := st_cl hts
  obtain ⟨cy, e9, e10, hT⟩ := st_ty hts a9 a10
  have hgw : ∀ w ∈ (Cond.initialized "Trenchboard") :: GW, w.before #[va_rf (some b)] s = true := List.forall_mem_cons.mpr ⟨hts _ (GW_tbl tw_1_1), fun w hw => hts w (GW_tbl hw)⟩
  have C : Cx p s m #[va_rf (some b)] meth c cL_law 16 ((Cond.initialized "Trenchboard") :: GW) "TrenchboardLaw" D cy (fun q => s.heap.size ≤ q) s.heap := ⟨hx, hb, hml, hown, hgw, ⟨⟨hD, hT⟩, st_nw hts, st_ov hts, st_nc (b_l n12)⟩, fun q h => h, hlocks⟩
  have k1 : (460000 : Nat) ≤ room_1.cells := by decide
  have k2 : (4700000 : Nat) ≤ room_1.slots := by decide
  have key := k_law (l := l) (e := e) (below := below) hst C (hz cy e9 e10) hX hbl (Nat.not_le.mpr hbl) hr hlocks hL (cy 9) (cy 10) rfl rfl P0 room_1.cells room_1.slots rfl rfl (fun _ _ => True) (pure_L (cy 9) (cy 10) L b xs k1 k2 _)
  have hl := lv_entry ([.ref b]) (n := 16) (Nat.le_of_ble_eq_true rfl)
  rw [lg_entry_eq]
  generalize (lg_sl ([.ref b]) ++ List.replicate (16 - (lg_sl ([.ref b])).length) Slot.unset).toArray = ls at hl ⊢
  have hl : lv_has ls 16 [(0, .ref b)] := hl
  have d0 : dm P0 [] := fun a => ⟨fun h => absurd h (List.not_mem_nil), fun h => absurd rfl h⟩
  have p0 : va_P D vwCl (va_pl [] (cF cy P0)) s.heap := fun k q h => by simp [va_pl] at h
  have v0 : va_D (fun q : Nat => s.heap.size ≤ q) (va_pl [] (cF cy P0)) := ⟨fun i j p q h => by simp [va_pl] at h, fun k q h => by simp [va_pl] at h⟩
  exact key [] s.heap [] ls d0 p0 v0 va_S.rf hl
