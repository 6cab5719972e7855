set_option maxHeartbeats 4000000 in
set_option maxRecDepth 100000 in
theorem c_X1_init (l : Launch) (D : va_G) (cy : Nat → Nat) (x0 : Nat) (S : PT) (mc ms : Nat) (post : PT → Prop) (h : w_X1_init x0 S mc ms post) : Mv l yX1_init (Wm yX1_init prog_3_method_1_code 1 (Option.none : Option Jvm.ClassFile.FieldType)) 1 16 D cy [va_rf (some x0)] S mc ms post := by
  refine Mv_of (own := "Trenchboard$Ledger") (by decide) rfl (by first | decide | simp [lg_sl, va_cat, vi_cat, vl_cat]) (fun p e s m below meth c A C hZ hr hin9 => ?_)
  refine G_lv C (lv' := [(0, va_rf (some x0))]) [0] (by first | rfl | simp [lv_pick, lv_args, va_cat, vi_cat, vl_cat]) ?_
  unfold w_X1_init at h
  refine G_aload_n C (x := (some x0)) 0 dX1_init_0 rfl rfl ?_
  refine G_objInit C (im tw_1_46) (im tw_1_31) (im tw_1_32) dX1_init_1 (Nat.le_of_ble_eq_true rfl) (by simp [va_cat, vi_cat, vl_cat]) ?_
  refine G_aload_n C (x := (some x0)) 0 dX1_init_4 rfl rfl ?_
  refine G_bipush C (v := 64) dX1_init_5 (by decide) ?_
  obtain ⟨hc5, hs6, h⟩ := h
  refine G_newI C (i := 64)  (im tw_1_54) (by decide) (n := 64) (by decide) (by decide) hc5 hs6 dX1_init_7 (fun q1 hq4 => ?_)
  generalize e3 : nA S q1 12 64 = S2
  have h := h q1 S2 hq4 e3.symm
  obtain ⟨hk7, h⟩ := h
  refine G_putP C (CC := RX1) (Tf := TX1) (N := 2) (k := 2) (i := 0) (f := 200) (x := (some q1)) (ty0 := tyX1) (ty := (.array .int)) hk7 (by decide) rfl (fin fwX1) tyX1_ok nmX1 (by decide) (im tw_1_47) rfl rfl rfl rfl rfl rfl rfl dX1_init_9 ?_
  generalize e9 : sP S2 200 x0 (some q1) = S8
  have h := h S8 e9.symm
  exact G_vret C (mc := mc) (ms := ms) (post := post) hr hc5 hs6 dX1_init_12 h
set_option maxHeartbeats 4000000 in
set_option maxRecDepth 100000 in
theorem c_J7_copyOf_59c91 (l : Launch) (D : va_G) (cy : Nat → Nat) (x0 : Option Nat) (x1 : Int32) (S : PT) (mc ms : Nat) (post : Option Nat → PT → Prop) (h : w_J7_copyOf_59c91 x0 x1 S mc ms post) : Mq l yJ7_copyOf_59c91 (Wm yJ7_copyOf_59c91 prog_27_method_123_code 3 (Option.some (Jvm.ClassFile.FieldType.array Jvm.ClassFile.FieldType.int))) 1 40 D cy [va_rf x0, Value.int x1] S mc ms post := by
  refine Mq_of (own := "java/util/Arrays") (by decide) rfl (by first | decide | simp [lg_sl, va_cat, vi_cat, vl_cat]) (fun p e s m below meth c A C hZ hr hin9 => ?_)
  refine G_lv C (lv' := [(0, va_rf x0), (1, Value.int x1)]) [0, 1] (by first | rfl | simp [lv_pick, lv_args, va_cat, vi_cat, vl_cat]) ?_
  unfold w_J7_copyOf_59c91 at h
  refine G_iload_n C (x := x1) 1 dJ7_copyOf_59c91_0 rfl rfl ?_
  refine G_aload_n C (x := x0) 0 dJ7_copyOf_59c91_1 rfl rfl ?_
  obtain ⟨a1, ha2, h⟩ := h
  refine G_rf ha2 ?_
  obtain ⟨hk3, h⟩ := h
  refine G_alen C hk3 (by decide) rfl dJ7_copyOf_59c91_2 ?_
  refine G_icmp_ne C (tgt := 14) dJ7_copyOf_59c91_3 (by decide) (fun hc => ?_) (fun hc => ?_)
  · have h := h.1 hc
    refine G_iload_n C (x := x1) 1 dJ7_copyOf_59c91_14 rfl rfl ?_
    obtain ⟨hz10, hy11, h⟩ := h
    obtain ⟨hc8, hs9, h⟩ := h
    refine G_newI C (i := x1)  (im tw_1_54) hz10 (n := (x1).toNatClampNeg) rfl (by simp only [componentBytes]; omega) hc8 hs9 dJ7_copyOf_59c91_15 (fun q4 hq7 => ?_)
    generalize e6 : nA S q4 12 ((x1).toNatClampNeg) = S5
    have h := h q4 S5 hq7 e6.symm
    refine G_astore_n C (i := 2) (lv' := [(2, va_rf (some q4)), (0, va_rf x0), (1, Value.int x1)]) dJ7_copyOf_59c91_17 rfl (by decide) (by first | rfl | simp [va_cat, vi_cat, vl_cat]) ?_
    refine G_aload_n C (x := x0) 1 dJ7_copyOf_59c91_18 rfl rfl ?_
    refine G_iconst C (v := 0) dJ7_copyOf_59c91_19 (by decide) ?_
    refine G_aload_n C (x := (some q4)) 0 dJ7_copyOf_59c91_20 rfl rfl ?_
    refine G_iconst C (v := 0) dJ7_copyOf_59c91_21 (by decide) ?_
    refine G_aload_n C (x := x0) 1 dJ7_copyOf_59c91_22 rfl rfl ?_
    refine G_rf ha2 ?_
    refine G_alen C (ka0 e6.symm hq7 (by decide) hk3) (by decide) rfl dJ7_copyOf_59c91_23 ?_
    refine G_iload_n C (x := x1) 2 dJ7_copyOf_59c91_24 rfl rfl ?_
    refine G_mmin C (im tw_2_229) (im tw_2_230) (im tw_1_14) (im tw_2_231) (Nat.le_of_ble_eq_true rfl) (by simp [va_cat, vi_cat, vl_cat]) (by omega) (by omega) dJ7_copyOf_59c91_25 ?_
    refine G_rf4 ha2 ?_
    obtain ⟨hv12, hv13, hv14, h⟩ := h
    refine G_copyI C hZ (a := q4) (a0 := a1) (sp := 0) (dp := 0) (n := (if x1 < (nI (gN S5 a1)) then x1 else (nI (gN S5 a1)))) tw_2_232 tw_2_234 tw_2_233 tw_1_19 (ka1 e6.symm) (ka0 e6.symm hq7 (by decide) hk3) (by decide) (by decide) hv12 hv13 hv14 (Nat.le_of_ble_eq_true rfl) (by simp [va_cat, vi_cat, vl_cat]; decide) dJ7_copyOf_59c91_28 ?_
    generalize e18 : cpA S5 q4 (va_cpy (gA S5 a1) (gA S5 q4) (0 : Int32).toNatClampNeg (0 : Int32).toNatClampNeg ((if x1 < (nI (gN S5 a1)) then x1 else (nI (gN S5 a1))) : Int32).toNatClampNeg) = S17
    have h := h S17 e18.symm
    refine G_aload_n C (x := (some q4)) 0 dJ7_copyOf_59c91_31 rfl rfl ?_
    exact G_aret C (mc := mc) (ms := ms) (post := post) (v := (some q4)) (Or.inr ⟨_, rfl⟩) hr hc8 hs9 dJ7_copyOf_59c91_32 h
  · have h := h.2 hc
    refine G_aload_n C (x := x0) 0 dJ7_copyOf_59c91_6 rfl rfl ?_
    exact h.elim
set_option maxHeartbeats 4000000 in
set_option maxRecDepth 100000 in
theorem c_X1_enter (l : Launch) (D : va_G) (cy : Nat → Nat) (x0 : Nat) (x1 : Int32) (x2 : Int32) (x3 : Int32) (S : PT) (mc ms : Nat) (post : PT → Prop) (h : w_X1_enter x0 x1 x2 x3 S mc ms post) : Mv l yX1_enter (Wm yX1_enter prog_3_method_2_code 4 (Option.none : Option Jvm.ClassFile.FieldType)) 2 62 D cy [va_rf (some x0), Value.int x1, Value.int x2, Value.int x3] S mc ms post := by
  refine Mv_of (own := "Trenchboard$Ledger") (by decide) rfl (by first | decide | simp [lg_sl, va_cat, vi_cat, vl_cat]) (fun p e s m below meth c A C hZ hr hin9 => ?_)
  have J80 : ∀ (c0 n0 : Nat) (S : PT), w_X1_enter_b80 x0 x1 x2 x3 mc ms post c0 n0 S → G p l e { frames := 2, cells := mc, slots := ms, locals := 62 } s m [va_rf (some x0), Value.int x1, Value.int x2, Value.int x3].toArray below meth c D cy A s.heap 4 (QMv below D cy A [va_rf (some x0), Value.int x1, Value.int x2, Value.int x3] s mc ms post) S c0 n0 80 [] [] := by
    intro c0 n0 S h
    unfold w_X1_enter_b80 at h
    obtain ⟨hc00, hn00, h⟩ := h
    exact G_vret C (mc := mc) (ms := ms) (post := post) hr hc00 hn00 dX1_enter_80 h
  have J38 : ∀ (c0 n0 : Nat) (S : PT), w_X1_enter_b38 x0 x1 x2 x3 mc ms post c0 n0 S → G p l e { frames := 2, cells := mc, slots := ms, locals := 62 } s m [va_rf (some x0), Value.int x1, Value.int x2, Value.int x3].toArray below meth c D cy A s.heap 4 (QMv below D cy A [va_rf (some x0), Value.int x1, Value.int x2, Value.int x3] s mc ms post) S c0 n0 38 [(0, va_rf (some x0)), (1, Value.int x1), (2, Value.int x2), (3, Value.int x3)] [] := by
    intro c0 n0 S h
    unfold w_X1_enter_b38 at h
    obtain ⟨hc00, hn00, h⟩ := h
    refine G_aload_n C (x := (some x0)) 0 dX1_enter_38 rfl rfl ?_
    obtain ⟨hk1, h⟩ := h
    refine G_get C (CC := RX1) (Tf := TX1) (N := 2) (k := 2) (i := 1) (v := Value.int (gI S 201 x0)) hk1 (by decide) rfl (fin fwX1) (by decide) (im tw_1_48) rfl rfl dX1_enter_39 ?_
    refine G_aload_n C (x := (some x0)) 0 dX1_enter_42 rfl rfl ?_
    refine G_get C (CC := RX1) (Tf := TX1) (N := 2) (k := 2) (i := 0) (v := va_rf (gP S 200 x0)) hk1 (by decide) rfl (fin fwX1) (by decide) (im tw_1_47) rfl rfl dX1_enter_43 ?_
    obtain ⟨a2, ha3, h⟩ := h
    refine G_rf ha3 ?_
    obtain ⟨hk4, h⟩ := h
    refine G_alen C hk4 (by decide) rfl dX1_enter_46 ?_
    refine G_icmp_ge C (tgt := 80) dX1_enter_47 (by decide) (fun hc => ?_) (fun hc => ?_)
    · have h := h.1 hc
      refine G_lv C (lv' := []) [] rfl ?_
      exact J80 _ _ _ h
    · have h := h.2 hc
      refine G_aload_n C (x := (some x0)) 0 dX1_enter_50 rfl rfl ?_
      refine G_get C (CC := RX1) (Tf := TX1) (N := 2) (k := 2) (i := 0) (v := va_rf (gP S 200 x0)) hk1 (by decide) rfl (fin fwX1) (by decide) (im tw_1_47) rfl rfl dX1_enter_51 ?_
      refine G_aload_n C (x := (some x0)) 0 dX1_enter_54 rfl rfl ?_
      refine G_get C (CC := RX1) (Tf := TX1) (N := 2) (k := 2) (i := 1) (v := Value.int (gI S 201 x0)) hk1 (by decide) rfl (fin fwX1) (by decide) (im tw_1_48) rfl rfl dX1_enter_55 ?_
      refine G_iload_n C (x := x3) 3 dX1_enter_58 rfl rfl ?_
      refine G_bipush C (v := 64) dX1_enter_59 (by decide) ?_
      refine G_imul C dX1_enter_61 ?_
      refine G_iload_n C (x := x1) 1 dX1_enter_62 rfl rfl ?_
      refine G_bipush C (v := 8) dX1_enter_63 (by decide) ?_
      refine G_imul C dX1_enter_65 ?_
      refine G_iadd C dX1_enter_66 ?_
      refine G_iload_n C (x := x2) 2 dX1_enter_67 rfl rfl ?_
      refine G_iadd C dX1_enter_68 ?_
      refine G_rf2 ha3 ?_
      obtain ⟨hi5, h⟩ := h
      refine G_iast C hk4 hi5 dX1_enter_69 ?_
      generalize e7 : sA S a2 (((gI S 201 x0)).toNatClampNeg) (((x3 * 64) + (x1 * 8)) + x2) = S6
      have h := h S6 e7.symm
      refine G_aload_n C (x := (some x0)) 0 dX1_enter_70 rfl rfl ?_
      refine G_dup C dX1_enter_71 (va_cat _) ?_
      refine G_get C (CC := RX1) (Tf := TX1) (N := 2) (k := 2) (i := 1) (v := Value.int (gI S6 201 x0)) (ksA e7.symm hk1) (by decide) rfl (fin fwX1) (by decide) (im tw_1_48) rfl rfl dX1_enter_72 ?_
      refine G_iconst C (v := 1) dX1_enter_75 (by decide) ?_
      refine G_iadd C dX1_enter_76 ?_
      refine G_putI C (CC := RX1) (Tf := TX1) (N := 2) (k := 2) (i := 1) (f := 201) (x := ((gI S6 201 x0) + 1)) (ty0 := tyX1) (ty := .int) (ksA e7.symm hk1) (by decide) rfl (fin fwX1) tyX1_ok nmX1 (by decide) (im tw_1_48) rfl rfl rfl rfl rfl rfl rfl dX1_enter_77 ?_
      generalize e9 : sI S6 201 x0 ((gI S6 201 x0) + 1) = S8
      have h := h S8 e9.symm
      refine G_lv C (lv' := []) [] rfl ?_
      exact J80 _ _ _ h
  refine G_lv C (lv' := [(0, va_rf (some x0)), (1, Value.int x1), (2, Value.int x2), (3, Value.int x3)]) [0, 1, 2, 3] (by first | rfl | simp [lv_pick, lv_args, va_cat, vi_cat, vl_cat]) ?_
  unfold w_X1_enter at h
  refine G_aload_n C (x := (some x0)) 0 dX1_enter_0 rfl rfl ?_
  obtain ⟨hk10, h⟩ := h
  refine G_get C (CC := RX1) (Tf := TX1) (N := 2) (k := 2) (i := 1) (v := Value.int (gI S 201 x0)) hk10 (by decide) rfl (fin fwX1) (by decide) (im tw_1_48) rfl rfl dX1_enter_1 ?_
  refine G_aload_n C (x := (some x0)) 0 dX1_enter_4 rfl rfl ?_
  refine G_get C (CC := RX1) (Tf := TX1) (N := 2) (k := 2) (i := 0) (v := va_rf (gP S 200 x0)) hk10 (by decide) rfl (fin fwX1) (by decide) (im tw_1_47) rfl rfl dX1_enter_5 ?_
  obtain ⟨a11, ha12, h⟩ := h
  refine G_rf ha12 ?_
  obtain ⟨hk13, h⟩ := h
  refine G_alen C hk13 (by decide) rfl dX1_enter_8 ?_
  refine G_icmp_lt C (tgt := 38) dX1_enter_9 (by decide) (fun hc => ?_) (fun hc => ?_)
  · have h := h.1 hc
    refine G_lv C (lv' := [(0, va_rf (some x0)), (1, Value.int x1), (2, Value.int x2), (3, Value.int x3)]) [0, 1, 2, 3] rfl ?_
    exact J38 _ _ _ h
  · have h := h.2 hc
    refine G_aload_n C (x := (some x0)) 0 dX1_enter_12 rfl rfl ?_
    refine G_get C (CC := RX1) (Tf := TX1) (N := 2) (k := 2) (i := 1) (v := Value.int (gI S 201 x0)) hk10 (by decide) rfl (fin fwX1) (by decide) (im tw_1_48) rfl rfl dX1_enter_13 ?_
    refine G_ldc C (v := 262144) (im tw_3_170) dX1_enter_16 ?_
    refine G_icmp_ge C (tgt := 38) dX1_enter_18 (by decide) (fun hc => ?_) (fun hc => ?_)
    · have h := h.1 hc
      refine G_lv C (lv' := [(0, va_rf (some x0)), (1, Value.int x1), (2, Value.int x2), (3, Value.int x3)]) [0, 1, 2, 3] rfl ?_
      exact J38 _ _ _ h
    · have h := h.2 hc
      refine G_aload_n C (x := (some x0)) 0 dX1_enter_21 rfl rfl ?_
      refine G_aload_n C (x := (some x0)) 0 dX1_enter_22 rfl rfl ?_
      refine G_get C (CC := RX1) (Tf := TX1) (N := 2) (k := 2) (i := 0) (v := va_rf (gP S 200 x0)) hk10 (by decide) rfl (fin fwX1) (by decide) (im tw_1_47) rfl rfl dX1_enter_23 ?_
      refine G_iconst C (v := 2) dX1_enter_26 (by decide) ?_
      refine G_aload_n C (x := (some x0)) 0 dX1_enter_27 rfl rfl ?_
      refine G_get C (CC := RX1) (Tf := TX1) (N := 2) (k := 2) (i := 1) (v := Value.int (gI S 201 x0)) hk10 (by decide) rfl (fin fwX1) (by decide) (im tw_1_48) rfl rfl dX1_enter_28 ?_
      refine G_imul C dX1_enter_31 ?_
      obtain ⟨m16, m17, hc18, hs19, h⟩ := h
      refine G_callSq C hZ tw_3_171 tw_3_172 tw_1_18 tw_3_173 hy_J7_copyOf_59c91 ⟨Nat.le_of_ble_eq_true rfl, Nat.le_of_ble_eq_true rfl⟩ (As := [va_rf (gP S 200 x0), Value.int (2 * (gI S 201 x0))]) (rest := [va_rf (some x0)]) (c_J7_copyOf_59c91 l D cy (gP S 200 x0) (2 * (gI S 201 x0)) S m16 m17 _ h) rfl rfl (by simp [va_cat, vi_cat, vl_cat]) dX1_enter_32 ⟨hc18, hs19⟩ (fun r15 S14 h => ?_)
      obtain ⟨hk20, h⟩ := h
      refine G_putP C (CC := RX1) (Tf := TX1) (N := 2) (k := 2) (i := 0) (f := 200) (x := r15) (ty0 := tyX1) (ty := (.array .int)) hk20 (by decide) rfl (fin fwX1) tyX1_ok nmX1 (by decide) (im tw_1_47) rfl rfl rfl (by cases (r15 : Option Nat) <;> rfl) (by cases (r15 : Option Nat) <;> rfl) rfl rfl dX1_enter_35 ?_
      generalize e22 : sP S14 200 x0 r15 = S21
      have h := h S21 e22.symm
      refine G_lv C (lv' := [(0, va_rf (some x0)), (1, Value.int x1), (2, Value.int x2), (3, Value.int x3)]) [0, 1, 2, 3] rfl ?_
      exact J38 _ _ _ h
set_option maxHeartbeats 4000000 in
set_option maxRecDepth 100000 in
theorem c_X4_init (l : Launch) (D : va_G) (cy : Nat → Nat) (x0 : Nat) (x1 : Int32) (x2 : Int32) (x3 : Int32) (x4 : Int32) (x5 : Option Nat) (S : PT) (mc ms : Nat) (post : PT → Prop) (h : w_X4_init x0 x1 x2 x3 x4 x5 S mc ms post) : Mv l yX4_init (Wm yX4_init prog_6_method_1_code 7 (Option.none : Option Jvm.ClassFile.FieldType)) 2 36 D cy [va_rf (some x0), Value.int x1, Value.int x2, Value.int x3, Value.int x4, va_rf x5] S mc ms post := by
  refine Mv_of (own := "Trenchboard$Street") (by decide) rfl (by first | decide | simp [lg_sl, va_cat, vi_cat, vl_cat]) (fun p e s m below meth c A C hZ hr hin9 => ?_)
  have J61 : ∀ (n : Nat) (c0 n0 : Nat) (S : PT) (v6 : Int32), w_X4_init_l61 x0 x1 x2 x3 x4 x5 mc ms post n c0 n0 S v6 → G p l e { frames := 2, cells := mc, slots := ms, locals := 36 } s m [va_rf (some x0), Value.int x1, Value.int x2, Value.int x3, Value.int x4, va_rf x5].toArray below meth c D cy A s.heap 7 (QMv below D cy A [va_rf (some x0), Value.int x1, Value.int x2, Value.int x3, Value.int x4, va_rf x5] s mc ms post) S c0 n0 61 [(0, va_rf (some x0)), (6, Value.int v6)] [] := by
    intro n61
    induction n61 with
    | zero => intro c0 n0 S v6 h; rw [w_X4_init_l61] at h; exact False.elim h
    | succ n61 K61 =>
      intro c0 n0 S v6 h
      rw [w_X4_init_l61] at h
      obtain ⟨hc00, hn00, h⟩ := h
      refine G_iload C (x := v6) 1 dX4_init_61 rfl ?_
      refine G_aload_n C (x := (some x0)) 0 dX4_init_63 rfl rfl ?_
      obtain ⟨hk1, h⟩ := h
      refine G_get C (CC := RX4) (Tf := TX4) (N := 12) (k := 5) (i := 4) (v := va_rf (gP S 504 x0)) hk1 (by decide) rfl (fin fwX4) (by decide) (im tw_2_100) rfl rfl dX4_init_64 ?_
      obtain ⟨a2, ha3, h⟩ := h
      refine G_rf ha3 ?_
      obtain ⟨hk4, h⟩ := h
      refine G_alen C hk4 (by decide) rfl dX4_init_67 ?_
      refine G_icmp_ge C (tgt := 91) dX4_init_68 (by decide) (fun hc => ?_) (fun hc => ?_)
      · have h := h.1 hc
        exact G_vret C (mc := mc) (ms := ms) (post := post) hr hc00 hn00 dX4_init_91 h
      · have h := h.2 hc
        refine G_aload_n C (x := (some x0)) 0 dX4_init_71 rfl rfl ?_
        refine G_get C (CC := RX4) (Tf := TX4) (N := 12) (k := 5) (i := 4) (v := va_rf (gP S 504 x0)) hk1 (by decide) rfl (fin fwX4) (by decide) (im tw_2_100) rfl rfl dX4_init_72 ?_
        refine G_iload C (x := v6) 1 dX4_init_75 rfl ?_
        obtain ⟨hc9, hs10, h⟩ := h
        refine G_new C (CC := RX2) (Tf := TX2) (N := 4) (k := 3) (fs := [Value.int 0, Value.int 0, Value.int 0, Value.null]) (by decide) rfl (fin fwX2) tyX2_ok (im tw_2_71) (im tw_2_73) (im tw_1_15) rfl dv_X2 hc9 hs10 dX4_init_77 (fun q5 hq8 => ?_)
        generalize e7 : nO S q5 3 = S6
        have h := h q5 S6 hq8 e7.symm
        refine G_dup C dX4_init_80 (va_cat _) ?_
        refine G_callINv C hZ (host := "Trenchboard") (by decide +kernel) tw_2_75 tw_1_15 rfl tw_2_76 hy_X2_init ⟨Nat.le_of_ble_eq_true rfl, Nat.le_of_ble_eq_true rfl⟩ (As := []) (rest := [va_rf (some q5), Value.int v6, va_rf (gP S 504 x0)]) (c_X2_init l D cy q5 S6 _ h) rfl rfl (by simp [va_cat, vi_cat, vl_cat]) dX4_init_81 ⟨hc9, hs10⟩ (fun S11 h => ?_)
        refine G_rf2 ha3 ?_
        obtain ⟨hk13, h⟩ := h
        obtain ⟨hk14, h⟩ := h
        obtain ⟨hi15, h⟩ := h
        refine G_aast C (E := RX2) (Tf := TX2) (N := 4) hk13 (by decide) rfl hk14 (by decide) rfl hi15 dX4_init_84 ?_
        generalize e17 : sR S11 a2 ((v6).toNatClampNeg) (some q5) = S16
        have h := h S16 e17.symm
        refine G_iinc C (v := (v6 + 1)) (lv' := [(6, Value.int (v6 + 1)), (0, va_rf (some x0))]) 1 dX4_init_85 rfl rfl (by decide) (by first | rfl | simp [va_cat, vi_cat, vl_cat]) ?_
        refine G_goto C (tgt := 61) dX4_init_88 (by decide) ?_
        refine G_lv C (lv' := [(0, va_rf (some x0)), (6, Value.int (v6 + 1))]) [1, 0] rfl ?_
        exact K61 _ _ _ _ h
  refine G_lv C (lv' := [(0, va_rf (some x0)), (1, Value.int x1), (2, Value.int x2), (3, Value.int x3), (4, Value.int x4), (5, va_rf x5)]) [0, 1, 2, 3, 4, 5] (by first | rfl | simp [lv_pick, lv_args, va_cat, vi_cat, vl_cat]) ?_
  unfold w_X4_init at h
  refine G_aload_n C (x := (some x0)) 0 dX4_init_0 rfl rfl ?_
  refine G_objInit C (im tw_2_67) (im tw_1_31) (im tw_1_32) dX4_init_1 (Nat.le_of_ble_eq_true rfl) (by simp [va_cat, vi_cat, vl_cat]) ?_
  refine G_aload_n C (x := (some x0)) 0 dX4_init_4 rfl rfl ?_
  refine G_iconst C (v := (-1)) dX4_init_5 (by decide) ?_
  obtain ⟨hk18, h⟩ := h
  refine G_putI C (CC := RX4) (Tf := TX4) (N := 12) (k := 5) (i := 5) (f := 505) (x := (-1)) (ty0 := tyX4) (ty := .int) hk18 (by decide) rfl (fin fwX4) tyX4_ok nmX4 (by decide) (im tw_2_102) rfl rfl rfl rfl rfl rfl rfl dX4_init_6 ?_
  generalize e20 : sI S 505 x0 (-1) = S19
  have h := h S19 e20.symm
  refine G_aload_n C (x := (some x0)) 0 dX4_init_9 rfl rfl ?_
  refine G_iconst C (v := (-1)) dX4_init_10 (by decide) ?_
  refine G_putI C (CC := RX4) (Tf := TX4) (N := 12) (k := 5) (i := 6) (f := 506) (x := (-1)) (ty0 := tyX4) (ty := .int) (ksI e20.symm hk18) (by decide) rfl (fin fwX4) tyX4_ok nmX4 (by decide) (im tw_2_104) rfl rfl rfl rfl rfl rfl rfl dX4_init_11 ?_
  generalize e22 : sI S19 506 x0 (-1) = S21
  have h := h S21 e22.symm
  refine G_aload_n C (x := (some x0)) 0 dX4_init_14 rfl rfl ?_
  refine G_iconst C (v := (-1)) dX4_init_15 (by decide) ?_
  refine G_putI C (CC := RX4) (Tf := TX4) (N := 12) (k := 5) (i := 7) (f := 507) (x := (-1)) (ty0 := tyX4) (ty := .int) (ksI e22.symm (ksI e20.symm hk18)) (by decide) rfl (fin fwX4) tyX4_ok nmX4 (by decide) (im tw_2_106) rfl rfl rfl rfl rfl rfl rfl dX4_init_16 ?_
  generalize e24 : sI S21 507 x0 (-1) = S23
  have h := h S23 e24.symm
  refine G_aload_n C (x := (some x0)) 0 dX4_init_19 rfl rfl ?_
  refine G_iconst C (v := (-1)) dX4_init_20 (by decide) ?_
  refine G_putI C (CC := RX4) (Tf := TX4) (N := 12) (k := 5) (i := 8) (f := 508) (x := (-1)) (ty0 := tyX4) (ty := .int) (ksI e24.symm (ksI e22.symm (ksI e20.symm hk18))) (by decide) rfl (fin fwX4) tyX4_ok nmX4 (by decide) (im tw_2_108) rfl rfl rfl rfl rfl rfl rfl dX4_init_21 ?_
  generalize e26 : sI S23 508 x0 (-1) = S25
  have h := h S25 e26.symm
  refine G_aload_n C (x := (some x0)) 0 dX4_init_24 rfl rfl ?_
  refine G_iload_n C (x := x1) 1 dX4_init_25 rfl rfl ?_
  refine G_putIF C (CC := RX4) (Tf := TX4) (N := 12) (k := 5) (i := 0) (f := 500) (x := x1) (ty0 := tyX4) (ty := .int) (ksI e26.symm (ksI e24.symm (ksI e22.symm (ksI e20.symm hk18)))) (by decide) rfl (fin fwX4) tyX4_ok nmX4 (by decide) (im tw_2_95) rfl rfl (hin9 rfl) rfl rfl rfl rfl rfl rfl dX4_init_26 ?_
  generalize e28 : sI S25 500 x0 x1 = S27
  have h := h S27 e28.symm
  refine G_aload_n C (x := (some x0)) 0 dX4_init_29 rfl rfl ?_
  refine G_iload_n C (x := x3) 3 dX4_init_30 rfl rfl ?_
  refine G_putIF C (CC := RX4) (Tf := TX4) (N := 12) (k := 5) (i := 1) (f := 501) (x := x3) (ty0 := tyX4) (ty := .int) (ksI e28.symm (ksI e26.symm (ksI e24.symm (ksI e22.symm (ksI e20.symm hk18))))) (by decide) rfl (fin fwX4) tyX4_ok nmX4 (by decide) (im tw_2_96) rfl rfl (hin9 rfl) rfl rfl rfl rfl rfl rfl dX4_init_31 ?_
  generalize e30 : sI S27 501 x0 x3 = S29
  have h := h S29 e30.symm
  refine G_aload_n C (x := (some x0)) 0 dX4_init_34 rfl rfl ?_
  refine G_iload C (x := x4) 4 dX4_init_35 rfl ?_
  refine G_putIF C (CC := RX4) (Tf := TX4) (N := 12) (k := 5) (i := 2) (f := 502) (x := x4) (ty0 := tyX4) (ty := .int) (ksI e30.symm (ksI e28.symm (ksI e26.symm (ksI e24.symm (ksI e22.symm (ksI e20.symm hk18)))))) (by decide) rfl (fin fwX4) tyX4_ok nmX4 (by decide) (im tw_2_97) rfl rfl (hin9 rfl) rfl rfl rfl rfl rfl rfl dX4_init_37 ?_
  generalize e32 : sI S29 502 x0 x4 = S31
  have h := h S31 e32.symm
  refine G_aload_n C (x := (some x0)) 0 dX4_init_40 rfl rfl ?_
  refine G_aload C (x := x5) 5 dX4_init_41 rfl ?_
  refine G_putPF C (CC := RX4) (Tf := TX4) (N := 12) (k := 5) (i := 3) (f := 503) (x := x5) (ty0 := tyX4) (ty := .object "Trenchboard$Street") (ksI e32.symm (ksI e30.symm (ksI e28.symm (ksI e26.symm (ksI e24.symm (ksI e22.symm (ksI e20.symm hk18))))))) (by decide) rfl (fin fwX4) tyX4_ok nmX4 (by decide) (im tw_2_98) rfl rfl (hin9 rfl) rfl rfl (by cases (x5 : Option Nat) <;> rfl) (by cases (x5 : Option Nat) <;> rfl) rfl rfl dX4_init_43 ?_
  generalize e34 : sP S31 503 x0 x5 = S33
  have h := h S33 e34.symm
  refine G_aload_n C (x := (some x0)) 0 dX4_init_46 rfl rfl ?_
  refine G_iload_n C (x := x2) 2 dX4_init_47 rfl rfl ?_
  refine G_iconst C (v := 0) dX4_init_48 (by decide) ?_
  refine G_mmax C (im tw_2_68) (im tw_2_69) (im tw_1_14) (im tw_2_70) (Nat.le_of_ble_eq_true rfl) (by simp [va_cat, vi_cat, vl_cat]) (by omega) (by omega) dX4_init_49 ?_
  obtain ⟨hz41, hy42, h⟩ := h
  obtain ⟨hc39, hs40, h⟩ := h
  refine G_newR C (i := (if x2 < 0 then 0 else x2)) (E := "Trenchboard$Metre") (k := 15) (im tw_2_71) (C.2.2.2.2.2.1.2.2.1 _ (by simp [AOs])) (by decide) rfl hz41 (n := ((if x2 < 0 then 0 else x2)).toNatClampNeg) rfl (by omega) hc39 hs40 dX4_init_52 (fun q35 hq38 => ?_)
  generalize e37 : nA S33 q35 15 (((if x2 < 0 then 0 else x2)).toNatClampNeg) = S36
  have h := h q35 S36 hq38 e37.symm
  refine G_putPF C (CC := RX4) (Tf := TX4) (N := 12) (k := 5) (i := 4) (f := 504) (x := (some q35)) (ty0 := tyX4) (ty := (.array (.object "Trenchboard$Metre"))) (ka0 e37.symm hq38 (by decide) (ksP e34.symm (ksI e32.symm (ksI e30.symm (ksI e28.symm (ksI e26.symm (ksI e24.symm (ksI e22.symm (ksI e20.symm hk18))))))))) (by decide) rfl (fin fwX4) tyX4_ok nmX4 (by decide) (im tw_2_100) rfl rfl (hin9 rfl) rfl rfl rfl rfl rfl rfl dX4_init_55 ?_
  generalize e44 : sP S36 504 x0 (some q35) = S43
  have h := h S43 e44.symm
  refine G_iconst C (v := 0) dX4_init_58 (by decide) ?_
  refine G_istore C (i := 6) (lv' := [(6, Value.int 0), (0, va_rf (some x0)), (1, Value.int x1), (2, Value.int x2), (3, Value.int x3), (4, Value.int x4), (5, va_rf x5)]) dX4_init_59 (by decide) (by first | rfl | simp [va_cat, vi_cat, vl_cat]) ?_
  refine G_lv C (lv' := [(0, va_rf (some x0)), (6, Value.int 0)]) [1, 0] rfl ?_
  obtain ⟨n9, h⟩ := h
  exact J61 n9 _ _ _ _ h
set_option maxHeartbeats 4000000 in
set_option maxRecDepth 100000 in
theorem c_Jx4a65c_init_da8c8 (l : Launch) (D : va_G) (cy : Nat → Nat) (e0 m0 : Nat) (he : e0 = cy 9) (hm : m0 = cy 10) (x0 : Nat) (S : PT) (post : PT → Prop) (h : w_Jx4a65c_init_da8c8 e0 m0 x0 S post) : Mv l yJx4a65c_init_da8c8 (Wm yJx4a65c_init_da8c8 prog_26_method_2_code 1 (Option.none : Option Jvm.ClassFile.FieldType)) 3 56 D cy [va_rf (some x0)] S 0 0 post := by
  refine Mv_of (own := "java/util/ArrayList") (by decide) rfl (by first | decide | simp [lg_sl, va_cat, vi_cat, vl_cat]) (fun p e s m below meth c A C hZ hr hin9 => ?_)
  refine G_lv C (lv' := [(0, va_rf (some x0))]) [0] (by first | rfl | simp [lv_pick, lv_args, va_cat, vi_cat, vl_cat]) ?_
  unfold w_Jx4a65c_init_da8c8 at h
  refine G_aload_n C (x := (some x0)) 0 dJx4a65c_init_da8c8_0 rfl rfl ?_
  refine G_callIv C hZ tw_1_60 tw_1_61 tw_1_4 rfl tw_1_62 hy_Jxc12de_init_da8c8 ⟨Nat.le_of_ble_eq_true rfl, Nat.le_of_ble_eq_true rfl⟩ (As := []) (rest := []) (c_Jxc12de_init_da8c8 l D cy x0 S _ h) rfl rfl (by simp [va_cat, vi_cat, vl_cat]) dJx4a65c_init_da8c8_1 ⟨Nat.le_of_ble_eq_true rfl, Nat.le_of_ble_eq_true rfl⟩ (fun S1 h => ?_)
  refine G_aload_n C (x := (some x0)) 0 dJx4a65c_init_da8c8_4 rfl rfl ?_
  refine G_gets C hZ he tw_1_67 dJx4a65c_init_da8c8_5 ?_
  obtain ⟨hk3, h⟩ := h
  refine G_putP C (CC := RJx4a65c) (Tf := TJx4a65c) (N := 3) (k := 11) (i := 1) (f := 1101) (x := (some e0)) (ty0 := tyJx4a65c) (ty := (.array (.object "java/lang/Object"))) hk3 (by decide) rfl (fin fwJx4a65c) tyJx4a65c_ok nmJx4a65c (by decide) (im tw_1_69) rfl rfl rfl rfl rfl rfl rfl dJx4a65c_init_da8c8_8 ?_
  generalize e5 : sP S1 1101 x0 (some e0) = S4
  have h := h S4 e5.symm
  exact G_vret C (mc := 0) (ms := 0) (post := post) hr (Nat.le_of_ble_eq_true rfl) (Nat.le_of_ble_eq_true rfl) dJx4a65c_init_da8c8_11 h
set_option maxHeartbeats 4000000 in
set_option maxRecDepth 100000 in
theorem c_X8_init (l : Launch) (D : va_G) (cy : Nat → Nat) (e0 m0 : Nat) (he : e0 = cy 9) (hm : m0 = cy 10) (x0 : Nat) (S : PT) (mc ms : Nat) (post : PT → Prop) (h : w_X8_init e0 m0 x0 S mc ms post) : Mv l yX8_init (Wm yX8_init prog_1_method_1_code 2 (Option.none : Option Jvm.ClassFile.FieldType)) 4 76 D cy [va_rf (some x0)] S mc ms post := by
  refine Mv_of (own := "Trenchboard") (by decide) rfl (by first | decide | simp [lg_sl, va_cat, vi_cat, vl_cat]) (fun p e s m below meth c A C hZ hr hin9 => ?_)
  have J64 : ∀ (n : Nat) (c0 n0 : Nat) (S : PT) (v1 : Int32), w_X8_init_l64 e0 m0 x0 mc ms post n c0 n0 S v1 → G p l e { frames := 4, cells := mc, slots := ms, locals := 76 } s m [va_rf (some x0)].toArray below meth c D cy A s.heap 2 (QMv below D cy A [va_rf (some x0)] s mc ms post) S c0 n0 64 [(0, va_rf (some x0)), (1, Value.int v1)] [] := by
    intro n64
    induction n64 with
    | zero => intro c0 n0 S v1 h; rw [w_X8_init_l64] at h; exact False.elim h
    | succ n64 K64 =>
      intro c0 n0 S v1 h
      rw [w_X8_init_l64] at h
      obtain ⟨hc00, hn00, h⟩ := h
      refine G_iload_n C (x := v1) 1 dX8_init_64 rfl rfl ?_
      refine G_aload_n C (x := (some x0)) 0 dX8_init_65 rfl rfl ?_
      obtain ⟨hk1, h⟩ := h
      refine G_get C (CC := RX8) (Tf := TX8) (N := 10) (k := 9) (i := 6) (v := va_rf (gP S 906 x0)) hk1 (by decide) rfl (fin fwX8) (by decide) (im tw_1_105) rfl rfl dX8_init_66 ?_
      obtain ⟨a2, ha3, h⟩ := h
      refine G_rf ha3 ?_
      obtain ⟨hk4, h⟩ := h
      refine G_alen C hk4 (by decide) rfl dX8_init_69 ?_
      refine G_icmp_ge C (tgt := 92) dX8_init_70 (by decide) (fun hc => ?_) (fun hc => ?_)
      · have h := h.1 hc
        exact G_vret C (mc := mc) (ms := ms) (post := post) hr hc00 hn00 dX8_init_92 h
      · have h := h.2 hc
        refine G_aload_n C (x := (some x0)) 0 dX8_init_73 rfl rfl ?_
        refine G_get C (CC := RX8) (Tf := TX8) (N := 10) (k := 9) (i := 6) (v := va_rf (gP S 906 x0)) hk1 (by decide) rfl (fin fwX8) (by decide) (im tw_1_105) rfl rfl dX8_init_74 ?_
        refine G_iload_n C (x := v1) 1 dX8_init_77 rfl rfl ?_
        obtain ⟨hc9, hs10, h⟩ := h
        refine G_new C (CC := RX3) (Tf := TX3) (N := 4) (k := 4) (fs := [Value.long 0, Value.int 0, Value.int 0, Value.int 0]) (by decide) rfl (fin fwX3) tyX3_ok (im tw_1_39) (im tw_1_81) (im tw_1_6) rfl dv_X3 hc9 hs10 dX8_init_78 (fun q5 hq8 => ?_)
        generalize e7 : nO S q5 4 = S6
        have h := h q5 S6 hq8 e7.symm
        refine G_dup C dX8_init_81 (va_cat _) ?_
        refine G_callINv C hZ (host := "Trenchboard") (by decide +kernel) tw_1_83 tw_1_6 rfl tw_1_84 hy_X3_init ⟨Nat.le_of_ble_eq_true rfl, Nat.le_of_ble_eq_true rfl⟩ (As := []) (rest := [va_rf (some q5), Value.int v1, va_rf (gP S 906 x0)]) (c_X3_init l D cy q5 S6 _ h) rfl rfl (by simp [va_cat, vi_cat, vl_cat]) dX8_init_82 ⟨hc9, hs10⟩ (fun S11 h => ?_)
        refine G_rf2 ha3 ?_
        obtain ⟨hk13, h⟩ := h
        obtain ⟨hk14, h⟩ := h
        obtain ⟨hi15, h⟩ := h
        refine G_aast C (E := RX3) (Tf := TX3) (N := 4) hk13 (by decide) rfl hk14 (by decide) rfl hi15 dX8_init_85 ?_
        generalize e17 : sR S11 a2 ((v1).toNatClampNeg) (some q5) = S16
        have h := h S16 e17.symm
        refine G_iinc C (v := (v1 + 1)) (lv' := [(1, Value.int (v1 + 1)), (0, va_rf (some x0))]) 1 dX8_init_86 rfl rfl (by decide) (by first | rfl | simp [va_cat, vi_cat, vl_cat]) ?_
        refine G_goto C (tgt := 64) dX8_init_89 (by decide) ?_
        refine G_lv C (lv' := [(0, va_rf (some x0)), (1, Value.int (v1 + 1))]) [1, 0] rfl ?_
        exact K64 _ _ _ _ h
  refine G_lv C (lv' := [(0, va_rf (some x0))]) [0] (by first | rfl | simp [lv_pick, lv_args, va_cat, vi_cat, vl_cat]) ?_
  unfold w_X8_init at h
  refine G_aload_n C (x := (some x0)) 0 dX8_init_0 rfl rfl ?_
  refine G_objInit C (im tw_1_30) (im tw_1_31) (im tw_1_32) dX8_init_1 (Nat.le_of_ble_eq_true rfl) (by simp [va_cat, vi_cat, vl_cat]) ?_
  refine G_aload_n C (x := (some x0)) 0 dX8_init_4 rfl rfl ?_
  refine G_bipush C (v := 6) dX8_init_5 (by decide) ?_
  obtain ⟨hc22, hs23, h⟩ := h
  refine G_newR C (i := 6) (E := "Trenchboard$Street") (k := 17) (im tw_1_33) (C.2.2.2.2.2.1.2.2.1 _ (by simp [AOs])) (by decide) rfl (by decide) (n := 6) (by decide) (by decide) hc22 hs23 dX8_init_7 (fun q18 hq21 => ?_)
  generalize e20 : nA S q18 17 6 = S19
  have h := h q18 S19 hq21 e20.symm
  obtain ⟨hk24, h⟩ := h
  refine G_putPF C (CC := RX8) (Tf := TX8) (N := 10) (k := 9) (i := 0) (f := 900) (x := (some q18)) (ty0 := tyX8) (ty := (.array (.object "Trenchboard$Street"))) hk24 (by decide) rfl (fin fwX8) tyX8_ok nmX8 (by decide) (im tw_1_99) rfl rfl (hin9 rfl) rfl rfl rfl rfl rfl rfl dX8_init_10 ?_
  generalize e26 : sP S19 900 x0 (some q18) = S25
  have h := h S25 e26.symm
  refine G_aload_n C (x := (some x0)) 0 dX8_init_13 rfl rfl ?_
  refine G_bipush C (v := 30) dX8_init_14 (by decide) ?_
  obtain ⟨hc31, hs32, h⟩ := h
  refine G_newR C (i := 30) (E := "Trenchboard$Thing") (k := 18) (im tw_1_35) (C.2.2.2.2.2.1.2.2.1 _ (by simp [AOs])) (by decide) rfl (by decide) (n := 30) (by decide) (by decide) hc31 hs32 dX8_init_16 (fun q27 hq30 => ?_)
  generalize e29 : nA S25 q27 18 30 = S28
  have h := h q27 S28 hq30 e29.symm
  refine G_putPF C (CC := RX8) (Tf := TX8) (N := 10) (k := 9) (i := 2) (f := 902) (x := (some q27)) (ty0 := tyX8) (ty := (.array (.object "Trenchboard$Thing"))) (ka0 e29.symm hq30 (by decide) (ksP e26.symm hk24)) (by decide) rfl (fin fwX8) tyX8_ok nmX8 (by decide) (im tw_1_101) rfl rfl (hin9 rfl) rfl rfl rfl rfl rfl rfl dX8_init_19 ?_
  generalize e34 : sP S28 902 x0 (some q27) = S33
  have h := h S33 e34.symm
  refine G_aload_n C (x := (some x0)) 0 dX8_init_22 rfl rfl ?_
  refine G_bipush C (v := 24) dX8_init_23 (by decide) ?_
  obtain ⟨hc39, hs40, h⟩ := h
  refine G_newR C (i := 24) (E := "Trenchboard$Works") (k := 19) (im tw_1_37) (C.2.2.2.2.2.1.2.2.1 _ (by simp [AOs])) (by decide) rfl (by decide) (n := 24) (by decide) (by decide) hc39 hs40 dX8_init_25 (fun q35 hq38 => ?_)
  generalize e37 : nA S33 q35 19 24 = S36
  have h := h q35 S36 hq38 e37.symm
  refine G_putPF C (CC := RX8) (Tf := TX8) (N := 10) (k := 9) (i := 4) (f := 904) (x := (some q35)) (ty0 := tyX8) (ty := (.array (.object "Trenchboard$Works"))) (ka0 e37.symm hq38 (by decide) (ksP e34.symm (ka0 e29.symm hq30 (by decide) (ksP e26.symm hk24)))) (by decide) rfl (fin fwX8) tyX8_ok nmX8 (by decide) (im tw_1_103) rfl rfl (hin9 rfl) rfl rfl rfl rfl rfl rfl dX8_init_28 ?_
  generalize e42 : sP S36 904 x0 (some q35) = S41
  have h := h S41 e42.symm
  refine G_aload_n C (x := (some x0)) 0 dX8_init_31 rfl rfl ?_
  refine G_bipush C (v := 6) dX8_init_32 (by decide) ?_
  obtain ⟨hc47, hs48, h⟩ := h
  refine G_newR C (i := 6) (E := "Trenchboard$Party") (k := 16) (im tw_1_39) (C.2.2.2.2.2.1.2.2.1 _ (by simp [AOs])) (by decide) rfl (by decide) (n := 6) (by decide) (by decide) hc47 hs48 dX8_init_34 (fun q43 hq46 => ?_)
  generalize e45 : nA S41 q43 16 6 = S44
  have h := h q43 S44 hq46 e45.symm
  refine G_putPF C (CC := RX8) (Tf := TX8) (N := 10) (k := 9) (i := 6) (f := 906) (x := (some q43)) (ty0 := tyX8) (ty := (.array (.object "Trenchboard$Party"))) (ka0 e45.symm hq46 (by decide) (ksP e42.symm (ka0 e37.symm hq38 (by decide) (ksP e34.symm (ka0 e29.symm hq30 (by decide) (ksP e26.symm hk24)))))) (by decide) rfl (fin fwX8) tyX8_ok nmX8 (by decide) (im tw_1_105) rfl rfl (hin9 rfl) rfl rfl rfl rfl rfl rfl dX8_init_37 ?_
  generalize e50 : sP S44 906 x0 (some q43) = S49
  have h := h S49 e50.symm
  refine G_aload_n C (x := (some x0)) 0 dX8_init_40 rfl rfl ?_
  obtain ⟨hc55, hs56, h⟩ := h
  refine G_new C (CC := RX1) (Tf := TX1) (N := 2) (k := 2) (fs := [Value.null, Value.int 0]) (by decide) rfl (fin fwX1) tyX1_ok (im tw_1_41) (im tw_1_42) (im tw_1_2) rfl dv_X1 hc55 hs56 dX8_init_41 (fun q51 hq54 => ?_)
  generalize e53 : nO S49 q51 2 = S52
  have h := h q51 S52 hq54 e53.symm
  refine G_dup C dX8_init_44 (va_cat _) ?_
  obtain ⟨m59, m60, hc61, hs62, h⟩ := h
  refine G_callINv C hZ (host := "Trenchboard") (by decide +kernel) tw_1_44 tw_1_2 rfl tw_1_45 hy_X1_init ⟨Nat.le_of_ble_eq_true rfl, Nat.le_of_ble_eq_true rfl⟩ (As := []) (rest := [va_rf (some q51), va_rf (some x0)]) (c_X1_init l D cy q51 S52 m59 m60 _ h) rfl rfl (by simp [va_cat, vi_cat, vl_cat]) dX8_init_45 ⟨hc61, hs62⟩ (fun S57 h => ?_)
  obtain ⟨hk63, h⟩ := h
  refine G_putPF C (CC := RX8) (Tf := TX8) (N := 10) (k := 9) (i := 7) (f := 907) (x := (some q51)) (ty0 := tyX8) (ty := .object "Trenchboard$Ledger") hk63 (by decide) rfl (fin fwX8) tyX8_ok nmX8 (by decide) (im tw_1_106) rfl rfl (hin9 rfl) rfl rfl rfl rfl rfl rfl dX8_init_48 ?_
  generalize e65 : sP S57 907 x0 (some q51) = S64
  have h := h S64 e65.symm
  refine G_aload_n C (x := (some x0)) 0 dX8_init_51 rfl rfl ?_
  obtain ⟨hc70, hs71, h⟩ := h
  refine G_new C (CC := RJx4a65c) (Tf := TJx4a65c) (N := 3) (k := 11) (fs := [Value.int 0, Value.null, Value.int 0]) (by decide) rfl (fin fwJx4a65c) tyJx4a65c_ok (im tw_1_55) (im tw_1_56) (im tw_1_5) rfl dv_Jx4a65c hc70 hs71 dX8_init_52 (fun q66 hq69 => ?_)
  generalize e68 : nO S64 q66 11 = S67
  have h := h q66 S67 hq69 e68.symm
  refine G_dup C dX8_init_55 (va_cat _) ?_
  refine G_callIv C hZ tw_1_57 tw_1_58 tw_1_5 rfl tw_1_59 hy_Jx4a65c_init_da8c8 ⟨Nat.le_of_ble_eq_true rfl, Nat.le_of_ble_eq_true rfl⟩ (As := []) (rest := [va_rf (some q66), va_rf (some x0)]) (c_Jx4a65c_init_da8c8 l D cy e0 m0 he hm q66 S67 _ h) rfl rfl (by simp [va_cat, vi_cat, vl_cat]) dX8_init_56 ⟨hc70, hs71⟩ (fun S72 h => ?_)
  obtain ⟨hk74, h⟩ := h
  refine G_putPF C (CC := RX8) (Tf := TX8) (N := 10) (k := 9) (i := 8) (f := 908) (x := (some q66)) (ty0 := tyX8) (ty := .object "java/util/ArrayList") hk74 (by decide) rfl (fin fwX8) tyX8_ok nmX8 (by decide) (im tw_1_107) rfl rfl (hin9 rfl) rfl rfl rfl rfl rfl rfl dX8_init_59 ?_
  generalize e76 : sP S72 908 x0 (some q66) = S75
  have h := h S75 e76.symm
  refine G_iconst C (v := 0) dX8_init_62 (by decide) ?_
  refine G_istore_n C (i := 1) (lv' := [(1, Value.int 0), (0, va_rf (some x0))]) dX8_init_63 rfl (by decide) (by first | rfl | simp [va_cat, vi_cat, vl_cat]) ?_
  refine G_lv C (lv' := [(0, va_rf (some x0)), (1, Value.int 0)]) [1, 0] rfl ?_
  obtain ⟨n9, h⟩ := h
  exact J64 n9 _ _ _ _ h
set_option maxHeartbeats 4000000 in
set_option maxRecDepth 100000 in
theorem c_J7_copyOf_6403c (l : Launch) (D : va_G) (cy : Nat → Nat) (e0 m0 : Nat) (he : e0 = cy 9) (hm : m0 = cy 10) (x0 : Option Nat) (x1 : Int32) (x2 : Option Nat) (S : PT) (mc ms : Nat) (post : Option Nat → PT → Prop) (h : w_J7_copyOf_6403c e0 m0 x0 x1 x2 S mc ms post) : Mq l yJ7_copyOf_6403c (Wm yJ7_copyOf_6403c prog_27_method_120_code 4 (Option.some (Jvm.ClassFile.FieldType.array (Jvm.ClassFile.FieldType.object "java/lang/Object")))) 1 40 D cy [va_rf x0, Value.int x1, va_rf x2] S mc ms post := by
  refine Mq_of (own := "java/util/Arrays") (by decide) rfl (by first | decide | simp [lg_sl, va_cat, vi_cat, vl_cat]) (fun p e s m below meth c A C hZ hr hin9 => ?_)
  refine G_lv C (lv' := [(0, va_rf x0), (1, Value.int x1), (2, va_rf x2)]) [0, 1, 2] (by first | rfl | simp [lv_pick, lv_args, va_cat, vi_cat, vl_cat]) ?_
  unfold w_J7_copyOf_6403c at h
  refine G_aload_n C (x := x2) 2 dJ7_copyOf_6403c_0 rfl rfl ?_
  refine G_ldcM C hZ hm tw_2_226 dJ7_copyOf_6403c_1 ?_
  refine G_acmp_ne C (tgt := 13) dJ7_copyOf_6403c_3 (by decide) (fun hc => ?_) (fun hc => ?_)
  · have h := h.1 hc
    refine G_aload_n C (x := x2) 2 dJ7_copyOf_6403c_13 rfl rfl ?_
    exact h.elim
  · have h := h.2 hc
    refine G_iload_n C (x := x1) 1 dJ7_copyOf_6403c_6 rfl rfl ?_
    obtain ⟨hz7, hy8, h⟩ := h
    obtain ⟨hc5, hs6, h⟩ := h
    refine G_newR C (i := x1) (E := "java/lang/Object") (k := 20) (im tw_2_228) (C.2.2.2.2.2.1.2.2.1 _ (by simp [AOs])) (by decide) rfl hz7 (n := (x1).toNatClampNeg) rfl (by omega) hc5 hs6 dJ7_copyOf_6403c_7 (fun q1 hq4 => ?_)
    generalize e3 : nA S q1 20 ((x1).toNatClampNeg) = S2
    have h := h q1 S2 hq4 e3.symm
    refine G_ne0 C hZ he (a := q1) (by rw [ka1 e3.symm]; decide) (fun hw9 => ?_)
    have h := h hw9
    refine G_goto C (tgt := 24) dJ7_copyOf_6403c_10 (by decide) ?_
    refine G_astore_n C (i := 3) (lv' := [(3, va_rf (some q1)), (0, va_rf x0), (1, Value.int x1), (2, va_rf x2)]) dJ7_copyOf_6403c_24 rfl (by decide) (by first | rfl | simp [va_cat, vi_cat, vl_cat]) ?_
    refine G_aload_n C (x := x0) 1 dJ7_copyOf_6403c_25 rfl rfl ?_
    refine G_iconst C (v := 0) dJ7_copyOf_6403c_26 (by decide) ?_
    refine G_aload_n C (x := (some q1)) 0 dJ7_copyOf_6403c_27 rfl rfl ?_
    refine G_iconst C (v := 0) dJ7_copyOf_6403c_28 (by decide) ?_
    refine G_aload_n C (x := x0) 1 dJ7_copyOf_6403c_29 rfl rfl ?_
    obtain ⟨a10, ha11, h⟩ := h
    refine G_rf ha11 ?_
    obtain ⟨hk12, h⟩ := h
    refine G_alen C hk12 (by decide) rfl dJ7_copyOf_6403c_30 ?_
    refine G_iload_n C (x := x1) 2 dJ7_copyOf_6403c_31 rfl rfl ?_
    refine G_mmin C (im tw_2_229) (im tw_2_230) (im tw_1_14) (im tw_2_231) (Nat.le_of_ble_eq_true rfl) (by simp [va_cat, vi_cat, vl_cat]) (by omega) (by omega) dJ7_copyOf_6403c_32 ?_
    refine G_rf4 ha11 ?_
    obtain ⟨hv13, hv14, hv15, h⟩ := h
    obtain ⟨hv16, h⟩ := h
    refine G_copyR C hZ (a := q1) (a0 := a10) (sp := 0) (dp := 0) (n := (if x1 < (nI (gN S2 a10)) then x1 else (nI (gN S2 a10)))) tw_2_232 tw_2_234 tw_2_233 tw_1_19 (ka1 e3.symm) hk12 (by decide) (by decide) hv13 hv14 hv15 hv16 (Nat.le_of_ble_eq_true rfl) (by simp [va_cat, vi_cat, vl_cat]; decide) dJ7_copyOf_6403c_35 ?_
    generalize e19 : cpR S2 q1 (va_cpy (gR S2 a10) (gR S2 q1) (0 : Int32).toNatClampNeg (0 : Int32).toNatClampNeg ((if x1 < (nI (gN S2 a10)) then x1 else (nI (gN S2 a10))) : Int32).toNatClampNeg) = S18
    have h := h S18 e19.symm
    refine G_aload_n C (x := (some q1)) 0 dJ7_copyOf_6403c_38 rfl rfl ?_
    exact G_aret C (mc := mc) (ms := ms) (post := post) (v := (some q1)) (Or.inr ⟨_, rfl⟩) hr hc5 hs6 dJ7_copyOf_6403c_39 h
set_option maxHeartbeats 4000000 in
set_option maxRecDepth 100000 in
theorem c_J7_copyOf_1904c (l : Launch) (D : va_G) (cy : Nat → Nat) (e0 m0 : Nat) (he : e0 = cy 9) (hm : m0 = cy 10) (x0 : Option Nat) (x1 : Int32) (S : PT) (mc ms : Nat) (post : Option Nat → PT → Prop) (h : w_J7_copyOf_1904c e0 m0 x0 x1 S mc ms post) : Mq l yJ7_copyOf_1904c (Wm yJ7_copyOf_1904c prog_27_method_119_code 2 (Option.some (Jvm.ClassFile.FieldType.array (Jvm.ClassFile.FieldType.object "java/lang/Object")))) 2 63 D cy [va_rf x0, Value.int x1] S mc ms post := by
  refine Mq_of (own := "java/util/Arrays") (by decide) rfl (by first | decide | simp [lg_sl, va_cat, vi_cat, vl_cat]) (fun p e s m below meth c A C hZ hr hin9 => ?_)
  refine G_lv C (lv' := [(0, va_rf x0), (1, Value.int x1)]) [0, 1] (by first | rfl | simp [lv_pick, lv_args, va_cat, vi_cat, vl_cat]) ?_
  unfold w_J7_copyOf_1904c at h
  refine G_aload_n C (x := x0) 0 dJ7_copyOf_1904c_0 rfl rfl ?_
  refine G_iload_n C (x := x1) 1 dJ7_copyOf_1904c_1 rfl rfl ?_
  refine G_aload_n C (x := x0) 0 dJ7_copyOf_1904c_2 rfl rfl ?_
  obtain ⟨a1, ha2, h⟩ := h
  refine G_rf ha2 ?_
  obtain ⟨hk3, h⟩ := h
  refine G_getC C hZ hm hk3 tw_2_206 tw_5_80 tw_2_207 tw_2_222 (Nat.le_of_ble_eq_true rfl) (by simp [va_cat, vi_cat, vl_cat]) dJ7_copyOf_1904c_3 ?_
  obtain ⟨m6, m7, hc8, hs9, h⟩ := h
  refine G_callSq C hZ tw_2_223 tw_2_224 tw_1_18 tw_2_225 hy_J7_copyOf_6403c ⟨Nat.le_of_ble_eq_true rfl, Nat.le_of_ble_eq_true rfl⟩ (As := [va_rf x0, Value.int x1, va_rf (some m0)]) (rest := []) (c_J7_copyOf_6403c l D cy e0 m0 he hm x0 x1 (some m0) S m6 m7 _ h) rfl rfl (by simp [va_cat, vi_cat, vl_cat]) dJ7_copyOf_1904c_6 ⟨hc8, hs9⟩ (fun r5 S4 h => ?_)
  exact G_aret C (mc := mc) (ms := ms) (post := post) (v := r5) (Or.inr ⟨_, rfl⟩) hr hc8 hs9 dJ7_copyOf_1904c_9 h
set_option maxHeartbeats 4000000 in
set_option maxRecDepth 100000 in
theorem c_Jx4a65c_grow_92f84 (l : Launch) (D : va_G) (cy : Nat → Nat) (e0 m0 : Nat) (he : e0 = cy 9) (hm : m0 = cy 10) (x0 : Nat) (x1 : Int32) (S : PT) (mc ms : Nat) (post : Option Nat → PT → Prop) (h : w_Jx4a65c_grow_92f84 e0 m0 x0 x1 S mc ms post) : Mq l yJx4a65c_grow_92f84 (Wm yJx4a65c_grow_92f84 prog_26_method_6_code 4 (Option.some (Jvm.ClassFile.FieldType.array (Jvm.ClassFile.FieldType.object "java/lang/Object")))) 3 84 D cy [va_rf (some x0), Value.int x1] S mc ms post := by
  refine Mq_of (own := "java/util/ArrayList") (by decide) rfl (by first | decide | simp [lg_sl, va_cat, vi_cat, vl_cat]) (fun p e s m below meth c A C hZ hr hin9 => ?_)
  have J20 : ∀ (c0 n0 : Nat) (S : PT) (v2 : Int32), w_Jx4a65c_grow_92f84_b20 e0 m0 x0 x1 mc ms post c0 n0 S v2 → G p l e { frames := 3, cells := mc, slots := ms, locals := 84 } s m [va_rf (some x0), Value.int x1].toArray below meth c D cy A s.heap 4 (QMq below D cy A [va_rf (some x0), Value.int x1] s mc ms post) S c0 n0 20 [(0, va_rf (some x0)), (1, Value.int x1), (2, Value.int v2)] [] := by
    intro c0 n0 S v2 h
    unfold w_Jx4a65c_grow_92f84_b20 at h
    obtain ⟨hc00, hn00, h⟩ := h
    refine G_iload_n C (x := v2) 2 dJx4a65c_grow_92f84_20 rfl rfl ?_
    refine G_iload_n C (x := x1) 1 dJx4a65c_grow_92f84_21 rfl rfl ?_
    refine G_iload_n C (x := v2) 2 dJx4a65c_grow_92f84_22 rfl rfl ?_
    refine G_isub C dJx4a65c_grow_92f84_23 ?_
    refine G_iload_n C (x := v2) 2 dJx4a65c_grow_92f84_24 rfl rfl ?_
    refine G_iconst C (v := 1) dJx4a65c_grow_92f84_25 (by decide) ?_
    refine G_ishr C dJx4a65c_grow_92f84_26 ?_
    refine G_callSi C hZ tw_2_195 tw_2_196 tw_1_17 tw_2_197 hy_J8_newLength_cabcc ⟨Nat.le_of_ble_eq_true rfl, Nat.le_of_ble_eq_true rfl⟩ (As := [Value.int v2, Value.int (x1 - v2), Value.int (v2 >>> (1 &&& 31))]) (rest := []) (c_J8_newLength_cabcc l D cy v2 (x1 - v2) (v2 >>> (1 &&& 31)) S _ h) rfl rfl (by simp [va_cat, vi_cat, vl_cat]) dJx4a65c_grow_92f84_27 ⟨hc00, hn00⟩ (fun r2 S1 h => ?_)
    refine G_istore_n C (i := 3) (lv' := [(3, Value.int r2), (0, va_rf (some x0)), (1, Value.int x1), (2, Value.int v2)]) dJx4a65c_grow_92f84_30 rfl (by decide) (by first | rfl | simp [va_cat, vi_cat, vl_cat]) ?_
    refine G_aload_n C (x := (some x0)) 1 dJx4a65c_grow_92f84_31 rfl rfl ?_
    refine G_aload_n C (x := (some x0)) 1 dJx4a65c_grow_92f84_32 rfl rfl ?_
    obtain ⟨hk3, h⟩ := h
    refine G_get C (CC := RJx4a65c) (Tf := TJx4a65c) (N := 3) (k := 11) (i := 1) (v := va_rf (gP S1 1101 x0)) hk3 (by decide) rfl (fin fwJx4a65c) (by decide) (im tw_1_69) rfl rfl dJx4a65c_grow_92f84_33 ?_
    refine G_iload_n C (x := r2) 0 dJx4a65c_grow_92f84_36 rfl rfl ?_
    obtain ⟨m6, m7, hc8, hs9, h⟩ := h
    refine G_callSq C hZ tw_2_203 tw_2_204 tw_1_18 tw_2_205 hy_J7_copyOf_1904c ⟨Nat.le_of_ble_eq_true rfl, Nat.le_of_ble_eq_true rfl⟩ (As := [va_rf (gP S1 1101 x0), Value.int r2]) (rest := [va_rf (some x0)]) (c_J7_copyOf_1904c l D cy e0 m0 he hm (gP S1 1101 x0) r2 S1 m6 m7 _ h) rfl rfl (by simp [va_cat, vi_cat, vl_cat]) dJx4a65c_grow_92f84_37 ⟨hc8, hs9⟩ (fun r5 S4 h => ?_)
    refine G_dup_x1 C dJx4a65c_grow_92f84_40 (va_cat _) (va_cat _) ?_
    obtain ⟨hk10, h⟩ := h
    refine G_putP C (CC := RJx4a65c) (Tf := TJx4a65c) (N := 3) (k := 11) (i := 1) (f := 1101) (x := r5) (ty0 := tyJx4a65c) (ty := (.array (.object "java/lang/Object"))) hk10 (by decide) rfl (fin fwJx4a65c) tyJx4a65c_ok nmJx4a65c (by decide) (im tw_1_69) rfl rfl rfl (by cases (r5 : Option Nat) <;> rfl) (by cases (r5 : Option Nat) <;> rfl) rfl rfl dJx4a65c_grow_92f84_41 ?_
    generalize e12 : sP S4 1101 x0 r5 = S11
    have h := h S11 e12.symm
    exact G_aret C (mc := mc) (ms := ms) (post := post) (v := r5) (Or.inr ⟨_, rfl⟩) hr hc8 hs9 dJx4a65c_grow_92f84_44 h
  refine G_lv C (lv' := [(0, va_rf (some x0)), (1, Value.int x1)]) [0, 1] (by first | rfl | simp [lv_pick, lv_args, va_cat, vi_cat, vl_cat]) ?_
  unfold w_Jx4a65c_grow_92f84 at h
  refine G_aload_n C (x := (some x0)) 0 dJx4a65c_grow_92f84_0 rfl rfl ?_
  obtain ⟨hk13, h⟩ := h
  refine G_get C (CC := RJx4a65c) (Tf := TJx4a65c) (N := 3) (k := 11) (i := 1) (v := va_rf (gP S 1101 x0)) hk13 (by decide) rfl (fin fwJx4a65c) (by decide) (im tw_1_69) rfl rfl dJx4a65c_grow_92f84_1 ?_
  obtain ⟨a14, ha15, h⟩ := h
  refine G_rf ha15 ?_
  obtain ⟨hk16, h⟩ := h
  refine G_alenE C hZ he hk16 dJx4a65c_grow_92f84_4 ?_
  refine G_istore_n C (i := 2) (lv' := [(2, Value.int (nI (eN e0 S a14))), (0, va_rf (some x0)), (1, Value.int x1)]) dJx4a65c_grow_92f84_5 rfl (by decide) (by first | rfl | simp [va_cat, vi_cat, vl_cat]) ?_
  refine G_iload_n C (x := (nI (eN e0 S a14))) 0 dJx4a65c_grow_92f84_6 rfl rfl ?_
  refine G_if_gt C (tgt := 20) dJx4a65c_grow_92f84_7 (by decide) (fun hc => ?_) (fun hc => ?_)
  · have h := h.1 hc
    refine G_lv C (lv' := [(0, va_rf (some x0)), (1, Value.int x1), (2, Value.int (nI (eN e0 S a14)))]) [1, 2, 0] rfl ?_
    exact J20 _ _ _ _ h
  · have h := h.2 hc
    refine G_aload_n C (x := (some x0)) 1 dJx4a65c_grow_92f84_10 rfl rfl ?_
    refine G_get C (CC := RJx4a65c) (Tf := TJx4a65c) (N := 3) (k := 11) (i := 1) (v := va_rf (gP S 1101 x0)) hk13 (by decide) rfl (fin fwJx4a65c) (by decide) (im tw_1_69) rfl rfl dJx4a65c_grow_92f84_11 ?_
    refine G_gets C hZ he tw_1_67 dJx4a65c_grow_92f84_14 ?_
    refine G_acmp_eq C (tgt := 45) dJx4a65c_grow_92f84_17 (by decide) (fun hc => ?_) (fun hc => ?_)
    · have h := h.1 hc
      refine G_aload_n C (x := (some x0)) 1 dJx4a65c_grow_92f84_45 rfl rfl ?_
      refine G_bipush C (v := 10) dJx4a65c_grow_92f84_46 (by decide) ?_
      refine G_iload_n C (x := x1) 2 dJx4a65c_grow_92f84_48 rfl rfl ?_
      refine G_mmax C (im tw_2_235) (im tw_2_69) (im tw_1_14) (im tw_2_70) (Nat.le_of_ble_eq_true rfl) (by simp [va_cat, vi_cat, vl_cat]) (by omega) (by omega) dJx4a65c_grow_92f84_49 ?_
      obtain ⟨hz23, hy24, h⟩ := h
      obtain ⟨hc21, hs22, h⟩ := h
      refine G_newR C (i := (if 10 < x1 then x1 else 10)) (E := "java/lang/Object") (k := 20) (im tw_2_236) (C.2.2.2.2.2.1.2.2.1 _ (by simp [AOs])) (by decide) rfl hz23 (n := ((if 10 < x1 then x1 else 10)).toNatClampNeg) rfl (by omega) hc21 hs22 dJx4a65c_grow_92f84_52 (fun q17 hq20 => ?_)
      generalize e19 : nA S q17 20 (((if 10 < x1 then x1 else 10)).toNatClampNeg) = S18
      have h := h q17 S18 hq20 e19.symm
      refine G_ne0 C hZ he (a := q17) (by rw [ka1 e19.symm]; decide) (fun hw25 => ?_)
      have h := h hw25
      refine G_dup_x1 C dJx4a65c_grow_92f84_55 (va_cat _) (va_cat _) ?_
      refine G_putP C (CC := RJx4a65c) (Tf := TJx4a65c) (N := 3) (k := 11) (i := 1) (f := 1101) (x := (some q17)) (ty0 := tyJx4a65c) (ty := (.array (.object "java/lang/Object"))) (ka0 e19.symm hq20 (by decide) hk13) (by decide) rfl (fin fwJx4a65c) tyJx4a65c_ok nmJx4a65c (by decide) (im tw_1_69) rfl rfl rfl rfl rfl rfl rfl dJx4a65c_grow_92f84_56 ?_
      generalize e27 : sP S18 1101 x0 (some q17) = S26
      have h := h S26 e27.symm
      exact G_aret C (mc := mc) (ms := ms) (post := post) (v := (some q17)) (Or.inr ⟨_, rfl⟩) hr hc21 hs22 dJx4a65c_grow_92f84_59 h
    · have h := h.2 hc
      refine G_lv C (lv' := [(0, va_rf (some x0)), (1, Value.int x1), (2, Value.int (nI (eN e0 S a14)))]) [1, 2, 0] rfl ?_
      exact J20 _ _ _ _ h
set_option maxHeartbeats 4000000 in
set_option maxRecDepth 100000 in
theorem c_Jx4a65c_grow_d5877 (l : Launch) (D : va_G) (cy : Nat → Nat) (e0 m0 : Nat) (he : e0 = cy 9) (hm : m0 = cy 10) (x0 : Nat) (S : PT) (mc ms : Nat) (post : Option Nat → PT → Prop) (h : w_Jx4a65c_grow_d5877 e0 m0 x0 S mc ms post) : Mq l yJx4a65c_grow_d5877 (Wm yJx4a65c_grow_d5877 prog_26_method_7_code 1 (Option.some (Jvm.ClassFile.FieldType.array (Jvm.ClassFile.FieldType.object "java/lang/Object")))) 4 107 D cy [va_rf (some x0)] S mc ms post := by
  refine Mq_of (own := "java/util/ArrayList") (by decide) rfl (by first | decide | simp [lg_sl, va_cat, vi_cat, vl_cat]) (fun p e s m below meth c A C hZ hr hin9 => ?_)
  refine G_lv C (lv' := [(0, va_rf (some x0))]) [0] (by first | rfl | simp [lv_pick, lv_args, va_cat, vi_cat, vl_cat]) ?_
  unfold w_Jx4a65c_grow_d5877 at h
  refine G_aload_n C (x := (some x0)) 0 dJx4a65c_grow_d5877_0 rfl rfl ?_
  refine G_aload_n C (x := (some x0)) 0 dJx4a65c_grow_d5877_1 rfl rfl ?_
  obtain ⟨hk1, h⟩ := h
  refine G_get C (CC := RJx4a65c) (Tf := TJx4a65c) (N := 3) (k := 11) (i := 2) (v := Value.int (gI S 1102 x0)) hk1 (by decide) rfl (fin fwJx4a65c) (by decide) (im tw_1_70) rfl rfl dJx4a65c_grow_d5877_2 ?_
  refine G_iconst C (v := 1) dJx4a65c_grow_d5877_5 (by decide) ?_
  refine G_iadd C dJx4a65c_grow_d5877_6 ?_
  obtain ⟨m4, m5, hc6, hs7, h⟩ := h
  refine G_callVq C hZ (Tf := TJx4a65c) (N := 3) hk1 (by decide) rfl tw_2_191 tw_2_193 tw_0_10 tw_1_5 tw_2_194 hy_Jx4a65c_grow_92f84 ⟨Nat.le_of_ble_eq_true rfl, Nat.le_of_ble_eq_true rfl⟩ (As := [Value.int ((gI S 1102 x0) + 1)]) (rest := []) (c_Jx4a65c_grow_92f84 l D cy e0 m0 he hm x0 ((gI S 1102 x0) + 1) S m4 m5 _ h) rfl rfl (by simp [va_cat, vi_cat, vl_cat]) dJx4a65c_grow_d5877_7 ⟨hc6, hs7⟩ (fun r3 S2 h => ?_)
  exact G_aret C (mc := mc) (ms := ms) (post := post) (v := r3) (Or.inr ⟨_, rfl⟩) hr hc6 hs7 dJx4a65c_grow_d5877_10 h
set_option maxHeartbeats 4000000 in
set_option maxRecDepth 100000 in
theorem c_Jx4a65c_add_72be8 (l : Launch) (D : va_G) (cy : Nat → Nat) (e0 m0 : Nat) (he : e0 = cy 9) (hm : m0 = cy 10) (x0 : Nat) (x1 : Option Nat) (x2 : Option Nat) (x3 : Int32) (S : PT) (mc ms : Nat) (post : PT → Prop) (h : w_Jx4a65c_add_72be8 e0 m0 x0 x1 x2 x3 S mc ms post) : Mv l yJx4a65c_add_72be8 (Wm yJx4a65c_add_72be8 prog_26_method_24_code 4 (Option.none : Option Jvm.ClassFile.FieldType)) 5 127 D cy [va_rf (some x0), va_rf x1, va_rf x2, Value.int x3] S mc ms post := by
  refine Mv_of (own := "java/util/ArrayList") (by decide) rfl (by first | decide | simp [lg_sl, va_cat, vi_cat, vl_cat]) (fun p e s m below meth c A C hZ hr hin9 => ?_)
  have J11 : ∀ (c0 n0 : Nat) (S : PT) (v2 : Option Nat), w_Jx4a65c_add_72be8_b11 e0 m0 x0 x1 x3 mc ms post c0 n0 S v2 → G p l e { frames := 5, cells := mc, slots := ms, locals := 127 } s m [va_rf (some x0), va_rf x1, va_rf x2, Value.int x3].toArray below meth c D cy A s.heap 4 (QMv below D cy A [va_rf (some x0), va_rf x1, va_rf x2, Value.int x3] s mc ms post) S c0 n0 11 [(0, va_rf (some x0)), (1, va_rf x1), (3, Value.int x3), (2, va_rf v2)] [] := by
    intro c0 n0 S v2 h
    unfold w_Jx4a65c_add_72be8_b11 at h
    obtain ⟨hc00, hn00, h⟩ := h
    refine G_aload_n C (x := v2) 3 dJx4a65c_add_72be8_11 rfl rfl ?_
    refine G_iload_n C (x := x3) 2 dJx4a65c_add_72be8_12 rfl rfl ?_
    refine G_aload_n C (x := x1) 1 dJx4a65c_add_72be8_13 rfl rfl ?_
    obtain ⟨a1, ha2, h⟩ := h
    refine G_rf2 ha2 ?_
    obtain ⟨hk3, h⟩ := h
    obtain ⟨a4, ha5, h⟩ := h
    refine G_rf ha5 ?_
    obtain ⟨hk6, h⟩ := h
    obtain ⟨hi7, h⟩ := h
    refine G_aastO C hZ hk3 hk6 hi7 dJx4a65c_add_72be8_14 ?_
    generalize e9 : sR S a1 ((x3).toNatClampNeg) (some a4) = S8
    have h := h S8 e9.symm
    refine G_aload_n C (x := (some x0)) 0 dJx4a65c_add_72be8_15 rfl rfl ?_
    refine G_iload_n C (x := x3) 2 dJx4a65c_add_72be8_16 rfl rfl ?_
    refine G_iconst C (v := 1) dJx4a65c_add_72be8_17 (by decide) ?_
    refine G_iadd C dJx4a65c_add_72be8_18 ?_
    obtain ⟨hk10, h⟩ := h
    refine G_putI C (CC := RJx4a65c) (Tf := TJx4a65c) (N := 3) (k := 11) (i := 2) (f := 1102) (x := (x3 + 1)) (ty0 := tyJx4a65c) (ty := .int) hk10 (by decide) rfl (fin fwJx4a65c) tyJx4a65c_ok nmJx4a65c (by decide) (im tw_1_70) rfl rfl rfl rfl rfl rfl rfl dJx4a65c_add_72be8_19 ?_
    generalize e12 : sI S8 1102 x0 (x3 + 1) = S11
    have h := h S11 e12.symm
    exact G_vret C (mc := mc) (ms := ms) (post := post) hr hc00 hn00 dJx4a65c_add_72be8_22 h
  refine G_lv C (lv' := [(0, va_rf (some x0)), (1, va_rf x1), (2, va_rf x2), (3, Value.int x3)]) [0, 1, 2, 3] (by first | rfl | simp [lv_pick, lv_args, va_cat, vi_cat, vl_cat]) ?_
  unfold w_Jx4a65c_add_72be8 at h
  refine G_iload_n C (x := x3) 3 dJx4a65c_add_72be8_0 rfl rfl ?_
  refine G_aload_n C (x := x2) 2 dJx4a65c_add_72be8_1 rfl rfl ?_
  obtain ⟨a13, ha14, h⟩ := h
  refine G_rf ha14 ?_
  obtain ⟨hk15, h⟩ := h
  refine G_alenE C hZ he hk15 dJx4a65c_add_72be8_2 ?_
  refine G_icmp_ne C (tgt := 11) dJx4a65c_add_72be8_3 (by decide) (fun hc => ?_) (fun hc => ?_)
  · have h := h.1 hc
    refine G_lv C (lv' := [(0, va_rf (some x0)), (1, va_rf x1), (3, Value.int x3), (2, va_rf x2)]) [0, 1, 3, 2] rfl ?_
    exact J11 _ _ _ _ h
  · have h := h.2 hc
    refine G_aload_n C (x := (some x0)) 0 dJx4a65c_add_72be8_6 rfl rfl ?_
    obtain ⟨hk16, h⟩ := h
    obtain ⟨m19, m20, hc21, hs22, h⟩ := h
    refine G_callVq C hZ (Tf := TJx4a65c) (N := 3) hk16 (by decide) rfl tw_2_187 tw_2_189 tw_0_9 tw_1_5 tw_2_190 hy_Jx4a65c_grow_d5877 ⟨Nat.le_of_ble_eq_true rfl, Nat.le_of_ble_eq_true rfl⟩ (As := []) (rest := []) (c_Jx4a65c_grow_d5877 l D cy e0 m0 he hm x0 S m19 m20 _ h) rfl rfl (by simp [va_cat, vi_cat, vl_cat]) dJx4a65c_add_72be8_7 ⟨hc21, hs22⟩ (fun r18 S17 h => ?_)
    refine G_astore_n C (i := 2) (lv' := [(2, va_rf r18), (0, va_rf (some x0)), (1, va_rf x1), (3, Value.int x3)]) dJx4a65c_add_72be8_10 rfl (by decide) (by first | rfl | simp [va_cat, vi_cat, vl_cat]) ?_
    refine G_lv C (lv' := [(0, va_rf (some x0)), (1, va_rf x1), (3, Value.int x3), (2, va_rf r18)]) [1, 2, 3, 0] rfl ?_
    exact J11 _ _ _ _ h
set_option maxHeartbeats 4000000 in
set_option maxRecDepth 100000 in
theorem c_Jx4a65c_add_9ea2d (l : Launch) (D : va_G) (cy : Nat → Nat) (e0 m0 : Nat) (he : e0 = cy 9) (hm : m0 = cy 10) (x0 : Nat) (x1 : Option Nat) (S : PT) (mc ms : Nat) (post : Int32 → PT → Prop) (h : w_Jx4a65c_add_9ea2d e0 m0 x0 x1 S mc ms post) : Mi l yJx4a65c_add_9ea2d (Wm yJx4a65c_add_9ea2d prog_26_method_25_code 2 (Option.some Jvm.ClassFile.FieldType.boolean)) 6 150 D cy [va_rf (some x0), va_rf x1] S mc ms (fun r S => bo r ∧ post r S) := by
  refine Mi_of (own := "java/util/ArrayList") (by decide) rfl (by first | decide | simp [lg_sl, va_cat, vi_cat, vl_cat]) (fun p e s m below meth c A C hZ hr hin9 => ?_)
  refine G_lv C (lv' := [(0, va_rf (some x0)), (1, va_rf x1)]) [0, 1] (by first | rfl | simp [lv_pick, lv_args, va_cat, vi_cat, vl_cat]) ?_
  unfold w_Jx4a65c_add_9ea2d at h
  refine G_aload_n C (x := (some x0)) 0 dJx4a65c_add_9ea2d_0 rfl rfl ?_
  refine G_dup C dJx4a65c_add_9ea2d_1 (va_cat _) ?_
  obtain ⟨hk1, h⟩ := h
  refine G_get2 C (CC := RJx4a65c) (Tf := TJx4a65c) (N := 3) (k := 11) (i := 0) (v := Value.int (gI S 1100 x0)) hk1 (by decide) rfl (fin fwJx4a65c) (by decide) (im tw_1_72) (im tw_1_73) rfl dJx4a65c_add_9ea2d_2 ?_
  refine G_iconst C (v := 1) dJx4a65c_add_9ea2d_5 (by decide) ?_
  refine G_iadd C dJx4a65c_add_9ea2d_6 ?_
  refine G_putI2 C (CC := RJx4a65c) (Tf := TJx4a65c) (N := 3) (k := 11) (i := 0) (f := 1100) (x := ((gI S 1100 x0) + 1)) (ty0 := tyJx4a65c) (ty := .int) hk1 (by decide) rfl (fin fwJx4a65c) tyJx4a65c_ok nmJx4a65c (by decide) (im tw_1_72) (im tw_1_73) rfl rfl rfl rfl rfl rfl dJx4a65c_add_9ea2d_7 ?_
  generalize e3 : sI S 1100 x0 ((gI S 1100 x0) + 1) = S2
  have h := h S2 e3.symm
  refine G_aload_n C (x := (some x0)) 0 dJx4a65c_add_9ea2d_10 rfl rfl ?_
  refine G_aload_n C (x := x1) 1 dJx4a65c_add_9ea2d_11 rfl rfl ?_
  refine G_aload_n C (x := (some x0)) 0 dJx4a65c_add_9ea2d_12 rfl rfl ?_
  refine G_get C (CC := RJx4a65c) (Tf := TJx4a65c) (N := 3) (k := 11) (i := 1) (v := va_rf (gP S2 1101 x0)) (ksI e3.symm hk1) (by decide) rfl (fin fwJx4a65c) (by decide) (im tw_1_69) rfl rfl dJx4a65c_add_9ea2d_13 ?_
  refine G_aload_n C (x := (some x0)) 0 dJx4a65c_add_9ea2d_16 rfl rfl ?_
  refine G_get C (CC := RJx4a65c) (Tf := TJx4a65c) (N := 3) (k := 11) (i := 2) (v := Value.int (gI S2 1102 x0)) (ksI e3.symm hk1) (by decide) rfl (fin fwJx4a65c) (by decide) (im tw_1_70) rfl rfl dJx4a65c_add_9ea2d_17 ?_
  obtain ⟨m6, m7, hc8, hs9, h⟩ := h
  refine G_callVv C hZ (Tf := TJx4a65c) (N := 3) (ksI e3.symm hk1) (by decide) rfl tw_2_183 tw_2_185 tw_0_8 tw_1_5 tw_2_186 hy_Jx4a65c_add_72be8 ⟨Nat.le_of_ble_eq_true rfl, Nat.le_of_ble_eq_true rfl⟩ (As := [va_rf x1, va_rf (gP S2 1101 x0), Value.int (gI S2 1102 x0)]) (rest := []) (c_Jx4a65c_add_72be8 l D cy e0 m0 he hm x0 x1 (gP S2 1101 x0) (gI S2 1102 x0) S2 m6 m7 _ h) rfl rfl (by simp [va_cat, vi_cat, vl_cat]) dJx4a65c_add_9ea2d_20 ⟨hc8, hs9⟩ (fun S4 h => ?_)
  refine G_iconst C (v := 1) dJx4a65c_add_9ea2d_23 (by decide) ?_
  exact G_zret C (mc := mc) (ms := ms) (post := (fun r S => bo r ∧ post r S)) (bo_nar bo_1) hr hc8 hs9 dJx4a65c_add_9ea2d_24 ⟨bo_1, h⟩
set_option maxHeartbeats 4000000 in
set_option maxRecDepth 100000 in
theorem c_X8_tell (l : Launch) (D : va_G) (cy : Nat → Nat) (e0 m0 : Nat) (he : e0 = cy 9) (hm : m0 = cy 10) (x0 : Nat) (x1 : Option Nat) (S : PT) (mc ms : Nat) (post : PT → Prop) (h : w_X8_tell e0 m0 x0 x1 S mc ms post) : Mv l yX8_tell (Wm yX8_tell prog_1_method_45_code 2 (Option.none : Option Jvm.ClassFile.FieldType)) 7 171 D cy [va_rf (some x0), va_rf x1] S mc ms post := by
  refine Mv_of (own := "Trenchboard") (by decide) rfl (by first | decide | simp [lg_sl, va_cat, vi_cat, vl_cat]) (fun p e s m below meth c A C hZ hr hin9 => ?_)
  have J22 : ∀ (c0 n0 : Nat) (S : PT), w_X8_tell_b22 e0 m0 x0 x1 mc ms post c0 n0 S → G p l e { frames := 7, cells := mc, slots := ms, locals := 171 } s m [va_rf (some x0), va_rf x1].toArray below meth c D cy A s.heap 2 (QMv below D cy A [va_rf (some x0), va_rf x1] s mc ms post) S c0 n0 22 [] [] := by
    intro c0 n0 S h
    unfold w_X8_tell_b22 at h
    obtain ⟨hc00, hn00, h⟩ := h
    exact G_vret C (mc := mc) (ms := ms) (post := post) hr hc00 hn00 dX8_tell_22 h
  refine G_lv C (lv' := [(0, va_rf (some x0)), (1, va_rf x1)]) [0, 1] (by first | rfl | simp [lv_pick, lv_args, va_cat, vi_cat, vl_cat]) ?_
  unfold w_X8_tell at h
  refine G_aload_n C (x := (some x0)) 0 dX8_tell_0 rfl rfl ?_
  obtain ⟨hk1, h⟩ := h
  refine G_get C (CC := RX8) (Tf := TX8) (N := 10) (k := 9) (i := 8) (v := va_rf (gP S 908 x0)) hk1 (by decide) rfl (fin fwX8) (by decide) (im tw_1_107) rfl rfl dX8_tell_1 ?_
  obtain ⟨a2, ha3, h⟩ := h
  obtain ⟨hk4, h⟩ := h
  refine G_callVi C hZ (Tf := TJx4a65c) (N := 3) hk4 (by decide) rfl tw_2_150 tw_2_151 tw_2_152 tw_1_5 tw_2_153 hy_Jx4a65c_size_8abf5 ⟨Nat.le_of_ble_eq_true rfl, Nat.le_of_ble_eq_true rfl⟩ (As := []) (rest := []) (c_Jx4a65c_size_8abf5 l D cy a2 S _ h) rfl (by first | rfl | (simp only [ha3]; rfl) | simp only [ha3]) (by simp [va_cat, vi_cat, vl_cat]) dX8_tell_4 ⟨(Nat.zero_le _), (Nat.zero_le _)⟩ (fun r6 S5 h => ?_)
  refine G_sipush C (v := 512) dX8_tell_7 (by decide) ?_
  refine G_icmp_ge C (tgt := 22) dX8_tell_10 (by decide) (fun hc => ?_) (fun hc => ?_)
  · have h := h.1 hc
    refine G_lv C (lv' := []) [] rfl ?_
    exact J22 _ _ _ h
  · have h := h.2 hc
    refine G_aload_n C (x := (some x0)) 0 dX8_tell_13 rfl rfl ?_
    obtain ⟨hk7, h⟩ := h
    refine G_get C (CC := RX8) (Tf := TX8) (N := 10) (k := 9) (i := 8) (v := va_rf (gP S5 908 x0)) hk7 (by decide) rfl (fin fwX8) (by decide) (im tw_1_107) rfl rfl dX8_tell_14 ?_
    refine G_aload_n C (x := x1) 1 dX8_tell_17 rfl rfl ?_
    obtain ⟨a8, ha9, h⟩ := h
    obtain ⟨hk10, h⟩ := h
    obtain ⟨m13, m14, hc15, hs16, h⟩ := h
    refine G_callVi C hZ (Tf := TJx4a65c) (N := 3) hk10 (by decide) rfl tw_2_179 tw_2_180 tw_2_181 tw_1_5 tw_2_182 hy_Jx4a65c_add_9ea2d ⟨Nat.le_of_ble_eq_true rfl, Nat.le_of_ble_eq_true rfl⟩ (As := [va_rf x1]) (rest := []) (c_Jx4a65c_add_9ea2d l D cy e0 m0 he hm a8 x1 S5 m13 m14 _ h) rfl (by first | rfl | (simp only [ha9]; rfl) | simp only [ha9]) (by simp [va_cat, vi_cat, vl_cat]) dX8_tell_18 ⟨hc15, hs16⟩ (fun r12 S11 h => ?_)
    obtain ⟨hb17, h⟩ := h
    refine G_pop C dX8_tell_21 rfl ?_
    refine G_lv C (lv' := []) [] rfl ?_
    exact J22 _ _ _ h
set_option maxHeartbeats 4000000 in
set_option maxRecDepth 100000 in
theorem c_X8_pay (l : Launch) (D : va_G) (cy : Nat → Nat) (x0 : Nat) (x1 : Int32) (x2 : Int32) (x3 : Int32) (S : PT) (mc ms : Nat) (post : PT → Prop) (h : w_X8_pay x0 x1 x2 x3 S mc ms post) : Mv l yX8_pay (Wm yX8_pay prog_1_method_49_code 6 (Option.none : Option Jvm.ClassFile.FieldType)) 3 85 D cy [va_rf (some x0), Value.int x1, Value.int x2, Value.int x3] S mc ms post := by
  refine Mv_of (own := "Trenchboard") (by decide) rfl (by first | decide | simp [lg_sl, va_cat, vi_cat, vl_cat]) (fun p e s m below meth c A C hZ hr hin9 => ?_)
  have J58 : ∀ (c0 n0 : Nat) (S : PT), w_X8_pay_b58 x0 x1 x2 x3 mc ms post c0 n0 S → G p l e { frames := 3, cells := mc, slots := ms, locals := 85 } s m [va_rf (some x0), Value.int x1, Value.int x2, Value.int x3].toArray below meth c D cy A s.heap 6 (QMv below D cy A [va_rf (some x0), Value.int x1, Value.int x2, Value.int x3] s mc ms post) S c0 n0 58 [] [] := by
    intro c0 n0 S h
    unfold w_X8_pay_b58 at h
    obtain ⟨hc00, hn00, h⟩ := h
    exact G_vret C (mc := mc) (ms := ms) (post := post) hr hc00 hn00 dX8_pay_58 h
  refine G_lv C (lv' := [(0, va_rf (some x0)), (1, Value.int x1), (2, Value.int x2), (3, Value.int x3)]) [0, 1, 2, 3] (by first | rfl | simp [lv_pick, lv_args, va_cat, vi_cat, vl_cat]) ?_
  unfold w_X8_pay at h
  refine G_aload_n C (x := (some x0)) 0 dX8_pay_0 rfl rfl ?_
  refine G_iload_n C (x := x1) 1 dX8_pay_1 rfl rfl ?_
  obtain ⟨hk1, h⟩ := h
  refine G_callVq C hZ (Tf := TX8) (N := 10) hk1 (by decide) rfl tw_2_25 tw_2_27 tw_0_6 tw_1_1 tw_2_28 hy_X8_partyAt ⟨Nat.le_of_ble_eq_true rfl, Nat.le_of_ble_eq_true rfl⟩ (As := [Value.int x1]) (rest := []) (c_X8_partyAt l D cy x0 x1 S _ h) rfl rfl (by simp [va_cat, vi_cat, vl_cat]) dX8_pay_2 ⟨(Nat.zero_le _), (Nat.zero_le _)⟩ (fun r3 S2 h => ?_)
  refine G_astore C (i := 4) (lv' := [(4, va_rf r3), (0, va_rf (some x0)), (1, Value.int x1), (2, Value.int x2), (3, Value.int x3)]) dX8_pay_5 (by decide) (by first | rfl | simp [va_cat, vi_cat, vl_cat]) ?_
  refine G_aload_n C (x := (some x0)) 1 dX8_pay_7 rfl rfl ?_
  refine G_iload_n C (x := x2) 3 dX8_pay_8 rfl rfl ?_
  obtain ⟨hk4, h⟩ := h
  refine G_callVq C hZ (Tf := TX8) (N := 10) hk4 (by decide) rfl tw_2_25 tw_2_27 tw_0_6 tw_1_1 tw_2_28 hy_X8_partyAt ⟨Nat.le_of_ble_eq_true rfl, Nat.le_of_ble_eq_true rfl⟩ (As := [Value.int x2]) (rest := []) (c_X8_partyAt l D cy x0 x2 S2 _ h) rfl rfl (by simp [va_cat, vi_cat, vl_cat]) dX8_pay_9 ⟨(Nat.zero_le _), (Nat.zero_le _)⟩ (fun r6 S5 h => ?_)
  refine G_astore C (i := 5) (lv' := [(5, va_rf r6), (4, va_rf r3), (0, va_rf (some x0)), (1, Value.int x1), (2, Value.int x2), (3, Value.int x3)]) dX8_pay_12 (by decide) (by first | rfl | simp [va_cat, vi_cat, vl_cat]) ?_
  refine G_aload C (x := r3) 1 dX8_pay_14 rfl ?_
  refine G_ifnull C (tgt := 58) dX8_pay_16 (by decide) (fun hc => ?_) (fun a7 ha8 => ?_)
  · have h := h.1 hc
    refine G_lv C (lv' := []) [] rfl ?_
    exact J58 _ _ _ h
  · have h := h.2 a7 ha8
    refine G_aload C (x := r6) 0 dX8_pay_19 rfl ?_
    refine G_ifnull C (tgt := 58) dX8_pay_21 (by decide) (fun hc => ?_) (fun a9 ha10 => ?_)
    · have h := h.1 hc
      refine G_lv C (lv' := []) [] rfl ?_
      exact J58 _ _ _ h
    · have h := h.2 a9 ha10
      refine G_aload C (x := r3) 1 dX8_pay_24 rfl ?_
      refine G_dup C dX8_pay_26 (va_cat _) ?_
      refine G_rf ha8 ?_
      obtain ⟨hk11, h⟩ := h
      refine G_get C (CC := RX3) (Tf := TX3) (N := 4) (k := 4) (i := 0) (v := Value.long (gJ S5 400 a7)) hk11 (by decide) rfl (fin fwX3) (by decide) (im tw_1_86) rfl rfl dX8_pay_27 ?_
      refine G_iload_n C (x := x3) 5 dX8_pay_30 rfl rfl ?_
      refine G_i2l C dX8_pay_31 ?_
      refine G_lsub C dX8_pay_32 ?_
      refine G_rf1 ha8 ?_
      refine G_putJ C (CC := RX3) (Tf := TX3) (N := 4) (k := 4) (i := 0) (f := 400) (x := ((gJ S5 400 a7) - x3.toInt64)) (ty0 := tyX3) (ty := .long) hk11 (by decide) rfl (fin fwX3) tyX3_ok nmX3 (by decide) (im tw_1_86) rfl rfl rfl rfl rfl rfl rfl dX8_pay_33 ?_
      generalize e13 : sJ S5 400 a7 ((gJ S5 400 a7) - x3.toInt64) = S12
      have h := h S12 e13.symm
      refine G_aload C (x := r6) 0 dX8_pay_36 rfl ?_
      refine G_dup C dX8_pay_38 (va_cat _) ?_
      refine G_rf ha10 ?_
      obtain ⟨hk14, h⟩ := h
      refine G_get C (CC := RX3) (Tf := TX3) (N := 4) (k := 4) (i := 0) (v := Value.long (gJ S12 400 a9)) hk14 (by decide) rfl (fin fwX3) (by decide) (im tw_1_86) rfl rfl dX8_pay_39 ?_
      refine G_iload_n C (x := x3) 5 dX8_pay_42 rfl rfl ?_
      refine G_i2l C dX8_pay_43 ?_
      refine G_ladd C dX8_pay_44 ?_
      refine G_rf1 ha10 ?_
      refine G_putJ C (CC := RX3) (Tf := TX3) (N := 4) (k := 4) (i := 0) (f := 400) (x := ((gJ S12 400 a9) + x3.toInt64)) (ty0 := tyX3) (ty := .long) hk14 (by decide) rfl (fin fwX3) tyX3_ok nmX3 (by decide) (im tw_1_86) rfl rfl rfl rfl rfl rfl rfl dX8_pay_45 ?_
      generalize e16 : sJ S12 400 a9 ((gJ S12 400 a9) + x3.toInt64) = S15
      have h := h S15 e16.symm
      refine G_aload_n C (x := (some x0)) 2 dX8_pay_48 rfl rfl ?_
      obtain ⟨hk17, h⟩ := h
      refine G_get C (CC := RX8) (Tf := TX8) (N := 10) (k := 9) (i := 7) (v := va_rf (gP S15 907 x0)) hk17 (by decide) rfl (fin fwX8) (by decide) (im tw_1_106) rfl rfl dX8_pay_49 ?_
      refine G_iload_n C (x := x1) 3 dX8_pay_52 rfl rfl ?_
      refine G_iload_n C (x := x2) 4 dX8_pay_53 rfl rfl ?_
      refine G_iload_n C (x := x3) 5 dX8_pay_54 rfl rfl ?_
      obtain ⟨a18, ha19, h⟩ := h
      obtain ⟨hk20, h⟩ := h
      obtain ⟨m23, m24, hc25, hs26, h⟩ := h
      refine G_callVv C hZ (Tf := TX1) (N := 2) hk20 (by decide) rfl tw_3_166 tw_3_167 tw_3_168 tw_1_2 tw_3_169 hy_X1_enter ⟨Nat.le_of_ble_eq_true rfl, Nat.le_of_ble_eq_true rfl⟩ (As := [Value.int x1, Value.int x2, Value.int x3]) (rest := []) (c_X1_enter l D cy a18 x1 x2 x3 S15 m23 m24 _ h) rfl (by first | rfl | (simp only [ha19]; rfl) | simp only [ha19]) (by simp [va_cat, vi_cat, vl_cat]) dX8_pay_55 ⟨hc25, hs26⟩ (fun S21 h => ?_)
      refine G_lv C (lv' := []) [] rfl ?_
      exact J58 _ _ _ h
set_option maxHeartbeats 4000000 in
set_option maxRecDepth 100000 in
theorem c_X8_permit (l : Launch) (D : va_G) (cy : Nat → Nat) (x0 : Nat) (x1 : Option Nat) (x2 : Int32) (S : PT) (mc ms : Nat) (post : PT → Prop) (h : w_X8_permit x0 x1 x2 S mc ms post) : Mv l yX8_permit (Wm yX8_permit prog_1_method_53_code 3 (Option.none : Option Jvm.ClassFile.FieldType)) 4 110 D cy [va_rf (some x0), va_rf x1, Value.int x2] S mc ms post := by
  refine Mv_of (own := "Trenchboard") (by decide) rfl (by first | decide | simp [lg_sl, va_cat, vi_cat, vl_cat]) (fun p e s m below meth c A C hZ hr hin9 => ?_)
  refine G_lv C (lv' := [(0, va_rf (some x0)), (1, va_rf x1), (2, Value.int x2)]) [0, 1, 2] (by first | rfl | simp [lv_pick, lv_args, va_cat, vi_cat, vl_cat]) ?_
  unfold w_X8_permit at h
  refine G_aload_n C (x := x1) 1 dX8_permit_0 rfl rfl ?_
  refine G_iconst C (v := 1) dX8_permit_1 (by decide) ?_
  obtain ⟨a1, ha2, h⟩ := h
  refine G_rf1 ha2 ?_
  obtain ⟨hk3, h⟩ := h
  refine G_putI C (CC := RX7) (Tf := TX7) (N := 18) (k := 8) (i := 10) (f := 810) (x := 1) (ty0 := tyX7) (ty := .int) hk3 (by decide) rfl (fin fwX7) tyX7_ok nmX7 (by decide) (im tw_4_230) rfl rfl rfl rfl rfl rfl rfl dX8_permit_2 ?_
  generalize e5 : sI S 810 a1 1 = S4
  have h := h S4 e5.symm
  refine G_aload_n C (x := x1) 1 dX8_permit_5 rfl rfl ?_
  refine G_iload_n C (x := x2) 2 dX8_permit_6 rfl rfl ?_
  refine G_rf1 ha2 ?_
  refine G_putI C (CC := RX7) (Tf := TX7) (N := 18) (k := 8) (i := 11) (f := 811) (x := x2) (ty0 := tyX7) (ty := .int) (ksI e5.symm hk3) (by decide) rfl (fin fwX7) tyX7_ok nmX7 (by decide) (im tw_4_232) rfl rfl rfl rfl rfl rfl rfl dX8_permit_7 ?_
  generalize e7 : sI S4 811 a1 x2 = S6
  have h := h S6 e7.symm
  refine G_aload_n C (x := (some x0)) 0 dX8_permit_10 rfl rfl ?_
  refine G_aload_n C (x := x1) 1 dX8_permit_11 rfl rfl ?_
  refine G_rf ha2 ?_
  refine G_get C (CC := RX7) (Tf := TX7) (N := 18) (k := 8) (i := 1) (v := Value.int (gI S6 801 a1)) (ksI e7.symm (ksI e5.symm hk3)) (by decide) rfl (fin fwX7) (by decide) (im tw_4_214) rfl rfl dX8_permit_12 ?_
  refine G_iconst C (v := 5) dX8_permit_15 (by decide) ?_
  refine G_aload_n C (x := x1) 1 dX8_permit_16 rfl rfl ?_
  refine G_callVi C hZ (Tf := TX7) (N := 18) (ksI e7.symm (ksI e5.symm hk3)) (by decide) rfl tw_3_154 tw_3_155 tw_3_156 tw_1_21 tw_3_157 hy_X7_permitCost ⟨Nat.le_of_ble_eq_true rfl, Nat.le_of_ble_eq_true rfl⟩ (As := []) (rest := [Value.int 5, Value.int (gI S6 801 a1), va_rf (some x0)]) (c_X7_permitCost l D cy a1 S6 _ h) rfl (by first | rfl | (simp only [ha2]; rfl) | simp only [ha2]) (by simp [va_cat, vi_cat, vl_cat]) dX8_permit_17 ⟨(Nat.zero_le _), (Nat.zero_le _)⟩ (fun r9 S8 h => ?_)
  obtain ⟨hk10, h⟩ := h
  obtain ⟨m13, m14, hc15, hs16, h⟩ := h
  refine G_callVv C hZ (Tf := TX8) (N := 10) hk10 (by decide) rfl tw_3_162 tw_3_164 tw_0_16 tw_1_1 tw_3_165 hy_X8_pay ⟨Nat.le_of_ble_eq_true rfl, Nat.le_of_ble_eq_true rfl⟩ (As := [Value.int (gI S6 801 a1), Value.int 5, Value.int r9]) (rest := []) (c_X8_pay l D cy x0 (gI S6 801 a1) 5 r9 S8 m13 m14 _ h) rfl rfl (by simp [va_cat, vi_cat, vl_cat]) dX8_permit_20 ⟨hc15, hs16⟩ (fun S11 h => ?_)
  exact G_vret C (mc := mc) (ms := ms) (post := post) hr hc15 hs16 dX8_permit_23 h
set_option maxHeartbeats 4000000 in
set_option maxRecDepth 100000 in
theorem c_X8_strikeThings (l : Launch) (D : va_G) (cy : Nat → Nat) (x0 : Nat) (x1 : Option Nat) (x2 : Int32) (S : PT) (mc ms : Nat) (post : Int32 → PT → Prop) (h : w_X8_strikeThings x0 x1 x2 S mc ms post) : Mi l yX8_strikeThings (Wm yX8_strikeThings prog_1_method_52_code 6 (Option.some Jvm.ClassFile.FieldType.int)) 4 110 D cy [va_rf (some x0), va_rf x1, Value.int x2] S mc ms post := by
  refine Mi_of (own := "Trenchboard") (by decide) rfl (by first | decide | simp [lg_sl, va_cat, vi_cat, vl_cat]) (fun p e s m below meth c A C hZ hr hin9 => ?_)
  have J5 : ∀ (n : Nat) (c0 n0 : Nat) (S : PT) (v3 : Int32) (v4 : Int32), w_X8_strikeThings_l5 x0 x1 x2 mc ms post n c0 n0 S v3 v4 → G p l e { frames := 4, cells := mc, slots := ms, locals := 110 } s m [va_rf (some x0), va_rf x1, Value.int x2].toArray below meth c D cy A s.heap 6 (QMi below D cy A [va_rf (some x0), va_rf x1, Value.int x2] s mc ms post) S c0 n0 5 [(0, va_rf (some x0)), (1, va_rf x1), (2, Value.int x2), (3, Value.int v3), (4, Value.int v4)] [] := by
    intro n5
    induction n5 with
    | zero => intro c0 n0 S v3 v4 h; rw [w_X8_strikeThings_l5] at h; exact False.elim h
    | succ n5 K5 =>
      have J73 : ∀ (c0 n0 : Nat) (S : PT) (v3 : Int32) (v4 : Int32), w_X8_strikeThings_b73 x0 x1 x2 mc ms post (w_X8_strikeThings_l5 x0 x1 x2 mc ms post n5) c0 n0 S v3 v4 → G p l e { frames := 4, cells := mc, slots := ms, locals := 110 } s m [va_rf (some x0), va_rf x1, Value.int x2].toArray below meth c D cy A s.heap 6 (QMi below D cy A [va_rf (some x0), va_rf x1, Value.int x2] s mc ms post) S c0 n0 73 [(0, va_rf (some x0)), (1, va_rf x1), (2, Value.int x2), (3, Value.int v3), (4, Value.int v4)] [] := by
        intro c0 n0 S v3 v4 h
        unfold w_X8_strikeThings_b73 at h
        obtain ⟨hc00, hn00, h⟩ := h
        refine G_iinc C (v := (v4 + 1)) (lv' := [(4, Value.int (v4 + 1)), (0, va_rf (some x0)), (1, va_rf x1), (2, Value.int x2), (3, Value.int v3)]) 4 dX8_strikeThings_73 rfl rfl (by decide) (by first | rfl | simp [va_cat, vi_cat, vl_cat]) ?_
        refine G_goto C (tgt := 5) dX8_strikeThings_76 (by decide) ?_
        refine G_lv C (lv' := [(0, va_rf (some x0)), (1, va_rf x1), (2, Value.int x2), (3, Value.int v3), (4, Value.int (v4 + 1))]) [1, 2, 3, 4, 0] rfl ?_
        exact K5 _ _ _ _ _ h
      intro c0 n0 S v3 v4 h
      rw [w_X8_strikeThings_l5] at h
      obtain ⟨hc00, hn00, h⟩ := h
      refine G_iload C (x := v4) 4 dX8_strikeThings_5 rfl ?_
      refine G_aload_n C (x := (some x0)) 0 dX8_strikeThings_7 rfl rfl ?_
      obtain ⟨hk1, h⟩ := h
      refine G_get C (CC := RX8) (Tf := TX8) (N := 10) (k := 9) (i := 2) (v := va_rf (gP S 902 x0)) hk1 (by decide) rfl (fin fwX8) (by decide) (im tw_1_101) rfl rfl dX8_strikeThings_8 ?_
      obtain ⟨a2, ha3, h⟩ := h
      refine G_rf ha3 ?_
      obtain ⟨hk4, h⟩ := h
      refine G_alen C hk4 (by decide) rfl dX8_strikeThings_11 ?_
      refine G_icmp_ge C (tgt := 79) dX8_strikeThings_12 (by decide) (fun hc => ?_) (fun hc => ?_)
      · have h := h.1 hc
        refine G_aload_n C (x := x1) 1 dX8_strikeThings_79 rfl rfl ?_
        refine G_dup C dX8_strikeThings_80 (va_cat _) ?_
        obtain ⟨a5, ha6, h⟩ := h
        refine G_rf ha6 ?_
        obtain ⟨hk7, h⟩ := h
        refine G_get C (CC := RX7) (Tf := TX7) (N := 18) (k := 8) (i := 13) (v := Value.int (gI S 813 a5)) hk7 (by decide) rfl (fin fwX7) (by decide) (im tw_4_234) rfl rfl dX8_strikeThings_81 ?_
        refine G_iload_n C (x := v3) 3 dX8_strikeThings_84 rfl rfl ?_
        refine G_iadd C dX8_strikeThings_85 ?_
        refine G_rf1 ha6 ?_
        refine G_putI C (CC := RX7) (Tf := TX7) (N := 18) (k := 8) (i := 13) (f := 813) (x := ((gI S 813 a5) + v3)) (ty0 := tyX7) (ty := .int) hk7 (by decide) rfl (fin fwX7) tyX7_ok nmX7 (by decide) (im tw_4_234) rfl rfl rfl rfl rfl rfl rfl dX8_strikeThings_86 ?_
        generalize e9 : sI S 813 a5 ((gI S 813 a5) + v3) = S8
        have h := h S8 e9.symm
        refine G_iload_n C (x := v3) 3 dX8_strikeThings_89 rfl rfl ?_
        exact G_iret C (mc := mc) (ms := ms) (post := post) hr hc00 hn00 dX8_strikeThings_90 h
      · have h := h.2 hc
        refine G_aload_n C (x := (some x0)) 0 dX8_strikeThings_15 rfl rfl ?_
        refine G_get C (CC := RX8) (Tf := TX8) (N := 10) (k := 9) (i := 2) (v := va_rf (gP S 902 x0)) hk1 (by decide) rfl (fin fwX8) (by decide) (im tw_1_101) rfl rfl dX8_strikeThings_16 ?_
        refine G_iload C (x := v4) 4 dX8_strikeThings_19 rfl ?_
        refine G_rf1 ha3 ?_
        obtain ⟨hi10, h⟩ := h
        refine G_aald C hk4 (by decide) rfl hi10 dX8_strikeThings_21 ?_
        refine G_astore C (i := 5) (lv' := [(5, va_rf (gR S a2 ((v4).toNatClampNeg))), (0, va_rf (some x0)), (1, va_rf x1), (2, Value.int x2), (3, Value.int v3), (4, Value.int v4)]) dX8_strikeThings_22 (by decide) (by first | rfl | simp [va_cat, vi_cat, vl_cat]) ?_
        refine G_aload C (x := (gR S a2 ((v4).toNatClampNeg))) 0 dX8_strikeThings_24 rfl ?_
        refine G_ifnull C (tgt := 73) dX8_strikeThings_26 (by decide) (fun hc => ?_) (fun a11 ha12 => ?_)
        · have h := h.1 hc
          refine G_lv C (lv' := [(0, va_rf (some x0)), (1, va_rf x1), (2, Value.int x2), (3, Value.int v3), (4, Value.int v4)]) [1, 2, 3, 4, 5] rfl ?_
          exact J73 _ _ _ _ _ h
        · have h := h.2 a11 ha12
          refine G_aload C (x := (gR S a2 ((v4).toNatClampNeg))) 0 dX8_strikeThings_29 rfl ?_
          refine G_aload_n C (x := x1) 2 dX8_strikeThings_31 rfl rfl ?_
          obtain ⟨a13, ha14, h⟩ := h
          refine G_rf ha14 ?_
          obtain ⟨hk15, h⟩ := h
          refine G_get C (CC := RX7) (Tf := TX7) (N := 18) (k := 8) (i := 2) (v := va_rf (gP S 802 a13)) hk15 (by decide) rfl (fin fwX7) (by decide) (im tw_4_216) rfl rfl dX8_strikeThings_32 ?_
          refine G_iload_n C (x := x2) 3 dX8_strikeThings_35 rfl rfl ?_
          obtain ⟨hk16, h⟩ := h
          refine G_callVi C hZ (Tf := TX6) (N := 8) hk16 (by decide) rfl tw_3_94 tw_3_95 tw_3_96 tw_1_20 tw_3_97 hy_X6_liesAt ⟨Nat.le_of_ble_eq_true rfl, Nat.le_of_ble_eq_true rfl⟩ (As := [va_rf (gP S 802 a13), Value.int x2]) (rest := []) (c_X6_liesAt l D cy a11 (gP S 802 a13) x2 S _ h) rfl (by first | rfl | (simp only [ha12]; rfl) | simp only [ha12]) (by simp [va_cat, vi_cat, vl_cat]) dX8_strikeThings_36 ⟨hc00, hn00⟩ (fun r18 S17 h => ?_)
          obtain ⟨hb19, h⟩ := h
          refine G_if_eq C (tgt := 73) dX8_strikeThings_39 (by decide) (fun hc => ?_) (fun hc => ?_)
          · have h := h.1 hc
            refine G_lv C (lv' := [(0, va_rf (some x0)), (1, va_rf x1), (2, Value.int x2), (3, Value.int v3), (4, Value.int v4)]) [1, 2, 3, 4, 5] rfl ?_
            exact J73 _ _ _ _ _ h
          · have h := h.2 hc
            refine G_aload C (x := (gR S a2 ((v4).toNatClampNeg))) 0 dX8_strikeThings_42 rfl ?_
            refine G_rf ha12 ?_
            obtain ⟨hk20, h⟩ := h
            refine G_get C (CC := RX6) (Tf := TX6) (N := 8) (k := 7) (i := 4) (v := Value.int (gI S17 704 a11)) hk20 (by decide) rfl (fin fwX6) (by decide) (im tw_3_31) rfl rfl dX8_strikeThings_44 ?_
            refine G_aload_n C (x := x1) 2 dX8_strikeThings_47 rfl rfl ?_
            refine G_rf ha14 ?_
            obtain ⟨hk21, h⟩ := h
            refine G_get C (CC := RX7) (Tf := TX7) (N := 18) (k := 8) (i := 7) (v := Value.int (gI S17 807 a13)) hk21 (by decide) rfl (fin fwX7) (by decide) (im tw_4_224) rfl rfl dX8_strikeThings_48 ?_
            refine G_icmp_gt C (tgt := 73) dX8_strikeThings_51 (by decide) (fun hc => ?_) (fun hc => ?_)
            · have h := h.1 hc
              refine G_lv C (lv' := [(0, va_rf (some x0)), (1, va_rf x1), (2, Value.int x2), (3, Value.int v3), (4, Value.int v4)]) [1, 2, 3, 4, 5] rfl ?_
              exact J73 _ _ _ _ _ h
            · have h := h.2 hc
              refine G_aload_n C (x := (some x0)) 1 dX8_strikeThings_54 rfl rfl ?_
              refine G_aload_n C (x := x1) 2 dX8_strikeThings_55 rfl rfl ?_
              refine G_rf ha14 ?_
              refine G_get C (CC := RX7) (Tf := TX7) (N := 18) (k := 8) (i := 1) (v := Value.int (gI S17 801 a13)) hk21 (by decide) rfl (fin fwX7) (by decide) (im tw_4_214) rfl rfl dX8_strikeThings_56 ?_
              refine G_aload C (x := (gR S a2 ((v4).toNatClampNeg))) 0 dX8_strikeThings_59 rfl ?_
              refine G_rf ha12 ?_
              refine G_get C (CC := RX6) (Tf := TX6) (N := 8) (k := 7) (i := 0) (v := Value.int (gI S17 700 a11)) hk20 (by decide) rfl (fin fwX6) (by decide) (im tw_3_23) rfl rfl dX8_strikeThings_61 ?_
              refine G_sipush C (v := 1000) dX8_strikeThings_64 (by decide) ?_
              obtain ⟨hk22, h⟩ := h
              obtain ⟨m25, m26, hc27, hs28, h⟩ := h
              refine G_callVv C hZ (Tf := TX8) (N := 10) hk22 (by decide) rfl tw_3_162 tw_3_164 tw_0_16 tw_1_1 tw_3_165 hy_X8_pay ⟨Nat.le_of_ble_eq_true rfl, Nat.le_of_ble_eq_true rfl⟩ (As := [Value.int (gI S17 801 a13), Value.int (gI S17 700 a11), Value.int 1000]) (rest := []) (c_X8_pay l D cy x0 (gI S17 801 a13) (gI S17 700 a11) 1000 S17 m25 m26 _ h) rfl rfl (by simp [va_cat, vi_cat, vl_cat]) dX8_strikeThings_67 ⟨hc27, hs28⟩ (fun S23 h => ?_)
              refine G_iinc C (v := (v3 + 1)) (lv' := [(3, Value.int (v3 + 1)), (5, va_rf (gR S a2 ((v4).toNatClampNeg))), (0, va_rf (some x0)), (1, va_rf x1), (2, Value.int x2), (4, Value.int v4)]) 4 dX8_strikeThings_70 rfl rfl (by decide) (by first | rfl | simp [va_cat, vi_cat, vl_cat]) ?_
              refine G_lv C (lv' := [(0, va_rf (some x0)), (1, va_rf x1), (2, Value.int x2), (3, Value.int (v3 + 1)), (4, Value.int v4)]) [2, 3, 4, 0, 5] rfl ?_
              exact J73 _ _ _ _ _ h
  refine G_lv C (lv' := [(0, va_rf (some x0)), (1, va_rf x1), (2, Value.int x2)]) [0, 1, 2] (by first | rfl | simp [lv_pick, lv_args, va_cat, vi_cat, vl_cat]) ?_
  unfold w_X8_strikeThings at h
  refine G_iconst C (v := 0) dX8_strikeThings_0 (by decide) ?_
  refine G_istore_n C (i := 3) (lv' := [(3, Value.int 0), (0, va_rf (some x0)), (1, va_rf x1), (2, Value.int x2)]) dX8_strikeThings_1 rfl (by decide) (by first | rfl | simp [va_cat, vi_cat, vl_cat]) ?_
  refine G_iconst C (v := 0) dX8_strikeThings_2 (by decide) ?_
  refine G_istore C (i := 4) (lv' := [(4, Value.int 0), (3, Value.int 0), (0, va_rf (some x0)), (1, va_rf x1), (2, Value.int x2)]) dX8_strikeThings_3 (by decide) (by first | rfl | simp [va_cat, vi_cat, vl_cat]) ?_
  refine G_lv C (lv' := [(0, va_rf (some x0)), (1, va_rf x1), (2, Value.int x2), (3, Value.int 0), (4, Value.int 0)]) [2, 3, 4, 1, 0] rfl ?_
  obtain ⟨n9, h⟩ := h
  exact J5 n9 _ _ _ _ _ h
set_option maxHeartbeats 4000000 in
set_option maxRecDepth 100000 in
theorem c_X8_settleAsked (l : Launch) (D : va_G) (cy : Nat → Nat) (x0 : Nat) (S : PT) (mc ms : Nat) (post : PT → Prop) (h : w_X8_settleAsked x0 S mc ms post) : Mv l yX8_settleAsked (Wm yX8_settleAsked prog_1_method_57_code 3 (Option.none : Option Jvm.ClassFile.FieldType)) 5 132 D cy [va_rf (some x0)] S mc ms post := by
  refine Mv_of (own := "Trenchboard") (by decide) rfl (by first | decide | simp [lg_sl, va_cat, vi_cat, vl_cat]) (fun p e s m below meth c A C hZ hr hin9 => ?_)
  have J2 : ∀ (n : Nat) (c0 n0 : Nat) (S : PT) (v1 : Int32), w_X8_settleAsked_l2 x0 mc ms post n c0 n0 S v1 → G p l e { frames := 5, cells := mc, slots := ms, locals := 132 } s m [va_rf (some x0)].toArray below meth c D cy A s.heap 3 (QMv below D cy A [va_rf (some x0)] s mc ms post) S c0 n0 2 [(0, va_rf (some x0)), (1, Value.int v1)] [] := by
    intro n2
    induction n2 with
    | zero => intro c0 n0 S v1 h; rw [w_X8_settleAsked_l2] at h; exact False.elim h
    | succ n2 K2 =>
      have J62 : ∀ (c0 n0 : Nat) (S : PT) (v1 : Int32), w_X8_settleAsked_b62 x0 mc ms post (w_X8_settleAsked_l2 x0 mc ms post n2) c0 n0 S v1 → G p l e { frames := 5, cells := mc, slots := ms, locals := 132 } s m [va_rf (some x0)].toArray below meth c D cy A s.heap 3 (QMv below D cy A [va_rf (some x0)] s mc ms post) S c0 n0 62 [(0, va_rf (some x0)), (1, Value.int v1)] [] := by
        intro c0 n0 S v1 h
        unfold w_X8_settleAsked_b62 at h
        obtain ⟨hc00, hn00, h⟩ := h
        refine G_iinc C (v := (v1 + 1)) (lv' := [(1, Value.int (v1 + 1)), (0, va_rf (some x0))]) 1 dX8_settleAsked_62 rfl rfl (by decide) (by first | rfl | simp [va_cat, vi_cat, vl_cat]) ?_
        refine G_goto C (tgt := 2) dX8_settleAsked_65 (by decide) ?_
        refine G_lv C (lv' := [(0, va_rf (some x0)), (1, Value.int (v1 + 1))]) [1, 0] rfl ?_
        exact K2 _ _ _ _ h
      intro c0 n0 S v1 h
      rw [w_X8_settleAsked_l2] at h
      obtain ⟨hc00, hn00, h⟩ := h
      refine G_iload_n C (x := v1) 1 dX8_settleAsked_2 rfl rfl ?_
      refine G_aload_n C (x := (some x0)) 0 dX8_settleAsked_3 rfl rfl ?_
      obtain ⟨hk1, h⟩ := h
      refine G_get C (CC := RX8) (Tf := TX8) (N := 10) (k := 9) (i := 4) (v := va_rf (gP S 904 x0)) hk1 (by decide) rfl (fin fwX8) (by decide) (im tw_1_103) rfl rfl dX8_settleAsked_4 ?_
      obtain ⟨a2, ha3, h⟩ := h
      refine G_rf ha3 ?_
      obtain ⟨hk4, h⟩ := h
      refine G_alen C hk4 (by decide) rfl dX8_settleAsked_7 ?_
      refine G_icmp_ge C (tgt := 68) dX8_settleAsked_8 (by decide) (fun hc => ?_) (fun hc => ?_)
      · have h := h.1 hc
        exact G_vret C (mc := mc) (ms := ms) (post := post) hr hc00 hn00 dX8_settleAsked_68 h
      · have h := h.2 hc
        refine G_aload_n C (x := (some x0)) 0 dX8_settleAsked_11 rfl rfl ?_
        refine G_get C (CC := RX8) (Tf := TX8) (N := 10) (k := 9) (i := 4) (v := va_rf (gP S 904 x0)) hk1 (by decide) rfl (fin fwX8) (by decide) (im tw_1_103) rfl rfl dX8_settleAsked_12 ?_
        refine G_iload_n C (x := v1) 1 dX8_settleAsked_15 rfl rfl ?_
        refine G_rf1 ha3 ?_
        obtain ⟨hi5, h⟩ := h
        refine G_aald C hk4 (by decide) rfl hi5 dX8_settleAsked_16 ?_
        refine G_astore_n C (i := 2) (lv' := [(2, va_rf (gR S a2 ((v1).toNatClampNeg))), (0, va_rf (some x0)), (1, Value.int v1)]) dX8_settleAsked_17 rfl (by decide) (by first | rfl | simp [va_cat, vi_cat, vl_cat]) ?_
        refine G_aload_n C (x := (gR S a2 ((v1).toNatClampNeg))) 0 dX8_settleAsked_18 rfl rfl ?_
        refine G_ifnull C (tgt := 62) dX8_settleAsked_19 (by decide) (fun hc => ?_) (fun a6 ha7 => ?_)
        · have h := h.1 hc
          refine G_lv C (lv' := [(0, va_rf (some x0)), (1, Value.int v1)]) [1, 2] rfl ?_
          exact J62 _ _ _ _ h
        · have h := h.2 a6 ha7
          refine G_aload_n C (x := (gR S a2 ((v1).toNatClampNeg))) 0 dX8_settleAsked_22 rfl rfl ?_
          refine G_rf ha7 ?_
          obtain ⟨hk8, h⟩ := h
          refine G_get C (CC := RX7) (Tf := TX7) (N := 18) (k := 8) (i := 10) (v := Value.int (gI S 810 a6)) hk8 (by decide) rfl (fin fwX7) (by decide) (im tw_4_230) rfl rfl dX8_settleAsked_23 ?_
          refine G_if_ne C (tgt := 62) dX8_settleAsked_26 (by decide) (fun hc => ?_) (fun hc => ?_)
          · have h := h.1 hc
            refine G_lv C (lv' := [(0, va_rf (some x0)), (1, Value.int v1)]) [1, 2] rfl ?_
            exact J62 _ _ _ _ h
          · have h := h.2 hc
            refine G_aload_n C (x := (gR S a2 ((v1).toNatClampNeg))) 0 dX8_settleAsked_29 rfl rfl ?_
            refine G_callVi C hZ (Tf := TX7) (N := 18) hk8 (by decide) rfl tw_4_62 tw_4_63 tw_4_64 tw_1_21 tw_4_65 hy_X7_settledOn ⟨Nat.le_of_ble_eq_true rfl, Nat.le_of_ble_eq_true rfl⟩ (As := []) (rest := []) (c_X7_settledOn l D cy a6 S _ h) rfl (by first | rfl | (simp only [ha7]; rfl) | simp only [ha7]) (by simp [va_cat, vi_cat, vl_cat]) dX8_settleAsked_30 ⟨hc00, hn00⟩ (fun r10 S9 h => ?_)
            refine G_aload_n C (x := (some x0)) 1 dX8_settleAsked_33 rfl rfl ?_
            obtain ⟨hk11, h⟩ := h
            refine G_callVi C hZ (Tf := TX8) (N := 10) hk11 (by decide) rfl tw_1_234 tw_1_236 tw_0_3 tw_1_1 tw_1_237 hy_X8_today ⟨Nat.le_of_ble_eq_true rfl, Nat.le_of_ble_eq_true rfl⟩ (As := []) (rest := [Value.int r10]) (c_X8_today l D cy x0 S9 _ h) rfl rfl (by simp [va_cat, vi_cat, vl_cat]) dX8_settleAsked_34 ⟨hc00, hn00⟩ (fun r13 S12 h => ?_)
            refine G_icmp_ne C (tgt := 62) dX8_settleAsked_37 (by decide) (fun hc => ?_) (fun hc => ?_)
            · have h := h.1 hc
              refine G_lv C (lv' := [(0, va_rf (some x0)), (1, Value.int v1)]) [1, 2] rfl ?_
              exact J62 _ _ _ _ h
            · have h := h.2 hc
              refine G_aload_n C (x := (some x0)) 1 dX8_settleAsked_40 rfl rfl ?_
              refine G_aload_n C (x := (gR S a2 ((v1).toNatClampNeg))) 0 dX8_settleAsked_41 rfl rfl ?_
              obtain ⟨hk14, h⟩ := h
              refine G_callVi C hZ (Tf := TX8) (N := 10) hk14 (by decide) rfl tw_3_108 tw_3_110 tw_0_13 tw_1_1 tw_3_111 hy_X8_whatBars ⟨Nat.le_of_ble_eq_true rfl, Nat.le_of_ble_eq_true rfl⟩ (As := [va_rf (gR S a2 ((v1).toNatClampNeg))]) (rest := []) (c_X8_whatBars l D cy x0 (gR S a2 ((v1).toNatClampNeg)) S12 _ h) rfl rfl (by simp [va_cat, vi_cat, vl_cat]) dX8_settleAsked_42 ⟨hc00, hn00⟩ (fun r16 S15 h => ?_)
              refine G_if_ne C (tgt := 57) dX8_settleAsked_45 (by decide) (fun hc => ?_) (fun hc => ?_)
              · have h := h.1 hc
                refine G_aload_n C (x := (gR S a2 ((v1).toNatClampNeg))) 0 dX8_settleAsked_57 rfl rfl ?_
                refine G_iconst C (v := 2) dX8_settleAsked_58 (by decide) ?_
                refine G_rf1 ha7 ?_
                obtain ⟨hk17, h⟩ := h
                refine G_putI C (CC := RX7) (Tf := TX7) (N := 18) (k := 8) (i := 10) (f := 810) (x := 2) (ty0 := tyX7) (ty := .int) hk17 (by decide) rfl (fin fwX7) tyX7_ok nmX7 (by decide) (im tw_4_230) rfl rfl rfl rfl rfl rfl rfl dX8_settleAsked_59 ?_
                generalize e19 : sI S15 810 a6 2 = S18
                have h := h S18 e19.symm
                refine G_lv C (lv' := [(0, va_rf (some x0)), (1, Value.int v1)]) [1, 2] rfl ?_
                exact J62 _ _ _ _ h
              · have h := h.2 hc
                refine G_aload_n C (x := (some x0)) 1 dX8_settleAsked_48 rfl rfl ?_
                refine G_aload_n C (x := (gR S a2 ((v1).toNatClampNeg))) 0 dX8_settleAsked_49 rfl rfl ?_
                refine G_iconst C (v := 0) dX8_settleAsked_50 (by decide) ?_
                obtain ⟨hk20, h⟩ := h
                obtain ⟨m23, m24, hc25, hs26, h⟩ := h
                refine G_callVv C hZ (Tf := TX8) (N := 10) hk20 (by decide) rfl tw_3_150 tw_3_152 tw_0_15 tw_1_1 tw_3_153 hy_X8_permit ⟨Nat.le_of_ble_eq_true rfl, Nat.le_of_ble_eq_true rfl⟩ (As := [va_rf (gR S a2 ((v1).toNatClampNeg)), Value.int 0]) (rest := []) (c_X8_permit l D cy x0 (gR S a2 ((v1).toNatClampNeg)) 0 S15 m23 m24 _ h) rfl rfl (by simp [va_cat, vi_cat, vl_cat]) dX8_settleAsked_51 ⟨hc25, hs26⟩ (fun S21 h => ?_)
                refine G_goto C (tgt := 62) dX8_settleAsked_54 (by decide) ?_
                refine G_lv C (lv' := [(0, va_rf (some x0)), (1, Value.int v1)]) [1, 2] rfl ?_
                exact J62 _ _ _ _ h
  refine G_lv C (lv' := [(0, va_rf (some x0))]) [0] (by first | rfl | simp [lv_pick, lv_args, va_cat, vi_cat, vl_cat]) ?_
  unfold w_X8_settleAsked at h
  refine G_iconst C (v := 0) dX8_settleAsked_0 (by decide) ?_
  refine G_istore_n C (i := 1) (lv' := [(1, Value.int 0), (0, va_rf (some x0))]) dX8_settleAsked_1 rfl (by decide) (by first | rfl | simp [va_cat, vi_cat, vl_cat]) ?_
  refine G_lv C (lv' := [(0, va_rf (some x0)), (1, Value.int 0)]) [1, 0] rfl ?_
  obtain ⟨n9, h⟩ := h
  exact J2 n9 _ _ _ _ h
set_option maxHeartbeats 4000000 in
set_option maxRecDepth 100000 in
theorem c_X8_fineLate (l : Launch) (D : va_G) (cy : Nat → Nat) (x0 : Nat) (S : PT) (mc ms : Nat) (post : PT → Prop) (h : w_X8_fineLate x0 S mc ms post) : Mv l yX8_fineLate (Wm yX8_fineLate prog_1_method_58_code 3 (Option.none : Option Jvm.ClassFile.FieldType)) 4 110 D cy [va_rf (some x0)] S mc ms post := by
  refine Mv_of (own := "Trenchboard") (by decide) rfl (by first | decide | simp [lg_sl, va_cat, vi_cat, vl_cat]) (fun p e s m below meth c A C hZ hr hin9 => ?_)
  have J2 : ∀ (n : Nat) (c0 n0 : Nat) (S : PT) (v1 : Int32), w_X8_fineLate_l2 x0 mc ms post n c0 n0 S v1 → G p l e { frames := 4, cells := mc, slots := ms, locals := 110 } s m [va_rf (some x0)].toArray below meth c D cy A s.heap 3 (QMv below D cy A [va_rf (some x0)] s mc ms post) S c0 n0 2 [(0, va_rf (some x0)), (1, Value.int v1)] [] := by
    intro n2
    induction n2 with
    | zero => intro c0 n0 S v1 h; rw [w_X8_fineLate_l2] at h; exact False.elim h
    | succ n2 K2 =>
      have J61 : ∀ (c0 n0 : Nat) (S : PT) (v1 : Int32), w_X8_fineLate_b61 x0 mc ms post (w_X8_fineLate_l2 x0 mc ms post n2) c0 n0 S v1 → G p l e { frames := 4, cells := mc, slots := ms, locals := 110 } s m [va_rf (some x0)].toArray below meth c D cy A s.heap 3 (QMv below D cy A [va_rf (some x0)] s mc ms post) S c0 n0 61 [(0, va_rf (some x0)), (1, Value.int v1)] [] := by
        intro c0 n0 S v1 h
        unfold w_X8_fineLate_b61 at h
        obtain ⟨hc00, hn00, h⟩ := h
        refine G_iinc C (v := (v1 + 1)) (lv' := [(1, Value.int (v1 + 1)), (0, va_rf (some x0))]) 1 dX8_fineLate_61 rfl rfl (by decide) (by first | rfl | simp [va_cat, vi_cat, vl_cat]) ?_
        refine G_goto C (tgt := 2) dX8_fineLate_64 (by decide) ?_
        refine G_lv C (lv' := [(0, va_rf (some x0)), (1, Value.int (v1 + 1))]) [1, 0] rfl ?_
        exact K2 _ _ _ _ h
      intro c0 n0 S v1 h
      rw [w_X8_fineLate_l2] at h
      obtain ⟨hc00, hn00, h⟩ := h
      refine G_iload_n C (x := v1) 1 dX8_fineLate_2 rfl rfl ?_
      refine G_aload_n C (x := (some x0)) 0 dX8_fineLate_3 rfl rfl ?_
      obtain ⟨hk1, h⟩ := h
      refine G_get C (CC := RX8) (Tf := TX8) (N := 10) (k := 9) (i := 4) (v := va_rf (gP S 904 x0)) hk1 (by decide) rfl (fin fwX8) (by decide) (im tw_1_103) rfl rfl dX8_fineLate_4 ?_
      obtain ⟨a2, ha3, h⟩ := h
      refine G_rf ha3 ?_
      obtain ⟨hk4, h⟩ := h
      refine G_alen C hk4 (by decide) rfl dX8_fineLate_7 ?_
      refine G_icmp_ge C (tgt := 67) dX8_fineLate_8 (by decide) (fun hc => ?_) (fun hc => ?_)
      · have h := h.1 hc
        exact G_vret C (mc := mc) (ms := ms) (post := post) hr hc00 hn00 dX8_fineLate_67 h
      · have h := h.2 hc
        refine G_aload_n C (x := (some x0)) 0 dX8_fineLate_11 rfl rfl ?_
        refine G_get C (CC := RX8) (Tf := TX8) (N := 10) (k := 9) (i := 4) (v := va_rf (gP S 904 x0)) hk1 (by decide) rfl (fin fwX8) (by decide) (im tw_1_103) rfl rfl dX8_fineLate_12 ?_
        refine G_iload_n C (x := v1) 1 dX8_fineLate_15 rfl rfl ?_
        refine G_rf1 ha3 ?_
        obtain ⟨hi5, h⟩ := h
        refine G_aald C hk4 (by decide) rfl hi5 dX8_fineLate_16 ?_
        refine G_astore_n C (i := 2) (lv' := [(2, va_rf (gR S a2 ((v1).toNatClampNeg))), (0, va_rf (some x0)), (1, Value.int v1)]) dX8_fineLate_17 rfl (by decide) (by first | rfl | simp [va_cat, vi_cat, vl_cat]) ?_
        refine G_aload_n C (x := (gR S a2 ((v1).toNatClampNeg))) 0 dX8_fineLate_18 rfl rfl ?_
        refine G_ifnull C (tgt := 61) dX8_fineLate_19 (by decide) (fun hc => ?_) (fun a6 ha7 => ?_)
        · have h := h.1 hc
          refine G_lv C (lv' := [(0, va_rf (some x0)), (1, Value.int v1)]) [1, 2] rfl ?_
          exact J61 _ _ _ _ h
        · have h := h.2 a6 ha7
          refine G_aload_n C (x := (gR S a2 ((v1).toNatClampNeg))) 0 dX8_fineLate_22 rfl rfl ?_
          refine G_rf ha7 ?_
          obtain ⟨hk8, h⟩ := h
          refine G_get C (CC := RX7) (Tf := TX7) (N := 18) (k := 8) (i := 10) (v := Value.int (gI S 810 a6)) hk8 (by decide) rfl (fin fwX7) (by decide) (im tw_4_230) rfl rfl dX8_fineLate_23 ?_
          refine G_iconst C (v := 3) dX8_fineLate_26 (by decide) ?_
          refine G_icmp_ne C (tgt := 61) dX8_fineLate_27 (by decide) (fun hc => ?_) (fun hc => ?_)
          · have h := h.1 hc
            refine G_lv C (lv' := [(0, va_rf (some x0)), (1, Value.int v1)]) [1, 2] rfl ?_
            exact J61 _ _ _ _ h
          · have h := h.2 hc
            refine G_aload_n C (x := (gR S a2 ((v1).toNatClampNeg))) 0 dX8_fineLate_30 rfl rfl ?_
            refine G_rf ha7 ?_
            refine G_get C (CC := RX7) (Tf := TX7) (N := 18) (k := 8) (i := 9) (v := Value.int (gI S 809 a6)) hk8 (by decide) rfl (fin fwX7) (by decide) (im tw_4_228) rfl rfl dX8_fineLate_31 ?_
            refine G_aload_n C (x := (some x0)) 1 dX8_fineLate_34 rfl rfl ?_
            refine G_callVi C hZ (Tf := TX8) (N := 10) hk1 (by decide) rfl tw_1_234 tw_1_236 tw_0_3 tw_1_1 tw_1_237 hy_X8_today ⟨Nat.le_of_ble_eq_true rfl, Nat.le_of_ble_eq_true rfl⟩ (As := []) (rest := [Value.int (gI S 809 a6)]) (c_X8_today l D cy x0 S _ h) rfl rfl (by simp [va_cat, vi_cat, vl_cat]) dX8_fineLate_35 ⟨hc00, hn00⟩ (fun r10 S9 h => ?_)
            refine G_icmp_ge C (tgt := 61) dX8_fineLate_38 (by decide) (fun hc => ?_) (fun hc => ?_)
            · have h := h.1 hc
              refine G_lv C (lv' := [(0, va_rf (some x0)), (1, Value.int v1)]) [1, 2] rfl ?_
              exact J61 _ _ _ _ h
            · have h := h.2 hc
              refine G_aload_n C (x := (some x0)) 1 dX8_fineLate_41 rfl rfl ?_
              refine G_aload_n C (x := (gR S a2 ((v1).toNatClampNeg))) 0 dX8_fineLate_42 rfl rfl ?_
              refine G_rf ha7 ?_
              obtain ⟨hk11, h⟩ := h
              refine G_get C (CC := RX7) (Tf := TX7) (N := 18) (k := 8) (i := 1) (v := Value.int (gI S9 801 a6)) hk11 (by decide) rfl (fin fwX7) (by decide) (im tw_4_214) rfl rfl dX8_fineLate_43 ?_
              refine G_iconst C (v := 5) dX8_fineLate_46 (by decide) ?_
              refine G_sipush C (v := 500) dX8_fineLate_47 (by decide) ?_
              refine G_aload_n C (x := (gR S a2 ((v1).toNatClampNeg))) 0 dX8_fineLate_50 rfl rfl ?_
              refine G_rf ha7 ?_
              refine G_get C (CC := RX7) (Tf := TX7) (N := 18) (k := 8) (i := 2) (v := va_rf (gP S9 802 a6)) hk11 (by decide) rfl (fin fwX7) (by decide) (im tw_4_216) rfl rfl dX8_fineLate_51 ?_
              obtain ⟨a12, ha13, h⟩ := h
              obtain ⟨hk14, h⟩ := h
              refine G_callVi C hZ (Tf := TX4) (N := 12) hk14 (by decide) rfl tw_4_70 tw_3_159 tw_3_160 tw_1_13 tw_3_161 hy_X4_weight ⟨Nat.le_of_ble_eq_true rfl, Nat.le_of_ble_eq_true rfl⟩ (As := []) (rest := [Value.int 500, Value.int 5, Value.int (gI S9 801 a6), va_rf (some x0)]) (c_X4_weight l D cy a12 S9 _ h) rfl (by first | rfl | (simp only [ha13]; rfl) | simp only [ha13]) (by simp [va_cat, vi_cat, vl_cat]) dX8_fineLate_54 ⟨hc00, hn00⟩ (fun r16 S15 h => ?_)
              refine G_imul C dX8_fineLate_57 ?_
              obtain ⟨hk17, h⟩ := h
              obtain ⟨m20, m21, hc22, hs23, h⟩ := h
              refine G_callVv C hZ (Tf := TX8) (N := 10) hk17 (by decide) rfl tw_3_162 tw_3_164 tw_0_16 tw_1_1 tw_3_165 hy_X8_pay ⟨Nat.le_of_ble_eq_true rfl, Nat.le_of_ble_eq_true rfl⟩ (As := [Value.int (gI S9 801 a6), Value.int 5, Value.int (500 * r16)]) (rest := []) (c_X8_pay l D cy x0 (gI S9 801 a6) 5 (500 * r16) S15 m20 m21 _ h) rfl rfl (by simp [va_cat, vi_cat, vl_cat]) dX8_fineLate_58 ⟨hc22, hs23⟩ (fun S18 h => ?_)
              refine G_lv C (lv' := [(0, va_rf (some x0)), (1, Value.int v1)]) [1, 2] rfl ?_
              exact J61 _ _ _ _ h
  refine G_lv C (lv' := [(0, va_rf (some x0))]) [0] (by first | rfl | simp [lv_pick, lv_args, va_cat, vi_cat, vl_cat]) ?_
  unfold w_X8_fineLate at h
  refine G_iconst C (v := 0) dX8_fineLate_0 (by decide) ?_
  refine G_istore_n C (i := 1) (lv' := [(1, Value.int 0), (0, va_rf (some x0))]) dX8_fineLate_1 rfl (by decide) (by first | rfl | simp [va_cat, vi_cat, vl_cat]) ?_
  refine G_lv C (lv' := [(0, va_rf (some x0)), (1, Value.int 0)]) [1, 0] rfl ?_
  obtain ⟨n9, h⟩ := h
  exact J2 n9 _ _ _ _ h
set_option maxHeartbeats 4000000 in
set_option maxRecDepth 100000 in
theorem c_X8_chargeTakers (l : Launch) (D : va_G) (cy : Nat → Nat) (x0 : Nat) (S : PT) (mc ms : Nat) (post : PT → Prop) (h : w_X8_chargeTakers x0 S mc ms post) : Mv l yX8_chargeTakers (Wm yX8_chargeTakers prog_1_method_60_code 5 (Option.none : Option Jvm.ClassFile.FieldType)) 4 110 D cy [va_rf (some x0)] S mc ms post := by
  refine Mv_of (own := "Trenchboard") (by decide) rfl (by first | decide | simp [lg_sl, va_cat, vi_cat, vl_cat]) (fun p e s m below meth c A C hZ hr hin9 => ?_)
  have J2 : ∀ (n : Nat) (c0 n0 : Nat) (S : PT) (v1 : Int32), w_X8_chargeTakers_l2 x0 mc ms post n c0 n0 S v1 → G p l e { frames := 4, cells := mc, slots := ms, locals := 110 } s m [va_rf (some x0)].toArray below meth c D cy A s.heap 5 (QMv below D cy A [va_rf (some x0)] s mc ms post) S c0 n0 2 [(0, va_rf (some x0)), (1, Value.int v1)] [] := by
    intro n2
    induction n2 with
    | zero => intro c0 n0 S v1 h; rw [w_X8_chargeTakers_l2] at h; exact False.elim h
    | succ n2 K2 =>
      have J103 : ∀ (c0 n0 : Nat) (S : PT) (v1 : Int32), w_X8_chargeTakers_b103 x0 mc ms post (w_X8_chargeTakers_l2 x0 mc ms post n2) c0 n0 S v1 → G p l e { frames := 4, cells := mc, slots := ms, locals := 110 } s m [va_rf (some x0)].toArray below meth c D cy A s.heap 5 (QMv below D cy A [va_rf (some x0)] s mc ms post) S c0 n0 103 [(0, va_rf (some x0)), (1, Value.int v1)] [] := by
        intro c0 n0 S v1 h
        unfold w_X8_chargeTakers_b103 at h
        obtain ⟨hc00, hn00, h⟩ := h
        refine G_iinc C (v := (v1 + 1)) (lv' := [(1, Value.int (v1 + 1)), (0, va_rf (some x0))]) 1 dX8_chargeTakers_103 rfl rfl (by decide) (by first | rfl | simp [va_cat, vi_cat, vl_cat]) ?_
        refine G_goto C (tgt := 2) dX8_chargeTakers_106 (by decide) ?_
        refine G_lv C (lv' := [(0, va_rf (some x0)), (1, Value.int (v1 + 1))]) [1, 0] rfl ?_
        exact K2 _ _ _ _ h
      have J80 : ∀ (c0 n0 : Nat) (S : PT) (v1 : Int32) (v2 : Option Nat) (s0 : Option Nat) (s1 : Int32) (s2 : Int32) (s3 : Int32), w_X8_chargeTakers_b80 x0 mc ms post (w_X8_chargeTakers_l2 x0 mc ms post n2) c0 n0 S v1 v2 s0 s1 s2 s3 → G p l e { frames := 4, cells := mc, slots := ms, locals := 110 } s m [va_rf (some x0)].toArray below meth c D cy A s.heap 5 (QMv below D cy A [va_rf (some x0)] s mc ms post) S c0 n0 80 [(0, va_rf (some x0)), (1, Value.int v1), (2, va_rf v2)] [Value.int s3, Value.int s2, Value.int s1, va_rf s0] := by
        intro c0 n0 S v1 v2 s0 s1 s2 s3 h
        unfold w_X8_chargeTakers_b80 at h
        obtain ⟨hc00, hn00, h⟩ := h
        obtain ⟨a1, ha2, h⟩ := h
        obtain ⟨hk3, h⟩ := h
        obtain ⟨m6, m7, hc8, hs9, h⟩ := h
        refine G_callVv C hZ (Tf := TX8) (N := 10) hk3 (by decide) rfl tw_3_162 tw_3_164 tw_0_16 tw_1_1 tw_3_165 hy_X8_pay ⟨Nat.le_of_ble_eq_true rfl, Nat.le_of_ble_eq_true rfl⟩ (As := [Value.int s1, Value.int s2, Value.int s3]) (rest := []) (c_X8_pay l D cy a1 s1 s2 s3 S m6 m7 _ h) rfl (by first | rfl | (simp only [ha2]; rfl) | simp only [ha2]) (by simp [va_cat, vi_cat, vl_cat]) dX8_chargeTakers_80 ⟨hc8, hs9⟩ (fun S4 h => ?_)
        refine G_aload_n C (x := v2) 2 dX8_chargeTakers_83 rfl rfl ?_
        refine G_iconst C (v := 2) dX8_chargeTakers_84 (by decide) ?_
        obtain ⟨a10, ha11, h⟩ := h
        obtain ⟨hk12, h⟩ := h
        refine G_callVi C hZ (Tf := TX7) (N := 18) hk12 (by decide) rfl tw_3_216 tw_3_217 tw_3_218 tw_1_21 tw_3_219 hy_X7_hasCondition ⟨Nat.le_of_ble_eq_true rfl, Nat.le_of_ble_eq_true rfl⟩ (As := [Value.int 2]) (rest := []) (c_X7_hasCondition l D cy a10 2 S4 _ h) rfl (by first | rfl | (simp only [ha11]; rfl) | simp only [ha11]) (by simp [va_cat, vi_cat, vl_cat]) dX8_chargeTakers_85 ⟨hc8, hs9⟩ (fun r14 S13 h => ?_)
        obtain ⟨hb15, h⟩ := h
        refine G_if_eq C (tgt := 103) dX8_chargeTakers_88 (by decide) (fun hc => ?_) (fun hc => ?_)
        · have h := h.1 hc
          refine G_lv C (lv' := [(0, va_rf (some x0)), (1, Value.int v1)]) [0, 1] rfl ?_
          exact J103 _ _ _ _ h
        · have h := h.2 hc
          refine G_aload_n C (x := (some x0)) 0 dX8_chargeTakers_91 rfl rfl ?_
          refine G_aload_n C (x := v2) 2 dX8_chargeTakers_92 rfl rfl ?_
          refine G_rf ha11 ?_
          obtain ⟨hk16, h⟩ := h
          refine G_get C (CC := RX7) (Tf := TX7) (N := 18) (k := 8) (i := 1) (v := Value.int (gI S13 801 a10)) hk16 (by decide) rfl (fin fwX7) (by decide) (im tw_4_214) rfl rfl dX8_chargeTakers_93 ?_
          refine G_iconst C (v := 5) dX8_chargeTakers_96 (by decide) ?_
          refine G_sipush C (v := 200) dX8_chargeTakers_97 (by decide) ?_
          obtain ⟨hk17, h⟩ := h
          obtain ⟨m20, m21, hc22, hs23, h⟩ := h
          refine G_callVv C hZ (Tf := TX8) (N := 10) hk17 (by decide) rfl tw_3_162 tw_3_164 tw_0_16 tw_1_1 tw_3_165 hy_X8_pay ⟨Nat.le_of_ble_eq_true rfl, Nat.le_of_ble_eq_true rfl⟩ (As := [Value.int (gI S13 801 a10), Value.int 5, Value.int 200]) (rest := []) (c_X8_pay l D cy x0 (gI S13 801 a10) 5 200 S13 m20 m21 _ h) rfl rfl (by simp [va_cat, vi_cat, vl_cat]) dX8_chargeTakers_100 ⟨hc22, hs23⟩ (fun S18 h => ?_)
          refine G_lv C (lv' := [(0, va_rf (some x0)), (1, Value.int v1)]) [0, 1] rfl ?_
          exact J103 _ _ _ _ h
      have J60 : ∀ (c0 n0 : Nat) (S : PT) (v1 : Int32) (v2 : Option Nat) (v3 : Int32) (s0 : Int32), w_X8_chargeTakers_b60 x0 mc ms post (w_X8_chargeTakers_l2 x0 mc ms post n2) c0 n0 S v1 v2 v3 s0 → G p l e { frames := 4, cells := mc, slots := ms, locals := 110 } s m [va_rf (some x0)].toArray below meth c D cy A s.heap 5 (QMv below D cy A [va_rf (some x0)] s mc ms post) S c0 n0 60 [(0, va_rf (some x0)), (1, Value.int v1), (2, va_rf v2), (3, Value.int v3)] [Value.int s0] := by
        intro c0 n0 S v1 v2 v3 s0 h
        unfold w_X8_chargeTakers_b60 at h
        obtain ⟨hc00, hn00, h⟩ := h
        refine G_istore C (i := 4) (lv' := [(4, Value.int s0), (0, va_rf (some x0)), (1, Value.int v1), (2, va_rf v2), (3, Value.int v3)]) dX8_chargeTakers_60 (by decide) (by first | rfl | simp [va_cat, vi_cat, vl_cat]) ?_
        refine G_aload_n C (x := (some x0)) 1 dX8_chargeTakers_62 rfl rfl ?_
        refine G_aload_n C (x := v2) 3 dX8_chargeTakers_63 rfl rfl ?_
        obtain ⟨a24, ha25, h⟩ := h
        refine G_rf ha25 ?_
        obtain ⟨hk26, h⟩ := h
        refine G_get C (CC := RX7) (Tf := TX7) (N := 18) (k := 8) (i := 1) (v := Value.int (gI S 801 a24)) hk26 (by decide) rfl (fin fwX7) (by decide) (im tw_4_214) rfl rfl dX8_chargeTakers_64 ?_
        refine G_iconst C (v := 5) dX8_chargeTakers_67 (by decide) ?_
        refine G_iload C (x := s0) 0 dX8_chargeTakers_68 rfl ?_
        refine G_if_eq C (tgt := 79) dX8_chargeTakers_70 (by decide) (fun hc => ?_) (fun hc => ?_)
        · have h := h.1 hc
          refine G_iload_n C (x := v3) 4 dX8_chargeTakers_79 rfl rfl ?_
          refine G_lv C (lv' := [(0, va_rf (some x0)), (1, Value.int v1), (2, va_rf v2)]) [1, 2, 3] rfl ?_
          exact J80 _ _ _ _ _ _ _ _ _ h
        · have h := h.2 hc
          refine G_iload_n C (x := v3) 4 dX8_chargeTakers_73 rfl rfl ?_
          refine G_iconst C (v := 2) dX8_chargeTakers_74 (by decide) ?_
          refine G_idiv C dX8_chargeTakers_75 (by decide) ?_
          refine G_goto C (tgt := 80) dX8_chargeTakers_76 (by decide) ?_
          refine G_lv C (lv' := [(0, va_rf (some x0)), (1, Value.int v1), (2, va_rf v2)]) [1, 2, 3] rfl ?_
          exact J80 _ _ _ _ _ _ _ _ _ h
      intro c0 n0 S v1 h
      rw [w_X8_chargeTakers_l2] at h
      obtain ⟨hc00, hn00, h⟩ := h
      refine G_iload_n C (x := v1) 1 dX8_chargeTakers_2 rfl rfl ?_
      refine G_aload_n C (x := (some x0)) 0 dX8_chargeTakers_3 rfl rfl ?_
      obtain ⟨hk27, h⟩ := h
      refine G_get C (CC := RX8) (Tf := TX8) (N := 10) (k := 9) (i := 4) (v := va_rf (gP S 904 x0)) hk27 (by decide) rfl (fin fwX8) (by decide) (im tw_1_103) rfl rfl dX8_chargeTakers_4 ?_
      obtain ⟨a28, ha29, h⟩ := h
      refine G_rf ha29 ?_
      obtain ⟨hk30, h⟩ := h
      refine G_alen C hk30 (by decide) rfl dX8_chargeTakers_7 ?_
      refine G_icmp_ge C (tgt := 109) dX8_chargeTakers_8 (by decide) (fun hc => ?_) (fun hc => ?_)
      · have h := h.1 hc
        exact G_vret C (mc := mc) (ms := ms) (post := post) hr hc00 hn00 dX8_chargeTakers_109 h
      · have h := h.2 hc
        refine G_aload_n C (x := (some x0)) 0 dX8_chargeTakers_11 rfl rfl ?_
        refine G_get C (CC := RX8) (Tf := TX8) (N := 10) (k := 9) (i := 4) (v := va_rf (gP S 904 x0)) hk27 (by decide) rfl (fin fwX8) (by decide) (im tw_1_103) rfl rfl dX8_chargeTakers_12 ?_
        refine G_iload_n C (x := v1) 1 dX8_chargeTakers_15 rfl rfl ?_
        refine G_rf1 ha29 ?_
        obtain ⟨hi31, h⟩ := h
        refine G_aald C hk30 (by decide) rfl hi31 dX8_chargeTakers_16 ?_
        refine G_astore_n C (i := 2) (lv' := [(2, va_rf (gR S a28 ((v1).toNatClampNeg))), (0, va_rf (some x0)), (1, Value.int v1)]) dX8_chargeTakers_17 rfl (by decide) (by first | rfl | simp [va_cat, vi_cat, vl_cat]) ?_
        refine G_aload_n C (x := (gR S a28 ((v1).toNatClampNeg))) 0 dX8_chargeTakers_18 rfl rfl ?_
        refine G_ifnull C (tgt := 103) dX8_chargeTakers_19 (by decide) (fun hc => ?_) (fun a32 ha33 => ?_)
        · have h := h.1 hc
          refine G_lv C (lv' := [(0, va_rf (some x0)), (1, Value.int v1)]) [1, 2] rfl ?_
          exact J103 _ _ _ _ h
        · have h := h.2 a32 ha33
          refine G_aload_n C (x := (gR S a28 ((v1).toNatClampNeg))) 0 dX8_chargeTakers_22 rfl rfl ?_
          obtain ⟨hk34, h⟩ := h
          refine G_callVi C hZ (Tf := TX7) (N := 18) hk34 (by decide) rfl tw_4_75 tw_4_76 tw_4_77 tw_1_21 tw_4_78 hy_X7_takesStreet ⟨Nat.le_of_ble_eq_true rfl, Nat.le_of_ble_eq_true rfl⟩ (As := []) (rest := []) (c_X7_takesStreet l D cy a32 S _ h) rfl (by first | rfl | (simp only [ha33]; rfl) | simp only [ha33]) (by simp [va_cat, vi_cat, vl_cat]) dX8_chargeTakers_23 ⟨hc00, hn00⟩ (fun r36 S35 h => ?_)
          obtain ⟨hb37, h⟩ := h
          refine G_if_eq C (tgt := 103) dX8_chargeTakers_26 (by decide) (fun hc => ?_) (fun hc => ?_)
          · have h := h.1 hc
            refine G_lv C (lv' := [(0, va_rf (some x0)), (1, Value.int v1)]) [1, 2] rfl ?_
            exact J103 _ _ _ _ h
          · have h := h.2 hc
            refine G_bipush C (v := 50) dX8_chargeTakers_29 (by decide) ?_
            refine G_aload_n C (x := (gR S a28 ((v1).toNatClampNeg))) 0 dX8_chargeTakers_31 rfl rfl ?_
            refine G_rf ha33 ?_
            obtain ⟨hk38, h⟩ := h
            refine G_get C (CC := RX7) (Tf := TX7) (N := 18) (k := 8) (i := 2) (v := va_rf (gP S35 802 a32)) hk38 (by decide) rfl (fin fwX7) (by decide) (im tw_4_216) rfl rfl dX8_chargeTakers_32 ?_
            obtain ⟨a39, ha40, h⟩ := h
            obtain ⟨hk41, h⟩ := h
            refine G_callVi C hZ (Tf := TX4) (N := 12) hk41 (by decide) rfl tw_4_70 tw_3_159 tw_3_160 tw_1_13 tw_3_161 hy_X4_weight ⟨Nat.le_of_ble_eq_true rfl, Nat.le_of_ble_eq_true rfl⟩ (As := []) (rest := [Value.int 50]) (c_X4_weight l D cy a39 S35 _ h) rfl (by first | rfl | (simp only [ha40]; rfl) | simp only [ha40]) (by simp [va_cat, vi_cat, vl_cat]) dX8_chargeTakers_35 ⟨hc00, hn00⟩ (fun r43 S42 h => ?_)
            refine G_imul C dX8_chargeTakers_38 ?_
            refine G_istore_n C (i := 3) (lv' := [(3, Value.int (50 * r43)), (2, va_rf (gR S a28 ((v1).toNatClampNeg))), (0, va_rf (some x0)), (1, Value.int v1)]) dX8_chargeTakers_39 rfl (by decide) (by first | rfl | simp [va_cat, vi_cat, vl_cat]) ?_
            refine G_aload_n C (x := (gR S a28 ((v1).toNatClampNeg))) 1 dX8_chargeTakers_40 rfl rfl ?_
            refine G_rf ha33 ?_
            obtain ⟨hk44, h⟩ := h
            refine G_get C (CC := RX7) (Tf := TX7) (N := 18) (k := 8) (i := 2) (v := va_rf (gP S42 802 a32)) hk44 (by decide) rfl (fin fwX7) (by decide) (im tw_4_216) rfl rfl dX8_chargeTakers_41 ?_
            obtain ⟨a45, ha46, h⟩ := h
            refine G_rf ha46 ?_
            obtain ⟨hk47, h⟩ := h
            refine G_get C (CC := RX4) (Tf := TX4) (N := 12) (k := 5) (i := 9) (v := Value.int (gI S42 509 a45)) hk47 (by decide) rfl (fin fwX4) (by decide) (im tw_2_111) rfl rfl dX8_chargeTakers_44 ?_
            refine G_aload_n C (x := (gR S a28 ((v1).toNatClampNeg))) 1 dX8_chargeTakers_47 rfl rfl ?_
            refine G_rf ha33 ?_
            refine G_get C (CC := RX7) (Tf := TX7) (N := 18) (k := 8) (i := 14) (v := Value.int (gI S42 814 a32)) hk44 (by decide) rfl (fin fwX7) (by decide) (im tw_4_236) rfl rfl dX8_chargeTakers_48 ?_
            refine G_iand C dX8_chargeTakers_51 ?_
            refine G_if_eq C (tgt := 59) dX8_chargeTakers_52 (by decide) (fun hc => ?_) (fun hc => ?_)
            · have h := h.1 hc
              refine G_iconst C (v := 0) dX8_chargeTakers_59 (by decide) ?_
              refine G_lv C (lv' := [(0, va_rf (some x0)), (1, Value.int v1), (2, va_rf (gR S a28 ((v1).toNatClampNeg))), (3, Value.int (50 * r43))]) [2, 3, 1, 0] rfl ?_
              exact J60 _ _ _ _ _ _ _ h
            · have h := h.2 hc
              refine G_iconst C (v := 1) dX8_chargeTakers_55 (by decide) ?_
              refine G_goto C (tgt := 60) dX8_chargeTakers_56 (by decide) ?_
              refine G_lv C (lv' := [(0, va_rf (some x0)), (1, Value.int v1), (2, va_rf (gR S a28 ((v1).toNatClampNeg))), (3, Value.int (50 * r43))]) [2, 3, 1, 0] rfl ?_
              exact J60 _ _ _ _ _ _ _ h
  refine G_lv C (lv' := [(0, va_rf (some x0))]) [0] (by first | rfl | simp [lv_pick, lv_args, va_cat, vi_cat, vl_cat]) ?_
  unfold w_X8_chargeTakers at h
  refine G_iconst C (v := 0) dX8_chargeTakers_0 (by decide) ?_
  refine G_istore_n C (i := 1) (lv' := [(1, Value.int 0), (0, va_rf (some x0))]) dX8_chargeTakers_1 rfl (by decide) (by first | rfl | simp [va_cat, vi_cat, vl_cat]) ?_
  refine G_lv C (lv' := [(0, va_rf (some x0)), (1, Value.int 0)]) [1, 0] rfl ?_
  obtain ⟨n9, h⟩ := h
  exact J2 n9 _ _ _ _ h
set_option maxHeartbeats 4000000 in
set_option maxRecDepth 100000 in
theorem c_X8_goOneHour (l : Launch) (D : va_G) (cy : Nat → Nat) (x0 : Nat) (S : PT) (mc ms : Nat) (post : PT → Prop) (h : w_X8_goOneHour x0 S mc ms post) : Mv l yX8_goOneHour (Wm yX8_goOneHour prog_1_method_56_code 1 (Option.none : Option Jvm.ClassFile.FieldType)) 6 154 D cy [va_rf (some x0)] S mc ms post := by
  refine Mv_of (own := "Trenchboard") (by decide) rfl (by first | decide | simp [lg_sl, va_cat, vi_cat, vl_cat]) (fun p e s m below meth c A C hZ hr hin9 => ?_)
  have J43 : ∀ (c0 n0 : Nat) (S : PT), w_X8_goOneHour_b43 x0 mc ms post c0 n0 S → G p l e { frames := 6, cells := mc, slots := ms, locals := 154 } s m [va_rf (some x0)].toArray below meth c D cy A s.heap 1 (QMv below D cy A [va_rf (some x0)] s mc ms post) S c0 n0 43 [(0, va_rf (some x0))] [] := by
    intro c0 n0 S h
    unfold w_X8_goOneHour_b43 at h
    obtain ⟨hc00, hn00, h⟩ := h
    refine G_aload_n C (x := (some x0)) 0 dX8_goOneHour_43 rfl rfl ?_
    obtain ⟨hk1, h⟩ := h
    refine G_callVv C hZ (Tf := TX8) (N := 10) hk1 (by decide) rfl tw_4_83 tw_4_85 tw_0_25 tw_1_1 tw_4_86 hy_X8_moveQueues ⟨Nat.le_of_ble_eq_true rfl, Nat.le_of_ble_eq_true rfl⟩ (As := []) (rest := []) (c_X8_moveQueues l D cy x0 S _ h) rfl rfl (by simp [va_cat, vi_cat, vl_cat]) dX8_goOneHour_44 ⟨hc00, hn00⟩ (fun S2 h => ?_)
    exact G_vret C (mc := mc) (ms := ms) (post := post) hr hc00 hn00 dX8_goOneHour_47 h
  have J28 : ∀ (c0 n0 : Nat) (S : PT), w_X8_goOneHour_b28 x0 mc ms post c0 n0 S → G p l e { frames := 6, cells := mc, slots := ms, locals := 154 } s m [va_rf (some x0)].toArray below meth c D cy A s.heap 1 (QMv below D cy A [va_rf (some x0)] s mc ms post) S c0 n0 28 [(0, va_rf (some x0))] [] := by
    intro c0 n0 S h
    unfold w_X8_goOneHour_b28 at h
    obtain ⟨hc00, hn00, h⟩ := h
    refine G_aload_n C (x := (some x0)) 0 dX8_goOneHour_28 rfl rfl ?_
    obtain ⟨hk4, h⟩ := h
    refine G_callVv C hZ (Tf := TX8) (N := 10) hk4 (by decide) rfl tw_4_71 tw_4_73 tw_0_23 tw_1_1 tw_4_74 hy_X8_takeStreets ⟨Nat.le_of_ble_eq_true rfl, Nat.le_of_ble_eq_true rfl⟩ (As := []) (rest := []) (c_X8_takeStreets l D cy x0 S _ h) rfl rfl (by simp [va_cat, vi_cat, vl_cat]) dX8_goOneHour_29 ⟨hc00, hn00⟩ (fun S5 h => ?_)
    refine G_aload_n C (x := (some x0)) 0 dX8_goOneHour_32 rfl rfl ?_
    obtain ⟨hk7, h⟩ := h
    refine G_callVi C hZ (Tf := TX8) (N := 10) hk7 (by decide) rfl tw_3_220 tw_3_222 tw_0_17 tw_1_1 tw_3_223 hy_X8_isBusy ⟨Nat.le_of_ble_eq_true rfl, Nat.le_of_ble_eq_true rfl⟩ (As := []) (rest := []) (c_X8_isBusy l D cy x0 S5 _ h) rfl rfl (by simp [va_cat, vi_cat, vl_cat]) dX8_goOneHour_33 ⟨hc00, hn00⟩ (fun r9 S8 h => ?_)
    obtain ⟨hb10, h⟩ := h
    refine G_if_eq C (tgt := 43) dX8_goOneHour_36 (by decide) (fun hc => ?_) (fun hc => ?_)
    · have h := h.1 hc
      refine G_lv C (lv' := [(0, va_rf (some x0))]) [0] rfl ?_
      exact J43 _ _ _ h
    · have h := h.2 hc
      refine G_aload_n C (x := (some x0)) 0 dX8_goOneHour_39 rfl rfl ?_
      obtain ⟨hk11, h⟩ := h
      obtain ⟨m14, m15, hc16, hs17, h⟩ := h
      refine G_callVv C hZ (Tf := TX8) (N := 10) hk11 (by decide) rfl tw_4_79 tw_4_81 tw_0_24 tw_1_1 tw_4_82 hy_X8_chargeTakers ⟨Nat.le_of_ble_eq_true rfl, Nat.le_of_ble_eq_true rfl⟩ (As := []) (rest := []) (c_X8_chargeTakers l D cy x0 S8 m14 m15 _ h) rfl rfl (by simp [va_cat, vi_cat, vl_cat]) dX8_goOneHour_40 ⟨hc16, hs17⟩ (fun S12 h => ?_)
      refine G_lv C (lv' := [(0, va_rf (some x0))]) [0] rfl ?_
      exact J43 _ _ _ h
  refine G_lv C (lv' := [(0, va_rf (some x0))]) [0] (by first | rfl | simp [lv_pick, lv_args, va_cat, vi_cat, vl_cat]) ?_
  unfold w_X8_goOneHour at h
  refine G_aload_n C (x := (some x0)) 0 dX8_goOneHour_0 rfl rfl ?_
  refine G_dup C dX8_goOneHour_1 (va_cat _) ?_
  obtain ⟨hk18, h⟩ := h
  refine G_get C (CC := RX8) (Tf := TX8) (N := 10) (k := 9) (i := 9) (v := Value.int (gI S 909 x0)) hk18 (by decide) rfl (fin fwX8) (by decide) (im tw_1_108) rfl rfl dX8_goOneHour_2 ?_
  refine G_iconst C (v := 1) dX8_goOneHour_5 (by decide) ?_
  refine G_iadd C dX8_goOneHour_6 ?_
  refine G_putI C (CC := RX8) (Tf := TX8) (N := 10) (k := 9) (i := 9) (f := 909) (x := ((gI S 909 x0) + 1)) (ty0 := tyX8) (ty := .int) hk18 (by decide) rfl (fin fwX8) tyX8_ok nmX8 (by decide) (im tw_1_108) rfl rfl rfl rfl rfl rfl rfl dX8_goOneHour_7 ?_
  generalize e20 : sI S 909 x0 ((gI S 909 x0) + 1) = S19
  have h := h S19 e20.symm
  refine G_aload_n C (x := (some x0)) 0 dX8_goOneHour_10 rfl rfl ?_
  refine G_get C (CC := RX8) (Tf := TX8) (N := 10) (k := 9) (i := 9) (v := Value.int (gI S19 909 x0)) (ksI e20.symm hk18) (by decide) rfl (fin fwX8) (by decide) (im tw_1_108) rfl rfl dX8_goOneHour_11 ?_
  refine G_bipush C (v := 24) dX8_goOneHour_14 (by decide) ?_
  refine G_irem C dX8_goOneHour_16 (by decide) ?_
  refine G_if_ne C (tgt := 28) dX8_goOneHour_17 (by decide) (fun hc => ?_) (fun hc => ?_)
  · have h := h.1 hc
    refine G_lv C (lv' := [(0, va_rf (some x0))]) [0] rfl ?_
    exact J28 _ _ _ h
  · have h := h.2 hc
    refine G_aload_n C (x := (some x0)) 0 dX8_goOneHour_20 rfl rfl ?_
    obtain ⟨m23, m24, hc25, hs26, h⟩ := h
    refine G_callVv C hZ (Tf := TX8) (N := 10) (ksI e20.symm hk18) (by decide) rfl tw_4_58 tw_4_60 tw_0_21 tw_1_1 tw_4_61 hy_X8_settleAsked ⟨Nat.le_of_ble_eq_true rfl, Nat.le_of_ble_eq_true rfl⟩ (As := []) (rest := []) (c_X8_settleAsked l D cy x0 S19 m23 m24 _ h) rfl rfl (by simp [va_cat, vi_cat, vl_cat]) dX8_goOneHour_21 ⟨hc25, hs26⟩ (fun S21 h => ?_)
    refine G_aload_n C (x := (some x0)) 0 dX8_goOneHour_24 rfl rfl ?_
    obtain ⟨hk27, h⟩ := h
    obtain ⟨m30, m31, hc32, hs33, h⟩ := h
    refine G_callVv C hZ (Tf := TX8) (N := 10) hk27 (by decide) rfl tw_4_66 tw_4_68 tw_0_22 tw_1_1 tw_4_69 hy_X8_fineLate ⟨Nat.le_of_ble_eq_true rfl, Nat.le_of_ble_eq_true rfl⟩ (As := []) (rest := []) (c_X8_fineLate l D cy x0 S21 m30 m31 _ h) rfl rfl (by simp [va_cat, vi_cat, vl_cat]) dX8_goOneHour_25 ⟨hc32, hs33⟩ (fun S28 h => ?_)
    refine G_lv C (lv' := [(0, va_rf (some x0))]) [0] rfl ?_
    exact J28 _ _ _ h
