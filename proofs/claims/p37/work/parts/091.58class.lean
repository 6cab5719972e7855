set_option maxHeartbeats 4000000 in
set_option maxRecDepth 100000 in
theorem c_X0_init (l : Launch) (D : va_G) (cy : Nat → Nat) (x0 : Nat) (x1 : Option Nat) (x2 : Int32) (x3 : Int32) (x4 : Int32) (x5 : Option Nat) (S : PT) (post : PT → Prop) (h : w_X0_init x0 x1 x2 x3 x4 x5 S post) : Mv l yX0_init (Wm yX0_init prog_2_method_1_code 6 (Option.none : Option Jvm.ClassFile.FieldType)) 1 16 D cy [va_rf (some x0), va_rf x1, Value.int x2, Value.int x3, Value.int x4, va_rf x5] S 0 0 post := by
  refine Mv_of (own := "Trenchboard$Fill") (by decide) rfl (by first | decide | simp [lg_sl, va_cat, vi_cat, vl_cat]) (fun p e s m below meth c A C hZ hr hin9 => ?_)
  refine G_lv C (lv' := [(0, va_rf (some x0)), (1, va_rf x1), (2, Value.int x2), (3, Value.int x3), (4, Value.int x4), (5, va_rf x5)]) [0, 1, 2, 3, 4, 5] (by first | rfl | simp [lv_pick, lv_args, va_cat, vi_cat, vl_cat]) ?_
  unfold w_X0_init at h
  refine G_aload_n C (x := (some x0)) 0 dX0_init_0 rfl rfl ?_
  refine G_objInit C (im tw_4_1) (im tw_1_31) (im tw_1_32) dX0_init_1 (Nat.le_of_ble_eq_true rfl) (by simp [va_cat, vi_cat, vl_cat]) ?_
  refine G_aload_n C (x := (some x0)) 0 dX0_init_4 rfl rfl ?_
  refine G_aload_n C (x := x1) 1 dX0_init_5 rfl rfl ?_
  obtain ⟨hk1, h⟩ := h
  refine G_putPF C (CC := RX0) (Tf := TX0) (N := 6) (k := 1) (i := 0) (f := 100) (x := x1) (ty0 := tyX0) (ty := .object "Trenchboard$Works") hk1 (by decide) rfl (fin fwX0) tyX0_ok nmX0 (by decide) (im tw_4_2) rfl rfl (hin9 rfl) rfl rfl (by cases (x1 : Option Nat) <;> rfl) (by cases (x1 : Option Nat) <;> rfl) rfl rfl dX0_init_6 ?_
  generalize e3 : sP S 100 x0 x1 = S2
  have h := h S2 e3.symm
  refine G_aload_n C (x := (some x0)) 0 dX0_init_9 rfl rfl ?_
  refine G_iload_n C (x := x2) 2 dX0_init_10 rfl rfl ?_
  refine G_putIF C (CC := RX0) (Tf := TX0) (N := 6) (k := 1) (i := 1) (f := 101) (x := x2) (ty0 := tyX0) (ty := .int) (ksP e3.symm hk1) (by decide) rfl (fin fwX0) tyX0_ok nmX0 (by decide) (im tw_4_5) rfl rfl (hin9 rfl) rfl rfl rfl rfl rfl rfl dX0_init_11 ?_
  generalize e5 : sI S2 101 x0 x2 = S4
  have h := h S4 e5.symm
  refine G_aload_n C (x := (some x0)) 0 dX0_init_14 rfl rfl ?_
  refine G_iload_n C (x := x3) 3 dX0_init_15 rfl rfl ?_
  refine G_putIF C (CC := RX0) (Tf := TX0) (N := 6) (k := 1) (i := 2) (f := 102) (x := x3) (ty0 := tyX0) (ty := .int) (ksI e5.symm (ksP e3.symm hk1)) (by decide) rfl (fin fwX0) tyX0_ok nmX0 (by decide) (im tw_4_7) rfl rfl (hin9 rfl) rfl rfl rfl rfl rfl rfl dX0_init_16 ?_
  generalize e7 : sI S4 102 x0 x3 = S6
  have h := h S6 e7.symm
  refine G_aload_n C (x := (some x0)) 0 dX0_init_19 rfl rfl ?_
  refine G_iload C (x := x4) 4 dX0_init_20 rfl ?_
  refine G_putIF C (CC := RX0) (Tf := TX0) (N := 6) (k := 1) (i := 3) (f := 103) (x := x4) (ty0 := tyX0) (ty := .int) (ksI e7.symm (ksI e5.symm (ksP e3.symm hk1))) (by decide) rfl (fin fwX0) tyX0_ok nmX0 (by decide) (im tw_4_9) rfl rfl (hin9 rfl) rfl rfl rfl rfl rfl rfl dX0_init_22 ?_
  generalize e9 : sI S6 103 x0 x4 = S8
  have h := h S8 e9.symm
  refine G_aload_n C (x := (some x0)) 0 dX0_init_25 rfl rfl ?_
  refine G_aload C (x := x5) 5 dX0_init_26 rfl ?_
  refine G_putPF C (CC := RX0) (Tf := TX0) (N := 6) (k := 1) (i := 4) (f := 104) (x := x5) (ty0 := tyX0) (ty := .object "Trenchboard$Fill") (ksI e9.symm (ksI e7.symm (ksI e5.symm (ksP e3.symm hk1)))) (by decide) rfl (fin fwX0) tyX0_ok nmX0 (by decide) (im tw_4_11) rfl rfl (hin9 rfl) rfl rfl (by cases (x5 : Option Nat) <;> rfl) (by cases (x5 : Option Nat) <;> rfl) rfl rfl dX0_init_28 ?_
  generalize e11 : sP S8 104 x0 x5 = S10
  have h := h S10 e11.symm
  exact G_vret C (mc := 0) (ms := 0) (post := post) hr (Nat.le_of_ble_eq_true rfl) (Nat.le_of_ble_eq_true rfl) dX0_init_31 h
set_option maxHeartbeats 4000000 in
set_option maxRecDepth 100000 in
theorem c_X1_balanceOf (l : Launch) (D : va_G) (cy : Nat → Nat) (x0 : Nat) (x1 : Int32) (S : PT) (post : Int64 → PT → Prop) (h : w_X1_balanceOf x0 x1 S post) : Ml l yX1_balanceOf (Wm yX1_balanceOf prog_3_method_3_code 6 (Option.some Jvm.ClassFile.FieldType.long)) 0 0 D cy [va_rf (some x0), Value.int x1] S 0 0 post := by
  refine Ml_of (own := "Trenchboard$Ledger") (by decide) rfl (by first | decide | simp [lg_sl, va_cat, vi_cat, vl_cat]) (fun p e s m below meth c A C hZ hr hin9 => ?_)
  have J85 : ∀ (S : PT) (v2 : Int64), w_X1_balanceOf_b85 x0 x1 post S v2 → G p l e { frames := 0, cells := 0, slots := 0, locals := 0 } s m [va_rf (some x0), Value.int x1].toArray below meth c D cy A s.heap 6 (QMl below D cy A [va_rf (some x0), Value.int x1] s 0 0 post) S 0 0 85 [(2, Value.long v2)] [] := by
    intro S v2 h
    unfold w_X1_balanceOf_b85 at h
    refine G_lload_n C (x := v2) 0 dX1_balanceOf_85 rfl rfl ?_
    exact G_lret C (mc := 0) (ms := 0) (post := post) hr (Nat.le_of_ble_eq_true rfl) (Nat.le_of_ble_eq_true rfl) dX1_balanceOf_86 h
  have J5 : ∀ (n : Nat) (S : PT) (v2 : Int64) (v4 : Int32), w_X1_balanceOf_l5 x0 x1 post n S v2 v4 → G p l e { frames := 0, cells := 0, slots := 0, locals := 0 } s m [va_rf (some x0), Value.int x1].toArray below meth c D cy A s.heap 6 (QMl below D cy A [va_rf (some x0), Value.int x1] s 0 0 post) S 0 0 5 [(0, va_rf (some x0)), (1, Value.int x1), (2, Value.long v2), (4, Value.int v4)] [] := by
    intro n5
    induction n5 with
    | zero => intro S v2 v4 h; rw [w_X1_balanceOf_l5] at h; exact False.elim h
    | succ n5 K5 =>
      have J79 : ∀ (S : PT) (v2 : Int64) (v4 : Int32), w_X1_balanceOf_b79 x0 x1 post (w_X1_balanceOf_l5 x0 x1 post n5) S v2 v4 → G p l e { frames := 0, cells := 0, slots := 0, locals := 0 } s m [va_rf (some x0), Value.int x1].toArray below meth c D cy A s.heap 6 (QMl below D cy A [va_rf (some x0), Value.int x1] s 0 0 post) S 0 0 79 [(0, va_rf (some x0)), (1, Value.int x1), (2, Value.long v2), (4, Value.int v4)] [] := by
        intro S v2 v4 h
        unfold w_X1_balanceOf_b79 at h
        refine G_iinc C (v := (v4 + 1)) (lv' := [(4, Value.int (v4 + 1)), (0, va_rf (some x0)), (1, Value.int x1), (2, Value.long v2)]) 3 dX1_balanceOf_79 rfl rfl (by decide) (by first | rfl | simp [va_cat, vi_cat, vl_cat]) ?_
        refine G_goto C (tgt := 5) dX1_balanceOf_82 (by decide) ?_
        refine G_lv C (lv' := [(0, va_rf (some x0)), (1, Value.int x1), (2, Value.long v2), (4, Value.int (v4 + 1))]) [1, 2, 3, 0] rfl ?_
        exact K5 _ _ _ h
      have J59 : ∀ (S : PT) (v2 : Int64) (v4 : Int32) (v5 : Int32), w_X1_balanceOf_b59 x0 x1 post (w_X1_balanceOf_l5 x0 x1 post n5) S v2 v4 v5 → G p l e { frames := 0, cells := 0, slots := 0, locals := 0 } s m [va_rf (some x0), Value.int x1].toArray below meth c D cy A s.heap 6 (QMl below D cy A [va_rf (some x0), Value.int x1] s 0 0 post) S 0 0 59 [(0, va_rf (some x0)), (1, Value.int x1), (2, Value.long v2), (4, Value.int v4), (5, Value.int v5)] [] := by
        intro S v2 v4 v5 h
        unfold w_X1_balanceOf_b59 at h
        refine G_aload_n C (x := (some x0)) 0 dX1_balanceOf_59 rfl rfl ?_
        obtain ⟨hk1, h⟩ := h
        refine G_get C (CC := RX1) (Tf := TX1) (N := 2) (k := 2) (i := 0) (v := va_rf (gP S 200 x0)) hk1 (by decide) rfl (fin fwX1) (by decide) (im tw_1_47) rfl rfl dX1_balanceOf_60 ?_
        refine G_iload C (x := v4) 3 dX1_balanceOf_63 rfl ?_
        obtain ⟨a2, ha3, h⟩ := h
        refine G_rf1 ha3 ?_
        obtain ⟨hk4, h⟩ := h
        obtain ⟨hi5, h⟩ := h
        refine G_iald C hk4 hi5 dX1_balanceOf_65 ?_
        refine G_bipush C (v := 8) dX1_balanceOf_66 (by decide) ?_
        refine G_irem C dX1_balanceOf_68 (by decide) ?_
        refine G_iload_n C (x := x1) 1 dX1_balanceOf_69 rfl rfl ?_
        refine G_icmp_ne C (tgt := 79) dX1_balanceOf_70 (by decide) (fun hc => ?_) (fun hc => ?_)
        · have h := h.1 hc
          refine G_lv C (lv' := [(0, va_rf (some x0)), (1, Value.int x1), (2, Value.long v2), (4, Value.int v4)]) [0, 1, 2, 3] rfl ?_
          exact J79 _ _ _ h
        · have h := h.2 hc
          refine G_lload_n C (x := v2) 2 dX1_balanceOf_73 rfl rfl ?_
          refine G_iload C (x := v5) 4 dX1_balanceOf_74 rfl ?_
          refine G_i2l C dX1_balanceOf_76 ?_
          refine G_ladd C dX1_balanceOf_77 ?_
          refine G_lstore_n C (i := 2) (lv' := [(2, Value.long (v2 + v5.toInt64)), (0, va_rf (some x0)), (1, Value.int x1), (4, Value.int v4), (5, Value.int v5)]) dX1_balanceOf_78 rfl (by decide) (by first | rfl | simp [va_cat, vi_cat, vl_cat]) ?_
          refine G_lv C (lv' := [(0, va_rf (some x0)), (1, Value.int x1), (2, Value.long (v2 + v5.toInt64)), (4, Value.int v4)]) [1, 2, 0, 3] rfl ?_
          exact J79 _ _ _ h
      intro S v2 v4 h
      rw [w_X1_balanceOf_l5] at h
      refine G_iload C (x := v4) 3 dX1_balanceOf_5 rfl ?_
      refine G_aload_n C (x := (some x0)) 0 dX1_balanceOf_7 rfl rfl ?_
      obtain ⟨hk6, h⟩ := h
      refine G_get C (CC := RX1) (Tf := TX1) (N := 2) (k := 2) (i := 1) (v := Value.int (gI S 201 x0)) hk6 (by decide) rfl (fin fwX1) (by decide) (im tw_1_48) rfl rfl dX1_balanceOf_8 ?_
      refine G_icmp_ge C (tgt := 85) dX1_balanceOf_11 (by decide) (fun hc => ?_) (fun hc => ?_)
      · have h := h.1 hc
        refine G_lv C (lv' := [(2, Value.long v2)]) [2] rfl ?_
        exact J85 _ _ h
      · have h := h.2 hc
        refine G_iload C (x := v4) 3 dX1_balanceOf_14 rfl ?_
        refine G_aload_n C (x := (some x0)) 0 dX1_balanceOf_16 rfl rfl ?_
        refine G_get C (CC := RX1) (Tf := TX1) (N := 2) (k := 2) (i := 0) (v := va_rf (gP S 200 x0)) hk6 (by decide) rfl (fin fwX1) (by decide) (im tw_1_47) rfl rfl dX1_balanceOf_17 ?_
        obtain ⟨a7, ha8, h⟩ := h
        refine G_rf ha8 ?_
        obtain ⟨hk9, h⟩ := h
        refine G_alen C hk9 (by decide) rfl dX1_balanceOf_20 ?_
        refine G_icmp_ge C (tgt := 85) dX1_balanceOf_21 (by decide) (fun hc => ?_) (fun hc => ?_)
        · have h := h.1 hc
          refine G_lv C (lv' := [(2, Value.long v2)]) [2] rfl ?_
          exact J85 _ _ h
        · have h := h.2 hc
          refine G_aload_n C (x := (some x0)) 0 dX1_balanceOf_24 rfl rfl ?_
          refine G_get C (CC := RX1) (Tf := TX1) (N := 2) (k := 2) (i := 0) (v := va_rf (gP S 200 x0)) hk6 (by decide) rfl (fin fwX1) (by decide) (im tw_1_47) rfl rfl dX1_balanceOf_25 ?_
          refine G_iload C (x := v4) 3 dX1_balanceOf_28 rfl ?_
          refine G_rf1 ha8 ?_
          obtain ⟨hi10, h⟩ := h
          refine G_iald C hk9 hi10 dX1_balanceOf_30 ?_
          refine G_bipush C (v := 64) dX1_balanceOf_31 (by decide) ?_
          refine G_idiv C dX1_balanceOf_33 (by decide) ?_
          refine G_istore C (i := 5) (lv' := [(5, Value.int ((gA S a7 v4.toNatClampNeg) / 64)), (0, va_rf (some x0)), (1, Value.int x1), (2, Value.long v2), (4, Value.int v4)]) dX1_balanceOf_34 (by decide) (by first | rfl | simp [va_cat, vi_cat, vl_cat]) ?_
          refine G_aload_n C (x := (some x0)) 1 dX1_balanceOf_36 rfl rfl ?_
          refine G_get C (CC := RX1) (Tf := TX1) (N := 2) (k := 2) (i := 0) (v := va_rf (gP S 200 x0)) hk6 (by decide) rfl (fin fwX1) (by decide) (im tw_1_47) rfl rfl dX1_balanceOf_37 ?_
          refine G_iload C (x := v4) 4 dX1_balanceOf_40 rfl ?_
          refine G_rf1 ha8 ?_
          obtain ⟨hi11, h⟩ := h
          refine G_iald C hk9 hi11 dX1_balanceOf_42 ?_
          refine G_bipush C (v := 8) dX1_balanceOf_43 (by decide) ?_
          refine G_idiv C dX1_balanceOf_45 (by decide) ?_
          refine G_bipush C (v := 8) dX1_balanceOf_46 (by decide) ?_
          refine G_irem C dX1_balanceOf_48 (by decide) ?_
          refine G_iload_n C (x := x1) 2 dX1_balanceOf_49 rfl rfl ?_
          refine G_icmp_ne C (tgt := 59) dX1_balanceOf_50 (by decide) (fun hc => ?_) (fun hc => ?_)
          · have h := h.1 hc
            refine G_lv C (lv' := [(0, va_rf (some x0)), (1, Value.int x1), (2, Value.long v2), (4, Value.int v4), (5, Value.int ((gA S a7 v4.toNatClampNeg) / 64))]) [1, 2, 3, 4, 0] rfl ?_
            exact J59 _ _ _ _ h
          · have h := h.2 hc
            refine G_lload_n C (x := v2) 3 dX1_balanceOf_53 rfl rfl ?_
            refine G_iload C (x := ((gA S a7 v4.toNatClampNeg) / 64)) 0 dX1_balanceOf_54 rfl ?_
            refine G_i2l C dX1_balanceOf_56 ?_
            refine G_lsub C dX1_balanceOf_57 ?_
            refine G_lstore_n C (i := 2) (lv' := [(2, Value.long (v2 - ((gA S a7 v4.toNatClampNeg) / 64).toInt64)), (5, Value.int ((gA S a7 v4.toNatClampNeg) / 64)), (0, va_rf (some x0)), (1, Value.int x1), (4, Value.int v4)]) dX1_balanceOf_58 rfl (by decide) (by first | rfl | simp [va_cat, vi_cat, vl_cat]) ?_
            refine G_lv C (lv' := [(0, va_rf (some x0)), (1, Value.int x1), (2, Value.long (v2 - ((gA S a7 v4.toNatClampNeg) / 64).toInt64)), (4, Value.int v4), (5, Value.int ((gA S a7 v4.toNatClampNeg) / 64))]) [2, 3, 0, 4, 1] rfl ?_
            exact J59 _ _ _ _ h
  refine G_lv C (lv' := [(0, va_rf (some x0)), (1, Value.int x1)]) [0, 1] (by first | rfl | simp [lv_pick, lv_args, va_cat, vi_cat, vl_cat]) ?_
  unfold w_X1_balanceOf at h
  refine G_lconst C (v := 0) dX1_balanceOf_0 (by decide) ?_
  refine G_lstore_n C (i := 2) (lv' := [(2, Value.long 0), (0, va_rf (some x0)), (1, Value.int x1)]) dX1_balanceOf_1 rfl (by decide) (by first | rfl | simp [va_cat, vi_cat, vl_cat]) ?_
  refine G_iconst C (v := 0) dX1_balanceOf_2 (by decide) ?_
  refine G_istore C (i := 4) (lv' := [(4, Value.int 0), (2, Value.long 0), (0, va_rf (some x0)), (1, Value.int x1)]) dX1_balanceOf_3 (by decide) (by first | rfl | simp [va_cat, vi_cat, vl_cat]) ?_
  refine G_lv C (lv' := [(0, va_rf (some x0)), (1, Value.int x1), (2, Value.long 0), (4, Value.int 0)]) [2, 3, 1, 0] rfl ?_
  obtain ⟨n9, h⟩ := h
  exact J5 n9 _ _ _ h
set_option maxHeartbeats 4000000 in
set_option maxRecDepth 100000 in
theorem c_X2_init (l : Launch) (D : va_G) (cy : Nat → Nat) (x0 : Nat) (S : PT) (post : PT → Prop) (h : w_X2_init x0 S post) : Mv l yX2_init (Wm yX2_init prog_4_method_1_code 1 (Option.none : Option Jvm.ClassFile.FieldType)) 1 16 D cy [va_rf (some x0)] S 0 0 post := by
  refine Mv_of (own := "Trenchboard$Metre") (by decide) rfl (by first | decide | simp [lg_sl, va_cat, vi_cat, vl_cat]) (fun p e s m below meth c A C hZ hr hin9 => ?_)
  refine G_lv C (lv' := [(0, va_rf (some x0))]) [0] (by first | rfl | simp [lv_pick, lv_args, va_cat, vi_cat, vl_cat]) ?_
  unfold w_X2_init at h
  refine G_aload_n C (x := (some x0)) 0 dX2_init_0 rfl rfl ?_
  refine G_objInit C (im tw_2_77) (im tw_1_31) (im tw_1_32) dX2_init_1 (Nat.le_of_ble_eq_true rfl) (by simp [va_cat, vi_cat, vl_cat]) ?_
  refine G_aload_n C (x := (some x0)) 0 dX2_init_4 rfl rfl ?_
  refine G_iconst C (v := (-1)) dX2_init_5 (by decide) ?_
  obtain ⟨hk1, h⟩ := h
  refine G_putI C (CC := RX2) (Tf := TX2) (N := 4) (k := 3) (i := 1) (f := 301) (x := (-1)) (ty0 := tyX2) (ty := .int) hk1 (by decide) rfl (fin fwX2) tyX2_ok nmX2 (by decide) (im tw_2_80) rfl rfl rfl rfl rfl rfl rfl dX2_init_6 ?_
  generalize e3 : sI S 301 x0 (-1) = S2
  have h := h S2 e3.symm
  exact G_vret C (mc := 0) (ms := 0) (post := post) hr (Nat.le_of_ble_eq_true rfl) (Nat.le_of_ble_eq_true rfl) dX2_init_9 h
set_option maxHeartbeats 4000000 in
set_option maxRecDepth 100000 in
theorem c_X2_latestAsDeepAs (l : Launch) (D : va_G) (cy : Nat → Nat) (x0 : Nat) (x1 : Int32) (S : PT) (post : Option Nat → PT → Prop) (h : w_X2_latestAsDeepAs x0 x1 S post) : Mq l yX2_latestAsDeepAs (Wm yX2_latestAsDeepAs prog_4_method_2_code 3 (Option.some (Jvm.ClassFile.FieldType.object "Trenchboard$Fill"))) 0 0 D cy [va_rf (some x0), Value.int x1] S 0 0 post := by
  refine Mq_of (own := "Trenchboard$Metre") (by decide) rfl (by first | decide | simp [lg_sl, va_cat, vi_cat, vl_cat]) (fun p e s m below meth c A C hZ hr hin9 => ?_)
  have J5 : ∀ (n : Nat) (S : PT) (v2 : Option Nat), w_X2_latestAsDeepAs_l5 x0 x1 post n S v2 → G p l e { frames := 0, cells := 0, slots := 0, locals := 0 } s m [va_rf (some x0), Value.int x1].toArray below meth c D cy A s.heap 3 (QMq below D cy A [va_rf (some x0), Value.int x1] s 0 0 post) S 0 0 5 [(1, Value.int x1), (2, va_rf v2)] [] := by
    intro n5
    induction n5 with
    | zero => intro S v2 h; rw [w_X2_latestAsDeepAs_l5] at h; exact False.elim h
    | succ n5 K5 =>
      intro S v2 h
      rw [w_X2_latestAsDeepAs_l5] at h
      refine G_aload_n C (x := v2) 1 dX2_latestAsDeepAs_5 rfl rfl ?_
      refine G_ifnull C (tgt := 30) dX2_latestAsDeepAs_6 (by decide) (fun hc => ?_) (fun a1 ha2 => ?_)
      · have h := h.1 hc
        refine G_null C dX2_latestAsDeepAs_30 ?_
        exact G_aret C (mc := 0) (ms := 0) (post := post) (v := none) (Or.inl ⟨_, rfl⟩) hr (Nat.le_of_ble_eq_true rfl) (Nat.le_of_ble_eq_true rfl) dX2_latestAsDeepAs_31 h
      · have h := h.2 a1 ha2
        refine G_aload_n C (x := v2) 1 dX2_latestAsDeepAs_9 rfl rfl ?_
        refine G_rf ha2 ?_
        obtain ⟨hk3, h⟩ := h
        refine G_get C (CC := RX0) (Tf := TX0) (N := 6) (k := 1) (i := 0) (v := va_rf (gP S 100 a1)) hk3 (by decide) rfl (fin fwX0) (by decide) (im tw_4_3) rfl rfl dX2_latestAsDeepAs_10 ?_
        obtain ⟨a4, ha5, h⟩ := h
        refine G_rf ha5 ?_
        obtain ⟨hk6, h⟩ := h
        refine G_get C (CC := RX7) (Tf := TX7) (N := 18) (k := 8) (i := 7) (v := Value.int (gI S 807 a4)) hk6 (by decide) rfl (fin fwX7) (by decide) (im tw_4_223) rfl rfl dX2_latestAsDeepAs_13 ?_
        refine G_iload_n C (x := x1) 0 dX2_latestAsDeepAs_16 rfl rfl ?_
        refine G_icmp_lt C (tgt := 22) dX2_latestAsDeepAs_17 (by decide) (fun hc => ?_) (fun hc => ?_)
        · have h := h.1 hc
          refine G_aload_n C (x := v2) 1 dX2_latestAsDeepAs_22 rfl rfl ?_
          refine G_rf ha2 ?_
          refine G_get C (CC := RX0) (Tf := TX0) (N := 6) (k := 1) (i := 4) (v := va_rf (gP S 104 a1)) hk3 (by decide) rfl (fin fwX0) (by decide) (im tw_4_12) rfl rfl dX2_latestAsDeepAs_23 ?_
          refine G_astore_n C (i := 2) (lv' := [(2, va_rf (gP S 104 a1)), (1, Value.int x1)]) dX2_latestAsDeepAs_26 rfl (by decide) (by first | rfl | simp [va_cat, vi_cat, vl_cat]) ?_
          refine G_goto C (tgt := 5) dX2_latestAsDeepAs_27 (by decide) ?_
          refine G_lv C (lv' := [(1, Value.int x1), (2, va_rf (gP S 104 a1))]) [1, 0] rfl ?_
          exact K5 _ _ h
        · have h := h.2 hc
          refine G_aload_n C (x := v2) 1 dX2_latestAsDeepAs_20 rfl rfl ?_
          exact G_aret C (mc := 0) (ms := 0) (post := post) (v := v2) (Or.inl ⟨_, rfl⟩) hr (Nat.le_of_ble_eq_true rfl) (Nat.le_of_ble_eq_true rfl) dX2_latestAsDeepAs_21 h
  refine G_lv C (lv' := [(0, va_rf (some x0)), (1, Value.int x1)]) [0, 1] (by first | rfl | simp [lv_pick, lv_args, va_cat, vi_cat, vl_cat]) ?_
  unfold w_X2_latestAsDeepAs at h
  refine G_aload_n C (x := (some x0)) 0 dX2_latestAsDeepAs_0 rfl rfl ?_
  obtain ⟨hk7, h⟩ := h
  refine G_get C (CC := RX2) (Tf := TX2) (N := 4) (k := 3) (i := 3) (v := va_rf (gP S 303 x0)) hk7 (by decide) rfl (fin fwX2) (by decide) (im tw_2_84) rfl rfl dX2_latestAsDeepAs_1 ?_
  refine G_astore_n C (i := 2) (lv' := [(2, va_rf (gP S 303 x0)), (0, va_rf (some x0)), (1, Value.int x1)]) dX2_latestAsDeepAs_4 rfl (by decide) (by first | rfl | simp [va_cat, vi_cat, vl_cat]) ?_
  refine G_lv C (lv' := [(1, Value.int x1), (2, va_rf (gP S 303 x0))]) [2, 0] rfl ?_
  obtain ⟨n9, h⟩ := h
  exact J5 n9 _ _ h
set_option maxHeartbeats 4000000 in
set_option maxRecDepth 100000 in
theorem c_X3_init (l : Launch) (D : va_G) (cy : Nat → Nat) (x0 : Nat) (S : PT) (post : PT → Prop) (h : w_X3_init x0 S post) : Mv l yX3_init (Wm yX3_init prog_5_method_1_code 1 (Option.none : Option Jvm.ClassFile.FieldType)) 1 16 D cy [va_rf (some x0)] S 0 0 post := by
  refine Mv_of (own := "Trenchboard$Party") (by decide) rfl (by first | decide | simp [lg_sl, va_cat, vi_cat, vl_cat]) (fun p e s m below meth c A C hZ hr hin9 => ?_)
  refine G_lv C (lv' := [(0, va_rf (some x0))]) [0] (by first | rfl | simp [lv_pick, lv_args, va_cat, vi_cat, vl_cat]) ?_
  unfold w_X3_init at h
  refine G_aload_n C (x := (some x0)) 0 dX3_init_0 rfl rfl ?_
  refine G_objInit C (im tw_1_85) (im tw_1_31) (im tw_1_32) dX3_init_1 (Nat.le_of_ble_eq_true rfl) (by simp [va_cat, vi_cat, vl_cat]) ?_
  exact G_vret C (mc := 0) (ms := 0) (post := post) hr (Nat.le_of_ble_eq_true rfl) (Nat.le_of_ble_eq_true rfl) dX3_init_4 h
set_option maxHeartbeats 4000000 in
set_option maxRecDepth 100000 in
theorem c_X4_metreAt (l : Launch) (D : va_G) (cy : Nat → Nat) (x0 : Nat) (x1 : Int32) (S : PT) (post : Option Nat → PT → Prop) (h : w_X4_metreAt x0 x1 S post) : Mq l yX4_metreAt (Wm yX4_metreAt prog_6_method_2_code 2 (Option.some (Jvm.ClassFile.FieldType.object "Trenchboard$Metre"))) 0 0 D cy [va_rf (some x0), Value.int x1] S 0 0 post := by
  refine Mq_of (own := "Trenchboard$Street") (by decide) rfl (by first | decide | simp [lg_sl, va_cat, vi_cat, vl_cat]) (fun p e s m below meth c A C hZ hr hin9 => ?_)
  have J23 : ∀ (S : PT) (s0 : Option Nat), w_X4_metreAt_b23 x0 x1 post S s0 → G p l e { frames := 0, cells := 0, slots := 0, locals := 0 } s m [va_rf (some x0), Value.int x1].toArray below meth c D cy A s.heap 2 (QMq below D cy A [va_rf (some x0), Value.int x1] s 0 0 post) S 0 0 23 [] [va_rf s0] := by
    intro S s0 h
    unfold w_X4_metreAt_b23 at h
    exact G_aret C (mc := 0) (ms := 0) (post := post) (v := s0) (Or.inl ⟨_, rfl⟩) hr (Nat.le_of_ble_eq_true rfl) (Nat.le_of_ble_eq_true rfl) dX4_metreAt_23 h
  have J22 : ∀ (S : PT), w_X4_metreAt_b22 x0 x1 post S → G p l e { frames := 0, cells := 0, slots := 0, locals := 0 } s m [va_rf (some x0), Value.int x1].toArray below meth c D cy A s.heap 2 (QMq below D cy A [va_rf (some x0), Value.int x1] s 0 0 post) S 0 0 22 [] [] := by
    intro S h
    unfold w_X4_metreAt_b22 at h
    refine G_null C dX4_metreAt_22 ?_
    refine G_lv C (lv' := []) [] rfl ?_
    exact J23 _ _ h
  refine G_lv C (lv' := [(0, va_rf (some x0)), (1, Value.int x1)]) [0, 1] (by first | rfl | simp [lv_pick, lv_args, va_cat, vi_cat, vl_cat]) ?_
  unfold w_X4_metreAt at h
  refine G_iload_n C (x := x1) 1 dX4_metreAt_0 rfl rfl ?_
  refine G_if_lt C (tgt := 22) dX4_metreAt_1 (by decide) (fun hc => ?_) (fun hc => ?_)
  · have h := h.1 hc
    refine G_lv C (lv' := []) [] rfl ?_
    exact J22 _ h
  · have h := h.2 hc
    refine G_iload_n C (x := x1) 1 dX4_metreAt_4 rfl rfl ?_
    refine G_aload_n C (x := (some x0)) 0 dX4_metreAt_5 rfl rfl ?_
    obtain ⟨hk1, h⟩ := h
    refine G_get C (CC := RX4) (Tf := TX4) (N := 12) (k := 5) (i := 4) (v := va_rf (gP S 504 x0)) hk1 (by decide) rfl (fin fwX4) (by decide) (im tw_2_100) rfl rfl dX4_metreAt_6 ?_
    obtain ⟨a2, ha3, h⟩ := h
    refine G_rf ha3 ?_
    obtain ⟨hk4, h⟩ := h
    refine G_alen C hk4 (by decide) rfl dX4_metreAt_9 ?_
    refine G_icmp_ge C (tgt := 22) dX4_metreAt_10 (by decide) (fun hc => ?_) (fun hc => ?_)
    · have h := h.1 hc
      refine G_lv C (lv' := []) [] rfl ?_
      exact J22 _ h
    · have h := h.2 hc
      refine G_aload_n C (x := (some x0)) 0 dX4_metreAt_13 rfl rfl ?_
      refine G_get C (CC := RX4) (Tf := TX4) (N := 12) (k := 5) (i := 4) (v := va_rf (gP S 504 x0)) hk1 (by decide) rfl (fin fwX4) (by decide) (im tw_2_100) rfl rfl dX4_metreAt_14 ?_
      refine G_iload_n C (x := x1) 1 dX4_metreAt_17 rfl rfl ?_
      refine G_rf1 ha3 ?_
      obtain ⟨hi5, h⟩ := h
      refine G_aald C hk4 (by decide) rfl hi5 dX4_metreAt_18 ?_
      refine G_goto C (tgt := 23) dX4_metreAt_19 (by decide) ?_
      refine G_lv C (lv' := []) [] rfl ?_
      exact J23 _ _ h
set_option maxHeartbeats 4000000 in
set_option maxRecDepth 100000 in
theorem c_X4_hasOpenMetre (l : Launch) (D : va_G) (cy : Nat → Nat) (x0 : Nat) (S : PT) (post : Int32 → PT → Prop) (h : w_X4_hasOpenMetre x0 S post) : Mi l yX4_hasOpenMetre (Wm yX4_hasOpenMetre prog_6_method_3_code 3 (Option.some Jvm.ClassFile.FieldType.boolean)) 0 0 D cy [va_rf (some x0)] S 0 0 (fun r S => bo r ∧ post r S) := by
  refine Mi_of (own := "Trenchboard$Street") (by decide) rfl (by first | decide | simp [lg_sl, va_cat, vi_cat, vl_cat]) (fun p e s m below meth c A C hZ hr hin9 => ?_)
  have J2 : ∀ (n : Nat) (S : PT) (v1 : Int32), w_X4_hasOpenMetre_l2 x0 post n S v1 → G p l e { frames := 0, cells := 0, slots := 0, locals := 0 } s m [va_rf (some x0)].toArray below meth c D cy A s.heap 3 (QMi below D cy A [va_rf (some x0)] s 0 0 (fun r S => bo r ∧ post r S)) S 0 0 2 [(0, va_rf (some x0)), (1, Value.int v1)] [] := by
    intro n2
    induction n2 with
    | zero => intro S v1 h; rw [w_X4_hasOpenMetre_l2] at h; exact False.elim h
    | succ n2 K2 =>
      have J32 : ∀ (S : PT) (v1 : Int32), w_X4_hasOpenMetre_b32 x0 post (w_X4_hasOpenMetre_l2 x0 post n2) S v1 → G p l e { frames := 0, cells := 0, slots := 0, locals := 0 } s m [va_rf (some x0)].toArray below meth c D cy A s.heap 3 (QMi below D cy A [va_rf (some x0)] s 0 0 (fun r S => bo r ∧ post r S)) S 0 0 32 [(0, va_rf (some x0)), (1, Value.int v1)] [] := by
        intro S v1 h
        unfold w_X4_hasOpenMetre_b32 at h
        refine G_iinc C (v := (v1 + 1)) (lv' := [(1, Value.int (v1 + 1)), (0, va_rf (some x0))]) 1 dX4_hasOpenMetre_32 rfl rfl (by decide) (by first | rfl | simp [va_cat, vi_cat, vl_cat]) ?_
        refine G_goto C (tgt := 2) dX4_hasOpenMetre_35 (by decide) ?_
        refine G_lv C (lv' := [(0, va_rf (some x0)), (1, Value.int (v1 + 1))]) [1, 0] rfl ?_
        exact K2 _ _ h
      intro S v1 h
      rw [w_X4_hasOpenMetre_l2] at h
      refine G_iload_n C (x := v1) 1 dX4_hasOpenMetre_2 rfl rfl ?_
      refine G_aload_n C (x := (some x0)) 0 dX4_hasOpenMetre_3 rfl rfl ?_
      obtain ⟨hk1, h⟩ := h
      refine G_get C (CC := RX4) (Tf := TX4) (N := 12) (k := 5) (i := 4) (v := va_rf (gP S 504 x0)) hk1 (by decide) rfl (fin fwX4) (by decide) (im tw_2_100) rfl rfl dX4_hasOpenMetre_4 ?_
      obtain ⟨a2, ha3, h⟩ := h
      refine G_rf ha3 ?_
      obtain ⟨hk4, h⟩ := h
      refine G_alen C hk4 (by decide) rfl dX4_hasOpenMetre_7 ?_
      refine G_icmp_ge C (tgt := 38) dX4_hasOpenMetre_8 (by decide) (fun hc => ?_) (fun hc => ?_)
      · have h := h.1 hc
        refine G_iconst C (v := 0) dX4_hasOpenMetre_38 (by decide) ?_
        exact G_zret C (mc := 0) (ms := 0) (post := (fun r S => bo r ∧ post r S)) (bo_nar bo_0) hr (Nat.le_of_ble_eq_true rfl) (Nat.le_of_ble_eq_true rfl) dX4_hasOpenMetre_39 ⟨bo_0, h⟩
      · have h := h.2 hc
        refine G_aload_n C (x := (some x0)) 0 dX4_hasOpenMetre_11 rfl rfl ?_
        refine G_get C (CC := RX4) (Tf := TX4) (N := 12) (k := 5) (i := 4) (v := va_rf (gP S 504 x0)) hk1 (by decide) rfl (fin fwX4) (by decide) (im tw_2_100) rfl rfl dX4_hasOpenMetre_12 ?_
        refine G_iload_n C (x := v1) 1 dX4_hasOpenMetre_15 rfl rfl ?_
        refine G_rf1 ha3 ?_
        obtain ⟨hi5, h⟩ := h
        refine G_aald C hk4 (by decide) rfl hi5 dX4_hasOpenMetre_16 ?_
        refine G_astore_n C (i := 2) (lv' := [(2, va_rf (gR S a2 ((v1).toNatClampNeg))), (0, va_rf (some x0)), (1, Value.int v1)]) dX4_hasOpenMetre_17 rfl (by decide) (by first | rfl | simp [va_cat, vi_cat, vl_cat]) ?_
        refine G_aload_n C (x := (gR S a2 ((v1).toNatClampNeg))) 0 dX4_hasOpenMetre_18 rfl rfl ?_
        refine G_ifnull C (tgt := 32) dX4_hasOpenMetre_19 (by decide) (fun hc => ?_) (fun a6 ha7 => ?_)
        · have h := h.1 hc
          refine G_lv C (lv' := [(0, va_rf (some x0)), (1, Value.int v1)]) [1, 2] rfl ?_
          exact J32 _ _ h
        · have h := h.2 a6 ha7
          refine G_aload_n C (x := (gR S a2 ((v1).toNatClampNeg))) 0 dX4_hasOpenMetre_22 rfl rfl ?_
          refine G_rf ha7 ?_
          obtain ⟨hk8, h⟩ := h
          refine G_get C (CC := RX2) (Tf := TX2) (N := 4) (k := 3) (i := 1) (v := Value.int (gI S 301 a6)) hk8 (by decide) rfl (fin fwX2) (by decide) (im tw_2_81) rfl rfl dX4_hasOpenMetre_23 ?_
          refine G_iconst C (v := (-1)) dX4_hasOpenMetre_26 (by decide) ?_
          refine G_icmp_eq C (tgt := 32) dX4_hasOpenMetre_27 (by decide) (fun hc => ?_) (fun hc => ?_)
          · have h := h.1 hc
            refine G_lv C (lv' := [(0, va_rf (some x0)), (1, Value.int v1)]) [1, 2] rfl ?_
            exact J32 _ _ h
          · have h := h.2 hc
            refine G_iconst C (v := 1) dX4_hasOpenMetre_30 (by decide) ?_
            exact G_zret C (mc := 0) (ms := 0) (post := (fun r S => bo r ∧ post r S)) (bo_nar bo_1) hr (Nat.le_of_ble_eq_true rfl) (Nat.le_of_ble_eq_true rfl) dX4_hasOpenMetre_31 ⟨bo_1, h⟩
  refine G_lv C (lv' := [(0, va_rf (some x0))]) [0] (by first | rfl | simp [lv_pick, lv_args, va_cat, vi_cat, vl_cat]) ?_
  unfold w_X4_hasOpenMetre at h
  refine G_iconst C (v := 0) dX4_hasOpenMetre_0 (by decide) ?_
  refine G_istore_n C (i := 1) (lv' := [(1, Value.int 0), (0, va_rf (some x0))]) dX4_hasOpenMetre_1 rfl (by decide) (by first | rfl | simp [va_cat, vi_cat, vl_cat]) ?_
  refine G_lv C (lv' := [(0, va_rf (some x0)), (1, Value.int 0)]) [1, 0] rfl ?_
  obtain ⟨n9, h⟩ := h
  exact J2 n9 _ _ h
set_option maxHeartbeats 4000000 in
set_option maxRecDepth 100000 in
theorem c_X8_overlap (l : Launch) (D : va_G) (cy : Nat → Nat) (x0 : Int32) (x1 : Int32) (x2 : Int32) (x3 : Int32) (S : PT) (post : Int32 → PT → Prop) (h : w_X8_overlap x0 x1 x2 x3 S post) : Mi l yX8_overlap (Wm yX8_overlap prog_1_method_44_code 4 (Option.some Jvm.ClassFile.FieldType.boolean)) 0 0 D cy [Value.int x0, Value.int x1, Value.int x2, Value.int x3] S 0 0 (fun r S => bo r ∧ post r S) := by
  refine Mi_of (own := "Trenchboard") (by decide) rfl (by first | decide | simp [lg_sl, va_cat, vi_cat, vl_cat]) (fun p e s m below meth c A C hZ hr hin9 => ?_)
  have J15 : ∀ (S : PT) (s0 : Int32), w_X8_overlap_b15 x0 x1 x2 x3 post S s0 → G p l e { frames := 0, cells := 0, slots := 0, locals := 0 } s m [Value.int x0, Value.int x1, Value.int x2, Value.int x3].toArray below meth c D cy A s.heap 4 (QMi below D cy A [Value.int x0, Value.int x1, Value.int x2, Value.int x3] s 0 0 (fun r S => bo r ∧ post r S)) S 0 0 15 [] [Value.int s0] := by
    intro S s0 h
    unfold w_X8_overlap_b15 at h
    obtain ⟨hb1, h⟩ := h
    exact G_zret C (mc := 0) (ms := 0) (post := (fun r S => bo r ∧ post r S)) (bo_nar hb1) hr (Nat.le_of_ble_eq_true rfl) (Nat.le_of_ble_eq_true rfl) dX8_overlap_15 ⟨hb1, h⟩
  have J14 : ∀ (S : PT), w_X8_overlap_b14 x0 x1 x2 x3 post S → G p l e { frames := 0, cells := 0, slots := 0, locals := 0 } s m [Value.int x0, Value.int x1, Value.int x2, Value.int x3].toArray below meth c D cy A s.heap 4 (QMi below D cy A [Value.int x0, Value.int x1, Value.int x2, Value.int x3] s 0 0 (fun r S => bo r ∧ post r S)) S 0 0 14 [] [] := by
    intro S h
    unfold w_X8_overlap_b14 at h
    refine G_iconst C (v := 0) dX8_overlap_14 (by decide) ?_
    refine G_lv C (lv' := []) [] rfl ?_
    exact J15 _ _ h
  refine G_lv C (lv' := [(0, Value.int x0), (1, Value.int x1), (2, Value.int x2), (3, Value.int x3)]) [0, 1, 2, 3] (by first | rfl | simp [lv_pick, lv_args, va_cat, vi_cat, vl_cat]) ?_
  unfold w_X8_overlap at h
  refine G_iload_n C (x := x0) 0 dX8_overlap_0 rfl rfl ?_
  refine G_iload_n C (x := x3) 3 dX8_overlap_1 rfl rfl ?_
  refine G_icmp_gt C (tgt := 14) dX8_overlap_2 (by decide) (fun hc => ?_) (fun hc => ?_)
  · have h := h.1 hc
    refine G_lv C (lv' := []) [] rfl ?_
    exact J14 _ h
  · have h := h.2 hc
    refine G_iload_n C (x := x2) 2 dX8_overlap_5 rfl rfl ?_
    refine G_iload_n C (x := x1) 1 dX8_overlap_6 rfl rfl ?_
    refine G_icmp_gt C (tgt := 14) dX8_overlap_7 (by decide) (fun hc => ?_) (fun hc => ?_)
    · have h := h.1 hc
      refine G_lv C (lv' := []) [] rfl ?_
      exact J14 _ h
    · have h := h.2 hc
      refine G_iconst C (v := 1) dX8_overlap_10 (by decide) ?_
      refine G_goto C (tgt := 15) dX8_overlap_11 (by decide) ?_
      refine G_lv C (lv' := []) [] rfl ?_
      exact J15 _ _ h
set_option maxHeartbeats 4000000 in
set_option maxRecDepth 100000 in
theorem c_X4_hasEmbargoIn (l : Launch) (D : va_G) (cy : Nat → Nat) (x0 : Nat) (x1 : Int32) (x2 : Int32) (S : PT) (post : Int32 → PT → Prop) (h : w_X4_hasEmbargoIn x0 x1 x2 S post) : Mi l yX4_hasEmbargoIn (Wm yX4_hasEmbargoIn prog_6_method_4_code 3 (Option.some Jvm.ClassFile.FieldType.boolean)) 1 23 D cy [va_rf (some x0), Value.int x1, Value.int x2] S 0 0 (fun r S => bo r ∧ post r S) := by
  refine Mi_of (own := "Trenchboard$Street") (by decide) rfl (by first | decide | simp [lg_sl, va_cat, vi_cat, vl_cat]) (fun p e s m below meth c A C hZ hr hin9 => ?_)
  have J29 : ∀ (S : PT) (s0 : Int32), w_X4_hasEmbargoIn_b29 x0 x1 x2 post S s0 → G p l e { frames := 1, cells := 0, slots := 0, locals := 23 } s m [va_rf (some x0), Value.int x1, Value.int x2].toArray below meth c D cy A s.heap 3 (QMi below D cy A [va_rf (some x0), Value.int x1, Value.int x2] s 0 0 (fun r S => bo r ∧ post r S)) S 0 0 29 [] [Value.int s0] := by
    intro S s0 h
    unfold w_X4_hasEmbargoIn_b29 at h
    obtain ⟨hb1, h⟩ := h
    exact G_zret C (mc := 0) (ms := 0) (post := (fun r S => bo r ∧ post r S)) (bo_nar hb1) hr (Nat.le_of_ble_eq_true rfl) (Nat.le_of_ble_eq_true rfl) dX4_hasEmbargoIn_29 ⟨hb1, h⟩
  have J28 : ∀ (S : PT), w_X4_hasEmbargoIn_b28 x0 x1 x2 post S → G p l e { frames := 1, cells := 0, slots := 0, locals := 23 } s m [va_rf (some x0), Value.int x1, Value.int x2].toArray below meth c D cy A s.heap 3 (QMi below D cy A [va_rf (some x0), Value.int x1, Value.int x2] s 0 0 (fun r S => bo r ∧ post r S)) S 0 0 28 [] [] := by
    intro S h
    unfold w_X4_hasEmbargoIn_b28 at h
    refine G_iconst C (v := 0) dX4_hasEmbargoIn_28 (by decide) ?_
    refine G_lv C (lv' := []) [] rfl ?_
    exact J29 _ _ h
  refine G_lv C (lv' := [(0, va_rf (some x0)), (1, Value.int x1), (2, Value.int x2)]) [0, 1, 2] (by first | rfl | simp [lv_pick, lv_args, va_cat, vi_cat, vl_cat]) ?_
  unfold w_X4_hasEmbargoIn at h
  refine G_aload_n C (x := (some x0)) 0 dX4_hasEmbargoIn_0 rfl rfl ?_
  obtain ⟨hk2, h⟩ := h
  refine G_get C (CC := RX4) (Tf := TX4) (N := 12) (k := 5) (i := 5) (v := Value.int (gI S 505 x0)) hk2 (by decide) rfl (fin fwX4) (by decide) (im tw_2_102) rfl rfl dX4_hasEmbargoIn_1 ?_
  refine G_iconst C (v := (-1)) dX4_hasEmbargoIn_4 (by decide) ?_
  refine G_icmp_eq C (tgt := 28) dX4_hasEmbargoIn_5 (by decide) (fun hc => ?_) (fun hc => ?_)
  · have h := h.1 hc
    refine G_lv C (lv' := []) [] rfl ?_
    exact J28 _ h
  · have h := h.2 hc
    refine G_iload_n C (x := x1) 1 dX4_hasEmbargoIn_8 rfl rfl ?_
    refine G_iload_n C (x := x2) 2 dX4_hasEmbargoIn_9 rfl rfl ?_
    refine G_aload_n C (x := (some x0)) 0 dX4_hasEmbargoIn_10 rfl rfl ?_
    refine G_get C (CC := RX4) (Tf := TX4) (N := 12) (k := 5) (i := 5) (v := Value.int (gI S 505 x0)) hk2 (by decide) rfl (fin fwX4) (by decide) (im tw_2_102) rfl rfl dX4_hasEmbargoIn_11 ?_
    refine G_aload_n C (x := (some x0)) 0 dX4_hasEmbargoIn_14 rfl rfl ?_
    refine G_get C (CC := RX4) (Tf := TX4) (N := 12) (k := 5) (i := 6) (v := Value.int (gI S 506 x0)) hk2 (by decide) rfl (fin fwX4) (by decide) (im tw_2_104) rfl rfl dX4_hasEmbargoIn_15 ?_
    refine G_callSNi C hZ (host := "Trenchboard") (by decide +kernel) tw_2_18 tw_1_1 tw_2_19 hy_X8_overlap ⟨Nat.le_of_ble_eq_true rfl, Nat.le_of_ble_eq_true rfl⟩ (As := [Value.int x1, Value.int x2, Value.int (gI S 505 x0), Value.int (gI S 506 x0)]) (rest := []) (c_X8_overlap l D cy x1 x2 (gI S 505 x0) (gI S 506 x0) S _ h) rfl rfl (by simp [va_cat, vi_cat, vl_cat]) dX4_hasEmbargoIn_18 ⟨Nat.le_of_ble_eq_true rfl, Nat.le_of_ble_eq_true rfl⟩ (fun r4 S3 h => ?_)
    obtain ⟨hb5, h⟩ := h
    refine G_if_eq C (tgt := 28) dX4_hasEmbargoIn_21 (by decide) (fun hc => ?_) (fun hc => ?_)
    · have h := h.1 hc
      refine G_lv C (lv' := []) [] rfl ?_
      exact J28 _ h
    · have h := h.2 hc
      refine G_iconst C (v := 1) dX4_hasEmbargoIn_24 (by decide) ?_
      refine G_goto C (tgt := 29) dX4_hasEmbargoIn_25 (by decide) ?_
      refine G_lv C (lv' := []) [] rfl ?_
      exact J29 _ _ h
set_option maxHeartbeats 4000000 in
set_option maxRecDepth 100000 in
theorem c_X4_isNewIn (l : Launch) (D : va_G) (cy : Nat → Nat) (x0 : Nat) (x1 : Int32) (x2 : Int32) (S : PT) (post : Int32 → PT → Prop) (h : w_X4_isNewIn x0 x1 x2 S post) : Mi l yX4_isNewIn (Wm yX4_isNewIn prog_6_method_5_code 3 (Option.some Jvm.ClassFile.FieldType.boolean)) 1 23 D cy [va_rf (some x0), Value.int x1, Value.int x2] S 0 0 (fun r S => bo r ∧ post r S) := by
  refine Mi_of (own := "Trenchboard$Street") (by decide) rfl (by first | decide | simp [lg_sl, va_cat, vi_cat, vl_cat]) (fun p e s m below meth c A C hZ hr hin9 => ?_)
  have J32 : ∀ (S : PT) (s0 : Int32), w_X4_isNewIn_b32 x0 x1 x2 post S s0 → G p l e { frames := 1, cells := 0, slots := 0, locals := 23 } s m [va_rf (some x0), Value.int x1, Value.int x2].toArray below meth c D cy A s.heap 3 (QMi below D cy A [va_rf (some x0), Value.int x1, Value.int x2] s 0 0 (fun r S => bo r ∧ post r S)) S 0 0 32 [] [Value.int s0] := by
    intro S s0 h
    unfold w_X4_isNewIn_b32 at h
    obtain ⟨hb1, h⟩ := h
    exact G_zret C (mc := 0) (ms := 0) (post := (fun r S => bo r ∧ post r S)) (bo_nar hb1) hr (Nat.le_of_ble_eq_true rfl) (Nat.le_of_ble_eq_true rfl) dX4_isNewIn_32 ⟨hb1, h⟩
  have J31 : ∀ (S : PT), w_X4_isNewIn_b31 x0 x1 x2 post S → G p l e { frames := 1, cells := 0, slots := 0, locals := 23 } s m [va_rf (some x0), Value.int x1, Value.int x2].toArray below meth c D cy A s.heap 3 (QMi below D cy A [va_rf (some x0), Value.int x1, Value.int x2] s 0 0 (fun r S => bo r ∧ post r S)) S 0 0 31 [] [] := by
    intro S h
    unfold w_X4_isNewIn_b31 at h
    refine G_iconst C (v := 0) dX4_isNewIn_31 (by decide) ?_
    refine G_lv C (lv' := []) [] rfl ?_
    exact J32 _ _ h
  refine G_lv C (lv' := [(0, va_rf (some x0)), (1, Value.int x1), (2, Value.int x2)]) [0, 1, 2] (by first | rfl | simp [lv_pick, lv_args, va_cat, vi_cat, vl_cat]) ?_
  unfold w_X4_isNewIn at h
  refine G_aload_n C (x := (some x0)) 0 dX4_isNewIn_0 rfl rfl ?_
  obtain ⟨hk2, h⟩ := h
  refine G_get C (CC := RX4) (Tf := TX4) (N := 12) (k := 5) (i := 7) (v := Value.int (gI S 507 x0)) hk2 (by decide) rfl (fin fwX4) (by decide) (im tw_2_106) rfl rfl dX4_isNewIn_1 ?_
  refine G_iconst C (v := (-1)) dX4_isNewIn_4 (by decide) ?_
  refine G_icmp_eq C (tgt := 31) dX4_isNewIn_5 (by decide) (fun hc => ?_) (fun hc => ?_)
  · have h := h.1 hc
    refine G_lv C (lv' := []) [] rfl ?_
    exact J31 _ h
  · have h := h.2 hc
    refine G_iload_n C (x := x1) 1 dX4_isNewIn_8 rfl rfl ?_
    refine G_iload_n C (x := x2) 2 dX4_isNewIn_9 rfl rfl ?_
    refine G_aload_n C (x := (some x0)) 0 dX4_isNewIn_10 rfl rfl ?_
    refine G_get C (CC := RX4) (Tf := TX4) (N := 12) (k := 5) (i := 7) (v := Value.int (gI S 507 x0)) hk2 (by decide) rfl (fin fwX4) (by decide) (im tw_2_106) rfl rfl dX4_isNewIn_11 ?_
    refine G_aload_n C (x := (some x0)) 0 dX4_isNewIn_14 rfl rfl ?_
    refine G_get C (CC := RX4) (Tf := TX4) (N := 12) (k := 5) (i := 7) (v := Value.int (gI S 507 x0)) hk2 (by decide) rfl (fin fwX4) (by decide) (im tw_2_106) rfl rfl dX4_isNewIn_15 ?_
    refine G_bipush C (v := 99) dX4_isNewIn_18 (by decide) ?_
    refine G_iadd C dX4_isNewIn_20 ?_
    refine G_callSNi C hZ (host := "Trenchboard") (by decide +kernel) tw_2_18 tw_1_1 tw_2_19 hy_X8_overlap ⟨Nat.le_of_ble_eq_true rfl, Nat.le_of_ble_eq_true rfl⟩ (As := [Value.int x1, Value.int x2, Value.int (gI S 507 x0), Value.int ((gI S 507 x0) + 99)]) (rest := []) (c_X8_overlap l D cy x1 x2 (gI S 507 x0) ((gI S 507 x0) + 99) S _ h) rfl rfl (by simp [va_cat, vi_cat, vl_cat]) dX4_isNewIn_21 ⟨Nat.le_of_ble_eq_true rfl, Nat.le_of_ble_eq_true rfl⟩ (fun r4 S3 h => ?_)
    obtain ⟨hb5, h⟩ := h
    refine G_if_eq C (tgt := 31) dX4_isNewIn_24 (by decide) (fun hc => ?_) (fun hc => ?_)
    · have h := h.1 hc
      refine G_lv C (lv' := []) [] rfl ?_
      exact J31 _ h
    · have h := h.2 hc
      refine G_iconst C (v := 1) dX4_isNewIn_27 (by decide) ?_
      refine G_goto C (tgt := 32) dX4_isNewIn_28 (by decide) ?_
      refine G_lv C (lv' := []) [] rfl ?_
      exact J32 _ _ h
set_option maxHeartbeats 4000000 in
set_option maxRecDepth 100000 in
theorem c_X4_weight (l : Launch) (D : va_G) (cy : Nat → Nat) (x0 : Nat) (S : PT) (post : Int32 → PT → Prop) (h : w_X4_weight x0 S post) : Mi l yX4_weight (Wm yX4_weight prog_6_method_6_code 1 (Option.some Jvm.ClassFile.FieldType.int)) 0 0 D cy [va_rf (some x0)] S 0 0 post := by
  refine Mi_of (own := "Trenchboard$Street") (by decide) rfl (by first | decide | simp [lg_sl, va_cat, vi_cat, vl_cat]) (fun p e s m below meth c A C hZ hr hin9 => ?_)
  refine G_lv C (lv' := [(0, va_rf (some x0))]) [0] (by first | rfl | simp [lv_pick, lv_args, va_cat, vi_cat, vl_cat]) ?_
  unfold w_X4_weight at h
  refine G_iconst C (v := 4) dX4_weight_0 (by decide) ?_
  refine G_aload_n C (x := (some x0)) 0 dX4_weight_1 rfl rfl ?_
  obtain ⟨hk1, h⟩ := h
  refine G_get C (CC := RX4) (Tf := TX4) (N := 12) (k := 5) (i := 1) (v := Value.int (gI S 501 x0)) hk1 (by decide) rfl (fin fwX4) (by decide) (im tw_2_96) rfl rfl dX4_weight_2 ?_
  refine G_isub C dX4_weight_5 ?_
  exact G_iret C (mc := 0) (ms := 0) (post := post) hr (Nat.le_of_ble_eq_true rfl) (Nat.le_of_ble_eq_true rfl) dX4_weight_6 h
set_option maxHeartbeats 4000000 in
set_option maxRecDepth 100000 in
theorem c_X4_noticeOf (l : Launch) (D : va_G) (cy : Nat → Nat) (x0 : Nat) (x1 : Int32) (S : PT) (post : Int32 → PT → Prop) (h : w_X4_noticeOf x0 x1 S post) : Mi l yX4_noticeOf (Wm yX4_noticeOf prog_6_method_7_code 3 (Option.some Jvm.ClassFile.FieldType.int)) 0 0 D cy [va_rf (some x0), Value.int x1] S 0 0 post := by
  refine Mi_of (own := "Trenchboard$Street") (by decide) rfl (by first | decide | simp [lg_sl, va_cat, vi_cat, vl_cat]) (fun p e s m below meth c A C hZ hr hin9 => ?_)
  have J45 : ∀ (S : PT) (s0 : Int32), w_X4_noticeOf_b45 x0 x1 post S s0 → G p l e { frames := 0, cells := 0, slots := 0, locals := 0 } s m [va_rf (some x0), Value.int x1].toArray below meth c D cy A s.heap 3 (QMi below D cy A [va_rf (some x0), Value.int x1] s 0 0 post) S 0 0 45 [] [Value.int s0] := by
    intro S s0 h
    unfold w_X4_noticeOf_b45 at h
    exact G_iret C (mc := 0) (ms := 0) (post := post) hr (Nat.le_of_ble_eq_true rfl) (Nat.le_of_ble_eq_true rfl) dX4_noticeOf_45 h
  have J29 : ∀ (S : PT) (s0 : Int32), w_X4_noticeOf_b29 x0 x1 post S s0 → G p l e { frames := 0, cells := 0, slots := 0, locals := 0 } s m [va_rf (some x0), Value.int x1].toArray below meth c D cy A s.heap 3 (QMi below D cy A [va_rf (some x0), Value.int x1] s 0 0 post) S 0 0 29 [(0, va_rf (some x0))] [Value.int s0] := by
    intro S s0 h
    unfold w_X4_noticeOf_b29 at h
    refine G_istore_n C (i := 2) (lv' := [(2, Value.int s0), (0, va_rf (some x0))]) dX4_noticeOf_29 rfl (by decide) (by first | rfl | simp [va_cat, vi_cat, vl_cat]) ?_
    refine G_aload_n C (x := (some x0)) 1 dX4_noticeOf_30 rfl rfl ?_
    obtain ⟨hk1, h⟩ := h
    refine G_get C (CC := RX4) (Tf := TX4) (N := 12) (k := 5) (i := 1) (v := Value.int (gI S 501 x0)) hk1 (by decide) rfl (fin fwX4) (by decide) (im tw_2_96) rfl rfl dX4_noticeOf_31 ?_
    refine G_iconst C (v := 1) dX4_noticeOf_34 (by decide) ?_
    refine G_icmp_gt C (tgt := 44) dX4_noticeOf_35 (by decide) (fun hc => ?_) (fun hc => ?_)
    · have h := h.1 hc
      refine G_iload_n C (x := s0) 0 dX4_noticeOf_44 rfl rfl ?_
      refine G_lv C (lv' := []) [] rfl ?_
      exact J45 _ _ h
    · have h := h.2 hc
      refine G_iconst C (v := 2) dX4_noticeOf_38 (by decide) ?_
      refine G_iload_n C (x := s0) 0 dX4_noticeOf_39 rfl rfl ?_
      refine G_imul C dX4_noticeOf_40 ?_
      refine G_goto C (tgt := 45) dX4_noticeOf_41 (by decide) ?_
      refine G_lv C (lv' := []) [] rfl ?_
      exact J45 _ _ h
  refine G_lv C (lv' := [(0, va_rf (some x0)), (1, Value.int x1)]) [0, 1] (by first | rfl | simp [lv_pick, lv_args, va_cat, vi_cat, vl_cat]) ?_
  unfold w_X4_noticeOf at h
  refine G_iload_n C (x := x1) 1 dX4_noticeOf_0 rfl rfl ?_
  refine G_if_ne C (tgt := 9) dX4_noticeOf_1 (by decide) (fun hc => ?_) (fun hc => ?_)
  · have h := h.1 hc
    refine G_iload_n C (x := x1) 1 dX4_noticeOf_9 rfl rfl ?_
    refine G_iconst C (v := 1) dX4_noticeOf_10 (by decide) ?_
    refine G_icmp_ne C (tgt := 19) dX4_noticeOf_11 (by decide) (fun hc => ?_) (fun hc => ?_)
    · have h := h.1 hc
      refine G_iload_n C (x := x1) 1 dX4_noticeOf_19 rfl rfl ?_
      refine G_iconst C (v := 2) dX4_noticeOf_20 (by decide) ?_
      refine G_icmp_ne C (tgt := 28) dX4_noticeOf_21 (by decide) (fun hc => ?_) (fun hc => ?_)
      · have h := h.1 hc
        refine G_iconst C (v := 0) dX4_noticeOf_28 (by decide) ?_
        refine G_lv C (lv' := [(0, va_rf (some x0))]) [0] rfl ?_
        exact J29 _ _ h
      · have h := h.2 hc
        refine G_iconst C (v := 3) dX4_noticeOf_24 (by decide) ?_
        refine G_goto C (tgt := 29) dX4_noticeOf_25 (by decide) ?_
        refine G_lv C (lv' := [(0, va_rf (some x0))]) [0] rfl ?_
        exact J29 _ _ h
    · have h := h.2 hc
      refine G_bipush C (v := 8) dX4_noticeOf_14 (by decide) ?_
      refine G_goto C (tgt := 29) dX4_noticeOf_16 (by decide) ?_
      refine G_lv C (lv' := [(0, va_rf (some x0))]) [0] rfl ?_
      exact J29 _ _ h
  · have h := h.2 hc
    refine G_bipush C (v := 20) dX4_noticeOf_4 (by decide) ?_
    refine G_goto C (tgt := 29) dX4_noticeOf_6 (by decide) ?_
    refine G_lv C (lv' := [(0, va_rf (some x0))]) [0] rfl ?_
    exact J29 _ _ h
set_option maxHeartbeats 4000000 in
set_option maxRecDepth 100000 in
theorem c_X4_sendFlow (l : Launch) (D : va_G) (cy : Nat → Nat) (x0 : Nat) (S : PT) (post : PT → Prop) (h : w_X4_sendFlow x0 S post) : Mv l yX4_sendFlow (Wm yX4_sendFlow prog_6_method_8_code 2 (Option.none : Option Jvm.ClassFile.FieldType)) 0 0 D cy [va_rf (some x0)] S 0 0 post := by
  refine Mv_of (own := "Trenchboard$Street") (by decide) rfl (by first | decide | simp [lg_sl, va_cat, vi_cat, vl_cat]) (fun p e s m below meth c A C hZ hr hin9 => ?_)
  have J36 : ∀ (S : PT) (v1 : Int32), w_X4_sendFlow_b36 x0 post S v1 → G p l e { frames := 0, cells := 0, slots := 0, locals := 0 } s m [va_rf (some x0)].toArray below meth c D cy A s.heap 2 (QMv below D cy A [va_rf (some x0)] s 0 0 post) S 0 0 36 [(0, va_rf (some x0)), (1, Value.int v1)] [] := by
    intro S v1 h
    unfold w_X4_sendFlow_b36 at h
    refine G_aload_n C (x := (some x0)) 0 dX4_sendFlow_36 rfl rfl ?_
    refine G_dup C dX4_sendFlow_37 (va_cat _) ?_
    obtain ⟨hk1, h⟩ := h
    refine G_get C (CC := RX4) (Tf := TX4) (N := 12) (k := 5) (i := 10) (v := Value.int (gI S 510 x0)) hk1 (by decide) rfl (fin fwX4) (by decide) (im tw_2_112) rfl rfl dX4_sendFlow_38 ?_
    refine G_aload_n C (x := (some x0)) 0 dX4_sendFlow_41 rfl rfl ?_
    refine G_get C (CC := RX4) (Tf := TX4) (N := 12) (k := 5) (i := 2) (v := Value.int (gI S 502 x0)) hk1 (by decide) rfl (fin fwX4) (by decide) (im tw_2_97) rfl rfl dX4_sendFlow_42 ?_
    refine G_iload_n C (x := v1) 1 dX4_sendFlow_45 rfl rfl ?_
    refine G_isub C dX4_sendFlow_46 ?_
    refine G_iadd C dX4_sendFlow_47 ?_
    refine G_putI C (CC := RX4) (Tf := TX4) (N := 12) (k := 5) (i := 10) (f := 510) (x := ((gI S 510 x0) + ((gI S 502 x0) - v1))) (ty0 := tyX4) (ty := .int) hk1 (by decide) rfl (fin fwX4) tyX4_ok nmX4 (by decide) (im tw_2_112) rfl rfl rfl rfl rfl rfl rfl dX4_sendFlow_48 ?_
    generalize e3 : sI S 510 x0 ((gI S 510 x0) + ((gI S 502 x0) - v1)) = S2
    have h := h S2 e3.symm
    exact G_vret C (mc := 0) (ms := 0) (post := post) hr (Nat.le_of_ble_eq_true rfl) (Nat.le_of_ble_eq_true rfl) dX4_sendFlow_51 h
  refine G_lv C (lv' := [(0, va_rf (some x0))]) [0] (by first | rfl | simp [lv_pick, lv_args, va_cat, vi_cat, vl_cat]) ?_
  unfold w_X4_sendFlow at h
  refine G_iconst C (v := 0) dX4_sendFlow_0 (by decide) ?_
  refine G_istore_n C (i := 1) (lv' := [(1, Value.int 0), (0, va_rf (some x0))]) dX4_sendFlow_1 rfl (by decide) (by first | rfl | simp [va_cat, vi_cat, vl_cat]) ?_
  refine G_aload_n C (x := (some x0)) 1 dX4_sendFlow_2 rfl rfl ?_
  obtain ⟨hk4, h⟩ := h
  refine G_get C (CC := RX4) (Tf := TX4) (N := 12) (k := 5) (i := 9) (v := Value.int (gI S 509 x0)) hk4 (by decide) rfl (fin fwX4) (by decide) (im tw_2_110) rfl rfl dX4_sendFlow_3 ?_
  refine G_if_eq C (tgt := 36) dX4_sendFlow_6 (by decide) (fun hc => ?_) (fun hc => ?_)
  · have h := h.1 hc
    refine G_lv C (lv' := [(0, va_rf (some x0)), (1, Value.int 0)]) [1, 0] rfl ?_
    exact J36 _ _ h
  · have h := h.2 hc
    refine G_aload_n C (x := (some x0)) 1 dX4_sendFlow_9 rfl rfl ?_
    refine G_get C (CC := RX4) (Tf := TX4) (N := 12) (k := 5) (i := 3) (v := va_rf (gP S 503 x0)) hk4 (by decide) rfl (fin fwX4) (by decide) (im tw_2_98) rfl rfl dX4_sendFlow_10 ?_
    refine G_ifnull C (tgt := 36) dX4_sendFlow_13 (by decide) (fun hc => ?_) (fun a5 ha6 => ?_)
    · have h := h.1 hc
      refine G_lv C (lv' := [(0, va_rf (some x0)), (1, Value.int 0)]) [1, 0] rfl ?_
      exact J36 _ _ h
    · have h := h.2 a5 ha6
      refine G_aload_n C (x := (some x0)) 1 dX4_sendFlow_16 rfl rfl ?_
      refine G_get C (CC := RX4) (Tf := TX4) (N := 12) (k := 5) (i := 2) (v := Value.int (gI S 502 x0)) hk4 (by decide) rfl (fin fwX4) (by decide) (im tw_2_97) rfl rfl dX4_sendFlow_17 ?_
      refine G_iconst C (v := 2) dX4_sendFlow_20 (by decide) ?_
      refine G_idiv C dX4_sendFlow_21 (by decide) ?_
      refine G_istore_n C (i := 1) (lv' := [(1, Value.int ((gI S 502 x0) / 2)), (0, va_rf (some x0))]) dX4_sendFlow_22 rfl (by decide) (by first | rfl | simp [va_cat, vi_cat, vl_cat]) ?_
      refine G_aload_n C (x := (some x0)) 1 dX4_sendFlow_23 rfl rfl ?_
      refine G_get C (CC := RX4) (Tf := TX4) (N := 12) (k := 5) (i := 3) (v := va_rf (gP S 503 x0)) hk4 (by decide) rfl (fin fwX4) (by decide) (im tw_2_98) rfl rfl dX4_sendFlow_24 ?_
      refine G_dup C dX4_sendFlow_27 (va_cat _) ?_
      refine G_rf ha6 ?_
      obtain ⟨hk7, h⟩ := h
      refine G_get C (CC := RX4) (Tf := TX4) (N := 12) (k := 5) (i := 10) (v := Value.int (gI S 510 a5)) hk7 (by decide) rfl (fin fwX4) (by decide) (im tw_2_112) rfl rfl dX4_sendFlow_28 ?_
      refine G_iload_n C (x := ((gI S 502 x0) / 2)) 0 dX4_sendFlow_31 rfl rfl ?_
      refine G_iadd C dX4_sendFlow_32 ?_
      refine G_rf1 ha6 ?_
      refine G_putI C (CC := RX4) (Tf := TX4) (N := 12) (k := 5) (i := 10) (f := 510) (x := ((gI S 510 a5) + ((gI S 502 x0) / 2))) (ty0 := tyX4) (ty := .int) hk7 (by decide) rfl (fin fwX4) tyX4_ok nmX4 (by decide) (im tw_2_112) rfl rfl rfl rfl rfl rfl rfl dX4_sendFlow_33 ?_
      generalize e9 : sI S 510 a5 ((gI S 510 a5) + ((gI S 502 x0) / 2)) = S8
      have h := h S8 e9.symm
      refine G_lv C (lv' := [(0, va_rf (some x0)), (1, Value.int ((gI S 502 x0) / 2))]) [1, 0] rfl ?_
      exact J36 _ _ h
set_option maxHeartbeats 4000000 in
set_option maxRecDepth 100000 in
theorem c_X4_letThrough (l : Launch) (D : va_G) (cy : Nat → Nat) (x0 : Nat) (S : PT) (post : PT → Prop) (h : w_X4_letThrough x0 S post) : Mv l yX4_letThrough (Wm yX4_letThrough prog_6_method_9_code 2 (Option.none : Option Jvm.ClassFile.FieldType)) 1 21 D cy [va_rf (some x0)] S 0 0 post := by
  refine Mv_of (own := "Trenchboard$Street") (by decide) rfl (by first | decide | simp [lg_sl, va_cat, vi_cat, vl_cat]) (fun p e s m below meth c A C hZ hr hin9 => ?_)
  have J24 : ∀ (S : PT) (v1 : Int32), w_X4_letThrough_b24 x0 post S v1 → G p l e { frames := 1, cells := 0, slots := 0, locals := 21 } s m [va_rf (some x0)].toArray below meth c D cy A s.heap 2 (QMv below D cy A [va_rf (some x0)] s 0 0 post) S 0 0 24 [(0, va_rf (some x0)), (1, Value.int v1)] [] := by
    intro S v1 h
    unfold w_X4_letThrough_b24 at h
    refine G_aload_n C (x := (some x0)) 0 dX4_letThrough_24 rfl rfl ?_
    refine G_aload_n C (x := (some x0)) 0 dX4_letThrough_25 rfl rfl ?_
    obtain ⟨hk1, h⟩ := h
    refine G_get C (CC := RX4) (Tf := TX4) (N := 12) (k := 5) (i := 11) (v := Value.int (gI S 511 x0)) hk1 (by decide) rfl (fin fwX4) (by decide) (im tw_2_113) rfl rfl dX4_letThrough_26 ?_
    refine G_aload_n C (x := (some x0)) 0 dX4_letThrough_29 rfl rfl ?_
    refine G_get C (CC := RX4) (Tf := TX4) (N := 12) (k := 5) (i := 10) (v := Value.int (gI S 510 x0)) hk1 (by decide) rfl (fin fwX4) (by decide) (im tw_2_112) rfl rfl dX4_letThrough_30 ?_
    refine G_iadd C dX4_letThrough_33 ?_
    refine G_iload_n C (x := v1) 1 dX4_letThrough_34 rfl rfl ?_
    refine G_isub C dX4_letThrough_35 ?_
    refine G_iconst C (v := 0) dX4_letThrough_36 (by decide) ?_
    refine G_mmax C (im tw_2_68) (im tw_2_69) (im tw_1_14) (im tw_2_70) (Nat.le_of_ble_eq_true rfl) (by simp [va_cat, vi_cat, vl_cat]) (by omega) (by omega) dX4_letThrough_37 ?_
    refine G_putI C (CC := RX4) (Tf := TX4) (N := 12) (k := 5) (i := 11) (f := 511) (x := (if (((gI S 511 x0) + (gI S 510 x0)) - v1) < 0 then 0 else (((gI S 511 x0) + (gI S 510 x0)) - v1))) (ty0 := tyX4) (ty := .int) hk1 (by decide) rfl (fin fwX4) tyX4_ok nmX4 (by decide) (im tw_2_113) rfl rfl rfl rfl rfl rfl rfl dX4_letThrough_40 ?_
    generalize e3 : sI S 511 x0 (if (((gI S 511 x0) + (gI S 510 x0)) - v1) < 0 then 0 else (((gI S 511 x0) + (gI S 510 x0)) - v1)) = S2
    have h := h S2 e3.symm
    refine G_aload_n C (x := (some x0)) 0 dX4_letThrough_43 rfl rfl ?_
    refine G_iconst C (v := 0) dX4_letThrough_44 (by decide) ?_
    refine G_putI C (CC := RX4) (Tf := TX4) (N := 12) (k := 5) (i := 10) (f := 510) (x := 0) (ty0 := tyX4) (ty := .int) (ksI e3.symm hk1) (by decide) rfl (fin fwX4) tyX4_ok nmX4 (by decide) (im tw_2_112) rfl rfl rfl rfl rfl rfl rfl dX4_letThrough_45 ?_
    generalize e5 : sI S2 510 x0 0 = S4
    have h := h S4 e5.symm
    exact G_vret C (mc := 0) (ms := 0) (post := post) hr (Nat.le_of_ble_eq_true rfl) (Nat.le_of_ble_eq_true rfl) dX4_letThrough_48 h
  refine G_lv C (lv' := [(0, va_rf (some x0))]) [0] (by first | rfl | simp [lv_pick, lv_args, va_cat, vi_cat, vl_cat]) ?_
  unfold w_X4_letThrough at h
  refine G_bipush C (v := 100) dX4_letThrough_0 (by decide) ?_
  refine G_bipush C (v := 40) dX4_letThrough_2 (by decide) ?_
  refine G_iconst C (v := 3) dX4_letThrough_4 (by decide) ?_
  refine G_aload_n C (x := (some x0)) 0 dX4_letThrough_5 rfl rfl ?_
  obtain ⟨hk6, h⟩ := h
  refine G_get C (CC := RX4) (Tf := TX4) (N := 12) (k := 5) (i := 1) (v := Value.int (gI S 501 x0)) hk6 (by decide) rfl (fin fwX4) (by decide) (im tw_2_96) rfl rfl dX4_letThrough_6 ?_
  refine G_isub C dX4_letThrough_9 ?_
  refine G_imul C dX4_letThrough_10 ?_
  refine G_iadd C dX4_letThrough_11 ?_
  refine G_istore_n C (i := 1) (lv' := [(1, Value.int (100 + (40 * (3 - (gI S 501 x0))))), (0, va_rf (some x0))]) dX4_letThrough_12 rfl (by decide) (by first | rfl | simp [va_cat, vi_cat, vl_cat]) ?_
  refine G_aload_n C (x := (some x0)) 1 dX4_letThrough_13 rfl rfl ?_
  refine G_get C (CC := RX4) (Tf := TX4) (N := 12) (k := 5) (i := 9) (v := Value.int (gI S 509 x0)) hk6 (by decide) rfl (fin fwX4) (by decide) (im tw_2_110) rfl rfl dX4_letThrough_14 ?_
  refine G_if_eq C (tgt := 24) dX4_letThrough_17 (by decide) (fun hc => ?_) (fun hc => ?_)
  · have h := h.1 hc
    refine G_lv C (lv' := [(0, va_rf (some x0)), (1, Value.int (100 + (40 * (3 - (gI S 501 x0)))))]) [1, 0] rfl ?_
    exact J24 _ _ h
  · have h := h.2 hc
    refine G_iload_n C (x := (100 + (40 * (3 - (gI S 501 x0))))) 0 dX4_letThrough_20 rfl rfl ?_
    refine G_iconst C (v := 2) dX4_letThrough_21 (by decide) ?_
    refine G_idiv C dX4_letThrough_22 (by decide) ?_
    refine G_istore_n C (i := 1) (lv' := [(1, Value.int ((100 + (40 * (3 - (gI S 501 x0)))) / 2)), (0, va_rf (some x0))]) dX4_letThrough_23 rfl (by decide) (by first | rfl | simp [va_cat, vi_cat, vl_cat]) ?_
    refine G_lv C (lv' := [(0, va_rf (some x0)), (1, Value.int ((100 + (40 * (3 - (gI S 501 x0)))) / 2))]) [1, 0] rfl ?_
    exact J24 _ _ h
set_option maxHeartbeats 4000000 in
set_option maxRecDepth 100000 in
theorem c_X5_init (l : Launch) (D : va_G) (cy : Nat → Nat) (x0 : Nat) (x1 : Option Nat) (x2 : Int32) (x3 : Option Nat) (x4 : Int32) (S : PT) (post : PT → Prop) (h : w_X5_init x0 x1 x2 x3 x4 S post) : Mv l yX5_init (Wm yX5_init prog_7_method_1_code 5 (Option.none : Option Jvm.ClassFile.FieldType)) 1 16 D cy [va_rf (some x0), va_rf x1, Value.int x2, va_rf x3, Value.int x4] S 0 0 post := by
  refine Mv_of (own := "Trenchboard$Telling") (by decide) rfl (by first | decide | simp [lg_sl, va_cat, vi_cat, vl_cat]) (fun p e s m below meth c A C hZ hr hin9 => ?_)
  refine G_lv C (lv' := [(0, va_rf (some x0)), (1, va_rf x1), (2, Value.int x2), (3, va_rf x3), (4, Value.int x4)]) [0, 1, 2, 3, 4] (by first | rfl | simp [lv_pick, lv_args, va_cat, vi_cat, vl_cat]) ?_
  unfold w_X5_init at h
  refine G_aload_n C (x := (some x0)) 0 dX5_init_0 rfl rfl ?_
  refine G_objInit C (im tw_2_159) (im tw_1_31) (im tw_1_32) dX5_init_1 (Nat.le_of_ble_eq_true rfl) (by simp [va_cat, vi_cat, vl_cat]) ?_
  refine G_aload_n C (x := (some x0)) 0 dX5_init_4 rfl rfl ?_
  refine G_aload_n C (x := x1) 1 dX5_init_5 rfl rfl ?_
  obtain ⟨hk1, h⟩ := h
  refine G_putPF C (CC := RX5) (Tf := TX5) (N := 4) (k := 6) (i := 0) (f := 600) (x := x1) (ty0 := tyX5) (ty := .object "Trenchboard$Street") hk1 (by decide) rfl (fin fwX5) tyX5_ok nmX5 (by decide) (im tw_2_160) rfl rfl (hin9 rfl) rfl rfl (by cases (x1 : Option Nat) <;> rfl) (by cases (x1 : Option Nat) <;> rfl) rfl rfl dX5_init_6 ?_
  generalize e3 : sP S 600 x0 x1 = S2
  have h := h S2 e3.symm
  refine G_aload_n C (x := (some x0)) 0 dX5_init_9 rfl rfl ?_
  refine G_iload_n C (x := x2) 2 dX5_init_10 rfl rfl ?_
  refine G_putIF C (CC := RX5) (Tf := TX5) (N := 4) (k := 6) (i := 1) (f := 601) (x := x2) (ty0 := tyX5) (ty := .int) (ksP e3.symm hk1) (by decide) rfl (fin fwX5) tyX5_ok nmX5 (by decide) (im tw_2_161) rfl rfl (hin9 rfl) rfl rfl rfl rfl rfl rfl dX5_init_11 ?_
  generalize e5 : sI S2 601 x0 x2 = S4
  have h := h S4 e5.symm
  refine G_aload_n C (x := (some x0)) 0 dX5_init_14 rfl rfl ?_
  refine G_aload_n C (x := x3) 3 dX5_init_15 rfl rfl ?_
  refine G_putPF C (CC := RX5) (Tf := TX5) (N := 4) (k := 6) (i := 2) (f := 602) (x := x3) (ty0 := tyX5) (ty := .object "Trenchboard$Works") (ksI e5.symm (ksP e3.symm hk1)) (by decide) rfl (fin fwX5) tyX5_ok nmX5 (by decide) (im tw_2_162) rfl rfl (hin9 rfl) rfl rfl (by cases (x3 : Option Nat) <;> rfl) (by cases (x3 : Option Nat) <;> rfl) rfl rfl dX5_init_16 ?_
  generalize e7 : sP S4 602 x0 x3 = S6
  have h := h S6 e7.symm
  refine G_aload_n C (x := (some x0)) 0 dX5_init_19 rfl rfl ?_
  refine G_iload C (x := x4) 4 dX5_init_20 rfl ?_
  refine G_putIF C (CC := RX5) (Tf := TX5) (N := 4) (k := 6) (i := 3) (f := 603) (x := x4) (ty0 := tyX5) (ty := .int) (ksP e7.symm (ksI e5.symm (ksP e3.symm hk1))) (by decide) rfl (fin fwX5) tyX5_ok nmX5 (by decide) (im tw_2_164) rfl rfl (hin9 rfl) rfl rfl rfl rfl rfl rfl dX5_init_22 ?_
  generalize e9 : sI S6 603 x0 x4 = S8
  have h := h S8 e9.symm
  exact G_vret C (mc := 0) (ms := 0) (post := post) hr (Nat.le_of_ble_eq_true rfl) (Nat.le_of_ble_eq_true rfl) dX5_init_25 h
set_option maxHeartbeats 4000000 in
set_option maxRecDepth 100000 in
theorem c_X5_isFillOf (l : Launch) (D : va_G) (cy : Nat → Nat) (x0 : Nat) (x1 : Option Nat) (x2 : Int32) (S : PT) (post : Int32 → PT → Prop) (h : w_X5_isFillOf x0 x1 x2 S post) : Mi l yX5_isFillOf (Wm yX5_isFillOf prog_7_method_2_code 3 (Option.some Jvm.ClassFile.FieldType.boolean)) 0 0 D cy [va_rf (some x0), va_rf x1, Value.int x2] S 0 0 (fun r S => bo r ∧ post r S) := by
  refine Mi_of (own := "Trenchboard$Telling") (by decide) rfl (by first | decide | simp [lg_sl, va_cat, vi_cat, vl_cat]) (fun p e s m below meth c A C hZ hr hin9 => ?_)
  have J28 : ∀ (S : PT) (s0 : Int32), w_X5_isFillOf_b28 x0 x1 x2 post S s0 → G p l e { frames := 0, cells := 0, slots := 0, locals := 0 } s m [va_rf (some x0), va_rf x1, Value.int x2].toArray below meth c D cy A s.heap 3 (QMi below D cy A [va_rf (some x0), va_rf x1, Value.int x2] s 0 0 (fun r S => bo r ∧ post r S)) S 0 0 28 [] [Value.int s0] := by
    intro S s0 h
    unfold w_X5_isFillOf_b28 at h
    obtain ⟨hb1, h⟩ := h
    exact G_zret C (mc := 0) (ms := 0) (post := (fun r S => bo r ∧ post r S)) (bo_nar hb1) hr (Nat.le_of_ble_eq_true rfl) (Nat.le_of_ble_eq_true rfl) dX5_isFillOf_28 ⟨hb1, h⟩
  have J27 : ∀ (S : PT), w_X5_isFillOf_b27 x0 x1 x2 post S → G p l e { frames := 0, cells := 0, slots := 0, locals := 0 } s m [va_rf (some x0), va_rf x1, Value.int x2].toArray below meth c D cy A s.heap 3 (QMi below D cy A [va_rf (some x0), va_rf x1, Value.int x2] s 0 0 (fun r S => bo r ∧ post r S)) S 0 0 27 [] [] := by
    intro S h
    unfold w_X5_isFillOf_b27 at h
    refine G_iconst C (v := 0) dX5_isFillOf_27 (by decide) ?_
    refine G_lv C (lv' := []) [] rfl ?_
    exact J28 _ _ h
  refine G_lv C (lv' := [(0, va_rf (some x0)), (1, va_rf x1), (2, Value.int x2)]) [0, 1, 2] (by first | rfl | simp [lv_pick, lv_args, va_cat, vi_cat, vl_cat]) ?_
  unfold w_X5_isFillOf at h
  refine G_aload_n C (x := (some x0)) 0 dX5_isFillOf_0 rfl rfl ?_
  obtain ⟨hk2, h⟩ := h
  refine G_get C (CC := RX5) (Tf := TX5) (N := 4) (k := 6) (i := 2) (v := va_rf (gP S 602 x0)) hk2 (by decide) rfl (fin fwX5) (by decide) (im tw_2_162) rfl rfl dX5_isFillOf_1 ?_
  refine G_ifnull C (tgt := 27) dX5_isFillOf_4 (by decide) (fun hc => ?_) (fun a3 ha4 => ?_)
  · have h := h.1 hc
    refine G_lv C (lv' := []) [] rfl ?_
    exact J27 _ h
  · have h := h.2 a3 ha4
    refine G_aload_n C (x := (some x0)) 0 dX5_isFillOf_7 rfl rfl ?_
    refine G_get C (CC := RX5) (Tf := TX5) (N := 4) (k := 6) (i := 0) (v := va_rf (gP S 600 x0)) hk2 (by decide) rfl (fin fwX5) (by decide) (im tw_2_160) rfl rfl dX5_isFillOf_8 ?_
    refine G_aload_n C (x := x1) 1 dX5_isFillOf_11 rfl rfl ?_
    refine G_acmp_ne C (tgt := 27) dX5_isFillOf_12 (by decide) (fun hc => ?_) (fun hc => ?_)
    · have h := h.1 hc
      refine G_lv C (lv' := []) [] rfl ?_
      exact J27 _ h
    · have h := h.2 hc
      refine G_aload_n C (x := (some x0)) 0 dX5_isFillOf_15 rfl rfl ?_
      refine G_get C (CC := RX5) (Tf := TX5) (N := 4) (k := 6) (i := 1) (v := Value.int (gI S 601 x0)) hk2 (by decide) rfl (fin fwX5) (by decide) (im tw_2_161) rfl rfl dX5_isFillOf_16 ?_
      refine G_iload_n C (x := x2) 2 dX5_isFillOf_19 rfl rfl ?_
      refine G_icmp_ne C (tgt := 27) dX5_isFillOf_20 (by decide) (fun hc => ?_) (fun hc => ?_)
      · have h := h.1 hc
        refine G_lv C (lv' := []) [] rfl ?_
        exact J27 _ h
      · have h := h.2 hc
        refine G_iconst C (v := 1) dX5_isFillOf_23 (by decide) ?_
        refine G_goto C (tgt := 28) dX5_isFillOf_24 (by decide) ?_
        refine G_lv C (lv' := []) [] rfl ?_
        exact J28 _ _ h
set_option maxHeartbeats 4000000 in
set_option maxRecDepth 100000 in
theorem c_X5_isSurfaceOf (l : Launch) (D : va_G) (cy : Nat → Nat) (x0 : Nat) (x1 : Option Nat) (S : PT) (post : Int32 → PT → Prop) (h : w_X5_isSurfaceOf x0 x1 S post) : Mi l yX5_isSurfaceOf (Wm yX5_isSurfaceOf prog_7_method_3_code 2 (Option.some Jvm.ClassFile.FieldType.boolean)) 0 0 D cy [va_rf (some x0), va_rf x1] S 0 0 (fun r S => bo r ∧ post r S) := by
  refine Mi_of (own := "Trenchboard$Telling") (by decide) rfl (by first | decide | simp [lg_sl, va_cat, vi_cat, vl_cat]) (fun p e s m below meth c A C hZ hr hin9 => ?_)
  have J20 : ∀ (S : PT) (s0 : Int32), w_X5_isSurfaceOf_b20 x0 x1 post S s0 → G p l e { frames := 0, cells := 0, slots := 0, locals := 0 } s m [va_rf (some x0), va_rf x1].toArray below meth c D cy A s.heap 2 (QMi below D cy A [va_rf (some x0), va_rf x1] s 0 0 (fun r S => bo r ∧ post r S)) S 0 0 20 [] [Value.int s0] := by
    intro S s0 h
    unfold w_X5_isSurfaceOf_b20 at h
    obtain ⟨hb1, h⟩ := h
    exact G_zret C (mc := 0) (ms := 0) (post := (fun r S => bo r ∧ post r S)) (bo_nar hb1) hr (Nat.le_of_ble_eq_true rfl) (Nat.le_of_ble_eq_true rfl) dX5_isSurfaceOf_20 ⟨hb1, h⟩
  have J19 : ∀ (S : PT), w_X5_isSurfaceOf_b19 x0 x1 post S → G p l e { frames := 0, cells := 0, slots := 0, locals := 0 } s m [va_rf (some x0), va_rf x1].toArray below meth c D cy A s.heap 2 (QMi below D cy A [va_rf (some x0), va_rf x1] s 0 0 (fun r S => bo r ∧ post r S)) S 0 0 19 [] [] := by
    intro S h
    unfold w_X5_isSurfaceOf_b19 at h
    refine G_iconst C (v := 0) dX5_isSurfaceOf_19 (by decide) ?_
    refine G_lv C (lv' := []) [] rfl ?_
    exact J20 _ _ h
  refine G_lv C (lv' := [(0, va_rf (some x0)), (1, va_rf x1)]) [0, 1] (by first | rfl | simp [lv_pick, lv_args, va_cat, vi_cat, vl_cat]) ?_
  unfold w_X5_isSurfaceOf at h
  refine G_aload_n C (x := (some x0)) 0 dX5_isSurfaceOf_0 rfl rfl ?_
  obtain ⟨hk2, h⟩ := h
  refine G_get C (CC := RX5) (Tf := TX5) (N := 4) (k := 6) (i := 2) (v := va_rf (gP S 602 x0)) hk2 (by decide) rfl (fin fwX5) (by decide) (im tw_2_162) rfl rfl dX5_isSurfaceOf_1 ?_
  refine G_ifnonnull C (tgt := 19) dX5_isSurfaceOf_4 (by decide) (fun hc => ?_) (fun a3 ha4 => ?_)
  · have h := h.1 hc
    refine G_aload_n C (x := (some x0)) 0 dX5_isSurfaceOf_7 rfl rfl ?_
    refine G_get C (CC := RX5) (Tf := TX5) (N := 4) (k := 6) (i := 0) (v := va_rf (gP S 600 x0)) hk2 (by decide) rfl (fin fwX5) (by decide) (im tw_2_160) rfl rfl dX5_isSurfaceOf_8 ?_
    refine G_aload_n C (x := x1) 1 dX5_isSurfaceOf_11 rfl rfl ?_
    refine G_acmp_ne C (tgt := 19) dX5_isSurfaceOf_12 (by decide) (fun hc => ?_) (fun hc => ?_)
    · have h := h.1 hc
      refine G_lv C (lv' := []) [] rfl ?_
      exact J19 _ h
    · have h := h.2 hc
      refine G_iconst C (v := 1) dX5_isSurfaceOf_15 (by decide) ?_
      refine G_goto C (tgt := 20) dX5_isSurfaceOf_16 (by decide) ?_
      refine G_lv C (lv' := []) [] rfl ?_
      exact J20 _ _ h
  · have h := h.2 a3 ha4
    refine G_lv C (lv' := []) [] rfl ?_
    exact J19 _ h
set_option maxHeartbeats 4000000 in
set_option maxRecDepth 100000 in
theorem c_X6_init (l : Launch) (D : va_G) (cy : Nat → Nat) (x0 : Nat) (x1 : Int32) (x2 : Option Nat) (x3 : Int32) (x4 : Int32) (x5 : Int32) (S : PT) (post : PT → Prop) (h : w_X6_init x0 x1 x2 x3 x4 x5 S post) : Mv l yX6_init (Wm yX6_init prog_8_method_1_code 6 (Option.none : Option Jvm.ClassFile.FieldType)) 1 16 D cy [va_rf (some x0), Value.int x1, va_rf x2, Value.int x3, Value.int x4, Value.int x5] S 0 0 post := by
  refine Mv_of (own := "Trenchboard$Thing") (by decide) rfl (by first | decide | simp [lg_sl, va_cat, vi_cat, vl_cat]) (fun p e s m below meth c A C hZ hr hin9 => ?_)
  refine G_lv C (lv' := [(0, va_rf (some x0)), (1, Value.int x1), (2, va_rf x2), (3, Value.int x3), (4, Value.int x4), (5, Value.int x5)]) [0, 1, 2, 3, 4, 5] (by first | rfl | simp [lv_pick, lv_args, va_cat, vi_cat, vl_cat]) ?_
  unfold w_X6_init at h
  refine G_aload_n C (x := (some x0)) 0 dX6_init_0 rfl rfl ?_
  refine G_objInit C (im tw_3_21) (im tw_1_31) (im tw_1_32) dX6_init_1 (Nat.le_of_ble_eq_true rfl) (by simp [va_cat, vi_cat, vl_cat]) ?_
  refine G_aload_n C (x := (some x0)) 0 dX6_init_4 rfl rfl ?_
  refine G_iload_n C (x := x1) 1 dX6_init_5 rfl rfl ?_
  obtain ⟨hk1, h⟩ := h
  refine G_putIF C (CC := RX6) (Tf := TX6) (N := 8) (k := 7) (i := 0) (f := 700) (x := x1) (ty0 := tyX6) (ty := .int) hk1 (by decide) rfl (fin fwX6) tyX6_ok nmX6 (by decide) (im tw_3_22) rfl rfl (hin9 rfl) rfl rfl rfl rfl rfl rfl dX6_init_6 ?_
  generalize e3 : sI S 700 x0 x1 = S2
  have h := h S2 e3.symm
  refine G_aload_n C (x := (some x0)) 0 dX6_init_9 rfl rfl ?_
  refine G_aload_n C (x := x2) 2 dX6_init_10 rfl rfl ?_
  refine G_putPF C (CC := RX6) (Tf := TX6) (N := 8) (k := 7) (i := 1) (f := 701) (x := x2) (ty0 := tyX6) (ty := .object "Trenchboard$Street") (ksI e3.symm hk1) (by decide) rfl (fin fwX6) tyX6_ok nmX6 (by decide) (im tw_3_24) rfl rfl (hin9 rfl) rfl rfl (by cases (x2 : Option Nat) <;> rfl) (by cases (x2 : Option Nat) <;> rfl) rfl rfl dX6_init_11 ?_
  generalize e5 : sP S2 701 x0 x2 = S4
  have h := h S4 e5.symm
  refine G_aload_n C (x := (some x0)) 0 dX6_init_14 rfl rfl ?_
  refine G_iload_n C (x := x3) 3 dX6_init_15 rfl rfl ?_
  refine G_putIF C (CC := RX6) (Tf := TX6) (N := 8) (k := 7) (i := 2) (f := 702) (x := x3) (ty0 := tyX6) (ty := .int) (ksP e5.symm (ksI e3.symm hk1)) (by decide) rfl (fin fwX6) tyX6_ok nmX6 (by decide) (im tw_3_26) rfl rfl (hin9 rfl) rfl rfl rfl rfl rfl rfl dX6_init_16 ?_
  generalize e7 : sI S4 702 x0 x3 = S6
  have h := h S6 e7.symm
  refine G_aload_n C (x := (some x0)) 0 dX6_init_19 rfl rfl ?_
  refine G_iload C (x := x4) 4 dX6_init_20 rfl ?_
  refine G_putIF C (CC := RX6) (Tf := TX6) (N := 8) (k := 7) (i := 3) (f := 703) (x := x4) (ty0 := tyX6) (ty := .int) (ksI e7.symm (ksP e5.symm (ksI e3.symm hk1))) (by decide) rfl (fin fwX6) tyX6_ok nmX6 (by decide) (im tw_3_28) rfl rfl (hin9 rfl) rfl rfl rfl rfl rfl rfl dX6_init_22 ?_
  generalize e9 : sI S6 703 x0 x4 = S8
  have h := h S8 e9.symm
  refine G_aload_n C (x := (some x0)) 0 dX6_init_25 rfl rfl ?_
  refine G_iload C (x := x5) 5 dX6_init_26 rfl ?_
  refine G_putIF C (CC := RX6) (Tf := TX6) (N := 8) (k := 7) (i := 4) (f := 704) (x := x5) (ty0 := tyX6) (ty := .int) (ksI e9.symm (ksI e7.symm (ksP e5.symm (ksI e3.symm hk1)))) (by decide) rfl (fin fwX6) tyX6_ok nmX6 (by decide) (im tw_3_30) rfl rfl (hin9 rfl) rfl rfl rfl rfl rfl rfl dX6_init_28 ?_
  generalize e11 : sI S8 704 x0 x5 = S10
  have h := h S10 e11.symm
  exact G_vret C (mc := 0) (ms := 0) (post := post) hr (Nat.le_of_ble_eq_true rfl) (Nat.le_of_ble_eq_true rfl) dX6_init_31 h
set_option maxHeartbeats 4000000 in
set_option maxRecDepth 100000 in
theorem c_X6_putRecord (l : Launch) (D : va_G) (cy : Nat → Nat) (x0 : Nat) (x1 : Int32) (x2 : Int32) (x3 : Int32) (S : PT) (post : PT → Prop) (h : w_X6_putRecord x0 x1 x2 x3 S post) : Mv l yX6_putRecord (Wm yX6_putRecord prog_8_method_2_code 4 (Option.none : Option Jvm.ClassFile.FieldType)) 1 21 D cy [va_rf (some x0), Value.int x1, Value.int x2, Value.int x3] S 0 0 post := by
  refine Mv_of (own := "Trenchboard$Thing") (by decide) rfl (by first | decide | simp [lg_sl, va_cat, vi_cat, vl_cat]) (fun p e s m below meth c A C hZ hr hin9 => ?_)
  refine G_lv C (lv' := [(0, va_rf (some x0)), (1, Value.int x1), (2, Value.int x2), (3, Value.int x3)]) [0, 1, 2, 3] (by first | rfl | simp [lv_pick, lv_args, va_cat, vi_cat, vl_cat]) ?_
  unfold w_X6_putRecord at h
  refine G_aload_n C (x := (some x0)) 0 dX6_putRecord_0 rfl rfl ?_
  refine G_iconst C (v := 1) dX6_putRecord_1 (by decide) ?_
  obtain ⟨hk1, h⟩ := h
  refine G_putI C (CC := RX6) (Tf := TX6) (N := 8) (k := 7) (i := 5) (f := 705) (x := 1) (ty0 := tyX6) (ty := .boolean) hk1 (by decide) rfl (fin fwX6) tyX6_ok nmX6 (by decide) (im tw_3_32) rfl rfl rfl (bo_nar bo_1) (bo_fit bo_1) rfl rfl dX6_putRecord_2 ?_
  generalize e3 : sI S 705 x0 1 = S2
  have h := h S2 e3.symm
  refine G_aload_n C (x := (some x0)) 0 dX6_putRecord_5 rfl rfl ?_
  refine G_iload_n C (x := x1) 1 dX6_putRecord_6 rfl rfl ?_
  refine G_iload_n C (x := x3) 3 dX6_putRecord_7 rfl rfl ?_
  refine G_isub C dX6_putRecord_8 ?_
  refine G_iconst C (v := 0) dX6_putRecord_9 (by decide) ?_
  refine G_mmax C (im tw_3_69) (im tw_2_69) (im tw_1_14) (im tw_2_70) (Nat.le_of_ble_eq_true rfl) (by simp [va_cat, vi_cat, vl_cat]) (by omega) (by omega) dX6_putRecord_10 ?_
  refine G_putI C (CC := RX6) (Tf := TX6) (N := 8) (k := 7) (i := 6) (f := 706) (x := (if (x1 - x3) < 0 then 0 else (x1 - x3))) (ty0 := tyX6) (ty := .int) (ksI e3.symm hk1) (by decide) rfl (fin fwX6) tyX6_ok nmX6 (by decide) (im tw_3_34) rfl rfl rfl rfl rfl rfl rfl dX6_putRecord_13 ?_
  generalize e5 : sI S2 706 x0 (if (x1 - x3) < 0 then 0 else (x1 - x3)) = S4
  have h := h S4 e5.symm
  refine G_aload_n C (x := (some x0)) 0 dX6_putRecord_16 rfl rfl ?_
  refine G_iload_n C (x := x2) 2 dX6_putRecord_17 rfl rfl ?_
  refine G_iload_n C (x := x3) 3 dX6_putRecord_18 rfl rfl ?_
  refine G_iadd C dX6_putRecord_19 ?_
  refine G_aload_n C (x := (some x0)) 0 dX6_putRecord_20 rfl rfl ?_
  refine G_get C (CC := RX6) (Tf := TX6) (N := 8) (k := 7) (i := 1) (v := va_rf (gP S4 701 x0)) (ksI e5.symm (ksI e3.symm hk1)) (by decide) rfl (fin fwX6) (by decide) (im tw_3_24) rfl rfl dX6_putRecord_21 ?_
  obtain ⟨a6, ha7, h⟩ := h
  refine G_rf ha7 ?_
  obtain ⟨hk8, h⟩ := h
  refine G_get C (CC := RX4) (Tf := TX4) (N := 12) (k := 5) (i := 4) (v := va_rf (gP S4 504 a6)) hk8 (by decide) rfl (fin fwX4) (by decide) (im tw_2_101) rfl rfl dX6_putRecord_24 ?_
  obtain ⟨a9, ha10, h⟩ := h
  refine G_rf ha10 ?_
  obtain ⟨hk11, h⟩ := h
  refine G_alen C hk11 (by decide) rfl dX6_putRecord_27 ?_
  refine G_iconst C (v := 1) dX6_putRecord_28 (by decide) ?_
  refine G_isub C dX6_putRecord_29 ?_
  refine G_mmin C (im tw_3_70) (im tw_2_230) (im tw_1_14) (im tw_2_231) (Nat.le_of_ble_eq_true rfl) (by simp [va_cat, vi_cat, vl_cat]) (by omega) (by omega) dX6_putRecord_30 ?_
  refine G_putI C (CC := RX6) (Tf := TX6) (N := 8) (k := 7) (i := 7) (f := 707) (x := (if ((nI (gN S4 a9)) - 1) < (x2 + x3) then ((nI (gN S4 a9)) - 1) else (x2 + x3))) (ty0 := tyX6) (ty := .int) (ksI e5.symm (ksI e3.symm hk1)) (by decide) rfl (fin fwX6) tyX6_ok nmX6 (by decide) (im tw_3_36) rfl rfl rfl rfl rfl rfl rfl dX6_putRecord_33 ?_
  generalize e13 : sI S4 707 x0 (if ((nI (gN S4 a9)) - 1) < (x2 + x3) then ((nI (gN S4 a9)) - 1) else (x2 + x3)) = S12
  have h := h S12 e13.symm
  exact G_vret C (mc := 0) (ms := 0) (post := post) hr (Nat.le_of_ble_eq_true rfl) (Nat.le_of_ble_eq_true rfl) dX6_putRecord_36 h
set_option maxHeartbeats 4000000 in
set_option maxRecDepth 100000 in
theorem c_X6_suspectMetres (l : Launch) (D : va_G) (cy : Nat → Nat) (x0 : Nat) (S : PT) (post : Int32 → PT → Prop) (h : w_X6_suspectMetres x0 S post) : Mi l yX6_suspectMetres (Wm yX6_suspectMetres prog_8_method_3_code 1 (Option.some Jvm.ClassFile.FieldType.int)) 0 0 D cy [va_rf (some x0)] S 0 0 post := by
  refine Mi_of (own := "Trenchboard$Thing") (by decide) rfl (by first | decide | simp [lg_sl, va_cat, vi_cat, vl_cat]) (fun p e s m below meth c A C hZ hr hin9 => ?_)
  have J22 : ∀ (S : PT) (s0 : Int32), w_X6_suspectMetres_b22 x0 post S s0 → G p l e { frames := 0, cells := 0, slots := 0, locals := 0 } s m [va_rf (some x0)].toArray below meth c D cy A s.heap 1 (QMi below D cy A [va_rf (some x0)] s 0 0 post) S 0 0 22 [] [Value.int s0] := by
    intro S s0 h
    unfold w_X6_suspectMetres_b22 at h
    exact G_iret C (mc := 0) (ms := 0) (post := post) hr (Nat.le_of_ble_eq_true rfl) (Nat.le_of_ble_eq_true rfl) dX6_suspectMetres_22 h
  refine G_lv C (lv' := [(0, va_rf (some x0))]) [0] (by first | rfl | simp [lv_pick, lv_args, va_cat, vi_cat, vl_cat]) ?_
  unfold w_X6_suspectMetres at h
  refine G_aload_n C (x := (some x0)) 0 dX6_suspectMetres_0 rfl rfl ?_
  obtain ⟨hk1, h⟩ := h
  refine G_get C (CC := RX6) (Tf := TX6) (N := 8) (k := 7) (i := 5) (v := Value.int (gI S 705 x0)) hk1 (by decide) rfl (fin fwX6) (by decide) (im tw_3_32) rfl rfl dX6_suspectMetres_1 ?_
  refine G_if_eq C (tgt := 21) dX6_suspectMetres_4 (by decide) (fun hc => ?_) (fun hc => ?_)
  · have h := h.1 hc
    refine G_iconst C (v := 0) dX6_suspectMetres_21 (by decide) ?_
    refine G_lv C (lv' := []) [] rfl ?_
    exact J22 _ _ h
  · have h := h.2 hc
    refine G_aload_n C (x := (some x0)) 0 dX6_suspectMetres_7 rfl rfl ?_
    refine G_get C (CC := RX6) (Tf := TX6) (N := 8) (k := 7) (i := 7) (v := Value.int (gI S 707 x0)) hk1 (by decide) rfl (fin fwX6) (by decide) (im tw_3_36) rfl rfl dX6_suspectMetres_8 ?_
    refine G_aload_n C (x := (some x0)) 0 dX6_suspectMetres_11 rfl rfl ?_
    refine G_get C (CC := RX6) (Tf := TX6) (N := 8) (k := 7) (i := 6) (v := Value.int (gI S 706 x0)) hk1 (by decide) rfl (fin fwX6) (by decide) (im tw_3_34) rfl rfl dX6_suspectMetres_12 ?_
    refine G_isub C dX6_suspectMetres_15 ?_
    refine G_iconst C (v := 1) dX6_suspectMetres_16 (by decide) ?_
    refine G_iadd C dX6_suspectMetres_17 ?_
    refine G_goto C (tgt := 22) dX6_suspectMetres_18 (by decide) ?_
    refine G_lv C (lv' := []) [] rfl ?_
    exact J22 _ _ h
set_option maxHeartbeats 4000000 in
set_option maxRecDepth 100000 in
theorem c_X6_liesAt (l : Launch) (D : va_G) (cy : Nat → Nat) (x0 : Nat) (x1 : Option Nat) (x2 : Int32) (S : PT) (post : Int32 → PT → Prop) (h : w_X6_liesAt x0 x1 x2 S post) : Mi l yX6_liesAt (Wm yX6_liesAt prog_8_method_4_code 3 (Option.some Jvm.ClassFile.FieldType.boolean)) 0 0 D cy [va_rf (some x0), va_rf x1, Value.int x2] S 0 0 (fun r S => bo r ∧ post r S) := by
  refine Mi_of (own := "Trenchboard$Thing") (by decide) rfl (by first | decide | simp [lg_sl, va_cat, vi_cat, vl_cat]) (fun p e s m below meth c A C hZ hr hin9 => ?_)
  have J29 : ∀ (S : PT) (s0 : Int32), w_X6_liesAt_b29 x0 x1 x2 post S s0 → G p l e { frames := 0, cells := 0, slots := 0, locals := 0 } s m [va_rf (some x0), va_rf x1, Value.int x2].toArray below meth c D cy A s.heap 3 (QMi below D cy A [va_rf (some x0), va_rf x1, Value.int x2] s 0 0 (fun r S => bo r ∧ post r S)) S 0 0 29 [] [Value.int s0] := by
    intro S s0 h
    unfold w_X6_liesAt_b29 at h
    obtain ⟨hb1, h⟩ := h
    exact G_zret C (mc := 0) (ms := 0) (post := (fun r S => bo r ∧ post r S)) (bo_nar hb1) hr (Nat.le_of_ble_eq_true rfl) (Nat.le_of_ble_eq_true rfl) dX6_liesAt_29 ⟨hb1, h⟩
  have J28 : ∀ (S : PT), w_X6_liesAt_b28 x0 x1 x2 post S → G p l e { frames := 0, cells := 0, slots := 0, locals := 0 } s m [va_rf (some x0), va_rf x1, Value.int x2].toArray below meth c D cy A s.heap 3 (QMi below D cy A [va_rf (some x0), va_rf x1, Value.int x2] s 0 0 (fun r S => bo r ∧ post r S)) S 0 0 28 [] [] := by
    intro S h
    unfold w_X6_liesAt_b28 at h
    refine G_iconst C (v := 0) dX6_liesAt_28 (by decide) ?_
    refine G_lv C (lv' := []) [] rfl ?_
    exact J29 _ _ h
  refine G_lv C (lv' := [(0, va_rf (some x0)), (1, va_rf x1), (2, Value.int x2)]) [0, 1, 2] (by first | rfl | simp [lv_pick, lv_args, va_cat, vi_cat, vl_cat]) ?_
  unfold w_X6_liesAt at h
  refine G_aload_n C (x := (some x0)) 0 dX6_liesAt_0 rfl rfl ?_
  obtain ⟨hk2, h⟩ := h
  refine G_get C (CC := RX6) (Tf := TX6) (N := 8) (k := 7) (i := 1) (v := va_rf (gP S 701 x0)) hk2 (by decide) rfl (fin fwX6) (by decide) (im tw_3_24) rfl rfl dX6_liesAt_1 ?_
  refine G_aload_n C (x := x1) 1 dX6_liesAt_4 rfl rfl ?_
  refine G_acmp_ne C (tgt := 28) dX6_liesAt_5 (by decide) (fun hc => ?_) (fun hc => ?_)
  · have h := h.1 hc
    refine G_lv C (lv' := []) [] rfl ?_
    exact J28 _ h
  · have h := h.2 hc
    refine G_aload_n C (x := (some x0)) 0 dX6_liesAt_8 rfl rfl ?_
    refine G_get C (CC := RX6) (Tf := TX6) (N := 8) (k := 7) (i := 2) (v := Value.int (gI S 702 x0)) hk2 (by decide) rfl (fin fwX6) (by decide) (im tw_3_26) rfl rfl dX6_liesAt_9 ?_
    refine G_iload_n C (x := x2) 2 dX6_liesAt_12 rfl rfl ?_
    refine G_icmp_gt C (tgt := 28) dX6_liesAt_13 (by decide) (fun hc => ?_) (fun hc => ?_)
    · have h := h.1 hc
      refine G_lv C (lv' := []) [] rfl ?_
      exact J28 _ h
    · have h := h.2 hc
      refine G_iload_n C (x := x2) 2 dX6_liesAt_16 rfl rfl ?_
      refine G_aload_n C (x := (some x0)) 0 dX6_liesAt_17 rfl rfl ?_
      refine G_get C (CC := RX6) (Tf := TX6) (N := 8) (k := 7) (i := 3) (v := Value.int (gI S 703 x0)) hk2 (by decide) rfl (fin fwX6) (by decide) (im tw_3_28) rfl rfl dX6_liesAt_18 ?_
      refine G_icmp_gt C (tgt := 28) dX6_liesAt_21 (by decide) (fun hc => ?_) (fun hc => ?_)
      · have h := h.1 hc
        refine G_lv C (lv' := []) [] rfl ?_
        exact J28 _ h
      · have h := h.2 hc
        refine G_iconst C (v := 1) dX6_liesAt_24 (by decide) ?_
        refine G_goto C (tgt := 29) dX6_liesAt_25 (by decide) ?_
        refine G_lv C (lv' := []) [] rfl ?_
        exact J29 _ _ h
set_option maxHeartbeats 4000000 in
set_option maxRecDepth 100000 in
theorem c_X6_liesInSureMetre (l : Launch) (D : va_G) (cy : Nat → Nat) (x0 : Nat) (S : PT) (post : Int32 → PT → Prop) (h : w_X6_liesInSureMetre x0 S post) : Mi l yX6_liesInSureMetre (Wm yX6_liesInSureMetre prog_8_method_5_code 3 (Option.some Jvm.ClassFile.FieldType.boolean)) 1 21 D cy [va_rf (some x0)] S 0 0 (fun r S => bo r ∧ post r S) := by
  refine Mi_of (own := "Trenchboard$Thing") (by decide) rfl (by first | decide | simp [lg_sl, va_cat, vi_cat, vl_cat]) (fun p e s m below meth c A C hZ hr hin9 => ?_)
  have J5 : ∀ (n : Nat) (S : PT) (v1 : Int32), w_X6_liesInSureMetre_l5 x0 post n S v1 → G p l e { frames := 1, cells := 0, slots := 0, locals := 21 } s m [va_rf (some x0)].toArray below meth c D cy A s.heap 3 (QMi below D cy A [va_rf (some x0)] s 0 0 (fun r S => bo r ∧ post r S)) S 0 0 5 [(0, va_rf (some x0)), (1, Value.int v1)] [] := by
    intro n5
    induction n5 with
    | zero => intro S v1 h; rw [w_X6_liesInSureMetre_l5] at h; exact False.elim h
    | succ n5 K5 =>
      have J35 : ∀ (S : PT) (v1 : Int32), w_X6_liesInSureMetre_b35 x0 post (w_X6_liesInSureMetre_l5 x0 post n5) S v1 → G p l e { frames := 1, cells := 0, slots := 0, locals := 21 } s m [va_rf (some x0)].toArray below meth c D cy A s.heap 3 (QMi below D cy A [va_rf (some x0)] s 0 0 (fun r S => bo r ∧ post r S)) S 0 0 35 [(0, va_rf (some x0)), (1, Value.int v1)] [] := by
        intro S v1 h
        unfold w_X6_liesInSureMetre_b35 at h
        refine G_iinc C (v := (v1 + 1)) (lv' := [(1, Value.int (v1 + 1)), (0, va_rf (some x0))]) 1 dX6_liesInSureMetre_35 rfl rfl (by decide) (by first | rfl | simp [va_cat, vi_cat, vl_cat]) ?_
        refine G_goto C (tgt := 5) dX6_liesInSureMetre_38 (by decide) ?_
        refine G_lv C (lv' := [(0, va_rf (some x0)), (1, Value.int (v1 + 1))]) [1, 0] rfl ?_
        exact K5 _ _ h
      intro S v1 h
      rw [w_X6_liesInSureMetre_l5] at h
      refine G_iload_n C (x := v1) 1 dX6_liesInSureMetre_5 rfl rfl ?_
      refine G_aload_n C (x := (some x0)) 0 dX6_liesInSureMetre_6 rfl rfl ?_
      obtain ⟨hk1, h⟩ := h
      refine G_get C (CC := RX6) (Tf := TX6) (N := 8) (k := 7) (i := 3) (v := Value.int (gI S 703 x0)) hk1 (by decide) rfl (fin fwX6) (by decide) (im tw_3_28) rfl rfl dX6_liesInSureMetre_7 ?_
      refine G_icmp_gt C (tgt := 41) dX6_liesInSureMetre_10 (by decide) (fun hc => ?_) (fun hc => ?_)
      · have h := h.1 hc
        refine G_iconst C (v := 0) dX6_liesInSureMetre_41 (by decide) ?_
        exact G_zret C (mc := 0) (ms := 0) (post := (fun r S => bo r ∧ post r S)) (bo_nar bo_0) hr (Nat.le_of_ble_eq_true rfl) (Nat.le_of_ble_eq_true rfl) dX6_liesInSureMetre_42 ⟨bo_0, h⟩
      · have h := h.2 hc
        refine G_aload_n C (x := (some x0)) 0 dX6_liesInSureMetre_13 rfl rfl ?_
        refine G_get C (CC := RX6) (Tf := TX6) (N := 8) (k := 7) (i := 1) (v := va_rf (gP S 701 x0)) hk1 (by decide) rfl (fin fwX6) (by decide) (im tw_3_24) rfl rfl dX6_liesInSureMetre_14 ?_
        refine G_iload_n C (x := v1) 1 dX6_liesInSureMetre_17 rfl rfl ?_
        obtain ⟨a2, ha3, h⟩ := h
        obtain ⟨hk4, h⟩ := h
        refine G_callVq C hZ (Tf := TX4) (N := 12) hk4 (by decide) rfl tw_3_88 tw_1_139 tw_1_140 tw_1_13 tw_1_141 hy_X4_metreAt ⟨Nat.le_of_ble_eq_true rfl, Nat.le_of_ble_eq_true rfl⟩ (As := [Value.int v1]) (rest := []) (c_X4_metreAt l D cy a2 v1 S _ h) rfl (by first | rfl | (simp only [ha3]; rfl) | simp only [ha3]) (by simp [va_cat, vi_cat, vl_cat]) dX6_liesInSureMetre_18 ⟨Nat.le_of_ble_eq_true rfl, Nat.le_of_ble_eq_true rfl⟩ (fun r6 S5 h => ?_)
        refine G_astore_n C (i := 2) (lv' := [(2, va_rf r6), (0, va_rf (some x0)), (1, Value.int v1)]) dX6_liesInSureMetre_21 rfl (by decide) (by first | rfl | simp [va_cat, vi_cat, vl_cat]) ?_
        refine G_aload_n C (x := r6) 0 dX6_liesInSureMetre_22 rfl rfl ?_
        refine G_ifnull C (tgt := 35) dX6_liesInSureMetre_23 (by decide) (fun hc => ?_) (fun a7 ha8 => ?_)
        · have h := h.1 hc
          refine G_lv C (lv' := [(0, va_rf (some x0)), (1, Value.int v1)]) [1, 2] rfl ?_
          exact J35 _ _ h
        · have h := h.2 a7 ha8
          refine G_aload_n C (x := r6) 0 dX6_liesInSureMetre_26 rfl rfl ?_
          refine G_rf ha8 ?_
          obtain ⟨hk9, h⟩ := h
          refine G_get C (CC := RX2) (Tf := TX2) (N := 4) (k := 3) (i := 0) (v := Value.int (gI S5 300 a7)) hk9 (by decide) rfl (fin fwX2) (by decide) (im tw_2_78) rfl rfl dX6_liesInSureMetre_27 ?_
          refine G_if_eq C (tgt := 35) dX6_liesInSureMetre_30 (by decide) (fun hc => ?_) (fun hc => ?_)
          · have h := h.1 hc
            refine G_lv C (lv' := [(0, va_rf (some x0)), (1, Value.int v1)]) [1, 2] rfl ?_
            exact J35 _ _ h
          · have h := h.2 hc
            refine G_iconst C (v := 1) dX6_liesInSureMetre_33 (by decide) ?_
            exact G_zret C (mc := 0) (ms := 0) (post := (fun r S => bo r ∧ post r S)) (bo_nar bo_1) hr (Nat.le_of_ble_eq_true rfl) (Nat.le_of_ble_eq_true rfl) dX6_liesInSureMetre_34 ⟨bo_1, h⟩
  refine G_lv C (lv' := [(0, va_rf (some x0))]) [0] (by first | rfl | simp [lv_pick, lv_args, va_cat, vi_cat, vl_cat]) ?_
  unfold w_X6_liesInSureMetre at h
  refine G_aload_n C (x := (some x0)) 0 dX6_liesInSureMetre_0 rfl rfl ?_
  obtain ⟨hk10, h⟩ := h
  refine G_get C (CC := RX6) (Tf := TX6) (N := 8) (k := 7) (i := 2) (v := Value.int (gI S 702 x0)) hk10 (by decide) rfl (fin fwX6) (by decide) (im tw_3_26) rfl rfl dX6_liesInSureMetre_1 ?_
  refine G_istore_n C (i := 1) (lv' := [(1, Value.int (gI S 702 x0)), (0, va_rf (some x0))]) dX6_liesInSureMetre_4 rfl (by decide) (by first | rfl | simp [va_cat, vi_cat, vl_cat]) ?_
  refine G_lv C (lv' := [(0, va_rf (some x0)), (1, Value.int (gI S 702 x0))]) [1, 0] rfl ?_
  obtain ⟨n9, h⟩ := h
  exact J5 n9 _ _ h
set_option maxHeartbeats 4000000 in
set_option maxRecDepth 100000 in
theorem c_X7_init (l : Launch) (D : va_G) (cy : Nat → Nat) (x0 : Nat) (x1 : Int32) (x2 : Int32) (x3 : Option Nat) (x4 : Int32) (x5 : Int32) (S : PT) (post : PT → Prop) (h : w_X7_init x0 x1 x2 x3 x4 x5 S post) : Mv l yX7_init (Wm yX7_init prog_9_method_1_code 6 (Option.none : Option Jvm.ClassFile.FieldType)) 1 16 D cy [va_rf (some x0), Value.int x1, Value.int x2, va_rf x3, Value.int x4, Value.int x5] S 0 0 post := by
  refine Mv_of (own := "Trenchboard$Works") (by decide) rfl (by first | decide | simp [lg_sl, va_cat, vi_cat, vl_cat]) (fun p e s m below meth c A C hZ hr hin9 => ?_)
  have J43 : ∀ (S : PT) (s0 : Option Nat) (s1 : Int32), w_X7_init_b43 x0 x1 x2 x3 x4 x5 post S s0 s1 → G p l e { frames := 1, cells := 0, slots := 0, locals := 16 } s m [va_rf (some x0), Value.int x1, Value.int x2, va_rf x3, Value.int x4, Value.int x5].toArray below meth c D cy A s.heap 6 (QMv below D cy A [va_rf (some x0), Value.int x1, Value.int x2, va_rf x3, Value.int x4, Value.int x5] s 0 0 post) S 0 0 43 [] [Value.int s1, va_rf s0] := by
    intro S s0 s1 h
    unfold w_X7_init_b43 at h
    obtain ⟨a1, ha2, h⟩ := h
    refine G_rf1 ha2 ?_
    obtain ⟨hk3, h⟩ := h
    refine G_putI C (CC := RX7) (Tf := TX7) (N := 18) (k := 8) (i := 10) (f := 810) (x := s1) (ty0 := tyX7) (ty := .int) hk3 (by decide) rfl (fin fwX7) tyX7_ok nmX7 (by decide) (im tw_4_229) rfl rfl rfl rfl rfl rfl rfl dX7_init_43 ?_
    generalize e5 : sI S 810 a1 s1 = S4
    have h := h S4 e5.symm
    exact G_vret C (mc := 0) (ms := 0) (post := post) hr (Nat.le_of_ble_eq_true rfl) (Nat.le_of_ble_eq_true rfl) dX7_init_46 h
  refine G_lv C (lv' := [(0, va_rf (some x0)), (1, Value.int x1), (2, Value.int x2), (3, va_rf x3), (4, Value.int x4), (5, Value.int x5)]) [0, 1, 2, 3, 4, 5] (by first | rfl | simp [lv_pick, lv_args, va_cat, vi_cat, vl_cat]) ?_
  unfold w_X7_init at h
  refine G_aload_n C (x := (some x0)) 0 dX7_init_0 rfl rfl ?_
  refine G_objInit C (im tw_4_210) (im tw_1_31) (im tw_1_32) dX7_init_1 (Nat.le_of_ble_eq_true rfl) (by simp [va_cat, vi_cat, vl_cat]) ?_
  refine G_aload_n C (x := (some x0)) 0 dX7_init_4 rfl rfl ?_
  refine G_iload_n C (x := x1) 1 dX7_init_5 rfl rfl ?_
  obtain ⟨hk6, h⟩ := h
  refine G_putIF C (CC := RX7) (Tf := TX7) (N := 18) (k := 8) (i := 0) (f := 800) (x := x1) (ty0 := tyX7) (ty := .int) hk6 (by decide) rfl (fin fwX7) tyX7_ok nmX7 (by decide) (im tw_4_211) rfl rfl (hin9 rfl) rfl rfl rfl rfl rfl rfl dX7_init_6 ?_
  generalize e8 : sI S 800 x0 x1 = S7
  have h := h S7 e8.symm
  refine G_aload_n C (x := (some x0)) 0 dX7_init_9 rfl rfl ?_
  refine G_iload_n C (x := x2) 2 dX7_init_10 rfl rfl ?_
  refine G_putIF C (CC := RX7) (Tf := TX7) (N := 18) (k := 8) (i := 1) (f := 801) (x := x2) (ty0 := tyX7) (ty := .int) (ksI e8.symm hk6) (by decide) rfl (fin fwX7) tyX7_ok nmX7 (by decide) (im tw_4_213) rfl rfl (hin9 rfl) rfl rfl rfl rfl rfl rfl dX7_init_11 ?_
  generalize e10 : sI S7 801 x0 x2 = S9
  have h := h S9 e10.symm
  refine G_aload_n C (x := (some x0)) 0 dX7_init_14 rfl rfl ?_
  refine G_aload_n C (x := x3) 3 dX7_init_15 rfl rfl ?_
  refine G_putPF C (CC := RX7) (Tf := TX7) (N := 18) (k := 8) (i := 2) (f := 802) (x := x3) (ty0 := tyX7) (ty := .object "Trenchboard$Street") (ksI e10.symm (ksI e8.symm hk6)) (by decide) rfl (fin fwX7) tyX7_ok nmX7 (by decide) (im tw_4_215) rfl rfl (hin9 rfl) rfl rfl (by cases (x3 : Option Nat) <;> rfl) (by cases (x3 : Option Nat) <;> rfl) rfl rfl dX7_init_16 ?_
  generalize e12 : sP S9 802 x0 x3 = S11
  have h := h S11 e12.symm
  refine G_aload_n C (x := (some x0)) 0 dX7_init_19 rfl rfl ?_
  refine G_iload C (x := x4) 4 dX7_init_20 rfl ?_
  refine G_putIF C (CC := RX7) (Tf := TX7) (N := 18) (k := 8) (i := 3) (f := 803) (x := x4) (ty0 := tyX7) (ty := .int) (ksP e12.symm (ksI e10.symm (ksI e8.symm hk6))) (by decide) rfl (fin fwX7) tyX7_ok nmX7 (by decide) (im tw_4_217) rfl rfl (hin9 rfl) rfl rfl rfl rfl rfl rfl dX7_init_22 ?_
  generalize e14 : sI S11 803 x0 x4 = S13
  have h := h S13 e14.symm
  refine G_aload_n C (x := (some x0)) 0 dX7_init_25 rfl rfl ?_
  refine G_iload C (x := x5) 5 dX7_init_26 rfl ?_
  refine G_putIF C (CC := RX7) (Tf := TX7) (N := 18) (k := 8) (i := 4) (f := 804) (x := x5) (ty0 := tyX7) (ty := .int) (ksI e14.symm (ksP e12.symm (ksI e10.symm (ksI e8.symm hk6)))) (by decide) rfl (fin fwX7) tyX7_ok nmX7 (by decide) (im tw_4_219) rfl rfl (hin9 rfl) rfl rfl rfl rfl rfl rfl dX7_init_28 ?_
  generalize e16 : sI S13 804 x0 x5 = S15
  have h := h S15 e16.symm
  refine G_aload_n C (x := (some x0)) 0 dX7_init_31 rfl rfl ?_
  refine G_iload C (x := x4) 4 dX7_init_32 rfl ?_
  refine G_iconst C (v := 3) dX7_init_34 (by decide) ?_
  refine G_icmp_ne C (tgt := 42) dX7_init_35 (by decide) (fun hc => ?_) (fun hc => ?_)
  · have h := h.1 hc
    refine G_iconst C (v := 0) dX7_init_42 (by decide) ?_
    refine G_lv C (lv' := []) [] rfl ?_
    exact J43 _ _ _ h
  · have h := h.2 hc
    refine G_iconst C (v := 1) dX7_init_38 (by decide) ?_
    refine G_goto C (tgt := 43) dX7_init_39 (by decide) ?_
    refine G_lv C (lv' := []) [] rfl ?_
    exact J43 _ _ _ h
set_option maxHeartbeats 4000000 in
set_option maxRecDepth 100000 in
theorem c_X7_placeAt (l : Launch) (D : va_G) (cy : Nat → Nat) (x0 : Nat) (x1 : Int32) (x2 : Int32) (x3 : Int32) (S : PT) (post : PT → Prop) (h : w_X7_placeAt x0 x1 x2 x3 S post) : Mv l yX7_placeAt (Wm yX7_placeAt prog_9_method_2_code 4 (Option.none : Option Jvm.ClassFile.FieldType)) 0 0 D cy [va_rf (some x0), Value.int x1, Value.int x2, Value.int x3] S 0 0 post := by
  refine Mv_of (own := "Trenchboard$Works") (by decide) rfl (by first | decide | simp [lg_sl, va_cat, vi_cat, vl_cat]) (fun p e s m below meth c A C hZ hr hin9 => ?_)
  refine G_lv C (lv' := [(0, va_rf (some x0)), (1, Value.int x1), (2, Value.int x2), (3, Value.int x3)]) [0, 1, 2, 3] (by first | rfl | simp [lv_pick, lv_args, va_cat, vi_cat, vl_cat]) ?_
  unfold w_X7_placeAt at h
  refine G_aload_n C (x := (some x0)) 0 dX7_placeAt_0 rfl rfl ?_
  refine G_iload_n C (x := x1) 1 dX7_placeAt_1 rfl rfl ?_
  obtain ⟨hk1, h⟩ := h
  refine G_putI C (CC := RX7) (Tf := TX7) (N := 18) (k := 8) (i := 5) (f := 805) (x := x1) (ty0 := tyX7) (ty := .int) hk1 (by decide) rfl (fin fwX7) tyX7_ok nmX7 (by decide) (im tw_4_220) rfl rfl rfl rfl rfl rfl rfl dX7_placeAt_2 ?_
  generalize e3 : sI S 805 x0 x1 = S2
  have h := h S2 e3.symm
  refine G_aload_n C (x := (some x0)) 0 dX7_placeAt_5 rfl rfl ?_
  refine G_iload_n C (x := x2) 2 dX7_placeAt_6 rfl rfl ?_
  refine G_putI C (CC := RX7) (Tf := TX7) (N := 18) (k := 8) (i := 6) (f := 806) (x := x2) (ty0 := tyX7) (ty := .int) (ksI e3.symm hk1) (by decide) rfl (fin fwX7) tyX7_ok nmX7 (by decide) (im tw_4_221) rfl rfl rfl rfl rfl rfl rfl dX7_placeAt_7 ?_
  generalize e5 : sI S2 806 x0 x2 = S4
  have h := h S4 e5.symm
  refine G_aload_n C (x := (some x0)) 0 dX7_placeAt_10 rfl rfl ?_
  refine G_iload_n C (x := x3) 3 dX7_placeAt_11 rfl rfl ?_
  refine G_putI C (CC := RX7) (Tf := TX7) (N := 18) (k := 8) (i := 7) (f := 807) (x := x3) (ty0 := tyX7) (ty := .int) (ksI e5.symm (ksI e3.symm hk1)) (by decide) rfl (fin fwX7) tyX7_ok nmX7 (by decide) (im tw_4_222) rfl rfl rfl rfl rfl rfl rfl dX7_placeAt_12 ?_
  generalize e7 : sI S4 807 x0 x3 = S6
  have h := h S6 e7.symm
  exact G_vret C (mc := 0) (ms := 0) (post := post) hr (Nat.le_of_ble_eq_true rfl) (Nat.le_of_ble_eq_true rfl) dX7_placeAt_15 h
set_option maxHeartbeats 4000000 in
set_option maxRecDepth 100000 in
theorem c_X7_planFor (l : Launch) (D : va_G) (cy : Nat → Nat) (x0 : Nat) (x1 : Int32) (x2 : Int32) (S : PT) (post : PT → Prop) (h : w_X7_planFor x0 x1 x2 S post) : Mv l yX7_planFor (Wm yX7_planFor prog_9_method_3_code 3 (Option.none : Option Jvm.ClassFile.FieldType)) 0 0 D cy [va_rf (some x0), Value.int x1, Value.int x2] S 0 0 post := by
  refine Mv_of (own := "Trenchboard$Works") (by decide) rfl (by first | decide | simp [lg_sl, va_cat, vi_cat, vl_cat]) (fun p e s m below meth c A C hZ hr hin9 => ?_)
  refine G_lv C (lv' := [(0, va_rf (some x0)), (1, Value.int x1), (2, Value.int x2)]) [0, 1, 2] (by first | rfl | simp [lv_pick, lv_args, va_cat, vi_cat, vl_cat]) ?_
  unfold w_X7_planFor at h
  refine G_aload_n C (x := (some x0)) 0 dX7_planFor_0 rfl rfl ?_
  refine G_iload_n C (x := x1) 1 dX7_planFor_1 rfl rfl ?_
  obtain ⟨hk1, h⟩ := h
  refine G_putI C (CC := RX7) (Tf := TX7) (N := 18) (k := 8) (i := 8) (f := 808) (x := x1) (ty0 := tyX7) (ty := .int) hk1 (by decide) rfl (fin fwX7) tyX7_ok nmX7 (by decide) (im tw_4_225) rfl rfl rfl rfl rfl rfl rfl dX7_planFor_2 ?_
  generalize e3 : sI S 808 x0 x1 = S2
  have h := h S2 e3.symm
  refine G_aload_n C (x := (some x0)) 0 dX7_planFor_5 rfl rfl ?_
  refine G_iload_n C (x := x1) 1 dX7_planFor_6 rfl rfl ?_
  refine G_iload_n C (x := x2) 2 dX7_planFor_7 rfl rfl ?_
  refine G_iadd C dX7_planFor_8 ?_
  refine G_iconst C (v := 1) dX7_planFor_9 (by decide) ?_
  refine G_isub C dX7_planFor_10 ?_
  refine G_putI C (CC := RX7) (Tf := TX7) (N := 18) (k := 8) (i := 9) (f := 809) (x := ((x1 + x2) - 1)) (ty0 := tyX7) (ty := .int) (ksI e3.symm hk1) (by decide) rfl (fin fwX7) tyX7_ok nmX7 (by decide) (im tw_4_227) rfl rfl rfl rfl rfl rfl rfl dX7_planFor_11 ?_
  generalize e5 : sI S2 809 x0 ((x1 + x2) - 1) = S4
  have h := h S4 e5.symm
  exact G_vret C (mc := 0) (ms := 0) (post := post) hr (Nat.le_of_ble_eq_true rfl) (Nat.le_of_ble_eq_true rfl) dX7_planFor_14 h
set_option maxHeartbeats 4000000 in
set_option maxRecDepth 100000 in
theorem c_X7_bit (l : Launch) (D : va_G) (cy : Nat → Nat) (x0 : Nat) (S : PT) (post : Int32 → PT → Prop) (h : w_X7_bit x0 S post) : Mi l yX7_bit (Wm yX7_bit prog_9_method_4_code 1 (Option.some Jvm.ClassFile.FieldType.int)) 0 0 D cy [va_rf (some x0)] S 0 0 post := by
  refine Mi_of (own := "Trenchboard$Works") (by decide) rfl (by first | decide | simp [lg_sl, va_cat, vi_cat, vl_cat]) (fun p e s m below meth c A C hZ hr hin9 => ?_)
  refine G_lv C (lv' := [(0, va_rf (some x0))]) [0] (by first | rfl | simp [lv_pick, lv_args, va_cat, vi_cat, vl_cat]) ?_
  unfold w_X7_bit at h
  refine G_iconst C (v := 1) dX7_bit_0 (by decide) ?_
  refine G_aload_n C (x := (some x0)) 0 dX7_bit_1 rfl rfl ?_
  obtain ⟨hk1, h⟩ := h
  refine G_get C (CC := RX7) (Tf := TX7) (N := 18) (k := 8) (i := 0) (v := Value.int (gI S 800 x0)) hk1 (by decide) rfl (fin fwX7) (by decide) (im tw_4_211) rfl rfl dX7_bit_2 ?_
  refine G_ishl C dX7_bit_5 ?_
  exact G_iret C (mc := 0) (ms := 0) (post := post) hr (Nat.le_of_ble_eq_true rfl) (Nat.le_of_ble_eq_true rfl) dX7_bit_6 h
set_option maxHeartbeats 4000000 in
set_option maxRecDepth 100000 in
theorem c_X7_agreesWith (l : Launch) (D : va_G) (cy : Nat → Nat) (x0 : Nat) (x1 : Option Nat) (S : PT) (post : Int32 → PT → Prop) (h : w_X7_agreesWith x0 x1 S post) : Mi l yX7_agreesWith (Wm yX7_agreesWith prog_9_method_5_code 2 (Option.some Jvm.ClassFile.FieldType.boolean)) 1 20 D cy [va_rf (some x0), va_rf x1] S 0 0 (fun r S => bo r ∧ post r S) := by
  refine Mi_of (own := "Trenchboard$Works") (by decide) rfl (by first | decide | simp [lg_sl, va_cat, vi_cat, vl_cat]) (fun p e s m below meth c A C hZ hr hin9 => ?_)
  have J17 : ∀ (S : PT) (s0 : Int32), w_X7_agreesWith_b17 x0 x1 post S s0 → G p l e { frames := 1, cells := 0, slots := 0, locals := 20 } s m [va_rf (some x0), va_rf x1].toArray below meth c D cy A s.heap 2 (QMi below D cy A [va_rf (some x0), va_rf x1] s 0 0 (fun r S => bo r ∧ post r S)) S 0 0 17 [] [Value.int s0] := by
    intro S s0 h
    unfold w_X7_agreesWith_b17 at h
    obtain ⟨hb1, h⟩ := h
    exact G_zret C (mc := 0) (ms := 0) (post := (fun r S => bo r ∧ post r S)) (bo_nar hb1) hr (Nat.le_of_ble_eq_true rfl) (Nat.le_of_ble_eq_true rfl) dX7_agreesWith_17 ⟨hb1, h⟩
  refine G_lv C (lv' := [(0, va_rf (some x0)), (1, va_rf x1)]) [0, 1] (by first | rfl | simp [lv_pick, lv_args, va_cat, vi_cat, vl_cat]) ?_
  unfold w_X7_agreesWith at h
  refine G_aload_n C (x := (some x0)) 0 dX7_agreesWith_0 rfl rfl ?_
  obtain ⟨hk2, h⟩ := h
  refine G_get C (CC := RX7) (Tf := TX7) (N := 18) (k := 8) (i := 14) (v := Value.int (gI S 814 x0)) hk2 (by decide) rfl (fin fwX7) (by decide) (im tw_4_235) rfl rfl dX7_agreesWith_1 ?_
  refine G_aload_n C (x := x1) 1 dX7_agreesWith_4 rfl rfl ?_
  obtain ⟨a3, ha4, h⟩ := h
  obtain ⟨hk5, h⟩ := h
  refine G_callVi C hZ (Tf := TX7) (N := 18) hk5 (by decide) rfl tw_3_141 tw_3_142 tw_3_143 tw_1_21 tw_3_144 hy_X7_bit ⟨Nat.le_of_ble_eq_true rfl, Nat.le_of_ble_eq_true rfl⟩ (As := []) (rest := [Value.int (gI S 814 x0)]) (c_X7_bit l D cy a3 S _ h) rfl (by first | rfl | (simp only [ha4]; rfl) | simp only [ha4]) (by simp [va_cat, vi_cat, vl_cat]) dX7_agreesWith_5 ⟨Nat.le_of_ble_eq_true rfl, Nat.le_of_ble_eq_true rfl⟩ (fun r7 S6 h => ?_)
  refine G_iand C dX7_agreesWith_8 ?_
  refine G_if_eq C (tgt := 16) dX7_agreesWith_9 (by decide) (fun hc => ?_) (fun hc => ?_)
  · have h := h.1 hc
    refine G_iconst C (v := 0) dX7_agreesWith_16 (by decide) ?_
    refine G_lv C (lv' := []) [] rfl ?_
    exact J17 _ _ h
  · have h := h.2 hc
    refine G_iconst C (v := 1) dX7_agreesWith_12 (by decide) ?_
    refine G_goto C (tgt := 17) dX7_agreesWith_13 (by decide) ?_
    refine G_lv C (lv' := []) [] rfl ?_
    exact J17 _ _ h
set_option maxHeartbeats 4000000 in
set_option maxRecDepth 100000 in
theorem c_X7_isStanding (l : Launch) (D : va_G) (cy : Nat → Nat) (x0 : Nat) (S : PT) (post : Int32 → PT → Prop) (h : w_X7_isStanding x0 S post) : Mi l yX7_isStanding (Wm yX7_isStanding prog_9_method_6_code 1 (Option.some Jvm.ClassFile.FieldType.boolean)) 0 0 D cy [va_rf (some x0)] S 0 0 (fun r S => bo r ∧ post r S) := by
  refine Mi_of (own := "Trenchboard$Works") (by decide) rfl (by first | decide | simp [lg_sl, va_cat, vi_cat, vl_cat]) (fun p e s m below meth c A C hZ hr hin9 => ?_)
  have J21 : ∀ (S : PT) (s0 : Int32), w_X7_isStanding_b21 x0 post S s0 → G p l e { frames := 0, cells := 0, slots := 0, locals := 0 } s m [va_rf (some x0)].toArray below meth c D cy A s.heap 1 (QMi below D cy A [va_rf (some x0)] s 0 0 (fun r S => bo r ∧ post r S)) S 0 0 21 [] [Value.int s0] := by
    intro S s0 h
    unfold w_X7_isStanding_b21 at h
    obtain ⟨hb1, h⟩ := h
    exact G_zret C (mc := 0) (ms := 0) (post := (fun r S => bo r ∧ post r S)) (bo_nar hb1) hr (Nat.le_of_ble_eq_true rfl) (Nat.le_of_ble_eq_true rfl) dX7_isStanding_21 ⟨hb1, h⟩
  have J16 : ∀ (S : PT), w_X7_isStanding_b16 x0 post S → G p l e { frames := 0, cells := 0, slots := 0, locals := 0 } s m [va_rf (some x0)].toArray below meth c D cy A s.heap 1 (QMi below D cy A [va_rf (some x0)] s 0 0 (fun r S => bo r ∧ post r S)) S 0 0 16 [] [] := by
    intro S h
    unfold w_X7_isStanding_b16 at h
    refine G_iconst C (v := 1) dX7_isStanding_16 (by decide) ?_
    refine G_goto C (tgt := 21) dX7_isStanding_17 (by decide) ?_
    refine G_lv C (lv' := []) [] rfl ?_
    exact J21 _ _ h
  refine G_lv C (lv' := [(0, va_rf (some x0))]) [0] (by first | rfl | simp [lv_pick, lv_args, va_cat, vi_cat, vl_cat]) ?_
  unfold w_X7_isStanding at h
  refine G_aload_n C (x := (some x0)) 0 dX7_isStanding_0 rfl rfl ?_
  obtain ⟨hk2, h⟩ := h
  refine G_get C (CC := RX7) (Tf := TX7) (N := 18) (k := 8) (i := 10) (v := Value.int (gI S 810 x0)) hk2 (by decide) rfl (fin fwX7) (by decide) (im tw_4_229) rfl rfl dX7_isStanding_1 ?_
  refine G_iconst C (v := 1) dX7_isStanding_4 (by decide) ?_
  refine G_icmp_eq C (tgt := 16) dX7_isStanding_5 (by decide) (fun hc => ?_) (fun hc => ?_)
  · have h := h.1 hc
    refine G_lv C (lv' := []) [] rfl ?_
    exact J16 _ h
  · have h := h.2 hc
    refine G_aload_n C (x := (some x0)) 0 dX7_isStanding_8 rfl rfl ?_
    refine G_get C (CC := RX7) (Tf := TX7) (N := 18) (k := 8) (i := 10) (v := Value.int (gI S 810 x0)) hk2 (by decide) rfl (fin fwX7) (by decide) (im tw_4_229) rfl rfl dX7_isStanding_9 ?_
    refine G_iconst C (v := 3) dX7_isStanding_12 (by decide) ?_
    refine G_icmp_ne C (tgt := 20) dX7_isStanding_13 (by decide) (fun hc => ?_) (fun hc => ?_)
    · have h := h.1 hc
      refine G_iconst C (v := 0) dX7_isStanding_20 (by decide) ?_
      refine G_lv C (lv' := []) [] rfl ?_
      exact J21 _ _ h
    · have h := h.2 hc
      refine G_lv C (lv' := []) [] rfl ?_
      exact J16 _ h
set_option maxHeartbeats 4000000 in
set_option maxRecDepth 100000 in
theorem c_X7_isOver (l : Launch) (D : va_G) (cy : Nat → Nat) (x0 : Nat) (S : PT) (post : Int32 → PT → Prop) (h : w_X7_isOver x0 S post) : Mi l yX7_isOver (Wm yX7_isOver prog_9_method_7_code 1 (Option.some Jvm.ClassFile.FieldType.boolean)) 0 0 D cy [va_rf (some x0)] S 0 0 (fun r S => bo r ∧ post r S) := by
  refine Mi_of (own := "Trenchboard$Works") (by decide) rfl (by first | decide | simp [lg_sl, va_cat, vi_cat, vl_cat]) (fun p e s m below meth c A C hZ hr hin9 => ?_)
  have J21 : ∀ (S : PT) (s0 : Int32), w_X7_isOver_b21 x0 post S s0 → G p l e { frames := 0, cells := 0, slots := 0, locals := 0 } s m [va_rf (some x0)].toArray below meth c D cy A s.heap 1 (QMi below D cy A [va_rf (some x0)] s 0 0 (fun r S => bo r ∧ post r S)) S 0 0 21 [] [Value.int s0] := by
    intro S s0 h
    unfold w_X7_isOver_b21 at h
    obtain ⟨hb1, h⟩ := h
    exact G_zret C (mc := 0) (ms := 0) (post := (fun r S => bo r ∧ post r S)) (bo_nar hb1) hr (Nat.le_of_ble_eq_true rfl) (Nat.le_of_ble_eq_true rfl) dX7_isOver_21 ⟨hb1, h⟩
  have J16 : ∀ (S : PT), w_X7_isOver_b16 x0 post S → G p l e { frames := 0, cells := 0, slots := 0, locals := 0 } s m [va_rf (some x0)].toArray below meth c D cy A s.heap 1 (QMi below D cy A [va_rf (some x0)] s 0 0 (fun r S => bo r ∧ post r S)) S 0 0 16 [] [] := by
    intro S h
    unfold w_X7_isOver_b16 at h
    refine G_iconst C (v := 1) dX7_isOver_16 (by decide) ?_
    refine G_goto C (tgt := 21) dX7_isOver_17 (by decide) ?_
    refine G_lv C (lv' := []) [] rfl ?_
    exact J21 _ _ h
  refine G_lv C (lv' := [(0, va_rf (some x0))]) [0] (by first | rfl | simp [lv_pick, lv_args, va_cat, vi_cat, vl_cat]) ?_
  unfold w_X7_isOver at h
  refine G_aload_n C (x := (some x0)) 0 dX7_isOver_0 rfl rfl ?_
  obtain ⟨hk2, h⟩ := h
  refine G_get C (CC := RX7) (Tf := TX7) (N := 18) (k := 8) (i := 10) (v := Value.int (gI S 810 x0)) hk2 (by decide) rfl (fin fwX7) (by decide) (im tw_4_229) rfl rfl dX7_isOver_1 ?_
  refine G_iconst C (v := 2) dX7_isOver_4 (by decide) ?_
  refine G_icmp_eq C (tgt := 16) dX7_isOver_5 (by decide) (fun hc => ?_) (fun hc => ?_)
  · have h := h.1 hc
    refine G_lv C (lv' := []) [] rfl ?_
    exact J16 _ h
  · have h := h.2 hc
    refine G_aload_n C (x := (some x0)) 0 dX7_isOver_8 rfl rfl ?_
    refine G_get C (CC := RX7) (Tf := TX7) (N := 18) (k := 8) (i := 10) (v := Value.int (gI S 810 x0)) hk2 (by decide) rfl (fin fwX7) (by decide) (im tw_4_229) rfl rfl dX7_isOver_9 ?_
    refine G_iconst C (v := 4) dX7_isOver_12 (by decide) ?_
    refine G_icmp_ne C (tgt := 20) dX7_isOver_13 (by decide) (fun hc => ?_) (fun hc => ?_)
    · have h := h.1 hc
      refine G_iconst C (v := 0) dX7_isOver_20 (by decide) ?_
      refine G_lv C (lv' := []) [] rfl ?_
      exact J21 _ _ h
    · have h := h.2 hc
      refine G_lv C (lv' := []) [] rfl ?_
      exact J16 _ h
set_option maxHeartbeats 4000000 in
set_option maxRecDepth 100000 in
theorem c_X7_hasCondition (l : Launch) (D : va_G) (cy : Nat → Nat) (x0 : Nat) (x1 : Int32) (S : PT) (post : Int32 → PT → Prop) (h : w_X7_hasCondition x0 x1 S post) : Mi l yX7_hasCondition (Wm yX7_hasCondition prog_9_method_8_code 2 (Option.some Jvm.ClassFile.FieldType.boolean)) 0 0 D cy [va_rf (some x0), Value.int x1] S 0 0 (fun r S => bo r ∧ post r S) := by
  refine Mi_of (own := "Trenchboard$Works") (by decide) rfl (by first | decide | simp [lg_sl, va_cat, vi_cat, vl_cat]) (fun p e s m below meth c A C hZ hr hin9 => ?_)
  have J14 : ∀ (S : PT) (s0 : Int32), w_X7_hasCondition_b14 x0 x1 post S s0 → G p l e { frames := 0, cells := 0, slots := 0, locals := 0 } s m [va_rf (some x0), Value.int x1].toArray below meth c D cy A s.heap 2 (QMi below D cy A [va_rf (some x0), Value.int x1] s 0 0 (fun r S => bo r ∧ post r S)) S 0 0 14 [] [Value.int s0] := by
    intro S s0 h
    unfold w_X7_hasCondition_b14 at h
    obtain ⟨hb1, h⟩ := h
    exact G_zret C (mc := 0) (ms := 0) (post := (fun r S => bo r ∧ post r S)) (bo_nar hb1) hr (Nat.le_of_ble_eq_true rfl) (Nat.le_of_ble_eq_true rfl) dX7_hasCondition_14 ⟨hb1, h⟩
  refine G_lv C (lv' := [(0, va_rf (some x0)), (1, Value.int x1)]) [0, 1] (by first | rfl | simp [lv_pick, lv_args, va_cat, vi_cat, vl_cat]) ?_
  unfold w_X7_hasCondition at h
  refine G_aload_n C (x := (some x0)) 0 dX7_hasCondition_0 rfl rfl ?_
  obtain ⟨hk2, h⟩ := h
  refine G_get C (CC := RX7) (Tf := TX7) (N := 18) (k := 8) (i := 11) (v := Value.int (gI S 811 x0)) hk2 (by decide) rfl (fin fwX7) (by decide) (im tw_4_231) rfl rfl dX7_hasCondition_1 ?_
  refine G_iload_n C (x := x1) 1 dX7_hasCondition_4 rfl rfl ?_
  refine G_iand C dX7_hasCondition_5 ?_
  refine G_if_eq C (tgt := 13) dX7_hasCondition_6 (by decide) (fun hc => ?_) (fun hc => ?_)
  · have h := h.1 hc
    refine G_iconst C (v := 0) dX7_hasCondition_13 (by decide) ?_
    refine G_lv C (lv' := []) [] rfl ?_
    exact J14 _ _ h
  · have h := h.2 hc
    refine G_iconst C (v := 1) dX7_hasCondition_9 (by decide) ?_
    refine G_goto C (tgt := 14) dX7_hasCondition_10 (by decide) ?_
    refine G_lv C (lv' := []) [] rfl ?_
    exact J14 _ _ h
set_option maxHeartbeats 4000000 in
set_option maxRecDepth 100000 in
theorem c_X7_takesStreet (l : Launch) (D : va_G) (cy : Nat → Nat) (x0 : Nat) (S : PT) (post : Int32 → PT → Prop) (h : w_X7_takesStreet x0 S post) : Mi l yX7_takesStreet (Wm yX7_takesStreet prog_9_method_9_code 1 (Option.some Jvm.ClassFile.FieldType.boolean)) 0 0 D cy [va_rf (some x0)] S 0 0 (fun r S => bo r ∧ post r S) := by
  refine Mi_of (own := "Trenchboard$Works") (by decide) rfl (by first | decide | simp [lg_sl, va_cat, vi_cat, vl_cat]) (fun p e s m below meth c A C hZ hr hin9 => ?_)
  have J27 : ∀ (S : PT) (s0 : Int32), w_X7_takesStreet_b27 x0 post S s0 → G p l e { frames := 0, cells := 0, slots := 0, locals := 0 } s m [va_rf (some x0)].toArray below meth c D cy A s.heap 1 (QMi below D cy A [va_rf (some x0)] s 0 0 (fun r S => bo r ∧ post r S)) S 0 0 27 [] [Value.int s0] := by
    intro S s0 h
    unfold w_X7_takesStreet_b27 at h
    obtain ⟨hb1, h⟩ := h
    exact G_zret C (mc := 0) (ms := 0) (post := (fun r S => bo r ∧ post r S)) (bo_nar hb1) hr (Nat.le_of_ble_eq_true rfl) (Nat.le_of_ble_eq_true rfl) dX7_takesStreet_27 ⟨hb1, h⟩
  have J26 : ∀ (S : PT), w_X7_takesStreet_b26 x0 post S → G p l e { frames := 0, cells := 0, slots := 0, locals := 0 } s m [va_rf (some x0)].toArray below meth c D cy A s.heap 1 (QMi below D cy A [va_rf (some x0)] s 0 0 (fun r S => bo r ∧ post r S)) S 0 0 26 [] [] := by
    intro S h
    unfold w_X7_takesStreet_b26 at h
    refine G_iconst C (v := 0) dX7_takesStreet_26 (by decide) ?_
    refine G_lv C (lv' := []) [] rfl ?_
    exact J27 _ _ h
  refine G_lv C (lv' := [(0, va_rf (some x0))]) [0] (by first | rfl | simp [lv_pick, lv_args, va_cat, vi_cat, vl_cat]) ?_
  unfold w_X7_takesStreet at h
  refine G_aload_n C (x := (some x0)) 0 dX7_takesStreet_0 rfl rfl ?_
  obtain ⟨hk2, h⟩ := h
  refine G_get C (CC := RX7) (Tf := TX7) (N := 18) (k := 8) (i := 10) (v := Value.int (gI S 810 x0)) hk2 (by decide) rfl (fin fwX7) (by decide) (im tw_4_229) rfl rfl dX7_takesStreet_1 ?_
  refine G_iconst C (v := 3) dX7_takesStreet_4 (by decide) ?_
  refine G_icmp_ne C (tgt := 26) dX7_takesStreet_5 (by decide) (fun hc => ?_) (fun hc => ?_)
  · have h := h.1 hc
    refine G_lv C (lv' := []) [] rfl ?_
    exact J26 _ h
  · have h := h.2 hc
    refine G_aload_n C (x := (some x0)) 0 dX7_takesStreet_8 rfl rfl ?_
    refine G_get C (CC := RX7) (Tf := TX7) (N := 18) (k := 8) (i := 15) (v := Value.int (gI S 815 x0)) hk2 (by decide) rfl (fin fwX7) (by decide) (im tw_4_237) rfl rfl dX7_takesStreet_9 ?_
    refine G_if_le C (tgt := 26) dX7_takesStreet_12 (by decide) (fun hc => ?_) (fun hc => ?_)
    · have h := h.1 hc
      refine G_lv C (lv' := []) [] rfl ?_
      exact J26 _ h
    · have h := h.2 hc
      refine G_aload_n C (x := (some x0)) 0 dX7_takesStreet_15 rfl rfl ?_
      refine G_get C (CC := RX7) (Tf := TX7) (N := 18) (k := 8) (i := 16) (v := Value.int (gI S 816 x0)) hk2 (by decide) rfl (fin fwX7) (by decide) (im tw_4_239) rfl rfl dX7_takesStreet_16 ?_
      refine G_if_ne C (tgt := 26) dX7_takesStreet_19 (by decide) (fun hc => ?_) (fun hc => ?_)
      · have h := h.1 hc
        refine G_lv C (lv' := []) [] rfl ?_
        exact J26 _ h
      · have h := h.2 hc
        refine G_iconst C (v := 1) dX7_takesStreet_22 (by decide) ?_
        refine G_goto C (tgt := 27) dX7_takesStreet_23 (by decide) ?_
        refine G_lv C (lv' := []) [] rfl ?_
        exact J27 _ _ h
set_option maxHeartbeats 4000000 in
set_option maxRecDepth 100000 in
theorem c_X7_endOn (l : Launch) (D : va_G) (cy : Nat → Nat) (x0 : Nat) (x1 : Int32) (S : PT) (post : Int32 → PT → Prop) (h : w_X7_endOn x0 x1 S post) : Mi l yX7_endOn (Wm yX7_endOn prog_9_method_10_code 2 (Option.some Jvm.ClassFile.FieldType.int)) 1 21 D cy [va_rf (some x0), Value.int x1] S 0 0 post := by
  refine Mi_of (own := "Trenchboard$Works") (by decide) rfl (by first | decide | simp [lg_sl, va_cat, vi_cat, vl_cat]) (fun p e s m below meth c A C hZ hr hin9 => ?_)
  have J23 : ∀ (S : PT) (s0 : Int32), w_X7_endOn_b23 x0 x1 post S s0 → G p l e { frames := 1, cells := 0, slots := 0, locals := 21 } s m [va_rf (some x0), Value.int x1].toArray below meth c D cy A s.heap 2 (QMi below D cy A [va_rf (some x0), Value.int x1] s 0 0 post) S 0 0 23 [] [Value.int s0] := by
    intro S s0 h
    unfold w_X7_endOn_b23 at h
    exact G_iret C (mc := 0) (ms := 0) (post := post) hr (Nat.le_of_ble_eq_true rfl) (Nat.le_of_ble_eq_true rfl) dX7_endOn_23 h
  refine G_lv C (lv' := [(0, va_rf (some x0)), (1, Value.int x1)]) [0, 1] (by first | rfl | simp [lv_pick, lv_args, va_cat, vi_cat, vl_cat]) ?_
  unfold w_X7_endOn at h
  refine G_aload_n C (x := (some x0)) 0 dX7_endOn_0 rfl rfl ?_
  obtain ⟨hk1, h⟩ := h
  refine G_get C (CC := RX7) (Tf := TX7) (N := 18) (k := 8) (i := 10) (v := Value.int (gI S 810 x0)) hk1 (by decide) rfl (fin fwX7) (by decide) (im tw_4_229) rfl rfl dX7_endOn_1 ?_
  refine G_iconst C (v := 3) dX7_endOn_4 (by decide) ?_
  refine G_icmp_ne C (tgt := 19) dX7_endOn_5 (by decide) (fun hc => ?_) (fun hc => ?_)
  · have h := h.1 hc
    refine G_aload_n C (x := (some x0)) 0 dX7_endOn_19 rfl rfl ?_
    refine G_get C (CC := RX7) (Tf := TX7) (N := 18) (k := 8) (i := 9) (v := Value.int (gI S 809 x0)) hk1 (by decide) rfl (fin fwX7) (by decide) (im tw_4_227) rfl rfl dX7_endOn_20 ?_
    refine G_lv C (lv' := []) [] rfl ?_
    exact J23 _ _ h
  · have h := h.2 hc
    refine G_aload_n C (x := (some x0)) 0 dX7_endOn_8 rfl rfl ?_
    refine G_get C (CC := RX7) (Tf := TX7) (N := 18) (k := 8) (i := 9) (v := Value.int (gI S 809 x0)) hk1 (by decide) rfl (fin fwX7) (by decide) (im tw_4_227) rfl rfl dX7_endOn_9 ?_
    refine G_iload_n C (x := x1) 1 dX7_endOn_12 rfl rfl ?_
    refine G_mmax C (im tw_3_116) (im tw_2_69) (im tw_1_14) (im tw_2_70) (Nat.le_of_ble_eq_true rfl) (by simp [va_cat, vi_cat, vl_cat]) (by omega) (by omega) dX7_endOn_13 ?_
    refine G_goto C (tgt := 23) dX7_endOn_16 (by decide) ?_
    refine G_lv C (lv' := []) [] rfl ?_
    exact J23 _ _ h
set_option maxHeartbeats 4000000 in
set_option maxRecDepth 100000 in
theorem c_X7_settledOn (l : Launch) (D : va_G) (cy : Nat → Nat) (x0 : Nat) (S : PT) (post : Int32 → PT → Prop) (h : w_X7_settledOn x0 S post) : Mi l yX7_settledOn (Wm yX7_settledOn prog_9_method_11_code 1 (Option.some Jvm.ClassFile.FieldType.int)) 0 0 D cy [va_rf (some x0)] S 0 0 post := by
  refine Mi_of (own := "Trenchboard$Works") (by decide) rfl (by first | decide | simp [lg_sl, va_cat, vi_cat, vl_cat]) (fun p e s m below meth c A C hZ hr hin9 => ?_)
  have J17 : ∀ (S : PT) (s0 : Int32) (s1 : Int32), w_X7_settledOn_b17 x0 post S s0 s1 → G p l e { frames := 0, cells := 0, slots := 0, locals := 0 } s m [va_rf (some x0)].toArray below meth c D cy A s.heap 1 (QMi below D cy A [va_rf (some x0)] s 0 0 post) S 0 0 17 [] [Value.int s1, Value.int s0] := by
    intro S s0 s1 h
    unfold w_X7_settledOn_b17 at h
    refine G_iadd C dX7_settledOn_17 ?_
    exact G_iret C (mc := 0) (ms := 0) (post := post) hr (Nat.le_of_ble_eq_true rfl) (Nat.le_of_ble_eq_true rfl) dX7_settledOn_18 h
  refine G_lv C (lv' := [(0, va_rf (some x0))]) [0] (by first | rfl | simp [lv_pick, lv_args, va_cat, vi_cat, vl_cat]) ?_
  unfold w_X7_settledOn at h
  refine G_aload_n C (x := (some x0)) 0 dX7_settledOn_0 rfl rfl ?_
  obtain ⟨hk1, h⟩ := h
  refine G_get C (CC := RX7) (Tf := TX7) (N := 18) (k := 8) (i := 4) (v := Value.int (gI S 804 x0)) hk1 (by decide) rfl (fin fwX7) (by decide) (im tw_4_219) rfl rfl dX7_settledOn_1 ?_
  refine G_aload_n C (x := (some x0)) 0 dX7_settledOn_4 rfl rfl ?_
  refine G_get C (CC := RX7) (Tf := TX7) (N := 18) (k := 8) (i := 3) (v := Value.int (gI S 803 x0)) hk1 (by decide) rfl (fin fwX7) (by decide) (im tw_4_217) rfl rfl dX7_settledOn_5 ?_
  refine G_iconst C (v := 2) dX7_settledOn_8 (by decide) ?_
  refine G_icmp_ne C (tgt := 16) dX7_settledOn_9 (by decide) (fun hc => ?_) (fun hc => ?_)
  · have h := h.1 hc
    refine G_iconst C (v := 5) dX7_settledOn_16 (by decide) ?_
    refine G_lv C (lv' := []) [] rfl ?_
    exact J17 _ _ _ h
  · have h := h.2 hc
    refine G_iconst C (v := 2) dX7_settledOn_12 (by decide) ?_
    refine G_goto C (tgt := 17) dX7_settledOn_13 (by decide) ?_
    refine G_lv C (lv' := []) [] rfl ?_
    exact J17 _ _ _ h
set_option maxHeartbeats 4000000 in
set_option maxRecDepth 100000 in
theorem c_X7_permitCost (l : Launch) (D : va_G) (cy : Nat → Nat) (x0 : Nat) (S : PT) (post : Int32 → PT → Prop) (h : w_X7_permitCost x0 S post) : Mi l yX7_permitCost (Wm yX7_permitCost prog_9_method_12_code 2 (Option.some Jvm.ClassFile.FieldType.int)) 1 20 D cy [va_rf (some x0)] S 0 0 post := by
  refine Mi_of (own := "Trenchboard$Works") (by decide) rfl (by first | decide | simp [lg_sl, va_cat, vi_cat, vl_cat]) (fun p e s m below meth c A C hZ hr hin9 => ?_)
  have J39 : ∀ (S : PT) (s0 : Int32), w_X7_permitCost_b39 x0 post S s0 → G p l e { frames := 1, cells := 0, slots := 0, locals := 20 } s m [va_rf (some x0)].toArray below meth c D cy A s.heap 2 (QMi below D cy A [va_rf (some x0)] s 0 0 post) S 0 0 39 [(0, va_rf (some x0))] [Value.int s0] := by
    intro S s0 h
    unfold w_X7_permitCost_b39 at h
    refine G_istore_n C (i := 1) (lv' := [(1, Value.int s0), (0, va_rf (some x0))]) dX7_permitCost_39 rfl (by decide) (by first | rfl | simp [va_cat, vi_cat, vl_cat]) ?_
    refine G_iload_n C (x := s0) 0 dX7_permitCost_40 rfl rfl ?_
    refine G_aload_n C (x := (some x0)) 1 dX7_permitCost_41 rfl rfl ?_
    obtain ⟨hk1, h⟩ := h
    refine G_get C (CC := RX7) (Tf := TX7) (N := 18) (k := 8) (i := 2) (v := va_rf (gP S 802 x0)) hk1 (by decide) rfl (fin fwX7) (by decide) (im tw_4_215) rfl rfl dX7_permitCost_42 ?_
    obtain ⟨a2, ha3, h⟩ := h
    obtain ⟨hk4, h⟩ := h
    refine G_callVi C hZ (Tf := TX4) (N := 12) hk4 (by decide) rfl tw_3_158 tw_3_159 tw_3_160 tw_1_13 tw_3_161 hy_X4_weight ⟨Nat.le_of_ble_eq_true rfl, Nat.le_of_ble_eq_true rfl⟩ (As := []) (rest := [Value.int s0]) (c_X4_weight l D cy a2 S _ h) rfl (by first | rfl | (simp only [ha3]; rfl) | simp only [ha3]) (by simp [va_cat, vi_cat, vl_cat]) dX7_permitCost_45 ⟨Nat.le_of_ble_eq_true rfl, Nat.le_of_ble_eq_true rfl⟩ (fun r6 S5 h => ?_)
    refine G_imul C dX7_permitCost_48 ?_
    exact G_iret C (mc := 0) (ms := 0) (post := post) hr (Nat.le_of_ble_eq_true rfl) (Nat.le_of_ble_eq_true rfl) dX7_permitCost_49 h
  refine G_lv C (lv' := [(0, va_rf (some x0))]) [0] (by first | rfl | simp [lv_pick, lv_args, va_cat, vi_cat, vl_cat]) ?_
  unfold w_X7_permitCost at h
  refine G_aload_n C (x := (some x0)) 0 dX7_permitCost_0 rfl rfl ?_
  obtain ⟨hk7, h⟩ := h
  refine G_get C (CC := RX7) (Tf := TX7) (N := 18) (k := 8) (i := 3) (v := Value.int (gI S 803 x0)) hk7 (by decide) rfl (fin fwX7) (by decide) (im tw_4_217) rfl rfl dX7_permitCost_1 ?_
  refine G_if_ne C (tgt := 12) dX7_permitCost_4 (by decide) (fun hc => ?_) (fun hc => ?_)
  · have h := h.1 hc
    refine G_aload_n C (x := (some x0)) 0 dX7_permitCost_12 rfl rfl ?_
    refine G_get C (CC := RX7) (Tf := TX7) (N := 18) (k := 8) (i := 3) (v := Value.int (gI S 803 x0)) hk7 (by decide) rfl (fin fwX7) (by decide) (im tw_4_217) rfl rfl dX7_permitCost_13 ?_
    refine G_iconst C (v := 1) dX7_permitCost_16 (by decide) ?_
    refine G_icmp_ne C (tgt := 25) dX7_permitCost_17 (by decide) (fun hc => ?_) (fun hc => ?_)
    · have h := h.1 hc
      refine G_aload_n C (x := (some x0)) 0 dX7_permitCost_25 rfl rfl ?_
      refine G_get C (CC := RX7) (Tf := TX7) (N := 18) (k := 8) (i := 3) (v := Value.int (gI S 803 x0)) hk7 (by decide) rfl (fin fwX7) (by decide) (im tw_4_217) rfl rfl dX7_permitCost_26 ?_
      refine G_iconst C (v := 2) dX7_permitCost_29 (by decide) ?_
      refine G_icmp_ne C (tgt := 38) dX7_permitCost_30 (by decide) (fun hc => ?_) (fun hc => ?_)
      · have h := h.1 hc
        refine G_iconst C (v := 0) dX7_permitCost_38 (by decide) ?_
        refine G_lv C (lv' := [(0, va_rf (some x0))]) [0] rfl ?_
        exact J39 _ _ h
      · have h := h.2 hc
        refine G_bipush C (v := 20) dX7_permitCost_33 (by decide) ?_
        refine G_goto C (tgt := 39) dX7_permitCost_35 (by decide) ?_
        refine G_lv C (lv' := [(0, va_rf (some x0))]) [0] rfl ?_
        exact J39 _ _ h
    · have h := h.2 hc
      refine G_bipush C (v := 40) dX7_permitCost_20 (by decide) ?_
      refine G_goto C (tgt := 39) dX7_permitCost_22 (by decide) ?_
      refine G_lv C (lv' := [(0, va_rf (some x0))]) [0] rfl ?_
      exact J39 _ _ h
  · have h := h.2 hc
    refine G_bipush C (v := 60) dX7_permitCost_7 (by decide) ?_
    refine G_goto C (tgt := 39) dX7_permitCost_9 (by decide) ?_
    refine G_lv C (lv' := [(0, va_rf (some x0))]) [0] rfl ?_
    exact J39 _ _ h
set_option maxHeartbeats 4000000 in
set_option maxRecDepth 100000 in
theorem c_X7_daysLiable (l : Launch) (D : va_G) (cy : Nat → Nat) (x0 : Nat) (S : PT) (post : Int32 → PT → Prop) (h : w_X7_daysLiable x0 S post) : Mi l yX7_daysLiable (Wm yX7_daysLiable prog_9_method_13_code 1 (Option.some Jvm.ClassFile.FieldType.int)) 0 0 D cy [va_rf (some x0)] S 0 0 post := by
  refine Mi_of (own := "Trenchboard$Works") (by decide) rfl (by first | decide | simp [lg_sl, va_cat, vi_cat, vl_cat]) (fun p e s m below meth c A C hZ hr hin9 => ?_)
  have J18 : ∀ (S : PT) (s0 : Int32), w_X7_daysLiable_b18 x0 post S s0 → G p l e { frames := 0, cells := 0, slots := 0, locals := 0 } s m [va_rf (some x0)].toArray below meth c D cy A s.heap 1 (QMi below D cy A [va_rf (some x0)] s 0 0 post) S 0 0 18 [] [Value.int s0] := by
    intro S s0 h
    unfold w_X7_daysLiable_b18 at h
    exact G_iret C (mc := 0) (ms := 0) (post := post) hr (Nat.le_of_ble_eq_true rfl) (Nat.le_of_ble_eq_true rfl) dX7_daysLiable_18 h
  refine G_lv C (lv' := [(0, va_rf (some x0))]) [0] (by first | rfl | simp [lv_pick, lv_args, va_cat, vi_cat, vl_cat]) ?_
  unfold w_X7_daysLiable at h
  refine G_aload_n C (x := (some x0)) 0 dX7_daysLiable_0 rfl rfl ?_
  obtain ⟨hk1, h⟩ := h
  refine G_get C (CC := RX7) (Tf := TX7) (N := 18) (k := 8) (i := 7) (v := Value.int (gI S 807 x0)) hk1 (by decide) rfl (fin fwX7) (by decide) (im tw_4_222) rfl rfl dX7_daysLiable_1 ?_
  refine G_bipush C (v := 120) dX7_daysLiable_4 (by decide) ?_
  refine G_icmp_lt C (tgt := 15) dX7_daysLiable_6 (by decide) (fun hc => ?_) (fun hc => ?_)
  · have h := h.1 hc
    refine G_sipush C (v := 200) dX7_daysLiable_15 (by decide) ?_
    refine G_lv C (lv' := []) [] rfl ?_
    exact J18 _ _ h
  · have h := h.2 hc
    refine G_sipush C (v := 300) dX7_daysLiable_9 (by decide) ?_
    refine G_goto C (tgt := 18) dX7_daysLiable_12 (by decide) ?_
    refine G_lv C (lv' := []) [] rfl ?_
    exact J18 _ _ h
set_option maxHeartbeats 4000000 in
set_option maxRecDepth 100000 in
theorem c_X7_ownMetreAt (l : Launch) (D : va_G) (cy : Nat → Nat) (x0 : Nat) (x1 : Int32) (S : PT) (post : Option Nat → PT → Prop) (h : w_X7_ownMetreAt x0 x1 S post) : Mq l yX7_ownMetreAt (Wm yX7_ownMetreAt prog_9_method_14_code 2 (Option.some (Jvm.ClassFile.FieldType.object "Trenchboard$Metre"))) 1 21 D cy [va_rf (some x0), Value.int x1] S 0 0 post := by
  refine Mq_of (own := "Trenchboard$Works") (by decide) rfl (by first | decide | simp [lg_sl, va_cat, vi_cat, vl_cat]) (fun p e s m below meth c A C hZ hr hin9 => ?_)
  have J28 : ∀ (S : PT) (s0 : Option Nat), w_X7_ownMetreAt_b28 x0 x1 post S s0 → G p l e { frames := 1, cells := 0, slots := 0, locals := 21 } s m [va_rf (some x0), Value.int x1].toArray below meth c D cy A s.heap 2 (QMq below D cy A [va_rf (some x0), Value.int x1] s 0 0 post) S 0 0 28 [] [va_rf s0] := by
    intro S s0 h
    unfold w_X7_ownMetreAt_b28 at h
    exact G_aret C (mc := 0) (ms := 0) (post := post) (v := s0) (Or.inl ⟨_, rfl⟩) hr (Nat.le_of_ble_eq_true rfl) (Nat.le_of_ble_eq_true rfl) dX7_ownMetreAt_28 h
  have J27 : ∀ (S : PT), w_X7_ownMetreAt_b27 x0 x1 post S → G p l e { frames := 1, cells := 0, slots := 0, locals := 21 } s m [va_rf (some x0), Value.int x1].toArray below meth c D cy A s.heap 2 (QMq below D cy A [va_rf (some x0), Value.int x1] s 0 0 post) S 0 0 27 [] [] := by
    intro S h
    unfold w_X7_ownMetreAt_b27 at h
    refine G_null C dX7_ownMetreAt_27 ?_
    refine G_lv C (lv' := []) [] rfl ?_
    exact J28 _ _ h
  refine G_lv C (lv' := [(0, va_rf (some x0)), (1, Value.int x1)]) [0, 1] (by first | rfl | simp [lv_pick, lv_args, va_cat, vi_cat, vl_cat]) ?_
  unfold w_X7_ownMetreAt at h
  refine G_iload_n C (x := x1) 1 dX7_ownMetreAt_0 rfl rfl ?_
  refine G_aload_n C (x := (some x0)) 0 dX7_ownMetreAt_1 rfl rfl ?_
  obtain ⟨hk1, h⟩ := h
  refine G_get C (CC := RX7) (Tf := TX7) (N := 18) (k := 8) (i := 5) (v := Value.int (gI S 805 x0)) hk1 (by decide) rfl (fin fwX7) (by decide) (im tw_4_220) rfl rfl dX7_ownMetreAt_2 ?_
  refine G_icmp_lt C (tgt := 27) dX7_ownMetreAt_5 (by decide) (fun hc => ?_) (fun hc => ?_)
  · have h := h.1 hc
    refine G_lv C (lv' := []) [] rfl ?_
    exact J27 _ h
  · have h := h.2 hc
    refine G_iload_n C (x := x1) 1 dX7_ownMetreAt_8 rfl rfl ?_
    refine G_aload_n C (x := (some x0)) 0 dX7_ownMetreAt_9 rfl rfl ?_
    refine G_get C (CC := RX7) (Tf := TX7) (N := 18) (k := 8) (i := 6) (v := Value.int (gI S 806 x0)) hk1 (by decide) rfl (fin fwX7) (by decide) (im tw_4_221) rfl rfl dX7_ownMetreAt_10 ?_
    refine G_icmp_gt C (tgt := 27) dX7_ownMetreAt_13 (by decide) (fun hc => ?_) (fun hc => ?_)
    · have h := h.1 hc
      refine G_lv C (lv' := []) [] rfl ?_
      exact J27 _ h
    · have h := h.2 hc
      refine G_aload_n C (x := (some x0)) 0 dX7_ownMetreAt_16 rfl rfl ?_
      refine G_get C (CC := RX7) (Tf := TX7) (N := 18) (k := 8) (i := 2) (v := va_rf (gP S 802 x0)) hk1 (by decide) rfl (fin fwX7) (by decide) (im tw_4_215) rfl rfl dX7_ownMetreAt_17 ?_
      refine G_iload_n C (x := x1) 1 dX7_ownMetreAt_20 rfl rfl ?_
      obtain ⟨a2, ha3, h⟩ := h
      obtain ⟨hk4, h⟩ := h
      refine G_callVq C hZ (Tf := TX4) (N := 12) hk4 (by decide) rfl tw_3_214 tw_1_139 tw_1_140 tw_1_13 tw_1_141 hy_X4_metreAt ⟨Nat.le_of_ble_eq_true rfl, Nat.le_of_ble_eq_true rfl⟩ (As := [Value.int x1]) (rest := []) (c_X4_metreAt l D cy a2 x1 S _ h) rfl (by first | rfl | (simp only [ha3]; rfl) | simp only [ha3]) (by simp [va_cat, vi_cat, vl_cat]) dX7_ownMetreAt_21 ⟨Nat.le_of_ble_eq_true rfl, Nat.le_of_ble_eq_true rfl⟩ (fun r6 S5 h => ?_)
      refine G_goto C (tgt := 28) dX7_ownMetreAt_24 (by decide) ?_
      refine G_lv C (lv' := []) [] rfl ?_
      exact J28 _ _ h
set_option maxHeartbeats 4000000 in
set_option maxRecDepth 100000 in
theorem c_X7_mayMeet (l : Launch) (D : va_G) (cy : Nat → Nat) (x0 : Option Nat) (x1 : Option Nat) (S : PT) (post : Int32 → PT → Prop) (h : w_X7_mayMeet x0 x1 S post) : Mi l yX7_mayMeet (Wm yX7_mayMeet prog_9_method_15_code 2 (Option.some Jvm.ClassFile.FieldType.boolean)) 1 20 D cy [va_rf x0, va_rf x1] S 0 0 (fun r S => bo r ∧ post r S) := by
  refine Mi_of (own := "Trenchboard$Works") (by decide) rfl (by first | decide | simp [lg_sl, va_cat, vi_cat, vl_cat]) (fun p e s m below meth c A C hZ hr hin9 => ?_)
  have J33 : ∀ (S : PT) (s0 : Int32), w_X7_mayMeet_b33 x0 x1 post S s0 → G p l e { frames := 1, cells := 0, slots := 0, locals := 20 } s m [va_rf x0, va_rf x1].toArray below meth c D cy A s.heap 2 (QMi below D cy A [va_rf x0, va_rf x1] s 0 0 (fun r S => bo r ∧ post r S)) S 0 0 33 [] [Value.int s0] := by
    intro S s0 h
    unfold w_X7_mayMeet_b33 at h
    obtain ⟨hb1, h⟩ := h
    exact G_zret C (mc := 0) (ms := 0) (post := (fun r S => bo r ∧ post r S)) (bo_nar hb1) hr (Nat.le_of_ble_eq_true rfl) (Nat.le_of_ble_eq_true rfl) dX7_mayMeet_33 ⟨hb1, h⟩
  have J32 : ∀ (S : PT), w_X7_mayMeet_b32 x0 x1 post S → G p l e { frames := 1, cells := 0, slots := 0, locals := 20 } s m [va_rf x0, va_rf x1].toArray below meth c D cy A s.heap 2 (QMi below D cy A [va_rf x0, va_rf x1] s 0 0 (fun r S => bo r ∧ post r S)) S 0 0 32 [] [] := by
    intro S h
    unfold w_X7_mayMeet_b32 at h
    refine G_iconst C (v := 0) dX7_mayMeet_32 (by decide) ?_
    refine G_lv C (lv' := []) [] rfl ?_
    exact J33 _ _ h
  have J28 : ∀ (S : PT), w_X7_mayMeet_b28 x0 x1 post S → G p l e { frames := 1, cells := 0, slots := 0, locals := 20 } s m [va_rf x0, va_rf x1].toArray below meth c D cy A s.heap 2 (QMi below D cy A [va_rf x0, va_rf x1] s 0 0 (fun r S => bo r ∧ post r S)) S 0 0 28 [] [] := by
    intro S h
    unfold w_X7_mayMeet_b28 at h
    refine G_iconst C (v := 1) dX7_mayMeet_28 (by decide) ?_
    refine G_goto C (tgt := 33) dX7_mayMeet_29 (by decide) ?_
    refine G_lv C (lv' := []) [] rfl ?_
    exact J33 _ _ h
  have J14 : ∀ (S : PT), w_X7_mayMeet_b14 x0 x1 post S → G p l e { frames := 1, cells := 0, slots := 0, locals := 20 } s m [va_rf x0, va_rf x1].toArray below meth c D cy A s.heap 2 (QMi below D cy A [va_rf x0, va_rf x1] s 0 0 (fun r S => bo r ∧ post r S)) S 0 0 14 [(0, va_rf x0), (1, va_rf x1)] [] := by
    intro S h
    unfold w_X7_mayMeet_b14 at h
    refine G_aload_n C (x := x1) 1 dX7_mayMeet_14 rfl rfl ?_
    obtain ⟨a2, ha3, h⟩ := h
    obtain ⟨hk4, h⟩ := h
    refine G_callVi C hZ (Tf := TX7) (N := 18) hk4 (by decide) rfl tw_3_132 tw_3_126 tw_3_127 tw_1_21 tw_3_128 hy_X7_isStanding ⟨Nat.le_of_ble_eq_true rfl, Nat.le_of_ble_eq_true rfl⟩ (As := []) (rest := []) (c_X7_isStanding l D cy a2 S _ h) rfl (by first | rfl | (simp only [ha3]; rfl) | simp only [ha3]) (by simp [va_cat, vi_cat, vl_cat]) dX7_mayMeet_15 ⟨Nat.le_of_ble_eq_true rfl, Nat.le_of_ble_eq_true rfl⟩ (fun r6 S5 h => ?_)
    obtain ⟨hb7, h⟩ := h
    refine G_if_eq C (tgt := 32) dX7_mayMeet_18 (by decide) (fun hc => ?_) (fun hc => ?_)
    · have h := h.1 hc
      refine G_lv C (lv' := []) [] rfl ?_
      exact J32 _ h
    · have h := h.2 hc
      refine G_aload_n C (x := x0) 0 dX7_mayMeet_21 rfl rfl ?_
      obtain ⟨a8, ha9, h⟩ := h
      obtain ⟨hk10, h⟩ := h
      refine G_callVi C hZ (Tf := TX7) (N := 18) hk10 (by decide) rfl tw_3_133 tw_3_134 tw_3_135 tw_1_21 tw_3_136 hy_X7_isOver ⟨Nat.le_of_ble_eq_true rfl, Nat.le_of_ble_eq_true rfl⟩ (As := []) (rest := []) (c_X7_isOver l D cy a8 S5 _ h) rfl (by first | rfl | (simp only [ha9]; rfl) | simp only [ha9]) (by simp [va_cat, vi_cat, vl_cat]) dX7_mayMeet_22 ⟨Nat.le_of_ble_eq_true rfl, Nat.le_of_ble_eq_true rfl⟩ (fun r12 S11 h => ?_)
      obtain ⟨hb13, h⟩ := h
      refine G_if_ne C (tgt := 32) dX7_mayMeet_25 (by decide) (fun hc => ?_) (fun hc => ?_)
      · have h := h.1 hc
        refine G_lv C (lv' := []) [] rfl ?_
        exact J32 _ h
      · have h := h.2 hc
        refine G_lv C (lv' := []) [] rfl ?_
        exact J28 _ h
  refine G_lv C (lv' := [(0, va_rf x0), (1, va_rf x1)]) [0, 1] (by first | rfl | simp [lv_pick, lv_args, va_cat, vi_cat, vl_cat]) ?_
  unfold w_X7_mayMeet at h
  refine G_aload_n C (x := x0) 0 dX7_mayMeet_0 rfl rfl ?_
  obtain ⟨a14, ha15, h⟩ := h
  obtain ⟨hk16, h⟩ := h
  refine G_callVi C hZ (Tf := TX7) (N := 18) hk16 (by decide) rfl tw_3_132 tw_3_126 tw_3_127 tw_1_21 tw_3_128 hy_X7_isStanding ⟨Nat.le_of_ble_eq_true rfl, Nat.le_of_ble_eq_true rfl⟩ (As := []) (rest := []) (c_X7_isStanding l D cy a14 S _ h) rfl (by first | rfl | (simp only [ha15]; rfl) | simp only [ha15]) (by simp [va_cat, vi_cat, vl_cat]) dX7_mayMeet_1 ⟨Nat.le_of_ble_eq_true rfl, Nat.le_of_ble_eq_true rfl⟩ (fun r18 S17 h => ?_)
  obtain ⟨hb19, h⟩ := h
  refine G_if_eq C (tgt := 14) dX7_mayMeet_4 (by decide) (fun hc => ?_) (fun hc => ?_)
  · have h := h.1 hc
    refine G_lv C (lv' := [(0, va_rf x0), (1, va_rf x1)]) [0, 1] rfl ?_
    exact J14 _ h
  · have h := h.2 hc
    refine G_aload_n C (x := x1) 1 dX7_mayMeet_7 rfl rfl ?_
    obtain ⟨a20, ha21, h⟩ := h
    obtain ⟨hk22, h⟩ := h
    refine G_callVi C hZ (Tf := TX7) (N := 18) hk22 (by decide) rfl tw_3_133 tw_3_134 tw_3_135 tw_1_21 tw_3_136 hy_X7_isOver ⟨Nat.le_of_ble_eq_true rfl, Nat.le_of_ble_eq_true rfl⟩ (As := []) (rest := []) (c_X7_isOver l D cy a20 S17 _ h) rfl (by first | rfl | (simp only [ha21]; rfl) | simp only [ha21]) (by simp [va_cat, vi_cat, vl_cat]) dX7_mayMeet_8 ⟨Nat.le_of_ble_eq_true rfl, Nat.le_of_ble_eq_true rfl⟩ (fun r24 S23 h => ?_)
    obtain ⟨hb25, h⟩ := h
    refine G_if_eq C (tgt := 28) dX7_mayMeet_11 (by decide) (fun hc => ?_) (fun hc => ?_)
    · have h := h.1 hc
      refine G_lv C (lv' := []) [] rfl ?_
      exact J28 _ h
    · have h := h.2 hc
      refine G_lv C (lv' := [(0, va_rf x0), (1, va_rf x1)]) [0, 1] rfl ?_
      exact J14 _ h
set_option maxHeartbeats 4000000 in
set_option maxRecDepth 100000 in
theorem c_X7_areNear (l : Launch) (D : va_G) (cy : Nat → Nat) (x0 : Option Nat) (x1 : Option Nat) (S : PT) (post : Int32 → PT → Prop) (h : w_X7_areNear x0 x1 S post) : Mi l yX7_areNear (Wm yX7_areNear prog_9_method_16_code 3 (Option.some Jvm.ClassFile.FieldType.boolean)) 1 21 D cy [va_rf x0, va_rf x1] S 0 0 (fun r S => bo r ∧ post r S) := by
  refine Mi_of (own := "Trenchboard$Works") (by decide) rfl (by first | decide | simp [lg_sl, va_cat, vi_cat, vl_cat]) (fun p e s m below meth c A C hZ hr hin9 => ?_)
  have J47 : ∀ (S : PT) (s0 : Int32), w_X7_areNear_b47 x0 x1 post S s0 → G p l e { frames := 1, cells := 0, slots := 0, locals := 21 } s m [va_rf x0, va_rf x1].toArray below meth c D cy A s.heap 3 (QMi below D cy A [va_rf x0, va_rf x1] s 0 0 (fun r S => bo r ∧ post r S)) S 0 0 47 [] [Value.int s0] := by
    intro S s0 h
    unfold w_X7_areNear_b47 at h
    obtain ⟨hb1, h⟩ := h
    exact G_zret C (mc := 0) (ms := 0) (post := (fun r S => bo r ∧ post r S)) (bo_nar hb1) hr (Nat.le_of_ble_eq_true rfl) (Nat.le_of_ble_eq_true rfl) dX7_areNear_47 ⟨hb1, h⟩
  have J81 : ∀ (S : PT) (s0 : Int32), w_X7_areNear_b81 x0 x1 post S s0 → G p l e { frames := 1, cells := 0, slots := 0, locals := 21 } s m [va_rf x0, va_rf x1].toArray below meth c D cy A s.heap 3 (QMi below D cy A [va_rf x0, va_rf x1] s 0 0 (fun r S => bo r ∧ post r S)) S 0 0 81 [] [Value.int s0] := by
    intro S s0 h
    unfold w_X7_areNear_b81 at h
    obtain ⟨hb2, h⟩ := h
    exact G_zret C (mc := 0) (ms := 0) (post := (fun r S => bo r ∧ post r S)) (bo_nar hb2) hr (Nat.le_of_ble_eq_true rfl) (Nat.le_of_ble_eq_true rfl) dX7_areNear_81 ⟨hb2, h⟩
  have J76 : ∀ (S : PT), w_X7_areNear_b76 x0 x1 post S → G p l e { frames := 1, cells := 0, slots := 0, locals := 21 } s m [va_rf x0, va_rf x1].toArray below meth c D cy A s.heap 3 (QMi below D cy A [va_rf x0, va_rf x1] s 0 0 (fun r S => bo r ∧ post r S)) S 0 0 76 [] [] := by
    intro S h
    unfold w_X7_areNear_b76 at h
    refine G_iconst C (v := 1) dX7_areNear_76 (by decide) ?_
    refine G_goto C (tgt := 81) dX7_areNear_77 (by decide) ?_
    refine G_lv C (lv' := []) [] rfl ?_
    exact J81 _ _ h
  refine G_lv C (lv' := [(0, va_rf x0), (1, va_rf x1)]) [0, 1] (by first | rfl | simp [lv_pick, lv_args, va_cat, vi_cat, vl_cat]) ?_
  unfold w_X7_areNear at h
  refine G_aload_n C (x := x0) 0 dX7_areNear_0 rfl rfl ?_
  obtain ⟨a3, ha4, h⟩ := h
  refine G_rf ha4 ?_
  obtain ⟨hk5, h⟩ := h
  refine G_get C (CC := RX7) (Tf := TX7) (N := 18) (k := 8) (i := 2) (v := va_rf (gP S 802 a3)) hk5 (by decide) rfl (fin fwX7) (by decide) (im tw_4_215) rfl rfl dX7_areNear_1 ?_
  refine G_aload_n C (x := x1) 1 dX7_areNear_4 rfl rfl ?_
  obtain ⟨a6, ha7, h⟩ := h
  refine G_rf ha7 ?_
  obtain ⟨hk8, h⟩ := h
  refine G_get C (CC := RX7) (Tf := TX7) (N := 18) (k := 8) (i := 2) (v := va_rf (gP S 802 a6)) hk8 (by decide) rfl (fin fwX7) (by decide) (im tw_4_215) rfl rfl dX7_areNear_5 ?_
  refine G_acmp_ne C (tgt := 48) dX7_areNear_8 (by decide) (fun hc => ?_) (fun hc => ?_)
  · have h := h.1 hc
    refine G_aload_n C (x := x0) 0 dX7_areNear_48 rfl rfl ?_
    refine G_rf ha4 ?_
    refine G_get C (CC := RX7) (Tf := TX7) (N := 18) (k := 8) (i := 2) (v := va_rf (gP S 802 a3)) hk5 (by decide) rfl (fin fwX7) (by decide) (im tw_4_215) rfl rfl dX7_areNear_49 ?_
    obtain ⟨a9, ha10, h⟩ := h
    refine G_rf ha10 ?_
    obtain ⟨hk11, h⟩ := h
    refine G_get C (CC := RX4) (Tf := TX4) (N := 12) (k := 5) (i := 3) (v := va_rf (gP S 503 a9)) hk11 (by decide) rfl (fin fwX4) (by decide) (im tw_2_99) rfl rfl dX7_areNear_52 ?_
    refine G_aload_n C (x := x1) 1 dX7_areNear_55 rfl rfl ?_
    refine G_rf ha7 ?_
    refine G_get C (CC := RX7) (Tf := TX7) (N := 18) (k := 8) (i := 2) (v := va_rf (gP S 802 a6)) hk8 (by decide) rfl (fin fwX7) (by decide) (im tw_4_215) rfl rfl dX7_areNear_56 ?_
    refine G_acmp_eq C (tgt := 76) dX7_areNear_59 (by decide) (fun hc => ?_) (fun hc => ?_)
    · have h := h.1 hc
      refine G_lv C (lv' := []) [] rfl ?_
      exact J76 _ h
    · have h := h.2 hc
      refine G_aload_n C (x := x1) 1 dX7_areNear_62 rfl rfl ?_
      refine G_rf ha7 ?_
      refine G_get C (CC := RX7) (Tf := TX7) (N := 18) (k := 8) (i := 2) (v := va_rf (gP S 802 a6)) hk8 (by decide) rfl (fin fwX7) (by decide) (im tw_4_215) rfl rfl dX7_areNear_63 ?_
      obtain ⟨a12, ha13, h⟩ := h
      refine G_rf ha13 ?_
      obtain ⟨hk14, h⟩ := h
      refine G_get C (CC := RX4) (Tf := TX4) (N := 12) (k := 5) (i := 3) (v := va_rf (gP S 503 a12)) hk14 (by decide) rfl (fin fwX4) (by decide) (im tw_2_99) rfl rfl dX7_areNear_66 ?_
      refine G_aload_n C (x := x0) 0 dX7_areNear_69 rfl rfl ?_
      refine G_rf ha4 ?_
      refine G_get C (CC := RX7) (Tf := TX7) (N := 18) (k := 8) (i := 2) (v := va_rf (gP S 802 a3)) hk5 (by decide) rfl (fin fwX7) (by decide) (im tw_4_215) rfl rfl dX7_areNear_70 ?_
      refine G_acmp_ne C (tgt := 80) dX7_areNear_73 (by decide) (fun hc => ?_) (fun hc => ?_)
      · have h := h.1 hc
        refine G_iconst C (v := 0) dX7_areNear_80 (by decide) ?_
        refine G_lv C (lv' := []) [] rfl ?_
        exact J81 _ _ h
      · have h := h.2 hc
        refine G_lv C (lv' := []) [] rfl ?_
        exact J76 _ h
  · have h := h.2 hc
    refine G_aload_n C (x := x0) 0 dX7_areNear_11 rfl rfl ?_
    refine G_rf ha4 ?_
    refine G_get C (CC := RX7) (Tf := TX7) (N := 18) (k := 8) (i := 5) (v := Value.int (gI S 805 a3)) hk5 (by decide) rfl (fin fwX7) (by decide) (im tw_4_220) rfl rfl dX7_areNear_12 ?_
    refine G_aload_n C (x := x1) 1 dX7_areNear_15 rfl rfl ?_
    refine G_rf ha7 ?_
    refine G_get C (CC := RX7) (Tf := TX7) (N := 18) (k := 8) (i := 5) (v := Value.int (gI S 805 a6)) hk8 (by decide) rfl (fin fwX7) (by decide) (im tw_4_220) rfl rfl dX7_areNear_16 ?_
    refine G_mmax C (im tw_3_116) (im tw_2_69) (im tw_1_14) (im tw_2_70) (Nat.le_of_ble_eq_true rfl) (by simp [va_cat, vi_cat, vl_cat]) (by omega) (by omega) dX7_areNear_19 ?_
    refine G_aload_n C (x := x0) 0 dX7_areNear_22 rfl rfl ?_
    refine G_rf ha4 ?_
    refine G_get C (CC := RX7) (Tf := TX7) (N := 18) (k := 8) (i := 6) (v := Value.int (gI S 806 a3)) hk5 (by decide) rfl (fin fwX7) (by decide) (im tw_4_221) rfl rfl dX7_areNear_23 ?_
    refine G_aload_n C (x := x1) 1 dX7_areNear_26 rfl rfl ?_
    refine G_rf ha7 ?_
    refine G_get C (CC := RX7) (Tf := TX7) (N := 18) (k := 8) (i := 6) (v := Value.int (gI S 806 a6)) hk8 (by decide) rfl (fin fwX7) (by decide) (im tw_4_221) rfl rfl dX7_areNear_27 ?_
    refine G_mmin C (im tw_3_148) (im tw_2_230) (im tw_1_14) (im tw_2_231) (Nat.le_of_ble_eq_true rfl) (by simp [va_cat, vi_cat, vl_cat]) (by omega) (by omega) dX7_areNear_30 ?_
    refine G_isub C dX7_areNear_33 ?_
    refine G_iconst C (v := 1) dX7_areNear_34 (by decide) ?_
    refine G_isub C dX7_areNear_35 ?_
    refine G_istore_n C (i := 2) (lv' := [(2, Value.int (((if (gI S 805 a3) < (gI S 805 a6) then (gI S 805 a6) else (gI S 805 a3)) - (if (gI S 806 a6) < (gI S 806 a3) then (gI S 806 a6) else (gI S 806 a3))) - 1)), (0, va_rf x0), (1, va_rf x1)]) dX7_areNear_36 rfl (by decide) (by first | rfl | simp [va_cat, vi_cat, vl_cat]) ?_
    refine G_iload_n C (x := (((if (gI S 805 a3) < (gI S 805 a6) then (gI S 805 a6) else (gI S 805 a3)) - (if (gI S 806 a6) < (gI S 806 a3) then (gI S 806 a6) else (gI S 806 a3))) - 1)) 0 dX7_areNear_37 rfl rfl ?_
    refine G_iconst C (v := 3) dX7_areNear_38 (by decide) ?_
    refine G_icmp_ge C (tgt := 46) dX7_areNear_39 (by decide) (fun hc => ?_) (fun hc => ?_)
    · have h := h.1 hc
      refine G_iconst C (v := 0) dX7_areNear_46 (by decide) ?_
      refine G_lv C (lv' := []) [] rfl ?_
      exact J47 _ _ h
    · have h := h.2 hc
      refine G_iconst C (v := 1) dX7_areNear_42 (by decide) ?_
      refine G_goto C (tgt := 47) dX7_areNear_43 (by decide) ?_
      refine G_lv C (lv' := []) [] rfl ?_
      exact J47 _ _ h
set_option maxHeartbeats 4000000 in
set_option maxRecDepth 100000 in
theorem c_Jxa1e45_init_da8c8 (l : Launch) (D : va_G) (cy : Nat → Nat) (x0 : Nat) (S : PT) (post : PT → Prop) (h : w_Jxa1e45_init_da8c8 x0 S post) : Mv l yJxa1e45_init_da8c8 (Wm yJxa1e45_init_da8c8 prog_24_method_1_code 1 (Option.none : Option Jvm.ClassFile.FieldType)) 1 16 D cy [va_rf (some x0)] S 0 0 post := by
  refine Mv_of (own := "java/util/AbstractCollection") (by decide) rfl (by first | decide | simp [lg_sl, va_cat, vi_cat, vl_cat]) (fun p e s m below meth c A C hZ hr hin9 => ?_)
  refine G_lv C (lv' := [(0, va_rf (some x0))]) [0] (by first | rfl | simp [lv_pick, lv_args, va_cat, vi_cat, vl_cat]) ?_
  unfold w_Jxa1e45_init_da8c8 at h
  refine G_aload_n C (x := (some x0)) 0 dJxa1e45_init_da8c8_0 rfl rfl ?_
  refine G_objInit C (im tw_1_66) (im tw_1_31) (im tw_1_32) dJxa1e45_init_da8c8_1 (Nat.le_of_ble_eq_true rfl) (by simp [va_cat, vi_cat, vl_cat]) ?_
  exact G_vret C (mc := 0) (ms := 0) (post := post) hr (Nat.le_of_ble_eq_true rfl) (Nat.le_of_ble_eq_true rfl) dJxa1e45_init_da8c8_4 h
set_option maxHeartbeats 4000000 in
set_option maxRecDepth 100000 in
theorem c_Jxc12de_init_da8c8 (l : Launch) (D : va_G) (cy : Nat → Nat) (x0 : Nat) (S : PT) (post : PT → Prop) (h : w_Jxc12de_init_da8c8 x0 S post) : Mv l yJxc12de_init_da8c8 (Wm yJxc12de_init_da8c8 prog_25_method_1_code 1 (Option.none : Option Jvm.ClassFile.FieldType)) 2 36 D cy [va_rf (some x0)] S 0 0 post := by
  refine Mv_of (own := "java/util/AbstractList") (by decide) rfl (by first | decide | simp [lg_sl, va_cat, vi_cat, vl_cat]) (fun p e s m below meth c A C hZ hr hin9 => ?_)
  refine G_lv C (lv' := [(0, va_rf (some x0))]) [0] (by first | rfl | simp [lv_pick, lv_args, va_cat, vi_cat, vl_cat]) ?_
  unfold w_Jxc12de_init_da8c8 at h
  refine G_aload_n C (x := (some x0)) 0 dJxc12de_init_da8c8_0 rfl rfl ?_
  refine G_callIv C hZ tw_1_63 tw_1_64 tw_1_3 rfl tw_1_65 hy_Jxa1e45_init_da8c8 ⟨Nat.le_of_ble_eq_true rfl, Nat.le_of_ble_eq_true rfl⟩ (As := []) (rest := []) (c_Jxa1e45_init_da8c8 l D cy x0 S _ h) rfl rfl (by simp [va_cat, vi_cat, vl_cat]) dJxc12de_init_da8c8_1 ⟨Nat.le_of_ble_eq_true rfl, Nat.le_of_ble_eq_true rfl⟩ (fun S1 h => ?_)
  refine G_aload_n C (x := (some x0)) 0 dJxc12de_init_da8c8_4 rfl rfl ?_
  refine G_iconst C (v := 0) dJxc12de_init_da8c8_5 (by decide) ?_
  obtain ⟨hk3, h⟩ := h
  refine G_putI C (CC := RJx4a65c) (Tf := TJx4a65c) (N := 3) (k := 11) (i := 0) (f := 1100) (x := 0) (ty0 := tyJx4a65c) (ty := .int) hk3 (by decide) rfl (fin fwJx4a65c) tyJx4a65c_ok nmJx4a65c (by decide) (im tw_1_71) rfl rfl rfl rfl rfl rfl rfl dJxc12de_init_da8c8_6 ?_
  generalize e5 : sI S1 1100 x0 0 = S4
  have h := h S4 e5.symm
  exact G_vret C (mc := 0) (ms := 0) (post := post) hr (Nat.le_of_ble_eq_true rfl) (Nat.le_of_ble_eq_true rfl) dJxc12de_init_da8c8_9 h
set_option maxHeartbeats 4000000 in
set_option maxRecDepth 100000 in
theorem c_X8_streetAt (l : Launch) (D : va_G) (cy : Nat → Nat) (x0 : Nat) (x1 : Int32) (S : PT) (post : Option Nat → PT → Prop) (h : w_X8_streetAt x0 x1 S post) : Mq l yX8_streetAt (Wm yX8_streetAt prog_1_method_36_code 2 (Option.some (Jvm.ClassFile.FieldType.object "Trenchboard$Street"))) 0 0 D cy [va_rf (some x0), Value.int x1] S 0 0 post := by
  refine Mq_of (own := "Trenchboard") (by decide) rfl (by first | decide | simp [lg_sl, va_cat, vi_cat, vl_cat]) (fun p e s m below meth c A C hZ hr hin9 => ?_)
  have J23 : ∀ (S : PT) (s0 : Option Nat), w_X8_streetAt_b23 x0 x1 post S s0 → G p l e { frames := 0, cells := 0, slots := 0, locals := 0 } s m [va_rf (some x0), Value.int x1].toArray below meth c D cy A s.heap 2 (QMq below D cy A [va_rf (some x0), Value.int x1] s 0 0 post) S 0 0 23 [] [va_rf s0] := by
    intro S s0 h
    unfold w_X8_streetAt_b23 at h
    exact G_aret C (mc := 0) (ms := 0) (post := post) (v := s0) (Or.inl ⟨_, rfl⟩) hr (Nat.le_of_ble_eq_true rfl) (Nat.le_of_ble_eq_true rfl) dX8_streetAt_23 h
  have J22 : ∀ (S : PT), w_X8_streetAt_b22 x0 x1 post S → G p l e { frames := 0, cells := 0, slots := 0, locals := 0 } s m [va_rf (some x0), Value.int x1].toArray below meth c D cy A s.heap 2 (QMq below D cy A [va_rf (some x0), Value.int x1] s 0 0 post) S 0 0 22 [] [] := by
    intro S h
    unfold w_X8_streetAt_b22 at h
    refine G_null C dX8_streetAt_22 ?_
    refine G_lv C (lv' := []) [] rfl ?_
    exact J23 _ _ h
  refine G_lv C (lv' := [(0, va_rf (some x0)), (1, Value.int x1)]) [0, 1] (by first | rfl | simp [lv_pick, lv_args, va_cat, vi_cat, vl_cat]) ?_
  unfold w_X8_streetAt at h
  refine G_iload_n C (x := x1) 1 dX8_streetAt_0 rfl rfl ?_
  refine G_if_lt C (tgt := 22) dX8_streetAt_1 (by decide) (fun hc => ?_) (fun hc => ?_)
  · have h := h.1 hc
    refine G_lv C (lv' := []) [] rfl ?_
    exact J22 _ h
  · have h := h.2 hc
    refine G_iload_n C (x := x1) 1 dX8_streetAt_4 rfl rfl ?_
    refine G_aload_n C (x := (some x0)) 0 dX8_streetAt_5 rfl rfl ?_
    obtain ⟨hk1, h⟩ := h
    refine G_get C (CC := RX8) (Tf := TX8) (N := 10) (k := 9) (i := 0) (v := va_rf (gP S 900 x0)) hk1 (by decide) rfl (fin fwX8) (by decide) (im tw_1_99) rfl rfl dX8_streetAt_6 ?_
    obtain ⟨a2, ha3, h⟩ := h
    refine G_rf ha3 ?_
    obtain ⟨hk4, h⟩ := h
    refine G_alen C hk4 (by decide) rfl dX8_streetAt_9 ?_
    refine G_icmp_ge C (tgt := 22) dX8_streetAt_10 (by decide) (fun hc => ?_) (fun hc => ?_)
    · have h := h.1 hc
      refine G_lv C (lv' := []) [] rfl ?_
      exact J22 _ h
    · have h := h.2 hc
      refine G_aload_n C (x := (some x0)) 0 dX8_streetAt_13 rfl rfl ?_
      refine G_get C (CC := RX8) (Tf := TX8) (N := 10) (k := 9) (i := 0) (v := va_rf (gP S 900 x0)) hk1 (by decide) rfl (fin fwX8) (by decide) (im tw_1_99) rfl rfl dX8_streetAt_14 ?_
      refine G_iload_n C (x := x1) 1 dX8_streetAt_17 rfl rfl ?_
      refine G_rf1 ha3 ?_
      obtain ⟨hi5, h⟩ := h
      refine G_aald C hk4 (by decide) rfl hi5 dX8_streetAt_18 ?_
      refine G_goto C (tgt := 23) dX8_streetAt_19 (by decide) ?_
      refine G_lv C (lv' := []) [] rfl ?_
      exact J23 _ _ h
set_option maxHeartbeats 4000000 in
set_option maxRecDepth 100000 in
theorem c_X8_today (l : Launch) (D : va_G) (cy : Nat → Nat) (x0 : Nat) (S : PT) (post : Int32 → PT → Prop) (h : w_X8_today x0 S post) : Mi l yX8_today (Wm yX8_today prog_1_method_42_code 1 (Option.some Jvm.ClassFile.FieldType.int)) 0 0 D cy [va_rf (some x0)] S 0 0 post := by
  refine Mi_of (own := "Trenchboard") (by decide) rfl (by first | decide | simp [lg_sl, va_cat, vi_cat, vl_cat]) (fun p e s m below meth c A C hZ hr hin9 => ?_)
  refine G_lv C (lv' := [(0, va_rf (some x0))]) [0] (by first | rfl | simp [lv_pick, lv_args, va_cat, vi_cat, vl_cat]) ?_
  unfold w_X8_today at h
  refine G_aload_n C (x := (some x0)) 0 dX8_today_0 rfl rfl ?_
  obtain ⟨hk1, h⟩ := h
  refine G_get C (CC := RX8) (Tf := TX8) (N := 10) (k := 9) (i := 9) (v := Value.int (gI S 909 x0)) hk1 (by decide) rfl (fin fwX8) (by decide) (im tw_1_108) rfl rfl dX8_today_1 ?_
  refine G_bipush C (v := 24) dX8_today_4 (by decide) ?_
  refine G_idiv C dX8_today_6 (by decide) ?_
  exact G_iret C (mc := 0) (ms := 0) (post := post) hr (Nat.le_of_ble_eq_true rfl) (Nat.le_of_ble_eq_true rfl) dX8_today_7 h
set_option maxHeartbeats 4000000 in
set_option maxRecDepth 100000 in
theorem c_Jx4a65c_size_8abf5 (l : Launch) (D : va_G) (cy : Nat → Nat) (x0 : Nat) (S : PT) (post : Int32 → PT → Prop) (h : w_Jx4a65c_size_8abf5 x0 S post) : Mi l yJx4a65c_size_8abf5 (Wm yJx4a65c_size_8abf5 prog_26_method_8_code 1 (Option.some Jvm.ClassFile.FieldType.int)) 0 0 D cy [va_rf (some x0)] S 0 0 post := by
  refine Mi_of (own := "java/util/ArrayList") (by decide) rfl (by first | decide | simp [lg_sl, va_cat, vi_cat, vl_cat]) (fun p e s m below meth c A C hZ hr hin9 => ?_)
  refine G_lv C (lv' := [(0, va_rf (some x0))]) [0] (by first | rfl | simp [lv_pick, lv_args, va_cat, vi_cat, vl_cat]) ?_
  unfold w_Jx4a65c_size_8abf5 at h
  refine G_aload_n C (x := (some x0)) 0 dJx4a65c_size_8abf5_0 rfl rfl ?_
  obtain ⟨hk1, h⟩ := h
  refine G_get C (CC := RJx4a65c) (Tf := TJx4a65c) (N := 3) (k := 11) (i := 2) (v := Value.int (gI S 1102 x0)) hk1 (by decide) rfl (fin fwJx4a65c) (by decide) (im tw_1_70) rfl rfl dJx4a65c_size_8abf5_1 ?_
  exact G_iret C (mc := 0) (ms := 0) (post := post) hr (Nat.le_of_ble_eq_true rfl) (Nat.le_of_ble_eq_true rfl) dJx4a65c_size_8abf5_4 h
set_option maxHeartbeats 4000000 in
set_option maxRecDepth 100000 in
theorem c_J8_newLength_cabcc (l : Launch) (D : va_G) (cy : Nat → Nat) (x0 : Int32) (x1 : Int32) (x2 : Int32) (S : PT) (post : Int32 → PT → Prop) (h : w_J8_newLength_cabcc x0 x1 x2 S post) : Mi l yJ8_newLength_cabcc (Wm yJ8_newLength_cabcc prog_33_method_27_code 4 (Option.some Jvm.ClassFile.FieldType.int)) 1 21 D cy [Value.int x0, Value.int x1, Value.int x2] S 0 0 post := by
  refine Mi_of (own := "jdk/internal/util/ArraysSupport") (by decide) rfl (by first | decide | simp [lg_sl, va_cat, vi_cat, vl_cat]) (fun p e s m below meth c A C hZ hr hin9 => ?_)
  have J21 : ∀ (S : PT), w_J8_newLength_cabcc_b21 x0 x1 x2 post S → G p l e { frames := 1, cells := 0, slots := 0, locals := 21 } s m [Value.int x0, Value.int x1, Value.int x2].toArray below meth c D cy A s.heap 4 (QMi below D cy A [Value.int x0, Value.int x1, Value.int x2] s 0 0 post) S 0 0 21 [(0, Value.int x0), (1, Value.int x1)] [] := by
    intro S h
    unfold w_J8_newLength_cabcc_b21 at h
    refine G_iload_n C (x := x0) 0 dJ8_newLength_cabcc_21 rfl rfl ?_
    refine G_iload_n C (x := x1) 1 dJ8_newLength_cabcc_22 rfl rfl ?_
    exact h.elim
  refine G_lv C (lv' := [(0, Value.int x0), (1, Value.int x1), (2, Value.int x2)]) [0, 1, 2] (by first | rfl | simp [lv_pick, lv_args, va_cat, vi_cat, vl_cat]) ?_
  unfold w_J8_newLength_cabcc at h
  refine G_iload_n C (x := x0) 0 dJ8_newLength_cabcc_0 rfl rfl ?_
  refine G_iload_n C (x := x1) 1 dJ8_newLength_cabcc_1 rfl rfl ?_
  refine G_iload_n C (x := x2) 2 dJ8_newLength_cabcc_2 rfl rfl ?_
  refine G_mmax C (im tw_2_198) (im tw_2_69) (im tw_1_14) (im tw_2_70) (Nat.le_of_ble_eq_true rfl) (by simp [va_cat, vi_cat, vl_cat]) (by omega) (by omega) dJ8_newLength_cabcc_3 ?_
  refine G_iadd C dJ8_newLength_cabcc_6 ?_
  refine G_istore_n C (i := 3) (lv' := [(3, Value.int (x0 + (if x1 < x2 then x2 else x1))), (0, Value.int x0), (1, Value.int x1), (2, Value.int x2)]) dJ8_newLength_cabcc_7 rfl (by decide) (by first | rfl | simp [va_cat, vi_cat, vl_cat]) ?_
  refine G_iconst C (v := 0) dJ8_newLength_cabcc_8 (by decide) ?_
  refine G_iload_n C (x := (x0 + (if x1 < x2 then x2 else x1))) 0 dJ8_newLength_cabcc_9 rfl rfl ?_
  refine G_icmp_ge C (tgt := 21) dJ8_newLength_cabcc_10 (by decide) (fun hc => ?_) (fun hc => ?_)
  · have h := h.1 hc
    refine G_lv C (lv' := [(0, Value.int x0), (1, Value.int x1)]) [1, 2] rfl ?_
    exact J21 _ h
  · have h := h.2 hc
    refine G_iload_n C (x := (x0 + (if x1 < x2 then x2 else x1))) 0 dJ8_newLength_cabcc_13 rfl rfl ?_
    refine G_ldc C (v := 2147483639) (im tw_2_199) dJ8_newLength_cabcc_14 ?_
    refine G_icmp_gt C (tgt := 21) dJ8_newLength_cabcc_16 (by decide) (fun hc => ?_) (fun hc => ?_)
    · have h := h.1 hc
      refine G_lv C (lv' := [(0, Value.int x0), (1, Value.int x1)]) [1, 2] rfl ?_
      exact J21 _ h
    · have h := h.2 hc
      refine G_iload_n C (x := (x0 + (if x1 < x2 then x2 else x1))) 0 dJ8_newLength_cabcc_19 rfl rfl ?_
      exact G_iret C (mc := 0) (ms := 0) (post := post) hr (Nat.le_of_ble_eq_true rfl) (Nat.le_of_ble_eq_true rfl) dJ8_newLength_cabcc_20 h
set_option maxHeartbeats 4000000 in
set_option maxRecDepth 100000 in
theorem c_X8_isPromoter (l : Launch) (D : va_G) (cy : Nat → Nat) (x0 : Int32) (S : PT) (post : Int32 → PT → Prop) (h : w_X8_isPromoter x0 S post) : Mi l yX8_isPromoter (Wm yX8_isPromoter prog_1_method_40_code 1 (Option.some Jvm.ClassFile.FieldType.boolean)) 0 0 D cy [Value.int x0] S 0 0 (fun r S => bo r ∧ post r S) := by
  refine Mi_of (own := "Trenchboard") (by decide) rfl (by first | decide | simp [lg_sl, va_cat, vi_cat, vl_cat]) (fun p e s m below meth c A C hZ hr hin9 => ?_)
  have J14 : ∀ (S : PT) (s0 : Int32), w_X8_isPromoter_b14 x0 post S s0 → G p l e { frames := 0, cells := 0, slots := 0, locals := 0 } s m [Value.int x0].toArray below meth c D cy A s.heap 1 (QMi below D cy A [Value.int x0] s 0 0 (fun r S => bo r ∧ post r S)) S 0 0 14 [] [Value.int s0] := by
    intro S s0 h
    unfold w_X8_isPromoter_b14 at h
    obtain ⟨hb1, h⟩ := h
    exact G_zret C (mc := 0) (ms := 0) (post := (fun r S => bo r ∧ post r S)) (bo_nar hb1) hr (Nat.le_of_ble_eq_true rfl) (Nat.le_of_ble_eq_true rfl) dX8_isPromoter_14 ⟨hb1, h⟩
  have J13 : ∀ (S : PT), w_X8_isPromoter_b13 x0 post S → G p l e { frames := 0, cells := 0, slots := 0, locals := 0 } s m [Value.int x0].toArray below meth c D cy A s.heap 1 (QMi below D cy A [Value.int x0] s 0 0 (fun r S => bo r ∧ post r S)) S 0 0 13 [] [] := by
    intro S h
    unfold w_X8_isPromoter_b13 at h
    refine G_iconst C (v := 0) dX8_isPromoter_13 (by decide) ?_
    refine G_lv C (lv' := []) [] rfl ?_
    exact J14 _ _ h
  refine G_lv C (lv' := [(0, Value.int x0)]) [0] (by first | rfl | simp [lv_pick, lv_args, va_cat, vi_cat, vl_cat]) ?_
  unfold w_X8_isPromoter at h
  refine G_iload_n C (x := x0) 0 dX8_isPromoter_0 rfl rfl ?_
  refine G_if_lt C (tgt := 13) dX8_isPromoter_1 (by decide) (fun hc => ?_) (fun hc => ?_)
  · have h := h.1 hc
    refine G_lv C (lv' := []) [] rfl ?_
    exact J13 _ h
  · have h := h.2 hc
    refine G_iload_n C (x := x0) 0 dX8_isPromoter_4 rfl rfl ?_
    refine G_iconst C (v := 5) dX8_isPromoter_5 (by decide) ?_
    refine G_icmp_ge C (tgt := 13) dX8_isPromoter_6 (by decide) (fun hc => ?_) (fun hc => ?_)
    · have h := h.1 hc
      refine G_lv C (lv' := []) [] rfl ?_
      exact J13 _ h
    · have h := h.2 hc
      refine G_iconst C (v := 1) dX8_isPromoter_9 (by decide) ?_
      refine G_goto C (tgt := 14) dX8_isPromoter_10 (by decide) ?_
      refine G_lv C (lv' := []) [] rfl ?_
      exact J14 _ _ h
set_option maxHeartbeats 4000000 in
set_option maxRecDepth 100000 in
theorem c_X8_thingAt (l : Launch) (D : va_G) (cy : Nat → Nat) (x0 : Nat) (x1 : Int32) (S : PT) (post : Option Nat → PT → Prop) (h : w_X8_thingAt x0 x1 S post) : Mq l yX8_thingAt (Wm yX8_thingAt prog_1_method_37_code 2 (Option.some (Jvm.ClassFile.FieldType.object "Trenchboard$Thing"))) 0 0 D cy [va_rf (some x0), Value.int x1] S 0 0 post := by
  refine Mq_of (own := "Trenchboard") (by decide) rfl (by first | decide | simp [lg_sl, va_cat, vi_cat, vl_cat]) (fun p e s m below meth c A C hZ hr hin9 => ?_)
  have J23 : ∀ (S : PT) (s0 : Option Nat), w_X8_thingAt_b23 x0 x1 post S s0 → G p l e { frames := 0, cells := 0, slots := 0, locals := 0 } s m [va_rf (some x0), Value.int x1].toArray below meth c D cy A s.heap 2 (QMq below D cy A [va_rf (some x0), Value.int x1] s 0 0 post) S 0 0 23 [] [va_rf s0] := by
    intro S s0 h
    unfold w_X8_thingAt_b23 at h
    exact G_aret C (mc := 0) (ms := 0) (post := post) (v := s0) (Or.inl ⟨_, rfl⟩) hr (Nat.le_of_ble_eq_true rfl) (Nat.le_of_ble_eq_true rfl) dX8_thingAt_23 h
  have J22 : ∀ (S : PT), w_X8_thingAt_b22 x0 x1 post S → G p l e { frames := 0, cells := 0, slots := 0, locals := 0 } s m [va_rf (some x0), Value.int x1].toArray below meth c D cy A s.heap 2 (QMq below D cy A [va_rf (some x0), Value.int x1] s 0 0 post) S 0 0 22 [] [] := by
    intro S h
    unfold w_X8_thingAt_b22 at h
    refine G_null C dX8_thingAt_22 ?_
    refine G_lv C (lv' := []) [] rfl ?_
    exact J23 _ _ h
  refine G_lv C (lv' := [(0, va_rf (some x0)), (1, Value.int x1)]) [0, 1] (by first | rfl | simp [lv_pick, lv_args, va_cat, vi_cat, vl_cat]) ?_
  unfold w_X8_thingAt at h
  refine G_iload_n C (x := x1) 1 dX8_thingAt_0 rfl rfl ?_
  refine G_if_lt C (tgt := 22) dX8_thingAt_1 (by decide) (fun hc => ?_) (fun hc => ?_)
  · have h := h.1 hc
    refine G_lv C (lv' := []) [] rfl ?_
    exact J22 _ h
  · have h := h.2 hc
    refine G_iload_n C (x := x1) 1 dX8_thingAt_4 rfl rfl ?_
    refine G_aload_n C (x := (some x0)) 0 dX8_thingAt_5 rfl rfl ?_
    obtain ⟨hk1, h⟩ := h
    refine G_get C (CC := RX8) (Tf := TX8) (N := 10) (k := 9) (i := 2) (v := va_rf (gP S 902 x0)) hk1 (by decide) rfl (fin fwX8) (by decide) (im tw_1_101) rfl rfl dX8_thingAt_6 ?_
    obtain ⟨a2, ha3, h⟩ := h
    refine G_rf ha3 ?_
    obtain ⟨hk4, h⟩ := h
    refine G_alen C hk4 (by decide) rfl dX8_thingAt_9 ?_
    refine G_icmp_ge C (tgt := 22) dX8_thingAt_10 (by decide) (fun hc => ?_) (fun hc => ?_)
    · have h := h.1 hc
      refine G_lv C (lv' := []) [] rfl ?_
      exact J22 _ h
    · have h := h.2 hc
      refine G_aload_n C (x := (some x0)) 0 dX8_thingAt_13 rfl rfl ?_
      refine G_get C (CC := RX8) (Tf := TX8) (N := 10) (k := 9) (i := 2) (v := va_rf (gP S 902 x0)) hk1 (by decide) rfl (fin fwX8) (by decide) (im tw_1_101) rfl rfl dX8_thingAt_14 ?_
      refine G_iload_n C (x := x1) 1 dX8_thingAt_17 rfl rfl ?_
      refine G_rf1 ha3 ?_
      obtain ⟨hi5, h⟩ := h
      refine G_aald C hk4 (by decide) rfl hi5 dX8_thingAt_18 ?_
      refine G_goto C (tgt := 23) dX8_thingAt_19 (by decide) ?_
      refine G_lv C (lv' := []) [] rfl ?_
      exact J23 _ _ h
set_option maxHeartbeats 4000000 in
set_option maxRecDepth 100000 in
theorem c_X8_worksAt (l : Launch) (D : va_G) (cy : Nat → Nat) (x0 : Nat) (x1 : Int32) (S : PT) (post : Option Nat → PT → Prop) (h : w_X8_worksAt x0 x1 S post) : Mq l yX8_worksAt (Wm yX8_worksAt prog_1_method_38_code 2 (Option.some (Jvm.ClassFile.FieldType.object "Trenchboard$Works"))) 0 0 D cy [va_rf (some x0), Value.int x1] S 0 0 post := by
  refine Mq_of (own := "Trenchboard") (by decide) rfl (by first | decide | simp [lg_sl, va_cat, vi_cat, vl_cat]) (fun p e s m below meth c A C hZ hr hin9 => ?_)
  have J23 : ∀ (S : PT) (s0 : Option Nat), w_X8_worksAt_b23 x0 x1 post S s0 → G p l e { frames := 0, cells := 0, slots := 0, locals := 0 } s m [va_rf (some x0), Value.int x1].toArray below meth c D cy A s.heap 2 (QMq below D cy A [va_rf (some x0), Value.int x1] s 0 0 post) S 0 0 23 [] [va_rf s0] := by
    intro S s0 h
    unfold w_X8_worksAt_b23 at h
    exact G_aret C (mc := 0) (ms := 0) (post := post) (v := s0) (Or.inl ⟨_, rfl⟩) hr (Nat.le_of_ble_eq_true rfl) (Nat.le_of_ble_eq_true rfl) dX8_worksAt_23 h
  have J22 : ∀ (S : PT), w_X8_worksAt_b22 x0 x1 post S → G p l e { frames := 0, cells := 0, slots := 0, locals := 0 } s m [va_rf (some x0), Value.int x1].toArray below meth c D cy A s.heap 2 (QMq below D cy A [va_rf (some x0), Value.int x1] s 0 0 post) S 0 0 22 [] [] := by
    intro S h
    unfold w_X8_worksAt_b22 at h
    refine G_null C dX8_worksAt_22 ?_
    refine G_lv C (lv' := []) [] rfl ?_
    exact J23 _ _ h
  refine G_lv C (lv' := [(0, va_rf (some x0)), (1, Value.int x1)]) [0, 1] (by first | rfl | simp [lv_pick, lv_args, va_cat, vi_cat, vl_cat]) ?_
  unfold w_X8_worksAt at h
  refine G_iload_n C (x := x1) 1 dX8_worksAt_0 rfl rfl ?_
  refine G_if_lt C (tgt := 22) dX8_worksAt_1 (by decide) (fun hc => ?_) (fun hc => ?_)
  · have h := h.1 hc
    refine G_lv C (lv' := []) [] rfl ?_
    exact J22 _ h
  · have h := h.2 hc
    refine G_iload_n C (x := x1) 1 dX8_worksAt_4 rfl rfl ?_
    refine G_aload_n C (x := (some x0)) 0 dX8_worksAt_5 rfl rfl ?_
    obtain ⟨hk1, h⟩ := h
    refine G_get C (CC := RX8) (Tf := TX8) (N := 10) (k := 9) (i := 4) (v := va_rf (gP S 904 x0)) hk1 (by decide) rfl (fin fwX8) (by decide) (im tw_1_103) rfl rfl dX8_worksAt_6 ?_
    obtain ⟨a2, ha3, h⟩ := h
    refine G_rf ha3 ?_
    obtain ⟨hk4, h⟩ := h
    refine G_alen C hk4 (by decide) rfl dX8_worksAt_9 ?_
    refine G_icmp_ge C (tgt := 22) dX8_worksAt_10 (by decide) (fun hc => ?_) (fun hc => ?_)
    · have h := h.1 hc
      refine G_lv C (lv' := []) [] rfl ?_
      exact J22 _ h
    · have h := h.2 hc
      refine G_aload_n C (x := (some x0)) 0 dX8_worksAt_13 rfl rfl ?_
      refine G_get C (CC := RX8) (Tf := TX8) (N := 10) (k := 9) (i := 4) (v := va_rf (gP S 904 x0)) hk1 (by decide) rfl (fin fwX8) (by decide) (im tw_1_103) rfl rfl dX8_worksAt_14 ?_
      refine G_iload_n C (x := x1) 1 dX8_worksAt_17 rfl rfl ?_
      refine G_rf1 ha3 ?_
      obtain ⟨hi5, h⟩ := h
      refine G_aald C hk4 (by decide) rfl hi5 dX8_worksAt_18 ?_
      refine G_goto C (tgt := 23) dX8_worksAt_19 (by decide) ?_
      refine G_lv C (lv' := []) [] rfl ?_
      exact J23 _ _ h
set_option maxHeartbeats 4000000 in
set_option maxRecDepth 100000 in
theorem c_X8_firstMet (l : Launch) (D : va_G) (cy : Nat → Nat) (x0 : Nat) (x1 : Option Nat) (x2 : Int32) (x3 : Int32) (x4 : Int32) (S : PT) (post : Int32 → PT → Prop) (h : w_X8_firstMet x0 x1 x2 x3 x4 S post) : Mi l yX8_firstMet (Wm yX8_firstMet prog_1_method_55_code 7 (Option.some Jvm.ClassFile.FieldType.int)) 2 43 D cy [va_rf (some x0), va_rf x1, Value.int x2, Value.int x3, Value.int x4] S 0 0 post := by
  refine Mi_of (own := "Trenchboard") (by decide) rfl (by first | decide | simp [lg_sl, va_cat, vi_cat, vl_cat]) (fun p e s m below meth c A C hZ hr hin9 => ?_)
  have J3 : ∀ (n : Nat) (S : PT) (v5 : Int32), w_X8_firstMet_l3 x0 x1 x2 x3 x4 post n S v5 → G p l e { frames := 2, cells := 0, slots := 0, locals := 43 } s m [va_rf (some x0), va_rf x1, Value.int x2, Value.int x3, Value.int x4].toArray below meth c D cy A s.heap 7 (QMi below D cy A [va_rf (some x0), va_rf x1, Value.int x2, Value.int x3, Value.int x4] s 0 0 post) S 0 0 3 [(0, va_rf (some x0)), (1, va_rf x1), (2, Value.int x2), (4, Value.int x4), (5, Value.int v5)] [] := by
    intro n3
    induction n3 with
    | zero => intro S v5 h; rw [w_X8_firstMet_l3] at h; exact False.elim h
    | succ n3 K3 =>
      have J103 : ∀ (S : PT) (v5 : Int32), w_X8_firstMet_b103 x0 x1 x2 x3 x4 post (w_X8_firstMet_l3 x0 x1 x2 x3 x4 post n3) S v5 → G p l e { frames := 2, cells := 0, slots := 0, locals := 43 } s m [va_rf (some x0), va_rf x1, Value.int x2, Value.int x3, Value.int x4].toArray below meth c D cy A s.heap 7 (QMi below D cy A [va_rf (some x0), va_rf x1, Value.int x2, Value.int x3, Value.int x4] s 0 0 post) S 0 0 103 [(0, va_rf (some x0)), (1, va_rf x1), (2, Value.int x2), (4, Value.int x4), (5, Value.int v5)] [] := by
        intro S v5 h
        unfold w_X8_firstMet_b103 at h
        refine G_iinc C (v := (v5 + 1)) (lv' := [(5, Value.int (v5 + 1)), (0, va_rf (some x0)), (1, va_rf x1), (2, Value.int x2), (4, Value.int x4)]) 4 dX8_firstMet_103 rfl rfl (by decide) (by first | rfl | simp [va_cat, vi_cat, vl_cat]) ?_
        refine G_goto C (tgt := 3) dX8_firstMet_106 (by decide) ?_
        refine G_lv C (lv' := [(0, va_rf (some x0)), (1, va_rf x1), (2, Value.int x2), (4, Value.int x4), (5, Value.int (v5 + 1))]) [1, 2, 3, 4, 0] rfl ?_
        exact K3 _ _ h
      have J48 : ∀ (S : PT) (v5 : Int32) (v6 : Option Nat), w_X8_firstMet_b48 x0 x1 x2 x3 x4 post (w_X8_firstMet_l3 x0 x1 x2 x3 x4 post n3) S v5 v6 → G p l e { frames := 2, cells := 0, slots := 0, locals := 43 } s m [va_rf (some x0), va_rf x1, Value.int x2, Value.int x3, Value.int x4].toArray below meth c D cy A s.heap 7 (QMi below D cy A [va_rf (some x0), va_rf x1, Value.int x2, Value.int x3, Value.int x4] s 0 0 post) S 0 0 48 [(0, va_rf (some x0)), (1, va_rf x1), (2, Value.int x2), (4, Value.int x4), (5, Value.int v5), (6, va_rf v6)] [] := by
        intro S v5 v6 h
        unfold w_X8_firstMet_b48 at h
        refine G_aload_n C (x := x1) 1 dX8_firstMet_48 rfl rfl ?_
        refine G_aload C (x := v6) 5 dX8_firstMet_49 rfl ?_
        refine G_callSi C hZ tw_3_129 tw_3_130 tw_1_21 tw_3_131 hy_X7_mayMeet ⟨Nat.le_of_ble_eq_true rfl, Nat.le_of_ble_eq_true rfl⟩ (As := [va_rf x1, va_rf v6]) (rest := []) (c_X7_mayMeet l D cy x1 v6 S _ h) rfl rfl (by simp [va_cat, vi_cat, vl_cat]) dX8_firstMet_51 ⟨Nat.le_of_ble_eq_true rfl, Nat.le_of_ble_eq_true rfl⟩ (fun r2 S1 h => ?_)
        obtain ⟨hb3, h⟩ := h
        refine G_if_eq C (tgt := 103) dX8_firstMet_54 (by decide) (fun hc => ?_) (fun hc => ?_)
        · have h := h.1 hc
          refine G_lv C (lv' := [(0, va_rf (some x0)), (1, va_rf x1), (2, Value.int x2), (4, Value.int x4), (5, Value.int v5)]) [0, 1, 2, 3, 4] rfl ?_
          exact J103 _ _ h
        · have h := h.2 hc
          refine G_aload_n C (x := x1) 1 dX8_firstMet_57 rfl rfl ?_
          obtain ⟨a4, ha5, h⟩ := h
          refine G_rf ha5 ?_
          obtain ⟨hk6, h⟩ := h
          refine G_get C (CC := RX7) (Tf := TX7) (N := 18) (k := 8) (i := 8) (v := Value.int (gI S1 808 a4)) hk6 (by decide) rfl (fin fwX7) (by decide) (im tw_4_226) rfl rfl dX8_firstMet_58 ?_
          refine G_iload_n C (x := x2) 2 dX8_firstMet_61 rfl rfl ?_
          refine G_aload C (x := v6) 5 dX8_firstMet_62 rfl ?_
          obtain ⟨a7, ha8, h⟩ := h
          refine G_rf ha8 ?_
          obtain ⟨hk9, h⟩ := h
          refine G_get C (CC := RX7) (Tf := TX7) (N := 18) (k := 8) (i := 8) (v := Value.int (gI S1 808 a7)) hk9 (by decide) rfl (fin fwX7) (by decide) (im tw_4_226) rfl rfl dX8_firstMet_64 ?_
          refine G_aload C (x := v6) 5 dX8_firstMet_67 rfl ?_
          refine G_aload_n C (x := (some x0)) 0 dX8_firstMet_69 rfl rfl ?_
          obtain ⟨hk10, h⟩ := h
          refine G_callVi C hZ (Tf := TX8) (N := 10) hk10 (by decide) rfl tw_1_234 tw_1_236 tw_0_3 tw_1_1 tw_1_237 hy_X8_today ⟨Nat.le_of_ble_eq_true rfl, Nat.le_of_ble_eq_true rfl⟩ (As := []) (rest := [va_rf v6, Value.int (gI S1 808 a7), Value.int x2, Value.int (gI S1 808 a4)]) (c_X8_today l D cy x0 S1 _ h) rfl rfl (by simp [va_cat, vi_cat, vl_cat]) dX8_firstMet_70 ⟨Nat.le_of_ble_eq_true rfl, Nat.le_of_ble_eq_true rfl⟩ (fun r12 S11 h => ?_)
          obtain ⟨hk13, h⟩ := h
          refine G_callVi C hZ (Tf := TX7) (N := 18) hk13 (by decide) rfl tw_3_112 tw_3_113 tw_3_114 tw_1_21 tw_3_115 hy_X7_endOn ⟨Nat.le_of_ble_eq_true rfl, Nat.le_of_ble_eq_true rfl⟩ (As := [Value.int r12]) (rest := [Value.int (gI S1 808 a7), Value.int x2, Value.int (gI S1 808 a4)]) (c_X7_endOn l D cy a7 r12 S11 _ h) rfl (by first | rfl | (simp only [ha8]; rfl) | simp only [ha8]) (by simp [va_cat, vi_cat, vl_cat]) dX8_firstMet_73 ⟨Nat.le_of_ble_eq_true rfl, Nat.le_of_ble_eq_true rfl⟩ (fun r15 S14 h => ?_)
          refine G_callSi C hZ tw_2_17 tw_2_18 tw_1_1 tw_2_19 hy_X8_overlap ⟨Nat.le_of_ble_eq_true rfl, Nat.le_of_ble_eq_true rfl⟩ (As := [Value.int (gI S1 808 a4), Value.int x2, Value.int (gI S1 808 a7), Value.int r15]) (rest := []) (c_X8_overlap l D cy (gI S1 808 a4) x2 (gI S1 808 a7) r15 S14 _ h) rfl rfl (by simp [va_cat, vi_cat, vl_cat]) dX8_firstMet_76 ⟨Nat.le_of_ble_eq_true rfl, Nat.le_of_ble_eq_true rfl⟩ (fun r17 S16 h => ?_)
          obtain ⟨hb18, h⟩ := h
          refine G_if_eq C (tgt := 103) dX8_firstMet_79 (by decide) (fun hc => ?_) (fun hc => ?_)
          · have h := h.1 hc
            refine G_lv C (lv' := [(0, va_rf (some x0)), (1, va_rf x1), (2, Value.int x2), (4, Value.int x4), (5, Value.int v5)]) [0, 1, 2, 3, 4] rfl ?_
            exact J103 _ _ h
          · have h := h.2 hc
            refine G_aload_n C (x := x1) 1 dX8_firstMet_82 rfl rfl ?_
            refine G_aload C (x := v6) 5 dX8_firstMet_83 rfl ?_
            obtain ⟨hk19, h⟩ := h
            refine G_callVi C hZ (Tf := TX7) (N := 18) hk19 (by decide) rfl tw_3_137 tw_3_138 tw_3_139 tw_1_21 tw_3_140 hy_X7_agreesWith ⟨Nat.le_of_ble_eq_true rfl, Nat.le_of_ble_eq_true rfl⟩ (As := [va_rf v6]) (rest := []) (c_X7_agreesWith l D cy a4 v6 S16 _ h) rfl (by first | rfl | (simp only [ha5]; rfl) | simp only [ha5]) (by simp [va_cat, vi_cat, vl_cat]) dX8_firstMet_85 ⟨Nat.le_of_ble_eq_true rfl, Nat.le_of_ble_eq_true rfl⟩ (fun r21 S20 h => ?_)
            obtain ⟨hb22, h⟩ := h
            refine G_if_ne C (tgt := 103) dX8_firstMet_88 (by decide) (fun hc => ?_) (fun hc => ?_)
            · have h := h.1 hc
              refine G_lv C (lv' := [(0, va_rf (some x0)), (1, va_rf x1), (2, Value.int x2), (4, Value.int x4), (5, Value.int v5)]) [0, 1, 2, 3, 4] rfl ?_
              exact J103 _ _ h
            · have h := h.2 hc
              refine G_aload_n C (x := x1) 1 dX8_firstMet_91 rfl rfl ?_
              refine G_aload C (x := v6) 5 dX8_firstMet_92 rfl ?_
              refine G_callSi C hZ tw_3_145 tw_3_146 tw_1_21 tw_3_147 hy_X7_areNear ⟨Nat.le_of_ble_eq_true rfl, Nat.le_of_ble_eq_true rfl⟩ (As := [va_rf x1, va_rf v6]) (rest := []) (c_X7_areNear l D cy x1 v6 S20 _ h) rfl rfl (by simp [va_cat, vi_cat, vl_cat]) dX8_firstMet_94 ⟨Nat.le_of_ble_eq_true rfl, Nat.le_of_ble_eq_true rfl⟩ (fun r24 S23 h => ?_)
              obtain ⟨hb25, h⟩ := h
              refine G_if_eq C (tgt := 103) dX8_firstMet_97 (by decide) (fun hc => ?_) (fun hc => ?_)
              · have h := h.1 hc
                refine G_lv C (lv' := [(0, va_rf (some x0)), (1, va_rf x1), (2, Value.int x2), (4, Value.int x4), (5, Value.int v5)]) [0, 1, 2, 3, 4] rfl ?_
                exact J103 _ _ h
              · have h := h.2 hc
                refine G_iload C (x := v5) 4 dX8_firstMet_100 rfl ?_
                exact G_iret C (mc := 0) (ms := 0) (post := post) hr (Nat.le_of_ble_eq_true rfl) (Nat.le_of_ble_eq_true rfl) dX8_firstMet_102 h
      intro S v5 h
      rw [w_X8_firstMet_l3] at h
      refine G_iload C (x := v5) 4 dX8_firstMet_3 rfl ?_
      refine G_aload_n C (x := (some x0)) 0 dX8_firstMet_5 rfl rfl ?_
      obtain ⟨hk26, h⟩ := h
      refine G_get C (CC := RX8) (Tf := TX8) (N := 10) (k := 9) (i := 4) (v := va_rf (gP S 904 x0)) hk26 (by decide) rfl (fin fwX8) (by decide) (im tw_1_103) rfl rfl dX8_firstMet_6 ?_
      obtain ⟨a27, ha28, h⟩ := h
      refine G_rf ha28 ?_
      obtain ⟨hk29, h⟩ := h
      refine G_alen C hk29 (by decide) rfl dX8_firstMet_9 ?_
      refine G_icmp_ge C (tgt := 109) dX8_firstMet_10 (by decide) (fun hc => ?_) (fun hc => ?_)
      · have h := h.1 hc
        refine G_iconst C (v := (-1)) dX8_firstMet_109 (by decide) ?_
        exact G_iret C (mc := 0) (ms := 0) (post := post) hr (Nat.le_of_ble_eq_true rfl) (Nat.le_of_ble_eq_true rfl) dX8_firstMet_110 h
      · have h := h.2 hc
        refine G_aload_n C (x := (some x0)) 0 dX8_firstMet_13 rfl rfl ?_
        refine G_iload C (x := v5) 4 dX8_firstMet_14 rfl ?_
        refine G_callVq C hZ (Tf := TX8) (N := 10) hk26 (by decide) rfl tw_3_102 tw_3_104 tw_0_12 tw_1_1 tw_3_105 hy_X8_worksAt ⟨Nat.le_of_ble_eq_true rfl, Nat.le_of_ble_eq_true rfl⟩ (As := [Value.int v5]) (rest := []) (c_X8_worksAt l D cy x0 v5 S _ h) rfl rfl (by simp [va_cat, vi_cat, vl_cat]) dX8_firstMet_16 ⟨Nat.le_of_ble_eq_true rfl, Nat.le_of_ble_eq_true rfl⟩ (fun r31 S30 h => ?_)
        refine G_astore C (i := 6) (lv' := [(6, va_rf r31), (0, va_rf (some x0)), (1, va_rf x1), (2, Value.int x2), (4, Value.int x4), (5, Value.int v5)]) dX8_firstMet_19 (by decide) (by first | rfl | simp [va_cat, vi_cat, vl_cat]) ?_
        refine G_aload C (x := r31) 0 dX8_firstMet_21 rfl ?_
        refine G_ifnull C (tgt := 103) dX8_firstMet_23 (by decide) (fun hc => ?_) (fun a32 ha33 => ?_)
        · have h := h.1 hc
          refine G_lv C (lv' := [(0, va_rf (some x0)), (1, va_rf x1), (2, Value.int x2), (4, Value.int x4), (5, Value.int v5)]) [1, 2, 3, 4, 5] rfl ?_
          exact J103 _ _ h
        · have h := h.2 a32 ha33
          refine G_aload C (x := r31) 0 dX8_firstMet_26 rfl ?_
          refine G_aload_n C (x := x1) 2 dX8_firstMet_28 rfl rfl ?_
          refine G_acmp_eq C (tgt := 103) dX8_firstMet_29 (by decide) (fun hc => ?_) (fun hc => ?_)
          · have h := h.1 hc
            refine G_lv C (lv' := [(0, va_rf (some x0)), (1, va_rf x1), (2, Value.int x2), (4, Value.int x4), (5, Value.int v5)]) [1, 2, 3, 4, 5] rfl ?_
            exact J103 _ _ h
          · have h := h.2 hc
            refine G_iload C (x := x4) 4 dX8_firstMet_32 rfl ?_
            refine G_if_eq C (tgt := 48) dX8_firstMet_34 (by decide) (fun hc => ?_) (fun hc => ?_)
            · have h := h.1 hc
              refine G_lv C (lv' := [(0, va_rf (some x0)), (1, va_rf x1), (2, Value.int x2), (4, Value.int x4), (5, Value.int v5), (6, va_rf r31)]) [1, 2, 3, 4, 5, 0] rfl ?_
              exact J48 _ _ _ h
            · have h := h.2 hc
              refine G_aload C (x := r31) 0 dX8_firstMet_37 rfl ?_
              obtain ⟨hk34, h⟩ := h
              refine G_callVi C hZ (Tf := TX7) (N := 18) hk34 (by decide) rfl tw_3_125 tw_3_126 tw_3_127 tw_1_21 tw_3_128 hy_X7_isStanding ⟨Nat.le_of_ble_eq_true rfl, Nat.le_of_ble_eq_true rfl⟩ (As := []) (rest := []) (c_X7_isStanding l D cy a32 S30 _ h) rfl (by first | rfl | (simp only [ha33]; rfl) | simp only [ha33]) (by simp [va_cat, vi_cat, vl_cat]) dX8_firstMet_39 ⟨Nat.le_of_ble_eq_true rfl, Nat.le_of_ble_eq_true rfl⟩ (fun r36 S35 h => ?_)
              obtain ⟨hb37, h⟩ := h
              refine G_if_ne C (tgt := 48) dX8_firstMet_42 (by decide) (fun hc => ?_) (fun hc => ?_)
              · have h := h.1 hc
                refine G_lv C (lv' := [(0, va_rf (some x0)), (1, va_rf x1), (2, Value.int x2), (4, Value.int x4), (5, Value.int v5), (6, va_rf r31)]) [1, 2, 3, 4, 5, 0] rfl ?_
                exact J48 _ _ _ h
              · have h := h.2 hc
                refine G_goto C (tgt := 103) dX8_firstMet_45 (by decide) ?_
                refine G_lv C (lv' := [(0, va_rf (some x0)), (1, va_rf x1), (2, Value.int x2), (4, Value.int x4), (5, Value.int v5)]) [1, 2, 3, 4, 5] rfl ?_
                exact J103 _ _ h
  refine G_lv C (lv' := [(0, va_rf (some x0)), (1, va_rf x1), (2, Value.int x2), (3, Value.int x3), (4, Value.int x4)]) [0, 1, 2, 3, 4] (by first | rfl | simp [lv_pick, lv_args, va_cat, vi_cat, vl_cat]) ?_
  unfold w_X8_firstMet at h
  refine G_iload_n C (x := x3) 3 dX8_firstMet_0 rfl rfl ?_
  refine G_istore C (i := 5) (lv' := [(5, Value.int x3), (0, va_rf (some x0)), (1, va_rf x1), (2, Value.int x2), (3, Value.int x3), (4, Value.int x4)]) dX8_firstMet_1 (by decide) (by first | rfl | simp [va_cat, vi_cat, vl_cat]) ?_
  refine G_lv C (lv' := [(0, va_rf (some x0)), (1, va_rf x1), (2, Value.int x2), (4, Value.int x4), (5, Value.int x3)]) [1, 2, 3, 5, 0] rfl ?_
  obtain ⟨n9, h⟩ := h
  exact J3 n9 _ _ h
set_option maxHeartbeats 4000000 in
set_option maxRecDepth 100000 in
theorem c_X8_whatBars (l : Launch) (D : va_G) (cy : Nat → Nat) (x0 : Nat) (x1 : Option Nat) (S : PT) (post : Int32 → PT → Prop) (h : w_X8_whatBars x0 x1 S post) : Mi l yX8_whatBars (Wm yX8_whatBars prog_1_method_54_code 3 (Option.some Jvm.ClassFile.FieldType.int)) 3 69 D cy [va_rf (some x0), va_rf x1] S 0 0 post := by
  refine Mi_of (own := "Trenchboard") (by decide) rfl (by first | decide | simp [lg_sl, va_cat, vi_cat, vl_cat]) (fun p e s m below meth c A C hZ hr hin9 => ?_)
  have J77 : ∀ (S : PT) (s0 : Int32), w_X8_whatBars_b77 x0 x1 post S s0 → G p l e { frames := 3, cells := 0, slots := 0, locals := 69 } s m [va_rf (some x0), va_rf x1].toArray below meth c D cy A s.heap 3 (QMi below D cy A [va_rf (some x0), va_rf x1] s 0 0 post) S 0 0 77 [] [Value.int s0] := by
    intro S s0 h
    unfold w_X8_whatBars_b77 at h
    exact G_iret C (mc := 0) (ms := 0) (post := post) hr (Nat.le_of_ble_eq_true rfl) (Nat.le_of_ble_eq_true rfl) dX8_whatBars_77 h
  have J60 : ∀ (S : PT) (v2 : Int32), w_X8_whatBars_b60 x0 x1 post S v2 → G p l e { frames := 3, cells := 0, slots := 0, locals := 69 } s m [va_rf (some x0), va_rf x1].toArray below meth c D cy A s.heap 3 (QMi below D cy A [va_rf (some x0), va_rf x1] s 0 0 post) S 0 0 60 [(0, va_rf (some x0)), (1, va_rf x1), (2, Value.int v2)] [] := by
    intro S v2 h
    unfold w_X8_whatBars_b60 at h
    refine G_aload_n C (x := (some x0)) 0 dX8_whatBars_60 rfl rfl ?_
    refine G_aload_n C (x := x1) 1 dX8_whatBars_61 rfl rfl ?_
    refine G_iload_n C (x := v2) 2 dX8_whatBars_62 rfl rfl ?_
    refine G_iconst C (v := 0) dX8_whatBars_63 (by decide) ?_
    refine G_iconst C (v := 1) dX8_whatBars_64 (by decide) ?_
    obtain ⟨hk1, h⟩ := h
    refine G_callVi C hZ (Tf := TX8) (N := 10) hk1 (by decide) rfl tw_3_121 tw_3_123 tw_0_14 tw_1_1 tw_3_124 hy_X8_firstMet ⟨Nat.le_of_ble_eq_true rfl, Nat.le_of_ble_eq_true rfl⟩ (As := [va_rf x1, Value.int v2, Value.int 0, Value.int 1]) (rest := []) (c_X8_firstMet l D cy x0 x1 v2 0 1 S _ h) rfl rfl (by simp [va_cat, vi_cat, vl_cat]) dX8_whatBars_65 ⟨Nat.le_of_ble_eq_true rfl, Nat.le_of_ble_eq_true rfl⟩ (fun r3 S2 h => ?_)
    refine G_iconst C (v := (-1)) dX8_whatBars_68 (by decide) ?_
    refine G_icmp_ne C (tgt := 76) dX8_whatBars_69 (by decide) (fun hc => ?_) (fun hc => ?_)
    · have h := h.1 hc
      refine G_iconst C (v := 3) dX8_whatBars_76 (by decide) ?_
      refine G_lv C (lv' := []) [] rfl ?_
      exact J77 _ _ h
    · have h := h.2 hc
      refine G_iconst C (v := 0) dX8_whatBars_72 (by decide) ?_
      refine G_goto C (tgt := 77) dX8_whatBars_73 (by decide) ?_
      refine G_lv C (lv' := []) [] rfl ?_
      exact J77 _ _ h
  refine G_lv C (lv' := [(0, va_rf (some x0)), (1, va_rf x1)]) [0, 1] (by first | rfl | simp [lv_pick, lv_args, va_cat, vi_cat, vl_cat]) ?_
  unfold w_X8_whatBars at h
  refine G_aload_n C (x := x1) 1 dX8_whatBars_0 rfl rfl ?_
  obtain ⟨a4, ha5, h⟩ := h
  refine G_rf ha5 ?_
  obtain ⟨hk6, h⟩ := h
  refine G_get C (CC := RX7) (Tf := TX7) (N := 18) (k := 8) (i := 3) (v := Value.int (gI S 803 a4)) hk6 (by decide) rfl (fin fwX7) (by decide) (im tw_4_218) rfl rfl dX8_whatBars_1 ?_
  refine G_iconst C (v := 3) dX8_whatBars_4 (by decide) ?_
  refine G_icmp_ne C (tgt := 10) dX8_whatBars_5 (by decide) (fun hc => ?_) (fun hc => ?_)
  · have h := h.1 hc
    refine G_aload_n C (x := x1) 1 dX8_whatBars_10 rfl rfl ?_
    refine G_aload_n C (x := (some x0)) 0 dX8_whatBars_11 rfl rfl ?_
    obtain ⟨hk7, h⟩ := h
    refine G_callVi C hZ (Tf := TX8) (N := 10) hk7 (by decide) rfl tw_1_234 tw_1_236 tw_0_3 tw_1_1 tw_1_237 hy_X8_today ⟨Nat.le_of_ble_eq_true rfl, Nat.le_of_ble_eq_true rfl⟩ (As := []) (rest := [va_rf x1]) (c_X8_today l D cy x0 S _ h) rfl rfl (by simp [va_cat, vi_cat, vl_cat]) dX8_whatBars_12 ⟨Nat.le_of_ble_eq_true rfl, Nat.le_of_ble_eq_true rfl⟩ (fun r9 S8 h => ?_)
    obtain ⟨hk10, h⟩ := h
    refine G_callVi C hZ (Tf := TX7) (N := 18) hk10 (by decide) rfl tw_3_112 tw_3_113 tw_3_114 tw_1_21 tw_3_115 hy_X7_endOn ⟨Nat.le_of_ble_eq_true rfl, Nat.le_of_ble_eq_true rfl⟩ (As := [Value.int r9]) (rest := []) (c_X7_endOn l D cy a4 r9 S8 _ h) rfl (by first | rfl | (simp only [ha5]; rfl) | simp only [ha5]) (by simp [va_cat, vi_cat, vl_cat]) dX8_whatBars_15 ⟨Nat.le_of_ble_eq_true rfl, Nat.le_of_ble_eq_true rfl⟩ (fun r12 S11 h => ?_)
    refine G_istore_n C (i := 2) (lv' := [(2, Value.int r12), (0, va_rf (some x0)), (1, va_rf x1)]) dX8_whatBars_18 rfl (by decide) (by first | rfl | simp [va_cat, vi_cat, vl_cat]) ?_
    refine G_aload_n C (x := x1) 2 dX8_whatBars_19 rfl rfl ?_
    refine G_rf ha5 ?_
    obtain ⟨hk13, h⟩ := h
    refine G_get C (CC := RX7) (Tf := TX7) (N := 18) (k := 8) (i := 2) (v := va_rf (gP S11 802 a4)) hk13 (by decide) rfl (fin fwX7) (by decide) (im tw_4_216) rfl rfl dX8_whatBars_20 ?_
    refine G_aload_n C (x := x1) 2 dX8_whatBars_23 rfl rfl ?_
    refine G_rf ha5 ?_
    refine G_get C (CC := RX7) (Tf := TX7) (N := 18) (k := 8) (i := 8) (v := Value.int (gI S11 808 a4)) hk13 (by decide) rfl (fin fwX7) (by decide) (im tw_4_226) rfl rfl dX8_whatBars_24 ?_
    refine G_iload_n C (x := r12) 0 dX8_whatBars_27 rfl rfl ?_
    obtain ⟨a14, ha15, h⟩ := h
    obtain ⟨hk16, h⟩ := h
    refine G_callVi C hZ (Tf := TX4) (N := 12) hk16 (by decide) rfl tw_3_2 tw_3_3 tw_3_4 tw_1_13 tw_3_5 hy_X4_hasEmbargoIn ⟨Nat.le_of_ble_eq_true rfl, Nat.le_of_ble_eq_true rfl⟩ (As := [Value.int (gI S11 808 a4), Value.int r12]) (rest := []) (c_X4_hasEmbargoIn l D cy a14 (gI S11 808 a4) r12 S11 _ h) rfl (by first | rfl | (simp only [ha15]; rfl) | simp only [ha15]) (by simp [va_cat, vi_cat, vl_cat]) dX8_whatBars_28 ⟨Nat.le_of_ble_eq_true rfl, Nat.le_of_ble_eq_true rfl⟩ (fun r18 S17 h => ?_)
    obtain ⟨hb19, h⟩ := h
    refine G_if_eq C (tgt := 36) dX8_whatBars_31 (by decide) (fun hc => ?_) (fun hc => ?_)
    · have h := h.1 hc
      refine G_aload_n C (x := x1) 2 dX8_whatBars_36 rfl rfl ?_
      refine G_rf ha5 ?_
      obtain ⟨hk20, h⟩ := h
      refine G_get C (CC := RX7) (Tf := TX7) (N := 18) (k := 8) (i := 17) (v := Value.int (gI S17 817 a4)) hk20 (by decide) rfl (fin fwX7) (by decide) (im tw_5_1) rfl rfl dX8_whatBars_37 ?_
      refine G_if_ne C (tgt := 60) dX8_whatBars_40 (by decide) (fun hc => ?_) (fun hc => ?_)
      · have h := h.1 hc
        refine G_lv C (lv' := [(0, va_rf (some x0)), (1, va_rf x1), (2, Value.int r12)]) [1, 2, 0] rfl ?_
        exact J60 _ _ h
      · have h := h.2 hc
        refine G_aload_n C (x := x1) 2 dX8_whatBars_43 rfl rfl ?_
        refine G_rf ha5 ?_
        refine G_get C (CC := RX7) (Tf := TX7) (N := 18) (k := 8) (i := 2) (v := va_rf (gP S17 802 a4)) hk20 (by decide) rfl (fin fwX7) (by decide) (im tw_4_216) rfl rfl dX8_whatBars_44 ?_
        refine G_aload_n C (x := x1) 2 dX8_whatBars_47 rfl rfl ?_
        refine G_rf ha5 ?_
        refine G_get C (CC := RX7) (Tf := TX7) (N := 18) (k := 8) (i := 8) (v := Value.int (gI S17 808 a4)) hk20 (by decide) rfl (fin fwX7) (by decide) (im tw_4_226) rfl rfl dX8_whatBars_48 ?_
        refine G_iload_n C (x := r12) 0 dX8_whatBars_51 rfl rfl ?_
        obtain ⟨a21, ha22, h⟩ := h
        obtain ⟨hk23, h⟩ := h
        refine G_callVi C hZ (Tf := TX4) (N := 12) hk23 (by decide) rfl tw_3_117 tw_3_118 tw_3_119 tw_1_13 tw_3_120 hy_X4_isNewIn ⟨Nat.le_of_ble_eq_true rfl, Nat.le_of_ble_eq_true rfl⟩ (As := [Value.int (gI S17 808 a4), Value.int r12]) (rest := []) (c_X4_isNewIn l D cy a21 (gI S17 808 a4) r12 S17 _ h) rfl (by first | rfl | (simp only [ha22]; rfl) | simp only [ha22]) (by simp [va_cat, vi_cat, vl_cat]) dX8_whatBars_52 ⟨Nat.le_of_ble_eq_true rfl, Nat.le_of_ble_eq_true rfl⟩ (fun r25 S24 h => ?_)
        obtain ⟨hb26, h⟩ := h
        refine G_if_eq C (tgt := 60) dX8_whatBars_55 (by decide) (fun hc => ?_) (fun hc => ?_)
        · have h := h.1 hc
          refine G_lv C (lv' := [(0, va_rf (some x0)), (1, va_rf x1), (2, Value.int r12)]) [1, 2, 0] rfl ?_
          exact J60 _ _ h
        · have h := h.2 hc
          refine G_iconst C (v := 2) dX8_whatBars_58 (by decide) ?_
          exact G_iret C (mc := 0) (ms := 0) (post := post) hr (Nat.le_of_ble_eq_true rfl) (Nat.le_of_ble_eq_true rfl) dX8_whatBars_59 h
    · have h := h.2 hc
      refine G_iconst C (v := 1) dX8_whatBars_34 (by decide) ?_
      exact G_iret C (mc := 0) (ms := 0) (post := post) hr (Nat.le_of_ble_eq_true rfl) (Nat.le_of_ble_eq_true rfl) dX8_whatBars_35 h
  · have h := h.2 hc
    refine G_iconst C (v := 0) dX8_whatBars_8 (by decide) ?_
    exact G_iret C (mc := 0) (ms := 0) (post := post) hr (Nat.le_of_ble_eq_true rfl) (Nat.le_of_ble_eq_true rfl) dX8_whatBars_9 h
set_option maxHeartbeats 4000000 in
set_option maxRecDepth 100000 in
theorem c_X8_partyAt (l : Launch) (D : va_G) (cy : Nat → Nat) (x0 : Nat) (x1 : Int32) (S : PT) (post : Option Nat → PT → Prop) (h : w_X8_partyAt x0 x1 S post) : Mq l yX8_partyAt (Wm yX8_partyAt prog_1_method_39_code 2 (Option.some (Jvm.ClassFile.FieldType.object "Trenchboard$Party"))) 0 0 D cy [va_rf (some x0), Value.int x1] S 0 0 post := by
  refine Mq_of (own := "Trenchboard") (by decide) rfl (by first | decide | simp [lg_sl, va_cat, vi_cat, vl_cat]) (fun p e s m below meth c A C hZ hr hin9 => ?_)
  have J23 : ∀ (S : PT) (s0 : Option Nat), w_X8_partyAt_b23 x0 x1 post S s0 → G p l e { frames := 0, cells := 0, slots := 0, locals := 0 } s m [va_rf (some x0), Value.int x1].toArray below meth c D cy A s.heap 2 (QMq below D cy A [va_rf (some x0), Value.int x1] s 0 0 post) S 0 0 23 [] [va_rf s0] := by
    intro S s0 h
    unfold w_X8_partyAt_b23 at h
    exact G_aret C (mc := 0) (ms := 0) (post := post) (v := s0) (Or.inl ⟨_, rfl⟩) hr (Nat.le_of_ble_eq_true rfl) (Nat.le_of_ble_eq_true rfl) dX8_partyAt_23 h
  have J22 : ∀ (S : PT), w_X8_partyAt_b22 x0 x1 post S → G p l e { frames := 0, cells := 0, slots := 0, locals := 0 } s m [va_rf (some x0), Value.int x1].toArray below meth c D cy A s.heap 2 (QMq below D cy A [va_rf (some x0), Value.int x1] s 0 0 post) S 0 0 22 [] [] := by
    intro S h
    unfold w_X8_partyAt_b22 at h
    refine G_null C dX8_partyAt_22 ?_
    refine G_lv C (lv' := []) [] rfl ?_
    exact J23 _ _ h
  refine G_lv C (lv' := [(0, va_rf (some x0)), (1, Value.int x1)]) [0, 1] (by first | rfl | simp [lv_pick, lv_args, va_cat, vi_cat, vl_cat]) ?_
  unfold w_X8_partyAt at h
  refine G_iload_n C (x := x1) 1 dX8_partyAt_0 rfl rfl ?_
  refine G_if_lt C (tgt := 22) dX8_partyAt_1 (by decide) (fun hc => ?_) (fun hc => ?_)
  · have h := h.1 hc
    refine G_lv C (lv' := []) [] rfl ?_
    exact J22 _ h
  · have h := h.2 hc
    refine G_iload_n C (x := x1) 1 dX8_partyAt_4 rfl rfl ?_
    refine G_aload_n C (x := (some x0)) 0 dX8_partyAt_5 rfl rfl ?_
    obtain ⟨hk1, h⟩ := h
    refine G_get C (CC := RX8) (Tf := TX8) (N := 10) (k := 9) (i := 6) (v := va_rf (gP S 906 x0)) hk1 (by decide) rfl (fin fwX8) (by decide) (im tw_1_105) rfl rfl dX8_partyAt_6 ?_
    obtain ⟨a2, ha3, h⟩ := h
    refine G_rf ha3 ?_
    obtain ⟨hk4, h⟩ := h
    refine G_alen C hk4 (by decide) rfl dX8_partyAt_9 ?_
    refine G_icmp_ge C (tgt := 22) dX8_partyAt_10 (by decide) (fun hc => ?_) (fun hc => ?_)
    · have h := h.1 hc
      refine G_lv C (lv' := []) [] rfl ?_
      exact J22 _ h
    · have h := h.2 hc
      refine G_aload_n C (x := (some x0)) 0 dX8_partyAt_13 rfl rfl ?_
      refine G_get C (CC := RX8) (Tf := TX8) (N := 10) (k := 9) (i := 6) (v := va_rf (gP S 906 x0)) hk1 (by decide) rfl (fin fwX8) (by decide) (im tw_1_105) rfl rfl dX8_partyAt_14 ?_
      refine G_iload_n C (x := x1) 1 dX8_partyAt_17 rfl rfl ?_
      refine G_rf1 ha3 ?_
      obtain ⟨hi5, h⟩ := h
      refine G_aald C hk4 (by decide) rfl hi5 dX8_partyAt_18 ?_
      refine G_goto C (tgt := 23) dX8_partyAt_19 (by decide) ?_
      refine G_lv C (lv' := []) [] rfl ?_
      exact J23 _ _ h
set_option maxHeartbeats 4000000 in
set_option maxRecDepth 100000 in
theorem c_X8_isBusy (l : Launch) (D : va_G) (cy : Nat → Nat) (x0 : Nat) (S : PT) (post : Int32 → PT → Prop) (h : w_X8_isBusy x0 S post) : Mi l yX8_isBusy (Wm yX8_isBusy prog_1_method_43_code 2 (Option.some Jvm.ClassFile.FieldType.boolean)) 0 0 D cy [va_rf (some x0)] S 0 0 (fun r S => bo r ∧ post r S) := by
  refine Mi_of (own := "Trenchboard") (by decide) rfl (by first | decide | simp [lg_sl, va_cat, vi_cat, vl_cat]) (fun p e s m below meth c A C hZ hr hin9 => ?_)
  have J37 : ∀ (S : PT) (s0 : Int32), w_X8_isBusy_b37 x0 post S s0 → G p l e { frames := 0, cells := 0, slots := 0, locals := 0 } s m [va_rf (some x0)].toArray below meth c D cy A s.heap 2 (QMi below D cy A [va_rf (some x0)] s 0 0 (fun r S => bo r ∧ post r S)) S 0 0 37 [] [Value.int s0] := by
    intro S s0 h
    unfold w_X8_isBusy_b37 at h
    obtain ⟨hb1, h⟩ := h
    exact G_zret C (mc := 0) (ms := 0) (post := (fun r S => bo r ∧ post r S)) (bo_nar hb1) hr (Nat.le_of_ble_eq_true rfl) (Nat.le_of_ble_eq_true rfl) dX8_isBusy_37 ⟨hb1, h⟩
  have J36 : ∀ (S : PT), w_X8_isBusy_b36 x0 post S → G p l e { frames := 0, cells := 0, slots := 0, locals := 0 } s m [va_rf (some x0)].toArray below meth c D cy A s.heap 2 (QMi below D cy A [va_rf (some x0)] s 0 0 (fun r S => bo r ∧ post r S)) S 0 0 36 [] [] := by
    intro S h
    unfold w_X8_isBusy_b36 at h
    refine G_iconst C (v := 0) dX8_isBusy_36 (by decide) ?_
    refine G_lv C (lv' := []) [] rfl ?_
    exact J37 _ _ h
  have J32 : ∀ (S : PT), w_X8_isBusy_b32 x0 post S → G p l e { frames := 0, cells := 0, slots := 0, locals := 0 } s m [va_rf (some x0)].toArray below meth c D cy A s.heap 2 (QMi below D cy A [va_rf (some x0)] s 0 0 (fun r S => bo r ∧ post r S)) S 0 0 32 [] [] := by
    intro S h
    unfold w_X8_isBusy_b32 at h
    refine G_iconst C (v := 1) dX8_isBusy_32 (by decide) ?_
    refine G_goto C (tgt := 37) dX8_isBusy_33 (by decide) ?_
    refine G_lv C (lv' := []) [] rfl ?_
    exact J37 _ _ h
  have J20 : ∀ (S : PT) (v1 : Int32), w_X8_isBusy_b20 x0 post S v1 → G p l e { frames := 0, cells := 0, slots := 0, locals := 0 } s m [va_rf (some x0)].toArray below meth c D cy A s.heap 2 (QMi below D cy A [va_rf (some x0)] s 0 0 (fun r S => bo r ∧ post r S)) S 0 0 20 [(1, Value.int v1)] [] := by
    intro S v1 h
    unfold w_X8_isBusy_b20 at h
    refine G_iload_n C (x := v1) 0 dX8_isBusy_20 rfl rfl ?_
    refine G_bipush C (v := 16) dX8_isBusy_21 (by decide) ?_
    refine G_icmp_lt C (tgt := 36) dX8_isBusy_23 (by decide) (fun hc => ?_) (fun hc => ?_)
    · have h := h.1 hc
      refine G_lv C (lv' := []) [] rfl ?_
      exact J36 _ h
    · have h := h.2 hc
      refine G_iload_n C (x := v1) 0 dX8_isBusy_26 rfl rfl ?_
      refine G_bipush C (v := 18) dX8_isBusy_27 (by decide) ?_
      refine G_icmp_gt C (tgt := 36) dX8_isBusy_29 (by decide) (fun hc => ?_) (fun hc => ?_)
      · have h := h.1 hc
        refine G_lv C (lv' := []) [] rfl ?_
        exact J36 _ h
      · have h := h.2 hc
        refine G_lv C (lv' := []) [] rfl ?_
        exact J32 _ h
  refine G_lv C (lv' := [(0, va_rf (some x0))]) [0] (by first | rfl | simp [lv_pick, lv_args, va_cat, vi_cat, vl_cat]) ?_
  unfold w_X8_isBusy at h
  refine G_aload_n C (x := (some x0)) 0 dX8_isBusy_0 rfl rfl ?_
  obtain ⟨hk2, h⟩ := h
  refine G_get C (CC := RX8) (Tf := TX8) (N := 10) (k := 9) (i := 9) (v := Value.int (gI S 909 x0)) hk2 (by decide) rfl (fin fwX8) (by decide) (im tw_1_108) rfl rfl dX8_isBusy_1 ?_
  refine G_bipush C (v := 24) dX8_isBusy_4 (by decide) ?_
  refine G_irem C dX8_isBusy_6 (by decide) ?_
  refine G_istore_n C (i := 1) (lv' := [(1, Value.int ((gI S 909 x0) - (gI S 909 x0) / 24 * 24)), (0, va_rf (some x0))]) dX8_isBusy_7 rfl (by decide) (by first | rfl | simp [va_cat, vi_cat, vl_cat]) ?_
  refine G_iload_n C (x := ((gI S 909 x0) - (gI S 909 x0) / 24 * 24)) 0 dX8_isBusy_8 rfl rfl ?_
  refine G_bipush C (v := 7) dX8_isBusy_9 (by decide) ?_
  refine G_icmp_lt C (tgt := 20) dX8_isBusy_11 (by decide) (fun hc => ?_) (fun hc => ?_)
  · have h := h.1 hc
    refine G_lv C (lv' := [(1, Value.int ((gI S 909 x0) - (gI S 909 x0) / 24 * 24))]) [0] rfl ?_
    exact J20 _ _ h
  · have h := h.2 hc
    refine G_iload_n C (x := ((gI S 909 x0) - (gI S 909 x0) / 24 * 24)) 0 dX8_isBusy_14 rfl rfl ?_
    refine G_bipush C (v := 9) dX8_isBusy_15 (by decide) ?_
    refine G_icmp_le C (tgt := 32) dX8_isBusy_17 (by decide) (fun hc => ?_) (fun hc => ?_)
    · have h := h.1 hc
      refine G_lv C (lv' := []) [] rfl ?_
      exact J32 _ h
    · have h := h.2 hc
      refine G_lv C (lv' := [(1, Value.int ((gI S 909 x0) - (gI S 909 x0) / 24 * 24))]) [0] rfl ?_
      exact J20 _ _ h
set_option maxHeartbeats 4000000 in
set_option maxRecDepth 100000 in
theorem c_X8_suspects (l : Launch) (D : va_G) (cy : Nat → Nat) (x0 : Nat) (x1 : Option Nat) (x2 : Int32) (x3 : Int32) (S : PT) (post : Int32 → PT → Prop) (h : w_X8_suspects x0 x1 x2 x3 S post) : Mi l yX8_suspects (Wm yX8_suspects prog_1_method_50_code 7 (Option.some Jvm.ClassFile.FieldType.int)) 1 23 D cy [va_rf (some x0), va_rf x1, Value.int x2, Value.int x3] S 0 0 post := by
  refine Mi_of (own := "Trenchboard") (by decide) rfl (by first | decide | simp [lg_sl, va_cat, vi_cat, vl_cat]) (fun p e s m below meth c A C hZ hr hin9 => ?_)
  have J6 : ∀ (n : Nat) (S : PT) (v4 : Int32) (v5 : Int32), w_X8_suspects_l6 x0 x1 x2 x3 post n S v4 v5 → G p l e { frames := 1, cells := 0, slots := 0, locals := 23 } s m [va_rf (some x0), va_rf x1, Value.int x2, Value.int x3].toArray below meth c D cy A s.heap 7 (QMi below D cy A [va_rf (some x0), va_rf x1, Value.int x2, Value.int x3] s 0 0 post) S 0 0 6 [(0, va_rf (some x0)), (1, va_rf x1), (2, Value.int x2), (3, Value.int x3), (4, Value.int v4), (5, Value.int v5)] [] := by
    intro n6
    induction n6 with
    | zero => intro S v4 v5 h; rw [w_X8_suspects_l6] at h; exact False.elim h
    | succ n6 K6 =>
      have J74 : ∀ (S : PT) (v4 : Int32) (v5 : Int32), w_X8_suspects_b74 x0 x1 x2 x3 post (w_X8_suspects_l6 x0 x1 x2 x3 post n6) S v4 v5 → G p l e { frames := 1, cells := 0, slots := 0, locals := 23 } s m [va_rf (some x0), va_rf x1, Value.int x2, Value.int x3].toArray below meth c D cy A s.heap 7 (QMi below D cy A [va_rf (some x0), va_rf x1, Value.int x2, Value.int x3] s 0 0 post) S 0 0 74 [(0, va_rf (some x0)), (1, va_rf x1), (2, Value.int x2), (3, Value.int x3), (4, Value.int v4), (5, Value.int v5)] [] := by
        intro S v4 v5 h
        unfold w_X8_suspects_b74 at h
        refine G_iinc C (v := (v5 + 1)) (lv' := [(5, Value.int (v5 + 1)), (0, va_rf (some x0)), (1, va_rf x1), (2, Value.int x2), (3, Value.int x3), (4, Value.int v4)]) 5 dX8_suspects_74 rfl rfl (by decide) (by first | rfl | simp [va_cat, vi_cat, vl_cat]) ?_
        refine G_goto C (tgt := 6) dX8_suspects_77 (by decide) ?_
        refine G_lv C (lv' := [(0, va_rf (some x0)), (1, va_rf x1), (2, Value.int x2), (3, Value.int x3), (4, Value.int v4), (5, Value.int (v5 + 1))]) [1, 2, 3, 4, 5, 0] rfl ?_
        exact K6 _ _ _ h
      intro S v4 v5 h
      rw [w_X8_suspects_l6] at h
      refine G_iload C (x := v5) 5 dX8_suspects_6 rfl ?_
      refine G_aload_n C (x := (some x0)) 0 dX8_suspects_8 rfl rfl ?_
      obtain ⟨hk1, h⟩ := h
      refine G_get C (CC := RX8) (Tf := TX8) (N := 10) (k := 9) (i := 2) (v := va_rf (gP S 902 x0)) hk1 (by decide) rfl (fin fwX8) (by decide) (im tw_1_101) rfl rfl dX8_suspects_9 ?_
      obtain ⟨a2, ha3, h⟩ := h
      refine G_rf ha3 ?_
      obtain ⟨hk4, h⟩ := h
      refine G_alen C hk4 (by decide) rfl dX8_suspects_12 ?_
      refine G_icmp_ge C (tgt := 80) dX8_suspects_13 (by decide) (fun hc => ?_) (fun hc => ?_)
      · have h := h.1 hc
        refine G_iload C (x := v4) 4 dX8_suspects_80 rfl ?_
        exact G_iret C (mc := 0) (ms := 0) (post := post) hr (Nat.le_of_ble_eq_true rfl) (Nat.le_of_ble_eq_true rfl) dX8_suspects_82 h
      · have h := h.2 hc
        refine G_aload_n C (x := (some x0)) 0 dX8_suspects_16 rfl rfl ?_
        refine G_get C (CC := RX8) (Tf := TX8) (N := 10) (k := 9) (i := 2) (v := va_rf (gP S 902 x0)) hk1 (by decide) rfl (fin fwX8) (by decide) (im tw_1_101) rfl rfl dX8_suspects_17 ?_
        refine G_iload C (x := v5) 5 dX8_suspects_20 rfl ?_
        refine G_rf1 ha3 ?_
        obtain ⟨hi5, h⟩ := h
        refine G_aald C hk4 (by decide) rfl hi5 dX8_suspects_22 ?_
        refine G_astore C (i := 6) (lv' := [(6, va_rf (gR S a2 ((v5).toNatClampNeg))), (0, va_rf (some x0)), (1, va_rf x1), (2, Value.int x2), (3, Value.int x3), (4, Value.int v4), (5, Value.int v5)]) dX8_suspects_23 (by decide) (by first | rfl | simp [va_cat, vi_cat, vl_cat]) ?_
        refine G_aload C (x := (gR S a2 ((v5).toNatClampNeg))) 0 dX8_suspects_25 rfl ?_
        refine G_ifnull C (tgt := 74) dX8_suspects_27 (by decide) (fun hc => ?_) (fun a6 ha7 => ?_)
        · have h := h.1 hc
          refine G_lv C (lv' := [(0, va_rf (some x0)), (1, va_rf x1), (2, Value.int x2), (3, Value.int x3), (4, Value.int v4), (5, Value.int v5)]) [1, 2, 3, 4, 5, 6] rfl ?_
          exact J74 _ _ _ h
        · have h := h.2 a6 ha7
          refine G_aload C (x := (gR S a2 ((v5).toNatClampNeg))) 0 dX8_suspects_30 rfl ?_
          refine G_rf ha7 ?_
          obtain ⟨hk8, h⟩ := h
          refine G_get C (CC := RX6) (Tf := TX6) (N := 8) (k := 7) (i := 1) (v := va_rf (gP S 701 a6)) hk8 (by decide) rfl (fin fwX6) (by decide) (im tw_3_25) rfl rfl dX8_suspects_32 ?_
          refine G_aload_n C (x := x1) 2 dX8_suspects_35 rfl rfl ?_
          refine G_acmp_ne C (tgt := 74) dX8_suspects_36 (by decide) (fun hc => ?_) (fun hc => ?_)
          · have h := h.1 hc
            refine G_lv C (lv' := [(0, va_rf (some x0)), (1, va_rf x1), (2, Value.int x2), (3, Value.int x3), (4, Value.int v4), (5, Value.int v5)]) [1, 2, 3, 4, 5, 6] rfl ?_
            exact J74 _ _ _ h
          · have h := h.2 hc
            refine G_aload C (x := (gR S a2 ((v5).toNatClampNeg))) 0 dX8_suspects_39 rfl ?_
            refine G_rf ha7 ?_
            refine G_get C (CC := RX6) (Tf := TX6) (N := 8) (k := 7) (i := 5) (v := Value.int (gI S 705 a6)) hk8 (by decide) rfl (fin fwX6) (by decide) (im tw_3_33) rfl rfl dX8_suspects_41 ?_
            refine G_if_eq C (tgt := 74) dX8_suspects_44 (by decide) (fun hc => ?_) (fun hc => ?_)
            · have h := h.1 hc
              refine G_lv C (lv' := [(0, va_rf (some x0)), (1, va_rf x1), (2, Value.int x2), (3, Value.int x3), (4, Value.int v4), (5, Value.int v5)]) [1, 2, 3, 4, 5, 6] rfl ?_
              exact J74 _ _ _ h
            · have h := h.2 hc
              refine G_iload_n C (x := x2) 3 dX8_suspects_47 rfl rfl ?_
              refine G_iload_n C (x := x3) 4 dX8_suspects_48 rfl rfl ?_
              refine G_aload C (x := (gR S a2 ((v5).toNatClampNeg))) 0 dX8_suspects_49 rfl ?_
              refine G_rf ha7 ?_
              refine G_get C (CC := RX6) (Tf := TX6) (N := 8) (k := 7) (i := 6) (v := Value.int (gI S 706 a6)) hk8 (by decide) rfl (fin fwX6) (by decide) (im tw_3_35) rfl rfl dX8_suspects_51 ?_
              refine G_aload C (x := (gR S a2 ((v5).toNatClampNeg))) 0 dX8_suspects_54 rfl ?_
              refine G_rf ha7 ?_
              refine G_get C (CC := RX6) (Tf := TX6) (N := 8) (k := 7) (i := 7) (v := Value.int (gI S 707 a6)) hk8 (by decide) rfl (fin fwX6) (by decide) (im tw_3_37) rfl rfl dX8_suspects_56 ?_
              refine G_callSi C hZ tw_2_17 tw_2_18 tw_1_1 tw_2_19 hy_X8_overlap ⟨Nat.le_of_ble_eq_true rfl, Nat.le_of_ble_eq_true rfl⟩ (As := [Value.int x2, Value.int x3, Value.int (gI S 706 a6), Value.int (gI S 707 a6)]) (rest := []) (c_X8_overlap l D cy x2 x3 (gI S 706 a6) (gI S 707 a6) S _ h) rfl rfl (by simp [va_cat, vi_cat, vl_cat]) dX8_suspects_59 ⟨Nat.le_of_ble_eq_true rfl, Nat.le_of_ble_eq_true rfl⟩ (fun r10 S9 h => ?_)
              obtain ⟨hb11, h⟩ := h
              refine G_if_eq C (tgt := 74) dX8_suspects_62 (by decide) (fun hc => ?_) (fun hc => ?_)
              · have h := h.1 hc
                refine G_lv C (lv' := [(0, va_rf (some x0)), (1, va_rf x1), (2, Value.int x2), (3, Value.int x3), (4, Value.int v4), (5, Value.int v5)]) [1, 2, 3, 4, 5, 6] rfl ?_
                exact J74 _ _ _ h
              · have h := h.2 hc
                refine G_iload C (x := v4) 5 dX8_suspects_65 rfl ?_
                refine G_iconst C (v := 1) dX8_suspects_67 (by decide) ?_
                refine G_iload C (x := v5) 6 dX8_suspects_68 rfl ?_
                refine G_ishl C dX8_suspects_70 ?_
                refine G_ior C dX8_suspects_71 ?_
                refine G_istore C (i := 4) (lv' := [(4, Value.int (v4 ||| (1 <<< (v5 &&& 31)))), (6, va_rf (gR S a2 ((v5).toNatClampNeg))), (0, va_rf (some x0)), (1, va_rf x1), (2, Value.int x2), (3, Value.int x3), (5, Value.int v5)]) dX8_suspects_72 (by decide) (by first | rfl | simp [va_cat, vi_cat, vl_cat]) ?_
                refine G_lv C (lv' := [(0, va_rf (some x0)), (1, va_rf x1), (2, Value.int x2), (3, Value.int x3), (4, Value.int (v4 ||| (1 <<< (v5 &&& 31)))), (5, Value.int v5)]) [2, 3, 4, 5, 0, 6] rfl ?_
                exact J74 _ _ _ h
  refine G_lv C (lv' := [(0, va_rf (some x0)), (1, va_rf x1), (2, Value.int x2), (3, Value.int x3)]) [0, 1, 2, 3] (by first | rfl | simp [lv_pick, lv_args, va_cat, vi_cat, vl_cat]) ?_
  unfold w_X8_suspects at h
  refine G_iconst C (v := 0) dX8_suspects_0 (by decide) ?_
  refine G_istore C (i := 4) (lv' := [(4, Value.int 0), (0, va_rf (some x0)), (1, va_rf x1), (2, Value.int x2), (3, Value.int x3)]) dX8_suspects_1 (by decide) (by first | rfl | simp [va_cat, vi_cat, vl_cat]) ?_
  refine G_iconst C (v := 0) dX8_suspects_3 (by decide) ?_
  refine G_istore C (i := 5) (lv' := [(5, Value.int 0), (4, Value.int 0), (0, va_rf (some x0)), (1, va_rf x1), (2, Value.int x2), (3, Value.int x3)]) dX8_suspects_4 (by decide) (by first | rfl | simp [va_cat, vi_cat, vl_cat]) ?_
  refine G_lv C (lv' := [(0, va_rf (some x0)), (1, va_rf x1), (2, Value.int x2), (3, Value.int x3), (4, Value.int 0), (5, Value.int 0)]) [2, 3, 4, 5, 1, 0] rfl ?_
  obtain ⟨n9, h⟩ := h
  exact J6 n9 _ _ _ h
set_option maxHeartbeats 4000000 in
set_option maxRecDepth 100000 in
theorem c_X8_isSuspect (l : Launch) (D : va_G) (cy : Nat → Nat) (x0 : Nat) (x1 : Option Nat) (x2 : Int32) (S : PT) (post : Int32 → PT → Prop) (h : w_X8_isSuspect x0 x1 x2 S post) : Mi l yX8_isSuspect (Wm yX8_isSuspect prog_1_method_51_code 3 (Option.some Jvm.ClassFile.FieldType.boolean)) 2 49 D cy [va_rf (some x0), va_rf x1, Value.int x2] S 0 0 (fun r S => bo r ∧ post r S) := by
  refine Mi_of (own := "Trenchboard") (by decide) rfl (by first | decide | simp [lg_sl, va_cat, vi_cat, vl_cat]) (fun p e s m below meth c A C hZ hr hin9 => ?_)
  have J15 : ∀ (S : PT) (s0 : Int32), w_X8_isSuspect_b15 x0 x1 x2 post S s0 → G p l e { frames := 2, cells := 0, slots := 0, locals := 49 } s m [va_rf (some x0), va_rf x1, Value.int x2].toArray below meth c D cy A s.heap 3 (QMi below D cy A [va_rf (some x0), va_rf x1, Value.int x2] s 0 0 (fun r S => bo r ∧ post r S)) S 0 0 15 [] [Value.int s0] := by
    intro S s0 h
    unfold w_X8_isSuspect_b15 at h
    obtain ⟨hb1, h⟩ := h
    exact G_zret C (mc := 0) (ms := 0) (post := (fun r S => bo r ∧ post r S)) (bo_nar hb1) hr (Nat.le_of_ble_eq_true rfl) (Nat.le_of_ble_eq_true rfl) dX8_isSuspect_15 ⟨hb1, h⟩
  refine G_lv C (lv' := [(0, va_rf (some x0)), (1, va_rf x1), (2, Value.int x2)]) [0, 1, 2] (by first | rfl | simp [lv_pick, lv_args, va_cat, vi_cat, vl_cat]) ?_
  unfold w_X8_isSuspect at h
  refine G_aload_n C (x := (some x0)) 0 dX8_isSuspect_0 rfl rfl ?_
  refine G_aload_n C (x := x1) 1 dX8_isSuspect_1 rfl rfl ?_
  refine G_iload_n C (x := x2) 2 dX8_isSuspect_2 rfl rfl ?_
  refine G_iload_n C (x := x2) 2 dX8_isSuspect_3 rfl rfl ?_
  obtain ⟨hk2, h⟩ := h
  refine G_callVi C hZ (Tf := TX8) (N := 10) hk2 (by decide) rfl tw_2_13 tw_2_15 tw_0_5 tw_1_1 tw_2_16 hy_X8_suspects ⟨Nat.le_of_ble_eq_true rfl, Nat.le_of_ble_eq_true rfl⟩ (As := [va_rf x1, Value.int x2, Value.int x2]) (rest := []) (c_X8_suspects l D cy x0 x1 x2 x2 S _ h) rfl rfl (by simp [va_cat, vi_cat, vl_cat]) dX8_isSuspect_4 ⟨Nat.le_of_ble_eq_true rfl, Nat.le_of_ble_eq_true rfl⟩ (fun r4 S3 h => ?_)
  refine G_if_eq C (tgt := 14) dX8_isSuspect_7 (by decide) (fun hc => ?_) (fun hc => ?_)
  · have h := h.1 hc
    refine G_iconst C (v := 0) dX8_isSuspect_14 (by decide) ?_
    refine G_lv C (lv' := []) [] rfl ?_
    exact J15 _ _ h
  · have h := h.2 hc
    refine G_iconst C (v := 1) dX8_isSuspect_10 (by decide) ?_
    refine G_goto C (tgt := 15) dX8_isSuspect_11 (by decide) ?_
    refine G_lv C (lv' := []) [] rfl ?_
    exact J15 _ _ h
set_option maxHeartbeats 4000000 in
set_option maxRecDepth 100000 in
theorem c_X8_countFill (l : Launch) (D : va_G) (cy : Nat → Nat) (x0 : Nat) (x1 : Int32) (S : PT) (post : PT → Prop) (h : w_X8_countFill x0 x1 S post) : Mv l yX8_countFill (Wm yX8_countFill prog_1_method_46_code 3 (Option.none : Option Jvm.ClassFile.FieldType)) 1 21 D cy [va_rf (some x0), Value.int x1] S 0 0 post := by
  refine Mv_of (own := "Trenchboard") (by decide) rfl (by first | decide | simp [lg_sl, va_cat, vi_cat, vl_cat]) (fun p e s m below meth c A C hZ hr hin9 => ?_)
  have J20 : ∀ (S : PT), w_X8_countFill_b20 x0 x1 post S → G p l e { frames := 1, cells := 0, slots := 0, locals := 21 } s m [va_rf (some x0), Value.int x1].toArray below meth c D cy A s.heap 3 (QMv below D cy A [va_rf (some x0), Value.int x1] s 0 0 post) S 0 0 20 [] [] := by
    intro S h
    unfold w_X8_countFill_b20 at h
    exact G_vret C (mc := 0) (ms := 0) (post := post) hr (Nat.le_of_ble_eq_true rfl) (Nat.le_of_ble_eq_true rfl) dX8_countFill_20 h
  refine G_lv C (lv' := [(0, va_rf (some x0)), (1, Value.int x1)]) [0, 1] (by first | rfl | simp [lv_pick, lv_args, va_cat, vi_cat, vl_cat]) ?_
  unfold w_X8_countFill at h
  refine G_aload_n C (x := (some x0)) 0 dX8_countFill_0 rfl rfl ?_
  refine G_iload_n C (x := x1) 1 dX8_countFill_1 rfl rfl ?_
  obtain ⟨hk1, h⟩ := h
  refine G_callVq C hZ (Tf := TX8) (N := 10) hk1 (by decide) rfl tw_2_25 tw_2_27 tw_0_6 tw_1_1 tw_2_28 hy_X8_partyAt ⟨Nat.le_of_ble_eq_true rfl, Nat.le_of_ble_eq_true rfl⟩ (As := [Value.int x1]) (rest := []) (c_X8_partyAt l D cy x0 x1 S _ h) rfl rfl (by simp [va_cat, vi_cat, vl_cat]) dX8_countFill_2 ⟨Nat.le_of_ble_eq_true rfl, Nat.le_of_ble_eq_true rfl⟩ (fun r3 S2 h => ?_)
  refine G_astore_n C (i := 2) (lv' := [(2, va_rf r3), (0, va_rf (some x0)), (1, Value.int x1)]) dX8_countFill_5 rfl (by decide) (by first | rfl | simp [va_cat, vi_cat, vl_cat]) ?_
  refine G_aload_n C (x := r3) 0 dX8_countFill_6 rfl rfl ?_
  refine G_ifnull C (tgt := 20) dX8_countFill_7 (by decide) (fun hc => ?_) (fun a4 ha5 => ?_)
  · have h := h.1 hc
    refine G_lv C (lv' := []) [] rfl ?_
    exact J20 _ h
  · have h := h.2 a4 ha5
    refine G_aload_n C (x := r3) 0 dX8_countFill_10 rfl rfl ?_
    refine G_dup C dX8_countFill_11 (va_cat _) ?_
    refine G_rf ha5 ?_
    obtain ⟨hk6, h⟩ := h
    refine G_get C (CC := RX3) (Tf := TX3) (N := 4) (k := 4) (i := 1) (v := Value.int (gI S2 401 a4)) hk6 (by decide) rfl (fin fwX3) (by decide) (im tw_1_87) rfl rfl dX8_countFill_12 ?_
    refine G_iconst C (v := 1) dX8_countFill_15 (by decide) ?_
    refine G_iadd C dX8_countFill_16 ?_
    refine G_rf1 ha5 ?_
    refine G_putI C (CC := RX3) (Tf := TX3) (N := 4) (k := 4) (i := 1) (f := 401) (x := ((gI S2 401 a4) + 1)) (ty0 := tyX3) (ty := .int) hk6 (by decide) rfl (fin fwX3) tyX3_ok nmX3 (by decide) (im tw_1_87) rfl rfl rfl rfl rfl rfl rfl dX8_countFill_17 ?_
    generalize e8 : sI S2 401 a4 ((gI S2 401 a4) + 1) = S7
    have h := h S7 e8.symm
    refine G_lv C (lv' := []) [] rfl ?_
    exact J20 _ h
set_option maxHeartbeats 4000000 in
set_option maxRecDepth 100000 in
theorem c_X8_takeStreets (l : Launch) (D : va_G) (cy : Nat → Nat) (x0 : Nat) (S : PT) (post : PT → Prop) (h : w_X8_takeStreets x0 S post) : Mv l yX8_takeStreets (Wm yX8_takeStreets prog_1_method_59_code 3 (Option.none : Option Jvm.ClassFile.FieldType)) 1 20 D cy [va_rf (some x0)] S 0 0 post := by
  refine Mv_of (own := "Trenchboard") (by decide) rfl (by first | decide | simp [lg_sl, va_cat, vi_cat, vl_cat]) (fun p e s m below meth c A C hZ hr hin9 => ?_)
  have J35 : ∀ (n : Nat) (S : PT) (v1 : Int32), w_X8_takeStreets_l35 x0 post n S v1 → G p l e { frames := 1, cells := 0, slots := 0, locals := 20 } s m [va_rf (some x0)].toArray below meth c D cy A s.heap 3 (QMv below D cy A [va_rf (some x0)] s 0 0 post) S 0 0 35 [(0, va_rf (some x0)), (1, Value.int v1)] [] := by
    intro n35
    induction n35 with
    | zero => intro S v1 h; rw [w_X8_takeStreets_l35] at h; exact False.elim h
    | succ n35 K35 =>
      have J78 : ∀ (S : PT) (v1 : Int32), w_X8_takeStreets_b78 x0 post (w_X8_takeStreets_l35 x0 post n35) S v1 → G p l e { frames := 1, cells := 0, slots := 0, locals := 20 } s m [va_rf (some x0)].toArray below meth c D cy A s.heap 3 (QMv below D cy A [va_rf (some x0)] s 0 0 post) S 0 0 78 [(0, va_rf (some x0)), (1, Value.int v1)] [] := by
        intro S v1 h
        unfold w_X8_takeStreets_b78 at h
        refine G_iinc C (v := (v1 + 1)) (lv' := [(1, Value.int (v1 + 1)), (0, va_rf (some x0))]) 1 dX8_takeStreets_78 rfl rfl (by decide) (by first | rfl | simp [va_cat, vi_cat, vl_cat]) ?_
        refine G_goto C (tgt := 35) dX8_takeStreets_81 (by decide) ?_
        refine G_lv C (lv' := [(0, va_rf (some x0)), (1, Value.int (v1 + 1))]) [1, 0] rfl ?_
        exact K35 _ _ h
      intro S v1 h
      rw [w_X8_takeStreets_l35] at h
      refine G_iload_n C (x := v1) 1 dX8_takeStreets_35 rfl rfl ?_
      refine G_aload_n C (x := (some x0)) 0 dX8_takeStreets_36 rfl rfl ?_
      obtain ⟨hk1, h⟩ := h
      refine G_get C (CC := RX8) (Tf := TX8) (N := 10) (k := 9) (i := 4) (v := va_rf (gP S 904 x0)) hk1 (by decide) rfl (fin fwX8) (by decide) (im tw_1_103) rfl rfl dX8_takeStreets_37 ?_
      obtain ⟨a2, ha3, h⟩ := h
      refine G_rf ha3 ?_
      obtain ⟨hk4, h⟩ := h
      refine G_alen C hk4 (by decide) rfl dX8_takeStreets_40 ?_
      refine G_icmp_ge C (tgt := 84) dX8_takeStreets_41 (by decide) (fun hc => ?_) (fun hc => ?_)
      · have h := h.1 hc
        exact G_vret C (mc := 0) (ms := 0) (post := post) hr (Nat.le_of_ble_eq_true rfl) (Nat.le_of_ble_eq_true rfl) dX8_takeStreets_84 h
      · have h := h.2 hc
        refine G_aload_n C (x := (some x0)) 0 dX8_takeStreets_44 rfl rfl ?_
        refine G_get C (CC := RX8) (Tf := TX8) (N := 10) (k := 9) (i := 4) (v := va_rf (gP S 904 x0)) hk1 (by decide) rfl (fin fwX8) (by decide) (im tw_1_103) rfl rfl dX8_takeStreets_45 ?_
        refine G_iload_n C (x := v1) 1 dX8_takeStreets_48 rfl rfl ?_
        refine G_rf1 ha3 ?_
        obtain ⟨hi5, h⟩ := h
        refine G_aald C hk4 (by decide) rfl hi5 dX8_takeStreets_49 ?_
        refine G_astore_n C (i := 2) (lv' := [(2, va_rf (gR S a2 ((v1).toNatClampNeg))), (0, va_rf (some x0)), (1, Value.int v1)]) dX8_takeStreets_50 rfl (by decide) (by first | rfl | simp [va_cat, vi_cat, vl_cat]) ?_
        refine G_aload_n C (x := (gR S a2 ((v1).toNatClampNeg))) 0 dX8_takeStreets_51 rfl rfl ?_
        refine G_ifnull C (tgt := 78) dX8_takeStreets_52 (by decide) (fun hc => ?_) (fun a6 ha7 => ?_)
        · have h := h.1 hc
          refine G_lv C (lv' := [(0, va_rf (some x0)), (1, Value.int v1)]) [1, 2] rfl ?_
          exact J78 _ _ h
        · have h := h.2 a6 ha7
          refine G_aload_n C (x := (gR S a2 ((v1).toNatClampNeg))) 0 dX8_takeStreets_55 rfl rfl ?_
          obtain ⟨hk8, h⟩ := h
          refine G_callVi C hZ (Tf := TX7) (N := 18) hk8 (by decide) rfl tw_4_75 tw_4_76 tw_4_77 tw_1_21 tw_4_78 hy_X7_takesStreet ⟨Nat.le_of_ble_eq_true rfl, Nat.le_of_ble_eq_true rfl⟩ (As := []) (rest := []) (c_X7_takesStreet l D cy a6 S _ h) rfl (by first | rfl | (simp only [ha7]; rfl) | simp only [ha7]) (by simp [va_cat, vi_cat, vl_cat]) dX8_takeStreets_56 ⟨Nat.le_of_ble_eq_true rfl, Nat.le_of_ble_eq_true rfl⟩ (fun r10 S9 h => ?_)
          obtain ⟨hb11, h⟩ := h
          refine G_if_eq C (tgt := 78) dX8_takeStreets_59 (by decide) (fun hc => ?_) (fun hc => ?_)
          · have h := h.1 hc
            refine G_lv C (lv' := [(0, va_rf (some x0)), (1, Value.int v1)]) [1, 2] rfl ?_
            exact J78 _ _ h
          · have h := h.2 hc
            refine G_aload_n C (x := (gR S a2 ((v1).toNatClampNeg))) 0 dX8_takeStreets_62 rfl rfl ?_
            refine G_rf ha7 ?_
            obtain ⟨hk12, h⟩ := h
            refine G_get C (CC := RX7) (Tf := TX7) (N := 18) (k := 8) (i := 2) (v := va_rf (gP S9 802 a6)) hk12 (by decide) rfl (fin fwX7) (by decide) (im tw_4_216) rfl rfl dX8_takeStreets_63 ?_
            refine G_dup C dX8_takeStreets_66 (va_cat _) ?_
            obtain ⟨a13, ha14, h⟩ := h
            refine G_rf ha14 ?_
            obtain ⟨hk15, h⟩ := h
            refine G_get C (CC := RX4) (Tf := TX4) (N := 12) (k := 5) (i := 9) (v := Value.int (gI S9 509 a13)) hk15 (by decide) rfl (fin fwX4) (by decide) (im tw_2_111) rfl rfl dX8_takeStreets_67 ?_
            refine G_aload_n C (x := (gR S a2 ((v1).toNatClampNeg))) 0 dX8_takeStreets_70 rfl rfl ?_
            refine G_callVi C hZ (Tf := TX7) (N := 18) hk12 (by decide) rfl tw_3_200 tw_3_142 tw_3_143 tw_1_21 tw_3_144 hy_X7_bit ⟨Nat.le_of_ble_eq_true rfl, Nat.le_of_ble_eq_true rfl⟩ (As := []) (rest := [Value.int (gI S9 509 a13), va_rf (gP S9 802 a6)]) (c_X7_bit l D cy a6 S9 _ h) rfl (by first | rfl | (simp only [ha7]; rfl) | simp only [ha7]) (by simp [va_cat, vi_cat, vl_cat]) dX8_takeStreets_71 ⟨Nat.le_of_ble_eq_true rfl, Nat.le_of_ble_eq_true rfl⟩ (fun r17 S16 h => ?_)
            refine G_ior C dX8_takeStreets_74 ?_
            refine G_rf1 ha14 ?_
            obtain ⟨hk18, h⟩ := h
            refine G_putI C (CC := RX4) (Tf := TX4) (N := 12) (k := 5) (i := 9) (f := 509) (x := ((gI S9 509 a13) ||| r17)) (ty0 := tyX4) (ty := .int) hk18 (by decide) rfl (fin fwX4) tyX4_ok nmX4 (by decide) (im tw_2_111) rfl rfl rfl rfl rfl rfl rfl dX8_takeStreets_75 ?_
            generalize e20 : sI S16 509 a13 ((gI S9 509 a13) ||| r17) = S19
            have h := h S19 e20.symm
            refine G_lv C (lv' := [(0, va_rf (some x0)), (1, Value.int v1)]) [1, 2] rfl ?_
            exact J78 _ _ h
  have J2 : ∀ (n : Nat) (S : PT) (v1 : Int32), w_X8_takeStreets_l2 x0 post n S v1 → G p l e { frames := 1, cells := 0, slots := 0, locals := 20 } s m [va_rf (some x0)].toArray below meth c D cy A s.heap 3 (QMv below D cy A [va_rf (some x0)] s 0 0 post) S 0 0 2 [(0, va_rf (some x0)), (1, Value.int v1)] [] := by
    intro n2
    induction n2 with
    | zero => intro S v1 h; rw [w_X8_takeStreets_l2] at h; exact False.elim h
    | succ n2 K2 =>
      have J27 : ∀ (S : PT) (v1 : Int32), w_X8_takeStreets_b27 x0 post (w_X8_takeStreets_l2 x0 post n2) S v1 → G p l e { frames := 1, cells := 0, slots := 0, locals := 20 } s m [va_rf (some x0)].toArray below meth c D cy A s.heap 3 (QMv below D cy A [va_rf (some x0)] s 0 0 post) S 0 0 27 [(0, va_rf (some x0)), (1, Value.int v1)] [] := by
        intro S v1 h
        unfold w_X8_takeStreets_b27 at h
        refine G_iinc C (v := (v1 + 1)) (lv' := [(1, Value.int (v1 + 1)), (0, va_rf (some x0))]) 1 dX8_takeStreets_27 rfl rfl (by decide) (by first | rfl | simp [va_cat, vi_cat, vl_cat]) ?_
        refine G_goto C (tgt := 2) dX8_takeStreets_30 (by decide) ?_
        refine G_lv C (lv' := [(0, va_rf (some x0)), (1, Value.int (v1 + 1))]) [1, 0] rfl ?_
        exact K2 _ _ h
      intro S v1 h
      rw [w_X8_takeStreets_l2] at h
      refine G_iload_n C (x := v1) 1 dX8_takeStreets_2 rfl rfl ?_
      refine G_aload_n C (x := (some x0)) 0 dX8_takeStreets_3 rfl rfl ?_
      obtain ⟨hk21, h⟩ := h
      refine G_get C (CC := RX8) (Tf := TX8) (N := 10) (k := 9) (i := 0) (v := va_rf (gP S 900 x0)) hk21 (by decide) rfl (fin fwX8) (by decide) (im tw_1_99) rfl rfl dX8_takeStreets_4 ?_
      obtain ⟨a22, ha23, h⟩ := h
      refine G_rf ha23 ?_
      obtain ⟨hk24, h⟩ := h
      refine G_alen C hk24 (by decide) rfl dX8_takeStreets_7 ?_
      refine G_icmp_ge C (tgt := 33) dX8_takeStreets_8 (by decide) (fun hc => ?_) (fun hc => ?_)
      · have h := h.1 hc
        refine G_iconst C (v := 0) dX8_takeStreets_33 (by decide) ?_
        refine G_istore_n C (i := 1) (lv' := [(1, Value.int 0), (0, va_rf (some x0))]) dX8_takeStreets_34 rfl (by decide) (by first | rfl | simp [va_cat, vi_cat, vl_cat]) ?_
        refine G_lv C (lv' := [(0, va_rf (some x0)), (1, Value.int 0)]) [1, 0] rfl ?_
        obtain ⟨n9, h⟩ := h
        exact J35 n9 _ _ h
      · have h := h.2 hc
        refine G_aload_n C (x := (some x0)) 0 dX8_takeStreets_11 rfl rfl ?_
        refine G_get C (CC := RX8) (Tf := TX8) (N := 10) (k := 9) (i := 0) (v := va_rf (gP S 900 x0)) hk21 (by decide) rfl (fin fwX8) (by decide) (im tw_1_99) rfl rfl dX8_takeStreets_12 ?_
        refine G_iload_n C (x := v1) 1 dX8_takeStreets_15 rfl rfl ?_
        refine G_rf1 ha23 ?_
        obtain ⟨hi25, h⟩ := h
        refine G_aald C hk24 (by decide) rfl hi25 dX8_takeStreets_16 ?_
        refine G_astore_n C (i := 2) (lv' := [(2, va_rf (gR S a22 ((v1).toNatClampNeg))), (0, va_rf (some x0)), (1, Value.int v1)]) dX8_takeStreets_17 rfl (by decide) (by first | rfl | simp [va_cat, vi_cat, vl_cat]) ?_
        refine G_aload_n C (x := (gR S a22 ((v1).toNatClampNeg))) 0 dX8_takeStreets_18 rfl rfl ?_
        refine G_ifnull C (tgt := 27) dX8_takeStreets_19 (by decide) (fun hc => ?_) (fun a26 ha27 => ?_)
        · have h := h.1 hc
          refine G_lv C (lv' := [(0, va_rf (some x0)), (1, Value.int v1)]) [1, 2] rfl ?_
          exact J27 _ _ h
        · have h := h.2 a26 ha27
          refine G_aload_n C (x := (gR S a22 ((v1).toNatClampNeg))) 0 dX8_takeStreets_22 rfl rfl ?_
          refine G_iconst C (v := 0) dX8_takeStreets_23 (by decide) ?_
          refine G_rf1 ha27 ?_
          obtain ⟨hk28, h⟩ := h
          refine G_putI C (CC := RX4) (Tf := TX4) (N := 12) (k := 5) (i := 9) (f := 509) (x := 0) (ty0 := tyX4) (ty := .int) hk28 (by decide) rfl (fin fwX4) tyX4_ok nmX4 (by decide) (im tw_2_111) rfl rfl rfl rfl rfl rfl rfl dX8_takeStreets_24 ?_
          generalize e30 : sI S 509 a26 0 = S29
          have h := h S29 e30.symm
          refine G_lv C (lv' := [(0, va_rf (some x0)), (1, Value.int v1)]) [1, 2] rfl ?_
          exact J27 _ _ h
  refine G_lv C (lv' := [(0, va_rf (some x0))]) [0] (by first | rfl | simp [lv_pick, lv_args, va_cat, vi_cat, vl_cat]) ?_
  unfold w_X8_takeStreets at h
  refine G_iconst C (v := 0) dX8_takeStreets_0 (by decide) ?_
  refine G_istore_n C (i := 1) (lv' := [(1, Value.int 0), (0, va_rf (some x0))]) dX8_takeStreets_1 rfl (by decide) (by first | rfl | simp [va_cat, vi_cat, vl_cat]) ?_
  refine G_lv C (lv' := [(0, va_rf (some x0)), (1, Value.int 0)]) [1, 0] rfl ?_
  obtain ⟨n9, h⟩ := h
  exact J2 n9 _ _ h
set_option maxHeartbeats 4000000 in
set_option maxRecDepth 100000 in
theorem c_X8_moveQueues (l : Launch) (D : va_G) (cy : Nat → Nat) (x0 : Nat) (S : PT) (post : PT → Prop) (h : w_X8_moveQueues x0 S post) : Mv l yX8_moveQueues (Wm yX8_moveQueues prog_1_method_61_code 3 (Option.none : Option Jvm.ClassFile.FieldType)) 2 42 D cy [va_rf (some x0)] S 0 0 post := by
  refine Mv_of (own := "Trenchboard") (by decide) rfl (by first | decide | simp [lg_sl, va_cat, vi_cat, vl_cat]) (fun p e s m below meth c A C hZ hr hin9 => ?_)
  have J34 : ∀ (n : Nat) (S : PT) (v1 : Int32), w_X8_moveQueues_l34 x0 post n S v1 → G p l e { frames := 2, cells := 0, slots := 0, locals := 42 } s m [va_rf (some x0)].toArray below meth c D cy A s.heap 3 (QMv below D cy A [va_rf (some x0)] s 0 0 post) S 0 0 34 [(0, va_rf (some x0)), (1, Value.int v1)] [] := by
    intro n34
    induction n34 with
    | zero => intro S v1 h; rw [w_X8_moveQueues_l34] at h; exact False.elim h
    | succ n34 K34 =>
      have J58 : ∀ (S : PT) (v1 : Int32), w_X8_moveQueues_b58 x0 post (w_X8_moveQueues_l34 x0 post n34) S v1 → G p l e { frames := 2, cells := 0, slots := 0, locals := 42 } s m [va_rf (some x0)].toArray below meth c D cy A s.heap 3 (QMv below D cy A [va_rf (some x0)] s 0 0 post) S 0 0 58 [(0, va_rf (some x0)), (1, Value.int v1)] [] := by
        intro S v1 h
        unfold w_X8_moveQueues_b58 at h
        refine G_iinc C (v := (v1 + 1)) (lv' := [(1, Value.int (v1 + 1)), (0, va_rf (some x0))]) 1 dX8_moveQueues_58 rfl rfl (by decide) (by first | rfl | simp [va_cat, vi_cat, vl_cat]) ?_
        refine G_goto C (tgt := 34) dX8_moveQueues_61 (by decide) ?_
        refine G_lv C (lv' := [(0, va_rf (some x0)), (1, Value.int (v1 + 1))]) [1, 0] rfl ?_
        exact K34 _ _ h
      intro S v1 h
      rw [w_X8_moveQueues_l34] at h
      refine G_iload_n C (x := v1) 1 dX8_moveQueues_34 rfl rfl ?_
      refine G_aload_n C (x := (some x0)) 0 dX8_moveQueues_35 rfl rfl ?_
      obtain ⟨hk1, h⟩ := h
      refine G_get C (CC := RX8) (Tf := TX8) (N := 10) (k := 9) (i := 0) (v := va_rf (gP S 900 x0)) hk1 (by decide) rfl (fin fwX8) (by decide) (im tw_1_99) rfl rfl dX8_moveQueues_36 ?_
      obtain ⟨a2, ha3, h⟩ := h
      refine G_rf ha3 ?_
      obtain ⟨hk4, h⟩ := h
      refine G_alen C hk4 (by decide) rfl dX8_moveQueues_39 ?_
      refine G_icmp_ge C (tgt := 64) dX8_moveQueues_40 (by decide) (fun hc => ?_) (fun hc => ?_)
      · have h := h.1 hc
        exact G_vret C (mc := 0) (ms := 0) (post := post) hr (Nat.le_of_ble_eq_true rfl) (Nat.le_of_ble_eq_true rfl) dX8_moveQueues_64 h
      · have h := h.2 hc
        refine G_aload_n C (x := (some x0)) 0 dX8_moveQueues_43 rfl rfl ?_
        refine G_get C (CC := RX8) (Tf := TX8) (N := 10) (k := 9) (i := 0) (v := va_rf (gP S 900 x0)) hk1 (by decide) rfl (fin fwX8) (by decide) (im tw_1_99) rfl rfl dX8_moveQueues_44 ?_
        refine G_iload_n C (x := v1) 1 dX8_moveQueues_47 rfl rfl ?_
        refine G_rf1 ha3 ?_
        obtain ⟨hi5, h⟩ := h
        refine G_aald C hk4 (by decide) rfl hi5 dX8_moveQueues_48 ?_
        refine G_astore_n C (i := 2) (lv' := [(2, va_rf (gR S a2 ((v1).toNatClampNeg))), (0, va_rf (some x0)), (1, Value.int v1)]) dX8_moveQueues_49 rfl (by decide) (by first | rfl | simp [va_cat, vi_cat, vl_cat]) ?_
        refine G_aload_n C (x := (gR S a2 ((v1).toNatClampNeg))) 0 dX8_moveQueues_50 rfl rfl ?_
        refine G_ifnull C (tgt := 58) dX8_moveQueues_51 (by decide) (fun hc => ?_) (fun a6 ha7 => ?_)
        · have h := h.1 hc
          refine G_lv C (lv' := [(0, va_rf (some x0)), (1, Value.int v1)]) [1, 2] rfl ?_
          exact J58 _ _ h
        · have h := h.2 a6 ha7
          refine G_aload_n C (x := (gR S a2 ((v1).toNatClampNeg))) 0 dX8_moveQueues_54 rfl rfl ?_
          obtain ⟨hk8, h⟩ := h
          refine G_callVv C hZ (Tf := TX4) (N := 12) hk8 (by decide) rfl tw_4_91 tw_4_92 tw_4_93 tw_1_13 tw_4_94 hy_X4_letThrough ⟨Nat.le_of_ble_eq_true rfl, Nat.le_of_ble_eq_true rfl⟩ (As := []) (rest := []) (c_X4_letThrough l D cy a6 S _ h) rfl (by first | rfl | (simp only [ha7]; rfl) | simp only [ha7]) (by simp [va_cat, vi_cat, vl_cat]) dX8_moveQueues_55 ⟨Nat.le_of_ble_eq_true rfl, Nat.le_of_ble_eq_true rfl⟩ (fun S9 h => ?_)
          refine G_lv C (lv' := [(0, va_rf (some x0)), (1, Value.int v1)]) [1, 2] rfl ?_
          exact J58 _ _ h
  have J2 : ∀ (n : Nat) (S : PT) (v1 : Int32), w_X8_moveQueues_l2 x0 post n S v1 → G p l e { frames := 2, cells := 0, slots := 0, locals := 42 } s m [va_rf (some x0)].toArray below meth c D cy A s.heap 3 (QMv below D cy A [va_rf (some x0)] s 0 0 post) S 0 0 2 [(0, va_rf (some x0)), (1, Value.int v1)] [] := by
    intro n2
    induction n2 with
    | zero => intro S v1 h; rw [w_X8_moveQueues_l2] at h; exact False.elim h
    | succ n2 K2 =>
      have J26 : ∀ (S : PT) (v1 : Int32), w_X8_moveQueues_b26 x0 post (w_X8_moveQueues_l2 x0 post n2) S v1 → G p l e { frames := 2, cells := 0, slots := 0, locals := 42 } s m [va_rf (some x0)].toArray below meth c D cy A s.heap 3 (QMv below D cy A [va_rf (some x0)] s 0 0 post) S 0 0 26 [(0, va_rf (some x0)), (1, Value.int v1)] [] := by
        intro S v1 h
        unfold w_X8_moveQueues_b26 at h
        refine G_iinc C (v := (v1 + 1)) (lv' := [(1, Value.int (v1 + 1)), (0, va_rf (some x0))]) 1 dX8_moveQueues_26 rfl rfl (by decide) (by first | rfl | simp [va_cat, vi_cat, vl_cat]) ?_
        refine G_goto C (tgt := 2) dX8_moveQueues_29 (by decide) ?_
        refine G_lv C (lv' := [(0, va_rf (some x0)), (1, Value.int (v1 + 1))]) [1, 0] rfl ?_
        exact K2 _ _ h
      intro S v1 h
      rw [w_X8_moveQueues_l2] at h
      refine G_iload_n C (x := v1) 1 dX8_moveQueues_2 rfl rfl ?_
      refine G_aload_n C (x := (some x0)) 0 dX8_moveQueues_3 rfl rfl ?_
      obtain ⟨hk11, h⟩ := h
      refine G_get C (CC := RX8) (Tf := TX8) (N := 10) (k := 9) (i := 0) (v := va_rf (gP S 900 x0)) hk11 (by decide) rfl (fin fwX8) (by decide) (im tw_1_99) rfl rfl dX8_moveQueues_4 ?_
      obtain ⟨a12, ha13, h⟩ := h
      refine G_rf ha13 ?_
      obtain ⟨hk14, h⟩ := h
      refine G_alen C hk14 (by decide) rfl dX8_moveQueues_7 ?_
      refine G_icmp_ge C (tgt := 32) dX8_moveQueues_8 (by decide) (fun hc => ?_) (fun hc => ?_)
      · have h := h.1 hc
        refine G_iconst C (v := 0) dX8_moveQueues_32 (by decide) ?_
        refine G_istore_n C (i := 1) (lv' := [(1, Value.int 0), (0, va_rf (some x0))]) dX8_moveQueues_33 rfl (by decide) (by first | rfl | simp [va_cat, vi_cat, vl_cat]) ?_
        refine G_lv C (lv' := [(0, va_rf (some x0)), (1, Value.int 0)]) [1, 0] rfl ?_
        obtain ⟨n9, h⟩ := h
        exact J34 n9 _ _ h
      · have h := h.2 hc
        refine G_aload_n C (x := (some x0)) 0 dX8_moveQueues_11 rfl rfl ?_
        refine G_get C (CC := RX8) (Tf := TX8) (N := 10) (k := 9) (i := 0) (v := va_rf (gP S 900 x0)) hk11 (by decide) rfl (fin fwX8) (by decide) (im tw_1_99) rfl rfl dX8_moveQueues_12 ?_
        refine G_iload_n C (x := v1) 1 dX8_moveQueues_15 rfl rfl ?_
        refine G_rf1 ha13 ?_
        obtain ⟨hi15, h⟩ := h
        refine G_aald C hk14 (by decide) rfl hi15 dX8_moveQueues_16 ?_
        refine G_astore_n C (i := 2) (lv' := [(2, va_rf (gR S a12 ((v1).toNatClampNeg))), (0, va_rf (some x0)), (1, Value.int v1)]) dX8_moveQueues_17 rfl (by decide) (by first | rfl | simp [va_cat, vi_cat, vl_cat]) ?_
        refine G_aload_n C (x := (gR S a12 ((v1).toNatClampNeg))) 0 dX8_moveQueues_18 rfl rfl ?_
        refine G_ifnull C (tgt := 26) dX8_moveQueues_19 (by decide) (fun hc => ?_) (fun a16 ha17 => ?_)
        · have h := h.1 hc
          refine G_lv C (lv' := [(0, va_rf (some x0)), (1, Value.int v1)]) [1, 2] rfl ?_
          exact J26 _ _ h
        · have h := h.2 a16 ha17
          refine G_aload_n C (x := (gR S a12 ((v1).toNatClampNeg))) 0 dX8_moveQueues_22 rfl rfl ?_
          obtain ⟨hk18, h⟩ := h
          refine G_callVv C hZ (Tf := TX4) (N := 12) hk18 (by decide) rfl tw_4_87 tw_4_88 tw_4_89 tw_1_13 tw_4_90 hy_X4_sendFlow ⟨Nat.le_of_ble_eq_true rfl, Nat.le_of_ble_eq_true rfl⟩ (As := []) (rest := []) (c_X4_sendFlow l D cy a16 S _ h) rfl (by first | rfl | (simp only [ha17]; rfl) | simp only [ha17]) (by simp [va_cat, vi_cat, vl_cat]) dX8_moveQueues_23 ⟨Nat.le_of_ble_eq_true rfl, Nat.le_of_ble_eq_true rfl⟩ (fun S19 h => ?_)
          refine G_lv C (lv' := [(0, va_rf (some x0)), (1, Value.int v1)]) [1, 2] rfl ?_
          exact J26 _ _ h
  refine G_lv C (lv' := [(0, va_rf (some x0))]) [0] (by first | rfl | simp [lv_pick, lv_args, va_cat, vi_cat, vl_cat]) ?_
  unfold w_X8_moveQueues at h
  refine G_iconst C (v := 0) dX8_moveQueues_0 (by decide) ?_
  refine G_istore_n C (i := 1) (lv' := [(1, Value.int 0), (0, va_rf (some x0))]) dX8_moveQueues_1 rfl (by decide) (by first | rfl | simp [va_cat, vi_cat, vl_cat]) ?_
  refine G_lv C (lv' := [(0, va_rf (some x0)), (1, Value.int 0)]) [1, 0] rfl ?_
  obtain ⟨n9, h⟩ := h
  exact J2 n9 _ _ h
set_option maxHeartbeats 4000000 in
set_option maxRecDepth 100000 in
theorem c_X8_whoIsLiable (l : Launch) (D : va_G) (cy : Nat → Nat) (x0 : Nat) (x1 : Option Nat) (x2 : Option Nat) (x3 : Int32) (S : PT) (post : Option Nat → PT → Prop) (h : w_X8_whoIsLiable x0 x1 x2 x3 S post) : Mq l yX8_whoIsLiable (Wm yX8_whoIsLiable prog_1_method_62_code 5 (Option.some (Jvm.ClassFile.FieldType.object "Trenchboard$Works"))) 1 22 D cy [va_rf (some x0), va_rf x1, va_rf x2, Value.int x3] S 0 0 post := by
  refine Mq_of (own := "Trenchboard") (by decide) rfl (by first | decide | simp [lg_sl, va_cat, vi_cat, vl_cat]) (fun p e s m below meth c A C hZ hr hin9 => ?_)
  have J55 : ∀ (S : PT) (v4 : Option Nat), w_X8_whoIsLiable_b55 x0 x1 x2 x3 post S v4 → G p l e { frames := 1, cells := 0, slots := 0, locals := 22 } s m [va_rf (some x0), va_rf x1, va_rf x2, Value.int x3].toArray below meth c D cy A s.heap 5 (QMq below D cy A [va_rf (some x0), va_rf x1, va_rf x2, Value.int x3] s 0 0 post) S 0 0 55 [(4, va_rf v4)] [] := by
    intro S v4 h
    unfold w_X8_whoIsLiable_b55 at h
    refine G_aload C (x := v4) 0 dX8_whoIsLiable_55 rfl ?_
    obtain ⟨a1, ha2, h⟩ := h
    refine G_rf ha2 ?_
    obtain ⟨hk3, h⟩ := h
    refine G_get C (CC := RX0) (Tf := TX0) (N := 6) (k := 1) (i := 0) (v := va_rf (gP S 100 a1)) hk3 (by decide) rfl (fin fwX0) (by decide) (im tw_4_4) rfl rfl dX8_whoIsLiable_57 ?_
    exact G_aret C (mc := 0) (ms := 0) (post := post) (v := (gP S 100 a1)) (Or.inl ⟨_, rfl⟩) hr (Nat.le_of_ble_eq_true rfl) (Nat.le_of_ble_eq_true rfl) dX8_whoIsLiable_60 h
  have J33 : ∀ (S : PT), w_X8_whoIsLiable_b33 x0 x1 x2 x3 post S → G p l e { frames := 1, cells := 0, slots := 0, locals := 22 } s m [va_rf (some x0), va_rf x1, va_rf x2, Value.int x3].toArray below meth c D cy A s.heap 5 (QMq below D cy A [va_rf (some x0), va_rf x1, va_rf x2, Value.int x3] s 0 0 post) S 0 0 33 [] [] := by
    intro S h
    unfold w_X8_whoIsLiable_b33 at h
    refine G_null C dX8_whoIsLiable_33 ?_
    exact G_aret C (mc := 0) (ms := 0) (post := post) (v := none) (Or.inl ⟨_, rfl⟩) hr (Nat.le_of_ble_eq_true rfl) (Nat.le_of_ble_eq_true rfl) dX8_whoIsLiable_34 h
  refine G_lv C (lv' := [(0, va_rf (some x0)), (1, va_rf x1), (2, va_rf x2), (3, Value.int x3)]) [0, 1, 2, 3] (by first | rfl | simp [lv_pick, lv_args, va_cat, vi_cat, vl_cat]) ?_
  unfold w_X8_whoIsLiable at h
  refine G_aload_n C (x := x2) 2 dX8_whoIsLiable_0 rfl rfl ?_
  refine G_iload_n C (x := x3) 3 dX8_whoIsLiable_1 rfl rfl ?_
  obtain ⟨a4, ha5, h⟩ := h
  obtain ⟨hk6, h⟩ := h
  refine G_callVq C hZ (Tf := TX2) (N := 4) hk6 (by decide) rfl tw_1_230 tw_1_231 tw_1_232 tw_1_15 tw_1_233 hy_X2_latestAsDeepAs ⟨Nat.le_of_ble_eq_true rfl, Nat.le_of_ble_eq_true rfl⟩ (As := [Value.int x3]) (rest := []) (c_X2_latestAsDeepAs l D cy a4 x3 S _ h) rfl (by first | rfl | (simp only [ha5]; rfl) | simp only [ha5]) (by simp [va_cat, vi_cat, vl_cat]) dX8_whoIsLiable_2 ⟨Nat.le_of_ble_eq_true rfl, Nat.le_of_ble_eq_true rfl⟩ (fun r8 S7 h => ?_)
  refine G_astore C (i := 4) (lv' := [(4, va_rf r8), (0, va_rf (some x0)), (1, va_rf x1), (2, va_rf x2), (3, Value.int x3)]) dX8_whoIsLiable_5 (by decide) (by first | rfl | simp [va_cat, vi_cat, vl_cat]) ?_
  refine G_aload C (x := r8) 0 dX8_whoIsLiable_7 rfl ?_
  refine G_ifnull C (tgt := 33) dX8_whoIsLiable_9 (by decide) (fun hc => ?_) (fun a9 ha10 => ?_)
  · have h := h.1 hc
    refine G_lv C (lv' := []) [] rfl ?_
    exact J33 _ h
  · have h := h.2 a9 ha10
    refine G_aload_n C (x := (some x0)) 1 dX8_whoIsLiable_12 rfl rfl ?_
    obtain ⟨hk11, h⟩ := h
    refine G_callVi C hZ (Tf := TX8) (N := 10) hk11 (by decide) rfl tw_1_234 tw_1_236 tw_0_3 tw_1_1 tw_1_237 hy_X8_today ⟨Nat.le_of_ble_eq_true rfl, Nat.le_of_ble_eq_true rfl⟩ (As := []) (rest := []) (c_X8_today l D cy x0 S7 _ h) rfl rfl (by simp [va_cat, vi_cat, vl_cat]) dX8_whoIsLiable_13 ⟨Nat.le_of_ble_eq_true rfl, Nat.le_of_ble_eq_true rfl⟩ (fun r13 S12 h => ?_)
    refine G_aload C (x := r8) 0 dX8_whoIsLiable_16 rfl ?_
    refine G_rf ha10 ?_
    obtain ⟨hk14, h⟩ := h
    refine G_get C (CC := RX0) (Tf := TX0) (N := 6) (k := 1) (i := 1) (v := Value.int (gI S12 101 a9)) hk14 (by decide) rfl (fin fwX0) (by decide) (im tw_4_6) rfl rfl dX8_whoIsLiable_18 ?_
    refine G_isub C dX8_whoIsLiable_21 ?_
    refine G_aload C (x := r8) 0 dX8_whoIsLiable_22 rfl ?_
    refine G_rf ha10 ?_
    refine G_get C (CC := RX0) (Tf := TX0) (N := 6) (k := 1) (i := 0) (v := va_rf (gP S12 100 a9)) hk14 (by decide) rfl (fin fwX0) (by decide) (im tw_4_4) rfl rfl dX8_whoIsLiable_24 ?_
    obtain ⟨a15, ha16, h⟩ := h
    obtain ⟨hk17, h⟩ := h
    refine G_callVi C hZ (Tf := TX7) (N := 18) hk17 (by decide) rfl tw_1_238 tw_1_239 tw_2_0 tw_1_21 tw_2_1 hy_X7_daysLiable ⟨Nat.le_of_ble_eq_true rfl, Nat.le_of_ble_eq_true rfl⟩ (As := []) (rest := [Value.int (r13 - (gI S12 101 a9))]) (c_X7_daysLiable l D cy a15 S12 _ h) rfl (by first | rfl | (simp only [ha16]; rfl) | simp only [ha16]) (by simp [va_cat, vi_cat, vl_cat]) dX8_whoIsLiable_27 ⟨Nat.le_of_ble_eq_true rfl, Nat.le_of_ble_eq_true rfl⟩ (fun r19 S18 h => ?_)
    refine G_icmp_le C (tgt := 35) dX8_whoIsLiable_30 (by decide) (fun hc => ?_) (fun hc => ?_)
    · have h := h.1 hc
      refine G_iload_n C (x := x3) 4 dX8_whoIsLiable_35 rfl rfl ?_
      refine G_bipush C (v := 10) dX8_whoIsLiable_36 (by decide) ?_
      refine G_icmp_ge C (tgt := 55) dX8_whoIsLiable_38 (by decide) (fun hc => ?_) (fun hc => ?_)
      · have h := h.1 hc
        refine G_lv C (lv' := [(4, va_rf r8)]) [0] rfl ?_
        exact J55 _ _ h
      · have h := h.2 hc
        refine G_aload_n C (x := x1) 2 dX8_whoIsLiable_41 rfl rfl ?_
        obtain ⟨a20, ha21, h⟩ := h
        refine G_rf ha21 ?_
        obtain ⟨hk22, h⟩ := h
        refine G_get C (CC := RX4) (Tf := TX4) (N := 12) (k := 5) (i := 8) (v := Value.int (gI S18 508 a20)) hk22 (by decide) rfl (fin fwX4) (by decide) (im tw_2_109) rfl rfl dX8_whoIsLiable_42 ?_
        refine G_aload C (x := r8) 0 dX8_whoIsLiable_45 rfl ?_
        refine G_rf ha10 ?_
        obtain ⟨hk23, h⟩ := h
        refine G_get C (CC := RX0) (Tf := TX0) (N := 6) (k := 1) (i := 3) (v := Value.int (gI S18 103 a9)) hk23 (by decide) rfl (fin fwX0) (by decide) (im tw_4_10) rfl rfl dX8_whoIsLiable_47 ?_
        refine G_icmp_le C (tgt := 55) dX8_whoIsLiable_50 (by decide) (fun hc => ?_) (fun hc => ?_)
        · have h := h.1 hc
          refine G_lv C (lv' := [(4, va_rf r8)]) [0] rfl ?_
          exact J55 _ _ h
        · have h := h.2 hc
          refine G_null C dX8_whoIsLiable_53 ?_
          exact G_aret C (mc := 0) (ms := 0) (post := post) (v := none) (Or.inl ⟨_, rfl⟩) hr (Nat.le_of_ble_eq_true rfl) (Nat.le_of_ble_eq_true rfl) dX8_whoIsLiable_54 h
    · have h := h.2 hc
      refine G_lv C (lv' := []) [] rfl ?_
      exact J33 _ h
set_option maxHeartbeats 4000000 in
set_option maxRecDepth 100000 in
theorem c_X8_countFault (l : Launch) (D : va_G) (cy : Nat → Nat) (x0 : Nat) (x1 : Int32) (S : PT) (post : PT → Prop) (h : w_X8_countFault x0 x1 S post) : Mv l yX8_countFault (Wm yX8_countFault prog_1_method_47_code 3 (Option.none : Option Jvm.ClassFile.FieldType)) 1 21 D cy [va_rf (some x0), Value.int x1] S 0 0 post := by
  refine Mv_of (own := "Trenchboard") (by decide) rfl (by first | decide | simp [lg_sl, va_cat, vi_cat, vl_cat]) (fun p e s m below meth c A C hZ hr hin9 => ?_)
  have J20 : ∀ (S : PT), w_X8_countFault_b20 x0 x1 post S → G p l e { frames := 1, cells := 0, slots := 0, locals := 21 } s m [va_rf (some x0), Value.int x1].toArray below meth c D cy A s.heap 3 (QMv below D cy A [va_rf (some x0), Value.int x1] s 0 0 post) S 0 0 20 [] [] := by
    intro S h
    unfold w_X8_countFault_b20 at h
    exact G_vret C (mc := 0) (ms := 0) (post := post) hr (Nat.le_of_ble_eq_true rfl) (Nat.le_of_ble_eq_true rfl) dX8_countFault_20 h
  refine G_lv C (lv' := [(0, va_rf (some x0)), (1, Value.int x1)]) [0, 1] (by first | rfl | simp [lv_pick, lv_args, va_cat, vi_cat, vl_cat]) ?_
  unfold w_X8_countFault at h
  refine G_aload_n C (x := (some x0)) 0 dX8_countFault_0 rfl rfl ?_
  refine G_iload_n C (x := x1) 1 dX8_countFault_1 rfl rfl ?_
  obtain ⟨hk1, h⟩ := h
  refine G_callVq C hZ (Tf := TX8) (N := 10) hk1 (by decide) rfl tw_2_25 tw_2_27 tw_0_6 tw_1_1 tw_2_28 hy_X8_partyAt ⟨Nat.le_of_ble_eq_true rfl, Nat.le_of_ble_eq_true rfl⟩ (As := [Value.int x1]) (rest := []) (c_X8_partyAt l D cy x0 x1 S _ h) rfl rfl (by simp [va_cat, vi_cat, vl_cat]) dX8_countFault_2 ⟨Nat.le_of_ble_eq_true rfl, Nat.le_of_ble_eq_true rfl⟩ (fun r3 S2 h => ?_)
  refine G_astore_n C (i := 2) (lv' := [(2, va_rf r3), (0, va_rf (some x0)), (1, Value.int x1)]) dX8_countFault_5 rfl (by decide) (by first | rfl | simp [va_cat, vi_cat, vl_cat]) ?_
  refine G_aload_n C (x := r3) 0 dX8_countFault_6 rfl rfl ?_
  refine G_ifnull C (tgt := 20) dX8_countFault_7 (by decide) (fun hc => ?_) (fun a4 ha5 => ?_)
  · have h := h.1 hc
    refine G_lv C (lv' := []) [] rfl ?_
    exact J20 _ h
  · have h := h.2 a4 ha5
    refine G_aload_n C (x := r3) 0 dX8_countFault_10 rfl rfl ?_
    refine G_dup C dX8_countFault_11 (va_cat _) ?_
    refine G_rf ha5 ?_
    obtain ⟨hk6, h⟩ := h
    refine G_get C (CC := RX3) (Tf := TX3) (N := 4) (k := 4) (i := 2) (v := Value.int (gI S2 402 a4)) hk6 (by decide) rfl (fin fwX3) (by decide) (im tw_1_88) rfl rfl dX8_countFault_12 ?_
    refine G_iconst C (v := 1) dX8_countFault_15 (by decide) ?_
    refine G_iadd C dX8_countFault_16 ?_
    refine G_rf1 ha5 ?_
    refine G_putI C (CC := RX3) (Tf := TX3) (N := 4) (k := 4) (i := 2) (f := 402) (x := ((gI S2 402 a4) + 1)) (ty0 := tyX3) (ty := .int) hk6 (by decide) rfl (fin fwX3) tyX3_ok nmX3 (by decide) (im tw_1_88) rfl rfl rfl rfl rfl rfl rfl dX8_countFault_17 ?_
    generalize e8 : sI S2 402 a4 ((gI S2 402 a4) + 1) = S7
    have h := h S7 e8.symm
    refine G_lv C (lv' := []) [] rfl ?_
    exact J20 _ h
set_option maxHeartbeats 4000000 in
set_option maxRecDepth 100000 in
theorem c_X8_countCore (l : Launch) (D : va_G) (cy : Nat → Nat) (x0 : Nat) (x1 : Int32) (S : PT) (post : PT → Prop) (h : w_X8_countCore x0 x1 S post) : Mv l yX8_countCore (Wm yX8_countCore prog_1_method_48_code 3 (Option.none : Option Jvm.ClassFile.FieldType)) 1 21 D cy [va_rf (some x0), Value.int x1] S 0 0 post := by
  refine Mv_of (own := "Trenchboard") (by decide) rfl (by first | decide | simp [lg_sl, va_cat, vi_cat, vl_cat]) (fun p e s m below meth c A C hZ hr hin9 => ?_)
  have J20 : ∀ (S : PT), w_X8_countCore_b20 x0 x1 post S → G p l e { frames := 1, cells := 0, slots := 0, locals := 21 } s m [va_rf (some x0), Value.int x1].toArray below meth c D cy A s.heap 3 (QMv below D cy A [va_rf (some x0), Value.int x1] s 0 0 post) S 0 0 20 [] [] := by
    intro S h
    unfold w_X8_countCore_b20 at h
    exact G_vret C (mc := 0) (ms := 0) (post := post) hr (Nat.le_of_ble_eq_true rfl) (Nat.le_of_ble_eq_true rfl) dX8_countCore_20 h
  refine G_lv C (lv' := [(0, va_rf (some x0)), (1, Value.int x1)]) [0, 1] (by first | rfl | simp [lv_pick, lv_args, va_cat, vi_cat, vl_cat]) ?_
  unfold w_X8_countCore at h
  refine G_aload_n C (x := (some x0)) 0 dX8_countCore_0 rfl rfl ?_
  refine G_iload_n C (x := x1) 1 dX8_countCore_1 rfl rfl ?_
  obtain ⟨hk1, h⟩ := h
  refine G_callVq C hZ (Tf := TX8) (N := 10) hk1 (by decide) rfl tw_2_25 tw_2_27 tw_0_6 tw_1_1 tw_2_28 hy_X8_partyAt ⟨Nat.le_of_ble_eq_true rfl, Nat.le_of_ble_eq_true rfl⟩ (As := [Value.int x1]) (rest := []) (c_X8_partyAt l D cy x0 x1 S _ h) rfl rfl (by simp [va_cat, vi_cat, vl_cat]) dX8_countCore_2 ⟨Nat.le_of_ble_eq_true rfl, Nat.le_of_ble_eq_true rfl⟩ (fun r3 S2 h => ?_)
  refine G_astore_n C (i := 2) (lv' := [(2, va_rf r3), (0, va_rf (some x0)), (1, Value.int x1)]) dX8_countCore_5 rfl (by decide) (by first | rfl | simp [va_cat, vi_cat, vl_cat]) ?_
  refine G_aload_n C (x := r3) 0 dX8_countCore_6 rfl rfl ?_
  refine G_ifnull C (tgt := 20) dX8_countCore_7 (by decide) (fun hc => ?_) (fun a4 ha5 => ?_)
  · have h := h.1 hc
    refine G_lv C (lv' := []) [] rfl ?_
    exact J20 _ h
  · have h := h.2 a4 ha5
    refine G_aload_n C (x := r3) 0 dX8_countCore_10 rfl rfl ?_
    refine G_dup C dX8_countCore_11 (va_cat _) ?_
    refine G_rf ha5 ?_
    obtain ⟨hk6, h⟩ := h
    refine G_get C (CC := RX3) (Tf := TX3) (N := 4) (k := 4) (i := 3) (v := Value.int (gI S2 403 a4)) hk6 (by decide) rfl (fin fwX3) (by decide) (im tw_1_89) rfl rfl dX8_countCore_12 ?_
    refine G_iconst C (v := 1) dX8_countCore_15 (by decide) ?_
    refine G_iadd C dX8_countCore_16 ?_
    refine G_rf1 ha5 ?_
    refine G_putI C (CC := RX3) (Tf := TX3) (N := 4) (k := 4) (i := 3) (f := 403) (x := ((gI S2 403 a4) + 1)) (ty0 := tyX3) (ty := .int) hk6 (by decide) rfl (fin fwX3) tyX3_ok nmX3 (by decide) (im tw_1_89) rfl rfl rfl rfl rfl rfl rfl dX8_countCore_17 ?_
    generalize e8 : sI S2 403 a4 ((gI S2 403 a4) + 1) = S7
    have h := h S7 e8.symm
    refine G_lv C (lv' := []) [] rfl ?_
    exact J20 _ h
set_option maxHeartbeats 4000000 in
set_option maxRecDepth 100000 in
theorem c_X8_numberOf (l : Launch) (D : va_G) (cy : Nat → Nat) (x0 : Option Nat) (S : PT) (post : Int32 → PT → Prop) (h : w_X8_numberOf x0 S post) : Mi l yX8_numberOf (Wm yX8_numberOf prog_1_method_41_code 1 (Option.some Jvm.ClassFile.FieldType.int)) 0 0 D cy [va_rf x0] S 0 0 post := by
  refine Mi_of (own := "Trenchboard") (by decide) rfl (by first | decide | simp [lg_sl, va_cat, vi_cat, vl_cat]) (fun p e s m below meth c A C hZ hr hin9 => ?_)
  have J12 : ∀ (S : PT) (s0 : Int32), w_X8_numberOf_b12 x0 post S s0 → G p l e { frames := 0, cells := 0, slots := 0, locals := 0 } s m [va_rf x0].toArray below meth c D cy A s.heap 1 (QMi below D cy A [va_rf x0] s 0 0 post) S 0 0 12 [] [Value.int s0] := by
    intro S s0 h
    unfold w_X8_numberOf_b12 at h
    exact G_iret C (mc := 0) (ms := 0) (post := post) hr (Nat.le_of_ble_eq_true rfl) (Nat.le_of_ble_eq_true rfl) dX8_numberOf_12 h
  refine G_lv C (lv' := [(0, va_rf x0)]) [0] (by first | rfl | simp [lv_pick, lv_args, va_cat, vi_cat, vl_cat]) ?_
  unfold w_X8_numberOf at h
  refine G_aload_n C (x := x0) 0 dX8_numberOf_0 rfl rfl ?_
  refine G_ifnonnull C (tgt := 8) dX8_numberOf_1 (by decide) (fun hc => ?_) (fun a1 ha2 => ?_)
  · have h := h.1 hc
    refine G_iconst C (v := (-1)) dX8_numberOf_4 (by decide) ?_
    refine G_goto C (tgt := 12) dX8_numberOf_5 (by decide) ?_
    refine G_lv C (lv' := []) [] rfl ?_
    exact J12 _ _ h
  · have h := h.2 a1 ha2
    refine G_aload_n C (x := x0) 0 dX8_numberOf_8 rfl rfl ?_
    refine G_rf ha2 ?_
    obtain ⟨hk3, h⟩ := h
    refine G_get C (CC := RX7) (Tf := TX7) (N := 18) (k := 8) (i := 0) (v := Value.int (gI S 800 a1)) hk3 (by decide) rfl (fin fwX7) (by decide) (im tw_4_212) rfl rfl dX8_numberOf_9 ?_
    refine G_lv C (lv' := []) [] rfl ?_
    exact J12 _ _ h
set_option maxHeartbeats 4000000 in
set_option maxRecDepth 100000 in
theorem c_J3_checkIndex_8e157 (l : Launch) (D : va_G) (cy : Nat → Nat) (x0 : Int32) (x1 : Int32) (x2 : Option Nat) (S : PT) (post : Int32 → PT → Prop) (h : w_J3_checkIndex_8e157 x0 x1 x2 S post) : Mi l yJ3_checkIndex_8e157 (Wm yJ3_checkIndex_8e157 prog_34_method_11_code 3 (Option.some Jvm.ClassFile.FieldType.int)) 0 0 D cy [Value.int x0, Value.int x1, va_rf x2] S 0 0 post := by
  refine Mi_of (own := "jdk/internal/util/Preconditions") (by decide) rfl (by first | decide | simp [lg_sl, va_cat, vi_cat, vl_cat]) (fun p e s m below meth c A C hZ hr hin9 => ?_)
  have J9 : ∀ (S : PT), w_J3_checkIndex_8e157_b9 x0 x1 x2 post S → G p l e { frames := 0, cells := 0, slots := 0, locals := 0 } s m [Value.int x0, Value.int x1, va_rf x2].toArray below meth c D cy A s.heap 3 (QMi below D cy A [Value.int x0, Value.int x1, va_rf x2] s 0 0 post) S 0 0 9 [(0, Value.int x0), (1, Value.int x1), (2, va_rf x2)] [] := by
    intro S h
    unfold w_J3_checkIndex_8e157_b9 at h
    refine G_aload_n C (x := x2) 2 dJ3_checkIndex_8e157_9 rfl rfl ?_
    refine G_iload_n C (x := x0) 0 dJ3_checkIndex_8e157_10 rfl rfl ?_
    refine G_iload_n C (x := x1) 1 dJ3_checkIndex_8e157_11 rfl rfl ?_
    exact h.elim
  refine G_lv C (lv' := [(0, Value.int x0), (1, Value.int x1), (2, va_rf x2)]) [0, 1, 2] (by first | rfl | simp [lv_pick, lv_args, va_cat, vi_cat, vl_cat]) ?_
  unfold w_J3_checkIndex_8e157 at h
  refine G_iload_n C (x := x0) 0 dJ3_checkIndex_8e157_0 rfl rfl ?_
  refine G_if_lt C (tgt := 9) dJ3_checkIndex_8e157_1 (by decide) (fun hc => ?_) (fun hc => ?_)
  · have h := h.1 hc
    refine G_lv C (lv' := [(0, Value.int x0), (1, Value.int x1), (2, va_rf x2)]) [0, 1, 2] rfl ?_
    exact J9 _ h
  · have h := h.2 hc
    refine G_iload_n C (x := x0) 0 dJ3_checkIndex_8e157_4 rfl rfl ?_
    refine G_iload_n C (x := x1) 1 dJ3_checkIndex_8e157_5 rfl rfl ?_
    refine G_icmp_lt C (tgt := 16) dJ3_checkIndex_8e157_6 (by decide) (fun hc => ?_) (fun hc => ?_)
    · have h := h.1 hc
      refine G_iload_n C (x := x0) 0 dJ3_checkIndex_8e157_16 rfl rfl ?_
      exact G_iret C (mc := 0) (ms := 0) (post := post) hr (Nat.le_of_ble_eq_true rfl) (Nat.le_of_ble_eq_true rfl) dJ3_checkIndex_8e157_17 h
    · have h := h.2 hc
      refine G_lv C (lv' := [(0, Value.int x0), (1, Value.int x1), (2, va_rf x2)]) [0, 1, 2] rfl ?_
      exact J9 _ h
set_option maxHeartbeats 4000000 in
set_option maxRecDepth 100000 in
theorem c_J15_checkIndex_7cf53 (l : Launch) (D : va_G) (cy : Nat → Nat) (x0 : Int32) (x1 : Int32) (S : PT) (post : Int32 → PT → Prop) (h : w_J15_checkIndex_7cf53 x0 x1 S post) : Mi l yJ15_checkIndex_7cf53 (Wm yJ15_checkIndex_7cf53 prog_30_method_17_code 2 (Option.some Jvm.ClassFile.FieldType.int)) 1 22 D cy [Value.int x0, Value.int x1] S 0 0 post := by
  refine Mi_of (own := "java/util/Objects") (by decide) rfl (by first | decide | simp [lg_sl, va_cat, vi_cat, vl_cat]) (fun p e s m below meth c A C hZ hr hin9 => ?_)
  refine G_lv C (lv' := [(0, Value.int x0), (1, Value.int x1)]) [0, 1] (by first | rfl | simp [lv_pick, lv_args, va_cat, vi_cat, vl_cat]) ?_
  unfold w_J15_checkIndex_7cf53 at h
  refine G_iload_n C (x := x0) 0 dJ15_checkIndex_7cf53_0 rfl rfl ?_
  refine G_iload_n C (x := x1) 1 dJ15_checkIndex_7cf53_1 rfl rfl ?_
  refine G_null C dJ15_checkIndex_7cf53_2 ?_
  refine G_callSi C hZ tw_4_123 tw_4_124 tw_1_24 tw_4_125 hy_J3_checkIndex_8e157 ⟨Nat.le_of_ble_eq_true rfl, Nat.le_of_ble_eq_true rfl⟩ (As := [Value.int x0, Value.int x1, va_rf none]) (rest := []) (c_J3_checkIndex_8e157 l D cy x0 x1 none S _ h) rfl rfl (by simp [va_cat, vi_cat, vl_cat]) dJ15_checkIndex_7cf53_3 ⟨Nat.le_of_ble_eq_true rfl, Nat.le_of_ble_eq_true rfl⟩ (fun r2 S1 h => ?_)
  exact G_iret C (mc := 0) (ms := 0) (post := post) hr (Nat.le_of_ble_eq_true rfl) (Nat.le_of_ble_eq_true rfl) dJ15_checkIndex_7cf53_6 h
set_option maxHeartbeats 4000000 in
set_option maxRecDepth 100000 in
theorem c_Jx4a65c_elementData_915e3 (l : Launch) (D : va_G) (cy : Nat → Nat) (x0 : Nat) (x1 : Int32) (S : PT) (post : Option Nat → PT → Prop) (h : w_Jx4a65c_elementData_915e3 x0 x1 S post) : Mq l yJx4a65c_elementData_915e3 (Wm yJx4a65c_elementData_915e3 prog_26_method_18_code 2 (Option.some (Jvm.ClassFile.FieldType.object "java/lang/Object"))) 0 0 D cy [va_rf (some x0), Value.int x1] S 0 0 post := by
  refine Mq_of (own := "java/util/ArrayList") (by decide) rfl (by first | decide | simp [lg_sl, va_cat, vi_cat, vl_cat]) (fun p e s m below meth c A C hZ hr hin9 => ?_)
  refine G_lv C (lv' := [(0, va_rf (some x0)), (1, Value.int x1)]) [0, 1] (by first | rfl | simp [lv_pick, lv_args, va_cat, vi_cat, vl_cat]) ?_
  unfold w_Jx4a65c_elementData_915e3 at h
  refine G_aload_n C (x := (some x0)) 0 dJx4a65c_elementData_915e3_0 rfl rfl ?_
  obtain ⟨hk1, h⟩ := h
  refine G_get C (CC := RJx4a65c) (Tf := TJx4a65c) (N := 3) (k := 11) (i := 1) (v := va_rf (gP S 1101 x0)) hk1 (by decide) rfl (fin fwJx4a65c) (by decide) (im tw_1_69) rfl rfl dJx4a65c_elementData_915e3_1 ?_
  refine G_iload_n C (x := x1) 1 dJx4a65c_elementData_915e3_4 rfl rfl ?_
  obtain ⟨a2, ha3, h⟩ := h
  refine G_rf1 ha3 ?_
  obtain ⟨hk4, h⟩ := h
  obtain ⟨hi5, h⟩ := h
  refine G_aald C hk4 (by decide) rfl hi5 dJx4a65c_elementData_915e3_5 ?_
  exact G_aret C (mc := 0) (ms := 0) (post := post) (v := (gR S a2 ((x1).toNatClampNeg))) (Or.inl ⟨_, rfl⟩) hr (Nat.le_of_ble_eq_true rfl) (Nat.le_of_ble_eq_true rfl) dJx4a65c_elementData_915e3_6 h
set_option maxHeartbeats 4000000 in
set_option maxRecDepth 100000 in
theorem c_Jx4a65c_get_915e3 (l : Launch) (D : va_G) (cy : Nat → Nat) (x0 : Nat) (x1 : Int32) (S : PT) (post : Option Nat → PT → Prop) (h : w_Jx4a65c_get_915e3 x0 x1 S post) : Mq l yJx4a65c_get_915e3 (Wm yJx4a65c_get_915e3 prog_26_method_20_code 2 (Option.some (Jvm.ClassFile.FieldType.object "java/lang/Object"))) 2 43 D cy [va_rf (some x0), Value.int x1] S 0 0 post := by
  refine Mq_of (own := "java/util/ArrayList") (by decide) rfl (by first | decide | simp [lg_sl, va_cat, vi_cat, vl_cat]) (fun p e s m below meth c A C hZ hr hin9 => ?_)
  refine G_lv C (lv' := [(0, va_rf (some x0)), (1, Value.int x1)]) [0, 1] (by first | rfl | simp [lv_pick, lv_args, va_cat, vi_cat, vl_cat]) ?_
  unfold w_Jx4a65c_get_915e3 at h
  refine G_iload_n C (x := x1) 1 dJx4a65c_get_915e3_0 rfl rfl ?_
  refine G_aload_n C (x := (some x0)) 0 dJx4a65c_get_915e3_1 rfl rfl ?_
  obtain ⟨hk1, h⟩ := h
  refine G_get C (CC := RJx4a65c) (Tf := TJx4a65c) (N := 3) (k := 11) (i := 2) (v := Value.int (gI S 1102 x0)) hk1 (by decide) rfl (fin fwJx4a65c) (by decide) (im tw_1_70) rfl rfl dJx4a65c_get_915e3_2 ?_
  refine G_callSi C hZ tw_4_120 tw_4_121 tw_1_23 tw_4_122 hy_J15_checkIndex_7cf53 ⟨Nat.le_of_ble_eq_true rfl, Nat.le_of_ble_eq_true rfl⟩ (As := [Value.int x1, Value.int (gI S 1102 x0)]) (rest := []) (c_J15_checkIndex_7cf53 l D cy x1 (gI S 1102 x0) S _ h) rfl rfl (by simp [va_cat, vi_cat, vl_cat]) dJx4a65c_get_915e3_5 ⟨Nat.le_of_ble_eq_true rfl, Nat.le_of_ble_eq_true rfl⟩ (fun r3 S2 h => ?_)
  refine G_pop C dJx4a65c_get_915e3_8 rfl ?_
  refine G_aload_n C (x := (some x0)) 0 dJx4a65c_get_915e3_9 rfl rfl ?_
  refine G_iload_n C (x := x1) 1 dJx4a65c_get_915e3_10 rfl rfl ?_
  obtain ⟨hk4, h⟩ := h
  refine G_callVq C hZ (Tf := TJx4a65c) (N := 3) hk4 (by decide) rfl tw_4_126 tw_4_127 tw_4_128 tw_1_5 tw_4_129 hy_Jx4a65c_elementData_915e3 ⟨Nat.le_of_ble_eq_true rfl, Nat.le_of_ble_eq_true rfl⟩ (As := [Value.int x1]) (rest := []) (c_Jx4a65c_elementData_915e3 l D cy x0 x1 S2 _ h) rfl rfl (by simp [va_cat, vi_cat, vl_cat]) dJx4a65c_get_915e3_11 ⟨Nat.le_of_ble_eq_true rfl, Nat.le_of_ble_eq_true rfl⟩ (fun r6 S5 h => ?_)
  exact G_aret C (mc := 0) (ms := 0) (post := post) (v := r6) (Or.inl ⟨_, rfl⟩) hr (Nat.le_of_ble_eq_true rfl) (Nat.le_of_ble_eq_true rfl) dJx4a65c_get_915e3_14 h
