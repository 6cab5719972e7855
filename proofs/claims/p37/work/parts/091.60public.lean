set_option maxHeartbeats 4000000 in
set_option maxRecDepth 100000 in
theorem c_X8_street (l : Launch) (hl : l.stackTraces = false) (D : va_G) (cy : Nat → Nat) (x0 : Nat) (x1 : Int32) (x2 : Int32) (x3 : Int32) (x4 : Int32) (S : PT) (mc ms : Nat) (post : Int32 → PT → Prop) (postX : String → PT → Prop) (h : w_X8_street x0 x1 x2 x3 x4 S mc ms post postX) : Xi l yX8_street (Wm yX8_street prog_1_method_2_code 6 (Option.some Jvm.ClassFile.FieldType.int)) 6 90 D cy [va_rf (some x0), Value.int x1, Value.int x2, Value.int x3, Value.int x4] S mc ms post postX := by
  refine Xi_of (own := "Trenchboard") (by decide) rfl (by first | decide | simp [lg_sl, va_cat, vi_cat, vl_cat]) (fun p e s m below meth c A C hZ hr hx9 => ?_)
  have J60 : ∀ (c0 n0 : Nat) (S : PT), w_X8_street_b60 x0 x1 x2 x3 x4 mc ms post postX c0 n0 S → G p l e { frames := 6, cells := mc, slots := ms, locals := 90 } s m [va_rf (some x0), Value.int x1, Value.int x2, Value.int x3, Value.int x4].toArray below meth c D cy A s.heap 6 (QXi below D cy A [va_rf (some x0), Value.int x1, Value.int x2, Value.int x3, Value.int x4] s mc ms post postX) S c0 n0 60 [] [] := by
    intro c0 n0 S h
    unfold w_X8_street_b60 at h
    obtain ⟨hc00, hn00, h⟩ := h
    obtain ⟨hq1, hq2, h⟩ := h
    exact G_throw C hZ hl hx9 (cls := "java/lang/IllegalArgumentException") (text := "metres, class or flow out of range") (ik := 59) (is := 61) (ic := 63) rfl (by decide) tw_1_210 tw_1_11 (List.mem_of_getElem? (i := 1) rfl) (at_IAE C.2.2.2.2.1 C.2.2.2.2.2.1) at_IAE_o dX8_street_60 dX8_street_63 dX8_street_64 dX8_street_66 dX8_street_69 (Nat.le_of_ble_eq_true rfl) (by simp [va_cat, vi_cat, vl_cat]) hq1 hq2 (Nat.le_refl _) (Nat.le_refl _) h
  have J29 : ∀ (c0 n0 : Nat) (S : PT) (v5 : Option Nat), w_X8_street_b29 x0 x1 x2 x3 x4 mc ms post postX c0 n0 S v5 → G p l e { frames := 6, cells := mc, slots := ms, locals := 90 } s m [va_rf (some x0), Value.int x1, Value.int x2, Value.int x3, Value.int x4].toArray below meth c D cy A s.heap 6 (QXi below D cy A [va_rf (some x0), Value.int x1, Value.int x2, Value.int x3, Value.int x4] s mc ms post postX) S c0 n0 29 [(0, va_rf (some x0)), (1, Value.int x1), (2, Value.int x2), (3, Value.int x3), (5, va_rf v5)] [] := by
    intro c0 n0 S v5 h
    unfold w_X8_street_b29 at h
    obtain ⟨hc00, hn00, h⟩ := h
    refine G_iload_n C (x := x1) 1 dX8_street_29 rfl rfl ?_
    refine G_iconst C (v := 1) dX8_street_30 (by decide) ?_
    refine G_icmp_lt C (tgt := 60) dX8_street_31 (by decide) (fun hc => ?_) (fun hc => ?_)
    · have h := h.1 hc
      refine G_lv C (lv' := []) [] rfl ?_
      exact J60 _ _ _ h
    · have h := h.2 hc
      refine G_iload_n C (x := x1) 1 dX8_street_34 rfl rfl ?_
      refine G_bipush C (v := 40) dX8_street_35 (by decide) ?_
      refine G_icmp_gt C (tgt := 60) dX8_street_37 (by decide) (fun hc => ?_) (fun hc => ?_)
      · have h := h.1 hc
        refine G_lv C (lv' := []) [] rfl ?_
        exact J60 _ _ _ h
      · have h := h.2 hc
        refine G_iload_n C (x := x2) 2 dX8_street_40 rfl rfl ?_
        refine G_if_lt C (tgt := 60) dX8_street_41 (by decide) (fun hc => ?_) (fun hc => ?_)
        · have h := h.1 hc
          refine G_lv C (lv' := []) [] rfl ?_
          exact J60 _ _ _ h
        · have h := h.2 hc
          refine G_iload_n C (x := x2) 2 dX8_street_44 rfl rfl ?_
          refine G_iconst C (v := 3) dX8_street_45 (by decide) ?_
          refine G_icmp_gt C (tgt := 60) dX8_street_46 (by decide) (fun hc => ?_) (fun hc => ?_)
          · have h := h.1 hc
            refine G_lv C (lv' := []) [] rfl ?_
            exact J60 _ _ _ h
          · have h := h.2 hc
            refine G_iload_n C (x := x3) 3 dX8_street_49 rfl rfl ?_
            refine G_if_lt C (tgt := 60) dX8_street_50 (by decide) (fun hc => ?_) (fun hc => ?_)
            · have h := h.1 hc
              refine G_lv C (lv' := []) [] rfl ?_
              exact J60 _ _ _ h
            · have h := h.2 hc
              refine G_iload_n C (x := x3) 3 dX8_street_53 rfl rfl ?_
              refine G_sipush C (v := 999) dX8_street_54 (by decide) ?_
              refine G_icmp_le C (tgt := 70) dX8_street_57 (by decide) (fun hc => ?_) (fun hc => ?_)
              · have h := h.1 hc
                refine G_aload_n C (x := (some x0)) 0 dX8_street_70 rfl rfl ?_
                obtain ⟨hk1, h⟩ := h
                refine G_get C (CC := RX8) (Tf := TX8) (N := 10) (k := 9) (i := 1) (v := Value.int (gI S 901 x0)) hk1 (by decide) rfl (fin fwX8) (by decide) (im tw_1_100) rfl rfl dX8_street_71 ?_
                refine G_aload_n C (x := (some x0)) 0 dX8_street_74 rfl rfl ?_
                refine G_get C (CC := RX8) (Tf := TX8) (N := 10) (k := 9) (i := 0) (v := va_rf (gP S 900 x0)) hk1 (by decide) rfl (fin fwX8) (by decide) (im tw_1_99) rfl rfl dX8_street_75 ?_
                obtain ⟨a2, ha3, h⟩ := h
                refine G_rf ha3 ?_
                obtain ⟨hk4, h⟩ := h
                refine G_alen C hk4 (by decide) rfl dX8_street_78 ?_
                refine G_icmp_lt C (tgt := 92) dX8_street_79 (by decide) (fun hc => ?_) (fun hc => ?_)
                · have h := h.1 hc
                  refine G_aload_n C (x := (some x0)) 0 dX8_street_92 rfl rfl ?_
                  refine G_get C (CC := RX8) (Tf := TX8) (N := 10) (k := 9) (i := 0) (v := va_rf (gP S 900 x0)) hk1 (by decide) rfl (fin fwX8) (by decide) (im tw_1_99) rfl rfl dX8_street_93 ?_
                  refine G_aload_n C (x := (some x0)) 0 dX8_street_96 rfl rfl ?_
                  refine G_get C (CC := RX8) (Tf := TX8) (N := 10) (k := 9) (i := 1) (v := Value.int (gI S 901 x0)) hk1 (by decide) rfl (fin fwX8) (by decide) (im tw_1_100) rfl rfl dX8_street_97 ?_
                  obtain ⟨hc9, hs10, h⟩ := h
                  refine G_new C (CC := RX4) (Tf := TX4) (N := 12) (k := 5) (fs := [Value.int 0, Value.int 0, Value.int 0, Value.null, Value.null, Value.int 0, Value.int 0, Value.int 0, Value.int 0, Value.int 0, Value.int 0, Value.int 0]) (by decide) rfl (fin fwX4) tyX4_ok (im tw_1_33) (im tw_2_63) (im tw_1_13) rfl dv_X4 hc9 hs10 dX8_street_100 (fun q5 hq8 => ?_)
                  generalize e7 : nO S q5 5 = S6
                  have h := h q5 S6 hq8 e7.symm
                  refine G_dup C dX8_street_103 (va_cat _) ?_
                  refine G_aload_n C (x := (some x0)) 0 dX8_street_104 rfl rfl ?_
                  refine G_get C (CC := RX8) (Tf := TX8) (N := 10) (k := 9) (i := 1) (v := Value.int (gI S6 901 x0)) (kn0 e7.symm hq8 (by decide) hk1) (by decide) rfl (fin fwX8) (by decide) (im tw_1_100) rfl rfl dX8_street_105 ?_
                  refine G_iload_n C (x := x1) 1 dX8_street_108 rfl rfl ?_
                  refine G_iload_n C (x := x2) 2 dX8_street_109 rfl rfl ?_
                  refine G_iload_n C (x := x3) 3 dX8_street_110 rfl rfl ?_
                  refine G_aload C (x := v5) 4 dX8_street_111 rfl ?_
                  obtain ⟨m13, m14, hc15, hs16, h⟩ := h
                  refine G_callIv C hZ tw_2_64 tw_2_65 tw_1_13 rfl tw_2_66 hy_X4_init ⟨Nat.le_of_ble_eq_true rfl, Nat.le_of_ble_eq_true rfl⟩ (As := [Value.int (gI S6 901 x0), Value.int x1, Value.int x2, Value.int x3, va_rf v5]) (rest := [va_rf (some q5), Value.int (gI S 901 x0), va_rf (gP S 900 x0)]) (c_X4_init l D cy q5 (gI S6 901 x0) x1 x2 x3 v5 S6 m13 m14 _ h) rfl rfl (by simp [va_cat, vi_cat, vl_cat]) dX8_street_113 ⟨hc15, hs16⟩ (fun S11 h => ?_)
                  refine G_rf2 ha3 ?_
                  obtain ⟨hk17, h⟩ := h
                  obtain ⟨hk18, h⟩ := h
                  obtain ⟨hi19, h⟩ := h
                  refine G_aast C (E := RX4) (Tf := TX4) (N := 12) hk17 (by decide) rfl hk18 (by decide) rfl hi19 dX8_street_116 ?_
                  generalize e21 : sR S11 a2 (((gI S 901 x0)).toNatClampNeg) (some q5) = S20
                  have h := h S20 e21.symm
                  refine G_aload_n C (x := (some x0)) 0 dX8_street_117 rfl rfl ?_
                  refine G_dup C dX8_street_118 (va_cat _) ?_
                  obtain ⟨hk22, h⟩ := h
                  refine G_get C (CC := RX8) (Tf := TX8) (N := 10) (k := 9) (i := 1) (v := Value.int (gI S20 901 x0)) hk22 (by decide) rfl (fin fwX8) (by decide) (im tw_1_100) rfl rfl dX8_street_119 ?_
                  refine G_iconst C (v := 1) dX8_street_122 (by decide) ?_
                  refine G_iadd C dX8_street_123 ?_
                  refine G_putI C (CC := RX8) (Tf := TX8) (N := 10) (k := 9) (i := 1) (f := 901) (x := ((gI S20 901 x0) + 1)) (ty0 := tyX8) (ty := .int) hk22 (by decide) rfl (fin fwX8) tyX8_ok nmX8 (by decide) (im tw_1_100) rfl rfl rfl rfl rfl rfl rfl dX8_street_124 ?_
                  generalize e24 : sI S20 901 x0 ((gI S20 901 x0) + 1) = S23
                  have h := h S23 e24.symm
                  refine G_aload_n C (x := (some x0)) 0 dX8_street_127 rfl rfl ?_
                  refine G_get C (CC := RX8) (Tf := TX8) (N := 10) (k := 9) (i := 1) (v := Value.int (gI S23 901 x0)) (ksI e24.symm hk22) (by decide) rfl (fin fwX8) (by decide) (im tw_1_100) rfl rfl dX8_street_128 ?_
                  refine G_iconst C (v := 1) dX8_street_131 (by decide) ?_
                  refine G_isub C dX8_street_132 ?_
                  refine G_vx ?_
                  exact G_iret C (mc := mc) (ms := ms) (post := post) hr hc15 hs16 dX8_street_133 h
                · have h := h.2 hc
                  obtain ⟨hq1, hq2, h⟩ := h
                  exact G_throw C hZ hl hx9 (cls := "java/lang/IllegalStateException") (text := "no more streets") (ik := 68) (is := 70) (ic := 72) rfl (by decide) tw_2_47 tw_1_12 (List.mem_of_getElem? (i := 2) rfl) (at_ISE C.2.2.2.2.1 C.2.2.2.2.2.1) at_ISE_o dX8_street_82 dX8_street_85 dX8_street_86 dX8_street_88 dX8_street_91 (Nat.le_of_ble_eq_true rfl) (by simp [va_cat, vi_cat, vl_cat]) hq1 hq2 (Nat.le_refl _) (Nat.le_refl _) h
              · have h := h.2 hc
                refine G_lv C (lv' := []) [] rfl ?_
                exact J60 _ _ _ h
  refine G_lv C (lv' := [(0, va_rf (some x0)), (1, Value.int x1), (2, Value.int x2), (3, Value.int x3), (4, Value.int x4)]) [0, 1, 2, 3, 4] (by first | rfl | simp [lv_pick, lv_args, va_cat, vi_cat, vl_cat]) ?_
  unfold w_X8_street at h
  refine G_aload_n C (x := (some x0)) 0 dX8_street_0 rfl rfl ?_
  refine G_iload C (x := x4) 4 dX8_street_1 rfl ?_
  obtain ⟨hk25, h⟩ := h
  refine G_callVq C hZ (Tf := TX8) (N := 10) hk25 (by decide) rfl tw_1_134 tw_1_136 tw_0_0 tw_1_1 tw_1_137 hy_X8_streetAt ⟨Nat.le_of_ble_eq_true rfl, Nat.le_of_ble_eq_true rfl⟩ (As := [Value.int x4]) (rest := []) (c_X8_streetAt l D cy x0 x4 S _ h) rfl rfl (by simp [va_cat, vi_cat, vl_cat]) dX8_street_3 ⟨(Nat.zero_le _), (Nat.zero_le _)⟩ (fun r27 S26 h => ?_)
  refine G_astore C (i := 5) (lv' := [(5, va_rf r27), (0, va_rf (some x0)), (1, Value.int x1), (2, Value.int x2), (3, Value.int x3), (4, Value.int x4)]) dX8_street_6 (by decide) (by first | rfl | simp [va_cat, vi_cat, vl_cat]) ?_
  refine G_aload C (x := r27) 0 dX8_street_8 rfl ?_
  refine G_ifnonnull C (tgt := 29) dX8_street_10 (by decide) (fun hc => ?_) (fun a28 ha29 => ?_)
  · have h := h.1 hc
    refine G_iload C (x := x4) 5 dX8_street_13 rfl ?_
    refine G_iconst C (v := (-1)) dX8_street_15 (by decide) ?_
    refine G_icmp_eq C (tgt := 29) dX8_street_16 (by decide) (fun hc => ?_) (fun hc => ?_)
    · have h := h.1 hc
      refine G_lv C (lv' := [(0, va_rf (some x0)), (1, Value.int x1), (2, Value.int x2), (3, Value.int x3), (5, va_rf r27)]) [1, 2, 3, 4, 0] rfl ?_
      exact J29 _ _ _ _ h
    · have h := h.2 hc
      obtain ⟨hq1, hq2, h⟩ := h
      exact G_throw C hZ hl hx9 (cls := "java/lang/IndexOutOfBoundsException") (text := "no such way around") (ik := 52) (is := 54) (ic := 56) rfl (by decide) tw_1_142 tw_1_10 (List.mem_of_getElem? (i := 0) rfl) (at_IOOBE C.2.2.2.2.1 C.2.2.2.2.2.1) at_IOOBE_o dX8_street_19 dX8_street_22 dX8_street_23 dX8_street_25 dX8_street_28 (Nat.le_of_ble_eq_true rfl) (by simp [va_cat, vi_cat, vl_cat]) hq1 hq2 (Nat.le_refl _) (Nat.le_refl _) h
  · have h := h.2 a28 ha29
    refine G_lv C (lv' := [(0, va_rf (some x0)), (1, Value.int x1), (2, Value.int x2), (3, Value.int x3), (5, va_rf r27)]) [1, 2, 3, 4, 0] rfl ?_
    exact J29 _ _ _ _ h
set_option maxHeartbeats 4000000 in
set_option maxRecDepth 100000 in
theorem c_X8_surface (l : Launch) (hl : l.stackTraces = false) (D : va_G) (cy : Nat → Nat) (e0 m0 : Nat) (he : e0 = cy 9) (hm : m0 = cy 10) (x0 : Nat) (x1 : Int32) (S : PT) (mc ms : Nat) (post : Int32 → PT → Prop) (postX : String → PT → Prop) (h : w_X8_surface e0 m0 x0 x1 S mc ms post postX) : Xi l yX8_surface (Wm yX8_surface prog_1_method_3_code 3 (Option.some Jvm.ClassFile.FieldType.int)) 8 192 D cy [va_rf (some x0), Value.int x1] S mc ms post postX := by
  refine Xi_of (own := "Trenchboard") (by decide) rfl (by first | decide | simp [lg_sl, va_cat, vi_cat, vl_cat]) (fun p e s m below meth c A C hZ hr hx9 => ?_)
  refine G_lv C (lv' := [(0, va_rf (some x0)), (1, Value.int x1)]) [0, 1] (by first | rfl | simp [lv_pick, lv_args, va_cat, vi_cat, vl_cat]) ?_
  unfold w_X8_surface at h
  refine G_aload_n C (x := (some x0)) 0 dX8_surface_0 rfl rfl ?_
  refine G_iload_n C (x := x1) 1 dX8_surface_1 rfl rfl ?_
  obtain ⟨hk1, h⟩ := h
  refine G_callVq C hZ (Tf := TX8) (N := 10) hk1 (by decide) rfl tw_1_134 tw_1_136 tw_0_0 tw_1_1 tw_1_137 hy_X8_streetAt ⟨Nat.le_of_ble_eq_true rfl, Nat.le_of_ble_eq_true rfl⟩ (As := [Value.int x1]) (rest := []) (c_X8_streetAt l D cy x0 x1 S _ h) rfl rfl (by simp [va_cat, vi_cat, vl_cat]) dX8_surface_2 ⟨(Nat.zero_le _), (Nat.zero_le _)⟩ (fun r3 S2 h => ?_)
  refine G_astore_n C (i := 2) (lv' := [(2, va_rf r3), (0, va_rf (some x0)), (1, Value.int x1)]) dX8_surface_5 rfl (by decide) (by first | rfl | simp [va_cat, vi_cat, vl_cat]) ?_
  refine G_aload_n C (x := r3) 0 dX8_surface_6 rfl rfl ?_
  refine G_ifnonnull C (tgt := 20) dX8_surface_7 (by decide) (fun hc => ?_) (fun a4 ha5 => ?_)
  · have h := h.1 hc
    obtain ⟨hq1, hq2, h⟩ := h
    exact G_throw C hZ hl hx9 (cls := "java/lang/IndexOutOfBoundsException") (text := "no such street") (ik := 52) (is := 76) (ic := 56) rfl (by decide) tw_1_142 tw_1_10 (List.mem_of_getElem? (i := 3) rfl) (at_IOOBE C.2.2.2.2.1 C.2.2.2.2.2.1) at_IOOBE_o dX8_surface_10 dX8_surface_13 dX8_surface_14 dX8_surface_16 dX8_surface_19 (Nat.le_of_ble_eq_true rfl) (by simp [va_cat, vi_cat, vl_cat]) hq1 hq2 (Nat.le_refl _) (Nat.le_refl _) h
  · have h := h.2 a4 ha5
    refine G_aload_n C (x := r3) 0 dX8_surface_20 rfl rfl ?_
    obtain ⟨hk6, h⟩ := h
    refine G_callVi C hZ (Tf := TX4) (N := 12) hk6 (by decide) rfl tw_2_145 tw_2_146 tw_2_147 tw_1_13 tw_2_148 hy_X4_hasOpenMetre ⟨Nat.le_of_ble_eq_true rfl, Nat.le_of_ble_eq_true rfl⟩ (As := []) (rest := []) (c_X4_hasOpenMetre l D cy a4 S2 _ h) rfl (by first | rfl | (simp only [ha5]; rfl) | simp only [ha5]) (by simp [va_cat, vi_cat, vl_cat]) dX8_surface_21 ⟨(Nat.zero_le _), (Nat.zero_le _)⟩ (fun r8 S7 h => ?_)
    obtain ⟨hb9, h⟩ := h
    refine G_if_eq C (tgt := 37) dX8_surface_24 (by decide) (fun hc => ?_) (fun hc => ?_)
    · have h := h.1 hc
      refine G_aload_n C (x := r3) 0 dX8_surface_37 rfl rfl ?_
      refine G_aload_n C (x := (some x0)) 1 dX8_surface_38 rfl rfl ?_
      obtain ⟨hk10, h⟩ := h
      refine G_callVi C hZ (Tf := TX8) (N := 10) hk10 (by decide) rfl tw_1_234 tw_1_236 tw_0_3 tw_1_1 tw_1_237 hy_X8_today ⟨Nat.le_of_ble_eq_true rfl, Nat.le_of_ble_eq_true rfl⟩ (As := []) (rest := [va_rf r3]) (c_X8_today l D cy x0 S7 _ h) rfl rfl (by simp [va_cat, vi_cat, vl_cat]) dX8_surface_39 ⟨(Nat.zero_le _), (Nat.zero_le _)⟩ (fun r12 S11 h => ?_)
      refine G_rf1 ha5 ?_
      obtain ⟨hk13, h⟩ := h
      refine G_putI C (CC := RX4) (Tf := TX4) (N := 12) (k := 5) (i := 7) (f := 507) (x := r12) (ty0 := tyX4) (ty := .int) hk13 (by decide) rfl (fin fwX4) tyX4_ok nmX4 (by decide) (im tw_2_107) rfl rfl rfl rfl rfl rfl rfl dX8_surface_42 ?_
      generalize e15 : sI S11 507 a4 r12 = S14
      have h := h S14 e15.symm
      refine G_aload_n C (x := r3) 0 dX8_surface_45 rfl rfl ?_
      refine G_aload_n C (x := (some x0)) 1 dX8_surface_46 rfl rfl ?_
      obtain ⟨hk16, h⟩ := h
      refine G_get C (CC := RX8) (Tf := TX8) (N := 10) (k := 9) (i := 8) (v := va_rf (gP S14 908 x0)) hk16 (by decide) rfl (fin fwX8) (by decide) (im tw_1_107) rfl rfl dX8_surface_47 ?_
      obtain ⟨a17, ha18, h⟩ := h
      obtain ⟨hk19, h⟩ := h
      refine G_callVi C hZ (Tf := TJx4a65c) (N := 3) hk19 (by decide) rfl tw_2_150 tw_2_151 tw_2_152 tw_1_5 tw_2_153 hy_Jx4a65c_size_8abf5 ⟨Nat.le_of_ble_eq_true rfl, Nat.le_of_ble_eq_true rfl⟩ (As := []) (rest := [va_rf r3]) (c_Jx4a65c_size_8abf5 l D cy a17 S14 _ h) rfl (by first | rfl | (simp only [ha18]; rfl) | simp only [ha18]) (by simp [va_cat, vi_cat, vl_cat]) dX8_surface_50 ⟨(Nat.zero_le _), (Nat.zero_le _)⟩ (fun r21 S20 h => ?_)
      refine G_rf1 ha5 ?_
      obtain ⟨hk22, h⟩ := h
      refine G_putI C (CC := RX4) (Tf := TX4) (N := 12) (k := 5) (i := 8) (f := 508) (x := r21) (ty0 := tyX4) (ty := .int) hk22 (by decide) rfl (fin fwX4) tyX4_ok nmX4 (by decide) (im tw_2_109) rfl rfl rfl rfl rfl rfl rfl dX8_surface_53 ?_
      generalize e24 : sI S20 508 a4 r21 = S23
      have h := h S23 e24.symm
      refine G_aload_n C (x := (some x0)) 1 dX8_surface_56 rfl rfl ?_
      obtain ⟨hc29, hs30, h⟩ := h
      refine G_new C (CC := RX5) (Tf := TX5) (N := 4) (k := 6) (fs := [Value.null, Value.int 0, Value.null, Value.int 0]) (by decide) rfl (fin fwX5) tyX5_ok (im tw_2_154) (im tw_2_155) (im tw_1_16) rfl dv_X5 hc29 hs30 dX8_surface_57 (fun q25 hq28 => ?_)
      generalize e27 : nO S23 q25 6 = S26
      have h := h q25 S26 hq28 e27.symm
      refine G_dup C dX8_surface_60 (va_cat _) ?_
      refine G_aload_n C (x := r3) 0 dX8_surface_61 rfl rfl ?_
      refine G_iconst C (v := (-1)) dX8_surface_62 (by decide) ?_
      refine G_null C dX8_surface_63 ?_
      refine G_aload_n C (x := r3) 0 dX8_surface_64 rfl rfl ?_
      refine G_rf ha5 ?_
      refine G_get C (CC := RX4) (Tf := TX4) (N := 12) (k := 5) (i := 7) (v := Value.int (gI S26 507 a4)) (kn0 e27.symm hq28 (by decide) (ksI e24.symm hk22)) (by decide) rfl (fin fwX4) (by decide) (im tw_2_107) rfl rfl dX8_surface_65 ?_
      refine G_callIv C hZ tw_2_156 tw_2_157 tw_1_16 rfl tw_2_158 hy_X5_init ⟨Nat.le_of_ble_eq_true rfl, Nat.le_of_ble_eq_true rfl⟩ (As := [va_rf r3, Value.int (-1), va_rf none, Value.int (gI S26 507 a4)]) (rest := [va_rf (some q25), va_rf (some x0)]) (c_X5_init l D cy q25 r3 (-1) none (gI S26 507 a4) S26 _ h) rfl rfl (by simp [va_cat, vi_cat, vl_cat]) dX8_surface_68 ⟨hc29, hs30⟩ (fun S31 h => ?_)
      obtain ⟨hk33, h⟩ := h
      obtain ⟨m36, m37, hc38, hs39, h⟩ := h
      refine G_callVv C hZ (Tf := TX8) (N := 10) hk33 (by decide) rfl tw_2_175 tw_2_177 tw_0_7 tw_1_1 tw_2_178 hy_X8_tell ⟨Nat.le_of_ble_eq_true rfl, Nat.le_of_ble_eq_true rfl⟩ (As := [va_rf (some q25)]) (rest := []) (c_X8_tell l D cy e0 m0 he hm x0 (some q25) S31 m36 m37 _ h) rfl rfl (by simp [va_cat, vi_cat, vl_cat]) dX8_surface_71 ⟨hc38, hs39⟩ (fun S34 h => ?_)
      refine G_aload_n C (x := r3) 0 dX8_surface_74 rfl rfl ?_
      refine G_rf ha5 ?_
      obtain ⟨hk40, h⟩ := h
      refine G_get C (CC := RX4) (Tf := TX4) (N := 12) (k := 5) (i := 7) (v := Value.int (gI S34 507 a4)) hk40 (by decide) rfl (fin fwX4) (by decide) (im tw_2_107) rfl rfl dX8_surface_75 ?_
      refine G_bipush C (v := 99) dX8_surface_78 (by decide) ?_
      refine G_iadd C dX8_surface_80 ?_
      refine G_vx ?_
      exact G_iret C (mc := mc) (ms := ms) (post := post) hr hc38 hs39 dX8_surface_81 h
    · have h := h.2 hc
      obtain ⟨hq1, hq2, h⟩ := h
      exact G_throw C hZ hl hx9 (cls := "java/lang/IllegalStateException") (text := "a metre is open") (ik := 68) (is := 82) (ic := 72) rfl (by decide) tw_2_47 tw_1_12 (List.mem_of_getElem? (i := 4) rfl) (at_ISE C.2.2.2.2.1 C.2.2.2.2.2.1) at_ISE_o dX8_surface_27 dX8_surface_30 dX8_surface_31 dX8_surface_33 dX8_surface_36 (Nat.le_of_ble_eq_true rfl) (by simp [va_cat, vi_cat, vl_cat]) hq1 hq2 (Nat.le_refl _) (Nat.le_refl _) h
set_option maxHeartbeats 4000000 in
set_option maxRecDepth 100000 in
theorem c_X8_embargo (l : Launch) (hl : l.stackTraces = false) (D : va_G) (cy : Nat → Nat) (x0 : Nat) (x1 : Int32) (x2 : Int32) (x3 : Int32) (S : PT) (mc ms : Nat) (post : Int32 → PT → Prop) (postX : String → PT → Prop) (h : w_X8_embargo x0 x1 x2 x3 S mc ms post postX) : Xi l yX8_embargo (Wm yX8_embargo prog_1_method_4_code 8 (Option.some Jvm.ClassFile.FieldType.int)) 6 90 D cy [va_rf (some x0), Value.int x1, Value.int x2, Value.int x3] S mc ms post postX := by
  refine Xi_of (own := "Trenchboard") (by decide) rfl (by first | decide | simp [lg_sl, va_cat, vi_cat, vl_cat]) (fun p e s m below meth c A C hZ hr hx9 => ?_)
  have J73 : ∀ (n : Nat) (c0 n0 : Nat) (S : PT) (v4 : Option Nat) (v5 : Int32) (v6 : Int32), w_X8_embargo_l73 x0 x1 x2 x3 mc ms post postX n c0 n0 S v4 v5 v6 → G p l e { frames := 6, cells := mc, slots := ms, locals := 90 } s m [va_rf (some x0), Value.int x1, Value.int x2, Value.int x3].toArray below meth c D cy A s.heap 8 (QXi below D cy A [va_rf (some x0), Value.int x1, Value.int x2, Value.int x3] s mc ms post postX) S c0 n0 73 [(0, va_rf (some x0)), (4, va_rf v4), (5, Value.int v5), (6, Value.int v6)] [] := by
    intro n73
    induction n73 with
    | zero => intro c0 n0 S v4 v5 v6 h; rw [w_X8_embargo_l73] at h; exact False.elim h
    | succ n73 K73 =>
      have J137 : ∀ (c0 n0 : Nat) (S : PT) (v4 : Option Nat) (v5 : Int32) (v6 : Int32), w_X8_embargo_b137 x0 x1 x2 x3 mc ms post postX (w_X8_embargo_l73 x0 x1 x2 x3 mc ms post postX n73) c0 n0 S v4 v5 v6 → G p l e { frames := 6, cells := mc, slots := ms, locals := 90 } s m [va_rf (some x0), Value.int x1, Value.int x2, Value.int x3].toArray below meth c D cy A s.heap 8 (QXi below D cy A [va_rf (some x0), Value.int x1, Value.int x2, Value.int x3] s mc ms post postX) S c0 n0 137 [(0, va_rf (some x0)), (4, va_rf v4), (5, Value.int v5), (6, Value.int v6)] [] := by
        intro c0 n0 S v4 v5 v6 h
        unfold w_X8_embargo_b137 at h
        obtain ⟨hc00, hn00, h⟩ := h
        refine G_iinc C (v := (v6 + 1)) (lv' := [(6, Value.int (v6 + 1)), (0, va_rf (some x0)), (4, va_rf v4), (5, Value.int v5)]) 3 dX8_embargo_137 rfl rfl (by decide) (by first | rfl | simp [va_cat, vi_cat, vl_cat]) ?_
        refine G_goto C (tgt := 73) dX8_embargo_140 (by decide) ?_
        refine G_lv C (lv' := [(0, va_rf (some x0)), (4, va_rf v4), (5, Value.int v5), (6, Value.int (v6 + 1))]) [1, 2, 3, 0] rfl ?_
        exact K73 _ _ _ _ _ _ h
      intro c0 n0 S v4 v5 v6 h
      rw [w_X8_embargo_l73] at h
      obtain ⟨hc00, hn00, h⟩ := h
      refine G_iload C (x := v6) 3 dX8_embargo_73 rfl ?_
      refine G_aload_n C (x := (some x0)) 0 dX8_embargo_75 rfl rfl ?_
      obtain ⟨hk1, h⟩ := h
      refine G_get C (CC := RX8) (Tf := TX8) (N := 10) (k := 9) (i := 4) (v := va_rf (gP S 904 x0)) hk1 (by decide) rfl (fin fwX8) (by decide) (im tw_1_103) rfl rfl dX8_embargo_76 ?_
      obtain ⟨a2, ha3, h⟩ := h
      refine G_rf ha3 ?_
      obtain ⟨hk4, h⟩ := h
      refine G_alen C hk4 (by decide) rfl dX8_embargo_79 ?_
      refine G_icmp_ge C (tgt := 143) dX8_embargo_80 (by decide) (fun hc => ?_) (fun hc => ?_)
      · have h := h.1 hc
        refine G_iload C (x := v5) 2 dX8_embargo_143 rfl ?_
        refine G_vx ?_
        exact G_iret C (mc := mc) (ms := ms) (post := post) hr hc00 hn00 dX8_embargo_145 h
      · have h := h.2 hc
        refine G_aload_n C (x := (some x0)) 0 dX8_embargo_83 rfl rfl ?_
        refine G_get C (CC := RX8) (Tf := TX8) (N := 10) (k := 9) (i := 4) (v := va_rf (gP S 904 x0)) hk1 (by decide) rfl (fin fwX8) (by decide) (im tw_1_103) rfl rfl dX8_embargo_84 ?_
        refine G_iload C (x := v6) 3 dX8_embargo_87 rfl ?_
        refine G_rf1 ha3 ?_
        obtain ⟨hi5, h⟩ := h
        refine G_aald C hk4 (by decide) rfl hi5 dX8_embargo_89 ?_
        refine G_astore C (i := 7) (lv' := [(7, va_rf (gR S a2 ((v6).toNatClampNeg))), (0, va_rf (some x0)), (4, va_rf v4), (5, Value.int v5), (6, Value.int v6)]) dX8_embargo_90 (by decide) (by first | rfl | simp [va_cat, vi_cat, vl_cat]) ?_
        refine G_aload C (x := (gR S a2 ((v6).toNatClampNeg))) 0 dX8_embargo_92 rfl ?_
        refine G_ifnull C (tgt := 137) dX8_embargo_94 (by decide) (fun hc => ?_) (fun a6 ha7 => ?_)
        · have h := h.1 hc
          refine G_lv C (lv' := [(0, va_rf (some x0)), (4, va_rf v4), (5, Value.int v5), (6, Value.int v6)]) [1, 2, 3, 4] rfl ?_
          exact J137 _ _ _ _ _ _ h
        · have h := h.2 a6 ha7
          refine G_aload C (x := (gR S a2 ((v6).toNatClampNeg))) 0 dX8_embargo_97 rfl ?_
          refine G_rf ha7 ?_
          obtain ⟨hk8, h⟩ := h
          refine G_get C (CC := RX7) (Tf := TX7) (N := 18) (k := 8) (i := 2) (v := va_rf (gP S 802 a6)) hk8 (by decide) rfl (fin fwX7) (by decide) (im tw_4_216) rfl rfl dX8_embargo_99 ?_
          refine G_aload C (x := v4) 2 dX8_embargo_102 rfl ?_
          refine G_acmp_ne C (tgt := 137) dX8_embargo_104 (by decide) (fun hc => ?_) (fun hc => ?_)
          · have h := h.1 hc
            refine G_lv C (lv' := [(0, va_rf (some x0)), (4, va_rf v4), (5, Value.int v5), (6, Value.int v6)]) [1, 2, 3, 4] rfl ?_
            exact J137 _ _ _ _ _ _ h
          · have h := h.2 hc
            refine G_aload C (x := (gR S a2 ((v6).toNatClampNeg))) 0 dX8_embargo_107 rfl ?_
            refine G_rf ha7 ?_
            refine G_get C (CC := RX7) (Tf := TX7) (N := 18) (k := 8) (i := 10) (v := Value.int (gI S 810 a6)) hk8 (by decide) rfl (fin fwX7) (by decide) (im tw_4_230) rfl rfl dX8_embargo_109 ?_
            refine G_iconst C (v := 1) dX8_embargo_112 (by decide) ?_
            refine G_icmp_ne C (tgt := 137) dX8_embargo_113 (by decide) (fun hc => ?_) (fun hc => ?_)
            · have h := h.1 hc
              refine G_lv C (lv' := [(0, va_rf (some x0)), (4, va_rf v4), (5, Value.int v5), (6, Value.int v6)]) [1, 2, 3, 4] rfl ?_
              exact J137 _ _ _ _ _ _ h
            · have h := h.2 hc
              refine G_aload C (x := v4) 2 dX8_embargo_116 rfl ?_
              refine G_aload C (x := (gR S a2 ((v6).toNatClampNeg))) 0 dX8_embargo_118 rfl ?_
              refine G_rf ha7 ?_
              refine G_get C (CC := RX7) (Tf := TX7) (N := 18) (k := 8) (i := 8) (v := Value.int (gI S 808 a6)) hk8 (by decide) rfl (fin fwX7) (by decide) (im tw_4_226) rfl rfl dX8_embargo_120 ?_
              refine G_aload C (x := (gR S a2 ((v6).toNatClampNeg))) 0 dX8_embargo_123 rfl ?_
              refine G_rf ha7 ?_
              refine G_get C (CC := RX7) (Tf := TX7) (N := 18) (k := 8) (i := 9) (v := Value.int (gI S 809 a6)) hk8 (by decide) rfl (fin fwX7) (by decide) (im tw_4_228) rfl rfl dX8_embargo_125 ?_
              obtain ⟨a9, ha10, h⟩ := h
              obtain ⟨hk11, h⟩ := h
              refine G_callVi C hZ (Tf := TX4) (N := 12) hk11 (by decide) rfl tw_3_2 tw_3_3 tw_3_4 tw_1_13 tw_3_5 hy_X4_hasEmbargoIn ⟨Nat.le_of_ble_eq_true rfl, Nat.le_of_ble_eq_true rfl⟩ (As := [Value.int (gI S 808 a6), Value.int (gI S 809 a6)]) (rest := []) (c_X4_hasEmbargoIn l D cy a9 (gI S 808 a6) (gI S 809 a6) S _ h) rfl (by first | rfl | (simp only [ha10]; rfl) | simp only [ha10]) (by simp [va_cat, vi_cat, vl_cat]) dX8_embargo_128 ⟨hc00, hn00⟩ (fun r13 S12 h => ?_)
              obtain ⟨hb14, h⟩ := h
              refine G_if_eq C (tgt := 137) dX8_embargo_131 (by decide) (fun hc => ?_) (fun hc => ?_)
              · have h := h.1 hc
                refine G_lv C (lv' := [(0, va_rf (some x0)), (4, va_rf v4), (5, Value.int v5), (6, Value.int v6)]) [1, 2, 3, 4] rfl ?_
                exact J137 _ _ _ _ _ _ h
              · have h := h.2 hc
                refine G_iinc C (v := (v5 + 1)) (lv' := [(5, Value.int (v5 + 1)), (7, va_rf (gR S a2 ((v6).toNatClampNeg))), (0, va_rf (some x0)), (4, va_rf v4), (6, Value.int v6)]) 3 dX8_embargo_134 rfl rfl (by decide) (by first | rfl | simp [va_cat, vi_cat, vl_cat]) ?_
                refine G_lv C (lv' := [(0, va_rf (some x0)), (4, va_rf v4), (5, Value.int (v5 + 1)), (6, Value.int v6)]) [2, 3, 0, 4] rfl ?_
                exact J137 _ _ _ _ _ _ h
  have J45 : ∀ (c0 n0 : Nat) (S : PT), w_X8_embargo_b45 x0 x1 x2 x3 mc ms post postX c0 n0 S → G p l e { frames := 6, cells := mc, slots := ms, locals := 90 } s m [va_rf (some x0), Value.int x1, Value.int x2, Value.int x3].toArray below meth c D cy A s.heap 8 (QXi below D cy A [va_rf (some x0), Value.int x1, Value.int x2, Value.int x3] s mc ms post postX) S c0 n0 45 [] [] := by
    intro c0 n0 S h
    unfold w_X8_embargo_b45 at h
    obtain ⟨hc00, hn00, h⟩ := h
    obtain ⟨hq1, hq2, h⟩ := h
    exact G_throw C hZ hl hx9 (cls := "java/lang/IllegalArgumentException") (text := "days out of range") (ik := 59) (is := 106) (ic := 63) rfl (by decide) tw_1_210 tw_1_11 (List.mem_of_getElem? (i := 5) rfl) (at_IAE C.2.2.2.2.1 C.2.2.2.2.2.1) at_IAE_o dX8_embargo_45 dX8_embargo_48 dX8_embargo_49 dX8_embargo_51 dX8_embargo_54 (Nat.le_of_ble_eq_true rfl) (by simp [va_cat, vi_cat, vl_cat]) hq1 hq2 (Nat.le_refl _) (Nat.le_refl _) h
  refine G_lv C (lv' := [(0, va_rf (some x0)), (1, Value.int x1), (2, Value.int x2), (3, Value.int x3)]) [0, 1, 2, 3] (by first | rfl | simp [lv_pick, lv_args, va_cat, vi_cat, vl_cat]) ?_
  unfold w_X8_embargo at h
  refine G_aload_n C (x := (some x0)) 0 dX8_embargo_0 rfl rfl ?_
  refine G_iload_n C (x := x1) 1 dX8_embargo_1 rfl rfl ?_
  obtain ⟨hk15, h⟩ := h
  refine G_callVq C hZ (Tf := TX8) (N := 10) hk15 (by decide) rfl tw_1_134 tw_1_136 tw_0_0 tw_1_1 tw_1_137 hy_X8_streetAt ⟨Nat.le_of_ble_eq_true rfl, Nat.le_of_ble_eq_true rfl⟩ (As := [Value.int x1]) (rest := []) (c_X8_streetAt l D cy x0 x1 S _ h) rfl rfl (by simp [va_cat, vi_cat, vl_cat]) dX8_embargo_2 ⟨(Nat.zero_le _), (Nat.zero_le _)⟩ (fun r17 S16 h => ?_)
  refine G_astore C (i := 4) (lv' := [(4, va_rf r17), (0, va_rf (some x0)), (1, Value.int x1), (2, Value.int x2), (3, Value.int x3)]) dX8_embargo_5 (by decide) (by first | rfl | simp [va_cat, vi_cat, vl_cat]) ?_
  refine G_aload C (x := r17) 0 dX8_embargo_7 rfl ?_
  refine G_ifnonnull C (tgt := 22) dX8_embargo_9 (by decide) (fun hc => ?_) (fun a18 ha19 => ?_)
  · have h := h.1 hc
    obtain ⟨hq1, hq2, h⟩ := h
    exact G_throw C hZ hl hx9 (cls := "java/lang/IndexOutOfBoundsException") (text := "no such street") (ik := 52) (is := 76) (ic := 56) rfl (by decide) tw_1_142 tw_1_10 (List.mem_of_getElem? (i := 3) rfl) (at_IOOBE C.2.2.2.2.1 C.2.2.2.2.2.1) at_IOOBE_o dX8_embargo_12 dX8_embargo_15 dX8_embargo_16 dX8_embargo_18 dX8_embargo_21 (Nat.le_of_ble_eq_true rfl) (by simp [va_cat, vi_cat, vl_cat]) hq1 hq2 (Nat.le_refl _) (Nat.le_refl _) h
  · have h := h.2 a18 ha19
    refine G_iload_n C (x := x2) 3 dX8_embargo_22 rfl rfl ?_
    refine G_if_lt C (tgt := 45) dX8_embargo_23 (by decide) (fun hc => ?_) (fun hc => ?_)
    · have h := h.1 hc
      refine G_lv C (lv' := []) [] rfl ?_
      exact J45 _ _ _ h
    · have h := h.2 hc
      refine G_iload_n C (x := x2) 3 dX8_embargo_26 rfl rfl ?_
      refine G_sipush C (v := 999) dX8_embargo_27 (by decide) ?_
      refine G_icmp_gt C (tgt := 45) dX8_embargo_30 (by decide) (fun hc => ?_) (fun hc => ?_)
      · have h := h.1 hc
        refine G_lv C (lv' := []) [] rfl ?_
        exact J45 _ _ _ h
      · have h := h.2 hc
        refine G_iload_n C (x := x3) 4 dX8_embargo_33 rfl rfl ?_
        refine G_iload_n C (x := x2) 3 dX8_embargo_34 rfl rfl ?_
        refine G_icmp_lt C (tgt := 45) dX8_embargo_35 (by decide) (fun hc => ?_) (fun hc => ?_)
        · have h := h.1 hc
          refine G_lv C (lv' := []) [] rfl ?_
          exact J45 _ _ _ h
        · have h := h.2 hc
          refine G_iload_n C (x := x3) 4 dX8_embargo_38 rfl rfl ?_
          refine G_sipush C (v := 999) dX8_embargo_39 (by decide) ?_
          refine G_icmp_le C (tgt := 55) dX8_embargo_42 (by decide) (fun hc => ?_) (fun hc => ?_)
          · have h := h.1 hc
            refine G_aload C (x := r17) 0 dX8_embargo_55 rfl ?_
            refine G_iload_n C (x := x2) 3 dX8_embargo_57 rfl rfl ?_
            refine G_rf1 ha19 ?_
            obtain ⟨hk20, h⟩ := h
            refine G_putI C (CC := RX4) (Tf := TX4) (N := 12) (k := 5) (i := 5) (f := 505) (x := x2) (ty0 := tyX4) (ty := .int) hk20 (by decide) rfl (fin fwX4) tyX4_ok nmX4 (by decide) (im tw_2_103) rfl rfl rfl rfl rfl rfl rfl dX8_embargo_58 ?_
            generalize e22 : sI S16 505 a18 x2 = S21
            have h := h S21 e22.symm
            refine G_aload C (x := r17) 0 dX8_embargo_61 rfl ?_
            refine G_iload_n C (x := x3) 4 dX8_embargo_63 rfl rfl ?_
            refine G_rf1 ha19 ?_
            refine G_putI C (CC := RX4) (Tf := TX4) (N := 12) (k := 5) (i := 6) (f := 506) (x := x3) (ty0 := tyX4) (ty := .int) (ksI e22.symm hk20) (by decide) rfl (fin fwX4) tyX4_ok nmX4 (by decide) (im tw_2_105) rfl rfl rfl rfl rfl rfl rfl dX8_embargo_64 ?_
            generalize e24 : sI S21 506 a18 x3 = S23
            have h := h S23 e24.symm
            refine G_iconst C (v := 0) dX8_embargo_67 (by decide) ?_
            refine G_istore C (i := 5) (lv' := [(5, Value.int 0), (4, va_rf r17), (0, va_rf (some x0)), (1, Value.int x1), (2, Value.int x2), (3, Value.int x3)]) dX8_embargo_68 (by decide) (by first | rfl | simp [va_cat, vi_cat, vl_cat]) ?_
            refine G_iconst C (v := 0) dX8_embargo_70 (by decide) ?_
            refine G_istore C (i := 6) (lv' := [(6, Value.int 0), (5, Value.int 0), (4, va_rf r17), (0, va_rf (some x0)), (1, Value.int x1), (2, Value.int x2), (3, Value.int x3)]) dX8_embargo_71 (by decide) (by first | rfl | simp [va_cat, vi_cat, vl_cat]) ?_
            refine G_lv C (lv' := [(0, va_rf (some x0)), (4, va_rf r17), (5, Value.int 0), (6, Value.int 0)]) [3, 2, 1, 0] rfl ?_
            obtain ⟨n9, h⟩ := h
            exact J73 n9 _ _ _ _ _ _ h
          · have h := h.2 hc
            refine G_lv C (lv' := []) [] rfl ?_
            exact J45 _ _ _ h
set_option maxHeartbeats 4000000 in
set_option maxRecDepth 100000 in
theorem c_X8_thing (l : Launch) (hl : l.stackTraces = false) (D : va_G) (cy : Nat → Nat) (x0 : Nat) (x1 : Int32) (x2 : Int32) (x3 : Int32) (x4 : Int32) (x5 : Int32) (S : PT) (mc ms : Nat) (post : Int32 → PT → Prop) (postX : String → PT → Prop) (h : w_X8_thing x0 x1 x2 x3 x4 x5 S mc ms post postX) : Xi l yX8_thing (Wm yX8_thing prog_1_method_5_code 9 (Option.some Jvm.ClassFile.FieldType.int)) 6 90 D cy [va_rf (some x0), Value.int x1, Value.int x2, Value.int x3, Value.int x4, Value.int x5] S mc ms post postX := by
  refine Xi_of (own := "Trenchboard") (by decide) rfl (by first | decide | simp [lg_sl, va_cat, vi_cat, vl_cat]) (fun p e s m below meth c A C hZ hr hx9 => ?_)
  have J138 : ∀ (n : Nat) (c0 n0 : Nat) (S : PT) (v6 : Option Nat) (v7 : Int32), w_X8_thing_l138 x0 x1 x2 x3 x4 x5 mc ms post postX n c0 n0 S v6 v7 → G p l e { frames := 6, cells := mc, slots := ms, locals := 90 } s m [va_rf (some x0), Value.int x1, Value.int x2, Value.int x3, Value.int x4, Value.int x5].toArray below meth c D cy A s.heap 9 (QXi below D cy A [va_rf (some x0), Value.int x1, Value.int x2, Value.int x3, Value.int x4, Value.int x5] s mc ms post postX) S c0 n0 138 [(0, va_rf (some x0)), (4, Value.int x4), (6, va_rf v6), (7, Value.int v7)] [] := by
    intro n138
    induction n138 with
    | zero => intro c0 n0 S v6 v7 h; rw [w_X8_thing_l138] at h; exact False.elim h
    | succ n138 K138 =>
      have J165 : ∀ (c0 n0 : Nat) (S : PT) (v6 : Option Nat) (v7 : Int32), w_X8_thing_b165 x0 x1 x2 x3 x4 x5 mc ms post postX (w_X8_thing_l138 x0 x1 x2 x3 x4 x5 mc ms post postX n138) c0 n0 S v6 v7 → G p l e { frames := 6, cells := mc, slots := ms, locals := 90 } s m [va_rf (some x0), Value.int x1, Value.int x2, Value.int x3, Value.int x4, Value.int x5].toArray below meth c D cy A s.heap 9 (QXi below D cy A [va_rf (some x0), Value.int x1, Value.int x2, Value.int x3, Value.int x4, Value.int x5] s mc ms post postX) S c0 n0 165 [(0, va_rf (some x0)), (4, Value.int x4), (6, va_rf v6), (7, Value.int v7)] [] := by
        intro c0 n0 S v6 v7 h
        unfold w_X8_thing_b165 at h
        obtain ⟨hc00, hn00, h⟩ := h
        refine G_iinc C (v := (v7 + 1)) (lv' := [(7, Value.int (v7 + 1)), (0, va_rf (some x0)), (4, Value.int x4), (6, va_rf v6)]) 3 dX8_thing_165 rfl rfl (by decide) (by first | rfl | simp [va_cat, vi_cat, vl_cat]) ?_
        refine G_goto C (tgt := 138) dX8_thing_168 (by decide) ?_
        refine G_lv C (lv' := [(0, va_rf (some x0)), (4, Value.int x4), (6, va_rf v6), (7, Value.int (v7 + 1))]) [1, 2, 3, 0] rfl ?_
        exact K138 _ _ _ _ _ h
      intro c0 n0 S v6 v7 h
      rw [w_X8_thing_l138] at h
      obtain ⟨hc00, hn00, h⟩ := h
      refine G_iload C (x := v7) 3 dX8_thing_138 rfl ?_
      refine G_iload C (x := x4) 1 dX8_thing_140 rfl ?_
      refine G_icmp_gt C (tgt := 171) dX8_thing_142 (by decide) (fun hc => ?_) (fun hc => ?_)
      · have h := h.1 hc
        refine G_aload_n C (x := (some x0)) 0 dX8_thing_171 rfl rfl ?_
        obtain ⟨hk1, h⟩ := h
        refine G_get C (CC := RX8) (Tf := TX8) (N := 10) (k := 9) (i := 3) (v := Value.int (gI S 903 x0)) hk1 (by decide) rfl (fin fwX8) (by decide) (im tw_1_102) rfl rfl dX8_thing_172 ?_
        refine G_iconst C (v := 1) dX8_thing_175 (by decide) ?_
        refine G_isub C dX8_thing_176 ?_
        refine G_vx ?_
        exact G_iret C (mc := mc) (ms := ms) (post := post) hr hc00 hn00 dX8_thing_177 h
      · have h := h.2 hc
        refine G_aload C (x := v6) 2 dX8_thing_145 rfl ?_
        refine G_iload C (x := v7) 3 dX8_thing_147 rfl ?_
        obtain ⟨a2, ha3, h⟩ := h
        obtain ⟨hk4, h⟩ := h
        refine G_callVq C hZ (Tf := TX4) (N := 12) hk4 (by decide) rfl tw_1_138 tw_1_139 tw_1_140 tw_1_13 tw_1_141 hy_X4_metreAt ⟨Nat.le_of_ble_eq_true rfl, Nat.le_of_ble_eq_true rfl⟩ (As := [Value.int v7]) (rest := []) (c_X4_metreAt l D cy a2 v7 S _ h) rfl (by first | rfl | (simp only [ha3]; rfl) | simp only [ha3]) (by simp [va_cat, vi_cat, vl_cat]) dX8_thing_149 ⟨hc00, hn00⟩ (fun r6 S5 h => ?_)
        refine G_astore C (i := 8) (lv' := [(8, va_rf r6), (0, va_rf (some x0)), (4, Value.int x4), (6, va_rf v6), (7, Value.int v7)]) dX8_thing_152 (by decide) (by first | rfl | simp [va_cat, vi_cat, vl_cat]) ?_
        refine G_aload C (x := r6) 0 dX8_thing_154 rfl ?_
        refine G_ifnull C (tgt := 165) dX8_thing_156 (by decide) (fun hc => ?_) (fun a7 ha8 => ?_)
        · have h := h.1 hc
          refine G_lv C (lv' := [(0, va_rf (some x0)), (4, Value.int x4), (6, va_rf v6), (7, Value.int v7)]) [1, 2, 3, 4] rfl ?_
          exact J165 _ _ _ _ _ h
        · have h := h.2 a7 ha8
          refine G_aload C (x := r6) 0 dX8_thing_159 rfl ?_
          refine G_iconst C (v := 0) dX8_thing_161 (by decide) ?_
          refine G_rf1 ha8 ?_
          obtain ⟨hk9, h⟩ := h
          refine G_putI C (CC := RX2) (Tf := TX2) (N := 4) (k := 3) (i := 0) (f := 300) (x := 0) (ty0 := tyX2) (ty := .boolean) hk9 (by decide) rfl (fin fwX2) tyX2_ok nmX2 (by decide) (im tw_2_79) rfl rfl rfl (bo_nar bo_0) (bo_fit bo_0) rfl rfl dX8_thing_162 ?_
          generalize e11 : sI S5 300 a7 0 = S10
          have h := h S10 e11.symm
          refine G_lv C (lv' := [(0, va_rf (some x0)), (4, Value.int x4), (6, va_rf v6), (7, Value.int v7)]) [1, 2, 3, 4] rfl ?_
          exact J165 _ _ _ _ _ h
  have J69 : ∀ (c0 n0 : Nat) (S : PT), w_X8_thing_b69 x0 x1 x2 x3 x4 x5 mc ms post postX c0 n0 S → G p l e { frames := 6, cells := mc, slots := ms, locals := 90 } s m [va_rf (some x0), Value.int x1, Value.int x2, Value.int x3, Value.int x4, Value.int x5].toArray below meth c D cy A s.heap 9 (QXi below D cy A [va_rf (some x0), Value.int x1, Value.int x2, Value.int x3, Value.int x4, Value.int x5] s mc ms post postX) S c0 n0 69 [] [] := by
    intro c0 n0 S h
    unfold w_X8_thing_b69 at h
    obtain ⟨hc00, hn00, h⟩ := h
    obtain ⟨hq1, hq2, h⟩ := h
    exact G_throw C hZ hl hx9 (cls := "java/lang/IllegalArgumentException") (text := "metres the wrong way round, or depth out of range") (ik := 59) (is := 141) (ic := 63) rfl (by decide) tw_1_210 tw_1_11 (List.mem_of_getElem? (i := 7) rfl) (at_IAE C.2.2.2.2.1 C.2.2.2.2.2.1) at_IAE_o dX8_thing_69 dX8_thing_72 dX8_thing_73 dX8_thing_75 dX8_thing_78 (Nat.le_of_ble_eq_true rfl) (by simp [va_cat, vi_cat, vl_cat]) hq1 hq2 (Nat.le_refl _) (Nat.le_refl _) h
  have J38 : ∀ (c0 n0 : Nat) (S : PT), w_X8_thing_b38 x0 x1 x2 x3 x4 x5 mc ms post postX c0 n0 S → G p l e { frames := 6, cells := mc, slots := ms, locals := 90 } s m [va_rf (some x0), Value.int x1, Value.int x2, Value.int x3, Value.int x4, Value.int x5].toArray below meth c D cy A s.heap 9 (QXi below D cy A [va_rf (some x0), Value.int x1, Value.int x2, Value.int x3, Value.int x4, Value.int x5] s mc ms post postX) S c0 n0 38 [] [] := by
    intro c0 n0 S h
    unfold w_X8_thing_b38 at h
    obtain ⟨hc00, hn00, h⟩ := h
    obtain ⟨hq1, hq2, h⟩ := h
    exact G_throw C hZ hl hx9 (cls := "java/lang/IndexOutOfBoundsException") (text := "no such promoter, street or metre") (ik := 52) (is := 139) (ic := 56) rfl (by decide) tw_1_142 tw_1_10 (List.mem_of_getElem? (i := 6) rfl) (at_IOOBE C.2.2.2.2.1 C.2.2.2.2.2.1) at_IOOBE_o dX8_thing_38 dX8_thing_41 dX8_thing_42 dX8_thing_44 dX8_thing_47 (Nat.le_of_ble_eq_true rfl) (by simp [va_cat, vi_cat, vl_cat]) hq1 hq2 (Nat.le_refl _) (Nat.le_refl _) h
  refine G_lv C (lv' := [(0, va_rf (some x0)), (1, Value.int x1), (2, Value.int x2), (3, Value.int x3), (4, Value.int x4), (5, Value.int x5)]) [0, 1, 2, 3, 4, 5] (by first | rfl | simp [lv_pick, lv_args, va_cat, vi_cat, vl_cat]) ?_
  unfold w_X8_thing at h
  refine G_aload_n C (x := (some x0)) 0 dX8_thing_0 rfl rfl ?_
  refine G_iload_n C (x := x2) 2 dX8_thing_1 rfl rfl ?_
  obtain ⟨hk12, h⟩ := h
  refine G_callVq C hZ (Tf := TX8) (N := 10) hk12 (by decide) rfl tw_1_134 tw_1_136 tw_0_0 tw_1_1 tw_1_137 hy_X8_streetAt ⟨Nat.le_of_ble_eq_true rfl, Nat.le_of_ble_eq_true rfl⟩ (As := [Value.int x2]) (rest := []) (c_X8_streetAt l D cy x0 x2 S _ h) rfl rfl (by simp [va_cat, vi_cat, vl_cat]) dX8_thing_2 ⟨(Nat.zero_le _), (Nat.zero_le _)⟩ (fun r14 S13 h => ?_)
  refine G_astore C (i := 6) (lv' := [(6, va_rf r14), (0, va_rf (some x0)), (1, Value.int x1), (2, Value.int x2), (3, Value.int x3), (4, Value.int x4), (5, Value.int x5)]) dX8_thing_5 (by decide) (by first | rfl | simp [va_cat, vi_cat, vl_cat]) ?_
  refine G_iload_n C (x := x1) 2 dX8_thing_7 rfl rfl ?_
  refine G_callSi C hZ tw_3_11 tw_3_12 tw_1_1 tw_3_13 hy_X8_isPromoter ⟨Nat.le_of_ble_eq_true rfl, Nat.le_of_ble_eq_true rfl⟩ (As := [Value.int x1]) (rest := []) (c_X8_isPromoter l D cy x1 S13 _ h) rfl rfl (by simp [va_cat, vi_cat, vl_cat]) dX8_thing_8 ⟨(Nat.zero_le _), (Nat.zero_le _)⟩ (fun r16 S15 h => ?_)
  obtain ⟨hb17, h⟩ := h
  refine G_if_eq C (tgt := 38) dX8_thing_11 (by decide) (fun hc => ?_) (fun hc => ?_)
  · have h := h.1 hc
    refine G_lv C (lv' := []) [] rfl ?_
    exact J38 _ _ _ h
  · have h := h.2 hc
    refine G_aload C (x := r14) 0 dX8_thing_14 rfl ?_
    refine G_ifnull C (tgt := 38) dX8_thing_16 (by decide) (fun hc => ?_) (fun a18 ha19 => ?_)
    · have h := h.1 hc
      refine G_lv C (lv' := []) [] rfl ?_
      exact J38 _ _ _ h
    · have h := h.2 a18 ha19
      refine G_aload C (x := r14) 0 dX8_thing_19 rfl ?_
      refine G_iload_n C (x := x3) 4 dX8_thing_21 rfl rfl ?_
      obtain ⟨hk20, h⟩ := h
      refine G_callVq C hZ (Tf := TX4) (N := 12) hk20 (by decide) rfl tw_1_138 tw_1_139 tw_1_140 tw_1_13 tw_1_141 hy_X4_metreAt ⟨Nat.le_of_ble_eq_true rfl, Nat.le_of_ble_eq_true rfl⟩ (As := [Value.int x3]) (rest := []) (c_X4_metreAt l D cy a18 x3 S15 _ h) rfl (by first | rfl | (simp only [ha19]; rfl) | simp only [ha19]) (by simp [va_cat, vi_cat, vl_cat]) dX8_thing_22 ⟨(Nat.zero_le _), (Nat.zero_le _)⟩ (fun r22 S21 h => ?_)
      refine G_ifnull C (tgt := 38) dX8_thing_25 (by decide) (fun hc => ?_) (fun a23 ha24 => ?_)
      · have h := h.1 hc
        refine G_lv C (lv' := []) [] rfl ?_
        exact J38 _ _ _ h
      · have h := h.2 a23 ha24
        refine G_aload C (x := r14) 0 dX8_thing_28 rfl ?_
        refine G_iload C (x := x4) 5 dX8_thing_30 rfl ?_
        obtain ⟨hk25, h⟩ := h
        refine G_callVq C hZ (Tf := TX4) (N := 12) hk25 (by decide) rfl tw_1_138 tw_1_139 tw_1_140 tw_1_13 tw_1_141 hy_X4_metreAt ⟨Nat.le_of_ble_eq_true rfl, Nat.le_of_ble_eq_true rfl⟩ (As := [Value.int x4]) (rest := []) (c_X4_metreAt l D cy a18 x4 S21 _ h) rfl (by first | rfl | (simp only [ha19]; rfl) | simp only [ha19]) (by simp [va_cat, vi_cat, vl_cat]) dX8_thing_32 ⟨(Nat.zero_le _), (Nat.zero_le _)⟩ (fun r27 S26 h => ?_)
        refine G_ifnonnull C (tgt := 48) dX8_thing_35 (by decide) (fun hc => ?_) (fun a28 ha29 => ?_)
        · have h := h.1 hc
          refine G_lv C (lv' := []) [] rfl ?_
          exact J38 _ _ _ h
        · have h := h.2 a28 ha29
          refine G_iload C (x := x4) 5 dX8_thing_48 rfl ?_
          refine G_iload_n C (x := x3) 4 dX8_thing_50 rfl rfl ?_
          refine G_icmp_lt C (tgt := 69) dX8_thing_51 (by decide) (fun hc => ?_) (fun hc => ?_)
          · have h := h.1 hc
            refine G_lv C (lv' := []) [] rfl ?_
            exact J69 _ _ _ h
          · have h := h.2 hc
            refine G_iload C (x := x5) 6 dX8_thing_54 rfl ?_
            refine G_bipush C (v := 10) dX8_thing_56 (by decide) ?_
            refine G_icmp_lt C (tgt := 69) dX8_thing_58 (by decide) (fun hc => ?_) (fun hc => ?_)
            · have h := h.1 hc
              refine G_lv C (lv' := []) [] rfl ?_
              exact J69 _ _ _ h
            · have h := h.2 hc
              refine G_iload C (x := x5) 6 dX8_thing_61 rfl ?_
              refine G_sipush C (v := 300) dX8_thing_63 (by decide) ?_
              refine G_icmp_le C (tgt := 79) dX8_thing_66 (by decide) (fun hc => ?_) (fun hc => ?_)
              · have h := h.1 hc
                refine G_aload_n C (x := (some x0)) 1 dX8_thing_79 rfl rfl ?_
                obtain ⟨hk30, h⟩ := h
                refine G_get C (CC := RX8) (Tf := TX8) (N := 10) (k := 9) (i := 3) (v := Value.int (gI S26 903 x0)) hk30 (by decide) rfl (fin fwX8) (by decide) (im tw_1_102) rfl rfl dX8_thing_80 ?_
                refine G_aload_n C (x := (some x0)) 1 dX8_thing_83 rfl rfl ?_
                refine G_get C (CC := RX8) (Tf := TX8) (N := 10) (k := 9) (i := 2) (v := va_rf (gP S26 902 x0)) hk30 (by decide) rfl (fin fwX8) (by decide) (im tw_1_101) rfl rfl dX8_thing_84 ?_
                obtain ⟨a31, ha32, h⟩ := h
                refine G_rf ha32 ?_
                obtain ⟨hk33, h⟩ := h
                refine G_alen C hk33 (by decide) rfl dX8_thing_87 ?_
                refine G_icmp_lt C (tgt := 101) dX8_thing_88 (by decide) (fun hc => ?_) (fun hc => ?_)
                · have h := h.1 hc
                  refine G_aload_n C (x := (some x0)) 1 dX8_thing_101 rfl rfl ?_
                  refine G_get C (CC := RX8) (Tf := TX8) (N := 10) (k := 9) (i := 2) (v := va_rf (gP S26 902 x0)) hk30 (by decide) rfl (fin fwX8) (by decide) (im tw_1_101) rfl rfl dX8_thing_102 ?_
                  refine G_aload_n C (x := (some x0)) 1 dX8_thing_105 rfl rfl ?_
                  refine G_get C (CC := RX8) (Tf := TX8) (N := 10) (k := 9) (i := 3) (v := Value.int (gI S26 903 x0)) hk30 (by decide) rfl (fin fwX8) (by decide) (im tw_1_102) rfl rfl dX8_thing_106 ?_
                  obtain ⟨hc38, hs39, h⟩ := h
                  refine G_new C (CC := RX6) (Tf := TX6) (N := 8) (k := 7) (fs := [Value.int 0, Value.null, Value.int 0, Value.int 0, Value.int 0, Value.int 0, Value.int 0, Value.int 0]) (by decide) rfl (fin fwX6) tyX6_ok (im tw_1_35) (im tw_3_17) (im tw_1_20) rfl dv_X6 hc38 hs39 dX8_thing_109 (fun q34 hq37 => ?_)
                  generalize e36 : nO S26 q34 7 = S35
                  have h := h q34 S35 hq37 e36.symm
                  refine G_dup C dX8_thing_112 (va_cat _) ?_
                  refine G_iload_n C (x := x1) 2 dX8_thing_113 rfl rfl ?_
                  refine G_aload C (x := r14) 0 dX8_thing_114 rfl ?_
                  refine G_iload_n C (x := x3) 4 dX8_thing_116 rfl rfl ?_
                  refine G_iload C (x := x4) 5 dX8_thing_117 rfl ?_
                  refine G_iload C (x := x5) 6 dX8_thing_119 rfl ?_
                  refine G_callIv C hZ tw_3_18 tw_3_19 tw_1_20 rfl tw_3_20 hy_X6_init ⟨Nat.le_of_ble_eq_true rfl, Nat.le_of_ble_eq_true rfl⟩ (As := [Value.int x1, va_rf r14, Value.int x3, Value.int x4, Value.int x5]) (rest := [va_rf (some q34), Value.int (gI S26 903 x0), va_rf (gP S26 902 x0)]) (c_X6_init l D cy q34 x1 r14 x3 x4 x5 S35 _ h) rfl rfl (by simp [va_cat, vi_cat, vl_cat]) dX8_thing_121 ⟨hc38, hs39⟩ (fun S40 h => ?_)
                  refine G_rf2 ha32 ?_
                  obtain ⟨hk42, h⟩ := h
                  obtain ⟨hk43, h⟩ := h
                  obtain ⟨hi44, h⟩ := h
                  refine G_aast C (E := RX6) (Tf := TX6) (N := 8) hk42 (by decide) rfl hk43 (by decide) rfl hi44 dX8_thing_124 ?_
                  generalize e46 : sR S40 a31 (((gI S26 903 x0)).toNatClampNeg) (some q34) = S45
                  have h := h S45 e46.symm
                  refine G_aload_n C (x := (some x0)) 1 dX8_thing_125 rfl rfl ?_
                  refine G_dup C dX8_thing_126 (va_cat _) ?_
                  obtain ⟨hk47, h⟩ := h
                  refine G_get C (CC := RX8) (Tf := TX8) (N := 10) (k := 9) (i := 3) (v := Value.int (gI S45 903 x0)) hk47 (by decide) rfl (fin fwX8) (by decide) (im tw_1_102) rfl rfl dX8_thing_127 ?_
                  refine G_iconst C (v := 1) dX8_thing_130 (by decide) ?_
                  refine G_iadd C dX8_thing_131 ?_
                  refine G_putI C (CC := RX8) (Tf := TX8) (N := 10) (k := 9) (i := 3) (f := 903) (x := ((gI S45 903 x0) + 1)) (ty0 := tyX8) (ty := .int) hk47 (by decide) rfl (fin fwX8) tyX8_ok nmX8 (by decide) (im tw_1_102) rfl rfl rfl rfl rfl rfl rfl dX8_thing_132 ?_
                  generalize e49 : sI S45 903 x0 ((gI S45 903 x0) + 1) = S48
                  have h := h S48 e49.symm
                  refine G_iload_n C (x := x3) 4 dX8_thing_135 rfl rfl ?_
                  refine G_istore C (i := 7) (lv' := [(7, Value.int x3), (6, va_rf r14), (0, va_rf (some x0)), (1, Value.int x1), (2, Value.int x2), (3, Value.int x3), (4, Value.int x4), (5, Value.int x5)]) dX8_thing_136 (by decide) (by first | rfl | simp [va_cat, vi_cat, vl_cat]) ?_
                  refine G_lv C (lv' := [(0, va_rf (some x0)), (4, Value.int x4), (6, va_rf r14), (7, Value.int x3)]) [2, 6, 1, 0] rfl ?_
                  obtain ⟨n9, h⟩ := h
                  exact J138 n9 _ _ _ _ _ h
                · have h := h.2 hc
                  obtain ⟨hq1, hq2, h⟩ := h
                  exact G_throw C hZ hl hx9 (cls := "java/lang/IllegalStateException") (text := "no more things") (ik := 68) (is := 146) (ic := 72) rfl (by decide) tw_2_47 tw_1_12 (List.mem_of_getElem? (i := 8) rfl) (at_ISE C.2.2.2.2.1 C.2.2.2.2.2.1) at_ISE_o dX8_thing_91 dX8_thing_94 dX8_thing_95 dX8_thing_97 dX8_thing_100 (Nat.le_of_ble_eq_true rfl) (by simp [va_cat, vi_cat, vl_cat]) hq1 hq2 (Nat.le_refl _) (Nat.le_refl _) h
              · have h := h.2 hc
                refine G_lv C (lv' := []) [] rfl ?_
                exact J69 _ _ _ h
set_option maxHeartbeats 4000000 in
set_option maxRecDepth 100000 in
theorem c_X8_record (l : Launch) (hl : l.stackTraces = false) (D : va_G) (cy : Nat → Nat) (x0 : Nat) (x1 : Int32) (x2 : Int32) (x3 : Int32) (x4 : Int32) (S : PT) (mc ms : Nat) (post : Int32 → PT → Prop) (postX : String → PT → Prop) (h : w_X8_record x0 x1 x2 x3 x4 S mc ms post postX) : Xi l yX8_record (Wm yX8_record prog_1_method_6_code 6 (Option.some Jvm.ClassFile.FieldType.int)) 6 90 D cy [va_rf (some x0), Value.int x1, Value.int x2, Value.int x3, Value.int x4] S mc ms post postX := by
  refine Xi_of (own := "Trenchboard") (by decide) rfl (by first | decide | simp [lg_sl, va_cat, vi_cat, vl_cat]) (fun p e s m below meth c A C hZ hr hx9 => ?_)
  have J62 : ∀ (c0 n0 : Nat) (S : PT), w_X8_record_b62 x0 x1 x2 x3 x4 mc ms post postX c0 n0 S → G p l e { frames := 6, cells := mc, slots := ms, locals := 90 } s m [va_rf (some x0), Value.int x1, Value.int x2, Value.int x3, Value.int x4].toArray below meth c D cy A s.heap 6 (QXi below D cy A [va_rf (some x0), Value.int x1, Value.int x2, Value.int x3, Value.int x4] s mc ms post postX) S c0 n0 62 [] [] := by
    intro c0 n0 S h
    unfold w_X8_record_b62 at h
    obtain ⟨hc00, hn00, h⟩ := h
    obtain ⟨hq1, hq2, h⟩ := h
    exact G_throw C hZ hl hx9 (cls := "java/lang/IllegalArgumentException") (text := "metres the wrong way round, or off out of range") (ik := 59) (is := 164) (ic := 63) rfl (by decide) tw_1_210 tw_1_11 (List.mem_of_getElem? (i := 10) rfl) (at_IAE C.2.2.2.2.1 C.2.2.2.2.2.1) at_IAE_o dX8_record_62 dX8_record_65 dX8_record_66 dX8_record_68 dX8_record_71 (Nat.le_of_ble_eq_true rfl) (by simp [va_cat, vi_cat, vl_cat]) hq1 hq2 (Nat.le_refl _) (Nat.le_refl _) h
  have J36 : ∀ (c0 n0 : Nat) (S : PT), w_X8_record_b36 x0 x1 x2 x3 x4 mc ms post postX c0 n0 S → G p l e { frames := 6, cells := mc, slots := ms, locals := 90 } s m [va_rf (some x0), Value.int x1, Value.int x2, Value.int x3, Value.int x4].toArray below meth c D cy A s.heap 6 (QXi below D cy A [va_rf (some x0), Value.int x1, Value.int x2, Value.int x3, Value.int x4] s mc ms post postX) S c0 n0 36 [] [] := by
    intro c0 n0 S h
    unfold w_X8_record_b36 at h
    obtain ⟨hc00, hn00, h⟩ := h
    obtain ⟨hq1, hq2, h⟩ := h
    exact G_throw C hZ hl hx9 (cls := "java/lang/IndexOutOfBoundsException") (text := "no such thing or metre") (ik := 52) (is := 162) (ic := 56) rfl (by decide) tw_1_142 tw_1_10 (List.mem_of_getElem? (i := 9) rfl) (at_IOOBE C.2.2.2.2.1 C.2.2.2.2.2.1) at_IOOBE_o dX8_record_36 dX8_record_39 dX8_record_40 dX8_record_42 dX8_record_45 (Nat.le_of_ble_eq_true rfl) (by simp [va_cat, vi_cat, vl_cat]) hq1 hq2 (Nat.le_refl _) (Nat.le_refl _) h
  refine G_lv C (lv' := [(0, va_rf (some x0)), (1, Value.int x1), (2, Value.int x2), (3, Value.int x3), (4, Value.int x4)]) [0, 1, 2, 3, 4] (by first | rfl | simp [lv_pick, lv_args, va_cat, vi_cat, vl_cat]) ?_
  unfold w_X8_record at h
  refine G_aload_n C (x := (some x0)) 0 dX8_record_0 rfl rfl ?_
  refine G_iload_n C (x := x1) 1 dX8_record_1 rfl rfl ?_
  obtain ⟨hk1, h⟩ := h
  refine G_callVq C hZ (Tf := TX8) (N := 10) hk1 (by decide) rfl tw_3_59 tw_3_61 tw_0_11 tw_1_1 tw_3_62 hy_X8_thingAt ⟨Nat.le_of_ble_eq_true rfl, Nat.le_of_ble_eq_true rfl⟩ (As := [Value.int x1]) (rest := []) (c_X8_thingAt l D cy x0 x1 S _ h) rfl rfl (by simp [va_cat, vi_cat, vl_cat]) dX8_record_2 ⟨(Nat.zero_le _), (Nat.zero_le _)⟩ (fun r3 S2 h => ?_)
  refine G_astore C (i := 5) (lv' := [(5, va_rf r3), (0, va_rf (some x0)), (1, Value.int x1), (2, Value.int x2), (3, Value.int x3), (4, Value.int x4)]) dX8_record_5 (by decide) (by first | rfl | simp [va_cat, vi_cat, vl_cat]) ?_
  refine G_aload C (x := r3) 0 dX8_record_7 rfl ?_
  refine G_ifnull C (tgt := 36) dX8_record_9 (by decide) (fun hc => ?_) (fun a4 ha5 => ?_)
  · have h := h.1 hc
    refine G_lv C (lv' := []) [] rfl ?_
    exact J36 _ _ _ h
  · have h := h.2 a4 ha5
    refine G_aload C (x := r3) 0 dX8_record_12 rfl ?_
    refine G_rf ha5 ?_
    obtain ⟨hk6, h⟩ := h
    refine G_get C (CC := RX6) (Tf := TX6) (N := 8) (k := 7) (i := 1) (v := va_rf (gP S2 701 a4)) hk6 (by decide) rfl (fin fwX6) (by decide) (im tw_3_25) rfl rfl dX8_record_14 ?_
    refine G_iload_n C (x := x2) 3 dX8_record_17 rfl rfl ?_
    obtain ⟨a7, ha8, h⟩ := h
    obtain ⟨hk9, h⟩ := h
    refine G_callVq C hZ (Tf := TX4) (N := 12) hk9 (by decide) rfl tw_1_138 tw_1_139 tw_1_140 tw_1_13 tw_1_141 hy_X4_metreAt ⟨Nat.le_of_ble_eq_true rfl, Nat.le_of_ble_eq_true rfl⟩ (As := [Value.int x2]) (rest := []) (c_X4_metreAt l D cy a7 x2 S2 _ h) rfl (by first | rfl | (simp only [ha8]; rfl) | simp only [ha8]) (by simp [va_cat, vi_cat, vl_cat]) dX8_record_18 ⟨(Nat.zero_le _), (Nat.zero_le _)⟩ (fun r11 S10 h => ?_)
    refine G_ifnull C (tgt := 36) dX8_record_21 (by decide) (fun hc => ?_) (fun a12 ha13 => ?_)
    · have h := h.1 hc
      refine G_lv C (lv' := []) [] rfl ?_
      exact J36 _ _ _ h
    · have h := h.2 a12 ha13
      refine G_aload C (x := r3) 0 dX8_record_24 rfl ?_
      refine G_rf ha5 ?_
      obtain ⟨hk14, h⟩ := h
      refine G_get C (CC := RX6) (Tf := TX6) (N := 8) (k := 7) (i := 1) (v := va_rf (gP S10 701 a4)) hk14 (by decide) rfl (fin fwX6) (by decide) (im tw_3_25) rfl rfl dX8_record_26 ?_
      refine G_iload_n C (x := x3) 4 dX8_record_29 rfl rfl ?_
      obtain ⟨a15, ha16, h⟩ := h
      obtain ⟨hk17, h⟩ := h
      refine G_callVq C hZ (Tf := TX4) (N := 12) hk17 (by decide) rfl tw_1_138 tw_1_139 tw_1_140 tw_1_13 tw_1_141 hy_X4_metreAt ⟨Nat.le_of_ble_eq_true rfl, Nat.le_of_ble_eq_true rfl⟩ (As := [Value.int x3]) (rest := []) (c_X4_metreAt l D cy a15 x3 S10 _ h) rfl (by first | rfl | (simp only [ha16]; rfl) | simp only [ha16]) (by simp [va_cat, vi_cat, vl_cat]) dX8_record_30 ⟨(Nat.zero_le _), (Nat.zero_le _)⟩ (fun r19 S18 h => ?_)
      refine G_ifnonnull C (tgt := 46) dX8_record_33 (by decide) (fun hc => ?_) (fun a20 ha21 => ?_)
      · have h := h.1 hc
        refine G_lv C (lv' := []) [] rfl ?_
        exact J36 _ _ _ h
      · have h := h.2 a20 ha21
        refine G_iload_n C (x := x3) 4 dX8_record_46 rfl rfl ?_
        refine G_iload_n C (x := x2) 3 dX8_record_47 rfl rfl ?_
        refine G_icmp_lt C (tgt := 62) dX8_record_48 (by decide) (fun hc => ?_) (fun hc => ?_)
        · have h := h.1 hc
          refine G_lv C (lv' := []) [] rfl ?_
          exact J62 _ _ _ h
        · have h := h.2 hc
          refine G_iload C (x := x4) 5 dX8_record_51 rfl ?_
          refine G_if_lt C (tgt := 62) dX8_record_53 (by decide) (fun hc => ?_) (fun hc => ?_)
          · have h := h.1 hc
            refine G_lv C (lv' := []) [] rfl ?_
            exact J62 _ _ _ h
          · have h := h.2 hc
            refine G_iload C (x := x4) 5 dX8_record_56 rfl ?_
            refine G_iconst C (v := 3) dX8_record_58 (by decide) ?_
            refine G_icmp_le C (tgt := 72) dX8_record_59 (by decide) (fun hc => ?_) (fun hc => ?_)
            · have h := h.1 hc
              refine G_aload C (x := r3) 0 dX8_record_72 rfl ?_
              refine G_iload_n C (x := x2) 3 dX8_record_74 rfl rfl ?_
              refine G_iload_n C (x := x3) 4 dX8_record_75 rfl rfl ?_
              refine G_iload C (x := x4) 5 dX8_record_76 rfl ?_
              obtain ⟨hk22, h⟩ := h
              refine G_callVv C hZ (Tf := TX6) (N := 8) hk22 (by decide) rfl tw_3_65 tw_3_66 tw_3_67 tw_1_20 tw_3_68 hy_X6_putRecord ⟨Nat.le_of_ble_eq_true rfl, Nat.le_of_ble_eq_true rfl⟩ (As := [Value.int x2, Value.int x3, Value.int x4]) (rest := []) (c_X6_putRecord l D cy a4 x2 x3 x4 S18 _ h) rfl (by first | rfl | (simp only [ha5]; rfl) | simp only [ha5]) (by simp [va_cat, vi_cat, vl_cat]) dX8_record_78 ⟨(Nat.zero_le _), (Nat.zero_le _)⟩ (fun S23 h => ?_)
              refine G_aload C (x := r3) 0 dX8_record_81 rfl ?_
              obtain ⟨hk25, h⟩ := h
              refine G_callVi C hZ (Tf := TX6) (N := 8) hk25 (by decide) rfl tw_3_71 tw_3_72 tw_3_73 tw_1_20 tw_3_74 hy_X6_suspectMetres ⟨Nat.le_of_ble_eq_true rfl, Nat.le_of_ble_eq_true rfl⟩ (As := []) (rest := []) (c_X6_suspectMetres l D cy a4 S23 _ h) rfl (by first | rfl | (simp only [ha5]; rfl) | simp only [ha5]) (by simp [va_cat, vi_cat, vl_cat]) dX8_record_83 ⟨(Nat.zero_le _), (Nat.zero_le _)⟩ (fun r27 S26 h => ?_)
              refine G_vx ?_
              exact G_iret C (mc := mc) (ms := ms) (post := post) hr (Nat.zero_le _) (Nat.zero_le _) dX8_record_86 h
            · have h := h.2 hc
              refine G_lv C (lv' := []) [] rfl ?_
              exact J62 _ _ _ h
set_option maxHeartbeats 4000000 in
set_option maxRecDepth 100000 in
theorem c_X8_lose (l : Launch) (hl : l.stackTraces = false) (D : va_G) (cy : Nat → Nat) (x0 : Nat) (x1 : Int32) (S : PT) (mc ms : Nat) (post : Int32 → PT → Prop) (postX : String → PT → Prop) (h : w_X8_lose x0 x1 S mc ms post postX) : Xi l yX8_lose (Wm yX8_lose prog_1_method_7_code 4 (Option.some Jvm.ClassFile.FieldType.boolean)) 6 90 D cy [va_rf (some x0), Value.int x1] S mc ms (fun r S => bo r ∧ post r S) postX := by
  refine Xi_of (own := "Trenchboard") (by decide) rfl (by first | decide | simp [lg_sl, va_cat, vi_cat, vl_cat]) (fun p e s m below meth c A C hZ hr hx9 => ?_)
  refine G_lv C (lv' := [(0, va_rf (some x0)), (1, Value.int x1)]) [0, 1] (by first | rfl | simp [lv_pick, lv_args, va_cat, vi_cat, vl_cat]) ?_
  unfold w_X8_lose at h
  refine G_aload_n C (x := (some x0)) 0 dX8_lose_0 rfl rfl ?_
  refine G_iload_n C (x := x1) 1 dX8_lose_1 rfl rfl ?_
  obtain ⟨hk1, h⟩ := h
  refine G_callVq C hZ (Tf := TX8) (N := 10) hk1 (by decide) rfl tw_3_59 tw_3_61 tw_0_11 tw_1_1 tw_3_62 hy_X8_thingAt ⟨Nat.le_of_ble_eq_true rfl, Nat.le_of_ble_eq_true rfl⟩ (As := [Value.int x1]) (rest := []) (c_X8_thingAt l D cy x0 x1 S _ h) rfl rfl (by simp [va_cat, vi_cat, vl_cat]) dX8_lose_2 ⟨(Nat.zero_le _), (Nat.zero_le _)⟩ (fun r3 S2 h => ?_)
  refine G_astore_n C (i := 2) (lv' := [(2, va_rf r3), (0, va_rf (some x0)), (1, Value.int x1)]) dX8_lose_5 rfl (by decide) (by first | rfl | simp [va_cat, vi_cat, vl_cat]) ?_
  refine G_aload_n C (x := r3) 0 dX8_lose_6 rfl rfl ?_
  refine G_ifnonnull C (tgt := 20) dX8_lose_7 (by decide) (fun hc => ?_) (fun a4 ha5 => ?_)
  · have h := h.1 hc
    obtain ⟨hq1, hq2, h⟩ := h
    exact G_throw C hZ hl hx9 (cls := "java/lang/IndexOutOfBoundsException") (text := "no such thing") (ik := 52) (is := 173) (ic := 56) rfl (by decide) tw_1_142 tw_1_10 (List.mem_of_getElem? (i := 11) rfl) (at_IOOBE C.2.2.2.2.1 C.2.2.2.2.2.1) at_IOOBE_o dX8_lose_10 dX8_lose_13 dX8_lose_14 dX8_lose_16 dX8_lose_19 (Nat.le_of_ble_eq_true rfl) (by simp [va_cat, vi_cat, vl_cat]) hq1 hq2 (Nat.le_refl _) (Nat.le_refl _) h
  · have h := h.2 a4 ha5
    refine G_aload_n C (x := r3) 0 dX8_lose_20 rfl rfl ?_
    refine G_rf ha5 ?_
    obtain ⟨hk6, h⟩ := h
    refine G_get C (CC := RX6) (Tf := TX6) (N := 8) (k := 7) (i := 5) (v := Value.int (gI S2 705 a4)) hk6 (by decide) rfl (fin fwX6) (by decide) (im tw_3_33) rfl rfl dX8_lose_21 ?_
    refine G_istore_n C (i := 3) (lv' := [(3, Value.int (gI S2 705 a4)), (2, va_rf r3), (0, va_rf (some x0)), (1, Value.int x1)]) dX8_lose_24 rfl (by decide) (by first | rfl | simp [va_cat, vi_cat, vl_cat]) ?_
    refine G_aload_n C (x := r3) 1 dX8_lose_25 rfl rfl ?_
    refine G_iconst C (v := 0) dX8_lose_26 (by decide) ?_
    refine G_rf1 ha5 ?_
    refine G_putI C (CC := RX6) (Tf := TX6) (N := 8) (k := 7) (i := 5) (f := 705) (x := 0) (ty0 := tyX6) (ty := .boolean) hk6 (by decide) rfl (fin fwX6) tyX6_ok nmX6 (by decide) (im tw_3_33) rfl rfl rfl (bo_nar bo_0) (bo_fit bo_0) rfl rfl dX8_lose_27 ?_
    generalize e8 : sI S2 705 a4 0 = S7
    have h := h S7 e8.symm
    refine G_iload_n C (x := (gI S2 705 a4)) 0 dX8_lose_30 rfl rfl ?_
    obtain ⟨hb9, h⟩ := h
    refine G_vx ?_
    exact G_zret C (mc := mc) (ms := ms) (post := (fun r S => bo r ∧ post r S)) (bo_nar hb9) hr (Nat.zero_le _) (Nat.zero_le _) dX8_lose_31 ⟨hb9, h⟩
set_option maxHeartbeats 4000000 in
set_option maxRecDepth 100000 in
theorem c_X8_survey (l : Launch) (hl : l.stackTraces = false) (D : va_G) (cy : Nat → Nat) (x0 : Nat) (x1 : Int32) (S : PT) (mc ms : Nat) (post : Int32 → PT → Prop) (postX : String → PT → Prop) (h : w_X8_survey x0 x1 S mc ms post postX) : Xi l yX8_survey (Wm yX8_survey prog_1_method_8_code 4 (Option.some Jvm.ClassFile.FieldType.int)) 6 90 D cy [va_rf (some x0), Value.int x1] S mc ms post postX := by
  refine Xi_of (own := "Trenchboard") (by decide) rfl (by first | decide | simp [lg_sl, va_cat, vi_cat, vl_cat]) (fun p e s m below meth c A C hZ hr hx9 => ?_)
  refine G_lv C (lv' := [(0, va_rf (some x0)), (1, Value.int x1)]) [0, 1] (by first | rfl | simp [lv_pick, lv_args, va_cat, vi_cat, vl_cat]) ?_
  unfold w_X8_survey at h
  refine G_aload_n C (x := (some x0)) 0 dX8_survey_0 rfl rfl ?_
  refine G_iload_n C (x := x1) 1 dX8_survey_1 rfl rfl ?_
  obtain ⟨hk1, h⟩ := h
  refine G_callVq C hZ (Tf := TX8) (N := 10) hk1 (by decide) rfl tw_3_59 tw_3_61 tw_0_11 tw_1_1 tw_3_62 hy_X8_thingAt ⟨Nat.le_of_ble_eq_true rfl, Nat.le_of_ble_eq_true rfl⟩ (As := [Value.int x1]) (rest := []) (c_X8_thingAt l D cy x0 x1 S _ h) rfl rfl (by simp [va_cat, vi_cat, vl_cat]) dX8_survey_2 ⟨(Nat.zero_le _), (Nat.zero_le _)⟩ (fun r3 S2 h => ?_)
  refine G_astore_n C (i := 2) (lv' := [(2, va_rf r3), (0, va_rf (some x0)), (1, Value.int x1)]) dX8_survey_5 rfl (by decide) (by first | rfl | simp [va_cat, vi_cat, vl_cat]) ?_
  refine G_aload_n C (x := r3) 0 dX8_survey_6 rfl rfl ?_
  refine G_ifnonnull C (tgt := 20) dX8_survey_7 (by decide) (fun hc => ?_) (fun a4 ha5 => ?_)
  · have h := h.1 hc
    obtain ⟨hq1, hq2, h⟩ := h
    exact G_throw C hZ hl hx9 (cls := "java/lang/IndexOutOfBoundsException") (text := "no such thing") (ik := 52) (is := 173) (ic := 56) rfl (by decide) tw_1_142 tw_1_10 (List.mem_of_getElem? (i := 11) rfl) (at_IOOBE C.2.2.2.2.1 C.2.2.2.2.2.1) at_IOOBE_o dX8_survey_10 dX8_survey_13 dX8_survey_14 dX8_survey_16 dX8_survey_19 (Nat.le_of_ble_eq_true rfl) (by simp [va_cat, vi_cat, vl_cat]) hq1 hq2 (Nat.le_refl _) (Nat.le_refl _) h
  · have h := h.2 a4 ha5
    refine G_aload_n C (x := r3) 0 dX8_survey_20 rfl rfl ?_
    obtain ⟨hk6, h⟩ := h
    refine G_callVi C hZ (Tf := TX6) (N := 8) hk6 (by decide) rfl tw_3_84 tw_3_85 tw_3_86 tw_1_20 tw_3_87 hy_X6_liesInSureMetre ⟨Nat.le_of_ble_eq_true rfl, Nat.le_of_ble_eq_true rfl⟩ (As := []) (rest := []) (c_X6_liesInSureMetre l D cy a4 S2 _ h) rfl (by first | rfl | (simp only [ha5]; rfl) | simp only [ha5]) (by simp [va_cat, vi_cat, vl_cat]) dX8_survey_21 ⟨(Nat.zero_le _), (Nat.zero_le _)⟩ (fun r8 S7 h => ?_)
    obtain ⟨hb9, h⟩ := h
    refine G_if_ne C (tgt := 37) dX8_survey_24 (by decide) (fun hc => ?_) (fun hc => ?_)
    · have h := h.1 hc
      refine G_aload_n C (x := r3) 0 dX8_survey_37 rfl rfl ?_
      obtain ⟨hk10, h⟩ := h
      refine G_callVi C hZ (Tf := TX6) (N := 8) hk10 (by decide) rfl tw_3_71 tw_3_72 tw_3_73 tw_1_20 tw_3_74 hy_X6_suspectMetres ⟨Nat.le_of_ble_eq_true rfl, Nat.le_of_ble_eq_true rfl⟩ (As := []) (rest := []) (c_X6_suspectMetres l D cy a4 S7 _ h) rfl (by first | rfl | (simp only [ha5]; rfl) | simp only [ha5]) (by simp [va_cat, vi_cat, vl_cat]) dX8_survey_38 ⟨(Nat.zero_le _), (Nat.zero_le _)⟩ (fun r12 S11 h => ?_)
      refine G_istore_n C (i := 3) (lv' := [(3, Value.int r12), (2, va_rf r3), (0, va_rf (some x0)), (1, Value.int x1)]) dX8_survey_41 rfl (by decide) (by first | rfl | simp [va_cat, vi_cat, vl_cat]) ?_
      refine G_aload_n C (x := r3) 1 dX8_survey_42 rfl rfl ?_
      refine G_aload_n C (x := r3) 1 dX8_survey_43 rfl rfl ?_
      refine G_rf ha5 ?_
      obtain ⟨hk13, h⟩ := h
      refine G_get C (CC := RX6) (Tf := TX6) (N := 8) (k := 7) (i := 2) (v := Value.int (gI S11 702 a4)) hk13 (by decide) rfl (fin fwX6) (by decide) (im tw_3_27) rfl rfl dX8_survey_44 ?_
      refine G_aload_n C (x := r3) 1 dX8_survey_47 rfl rfl ?_
      refine G_rf ha5 ?_
      refine G_get C (CC := RX6) (Tf := TX6) (N := 8) (k := 7) (i := 3) (v := Value.int (gI S11 703 a4)) hk13 (by decide) rfl (fin fwX6) (by decide) (im tw_3_29) rfl rfl dX8_survey_48 ?_
      refine G_iconst C (v := 0) dX8_survey_51 (by decide) ?_
      refine G_callVv C hZ (Tf := TX6) (N := 8) hk13 (by decide) rfl tw_3_65 tw_3_66 tw_3_67 tw_1_20 tw_3_68 hy_X6_putRecord ⟨Nat.le_of_ble_eq_true rfl, Nat.le_of_ble_eq_true rfl⟩ (As := [Value.int (gI S11 702 a4), Value.int (gI S11 703 a4), Value.int 0]) (rest := []) (c_X6_putRecord l D cy a4 (gI S11 702 a4) (gI S11 703 a4) 0 S11 _ h) rfl (by first | rfl | (simp only [ha5]; rfl) | simp only [ha5]) (by simp [va_cat, vi_cat, vl_cat]) dX8_survey_52 ⟨(Nat.zero_le _), (Nat.zero_le _)⟩ (fun S14 h => ?_)
      refine G_iload_n C (x := r12) 0 dX8_survey_55 rfl rfl ?_
      refine G_vx ?_
      exact G_iret C (mc := mc) (ms := ms) (post := post) hr (Nat.zero_le _) (Nat.zero_le _) dX8_survey_56 h
    · have h := h.2 hc
      obtain ⟨hq1, hq2, h⟩ := h
      exact G_throw C hZ hl hx9 (cls := "java/lang/IllegalStateException") (text := "no metre of it is sure") (ik := 68) (is := 181) (ic := 72) rfl (by decide) tw_2_47 tw_1_12 (List.mem_of_getElem? (i := 12) rfl) (at_ISE C.2.2.2.2.1 C.2.2.2.2.2.1) at_ISE_o dX8_survey_27 dX8_survey_30 dX8_survey_31 dX8_survey_33 dX8_survey_36 (Nat.le_of_ble_eq_true rfl) (by simp [va_cat, vi_cat, vl_cat]) hq1 hq2 (Nat.le_refl _) (Nat.le_refl _) h
set_option maxHeartbeats 4000000 in
set_option maxRecDepth 100000 in
theorem c_X8_trial (l : Launch) (hl : l.stackTraces = false) (D : va_G) (cy : Nat → Nat) (x0 : Nat) (x1 : Int32) (x2 : Int32) (S : PT) (mc ms : Nat) (post : Int32 → PT → Prop) (postX : String → PT → Prop) (h : w_X8_trial x0 x1 x2 S mc ms post postX) : Xi l yX8_trial (Wm yX8_trial prog_1_method_9_code 8 (Option.some Jvm.ClassFile.FieldType.int)) 6 90 D cy [va_rf (some x0), Value.int x1, Value.int x2] S mc ms post postX := by
  refine Xi_of (own := "Trenchboard") (by decide) rfl (by first | decide | simp [lg_sl, va_cat, vi_cat, vl_cat]) (fun p e s m below meth c A C hZ hr hx9 => ?_)
  have J30 : ∀ (c0 n0 : Nat) (S : PT), w_X8_trial_b30 x0 x1 x2 mc ms post postX c0 n0 S → G p l e { frames := 6, cells := mc, slots := ms, locals := 90 } s m [va_rf (some x0), Value.int x1, Value.int x2].toArray below meth c D cy A s.heap 8 (QXi below D cy A [va_rf (some x0), Value.int x1, Value.int x2] s mc ms post postX) S c0 n0 30 [] [] := by
    intro c0 n0 S h
    unfold w_X8_trial_b30 at h
    obtain ⟨hc00, hn00, h⟩ := h
    obtain ⟨hq1, hq2, h⟩ := h
    exact G_throw C hZ hl hx9 (cls := "java/lang/IndexOutOfBoundsException") (text := "no such street or metre") (ik := 52) (is := 189) (ic := 56) rfl (by decide) tw_1_142 tw_1_10 (List.mem_of_getElem? (i := 13) rfl) (at_IOOBE C.2.2.2.2.1 C.2.2.2.2.2.1) at_IOOBE_o dX8_trial_30 dX8_trial_33 dX8_trial_34 dX8_trial_36 dX8_trial_39 (Nat.le_of_ble_eq_true rfl) (by simp [va_cat, vi_cat, vl_cat]) hq1 hq2 (Nat.le_refl _) (Nat.le_refl _) h
  have J52 : ∀ (n : Nat) (c0 n0 : Nat) (S : PT) (v3 : Option Nat) (v5 : Int32) (v6 : Int32), w_X8_trial_l52 x0 x1 x2 mc ms post postX n c0 n0 S v3 v5 v6 → G p l e { frames := 6, cells := mc, slots := ms, locals := 90 } s m [va_rf (some x0), Value.int x1, Value.int x2].toArray below meth c D cy A s.heap 8 (QXi below D cy A [va_rf (some x0), Value.int x1, Value.int x2] s mc ms post postX) S c0 n0 52 [(0, va_rf (some x0)), (2, Value.int x2), (3, va_rf v3), (5, Value.int v5), (6, Value.int v6)] [] := by
    intro n52
    induction n52 with
    | zero => intro c0 n0 S v3 v5 v6 h; rw [w_X8_trial_l52] at h; exact False.elim h
    | succ n52 K52 =>
      have J89 : ∀ (c0 n0 : Nat) (S : PT) (v3 : Option Nat) (v5 : Int32) (v6 : Int32), w_X8_trial_b89 x0 x1 x2 mc ms post postX (w_X8_trial_l52 x0 x1 x2 mc ms post postX n52) c0 n0 S v3 v5 v6 → G p l e { frames := 6, cells := mc, slots := ms, locals := 90 } s m [va_rf (some x0), Value.int x1, Value.int x2].toArray below meth c D cy A s.heap 8 (QXi below D cy A [va_rf (some x0), Value.int x1, Value.int x2] s mc ms post postX) S c0 n0 89 [(0, va_rf (some x0)), (2, Value.int x2), (3, va_rf v3), (5, Value.int v5), (6, Value.int v6)] [] := by
        intro c0 n0 S v3 v5 v6 h
        unfold w_X8_trial_b89 at h
        obtain ⟨hc00, hn00, h⟩ := h
        refine G_iinc C (v := (v6 + 1)) (lv' := [(6, Value.int (v6 + 1)), (0, va_rf (some x0)), (2, Value.int x2), (3, va_rf v3), (5, Value.int v5)]) 4 dX8_trial_89 rfl rfl (by decide) (by first | rfl | simp [va_cat, vi_cat, vl_cat]) ?_
        refine G_goto C (tgt := 52) dX8_trial_92 (by decide) ?_
        refine G_lv C (lv' := [(0, va_rf (some x0)), (2, Value.int x2), (3, va_rf v3), (5, Value.int v5), (6, Value.int (v6 + 1))]) [1, 2, 3, 4, 0] rfl ?_
        exact K52 _ _ _ _ _ _ h
      intro c0 n0 S v3 v5 v6 h
      rw [w_X8_trial_l52] at h
      obtain ⟨hc00, hn00, h⟩ := h
      refine G_iload C (x := v6) 4 dX8_trial_52 rfl ?_
      refine G_aload_n C (x := (some x0)) 0 dX8_trial_54 rfl rfl ?_
      obtain ⟨hk1, h⟩ := h
      refine G_get C (CC := RX8) (Tf := TX8) (N := 10) (k := 9) (i := 2) (v := va_rf (gP S 902 x0)) hk1 (by decide) rfl (fin fwX8) (by decide) (im tw_1_101) rfl rfl dX8_trial_55 ?_
      obtain ⟨a2, ha3, h⟩ := h
      refine G_rf ha3 ?_
      obtain ⟨hk4, h⟩ := h
      refine G_alen C hk4 (by decide) rfl dX8_trial_58 ?_
      refine G_icmp_ge C (tgt := 95) dX8_trial_59 (by decide) (fun hc => ?_) (fun hc => ?_)
      · have h := h.1 hc
        refine G_iload C (x := v5) 3 dX8_trial_95 rfl ?_
        refine G_vx ?_
        exact G_iret C (mc := mc) (ms := ms) (post := post) hr hc00 hn00 dX8_trial_97 h
      · have h := h.2 hc
        refine G_aload_n C (x := (some x0)) 0 dX8_trial_62 rfl rfl ?_
        refine G_get C (CC := RX8) (Tf := TX8) (N := 10) (k := 9) (i := 2) (v := va_rf (gP S 902 x0)) hk1 (by decide) rfl (fin fwX8) (by decide) (im tw_1_101) rfl rfl dX8_trial_63 ?_
        refine G_iload C (x := v6) 4 dX8_trial_66 rfl ?_
        refine G_rf1 ha3 ?_
        obtain ⟨hi5, h⟩ := h
        refine G_aald C hk4 (by decide) rfl hi5 dX8_trial_68 ?_
        refine G_astore C (i := 7) (lv' := [(7, va_rf (gR S a2 ((v6).toNatClampNeg))), (0, va_rf (some x0)), (2, Value.int x2), (3, va_rf v3), (5, Value.int v5), (6, Value.int v6)]) dX8_trial_69 (by decide) (by first | rfl | simp [va_cat, vi_cat, vl_cat]) ?_
        refine G_aload C (x := (gR S a2 ((v6).toNatClampNeg))) 0 dX8_trial_71 rfl ?_
        refine G_ifnull C (tgt := 89) dX8_trial_73 (by decide) (fun hc => ?_) (fun a6 ha7 => ?_)
        · have h := h.1 hc
          refine G_lv C (lv' := [(0, va_rf (some x0)), (2, Value.int x2), (3, va_rf v3), (5, Value.int v5), (6, Value.int v6)]) [1, 2, 3, 4, 5] rfl ?_
          exact J89 _ _ _ _ _ _ h
        · have h := h.2 a6 ha7
          refine G_aload C (x := (gR S a2 ((v6).toNatClampNeg))) 0 dX8_trial_76 rfl ?_
          refine G_aload_n C (x := v3) 3 dX8_trial_78 rfl rfl ?_
          refine G_iload_n C (x := x2) 2 dX8_trial_79 rfl rfl ?_
          obtain ⟨hk8, h⟩ := h
          refine G_callVi C hZ (Tf := TX6) (N := 8) hk8 (by decide) rfl tw_3_94 tw_3_95 tw_3_96 tw_1_20 tw_3_97 hy_X6_liesAt ⟨Nat.le_of_ble_eq_true rfl, Nat.le_of_ble_eq_true rfl⟩ (As := [va_rf v3, Value.int x2]) (rest := []) (c_X6_liesAt l D cy a6 v3 x2 S _ h) rfl (by first | rfl | (simp only [ha7]; rfl) | simp only [ha7]) (by simp [va_cat, vi_cat, vl_cat]) dX8_trial_80 ⟨hc00, hn00⟩ (fun r10 S9 h => ?_)
          obtain ⟨hb11, h⟩ := h
          refine G_if_eq C (tgt := 89) dX8_trial_83 (by decide) (fun hc => ?_) (fun hc => ?_)
          · have h := h.1 hc
            refine G_lv C (lv' := [(0, va_rf (some x0)), (2, Value.int x2), (3, va_rf v3), (5, Value.int v5), (6, Value.int v6)]) [1, 2, 3, 4, 5] rfl ?_
            exact J89 _ _ _ _ _ _ h
          · have h := h.2 hc
            refine G_iinc C (v := (v5 + 1)) (lv' := [(5, Value.int (v5 + 1)), (7, va_rf (gR S a2 ((v6).toNatClampNeg))), (0, va_rf (some x0)), (2, Value.int x2), (3, va_rf v3), (6, Value.int v6)]) 4 dX8_trial_86 rfl rfl (by decide) (by first | rfl | simp [va_cat, vi_cat, vl_cat]) ?_
            refine G_lv C (lv' := [(0, va_rf (some x0)), (2, Value.int x2), (3, va_rf v3), (5, Value.int (v5 + 1)), (6, Value.int v6)]) [2, 3, 4, 0, 5] rfl ?_
            exact J89 _ _ _ _ _ _ h
  have J19 : ∀ (c0 n0 : Nat) (S : PT) (v3 : Option Nat) (s0 : Option Nat), w_X8_trial_b19 x0 x1 x2 mc ms post postX c0 n0 S v3 s0 → G p l e { frames := 6, cells := mc, slots := ms, locals := 90 } s m [va_rf (some x0), Value.int x1, Value.int x2].toArray below meth c D cy A s.heap 8 (QXi below D cy A [va_rf (some x0), Value.int x1, Value.int x2] s mc ms post postX) S c0 n0 19 [(0, va_rf (some x0)), (2, Value.int x2), (3, va_rf v3)] [va_rf s0] := by
    intro c0 n0 S v3 s0 h
    unfold w_X8_trial_b19 at h
    obtain ⟨hc00, hn00, h⟩ := h
    refine G_astore C (i := 4) (lv' := [(4, va_rf s0), (0, va_rf (some x0)), (2, Value.int x2), (3, va_rf v3)]) dX8_trial_19 (by decide) (by first | rfl | simp [va_cat, vi_cat, vl_cat]) ?_
    refine G_aload_n C (x := v3) 3 dX8_trial_21 rfl rfl ?_
    refine G_ifnull C (tgt := 30) dX8_trial_22 (by decide) (fun hc => ?_) (fun a12 ha13 => ?_)
    · have h := h.1 hc
      refine G_lv C (lv' := []) [] rfl ?_
      exact J30 _ _ _ h
    · have h := h.2 a12 ha13
      refine G_aload C (x := s0) 0 dX8_trial_25 rfl ?_
      refine G_ifnonnull C (tgt := 40) dX8_trial_27 (by decide) (fun hc => ?_) (fun a14 ha15 => ?_)
      · have h := h.1 hc
        refine G_lv C (lv' := []) [] rfl ?_
        exact J30 _ _ _ h
      · have h := h.2 a14 ha15
        refine G_aload C (x := s0) 0 dX8_trial_40 rfl ?_
        refine G_iconst C (v := 1) dX8_trial_42 (by decide) ?_
        refine G_rf1 ha15 ?_
        obtain ⟨hk16, h⟩ := h
        refine G_putI C (CC := RX2) (Tf := TX2) (N := 4) (k := 3) (i := 0) (f := 300) (x := 1) (ty0 := tyX2) (ty := .boolean) hk16 (by decide) rfl (fin fwX2) tyX2_ok nmX2 (by decide) (im tw_2_79) rfl rfl rfl (bo_nar bo_1) (bo_fit bo_1) rfl rfl dX8_trial_43 ?_
        generalize e18 : sI S 300 a14 1 = S17
        have h := h S17 e18.symm
        refine G_iconst C (v := 0) dX8_trial_46 (by decide) ?_
        refine G_istore C (i := 5) (lv' := [(5, Value.int 0), (4, va_rf s0), (0, va_rf (some x0)), (2, Value.int x2), (3, va_rf v3)]) dX8_trial_47 (by decide) (by first | rfl | simp [va_cat, vi_cat, vl_cat]) ?_
        refine G_iconst C (v := 0) dX8_trial_49 (by decide) ?_
        refine G_istore C (i := 6) (lv' := [(6, Value.int 0), (5, Value.int 0), (4, va_rf s0), (0, va_rf (some x0)), (2, Value.int x2), (3, va_rf v3)]) dX8_trial_50 (by decide) (by first | rfl | simp [va_cat, vi_cat, vl_cat]) ?_
        refine G_lv C (lv' := [(0, va_rf (some x0)), (2, Value.int x2), (3, va_rf v3), (5, Value.int 0), (6, Value.int 0)]) [3, 4, 5, 1, 0] rfl ?_
        obtain ⟨n9, h⟩ := h
        exact J52 n9 _ _ _ _ _ _ h
  refine G_lv C (lv' := [(0, va_rf (some x0)), (1, Value.int x1), (2, Value.int x2)]) [0, 1, 2] (by first | rfl | simp [lv_pick, lv_args, va_cat, vi_cat, vl_cat]) ?_
  unfold w_X8_trial at h
  refine G_aload_n C (x := (some x0)) 0 dX8_trial_0 rfl rfl ?_
  refine G_iload_n C (x := x1) 1 dX8_trial_1 rfl rfl ?_
  obtain ⟨hk19, h⟩ := h
  refine G_callVq C hZ (Tf := TX8) (N := 10) hk19 (by decide) rfl tw_1_134 tw_1_136 tw_0_0 tw_1_1 tw_1_137 hy_X8_streetAt ⟨Nat.le_of_ble_eq_true rfl, Nat.le_of_ble_eq_true rfl⟩ (As := [Value.int x1]) (rest := []) (c_X8_streetAt l D cy x0 x1 S _ h) rfl rfl (by simp [va_cat, vi_cat, vl_cat]) dX8_trial_2 ⟨(Nat.zero_le _), (Nat.zero_le _)⟩ (fun r21 S20 h => ?_)
  refine G_astore_n C (i := 3) (lv' := [(3, va_rf r21), (0, va_rf (some x0)), (1, Value.int x1), (2, Value.int x2)]) dX8_trial_5 rfl (by decide) (by first | rfl | simp [va_cat, vi_cat, vl_cat]) ?_
  refine G_aload_n C (x := r21) 0 dX8_trial_6 rfl rfl ?_
  refine G_ifnonnull C (tgt := 14) dX8_trial_7 (by decide) (fun hc => ?_) (fun a22 ha23 => ?_)
  · have h := h.1 hc
    refine G_null C dX8_trial_10 ?_
    refine G_goto C (tgt := 19) dX8_trial_11 (by decide) ?_
    refine G_lv C (lv' := [(0, va_rf (some x0)), (2, Value.int x2), (3, va_rf r21)]) [1, 3, 0] rfl ?_
    exact J19 _ _ _ _ _ h
  · have h := h.2 a22 ha23
    refine G_aload_n C (x := r21) 0 dX8_trial_14 rfl rfl ?_
    refine G_iload_n C (x := x2) 3 dX8_trial_15 rfl rfl ?_
    obtain ⟨hk24, h⟩ := h
    refine G_callVq C hZ (Tf := TX4) (N := 12) hk24 (by decide) rfl tw_1_138 tw_1_139 tw_1_140 tw_1_13 tw_1_141 hy_X4_metreAt ⟨Nat.le_of_ble_eq_true rfl, Nat.le_of_ble_eq_true rfl⟩ (As := [Value.int x2]) (rest := []) (c_X4_metreAt l D cy a22 x2 S20 _ h) rfl (by first | rfl | (simp only [ha23]; rfl) | simp only [ha23]) (by simp [va_cat, vi_cat, vl_cat]) dX8_trial_16 ⟨(Nat.zero_le _), (Nat.zero_le _)⟩ (fun r26 S25 h => ?_)
    refine G_lv C (lv' := [(0, va_rf (some x0)), (2, Value.int x2), (3, va_rf r21)]) [1, 3, 0] rfl ?_
    exact J19 _ _ _ _ _ h
set_option maxHeartbeats 4000000 in
set_option maxRecDepth 100000 in
theorem c_X8_ask (l : Launch) (hl : l.stackTraces = false) (D : va_G) (cy : Nat → Nat) (x0 : Nat) (x1 : Int32) (x2 : Int32) (x3 : Int32) (x4 : Int32) (x5 : Int32) (x6 : Int32) (x7 : Int32) (x8 : Int32) (S : PT) (mc ms : Nat) (post : Int32 → PT → Prop) (postX : String → PT → Prop) (h : w_X8_ask x0 x1 x2 x3 x4 x5 x6 x7 x8 S mc ms post postX) : Xi l yX8_ask (Wm yX8_ask prog_1_method_10_code 11 (Option.some Jvm.ClassFile.FieldType.int)) 6 90 D cy [va_rf (some x0), Value.int x1, Value.int x2, Value.int x3, Value.int x4, Value.int x5, Value.int x6, Value.int x7, Value.int x8] S mc ms post postX := by
  refine Xi_of (own := "Trenchboard") (by decide) rfl (by first | decide | simp [lg_sl, va_cat, vi_cat, vl_cat]) (fun p e s m below meth c A C hZ hr hx9 => ?_)
  have J128 : ∀ (c0 n0 : Nat) (S : PT), w_X8_ask_b128 x0 x1 x2 x3 x4 x5 x6 x7 x8 mc ms post postX c0 n0 S → G p l e { frames := 6, cells := mc, slots := ms, locals := 90 } s m [va_rf (some x0), Value.int x1, Value.int x2, Value.int x3, Value.int x4, Value.int x5, Value.int x6, Value.int x7, Value.int x8].toArray below meth c D cy A s.heap 11 (QXi below D cy A [va_rf (some x0), Value.int x1, Value.int x2, Value.int x3, Value.int x4, Value.int x5, Value.int x6, Value.int x7, Value.int x8] s mc ms post postX) S c0 n0 128 [] [] := by
    intro c0 n0 S h
    unfold w_X8_ask_b128 at h
    obtain ⟨hc00, hn00, h⟩ := h
    obtain ⟨hq1, hq2, h⟩ := h
    exact G_throw C hZ hl hx9 (cls := "java/lang/IllegalArgumentException") (text := "day or days out of range") (ik := 59) (is := 201) (ic := 63) rfl (by decide) tw_1_210 tw_1_11 (List.mem_of_getElem? (i := 15) rfl) (at_IAE C.2.2.2.2.1 C.2.2.2.2.2.1) at_IAE_o dX8_ask_128 dX8_ask_131 dX8_ask_132 dX8_ask_134 dX8_ask_137 (Nat.le_of_ble_eq_true rfl) (by simp [va_cat, vi_cat, vl_cat]) hq1 hq2 (Nat.le_refl _) (Nat.le_refl _) h
  have J80 : ∀ (c0 n0 : Nat) (S : PT), w_X8_ask_b80 x0 x1 x2 x3 x4 x5 x6 x7 x8 mc ms post postX c0 n0 S → G p l e { frames := 6, cells := mc, slots := ms, locals := 90 } s m [va_rf (some x0), Value.int x1, Value.int x2, Value.int x3, Value.int x4, Value.int x5, Value.int x6, Value.int x7, Value.int x8].toArray below meth c D cy A s.heap 11 (QXi below D cy A [va_rf (some x0), Value.int x1, Value.int x2, Value.int x3, Value.int x4, Value.int x5, Value.int x6, Value.int x7, Value.int x8] s mc ms post postX) S c0 n0 80 [] [] := by
    intro c0 n0 S h
    unfold w_X8_ask_b80 at h
    obtain ⟨hc00, hn00, h⟩ := h
    obtain ⟨hq1, hq2, h⟩ := h
    exact G_throw C hZ hl hx9 (cls := "java/lang/IllegalArgumentException") (text := "metres the wrong way round, depth or kind out of range") (ik := 59) (is := 195) (ic := 63) rfl (by decide) tw_1_210 tw_1_11 (List.mem_of_getElem? (i := 14) rfl) (at_IAE C.2.2.2.2.1 C.2.2.2.2.2.1) at_IAE_o dX8_ask_80 dX8_ask_83 dX8_ask_84 dX8_ask_86 dX8_ask_89 (Nat.le_of_ble_eq_true rfl) (by simp [va_cat, vi_cat, vl_cat]) hq1 hq2 (Nat.le_refl _) (Nat.le_refl _) h
  have J38 : ∀ (c0 n0 : Nat) (S : PT), w_X8_ask_b38 x0 x1 x2 x3 x4 x5 x6 x7 x8 mc ms post postX c0 n0 S → G p l e { frames := 6, cells := mc, slots := ms, locals := 90 } s m [va_rf (some x0), Value.int x1, Value.int x2, Value.int x3, Value.int x4, Value.int x5, Value.int x6, Value.int x7, Value.int x8].toArray below meth c D cy A s.heap 11 (QXi below D cy A [va_rf (some x0), Value.int x1, Value.int x2, Value.int x3, Value.int x4, Value.int x5, Value.int x6, Value.int x7, Value.int x8] s mc ms post postX) S c0 n0 38 [] [] := by
    intro c0 n0 S h
    unfold w_X8_ask_b38 at h
    obtain ⟨hc00, hn00, h⟩ := h
    obtain ⟨hq1, hq2, h⟩ := h
    exact G_throw C hZ hl hx9 (cls := "java/lang/IndexOutOfBoundsException") (text := "no such promoter, street or metre") (ik := 52) (is := 139) (ic := 56) rfl (by decide) tw_1_142 tw_1_10 (List.mem_of_getElem? (i := 6) rfl) (at_IOOBE C.2.2.2.2.1 C.2.2.2.2.2.1) at_IOOBE_o dX8_ask_38 dX8_ask_41 dX8_ask_42 dX8_ask_44 dX8_ask_47 (Nat.le_of_ble_eq_true rfl) (by simp [va_cat, vi_cat, vl_cat]) hq1 hq2 (Nat.le_refl _) (Nat.le_refl _) h
  refine G_lv C (lv' := [(0, va_rf (some x0)), (1, Value.int x1), (2, Value.int x2), (3, Value.int x3), (4, Value.int x4), (5, Value.int x5), (6, Value.int x6), (7, Value.int x7), (8, Value.int x8)]) [0, 1, 2, 3, 4, 5, 6, 7, 8] (by first | rfl | simp [lv_pick, lv_args, va_cat, vi_cat, vl_cat]) ?_
  unfold w_X8_ask at h
  refine G_aload_n C (x := (some x0)) 0 dX8_ask_0 rfl rfl ?_
  refine G_iload_n C (x := x2) 2 dX8_ask_1 rfl rfl ?_
  obtain ⟨hk1, h⟩ := h
  refine G_callVq C hZ (Tf := TX8) (N := 10) hk1 (by decide) rfl tw_1_134 tw_1_136 tw_0_0 tw_1_1 tw_1_137 hy_X8_streetAt ⟨Nat.le_of_ble_eq_true rfl, Nat.le_of_ble_eq_true rfl⟩ (As := [Value.int x2]) (rest := []) (c_X8_streetAt l D cy x0 x2 S _ h) rfl rfl (by simp [va_cat, vi_cat, vl_cat]) dX8_ask_2 ⟨(Nat.zero_le _), (Nat.zero_le _)⟩ (fun r3 S2 h => ?_)
  refine G_astore C (i := 9) (lv' := [(9, va_rf r3), (0, va_rf (some x0)), (1, Value.int x1), (2, Value.int x2), (3, Value.int x3), (4, Value.int x4), (5, Value.int x5), (6, Value.int x6), (7, Value.int x7), (8, Value.int x8)]) dX8_ask_5 (by decide) (by first | rfl | simp [va_cat, vi_cat, vl_cat]) ?_
  refine G_iload_n C (x := x1) 2 dX8_ask_7 rfl rfl ?_
  refine G_callSi C hZ tw_3_11 tw_3_12 tw_1_1 tw_3_13 hy_X8_isPromoter ⟨Nat.le_of_ble_eq_true rfl, Nat.le_of_ble_eq_true rfl⟩ (As := [Value.int x1]) (rest := []) (c_X8_isPromoter l D cy x1 S2 _ h) rfl rfl (by simp [va_cat, vi_cat, vl_cat]) dX8_ask_8 ⟨(Nat.zero_le _), (Nat.zero_le _)⟩ (fun r5 S4 h => ?_)
  obtain ⟨hb6, h⟩ := h
  refine G_if_eq C (tgt := 38) dX8_ask_11 (by decide) (fun hc => ?_) (fun hc => ?_)
  · have h := h.1 hc
    refine G_lv C (lv' := []) [] rfl ?_
    exact J38 _ _ _ h
  · have h := h.2 hc
    refine G_aload C (x := r3) 0 dX8_ask_14 rfl ?_
    refine G_ifnull C (tgt := 38) dX8_ask_16 (by decide) (fun hc => ?_) (fun a7 ha8 => ?_)
    · have h := h.1 hc
      refine G_lv C (lv' := []) [] rfl ?_
      exact J38 _ _ _ h
    · have h := h.2 a7 ha8
      refine G_aload C (x := r3) 0 dX8_ask_19 rfl ?_
      refine G_iload_n C (x := x3) 4 dX8_ask_21 rfl rfl ?_
      obtain ⟨hk9, h⟩ := h
      refine G_callVq C hZ (Tf := TX4) (N := 12) hk9 (by decide) rfl tw_1_138 tw_1_139 tw_1_140 tw_1_13 tw_1_141 hy_X4_metreAt ⟨Nat.le_of_ble_eq_true rfl, Nat.le_of_ble_eq_true rfl⟩ (As := [Value.int x3]) (rest := []) (c_X4_metreAt l D cy a7 x3 S4 _ h) rfl (by first | rfl | (simp only [ha8]; rfl) | simp only [ha8]) (by simp [va_cat, vi_cat, vl_cat]) dX8_ask_22 ⟨(Nat.zero_le _), (Nat.zero_le _)⟩ (fun r11 S10 h => ?_)
      refine G_ifnull C (tgt := 38) dX8_ask_25 (by decide) (fun hc => ?_) (fun a12 ha13 => ?_)
      · have h := h.1 hc
        refine G_lv C (lv' := []) [] rfl ?_
        exact J38 _ _ _ h
      · have h := h.2 a12 ha13
        refine G_aload C (x := r3) 0 dX8_ask_28 rfl ?_
        refine G_iload C (x := x4) 5 dX8_ask_30 rfl ?_
        obtain ⟨hk14, h⟩ := h
        refine G_callVq C hZ (Tf := TX4) (N := 12) hk14 (by decide) rfl tw_1_138 tw_1_139 tw_1_140 tw_1_13 tw_1_141 hy_X4_metreAt ⟨Nat.le_of_ble_eq_true rfl, Nat.le_of_ble_eq_true rfl⟩ (As := [Value.int x4]) (rest := []) (c_X4_metreAt l D cy a7 x4 S10 _ h) rfl (by first | rfl | (simp only [ha8]; rfl) | simp only [ha8]) (by simp [va_cat, vi_cat, vl_cat]) dX8_ask_32 ⟨(Nat.zero_le _), (Nat.zero_le _)⟩ (fun r16 S15 h => ?_)
        refine G_ifnonnull C (tgt := 48) dX8_ask_35 (by decide) (fun hc => ?_) (fun a17 ha18 => ?_)
        · have h := h.1 hc
          refine G_lv C (lv' := []) [] rfl ?_
          exact J38 _ _ _ h
        · have h := h.2 a17 ha18
          refine G_iload C (x := x4) 5 dX8_ask_48 rfl ?_
          refine G_iload_n C (x := x3) 4 dX8_ask_50 rfl rfl ?_
          refine G_icmp_lt C (tgt := 80) dX8_ask_51 (by decide) (fun hc => ?_) (fun hc => ?_)
          · have h := h.1 hc
            refine G_lv C (lv' := []) [] rfl ?_
            exact J80 _ _ _ h
          · have h := h.2 hc
            refine G_iload C (x := x5) 6 dX8_ask_54 rfl ?_
            refine G_bipush C (v := 10) dX8_ask_56 (by decide) ?_
            refine G_icmp_lt C (tgt := 80) dX8_ask_58 (by decide) (fun hc => ?_) (fun hc => ?_)
            · have h := h.1 hc
              refine G_lv C (lv' := []) [] rfl ?_
              exact J80 _ _ _ h
            · have h := h.2 hc
              refine G_iload C (x := x5) 6 dX8_ask_61 rfl ?_
              refine G_sipush C (v := 300) dX8_ask_63 (by decide) ?_
              refine G_icmp_gt C (tgt := 80) dX8_ask_66 (by decide) (fun hc => ?_) (fun hc => ?_)
              · have h := h.1 hc
                refine G_lv C (lv' := []) [] rfl ?_
                exact J80 _ _ _ h
              · have h := h.2 hc
                refine G_iload C (x := x6) 7 dX8_ask_69 rfl ?_
                refine G_if_lt C (tgt := 80) dX8_ask_71 (by decide) (fun hc => ?_) (fun hc => ?_)
                · have h := h.1 hc
                  refine G_lv C (lv' := []) [] rfl ?_
                  exact J80 _ _ _ h
                · have h := h.2 hc
                  refine G_iload C (x := x6) 7 dX8_ask_74 rfl ?_
                  refine G_iconst C (v := 3) dX8_ask_76 (by decide) ?_
                  refine G_icmp_le C (tgt := 90) dX8_ask_77 (by decide) (fun hc => ?_) (fun hc => ?_)
                  · have h := h.1 hc
                    refine G_iload C (x := x7) 8 dX8_ask_90 rfl ?_
                    refine G_aload_n C (x := (some x0)) 1 dX8_ask_92 rfl rfl ?_
                    obtain ⟨hk19, h⟩ := h
                    refine G_callVi C hZ (Tf := TX8) (N := 10) hk19 (by decide) rfl tw_1_234 tw_1_236 tw_0_3 tw_1_1 tw_1_237 hy_X8_today ⟨Nat.le_of_ble_eq_true rfl, Nat.le_of_ble_eq_true rfl⟩ (As := []) (rest := [Value.int x7]) (c_X8_today l D cy x0 S15 _ h) rfl rfl (by simp [va_cat, vi_cat, vl_cat]) dX8_ask_93 ⟨(Nat.zero_le _), (Nat.zero_le _)⟩ (fun r21 S20 h => ?_)
                    refine G_aload C (x := r3) 0 dX8_ask_96 rfl ?_
                    refine G_iload C (x := x6) 7 dX8_ask_98 rfl ?_
                    obtain ⟨hk22, h⟩ := h
                    refine G_callVi C hZ (Tf := TX4) (N := 12) hk22 (by decide) rfl tw_4_200 tw_4_201 tw_4_202 tw_1_13 tw_4_203 hy_X4_noticeOf ⟨Nat.le_of_ble_eq_true rfl, Nat.le_of_ble_eq_true rfl⟩ (As := [Value.int x6]) (rest := [Value.int r21, Value.int x7]) (c_X4_noticeOf l D cy a7 x6 S20 _ h) rfl (by first | rfl | (simp only [ha8]; rfl) | simp only [ha8]) (by simp [va_cat, vi_cat, vl_cat]) dX8_ask_100 ⟨(Nat.zero_le _), (Nat.zero_le _)⟩ (fun r24 S23 h => ?_)
                    refine G_iadd C dX8_ask_103 ?_
                    refine G_icmp_lt C (tgt := 128) dX8_ask_104 (by decide) (fun hc => ?_) (fun hc => ?_)
                    · have h := h.1 hc
                      refine G_lv C (lv' := []) [] rfl ?_
                      exact J128 _ _ _ h
                    · have h := h.2 hc
                      refine G_iload C (x := x7) 8 dX8_ask_107 rfl ?_
                      refine G_sipush C (v := 999) dX8_ask_109 (by decide) ?_
                      refine G_icmp_gt C (tgt := 128) dX8_ask_112 (by decide) (fun hc => ?_) (fun hc => ?_)
                      · have h := h.1 hc
                        refine G_lv C (lv' := []) [] rfl ?_
                        exact J128 _ _ _ h
                      · have h := h.2 hc
                        refine G_iload C (x := x8) 9 dX8_ask_115 rfl ?_
                        refine G_iconst C (v := 1) dX8_ask_117 (by decide) ?_
                        refine G_icmp_lt C (tgt := 128) dX8_ask_118 (by decide) (fun hc => ?_) (fun hc => ?_)
                        · have h := h.1 hc
                          refine G_lv C (lv' := []) [] rfl ?_
                          exact J128 _ _ _ h
                        · have h := h.2 hc
                          refine G_iload C (x := x8) 9 dX8_ask_121 rfl ?_
                          refine G_bipush C (v := 60) dX8_ask_123 (by decide) ?_
                          refine G_icmp_le C (tgt := 138) dX8_ask_125 (by decide) (fun hc => ?_) (fun hc => ?_)
                          · have h := h.1 hc
                            refine G_aload_n C (x := (some x0)) 1 dX8_ask_138 rfl rfl ?_
                            obtain ⟨hk25, h⟩ := h
                            refine G_get C (CC := RX8) (Tf := TX8) (N := 10) (k := 9) (i := 5) (v := Value.int (gI S23 905 x0)) hk25 (by decide) rfl (fin fwX8) (by decide) (im tw_1_104) rfl rfl dX8_ask_139 ?_
                            refine G_aload_n C (x := (some x0)) 1 dX8_ask_142 rfl rfl ?_
                            refine G_get C (CC := RX8) (Tf := TX8) (N := 10) (k := 9) (i := 4) (v := va_rf (gP S23 904 x0)) hk25 (by decide) rfl (fin fwX8) (by decide) (im tw_1_103) rfl rfl dX8_ask_143 ?_
                            obtain ⟨a26, ha27, h⟩ := h
                            refine G_rf ha27 ?_
                            obtain ⟨hk28, h⟩ := h
                            refine G_alen C hk28 (by decide) rfl dX8_ask_146 ?_
                            refine G_icmp_lt C (tgt := 160) dX8_ask_147 (by decide) (fun hc => ?_) (fun hc => ?_)
                            · have h := h.1 hc
                              obtain ⟨hc33, hs34, h⟩ := h
                              refine G_new C (CC := RX7) (Tf := TX7) (N := 18) (k := 8) (fs := [Value.int 0, Value.int 0, Value.null, Value.int 0, Value.int 0, Value.int 0, Value.int 0, Value.int 0, Value.int 0, Value.int 0, Value.int 0, Value.int 0, Value.int 0, Value.int 0, Value.int 0, Value.int 0, Value.int 0, Value.int 0]) (by decide) rfl (fin fwX7) tyX7_ok (im tw_1_37) (im tw_4_206) (im tw_1_21) rfl dv_X7 hc33 hs34 dX8_ask_160 (fun q29 hq32 => ?_)
                              generalize e31 : nO S23 q29 8 = S30
                              have h := h q29 S30 hq32 e31.symm
                              refine G_dup C dX8_ask_163 (va_cat _) ?_
                              refine G_aload_n C (x := (some x0)) 1 dX8_ask_164 rfl rfl ?_
                              refine G_get C (CC := RX8) (Tf := TX8) (N := 10) (k := 9) (i := 5) (v := Value.int (gI S30 905 x0)) (kn0 e31.symm hq32 (by decide) hk25) (by decide) rfl (fin fwX8) (by decide) (im tw_1_104) rfl rfl dX8_ask_165 ?_
                              refine G_iload_n C (x := x1) 2 dX8_ask_168 rfl rfl ?_
                              refine G_aload C (x := r3) 0 dX8_ask_169 rfl ?_
                              refine G_iload C (x := x6) 7 dX8_ask_171 rfl ?_
                              refine G_aload_n C (x := (some x0)) 1 dX8_ask_173 rfl rfl ?_
                              refine G_callVi C hZ (Tf := TX8) (N := 10) (kn0 e31.symm hq32 (by decide) hk25) (by decide) rfl tw_1_234 tw_1_236 tw_0_3 tw_1_1 tw_1_237 hy_X8_today ⟨Nat.le_of_ble_eq_true rfl, Nat.le_of_ble_eq_true rfl⟩ (As := []) (rest := [Value.int x6, va_rf r3, Value.int x1, Value.int (gI S30 905 x0), va_rf (some q29), va_rf (some q29)]) (c_X8_today l D cy x0 S30 _ h) rfl rfl (by simp [va_cat, vi_cat, vl_cat]) dX8_ask_174 ⟨hc33, hs34⟩ (fun r36 S35 h => ?_)
                              refine G_callIv C hZ tw_4_207 tw_4_208 tw_1_21 rfl tw_4_209 hy_X7_init ⟨Nat.le_of_ble_eq_true rfl, Nat.le_of_ble_eq_true rfl⟩ (As := [Value.int (gI S30 905 x0), Value.int x1, va_rf r3, Value.int x6, Value.int r36]) (rest := [va_rf (some q29)]) (c_X7_init l D cy q29 (gI S30 905 x0) x1 r3 x6 r36 S35 _ h) rfl rfl (by simp [va_cat, vi_cat, vl_cat]) dX8_ask_177 ⟨hc33, hs34⟩ (fun S37 h => ?_)
                              refine G_astore C (i := 10) (lv' := [(10, va_rf (some q29)), (9, va_rf r3), (0, va_rf (some x0)), (1, Value.int x1), (2, Value.int x2), (3, Value.int x3), (4, Value.int x4), (5, Value.int x5), (6, Value.int x6), (7, Value.int x7), (8, Value.int x8)]) dX8_ask_180 (by decide) (by first | rfl | simp [va_cat, vi_cat, vl_cat]) ?_
                              refine G_aload C (x := (some q29)) 0 dX8_ask_182 rfl ?_
                              refine G_iload_n C (x := x3) 5 dX8_ask_184 rfl rfl ?_
                              refine G_iload C (x := x4) 6 dX8_ask_185 rfl ?_
                              refine G_iload C (x := x5) 7 dX8_ask_187 rfl ?_
                              obtain ⟨hk39, h⟩ := h
                              refine G_callVv C hZ (Tf := TX7) (N := 18) hk39 (by decide) rfl tw_5_39 tw_5_40 tw_5_41 tw_1_21 tw_5_42 hy_X7_placeAt ⟨Nat.le_of_ble_eq_true rfl, Nat.le_of_ble_eq_true rfl⟩ (As := [Value.int x3, Value.int x4, Value.int x5]) (rest := []) (c_X7_placeAt l D cy q29 x3 x4 x5 S37 _ h) rfl rfl (by simp [va_cat, vi_cat, vl_cat]) dX8_ask_189 ⟨hc33, hs34⟩ (fun S40 h => ?_)
                              refine G_aload C (x := (some q29)) 0 dX8_ask_192 rfl ?_
                              refine G_iload C (x := x7) 9 dX8_ask_194 rfl ?_
                              refine G_iload C (x := x8) 10 dX8_ask_196 rfl ?_
                              obtain ⟨hk42, h⟩ := h
                              refine G_callVv C hZ (Tf := TX7) (N := 18) hk42 (by decide) rfl tw_5_43 tw_5_44 tw_5_45 tw_1_21 tw_5_46 hy_X7_planFor ⟨Nat.le_of_ble_eq_true rfl, Nat.le_of_ble_eq_true rfl⟩ (As := [Value.int x7, Value.int x8]) (rest := []) (c_X7_planFor l D cy q29 x7 x8 S40 _ h) rfl rfl (by simp [va_cat, vi_cat, vl_cat]) dX8_ask_198 ⟨hc33, hs34⟩ (fun S43 h => ?_)
                              refine G_aload_n C (x := (some x0)) 2 dX8_ask_201 rfl rfl ?_
                              obtain ⟨hk45, h⟩ := h
                              refine G_get C (CC := RX8) (Tf := TX8) (N := 10) (k := 9) (i := 4) (v := va_rf (gP S43 904 x0)) hk45 (by decide) rfl (fin fwX8) (by decide) (im tw_1_103) rfl rfl dX8_ask_202 ?_
                              refine G_aload_n C (x := (some x0)) 2 dX8_ask_205 rfl rfl ?_
                              refine G_get C (CC := RX8) (Tf := TX8) (N := 10) (k := 9) (i := 5) (v := Value.int (gI S43 905 x0)) hk45 (by decide) rfl (fin fwX8) (by decide) (im tw_1_104) rfl rfl dX8_ask_206 ?_
                              refine G_aload C (x := (some q29)) 0 dX8_ask_209 rfl ?_
                              obtain ⟨a46, ha47, h⟩ := h
                              refine G_rf2 ha47 ?_
                              obtain ⟨hk48, h⟩ := h
                              obtain ⟨hk49, h⟩ := h
                              obtain ⟨hi50, h⟩ := h
                              refine G_aast C (E := RX7) (Tf := TX7) (N := 18) hk48 (by decide) rfl hk49 (by decide) rfl hi50 dX8_ask_211 ?_
                              generalize e52 : sR S43 a46 (((gI S43 905 x0)).toNatClampNeg) (some q29) = S51
                              have h := h S51 e52.symm
                              refine G_aload_n C (x := (some x0)) 2 dX8_ask_212 rfl rfl ?_
                              refine G_dup C dX8_ask_213 (va_cat _) ?_
                              refine G_get C (CC := RX8) (Tf := TX8) (N := 10) (k := 9) (i := 5) (v := Value.int (gI S51 905 x0)) (ksR e52.symm hk45) (by decide) rfl (fin fwX8) (by decide) (im tw_1_104) rfl rfl dX8_ask_214 ?_
                              refine G_iconst C (v := 1) dX8_ask_217 (by decide) ?_
                              refine G_iadd C dX8_ask_218 ?_
                              refine G_putI C (CC := RX8) (Tf := TX8) (N := 10) (k := 9) (i := 5) (f := 905) (x := ((gI S51 905 x0) + 1)) (ty0 := tyX8) (ty := .int) (ksR e52.symm hk45) (by decide) rfl (fin fwX8) tyX8_ok nmX8 (by decide) (im tw_1_104) rfl rfl rfl rfl rfl rfl rfl dX8_ask_219 ?_
                              generalize e54 : sI S51 905 x0 ((gI S51 905 x0) + 1) = S53
                              have h := h S53 e54.symm
                              refine G_aload C (x := (some q29)) 0 dX8_ask_222 rfl ?_
                              refine G_get C (CC := RX7) (Tf := TX7) (N := 18) (k := 8) (i := 0) (v := Value.int (gI S53 800 q29)) (ksI e54.symm (ksR e52.symm hk49)) (by decide) rfl (fin fwX7) (by decide) (im tw_4_212) rfl rfl dX8_ask_224 ?_
                              refine G_vx ?_
                              exact G_iret C (mc := mc) (ms := ms) (post := post) hr hc33 hs34 dX8_ask_227 h
                            · have h := h.2 hc
                              obtain ⟨hq1, hq2, h⟩ := h
                              exact G_throw C hZ hl hx9 (cls := "java/lang/IllegalStateException") (text := "no more works") (ik := 68) (is := 206) (ic := 72) rfl (by decide) tw_2_47 tw_1_12 (List.mem_of_getElem? (i := 16) rfl) (at_ISE C.2.2.2.2.1 C.2.2.2.2.2.1) at_ISE_o dX8_ask_150 dX8_ask_153 dX8_ask_154 dX8_ask_156 dX8_ask_159 (Nat.le_of_ble_eq_true rfl) (by simp [va_cat, vi_cat, vl_cat]) hq1 hq2 (Nat.le_refl _) (Nat.le_refl _) h
                          · have h := h.2 hc
                            refine G_lv C (lv' := []) [] rfl ?_
                            exact J128 _ _ _ h
                  · have h := h.2 hc
                    refine G_lv C (lv' := []) [] rfl ?_
                    exact J80 _ _ _ h
set_option maxHeartbeats 4000000 in
set_option maxRecDepth 100000 in
theorem c_X8_grant (l : Launch) (hl : l.stackTraces = false) (D : va_G) (cy : Nat → Nat) (x0 : Nat) (x1 : Int32) (x2 : Int32) (S : PT) (mc ms : Nat) (post : Int32 → PT → Prop) (postX : String → PT → Prop) (h : w_X8_grant x0 x1 x2 S mc ms post postX) : Xi l yX8_grant (Wm yX8_grant prog_1_method_11_code 4 (Option.some Jvm.ClassFile.FieldType.int)) 6 132 D cy [va_rf (some x0), Value.int x1, Value.int x2] S mc ms post postX := by
  refine Xi_of (own := "Trenchboard") (by decide) rfl (by first | decide | simp [lg_sl, va_cat, vi_cat, vl_cat]) (fun p e s m below meth c A C hZ hr hx9 => ?_)
  have J54 : ∀ (c0 n0 : Nat) (S : PT), w_X8_grant_b54 x0 x1 x2 mc ms post postX c0 n0 S → G p l e { frames := 6, cells := mc, slots := ms, locals := 132 } s m [va_rf (some x0), Value.int x1, Value.int x2].toArray below meth c D cy A s.heap 4 (QXi below D cy A [va_rf (some x0), Value.int x1, Value.int x2] s mc ms post postX) S c0 n0 54 [] [] := by
    intro c0 n0 S h
    unfold w_X8_grant_b54 at h
    obtain ⟨hc00, hn00, h⟩ := h
    obtain ⟨hq1, hq2, h⟩ := h
    exact G_throw C hZ hl hx9 (cls := "java/lang/IllegalStateException") (text := "not asked, or barred") (ik := 68) (is := 233) (ic := 72) rfl (by decide) tw_2_47 tw_1_12 (List.mem_of_getElem? (i := 19) rfl) (at_ISE C.2.2.2.2.1 C.2.2.2.2.2.1) at_ISE_o dX8_grant_54 dX8_grant_57 dX8_grant_58 dX8_grant_60 dX8_grant_63 (Nat.le_of_ble_eq_true rfl) (by simp [va_cat, vi_cat, vl_cat]) hq1 hq2 (Nat.le_refl _) (Nat.le_refl _) h
  have J29 : ∀ (c0 n0 : Nat) (S : PT), w_X8_grant_b29 x0 x1 x2 mc ms post postX c0 n0 S → G p l e { frames := 6, cells := mc, slots := ms, locals := 132 } s m [va_rf (some x0), Value.int x1, Value.int x2].toArray below meth c D cy A s.heap 4 (QXi below D cy A [va_rf (some x0), Value.int x1, Value.int x2] s mc ms post postX) S c0 n0 29 [] [] := by
    intro c0 n0 S h
    unfold w_X8_grant_b29 at h
    obtain ⟨hc00, hn00, h⟩ := h
    obtain ⟨hq1, hq2, h⟩ := h
    exact G_throw C hZ hl hx9 (cls := "java/lang/IllegalArgumentException") (text := "conditions out of range") (ik := 59) (is := 227) (ic := 63) rfl (by decide) tw_1_210 tw_1_11 (List.mem_of_getElem? (i := 18) rfl) (at_IAE C.2.2.2.2.1 C.2.2.2.2.2.1) at_IAE_o dX8_grant_29 dX8_grant_32 dX8_grant_33 dX8_grant_35 dX8_grant_38 (Nat.le_of_ble_eq_true rfl) (by simp [va_cat, vi_cat, vl_cat]) hq1 hq2 (Nat.le_refl _) (Nat.le_refl _) h
  refine G_lv C (lv' := [(0, va_rf (some x0)), (1, Value.int x1), (2, Value.int x2)]) [0, 1, 2] (by first | rfl | simp [lv_pick, lv_args, va_cat, vi_cat, vl_cat]) ?_
  unfold w_X8_grant at h
  refine G_aload_n C (x := (some x0)) 0 dX8_grant_0 rfl rfl ?_
  refine G_iload_n C (x := x1) 1 dX8_grant_1 rfl rfl ?_
  obtain ⟨hk1, h⟩ := h
  refine G_callVq C hZ (Tf := TX8) (N := 10) hk1 (by decide) rfl tw_3_102 tw_3_104 tw_0_12 tw_1_1 tw_3_105 hy_X8_worksAt ⟨Nat.le_of_ble_eq_true rfl, Nat.le_of_ble_eq_true rfl⟩ (As := [Value.int x1]) (rest := []) (c_X8_worksAt l D cy x0 x1 S _ h) rfl rfl (by simp [va_cat, vi_cat, vl_cat]) dX8_grant_2 ⟨(Nat.zero_le _), (Nat.zero_le _)⟩ (fun r3 S2 h => ?_)
  refine G_astore_n C (i := 3) (lv' := [(3, va_rf r3), (0, va_rf (some x0)), (1, Value.int x1), (2, Value.int x2)]) dX8_grant_5 rfl (by decide) (by first | rfl | simp [va_cat, vi_cat, vl_cat]) ?_
  refine G_aload_n C (x := r3) 0 dX8_grant_6 rfl rfl ?_
  refine G_ifnonnull C (tgt := 20) dX8_grant_7 (by decide) (fun hc => ?_) (fun a4 ha5 => ?_)
  · have h := h.1 hc
    obtain ⟨hq1, hq2, h⟩ := h
    exact G_throw C hZ hl hx9 (cls := "java/lang/IndexOutOfBoundsException") (text := "no such works") (ik := 52) (is := 225) (ic := 56) rfl (by decide) tw_1_142 tw_1_10 (List.mem_of_getElem? (i := 17) rfl) (at_IOOBE C.2.2.2.2.1 C.2.2.2.2.2.1) at_IOOBE_o dX8_grant_10 dX8_grant_13 dX8_grant_14 dX8_grant_16 dX8_grant_19 (Nat.le_of_ble_eq_true rfl) (by simp [va_cat, vi_cat, vl_cat]) hq1 hq2 (Nat.le_refl _) (Nat.le_refl _) h
  · have h := h.2 a4 ha5
    refine G_iload_n C (x := x2) 3 dX8_grant_20 rfl rfl ?_
    refine G_if_lt C (tgt := 29) dX8_grant_21 (by decide) (fun hc => ?_) (fun hc => ?_)
    · have h := h.1 hc
      refine G_lv C (lv' := []) [] rfl ?_
      exact J29 _ _ _ h
    · have h := h.2 hc
      refine G_iload_n C (x := x2) 3 dX8_grant_24 rfl rfl ?_
      refine G_iconst C (v := 3) dX8_grant_25 (by decide) ?_
      refine G_icmp_le C (tgt := 39) dX8_grant_26 (by decide) (fun hc => ?_) (fun hc => ?_)
      · have h := h.1 hc
        refine G_aload_n C (x := r3) 0 dX8_grant_39 rfl rfl ?_
        refine G_rf ha5 ?_
        obtain ⟨hk6, h⟩ := h
        refine G_get C (CC := RX7) (Tf := TX7) (N := 18) (k := 8) (i := 10) (v := Value.int (gI S2 810 a4)) hk6 (by decide) rfl (fin fwX7) (by decide) (im tw_4_230) rfl rfl dX8_grant_40 ?_
        refine G_if_ne C (tgt := 54) dX8_grant_43 (by decide) (fun hc => ?_) (fun hc => ?_)
        · have h := h.1 hc
          refine G_lv C (lv' := []) [] rfl ?_
          exact J54 _ _ _ h
        · have h := h.2 hc
          refine G_aload_n C (x := (some x0)) 1 dX8_grant_46 rfl rfl ?_
          refine G_aload_n C (x := r3) 0 dX8_grant_47 rfl rfl ?_
          obtain ⟨hk7, h⟩ := h
          refine G_callVi C hZ (Tf := TX8) (N := 10) hk7 (by decide) rfl tw_3_108 tw_3_110 tw_0_13 tw_1_1 tw_3_111 hy_X8_whatBars ⟨Nat.le_of_ble_eq_true rfl, Nat.le_of_ble_eq_true rfl⟩ (As := [va_rf r3]) (rest := []) (c_X8_whatBars l D cy x0 r3 S2 _ h) rfl rfl (by simp [va_cat, vi_cat, vl_cat]) dX8_grant_48 ⟨(Nat.zero_le _), (Nat.zero_le _)⟩ (fun r9 S8 h => ?_)
          refine G_if_eq C (tgt := 64) dX8_grant_51 (by decide) (fun hc => ?_) (fun hc => ?_)
          · have h := h.1 hc
            refine G_aload_n C (x := (some x0)) 1 dX8_grant_64 rfl rfl ?_
            refine G_aload_n C (x := r3) 0 dX8_grant_65 rfl rfl ?_
            refine G_iload_n C (x := x2) 3 dX8_grant_66 rfl rfl ?_
            obtain ⟨hk10, h⟩ := h
            obtain ⟨m13, m14, hc15, hs16, h⟩ := h
            refine G_callVv C hZ (Tf := TX8) (N := 10) hk10 (by decide) rfl tw_3_150 tw_3_152 tw_0_15 tw_1_1 tw_3_153 hy_X8_permit ⟨Nat.le_of_ble_eq_true rfl, Nat.le_of_ble_eq_true rfl⟩ (As := [va_rf r3, Value.int x2]) (rest := []) (c_X8_permit l D cy x0 r3 x2 S8 m13 m14 _ h) rfl rfl (by simp [va_cat, vi_cat, vl_cat]) dX8_grant_67 ⟨hc15, hs16⟩ (fun S11 h => ?_)
            refine G_aload_n C (x := r3) 0 dX8_grant_70 rfl rfl ?_
            obtain ⟨hk17, h⟩ := h
            refine G_callVi C hZ (Tf := TX7) (N := 18) hk17 (by decide) rfl tw_3_154 tw_3_155 tw_3_156 tw_1_21 tw_3_157 hy_X7_permitCost ⟨Nat.le_of_ble_eq_true rfl, Nat.le_of_ble_eq_true rfl⟩ (As := []) (rest := []) (c_X7_permitCost l D cy a4 S11 _ h) rfl (by first | rfl | (simp only [ha5]; rfl) | simp only [ha5]) (by simp [va_cat, vi_cat, vl_cat]) dX8_grant_71 ⟨hc15, hs16⟩ (fun r19 S18 h => ?_)
            refine G_vx ?_
            exact G_iret C (mc := mc) (ms := ms) (post := post) hr hc15 hs16 dX8_grant_74 h
          · have h := h.2 hc
            refine G_lv C (lv' := []) [] rfl ?_
            exact J54 _ _ _ h
      · have h := h.2 hc
        refine G_lv C (lv' := []) [] rfl ?_
        exact J29 _ _ _ h
set_option maxHeartbeats 4000000 in
set_option maxRecDepth 100000 in
theorem c_X8_refuse (l : Launch) (hl : l.stackTraces = false) (D : va_G) (cy : Nat → Nat) (x0 : Nat) (x1 : Int32) (S : PT) (mc ms : Nat) (post : Int32 → PT → Prop) (postX : String → PT → Prop) (h : w_X8_refuse x0 x1 S mc ms post postX) : Xi l yX8_refuse (Wm yX8_refuse prog_1_method_12_code 4 (Option.some Jvm.ClassFile.FieldType.int)) 6 90 D cy [va_rf (some x0), Value.int x1] S mc ms post postX := by
  refine Xi_of (own := "Trenchboard") (by decide) rfl (by first | decide | simp [lg_sl, va_cat, vi_cat, vl_cat]) (fun p e s m below meth c A C hZ hr hx9 => ?_)
  have J45 : ∀ (c0 n0 : Nat) (S : PT) (v2 : Option Nat), w_X8_refuse_b45 x0 x1 mc ms post postX c0 n0 S v2 → G p l e { frames := 6, cells := mc, slots := ms, locals := 90 } s m [va_rf (some x0), Value.int x1].toArray below meth c D cy A s.heap 4 (QXi below D cy A [va_rf (some x0), Value.int x1] s mc ms post postX) S c0 n0 45 [(2, va_rf v2)] [] := by
    intro c0 n0 S v2 h
    unfold w_X8_refuse_b45 at h
    obtain ⟨hc00, hn00, h⟩ := h
    refine G_aload_n C (x := v2) 0 dX8_refuse_45 rfl rfl ?_
    obtain ⟨a1, ha2, h⟩ := h
    refine G_rf ha2 ?_
    obtain ⟨hk3, h⟩ := h
    refine G_get C (CC := RX7) (Tf := TX7) (N := 18) (k := 8) (i := 10) (v := Value.int (gI S 810 a1)) hk3 (by decide) rfl (fin fwX7) (by decide) (im tw_4_230) rfl rfl dX8_refuse_46 ?_
    refine G_istore_n C (i := 3) (lv' := [(3, Value.int (gI S 810 a1)), (2, va_rf v2)]) dX8_refuse_49 rfl (by decide) (by first | rfl | simp [va_cat, vi_cat, vl_cat]) ?_
    refine G_aload_n C (x := v2) 1 dX8_refuse_50 rfl rfl ?_
    refine G_iconst C (v := 2) dX8_refuse_51 (by decide) ?_
    refine G_rf1 ha2 ?_
    refine G_putI C (CC := RX7) (Tf := TX7) (N := 18) (k := 8) (i := 10) (f := 810) (x := 2) (ty0 := tyX7) (ty := .int) hk3 (by decide) rfl (fin fwX7) tyX7_ok nmX7 (by decide) (im tw_4_230) rfl rfl rfl rfl rfl rfl rfl dX8_refuse_52 ?_
    generalize e5 : sI S 810 a1 2 = S4
    have h := h S4 e5.symm
    refine G_iload_n C (x := (gI S 810 a1)) 0 dX8_refuse_55 rfl rfl ?_
    refine G_vx ?_
    exact G_iret C (mc := mc) (ms := ms) (post := post) hr hc00 hn00 dX8_refuse_56 h
  refine G_lv C (lv' := [(0, va_rf (some x0)), (1, Value.int x1)]) [0, 1] (by first | rfl | simp [lv_pick, lv_args, va_cat, vi_cat, vl_cat]) ?_
  unfold w_X8_refuse at h
  refine G_aload_n C (x := (some x0)) 0 dX8_refuse_0 rfl rfl ?_
  refine G_iload_n C (x := x1) 1 dX8_refuse_1 rfl rfl ?_
  obtain ⟨hk6, h⟩ := h
  refine G_callVq C hZ (Tf := TX8) (N := 10) hk6 (by decide) rfl tw_3_102 tw_3_104 tw_0_12 tw_1_1 tw_3_105 hy_X8_worksAt ⟨Nat.le_of_ble_eq_true rfl, Nat.le_of_ble_eq_true rfl⟩ (As := [Value.int x1]) (rest := []) (c_X8_worksAt l D cy x0 x1 S _ h) rfl rfl (by simp [va_cat, vi_cat, vl_cat]) dX8_refuse_2 ⟨(Nat.zero_le _), (Nat.zero_le _)⟩ (fun r8 S7 h => ?_)
  refine G_astore_n C (i := 2) (lv' := [(2, va_rf r8), (0, va_rf (some x0)), (1, Value.int x1)]) dX8_refuse_5 rfl (by decide) (by first | rfl | simp [va_cat, vi_cat, vl_cat]) ?_
  refine G_aload_n C (x := r8) 0 dX8_refuse_6 rfl rfl ?_
  refine G_ifnonnull C (tgt := 20) dX8_refuse_7 (by decide) (fun hc => ?_) (fun a9 ha10 => ?_)
  · have h := h.1 hc
    obtain ⟨hq1, hq2, h⟩ := h
    exact G_throw C hZ hl hx9 (cls := "java/lang/IndexOutOfBoundsException") (text := "no such works") (ik := 52) (is := 225) (ic := 56) rfl (by decide) tw_1_142 tw_1_10 (List.mem_of_getElem? (i := 17) rfl) (at_IOOBE C.2.2.2.2.1 C.2.2.2.2.2.1) at_IOOBE_o dX8_refuse_10 dX8_refuse_13 dX8_refuse_14 dX8_refuse_16 dX8_refuse_19 (Nat.le_of_ble_eq_true rfl) (by simp [va_cat, vi_cat, vl_cat]) hq1 hq2 (Nat.le_refl _) (Nat.le_refl _) h
  · have h := h.2 a9 ha10
    refine G_aload_n C (x := r8) 0 dX8_refuse_20 rfl rfl ?_
    refine G_rf ha10 ?_
    obtain ⟨hk11, h⟩ := h
    refine G_get C (CC := RX7) (Tf := TX7) (N := 18) (k := 8) (i := 10) (v := Value.int (gI S7 810 a9)) hk11 (by decide) rfl (fin fwX7) (by decide) (im tw_4_230) rfl rfl dX8_refuse_21 ?_
    refine G_if_eq C (tgt := 45) dX8_refuse_24 (by decide) (fun hc => ?_) (fun hc => ?_)
    · have h := h.1 hc
      refine G_lv C (lv' := [(2, va_rf r8)]) [0] rfl ?_
      exact J45 _ _ _ _ h
    · have h := h.2 hc
      refine G_aload_n C (x := r8) 0 dX8_refuse_27 rfl rfl ?_
      refine G_rf ha10 ?_
      refine G_get C (CC := RX7) (Tf := TX7) (N := 18) (k := 8) (i := 10) (v := Value.int (gI S7 810 a9)) hk11 (by decide) rfl (fin fwX7) (by decide) (im tw_4_230) rfl rfl dX8_refuse_28 ?_
      refine G_iconst C (v := 1) dX8_refuse_31 (by decide) ?_
      refine G_icmp_eq C (tgt := 45) dX8_refuse_32 (by decide) (fun hc => ?_) (fun hc => ?_)
      · have h := h.1 hc
        refine G_lv C (lv' := [(2, va_rf r8)]) [0] rfl ?_
        exact J45 _ _ _ _ h
      · have h := h.2 hc
        obtain ⟨hq1, hq2, h⟩ := h
        exact G_throw C hZ hl hx9 (cls := "java/lang/IllegalStateException") (text := "neither asked nor granted") (ik := 68) (is := 242) (ic := 72) rfl (by decide) tw_2_47 tw_1_12 (List.mem_of_getElem? (i := 20) rfl) (at_ISE C.2.2.2.2.1 C.2.2.2.2.2.1) at_ISE_o dX8_refuse_35 dX8_refuse_38 dX8_refuse_39 dX8_refuse_41 dX8_refuse_44 (Nat.le_of_ble_eq_true rfl) (by simp [va_cat, vi_cat, vl_cat]) hq1 hq2 (Nat.le_refl _) (Nat.le_refl _) h
set_option maxHeartbeats 4000000 in
set_option maxRecDepth 100000 in
theorem c_X8_vary (l : Launch) (hl : l.stackTraces = false) (D : va_G) (cy : Nat → Nat) (x0 : Nat) (x1 : Int32) (x2 : Int32) (S : PT) (mc ms : Nat) (post : Int32 → PT → Prop) (postX : String → PT → Prop) (h : w_X8_vary x0 x1 x2 S mc ms post postX) : Xi l yX8_vary (Wm yX8_vary prog_1_method_13_code 4 (Option.some Jvm.ClassFile.FieldType.int)) 6 90 D cy [va_rf (some x0), Value.int x1, Value.int x2] S mc ms post postX := by
  refine Xi_of (own := "Trenchboard") (by decide) rfl (by first | decide | simp [lg_sl, va_cat, vi_cat, vl_cat]) (fun p e s m below meth c A C hZ hr hx9 => ?_)
  have J29 : ∀ (c0 n0 : Nat) (S : PT), w_X8_vary_b29 x0 x1 x2 mc ms post postX c0 n0 S → G p l e { frames := 6, cells := mc, slots := ms, locals := 90 } s m [va_rf (some x0), Value.int x1, Value.int x2].toArray below meth c D cy A s.heap 4 (QXi below D cy A [va_rf (some x0), Value.int x1, Value.int x2] s mc ms post postX) S c0 n0 29 [] [] := by
    intro c0 n0 S h
    unfold w_X8_vary_b29 at h
    obtain ⟨hc00, hn00, h⟩ := h
    obtain ⟨hq1, hq2, h⟩ := h
    exact G_throw C hZ hl hx9 (cls := "java/lang/IllegalArgumentException") (text := "conditions out of range") (ik := 59) (is := 227) (ic := 63) rfl (by decide) tw_1_210 tw_1_11 (List.mem_of_getElem? (i := 18) rfl) (at_IAE C.2.2.2.2.1 C.2.2.2.2.2.1) at_IAE_o dX8_vary_29 dX8_vary_32 dX8_vary_33 dX8_vary_35 dX8_vary_38 (Nat.le_of_ble_eq_true rfl) (by simp [va_cat, vi_cat, vl_cat]) hq1 hq2 (Nat.le_refl _) (Nat.le_refl _) h
  refine G_lv C (lv' := [(0, va_rf (some x0)), (1, Value.int x1), (2, Value.int x2)]) [0, 1, 2] (by first | rfl | simp [lv_pick, lv_args, va_cat, vi_cat, vl_cat]) ?_
  unfold w_X8_vary at h
  refine G_aload_n C (x := (some x0)) 0 dX8_vary_0 rfl rfl ?_
  refine G_iload_n C (x := x1) 1 dX8_vary_1 rfl rfl ?_
  obtain ⟨hk1, h⟩ := h
  refine G_callVq C hZ (Tf := TX8) (N := 10) hk1 (by decide) rfl tw_3_102 tw_3_104 tw_0_12 tw_1_1 tw_3_105 hy_X8_worksAt ⟨Nat.le_of_ble_eq_true rfl, Nat.le_of_ble_eq_true rfl⟩ (As := [Value.int x1]) (rest := []) (c_X8_worksAt l D cy x0 x1 S _ h) rfl rfl (by simp [va_cat, vi_cat, vl_cat]) dX8_vary_2 ⟨(Nat.zero_le _), (Nat.zero_le _)⟩ (fun r3 S2 h => ?_)
  refine G_astore_n C (i := 3) (lv' := [(3, va_rf r3), (0, va_rf (some x0)), (1, Value.int x1), (2, Value.int x2)]) dX8_vary_5 rfl (by decide) (by first | rfl | simp [va_cat, vi_cat, vl_cat]) ?_
  refine G_aload_n C (x := r3) 0 dX8_vary_6 rfl rfl ?_
  refine G_ifnonnull C (tgt := 20) dX8_vary_7 (by decide) (fun hc => ?_) (fun a4 ha5 => ?_)
  · have h := h.1 hc
    obtain ⟨hq1, hq2, h⟩ := h
    exact G_throw C hZ hl hx9 (cls := "java/lang/IndexOutOfBoundsException") (text := "no such works") (ik := 52) (is := 225) (ic := 56) rfl (by decide) tw_1_142 tw_1_10 (List.mem_of_getElem? (i := 17) rfl) (at_IOOBE C.2.2.2.2.1 C.2.2.2.2.2.1) at_IOOBE_o dX8_vary_10 dX8_vary_13 dX8_vary_14 dX8_vary_16 dX8_vary_19 (Nat.le_of_ble_eq_true rfl) (by simp [va_cat, vi_cat, vl_cat]) hq1 hq2 (Nat.le_refl _) (Nat.le_refl _) h
  · have h := h.2 a4 ha5
    refine G_iload_n C (x := x2) 3 dX8_vary_20 rfl rfl ?_
    refine G_if_lt C (tgt := 29) dX8_vary_21 (by decide) (fun hc => ?_) (fun hc => ?_)
    · have h := h.1 hc
      refine G_lv C (lv' := []) [] rfl ?_
      exact J29 _ _ _ h
    · have h := h.2 hc
      refine G_iload_n C (x := x2) 3 dX8_vary_24 rfl rfl ?_
      refine G_iconst C (v := 3) dX8_vary_25 (by decide) ?_
      refine G_icmp_le C (tgt := 39) dX8_vary_26 (by decide) (fun hc => ?_) (fun hc => ?_)
      · have h := h.1 hc
        refine G_aload_n C (x := r3) 0 dX8_vary_39 rfl rfl ?_
        obtain ⟨hk6, h⟩ := h
        refine G_callVi C hZ (Tf := TX7) (N := 18) hk6 (by decide) rfl tw_3_125 tw_3_126 tw_3_127 tw_1_21 tw_3_128 hy_X7_isStanding ⟨Nat.le_of_ble_eq_true rfl, Nat.le_of_ble_eq_true rfl⟩ (As := []) (rest := []) (c_X7_isStanding l D cy a4 S2 _ h) rfl (by first | rfl | (simp only [ha5]; rfl) | simp only [ha5]) (by simp [va_cat, vi_cat, vl_cat]) dX8_vary_40 ⟨(Nat.zero_le _), (Nat.zero_le _)⟩ (fun r8 S7 h => ?_)
        obtain ⟨hb9, h⟩ := h
        refine G_if_ne C (tgt := 56) dX8_vary_43 (by decide) (fun hc => ?_) (fun hc => ?_)
        · have h := h.1 hc
          refine G_aload_n C (x := r3) 0 dX8_vary_56 rfl rfl ?_
          refine G_iload_n C (x := x2) 3 dX8_vary_57 rfl rfl ?_
          refine G_rf1 ha5 ?_
          obtain ⟨hk10, h⟩ := h
          refine G_putI C (CC := RX7) (Tf := TX7) (N := 18) (k := 8) (i := 11) (f := 811) (x := x2) (ty0 := tyX7) (ty := .int) hk10 (by decide) rfl (fin fwX7) tyX7_ok nmX7 (by decide) (im tw_4_232) rfl rfl rfl rfl rfl rfl rfl dX8_vary_58 ?_
          generalize e12 : sI S7 811 a4 x2 = S11
          have h := h S11 e12.symm
          refine G_aload_n C (x := r3) 0 dX8_vary_61 rfl rfl ?_
          refine G_dup C dX8_vary_62 (va_cat _) ?_
          refine G_rf ha5 ?_
          refine G_get C (CC := RX7) (Tf := TX7) (N := 18) (k := 8) (i := 12) (v := Value.int (gI S11 812 a4)) (ksI e12.symm hk10) (by decide) rfl (fin fwX7) (by decide) (im tw_4_233) rfl rfl dX8_vary_63 ?_
          refine G_iconst C (v := 1) dX8_vary_66 (by decide) ?_
          refine G_iadd C dX8_vary_67 ?_
          refine G_rf1 ha5 ?_
          refine G_putI C (CC := RX7) (Tf := TX7) (N := 18) (k := 8) (i := 12) (f := 812) (x := ((gI S11 812 a4) + 1)) (ty0 := tyX7) (ty := .int) (ksI e12.symm hk10) (by decide) rfl (fin fwX7) tyX7_ok nmX7 (by decide) (im tw_4_233) rfl rfl rfl rfl rfl rfl rfl dX8_vary_68 ?_
          generalize e14 : sI S11 812 a4 ((gI S11 812 a4) + 1) = S13
          have h := h S13 e14.symm
          refine G_aload_n C (x := r3) 0 dX8_vary_71 rfl rfl ?_
          refine G_rf ha5 ?_
          refine G_get C (CC := RX7) (Tf := TX7) (N := 18) (k := 8) (i := 12) (v := Value.int (gI S13 812 a4)) (ksI e14.symm (ksI e12.symm hk10)) (by decide) rfl (fin fwX7) (by decide) (im tw_4_233) rfl rfl dX8_vary_72 ?_
          refine G_vx ?_
          exact G_iret C (mc := mc) (ms := ms) (post := post) hr (Nat.zero_le _) (Nat.zero_le _) dX8_vary_75 h
        · have h := h.2 hc
          obtain ⟨hq1, hq2, h⟩ := h
          exact G_throw C hZ hl hx9 (cls := "java/lang/IllegalStateException") (text := "neither granted nor run") (ik := 68) (is := 247) (ic := 72) rfl (by decide) tw_2_47 tw_1_12 (List.mem_of_getElem? (i := 21) rfl) (at_ISE C.2.2.2.2.1 C.2.2.2.2.2.1) at_ISE_o dX8_vary_46 dX8_vary_49 dX8_vary_50 dX8_vary_52 dX8_vary_55 (Nat.le_of_ble_eq_true rfl) (by simp [va_cat, vi_cat, vl_cat]) hq1 hq2 (Nat.le_refl _) (Nat.le_refl _) h
      · have h := h.2 hc
        refine G_lv C (lv' := []) [] rfl ?_
        exact J29 _ _ _ h
set_option maxHeartbeats 4000000 in
set_option maxRecDepth 100000 in
theorem c_X8_exempt (l : Launch) (hl : l.stackTraces = false) (D : va_G) (cy : Nat → Nat) (x0 : Nat) (x1 : Int32) (S : PT) (mc ms : Nat) (post : Int32 → PT → Prop) (postX : String → PT → Prop) (h : w_X8_exempt x0 x1 S mc ms post postX) : Xi l yX8_exempt (Wm yX8_exempt prog_1_method_14_code 3 (Option.some Jvm.ClassFile.FieldType.boolean)) 6 90 D cy [va_rf (some x0), Value.int x1] S mc ms (fun r S => bo r ∧ post r S) postX := by
  refine Xi_of (own := "Trenchboard") (by decide) rfl (by first | decide | simp [lg_sl, va_cat, vi_cat, vl_cat]) (fun p e s m below meth c A C hZ hr hx9 => ?_)
  have J33 : ∀ (c0 n0 : Nat) (S : PT) (v2 : Option Nat) (s0 : Option Nat) (s1 : Int32), w_X8_exempt_b33 x0 x1 mc ms post postX c0 n0 S v2 s0 s1 → G p l e { frames := 6, cells := mc, slots := ms, locals := 90 } s m [va_rf (some x0), Value.int x1].toArray below meth c D cy A s.heap 3 (QXi below D cy A [va_rf (some x0), Value.int x1] s mc ms (fun r S => bo r ∧ post r S) postX) S c0 n0 33 [(2, va_rf v2)] [Value.int s1, va_rf s0] := by
    intro c0 n0 S v2 s0 s1 h
    unfold w_X8_exempt_b33 at h
    obtain ⟨hc00, hn00, h⟩ := h
    obtain ⟨a1, ha2, h⟩ := h
    refine G_rf1 ha2 ?_
    obtain ⟨hk3, h⟩ := h
    obtain ⟨hb4, h⟩ := h
    refine G_putI C (CC := RX7) (Tf := TX7) (N := 18) (k := 8) (i := 17) (f := 817) (x := s1) (ty0 := tyX7) (ty := .boolean) hk3 (by decide) rfl (fin fwX7) tyX7_ok nmX7 (by decide) (im tw_5_1) rfl rfl rfl (bo_nar hb4) (bo_fit hb4) rfl rfl dX8_exempt_33 ?_
    generalize e6 : sI S 817 a1 s1 = S5
    have h := h S5 e6.symm
    refine G_aload_n C (x := v2) 0 dX8_exempt_36 rfl rfl ?_
    obtain ⟨a7, ha8, h⟩ := h
    refine G_rf ha8 ?_
    obtain ⟨hk9, h⟩ := h
    refine G_get C (CC := RX7) (Tf := TX7) (N := 18) (k := 8) (i := 17) (v := Value.int (gI S5 817 a7)) hk9 (by decide) rfl (fin fwX7) (by decide) (im tw_5_1) rfl rfl dX8_exempt_37 ?_
    obtain ⟨hb10, h⟩ := h
    refine G_vx ?_
    exact G_zret C (mc := mc) (ms := ms) (post := (fun r S => bo r ∧ post r S)) (bo_nar hb10) hr hc00 hn00 dX8_exempt_40 ⟨hb10, h⟩
  refine G_lv C (lv' := [(0, va_rf (some x0)), (1, Value.int x1)]) [0, 1] (by first | rfl | simp [lv_pick, lv_args, va_cat, vi_cat, vl_cat]) ?_
  unfold w_X8_exempt at h
  refine G_aload_n C (x := (some x0)) 0 dX8_exempt_0 rfl rfl ?_
  refine G_iload_n C (x := x1) 1 dX8_exempt_1 rfl rfl ?_
  obtain ⟨hk11, h⟩ := h
  refine G_callVq C hZ (Tf := TX8) (N := 10) hk11 (by decide) rfl tw_3_102 tw_3_104 tw_0_12 tw_1_1 tw_3_105 hy_X8_worksAt ⟨Nat.le_of_ble_eq_true rfl, Nat.le_of_ble_eq_true rfl⟩ (As := [Value.int x1]) (rest := []) (c_X8_worksAt l D cy x0 x1 S _ h) rfl rfl (by simp [va_cat, vi_cat, vl_cat]) dX8_exempt_2 ⟨(Nat.zero_le _), (Nat.zero_le _)⟩ (fun r13 S12 h => ?_)
  refine G_astore_n C (i := 2) (lv' := [(2, va_rf r13), (0, va_rf (some x0)), (1, Value.int x1)]) dX8_exempt_5 rfl (by decide) (by first | rfl | simp [va_cat, vi_cat, vl_cat]) ?_
  refine G_aload_n C (x := r13) 0 dX8_exempt_6 rfl rfl ?_
  refine G_ifnonnull C (tgt := 20) dX8_exempt_7 (by decide) (fun hc => ?_) (fun a14 ha15 => ?_)
  · have h := h.1 hc
    obtain ⟨hq1, hq2, h⟩ := h
    exact G_throw C hZ hl hx9 (cls := "java/lang/IndexOutOfBoundsException") (text := "no such works") (ik := 52) (is := 225) (ic := 56) rfl (by decide) tw_1_142 tw_1_10 (List.mem_of_getElem? (i := 17) rfl) (at_IOOBE C.2.2.2.2.1 C.2.2.2.2.2.1) at_IOOBE_o dX8_exempt_10 dX8_exempt_13 dX8_exempt_14 dX8_exempt_16 dX8_exempt_19 (Nat.le_of_ble_eq_true rfl) (by simp [va_cat, vi_cat, vl_cat]) hq1 hq2 (Nat.le_refl _) (Nat.le_refl _) h
  · have h := h.2 a14 ha15
    refine G_aload_n C (x := r13) 0 dX8_exempt_20 rfl rfl ?_
    refine G_aload_n C (x := r13) 0 dX8_exempt_21 rfl rfl ?_
    refine G_rf ha15 ?_
    obtain ⟨hk16, h⟩ := h
    refine G_get C (CC := RX7) (Tf := TX7) (N := 18) (k := 8) (i := 17) (v := Value.int (gI S12 817 a14)) hk16 (by decide) rfl (fin fwX7) (by decide) (im tw_5_1) rfl rfl dX8_exempt_22 ?_
    refine G_if_ne C (tgt := 32) dX8_exempt_25 (by decide) (fun hc => ?_) (fun hc => ?_)
    · have h := h.1 hc
      refine G_iconst C (v := 0) dX8_exempt_32 (by decide) ?_
      refine G_lv C (lv' := [(2, va_rf r13)]) [0] rfl ?_
      exact J33 _ _ _ _ _ _ h
    · have h := h.2 hc
      refine G_iconst C (v := 1) dX8_exempt_28 (by decide) ?_
      refine G_goto C (tgt := 33) dX8_exempt_29 (by decide) ?_
      refine G_lv C (lv' := [(2, va_rf r13)]) [0] rfl ?_
      exact J33 _ _ _ _ _ _ h
set_option maxHeartbeats 4000000 in
set_option maxRecDepth 100000 in
theorem c_X8_agree (l : Launch) (hl : l.stackTraces = false) (D : va_G) (cy : Nat → Nat) (x0 : Nat) (x1 : Int32) (x2 : Int32) (S : PT) (mc ms : Nat) (post : Int32 → PT → Prop) (postX : String → PT → Prop) (h : w_X8_agree x0 x1 x2 S mc ms post postX) : Xi l yX8_agree (Wm yX8_agree prog_1_method_15_code 5 (Option.some Jvm.ClassFile.FieldType.boolean)) 6 90 D cy [va_rf (some x0), Value.int x1, Value.int x2] S mc ms (fun r S => bo r ∧ post r S) postX := by
  refine Xi_of (own := "Trenchboard") (by decide) rfl (by first | decide | simp [lg_sl, va_cat, vi_cat, vl_cat]) (fun p e s m below meth c A C hZ hr hx9 => ?_)
  have J22 : ∀ (c0 n0 : Nat) (S : PT), w_X8_agree_b22 x0 x1 x2 mc ms post postX c0 n0 S → G p l e { frames := 6, cells := mc, slots := ms, locals := 90 } s m [va_rf (some x0), Value.int x1, Value.int x2].toArray below meth c D cy A s.heap 5 (QXi below D cy A [va_rf (some x0), Value.int x1, Value.int x2] s mc ms (fun r S => bo r ∧ post r S) postX) S c0 n0 22 [] [] := by
    intro c0 n0 S h
    unfold w_X8_agree_b22 at h
    obtain ⟨hc00, hn00, h⟩ := h
    obtain ⟨hq1, hq2, h⟩ := h
    exact G_throw C hZ hl hx9 (cls := "java/lang/IndexOutOfBoundsException") (text := "no such works") (ik := 52) (is := 225) (ic := 56) rfl (by decide) tw_1_142 tw_1_10 (List.mem_of_getElem? (i := 17) rfl) (at_IOOBE C.2.2.2.2.1 C.2.2.2.2.2.1) at_IOOBE_o dX8_agree_22 dX8_agree_25 dX8_agree_26 dX8_agree_28 dX8_agree_31 (Nat.le_of_ble_eq_true rfl) (by simp [va_cat, vi_cat, vl_cat]) hq1 hq2 (Nat.le_refl _) (Nat.le_refl _) h
  refine G_lv C (lv' := [(0, va_rf (some x0)), (1, Value.int x1), (2, Value.int x2)]) [0, 1, 2] (by first | rfl | simp [lv_pick, lv_args, va_cat, vi_cat, vl_cat]) ?_
  unfold w_X8_agree at h
  refine G_aload_n C (x := (some x0)) 0 dX8_agree_0 rfl rfl ?_
  refine G_iload_n C (x := x1) 1 dX8_agree_1 rfl rfl ?_
  obtain ⟨hk1, h⟩ := h
  refine G_callVq C hZ (Tf := TX8) (N := 10) hk1 (by decide) rfl tw_3_102 tw_3_104 tw_0_12 tw_1_1 tw_3_105 hy_X8_worksAt ⟨Nat.le_of_ble_eq_true rfl, Nat.le_of_ble_eq_true rfl⟩ (As := [Value.int x1]) (rest := []) (c_X8_worksAt l D cy x0 x1 S _ h) rfl rfl (by simp [va_cat, vi_cat, vl_cat]) dX8_agree_2 ⟨(Nat.zero_le _), (Nat.zero_le _)⟩ (fun r3 S2 h => ?_)
  refine G_astore_n C (i := 3) (lv' := [(3, va_rf r3), (0, va_rf (some x0)), (1, Value.int x1), (2, Value.int x2)]) dX8_agree_5 rfl (by decide) (by first | rfl | simp [va_cat, vi_cat, vl_cat]) ?_
  refine G_aload_n C (x := (some x0)) 1 dX8_agree_6 rfl rfl ?_
  refine G_iload_n C (x := x2) 3 dX8_agree_7 rfl rfl ?_
  obtain ⟨hk4, h⟩ := h
  refine G_callVq C hZ (Tf := TX8) (N := 10) hk4 (by decide) rfl tw_3_102 tw_3_104 tw_0_12 tw_1_1 tw_3_105 hy_X8_worksAt ⟨Nat.le_of_ble_eq_true rfl, Nat.le_of_ble_eq_true rfl⟩ (As := [Value.int x2]) (rest := []) (c_X8_worksAt l D cy x0 x2 S2 _ h) rfl rfl (by simp [va_cat, vi_cat, vl_cat]) dX8_agree_8 ⟨(Nat.zero_le _), (Nat.zero_le _)⟩ (fun r6 S5 h => ?_)
  refine G_astore C (i := 4) (lv' := [(4, va_rf r6), (3, va_rf r3), (0, va_rf (some x0)), (1, Value.int x1), (2, Value.int x2)]) dX8_agree_11 (by decide) (by first | rfl | simp [va_cat, vi_cat, vl_cat]) ?_
  refine G_aload_n C (x := r3) 1 dX8_agree_13 rfl rfl ?_
  refine G_ifnull C (tgt := 22) dX8_agree_14 (by decide) (fun hc => ?_) (fun a7 ha8 => ?_)
  · have h := h.1 hc
    refine G_lv C (lv' := []) [] rfl ?_
    exact J22 _ _ _ h
  · have h := h.2 a7 ha8
    refine G_aload C (x := r6) 0 dX8_agree_17 rfl ?_
    refine G_ifnonnull C (tgt := 32) dX8_agree_19 (by decide) (fun hc => ?_) (fun a9 ha10 => ?_)
    · have h := h.1 hc
      refine G_lv C (lv' := []) [] rfl ?_
      exact J22 _ _ _ h
    · have h := h.2 a9 ha10
      refine G_iload_n C (x := x1) 3 dX8_agree_32 rfl rfl ?_
      refine G_iload_n C (x := x2) 4 dX8_agree_33 rfl rfl ?_
      refine G_icmp_ne C (tgt := 48) dX8_agree_34 (by decide) (fun hc => ?_) (fun hc => ?_)
      · have h := h.1 hc
        refine G_aload_n C (x := r3) 1 dX8_agree_48 rfl rfl ?_
        refine G_dup C dX8_agree_49 (va_cat _) ?_
        refine G_rf ha8 ?_
        obtain ⟨hk11, h⟩ := h
        refine G_get C (CC := RX7) (Tf := TX7) (N := 18) (k := 8) (i := 14) (v := Value.int (gI S5 814 a7)) hk11 (by decide) rfl (fin fwX7) (by decide) (im tw_4_236) rfl rfl dX8_agree_50 ?_
        refine G_aload C (x := r6) 0 dX8_agree_53 rfl ?_
        obtain ⟨hk12, h⟩ := h
        refine G_callVi C hZ (Tf := TX7) (N := 18) hk12 (by decide) rfl tw_3_200 tw_3_142 tw_3_143 tw_1_21 tw_3_144 hy_X7_bit ⟨Nat.le_of_ble_eq_true rfl, Nat.le_of_ble_eq_true rfl⟩ (As := []) (rest := [Value.int (gI S5 814 a7), va_rf r3]) (c_X7_bit l D cy a9 S5 _ h) rfl (by first | rfl | (simp only [ha10]; rfl) | simp only [ha10]) (by simp [va_cat, vi_cat, vl_cat]) dX8_agree_55 ⟨(Nat.zero_le _), (Nat.zero_le _)⟩ (fun r14 S13 h => ?_)
        refine G_ixor C dX8_agree_58 ?_
        refine G_rf1 ha8 ?_
        obtain ⟨hk15, h⟩ := h
        refine G_putI C (CC := RX7) (Tf := TX7) (N := 18) (k := 8) (i := 14) (f := 814) (x := ((gI S5 814 a7) ^^^ r14)) (ty0 := tyX7) (ty := .int) hk15 (by decide) rfl (fin fwX7) tyX7_ok nmX7 (by decide) (im tw_4_236) rfl rfl rfl rfl rfl rfl rfl dX8_agree_59 ?_
        generalize e17 : sI S13 814 a7 ((gI S5 814 a7) ^^^ r14) = S16
        have h := h S16 e17.symm
        refine G_aload C (x := r6) 0 dX8_agree_62 rfl ?_
        refine G_dup C dX8_agree_64 (va_cat _) ?_
        refine G_rf ha10 ?_
        obtain ⟨hk18, h⟩ := h
        refine G_get C (CC := RX7) (Tf := TX7) (N := 18) (k := 8) (i := 14) (v := Value.int (gI S16 814 a9)) hk18 (by decide) rfl (fin fwX7) (by decide) (im tw_4_236) rfl rfl dX8_agree_65 ?_
        refine G_aload_n C (x := r3) 1 dX8_agree_68 rfl rfl ?_
        refine G_callVi C hZ (Tf := TX7) (N := 18) (ksI e17.symm hk15) (by decide) rfl tw_3_200 tw_3_142 tw_3_143 tw_1_21 tw_3_144 hy_X7_bit ⟨Nat.le_of_ble_eq_true rfl, Nat.le_of_ble_eq_true rfl⟩ (As := []) (rest := [Value.int (gI S16 814 a9), va_rf r6]) (c_X7_bit l D cy a7 S16 _ h) rfl (by first | rfl | (simp only [ha8]; rfl) | simp only [ha8]) (by simp [va_cat, vi_cat, vl_cat]) dX8_agree_69 ⟨(Nat.zero_le _), (Nat.zero_le _)⟩ (fun r20 S19 h => ?_)
        refine G_ixor C dX8_agree_72 ?_
        refine G_rf1 ha10 ?_
        obtain ⟨hk21, h⟩ := h
        refine G_putI C (CC := RX7) (Tf := TX7) (N := 18) (k := 8) (i := 14) (f := 814) (x := ((gI S16 814 a9) ^^^ r20)) (ty0 := tyX7) (ty := .int) hk21 (by decide) rfl (fin fwX7) tyX7_ok nmX7 (by decide) (im tw_4_236) rfl rfl rfl rfl rfl rfl rfl dX8_agree_73 ?_
        generalize e23 : sI S19 814 a9 ((gI S16 814 a9) ^^^ r20) = S22
        have h := h S22 e23.symm
        refine G_aload_n C (x := r3) 1 dX8_agree_76 rfl rfl ?_
        refine G_aload C (x := r6) 0 dX8_agree_77 rfl ?_
        obtain ⟨hk24, h⟩ := h
        refine G_callVi C hZ (Tf := TX7) (N := 18) hk24 (by decide) rfl tw_3_137 tw_3_138 tw_3_139 tw_1_21 tw_3_140 hy_X7_agreesWith ⟨Nat.le_of_ble_eq_true rfl, Nat.le_of_ble_eq_true rfl⟩ (As := [va_rf r6]) (rest := []) (c_X7_agreesWith l D cy a7 r6 S22 _ h) rfl (by first | rfl | (simp only [ha8]; rfl) | simp only [ha8]) (by simp [va_cat, vi_cat, vl_cat]) dX8_agree_79 ⟨(Nat.zero_le _), (Nat.zero_le _)⟩ (fun r26 S25 h => ?_)
        obtain ⟨hb27, h⟩ := h
        refine G_vx ?_
        exact G_zret C (mc := mc) (ms := ms) (post := (fun r S => bo r ∧ post r S)) (bo_nar hb27) hr (Nat.zero_le _) (Nat.zero_le _) dX8_agree_82 ⟨hb27, h⟩
      · have h := h.2 hc
        obtain ⟨hq1, hq2, h⟩ := h
        exact G_throwW C hZ hl hx9 (cls := "java/lang/IllegalArgumentException") (text := "the same works twice") (ik := 59) (is := 258) (ic := 63) rfl (by decide) tw_1_210 tw_1_11 (List.mem_of_getElem? (i := 22) rfl) (at_IAE C.2.2.2.2.1 C.2.2.2.2.2.1) at_IAE_o dX8_agree_37 dX8_agree_40 dX8_agree_41 dX8_agree_44 dX8_agree_47 (Nat.le_of_ble_eq_true rfl) (by simp [va_cat, vi_cat, vl_cat]) hq1 hq2 (Nat.le_refl _) (Nat.le_refl _) h
set_option maxHeartbeats 4000000 in
set_option maxRecDepth 100000 in
theorem c_X8_start (l : Launch) (hl : l.stackTraces = false) (D : va_G) (cy : Nat → Nat) (x0 : Nat) (x1 : Int32) (S : PT) (mc ms : Nat) (post : Int32 → PT → Prop) (postX : String → PT → Prop) (h : w_X8_start x0 x1 S mc ms post postX) : Xi l yX8_start (Wm yX8_start prog_1_method_16_code 3 (Option.some Jvm.ClassFile.FieldType.int)) 6 90 D cy [va_rf (some x0), Value.int x1] S mc ms post postX := by
  refine Xi_of (own := "Trenchboard") (by decide) rfl (by first | decide | simp [lg_sl, va_cat, vi_cat, vl_cat]) (fun p e s m below meth c A C hZ hr hx9 => ?_)
  have J50 : ∀ (c0 n0 : Nat) (S : PT), w_X8_start_b50 x0 x1 mc ms post postX c0 n0 S → G p l e { frames := 6, cells := mc, slots := ms, locals := 90 } s m [va_rf (some x0), Value.int x1].toArray below meth c D cy A s.heap 3 (QXi below D cy A [va_rf (some x0), Value.int x1] s mc ms post postX) S c0 n0 50 [] [] := by
    intro c0 n0 S h
    unfold w_X8_start_b50 at h
    obtain ⟨hc00, hn00, h⟩ := h
    obtain ⟨hq1, hq2, h⟩ := h
    exact G_throwW C hZ hl hx9 (cls := "java/lang/IllegalStateException") (text := "not granted, or on none of their days") (ik := 68) (is := 270) (ic := 72) rfl (by decide) tw_2_47 tw_1_12 (List.mem_of_getElem? (i := 23) rfl) (at_ISE C.2.2.2.2.1 C.2.2.2.2.2.1) at_ISE_o dX8_start_50 dX8_start_53 dX8_start_54 dX8_start_57 dX8_start_60 (Nat.le_of_ble_eq_true rfl) (by simp [va_cat, vi_cat, vl_cat]) hq1 hq2 (Nat.le_refl _) (Nat.le_refl _) h
  refine G_lv C (lv' := [(0, va_rf (some x0)), (1, Value.int x1)]) [0, 1] (by first | rfl | simp [lv_pick, lv_args, va_cat, vi_cat, vl_cat]) ?_
  unfold w_X8_start at h
  refine G_aload_n C (x := (some x0)) 0 dX8_start_0 rfl rfl ?_
  refine G_iload_n C (x := x1) 1 dX8_start_1 rfl rfl ?_
  obtain ⟨hk1, h⟩ := h
  refine G_callVq C hZ (Tf := TX8) (N := 10) hk1 (by decide) rfl tw_3_102 tw_3_104 tw_0_12 tw_1_1 tw_3_105 hy_X8_worksAt ⟨Nat.le_of_ble_eq_true rfl, Nat.le_of_ble_eq_true rfl⟩ (As := [Value.int x1]) (rest := []) (c_X8_worksAt l D cy x0 x1 S _ h) rfl rfl (by simp [va_cat, vi_cat, vl_cat]) dX8_start_2 ⟨(Nat.zero_le _), (Nat.zero_le _)⟩ (fun r3 S2 h => ?_)
  refine G_astore_n C (i := 2) (lv' := [(2, va_rf r3), (0, va_rf (some x0)), (1, Value.int x1)]) dX8_start_5 rfl (by decide) (by first | rfl | simp [va_cat, vi_cat, vl_cat]) ?_
  refine G_aload_n C (x := r3) 0 dX8_start_6 rfl rfl ?_
  refine G_ifnonnull C (tgt := 20) dX8_start_7 (by decide) (fun hc => ?_) (fun a4 ha5 => ?_)
  · have h := h.1 hc
    obtain ⟨hq1, hq2, h⟩ := h
    exact G_throw C hZ hl hx9 (cls := "java/lang/IndexOutOfBoundsException") (text := "no such works") (ik := 52) (is := 225) (ic := 56) rfl (by decide) tw_1_142 tw_1_10 (List.mem_of_getElem? (i := 17) rfl) (at_IOOBE C.2.2.2.2.1 C.2.2.2.2.2.1) at_IOOBE_o dX8_start_10 dX8_start_13 dX8_start_14 dX8_start_16 dX8_start_19 (Nat.le_of_ble_eq_true rfl) (by simp [va_cat, vi_cat, vl_cat]) hq1 hq2 (Nat.le_refl _) (Nat.le_refl _) h
  · have h := h.2 a4 ha5
    refine G_aload_n C (x := r3) 0 dX8_start_20 rfl rfl ?_
    refine G_rf ha5 ?_
    obtain ⟨hk6, h⟩ := h
    refine G_get C (CC := RX7) (Tf := TX7) (N := 18) (k := 8) (i := 10) (v := Value.int (gI S2 810 a4)) hk6 (by decide) rfl (fin fwX7) (by decide) (im tw_4_230) rfl rfl dX8_start_21 ?_
    refine G_iconst C (v := 1) dX8_start_24 (by decide) ?_
    refine G_icmp_ne C (tgt := 50) dX8_start_25 (by decide) (fun hc => ?_) (fun hc => ?_)
    · have h := h.1 hc
      refine G_lv C (lv' := []) [] rfl ?_
      exact J50 _ _ _ h
    · have h := h.2 hc
      refine G_aload_n C (x := (some x0)) 1 dX8_start_28 rfl rfl ?_
      obtain ⟨hk7, h⟩ := h
      refine G_callVi C hZ (Tf := TX8) (N := 10) hk7 (by decide) rfl tw_1_234 tw_1_236 tw_0_3 tw_1_1 tw_1_237 hy_X8_today ⟨Nat.le_of_ble_eq_true rfl, Nat.le_of_ble_eq_true rfl⟩ (As := []) (rest := []) (c_X8_today l D cy x0 S2 _ h) rfl rfl (by simp [va_cat, vi_cat, vl_cat]) dX8_start_29 ⟨(Nat.zero_le _), (Nat.zero_le _)⟩ (fun r9 S8 h => ?_)
      refine G_aload_n C (x := r3) 0 dX8_start_32 rfl rfl ?_
      refine G_rf ha5 ?_
      obtain ⟨hk10, h⟩ := h
      refine G_get C (CC := RX7) (Tf := TX7) (N := 18) (k := 8) (i := 8) (v := Value.int (gI S8 808 a4)) hk10 (by decide) rfl (fin fwX7) (by decide) (im tw_4_226) rfl rfl dX8_start_33 ?_
      refine G_icmp_lt C (tgt := 50) dX8_start_36 (by decide) (fun hc => ?_) (fun hc => ?_)
      · have h := h.1 hc
        refine G_lv C (lv' := []) [] rfl ?_
        exact J50 _ _ _ h
      · have h := h.2 hc
        refine G_aload_n C (x := (some x0)) 1 dX8_start_39 rfl rfl ?_
        obtain ⟨hk11, h⟩ := h
        refine G_callVi C hZ (Tf := TX8) (N := 10) hk11 (by decide) rfl tw_1_234 tw_1_236 tw_0_3 tw_1_1 tw_1_237 hy_X8_today ⟨Nat.le_of_ble_eq_true rfl, Nat.le_of_ble_eq_true rfl⟩ (As := []) (rest := []) (c_X8_today l D cy x0 S8 _ h) rfl rfl (by simp [va_cat, vi_cat, vl_cat]) dX8_start_40 ⟨(Nat.zero_le _), (Nat.zero_le _)⟩ (fun r13 S12 h => ?_)
        refine G_aload_n C (x := r3) 0 dX8_start_43 rfl rfl ?_
        refine G_rf ha5 ?_
        obtain ⟨hk14, h⟩ := h
        refine G_get C (CC := RX7) (Tf := TX7) (N := 18) (k := 8) (i := 9) (v := Value.int (gI S12 809 a4)) hk14 (by decide) rfl (fin fwX7) (by decide) (im tw_4_228) rfl rfl dX8_start_44 ?_
        refine G_icmp_le C (tgt := 61) dX8_start_47 (by decide) (fun hc => ?_) (fun hc => ?_)
        · have h := h.1 hc
          refine G_aload_n C (x := r3) 0 dX8_start_61 rfl rfl ?_
          refine G_iconst C (v := 3) dX8_start_62 (by decide) ?_
          refine G_rf1 ha5 ?_
          refine G_putI C (CC := RX7) (Tf := TX7) (N := 18) (k := 8) (i := 10) (f := 810) (x := 3) (ty0 := tyX7) (ty := .int) hk14 (by decide) rfl (fin fwX7) tyX7_ok nmX7 (by decide) (im tw_4_230) rfl rfl rfl rfl rfl rfl rfl dX8_start_63 ?_
          generalize e16 : sI S12 810 a4 3 = S15
          have h := h S15 e16.symm
          refine G_aload_n C (x := r3) 0 dX8_start_66 rfl rfl ?_
          refine G_rf ha5 ?_
          refine G_get C (CC := RX7) (Tf := TX7) (N := 18) (k := 8) (i := 9) (v := Value.int (gI S15 809 a4)) (ksI e16.symm hk14) (by decide) rfl (fin fwX7) (by decide) (im tw_4_228) rfl rfl dX8_start_67 ?_
          refine G_vx ?_
          exact G_iret C (mc := mc) (ms := ms) (post := post) hr (Nat.zero_le _) (Nat.zero_le _) dX8_start_70 h
        · have h := h.2 hc
          refine G_lv C (lv' := []) [] rfl ?_
          exact J50 _ _ _ h
set_option maxHeartbeats 4000000 in
set_option maxRecDepth 100000 in
theorem c_X8_open (l : Launch) (hl : l.stackTraces = false) (D : va_G) (cy : Nat → Nat) (x0 : Nat) (x1 : Int32) (x2 : Int32) (S : PT) (mc ms : Nat) (post : Int32 → PT → Prop) (postX : String → PT → Prop) (h : w_X8_open x0 x1 x2 S mc ms post postX) : Xi l yX8_open (Wm yX8_open prog_1_method_17_code 6 (Option.some Jvm.ClassFile.FieldType.int)) 6 135 D cy [va_rf (some x0), Value.int x1, Value.int x2] S mc ms post postX := by
  refine Xi_of (own := "Trenchboard") (by decide) rfl (by first | decide | simp [lg_sl, va_cat, vi_cat, vl_cat]) (fun p e s m below meth c A C hZ hr hx9 => ?_)
  have J30 : ∀ (c0 n0 : Nat) (S : PT), w_X8_open_b30 x0 x1 x2 mc ms post postX c0 n0 S → G p l e { frames := 6, cells := mc, slots := ms, locals := 135 } s m [va_rf (some x0), Value.int x1, Value.int x2].toArray below meth c D cy A s.heap 6 (QXi below D cy A [va_rf (some x0), Value.int x1, Value.int x2] s mc ms post postX) S c0 n0 30 [] [] := by
    intro c0 n0 S h
    unfold w_X8_open_b30 at h
    obtain ⟨hc00, hn00, h⟩ := h
    obtain ⟨hq1, hq2, h⟩ := h
    exact G_throwW C hZ hl hx9 (cls := "java/lang/IndexOutOfBoundsException") (text := "no such works, or no metre of theirs") (ik := 52) (is := 275) (ic := 56) rfl (by decide) tw_1_142 tw_1_10 (List.mem_of_getElem? (i := 24) rfl) (at_IOOBE C.2.2.2.2.1 C.2.2.2.2.2.1) at_IOOBE_o dX8_open_30 dX8_open_33 dX8_open_34 dX8_open_37 dX8_open_40 (Nat.le_of_ble_eq_true rfl) (by simp [va_cat, vi_cat, vl_cat]) hq1 hq2 (Nat.le_refl _) (Nat.le_refl _) h
  have J71 : ∀ (c0 n0 : Nat) (S : PT), w_X8_open_b71 x0 x1 x2 mc ms post postX c0 n0 S → G p l e { frames := 6, cells := mc, slots := ms, locals := 135 } s m [va_rf (some x0), Value.int x1, Value.int x2].toArray below meth c D cy A s.heap 6 (QXi below D cy A [va_rf (some x0), Value.int x1, Value.int x2] s mc ms post postX) S c0 n0 71 [] [] := by
    intro c0 n0 S h
    unfold w_X8_open_b71 at h
    obtain ⟨hc00, hn00, h⟩ := h
    obtain ⟨hq1, hq2, h⟩ := h
    exact G_throwW C hZ hl hx9 (cls := "java/lang/IllegalStateException") (text := "not run, plated, or to be quiet") (ik := 68) (is := 286) (ic := 72) rfl (by decide) tw_2_47 tw_1_12 (List.mem_of_getElem? (i := 25) rfl) (at_ISE C.2.2.2.2.1 C.2.2.2.2.2.1) at_ISE_o dX8_open_71 dX8_open_74 dX8_open_75 dX8_open_78 dX8_open_81 (Nat.le_of_ble_eq_true rfl) (by simp [va_cat, vi_cat, vl_cat]) hq1 hq2 (Nat.le_refl _) (Nat.le_refl _) h
  have J111 : ∀ (c0 n0 : Nat) (S : PT), w_X8_open_b111 x0 x1 x2 mc ms post postX c0 n0 S → G p l e { frames := 6, cells := mc, slots := ms, locals := 135 } s m [va_rf (some x0), Value.int x1, Value.int x2].toArray below meth c D cy A s.heap 6 (QXi below D cy A [va_rf (some x0), Value.int x1, Value.int x2] s mc ms post postX) S c0 n0 111 [] [] := by
    intro c0 n0 S h
    unfold w_X8_open_b111 at h
    obtain ⟨hc00, hn00, h⟩ := h
    obtain ⟨hq1, hq2, h⟩ := h
    exact G_throwW C hZ hl hx9 (cls := "java/lang/IllegalStateException") (text := "open, or suspect and not sure") (ik := 68) (is := 294) (ic := 72) rfl (by decide) tw_2_47 tw_1_12 (List.mem_of_getElem? (i := 26) rfl) (at_ISE C.2.2.2.2.1 C.2.2.2.2.2.1) at_ISE_o dX8_open_111 dX8_open_114 dX8_open_115 dX8_open_118 dX8_open_121 (Nat.le_of_ble_eq_true rfl) (by simp [va_cat, vi_cat, vl_cat]) hq1 hq2 (Nat.le_refl _) (Nat.le_refl _) h
  have J140 : ∀ (c0 n0 : Nat) (S : PT) (v3 : Option Nat) (v4 : Option Nat) (s0 : Int32), w_X8_open_b140 x0 x1 x2 mc ms post postX c0 n0 S v3 v4 s0 → G p l e { frames := 6, cells := mc, slots := ms, locals := 135 } s m [va_rf (some x0), Value.int x1, Value.int x2].toArray below meth c D cy A s.heap 6 (QXi below D cy A [va_rf (some x0), Value.int x1, Value.int x2] s mc ms post postX) S c0 n0 140 [(3, va_rf v3), (4, va_rf v4)] [Value.int s0] := by
    intro c0 n0 S v3 v4 s0 h
    unfold w_X8_open_b140 at h
    obtain ⟨hc00, hn00, h⟩ := h
    refine G_istore C (i := 5) (lv' := [(5, Value.int s0), (3, va_rf v3), (4, va_rf v4)]) dX8_open_140 (by decide) (by first | rfl | simp [va_cat, vi_cat, vl_cat]) ?_
    refine G_aload C (x := v4) 2 dX8_open_142 rfl ?_
    refine G_iconst C (v := 1) dX8_open_144 (by decide) ?_
    obtain ⟨a1, ha2, h⟩ := h
    refine G_rf1 ha2 ?_
    obtain ⟨hk3, h⟩ := h
    refine G_putI C (CC := RX2) (Tf := TX2) (N := 4) (k := 3) (i := 0) (f := 300) (x := 1) (ty0 := tyX2) (ty := .boolean) hk3 (by decide) rfl (fin fwX2) tyX2_ok nmX2 (by decide) (im tw_2_79) rfl rfl rfl (bo_nar bo_1) (bo_fit bo_1) rfl rfl dX8_open_145 ?_
    generalize e5 : sI S 300 a1 1 = S4
    have h := h S4 e5.symm
    refine G_aload C (x := v4) 2 dX8_open_148 rfl ?_
    refine G_aload_n C (x := v3) 1 dX8_open_150 rfl rfl ?_
    obtain ⟨a6, ha7, h⟩ := h
    refine G_rf ha7 ?_
    obtain ⟨hk8, h⟩ := h
    refine G_get C (CC := RX7) (Tf := TX7) (N := 18) (k := 8) (i := 0) (v := Value.int (gI S4 800 a6)) hk8 (by decide) rfl (fin fwX7) (by decide) (im tw_4_212) rfl rfl dX8_open_151 ?_
    refine G_rf1 ha2 ?_
    refine G_putI C (CC := RX2) (Tf := TX2) (N := 4) (k := 3) (i := 1) (f := 301) (x := (gI S4 800 a6)) (ty0 := tyX2) (ty := .int) (ksI e5.symm hk3) (by decide) rfl (fin fwX2) tyX2_ok nmX2 (by decide) (im tw_2_82) rfl rfl rfl rfl rfl rfl rfl dX8_open_154 ?_
    generalize e10 : sI S4 301 a1 (gI S4 800 a6) = S9
    have h := h S9 e10.symm
    refine G_aload_n C (x := v3) 1 dX8_open_157 rfl rfl ?_
    refine G_dup C dX8_open_158 (va_cat _) ?_
    refine G_rf ha7 ?_
    refine G_get C (CC := RX7) (Tf := TX7) (N := 18) (k := 8) (i := 15) (v := Value.int (gI S9 815 a6)) (ksI e10.symm hk8) (by decide) rfl (fin fwX7) (by decide) (im tw_4_238) rfl rfl dX8_open_159 ?_
    refine G_iconst C (v := 1) dX8_open_162 (by decide) ?_
    refine G_iadd C dX8_open_163 ?_
    refine G_rf1 ha7 ?_
    refine G_putI C (CC := RX7) (Tf := TX7) (N := 18) (k := 8) (i := 15) (f := 815) (x := ((gI S9 815 a6) + 1)) (ty0 := tyX7) (ty := .int) (ksI e10.symm hk8) (by decide) rfl (fin fwX7) tyX7_ok nmX7 (by decide) (im tw_4_238) rfl rfl rfl rfl rfl rfl rfl dX8_open_164 ?_
    generalize e12 : sI S9 815 a6 ((gI S9 815 a6) + 1) = S11
    have h := h S11 e12.symm
    refine G_iload C (x := s0) 0 dX8_open_167 rfl ?_
    refine G_vx ?_
    exact G_iret C (mc := mc) (ms := ms) (post := post) hr hc00 hn00 dX8_open_169 h
  have J122 : ∀ (c0 n0 : Nat) (S : PT) (v3 : Option Nat) (v4 : Option Nat), w_X8_open_b122 x0 x1 x2 mc ms post postX c0 n0 S v3 v4 → G p l e { frames := 6, cells := mc, slots := ms, locals := 135 } s m [va_rf (some x0), Value.int x1, Value.int x2].toArray below meth c D cy A s.heap 6 (QXi below D cy A [va_rf (some x0), Value.int x1, Value.int x2] s mc ms post postX) S c0 n0 122 [(0, va_rf (some x0)), (2, Value.int x2), (3, va_rf v3), (4, va_rf v4)] [] := by
    intro c0 n0 S v3 v4 h
    unfold w_X8_open_b122 at h
    obtain ⟨hc00, hn00, h⟩ := h
    refine G_aload C (x := v4) 3 dX8_open_122 rfl ?_
    obtain ⟨a13, ha14, h⟩ := h
    refine G_rf ha14 ?_
    obtain ⟨hk15, h⟩ := h
    refine G_get C (CC := RX2) (Tf := TX2) (N := 4) (k := 3) (i := 0) (v := Value.int (gI S 300 a13)) hk15 (by decide) rfl (fin fwX2) (by decide) (im tw_2_79) rfl rfl dX8_open_124 ?_
    refine G_if_eq C (tgt := 134) dX8_open_127 (by decide) (fun hc => ?_) (fun hc => ?_)
    · have h := h.1 hc
      refine G_aload_n C (x := (some x0)) 0 dX8_open_134 rfl rfl ?_
      refine G_aload_n C (x := v3) 2 dX8_open_135 rfl rfl ?_
      refine G_iload_n C (x := x2) 1 dX8_open_136 rfl rfl ?_
      obtain ⟨hk16, h⟩ := h
      obtain ⟨m19, m20, hc21, hs22, h⟩ := h
      refine G_callVi C hZ (Tf := TX8) (N := 10) hk16 (by decide) rfl tw_3_226 tw_3_228 tw_0_18 tw_1_1 tw_3_229 hy_X8_strikeThings ⟨Nat.le_of_ble_eq_true rfl, Nat.le_of_ble_eq_true rfl⟩ (As := [va_rf v3, Value.int x2]) (rest := []) (c_X8_strikeThings l D cy x0 v3 x2 S m19 m20 _ h) rfl rfl (by simp [va_cat, vi_cat, vl_cat]) dX8_open_137 ⟨hc21, hs22⟩ (fun r18 S17 h => ?_)
      refine G_lv C (lv' := [(3, va_rf v3), (4, va_rf v4)]) [2, 3] rfl ?_
      exact J140 _ _ _ _ _ _ h
    · have h := h.2 hc
      refine G_iconst C (v := 0) dX8_open_130 (by decide) ?_
      refine G_goto C (tgt := 140) dX8_open_131 (by decide) ?_
      refine G_lv C (lv' := [(3, va_rf v3), (4, va_rf v4)]) [2, 3] rfl ?_
      exact J140 _ _ _ _ _ _ h
  have J82 : ∀ (c0 n0 : Nat) (S : PT) (v3 : Option Nat) (v4 : Option Nat), w_X8_open_b82 x0 x1 x2 mc ms post postX c0 n0 S v3 v4 → G p l e { frames := 6, cells := mc, slots := ms, locals := 135 } s m [va_rf (some x0), Value.int x1, Value.int x2].toArray below meth c D cy A s.heap 6 (QXi below D cy A [va_rf (some x0), Value.int x1, Value.int x2] s mc ms post postX) S c0 n0 82 [(0, va_rf (some x0)), (2, Value.int x2), (3, va_rf v3), (4, va_rf v4)] [] := by
    intro c0 n0 S v3 v4 h
    unfold w_X8_open_b82 at h
    obtain ⟨hc00, hn00, h⟩ := h
    refine G_aload C (x := v4) 3 dX8_open_82 rfl ?_
    obtain ⟨a23, ha24, h⟩ := h
    refine G_rf ha24 ?_
    obtain ⟨hk25, h⟩ := h
    refine G_get C (CC := RX2) (Tf := TX2) (N := 4) (k := 3) (i := 1) (v := Value.int (gI S 301 a23)) hk25 (by decide) rfl (fin fwX2) (by decide) (im tw_2_82) rfl rfl dX8_open_84 ?_
    refine G_iconst C (v := (-1)) dX8_open_87 (by decide) ?_
    refine G_icmp_ne C (tgt := 111) dX8_open_88 (by decide) (fun hc => ?_) (fun hc => ?_)
    · have h := h.1 hc
      refine G_lv C (lv' := []) [] rfl ?_
      exact J111 _ _ _ h
    · have h := h.2 hc
      refine G_aload C (x := v4) 3 dX8_open_91 rfl ?_
      refine G_rf ha24 ?_
      refine G_get C (CC := RX2) (Tf := TX2) (N := 4) (k := 3) (i := 0) (v := Value.int (gI S 300 a23)) hk25 (by decide) rfl (fin fwX2) (by decide) (im tw_2_79) rfl rfl dX8_open_93 ?_
      refine G_if_ne C (tgt := 122) dX8_open_96 (by decide) (fun hc => ?_) (fun hc => ?_)
      · have h := h.1 hc
        refine G_lv C (lv' := [(0, va_rf (some x0)), (2, Value.int x2), (3, va_rf v3), (4, va_rf v4)]) [0, 1, 2, 3] rfl ?_
        exact J122 _ _ _ _ _ h
      · have h := h.2 hc
        refine G_aload_n C (x := (some x0)) 0 dX8_open_99 rfl rfl ?_
        refine G_aload_n C (x := v3) 2 dX8_open_100 rfl rfl ?_
        obtain ⟨a26, ha27, h⟩ := h
        refine G_rf ha27 ?_
        obtain ⟨hk28, h⟩ := h
        refine G_get C (CC := RX7) (Tf := TX7) (N := 18) (k := 8) (i := 2) (v := va_rf (gP S 802 a26)) hk28 (by decide) rfl (fin fwX7) (by decide) (im tw_4_216) rfl rfl dX8_open_101 ?_
        refine G_iload_n C (x := x2) 1 dX8_open_104 rfl rfl ?_
        obtain ⟨hk29, h⟩ := h
        refine G_callVi C hZ (Tf := TX8) (N := 10) hk29 (by decide) rfl tw_2_9 tw_2_11 tw_0_4 tw_1_1 tw_2_12 hy_X8_isSuspect ⟨Nat.le_of_ble_eq_true rfl, Nat.le_of_ble_eq_true rfl⟩ (As := [va_rf (gP S 802 a26), Value.int x2]) (rest := []) (c_X8_isSuspect l D cy x0 (gP S 802 a26) x2 S _ h) rfl rfl (by simp [va_cat, vi_cat, vl_cat]) dX8_open_105 ⟨hc00, hn00⟩ (fun r31 S30 h => ?_)
        obtain ⟨hb32, h⟩ := h
        refine G_if_eq C (tgt := 122) dX8_open_108 (by decide) (fun hc => ?_) (fun hc => ?_)
        · have h := h.1 hc
          refine G_lv C (lv' := [(0, va_rf (some x0)), (2, Value.int x2), (3, va_rf v3), (4, va_rf v4)]) [0, 1, 2, 3] rfl ?_
          exact J122 _ _ _ _ _ h
        · have h := h.2 hc
          refine G_lv C (lv' := []) [] rfl ?_
          exact J111 _ _ _ h
  have J19 : ∀ (c0 n0 : Nat) (S : PT) (v3 : Option Nat) (s0 : Option Nat), w_X8_open_b19 x0 x1 x2 mc ms post postX c0 n0 S v3 s0 → G p l e { frames := 6, cells := mc, slots := ms, locals := 135 } s m [va_rf (some x0), Value.int x1, Value.int x2].toArray below meth c D cy A s.heap 6 (QXi below D cy A [va_rf (some x0), Value.int x1, Value.int x2] s mc ms post postX) S c0 n0 19 [(0, va_rf (some x0)), (2, Value.int x2), (3, va_rf v3)] [va_rf s0] := by
    intro c0 n0 S v3 s0 h
    unfold w_X8_open_b19 at h
    obtain ⟨hc00, hn00, h⟩ := h
    refine G_astore C (i := 4) (lv' := [(4, va_rf s0), (0, va_rf (some x0)), (2, Value.int x2), (3, va_rf v3)]) dX8_open_19 (by decide) (by first | rfl | simp [va_cat, vi_cat, vl_cat]) ?_
    refine G_aload_n C (x := v3) 3 dX8_open_21 rfl rfl ?_
    refine G_ifnull C (tgt := 30) dX8_open_22 (by decide) (fun hc => ?_) (fun a33 ha34 => ?_)
    · have h := h.1 hc
      refine G_lv C (lv' := []) [] rfl ?_
      exact J30 _ _ _ h
    · have h := h.2 a33 ha34
      refine G_aload C (x := s0) 0 dX8_open_25 rfl ?_
      refine G_ifnonnull C (tgt := 41) dX8_open_27 (by decide) (fun hc => ?_) (fun a35 ha36 => ?_)
      · have h := h.1 hc
        refine G_lv C (lv' := []) [] rfl ?_
        exact J30 _ _ _ h
      · have h := h.2 a35 ha36
        refine G_aload_n C (x := v3) 3 dX8_open_41 rfl rfl ?_
        refine G_rf ha34 ?_
        obtain ⟨hk37, h⟩ := h
        refine G_get C (CC := RX7) (Tf := TX7) (N := 18) (k := 8) (i := 10) (v := Value.int (gI S 810 a33)) hk37 (by decide) rfl (fin fwX7) (by decide) (im tw_4_230) rfl rfl dX8_open_42 ?_
        refine G_iconst C (v := 3) dX8_open_45 (by decide) ?_
        refine G_icmp_ne C (tgt := 71) dX8_open_46 (by decide) (fun hc => ?_) (fun hc => ?_)
        · have h := h.1 hc
          refine G_lv C (lv' := []) [] rfl ?_
          exact J71 _ _ _ h
        · have h := h.2 hc
          refine G_aload_n C (x := v3) 3 dX8_open_49 rfl rfl ?_
          refine G_rf ha34 ?_
          refine G_get C (CC := RX7) (Tf := TX7) (N := 18) (k := 8) (i := 16) (v := Value.int (gI S 816 a33)) hk37 (by decide) rfl (fin fwX7) (by decide) (im tw_5_0) rfl rfl dX8_open_50 ?_
          refine G_if_ne C (tgt := 71) dX8_open_53 (by decide) (fun hc => ?_) (fun hc => ?_)
          · have h := h.1 hc
            refine G_lv C (lv' := []) [] rfl ?_
            exact J71 _ _ _ h
          · have h := h.2 hc
            refine G_aload_n C (x := v3) 3 dX8_open_56 rfl rfl ?_
            refine G_iconst C (v := 1) dX8_open_57 (by decide) ?_
            refine G_callVi C hZ (Tf := TX7) (N := 18) hk37 (by decide) rfl tw_3_216 tw_3_217 tw_3_218 tw_1_21 tw_3_219 hy_X7_hasCondition ⟨Nat.le_of_ble_eq_true rfl, Nat.le_of_ble_eq_true rfl⟩ (As := [Value.int 1]) (rest := []) (c_X7_hasCondition l D cy a33 1 S _ h) rfl (by first | rfl | (simp only [ha34]; rfl) | simp only [ha34]) (by simp [va_cat, vi_cat, vl_cat]) dX8_open_58 ⟨hc00, hn00⟩ (fun r39 S38 h => ?_)
            obtain ⟨hb40, h⟩ := h
            refine G_if_eq C (tgt := 82) dX8_open_61 (by decide) (fun hc => ?_) (fun hc => ?_)
            · have h := h.1 hc
              refine G_lv C (lv' := [(0, va_rf (some x0)), (2, Value.int x2), (3, va_rf v3), (4, va_rf s0)]) [1, 2, 3, 0] rfl ?_
              exact J82 _ _ _ _ _ h
            · have h := h.2 hc
              refine G_aload_n C (x := (some x0)) 1 dX8_open_64 rfl rfl ?_
              obtain ⟨hk41, h⟩ := h
              refine G_callVi C hZ (Tf := TX8) (N := 10) hk41 (by decide) rfl tw_3_220 tw_3_222 tw_0_17 tw_1_1 tw_3_223 hy_X8_isBusy ⟨Nat.le_of_ble_eq_true rfl, Nat.le_of_ble_eq_true rfl⟩ (As := []) (rest := []) (c_X8_isBusy l D cy x0 S38 _ h) rfl rfl (by simp [va_cat, vi_cat, vl_cat]) dX8_open_65 ⟨hc00, hn00⟩ (fun r43 S42 h => ?_)
              obtain ⟨hb44, h⟩ := h
              refine G_if_eq C (tgt := 82) dX8_open_68 (by decide) (fun hc => ?_) (fun hc => ?_)
              · have h := h.1 hc
                refine G_lv C (lv' := [(0, va_rf (some x0)), (2, Value.int x2), (3, va_rf v3), (4, va_rf s0)]) [1, 2, 3, 0] rfl ?_
                exact J82 _ _ _ _ _ h
              · have h := h.2 hc
                refine G_lv C (lv' := []) [] rfl ?_
                exact J71 _ _ _ h
  refine G_lv C (lv' := [(0, va_rf (some x0)), (1, Value.int x1), (2, Value.int x2)]) [0, 1, 2] (by first | rfl | simp [lv_pick, lv_args, va_cat, vi_cat, vl_cat]) ?_
  unfold w_X8_open at h
  refine G_aload_n C (x := (some x0)) 0 dX8_open_0 rfl rfl ?_
  refine G_iload_n C (x := x1) 1 dX8_open_1 rfl rfl ?_
  obtain ⟨hk45, h⟩ := h
  refine G_callVq C hZ (Tf := TX8) (N := 10) hk45 (by decide) rfl tw_3_102 tw_3_104 tw_0_12 tw_1_1 tw_3_105 hy_X8_worksAt ⟨Nat.le_of_ble_eq_true rfl, Nat.le_of_ble_eq_true rfl⟩ (As := [Value.int x1]) (rest := []) (c_X8_worksAt l D cy x0 x1 S _ h) rfl rfl (by simp [va_cat, vi_cat, vl_cat]) dX8_open_2 ⟨(Nat.zero_le _), (Nat.zero_le _)⟩ (fun r47 S46 h => ?_)
  refine G_astore_n C (i := 3) (lv' := [(3, va_rf r47), (0, va_rf (some x0)), (1, Value.int x1), (2, Value.int x2)]) dX8_open_5 rfl (by decide) (by first | rfl | simp [va_cat, vi_cat, vl_cat]) ?_
  refine G_aload_n C (x := r47) 0 dX8_open_6 rfl rfl ?_
  refine G_ifnonnull C (tgt := 14) dX8_open_7 (by decide) (fun hc => ?_) (fun a48 ha49 => ?_)
  · have h := h.1 hc
    refine G_null C dX8_open_10 ?_
    refine G_goto C (tgt := 19) dX8_open_11 (by decide) ?_
    refine G_lv C (lv' := [(0, va_rf (some x0)), (2, Value.int x2), (3, va_rf r47)]) [1, 3, 0] rfl ?_
    exact J19 _ _ _ _ _ h
  · have h := h.2 a48 ha49
    refine G_aload_n C (x := r47) 0 dX8_open_14 rfl rfl ?_
    refine G_iload_n C (x := x2) 3 dX8_open_15 rfl rfl ?_
    obtain ⟨hk50, h⟩ := h
    refine G_callVq C hZ (Tf := TX7) (N := 18) hk50 (by decide) rfl tw_3_210 tw_3_211 tw_3_212 tw_1_21 tw_3_213 hy_X7_ownMetreAt ⟨Nat.le_of_ble_eq_true rfl, Nat.le_of_ble_eq_true rfl⟩ (As := [Value.int x2]) (rest := []) (c_X7_ownMetreAt l D cy a48 x2 S46 _ h) rfl (by first | rfl | (simp only [ha49]; rfl) | simp only [ha49]) (by simp [va_cat, vi_cat, vl_cat]) dX8_open_16 ⟨(Nat.zero_le _), (Nat.zero_le _)⟩ (fun r52 S51 h => ?_)
    refine G_lv C (lv' := [(0, va_rf (some x0)), (2, Value.int x2), (3, va_rf r47)]) [1, 3, 0] rfl ?_
    exact J19 _ _ _ _ _ h
set_option maxHeartbeats 4000000 in
set_option maxRecDepth 100000 in
theorem c_X8_fill (l : Launch) (hl : l.stackTraces = false) (D : va_G) (cy : Nat → Nat) (e0 m0 : Nat) (he : e0 = cy 9) (hm : m0 = cy 10) (x0 : Nat) (x1 : Int32) (x2 : Int32) (x3 : Int32) (S : PT) (mc ms : Nat) (post : Int32 → PT → Prop) (postX : String → PT → Prop) (h : w_X8_fill e0 m0 x0 x1 x2 x3 S mc ms post postX) : Xi l yX8_fill (Wm yX8_fill prog_1_method_18_code 6 (Option.some Jvm.ClassFile.FieldType.int)) 8 192 D cy [va_rf (some x0), Value.int x1, Value.int x2, Value.int x3] S mc ms post postX := by
  refine Xi_of (own := "Trenchboard") (by decide) rfl (by first | decide | simp [lg_sl, va_cat, vi_cat, vl_cat]) (fun p e s m below meth c A C hZ hr hx9 => ?_)
  have J34 : ∀ (c0 n0 : Nat) (S : PT), w_X8_fill_b34 e0 m0 x0 x1 x2 x3 mc ms post postX c0 n0 S → G p l e { frames := 8, cells := mc, slots := ms, locals := 192 } s m [va_rf (some x0), Value.int x1, Value.int x2, Value.int x3].toArray below meth c D cy A s.heap 6 (QXi below D cy A [va_rf (some x0), Value.int x1, Value.int x2, Value.int x3] s mc ms post postX) S c0 n0 34 [] [] := by
    intro c0 n0 S h
    unfold w_X8_fill_b34 at h
    obtain ⟨hc00, hn00, h⟩ := h
    obtain ⟨hq1, hq2, h⟩ := h
    exact G_throwW C hZ hl hx9 (cls := "java/lang/IndexOutOfBoundsException") (text := "no such works, or no metre of theirs") (ik := 52) (is := 275) (ic := 56) rfl (by decide) tw_1_142 tw_1_10 (List.mem_of_getElem? (i := 24) rfl) (at_IOOBE C.2.2.2.2.1 C.2.2.2.2.2.1) at_IOOBE_o dX8_fill_34 dX8_fill_37 dX8_fill_38 dX8_fill_41 dX8_fill_44 (Nat.le_of_ble_eq_true rfl) (by simp [va_cat, vi_cat, vl_cat]) hq1 hq2 (Nat.le_refl _) (Nat.le_refl _) h
  have J55 : ∀ (c0 n0 : Nat) (S : PT), w_X8_fill_b55 e0 m0 x0 x1 x2 x3 mc ms post postX c0 n0 S → G p l e { frames := 8, cells := mc, slots := ms, locals := 192 } s m [va_rf (some x0), Value.int x1, Value.int x2, Value.int x3].toArray below meth c D cy A s.heap 6 (QXi below D cy A [va_rf (some x0), Value.int x1, Value.int x2, Value.int x3] s mc ms post postX) S c0 n0 55 [] [] := by
    intro c0 n0 S h
    unfold w_X8_fill_b55 at h
    obtain ⟨hc00, hn00, h⟩ := h
    obtain ⟨hq1, hq2, h⟩ := h
    exact G_throwW C hZ hl hx9 (cls := "java/lang/IllegalArgumentException") (text := "density out of range") (ik := 59) (is := 303) (ic := 63) rfl (by decide) tw_1_210 tw_1_11 (List.mem_of_getElem? (i := 27) rfl) (at_IAE C.2.2.2.2.1 C.2.2.2.2.2.1) at_IAE_o dX8_fill_55 dX8_fill_58 dX8_fill_59 dX8_fill_62 dX8_fill_65 (Nat.le_of_ble_eq_true rfl) (by simp [va_cat, vi_cat, vl_cat]) hq1 hq2 (Nat.le_refl _) (Nat.le_refl _) h
  have J194 : ∀ (c0 n0 : Nat) (S : PT) (v5 : Option Nat), w_X8_fill_b194 e0 m0 x0 x1 x2 x3 mc ms post postX c0 n0 S v5 → G p l e { frames := 8, cells := mc, slots := ms, locals := 192 } s m [va_rf (some x0), Value.int x1, Value.int x2, Value.int x3].toArray below meth c D cy A s.heap 6 (QXi below D cy A [va_rf (some x0), Value.int x1, Value.int x2, Value.int x3] s mc ms post postX) S c0 n0 194 [(5, va_rf v5)] [] := by
    intro c0 n0 S v5 h
    unfold w_X8_fill_b194 at h
    obtain ⟨hc00, hn00, h⟩ := h
    refine G_aload C (x := v5) 0 dX8_fill_194 rfl ?_
    obtain ⟨a1, ha2, h⟩ := h
    refine G_rf ha2 ?_
    obtain ⟨hk3, h⟩ := h
    refine G_get C (CC := RX2) (Tf := TX2) (N := 4) (k := 3) (i := 2) (v := Value.int (gI S 302 a1)) hk3 (by decide) rfl (fin fwX2) (by decide) (im tw_2_83) rfl rfl dX8_fill_196 ?_
    refine G_vx ?_
    exact G_iret C (mc := mc) (ms := ms) (post := post) hr hc00 hn00 dX8_fill_199 h
  have J22 : ∀ (c0 n0 : Nat) (S : PT) (v4 : Option Nat) (s0 : Option Nat), w_X8_fill_b22 e0 m0 x0 x1 x2 x3 mc ms post postX c0 n0 S v4 s0 → G p l e { frames := 8, cells := mc, slots := ms, locals := 192 } s m [va_rf (some x0), Value.int x1, Value.int x2, Value.int x3].toArray below meth c D cy A s.heap 6 (QXi below D cy A [va_rf (some x0), Value.int x1, Value.int x2, Value.int x3] s mc ms post postX) S c0 n0 22 [(0, va_rf (some x0)), (2, Value.int x2), (3, Value.int x3), (4, va_rf v4)] [va_rf s0] := by
    intro c0 n0 S v4 s0 h
    unfold w_X8_fill_b22 at h
    obtain ⟨hc00, hn00, h⟩ := h
    refine G_astore C (i := 5) (lv' := [(5, va_rf s0), (0, va_rf (some x0)), (2, Value.int x2), (3, Value.int x3), (4, va_rf v4)]) dX8_fill_22 (by decide) (by first | rfl | simp [va_cat, vi_cat, vl_cat]) ?_
    refine G_aload C (x := v4) 4 dX8_fill_24 rfl ?_
    refine G_ifnull C (tgt := 34) dX8_fill_26 (by decide) (fun hc => ?_) (fun a4 ha5 => ?_)
    · have h := h.1 hc
      refine G_lv C (lv' := []) [] rfl ?_
      exact J34 _ _ _ h
    · have h := h.2 a4 ha5
      refine G_aload C (x := s0) 0 dX8_fill_29 rfl ?_
      refine G_ifnonnull C (tgt := 45) dX8_fill_31 (by decide) (fun hc => ?_) (fun a6 ha7 => ?_)
      · have h := h.1 hc
        refine G_lv C (lv' := []) [] rfl ?_
        exact J34 _ _ _ h
      · have h := h.2 a6 ha7
        refine G_iload_n C (x := x3) 3 dX8_fill_45 rfl rfl ?_
        refine G_if_lt C (tgt := 55) dX8_fill_46 (by decide) (fun hc => ?_) (fun hc => ?_)
        · have h := h.1 hc
          refine G_lv C (lv' := []) [] rfl ?_
          exact J55 _ _ _ h
        · have h := h.2 hc
          refine G_iload_n C (x := x3) 3 dX8_fill_49 rfl rfl ?_
          refine G_bipush C (v := 100) dX8_fill_50 (by decide) ?_
          refine G_icmp_le C (tgt := 66) dX8_fill_52 (by decide) (fun hc => ?_) (fun hc => ?_)
          · have h := h.1 hc
            refine G_aload C (x := s0) 0 dX8_fill_66 rfl ?_
            refine G_rf ha7 ?_
            obtain ⟨hk8, h⟩ := h
            refine G_get C (CC := RX2) (Tf := TX2) (N := 4) (k := 3) (i := 1) (v := Value.int (gI S 301 a6)) hk8 (by decide) rfl (fin fwX2) (by decide) (im tw_2_82) rfl rfl dX8_fill_68 ?_
            refine G_aload C (x := v4) 4 dX8_fill_71 rfl ?_
            refine G_rf ha5 ?_
            obtain ⟨hk9, h⟩ := h
            refine G_get C (CC := RX7) (Tf := TX7) (N := 18) (k := 8) (i := 0) (v := Value.int (gI S 800 a4)) hk9 (by decide) rfl (fin fwX7) (by decide) (im tw_4_212) rfl rfl dX8_fill_73 ?_
            refine G_icmp_eq C (tgt := 90) dX8_fill_76 (by decide) (fun hc => ?_) (fun hc => ?_)
            · have h := h.1 hc
              refine G_aload C (x := s0) 0 dX8_fill_90 rfl ?_
              refine G_iconst C (v := (-1)) dX8_fill_92 (by decide) ?_
              refine G_rf1 ha7 ?_
              refine G_putI C (CC := RX2) (Tf := TX2) (N := 4) (k := 3) (i := 1) (f := 301) (x := (-1)) (ty0 := tyX2) (ty := .int) hk8 (by decide) rfl (fin fwX2) tyX2_ok nmX2 (by decide) (im tw_2_82) rfl rfl rfl rfl rfl rfl rfl dX8_fill_93 ?_
              generalize e11 : sI S 301 a6 (-1) = S10
              have h := h S10 e11.symm
              refine G_aload C (x := v4) 4 dX8_fill_96 rfl ?_
              refine G_dup C dX8_fill_98 (va_cat _) ?_
              refine G_rf ha5 ?_
              refine G_get C (CC := RX7) (Tf := TX7) (N := 18) (k := 8) (i := 15) (v := Value.int (gI S10 815 a4)) (ksI e11.symm hk9) (by decide) rfl (fin fwX7) (by decide) (im tw_4_238) rfl rfl dX8_fill_99 ?_
              refine G_iconst C (v := 1) dX8_fill_102 (by decide) ?_
              refine G_isub C dX8_fill_103 ?_
              refine G_rf1 ha5 ?_
              refine G_putI C (CC := RX7) (Tf := TX7) (N := 18) (k := 8) (i := 15) (f := 815) (x := ((gI S10 815 a4) - 1)) (ty0 := tyX7) (ty := .int) (ksI e11.symm hk9) (by decide) rfl (fin fwX7) tyX7_ok nmX7 (by decide) (im tw_4_238) rfl rfl rfl rfl rfl rfl rfl dX8_fill_104 ?_
              generalize e13 : sI S10 815 a4 ((gI S10 815 a4) - 1) = S12
              have h := h S12 e13.symm
              refine G_aload_n C (x := (some x0)) 1 dX8_fill_107 rfl rfl ?_
              obtain ⟨hk14, h⟩ := h
              refine G_get C (CC := RX8) (Tf := TX8) (N := 10) (k := 9) (i := 8) (v := va_rf (gP S12 908 x0)) hk14 (by decide) rfl (fin fwX8) (by decide) (im tw_1_107) rfl rfl dX8_fill_108 ?_
              obtain ⟨a15, ha16, h⟩ := h
              obtain ⟨hk17, h⟩ := h
              refine G_callVi C hZ (Tf := TJx4a65c) (N := 3) hk17 (by decide) rfl tw_2_150 tw_2_151 tw_2_152 tw_1_5 tw_2_153 hy_Jx4a65c_size_8abf5 ⟨Nat.le_of_ble_eq_true rfl, Nat.le_of_ble_eq_true rfl⟩ (As := []) (rest := []) (c_Jx4a65c_size_8abf5 l D cy a15 S12 _ h) rfl (by first | rfl | (simp only [ha16]; rfl) | simp only [ha16]) (by simp [va_cat, vi_cat, vl_cat]) dX8_fill_111 ⟨hc00, hn00⟩ (fun r19 S18 h => ?_)
              refine G_sipush C (v := 512) dX8_fill_114 (by decide) ?_
              refine G_icmp_ge C (tgt := 194) dX8_fill_117 (by decide) (fun hc => ?_) (fun hc => ?_)
              · have h := h.1 hc
                refine G_lv C (lv' := [(5, va_rf s0)]) [0] rfl ?_
                exact J194 _ _ _ _ h
              · have h := h.2 hc
                refine G_aload C (x := s0) 0 dX8_fill_120 rfl ?_
                obtain ⟨hc24, hs25, h⟩ := h
                refine G_new C (CC := RX0) (Tf := TX0) (N := 6) (k := 1) (fs := [Value.null, Value.int 0, Value.int 0, Value.int 0, Value.null, Value.int 0]) (by decide) rfl (fin fwX0) tyX0_ok (im tw_3_236) (im tw_3_237) (im tw_1_22) rfl dv_X0 hc24 hs25 dX8_fill_122 (fun q20 hq23 => ?_)
                generalize e22 : nO S18 q20 1 = S21
                have h := h q20 S21 hq23 e22.symm
                refine G_dup C dX8_fill_125 (va_cat _) ?_
                refine G_aload C (x := v4) 4 dX8_fill_126 rfl ?_
                refine G_aload_n C (x := (some x0)) 1 dX8_fill_128 rfl rfl ?_
                obtain ⟨hk26, h⟩ := h
                refine G_callVi C hZ (Tf := TX8) (N := 10) hk26 (by decide) rfl tw_1_234 tw_1_236 tw_0_3 tw_1_1 tw_1_237 hy_X8_today ⟨Nat.le_of_ble_eq_true rfl, Nat.le_of_ble_eq_true rfl⟩ (As := []) (rest := [va_rf v4, va_rf (some q20), va_rf (some q20), va_rf s0]) (c_X8_today l D cy x0 S21 _ h) rfl rfl (by simp [va_cat, vi_cat, vl_cat]) dX8_fill_129 ⟨hc24, hs25⟩ (fun r28 S27 h => ?_)
                refine G_iload_n C (x := x3) 3 dX8_fill_132 rfl rfl ?_
                refine G_aload_n C (x := (some x0)) 1 dX8_fill_133 rfl rfl ?_
                obtain ⟨hk29, h⟩ := h
                refine G_get C (CC := RX8) (Tf := TX8) (N := 10) (k := 9) (i := 8) (v := va_rf (gP S27 908 x0)) hk29 (by decide) rfl (fin fwX8) (by decide) (im tw_1_107) rfl rfl dX8_fill_134 ?_
                obtain ⟨a30, ha31, h⟩ := h
                obtain ⟨hk32, h⟩ := h
                refine G_callVi C hZ (Tf := TJx4a65c) (N := 3) hk32 (by decide) rfl tw_2_150 tw_2_151 tw_2_152 tw_1_5 tw_2_153 hy_Jx4a65c_size_8abf5 ⟨Nat.le_of_ble_eq_true rfl, Nat.le_of_ble_eq_true rfl⟩ (As := []) (rest := [Value.int x3, Value.int r28, va_rf v4, va_rf (some q20), va_rf (some q20), va_rf s0]) (c_Jx4a65c_size_8abf5 l D cy a30 S27 _ h) rfl (by first | rfl | (simp only [ha31]; rfl) | simp only [ha31]) (by simp [va_cat, vi_cat, vl_cat]) dX8_fill_137 ⟨hc24, hs25⟩ (fun r34 S33 h => ?_)
                refine G_aload C (x := s0) 0 dX8_fill_140 rfl ?_
                refine G_rf ha7 ?_
                obtain ⟨hk35, h⟩ := h
                refine G_get C (CC := RX2) (Tf := TX2) (N := 4) (k := 3) (i := 3) (v := va_rf (gP S33 303 a6)) hk35 (by decide) rfl (fin fwX2) (by decide) (im tw_2_85) rfl rfl dX8_fill_142 ?_
                refine G_callIv C hZ tw_3_238 tw_3_239 tw_1_22 rfl tw_4_0 hy_X0_init ⟨Nat.le_of_ble_eq_true rfl, Nat.le_of_ble_eq_true rfl⟩ (As := [va_rf v4, Value.int r28, Value.int x3, Value.int r34, va_rf (gP S33 303 a6)]) (rest := [va_rf (some q20), va_rf s0]) (c_X0_init l D cy q20 v4 r28 x3 r34 (gP S33 303 a6) S33 _ h) rfl rfl (by simp [va_cat, vi_cat, vl_cat]) dX8_fill_145 ⟨hc24, hs25⟩ (fun S36 h => ?_)
                refine G_rf1 ha7 ?_
                obtain ⟨hk38, h⟩ := h
                refine G_putP C (CC := RX2) (Tf := TX2) (N := 4) (k := 3) (i := 3) (f := 303) (x := (some q20)) (ty0 := tyX2) (ty := .object "Trenchboard$Fill") hk38 (by decide) rfl (fin fwX2) tyX2_ok nmX2 (by decide) (im tw_2_85) rfl rfl rfl rfl rfl rfl rfl dX8_fill_148 ?_
                generalize e40 : sP S36 303 a6 (some q20) = S39
                have h := h S39 e40.symm
                refine G_aload C (x := s0) 0 dX8_fill_151 rfl ?_
                refine G_dup C dX8_fill_153 (va_cat _) ?_
                refine G_rf ha7 ?_
                refine G_get C (CC := RX2) (Tf := TX2) (N := 4) (k := 3) (i := 2) (v := Value.int (gI S39 302 a6)) (ksP e40.symm hk38) (by decide) rfl (fin fwX2) (by decide) (im tw_2_83) rfl rfl dX8_fill_154 ?_
                refine G_iconst C (v := 1) dX8_fill_157 (by decide) ?_
                refine G_iadd C dX8_fill_158 ?_
                refine G_rf1 ha7 ?_
                refine G_putI C (CC := RX2) (Tf := TX2) (N := 4) (k := 3) (i := 2) (f := 302) (x := ((gI S39 302 a6) + 1)) (ty0 := tyX2) (ty := .int) (ksP e40.symm hk38) (by decide) rfl (fin fwX2) tyX2_ok nmX2 (by decide) (im tw_2_83) rfl rfl rfl rfl rfl rfl rfl dX8_fill_159 ?_
                generalize e42 : sI S39 302 a6 ((gI S39 302 a6) + 1) = S41
                have h := h S41 e42.symm
                refine G_aload_n C (x := (some x0)) 1 dX8_fill_162 rfl rfl ?_
                obtain ⟨hc47, hs48, h⟩ := h
                refine G_new C (CC := RX5) (Tf := TX5) (N := 4) (k := 6) (fs := [Value.null, Value.int 0, Value.null, Value.int 0]) (by decide) rfl (fin fwX5) tyX5_ok (im tw_2_154) (im tw_2_155) (im tw_1_16) rfl dv_X5 hc47 hs48 dX8_fill_163 (fun q43 hq46 => ?_)
                generalize e45 : nO S41 q43 6 = S44
                have h := h q43 S44 hq46 e45.symm
                refine G_dup C dX8_fill_166 (va_cat _) ?_
                refine G_aload C (x := v4) 4 dX8_fill_167 rfl ?_
                refine G_rf ha5 ?_
                obtain ⟨hk49, h⟩ := h
                refine G_get C (CC := RX7) (Tf := TX7) (N := 18) (k := 8) (i := 2) (v := va_rf (gP S44 802 a4)) hk49 (by decide) rfl (fin fwX7) (by decide) (im tw_4_216) rfl rfl dX8_fill_169 ?_
                refine G_iload_n C (x := x2) 2 dX8_fill_172 rfl rfl ?_
                refine G_aload C (x := v4) 4 dX8_fill_173 rfl ?_
                refine G_aload_n C (x := (some x0)) 1 dX8_fill_175 rfl rfl ?_
                obtain ⟨hk50, h⟩ := h
                refine G_callVi C hZ (Tf := TX8) (N := 10) hk50 (by decide) rfl tw_1_234 tw_1_236 tw_0_3 tw_1_1 tw_1_237 hy_X8_today ⟨Nat.le_of_ble_eq_true rfl, Nat.le_of_ble_eq_true rfl⟩ (As := []) (rest := [va_rf v4, Value.int x2, va_rf (gP S44 802 a4), va_rf (some q43), va_rf (some q43), va_rf (some x0)]) (c_X8_today l D cy x0 S44 _ h) rfl rfl (by simp [va_cat, vi_cat, vl_cat]) dX8_fill_176 ⟨hc47, hs48⟩ (fun r52 S51 h => ?_)
                refine G_callIv C hZ tw_2_156 tw_2_157 tw_1_16 rfl tw_2_158 hy_X5_init ⟨Nat.le_of_ble_eq_true rfl, Nat.le_of_ble_eq_true rfl⟩ (As := [va_rf (gP S44 802 a4), Value.int x2, va_rf v4, Value.int r52]) (rest := [va_rf (some q43), va_rf (some x0)]) (c_X5_init l D cy q43 (gP S44 802 a4) x2 v4 r52 S51 _ h) rfl rfl (by simp [va_cat, vi_cat, vl_cat]) dX8_fill_179 ⟨hc47, hs48⟩ (fun S53 h => ?_)
                obtain ⟨hk55, h⟩ := h
                obtain ⟨m58, m59, hc60, hs61, h⟩ := h
                refine G_callVv C hZ (Tf := TX8) (N := 10) hk55 (by decide) rfl tw_2_175 tw_2_177 tw_0_7 tw_1_1 tw_2_178 hy_X8_tell ⟨Nat.le_of_ble_eq_true rfl, Nat.le_of_ble_eq_true rfl⟩ (As := [va_rf (some q43)]) (rest := []) (c_X8_tell l D cy e0 m0 he hm x0 (some q43) S53 m58 m59 _ h) rfl rfl (by simp [va_cat, vi_cat, vl_cat]) dX8_fill_182 ⟨hc60, hs61⟩ (fun S56 h => ?_)
                refine G_aload_n C (x := (some x0)) 1 dX8_fill_185 rfl rfl ?_
                refine G_aload C (x := v4) 4 dX8_fill_186 rfl ?_
                refine G_rf ha5 ?_
                obtain ⟨hk62, h⟩ := h
                refine G_get C (CC := RX7) (Tf := TX7) (N := 18) (k := 8) (i := 1) (v := Value.int (gI S56 801 a4)) hk62 (by decide) rfl (fin fwX7) (by decide) (im tw_4_214) rfl rfl dX8_fill_188 ?_
                obtain ⟨hk63, h⟩ := h
                refine G_callVv C hZ (Tf := TX8) (N := 10) hk63 (by decide) rfl tw_4_27 tw_4_29 tw_0_19 tw_1_1 tw_4_30 hy_X8_countFill ⟨Nat.le_of_ble_eq_true rfl, Nat.le_of_ble_eq_true rfl⟩ (As := [Value.int (gI S56 801 a4)]) (rest := []) (c_X8_countFill l D cy x0 (gI S56 801 a4) S56 _ h) rfl rfl (by simp [va_cat, vi_cat, vl_cat]) dX8_fill_191 ⟨hc60, hs61⟩ (fun S64 h => ?_)
                refine G_lv C (lv' := [(5, va_rf s0)]) [0] rfl ?_
                exact J194 _ _ _ _ h
            · have h := h.2 hc
              obtain ⟨hq1, hq2, h⟩ := h
              exact G_throwW C hZ hl hx9 (cls := "java/lang/IllegalStateException") (text := "not open by these works") (ik := 68) (is := 305) (ic := 72) rfl (by decide) tw_2_47 tw_1_12 (List.mem_of_getElem? (i := 28) rfl) (at_ISE C.2.2.2.2.1 C.2.2.2.2.2.1) at_ISE_o dX8_fill_79 dX8_fill_82 dX8_fill_83 dX8_fill_86 dX8_fill_89 (Nat.le_of_ble_eq_true rfl) (by simp [va_cat, vi_cat, vl_cat]) hq1 hq2 (Nat.le_refl _) (Nat.le_refl _) h
          · have h := h.2 hc
            refine G_lv C (lv' := []) [] rfl ?_
            exact J55 _ _ _ h
  refine G_lv C (lv' := [(0, va_rf (some x0)), (1, Value.int x1), (2, Value.int x2), (3, Value.int x3)]) [0, 1, 2, 3] (by first | rfl | simp [lv_pick, lv_args, va_cat, vi_cat, vl_cat]) ?_
  unfold w_X8_fill at h
  refine G_aload_n C (x := (some x0)) 0 dX8_fill_0 rfl rfl ?_
  refine G_iload_n C (x := x1) 1 dX8_fill_1 rfl rfl ?_
  obtain ⟨hk66, h⟩ := h
  refine G_callVq C hZ (Tf := TX8) (N := 10) hk66 (by decide) rfl tw_3_102 tw_3_104 tw_0_12 tw_1_1 tw_3_105 hy_X8_worksAt ⟨Nat.le_of_ble_eq_true rfl, Nat.le_of_ble_eq_true rfl⟩ (As := [Value.int x1]) (rest := []) (c_X8_worksAt l D cy x0 x1 S _ h) rfl rfl (by simp [va_cat, vi_cat, vl_cat]) dX8_fill_2 ⟨(Nat.zero_le _), (Nat.zero_le _)⟩ (fun r68 S67 h => ?_)
  refine G_astore C (i := 4) (lv' := [(4, va_rf r68), (0, va_rf (some x0)), (1, Value.int x1), (2, Value.int x2), (3, Value.int x3)]) dX8_fill_5 (by decide) (by first | rfl | simp [va_cat, vi_cat, vl_cat]) ?_
  refine G_aload C (x := r68) 0 dX8_fill_7 rfl ?_
  refine G_ifnonnull C (tgt := 16) dX8_fill_9 (by decide) (fun hc => ?_) (fun a69 ha70 => ?_)
  · have h := h.1 hc
    refine G_null C dX8_fill_12 ?_
    refine G_goto C (tgt := 22) dX8_fill_13 (by decide) ?_
    refine G_lv C (lv' := [(0, va_rf (some x0)), (2, Value.int x2), (3, Value.int x3), (4, va_rf r68)]) [1, 3, 4, 0] rfl ?_
    exact J22 _ _ _ _ _ h
  · have h := h.2 a69 ha70
    refine G_aload C (x := r68) 0 dX8_fill_16 rfl ?_
    refine G_iload_n C (x := x2) 3 dX8_fill_18 rfl rfl ?_
    obtain ⟨hk71, h⟩ := h
    refine G_callVq C hZ (Tf := TX7) (N := 18) hk71 (by decide) rfl tw_3_210 tw_3_211 tw_3_212 tw_1_21 tw_3_213 hy_X7_ownMetreAt ⟨Nat.le_of_ble_eq_true rfl, Nat.le_of_ble_eq_true rfl⟩ (As := [Value.int x2]) (rest := []) (c_X7_ownMetreAt l D cy a69 x2 S67 _ h) rfl (by first | rfl | (simp only [ha70]; rfl) | simp only [ha70]) (by simp [va_cat, vi_cat, vl_cat]) dX8_fill_19 ⟨(Nat.zero_le _), (Nat.zero_le _)⟩ (fun r73 S72 h => ?_)
    refine G_lv C (lv' := [(0, va_rf (some x0)), (2, Value.int x2), (3, Value.int x3), (4, va_rf r68)]) [1, 3, 4, 0] rfl ?_
    exact J22 _ _ _ _ _ h
set_option maxHeartbeats 4000000 in
set_option maxRecDepth 100000 in
theorem c_X8_plate (l : Launch) (hl : l.stackTraces = false) (D : va_G) (cy : Nat → Nat) (x0 : Nat) (x1 : Int32) (S : PT) (mc ms : Nat) (post : Int32 → PT → Prop) (postX : String → PT → Prop) (h : w_X8_plate x0 x1 S mc ms post postX) : Xi l yX8_plate (Wm yX8_plate prog_1_method_19_code 3 (Option.some Jvm.ClassFile.FieldType.boolean)) 6 90 D cy [va_rf (some x0), Value.int x1] S mc ms (fun r S => bo r ∧ post r S) postX := by
  refine Xi_of (own := "Trenchboard") (by decide) rfl (by first | decide | simp [lg_sl, va_cat, vi_cat, vl_cat]) (fun p e s m below meth c A C hZ hr hx9 => ?_)
  have J52 : ∀ (c0 n0 : Nat) (S : PT) (v2 : Option Nat) (s0 : Option Nat) (s1 : Int32), w_X8_plate_b52 x0 x1 mc ms post postX c0 n0 S v2 s0 s1 → G p l e { frames := 6, cells := mc, slots := ms, locals := 90 } s m [va_rf (some x0), Value.int x1].toArray below meth c D cy A s.heap 3 (QXi below D cy A [va_rf (some x0), Value.int x1] s mc ms (fun r S => bo r ∧ post r S) postX) S c0 n0 52 [(2, va_rf v2)] [Value.int s1, va_rf s0] := by
    intro c0 n0 S v2 s0 s1 h
    unfold w_X8_plate_b52 at h
    obtain ⟨hc00, hn00, h⟩ := h
    obtain ⟨a1, ha2, h⟩ := h
    refine G_rf1 ha2 ?_
    obtain ⟨hk3, h⟩ := h
    obtain ⟨hb4, h⟩ := h
    refine G_putI C (CC := RX7) (Tf := TX7) (N := 18) (k := 8) (i := 16) (f := 816) (x := s1) (ty0 := tyX7) (ty := .boolean) hk3 (by decide) rfl (fin fwX7) tyX7_ok nmX7 (by decide) (im tw_5_0) rfl rfl rfl (bo_nar hb4) (bo_fit hb4) rfl rfl dX8_plate_52 ?_
    generalize e6 : sI S 816 a1 s1 = S5
    have h := h S5 e6.symm
    refine G_aload_n C (x := v2) 0 dX8_plate_55 rfl rfl ?_
    obtain ⟨a7, ha8, h⟩ := h
    refine G_rf ha8 ?_
    obtain ⟨hk9, h⟩ := h
    refine G_get C (CC := RX7) (Tf := TX7) (N := 18) (k := 8) (i := 16) (v := Value.int (gI S5 816 a7)) hk9 (by decide) rfl (fin fwX7) (by decide) (im tw_5_0) rfl rfl dX8_plate_56 ?_
    obtain ⟨hb10, h⟩ := h
    refine G_vx ?_
    exact G_zret C (mc := mc) (ms := ms) (post := (fun r S => bo r ∧ post r S)) (bo_nar hb10) hr hc00 hn00 dX8_plate_59 ⟨hb10, h⟩
  refine G_lv C (lv' := [(0, va_rf (some x0)), (1, Value.int x1)]) [0, 1] (by first | rfl | simp [lv_pick, lv_args, va_cat, vi_cat, vl_cat]) ?_
  unfold w_X8_plate at h
  refine G_aload_n C (x := (some x0)) 0 dX8_plate_0 rfl rfl ?_
  refine G_iload_n C (x := x1) 1 dX8_plate_1 rfl rfl ?_
  obtain ⟨hk11, h⟩ := h
  refine G_callVq C hZ (Tf := TX8) (N := 10) hk11 (by decide) rfl tw_3_102 tw_3_104 tw_0_12 tw_1_1 tw_3_105 hy_X8_worksAt ⟨Nat.le_of_ble_eq_true rfl, Nat.le_of_ble_eq_true rfl⟩ (As := [Value.int x1]) (rest := []) (c_X8_worksAt l D cy x0 x1 S _ h) rfl rfl (by simp [va_cat, vi_cat, vl_cat]) dX8_plate_2 ⟨(Nat.zero_le _), (Nat.zero_le _)⟩ (fun r13 S12 h => ?_)
  refine G_astore_n C (i := 2) (lv' := [(2, va_rf r13), (0, va_rf (some x0)), (1, Value.int x1)]) dX8_plate_5 rfl (by decide) (by first | rfl | simp [va_cat, vi_cat, vl_cat]) ?_
  refine G_aload_n C (x := r13) 0 dX8_plate_6 rfl rfl ?_
  refine G_ifnonnull C (tgt := 20) dX8_plate_7 (by decide) (fun hc => ?_) (fun a14 ha15 => ?_)
  · have h := h.1 hc
    obtain ⟨hq1, hq2, h⟩ := h
    exact G_throw C hZ hl hx9 (cls := "java/lang/IndexOutOfBoundsException") (text := "no such works") (ik := 52) (is := 225) (ic := 56) rfl (by decide) tw_1_142 tw_1_10 (List.mem_of_getElem? (i := 17) rfl) (at_IOOBE C.2.2.2.2.1 C.2.2.2.2.2.1) at_IOOBE_o dX8_plate_10 dX8_plate_13 dX8_plate_14 dX8_plate_16 dX8_plate_19 (Nat.le_of_ble_eq_true rfl) (by simp [va_cat, vi_cat, vl_cat]) hq1 hq2 (Nat.le_refl _) (Nat.le_refl _) h
  · have h := h.2 a14 ha15
    refine G_aload_n C (x := r13) 0 dX8_plate_20 rfl rfl ?_
    refine G_rf ha15 ?_
    obtain ⟨hk16, h⟩ := h
    refine G_get C (CC := RX7) (Tf := TX7) (N := 18) (k := 8) (i := 10) (v := Value.int (gI S12 810 a14)) hk16 (by decide) rfl (fin fwX7) (by decide) (im tw_4_230) rfl rfl dX8_plate_21 ?_
    refine G_iconst C (v := 3) dX8_plate_24 (by decide) ?_
    refine G_icmp_eq C (tgt := 39) dX8_plate_25 (by decide) (fun hc => ?_) (fun hc => ?_)
    · have h := h.1 hc
      refine G_aload_n C (x := r13) 0 dX8_plate_39 rfl rfl ?_
      refine G_aload_n C (x := r13) 0 dX8_plate_40 rfl rfl ?_
      refine G_rf ha15 ?_
      refine G_get C (CC := RX7) (Tf := TX7) (N := 18) (k := 8) (i := 16) (v := Value.int (gI S12 816 a14)) hk16 (by decide) rfl (fin fwX7) (by decide) (im tw_5_0) rfl rfl dX8_plate_41 ?_
      refine G_if_ne C (tgt := 51) dX8_plate_44 (by decide) (fun hc => ?_) (fun hc => ?_)
      · have h := h.1 hc
        refine G_iconst C (v := 0) dX8_plate_51 (by decide) ?_
        refine G_lv C (lv' := [(2, va_rf r13)]) [0] rfl ?_
        exact J52 _ _ _ _ _ _ h
      · have h := h.2 hc
        refine G_iconst C (v := 1) dX8_plate_47 (by decide) ?_
        refine G_goto C (tgt := 52) dX8_plate_48 (by decide) ?_
        refine G_lv C (lv' := [(2, va_rf r13)]) [0] rfl ?_
        exact J52 _ _ _ _ _ _ h
    · have h := h.2 hc
      obtain ⟨hq1, hq2, h⟩ := h
      exact G_throwW C hZ hl hx9 (cls := "java/lang/IllegalStateException") (text := "not run") (ik := 68) (is := 326) (ic := 72) rfl (by decide) tw_2_47 tw_1_12 (List.mem_of_getElem? (i := 29) rfl) (at_ISE C.2.2.2.2.1 C.2.2.2.2.2.1) at_ISE_o dX8_plate_28 dX8_plate_31 dX8_plate_32 dX8_plate_35 dX8_plate_38 (Nat.le_of_ble_eq_true rfl) (by simp [va_cat, vi_cat, vl_cat]) hq1 hq2 (Nat.le_refl _) (Nat.le_refl _) h
set_option maxHeartbeats 4000000 in
set_option maxRecDepth 100000 in
theorem c_X8_extend (l : Launch) (hl : l.stackTraces = false) (D : va_G) (cy : Nat → Nat) (x0 : Nat) (x1 : Int32) (S : PT) (mc ms : Nat) (post : Int32 → PT → Prop) (postX : String → PT → Prop) (h : w_X8_extend x0 x1 S mc ms post postX) : Xi l yX8_extend (Wm yX8_extend prog_1_method_20_code 4 (Option.some Jvm.ClassFile.FieldType.int)) 6 90 D cy [va_rf (some x0), Value.int x1] S mc ms post postX := by
  refine Xi_of (own := "Trenchboard") (by decide) rfl (by first | decide | simp [lg_sl, va_cat, vi_cat, vl_cat]) (fun p e s m below meth c A C hZ hr hx9 => ?_)
  have J36 : ∀ (c0 n0 : Nat) (S : PT), w_X8_extend_b36 x0 x1 mc ms post postX c0 n0 S → G p l e { frames := 6, cells := mc, slots := ms, locals := 90 } s m [va_rf (some x0), Value.int x1].toArray below meth c D cy A s.heap 4 (QXi below D cy A [va_rf (some x0), Value.int x1] s mc ms post postX) S c0 n0 36 [] [] := by
    intro c0 n0 S h
    unfold w_X8_extend_b36 at h
    obtain ⟨hc00, hn00, h⟩ := h
    obtain ⟨hq1, hq2, h⟩ := h
    exact G_throwW C hZ hl hx9 (cls := "java/lang/IllegalStateException") (text := "not run, or no find for it") (ik := 68) (is := 331) (ic := 72) rfl (by decide) tw_2_47 tw_1_12 (List.mem_of_getElem? (i := 30) rfl) (at_ISE C.2.2.2.2.1 C.2.2.2.2.2.1) at_ISE_o dX8_extend_36 dX8_extend_39 dX8_extend_40 dX8_extend_43 dX8_extend_46 (Nat.le_of_ble_eq_true rfl) (by simp [va_cat, vi_cat, vl_cat]) hq1 hq2 (Nat.le_refl _) (Nat.le_refl _) h
  refine G_lv C (lv' := [(0, va_rf (some x0)), (1, Value.int x1)]) [0, 1] (by first | rfl | simp [lv_pick, lv_args, va_cat, vi_cat, vl_cat]) ?_
  unfold w_X8_extend at h
  refine G_aload_n C (x := (some x0)) 0 dX8_extend_0 rfl rfl ?_
  refine G_iload_n C (x := x1) 1 dX8_extend_1 rfl rfl ?_
  obtain ⟨hk1, h⟩ := h
  refine G_callVq C hZ (Tf := TX8) (N := 10) hk1 (by decide) rfl tw_3_102 tw_3_104 tw_0_12 tw_1_1 tw_3_105 hy_X8_worksAt ⟨Nat.le_of_ble_eq_true rfl, Nat.le_of_ble_eq_true rfl⟩ (As := [Value.int x1]) (rest := []) (c_X8_worksAt l D cy x0 x1 S _ h) rfl rfl (by simp [va_cat, vi_cat, vl_cat]) dX8_extend_2 ⟨(Nat.zero_le _), (Nat.zero_le _)⟩ (fun r3 S2 h => ?_)
  refine G_astore_n C (i := 2) (lv' := [(2, va_rf r3), (0, va_rf (some x0)), (1, Value.int x1)]) dX8_extend_5 rfl (by decide) (by first | rfl | simp [va_cat, vi_cat, vl_cat]) ?_
  refine G_aload_n C (x := r3) 0 dX8_extend_6 rfl rfl ?_
  refine G_ifnonnull C (tgt := 20) dX8_extend_7 (by decide) (fun hc => ?_) (fun a4 ha5 => ?_)
  · have h := h.1 hc
    obtain ⟨hq1, hq2, h⟩ := h
    exact G_throw C hZ hl hx9 (cls := "java/lang/IndexOutOfBoundsException") (text := "no such works") (ik := 52) (is := 225) (ic := 56) rfl (by decide) tw_1_142 tw_1_10 (List.mem_of_getElem? (i := 17) rfl) (at_IOOBE C.2.2.2.2.1 C.2.2.2.2.2.1) at_IOOBE_o dX8_extend_10 dX8_extend_13 dX8_extend_14 dX8_extend_16 dX8_extend_19 (Nat.le_of_ble_eq_true rfl) (by simp [va_cat, vi_cat, vl_cat]) hq1 hq2 (Nat.le_refl _) (Nat.le_refl _) h
  · have h := h.2 a4 ha5
    refine G_aload_n C (x := r3) 0 dX8_extend_20 rfl rfl ?_
    refine G_rf ha5 ?_
    obtain ⟨hk6, h⟩ := h
    refine G_get C (CC := RX7) (Tf := TX7) (N := 18) (k := 8) (i := 10) (v := Value.int (gI S2 810 a4)) hk6 (by decide) rfl (fin fwX7) (by decide) (im tw_4_230) rfl rfl dX8_extend_21 ?_
    refine G_iconst C (v := 3) dX8_extend_24 (by decide) ?_
    refine G_icmp_ne C (tgt := 36) dX8_extend_25 (by decide) (fun hc => ?_) (fun hc => ?_)
    · have h := h.1 hc
      refine G_lv C (lv' := []) [] rfl ?_
      exact J36 _ _ _ h
    · have h := h.2 hc
      refine G_aload_n C (x := r3) 0 dX8_extend_28 rfl rfl ?_
      refine G_rf ha5 ?_
      refine G_get C (CC := RX7) (Tf := TX7) (N := 18) (k := 8) (i := 13) (v := Value.int (gI S2 813 a4)) hk6 (by decide) rfl (fin fwX7) (by decide) (im tw_4_234) rfl rfl dX8_extend_29 ?_
      refine G_iconst C (v := 1) dX8_extend_32 (by decide) ?_
      refine G_icmp_ge C (tgt := 47) dX8_extend_33 (by decide) (fun hc => ?_) (fun hc => ?_)
      · have h := h.1 hc
        refine G_aload_n C (x := r3) 0 dX8_extend_47 rfl rfl ?_
        refine G_rf ha5 ?_
        refine G_get C (CC := RX7) (Tf := TX7) (N := 18) (k := 8) (i := 9) (v := Value.int (gI S2 809 a4)) hk6 (by decide) rfl (fin fwX7) (by decide) (im tw_4_228) rfl rfl dX8_extend_48 ?_
        refine G_iconst C (v := 2) dX8_extend_51 (by decide) ?_
        refine G_iadd C dX8_extend_52 ?_
        refine G_aload_n C (x := (some x0)) 1 dX8_extend_53 rfl rfl ?_
        obtain ⟨hk7, h⟩ := h
        refine G_callVi C hZ (Tf := TX8) (N := 10) hk7 (by decide) rfl tw_1_234 tw_1_236 tw_0_3 tw_1_1 tw_1_237 hy_X8_today ⟨Nat.le_of_ble_eq_true rfl, Nat.le_of_ble_eq_true rfl⟩ (As := []) (rest := [Value.int ((gI S2 809 a4) + 2)]) (c_X8_today l D cy x0 S2 _ h) rfl rfl (by simp [va_cat, vi_cat, vl_cat]) dX8_extend_54 ⟨(Nat.zero_le _), (Nat.zero_le _)⟩ (fun r9 S8 h => ?_)
        refine G_mmax C (im tw_4_41) (im tw_2_69) (im tw_1_14) (im tw_2_70) (Nat.le_of_ble_eq_true rfl) (by simp [va_cat, vi_cat, vl_cat]) (by omega) (by omega) dX8_extend_57 ?_
        refine G_istore_n C (i := 3) (lv' := [(3, Value.int (if ((gI S2 809 a4) + 2) < r9 then r9 else ((gI S2 809 a4) + 2))), (2, va_rf r3), (0, va_rf (some x0)), (1, Value.int x1)]) dX8_extend_60 rfl (by decide) (by first | rfl | simp [va_cat, vi_cat, vl_cat]) ?_
        refine G_aload_n C (x := (some x0)) 2 dX8_extend_61 rfl rfl ?_
        refine G_aload_n C (x := r3) 1 dX8_extend_62 rfl rfl ?_
        refine G_iload_n C (x := (if ((gI S2 809 a4) + 2) < r9 then r9 else ((gI S2 809 a4) + 2))) 0 dX8_extend_63 rfl rfl ?_
        refine G_iconst C (v := 0) dX8_extend_64 (by decide) ?_
        refine G_iconst C (v := 1) dX8_extend_65 (by decide) ?_
        obtain ⟨hk10, h⟩ := h
        refine G_callVi C hZ (Tf := TX8) (N := 10) hk10 (by decide) rfl tw_3_121 tw_3_123 tw_0_14 tw_1_1 tw_3_124 hy_X8_firstMet ⟨Nat.le_of_ble_eq_true rfl, Nat.le_of_ble_eq_true rfl⟩ (As := [va_rf r3, Value.int (if ((gI S2 809 a4) + 2) < r9 then r9 else ((gI S2 809 a4) + 2)), Value.int 0, Value.int 1]) (rest := []) (c_X8_firstMet l D cy x0 r3 (if ((gI S2 809 a4) + 2) < r9 then r9 else ((gI S2 809 a4) + 2)) 0 1 S8 _ h) rfl rfl (by simp [va_cat, vi_cat, vl_cat]) dX8_extend_66 ⟨(Nat.zero_le _), (Nat.zero_le _)⟩ (fun r12 S11 h => ?_)
        refine G_iconst C (v := (-1)) dX8_extend_69 (by decide) ?_
        refine G_icmp_eq C (tgt := 84) dX8_extend_70 (by decide) (fun hc => ?_) (fun hc => ?_)
        · have h := h.1 hc
          refine G_aload_n C (x := r3) 1 dX8_extend_84 rfl rfl ?_
          refine G_dup C dX8_extend_85 (va_cat _) ?_
          refine G_rf ha5 ?_
          obtain ⟨hk13, h⟩ := h
          refine G_get C (CC := RX7) (Tf := TX7) (N := 18) (k := 8) (i := 13) (v := Value.int (gI S11 813 a4)) hk13 (by decide) rfl (fin fwX7) (by decide) (im tw_4_234) rfl rfl dX8_extend_86 ?_
          refine G_iconst C (v := 1) dX8_extend_89 (by decide) ?_
          refine G_isub C dX8_extend_90 ?_
          refine G_rf1 ha5 ?_
          refine G_putI C (CC := RX7) (Tf := TX7) (N := 18) (k := 8) (i := 13) (f := 813) (x := ((gI S11 813 a4) - 1)) (ty0 := tyX7) (ty := .int) hk13 (by decide) rfl (fin fwX7) tyX7_ok nmX7 (by decide) (im tw_4_234) rfl rfl rfl rfl rfl rfl rfl dX8_extend_91 ?_
          generalize e15 : sI S11 813 a4 ((gI S11 813 a4) - 1) = S14
          have h := h S14 e15.symm
          refine G_aload_n C (x := r3) 1 dX8_extend_94 rfl rfl ?_
          refine G_dup C dX8_extend_95 (va_cat _) ?_
          refine G_rf ha5 ?_
          refine G_get C (CC := RX7) (Tf := TX7) (N := 18) (k := 8) (i := 9) (v := Value.int (gI S14 809 a4)) (ksI e15.symm hk13) (by decide) rfl (fin fwX7) (by decide) (im tw_4_228) rfl rfl dX8_extend_96 ?_
          refine G_iconst C (v := 2) dX8_extend_99 (by decide) ?_
          refine G_iadd C dX8_extend_100 ?_
          refine G_rf1 ha5 ?_
          refine G_putI C (CC := RX7) (Tf := TX7) (N := 18) (k := 8) (i := 9) (f := 809) (x := ((gI S14 809 a4) + 2)) (ty0 := tyX7) (ty := .int) (ksI e15.symm hk13) (by decide) rfl (fin fwX7) tyX7_ok nmX7 (by decide) (im tw_4_228) rfl rfl rfl rfl rfl rfl rfl dX8_extend_101 ?_
          generalize e17 : sI S14 809 a4 ((gI S14 809 a4) + 2) = S16
          have h := h S16 e17.symm
          refine G_aload_n C (x := r3) 1 dX8_extend_104 rfl rfl ?_
          refine G_rf ha5 ?_
          refine G_get C (CC := RX7) (Tf := TX7) (N := 18) (k := 8) (i := 9) (v := Value.int (gI S16 809 a4)) (ksI e17.symm (ksI e15.symm hk13)) (by decide) rfl (fin fwX7) (by decide) (im tw_4_228) rfl rfl dX8_extend_105 ?_
          refine G_vx ?_
          exact G_iret C (mc := mc) (ms := ms) (post := post) hr (Nat.zero_le _) (Nat.zero_le _) dX8_extend_108 h
        · have h := h.2 hc
          obtain ⟨hq1, hq2, h⟩ := h
          exact G_throwW C hZ hl hx9 (cls := "java/lang/IllegalStateException") (text := "would meet others") (ik := 68) (is := 343) (ic := 72) rfl (by decide) tw_2_47 tw_1_12 (List.mem_of_getElem? (i := 31) rfl) (at_ISE C.2.2.2.2.1 C.2.2.2.2.2.1) at_ISE_o dX8_extend_73 dX8_extend_76 dX8_extend_77 dX8_extend_80 dX8_extend_83 (Nat.le_of_ble_eq_true rfl) (by simp [va_cat, vi_cat, vl_cat]) hq1 hq2 (Nat.le_refl _) (Nat.le_refl _) h
      · have h := h.2 hc
        refine G_lv C (lv' := []) [] rfl ?_
        exact J36 _ _ _ h
set_option maxHeartbeats 4000000 in
set_option maxRecDepth 100000 in
theorem c_X8_stop (l : Launch) (hl : l.stackTraces = false) (D : va_G) (cy : Nat → Nat) (x0 : Nat) (x1 : Int32) (S : PT) (mc ms : Nat) (post : Int32 → PT → Prop) (postX : String → PT → Prop) (h : w_X8_stop x0 x1 S mc ms post postX) : Xi l yX8_stop (Wm yX8_stop prog_1_method_21_code 4 (Option.some Jvm.ClassFile.FieldType.int)) 6 90 D cy [va_rf (some x0), Value.int x1] S mc ms post postX := by
  refine Xi_of (own := "Trenchboard") (by decide) rfl (by first | decide | simp [lg_sl, va_cat, vi_cat, vl_cat]) (fun p e s m below meth c A C hZ hr hx9 => ?_)
  have J35 : ∀ (c0 n0 : Nat) (S : PT), w_X8_stop_b35 x0 x1 mc ms post postX c0 n0 S → G p l e { frames := 6, cells := mc, slots := ms, locals := 90 } s m [va_rf (some x0), Value.int x1].toArray below meth c D cy A s.heap 4 (QXi below D cy A [va_rf (some x0), Value.int x1] s mc ms post postX) S c0 n0 35 [] [] := by
    intro c0 n0 S h
    unfold w_X8_stop_b35 at h
    obtain ⟨hc00, hn00, h⟩ := h
    obtain ⟨hq1, hq2, h⟩ := h
    exact G_throwW C hZ hl hx9 (cls := "java/lang/IllegalStateException") (text := "not run, or a metre is open") (ik := 68) (is := 345) (ic := 72) rfl (by decide) tw_2_47 tw_1_12 (List.mem_of_getElem? (i := 32) rfl) (at_ISE C.2.2.2.2.1 C.2.2.2.2.2.1) at_ISE_o dX8_stop_35 dX8_stop_38 dX8_stop_39 dX8_stop_42 dX8_stop_45 (Nat.le_of_ble_eq_true rfl) (by simp [va_cat, vi_cat, vl_cat]) hq1 hq2 (Nat.le_refl _) (Nat.le_refl _) h
  refine G_lv C (lv' := [(0, va_rf (some x0)), (1, Value.int x1)]) [0, 1] (by first | rfl | simp [lv_pick, lv_args, va_cat, vi_cat, vl_cat]) ?_
  unfold w_X8_stop at h
  refine G_aload_n C (x := (some x0)) 0 dX8_stop_0 rfl rfl ?_
  refine G_iload_n C (x := x1) 1 dX8_stop_1 rfl rfl ?_
  obtain ⟨hk1, h⟩ := h
  refine G_callVq C hZ (Tf := TX8) (N := 10) hk1 (by decide) rfl tw_3_102 tw_3_104 tw_0_12 tw_1_1 tw_3_105 hy_X8_worksAt ⟨Nat.le_of_ble_eq_true rfl, Nat.le_of_ble_eq_true rfl⟩ (As := [Value.int x1]) (rest := []) (c_X8_worksAt l D cy x0 x1 S _ h) rfl rfl (by simp [va_cat, vi_cat, vl_cat]) dX8_stop_2 ⟨(Nat.zero_le _), (Nat.zero_le _)⟩ (fun r3 S2 h => ?_)
  refine G_astore_n C (i := 2) (lv' := [(2, va_rf r3), (0, va_rf (some x0)), (1, Value.int x1)]) dX8_stop_5 rfl (by decide) (by first | rfl | simp [va_cat, vi_cat, vl_cat]) ?_
  refine G_aload_n C (x := r3) 0 dX8_stop_6 rfl rfl ?_
  refine G_ifnonnull C (tgt := 20) dX8_stop_7 (by decide) (fun hc => ?_) (fun a4 ha5 => ?_)
  · have h := h.1 hc
    obtain ⟨hq1, hq2, h⟩ := h
    exact G_throw C hZ hl hx9 (cls := "java/lang/IndexOutOfBoundsException") (text := "no such works") (ik := 52) (is := 225) (ic := 56) rfl (by decide) tw_1_142 tw_1_10 (List.mem_of_getElem? (i := 17) rfl) (at_IOOBE C.2.2.2.2.1 C.2.2.2.2.2.1) at_IOOBE_o dX8_stop_10 dX8_stop_13 dX8_stop_14 dX8_stop_16 dX8_stop_19 (Nat.le_of_ble_eq_true rfl) (by simp [va_cat, vi_cat, vl_cat]) hq1 hq2 (Nat.le_refl _) (Nat.le_refl _) h
  · have h := h.2 a4 ha5
    refine G_aload_n C (x := r3) 0 dX8_stop_20 rfl rfl ?_
    refine G_rf ha5 ?_
    obtain ⟨hk6, h⟩ := h
    refine G_get C (CC := RX7) (Tf := TX7) (N := 18) (k := 8) (i := 10) (v := Value.int (gI S2 810 a4)) hk6 (by decide) rfl (fin fwX7) (by decide) (im tw_4_230) rfl rfl dX8_stop_21 ?_
    refine G_iconst C (v := 3) dX8_stop_24 (by decide) ?_
    refine G_icmp_ne C (tgt := 35) dX8_stop_25 (by decide) (fun hc => ?_) (fun hc => ?_)
    · have h := h.1 hc
      refine G_lv C (lv' := []) [] rfl ?_
      exact J35 _ _ _ h
    · have h := h.2 hc
      refine G_aload_n C (x := r3) 0 dX8_stop_28 rfl rfl ?_
      refine G_rf ha5 ?_
      refine G_get C (CC := RX7) (Tf := TX7) (N := 18) (k := 8) (i := 15) (v := Value.int (gI S2 815 a4)) hk6 (by decide) rfl (fin fwX7) (by decide) (im tw_4_238) rfl rfl dX8_stop_29 ?_
      refine G_if_le C (tgt := 46) dX8_stop_32 (by decide) (fun hc => ?_) (fun hc => ?_)
      · have h := h.1 hc
        refine G_aload_n C (x := r3) 0 dX8_stop_46 rfl rfl ?_
        refine G_aload_n C (x := (some x0)) 1 dX8_stop_47 rfl rfl ?_
        obtain ⟨hk7, h⟩ := h
        refine G_callVi C hZ (Tf := TX8) (N := 10) hk7 (by decide) rfl tw_1_234 tw_1_236 tw_0_3 tw_1_1 tw_1_237 hy_X8_today ⟨Nat.le_of_ble_eq_true rfl, Nat.le_of_ble_eq_true rfl⟩ (As := []) (rest := [va_rf r3]) (c_X8_today l D cy x0 S2 _ h) rfl rfl (by simp [va_cat, vi_cat, vl_cat]) dX8_stop_48 ⟨(Nat.zero_le _), (Nat.zero_le _)⟩ (fun r9 S8 h => ?_)
        obtain ⟨hk10, h⟩ := h
        refine G_callVi C hZ (Tf := TX7) (N := 18) hk10 (by decide) rfl tw_3_112 tw_3_113 tw_3_114 tw_1_21 tw_3_115 hy_X7_endOn ⟨Nat.le_of_ble_eq_true rfl, Nat.le_of_ble_eq_true rfl⟩ (As := [Value.int r9]) (rest := []) (c_X7_endOn l D cy a4 r9 S8 _ h) rfl (by first | rfl | (simp only [ha5]; rfl) | simp only [ha5]) (by simp [va_cat, vi_cat, vl_cat]) dX8_stop_51 ⟨(Nat.zero_le _), (Nat.zero_le _)⟩ (fun r12 S11 h => ?_)
        refine G_aload_n C (x := r3) 0 dX8_stop_54 rfl rfl ?_
        refine G_rf ha5 ?_
        obtain ⟨hk13, h⟩ := h
        refine G_get C (CC := RX7) (Tf := TX7) (N := 18) (k := 8) (i := 9) (v := Value.int (gI S11 809 a4)) hk13 (by decide) rfl (fin fwX7) (by decide) (im tw_4_228) rfl rfl dX8_stop_55 ?_
        refine G_isub C dX8_stop_58 ?_
        refine G_istore_n C (i := 3) (lv' := [(3, Value.int (r12 - (gI S11 809 a4))), (2, va_rf r3), (0, va_rf (some x0)), (1, Value.int x1)]) dX8_stop_59 rfl (by decide) (by first | rfl | simp [va_cat, vi_cat, vl_cat]) ?_
        refine G_aload_n C (x := r3) 1 dX8_stop_60 rfl rfl ?_
        refine G_iconst C (v := 4) dX8_stop_61 (by decide) ?_
        refine G_rf1 ha5 ?_
        refine G_putI C (CC := RX7) (Tf := TX7) (N := 18) (k := 8) (i := 10) (f := 810) (x := 4) (ty0 := tyX7) (ty := .int) hk13 (by decide) rfl (fin fwX7) tyX7_ok nmX7 (by decide) (im tw_4_230) rfl rfl rfl rfl rfl rfl rfl dX8_stop_62 ?_
        generalize e15 : sI S11 810 a4 4 = S14
        have h := h S14 e15.symm
        refine G_aload_n C (x := r3) 1 dX8_stop_65 rfl rfl ?_
        refine G_iconst C (v := 0) dX8_stop_66 (by decide) ?_
        refine G_rf1 ha5 ?_
        refine G_putI C (CC := RX7) (Tf := TX7) (N := 18) (k := 8) (i := 16) (f := 816) (x := 0) (ty0 := tyX7) (ty := .boolean) (ksI e15.symm hk13) (by decide) rfl (fin fwX7) tyX7_ok nmX7 (by decide) (im tw_5_0) rfl rfl rfl (bo_nar bo_0) (bo_fit bo_0) rfl rfl dX8_stop_67 ?_
        generalize e17 : sI S14 816 a4 0 = S16
        have h := h S16 e17.symm
        refine G_iload_n C (x := (r12 - (gI S11 809 a4))) 0 dX8_stop_70 rfl rfl ?_
        refine G_vx ?_
        exact G_iret C (mc := mc) (ms := ms) (post := post) hr (Nat.zero_le _) (Nat.zero_le _) dX8_stop_71 h
      · have h := h.2 hc
        refine G_lv C (lv' := []) [] rfl ?_
        exact J35 _ _ _ h
set_option maxHeartbeats 4000000 in
set_option maxRecDepth 100000 in
theorem c_X8_pass (l : Launch) (hl : l.stackTraces = false) (D : va_G) (cy : Nat → Nat) (x0 : Nat) (x1 : Int32) (S : PT) (mc ms : Nat) (post : Int32 → PT → Prop) (postX : String → PT → Prop) (h : w_X8_pass x0 x1 S mc ms post postX) : Xi l yX8_pass (Wm yX8_pass prog_1_method_22_code 3 (Option.some Jvm.ClassFile.FieldType.int)) 7 174 D cy [va_rf (some x0), Value.int x1] S mc ms post postX := by
  refine Xi_of (own := "Trenchboard") (by decide) rfl (by first | decide | simp [lg_sl, va_cat, vi_cat, vl_cat]) (fun p e s m below meth c A C hZ hr hx9 => ?_)
  have J48 : ∀ (n : Nat) (c0 n0 : Nat) (S : PT) (v2 : Int32), w_X8_pass_l48 x0 x1 mc ms post postX n c0 n0 S v2 → G p l e { frames := 7, cells := mc, slots := ms, locals := 174 } s m [va_rf (some x0), Value.int x1].toArray below meth c D cy A s.heap 3 (QXi below D cy A [va_rf (some x0), Value.int x1] s mc ms post postX) S c0 n0 48 [(0, va_rf (some x0)), (1, Value.int x1), (2, Value.int v2)] [] := by
    intro n48
    induction n48 with
    | zero => intro c0 n0 S v2 h; rw [w_X8_pass_l48] at h; exact False.elim h
    | succ n48 K48 =>
      intro c0 n0 S v2 h
      rw [w_X8_pass_l48] at h
      obtain ⟨hc00, hn00, h⟩ := h
      refine G_iload_n C (x := v2) 2 dX8_pass_48 rfl rfl ?_
      refine G_iload_n C (x := x1) 1 dX8_pass_49 rfl rfl ?_
      refine G_icmp_ge C (tgt := 63) dX8_pass_50 (by decide) (fun hc => ?_) (fun hc => ?_)
      · have h := h.1 hc
        refine G_aload_n C (x := (some x0)) 0 dX8_pass_63 rfl rfl ?_
        obtain ⟨hk1, h⟩ := h
        refine G_get C (CC := RX8) (Tf := TX8) (N := 10) (k := 9) (i := 9) (v := Value.int (gI S 909 x0)) hk1 (by decide) rfl (fin fwX8) (by decide) (im tw_1_108) rfl rfl dX8_pass_64 ?_
        refine G_vx ?_
        exact G_iret C (mc := mc) (ms := ms) (post := post) hr hc00 hn00 dX8_pass_67 h
      · have h := h.2 hc
        refine G_aload_n C (x := (some x0)) 0 dX8_pass_53 rfl rfl ?_
        obtain ⟨hk2, h⟩ := h
        obtain ⟨m5, m6, hc7, hs8, h⟩ := h
        refine G_callVv C hZ (Tf := TX8) (N := 10) hk2 (by decide) rfl tw_4_54 tw_4_56 tw_0_20 tw_1_1 tw_4_57 hy_X8_goOneHour ⟨Nat.le_of_ble_eq_true rfl, Nat.le_of_ble_eq_true rfl⟩ (As := []) (rest := []) (c_X8_goOneHour l D cy x0 S m5 m6 _ h) rfl rfl (by simp [va_cat, vi_cat, vl_cat]) dX8_pass_54 ⟨hc7, hs8⟩ (fun S3 h => ?_)
        refine G_iinc C (v := (v2 + 1)) (lv' := [(2, Value.int (v2 + 1)), (0, va_rf (some x0)), (1, Value.int x1)]) 2 dX8_pass_57 rfl rfl (by decide) (by first | rfl | simp [va_cat, vi_cat, vl_cat]) ?_
        refine G_goto C (tgt := 48) dX8_pass_60 (by decide) ?_
        refine G_lv C (lv' := [(0, va_rf (some x0)), (1, Value.int x1), (2, Value.int (v2 + 1))]) [1, 2, 0] rfl ?_
        exact K48 _ _ _ _ h
  have J12 : ∀ (c0 n0 : Nat) (S : PT), w_X8_pass_b12 x0 x1 mc ms post postX c0 n0 S → G p l e { frames := 7, cells := mc, slots := ms, locals := 174 } s m [va_rf (some x0), Value.int x1].toArray below meth c D cy A s.heap 3 (QXi below D cy A [va_rf (some x0), Value.int x1] s mc ms post postX) S c0 n0 12 [] [] := by
    intro c0 n0 S h
    unfold w_X8_pass_b12 at h
    obtain ⟨hc00, hn00, h⟩ := h
    obtain ⟨hq1, hq2, h⟩ := h
    exact G_throwW C hZ hl hx9 (cls := "java/lang/IllegalArgumentException") (text := "hours out of range") (ik := 59) (is := 350) (ic := 63) rfl (by decide) tw_1_210 tw_1_11 (List.mem_of_getElem? (i := 33) rfl) (at_IAE C.2.2.2.2.1 C.2.2.2.2.2.1) at_IAE_o dX8_pass_12 dX8_pass_15 dX8_pass_16 dX8_pass_19 dX8_pass_22 (Nat.le_of_ble_eq_true rfl) (by simp [va_cat, vi_cat, vl_cat]) hq1 hq2 (Nat.le_refl _) (Nat.le_refl _) h
  refine G_lv C (lv' := [(0, va_rf (some x0)), (1, Value.int x1)]) [0, 1] (by first | rfl | simp [lv_pick, lv_args, va_cat, vi_cat, vl_cat]) ?_
  unfold w_X8_pass at h
  refine G_iload_n C (x := x1) 1 dX8_pass_0 rfl rfl ?_
  refine G_iconst C (v := 1) dX8_pass_1 (by decide) ?_
  refine G_icmp_lt C (tgt := 12) dX8_pass_2 (by decide) (fun hc => ?_) (fun hc => ?_)
  · have h := h.1 hc
    refine G_lv C (lv' := []) [] rfl ?_
    exact J12 _ _ _ h
  · have h := h.2 hc
    refine G_iload_n C (x := x1) 1 dX8_pass_5 rfl rfl ?_
    refine G_sipush C (v := 200) dX8_pass_6 (by decide) ?_
    refine G_icmp_le C (tgt := 23) dX8_pass_9 (by decide) (fun hc => ?_) (fun hc => ?_)
    · have h := h.1 hc
      refine G_aload_n C (x := (some x0)) 0 dX8_pass_23 rfl rfl ?_
      obtain ⟨hk9, h⟩ := h
      refine G_get C (CC := RX8) (Tf := TX8) (N := 10) (k := 9) (i := 9) (v := Value.int (gI S 909 x0)) hk9 (by decide) rfl (fin fwX8) (by decide) (im tw_1_108) rfl rfl dX8_pass_24 ?_
      refine G_iload_n C (x := x1) 1 dX8_pass_27 rfl rfl ?_
      refine G_iadd C dX8_pass_28 ?_
      refine G_sipush C (v := 9999) dX8_pass_29 (by decide) ?_
      refine G_icmp_le C (tgt := 46) dX8_pass_32 (by decide) (fun hc => ?_) (fun hc => ?_)
      · have h := h.1 hc
        refine G_iconst C (v := 0) dX8_pass_46 (by decide) ?_
        refine G_istore_n C (i := 2) (lv' := [(2, Value.int 0), (0, va_rf (some x0)), (1, Value.int x1)]) dX8_pass_47 rfl (by decide) (by first | rfl | simp [va_cat, vi_cat, vl_cat]) ?_
        refine G_lv C (lv' := [(0, va_rf (some x0)), (1, Value.int x1), (2, Value.int 0)]) [1, 2, 0] rfl ?_
        obtain ⟨n9, h⟩ := h
        exact J48 n9 _ _ _ _ h
      · have h := h.2 hc
        obtain ⟨hq1, hq2, h⟩ := h
        exact G_throwW C hZ hl hx9 (cls := "java/lang/IllegalStateException") (text := "too late an hour") (ik := 68) (is := 355) (ic := 72) rfl (by decide) tw_2_47 tw_1_12 (List.mem_of_getElem? (i := 34) rfl) (at_ISE C.2.2.2.2.1 C.2.2.2.2.2.1) at_ISE_o dX8_pass_35 dX8_pass_38 dX8_pass_39 dX8_pass_42 dX8_pass_45 (Nat.le_of_ble_eq_true rfl) (by simp [va_cat, vi_cat, vl_cat]) hq1 hq2 (Nat.le_refl _) (Nat.le_refl _) h
    · have h := h.2 hc
      refine G_lv C (lv' := []) [] rfl ?_
      exact J12 _ _ _ h
set_option maxHeartbeats 4000000 in
set_option maxRecDepth 100000 in
theorem c_X8_defect (l : Launch) (hl : l.stackTraces = false) (D : va_G) (cy : Nat → Nat) (x0 : Nat) (x1 : Int32) (x2 : Int32) (x3 : Int32) (S : PT) (mc ms : Nat) (post : Int32 → PT → Prop) (postX : String → PT → Prop) (h : w_X8_defect x0 x1 x2 x3 S mc ms post postX) : Xi l yX8_defect (Wm yX8_defect prog_1_method_23_code 7 (Option.some Jvm.ClassFile.FieldType.int)) 6 110 D cy [va_rf (some x0), Value.int x1, Value.int x2, Value.int x3] S mc ms post postX := by
  refine Xi_of (own := "Trenchboard") (by decide) rfl (by first | decide | simp [lg_sl, va_cat, vi_cat, vl_cat]) (fun p e s m below meth c A C hZ hr hx9 => ?_)
  have J34 : ∀ (c0 n0 : Nat) (S : PT), w_X8_defect_b34 x0 x1 x2 x3 mc ms post postX c0 n0 S → G p l e { frames := 6, cells := mc, slots := ms, locals := 110 } s m [va_rf (some x0), Value.int x1, Value.int x2, Value.int x3].toArray below meth c D cy A s.heap 7 (QXi below D cy A [va_rf (some x0), Value.int x1, Value.int x2, Value.int x3] s mc ms post postX) S c0 n0 34 [] [] := by
    intro c0 n0 S h
    unfold w_X8_defect_b34 at h
    obtain ⟨hc00, hn00, h⟩ := h
    obtain ⟨hq1, hq2, h⟩ := h
    exact G_throw C hZ hl hx9 (cls := "java/lang/IndexOutOfBoundsException") (text := "no such street or metre") (ik := 52) (is := 189) (ic := 56) rfl (by decide) tw_1_142 tw_1_10 (List.mem_of_getElem? (i := 13) rfl) (at_IOOBE C.2.2.2.2.1 C.2.2.2.2.2.1) at_IOOBE_o dX8_defect_34 dX8_defect_37 dX8_defect_38 dX8_defect_40 dX8_defect_43 (Nat.le_of_ble_eq_true rfl) (by simp [va_cat, vi_cat, vl_cat]) hq1 hq2 (Nat.le_refl _) (Nat.le_refl _) h
  have J55 : ∀ (c0 n0 : Nat) (S : PT), w_X8_defect_b55 x0 x1 x2 x3 mc ms post postX c0 n0 S → G p l e { frames := 6, cells := mc, slots := ms, locals := 110 } s m [va_rf (some x0), Value.int x1, Value.int x2, Value.int x3].toArray below meth c D cy A s.heap 7 (QXi below D cy A [va_rf (some x0), Value.int x1, Value.int x2, Value.int x3] s mc ms post postX) S c0 n0 55 [] [] := by
    intro c0 n0 S h
    unfold w_X8_defect_b55 at h
    obtain ⟨hc00, hn00, h⟩ := h
    obtain ⟨hq1, hq2, h⟩ := h
    exact G_throwW C hZ hl hx9 (cls := "java/lang/IllegalArgumentException") (text := "depth out of range") (ik := 59) (is := 360) (ic := 63) rfl (by decide) tw_1_210 tw_1_11 (List.mem_of_getElem? (i := 35) rfl) (at_IAE C.2.2.2.2.1 C.2.2.2.2.2.1) at_IAE_o dX8_defect_55 dX8_defect_58 dX8_defect_59 dX8_defect_62 dX8_defect_65 (Nat.le_of_ble_eq_true rfl) (by simp [va_cat, vi_cat, vl_cat]) hq1 hq2 (Nat.le_refl _) (Nat.le_refl _) h
  have J22 : ∀ (c0 n0 : Nat) (S : PT) (v4 : Option Nat) (s0 : Option Nat), w_X8_defect_b22 x0 x1 x2 x3 mc ms post postX c0 n0 S v4 s0 → G p l e { frames := 6, cells := mc, slots := ms, locals := 110 } s m [va_rf (some x0), Value.int x1, Value.int x2, Value.int x3].toArray below meth c D cy A s.heap 7 (QXi below D cy A [va_rf (some x0), Value.int x1, Value.int x2, Value.int x3] s mc ms post postX) S c0 n0 22 [(0, va_rf (some x0)), (3, Value.int x3), (4, va_rf v4)] [va_rf s0] := by
    intro c0 n0 S v4 s0 h
    unfold w_X8_defect_b22 at h
    obtain ⟨hc00, hn00, h⟩ := h
    refine G_astore C (i := 5) (lv' := [(5, va_rf s0), (0, va_rf (some x0)), (3, Value.int x3), (4, va_rf v4)]) dX8_defect_22 (by decide) (by first | rfl | simp [va_cat, vi_cat, vl_cat]) ?_
    refine G_aload C (x := v4) 3 dX8_defect_24 rfl ?_
    refine G_ifnull C (tgt := 34) dX8_defect_26 (by decide) (fun hc => ?_) (fun a1 ha2 => ?_)
    · have h := h.1 hc
      refine G_lv C (lv' := []) [] rfl ?_
      exact J34 _ _ _ h
    · have h := h.2 a1 ha2
      refine G_aload C (x := s0) 0 dX8_defect_29 rfl ?_
      refine G_ifnonnull C (tgt := 44) dX8_defect_31 (by decide) (fun hc => ?_) (fun a3 ha4 => ?_)
      · have h := h.1 hc
        refine G_lv C (lv' := []) [] rfl ?_
        exact J34 _ _ _ h
      · have h := h.2 a3 ha4
        refine G_iload_n C (x := x3) 2 dX8_defect_44 rfl rfl ?_
        refine G_if_lt C (tgt := 55) dX8_defect_45 (by decide) (fun hc => ?_) (fun hc => ?_)
        · have h := h.1 hc
          refine G_lv C (lv' := []) [] rfl ?_
          exact J55 _ _ _ h
        · have h := h.2 hc
          refine G_iload_n C (x := x3) 2 dX8_defect_48 rfl rfl ?_
          refine G_sipush C (v := 300) dX8_defect_49 (by decide) ?_
          refine G_icmp_le C (tgt := 66) dX8_defect_52 (by decide) (fun hc => ?_) (fun hc => ?_)
          · have h := h.1 hc
            refine G_aload_n C (x := (some x0)) 1 dX8_defect_66 rfl rfl ?_
            refine G_aload C (x := v4) 3 dX8_defect_67 rfl ?_
            refine G_aload C (x := s0) 0 dX8_defect_69 rfl ?_
            refine G_iload_n C (x := x3) 2 dX8_defect_71 rfl rfl ?_
            obtain ⟨hk5, h⟩ := h
            refine G_callVq C hZ (Tf := TX8) (N := 10) hk5 (by decide) rfl tw_1_226 tw_1_228 tw_0_2 tw_1_1 tw_1_229 hy_X8_whoIsLiable ⟨Nat.le_of_ble_eq_true rfl, Nat.le_of_ble_eq_true rfl⟩ (As := [va_rf v4, va_rf s0, Value.int x3]) (rest := []) (c_X8_whoIsLiable l D cy x0 v4 s0 x3 S _ h) rfl rfl (by simp [va_cat, vi_cat, vl_cat]) dX8_defect_72 ⟨hc00, hn00⟩ (fun r7 S6 h => ?_)
            refine G_astore C (i := 6) (lv' := [(6, va_rf r7), (5, va_rf s0), (0, va_rf (some x0)), (3, Value.int x3), (4, va_rf v4)]) dX8_defect_75 (by decide) (by first | rfl | simp [va_cat, vi_cat, vl_cat]) ?_
            refine G_aload C (x := r7) 0 dX8_defect_77 rfl ?_
            refine G_ifnonnull C (tgt := 84) dX8_defect_79 (by decide) (fun hc => ?_) (fun a8 ha9 => ?_)
            · have h := h.1 hc
              refine G_iconst C (v := (-1)) dX8_defect_82 (by decide) ?_
              refine G_vx ?_
              exact G_iret C (mc := mc) (ms := ms) (post := post) hr hc00 hn00 dX8_defect_83 h
            · have h := h.2 a8 ha9
              refine G_aload_n C (x := (some x0)) 2 dX8_defect_84 rfl rfl ?_
              refine G_aload C (x := r7) 0 dX8_defect_85 rfl ?_
              refine G_rf ha9 ?_
              obtain ⟨hk10, h⟩ := h
              refine G_get C (CC := RX7) (Tf := TX7) (N := 18) (k := 8) (i := 1) (v := Value.int (gI S6 801 a8)) hk10 (by decide) rfl (fin fwX7) (by decide) (im tw_4_214) rfl rfl dX8_defect_87 ?_
              refine G_iconst C (v := 5) dX8_defect_90 (by decide) ?_
              refine G_sipush C (v := 300) dX8_defect_91 (by decide) ?_
              obtain ⟨hk11, h⟩ := h
              obtain ⟨m14, m15, hc16, hs17, h⟩ := h
              refine G_callVv C hZ (Tf := TX8) (N := 10) hk11 (by decide) rfl tw_3_162 tw_3_164 tw_0_16 tw_1_1 tw_3_165 hy_X8_pay ⟨Nat.le_of_ble_eq_true rfl, Nat.le_of_ble_eq_true rfl⟩ (As := [Value.int (gI S6 801 a8), Value.int 5, Value.int 300]) (rest := []) (c_X8_pay l D cy x0 (gI S6 801 a8) 5 300 S6 m14 m15 _ h) rfl rfl (by simp [va_cat, vi_cat, vl_cat]) dX8_defect_94 ⟨hc16, hs17⟩ (fun S12 h => ?_)
              refine G_aload_n C (x := (some x0)) 2 dX8_defect_97 rfl rfl ?_
              refine G_aload C (x := r7) 0 dX8_defect_98 rfl ?_
              refine G_rf ha9 ?_
              obtain ⟨hk18, h⟩ := h
              refine G_get C (CC := RX7) (Tf := TX7) (N := 18) (k := 8) (i := 1) (v := Value.int (gI S12 801 a8)) hk18 (by decide) rfl (fin fwX7) (by decide) (im tw_4_214) rfl rfl dX8_defect_100 ?_
              obtain ⟨hk19, h⟩ := h
              refine G_callVv C hZ (Tf := TX8) (N := 10) hk19 (by decide) rfl tw_4_99 tw_4_101 tw_0_26 tw_1_1 tw_4_102 hy_X8_countFault ⟨Nat.le_of_ble_eq_true rfl, Nat.le_of_ble_eq_true rfl⟩ (As := [Value.int (gI S12 801 a8)]) (rest := []) (c_X8_countFault l D cy x0 (gI S12 801 a8) S12 _ h) rfl rfl (by simp [va_cat, vi_cat, vl_cat]) dX8_defect_103 ⟨hc16, hs17⟩ (fun S20 h => ?_)
              refine G_aload C (x := r7) 0 dX8_defect_106 rfl ?_
              refine G_rf ha9 ?_
              obtain ⟨hk22, h⟩ := h
              refine G_get C (CC := RX7) (Tf := TX7) (N := 18) (k := 8) (i := 0) (v := Value.int (gI S20 800 a8)) hk22 (by decide) rfl (fin fwX7) (by decide) (im tw_4_212) rfl rfl dX8_defect_108 ?_
              refine G_vx ?_
              exact G_iret C (mc := mc) (ms := ms) (post := post) hr hc16 hs17 dX8_defect_111 h
          · have h := h.2 hc
            refine G_lv C (lv' := []) [] rfl ?_
            exact J55 _ _ _ h
  refine G_lv C (lv' := [(0, va_rf (some x0)), (1, Value.int x1), (2, Value.int x2), (3, Value.int x3)]) [0, 1, 2, 3] (by first | rfl | simp [lv_pick, lv_args, va_cat, vi_cat, vl_cat]) ?_
  unfold w_X8_defect at h
  refine G_aload_n C (x := (some x0)) 0 dX8_defect_0 rfl rfl ?_
  refine G_iload_n C (x := x1) 1 dX8_defect_1 rfl rfl ?_
  obtain ⟨hk23, h⟩ := h
  refine G_callVq C hZ (Tf := TX8) (N := 10) hk23 (by decide) rfl tw_1_134 tw_1_136 tw_0_0 tw_1_1 tw_1_137 hy_X8_streetAt ⟨Nat.le_of_ble_eq_true rfl, Nat.le_of_ble_eq_true rfl⟩ (As := [Value.int x1]) (rest := []) (c_X8_streetAt l D cy x0 x1 S _ h) rfl rfl (by simp [va_cat, vi_cat, vl_cat]) dX8_defect_2 ⟨(Nat.zero_le _), (Nat.zero_le _)⟩ (fun r25 S24 h => ?_)
  refine G_astore C (i := 4) (lv' := [(4, va_rf r25), (0, va_rf (some x0)), (1, Value.int x1), (2, Value.int x2), (3, Value.int x3)]) dX8_defect_5 (by decide) (by first | rfl | simp [va_cat, vi_cat, vl_cat]) ?_
  refine G_aload C (x := r25) 0 dX8_defect_7 rfl ?_
  refine G_ifnonnull C (tgt := 16) dX8_defect_9 (by decide) (fun hc => ?_) (fun a26 ha27 => ?_)
  · have h := h.1 hc
    refine G_null C dX8_defect_12 ?_
    refine G_goto C (tgt := 22) dX8_defect_13 (by decide) ?_
    refine G_lv C (lv' := [(0, va_rf (some x0)), (3, Value.int x3), (4, va_rf r25)]) [1, 4, 0] rfl ?_
    exact J22 _ _ _ _ _ h
  · have h := h.2 a26 ha27
    refine G_aload C (x := r25) 0 dX8_defect_16 rfl ?_
    refine G_iload_n C (x := x2) 3 dX8_defect_18 rfl rfl ?_
    obtain ⟨hk28, h⟩ := h
    refine G_callVq C hZ (Tf := TX4) (N := 12) hk28 (by decide) rfl tw_1_138 tw_1_139 tw_1_140 tw_1_13 tw_1_141 hy_X4_metreAt ⟨Nat.le_of_ble_eq_true rfl, Nat.le_of_ble_eq_true rfl⟩ (As := [Value.int x2]) (rest := []) (c_X4_metreAt l D cy a26 x2 S24 _ h) rfl (by first | rfl | (simp only [ha27]; rfl) | simp only [ha27]) (by simp [va_cat, vi_cat, vl_cat]) dX8_defect_19 ⟨(Nat.zero_le _), (Nat.zero_le _)⟩ (fun r30 S29 h => ?_)
    refine G_lv C (lv' := [(0, va_rf (some x0)), (3, Value.int x3), (4, va_rf r25)]) [1, 4, 0] rfl ?_
    exact J22 _ _ _ _ _ h
set_option maxHeartbeats 4000000 in
set_option maxRecDepth 100000 in
theorem c_X8_core (l : Launch) (hl : l.stackTraces = false) (D : va_G) (cy : Nat → Nat) (x0 : Nat) (x1 : Int32) (x2 : Int32) (S : PT) (mc ms : Nat) (post : Int32 → PT → Prop) (postX : String → PT → Prop) (h : w_X8_core x0 x1 x2 S mc ms post postX) : Xi l yX8_core (Wm yX8_core prog_1_method_24_code 6 (Option.some Jvm.ClassFile.FieldType.int)) 6 90 D cy [va_rf (some x0), Value.int x1, Value.int x2] S mc ms post postX := by
  refine Xi_of (own := "Trenchboard") (by decide) rfl (by first | decide | simp [lg_sl, va_cat, vi_cat, vl_cat]) (fun p e s m below meth c A C hZ hr hx9 => ?_)
  have J30 : ∀ (c0 n0 : Nat) (S : PT), w_X8_core_b30 x0 x1 x2 mc ms post postX c0 n0 S → G p l e { frames := 6, cells := mc, slots := ms, locals := 90 } s m [va_rf (some x0), Value.int x1, Value.int x2].toArray below meth c D cy A s.heap 6 (QXi below D cy A [va_rf (some x0), Value.int x1, Value.int x2] s mc ms post postX) S c0 n0 30 [] [] := by
    intro c0 n0 S h
    unfold w_X8_core_b30 at h
    obtain ⟨hc00, hn00, h⟩ := h
    obtain ⟨hq1, hq2, h⟩ := h
    exact G_throw C hZ hl hx9 (cls := "java/lang/IndexOutOfBoundsException") (text := "no such street or metre") (ik := 52) (is := 189) (ic := 56) rfl (by decide) tw_1_142 tw_1_10 (List.mem_of_getElem? (i := 13) rfl) (at_IOOBE C.2.2.2.2.1 C.2.2.2.2.2.1) at_IOOBE_o dX8_core_30 dX8_core_33 dX8_core_34 dX8_core_36 dX8_core_39 (Nat.le_of_ble_eq_true rfl) (by simp [va_cat, vi_cat, vl_cat]) hq1 hq2 (Nat.le_refl _) (Nat.le_refl _) h
  have J60 : ∀ (c0 n0 : Nat) (S : PT), w_X8_core_b60 x0 x1 x2 mc ms post postX c0 n0 S → G p l e { frames := 6, cells := mc, slots := ms, locals := 90 } s m [va_rf (some x0), Value.int x1, Value.int x2].toArray below meth c D cy A s.heap 6 (QXi below D cy A [va_rf (some x0), Value.int x1, Value.int x2] s mc ms post postX) S c0 n0 60 [] [] := by
    intro c0 n0 S h
    unfold w_X8_core_b60 at h
    obtain ⟨hc00, hn00, h⟩ := h
    obtain ⟨hq1, hq2, h⟩ := h
    exact G_throwW C hZ hl hx9 (cls := "java/lang/IllegalStateException") (text := "no fill, or it was cored") (ik := 68) (is := 375) (ic := 72) rfl (by decide) tw_2_47 tw_1_12 (List.mem_of_getElem? (i := 36) rfl) (at_ISE C.2.2.2.2.1 C.2.2.2.2.2.1) at_ISE_o dX8_core_60 dX8_core_63 dX8_core_64 dX8_core_67 dX8_core_70 (Nat.le_of_ble_eq_true rfl) (by simp [va_cat, vi_cat, vl_cat]) hq1 hq2 (Nat.le_refl _) (Nat.le_refl _) h
  have J111 : ∀ (c0 n0 : Nat) (S : PT) (v5 : Option Nat), w_X8_core_b111 x0 x1 x2 mc ms post postX c0 n0 S v5 → G p l e { frames := 6, cells := mc, slots := ms, locals := 90 } s m [va_rf (some x0), Value.int x1, Value.int x2].toArray below meth c D cy A s.heap 6 (QXi below D cy A [va_rf (some x0), Value.int x1, Value.int x2] s mc ms post postX) S c0 n0 111 [(5, va_rf v5)] [] := by
    intro c0 n0 S v5 h
    unfold w_X8_core_b111 at h
    obtain ⟨hc00, hn00, h⟩ := h
    refine G_aload C (x := v5) 0 dX8_core_111 rfl ?_
    obtain ⟨a1, ha2, h⟩ := h
    refine G_rf ha2 ?_
    obtain ⟨hk3, h⟩ := h
    refine G_get C (CC := RX0) (Tf := TX0) (N := 6) (k := 1) (i := 2) (v := Value.int (gI S 102 a1)) hk3 (by decide) rfl (fin fwX0) (by decide) (im tw_4_8) rfl rfl dX8_core_113 ?_
    refine G_vx ?_
    exact G_iret C (mc := mc) (ms := ms) (post := post) hr hc00 hn00 dX8_core_116 h
  have J19 : ∀ (c0 n0 : Nat) (S : PT) (v3 : Option Nat) (s0 : Option Nat), w_X8_core_b19 x0 x1 x2 mc ms post postX c0 n0 S v3 s0 → G p l e { frames := 6, cells := mc, slots := ms, locals := 90 } s m [va_rf (some x0), Value.int x1, Value.int x2].toArray below meth c D cy A s.heap 6 (QXi below D cy A [va_rf (some x0), Value.int x1, Value.int x2] s mc ms post postX) S c0 n0 19 [(0, va_rf (some x0)), (3, va_rf v3)] [va_rf s0] := by
    intro c0 n0 S v3 s0 h
    unfold w_X8_core_b19 at h
    obtain ⟨hc00, hn00, h⟩ := h
    refine G_astore C (i := 4) (lv' := [(4, va_rf s0), (0, va_rf (some x0)), (3, va_rf v3)]) dX8_core_19 (by decide) (by first | rfl | simp [va_cat, vi_cat, vl_cat]) ?_
    refine G_aload_n C (x := v3) 2 dX8_core_21 rfl rfl ?_
    refine G_ifnull C (tgt := 30) dX8_core_22 (by decide) (fun hc => ?_) (fun a4 ha5 => ?_)
    · have h := h.1 hc
      refine G_lv C (lv' := []) [] rfl ?_
      exact J30 _ _ _ h
    · have h := h.2 a4 ha5
      refine G_aload C (x := s0) 0 dX8_core_25 rfl ?_
      refine G_ifnonnull C (tgt := 40) dX8_core_27 (by decide) (fun hc => ?_) (fun a6 ha7 => ?_)
      · have h := h.1 hc
        refine G_lv C (lv' := []) [] rfl ?_
        exact J30 _ _ _ h
      · have h := h.2 a6 ha7
        refine G_aload C (x := s0) 0 dX8_core_40 rfl ?_
        refine G_rf ha7 ?_
        obtain ⟨hk8, h⟩ := h
        refine G_get C (CC := RX2) (Tf := TX2) (N := 4) (k := 3) (i := 3) (v := va_rf (gP S 303 a6)) hk8 (by decide) rfl (fin fwX2) (by decide) (im tw_2_85) rfl rfl dX8_core_42 ?_
        refine G_astore C (i := 5) (lv' := [(5, va_rf (gP S 303 a6)), (4, va_rf s0), (0, va_rf (some x0)), (3, va_rf v3)]) dX8_core_45 (by decide) (by first | rfl | simp [va_cat, vi_cat, vl_cat]) ?_
        refine G_aload C (x := (gP S 303 a6)) 0 dX8_core_47 rfl ?_
        refine G_ifnull C (tgt := 60) dX8_core_49 (by decide) (fun hc => ?_) (fun a9 ha10 => ?_)
        · have h := h.1 hc
          refine G_lv C (lv' := []) [] rfl ?_
          exact J60 _ _ _ h
        · have h := h.2 a9 ha10
          refine G_aload C (x := (gP S 303 a6)) 0 dX8_core_52 rfl ?_
          refine G_rf ha10 ?_
          obtain ⟨hk11, h⟩ := h
          refine G_get C (CC := RX0) (Tf := TX0) (N := 6) (k := 1) (i := 5) (v := Value.int (gI S 105 a9)) hk11 (by decide) rfl (fin fwX0) (by decide) (im tw_4_13) rfl rfl dX8_core_54 ?_
          refine G_if_eq C (tgt := 71) dX8_core_57 (by decide) (fun hc => ?_) (fun hc => ?_)
          · have h := h.1 hc
            refine G_aload C (x := (gP S 303 a6)) 0 dX8_core_71 rfl ?_
            refine G_iconst C (v := 1) dX8_core_73 (by decide) ?_
            refine G_rf1 ha10 ?_
            refine G_putI C (CC := RX0) (Tf := TX0) (N := 6) (k := 1) (i := 5) (f := 105) (x := 1) (ty0 := tyX0) (ty := .boolean) hk11 (by decide) rfl (fin fwX0) tyX0_ok nmX0 (by decide) (im tw_4_13) rfl rfl rfl (bo_nar bo_1) (bo_fit bo_1) rfl rfl dX8_core_74 ?_
            generalize e13 : sI S 105 a9 1 = S12
            have h := h S12 e13.symm
            refine G_aload_n C (x := (some x0)) 2 dX8_core_77 rfl rfl ?_
            refine G_aload C (x := (gP S 303 a6)) 0 dX8_core_78 rfl ?_
            refine G_rf ha10 ?_
            refine G_get C (CC := RX0) (Tf := TX0) (N := 6) (k := 1) (i := 0) (v := va_rf (gP S12 100 a9)) (ksI e13.symm hk11) (by decide) rfl (fin fwX0) (by decide) (im tw_4_4) rfl rfl dX8_core_80 ?_
            obtain ⟨a14, ha15, h⟩ := h
            refine G_rf ha15 ?_
            obtain ⟨hk16, h⟩ := h
            refine G_get C (CC := RX7) (Tf := TX7) (N := 18) (k := 8) (i := 1) (v := Value.int (gI S12 801 a14)) hk16 (by decide) rfl (fin fwX7) (by decide) (im tw_4_214) rfl rfl dX8_core_83 ?_
            obtain ⟨hk17, h⟩ := h
            refine G_callVv C hZ (Tf := TX8) (N := 10) hk17 (by decide) rfl tw_4_108 tw_4_110 tw_0_27 tw_1_1 tw_4_111 hy_X8_countCore ⟨Nat.le_of_ble_eq_true rfl, Nat.le_of_ble_eq_true rfl⟩ (As := [Value.int (gI S12 801 a14)]) (rest := []) (c_X8_countCore l D cy x0 (gI S12 801 a14) S12 _ h) rfl rfl (by simp [va_cat, vi_cat, vl_cat]) dX8_core_86 ⟨hc00, hn00⟩ (fun S18 h => ?_)
            refine G_aload C (x := (gP S 303 a6)) 0 dX8_core_89 rfl ?_
            refine G_rf ha10 ?_
            obtain ⟨hk20, h⟩ := h
            refine G_get C (CC := RX0) (Tf := TX0) (N := 6) (k := 1) (i := 2) (v := Value.int (gI S18 102 a9)) hk20 (by decide) rfl (fin fwX0) (by decide) (im tw_4_8) rfl rfl dX8_core_91 ?_
            refine G_bipush C (v := 80) dX8_core_94 (by decide) ?_
            refine G_icmp_ge C (tgt := 111) dX8_core_96 (by decide) (fun hc => ?_) (fun hc => ?_)
            · have h := h.1 hc
              refine G_lv C (lv' := [(5, va_rf (gP S 303 a6))]) [0] rfl ?_
              exact J111 _ _ _ _ h
            · have h := h.2 hc
              refine G_aload_n C (x := (some x0)) 2 dX8_core_99 rfl rfl ?_
              refine G_aload C (x := (gP S 303 a6)) 0 dX8_core_100 rfl ?_
              refine G_rf ha10 ?_
              refine G_get C (CC := RX0) (Tf := TX0) (N := 6) (k := 1) (i := 0) (v := va_rf (gP S18 100 a9)) hk20 (by decide) rfl (fin fwX0) (by decide) (im tw_4_4) rfl rfl dX8_core_102 ?_
              obtain ⟨a21, ha22, h⟩ := h
              refine G_rf ha22 ?_
              obtain ⟨hk23, h⟩ := h
              refine G_get C (CC := RX7) (Tf := TX7) (N := 18) (k := 8) (i := 1) (v := Value.int (gI S18 801 a21)) hk23 (by decide) rfl (fin fwX7) (by decide) (im tw_4_214) rfl rfl dX8_core_105 ?_
              obtain ⟨hk24, h⟩ := h
              refine G_callVv C hZ (Tf := TX8) (N := 10) hk24 (by decide) rfl tw_4_99 tw_4_101 tw_0_26 tw_1_1 tw_4_102 hy_X8_countFault ⟨Nat.le_of_ble_eq_true rfl, Nat.le_of_ble_eq_true rfl⟩ (As := [Value.int (gI S18 801 a21)]) (rest := []) (c_X8_countFault l D cy x0 (gI S18 801 a21) S18 _ h) rfl rfl (by simp [va_cat, vi_cat, vl_cat]) dX8_core_108 ⟨hc00, hn00⟩ (fun S25 h => ?_)
              refine G_lv C (lv' := [(5, va_rf (gP S 303 a6))]) [0] rfl ?_
              exact J111 _ _ _ _ h
          · have h := h.2 hc
            refine G_lv C (lv' := []) [] rfl ?_
            exact J60 _ _ _ h
  refine G_lv C (lv' := [(0, va_rf (some x0)), (1, Value.int x1), (2, Value.int x2)]) [0, 1, 2] (by first | rfl | simp [lv_pick, lv_args, va_cat, vi_cat, vl_cat]) ?_
  unfold w_X8_core at h
  refine G_aload_n C (x := (some x0)) 0 dX8_core_0 rfl rfl ?_
  refine G_iload_n C (x := x1) 1 dX8_core_1 rfl rfl ?_
  obtain ⟨hk27, h⟩ := h
  refine G_callVq C hZ (Tf := TX8) (N := 10) hk27 (by decide) rfl tw_1_134 tw_1_136 tw_0_0 tw_1_1 tw_1_137 hy_X8_streetAt ⟨Nat.le_of_ble_eq_true rfl, Nat.le_of_ble_eq_true rfl⟩ (As := [Value.int x1]) (rest := []) (c_X8_streetAt l D cy x0 x1 S _ h) rfl rfl (by simp [va_cat, vi_cat, vl_cat]) dX8_core_2 ⟨(Nat.zero_le _), (Nat.zero_le _)⟩ (fun r29 S28 h => ?_)
  refine G_astore_n C (i := 3) (lv' := [(3, va_rf r29), (0, va_rf (some x0)), (1, Value.int x1), (2, Value.int x2)]) dX8_core_5 rfl (by decide) (by first | rfl | simp [va_cat, vi_cat, vl_cat]) ?_
  refine G_aload_n C (x := r29) 0 dX8_core_6 rfl rfl ?_
  refine G_ifnonnull C (tgt := 14) dX8_core_7 (by decide) (fun hc => ?_) (fun a30 ha31 => ?_)
  · have h := h.1 hc
    refine G_null C dX8_core_10 ?_
    refine G_goto C (tgt := 19) dX8_core_11 (by decide) ?_
    refine G_lv C (lv' := [(0, va_rf (some x0)), (3, va_rf r29)]) [1, 0] rfl ?_
    exact J19 _ _ _ _ _ h
  · have h := h.2 a30 ha31
    refine G_aload_n C (x := r29) 0 dX8_core_14 rfl rfl ?_
    refine G_iload_n C (x := x2) 3 dX8_core_15 rfl rfl ?_
    obtain ⟨hk32, h⟩ := h
    refine G_callVq C hZ (Tf := TX4) (N := 12) hk32 (by decide) rfl tw_1_138 tw_1_139 tw_1_140 tw_1_13 tw_1_141 hy_X4_metreAt ⟨Nat.le_of_ble_eq_true rfl, Nat.le_of_ble_eq_true rfl⟩ (As := [Value.int x2]) (rest := []) (c_X4_metreAt l D cy a30 x2 S28 _ h) rfl (by first | rfl | (simp only [ha31]; rfl) | simp only [ha31]) (by simp [va_cat, vi_cat, vl_cat]) dX8_core_16 ⟨(Nat.zero_le _), (Nat.zero_le _)⟩ (fun r34 S33 h => ?_)
    refine G_lv C (lv' := [(0, va_rf (some x0)), (3, va_rf r29)]) [1, 0] rfl ?_
    exact J19 _ _ _ _ _ h
set_option maxHeartbeats 4000000 in
set_option maxRecDepth 100000 in
theorem c_X8_liable (l : Launch) (hl : l.stackTraces = false) (D : va_G) (cy : Nat → Nat) (x0 : Nat) (x1 : Int32) (x2 : Int32) (x3 : Int32) (S : PT) (mc ms : Nat) (post : Int32 → PT → Prop) (postX : String → PT → Prop) (h : w_X8_liable x0 x1 x2 x3 S mc ms post postX) : Xi l yX8_liable (Wm yX8_liable prog_1_method_25_code 6 (Option.some Jvm.ClassFile.FieldType.int)) 6 90 D cy [va_rf (some x0), Value.int x1, Value.int x2, Value.int x3] S mc ms post postX := by
  refine Xi_of (own := "Trenchboard") (by decide) rfl (by first | decide | simp [lg_sl, va_cat, vi_cat, vl_cat]) (fun p e s m below meth c A C hZ hr hx9 => ?_)
  have J34 : ∀ (c0 n0 : Nat) (S : PT), w_X8_liable_b34 x0 x1 x2 x3 mc ms post postX c0 n0 S → G p l e { frames := 6, cells := mc, slots := ms, locals := 90 } s m [va_rf (some x0), Value.int x1, Value.int x2, Value.int x3].toArray below meth c D cy A s.heap 6 (QXi below D cy A [va_rf (some x0), Value.int x1, Value.int x2, Value.int x3] s mc ms post postX) S c0 n0 34 [] [] := by
    intro c0 n0 S h
    unfold w_X8_liable_b34 at h
    obtain ⟨hc00, hn00, h⟩ := h
    obtain ⟨hq1, hq2, h⟩ := h
    exact G_throw C hZ hl hx9 (cls := "java/lang/IndexOutOfBoundsException") (text := "no such street or metre") (ik := 52) (is := 189) (ic := 56) rfl (by decide) tw_1_142 tw_1_10 (List.mem_of_getElem? (i := 13) rfl) (at_IOOBE C.2.2.2.2.1 C.2.2.2.2.2.1) at_IOOBE_o dX8_liable_34 dX8_liable_37 dX8_liable_38 dX8_liable_40 dX8_liable_43 (Nat.le_of_ble_eq_true rfl) (by simp [va_cat, vi_cat, vl_cat]) hq1 hq2 (Nat.le_refl _) (Nat.le_refl _) h
  have J55 : ∀ (c0 n0 : Nat) (S : PT), w_X8_liable_b55 x0 x1 x2 x3 mc ms post postX c0 n0 S → G p l e { frames := 6, cells := mc, slots := ms, locals := 90 } s m [va_rf (some x0), Value.int x1, Value.int x2, Value.int x3].toArray below meth c D cy A s.heap 6 (QXi below D cy A [va_rf (some x0), Value.int x1, Value.int x2, Value.int x3] s mc ms post postX) S c0 n0 55 [] [] := by
    intro c0 n0 S h
    unfold w_X8_liable_b55 at h
    obtain ⟨hc00, hn00, h⟩ := h
    obtain ⟨hq1, hq2, h⟩ := h
    exact G_throwW C hZ hl hx9 (cls := "java/lang/IllegalArgumentException") (text := "depth out of range") (ik := 59) (is := 360) (ic := 63) rfl (by decide) tw_1_210 tw_1_11 (List.mem_of_getElem? (i := 35) rfl) (at_IAE C.2.2.2.2.1 C.2.2.2.2.2.1) at_IAE_o dX8_liable_55 dX8_liable_58 dX8_liable_59 dX8_liable_62 dX8_liable_65 (Nat.le_of_ble_eq_true rfl) (by simp [va_cat, vi_cat, vl_cat]) hq1 hq2 (Nat.le_refl _) (Nat.le_refl _) h
  have J22 : ∀ (c0 n0 : Nat) (S : PT) (v4 : Option Nat) (s0 : Option Nat), w_X8_liable_b22 x0 x1 x2 x3 mc ms post postX c0 n0 S v4 s0 → G p l e { frames := 6, cells := mc, slots := ms, locals := 90 } s m [va_rf (some x0), Value.int x1, Value.int x2, Value.int x3].toArray below meth c D cy A s.heap 6 (QXi below D cy A [va_rf (some x0), Value.int x1, Value.int x2, Value.int x3] s mc ms post postX) S c0 n0 22 [(0, va_rf (some x0)), (3, Value.int x3), (4, va_rf v4)] [va_rf s0] := by
    intro c0 n0 S v4 s0 h
    unfold w_X8_liable_b22 at h
    obtain ⟨hc00, hn00, h⟩ := h
    refine G_astore C (i := 5) (lv' := [(5, va_rf s0), (0, va_rf (some x0)), (3, Value.int x3), (4, va_rf v4)]) dX8_liable_22 (by decide) (by first | rfl | simp [va_cat, vi_cat, vl_cat]) ?_
    refine G_aload C (x := v4) 3 dX8_liable_24 rfl ?_
    refine G_ifnull C (tgt := 34) dX8_liable_26 (by decide) (fun hc => ?_) (fun a1 ha2 => ?_)
    · have h := h.1 hc
      refine G_lv C (lv' := []) [] rfl ?_
      exact J34 _ _ _ h
    · have h := h.2 a1 ha2
      refine G_aload C (x := s0) 0 dX8_liable_29 rfl ?_
      refine G_ifnonnull C (tgt := 44) dX8_liable_31 (by decide) (fun hc => ?_) (fun a3 ha4 => ?_)
      · have h := h.1 hc
        refine G_lv C (lv' := []) [] rfl ?_
        exact J34 _ _ _ h
      · have h := h.2 a3 ha4
        refine G_iload_n C (x := x3) 2 dX8_liable_44 rfl rfl ?_
        refine G_if_lt C (tgt := 55) dX8_liable_45 (by decide) (fun hc => ?_) (fun hc => ?_)
        · have h := h.1 hc
          refine G_lv C (lv' := []) [] rfl ?_
          exact J55 _ _ _ h
        · have h := h.2 hc
          refine G_iload_n C (x := x3) 2 dX8_liable_48 rfl rfl ?_
          refine G_sipush C (v := 300) dX8_liable_49 (by decide) ?_
          refine G_icmp_le C (tgt := 66) dX8_liable_52 (by decide) (fun hc => ?_) (fun hc => ?_)
          · have h := h.1 hc
            refine G_aload_n C (x := (some x0)) 1 dX8_liable_66 rfl rfl ?_
            refine G_aload C (x := v4) 3 dX8_liable_67 rfl ?_
            refine G_aload C (x := s0) 0 dX8_liable_69 rfl ?_
            refine G_iload_n C (x := x3) 2 dX8_liable_71 rfl rfl ?_
            obtain ⟨hk5, h⟩ := h
            refine G_callVq C hZ (Tf := TX8) (N := 10) hk5 (by decide) rfl tw_1_226 tw_1_228 tw_0_2 tw_1_1 tw_1_229 hy_X8_whoIsLiable ⟨Nat.le_of_ble_eq_true rfl, Nat.le_of_ble_eq_true rfl⟩ (As := [va_rf v4, va_rf s0, Value.int x3]) (rest := []) (c_X8_whoIsLiable l D cy x0 v4 s0 x3 S _ h) rfl rfl (by simp [va_cat, vi_cat, vl_cat]) dX8_liable_72 ⟨hc00, hn00⟩ (fun r7 S6 h => ?_)
            refine G_callSi C hZ tw_2_2 tw_2_3 tw_1_1 tw_2_4 hy_X8_numberOf ⟨Nat.le_of_ble_eq_true rfl, Nat.le_of_ble_eq_true rfl⟩ (As := [va_rf r7]) (rest := []) (c_X8_numberOf l D cy r7 S6 _ h) rfl rfl (by simp [va_cat, vi_cat, vl_cat]) dX8_liable_75 ⟨hc00, hn00⟩ (fun r9 S8 h => ?_)
            refine G_vx ?_
            exact G_iret C (mc := mc) (ms := ms) (post := post) hr hc00 hn00 dX8_liable_78 h
          · have h := h.2 hc
            refine G_lv C (lv' := []) [] rfl ?_
            exact J55 _ _ _ h
  refine G_lv C (lv' := [(0, va_rf (some x0)), (1, Value.int x1), (2, Value.int x2), (3, Value.int x3)]) [0, 1, 2, 3] (by first | rfl | simp [lv_pick, lv_args, va_cat, vi_cat, vl_cat]) ?_
  unfold w_X8_liable at h
  refine G_aload_n C (x := (some x0)) 0 dX8_liable_0 rfl rfl ?_
  refine G_iload_n C (x := x1) 1 dX8_liable_1 rfl rfl ?_
  obtain ⟨hk10, h⟩ := h
  refine G_callVq C hZ (Tf := TX8) (N := 10) hk10 (by decide) rfl tw_1_134 tw_1_136 tw_0_0 tw_1_1 tw_1_137 hy_X8_streetAt ⟨Nat.le_of_ble_eq_true rfl, Nat.le_of_ble_eq_true rfl⟩ (As := [Value.int x1]) (rest := []) (c_X8_streetAt l D cy x0 x1 S _ h) rfl rfl (by simp [va_cat, vi_cat, vl_cat]) dX8_liable_2 ⟨(Nat.zero_le _), (Nat.zero_le _)⟩ (fun r12 S11 h => ?_)
  refine G_astore C (i := 4) (lv' := [(4, va_rf r12), (0, va_rf (some x0)), (1, Value.int x1), (2, Value.int x2), (3, Value.int x3)]) dX8_liable_5 (by decide) (by first | rfl | simp [va_cat, vi_cat, vl_cat]) ?_
  refine G_aload C (x := r12) 0 dX8_liable_7 rfl ?_
  refine G_ifnonnull C (tgt := 16) dX8_liable_9 (by decide) (fun hc => ?_) (fun a13 ha14 => ?_)
  · have h := h.1 hc
    refine G_null C dX8_liable_12 ?_
    refine G_goto C (tgt := 22) dX8_liable_13 (by decide) ?_
    refine G_lv C (lv' := [(0, va_rf (some x0)), (3, Value.int x3), (4, va_rf r12)]) [1, 4, 0] rfl ?_
    exact J22 _ _ _ _ _ h
  · have h := h.2 a13 ha14
    refine G_aload C (x := r12) 0 dX8_liable_16 rfl ?_
    refine G_iload_n C (x := x2) 3 dX8_liable_18 rfl rfl ?_
    obtain ⟨hk15, h⟩ := h
    refine G_callVq C hZ (Tf := TX4) (N := 12) hk15 (by decide) rfl tw_1_138 tw_1_139 tw_1_140 tw_1_13 tw_1_141 hy_X4_metreAt ⟨Nat.le_of_ble_eq_true rfl, Nat.le_of_ble_eq_true rfl⟩ (As := [Value.int x2]) (rest := []) (c_X4_metreAt l D cy a13 x2 S11 _ h) rfl (by first | rfl | (simp only [ha14]; rfl) | simp only [ha14]) (by simp [va_cat, vi_cat, vl_cat]) dX8_liable_19 ⟨(Nat.zero_le _), (Nat.zero_le _)⟩ (fun r17 S16 h => ?_)
    refine G_lv C (lv' := [(0, va_rf (some x0)), (3, Value.int x3), (4, va_rf r12)]) [1, 4, 0] rfl ?_
    exact J22 _ _ _ _ _ h
set_option maxHeartbeats 4000000 in
set_option maxRecDepth 100000 in
theorem c_X8_liableAnew (l : Launch) (hl : l.stackTraces = false) (D : va_G) (cy : Nat → Nat) (x0 : Nat) (x1 : Int32) (x2 : Int32) (x3 : Int32) (S : PT) (mc ms : Nat) (post : Int32 → PT → Prop) (postX : String → PT → Prop) (h : w_X8_liableAnew x0 x1 x2 x3 S mc ms post postX) : Xi l yX8_liableAnew (Wm yX8_liableAnew prog_1_method_26_code 11 (Option.some Jvm.ClassFile.FieldType.int)) 6 90 D cy [va_rf (some x0), Value.int x1, Value.int x2, Value.int x3] S mc ms post postX := by
  refine Xi_of (own := "Trenchboard") (by decide) rfl (by first | decide | simp [lg_sl, va_cat, vi_cat, vl_cat]) (fun p e s m below meth c A C hZ hr hx9 => ?_)
  have J34 : ∀ (c0 n0 : Nat) (S : PT), w_X8_liableAnew_b34 x0 x1 x2 x3 mc ms post postX c0 n0 S → G p l e { frames := 6, cells := mc, slots := ms, locals := 90 } s m [va_rf (some x0), Value.int x1, Value.int x2, Value.int x3].toArray below meth c D cy A s.heap 11 (QXi below D cy A [va_rf (some x0), Value.int x1, Value.int x2, Value.int x3] s mc ms post postX) S c0 n0 34 [] [] := by
    intro c0 n0 S h
    unfold w_X8_liableAnew_b34 at h
    obtain ⟨hc00, hn00, h⟩ := h
    obtain ⟨hq1, hq2, h⟩ := h
    exact G_throw C hZ hl hx9 (cls := "java/lang/IndexOutOfBoundsException") (text := "no such street or metre") (ik := 52) (is := 189) (ic := 56) rfl (by decide) tw_1_142 tw_1_10 (List.mem_of_getElem? (i := 13) rfl) (at_IOOBE C.2.2.2.2.1 C.2.2.2.2.2.1) at_IOOBE_o dX8_liableAnew_34 dX8_liableAnew_37 dX8_liableAnew_38 dX8_liableAnew_40 dX8_liableAnew_43 (Nat.le_of_ble_eq_true rfl) (by simp [va_cat, vi_cat, vl_cat]) hq1 hq2 (Nat.le_refl _) (Nat.le_refl _) h
  have J55 : ∀ (c0 n0 : Nat) (S : PT), w_X8_liableAnew_b55 x0 x1 x2 x3 mc ms post postX c0 n0 S → G p l e { frames := 6, cells := mc, slots := ms, locals := 90 } s m [va_rf (some x0), Value.int x1, Value.int x2, Value.int x3].toArray below meth c D cy A s.heap 11 (QXi below D cy A [va_rf (some x0), Value.int x1, Value.int x2, Value.int x3] s mc ms post postX) S c0 n0 55 [] [] := by
    intro c0 n0 S h
    unfold w_X8_liableAnew_b55 at h
    obtain ⟨hc00, hn00, h⟩ := h
    obtain ⟨hq1, hq2, h⟩ := h
    exact G_throwW C hZ hl hx9 (cls := "java/lang/IllegalArgumentException") (text := "depth out of range") (ik := 59) (is := 360) (ic := 63) rfl (by decide) tw_1_210 tw_1_11 (List.mem_of_getElem? (i := 35) rfl) (at_IAE C.2.2.2.2.1 C.2.2.2.2.2.1) at_IAE_o dX8_liableAnew_55 dX8_liableAnew_58 dX8_liableAnew_59 dX8_liableAnew_62 dX8_liableAnew_65 (Nat.le_of_ble_eq_true rfl) (by simp [va_cat, vi_cat, vl_cat]) hq1 hq2 (Nat.le_refl _) (Nat.le_refl _) h
  have J197 : ∀ (c0 n0 : Nat) (S : PT), w_X8_liableAnew_b197 x0 x1 x2 x3 mc ms post postX c0 n0 S → G p l e { frames := 6, cells := mc, slots := ms, locals := 90 } s m [va_rf (some x0), Value.int x1, Value.int x2, Value.int x3].toArray below meth c D cy A s.heap 11 (QXi below D cy A [va_rf (some x0), Value.int x1, Value.int x2, Value.int x3] s mc ms post postX) S c0 n0 197 [] [] := by
    intro c0 n0 S h
    unfold w_X8_liableAnew_b197 at h
    obtain ⟨hc00, hn00, h⟩ := h
    refine G_iconst C (v := (-1)) dX8_liableAnew_197 (by decide) ?_
    refine G_vx ?_
    exact G_iret C (mc := mc) (ms := ms) (post := post) hr hc00 hn00 dX8_liableAnew_198 h
  have J199 : ∀ (c0 n0 : Nat) (S : PT) (v6 : Option Nat), w_X8_liableAnew_b199 x0 x1 x2 x3 mc ms post postX c0 n0 S v6 → G p l e { frames := 6, cells := mc, slots := ms, locals := 90 } s m [va_rf (some x0), Value.int x1, Value.int x2, Value.int x3].toArray below meth c D cy A s.heap 11 (QXi below D cy A [va_rf (some x0), Value.int x1, Value.int x2, Value.int x3] s mc ms post postX) S c0 n0 199 [(6, va_rf v6)] [] := by
    intro c0 n0 S v6 h
    unfold w_X8_liableAnew_b199 at h
    obtain ⟨hc00, hn00, h⟩ := h
    refine G_aload C (x := v6) 0 dX8_liableAnew_199 rfl ?_
    obtain ⟨a1, ha2, h⟩ := h
    refine G_rf ha2 ?_
    obtain ⟨hk3, h⟩ := h
    refine G_get C (CC := RX7) (Tf := TX7) (N := 18) (k := 8) (i := 0) (v := Value.int (gI S 800 a1)) hk3 (by decide) rfl (fin fwX7) (by decide) (im tw_4_212) rfl rfl dX8_liableAnew_201 ?_
    refine G_vx ?_
    exact G_iret C (mc := mc) (ms := ms) (post := post) hr hc00 hn00 dX8_liableAnew_204 h
  have J78 : ∀ (n : Nat) (c0 n0 : Nat) (S : PT) (v4 : Option Nat) (v6 : Option Nat) (v7 : Int32) (v8 : Int32) (v9 : Int32), w_X8_liableAnew_l78 x0 x1 x2 x3 mc ms post postX n c0 n0 S v4 v6 v7 v8 v9 → G p l e { frames := 6, cells := mc, slots := ms, locals := 90 } s m [va_rf (some x0), Value.int x1, Value.int x2, Value.int x3].toArray below meth c D cy A s.heap 11 (QXi below D cy A [va_rf (some x0), Value.int x1, Value.int x2, Value.int x3] s mc ms post postX) S c0 n0 78 [(0, va_rf (some x0)), (2, Value.int x2), (3, Value.int x3), (4, va_rf v4), (6, va_rf v6), (7, Value.int v7), (8, Value.int v8), (9, Value.int v9)] [] := by
    intro n78
    induction n78 with
    | zero => intro c0 n0 S v4 v6 v7 v8 v9 h; rw [w_X8_liableAnew_l78] at h; exact False.elim h
    | succ n78 K78 =>
      have J160 : ∀ (c0 n0 : Nat) (S : PT) (v4 : Option Nat) (v6 : Option Nat) (v7 : Int32) (v8 : Int32) (v9 : Int32), w_X8_liableAnew_b160 x0 x1 x2 x3 mc ms post postX (w_X8_liableAnew_l78 x0 x1 x2 x3 mc ms post postX n78) c0 n0 S v4 v6 v7 v8 v9 → G p l e { frames := 6, cells := mc, slots := ms, locals := 90 } s m [va_rf (some x0), Value.int x1, Value.int x2, Value.int x3].toArray below meth c D cy A s.heap 11 (QXi below D cy A [va_rf (some x0), Value.int x1, Value.int x2, Value.int x3] s mc ms post postX) S c0 n0 160 [(0, va_rf (some x0)), (2, Value.int x2), (3, Value.int x3), (4, va_rf v4), (6, va_rf v6), (7, Value.int v7), (8, Value.int v8), (9, Value.int v9)] [] := by
        intro c0 n0 S v4 v6 v7 v8 v9 h
        unfold w_X8_liableAnew_b160 at h
        obtain ⟨hc00, hn00, h⟩ := h
        refine G_iinc C (v := (v9 + 1)) (lv' := [(9, Value.int (v9 + 1)), (0, va_rf (some x0)), (2, Value.int x2), (3, Value.int x3), (4, va_rf v4), (6, va_rf v6), (7, Value.int v7), (8, Value.int v8)]) 7 dX8_liableAnew_160 rfl rfl (by decide) (by first | rfl | simp [va_cat, vi_cat, vl_cat]) ?_
        refine G_goto C (tgt := 78) dX8_liableAnew_163 (by decide) ?_
        refine G_lv C (lv' := [(0, va_rf (some x0)), (2, Value.int x2), (3, Value.int x3), (4, va_rf v4), (6, va_rf v6), (7, Value.int v7), (8, Value.int v8), (9, Value.int (v9 + 1))]) [1, 2, 3, 4, 5, 6, 7, 0] rfl ?_
        exact K78 _ _ _ _ _ _ _ _ h
      have J147 : ∀ (c0 n0 : Nat) (S : PT) (v4 : Option Nat) (v6 : Option Nat) (v7 : Int32) (v8 : Int32) (v9 : Int32) (v10 : Option Nat), w_X8_liableAnew_b147 x0 x1 x2 x3 mc ms post postX (w_X8_liableAnew_l78 x0 x1 x2 x3 mc ms post postX n78) c0 n0 S v4 v6 v7 v8 v9 v10 → G p l e { frames := 6, cells := mc, slots := ms, locals := 90 } s m [va_rf (some x0), Value.int x1, Value.int x2, Value.int x3].toArray below meth c D cy A s.heap 11 (QXi below D cy A [va_rf (some x0), Value.int x1, Value.int x2, Value.int x3] s mc ms post postX) S c0 n0 147 [(0, va_rf (some x0)), (2, Value.int x2), (3, Value.int x3), (4, va_rf v4), (6, va_rf v6), (7, Value.int v7), (8, Value.int v8), (9, Value.int v9), (10, va_rf v10)] [] := by
        intro c0 n0 S v4 v6 v7 v8 v9 v10 h
        unfold w_X8_liableAnew_b147 at h
        obtain ⟨hc00, hn00, h⟩ := h
        refine G_aload C (x := v10) 8 dX8_liableAnew_147 rfl ?_
        refine G_aload C (x := v4) 3 dX8_liableAnew_149 rfl ?_
        obtain ⟨a4, ha5, h⟩ := h
        obtain ⟨hk6, h⟩ := h
        refine G_callVi C hZ (Tf := TX5) (N := 4) hk6 (by decide) rfl tw_4_134 tw_4_135 tw_4_136 tw_1_16 tw_4_137 hy_X5_isSurfaceOf ⟨Nat.le_of_ble_eq_true rfl, Nat.le_of_ble_eq_true rfl⟩ (As := [va_rf v4]) (rest := []) (c_X5_isSurfaceOf l D cy a4 v4 S _ h) rfl (by first | rfl | (simp only [ha5]; rfl) | simp only [ha5]) (by simp [va_cat, vi_cat, vl_cat]) dX8_liableAnew_151 ⟨hc00, hn00⟩ (fun r8 S7 h => ?_)
        obtain ⟨hb9, h⟩ := h
        refine G_if_eq C (tgt := 160) dX8_liableAnew_154 (by decide) (fun hc => ?_) (fun hc => ?_)
        · have h := h.1 hc
          refine G_lv C (lv' := [(0, va_rf (some x0)), (2, Value.int x2), (3, Value.int x3), (4, va_rf v4), (6, va_rf v6), (7, Value.int v7), (8, Value.int v8), (9, Value.int v9)]) [0, 1, 2, 3, 4, 5, 6, 7] rfl ?_
          exact J160 _ _ _ _ _ _ _ _ h
        · have h := h.2 hc
          refine G_iconst C (v := 1) dX8_liableAnew_157 (by decide) ?_
          refine G_istore C (i := 8) (lv' := [(8, Value.int 1), (0, va_rf (some x0)), (2, Value.int x2), (3, Value.int x3), (4, va_rf v4), (6, va_rf v6), (7, Value.int v7), (9, Value.int v9), (10, va_rf v10)]) dX8_liableAnew_158 (by decide) (by first | rfl | simp [va_cat, vi_cat, vl_cat]) ?_
          refine G_lv C (lv' := [(0, va_rf (some x0)), (2, Value.int x2), (3, Value.int x3), (4, va_rf v4), (6, va_rf v6), (7, Value.int v7), (8, Value.int 1), (9, Value.int v9)]) [1, 2, 3, 4, 5, 6, 0, 7] rfl ?_
          exact J160 _ _ _ _ _ _ _ _ h
      intro c0 n0 S v4 v6 v7 v8 v9 h
      rw [w_X8_liableAnew_l78] at h
      obtain ⟨hc00, hn00, h⟩ := h
      refine G_iload C (x := v9) 7 dX8_liableAnew_78 rfl ?_
      refine G_aload_n C (x := (some x0)) 0 dX8_liableAnew_80 rfl rfl ?_
      obtain ⟨hk10, h⟩ := h
      refine G_get C (CC := RX8) (Tf := TX8) (N := 10) (k := 9) (i := 8) (v := va_rf (gP S 908 x0)) hk10 (by decide) rfl (fin fwX8) (by decide) (im tw_1_107) rfl rfl dX8_liableAnew_81 ?_
      obtain ⟨a11, ha12, h⟩ := h
      obtain ⟨hk13, h⟩ := h
      refine G_callVi C hZ (Tf := TJx4a65c) (N := 3) hk13 (by decide) rfl tw_2_150 tw_2_151 tw_2_152 tw_1_5 tw_2_153 hy_Jx4a65c_size_8abf5 ⟨Nat.le_of_ble_eq_true rfl, Nat.le_of_ble_eq_true rfl⟩ (As := []) (rest := [Value.int v9]) (c_Jx4a65c_size_8abf5 l D cy a11 S _ h) rfl (by first | rfl | (simp only [ha12]; rfl) | simp only [ha12]) (by simp [va_cat, vi_cat, vl_cat]) dX8_liableAnew_84 ⟨hc00, hn00⟩ (fun r15 S14 h => ?_)
      refine G_icmp_ge C (tgt := 166) dX8_liableAnew_87 (by decide) (fun hc => ?_) (fun hc => ?_)
      · have h := h.1 hc
        refine G_aload C (x := v6) 4 dX8_liableAnew_166 rfl ?_
        refine G_ifnull C (tgt := 197) dX8_liableAnew_168 (by decide) (fun hc => ?_) (fun a16 ha17 => ?_)
        · have h := h.1 hc
          refine G_lv C (lv' := []) [] rfl ?_
          exact J197 _ _ _ h
        · have h := h.2 a16 ha17
          refine G_aload_n C (x := (some x0)) 0 dX8_liableAnew_171 rfl rfl ?_
          obtain ⟨hk18, h⟩ := h
          refine G_callVi C hZ (Tf := TX8) (N := 10) hk18 (by decide) rfl tw_1_234 tw_1_236 tw_0_3 tw_1_1 tw_1_237 hy_X8_today ⟨Nat.le_of_ble_eq_true rfl, Nat.le_of_ble_eq_true rfl⟩ (As := []) (rest := []) (c_X8_today l D cy x0 S14 _ h) rfl rfl (by simp [va_cat, vi_cat, vl_cat]) dX8_liableAnew_172 ⟨hc00, hn00⟩ (fun r20 S19 h => ?_)
          refine G_iload C (x := v7) 5 dX8_liableAnew_175 rfl ?_
          refine G_isub C dX8_liableAnew_177 ?_
          refine G_aload C (x := v6) 4 dX8_liableAnew_178 rfl ?_
          obtain ⟨hk21, h⟩ := h
          refine G_callVi C hZ (Tf := TX7) (N := 18) hk21 (by decide) rfl tw_1_238 tw_1_239 tw_2_0 tw_1_21 tw_2_1 hy_X7_daysLiable ⟨Nat.le_of_ble_eq_true rfl, Nat.le_of_ble_eq_true rfl⟩ (As := []) (rest := [Value.int (r20 - v7)]) (c_X7_daysLiable l D cy a16 S19 _ h) rfl (by first | rfl | (simp only [ha17]; rfl) | simp only [ha17]) (by simp [va_cat, vi_cat, vl_cat]) dX8_liableAnew_180 ⟨hc00, hn00⟩ (fun r23 S22 h => ?_)
          refine G_icmp_gt C (tgt := 197) dX8_liableAnew_183 (by decide) (fun hc => ?_) (fun hc => ?_)
          · have h := h.1 hc
            refine G_lv C (lv' := []) [] rfl ?_
            exact J197 _ _ _ h
          · have h := h.2 hc
            refine G_iload C (x := v8) 6 dX8_liableAnew_186 rfl ?_
            refine G_if_eq C (tgt := 199) dX8_liableAnew_188 (by decide) (fun hc => ?_) (fun hc => ?_)
            · have h := h.1 hc
              refine G_lv C (lv' := [(6, va_rf v6)]) [4] rfl ?_
              exact J199 _ _ _ _ h
            · have h := h.2 hc
              refine G_iload_n C (x := x3) 2 dX8_liableAnew_191 rfl rfl ?_
              refine G_bipush C (v := 10) dX8_liableAnew_192 (by decide) ?_
              refine G_icmp_ge C (tgt := 199) dX8_liableAnew_194 (by decide) (fun hc => ?_) (fun hc => ?_)
              · have h := h.1 hc
                refine G_lv C (lv' := [(6, va_rf v6)]) [4] rfl ?_
                exact J199 _ _ _ _ h
              · have h := h.2 hc
                refine G_lv C (lv' := []) [] rfl ?_
                exact J197 _ _ _ h
      · have h := h.2 hc
        refine G_aload_n C (x := (some x0)) 0 dX8_liableAnew_90 rfl rfl ?_
        obtain ⟨hk24, h⟩ := h
        refine G_get C (CC := RX8) (Tf := TX8) (N := 10) (k := 9) (i := 8) (v := va_rf (gP S14 908 x0)) hk24 (by decide) rfl (fin fwX8) (by decide) (im tw_1_107) rfl rfl dX8_liableAnew_91 ?_
        refine G_iload C (x := v9) 7 dX8_liableAnew_94 rfl ?_
        obtain ⟨a25, ha26, h⟩ := h
        obtain ⟨hk27, h⟩ := h
        refine G_callVq C hZ (Tf := TJx4a65c) (N := 3) hk27 (by decide) rfl tw_4_116 tw_4_117 tw_4_118 tw_1_5 tw_4_119 hy_Jx4a65c_get_915e3 ⟨Nat.le_of_ble_eq_true rfl, Nat.le_of_ble_eq_true rfl⟩ (As := [Value.int v9]) (rest := []) (c_Jx4a65c_get_915e3 l D cy a25 v9 S14 _ h) rfl (by first | rfl | (simp only [ha26]; rfl) | simp only [ha26]) (by simp [va_cat, vi_cat, vl_cat]) dX8_liableAnew_96 ⟨hc00, hn00⟩ (fun r29 S28 h => ?_)
        obtain ⟨a30, ha31, h⟩ := h
        refine G_rf ha31 ?_
        obtain ⟨hk32, h⟩ := h
        refine G_castT C hZ hk32 tw_2_154 dX8_liableAnew_99 ?_
        refine G_astore C (i := 10) (lv' := [(10, va_rf (some a30)), (0, va_rf (some x0)), (2, Value.int x2), (3, Value.int x3), (4, va_rf v4), (6, va_rf v6), (7, Value.int v7), (8, Value.int v8), (9, Value.int v9)]) dX8_liableAnew_102 (by decide) (by first | rfl | simp [va_cat, vi_cat, vl_cat]) ?_
        refine G_aload C (x := (some a30)) 0 dX8_liableAnew_104 rfl ?_
        refine G_aload C (x := v4) 4 dX8_liableAnew_106 rfl ?_
        refine G_iload_n C (x := x2) 2 dX8_liableAnew_108 rfl rfl ?_
        refine G_callVi C hZ (Tf := TX5) (N := 4) hk32 (by decide) rfl tw_4_130 tw_4_131 tw_4_132 tw_1_16 tw_4_133 hy_X5_isFillOf ⟨Nat.le_of_ble_eq_true rfl, Nat.le_of_ble_eq_true rfl⟩ (As := [va_rf v4, Value.int x2]) (rest := []) (c_X5_isFillOf l D cy a30 v4 x2 S28 _ h) rfl rfl (by simp [va_cat, vi_cat, vl_cat]) dX8_liableAnew_109 ⟨hc00, hn00⟩ (fun r34 S33 h => ?_)
        obtain ⟨hb35, h⟩ := h
        refine G_if_eq C (tgt := 147) dX8_liableAnew_112 (by decide) (fun hc => ?_) (fun hc => ?_)
        · have h := h.1 hc
          refine G_lv C (lv' := [(0, va_rf (some x0)), (2, Value.int x2), (3, Value.int x3), (4, va_rf v4), (6, va_rf v6), (7, Value.int v7), (8, Value.int v8), (9, Value.int v9), (10, va_rf (some a30))]) [1, 2, 3, 4, 5, 6, 7, 8, 0] rfl ?_
          exact J147 _ _ _ _ _ _ _ _ _ h
        · have h := h.2 hc
          refine G_aload C (x := (some a30)) 0 dX8_liableAnew_115 rfl ?_
          obtain ⟨hk36, h⟩ := h
          refine G_get C (CC := RX5) (Tf := TX5) (N := 4) (k := 6) (i := 2) (v := va_rf (gP S33 602 a30)) hk36 (by decide) rfl (fin fwX5) (by decide) (im tw_2_163) rfl rfl dX8_liableAnew_117 ?_
          obtain ⟨a37, ha38, h⟩ := h
          refine G_rf ha38 ?_
          obtain ⟨hk39, h⟩ := h
          refine G_get C (CC := RX7) (Tf := TX7) (N := 18) (k := 8) (i := 7) (v := Value.int (gI S33 807 a37)) hk39 (by decide) rfl (fin fwX7) (by decide) (im tw_4_224) rfl rfl dX8_liableAnew_120 ?_
          refine G_iload_n C (x := x3) 3 dX8_liableAnew_123 rfl rfl ?_
          refine G_icmp_lt C (tgt := 147) dX8_liableAnew_124 (by decide) (fun hc => ?_) (fun hc => ?_)
          · have h := h.1 hc
            refine G_lv C (lv' := [(0, va_rf (some x0)), (2, Value.int x2), (3, Value.int x3), (4, va_rf v4), (6, va_rf v6), (7, Value.int v7), (8, Value.int v8), (9, Value.int v9), (10, va_rf (some a30))]) [1, 2, 3, 4, 5, 6, 7, 8, 0] rfl ?_
            exact J147 _ _ _ _ _ _ _ _ _ h
          · have h := h.2 hc
            refine G_aload C (x := (some a30)) 0 dX8_liableAnew_127 rfl ?_
            refine G_get C (CC := RX5) (Tf := TX5) (N := 4) (k := 6) (i := 2) (v := va_rf (gP S33 602 a30)) hk36 (by decide) rfl (fin fwX5) (by decide) (im tw_2_163) rfl rfl dX8_liableAnew_129 ?_
            refine G_astore C (i := 6) (lv' := [(6, va_rf (gP S33 602 a30)), (10, va_rf (some a30)), (0, va_rf (some x0)), (2, Value.int x2), (3, Value.int x3), (4, va_rf v4), (7, Value.int v7), (8, Value.int v8), (9, Value.int v9)]) dX8_liableAnew_132 (by decide) (by first | rfl | simp [va_cat, vi_cat, vl_cat]) ?_
            refine G_aload C (x := (some a30)) 1 dX8_liableAnew_134 rfl ?_
            refine G_get C (CC := RX5) (Tf := TX5) (N := 4) (k := 6) (i := 3) (v := Value.int (gI S33 603 a30)) hk36 (by decide) rfl (fin fwX5) (by decide) (im tw_2_165) rfl rfl dX8_liableAnew_136 ?_
            refine G_istore C (i := 7) (lv' := [(7, Value.int (gI S33 603 a30)), (6, va_rf (gP S33 602 a30)), (10, va_rf (some a30)), (0, va_rf (some x0)), (2, Value.int x2), (3, Value.int x3), (4, va_rf v4), (8, Value.int v8), (9, Value.int v9)]) dX8_liableAnew_139 (by decide) (by first | rfl | simp [va_cat, vi_cat, vl_cat]) ?_
            refine G_iconst C (v := 0) dX8_liableAnew_141 (by decide) ?_
            refine G_istore C (i := 8) (lv' := [(8, Value.int 0), (7, Value.int (gI S33 603 a30)), (6, va_rf (gP S33 602 a30)), (10, va_rf (some a30)), (0, va_rf (some x0)), (2, Value.int x2), (3, Value.int x3), (4, va_rf v4), (9, Value.int v9)]) dX8_liableAnew_142 (by decide) (by first | rfl | simp [va_cat, vi_cat, vl_cat]) ?_
            refine G_goto C (tgt := 160) dX8_liableAnew_144 (by decide) ?_
            refine G_lv C (lv' := [(0, va_rf (some x0)), (2, Value.int x2), (3, Value.int x3), (4, va_rf v4), (6, va_rf (gP S33 602 a30)), (7, Value.int (gI S33 603 a30)), (8, Value.int 0), (9, Value.int v9)]) [4, 5, 6, 7, 2, 1, 0, 8] rfl ?_
            exact J160 _ _ _ _ _ _ _ _ h
  have J22 : ∀ (c0 n0 : Nat) (S : PT) (v4 : Option Nat) (s0 : Option Nat), w_X8_liableAnew_b22 x0 x1 x2 x3 mc ms post postX c0 n0 S v4 s0 → G p l e { frames := 6, cells := mc, slots := ms, locals := 90 } s m [va_rf (some x0), Value.int x1, Value.int x2, Value.int x3].toArray below meth c D cy A s.heap 11 (QXi below D cy A [va_rf (some x0), Value.int x1, Value.int x2, Value.int x3] s mc ms post postX) S c0 n0 22 [(0, va_rf (some x0)), (2, Value.int x2), (3, Value.int x3), (4, va_rf v4)] [va_rf s0] := by
    intro c0 n0 S v4 s0 h
    unfold w_X8_liableAnew_b22 at h
    obtain ⟨hc00, hn00, h⟩ := h
    refine G_astore C (i := 5) (lv' := [(5, va_rf s0), (0, va_rf (some x0)), (2, Value.int x2), (3, Value.int x3), (4, va_rf v4)]) dX8_liableAnew_22 (by decide) (by first | rfl | simp [va_cat, vi_cat, vl_cat]) ?_
    refine G_aload C (x := v4) 4 dX8_liableAnew_24 rfl ?_
    refine G_ifnull C (tgt := 34) dX8_liableAnew_26 (by decide) (fun hc => ?_) (fun a40 ha41 => ?_)
    · have h := h.1 hc
      refine G_lv C (lv' := []) [] rfl ?_
      exact J34 _ _ _ h
    · have h := h.2 a40 ha41
      refine G_aload C (x := s0) 0 dX8_liableAnew_29 rfl ?_
      refine G_ifnonnull C (tgt := 44) dX8_liableAnew_31 (by decide) (fun hc => ?_) (fun a42 ha43 => ?_)
      · have h := h.1 hc
        refine G_lv C (lv' := []) [] rfl ?_
        exact J34 _ _ _ h
      · have h := h.2 a42 ha43
        refine G_iload_n C (x := x3) 3 dX8_liableAnew_44 rfl rfl ?_
        refine G_if_lt C (tgt := 55) dX8_liableAnew_45 (by decide) (fun hc => ?_) (fun hc => ?_)
        · have h := h.1 hc
          refine G_lv C (lv' := []) [] rfl ?_
          exact J55 _ _ _ h
        · have h := h.2 hc
          refine G_iload_n C (x := x3) 3 dX8_liableAnew_48 rfl rfl ?_
          refine G_sipush C (v := 300) dX8_liableAnew_49 (by decide) ?_
          refine G_icmp_le C (tgt := 66) dX8_liableAnew_52 (by decide) (fun hc => ?_) (fun hc => ?_)
          · have h := h.1 hc
            refine G_null C dX8_liableAnew_66 ?_
            refine G_astore C (i := 6) (lv' := [(6, va_rf none), (5, va_rf s0), (0, va_rf (some x0)), (2, Value.int x2), (3, Value.int x3), (4, va_rf v4)]) dX8_liableAnew_67 (by decide) (by first | rfl | simp [va_cat, vi_cat, vl_cat]) ?_
            refine G_iconst C (v := 0) dX8_liableAnew_69 (by decide) ?_
            refine G_istore C (i := 7) (lv' := [(7, Value.int 0), (6, va_rf none), (5, va_rf s0), (0, va_rf (some x0)), (2, Value.int x2), (3, Value.int x3), (4, va_rf v4)]) dX8_liableAnew_70 (by decide) (by first | rfl | simp [va_cat, vi_cat, vl_cat]) ?_
            refine G_iconst C (v := 0) dX8_liableAnew_72 (by decide) ?_
            refine G_istore C (i := 8) (lv' := [(8, Value.int 0), (7, Value.int 0), (6, va_rf none), (5, va_rf s0), (0, va_rf (some x0)), (2, Value.int x2), (3, Value.int x3), (4, va_rf v4)]) dX8_liableAnew_73 (by decide) (by first | rfl | simp [va_cat, vi_cat, vl_cat]) ?_
            refine G_iconst C (v := 0) dX8_liableAnew_75 (by decide) ?_
            refine G_istore C (i := 9) (lv' := [(9, Value.int 0), (8, Value.int 0), (7, Value.int 0), (6, va_rf none), (5, va_rf s0), (0, va_rf (some x0)), (2, Value.int x2), (3, Value.int x3), (4, va_rf v4)]) dX8_liableAnew_76 (by decide) (by first | rfl | simp [va_cat, vi_cat, vl_cat]) ?_
            refine G_lv C (lv' := [(0, va_rf (some x0)), (2, Value.int x2), (3, Value.int x3), (4, va_rf v4), (6, va_rf none), (7, Value.int 0), (8, Value.int 0), (9, Value.int 0)]) [5, 6, 7, 8, 3, 2, 1, 0] rfl ?_
            obtain ⟨n9, h⟩ := h
            exact J78 n9 _ _ _ _ _ _ _ _ h
          · have h := h.2 hc
            refine G_lv C (lv' := []) [] rfl ?_
            exact J55 _ _ _ h
  refine G_lv C (lv' := [(0, va_rf (some x0)), (1, Value.int x1), (2, Value.int x2), (3, Value.int x3)]) [0, 1, 2, 3] (by first | rfl | simp [lv_pick, lv_args, va_cat, vi_cat, vl_cat]) ?_
  unfold w_X8_liableAnew at h
  refine G_aload_n C (x := (some x0)) 0 dX8_liableAnew_0 rfl rfl ?_
  refine G_iload_n C (x := x1) 1 dX8_liableAnew_1 rfl rfl ?_
  obtain ⟨hk44, h⟩ := h
  refine G_callVq C hZ (Tf := TX8) (N := 10) hk44 (by decide) rfl tw_1_134 tw_1_136 tw_0_0 tw_1_1 tw_1_137 hy_X8_streetAt ⟨Nat.le_of_ble_eq_true rfl, Nat.le_of_ble_eq_true rfl⟩ (As := [Value.int x1]) (rest := []) (c_X8_streetAt l D cy x0 x1 S _ h) rfl rfl (by simp [va_cat, vi_cat, vl_cat]) dX8_liableAnew_2 ⟨(Nat.zero_le _), (Nat.zero_le _)⟩ (fun r46 S45 h => ?_)
  refine G_astore C (i := 4) (lv' := [(4, va_rf r46), (0, va_rf (some x0)), (1, Value.int x1), (2, Value.int x2), (3, Value.int x3)]) dX8_liableAnew_5 (by decide) (by first | rfl | simp [va_cat, vi_cat, vl_cat]) ?_
  refine G_aload C (x := r46) 0 dX8_liableAnew_7 rfl ?_
  refine G_ifnonnull C (tgt := 16) dX8_liableAnew_9 (by decide) (fun hc => ?_) (fun a47 ha48 => ?_)
  · have h := h.1 hc
    refine G_null C dX8_liableAnew_12 ?_
    refine G_goto C (tgt := 22) dX8_liableAnew_13 (by decide) ?_
    refine G_lv C (lv' := [(0, va_rf (some x0)), (2, Value.int x2), (3, Value.int x3), (4, va_rf r46)]) [1, 3, 4, 0] rfl ?_
    exact J22 _ _ _ _ _ h
  · have h := h.2 a47 ha48
    refine G_aload C (x := r46) 0 dX8_liableAnew_16 rfl ?_
    refine G_iload_n C (x := x2) 3 dX8_liableAnew_18 rfl rfl ?_
    obtain ⟨hk49, h⟩ := h
    refine G_callVq C hZ (Tf := TX4) (N := 12) hk49 (by decide) rfl tw_1_138 tw_1_139 tw_1_140 tw_1_13 tw_1_141 hy_X4_metreAt ⟨Nat.le_of_ble_eq_true rfl, Nat.le_of_ble_eq_true rfl⟩ (As := [Value.int x2]) (rest := []) (c_X4_metreAt l D cy a47 x2 S45 _ h) rfl (by first | rfl | (simp only [ha48]; rfl) | simp only [ha48]) (by simp [va_cat, vi_cat, vl_cat]) dX8_liableAnew_19 ⟨(Nat.zero_le _), (Nat.zero_le _)⟩ (fun r51 S50 h => ?_)
    refine G_lv C (lv' := [(0, va_rf (some x0)), (2, Value.int x2), (3, Value.int x3), (4, va_rf r46)]) [1, 3, 4, 0] rfl ?_
    exact J22 _ _ _ _ _ h
set_option maxHeartbeats 4000000 in
set_option maxRecDepth 100000 in
theorem c_X8_bars (l : Launch) (hl : l.stackTraces = false) (D : va_G) (cy : Nat → Nat) (x0 : Nat) (x1 : Int32) (S : PT) (mc ms : Nat) (post : Int32 → PT → Prop) (postX : String → PT → Prop) (h : w_X8_bars x0 x1 S mc ms post postX) : Xi l yX8_bars (Wm yX8_bars prog_1_method_27_code 3 (Option.some Jvm.ClassFile.FieldType.int)) 6 91 D cy [va_rf (some x0), Value.int x1] S mc ms post postX := by
  refine Xi_of (own := "Trenchboard") (by decide) rfl (by first | decide | simp [lg_sl, va_cat, vi_cat, vl_cat]) (fun p e s m below meth c A C hZ hr hx9 => ?_)
  refine G_lv C (lv' := [(0, va_rf (some x0)), (1, Value.int x1)]) [0, 1] (by first | rfl | simp [lv_pick, lv_args, va_cat, vi_cat, vl_cat]) ?_
  unfold w_X8_bars at h
  refine G_aload_n C (x := (some x0)) 0 dX8_bars_0 rfl rfl ?_
  refine G_iload_n C (x := x1) 1 dX8_bars_1 rfl rfl ?_
  obtain ⟨hk1, h⟩ := h
  refine G_callVq C hZ (Tf := TX8) (N := 10) hk1 (by decide) rfl tw_3_102 tw_3_104 tw_0_12 tw_1_1 tw_3_105 hy_X8_worksAt ⟨Nat.le_of_ble_eq_true rfl, Nat.le_of_ble_eq_true rfl⟩ (As := [Value.int x1]) (rest := []) (c_X8_worksAt l D cy x0 x1 S _ h) rfl rfl (by simp [va_cat, vi_cat, vl_cat]) dX8_bars_2 ⟨(Nat.zero_le _), (Nat.zero_le _)⟩ (fun r3 S2 h => ?_)
  refine G_astore_n C (i := 2) (lv' := [(2, va_rf r3), (0, va_rf (some x0)), (1, Value.int x1)]) dX8_bars_5 rfl (by decide) (by first | rfl | simp [va_cat, vi_cat, vl_cat]) ?_
  refine G_aload_n C (x := r3) 0 dX8_bars_6 rfl rfl ?_
  refine G_ifnonnull C (tgt := 20) dX8_bars_7 (by decide) (fun hc => ?_) (fun a4 ha5 => ?_)
  · have h := h.1 hc
    obtain ⟨hq1, hq2, h⟩ := h
    exact G_throw C hZ hl hx9 (cls := "java/lang/IndexOutOfBoundsException") (text := "no such works") (ik := 52) (is := 225) (ic := 56) rfl (by decide) tw_1_142 tw_1_10 (List.mem_of_getElem? (i := 17) rfl) (at_IOOBE C.2.2.2.2.1 C.2.2.2.2.2.1) at_IOOBE_o dX8_bars_10 dX8_bars_13 dX8_bars_14 dX8_bars_16 dX8_bars_19 (Nat.le_of_ble_eq_true rfl) (by simp [va_cat, vi_cat, vl_cat]) hq1 hq2 (Nat.le_refl _) (Nat.le_refl _) h
  · have h := h.2 a4 ha5
    refine G_aload_n C (x := (some x0)) 1 dX8_bars_20 rfl rfl ?_
    refine G_aload_n C (x := r3) 0 dX8_bars_21 rfl rfl ?_
    obtain ⟨hk6, h⟩ := h
    refine G_callVi C hZ (Tf := TX8) (N := 10) hk6 (by decide) rfl tw_3_108 tw_3_110 tw_0_13 tw_1_1 tw_3_111 hy_X8_whatBars ⟨Nat.le_of_ble_eq_true rfl, Nat.le_of_ble_eq_true rfl⟩ (As := [va_rf r3]) (rest := []) (c_X8_whatBars l D cy x0 r3 S2 _ h) rfl rfl (by simp [va_cat, vi_cat, vl_cat]) dX8_bars_22 ⟨(Nat.zero_le _), (Nat.zero_le _)⟩ (fun r8 S7 h => ?_)
    refine G_vx ?_
    exact G_iret C (mc := mc) (ms := ms) (post := post) hr (Nat.zero_le _) (Nat.zero_le _) dX8_bars_25 h
set_option maxHeartbeats 4000000 in
set_option maxRecDepth 100000 in
theorem c_X8_meets (l : Launch) (hl : l.stackTraces = false) (D : va_G) (cy : Nat → Nat) (x0 : Nat) (x1 : Int32) (x2 : Int32) (S : PT) (mc ms : Nat) (post : Int32 → PT → Prop) (postX : String → PT → Prop) (h : w_X8_meets x0 x1 x2 S mc ms post postX) : Xi l yX8_meets (Wm yX8_meets prog_1_method_28_code 4 (Option.some Jvm.ClassFile.FieldType.int)) 6 90 D cy [va_rf (some x0), Value.int x1, Value.int x2] S mc ms post postX := by
  refine Xi_of (own := "Trenchboard") (by decide) rfl (by first | decide | simp [lg_sl, va_cat, vi_cat, vl_cat]) (fun p e s m below meth c A C hZ hr hx9 => ?_)
  refine G_lv C (lv' := [(0, va_rf (some x0)), (1, Value.int x1), (2, Value.int x2)]) [0, 1, 2] (by first | rfl | simp [lv_pick, lv_args, va_cat, vi_cat, vl_cat]) ?_
  unfold w_X8_meets at h
  refine G_aload_n C (x := (some x0)) 0 dX8_meets_0 rfl rfl ?_
  refine G_iload_n C (x := x1) 1 dX8_meets_1 rfl rfl ?_
  obtain ⟨hk1, h⟩ := h
  refine G_callVq C hZ (Tf := TX8) (N := 10) hk1 (by decide) rfl tw_3_102 tw_3_104 tw_0_12 tw_1_1 tw_3_105 hy_X8_worksAt ⟨Nat.le_of_ble_eq_true rfl, Nat.le_of_ble_eq_true rfl⟩ (As := [Value.int x1]) (rest := []) (c_X8_worksAt l D cy x0 x1 S _ h) rfl rfl (by simp [va_cat, vi_cat, vl_cat]) dX8_meets_2 ⟨(Nat.zero_le _), (Nat.zero_le _)⟩ (fun r3 S2 h => ?_)
  refine G_astore_n C (i := 3) (lv' := [(3, va_rf r3), (0, va_rf (some x0)), (1, Value.int x1), (2, Value.int x2)]) dX8_meets_5 rfl (by decide) (by first | rfl | simp [va_cat, vi_cat, vl_cat]) ?_
  refine G_aload_n C (x := r3) 0 dX8_meets_6 rfl rfl ?_
  refine G_ifnonnull C (tgt := 20) dX8_meets_7 (by decide) (fun hc => ?_) (fun a4 ha5 => ?_)
  · have h := h.1 hc
    obtain ⟨hq1, hq2, h⟩ := h
    exact G_throw C hZ hl hx9 (cls := "java/lang/IndexOutOfBoundsException") (text := "no such works") (ik := 52) (is := 225) (ic := 56) rfl (by decide) tw_1_142 tw_1_10 (List.mem_of_getElem? (i := 17) rfl) (at_IOOBE C.2.2.2.2.1 C.2.2.2.2.2.1) at_IOOBE_o dX8_meets_10 dX8_meets_13 dX8_meets_14 dX8_meets_16 dX8_meets_19 (Nat.le_of_ble_eq_true rfl) (by simp [va_cat, vi_cat, vl_cat]) hq1 hq2 (Nat.le_refl _) (Nat.le_refl _) h
  · have h := h.2 a4 ha5
    refine G_iload_n C (x := x2) 3 dX8_meets_20 rfl rfl ?_
    refine G_if_ge C (tgt := 35) dX8_meets_21 (by decide) (fun hc => ?_) (fun hc => ?_)
    · have h := h.1 hc
      refine G_aload_n C (x := (some x0)) 1 dX8_meets_35 rfl rfl ?_
      refine G_aload_n C (x := r3) 0 dX8_meets_36 rfl rfl ?_
      refine G_aload_n C (x := r3) 0 dX8_meets_37 rfl rfl ?_
      refine G_aload_n C (x := (some x0)) 1 dX8_meets_38 rfl rfl ?_
      obtain ⟨hk6, h⟩ := h
      refine G_callVi C hZ (Tf := TX8) (N := 10) hk6 (by decide) rfl tw_1_234 tw_1_236 tw_0_3 tw_1_1 tw_1_237 hy_X8_today ⟨Nat.le_of_ble_eq_true rfl, Nat.le_of_ble_eq_true rfl⟩ (As := []) (rest := [va_rf r3, va_rf r3, va_rf (some x0)]) (c_X8_today l D cy x0 S2 _ h) rfl rfl (by simp [va_cat, vi_cat, vl_cat]) dX8_meets_39 ⟨(Nat.zero_le _), (Nat.zero_le _)⟩ (fun r8 S7 h => ?_)
      obtain ⟨hk9, h⟩ := h
      refine G_callVi C hZ (Tf := TX7) (N := 18) hk9 (by decide) rfl tw_3_112 tw_3_113 tw_3_114 tw_1_21 tw_3_115 hy_X7_endOn ⟨Nat.le_of_ble_eq_true rfl, Nat.le_of_ble_eq_true rfl⟩ (As := [Value.int r8]) (rest := [va_rf r3, va_rf (some x0)]) (c_X7_endOn l D cy a4 r8 S7 _ h) rfl (by first | rfl | (simp only [ha5]; rfl) | simp only [ha5]) (by simp [va_cat, vi_cat, vl_cat]) dX8_meets_42 ⟨(Nat.zero_le _), (Nat.zero_le _)⟩ (fun r11 S10 h => ?_)
      refine G_iload_n C (x := x2) 3 dX8_meets_45 rfl rfl ?_
      refine G_iconst C (v := 0) dX8_meets_46 (by decide) ?_
      obtain ⟨hk12, h⟩ := h
      refine G_callVi C hZ (Tf := TX8) (N := 10) hk12 (by decide) rfl tw_3_121 tw_3_123 tw_0_14 tw_1_1 tw_3_124 hy_X8_firstMet ⟨Nat.le_of_ble_eq_true rfl, Nat.le_of_ble_eq_true rfl⟩ (As := [va_rf r3, Value.int r11, Value.int x2, Value.int 0]) (rest := []) (c_X8_firstMet l D cy x0 r3 r11 x2 0 S10 _ h) rfl rfl (by simp [va_cat, vi_cat, vl_cat]) dX8_meets_47 ⟨(Nat.zero_le _), (Nat.zero_le _)⟩ (fun r14 S13 h => ?_)
      refine G_vx ?_
      exact G_iret C (mc := mc) (ms := ms) (post := post) hr (Nat.zero_le _) (Nat.zero_le _) dX8_meets_50 h
    · have h := h.2 hc
      obtain ⟨hq1, hq2, h⟩ := h
      exact G_throwW C hZ hl hx9 (cls := "java/lang/IllegalArgumentException") (text := "from below 0") (ik := 59) (is := 411) (ic := 63) rfl (by decide) tw_1_210 tw_1_11 (List.mem_of_getElem? (i := 37) rfl) (at_IAE C.2.2.2.2.1 C.2.2.2.2.2.1) at_IAE_o dX8_meets_24 dX8_meets_27 dX8_meets_28 dX8_meets_31 dX8_meets_34 (Nat.le_of_ble_eq_true rfl) (by simp [va_cat, vi_cat, vl_cat]) hq1 hq2 (Nat.le_refl _) (Nat.le_refl _) h
set_option maxHeartbeats 4000000 in
set_option maxRecDepth 100000 in
theorem c_X8_of (l : Launch) (hl : l.stackTraces = false) (D : va_G) (cy : Nat → Nat) (x0 : Nat) (x1 : Int32) (x2 : Int32) (S : PT) (mc ms : Nat) (post : Int32 → PT → Prop) (postX : String → PT → Prop) (h : w_X8_of x0 x1 x2 S mc ms post postX) : Xi l yX8_of (Wm yX8_of prog_1_method_29_code 4 (Option.some Jvm.ClassFile.FieldType.int)) 6 90 D cy [va_rf (some x0), Value.int x1, Value.int x2] S mc ms post postX := by
  refine Xi_of (own := "Trenchboard") (by decide) rfl (by first | decide | simp [lg_sl, va_cat, vi_cat, vl_cat]) (fun p e s m below meth c A C hZ hr hx9 => ?_)
  have J123 : ∀ (c0 n0 : Nat) (S : PT) (s0 : Int32), w_X8_of_b123 x0 x1 x2 mc ms post postX c0 n0 S s0 → G p l e { frames := 6, cells := mc, slots := ms, locals := 90 } s m [va_rf (some x0), Value.int x1, Value.int x2].toArray below meth c D cy A s.heap 4 (QXi below D cy A [va_rf (some x0), Value.int x1, Value.int x2] s mc ms post postX) S c0 n0 123 [] [Value.int s0] := by
    intro c0 n0 S s0 h
    unfold w_X8_of_b123 at h
    obtain ⟨hc00, hn00, h⟩ := h
    refine G_vx ?_
    exact G_iret C (mc := mc) (ms := ms) (post := post) hr hc00 hn00 dX8_of_123 h
  have J110 : ∀ (c0 n0 : Nat) (S : PT) (s0 : Int32), w_X8_of_b110 x0 x1 x2 mc ms post postX c0 n0 S s0 → G p l e { frames := 6, cells := mc, slots := ms, locals := 90 } s m [va_rf (some x0), Value.int x1, Value.int x2].toArray below meth c D cy A s.heap 4 (QXi below D cy A [va_rf (some x0), Value.int x1, Value.int x2] s mc ms post postX) S c0 n0 110 [] [Value.int s0] := by
    intro c0 n0 S s0 h
    unfold w_X8_of_b110 at h
    obtain ⟨hc00, hn00, h⟩ := h
    refine G_vx ?_
    exact G_iret C (mc := mc) (ms := ms) (post := post) hr hc00 hn00 dX8_of_110 h
  refine G_lv C (lv' := [(0, va_rf (some x0)), (1, Value.int x1), (2, Value.int x2)]) [0, 1, 2] (by first | rfl | simp [lv_pick, lv_args, va_cat, vi_cat, vl_cat]) ?_
  unfold w_X8_of at h
  refine G_aload_n C (x := (some x0)) 0 dX8_of_0 rfl rfl ?_
  refine G_iload_n C (x := x1) 1 dX8_of_1 rfl rfl ?_
  obtain ⟨hk1, h⟩ := h
  refine G_callVq C hZ (Tf := TX8) (N := 10) hk1 (by decide) rfl tw_3_102 tw_3_104 tw_0_12 tw_1_1 tw_3_105 hy_X8_worksAt ⟨Nat.le_of_ble_eq_true rfl, Nat.le_of_ble_eq_true rfl⟩ (As := [Value.int x1]) (rest := []) (c_X8_worksAt l D cy x0 x1 S _ h) rfl rfl (by simp [va_cat, vi_cat, vl_cat]) dX8_of_2 ⟨(Nat.zero_le _), (Nat.zero_le _)⟩ (fun r3 S2 h => ?_)
  refine G_astore_n C (i := 3) (lv' := [(3, va_rf r3), (0, va_rf (some x0)), (1, Value.int x1), (2, Value.int x2)]) dX8_of_5 rfl (by decide) (by first | rfl | simp [va_cat, vi_cat, vl_cat]) ?_
  refine G_aload_n C (x := r3) 0 dX8_of_6 rfl rfl ?_
  refine G_ifnonnull C (tgt := 20) dX8_of_7 (by decide) (fun hc => ?_) (fun a4 ha5 => ?_)
  · have h := h.1 hc
    obtain ⟨hq1, hq2, h⟩ := h
    exact G_throw C hZ hl hx9 (cls := "java/lang/IndexOutOfBoundsException") (text := "no such works") (ik := 52) (is := 225) (ic := 56) rfl (by decide) tw_1_142 tw_1_10 (List.mem_of_getElem? (i := 17) rfl) (at_IOOBE C.2.2.2.2.1 C.2.2.2.2.2.1) at_IOOBE_o dX8_of_10 dX8_of_13 dX8_of_14 dX8_of_16 dX8_of_19 (Nat.le_of_ble_eq_true rfl) (by simp [va_cat, vi_cat, vl_cat]) hq1 hq2 (Nat.le_refl _) (Nat.le_refl _) h
  · have h := h.2 a4 ha5
    refine G_iload_n C (x := x2) 3 dX8_of_20 rfl rfl ?_
    by_cases hc : x2.toInt < 0 ∨ 7 < x2.toInt
    · have h := h.1 hc
      refine G_tableOut C (tgt := 124) dX8_of_21 hc (by decide) ?_
      obtain ⟨hq1, hq2, h⟩ := h
      exact G_throwW C hZ hl hx9 (cls := "java/lang/IllegalArgumentException") (text := "what out of range") (ik := 59) (is := 413) (ic := 63) rfl (by decide) tw_1_210 tw_1_11 (List.mem_of_getElem? (i := 38) rfl) (at_IAE C.2.2.2.2.1 C.2.2.2.2.2.1) at_IAE_o dX8_of_124 dX8_of_127 dX8_of_128 dX8_of_131 dX8_of_134 (Nat.le_of_ble_eq_true rfl) (by simp [va_cat, vi_cat, vl_cat]) hq1 hq2 (Nat.le_refl _) (Nat.le_refl _) h
    · rcases (show x2.toInt = 0 ∨ x2.toInt = 1 ∨ x2.toInt = 2 ∨ x2.toInt = 3 ∨ x2.toInt = 4 ∨ x2.toInt = 5 ∨ x2.toInt = 6 ∨ x2.toInt = 7 by omega) with hx | hx | hx | hx | hx | hx | hx | hx
      · have h := h.2.1 hx
        refine G_tableIn C (tgt := 68) dX8_of_21 (by omega) (by omega) (by rw [hx]; rfl) (by decide) ?_
        refine G_aload_n C (x := r3) 0 dX8_of_68 rfl rfl ?_
        refine G_rf ha5 ?_
        obtain ⟨hk6, h⟩ := h
        refine G_get C (CC := RX7) (Tf := TX7) (N := 18) (k := 8) (i := 10) (v := Value.int (gI S2 810 a4)) hk6 (by decide) rfl (fin fwX7) (by decide) (im tw_4_230) rfl rfl dX8_of_69 ?_
        refine G_vx ?_
        exact G_iret C (mc := mc) (ms := ms) (post := post) hr (Nat.zero_le _) (Nat.zero_le _) dX8_of_72 h
      · have h := h.2.2.1 hx
        refine G_tableIn C (tgt := 73) dX8_of_21 (by omega) (by omega) (by rw [hx]; rfl) (by decide) ?_
        refine G_aload_n C (x := r3) 0 dX8_of_73 rfl rfl ?_
        refine G_rf ha5 ?_
        obtain ⟨hk7, h⟩ := h
        refine G_get C (CC := RX7) (Tf := TX7) (N := 18) (k := 8) (i := 9) (v := Value.int (gI S2 809 a4)) hk7 (by decide) rfl (fin fwX7) (by decide) (im tw_4_228) rfl rfl dX8_of_74 ?_
        refine G_vx ?_
        exact G_iret C (mc := mc) (ms := ms) (post := post) hr (Nat.zero_le _) (Nat.zero_le _) dX8_of_77 h
      · have h := h.2.2.2.1 hx
        refine G_tableIn C (tgt := 78) dX8_of_21 (by omega) (by omega) (by rw [hx]; rfl) (by decide) ?_
        refine G_aload_n C (x := r3) 0 dX8_of_78 rfl rfl ?_
        refine G_rf ha5 ?_
        obtain ⟨hk8, h⟩ := h
        refine G_get C (CC := RX7) (Tf := TX7) (N := 18) (k := 8) (i := 11) (v := Value.int (gI S2 811 a4)) hk8 (by decide) rfl (fin fwX7) (by decide) (im tw_4_232) rfl rfl dX8_of_79 ?_
        refine G_vx ?_
        exact G_iret C (mc := mc) (ms := ms) (post := post) hr (Nat.zero_le _) (Nat.zero_le _) dX8_of_82 h
      · have h := h.2.2.2.2.1 hx
        refine G_tableIn C (tgt := 83) dX8_of_21 (by omega) (by omega) (by rw [hx]; rfl) (by decide) ?_
        refine G_aload_n C (x := r3) 0 dX8_of_83 rfl rfl ?_
        refine G_rf ha5 ?_
        obtain ⟨hk9, h⟩ := h
        refine G_get C (CC := RX7) (Tf := TX7) (N := 18) (k := 8) (i := 12) (v := Value.int (gI S2 812 a4)) hk9 (by decide) rfl (fin fwX7) (by decide) (im tw_4_233) rfl rfl dX8_of_84 ?_
        refine G_vx ?_
        exact G_iret C (mc := mc) (ms := ms) (post := post) hr (Nat.zero_le _) (Nat.zero_le _) dX8_of_87 h
      · have h := h.2.2.2.2.2.1 hx
        refine G_tableIn C (tgt := 88) dX8_of_21 (by omega) (by omega) (by rw [hx]; rfl) (by decide) ?_
        refine G_aload_n C (x := r3) 0 dX8_of_88 rfl rfl ?_
        refine G_rf ha5 ?_
        obtain ⟨hk10, h⟩ := h
        refine G_get C (CC := RX7) (Tf := TX7) (N := 18) (k := 8) (i := 13) (v := Value.int (gI S2 813 a4)) hk10 (by decide) rfl (fin fwX7) (by decide) (im tw_4_234) rfl rfl dX8_of_89 ?_
        refine G_vx ?_
        exact G_iret C (mc := mc) (ms := ms) (post := post) hr (Nat.zero_le _) (Nat.zero_le _) dX8_of_92 h
      · have h := h.2.2.2.2.2.2.1 hx
        refine G_tableIn C (tgt := 93) dX8_of_21 (by omega) (by omega) (by rw [hx]; rfl) (by decide) ?_
        refine G_aload_n C (x := r3) 0 dX8_of_93 rfl rfl ?_
        refine G_rf ha5 ?_
        obtain ⟨hk11, h⟩ := h
        refine G_get C (CC := RX7) (Tf := TX7) (N := 18) (k := 8) (i := 15) (v := Value.int (gI S2 815 a4)) hk11 (by decide) rfl (fin fwX7) (by decide) (im tw_4_238) rfl rfl dX8_of_94 ?_
        refine G_vx ?_
        exact G_iret C (mc := mc) (ms := ms) (post := post) hr (Nat.zero_le _) (Nat.zero_le _) dX8_of_97 h
      · have h := h.2.2.2.2.2.2.2.1 hx
        refine G_tableIn C (tgt := 98) dX8_of_21 (by omega) (by omega) (by rw [hx]; rfl) (by decide) ?_
        refine G_aload_n C (x := r3) 0 dX8_of_98 rfl rfl ?_
        refine G_rf ha5 ?_
        obtain ⟨hk12, h⟩ := h
        refine G_get C (CC := RX7) (Tf := TX7) (N := 18) (k := 8) (i := 16) (v := Value.int (gI S2 816 a4)) hk12 (by decide) rfl (fin fwX7) (by decide) (im tw_5_0) rfl rfl dX8_of_99 ?_
        refine G_if_eq C (tgt := 109) dX8_of_102 (by decide) (fun hc => ?_) (fun hc => ?_)
        · have h := h.1 hc
          refine G_iconst C (v := 0) dX8_of_109 (by decide) ?_
          refine G_lv C (lv' := []) [] rfl ?_
          exact J110 _ _ _ _ h
        · have h := h.2 hc
          refine G_iconst C (v := 1) dX8_of_105 (by decide) ?_
          refine G_goto C (tgt := 110) dX8_of_106 (by decide) ?_
          refine G_lv C (lv' := []) [] rfl ?_
          exact J110 _ _ _ _ h
      · have h := h.2.2.2.2.2.2.2.2 hx
        refine G_tableIn C (tgt := 111) dX8_of_21 (by omega) (by omega) (by rw [hx]; rfl) (by decide) ?_
        refine G_aload_n C (x := r3) 0 dX8_of_111 rfl rfl ?_
        refine G_rf ha5 ?_
        obtain ⟨hk13, h⟩ := h
        refine G_get C (CC := RX7) (Tf := TX7) (N := 18) (k := 8) (i := 17) (v := Value.int (gI S2 817 a4)) hk13 (by decide) rfl (fin fwX7) (by decide) (im tw_5_1) rfl rfl dX8_of_112 ?_
        refine G_if_eq C (tgt := 122) dX8_of_115 (by decide) (fun hc => ?_) (fun hc => ?_)
        · have h := h.1 hc
          refine G_iconst C (v := 0) dX8_of_122 (by decide) ?_
          refine G_lv C (lv' := []) [] rfl ?_
          exact J123 _ _ _ _ h
        · have h := h.2 hc
          refine G_iconst C (v := 1) dX8_of_118 (by decide) ?_
          refine G_goto C (tgt := 123) dX8_of_119 (by decide) ?_
          refine G_lv C (lv' := []) [] rfl ?_
          exact J123 _ _ _ _ h
set_option maxHeartbeats 4000000 in
set_option maxRecDepth 100000 in
theorem c_X8_metre (l : Launch) (hl : l.stackTraces = false) (D : va_G) (cy : Nat → Nat) (x0 : Nat) (x1 : Int32) (x2 : Int32) (x3 : Int32) (S : PT) (mc ms : Nat) (post : Int32 → PT → Prop) (postX : String → PT → Prop) (h : w_X8_metre x0 x1 x2 x3 S mc ms post postX) : Xi l yX8_metre (Wm yX8_metre prog_1_method_30_code 6 (Option.some Jvm.ClassFile.FieldType.int)) 6 90 D cy [va_rf (some x0), Value.int x1, Value.int x2, Value.int x3] S mc ms post postX := by
  refine Xi_of (own := "Trenchboard") (by decide) rfl (by first | decide | simp [lg_sl, va_cat, vi_cat, vl_cat]) (fun p e s m below meth c A C hZ hr hx9 => ?_)
  have J34 : ∀ (c0 n0 : Nat) (S : PT), w_X8_metre_b34 x0 x1 x2 x3 mc ms post postX c0 n0 S → G p l e { frames := 6, cells := mc, slots := ms, locals := 90 } s m [va_rf (some x0), Value.int x1, Value.int x2, Value.int x3].toArray below meth c D cy A s.heap 6 (QXi below D cy A [va_rf (some x0), Value.int x1, Value.int x2, Value.int x3] s mc ms post postX) S c0 n0 34 [] [] := by
    intro c0 n0 S h
    unfold w_X8_metre_b34 at h
    obtain ⟨hc00, hn00, h⟩ := h
    obtain ⟨hq1, hq2, h⟩ := h
    exact G_throw C hZ hl hx9 (cls := "java/lang/IndexOutOfBoundsException") (text := "no such street or metre") (ik := 52) (is := 189) (ic := 56) rfl (by decide) tw_1_142 tw_1_10 (List.mem_of_getElem? (i := 13) rfl) (at_IOOBE C.2.2.2.2.1 C.2.2.2.2.2.1) at_IOOBE_o dX8_metre_34 dX8_metre_37 dX8_metre_38 dX8_metre_40 dX8_metre_43 (Nat.le_of_ble_eq_true rfl) (by simp [va_cat, vi_cat, vl_cat]) hq1 hq2 (Nat.le_refl _) (Nat.le_refl _) h
  have J91 : ∀ (c0 n0 : Nat) (S : PT) (s0 : Int32), w_X8_metre_b91 x0 x1 x2 x3 mc ms post postX c0 n0 S s0 → G p l e { frames := 6, cells := mc, slots := ms, locals := 90 } s m [va_rf (some x0), Value.int x1, Value.int x2, Value.int x3].toArray below meth c D cy A s.heap 6 (QXi below D cy A [va_rf (some x0), Value.int x1, Value.int x2, Value.int x3] s mc ms post postX) S c0 n0 91 [] [Value.int s0] := by
    intro c0 n0 S s0 h
    unfold w_X8_metre_b91 at h
    obtain ⟨hc00, hn00, h⟩ := h
    refine G_vx ?_
    exact G_iret C (mc := mc) (ms := ms) (post := post) hr hc00 hn00 dX8_metre_91 h
  have J105 : ∀ (c0 n0 : Nat) (S : PT) (s0 : Int32), w_X8_metre_b105 x0 x1 x2 x3 mc ms post postX c0 n0 S s0 → G p l e { frames := 6, cells := mc, slots := ms, locals := 90 } s m [va_rf (some x0), Value.int x1, Value.int x2, Value.int x3].toArray below meth c D cy A s.heap 6 (QXi below D cy A [va_rf (some x0), Value.int x1, Value.int x2, Value.int x3] s mc ms post postX) S c0 n0 105 [] [Value.int s0] := by
    intro c0 n0 S s0 h
    unfold w_X8_metre_b105 at h
    obtain ⟨hc00, hn00, h⟩ := h
    refine G_vx ?_
    exact G_iret C (mc := mc) (ms := ms) (post := post) hr hc00 hn00 dX8_metre_105 h
  have J22 : ∀ (c0 n0 : Nat) (S : PT) (v4 : Option Nat) (s0 : Option Nat), w_X8_metre_b22 x0 x1 x2 x3 mc ms post postX c0 n0 S v4 s0 → G p l e { frames := 6, cells := mc, slots := ms, locals := 90 } s m [va_rf (some x0), Value.int x1, Value.int x2, Value.int x3].toArray below meth c D cy A s.heap 6 (QXi below D cy A [va_rf (some x0), Value.int x1, Value.int x2, Value.int x3] s mc ms post postX) S c0 n0 22 [(0, va_rf (some x0)), (2, Value.int x2), (3, Value.int x3), (4, va_rf v4)] [va_rf s0] := by
    intro c0 n0 S v4 s0 h
    unfold w_X8_metre_b22 at h
    obtain ⟨hc00, hn00, h⟩ := h
    refine G_astore C (i := 5) (lv' := [(5, va_rf s0), (0, va_rf (some x0)), (2, Value.int x2), (3, Value.int x3), (4, va_rf v4)]) dX8_metre_22 (by decide) (by first | rfl | simp [va_cat, vi_cat, vl_cat]) ?_
    refine G_aload C (x := v4) 4 dX8_metre_24 rfl ?_
    refine G_ifnull C (tgt := 34) dX8_metre_26 (by decide) (fun hc => ?_) (fun a1 ha2 => ?_)
    · have h := h.1 hc
      refine G_lv C (lv' := []) [] rfl ?_
      exact J34 _ _ _ h
    · have h := h.2 a1 ha2
      refine G_aload C (x := s0) 0 dX8_metre_29 rfl ?_
      refine G_ifnonnull C (tgt := 44) dX8_metre_31 (by decide) (fun hc => ?_) (fun a3 ha4 => ?_)
      · have h := h.1 hc
        refine G_lv C (lv' := []) [] rfl ?_
        exact J34 _ _ _ h
      · have h := h.2 a3 ha4
        refine G_iload_n C (x := x3) 3 dX8_metre_44 rfl rfl ?_
        by_cases hc : x3.toInt < 0 ∨ 3 < x3.toInt
        · have h := h.1 hc
          refine G_tableOut C (tgt := 118) dX8_metre_45 hc (by decide) ?_
          obtain ⟨hq1, hq2, h⟩ := h
          exact G_throwW C hZ hl hx9 (cls := "java/lang/IllegalArgumentException") (text := "what out of range") (ik := 59) (is := 413) (ic := 63) rfl (by decide) tw_1_210 tw_1_11 (List.mem_of_getElem? (i := 38) rfl) (at_IAE C.2.2.2.2.1 C.2.2.2.2.2.1) at_IAE_o dX8_metre_118 dX8_metre_121 dX8_metre_122 dX8_metre_125 dX8_metre_128 (Nat.le_of_ble_eq_true rfl) (by simp [va_cat, vi_cat, vl_cat]) hq1 hq2 (Nat.le_refl _) (Nat.le_refl _) h
        · rcases (show x3.toInt = 0 ∨ x3.toInt = 1 ∨ x3.toInt = 2 ∨ x3.toInt = 3 by omega) with hx | hx | hx | hx
          · have h := h.2.1 hx
            refine G_tableIn C (tgt := 76) dX8_metre_45 (by omega) (by omega) (by rw [hx]; rfl) (by decide) ?_
            refine G_aload_n C (x := (some x0)) 1 dX8_metre_76 rfl rfl ?_
            refine G_aload C (x := v4) 4 dX8_metre_77 rfl ?_
            refine G_iload_n C (x := x2) 2 dX8_metre_79 rfl rfl ?_
            obtain ⟨hk5, h⟩ := h
            refine G_callVi C hZ (Tf := TX8) (N := 10) hk5 (by decide) rfl tw_2_9 tw_2_11 tw_0_4 tw_1_1 tw_2_12 hy_X8_isSuspect ⟨Nat.le_of_ble_eq_true rfl, Nat.le_of_ble_eq_true rfl⟩ (As := [va_rf v4, Value.int x2]) (rest := []) (c_X8_isSuspect l D cy x0 v4 x2 S _ h) rfl rfl (by simp [va_cat, vi_cat, vl_cat]) dX8_metre_80 ⟨hc00, hn00⟩ (fun r7 S6 h => ?_)
            obtain ⟨hb8, h⟩ := h
            refine G_if_eq C (tgt := 90) dX8_metre_83 (by decide) (fun hc => ?_) (fun hc => ?_)
            · have h := h.1 hc
              refine G_iconst C (v := 0) dX8_metre_90 (by decide) ?_
              refine G_lv C (lv' := []) [] rfl ?_
              exact J91 _ _ _ _ h
            · have h := h.2 hc
              refine G_iconst C (v := 1) dX8_metre_86 (by decide) ?_
              refine G_goto C (tgt := 91) dX8_metre_87 (by decide) ?_
              refine G_lv C (lv' := []) [] rfl ?_
              exact J91 _ _ _ _ h
          · have h := h.2.2.1 hx
            refine G_tableIn C (tgt := 92) dX8_metre_45 (by omega) (by omega) (by rw [hx]; rfl) (by decide) ?_
            refine G_aload C (x := s0) 0 dX8_metre_92 rfl ?_
            refine G_rf ha4 ?_
            obtain ⟨hk9, h⟩ := h
            refine G_get C (CC := RX2) (Tf := TX2) (N := 4) (k := 3) (i := 0) (v := Value.int (gI S 300 a3)) hk9 (by decide) rfl (fin fwX2) (by decide) (im tw_2_79) rfl rfl dX8_metre_94 ?_
            refine G_if_eq C (tgt := 104) dX8_metre_97 (by decide) (fun hc => ?_) (fun hc => ?_)
            · have h := h.1 hc
              refine G_iconst C (v := 0) dX8_metre_104 (by decide) ?_
              refine G_lv C (lv' := []) [] rfl ?_
              exact J105 _ _ _ _ h
            · have h := h.2 hc
              refine G_iconst C (v := 1) dX8_metre_100 (by decide) ?_
              refine G_goto C (tgt := 105) dX8_metre_101 (by decide) ?_
              refine G_lv C (lv' := []) [] rfl ?_
              exact J105 _ _ _ _ h
          · have h := h.2.2.2.1 hx
            refine G_tableIn C (tgt := 106) dX8_metre_45 (by omega) (by omega) (by rw [hx]; rfl) (by decide) ?_
            refine G_aload C (x := s0) 0 dX8_metre_106 rfl ?_
            refine G_rf ha4 ?_
            obtain ⟨hk10, h⟩ := h
            refine G_get C (CC := RX2) (Tf := TX2) (N := 4) (k := 3) (i := 1) (v := Value.int (gI S 301 a3)) hk10 (by decide) rfl (fin fwX2) (by decide) (im tw_2_82) rfl rfl dX8_metre_108 ?_
            refine G_vx ?_
            exact G_iret C (mc := mc) (ms := ms) (post := post) hr hc00 hn00 dX8_metre_111 h
          · have h := h.2.2.2.2 hx
            refine G_tableIn C (tgt := 112) dX8_metre_45 (by omega) (by omega) (by rw [hx]; rfl) (by decide) ?_
            refine G_aload C (x := s0) 0 dX8_metre_112 rfl ?_
            refine G_rf ha4 ?_
            obtain ⟨hk11, h⟩ := h
            refine G_get C (CC := RX2) (Tf := TX2) (N := 4) (k := 3) (i := 2) (v := Value.int (gI S 302 a3)) hk11 (by decide) rfl (fin fwX2) (by decide) (im tw_2_83) rfl rfl dX8_metre_114 ?_
            refine G_vx ?_
            exact G_iret C (mc := mc) (ms := ms) (post := post) hr hc00 hn00 dX8_metre_117 h
  refine G_lv C (lv' := [(0, va_rf (some x0)), (1, Value.int x1), (2, Value.int x2), (3, Value.int x3)]) [0, 1, 2, 3] (by first | rfl | simp [lv_pick, lv_args, va_cat, vi_cat, vl_cat]) ?_
  unfold w_X8_metre at h
  refine G_aload_n C (x := (some x0)) 0 dX8_metre_0 rfl rfl ?_
  refine G_iload_n C (x := x1) 1 dX8_metre_1 rfl rfl ?_
  obtain ⟨hk12, h⟩ := h
  refine G_callVq C hZ (Tf := TX8) (N := 10) hk12 (by decide) rfl tw_1_134 tw_1_136 tw_0_0 tw_1_1 tw_1_137 hy_X8_streetAt ⟨Nat.le_of_ble_eq_true rfl, Nat.le_of_ble_eq_true rfl⟩ (As := [Value.int x1]) (rest := []) (c_X8_streetAt l D cy x0 x1 S _ h) rfl rfl (by simp [va_cat, vi_cat, vl_cat]) dX8_metre_2 ⟨(Nat.zero_le _), (Nat.zero_le _)⟩ (fun r14 S13 h => ?_)
  refine G_astore C (i := 4) (lv' := [(4, va_rf r14), (0, va_rf (some x0)), (1, Value.int x1), (2, Value.int x2), (3, Value.int x3)]) dX8_metre_5 (by decide) (by first | rfl | simp [va_cat, vi_cat, vl_cat]) ?_
  refine G_aload C (x := r14) 0 dX8_metre_7 rfl ?_
  refine G_ifnonnull C (tgt := 16) dX8_metre_9 (by decide) (fun hc => ?_) (fun a15 ha16 => ?_)
  · have h := h.1 hc
    refine G_null C dX8_metre_12 ?_
    refine G_goto C (tgt := 22) dX8_metre_13 (by decide) ?_
    refine G_lv C (lv' := [(0, va_rf (some x0)), (2, Value.int x2), (3, Value.int x3), (4, va_rf r14)]) [1, 3, 4, 0] rfl ?_
    exact J22 _ _ _ _ _ h
  · have h := h.2 a15 ha16
    refine G_aload C (x := r14) 0 dX8_metre_16 rfl ?_
    refine G_iload_n C (x := x2) 3 dX8_metre_18 rfl rfl ?_
    obtain ⟨hk17, h⟩ := h
    refine G_callVq C hZ (Tf := TX4) (N := 12) hk17 (by decide) rfl tw_1_138 tw_1_139 tw_1_140 tw_1_13 tw_1_141 hy_X4_metreAt ⟨Nat.le_of_ble_eq_true rfl, Nat.le_of_ble_eq_true rfl⟩ (As := [Value.int x2]) (rest := []) (c_X4_metreAt l D cy a15 x2 S13 _ h) rfl (by first | rfl | (simp only [ha16]; rfl) | simp only [ha16]) (by simp [va_cat, vi_cat, vl_cat]) dX8_metre_19 ⟨(Nat.zero_le _), (Nat.zero_le _)⟩ (fun r19 S18 h => ?_)
    refine G_lv C (lv' := [(0, va_rf (some x0)), (2, Value.int x2), (3, Value.int x3), (4, va_rf r14)]) [1, 3, 4, 0] rfl ?_
    exact J22 _ _ _ _ _ h
set_option maxHeartbeats 4000000 in
set_option maxRecDepth 100000 in
theorem c_X8_search (l : Launch) (hl : l.stackTraces = false) (D : va_G) (cy : Nat → Nat) (x0 : Nat) (x1 : Int32) (x2 : Int32) (x3 : Int32) (S : PT) (mc ms : Nat) (post : Int32 → PT → Prop) (postX : String → PT → Prop) (h : w_X8_search x0 x1 x2 x3 S mc ms post postX) : Xi l yX8_search (Wm yX8_search prog_1_method_31_code 5 (Option.some Jvm.ClassFile.FieldType.int)) 6 90 D cy [va_rf (some x0), Value.int x1, Value.int x2, Value.int x3] S mc ms post postX := by
  refine Xi_of (own := "Trenchboard") (by decide) rfl (by first | decide | simp [lg_sl, va_cat, vi_cat, vl_cat]) (fun p e s m below meth c A C hZ hr hx9 => ?_)
  have J30 : ∀ (c0 n0 : Nat) (S : PT), w_X8_search_b30 x0 x1 x2 x3 mc ms post postX c0 n0 S → G p l e { frames := 6, cells := mc, slots := ms, locals := 90 } s m [va_rf (some x0), Value.int x1, Value.int x2, Value.int x3].toArray below meth c D cy A s.heap 5 (QXi below D cy A [va_rf (some x0), Value.int x1, Value.int x2, Value.int x3] s mc ms post postX) S c0 n0 30 [] [] := by
    intro c0 n0 S h
    unfold w_X8_search_b30 at h
    obtain ⟨hc00, hn00, h⟩ := h
    obtain ⟨hq1, hq2, h⟩ := h
    exact G_throw C hZ hl hx9 (cls := "java/lang/IndexOutOfBoundsException") (text := "no such street or metre") (ik := 52) (is := 189) (ic := 56) rfl (by decide) tw_1_142 tw_1_10 (List.mem_of_getElem? (i := 13) rfl) (at_IOOBE C.2.2.2.2.1 C.2.2.2.2.2.1) at_IOOBE_o dX8_search_30 dX8_search_33 dX8_search_34 dX8_search_36 dX8_search_39 (Nat.le_of_ble_eq_true rfl) (by simp [va_cat, vi_cat, vl_cat]) hq1 hq2 (Nat.le_refl _) (Nat.le_refl _) h
  refine G_lv C (lv' := [(0, va_rf (some x0)), (1, Value.int x1), (2, Value.int x2), (3, Value.int x3)]) [0, 1, 2, 3] (by first | rfl | simp [lv_pick, lv_args, va_cat, vi_cat, vl_cat]) ?_
  unfold w_X8_search at h
  refine G_aload_n C (x := (some x0)) 0 dX8_search_0 rfl rfl ?_
  refine G_iload_n C (x := x1) 1 dX8_search_1 rfl rfl ?_
  obtain ⟨hk1, h⟩ := h
  refine G_callVq C hZ (Tf := TX8) (N := 10) hk1 (by decide) rfl tw_1_134 tw_1_136 tw_0_0 tw_1_1 tw_1_137 hy_X8_streetAt ⟨Nat.le_of_ble_eq_true rfl, Nat.le_of_ble_eq_true rfl⟩ (As := [Value.int x1]) (rest := []) (c_X8_streetAt l D cy x0 x1 S _ h) rfl rfl (by simp [va_cat, vi_cat, vl_cat]) dX8_search_2 ⟨(Nat.zero_le _), (Nat.zero_le _)⟩ (fun r3 S2 h => ?_)
  refine G_astore C (i := 4) (lv' := [(4, va_rf r3), (0, va_rf (some x0)), (1, Value.int x1), (2, Value.int x2), (3, Value.int x3)]) dX8_search_5 (by decide) (by first | rfl | simp [va_cat, vi_cat, vl_cat]) ?_
  refine G_aload C (x := r3) 0 dX8_search_7 rfl ?_
  refine G_ifnull C (tgt := 30) dX8_search_9 (by decide) (fun hc => ?_) (fun a4 ha5 => ?_)
  · have h := h.1 hc
    refine G_lv C (lv' := []) [] rfl ?_
    exact J30 _ _ _ h
  · have h := h.2 a4 ha5
    refine G_aload C (x := r3) 0 dX8_search_12 rfl ?_
    refine G_iload_n C (x := x2) 3 dX8_search_14 rfl rfl ?_
    obtain ⟨hk6, h⟩ := h
    refine G_callVq C hZ (Tf := TX4) (N := 12) hk6 (by decide) rfl tw_1_138 tw_1_139 tw_1_140 tw_1_13 tw_1_141 hy_X4_metreAt ⟨Nat.le_of_ble_eq_true rfl, Nat.le_of_ble_eq_true rfl⟩ (As := [Value.int x2]) (rest := []) (c_X4_metreAt l D cy a4 x2 S2 _ h) rfl (by first | rfl | (simp only [ha5]; rfl) | simp only [ha5]) (by simp [va_cat, vi_cat, vl_cat]) dX8_search_15 ⟨(Nat.zero_le _), (Nat.zero_le _)⟩ (fun r8 S7 h => ?_)
    refine G_ifnull C (tgt := 30) dX8_search_18 (by decide) (fun hc => ?_) (fun a9 ha10 => ?_)
    · have h := h.1 hc
      refine G_lv C (lv' := []) [] rfl ?_
      exact J30 _ _ _ h
    · have h := h.2 a9 ha10
      refine G_aload C (x := r3) 0 dX8_search_21 rfl ?_
      refine G_iload_n C (x := x3) 4 dX8_search_23 rfl rfl ?_
      obtain ⟨hk11, h⟩ := h
      refine G_callVq C hZ (Tf := TX4) (N := 12) hk11 (by decide) rfl tw_1_138 tw_1_139 tw_1_140 tw_1_13 tw_1_141 hy_X4_metreAt ⟨Nat.le_of_ble_eq_true rfl, Nat.le_of_ble_eq_true rfl⟩ (As := [Value.int x3]) (rest := []) (c_X4_metreAt l D cy a4 x3 S7 _ h) rfl (by first | rfl | (simp only [ha5]; rfl) | simp only [ha5]) (by simp [va_cat, vi_cat, vl_cat]) dX8_search_24 ⟨(Nat.zero_le _), (Nat.zero_le _)⟩ (fun r13 S12 h => ?_)
      refine G_ifnonnull C (tgt := 40) dX8_search_27 (by decide) (fun hc => ?_) (fun a14 ha15 => ?_)
      · have h := h.1 hc
        refine G_lv C (lv' := []) [] rfl ?_
        exact J30 _ _ _ h
      · have h := h.2 a14 ha15
        refine G_iload_n C (x := x3) 4 dX8_search_40 rfl rfl ?_
        refine G_iload_n C (x := x2) 3 dX8_search_41 rfl rfl ?_
        refine G_icmp_ge C (tgt := 56) dX8_search_42 (by decide) (fun hc => ?_) (fun hc => ?_)
        · have h := h.1 hc
          refine G_aload_n C (x := (some x0)) 1 dX8_search_56 rfl rfl ?_
          refine G_aload C (x := r3) 0 dX8_search_57 rfl ?_
          refine G_iload_n C (x := x2) 3 dX8_search_59 rfl rfl ?_
          refine G_iload_n C (x := x3) 4 dX8_search_60 rfl rfl ?_
          obtain ⟨hk16, h⟩ := h
          refine G_callVi C hZ (Tf := TX8) (N := 10) hk16 (by decide) rfl tw_2_13 tw_2_15 tw_0_5 tw_1_1 tw_2_16 hy_X8_suspects ⟨Nat.le_of_ble_eq_true rfl, Nat.le_of_ble_eq_true rfl⟩ (As := [va_rf r3, Value.int x2, Value.int x3]) (rest := []) (c_X8_suspects l D cy x0 r3 x2 x3 S12 _ h) rfl rfl (by simp [va_cat, vi_cat, vl_cat]) dX8_search_61 ⟨(Nat.zero_le _), (Nat.zero_le _)⟩ (fun r18 S17 h => ?_)
          refine G_vx ?_
          exact G_iret C (mc := mc) (ms := ms) (post := post) hr (Nat.zero_le _) (Nat.zero_le _) dX8_search_64 h
        · have h := h.2 hc
          obtain ⟨hq1, hq2, h⟩ := h
          exact G_throwW C hZ hl hx9 (cls := "java/lang/IllegalArgumentException") (text := "metres the wrong way round") (ik := 59) (is := 415) (ic := 63) rfl (by decide) tw_1_210 tw_1_11 (List.mem_of_getElem? (i := 39) rfl) (at_IAE C.2.2.2.2.1 C.2.2.2.2.2.1) at_IAE_o dX8_search_45 dX8_search_48 dX8_search_49 dX8_search_52 dX8_search_55 (Nat.le_of_ble_eq_true rfl) (by simp [va_cat, vi_cat, vl_cat]) hq1 hq2 (Nat.le_refl _) (Nat.le_refl _) h
set_option maxHeartbeats 4000000 in
set_option maxRecDepth 100000 in
theorem c_X8_queue (l : Launch) (hl : l.stackTraces = false) (D : va_G) (cy : Nat → Nat) (x0 : Nat) (x1 : Int32) (S : PT) (mc ms : Nat) (post : Int32 → PT → Prop) (postX : String → PT → Prop) (h : w_X8_queue x0 x1 S mc ms post postX) : Xi l yX8_queue (Wm yX8_queue prog_1_method_32_code 3 (Option.some Jvm.ClassFile.FieldType.int)) 6 90 D cy [va_rf (some x0), Value.int x1] S mc ms post postX := by
  refine Xi_of (own := "Trenchboard") (by decide) rfl (by first | decide | simp [lg_sl, va_cat, vi_cat, vl_cat]) (fun p e s m below meth c A C hZ hr hx9 => ?_)
  refine G_lv C (lv' := [(0, va_rf (some x0)), (1, Value.int x1)]) [0, 1] (by first | rfl | simp [lv_pick, lv_args, va_cat, vi_cat, vl_cat]) ?_
  unfold w_X8_queue at h
  refine G_aload_n C (x := (some x0)) 0 dX8_queue_0 rfl rfl ?_
  refine G_iload_n C (x := x1) 1 dX8_queue_1 rfl rfl ?_
  obtain ⟨hk1, h⟩ := h
  refine G_callVq C hZ (Tf := TX8) (N := 10) hk1 (by decide) rfl tw_1_134 tw_1_136 tw_0_0 tw_1_1 tw_1_137 hy_X8_streetAt ⟨Nat.le_of_ble_eq_true rfl, Nat.le_of_ble_eq_true rfl⟩ (As := [Value.int x1]) (rest := []) (c_X8_streetAt l D cy x0 x1 S _ h) rfl rfl (by simp [va_cat, vi_cat, vl_cat]) dX8_queue_2 ⟨(Nat.zero_le _), (Nat.zero_le _)⟩ (fun r3 S2 h => ?_)
  refine G_astore_n C (i := 2) (lv' := [(2, va_rf r3), (0, va_rf (some x0)), (1, Value.int x1)]) dX8_queue_5 rfl (by decide) (by first | rfl | simp [va_cat, vi_cat, vl_cat]) ?_
  refine G_aload_n C (x := r3) 0 dX8_queue_6 rfl rfl ?_
  refine G_ifnonnull C (tgt := 20) dX8_queue_7 (by decide) (fun hc => ?_) (fun a4 ha5 => ?_)
  · have h := h.1 hc
    obtain ⟨hq1, hq2, h⟩ := h
    exact G_throw C hZ hl hx9 (cls := "java/lang/IndexOutOfBoundsException") (text := "no such street") (ik := 52) (is := 76) (ic := 56) rfl (by decide) tw_1_142 tw_1_10 (List.mem_of_getElem? (i := 3) rfl) (at_IOOBE C.2.2.2.2.1 C.2.2.2.2.2.1) at_IOOBE_o dX8_queue_10 dX8_queue_13 dX8_queue_14 dX8_queue_16 dX8_queue_19 (Nat.le_of_ble_eq_true rfl) (by simp [va_cat, vi_cat, vl_cat]) hq1 hq2 (Nat.le_refl _) (Nat.le_refl _) h
  · have h := h.2 a4 ha5
    refine G_aload_n C (x := r3) 0 dX8_queue_20 rfl rfl ?_
    refine G_rf ha5 ?_
    obtain ⟨hk6, h⟩ := h
    refine G_get C (CC := RX4) (Tf := TX4) (N := 12) (k := 5) (i := 11) (v := Value.int (gI S2 511 a4)) hk6 (by decide) rfl (fin fwX4) (by decide) (im tw_2_114) rfl rfl dX8_queue_21 ?_
    refine G_vx ?_
    exact G_iret C (mc := mc) (ms := ms) (post := post) hr (Nat.zero_le _) (Nat.zero_le _) dX8_queue_24 h
set_option maxHeartbeats 4000000 in
set_option maxRecDepth 100000 in
theorem c_X8_due (l : Launch) (hl : l.stackTraces = false) (D : va_G) (cy : Nat → Nat) (x0 : Nat) (x1 : Int32) (S : PT) (mc ms : Nat) (post : Int32 → PT → Prop) (postX : String → PT → Prop) (h : w_X8_due x0 x1 S mc ms post postX) : Xi l yX8_due (Wm yX8_due prog_1_method_33_code 4 (Option.some Jvm.ClassFile.FieldType.int)) 6 90 D cy [va_rf (some x0), Value.int x1] S mc ms post postX := by
  refine Xi_of (own := "Trenchboard") (by decide) rfl (by first | decide | simp [lg_sl, va_cat, vi_cat, vl_cat]) (fun p e s m below meth c A C hZ hr hx9 => ?_)
  have J17 : ∀ (c0 n0 : Nat) (S : PT), w_X8_due_b17 x0 x1 mc ms post postX c0 n0 S → G p l e { frames := 6, cells := mc, slots := ms, locals := 90 } s m [va_rf (some x0), Value.int x1].toArray below meth c D cy A s.heap 4 (QXi below D cy A [va_rf (some x0), Value.int x1] s mc ms post postX) S c0 n0 17 [] [] := by
    intro c0 n0 S h
    unfold w_X8_due_b17 at h
    obtain ⟨hc00, hn00, h⟩ := h
    obtain ⟨hq1, hq2, h⟩ := h
    exact G_throwW C hZ hl hx9 (cls := "java/lang/IndexOutOfBoundsException") (text := "no such promoter") (ik := 52) (is := 428) (ic := 56) rfl (by decide) tw_1_142 tw_1_10 (List.mem_of_getElem? (i := 40) rfl) (at_IOOBE C.2.2.2.2.1 C.2.2.2.2.2.1) at_IOOBE_o dX8_due_17 dX8_due_20 dX8_due_21 dX8_due_24 dX8_due_27 (Nat.le_of_ble_eq_true rfl) (by simp [va_cat, vi_cat, vl_cat]) hq1 hq2 (Nat.le_refl _) (Nat.le_refl _) h
  refine G_lv C (lv' := [(0, va_rf (some x0)), (1, Value.int x1)]) [0, 1] (by first | rfl | simp [lv_pick, lv_args, va_cat, vi_cat, vl_cat]) ?_
  unfold w_X8_due at h
  refine G_aload_n C (x := (some x0)) 0 dX8_due_0 rfl rfl ?_
  refine G_iload_n C (x := x1) 1 dX8_due_1 rfl rfl ?_
  obtain ⟨hk1, h⟩ := h
  refine G_callVq C hZ (Tf := TX8) (N := 10) hk1 (by decide) rfl tw_2_25 tw_2_27 tw_0_6 tw_1_1 tw_2_28 hy_X8_partyAt ⟨Nat.le_of_ble_eq_true rfl, Nat.le_of_ble_eq_true rfl⟩ (As := [Value.int x1]) (rest := []) (c_X8_partyAt l D cy x0 x1 S _ h) rfl rfl (by simp [va_cat, vi_cat, vl_cat]) dX8_due_2 ⟨(Nat.zero_le _), (Nat.zero_le _)⟩ (fun r3 S2 h => ?_)
  refine G_astore_n C (i := 2) (lv' := [(2, va_rf r3), (0, va_rf (some x0)), (1, Value.int x1)]) dX8_due_5 rfl (by decide) (by first | rfl | simp [va_cat, vi_cat, vl_cat]) ?_
  refine G_aload_n C (x := r3) 0 dX8_due_6 rfl rfl ?_
  refine G_ifnull C (tgt := 17) dX8_due_7 (by decide) (fun hc => ?_) (fun a4 ha5 => ?_)
  · have h := h.1 hc
    refine G_lv C (lv' := []) [] rfl ?_
    exact J17 _ _ _ h
  · have h := h.2 a4 ha5
    refine G_iload_n C (x := x1) 2 dX8_due_10 rfl rfl ?_
    refine G_callSi C hZ tw_3_11 tw_3_12 tw_1_1 tw_3_13 hy_X8_isPromoter ⟨Nat.le_of_ble_eq_true rfl, Nat.le_of_ble_eq_true rfl⟩ (As := [Value.int x1]) (rest := []) (c_X8_isPromoter l D cy x1 S2 _ h) rfl rfl (by simp [va_cat, vi_cat, vl_cat]) dX8_due_11 ⟨(Nat.zero_le _), (Nat.zero_le _)⟩ (fun r7 S6 h => ?_)
    obtain ⟨hb8, h⟩ := h
    refine G_if_ne C (tgt := 28) dX8_due_14 (by decide) (fun hc => ?_) (fun hc => ?_)
    · have h := h.1 hc
      refine G_iconst C (v := 5) dX8_due_28 (by decide) ?_
      refine G_iconst C (v := 5) dX8_due_29 (by decide) ?_
      refine G_aload_n C (x := r3) 0 dX8_due_30 rfl rfl ?_
      refine G_rf ha5 ?_
      obtain ⟨hk9, h⟩ := h
      refine G_get C (CC := RX3) (Tf := TX3) (N := 4) (k := 4) (i := 2) (v := Value.int (gI S6 402 a4)) hk9 (by decide) rfl (fin fwX3) (by decide) (im tw_1_88) rfl rfl dX8_due_31 ?_
      refine G_bipush C (v := 9) dX8_due_34 (by decide) ?_
      refine G_mmin C (im tw_4_165) (im tw_2_230) (im tw_1_14) (im tw_2_231) (Nat.le_of_ble_eq_true rfl) (by simp [va_cat, vi_cat, vl_cat]) (by omega) (by omega) dX8_due_36 ?_
      refine G_imul C dX8_due_39 ?_
      refine G_iadd C dX8_due_40 ?_
      refine G_istore_n C (i := 3) (lv' := [(3, Value.int (5 + (5 * (if 9 < (gI S6 402 a4) then 9 else (gI S6 402 a4))))), (2, va_rf r3), (0, va_rf (some x0)), (1, Value.int x1)]) dX8_due_41 rfl (by decide) (by first | rfl | simp [va_cat, vi_cat, vl_cat]) ?_
      refine G_aload_n C (x := r3) 1 dX8_due_42 rfl rfl ?_
      refine G_rf ha5 ?_
      refine G_get C (CC := RX3) (Tf := TX3) (N := 4) (k := 4) (i := 1) (v := Value.int (gI S6 401 a4)) hk9 (by decide) rfl (fin fwX3) (by decide) (im tw_1_87) rfl rfl dX8_due_43 ?_
      refine G_iload_n C (x := (5 + (5 * (if 9 < (gI S6 402 a4) then 9 else (gI S6 402 a4))))) 0 dX8_due_46 rfl rfl ?_
      refine G_imul C dX8_due_47 ?_
      refine G_bipush C (v := 99) dX8_due_48 (by decide) ?_
      refine G_iadd C dX8_due_50 ?_
      refine G_bipush C (v := 100) dX8_due_51 (by decide) ?_
      refine G_idiv C dX8_due_53 (by decide) ?_
      refine G_aload_n C (x := r3) 1 dX8_due_54 rfl rfl ?_
      refine G_rf ha5 ?_
      refine G_get C (CC := RX3) (Tf := TX3) (N := 4) (k := 4) (i := 3) (v := Value.int (gI S6 403 a4)) hk9 (by decide) rfl (fin fwX3) (by decide) (im tw_1_89) rfl rfl dX8_due_55 ?_
      refine G_isub C dX8_due_58 ?_
      refine G_iconst C (v := 0) dX8_due_59 (by decide) ?_
      refine G_mmax C (im tw_4_41) (im tw_2_69) (im tw_1_14) (im tw_2_70) (Nat.le_of_ble_eq_true rfl) (by simp [va_cat, vi_cat, vl_cat]) (by omega) (by omega) dX8_due_60 ?_
      refine G_vx ?_
      exact G_iret C (mc := mc) (ms := ms) (post := post) hr (Nat.zero_le _) (Nat.zero_le _) dX8_due_63 h
    · have h := h.2 hc
      refine G_lv C (lv' := []) [] rfl ?_
      exact J17 _ _ _ h
set_option maxHeartbeats 4000000 in
set_option maxRecDepth 100000 in
theorem c_X8_money (l : Launch) (hl : l.stackTraces = false) (D : va_G) (cy : Nat → Nat) (x0 : Nat) (x1 : Int32) (S : PT) (mc ms : Nat) (post : Int64 → PT → Prop) (postX : String → PT → Prop) (h : w_X8_money x0 x1 S mc ms post postX) : Xl l yX8_money (Wm yX8_money prog_1_method_34_code 3 (Option.some Jvm.ClassFile.FieldType.long)) 6 90 D cy [va_rf (some x0), Value.int x1] S mc ms post postX := by
  refine Xl_of (own := "Trenchboard") (by decide) rfl (by first | decide | simp [lg_sl, va_cat, vi_cat, vl_cat]) (fun p e s m below meth c A C hZ hr hx9 => ?_)
  refine G_lv C (lv' := [(0, va_rf (some x0)), (1, Value.int x1)]) [0, 1] (by first | rfl | simp [lv_pick, lv_args, va_cat, vi_cat, vl_cat]) ?_
  unfold w_X8_money at h
  refine G_aload_n C (x := (some x0)) 0 dX8_money_0 rfl rfl ?_
  refine G_iload_n C (x := x1) 1 dX8_money_1 rfl rfl ?_
  obtain ⟨hk1, h⟩ := h
  refine G_callVq C hZ (Tf := TX8) (N := 10) hk1 (by decide) rfl tw_2_25 tw_2_27 tw_0_6 tw_1_1 tw_2_28 hy_X8_partyAt ⟨Nat.le_of_ble_eq_true rfl, Nat.le_of_ble_eq_true rfl⟩ (As := [Value.int x1]) (rest := []) (c_X8_partyAt l D cy x0 x1 S _ h) rfl rfl (by simp [va_cat, vi_cat, vl_cat]) dX8_money_2 ⟨(Nat.zero_le _), (Nat.zero_le _)⟩ (fun r3 S2 h => ?_)
  refine G_astore_n C (i := 2) (lv' := [(2, va_rf r3), (0, va_rf (some x0)), (1, Value.int x1)]) dX8_money_5 rfl (by decide) (by first | rfl | simp [va_cat, vi_cat, vl_cat]) ?_
  refine G_aload_n C (x := r3) 0 dX8_money_6 rfl rfl ?_
  refine G_ifnonnull C (tgt := 21) dX8_money_7 (by decide) (fun hc => ?_) (fun a4 ha5 => ?_)
  · have h := h.1 hc
    obtain ⟨hq1, hq2, h⟩ := h
    exact G_throwW C hZ hl hx9 (cls := "java/lang/IndexOutOfBoundsException") (text := "no such promoter, nor the board") (ik := 52) (is := 440) (ic := 56) rfl (by decide) tw_1_142 tw_1_10 (List.mem_of_getElem? (i := 41) rfl) (at_IOOBE C.2.2.2.2.1 C.2.2.2.2.2.1) at_IOOBE_o dX8_money_10 dX8_money_13 dX8_money_14 dX8_money_17 dX8_money_20 (Nat.le_of_ble_eq_true rfl) (by simp [va_cat, vi_cat, vl_cat]) hq1 hq2 (Nat.le_refl _) (Nat.le_refl _) h
  · have h := h.2 a4 ha5
    refine G_aload_n C (x := r3) 0 dX8_money_21 rfl rfl ?_
    refine G_rf ha5 ?_
    obtain ⟨hk6, h⟩ := h
    refine G_get C (CC := RX3) (Tf := TX3) (N := 4) (k := 4) (i := 0) (v := Value.long (gJ S2 400 a4)) hk6 (by decide) rfl (fin fwX3) (by decide) (im tw_1_86) rfl rfl dX8_money_22 ?_
    refine G_vx ?_
    exact G_lret C (mc := mc) (ms := ms) (post := post) hr (Nat.zero_le _) (Nat.zero_le _) dX8_money_25 h
set_option maxHeartbeats 4000000 in
set_option maxRecDepth 100000 in
theorem c_X8_moneyAnew (l : Launch) (hl : l.stackTraces = false) (D : va_G) (cy : Nat → Nat) (x0 : Nat) (x1 : Int32) (S : PT) (mc ms : Nat) (post : Int64 → PT → Prop) (postX : String → PT → Prop) (h : w_X8_moneyAnew x0 x1 S mc ms post postX) : Xl l yX8_moneyAnew (Wm yX8_moneyAnew prog_1_method_35_code 2 (Option.some Jvm.ClassFile.FieldType.long)) 6 90 D cy [va_rf (some x0), Value.int x1] S mc ms post postX := by
  refine Xl_of (own := "Trenchboard") (by decide) rfl (by first | decide | simp [lg_sl, va_cat, vi_cat, vl_cat]) (fun p e s m below meth c A C hZ hr hx9 => ?_)
  refine G_lv C (lv' := [(0, va_rf (some x0)), (1, Value.int x1)]) [0, 1] (by first | rfl | simp [lv_pick, lv_args, va_cat, vi_cat, vl_cat]) ?_
  unfold w_X8_moneyAnew at h
  refine G_aload_n C (x := (some x0)) 0 dX8_moneyAnew_0 rfl rfl ?_
  refine G_iload_n C (x := x1) 1 dX8_moneyAnew_1 rfl rfl ?_
  obtain ⟨hk1, h⟩ := h
  refine G_callVq C hZ (Tf := TX8) (N := 10) hk1 (by decide) rfl tw_2_25 tw_2_27 tw_0_6 tw_1_1 tw_2_28 hy_X8_partyAt ⟨Nat.le_of_ble_eq_true rfl, Nat.le_of_ble_eq_true rfl⟩ (As := [Value.int x1]) (rest := []) (c_X8_partyAt l D cy x0 x1 S _ h) rfl rfl (by simp [va_cat, vi_cat, vl_cat]) dX8_moneyAnew_2 ⟨(Nat.zero_le _), (Nat.zero_le _)⟩ (fun r3 S2 h => ?_)
  refine G_ifnonnull C (tgt := 19) dX8_moneyAnew_5 (by decide) (fun hc => ?_) (fun a4 ha5 => ?_)
  · have h := h.1 hc
    obtain ⟨hq1, hq2, h⟩ := h
    exact G_throwW C hZ hl hx9 (cls := "java/lang/IndexOutOfBoundsException") (text := "no such promoter, nor the board") (ik := 52) (is := 440) (ic := 56) rfl (by decide) tw_1_142 tw_1_10 (List.mem_of_getElem? (i := 41) rfl) (at_IOOBE C.2.2.2.2.1 C.2.2.2.2.2.1) at_IOOBE_o dX8_moneyAnew_8 dX8_moneyAnew_11 dX8_moneyAnew_12 dX8_moneyAnew_15 dX8_moneyAnew_18 (Nat.le_of_ble_eq_true rfl) (by simp [va_cat, vi_cat, vl_cat]) hq1 hq2 (Nat.le_refl _) (Nat.le_refl _) h
  · have h := h.2 a4 ha5
    refine G_aload_n C (x := (some x0)) 0 dX8_moneyAnew_19 rfl rfl ?_
    obtain ⟨hk6, h⟩ := h
    refine G_get C (CC := RX8) (Tf := TX8) (N := 10) (k := 9) (i := 7) (v := va_rf (gP S2 907 x0)) hk6 (by decide) rfl (fin fwX8) (by decide) (im tw_1_106) rfl rfl dX8_moneyAnew_20 ?_
    refine G_iload_n C (x := x1) 1 dX8_moneyAnew_23 rfl rfl ?_
    obtain ⟨a7, ha8, h⟩ := h
    obtain ⟨hk9, h⟩ := h
    refine G_callVl C hZ (Tf := TX1) (N := 2) hk9 (by decide) rfl tw_4_170 tw_4_171 tw_4_172 tw_1_2 tw_4_173 hy_X1_balanceOf ⟨Nat.le_of_ble_eq_true rfl, Nat.le_of_ble_eq_true rfl⟩ (As := [Value.int x1]) (rest := []) (c_X1_balanceOf l D cy a7 x1 S2 _ h) rfl (by first | rfl | (simp only [ha8]; rfl) | simp only [ha8]) (by simp [va_cat, vi_cat, vl_cat]) dX8_moneyAnew_24 ⟨(Nat.zero_le _), (Nat.zero_le _)⟩ (fun r11 S10 h => ?_)
    refine G_vx ?_
    exact G_lret C (mc := mc) (ms := ms) (post := post) hr (Nat.zero_le _) (Nat.zero_le _) dX8_moneyAnew_27 h
