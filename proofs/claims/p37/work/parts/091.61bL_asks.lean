set_option maxHeartbeats 4000000 in
set_option maxRecDepth 100000 in
theorem c_L_asks (l : Launch) (hl : l.stackTraces = false) (D : va_G) (cy : Nat → Nat) (x0 : Option Nat) (x1 : Int32) (x2 : Int32) (x3 : Int32) (x4 : Int32) (x5 : Int32) (x6 : Int32) (x7 : Int32) (S : PT) (mc ms : Nat) (post : Int32 → PT → Prop) (h : w_L_asks x0 x1 x2 x3 x4 x5 x6 x7 S mc ms post) : Mi l yL_asks (Wh yL_asks method_4_code 9 (Option.some Jvm.ClassFile.FieldType.int) [((0 : Nat), (28 : Nat), (29 : Nat), (118 : Nat)), ((0 : Nat), (28 : Nat), (34 : Nat), (121 : Nat)), ((0 : Nat), (28 : Nat), (39 : Nat), (124 : Nat))]) 7 120 D cy [va_rf x0, Value.int x1, Value.int x2, Value.int x3, Value.int x4, Value.int x5, Value.int x6, Value.int x7] S mc ms post := by
  refine Mih_of (own := "TrenchboardLaw") (by decide) rfl (by first | decide | simp [lg_sl, va_cat, vi_cat, vl_cat]) (fun p e s m below meth c A C hZ hr hT => ?_)
  refine G_lv C (lv' := [(0, va_rf x0), (1, Value.int x1), (2, Value.int x2), (3, Value.int x3), (4, Value.int x4), (5, Value.int x5), (6, Value.int x6), (7, Value.int x7)]) [0, 1, 2, 3, 4, 5, 6, 7] (by first | rfl | simp [lv_pick, lv_args, va_cat, vi_cat, vl_cat]) ?_
  unfold w_L_asks at h
  refine G_aload_n C (x := x0) 0 dL_asks_0 rfl rfl ?_
  refine G_iload_n C (x := x1) 1 dL_asks_1 rfl rfl ?_
  refine G_iload_n C (x := x2) 2 dL_asks_2 rfl rfl ?_
  refine G_iload_n C (x := x3) 3 dL_asks_3 rfl rfl ?_
  refine G_iload C (x := x4) 4 dL_asks_4 rfl ?_
  refine G_bipush C (v := 10) dL_asks_6 (by decide) ?_
  refine G_bipush C (v := 7) dL_asks_8 (by decide) ?_
  refine G_iload_n C (x := x3) 3 dL_asks_10 rfl rfl ?_
  refine G_imul C dL_asks_11 ?_
  refine G_iadd C dL_asks_12 ?_
  refine G_bipush C (v := 11) dL_asks_13 (by decide) ?_
  refine G_iload C (x := x4) 4 dL_asks_15 rfl ?_
  refine G_imul C dL_asks_17 ?_
  refine G_iadd C dL_asks_18 ?_
  refine G_iload C (x := x5) 5 dL_asks_19 rfl ?_
  refine G_iload C (x := x6) 6 dL_asks_21 rfl ?_
  refine G_iload C (x := x7) 7 dL_asks_23 rfl ?_
  obtain ⟨S1, M2, hv3, hd4, h⟩ := h
  obtain ⟨a6, ha7, h⟩ := h
  obtain ⟨hk8, h⟩ := h
  obtain ⟨m11, m12, hc13, hs14, h⟩ := h
  refine G_fxcalli C hZ hv3 hd4 (Tf := TX8) (N := 10) hk8 (by decide) rfl tw_4_195 tw_4_196 tw_4_197 tw_1_1 tw_4_198 hy_X8_ask ⟨Nat.le_of_ble_eq_true rfl, Nat.le_of_ble_eq_true rfl⟩ (As := [Value.int x1, Value.int x2, Value.int x3, Value.int x4, Value.int ((10 + (7 * x3)) + (11 * x4)), Value.int x5, Value.int x6, Value.int x7]) (rest := []) (c_X8_ask l hl  D cy a6 x1 x2 x3 x4 ((10 + (7 * x3)) + (11 * x4)) x5 x6 x7 S1 m11 m12 _ _ h) rfl (by first | rfl | (simp only [ha7]; rfl) | simp only [ha7]) (by simp [va_cat, vi_cat, vl_cat]) dL_asks_25 ⟨hc13, hs14⟩ (fun E S9 hd5 h => ?_) (fun r10 S9 hd5 h => ?_)
  · replace h := h hd5; rcases h with ⟨rfl, h⟩ | ⟨rfl, h⟩ | ⟨rfl, h⟩
    · refine ⟨[], ⟨0, 28, 29, 118⟩, [⟨0, 28, 34, 121⟩, ⟨0, 28, 39, 124⟩], "java/lang/IndexOutOfBoundsException", hT, (by simp), by decide, by decide, im tw_2_38, by simp [NWn], fun q15 => ?_⟩
      refine G_astore C (i := 8) (lv' := [(8, va_rf (some q15)), (0, va_rf x0), (1, Value.int x1), (2, Value.int x2), (3, Value.int x3), (4, Value.int x4), (5, Value.int x5), (6, Value.int x6), (7, Value.int x7)]) dL_asks_29 (by decide) (by first | rfl | simp [va_cat, vi_cat, vl_cat]) ?_
      refine G_ldc C (v := (-1711000)) (im tw_4_174) dL_asks_31 ?_
      exact G_iret C (mc := mc) (ms := ms) (post := post) hr hc13 hs14 dL_asks_33 h
    · refine ⟨[⟨0, 28, 29, 118⟩], ⟨0, 28, 34, 121⟩, [⟨0, 28, 39, 124⟩], "java/lang/IllegalArgumentException", hT, (by
      intro z hz
      simp only [List.mem_cons, List.not_mem_nil, or_false] at hz
      rcases hz with rfl
      · exact ⟨by decide, "java/lang/IndexOutOfBoundsException", im tw_2_38, C.2.2.2.2.2.1.2.2.2 ("java/lang/IllegalArgumentException", "java/lang/IndexOutOfBoundsException") (by simp [NCs])⟩), by decide, by decide, im tw_2_39, by simp [NWn], fun q16 => ?_⟩
      refine G_astore C (i := 8) (lv' := [(8, va_rf (some q16)), (0, va_rf x0), (1, Value.int x1), (2, Value.int x2), (3, Value.int x3), (4, Value.int x4), (5, Value.int x5), (6, Value.int x6), (7, Value.int x7)]) dL_asks_34 (by decide) (by first | rfl | simp [va_cat, vi_cat, vl_cat]) ?_
      refine G_ldc C (v := (-1712000)) (im tw_4_175) dL_asks_36 ?_
      exact G_iret C (mc := mc) (ms := ms) (post := post) hr hc13 hs14 dL_asks_38 h
    · refine ⟨[⟨0, 28, 29, 118⟩, ⟨0, 28, 34, 121⟩], ⟨0, 28, 39, 124⟩, [], "java/lang/IllegalStateException", hT, (by
      intro z hz
      simp only [List.mem_cons, List.not_mem_nil, or_false] at hz
      rcases hz with rfl | rfl
      · exact ⟨by decide, "java/lang/IndexOutOfBoundsException", im tw_2_38, C.2.2.2.2.2.1.2.2.2 ("java/lang/IllegalStateException", "java/lang/IndexOutOfBoundsException") (by simp [NCs])⟩
      · exact ⟨by decide, "java/lang/IllegalArgumentException", im tw_2_39, C.2.2.2.2.2.1.2.2.2 ("java/lang/IllegalStateException", "java/lang/IllegalArgumentException") (by simp [NCs])⟩), by decide, by decide, im tw_2_40, by simp [NWn], fun q17 => ?_⟩
      refine G_astore C (i := 8) (lv' := [(8, va_rf (some q17)), (0, va_rf x0), (1, Value.int x1), (2, Value.int x2), (3, Value.int x3), (4, Value.int x4), (5, Value.int x5), (6, Value.int x6), (7, Value.int x7)]) dL_asks_39 (by decide) (by first | rfl | simp [va_cat, vi_cat, vl_cat]) ?_
      refine G_ldc C (v := (-1713000)) (im tw_4_176) dL_asks_41 ?_
      exact G_iret C (mc := mc) (ms := ms) (post := post) hr hc13 hs14 dL_asks_43 h
  · replace h := h hd5
    exact G_iret C (mc := mc) (ms := ms) (post := post) hr hc13 hs14 dL_asks_28 h
