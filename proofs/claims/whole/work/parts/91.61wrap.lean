set_option maxHeartbeats 4000000 in
set_option maxRecDepth 100000 in
theorem c_L_street (l : Launch) (hl : l.stackTraces = false) (D : va_G) (cy : Nat → Nat) (x0 : Option Nat) (x1 : Int32) (x2 : Int32) (x3 : Int32) (x4 : Int32) (x5 : Option Nat) (S : PT) (mc ms : Nat) (post : Int32 → PT → Prop) (h : w_L_street x0 x1 x2 x3 x4 x5 S mc ms post) : Mi l yL_street (Wh yL_street method_3_code 7 (Option.some Jvm.ClassFile.FieldType.int) [((0 : Nat), (14 : Nat), (17 : Nat), (13 : Nat)), ((0 : Nat), (14 : Nat), (21 : Nat), (15 : Nat)), ((0 : Nat), (14 : Nat), (25 : Nat), (17 : Nat))]) 7 115 D cy [va_rf x0, Value.int x1, Value.int x2, Value.int x3, Value.int x4, va_rf x5] S mc ms post := by
  refine Mih_of (own := "TrenchboardLaw") (by decide) rfl (by first | decide | simp [lg_sl, va_cat, vi_cat, vl_cat]) (fun p e s m below meth c A C hZ hr hT => ?_)
  refine G_lv C (lv' := [(0, va_rf x0), (1, Value.int x1), (2, Value.int x2), (3, Value.int x3), (4, Value.int x4), (5, va_rf x5)]) [0, 1, 2, 3, 4, 5] (by first | rfl | simp [lv_pick, lv_args, va_cat, vi_cat, vl_cat]) ?_
  unfold w_L_street at h
  refine G_aload C (x := x5) 5 dL_street_0 rfl ?_
  refine G_iconst C (v := 0) dL_street_2 (by decide) ?_
  refine G_aload_n C (x := x0) 0 dL_street_3 rfl rfl ?_
  refine G_iload_n C (x := x1) 1 dL_street_4 rfl rfl ?_
  refine G_iload_n C (x := x2) 2 dL_street_5 rfl rfl ?_
  refine G_iload_n C (x := x3) 3 dL_street_6 rfl rfl ?_
  refine G_iload C (x := x4) 4 dL_street_7 rfl ?_
  obtain ⟨a1, ha2, h⟩ := h
  obtain ⟨hk3, h⟩ := h
  obtain ⟨m6, m7, hc8, hs9, h⟩ := h
  refine G_xcalli C hZ (Tf := TX8) (N := 10) hk3 (by decide) rfl tw_1_137 tw_1_138 tw_1_139 tw_1_1 tw_1_140 hy_X8_street ⟨Nat.le_of_ble_eq_true rfl, Nat.le_of_ble_eq_true rfl⟩ (As := [Value.int x1, Value.int x2, Value.int x3, Value.int x4]) (rest := [Value.int 0, va_rf x5]) (c_X8_street l hl  D cy a1 x1 x2 x3 x4 S m6 m7 _ _ h) rfl (by first | rfl | (simp only [ha2]; rfl) | simp only [ha2]) (by simp [va_cat, vi_cat, vl_cat]) dL_street_9 ⟨hc8, hs9⟩ (fun E S4 h => ?_) (fun r5 S4 h => ?_)
  · rcases h with ⟨rfl, h⟩ | ⟨rfl, h⟩ | ⟨rfl, h⟩
    · refine ⟨[], ⟨0, 14, 17, 13⟩, [⟨0, 14, 21, 15⟩, ⟨0, 14, 25, 17⟩], "java/lang/IndexOutOfBoundsException", hT, (by simp), by decide, by decide, im tw_1_134, by simp [NWn], fun q10 => ?_⟩
      refine G_astore C (i := 6) (lv' := [(6, va_rf (some q10)), (0, va_rf x0), (1, Value.int x1), (2, Value.int x2), (3, Value.int x3), (4, Value.int x4), (5, va_rf x5)]) dL_street_17 (by decide) (by first | rfl | simp [va_cat, vi_cat, vl_cat]) ?_
      refine G_iconst C (v := 1) dL_street_19 (by decide) ?_
      exact G_iret C (mc := mc) (ms := ms) (post := post) hr hc8 hs9 dL_street_20 h
    · refine ⟨[⟨0, 14, 17, 13⟩], ⟨0, 14, 21, 15⟩, [⟨0, 14, 25, 17⟩], "java/lang/IllegalArgumentException", hT, (by
      intro z hz
      simp only [List.mem_cons, List.not_mem_nil, or_false] at hz
      rcases hz with rfl
      · exact ⟨by decide, "java/lang/IndexOutOfBoundsException", im tw_1_134, C.2.2.2.2.2.1.2.2.2 ("java/lang/IllegalArgumentException", "java/lang/IndexOutOfBoundsException") (by simp [NCs])⟩), by decide, by decide, im tw_1_135, by simp [NWn], fun q11 => ?_⟩
      refine G_astore C (i := 6) (lv' := [(6, va_rf (some q11)), (0, va_rf x0), (1, Value.int x1), (2, Value.int x2), (3, Value.int x3), (4, Value.int x4), (5, va_rf x5)]) dL_street_21 (by decide) (by first | rfl | simp [va_cat, vi_cat, vl_cat]) ?_
      refine G_iconst C (v := 2) dL_street_23 (by decide) ?_
      exact G_iret C (mc := mc) (ms := ms) (post := post) hr hc8 hs9 dL_street_24 h
    · refine ⟨[⟨0, 14, 17, 13⟩, ⟨0, 14, 21, 15⟩], ⟨0, 14, 25, 17⟩, [], "java/lang/IllegalStateException", hT, (by
      intro z hz
      simp only [List.mem_cons, List.not_mem_nil, or_false] at hz
      rcases hz with rfl | rfl
      · exact ⟨by decide, "java/lang/IndexOutOfBoundsException", im tw_1_134, C.2.2.2.2.2.1.2.2.2 ("java/lang/IllegalStateException", "java/lang/IndexOutOfBoundsException") (by simp [NCs])⟩
      · exact ⟨by decide, "java/lang/IllegalArgumentException", im tw_1_135, C.2.2.2.2.2.1.2.2.2 ("java/lang/IllegalStateException", "java/lang/IllegalArgumentException") (by simp [NCs])⟩), by decide, by decide, im tw_1_136, by simp [NWn], fun q12 => ?_⟩
      refine G_astore C (i := 6) (lv' := [(6, va_rf (some q12)), (0, va_rf x0), (1, Value.int x1), (2, Value.int x2), (3, Value.int x3), (4, Value.int x4), (5, va_rf x5)]) dL_street_25 (by decide) (by first | rfl | simp [va_cat, vi_cat, vl_cat]) ?_
      refine G_iconst C (v := 3) dL_street_27 (by decide) ?_
      exact G_iret C (mc := mc) (ms := ms) (post := post) hr hc8 hs9 dL_street_28 h
  · refine G_i2l C dL_street_12 ?_
    obtain ⟨a13, ha14, h⟩ := h
    refine G_rf2 ha14 ?_
    obtain ⟨hk15, h⟩ := h
    obtain ⟨hi16, h⟩ := h
    refine G_last C hk15 hi16 dL_street_13 ?_
    generalize e18 : sB S4 a13 ((0 : Int32).toNatClampNeg) r5.toInt64 = S17
    have h := h S17 e18.symm
    refine G_goto C (tgt := 29) dL_street_14 (by decide) ?_
    refine G_iconst C (v := 0) dL_street_29 (by decide) ?_
    exact G_iret C (mc := mc) (ms := ms) (post := post) hr hc8 hs9 dL_street_30 h
set_option maxHeartbeats 4000000 in
set_option maxRecDepth 100000 in
theorem c_L_surface (l : Launch) (hl : l.stackTraces = false) (D : va_G) (cy : Nat → Nat) (e0 m0 : Nat) (he : e0 = cy 9) (hm : m0 = cy 10) (x0 : Option Nat) (x1 : Int32) (x2 : Option Nat) (S : PT) (mc ms : Nat) (post : Int32 → PT → Prop) (h : w_L_surface e0 m0 x0 x1 x2 S mc ms post) : Mi l yL_surface (Wh yL_surface method_4_code 4 (Option.some Jvm.ClassFile.FieldType.int) [((0 : Nat), (9 : Nat), (12 : Nat), (13 : Nat)), ((0 : Nat), (9 : Nat), (15 : Nat), (17 : Nat))]) 9 214 D cy [va_rf x0, Value.int x1, va_rf x2] S mc ms post := by
  refine Mih_of (own := "TrenchboardLaw") (by decide) rfl (by first | decide | simp [lg_sl, va_cat, vi_cat, vl_cat]) (fun p e s m below meth c A C hZ hr hT => ?_)
  refine G_lv C (lv' := [(0, va_rf x0), (1, Value.int x1), (2, va_rf x2)]) [0, 1, 2] (by first | rfl | simp [lv_pick, lv_args, va_cat, vi_cat, vl_cat]) ?_
  unfold w_L_surface at h
  refine G_aload_n C (x := x2) 2 dL_surface_0 rfl rfl ?_
  refine G_iconst C (v := 0) dL_surface_1 (by decide) ?_
  refine G_aload_n C (x := x0) 0 dL_surface_2 rfl rfl ?_
  refine G_iload_n C (x := x1) 1 dL_surface_3 rfl rfl ?_
  obtain ⟨a1, ha2, h⟩ := h
  obtain ⟨hk3, h⟩ := h
  obtain ⟨m6, m7, hc8, hs9, h⟩ := h
  refine G_xcalli C hZ (Tf := TX8) (N := 10) hk3 (by decide) rfl tw_2_85 tw_2_86 tw_2_87 tw_1_1 tw_2_88 hy_X8_surface ⟨Nat.le_of_ble_eq_true rfl, Nat.le_of_ble_eq_true rfl⟩ (As := [Value.int x1]) (rest := [Value.int 0, va_rf x2]) (c_X8_surface l hl  D cy e0 m0 he hm a1 x1 S m6 m7 _ _ h) rfl (by first | rfl | (simp only [ha2]; rfl) | simp only [ha2]) (by simp [va_cat, vi_cat, vl_cat]) dL_surface_4 ⟨hc8, hs9⟩ (fun E S4 h => ?_) (fun r5 S4 h => ?_)
  · rcases h with ⟨rfl, h⟩ | ⟨rfl, h⟩
    · refine ⟨[], ⟨0, 9, 12, 13⟩, [⟨0, 9, 15, 17⟩], "java/lang/IndexOutOfBoundsException", hT, (by simp), by decide, by decide, im tw_1_134, by simp [NWn], fun q10 => ?_⟩
      refine G_astore_n C (i := 3) (lv' := [(3, va_rf (some q10)), (0, va_rf x0), (1, Value.int x1), (2, va_rf x2)]) dL_surface_12 rfl (by decide) (by first | rfl | simp [va_cat, vi_cat, vl_cat]) ?_
      refine G_iconst C (v := 1) dL_surface_13 (by decide) ?_
      exact G_iret C (mc := mc) (ms := ms) (post := post) hr hc8 hs9 dL_surface_14 h
    · refine ⟨[⟨0, 9, 12, 13⟩], ⟨0, 9, 15, 17⟩, [], "java/lang/IllegalStateException", hT, (by
      intro z hz
      simp only [List.mem_cons, List.not_mem_nil, or_false] at hz
      rcases hz with rfl
      · exact ⟨by decide, "java/lang/IndexOutOfBoundsException", im tw_1_134, C.2.2.2.2.2.1.2.2.2 ("java/lang/IllegalStateException", "java/lang/IndexOutOfBoundsException") (by simp [NCs])⟩), by decide, by decide, im tw_1_136, by simp [NWn], fun q11 => ?_⟩
      refine G_astore_n C (i := 3) (lv' := [(3, va_rf (some q11)), (0, va_rf x0), (1, Value.int x1), (2, va_rf x2)]) dL_surface_15 rfl (by decide) (by first | rfl | simp [va_cat, vi_cat, vl_cat]) ?_
      refine G_iconst C (v := 2) dL_surface_16 (by decide) ?_
      exact G_iret C (mc := mc) (ms := ms) (post := post) hr hc8 hs9 dL_surface_17 h
  · refine G_i2l C dL_surface_7 ?_
    obtain ⟨a12, ha13, h⟩ := h
    refine G_rf2 ha13 ?_
    obtain ⟨hk14, h⟩ := h
    obtain ⟨hi15, h⟩ := h
    refine G_last C hk14 hi15 dL_surface_8 ?_
    generalize e17 : sB S4 a12 ((0 : Int32).toNatClampNeg) r5.toInt64 = S16
    have h := h S16 e17.symm
    refine G_goto C (tgt := 18) dL_surface_9 (by decide) ?_
    refine G_iconst C (v := 0) dL_surface_18 (by decide) ?_
    exact G_iret C (mc := mc) (ms := ms) (post := post) hr hc8 hs9 dL_surface_19 h
set_option maxHeartbeats 4000000 in
set_option maxRecDepth 100000 in
theorem c_L_embargo (l : Launch) (hl : l.stackTraces = false) (D : va_G) (cy : Nat → Nat) (x0 : Option Nat) (x1 : Int32) (x2 : Int32) (x3 : Int32) (x4 : Option Nat) (S : PT) (mc ms : Nat) (post : Int32 → PT → Prop) (h : w_L_embargo x0 x1 x2 x3 x4 S mc ms post) : Mi l yL_embargo (Wh yL_embargo method_5_code 6 (Option.some Jvm.ClassFile.FieldType.int) [((0 : Nat), (12 : Nat), (15 : Nat), (13 : Nat)), ((0 : Nat), (12 : Nat), (19 : Nat), (15 : Nat))]) 7 117 D cy [va_rf x0, Value.int x1, Value.int x2, Value.int x3, va_rf x4] S mc ms post := by
  refine Mih_of (own := "TrenchboardLaw") (by decide) rfl (by first | decide | simp [lg_sl, va_cat, vi_cat, vl_cat]) (fun p e s m below meth c A C hZ hr hT => ?_)
  refine G_lv C (lv' := [(0, va_rf x0), (1, Value.int x1), (2, Value.int x2), (3, Value.int x3), (4, va_rf x4)]) [0, 1, 2, 3, 4] (by first | rfl | simp [lv_pick, lv_args, va_cat, vi_cat, vl_cat]) ?_
  unfold w_L_embargo at h
  refine G_aload C (x := x4) 4 dL_embargo_0 rfl ?_
  refine G_iconst C (v := 0) dL_embargo_2 (by decide) ?_
  refine G_aload_n C (x := x0) 0 dL_embargo_3 rfl rfl ?_
  refine G_iload_n C (x := x1) 1 dL_embargo_4 rfl rfl ?_
  refine G_iload_n C (x := x2) 2 dL_embargo_5 rfl rfl ?_
  refine G_iload_n C (x := x3) 3 dL_embargo_6 rfl rfl ?_
  obtain ⟨a1, ha2, h⟩ := h
  obtain ⟨hk3, h⟩ := h
  obtain ⟨m6, m7, hc8, hs9, h⟩ := h
  refine G_xcalli C hZ (Tf := TX8) (N := 10) hk3 (by decide) rfl tw_2_190 tw_2_191 tw_2_192 tw_1_1 tw_2_193 hy_X8_embargo ⟨Nat.le_of_ble_eq_true rfl, Nat.le_of_ble_eq_true rfl⟩ (As := [Value.int x1, Value.int x2, Value.int x3]) (rest := [Value.int 0, va_rf x4]) (c_X8_embargo l hl  D cy a1 x1 x2 x3 S m6 m7 _ _ h) rfl (by first | rfl | (simp only [ha2]; rfl) | simp only [ha2]) (by simp [va_cat, vi_cat, vl_cat]) dL_embargo_7 ⟨hc8, hs9⟩ (fun E S4 h => ?_) (fun r5 S4 h => ?_)
  · rcases h with ⟨rfl, h⟩ | ⟨rfl, h⟩
    · refine ⟨[], ⟨0, 12, 15, 13⟩, [⟨0, 12, 19, 15⟩], "java/lang/IndexOutOfBoundsException", hT, (by simp), by decide, by decide, im tw_1_134, by simp [NWn], fun q10 => ?_⟩
      refine G_astore C (i := 5) (lv' := [(5, va_rf (some q10)), (0, va_rf x0), (1, Value.int x1), (2, Value.int x2), (3, Value.int x3), (4, va_rf x4)]) dL_embargo_15 (by decide) (by first | rfl | simp [va_cat, vi_cat, vl_cat]) ?_
      refine G_iconst C (v := 1) dL_embargo_17 (by decide) ?_
      exact G_iret C (mc := mc) (ms := ms) (post := post) hr hc8 hs9 dL_embargo_18 h
    · refine ⟨[⟨0, 12, 15, 13⟩], ⟨0, 12, 19, 15⟩, [], "java/lang/IllegalArgumentException", hT, (by
      intro z hz
      simp only [List.mem_cons, List.not_mem_nil, or_false] at hz
      rcases hz with rfl
      · exact ⟨by decide, "java/lang/IndexOutOfBoundsException", im tw_1_134, C.2.2.2.2.2.1.2.2.2 ("java/lang/IllegalArgumentException", "java/lang/IndexOutOfBoundsException") (by simp [NCs])⟩), by decide, by decide, im tw_1_135, by simp [NWn], fun q11 => ?_⟩
      refine G_astore C (i := 5) (lv' := [(5, va_rf (some q11)), (0, va_rf x0), (1, Value.int x1), (2, Value.int x2), (3, Value.int x3), (4, va_rf x4)]) dL_embargo_19 (by decide) (by first | rfl | simp [va_cat, vi_cat, vl_cat]) ?_
      refine G_iconst C (v := 2) dL_embargo_21 (by decide) ?_
      exact G_iret C (mc := mc) (ms := ms) (post := post) hr hc8 hs9 dL_embargo_22 h
  · refine G_i2l C dL_embargo_10 ?_
    obtain ⟨a12, ha13, h⟩ := h
    refine G_rf2 ha13 ?_
    obtain ⟨hk14, h⟩ := h
    obtain ⟨hi15, h⟩ := h
    refine G_last C hk14 hi15 dL_embargo_11 ?_
    generalize e17 : sB S4 a12 ((0 : Int32).toNatClampNeg) r5.toInt64 = S16
    have h := h S16 e17.symm
    refine G_goto C (tgt := 23) dL_embargo_12 (by decide) ?_
    refine G_iconst C (v := 0) dL_embargo_23 (by decide) ?_
    exact G_iret C (mc := mc) (ms := ms) (post := post) hr hc8 hs9 dL_embargo_24 h
set_option maxHeartbeats 4000000 in
set_option maxRecDepth 100000 in
theorem c_L_thing (l : Launch) (hl : l.stackTraces = false) (D : va_G) (cy : Nat → Nat) (x0 : Option Nat) (x1 : Int32) (x2 : Int32) (x3 : Int32) (x4 : Int32) (x5 : Int32) (x6 : Option Nat) (S : PT) (mc ms : Nat) (post : Int32 → PT → Prop) (h : w_L_thing x0 x1 x2 x3 x4 x5 x6 S mc ms post) : Mi l yL_thing (Wh yL_thing method_6_code 8 (Option.some Jvm.ClassFile.FieldType.int) [((0 : Nat), (16 : Nat), (19 : Nat), (13 : Nat)), ((0 : Nat), (16 : Nat), (23 : Nat), (15 : Nat)), ((0 : Nat), (16 : Nat), (27 : Nat), (17 : Nat))]) 7 118 D cy [va_rf x0, Value.int x1, Value.int x2, Value.int x3, Value.int x4, Value.int x5, va_rf x6] S mc ms post := by
  refine Mih_of (own := "TrenchboardLaw") (by decide) rfl (by first | decide | simp [lg_sl, va_cat, vi_cat, vl_cat]) (fun p e s m below meth c A C hZ hr hT => ?_)
  refine G_lv C (lv' := [(0, va_rf x0), (1, Value.int x1), (2, Value.int x2), (3, Value.int x3), (4, Value.int x4), (5, Value.int x5), (6, va_rf x6)]) [0, 1, 2, 3, 4, 5, 6] (by first | rfl | simp [lv_pick, lv_args, va_cat, vi_cat, vl_cat]) ?_
  unfold w_L_thing at h
  refine G_aload C (x := x6) 6 dL_thing_0 rfl ?_
  refine G_iconst C (v := 0) dL_thing_2 (by decide) ?_
  refine G_aload_n C (x := x0) 0 dL_thing_3 rfl rfl ?_
  refine G_iload_n C (x := x1) 1 dL_thing_4 rfl rfl ?_
  refine G_iload_n C (x := x2) 2 dL_thing_5 rfl rfl ?_
  refine G_iload_n C (x := x3) 3 dL_thing_6 rfl rfl ?_
  refine G_iload C (x := x4) 4 dL_thing_7 rfl ?_
  refine G_iload C (x := x5) 5 dL_thing_9 rfl ?_
  obtain ⟨a1, ha2, h⟩ := h
  obtain ⟨hk3, h⟩ := h
  obtain ⟨m6, m7, hc8, hs9, h⟩ := h
  refine G_xcalli C hZ (Tf := TX8) (N := 10) hk3 (by decide) rfl tw_2_205 tw_2_206 tw_2_207 tw_1_1 tw_2_208 hy_X8_thing ⟨Nat.le_of_ble_eq_true rfl, Nat.le_of_ble_eq_true rfl⟩ (As := [Value.int x1, Value.int x2, Value.int x3, Value.int x4, Value.int x5]) (rest := [Value.int 0, va_rf x6]) (c_X8_thing l hl  D cy a1 x1 x2 x3 x4 x5 S m6 m7 _ _ h) rfl (by first | rfl | (simp only [ha2]; rfl) | simp only [ha2]) (by simp [va_cat, vi_cat, vl_cat]) dL_thing_11 ⟨hc8, hs9⟩ (fun E S4 h => ?_) (fun r5 S4 h => ?_)
  · rcases h with ⟨rfl, h⟩ | ⟨rfl, h⟩ | ⟨rfl, h⟩
    · refine ⟨[], ⟨0, 16, 19, 13⟩, [⟨0, 16, 23, 15⟩, ⟨0, 16, 27, 17⟩], "java/lang/IndexOutOfBoundsException", hT, (by simp), by decide, by decide, im tw_1_134, by simp [NWn], fun q10 => ?_⟩
      refine G_astore C (i := 7) (lv' := [(7, va_rf (some q10)), (0, va_rf x0), (1, Value.int x1), (2, Value.int x2), (3, Value.int x3), (4, Value.int x4), (5, Value.int x5), (6, va_rf x6)]) dL_thing_19 (by decide) (by first | rfl | simp [va_cat, vi_cat, vl_cat]) ?_
      refine G_iconst C (v := 1) dL_thing_21 (by decide) ?_
      exact G_iret C (mc := mc) (ms := ms) (post := post) hr hc8 hs9 dL_thing_22 h
    · refine ⟨[⟨0, 16, 19, 13⟩], ⟨0, 16, 23, 15⟩, [⟨0, 16, 27, 17⟩], "java/lang/IllegalArgumentException", hT, (by
      intro z hz
      simp only [List.mem_cons, List.not_mem_nil, or_false] at hz
      rcases hz with rfl
      · exact ⟨by decide, "java/lang/IndexOutOfBoundsException", im tw_1_134, C.2.2.2.2.2.1.2.2.2 ("java/lang/IllegalArgumentException", "java/lang/IndexOutOfBoundsException") (by simp [NCs])⟩), by decide, by decide, im tw_1_135, by simp [NWn], fun q11 => ?_⟩
      refine G_astore C (i := 7) (lv' := [(7, va_rf (some q11)), (0, va_rf x0), (1, Value.int x1), (2, Value.int x2), (3, Value.int x3), (4, Value.int x4), (5, Value.int x5), (6, va_rf x6)]) dL_thing_23 (by decide) (by first | rfl | simp [va_cat, vi_cat, vl_cat]) ?_
      refine G_iconst C (v := 2) dL_thing_25 (by decide) ?_
      exact G_iret C (mc := mc) (ms := ms) (post := post) hr hc8 hs9 dL_thing_26 h
    · refine ⟨[⟨0, 16, 19, 13⟩, ⟨0, 16, 23, 15⟩], ⟨0, 16, 27, 17⟩, [], "java/lang/IllegalStateException", hT, (by
      intro z hz
      simp only [List.mem_cons, List.not_mem_nil, or_false] at hz
      rcases hz with rfl | rfl
      · exact ⟨by decide, "java/lang/IndexOutOfBoundsException", im tw_1_134, C.2.2.2.2.2.1.2.2.2 ("java/lang/IllegalStateException", "java/lang/IndexOutOfBoundsException") (by simp [NCs])⟩
      · exact ⟨by decide, "java/lang/IllegalArgumentException", im tw_1_135, C.2.2.2.2.2.1.2.2.2 ("java/lang/IllegalStateException", "java/lang/IllegalArgumentException") (by simp [NCs])⟩), by decide, by decide, im tw_1_136, by simp [NWn], fun q12 => ?_⟩
      refine G_astore C (i := 7) (lv' := [(7, va_rf (some q12)), (0, va_rf x0), (1, Value.int x1), (2, Value.int x2), (3, Value.int x3), (4, Value.int x4), (5, Value.int x5), (6, va_rf x6)]) dL_thing_27 (by decide) (by first | rfl | simp [va_cat, vi_cat, vl_cat]) ?_
      refine G_iconst C (v := 3) dL_thing_29 (by decide) ?_
      exact G_iret C (mc := mc) (ms := ms) (post := post) hr hc8 hs9 dL_thing_30 h
  · refine G_i2l C dL_thing_14 ?_
    obtain ⟨a13, ha14, h⟩ := h
    refine G_rf2 ha14 ?_
    obtain ⟨hk15, h⟩ := h
    obtain ⟨hi16, h⟩ := h
    refine G_last C hk15 hi16 dL_thing_15 ?_
    generalize e18 : sB S4 a13 ((0 : Int32).toNatClampNeg) r5.toInt64 = S17
    have h := h S17 e18.symm
    refine G_goto C (tgt := 31) dL_thing_16 (by decide) ?_
    refine G_iconst C (v := 0) dL_thing_31 (by decide) ?_
    exact G_iret C (mc := mc) (ms := ms) (post := post) hr hc8 hs9 dL_thing_32 h
set_option maxHeartbeats 4000000 in
set_option maxRecDepth 100000 in
theorem c_L_record (l : Launch) (hl : l.stackTraces = false) (D : va_G) (cy : Nat → Nat) (x0 : Option Nat) (x1 : Int32) (x2 : Int32) (x3 : Int32) (x4 : Int32) (x5 : Option Nat) (S : PT) (mc ms : Nat) (post : Int32 → PT → Prop) (h : w_L_record x0 x1 x2 x3 x4 x5 S mc ms post) : Mi l yL_record (Wh yL_record method_7_code 7 (Option.some Jvm.ClassFile.FieldType.int) [((0 : Nat), (14 : Nat), (17 : Nat), (13 : Nat)), ((0 : Nat), (14 : Nat), (21 : Nat), (15 : Nat))]) 7 115 D cy [va_rf x0, Value.int x1, Value.int x2, Value.int x3, Value.int x4, va_rf x5] S mc ms post := by
  refine Mih_of (own := "TrenchboardLaw") (by decide) rfl (by first | decide | simp [lg_sl, va_cat, vi_cat, vl_cat]) (fun p e s m below meth c A C hZ hr hT => ?_)
  refine G_lv C (lv' := [(0, va_rf x0), (1, Value.int x1), (2, Value.int x2), (3, Value.int x3), (4, Value.int x4), (5, va_rf x5)]) [0, 1, 2, 3, 4, 5] (by first | rfl | simp [lv_pick, lv_args, va_cat, vi_cat, vl_cat]) ?_
  unfold w_L_record at h
  refine G_aload C (x := x5) 5 dL_record_0 rfl ?_
  refine G_iconst C (v := 0) dL_record_2 (by decide) ?_
  refine G_aload_n C (x := x0) 0 dL_record_3 rfl rfl ?_
  refine G_iload_n C (x := x1) 1 dL_record_4 rfl rfl ?_
  refine G_iload_n C (x := x2) 2 dL_record_5 rfl rfl ?_
  refine G_iload_n C (x := x3) 3 dL_record_6 rfl rfl ?_
  refine G_iload C (x := x4) 4 dL_record_7 rfl ?_
  obtain ⟨a1, ha2, h⟩ := h
  obtain ⟨hk3, h⟩ := h
  obtain ⟨m6, m7, hc8, hs9, h⟩ := h
  refine G_xcalli C hZ (Tf := TX8) (N := 10) hk3 (by decide) rfl tw_3_20 tw_3_21 tw_3_22 tw_1_1 tw_3_23 hy_X8_record ⟨Nat.le_of_ble_eq_true rfl, Nat.le_of_ble_eq_true rfl⟩ (As := [Value.int x1, Value.int x2, Value.int x3, Value.int x4]) (rest := [Value.int 0, va_rf x5]) (c_X8_record l hl  D cy a1 x1 x2 x3 x4 S m6 m7 _ _ h) rfl (by first | rfl | (simp only [ha2]; rfl) | simp only [ha2]) (by simp [va_cat, vi_cat, vl_cat]) dL_record_9 ⟨hc8, hs9⟩ (fun E S4 h => ?_) (fun r5 S4 h => ?_)
  · rcases h with ⟨rfl, h⟩ | ⟨rfl, h⟩
    · refine ⟨[], ⟨0, 14, 17, 13⟩, [⟨0, 14, 21, 15⟩], "java/lang/IndexOutOfBoundsException", hT, (by simp), by decide, by decide, im tw_1_134, by simp [NWn], fun q10 => ?_⟩
      refine G_astore C (i := 6) (lv' := [(6, va_rf (some q10)), (0, va_rf x0), (1, Value.int x1), (2, Value.int x2), (3, Value.int x3), (4, Value.int x4), (5, va_rf x5)]) dL_record_17 (by decide) (by first | rfl | simp [va_cat, vi_cat, vl_cat]) ?_
      refine G_iconst C (v := 1) dL_record_19 (by decide) ?_
      exact G_iret C (mc := mc) (ms := ms) (post := post) hr hc8 hs9 dL_record_20 h
    · refine ⟨[⟨0, 14, 17, 13⟩], ⟨0, 14, 21, 15⟩, [], "java/lang/IllegalArgumentException", hT, (by
      intro z hz
      simp only [List.mem_cons, List.not_mem_nil, or_false] at hz
      rcases hz with rfl
      · exact ⟨by decide, "java/lang/IndexOutOfBoundsException", im tw_1_134, C.2.2.2.2.2.1.2.2.2 ("java/lang/IllegalArgumentException", "java/lang/IndexOutOfBoundsException") (by simp [NCs])⟩), by decide, by decide, im tw_1_135, by simp [NWn], fun q11 => ?_⟩
      refine G_astore C (i := 6) (lv' := [(6, va_rf (some q11)), (0, va_rf x0), (1, Value.int x1), (2, Value.int x2), (3, Value.int x3), (4, Value.int x4), (5, va_rf x5)]) dL_record_21 (by decide) (by first | rfl | simp [va_cat, vi_cat, vl_cat]) ?_
      refine G_iconst C (v := 2) dL_record_23 (by decide) ?_
      exact G_iret C (mc := mc) (ms := ms) (post := post) hr hc8 hs9 dL_record_24 h
  · refine G_i2l C dL_record_12 ?_
    obtain ⟨a12, ha13, h⟩ := h
    refine G_rf2 ha13 ?_
    obtain ⟨hk14, h⟩ := h
    obtain ⟨hi15, h⟩ := h
    refine G_last C hk14 hi15 dL_record_13 ?_
    generalize e17 : sB S4 a12 ((0 : Int32).toNatClampNeg) r5.toInt64 = S16
    have h := h S16 e17.symm
    refine G_goto C (tgt := 25) dL_record_14 (by decide) ?_
    refine G_iconst C (v := 0) dL_record_25 (by decide) ?_
    exact G_iret C (mc := mc) (ms := ms) (post := post) hr hc8 hs9 dL_record_26 h
set_option maxHeartbeats 4000000 in
set_option maxRecDepth 100000 in
theorem c_L_lose (l : Launch) (hl : l.stackTraces = false) (D : va_G) (cy : Nat → Nat) (x0 : Option Nat) (x1 : Int32) (x2 : Option Nat) (S : PT) (mc ms : Nat) (post : Int32 → PT → Prop) (h : w_L_lose x0 x1 x2 S mc ms post) : Mi l yL_lose (Wh yL_lose method_8_code 4 (Option.some Jvm.ClassFile.FieldType.int) [((0 : Nat), (16 : Nat), (19 : Nat), (13 : Nat))]) 7 113 D cy [va_rf x0, Value.int x1, va_rf x2] S mc ms post := by
  refine Mih_of (own := "TrenchboardLaw") (by decide) rfl (by first | decide | simp [lg_sl, va_cat, vi_cat, vl_cat]) (fun p e s m below meth c A C hZ hr hT => ?_)
  have J15 : ∀ (c0 n0 : Nat) (S : PT) (s0 : Option Nat) (s1 : Int32) (s2 : Int64), w_L_lose_b15 x0 x1 x2 mc ms post c0 n0 S s0 s1 s2 → G p l e { frames := 7, cells := mc, slots := ms, locals := 113 } s m [va_rf x0, Value.int x1, va_rf x2].toArray below meth c D cy A s.heap 4 (QMi below D cy A [va_rf x0, Value.int x1, va_rf x2] s mc ms post) S c0 n0 15 [] [Value.long s2, Value.int s1, va_rf s0] := by
    intro c0 n0 S s0 s1 s2 h
    unfold w_L_lose_b15 at h
    obtain ⟨hc00, hn00, h⟩ := h
    obtain ⟨a1, ha2, h⟩ := h
    refine G_rf2 ha2 ?_
    obtain ⟨hk3, h⟩ := h
    obtain ⟨hi4, h⟩ := h
    refine G_last C hk3 hi4 dL_lose_15 ?_
    generalize e6 : sB S a1 ((s1).toNatClampNeg) s2 = S5
    have h := h S5 e6.symm
    refine G_goto C (tgt := 22) dL_lose_16 (by decide) ?_
    refine G_iconst C (v := 0) dL_lose_22 (by decide) ?_
    exact G_iret C (mc := mc) (ms := ms) (post := post) hr hc00 hn00 dL_lose_23 h
  refine G_lv C (lv' := [(0, va_rf x0), (1, Value.int x1), (2, va_rf x2)]) [0, 1, 2] (by first | rfl | simp [lv_pick, lv_args, va_cat, vi_cat, vl_cat]) ?_
  unfold w_L_lose at h
  refine G_aload_n C (x := x2) 2 dL_lose_0 rfl rfl ?_
  refine G_iconst C (v := 0) dL_lose_1 (by decide) ?_
  refine G_aload_n C (x := x0) 0 dL_lose_2 rfl rfl ?_
  refine G_iload_n C (x := x1) 1 dL_lose_3 rfl rfl ?_
  obtain ⟨a7, ha8, h⟩ := h
  obtain ⟨hk9, h⟩ := h
  obtain ⟨m12, m13, hc14, hs15, h⟩ := h
  refine G_xcalli C hZ (Tf := TX8) (N := 10) hk9 (by decide) rfl tw_3_43 tw_3_44 tw_3_45 tw_1_1 tw_3_46 hy_X8_lose ⟨Nat.le_of_ble_eq_true rfl, Nat.le_of_ble_eq_true rfl⟩ (As := [Value.int x1]) (rest := [Value.int 0, va_rf x2]) (c_X8_lose l hl  D cy a7 x1 S m12 m13 _ _ h) rfl (by first | rfl | (simp only [ha8]; rfl) | simp only [ha8]) (by simp [va_cat, vi_cat, vl_cat]) dL_lose_4 ⟨hc14, hs15⟩ (fun E S10 h => ?_) (fun r11 S10 h => ?_)
  · rcases h with ⟨rfl, h⟩
    · refine ⟨[], ⟨0, 16, 19, 13⟩, [], "java/lang/IndexOutOfBoundsException", hT, (by simp), by decide, by decide, im tw_1_134, by simp [NWn], fun q16 => ?_⟩
      refine G_astore_n C (i := 3) (lv' := [(3, va_rf (some q16)), (0, va_rf x0), (1, Value.int x1), (2, va_rf x2)]) dL_lose_19 rfl (by decide) (by first | rfl | simp [va_cat, vi_cat, vl_cat]) ?_
      refine G_iconst C (v := 1) dL_lose_20 (by decide) ?_
      exact G_iret C (mc := mc) (ms := ms) (post := post) hr hc14 hs15 dL_lose_21 h
  obtain ⟨hb17, h⟩ := h
  · refine G_if_eq C (tgt := 14) dL_lose_7 (by decide) (fun hc => ?_) (fun hc => ?_)
    · have h := h.1 hc
      refine G_lconst C (v := 0) dL_lose_14 (by decide) ?_
      refine G_lv C (lv' := []) [] rfl ?_
      exact J15 _ _ _ _ _ _ h
    · have h := h.2 hc
      refine G_lconst C (v := 1) dL_lose_10 (by decide) ?_
      refine G_goto C (tgt := 15) dL_lose_11 (by decide) ?_
      refine G_lv C (lv' := []) [] rfl ?_
      exact J15 _ _ _ _ _ _ h
set_option maxHeartbeats 4000000 in
set_option maxRecDepth 100000 in
theorem c_L_survey (l : Launch) (hl : l.stackTraces = false) (D : va_G) (cy : Nat → Nat) (x0 : Option Nat) (x1 : Int32) (x2 : Option Nat) (S : PT) (mc ms : Nat) (post : Int32 → PT → Prop) (h : w_L_survey x0 x1 x2 S mc ms post) : Mi l yL_survey (Wh yL_survey method_9_code 4 (Option.some Jvm.ClassFile.FieldType.int) [((0 : Nat), (9 : Nat), (12 : Nat), (13 : Nat)), ((0 : Nat), (9 : Nat), (15 : Nat), (17 : Nat))]) 7 113 D cy [va_rf x0, Value.int x1, va_rf x2] S mc ms post := by
  refine Mih_of (own := "TrenchboardLaw") (by decide) rfl (by first | decide | simp [lg_sl, va_cat, vi_cat, vl_cat]) (fun p e s m below meth c A C hZ hr hT => ?_)
  refine G_lv C (lv' := [(0, va_rf x0), (1, Value.int x1), (2, va_rf x2)]) [0, 1, 2] (by first | rfl | simp [lv_pick, lv_args, va_cat, vi_cat, vl_cat]) ?_
  unfold w_L_survey at h
  refine G_aload_n C (x := x2) 2 dL_survey_0 rfl rfl ?_
  refine G_iconst C (v := 0) dL_survey_1 (by decide) ?_
  refine G_aload_n C (x := x0) 0 dL_survey_2 rfl rfl ?_
  refine G_iload_n C (x := x1) 1 dL_survey_3 rfl rfl ?_
  obtain ⟨a1, ha2, h⟩ := h
  obtain ⟨hk3, h⟩ := h
  obtain ⟨m6, m7, hc8, hs9, h⟩ := h
  refine G_xcalli C hZ (Tf := TX8) (N := 10) hk3 (by decide) rfl tw_3_51 tw_3_52 tw_3_53 tw_1_1 tw_3_54 hy_X8_survey ⟨Nat.le_of_ble_eq_true rfl, Nat.le_of_ble_eq_true rfl⟩ (As := [Value.int x1]) (rest := [Value.int 0, va_rf x2]) (c_X8_survey l hl  D cy a1 x1 S m6 m7 _ _ h) rfl (by first | rfl | (simp only [ha2]; rfl) | simp only [ha2]) (by simp [va_cat, vi_cat, vl_cat]) dL_survey_4 ⟨hc8, hs9⟩ (fun E S4 h => ?_) (fun r5 S4 h => ?_)
  · rcases h with ⟨rfl, h⟩ | ⟨rfl, h⟩
    · refine ⟨[], ⟨0, 9, 12, 13⟩, [⟨0, 9, 15, 17⟩], "java/lang/IndexOutOfBoundsException", hT, (by simp), by decide, by decide, im tw_1_134, by simp [NWn], fun q10 => ?_⟩
      refine G_astore_n C (i := 3) (lv' := [(3, va_rf (some q10)), (0, va_rf x0), (1, Value.int x1), (2, va_rf x2)]) dL_survey_12 rfl (by decide) (by first | rfl | simp [va_cat, vi_cat, vl_cat]) ?_
      refine G_iconst C (v := 1) dL_survey_13 (by decide) ?_
      exact G_iret C (mc := mc) (ms := ms) (post := post) hr hc8 hs9 dL_survey_14 h
    · refine ⟨[⟨0, 9, 12, 13⟩], ⟨0, 9, 15, 17⟩, [], "java/lang/IllegalStateException", hT, (by
      intro z hz
      simp only [List.mem_cons, List.not_mem_nil, or_false] at hz
      rcases hz with rfl
      · exact ⟨by decide, "java/lang/IndexOutOfBoundsException", im tw_1_134, C.2.2.2.2.2.1.2.2.2 ("java/lang/IllegalStateException", "java/lang/IndexOutOfBoundsException") (by simp [NCs])⟩), by decide, by decide, im tw_1_136, by simp [NWn], fun q11 => ?_⟩
      refine G_astore_n C (i := 3) (lv' := [(3, va_rf (some q11)), (0, va_rf x0), (1, Value.int x1), (2, va_rf x2)]) dL_survey_15 rfl (by decide) (by first | rfl | simp [va_cat, vi_cat, vl_cat]) ?_
      refine G_iconst C (v := 2) dL_survey_16 (by decide) ?_
      exact G_iret C (mc := mc) (ms := ms) (post := post) hr hc8 hs9 dL_survey_17 h
  · refine G_i2l C dL_survey_7 ?_
    obtain ⟨a12, ha13, h⟩ := h
    refine G_rf2 ha13 ?_
    obtain ⟨hk14, h⟩ := h
    obtain ⟨hi15, h⟩ := h
    refine G_last C hk14 hi15 dL_survey_8 ?_
    generalize e17 : sB S4 a12 ((0 : Int32).toNatClampNeg) r5.toInt64 = S16
    have h := h S16 e17.symm
    refine G_goto C (tgt := 18) dL_survey_9 (by decide) ?_
    refine G_iconst C (v := 0) dL_survey_18 (by decide) ?_
    exact G_iret C (mc := mc) (ms := ms) (post := post) hr hc8 hs9 dL_survey_19 h
set_option maxHeartbeats 4000000 in
set_option maxRecDepth 100000 in
theorem c_L_trial (l : Launch) (hl : l.stackTraces = false) (D : va_G) (cy : Nat → Nat) (x0 : Option Nat) (x1 : Int32) (x2 : Int32) (x3 : Option Nat) (S : PT) (mc ms : Nat) (post : Int32 → PT → Prop) (h : w_L_trial x0 x1 x2 x3 S mc ms post) : Mi l yL_trial (Wh yL_trial method_10_code 5 (Option.some Jvm.ClassFile.FieldType.int) [((0 : Nat), (10 : Nat), (13 : Nat), (13 : Nat))]) 7 117 D cy [va_rf x0, Value.int x1, Value.int x2, va_rf x3] S mc ms post := by
  refine Mih_of (own := "TrenchboardLaw") (by decide) rfl (by first | decide | simp [lg_sl, va_cat, vi_cat, vl_cat]) (fun p e s m below meth c A C hZ hr hT => ?_)
  refine G_lv C (lv' := [(0, va_rf x0), (1, Value.int x1), (2, Value.int x2), (3, va_rf x3)]) [0, 1, 2, 3] (by first | rfl | simp [lv_pick, lv_args, va_cat, vi_cat, vl_cat]) ?_
  unfold w_L_trial at h
  refine G_aload_n C (x := x3) 3 dL_trial_0 rfl rfl ?_
  refine G_iconst C (v := 0) dL_trial_1 (by decide) ?_
  refine G_aload_n C (x := x0) 0 dL_trial_2 rfl rfl ?_
  refine G_iload_n C (x := x1) 1 dL_trial_3 rfl rfl ?_
  refine G_iload_n C (x := x2) 2 dL_trial_4 rfl rfl ?_
  obtain ⟨a1, ha2, h⟩ := h
  obtain ⟨hk3, h⟩ := h
  obtain ⟨m6, m7, hc8, hs9, h⟩ := h
  refine G_xcalli C hZ (Tf := TX8) (N := 10) hk3 (by decide) rfl tw_3_64 tw_3_65 tw_3_66 tw_1_1 tw_3_67 hy_X8_trial ⟨Nat.le_of_ble_eq_true rfl, Nat.le_of_ble_eq_true rfl⟩ (As := [Value.int x1, Value.int x2]) (rest := [Value.int 0, va_rf x3]) (c_X8_trial l hl  D cy a1 x1 x2 S m6 m7 _ _ h) rfl (by first | rfl | (simp only [ha2]; rfl) | simp only [ha2]) (by simp [va_cat, vi_cat, vl_cat]) dL_trial_5 ⟨hc8, hs9⟩ (fun E S4 h => ?_) (fun r5 S4 h => ?_)
  · rcases h with ⟨rfl, h⟩
    · refine ⟨[], ⟨0, 10, 13, 13⟩, [], "java/lang/IndexOutOfBoundsException", hT, (by simp), by decide, by decide, im tw_1_134, by simp [NWn], fun q10 => ?_⟩
      refine G_astore C (i := 4) (lv' := [(4, va_rf (some q10)), (0, va_rf x0), (1, Value.int x1), (2, Value.int x2), (3, va_rf x3)]) dL_trial_13 (by decide) (by first | rfl | simp [va_cat, vi_cat, vl_cat]) ?_
      refine G_iconst C (v := 1) dL_trial_15 (by decide) ?_
      exact G_iret C (mc := mc) (ms := ms) (post := post) hr hc8 hs9 dL_trial_16 h
  · refine G_i2l C dL_trial_8 ?_
    obtain ⟨a11, ha12, h⟩ := h
    refine G_rf2 ha12 ?_
    obtain ⟨hk13, h⟩ := h
    obtain ⟨hi14, h⟩ := h
    refine G_last C hk13 hi14 dL_trial_9 ?_
    generalize e16 : sB S4 a11 ((0 : Int32).toNatClampNeg) r5.toInt64 = S15
    have h := h S15 e16.symm
    refine G_goto C (tgt := 17) dL_trial_10 (by decide) ?_
    refine G_iconst C (v := 0) dL_trial_17 (by decide) ?_
    exact G_iret C (mc := mc) (ms := ms) (post := post) hr hc8 hs9 dL_trial_18 h
set_option maxHeartbeats 4000000 in
set_option maxRecDepth 100000 in
theorem c_L_ask (l : Launch) (hl : l.stackTraces = false) (D : va_G) (cy : Nat → Nat) (x0 : Option Nat) (x1 : Int32) (x2 : Int32) (x3 : Int32) (x4 : Int32) (x5 : Int32) (x6 : Int32) (x7 : Int32) (x8 : Int32) (x9 : Option Nat) (S : PT) (mc ms : Nat) (post : Int32 → PT → Prop) (h : w_L_ask x0 x1 x2 x3 x4 x5 x6 x7 x8 x9 S mc ms post) : Mi l yL_ask (Wh yL_ask method_11_code 11 (Option.some Jvm.ClassFile.FieldType.int) [((0 : Nat), (22 : Nat), (25 : Nat), (13 : Nat)), ((0 : Nat), (22 : Nat), (29 : Nat), (15 : Nat)), ((0 : Nat), (22 : Nat), (33 : Nat), (17 : Nat))]) 7 120 D cy [va_rf x0, Value.int x1, Value.int x2, Value.int x3, Value.int x4, Value.int x5, Value.int x6, Value.int x7, Value.int x8, va_rf x9] S mc ms post := by
  refine Mih_of (own := "TrenchboardLaw") (by decide) rfl (by first | decide | simp [lg_sl, va_cat, vi_cat, vl_cat]) (fun p e s m below meth c A C hZ hr hT => ?_)
  refine G_lv C (lv' := [(0, va_rf x0), (1, Value.int x1), (2, Value.int x2), (3, Value.int x3), (4, Value.int x4), (5, Value.int x5), (6, Value.int x6), (7, Value.int x7), (8, Value.int x8), (9, va_rf x9)]) [0, 1, 2, 3, 4, 5, 6, 7, 8, 9] (by first | rfl | simp [lv_pick, lv_args, va_cat, vi_cat, vl_cat]) ?_
  unfold w_L_ask at h
  refine G_aload C (x := x9) 9 dL_ask_0 rfl ?_
  refine G_iconst C (v := 0) dL_ask_2 (by decide) ?_
  refine G_aload_n C (x := x0) 0 dL_ask_3 rfl rfl ?_
  refine G_iload_n C (x := x1) 1 dL_ask_4 rfl rfl ?_
  refine G_iload_n C (x := x2) 2 dL_ask_5 rfl rfl ?_
  refine G_iload_n C (x := x3) 3 dL_ask_6 rfl rfl ?_
  refine G_iload C (x := x4) 4 dL_ask_7 rfl ?_
  refine G_iload C (x := x5) 5 dL_ask_9 rfl ?_
  refine G_iload C (x := x6) 6 dL_ask_11 rfl ?_
  refine G_iload C (x := x7) 7 dL_ask_13 rfl ?_
  refine G_iload C (x := x8) 8 dL_ask_15 rfl ?_
  obtain ⟨a1, ha2, h⟩ := h
  obtain ⟨hk3, h⟩ := h
  obtain ⟨m6, m7, hc8, hs9, h⟩ := h
  refine G_xcalli C hZ (Tf := TX8) (N := 10) hk3 (by decide) rfl tw_3_76 tw_3_77 tw_3_78 tw_1_1 tw_3_79 hy_X8_ask ⟨Nat.le_of_ble_eq_true rfl, Nat.le_of_ble_eq_true rfl⟩ (As := [Value.int x1, Value.int x2, Value.int x3, Value.int x4, Value.int x5, Value.int x6, Value.int x7, Value.int x8]) (rest := [Value.int 0, va_rf x9]) (c_X8_ask l hl  D cy a1 x1 x2 x3 x4 x5 x6 x7 x8 S m6 m7 _ _ h) rfl (by first | rfl | (simp only [ha2]; rfl) | simp only [ha2]) (by simp [va_cat, vi_cat, vl_cat]) dL_ask_17 ⟨hc8, hs9⟩ (fun E S4 h => ?_) (fun r5 S4 h => ?_)
  · rcases h with ⟨rfl, h⟩ | ⟨rfl, h⟩ | ⟨rfl, h⟩
    · refine ⟨[], ⟨0, 22, 25, 13⟩, [⟨0, 22, 29, 15⟩, ⟨0, 22, 33, 17⟩], "java/lang/IndexOutOfBoundsException", hT, (by simp), by decide, by decide, im tw_1_134, by simp [NWn], fun q10 => ?_⟩
      refine G_astore C (i := 10) (lv' := [(10, va_rf (some q10)), (0, va_rf x0), (1, Value.int x1), (2, Value.int x2), (3, Value.int x3), (4, Value.int x4), (5, Value.int x5), (6, Value.int x6), (7, Value.int x7), (8, Value.int x8), (9, va_rf x9)]) dL_ask_25 (by decide) (by first | rfl | simp [va_cat, vi_cat, vl_cat]) ?_
      refine G_iconst C (v := 1) dL_ask_27 (by decide) ?_
      exact G_iret C (mc := mc) (ms := ms) (post := post) hr hc8 hs9 dL_ask_28 h
    · refine ⟨[⟨0, 22, 25, 13⟩], ⟨0, 22, 29, 15⟩, [⟨0, 22, 33, 17⟩], "java/lang/IllegalArgumentException", hT, (by
      intro z hz
      simp only [List.mem_cons, List.not_mem_nil, or_false] at hz
      rcases hz with rfl
      · exact ⟨by decide, "java/lang/IndexOutOfBoundsException", im tw_1_134, C.2.2.2.2.2.1.2.2.2 ("java/lang/IllegalArgumentException", "java/lang/IndexOutOfBoundsException") (by simp [NCs])⟩), by decide, by decide, im tw_1_135, by simp [NWn], fun q11 => ?_⟩
      refine G_astore C (i := 10) (lv' := [(10, va_rf (some q11)), (0, va_rf x0), (1, Value.int x1), (2, Value.int x2), (3, Value.int x3), (4, Value.int x4), (5, Value.int x5), (6, Value.int x6), (7, Value.int x7), (8, Value.int x8), (9, va_rf x9)]) dL_ask_29 (by decide) (by first | rfl | simp [va_cat, vi_cat, vl_cat]) ?_
      refine G_iconst C (v := 2) dL_ask_31 (by decide) ?_
      exact G_iret C (mc := mc) (ms := ms) (post := post) hr hc8 hs9 dL_ask_32 h
    · refine ⟨[⟨0, 22, 25, 13⟩, ⟨0, 22, 29, 15⟩], ⟨0, 22, 33, 17⟩, [], "java/lang/IllegalStateException", hT, (by
      intro z hz
      simp only [List.mem_cons, List.not_mem_nil, or_false] at hz
      rcases hz with rfl | rfl
      · exact ⟨by decide, "java/lang/IndexOutOfBoundsException", im tw_1_134, C.2.2.2.2.2.1.2.2.2 ("java/lang/IllegalStateException", "java/lang/IndexOutOfBoundsException") (by simp [NCs])⟩
      · exact ⟨by decide, "java/lang/IllegalArgumentException", im tw_1_135, C.2.2.2.2.2.1.2.2.2 ("java/lang/IllegalStateException", "java/lang/IllegalArgumentException") (by simp [NCs])⟩), by decide, by decide, im tw_1_136, by simp [NWn], fun q12 => ?_⟩
      refine G_astore C (i := 10) (lv' := [(10, va_rf (some q12)), (0, va_rf x0), (1, Value.int x1), (2, Value.int x2), (3, Value.int x3), (4, Value.int x4), (5, Value.int x5), (6, Value.int x6), (7, Value.int x7), (8, Value.int x8), (9, va_rf x9)]) dL_ask_33 (by decide) (by first | rfl | simp [va_cat, vi_cat, vl_cat]) ?_
      refine G_iconst C (v := 3) dL_ask_35 (by decide) ?_
      exact G_iret C (mc := mc) (ms := ms) (post := post) hr hc8 hs9 dL_ask_36 h
  · refine G_i2l C dL_ask_20 ?_
    obtain ⟨a13, ha14, h⟩ := h
    refine G_rf2 ha14 ?_
    obtain ⟨hk15, h⟩ := h
    obtain ⟨hi16, h⟩ := h
    refine G_last C hk15 hi16 dL_ask_21 ?_
    generalize e18 : sB S4 a13 ((0 : Int32).toNatClampNeg) r5.toInt64 = S17
    have h := h S17 e18.symm
    refine G_goto C (tgt := 37) dL_ask_22 (by decide) ?_
    refine G_iconst C (v := 0) dL_ask_37 (by decide) ?_
    exact G_iret C (mc := mc) (ms := ms) (post := post) hr hc8 hs9 dL_ask_38 h
set_option maxHeartbeats 4000000 in
set_option maxRecDepth 100000 in
theorem c_L_grant (l : Launch) (hl : l.stackTraces = false) (D : va_G) (cy : Nat → Nat) (x0 : Option Nat) (x1 : Int32) (x2 : Int32) (x3 : Option Nat) (S : PT) (mc ms : Nat) (post : Int32 → PT → Prop) (h : w_L_grant x0 x1 x2 x3 S mc ms post) : Mi l yL_grant (Wh yL_grant method_12_code 5 (Option.some Jvm.ClassFile.FieldType.int) [((0 : Nat), (10 : Nat), (13 : Nat), (13 : Nat)), ((0 : Nat), (10 : Nat), (17 : Nat), (15 : Nat)), ((0 : Nat), (10 : Nat), (21 : Nat), (17 : Nat))]) 7 155 D cy [va_rf x0, Value.int x1, Value.int x2, va_rf x3] S mc ms post := by
  refine Mih_of (own := "TrenchboardLaw") (by decide) rfl (by first | decide | simp [lg_sl, va_cat, vi_cat, vl_cat]) (fun p e s m below meth c A C hZ hr hT => ?_)
  refine G_lv C (lv' := [(0, va_rf x0), (1, Value.int x1), (2, Value.int x2), (3, va_rf x3)]) [0, 1, 2, 3] (by first | rfl | simp [lv_pick, lv_args, va_cat, vi_cat, vl_cat]) ?_
  unfold w_L_grant at h
  refine G_aload_n C (x := x3) 3 dL_grant_0 rfl rfl ?_
  refine G_iconst C (v := 0) dL_grant_1 (by decide) ?_
  refine G_aload_n C (x := x0) 0 dL_grant_2 rfl rfl ?_
  refine G_iload_n C (x := x1) 1 dL_grant_3 rfl rfl ?_
  refine G_iload_n C (x := x2) 2 dL_grant_4 rfl rfl ?_
  obtain ⟨a1, ha2, h⟩ := h
  obtain ⟨hk3, h⟩ := h
  obtain ⟨m6, m7, hc8, hs9, h⟩ := h
  refine G_xcalli C hZ (Tf := TX8) (N := 10) hk3 (by decide) rfl tw_3_171 tw_3_172 tw_3_173 tw_1_1 tw_3_174 hy_X8_grant ⟨Nat.le_of_ble_eq_true rfl, Nat.le_of_ble_eq_true rfl⟩ (As := [Value.int x1, Value.int x2]) (rest := [Value.int 0, va_rf x3]) (c_X8_grant l hl  D cy a1 x1 x2 S m6 m7 _ _ h) rfl (by first | rfl | (simp only [ha2]; rfl) | simp only [ha2]) (by simp [va_cat, vi_cat, vl_cat]) dL_grant_5 ⟨hc8, hs9⟩ (fun E S4 h => ?_) (fun r5 S4 h => ?_)
  · rcases h with ⟨rfl, h⟩ | ⟨rfl, h⟩ | ⟨rfl, h⟩
    · refine ⟨[], ⟨0, 10, 13, 13⟩, [⟨0, 10, 17, 15⟩, ⟨0, 10, 21, 17⟩], "java/lang/IndexOutOfBoundsException", hT, (by simp), by decide, by decide, im tw_1_134, by simp [NWn], fun q10 => ?_⟩
      refine G_astore C (i := 4) (lv' := [(4, va_rf (some q10)), (0, va_rf x0), (1, Value.int x1), (2, Value.int x2), (3, va_rf x3)]) dL_grant_13 (by decide) (by first | rfl | simp [va_cat, vi_cat, vl_cat]) ?_
      refine G_iconst C (v := 1) dL_grant_15 (by decide) ?_
      exact G_iret C (mc := mc) (ms := ms) (post := post) hr hc8 hs9 dL_grant_16 h
    · refine ⟨[⟨0, 10, 13, 13⟩], ⟨0, 10, 17, 15⟩, [⟨0, 10, 21, 17⟩], "java/lang/IllegalArgumentException", hT, (by
      intro z hz
      simp only [List.mem_cons, List.not_mem_nil, or_false] at hz
      rcases hz with rfl
      · exact ⟨by decide, "java/lang/IndexOutOfBoundsException", im tw_1_134, C.2.2.2.2.2.1.2.2.2 ("java/lang/IllegalArgumentException", "java/lang/IndexOutOfBoundsException") (by simp [NCs])⟩), by decide, by decide, im tw_1_135, by simp [NWn], fun q11 => ?_⟩
      refine G_astore C (i := 4) (lv' := [(4, va_rf (some q11)), (0, va_rf x0), (1, Value.int x1), (2, Value.int x2), (3, va_rf x3)]) dL_grant_17 (by decide) (by first | rfl | simp [va_cat, vi_cat, vl_cat]) ?_
      refine G_iconst C (v := 2) dL_grant_19 (by decide) ?_
      exact G_iret C (mc := mc) (ms := ms) (post := post) hr hc8 hs9 dL_grant_20 h
    · refine ⟨[⟨0, 10, 13, 13⟩, ⟨0, 10, 17, 15⟩], ⟨0, 10, 21, 17⟩, [], "java/lang/IllegalStateException", hT, (by
      intro z hz
      simp only [List.mem_cons, List.not_mem_nil, or_false] at hz
      rcases hz with rfl | rfl
      · exact ⟨by decide, "java/lang/IndexOutOfBoundsException", im tw_1_134, C.2.2.2.2.2.1.2.2.2 ("java/lang/IllegalStateException", "java/lang/IndexOutOfBoundsException") (by simp [NCs])⟩
      · exact ⟨by decide, "java/lang/IllegalArgumentException", im tw_1_135, C.2.2.2.2.2.1.2.2.2 ("java/lang/IllegalStateException", "java/lang/IllegalArgumentException") (by simp [NCs])⟩), by decide, by decide, im tw_1_136, by simp [NWn], fun q12 => ?_⟩
      refine G_astore C (i := 4) (lv' := [(4, va_rf (some q12)), (0, va_rf x0), (1, Value.int x1), (2, Value.int x2), (3, va_rf x3)]) dL_grant_21 (by decide) (by first | rfl | simp [va_cat, vi_cat, vl_cat]) ?_
      refine G_iconst C (v := 3) dL_grant_23 (by decide) ?_
      exact G_iret C (mc := mc) (ms := ms) (post := post) hr hc8 hs9 dL_grant_24 h
  · refine G_i2l C dL_grant_8 ?_
    obtain ⟨a13, ha14, h⟩ := h
    refine G_rf2 ha14 ?_
    obtain ⟨hk15, h⟩ := h
    obtain ⟨hi16, h⟩ := h
    refine G_last C hk15 hi16 dL_grant_9 ?_
    generalize e18 : sB S4 a13 ((0 : Int32).toNatClampNeg) r5.toInt64 = S17
    have h := h S17 e18.symm
    refine G_goto C (tgt := 25) dL_grant_10 (by decide) ?_
    refine G_iconst C (v := 0) dL_grant_25 (by decide) ?_
    exact G_iret C (mc := mc) (ms := ms) (post := post) hr hc8 hs9 dL_grant_26 h
set_option maxHeartbeats 4000000 in
set_option maxRecDepth 100000 in
theorem c_L_refuse (l : Launch) (hl : l.stackTraces = false) (D : va_G) (cy : Nat → Nat) (x0 : Option Nat) (x1 : Int32) (x2 : Option Nat) (S : PT) (mc ms : Nat) (post : Int32 → PT → Prop) (h : w_L_refuse x0 x1 x2 S mc ms post) : Mi l yL_refuse (Wh yL_refuse method_13_code 4 (Option.some Jvm.ClassFile.FieldType.int) [((0 : Nat), (9 : Nat), (12 : Nat), (13 : Nat)), ((0 : Nat), (9 : Nat), (15 : Nat), (17 : Nat))]) 7 113 D cy [va_rf x0, Value.int x1, va_rf x2] S mc ms post := by
  refine Mih_of (own := "TrenchboardLaw") (by decide) rfl (by first | decide | simp [lg_sl, va_cat, vi_cat, vl_cat]) (fun p e s m below meth c A C hZ hr hT => ?_)
  refine G_lv C (lv' := [(0, va_rf x0), (1, Value.int x1), (2, va_rf x2)]) [0, 1, 2] (by first | rfl | simp [lv_pick, lv_args, va_cat, vi_cat, vl_cat]) ?_
  unfold w_L_refuse at h
  refine G_aload_n C (x := x2) 2 dL_refuse_0 rfl rfl ?_
  refine G_iconst C (v := 0) dL_refuse_1 (by decide) ?_
  refine G_aload_n C (x := x0) 0 dL_refuse_2 rfl rfl ?_
  refine G_iload_n C (x := x1) 1 dL_refuse_3 rfl rfl ?_
  obtain ⟨a1, ha2, h⟩ := h
  obtain ⟨hk3, h⟩ := h
  obtain ⟨m6, m7, hc8, hs9, h⟩ := h
  refine G_xcalli C hZ (Tf := TX8) (N := 10) hk3 (by decide) rfl tw_4_22 tw_4_23 tw_4_24 tw_1_1 tw_4_25 hy_X8_refuse ⟨Nat.le_of_ble_eq_true rfl, Nat.le_of_ble_eq_true rfl⟩ (As := [Value.int x1]) (rest := [Value.int 0, va_rf x2]) (c_X8_refuse l hl  D cy a1 x1 S m6 m7 _ _ h) rfl (by first | rfl | (simp only [ha2]; rfl) | simp only [ha2]) (by simp [va_cat, vi_cat, vl_cat]) dL_refuse_4 ⟨hc8, hs9⟩ (fun E S4 h => ?_) (fun r5 S4 h => ?_)
  · rcases h with ⟨rfl, h⟩ | ⟨rfl, h⟩
    · refine ⟨[], ⟨0, 9, 12, 13⟩, [⟨0, 9, 15, 17⟩], "java/lang/IndexOutOfBoundsException", hT, (by simp), by decide, by decide, im tw_1_134, by simp [NWn], fun q10 => ?_⟩
      refine G_astore_n C (i := 3) (lv' := [(3, va_rf (some q10)), (0, va_rf x0), (1, Value.int x1), (2, va_rf x2)]) dL_refuse_12 rfl (by decide) (by first | rfl | simp [va_cat, vi_cat, vl_cat]) ?_
      refine G_iconst C (v := 1) dL_refuse_13 (by decide) ?_
      exact G_iret C (mc := mc) (ms := ms) (post := post) hr hc8 hs9 dL_refuse_14 h
    · refine ⟨[⟨0, 9, 12, 13⟩], ⟨0, 9, 15, 17⟩, [], "java/lang/IllegalStateException", hT, (by
      intro z hz
      simp only [List.mem_cons, List.not_mem_nil, or_false] at hz
      rcases hz with rfl
      · exact ⟨by decide, "java/lang/IndexOutOfBoundsException", im tw_1_134, C.2.2.2.2.2.1.2.2.2 ("java/lang/IllegalStateException", "java/lang/IndexOutOfBoundsException") (by simp [NCs])⟩), by decide, by decide, im tw_1_136, by simp [NWn], fun q11 => ?_⟩
      refine G_astore_n C (i := 3) (lv' := [(3, va_rf (some q11)), (0, va_rf x0), (1, Value.int x1), (2, va_rf x2)]) dL_refuse_15 rfl (by decide) (by first | rfl | simp [va_cat, vi_cat, vl_cat]) ?_
      refine G_iconst C (v := 2) dL_refuse_16 (by decide) ?_
      exact G_iret C (mc := mc) (ms := ms) (post := post) hr hc8 hs9 dL_refuse_17 h
  · refine G_i2l C dL_refuse_7 ?_
    obtain ⟨a12, ha13, h⟩ := h
    refine G_rf2 ha13 ?_
    obtain ⟨hk14, h⟩ := h
    obtain ⟨hi15, h⟩ := h
    refine G_last C hk14 hi15 dL_refuse_8 ?_
    generalize e17 : sB S4 a12 ((0 : Int32).toNatClampNeg) r5.toInt64 = S16
    have h := h S16 e17.symm
    refine G_goto C (tgt := 18) dL_refuse_9 (by decide) ?_
    refine G_iconst C (v := 0) dL_refuse_18 (by decide) ?_
    exact G_iret C (mc := mc) (ms := ms) (post := post) hr hc8 hs9 dL_refuse_19 h
set_option maxHeartbeats 4000000 in
set_option maxRecDepth 100000 in
theorem c_L_vary (l : Launch) (hl : l.stackTraces = false) (D : va_G) (cy : Nat → Nat) (x0 : Option Nat) (x1 : Int32) (x2 : Int32) (x3 : Option Nat) (S : PT) (mc ms : Nat) (post : Int32 → PT → Prop) (h : w_L_vary x0 x1 x2 x3 S mc ms post) : Mi l yL_vary (Wh yL_vary method_14_code 5 (Option.some Jvm.ClassFile.FieldType.int) [((0 : Nat), (10 : Nat), (13 : Nat), (13 : Nat)), ((0 : Nat), (10 : Nat), (17 : Nat), (15 : Nat)), ((0 : Nat), (10 : Nat), (21 : Nat), (17 : Nat))]) 7 113 D cy [va_rf x0, Value.int x1, Value.int x2, va_rf x3] S mc ms post := by
  refine Mih_of (own := "TrenchboardLaw") (by decide) rfl (by first | decide | simp [lg_sl, va_cat, vi_cat, vl_cat]) (fun p e s m below meth c A C hZ hr hT => ?_)
  refine G_lv C (lv' := [(0, va_rf x0), (1, Value.int x1), (2, Value.int x2), (3, va_rf x3)]) [0, 1, 2, 3] (by first | rfl | simp [lv_pick, lv_args, va_cat, vi_cat, vl_cat]) ?_
  unfold w_L_vary at h
  refine G_aload_n C (x := x3) 3 dL_vary_0 rfl rfl ?_
  refine G_iconst C (v := 0) dL_vary_1 (by decide) ?_
  refine G_aload_n C (x := x0) 0 dL_vary_2 rfl rfl ?_
  refine G_iload_n C (x := x1) 1 dL_vary_3 rfl rfl ?_
  refine G_iload_n C (x := x2) 2 dL_vary_4 rfl rfl ?_
  obtain ⟨a1, ha2, h⟩ := h
  obtain ⟨hk3, h⟩ := h
  obtain ⟨m6, m7, hc8, hs9, h⟩ := h
  refine G_xcalli C hZ (Tf := TX8) (N := 10) hk3 (by decide) rfl tw_4_30 tw_4_31 tw_4_32 tw_1_1 tw_4_33 hy_X8_vary ⟨Nat.le_of_ble_eq_true rfl, Nat.le_of_ble_eq_true rfl⟩ (As := [Value.int x1, Value.int x2]) (rest := [Value.int 0, va_rf x3]) (c_X8_vary l hl  D cy a1 x1 x2 S m6 m7 _ _ h) rfl (by first | rfl | (simp only [ha2]; rfl) | simp only [ha2]) (by simp [va_cat, vi_cat, vl_cat]) dL_vary_5 ⟨hc8, hs9⟩ (fun E S4 h => ?_) (fun r5 S4 h => ?_)
  · rcases h with ⟨rfl, h⟩ | ⟨rfl, h⟩ | ⟨rfl, h⟩
    · refine ⟨[], ⟨0, 10, 13, 13⟩, [⟨0, 10, 17, 15⟩, ⟨0, 10, 21, 17⟩], "java/lang/IndexOutOfBoundsException", hT, (by simp), by decide, by decide, im tw_1_134, by simp [NWn], fun q10 => ?_⟩
      refine G_astore C (i := 4) (lv' := [(4, va_rf (some q10)), (0, va_rf x0), (1, Value.int x1), (2, Value.int x2), (3, va_rf x3)]) dL_vary_13 (by decide) (by first | rfl | simp [va_cat, vi_cat, vl_cat]) ?_
      refine G_iconst C (v := 1) dL_vary_15 (by decide) ?_
      exact G_iret C (mc := mc) (ms := ms) (post := post) hr hc8 hs9 dL_vary_16 h
    · refine ⟨[⟨0, 10, 13, 13⟩], ⟨0, 10, 17, 15⟩, [⟨0, 10, 21, 17⟩], "java/lang/IllegalArgumentException", hT, (by
      intro z hz
      simp only [List.mem_cons, List.not_mem_nil, or_false] at hz
      rcases hz with rfl
      · exact ⟨by decide, "java/lang/IndexOutOfBoundsException", im tw_1_134, C.2.2.2.2.2.1.2.2.2 ("java/lang/IllegalArgumentException", "java/lang/IndexOutOfBoundsException") (by simp [NCs])⟩), by decide, by decide, im tw_1_135, by simp [NWn], fun q11 => ?_⟩
      refine G_astore C (i := 4) (lv' := [(4, va_rf (some q11)), (0, va_rf x0), (1, Value.int x1), (2, Value.int x2), (3, va_rf x3)]) dL_vary_17 (by decide) (by first | rfl | simp [va_cat, vi_cat, vl_cat]) ?_
      refine G_iconst C (v := 2) dL_vary_19 (by decide) ?_
      exact G_iret C (mc := mc) (ms := ms) (post := post) hr hc8 hs9 dL_vary_20 h
    · refine ⟨[⟨0, 10, 13, 13⟩, ⟨0, 10, 17, 15⟩], ⟨0, 10, 21, 17⟩, [], "java/lang/IllegalStateException", hT, (by
      intro z hz
      simp only [List.mem_cons, List.not_mem_nil, or_false] at hz
      rcases hz with rfl | rfl
      · exact ⟨by decide, "java/lang/IndexOutOfBoundsException", im tw_1_134, C.2.2.2.2.2.1.2.2.2 ("java/lang/IllegalStateException", "java/lang/IndexOutOfBoundsException") (by simp [NCs])⟩
      · exact ⟨by decide, "java/lang/IllegalArgumentException", im tw_1_135, C.2.2.2.2.2.1.2.2.2 ("java/lang/IllegalStateException", "java/lang/IllegalArgumentException") (by simp [NCs])⟩), by decide, by decide, im tw_1_136, by simp [NWn], fun q12 => ?_⟩
      refine G_astore C (i := 4) (lv' := [(4, va_rf (some q12)), (0, va_rf x0), (1, Value.int x1), (2, Value.int x2), (3, va_rf x3)]) dL_vary_21 (by decide) (by first | rfl | simp [va_cat, vi_cat, vl_cat]) ?_
      refine G_iconst C (v := 3) dL_vary_23 (by decide) ?_
      exact G_iret C (mc := mc) (ms := ms) (post := post) hr hc8 hs9 dL_vary_24 h
  · refine G_i2l C dL_vary_8 ?_
    obtain ⟨a13, ha14, h⟩ := h
    refine G_rf2 ha14 ?_
    obtain ⟨hk15, h⟩ := h
    obtain ⟨hi16, h⟩ := h
    refine G_last C hk15 hi16 dL_vary_9 ?_
    generalize e18 : sB S4 a13 ((0 : Int32).toNatClampNeg) r5.toInt64 = S17
    have h := h S17 e18.symm
    refine G_goto C (tgt := 25) dL_vary_10 (by decide) ?_
    refine G_iconst C (v := 0) dL_vary_25 (by decide) ?_
    exact G_iret C (mc := mc) (ms := ms) (post := post) hr hc8 hs9 dL_vary_26 h
set_option maxHeartbeats 4000000 in
set_option maxRecDepth 100000 in
theorem c_L_exempt (l : Launch) (hl : l.stackTraces = false) (D : va_G) (cy : Nat → Nat) (x0 : Option Nat) (x1 : Int32) (x2 : Option Nat) (S : PT) (mc ms : Nat) (post : Int32 → PT → Prop) (h : w_L_exempt x0 x1 x2 S mc ms post) : Mi l yL_exempt (Wh yL_exempt method_15_code 4 (Option.some Jvm.ClassFile.FieldType.int) [((0 : Nat), (16 : Nat), (19 : Nat), (13 : Nat))]) 7 112 D cy [va_rf x0, Value.int x1, va_rf x2] S mc ms post := by
  refine Mih_of (own := "TrenchboardLaw") (by decide) rfl (by first | decide | simp [lg_sl, va_cat, vi_cat, vl_cat]) (fun p e s m below meth c A C hZ hr hT => ?_)
  have J15 : ∀ (c0 n0 : Nat) (S : PT) (s0 : Option Nat) (s1 : Int32) (s2 : Int64), w_L_exempt_b15 x0 x1 x2 mc ms post c0 n0 S s0 s1 s2 → G p l e { frames := 7, cells := mc, slots := ms, locals := 112 } s m [va_rf x0, Value.int x1, va_rf x2].toArray below meth c D cy A s.heap 4 (QMi below D cy A [va_rf x0, Value.int x1, va_rf x2] s mc ms post) S c0 n0 15 [] [Value.long s2, Value.int s1, va_rf s0] := by
    intro c0 n0 S s0 s1 s2 h
    unfold w_L_exempt_b15 at h
    obtain ⟨hc00, hn00, h⟩ := h
    obtain ⟨a1, ha2, h⟩ := h
    refine G_rf2 ha2 ?_
    obtain ⟨hk3, h⟩ := h
    obtain ⟨hi4, h⟩ := h
    refine G_last C hk3 hi4 dL_exempt_15 ?_
    generalize e6 : sB S a1 ((s1).toNatClampNeg) s2 = S5
    have h := h S5 e6.symm
    refine G_goto C (tgt := 22) dL_exempt_16 (by decide) ?_
    refine G_iconst C (v := 0) dL_exempt_22 (by decide) ?_
    exact G_iret C (mc := mc) (ms := ms) (post := post) hr hc00 hn00 dL_exempt_23 h
  refine G_lv C (lv' := [(0, va_rf x0), (1, Value.int x1), (2, va_rf x2)]) [0, 1, 2] (by first | rfl | simp [lv_pick, lv_args, va_cat, vi_cat, vl_cat]) ?_
  unfold w_L_exempt at h
  refine G_aload_n C (x := x2) 2 dL_exempt_0 rfl rfl ?_
  refine G_iconst C (v := 0) dL_exempt_1 (by decide) ?_
  refine G_aload_n C (x := x0) 0 dL_exempt_2 rfl rfl ?_
  refine G_iload_n C (x := x1) 1 dL_exempt_3 rfl rfl ?_
  obtain ⟨a7, ha8, h⟩ := h
  obtain ⟨hk9, h⟩ := h
  obtain ⟨m12, m13, hc14, hs15, h⟩ := h
  refine G_xcalli C hZ (Tf := TX8) (N := 10) hk9 (by decide) rfl tw_4_38 tw_4_39 tw_4_40 tw_1_1 tw_4_41 hy_X8_exempt ⟨Nat.le_of_ble_eq_true rfl, Nat.le_of_ble_eq_true rfl⟩ (As := [Value.int x1]) (rest := [Value.int 0, va_rf x2]) (c_X8_exempt l hl  D cy a7 x1 S m12 m13 _ _ h) rfl (by first | rfl | (simp only [ha8]; rfl) | simp only [ha8]) (by simp [va_cat, vi_cat, vl_cat]) dL_exempt_4 ⟨hc14, hs15⟩ (fun E S10 h => ?_) (fun r11 S10 h => ?_)
  · rcases h with ⟨rfl, h⟩
    · refine ⟨[], ⟨0, 16, 19, 13⟩, [], "java/lang/IndexOutOfBoundsException", hT, (by simp), by decide, by decide, im tw_1_134, by simp [NWn], fun q16 => ?_⟩
      refine G_astore_n C (i := 3) (lv' := [(3, va_rf (some q16)), (0, va_rf x0), (1, Value.int x1), (2, va_rf x2)]) dL_exempt_19 rfl (by decide) (by first | rfl | simp [va_cat, vi_cat, vl_cat]) ?_
      refine G_iconst C (v := 1) dL_exempt_20 (by decide) ?_
      exact G_iret C (mc := mc) (ms := ms) (post := post) hr hc14 hs15 dL_exempt_21 h
  obtain ⟨hb17, h⟩ := h
  · refine G_if_eq C (tgt := 14) dL_exempt_7 (by decide) (fun hc => ?_) (fun hc => ?_)
    · have h := h.1 hc
      refine G_lconst C (v := 0) dL_exempt_14 (by decide) ?_
      refine G_lv C (lv' := []) [] rfl ?_
      exact J15 _ _ _ _ _ _ h
    · have h := h.2 hc
      refine G_lconst C (v := 1) dL_exempt_10 (by decide) ?_
      refine G_goto C (tgt := 15) dL_exempt_11 (by decide) ?_
      refine G_lv C (lv' := []) [] rfl ?_
      exact J15 _ _ _ _ _ _ h
set_option maxHeartbeats 4000000 in
set_option maxRecDepth 100000 in
theorem c_L_agree (l : Launch) (hl : l.stackTraces = false) (D : va_G) (cy : Nat → Nat) (x0 : Option Nat) (x1 : Int32) (x2 : Int32) (x3 : Option Nat) (S : PT) (mc ms : Nat) (post : Int32 → PT → Prop) (h : w_L_agree x0 x1 x2 x3 S mc ms post) : Mi l yL_agree (Wh yL_agree method_16_code 5 (Option.some Jvm.ClassFile.FieldType.int) [((0 : Nat), (17 : Nat), (20 : Nat), (13 : Nat)), ((0 : Nat), (17 : Nat), (24 : Nat), (15 : Nat))]) 7 114 D cy [va_rf x0, Value.int x1, Value.int x2, va_rf x3] S mc ms post := by
  refine Mih_of (own := "TrenchboardLaw") (by decide) rfl (by first | decide | simp [lg_sl, va_cat, vi_cat, vl_cat]) (fun p e s m below meth c A C hZ hr hT => ?_)
  have J16 : ∀ (c0 n0 : Nat) (S : PT) (s0 : Option Nat) (s1 : Int32) (s2 : Int64), w_L_agree_b16 x0 x1 x2 x3 mc ms post c0 n0 S s0 s1 s2 → G p l e { frames := 7, cells := mc, slots := ms, locals := 114 } s m [va_rf x0, Value.int x1, Value.int x2, va_rf x3].toArray below meth c D cy A s.heap 5 (QMi below D cy A [va_rf x0, Value.int x1, Value.int x2, va_rf x3] s mc ms post) S c0 n0 16 [] [Value.long s2, Value.int s1, va_rf s0] := by
    intro c0 n0 S s0 s1 s2 h
    unfold w_L_agree_b16 at h
    obtain ⟨hc00, hn00, h⟩ := h
    obtain ⟨a1, ha2, h⟩ := h
    refine G_rf2 ha2 ?_
    obtain ⟨hk3, h⟩ := h
    obtain ⟨hi4, h⟩ := h
    refine G_last C hk3 hi4 dL_agree_16 ?_
    generalize e6 : sB S a1 ((s1).toNatClampNeg) s2 = S5
    have h := h S5 e6.symm
    refine G_goto C (tgt := 28) dL_agree_17 (by decide) ?_
    refine G_iconst C (v := 0) dL_agree_28 (by decide) ?_
    exact G_iret C (mc := mc) (ms := ms) (post := post) hr hc00 hn00 dL_agree_29 h
  refine G_lv C (lv' := [(0, va_rf x0), (1, Value.int x1), (2, Value.int x2), (3, va_rf x3)]) [0, 1, 2, 3] (by first | rfl | simp [lv_pick, lv_args, va_cat, vi_cat, vl_cat]) ?_
  unfold w_L_agree at h
  refine G_aload_n C (x := x3) 3 dL_agree_0 rfl rfl ?_
  refine G_iconst C (v := 0) dL_agree_1 (by decide) ?_
  refine G_aload_n C (x := x0) 0 dL_agree_2 rfl rfl ?_
  refine G_iload_n C (x := x1) 1 dL_agree_3 rfl rfl ?_
  refine G_iload_n C (x := x2) 2 dL_agree_4 rfl rfl ?_
  obtain ⟨a7, ha8, h⟩ := h
  obtain ⟨hk9, h⟩ := h
  obtain ⟨m12, m13, hc14, hs15, h⟩ := h
  refine G_xcalli C hZ (Tf := TX8) (N := 10) hk9 (by decide) rfl tw_4_45 tw_4_46 tw_4_47 tw_1_1 tw_4_48 hy_X8_agree ⟨Nat.le_of_ble_eq_true rfl, Nat.le_of_ble_eq_true rfl⟩ (As := [Value.int x1, Value.int x2]) (rest := [Value.int 0, va_rf x3]) (c_X8_agree l hl  D cy a7 x1 x2 S m12 m13 _ _ h) rfl (by first | rfl | (simp only [ha8]; rfl) | simp only [ha8]) (by simp [va_cat, vi_cat, vl_cat]) dL_agree_5 ⟨hc14, hs15⟩ (fun E S10 h => ?_) (fun r11 S10 h => ?_)
  · rcases h with ⟨rfl, h⟩ | ⟨rfl, h⟩
    · refine ⟨[], ⟨0, 17, 20, 13⟩, [⟨0, 17, 24, 15⟩], "java/lang/IndexOutOfBoundsException", hT, (by simp), by decide, by decide, im tw_1_134, by simp [NWn], fun q16 => ?_⟩
      refine G_astore C (i := 4) (lv' := [(4, va_rf (some q16)), (0, va_rf x0), (1, Value.int x1), (2, Value.int x2), (3, va_rf x3)]) dL_agree_20 (by decide) (by first | rfl | simp [va_cat, vi_cat, vl_cat]) ?_
      refine G_iconst C (v := 1) dL_agree_22 (by decide) ?_
      exact G_iret C (mc := mc) (ms := ms) (post := post) hr hc14 hs15 dL_agree_23 h
    · refine ⟨[⟨0, 17, 20, 13⟩], ⟨0, 17, 24, 15⟩, [], "java/lang/IllegalArgumentException", hT, (by
      intro z hz
      simp only [List.mem_cons, List.not_mem_nil, or_false] at hz
      rcases hz with rfl
      · exact ⟨by decide, "java/lang/IndexOutOfBoundsException", im tw_1_134, C.2.2.2.2.2.1.2.2.2 ("java/lang/IllegalArgumentException", "java/lang/IndexOutOfBoundsException") (by simp [NCs])⟩), by decide, by decide, im tw_1_135, by simp [NWn], fun q17 => ?_⟩
      refine G_astore C (i := 4) (lv' := [(4, va_rf (some q17)), (0, va_rf x0), (1, Value.int x1), (2, Value.int x2), (3, va_rf x3)]) dL_agree_24 (by decide) (by first | rfl | simp [va_cat, vi_cat, vl_cat]) ?_
      refine G_iconst C (v := 2) dL_agree_26 (by decide) ?_
      exact G_iret C (mc := mc) (ms := ms) (post := post) hr hc14 hs15 dL_agree_27 h
  obtain ⟨hb18, h⟩ := h
  · refine G_if_eq C (tgt := 15) dL_agree_8 (by decide) (fun hc => ?_) (fun hc => ?_)
    · have h := h.1 hc
      refine G_lconst C (v := 0) dL_agree_15 (by decide) ?_
      refine G_lv C (lv' := []) [] rfl ?_
      exact J16 _ _ _ _ _ _ h
    · have h := h.2 hc
      refine G_lconst C (v := 1) dL_agree_11 (by decide) ?_
      refine G_goto C (tgt := 16) dL_agree_12 (by decide) ?_
      refine G_lv C (lv' := []) [] rfl ?_
      exact J16 _ _ _ _ _ _ h
set_option maxHeartbeats 4000000 in
set_option maxRecDepth 100000 in
theorem c_L_start (l : Launch) (hl : l.stackTraces = false) (D : va_G) (cy : Nat → Nat) (x0 : Option Nat) (x1 : Int32) (x2 : Option Nat) (S : PT) (mc ms : Nat) (post : Int32 → PT → Prop) (h : w_L_start x0 x1 x2 S mc ms post) : Mi l yL_start (Wh yL_start method_17_code 4 (Option.some Jvm.ClassFile.FieldType.int) [((0 : Nat), (9 : Nat), (12 : Nat), (13 : Nat)), ((0 : Nat), (9 : Nat), (15 : Nat), (17 : Nat))]) 7 112 D cy [va_rf x0, Value.int x1, va_rf x2] S mc ms post := by
  refine Mih_of (own := "TrenchboardLaw") (by decide) rfl (by first | decide | simp [lg_sl, va_cat, vi_cat, vl_cat]) (fun p e s m below meth c A C hZ hr hT => ?_)
  refine G_lv C (lv' := [(0, va_rf x0), (1, Value.int x1), (2, va_rf x2)]) [0, 1, 2] (by first | rfl | simp [lv_pick, lv_args, va_cat, vi_cat, vl_cat]) ?_
  unfold w_L_start at h
  refine G_aload_n C (x := x2) 2 dL_start_0 rfl rfl ?_
  refine G_iconst C (v := 0) dL_start_1 (by decide) ?_
  refine G_aload_n C (x := x0) 0 dL_start_2 rfl rfl ?_
  refine G_iload_n C (x := x1) 1 dL_start_3 rfl rfl ?_
  obtain ⟨a1, ha2, h⟩ := h
  obtain ⟨hk3, h⟩ := h
  obtain ⟨m6, m7, hc8, hs9, h⟩ := h
  refine G_xcalli C hZ (Tf := TX8) (N := 10) hk3 (by decide) rfl tw_4_54 tw_4_55 tw_4_56 tw_1_1 tw_4_57 hy_X8_start ⟨Nat.le_of_ble_eq_true rfl, Nat.le_of_ble_eq_true rfl⟩ (As := [Value.int x1]) (rest := [Value.int 0, va_rf x2]) (c_X8_start l hl  D cy a1 x1 S m6 m7 _ _ h) rfl (by first | rfl | (simp only [ha2]; rfl) | simp only [ha2]) (by simp [va_cat, vi_cat, vl_cat]) dL_start_4 ⟨hc8, hs9⟩ (fun E S4 h => ?_) (fun r5 S4 h => ?_)
  · rcases h with ⟨rfl, h⟩ | ⟨rfl, h⟩
    · refine ⟨[], ⟨0, 9, 12, 13⟩, [⟨0, 9, 15, 17⟩], "java/lang/IndexOutOfBoundsException", hT, (by simp), by decide, by decide, im tw_1_134, by simp [NWn], fun q10 => ?_⟩
      refine G_astore_n C (i := 3) (lv' := [(3, va_rf (some q10)), (0, va_rf x0), (1, Value.int x1), (2, va_rf x2)]) dL_start_12 rfl (by decide) (by first | rfl | simp [va_cat, vi_cat, vl_cat]) ?_
      refine G_iconst C (v := 1) dL_start_13 (by decide) ?_
      exact G_iret C (mc := mc) (ms := ms) (post := post) hr hc8 hs9 dL_start_14 h
    · refine ⟨[⟨0, 9, 12, 13⟩], ⟨0, 9, 15, 17⟩, [], "java/lang/IllegalStateException", hT, (by
      intro z hz
      simp only [List.mem_cons, List.not_mem_nil, or_false] at hz
      rcases hz with rfl
      · exact ⟨by decide, "java/lang/IndexOutOfBoundsException", im tw_1_134, C.2.2.2.2.2.1.2.2.2 ("java/lang/IllegalStateException", "java/lang/IndexOutOfBoundsException") (by simp [NCs])⟩), by decide, by decide, im tw_1_136, by simp [NWn], fun q11 => ?_⟩
      refine G_astore_n C (i := 3) (lv' := [(3, va_rf (some q11)), (0, va_rf x0), (1, Value.int x1), (2, va_rf x2)]) dL_start_15 rfl (by decide) (by first | rfl | simp [va_cat, vi_cat, vl_cat]) ?_
      refine G_iconst C (v := 2) dL_start_16 (by decide) ?_
      exact G_iret C (mc := mc) (ms := ms) (post := post) hr hc8 hs9 dL_start_17 h
  · refine G_i2l C dL_start_7 ?_
    obtain ⟨a12, ha13, h⟩ := h
    refine G_rf2 ha13 ?_
    obtain ⟨hk14, h⟩ := h
    obtain ⟨hi15, h⟩ := h
    refine G_last C hk14 hi15 dL_start_8 ?_
    generalize e17 : sB S4 a12 ((0 : Int32).toNatClampNeg) r5.toInt64 = S16
    have h := h S16 e17.symm
    refine G_goto C (tgt := 18) dL_start_9 (by decide) ?_
    refine G_iconst C (v := 0) dL_start_18 (by decide) ?_
    exact G_iret C (mc := mc) (ms := ms) (post := post) hr hc8 hs9 dL_start_19 h
set_option maxHeartbeats 4000000 in
set_option maxRecDepth 100000 in
theorem c_L_open (l : Launch) (hl : l.stackTraces = false) (D : va_G) (cy : Nat → Nat) (x0 : Option Nat) (x1 : Int32) (x2 : Int32) (x3 : Option Nat) (S : PT) (mc ms : Nat) (post : Int32 → PT → Prop) (h : w_L_open x0 x1 x2 x3 S mc ms post) : Mi l yL_open (Wh yL_open method_18_code 5 (Option.some Jvm.ClassFile.FieldType.int) [((0 : Nat), (10 : Nat), (13 : Nat), (13 : Nat)), ((0 : Nat), (10 : Nat), (17 : Nat), (17 : Nat))]) 7 160 D cy [va_rf x0, Value.int x1, Value.int x2, va_rf x3] S mc ms post := by
  refine Mih_of (own := "TrenchboardLaw") (by decide) rfl (by first | decide | simp [lg_sl, va_cat, vi_cat, vl_cat]) (fun p e s m below meth c A C hZ hr hT => ?_)
  refine G_lv C (lv' := [(0, va_rf x0), (1, Value.int x1), (2, Value.int x2), (3, va_rf x3)]) [0, 1, 2, 3] (by first | rfl | simp [lv_pick, lv_args, va_cat, vi_cat, vl_cat]) ?_
  unfold w_L_open at h
  refine G_aload_n C (x := x3) 3 dL_open_0 rfl rfl ?_
  refine G_iconst C (v := 0) dL_open_1 (by decide) ?_
  refine G_aload_n C (x := x0) 0 dL_open_2 rfl rfl ?_
  refine G_iload_n C (x := x1) 1 dL_open_3 rfl rfl ?_
  refine G_iload_n C (x := x2) 2 dL_open_4 rfl rfl ?_
  obtain ⟨a1, ha2, h⟩ := h
  obtain ⟨hk3, h⟩ := h
  obtain ⟨m6, m7, hc8, hs9, h⟩ := h
  refine G_xcalli C hZ (Tf := TX8) (N := 10) hk3 (by decide) rfl tw_4_62 tw_4_63 tw_4_64 tw_1_1 tw_4_65 hy_X8_open ⟨Nat.le_of_ble_eq_true rfl, Nat.le_of_ble_eq_true rfl⟩ (As := [Value.int x1, Value.int x2]) (rest := [Value.int 0, va_rf x3]) (c_X8_open l hl  D cy a1 x1 x2 S m6 m7 _ _ h) rfl (by first | rfl | (simp only [ha2]; rfl) | simp only [ha2]) (by simp [va_cat, vi_cat, vl_cat]) dL_open_5 ⟨hc8, hs9⟩ (fun E S4 h => ?_) (fun r5 S4 h => ?_)
  · rcases h with ⟨rfl, h⟩ | ⟨rfl, h⟩
    · refine ⟨[], ⟨0, 10, 13, 13⟩, [⟨0, 10, 17, 17⟩], "java/lang/IndexOutOfBoundsException", hT, (by simp), by decide, by decide, im tw_1_134, by simp [NWn], fun q10 => ?_⟩
      refine G_astore C (i := 4) (lv' := [(4, va_rf (some q10)), (0, va_rf x0), (1, Value.int x1), (2, Value.int x2), (3, va_rf x3)]) dL_open_13 (by decide) (by first | rfl | simp [va_cat, vi_cat, vl_cat]) ?_
      refine G_iconst C (v := 1) dL_open_15 (by decide) ?_
      exact G_iret C (mc := mc) (ms := ms) (post := post) hr hc8 hs9 dL_open_16 h
    · refine ⟨[⟨0, 10, 13, 13⟩], ⟨0, 10, 17, 17⟩, [], "java/lang/IllegalStateException", hT, (by
      intro z hz
      simp only [List.mem_cons, List.not_mem_nil, or_false] at hz
      rcases hz with rfl
      · exact ⟨by decide, "java/lang/IndexOutOfBoundsException", im tw_1_134, C.2.2.2.2.2.1.2.2.2 ("java/lang/IllegalStateException", "java/lang/IndexOutOfBoundsException") (by simp [NCs])⟩), by decide, by decide, im tw_1_136, by simp [NWn], fun q11 => ?_⟩
      refine G_astore C (i := 4) (lv' := [(4, va_rf (some q11)), (0, va_rf x0), (1, Value.int x1), (2, Value.int x2), (3, va_rf x3)]) dL_open_17 (by decide) (by first | rfl | simp [va_cat, vi_cat, vl_cat]) ?_
      refine G_iconst C (v := 2) dL_open_19 (by decide) ?_
      exact G_iret C (mc := mc) (ms := ms) (post := post) hr hc8 hs9 dL_open_20 h
  · refine G_i2l C dL_open_8 ?_
    obtain ⟨a12, ha13, h⟩ := h
    refine G_rf2 ha13 ?_
    obtain ⟨hk14, h⟩ := h
    obtain ⟨hi15, h⟩ := h
    refine G_last C hk14 hi15 dL_open_9 ?_
    generalize e17 : sB S4 a12 ((0 : Int32).toNatClampNeg) r5.toInt64 = S16
    have h := h S16 e17.symm
    refine G_goto C (tgt := 21) dL_open_10 (by decide) ?_
    refine G_iconst C (v := 0) dL_open_21 (by decide) ?_
    exact G_iret C (mc := mc) (ms := ms) (post := post) hr hc8 hs9 dL_open_22 h
set_option maxHeartbeats 4000000 in
set_option maxRecDepth 100000 in
theorem c_L_fill (l : Launch) (hl : l.stackTraces = false) (D : va_G) (cy : Nat → Nat) (e0 m0 : Nat) (he : e0 = cy 9) (hm : m0 = cy 10) (x0 : Option Nat) (x1 : Int32) (x2 : Int32) (x3 : Int32) (x4 : Option Nat) (S : PT) (mc ms : Nat) (post : Int32 → PT → Prop) (h : w_L_fill e0 m0 x0 x1 x2 x3 x4 S mc ms post) : Mi l yL_fill (Wh yL_fill method_19_code 6 (Option.some Jvm.ClassFile.FieldType.int) [((0 : Nat), (12 : Nat), (15 : Nat), (13 : Nat)), ((0 : Nat), (12 : Nat), (19 : Nat), (15 : Nat)), ((0 : Nat), (12 : Nat), (23 : Nat), (17 : Nat))]) 9 217 D cy [va_rf x0, Value.int x1, Value.int x2, Value.int x3, va_rf x4] S mc ms post := by
  refine Mih_of (own := "TrenchboardLaw") (by decide) rfl (by first | decide | simp [lg_sl, va_cat, vi_cat, vl_cat]) (fun p e s m below meth c A C hZ hr hT => ?_)
  refine G_lv C (lv' := [(0, va_rf x0), (1, Value.int x1), (2, Value.int x2), (3, Value.int x3), (4, va_rf x4)]) [0, 1, 2, 3, 4] (by first | rfl | simp [lv_pick, lv_args, va_cat, vi_cat, vl_cat]) ?_
  unfold w_L_fill at h
  refine G_aload C (x := x4) 4 dL_fill_0 rfl ?_
  refine G_iconst C (v := 0) dL_fill_2 (by decide) ?_
  refine G_aload_n C (x := x0) 0 dL_fill_3 rfl rfl ?_
  refine G_iload_n C (x := x1) 1 dL_fill_4 rfl rfl ?_
  refine G_iload_n C (x := x2) 2 dL_fill_5 rfl rfl ?_
  refine G_iload_n C (x := x3) 3 dL_fill_6 rfl rfl ?_
  obtain ⟨a1, ha2, h⟩ := h
  obtain ⟨hk3, h⟩ := h
  obtain ⟨m6, m7, hc8, hs9, h⟩ := h
  refine G_xcalli C hZ (Tf := TX8) (N := 10) hk3 (by decide) rfl tw_4_97 tw_4_98 tw_4_99 tw_1_1 tw_4_100 hy_X8_fill ⟨Nat.le_of_ble_eq_true rfl, Nat.le_of_ble_eq_true rfl⟩ (As := [Value.int x1, Value.int x2, Value.int x3]) (rest := [Value.int 0, va_rf x4]) (c_X8_fill l hl  D cy e0 m0 he hm a1 x1 x2 x3 S m6 m7 _ _ h) rfl (by first | rfl | (simp only [ha2]; rfl) | simp only [ha2]) (by simp [va_cat, vi_cat, vl_cat]) dL_fill_7 ⟨hc8, hs9⟩ (fun E S4 h => ?_) (fun r5 S4 h => ?_)
  · rcases h with ⟨rfl, h⟩ | ⟨rfl, h⟩ | ⟨rfl, h⟩
    · refine ⟨[], ⟨0, 12, 15, 13⟩, [⟨0, 12, 19, 15⟩, ⟨0, 12, 23, 17⟩], "java/lang/IndexOutOfBoundsException", hT, (by simp), by decide, by decide, im tw_1_134, by simp [NWn], fun q10 => ?_⟩
      refine G_astore C (i := 5) (lv' := [(5, va_rf (some q10)), (0, va_rf x0), (1, Value.int x1), (2, Value.int x2), (3, Value.int x3), (4, va_rf x4)]) dL_fill_15 (by decide) (by first | rfl | simp [va_cat, vi_cat, vl_cat]) ?_
      refine G_iconst C (v := 1) dL_fill_17 (by decide) ?_
      exact G_iret C (mc := mc) (ms := ms) (post := post) hr hc8 hs9 dL_fill_18 h
    · refine ⟨[⟨0, 12, 15, 13⟩], ⟨0, 12, 19, 15⟩, [⟨0, 12, 23, 17⟩], "java/lang/IllegalArgumentException", hT, (by
      intro z hz
      simp only [List.mem_cons, List.not_mem_nil, or_false] at hz
      rcases hz with rfl
      · exact ⟨by decide, "java/lang/IndexOutOfBoundsException", im tw_1_134, C.2.2.2.2.2.1.2.2.2 ("java/lang/IllegalArgumentException", "java/lang/IndexOutOfBoundsException") (by simp [NCs])⟩), by decide, by decide, im tw_1_135, by simp [NWn], fun q11 => ?_⟩
      refine G_astore C (i := 5) (lv' := [(5, va_rf (some q11)), (0, va_rf x0), (1, Value.int x1), (2, Value.int x2), (3, Value.int x3), (4, va_rf x4)]) dL_fill_19 (by decide) (by first | rfl | simp [va_cat, vi_cat, vl_cat]) ?_
      refine G_iconst C (v := 2) dL_fill_21 (by decide) ?_
      exact G_iret C (mc := mc) (ms := ms) (post := post) hr hc8 hs9 dL_fill_22 h
    · refine ⟨[⟨0, 12, 15, 13⟩, ⟨0, 12, 19, 15⟩], ⟨0, 12, 23, 17⟩, [], "java/lang/IllegalStateException", hT, (by
      intro z hz
      simp only [List.mem_cons, List.not_mem_nil, or_false] at hz
      rcases hz with rfl | rfl
      · exact ⟨by decide, "java/lang/IndexOutOfBoundsException", im tw_1_134, C.2.2.2.2.2.1.2.2.2 ("java/lang/IllegalStateException", "java/lang/IndexOutOfBoundsException") (by simp [NCs])⟩
      · exact ⟨by decide, "java/lang/IllegalArgumentException", im tw_1_135, C.2.2.2.2.2.1.2.2.2 ("java/lang/IllegalStateException", "java/lang/IllegalArgumentException") (by simp [NCs])⟩), by decide, by decide, im tw_1_136, by simp [NWn], fun q12 => ?_⟩
      refine G_astore C (i := 5) (lv' := [(5, va_rf (some q12)), (0, va_rf x0), (1, Value.int x1), (2, Value.int x2), (3, Value.int x3), (4, va_rf x4)]) dL_fill_23 (by decide) (by first | rfl | simp [va_cat, vi_cat, vl_cat]) ?_
      refine G_iconst C (v := 3) dL_fill_25 (by decide) ?_
      exact G_iret C (mc := mc) (ms := ms) (post := post) hr hc8 hs9 dL_fill_26 h
  · refine G_i2l C dL_fill_10 ?_
    obtain ⟨a13, ha14, h⟩ := h
    refine G_rf2 ha14 ?_
    obtain ⟨hk15, h⟩ := h
    obtain ⟨hi16, h⟩ := h
    refine G_last C hk15 hi16 dL_fill_11 ?_
    generalize e18 : sB S4 a13 ((0 : Int32).toNatClampNeg) r5.toInt64 = S17
    have h := h S17 e18.symm
    refine G_goto C (tgt := 27) dL_fill_12 (by decide) ?_
    refine G_iconst C (v := 0) dL_fill_27 (by decide) ?_
    exact G_iret C (mc := mc) (ms := ms) (post := post) hr hc8 hs9 dL_fill_28 h
set_option maxHeartbeats 4000000 in
set_option maxRecDepth 100000 in
theorem c_L_plate (l : Launch) (hl : l.stackTraces = false) (D : va_G) (cy : Nat → Nat) (x0 : Option Nat) (x1 : Int32) (x2 : Option Nat) (S : PT) (mc ms : Nat) (post : Int32 → PT → Prop) (h : w_L_plate x0 x1 x2 S mc ms post) : Mi l yL_plate (Wh yL_plate method_20_code 4 (Option.some Jvm.ClassFile.FieldType.int) [((0 : Nat), (16 : Nat), (19 : Nat), (13 : Nat)), ((0 : Nat), (16 : Nat), (22 : Nat), (17 : Nat))]) 7 112 D cy [va_rf x0, Value.int x1, va_rf x2] S mc ms post := by
  refine Mih_of (own := "TrenchboardLaw") (by decide) rfl (by first | decide | simp [lg_sl, va_cat, vi_cat, vl_cat]) (fun p e s m below meth c A C hZ hr hT => ?_)
  have J15 : ∀ (c0 n0 : Nat) (S : PT) (s0 : Option Nat) (s1 : Int32) (s2 : Int64), w_L_plate_b15 x0 x1 x2 mc ms post c0 n0 S s0 s1 s2 → G p l e { frames := 7, cells := mc, slots := ms, locals := 112 } s m [va_rf x0, Value.int x1, va_rf x2].toArray below meth c D cy A s.heap 4 (QMi below D cy A [va_rf x0, Value.int x1, va_rf x2] s mc ms post) S c0 n0 15 [] [Value.long s2, Value.int s1, va_rf s0] := by
    intro c0 n0 S s0 s1 s2 h
    unfold w_L_plate_b15 at h
    obtain ⟨hc00, hn00, h⟩ := h
    obtain ⟨a1, ha2, h⟩ := h
    refine G_rf2 ha2 ?_
    obtain ⟨hk3, h⟩ := h
    obtain ⟨hi4, h⟩ := h
    refine G_last C hk3 hi4 dL_plate_15 ?_
    generalize e6 : sB S a1 ((s1).toNatClampNeg) s2 = S5
    have h := h S5 e6.symm
    refine G_goto C (tgt := 25) dL_plate_16 (by decide) ?_
    refine G_iconst C (v := 0) dL_plate_25 (by decide) ?_
    exact G_iret C (mc := mc) (ms := ms) (post := post) hr hc00 hn00 dL_plate_26 h
  refine G_lv C (lv' := [(0, va_rf x0), (1, Value.int x1), (2, va_rf x2)]) [0, 1, 2] (by first | rfl | simp [lv_pick, lv_args, va_cat, vi_cat, vl_cat]) ?_
  unfold w_L_plate at h
  refine G_aload_n C (x := x2) 2 dL_plate_0 rfl rfl ?_
  refine G_iconst C (v := 0) dL_plate_1 (by decide) ?_
  refine G_aload_n C (x := x0) 0 dL_plate_2 rfl rfl ?_
  refine G_iload_n C (x := x1) 1 dL_plate_3 rfl rfl ?_
  obtain ⟨a7, ha8, h⟩ := h
  obtain ⟨hk9, h⟩ := h
  obtain ⟨m12, m13, hc14, hs15, h⟩ := h
  refine G_xcalli C hZ (Tf := TX8) (N := 10) hk9 (by decide) rfl tw_4_141 tw_4_142 tw_4_143 tw_1_1 tw_4_144 hy_X8_plate ⟨Nat.le_of_ble_eq_true rfl, Nat.le_of_ble_eq_true rfl⟩ (As := [Value.int x1]) (rest := [Value.int 0, va_rf x2]) (c_X8_plate l hl  D cy a7 x1 S m12 m13 _ _ h) rfl (by first | rfl | (simp only [ha8]; rfl) | simp only [ha8]) (by simp [va_cat, vi_cat, vl_cat]) dL_plate_4 ⟨hc14, hs15⟩ (fun E S10 h => ?_) (fun r11 S10 h => ?_)
  · rcases h with ⟨rfl, h⟩ | ⟨rfl, h⟩
    · refine ⟨[], ⟨0, 16, 19, 13⟩, [⟨0, 16, 22, 17⟩], "java/lang/IndexOutOfBoundsException", hT, (by simp), by decide, by decide, im tw_1_134, by simp [NWn], fun q16 => ?_⟩
      refine G_astore_n C (i := 3) (lv' := [(3, va_rf (some q16)), (0, va_rf x0), (1, Value.int x1), (2, va_rf x2)]) dL_plate_19 rfl (by decide) (by first | rfl | simp [va_cat, vi_cat, vl_cat]) ?_
      refine G_iconst C (v := 1) dL_plate_20 (by decide) ?_
      exact G_iret C (mc := mc) (ms := ms) (post := post) hr hc14 hs15 dL_plate_21 h
    · refine ⟨[⟨0, 16, 19, 13⟩], ⟨0, 16, 22, 17⟩, [], "java/lang/IllegalStateException", hT, (by
      intro z hz
      simp only [List.mem_cons, List.not_mem_nil, or_false] at hz
      rcases hz with rfl
      · exact ⟨by decide, "java/lang/IndexOutOfBoundsException", im tw_1_134, C.2.2.2.2.2.1.2.2.2 ("java/lang/IllegalStateException", "java/lang/IndexOutOfBoundsException") (by simp [NCs])⟩), by decide, by decide, im tw_1_136, by simp [NWn], fun q17 => ?_⟩
      refine G_astore_n C (i := 3) (lv' := [(3, va_rf (some q17)), (0, va_rf x0), (1, Value.int x1), (2, va_rf x2)]) dL_plate_22 rfl (by decide) (by first | rfl | simp [va_cat, vi_cat, vl_cat]) ?_
      refine G_iconst C (v := 2) dL_plate_23 (by decide) ?_
      exact G_iret C (mc := mc) (ms := ms) (post := post) hr hc14 hs15 dL_plate_24 h
  obtain ⟨hb18, h⟩ := h
  · refine G_if_eq C (tgt := 14) dL_plate_7 (by decide) (fun hc => ?_) (fun hc => ?_)
    · have h := h.1 hc
      refine G_lconst C (v := 0) dL_plate_14 (by decide) ?_
      refine G_lv C (lv' := []) [] rfl ?_
      exact J15 _ _ _ _ _ _ h
    · have h := h.2 hc
      refine G_lconst C (v := 1) dL_plate_10 (by decide) ?_
      refine G_goto C (tgt := 15) dL_plate_11 (by decide) ?_
      refine G_lv C (lv' := []) [] rfl ?_
      exact J15 _ _ _ _ _ _ h
set_option maxHeartbeats 4000000 in
set_option maxRecDepth 100000 in
theorem c_L_extend (l : Launch) (hl : l.stackTraces = false) (D : va_G) (cy : Nat → Nat) (x0 : Option Nat) (x1 : Int32) (x2 : Option Nat) (S : PT) (mc ms : Nat) (post : Int32 → PT → Prop) (h : w_L_extend x0 x1 x2 S mc ms post) : Mi l yL_extend (Wh yL_extend method_21_code 4 (Option.some Jvm.ClassFile.FieldType.int) [((0 : Nat), (9 : Nat), (12 : Nat), (13 : Nat)), ((0 : Nat), (9 : Nat), (15 : Nat), (17 : Nat))]) 7 113 D cy [va_rf x0, Value.int x1, va_rf x2] S mc ms post := by
  refine Mih_of (own := "TrenchboardLaw") (by decide) rfl (by first | decide | simp [lg_sl, va_cat, vi_cat, vl_cat]) (fun p e s m below meth c A C hZ hr hT => ?_)
  refine G_lv C (lv' := [(0, va_rf x0), (1, Value.int x1), (2, va_rf x2)]) [0, 1, 2] (by first | rfl | simp [lv_pick, lv_args, va_cat, vi_cat, vl_cat]) ?_
  unfold w_L_extend at h
  refine G_aload_n C (x := x2) 2 dL_extend_0 rfl rfl ?_
  refine G_iconst C (v := 0) dL_extend_1 (by decide) ?_
  refine G_aload_n C (x := x0) 0 dL_extend_2 rfl rfl ?_
  refine G_iload_n C (x := x1) 1 dL_extend_3 rfl rfl ?_
  obtain ⟨a1, ha2, h⟩ := h
  obtain ⟨hk3, h⟩ := h
  obtain ⟨m6, m7, hc8, hs9, h⟩ := h
  refine G_xcalli C hZ (Tf := TX8) (N := 10) hk3 (by decide) rfl tw_4_149 tw_4_150 tw_4_151 tw_1_1 tw_4_152 hy_X8_extend ⟨Nat.le_of_ble_eq_true rfl, Nat.le_of_ble_eq_true rfl⟩ (As := [Value.int x1]) (rest := [Value.int 0, va_rf x2]) (c_X8_extend l hl  D cy a1 x1 S m6 m7 _ _ h) rfl (by first | rfl | (simp only [ha2]; rfl) | simp only [ha2]) (by simp [va_cat, vi_cat, vl_cat]) dL_extend_4 ⟨hc8, hs9⟩ (fun E S4 h => ?_) (fun r5 S4 h => ?_)
  · rcases h with ⟨rfl, h⟩ | ⟨rfl, h⟩
    · refine ⟨[], ⟨0, 9, 12, 13⟩, [⟨0, 9, 15, 17⟩], "java/lang/IndexOutOfBoundsException", hT, (by simp), by decide, by decide, im tw_1_134, by simp [NWn], fun q10 => ?_⟩
      refine G_astore_n C (i := 3) (lv' := [(3, va_rf (some q10)), (0, va_rf x0), (1, Value.int x1), (2, va_rf x2)]) dL_extend_12 rfl (by decide) (by first | rfl | simp [va_cat, vi_cat, vl_cat]) ?_
      refine G_iconst C (v := 1) dL_extend_13 (by decide) ?_
      exact G_iret C (mc := mc) (ms := ms) (post := post) hr hc8 hs9 dL_extend_14 h
    · refine ⟨[⟨0, 9, 12, 13⟩], ⟨0, 9, 15, 17⟩, [], "java/lang/IllegalStateException", hT, (by
      intro z hz
      simp only [List.mem_cons, List.not_mem_nil, or_false] at hz
      rcases hz with rfl
      · exact ⟨by decide, "java/lang/IndexOutOfBoundsException", im tw_1_134, C.2.2.2.2.2.1.2.2.2 ("java/lang/IllegalStateException", "java/lang/IndexOutOfBoundsException") (by simp [NCs])⟩), by decide, by decide, im tw_1_136, by simp [NWn], fun q11 => ?_⟩
      refine G_astore_n C (i := 3) (lv' := [(3, va_rf (some q11)), (0, va_rf x0), (1, Value.int x1), (2, va_rf x2)]) dL_extend_15 rfl (by decide) (by first | rfl | simp [va_cat, vi_cat, vl_cat]) ?_
      refine G_iconst C (v := 2) dL_extend_16 (by decide) ?_
      exact G_iret C (mc := mc) (ms := ms) (post := post) hr hc8 hs9 dL_extend_17 h
  · refine G_i2l C dL_extend_7 ?_
    obtain ⟨a12, ha13, h⟩ := h
    refine G_rf2 ha13 ?_
    obtain ⟨hk14, h⟩ := h
    obtain ⟨hi15, h⟩ := h
    refine G_last C hk14 hi15 dL_extend_8 ?_
    generalize e17 : sB S4 a12 ((0 : Int32).toNatClampNeg) r5.toInt64 = S16
    have h := h S16 e17.symm
    refine G_goto C (tgt := 18) dL_extend_9 (by decide) ?_
    refine G_iconst C (v := 0) dL_extend_18 (by decide) ?_
    exact G_iret C (mc := mc) (ms := ms) (post := post) hr hc8 hs9 dL_extend_19 h
set_option maxHeartbeats 4000000 in
set_option maxRecDepth 100000 in
theorem c_L_stop (l : Launch) (hl : l.stackTraces = false) (D : va_G) (cy : Nat → Nat) (x0 : Option Nat) (x1 : Int32) (x2 : Option Nat) (S : PT) (mc ms : Nat) (post : Int32 → PT → Prop) (h : w_L_stop x0 x1 x2 S mc ms post) : Mi l yL_stop (Wh yL_stop method_22_code 4 (Option.some Jvm.ClassFile.FieldType.int) [((0 : Nat), (9 : Nat), (12 : Nat), (13 : Nat)), ((0 : Nat), (9 : Nat), (15 : Nat), (17 : Nat))]) 7 113 D cy [va_rf x0, Value.int x1, va_rf x2] S mc ms post := by
  refine Mih_of (own := "TrenchboardLaw") (by decide) rfl (by first | decide | simp [lg_sl, va_cat, vi_cat, vl_cat]) (fun p e s m below meth c A C hZ hr hT => ?_)
  refine G_lv C (lv' := [(0, va_rf x0), (1, Value.int x1), (2, va_rf x2)]) [0, 1, 2] (by first | rfl | simp [lv_pick, lv_args, va_cat, vi_cat, vl_cat]) ?_
  unfold w_L_stop at h
  refine G_aload_n C (x := x2) 2 dL_stop_0 rfl rfl ?_
  refine G_iconst C (v := 0) dL_stop_1 (by decide) ?_
  refine G_aload_n C (x := x0) 0 dL_stop_2 rfl rfl ?_
  refine G_iload_n C (x := x1) 1 dL_stop_3 rfl rfl ?_
  obtain ⟨a1, ha2, h⟩ := h
  obtain ⟨hk3, h⟩ := h
  obtain ⟨m6, m7, hc8, hs9, h⟩ := h
  refine G_xcalli C hZ (Tf := TX8) (N := 10) hk3 (by decide) rfl tw_4_159 tw_4_160 tw_4_161 tw_1_1 tw_4_162 hy_X8_stop ⟨Nat.le_of_ble_eq_true rfl, Nat.le_of_ble_eq_true rfl⟩ (As := [Value.int x1]) (rest := [Value.int 0, va_rf x2]) (c_X8_stop l hl  D cy a1 x1 S m6 m7 _ _ h) rfl (by first | rfl | (simp only [ha2]; rfl) | simp only [ha2]) (by simp [va_cat, vi_cat, vl_cat]) dL_stop_4 ⟨hc8, hs9⟩ (fun E S4 h => ?_) (fun r5 S4 h => ?_)
  · rcases h with ⟨rfl, h⟩ | ⟨rfl, h⟩
    · refine ⟨[], ⟨0, 9, 12, 13⟩, [⟨0, 9, 15, 17⟩], "java/lang/IndexOutOfBoundsException", hT, (by simp), by decide, by decide, im tw_1_134, by simp [NWn], fun q10 => ?_⟩
      refine G_astore_n C (i := 3) (lv' := [(3, va_rf (some q10)), (0, va_rf x0), (1, Value.int x1), (2, va_rf x2)]) dL_stop_12 rfl (by decide) (by first | rfl | simp [va_cat, vi_cat, vl_cat]) ?_
      refine G_iconst C (v := 1) dL_stop_13 (by decide) ?_
      exact G_iret C (mc := mc) (ms := ms) (post := post) hr hc8 hs9 dL_stop_14 h
    · refine ⟨[⟨0, 9, 12, 13⟩], ⟨0, 9, 15, 17⟩, [], "java/lang/IllegalStateException", hT, (by
      intro z hz
      simp only [List.mem_cons, List.not_mem_nil, or_false] at hz
      rcases hz with rfl
      · exact ⟨by decide, "java/lang/IndexOutOfBoundsException", im tw_1_134, C.2.2.2.2.2.1.2.2.2 ("java/lang/IllegalStateException", "java/lang/IndexOutOfBoundsException") (by simp [NCs])⟩), by decide, by decide, im tw_1_136, by simp [NWn], fun q11 => ?_⟩
      refine G_astore_n C (i := 3) (lv' := [(3, va_rf (some q11)), (0, va_rf x0), (1, Value.int x1), (2, va_rf x2)]) dL_stop_15 rfl (by decide) (by first | rfl | simp [va_cat, vi_cat, vl_cat]) ?_
      refine G_iconst C (v := 2) dL_stop_16 (by decide) ?_
      exact G_iret C (mc := mc) (ms := ms) (post := post) hr hc8 hs9 dL_stop_17 h
  · refine G_i2l C dL_stop_7 ?_
    obtain ⟨a12, ha13, h⟩ := h
    refine G_rf2 ha13 ?_
    obtain ⟨hk14, h⟩ := h
    obtain ⟨hi15, h⟩ := h
    refine G_last C hk14 hi15 dL_stop_8 ?_
    generalize e17 : sB S4 a12 ((0 : Int32).toNatClampNeg) r5.toInt64 = S16
    have h := h S16 e17.symm
    refine G_goto C (tgt := 18) dL_stop_9 (by decide) ?_
    refine G_iconst C (v := 0) dL_stop_18 (by decide) ?_
    exact G_iret C (mc := mc) (ms := ms) (post := post) hr hc8 hs9 dL_stop_19 h
set_option maxHeartbeats 4000000 in
set_option maxRecDepth 100000 in
theorem c_L_pass (l : Launch) (hl : l.stackTraces = false) (D : va_G) (cy : Nat → Nat) (x0 : Option Nat) (x1 : Int32) (x2 : Option Nat) (S : PT) (mc ms : Nat) (post : Int32 → PT → Prop) (h : w_L_pass x0 x1 x2 S mc ms post) : Mi l yL_pass (Wh yL_pass method_23_code 4 (Option.some Jvm.ClassFile.FieldType.int) [((0 : Nat), (9 : Nat), (12 : Nat), (15 : Nat)), ((0 : Nat), (9 : Nat), (15 : Nat), (17 : Nat))]) 8 196 D cy [va_rf x0, Value.int x1, va_rf x2] S mc ms post := by
  refine Mih_of (own := "TrenchboardLaw") (by decide) rfl (by first | decide | simp [lg_sl, va_cat, vi_cat, vl_cat]) (fun p e s m below meth c A C hZ hr hT => ?_)
  refine G_lv C (lv' := [(0, va_rf x0), (1, Value.int x1), (2, va_rf x2)]) [0, 1, 2] (by first | rfl | simp [lv_pick, lv_args, va_cat, vi_cat, vl_cat]) ?_
  unfold w_L_pass at h
  refine G_aload_n C (x := x2) 2 dL_pass_0 rfl rfl ?_
  refine G_iconst C (v := 0) dL_pass_1 (by decide) ?_
  refine G_aload_n C (x := x0) 0 dL_pass_2 rfl rfl ?_
  refine G_iload_n C (x := x1) 1 dL_pass_3 rfl rfl ?_
  obtain ⟨a1, ha2, h⟩ := h
  obtain ⟨hk3, h⟩ := h
  obtain ⟨m6, m7, hc8, hs9, h⟩ := h
  refine G_xcalli C hZ (Tf := TX8) (N := 10) hk3 (by decide) rfl tw_4_167 tw_4_168 tw_4_169 tw_1_1 tw_4_170 hy_X8_pass ⟨Nat.le_of_ble_eq_true rfl, Nat.le_of_ble_eq_true rfl⟩ (As := [Value.int x1]) (rest := [Value.int 0, va_rf x2]) (c_X8_pass l hl  D cy a1 x1 S m6 m7 _ _ h) rfl (by first | rfl | (simp only [ha2]; rfl) | simp only [ha2]) (by simp [va_cat, vi_cat, vl_cat]) dL_pass_4 ⟨hc8, hs9⟩ (fun E S4 h => ?_) (fun r5 S4 h => ?_)
  · rcases h with ⟨rfl, h⟩ | ⟨rfl, h⟩
    · refine ⟨[], ⟨0, 9, 12, 15⟩, [⟨0, 9, 15, 17⟩], "java/lang/IllegalArgumentException", hT, (by simp), by decide, by decide, im tw_1_135, by simp [NWn], fun q10 => ?_⟩
      refine G_astore_n C (i := 3) (lv' := [(3, va_rf (some q10)), (0, va_rf x0), (1, Value.int x1), (2, va_rf x2)]) dL_pass_12 rfl (by decide) (by first | rfl | simp [va_cat, vi_cat, vl_cat]) ?_
      refine G_iconst C (v := 1) dL_pass_13 (by decide) ?_
      exact G_iret C (mc := mc) (ms := ms) (post := post) hr hc8 hs9 dL_pass_14 h
    · refine ⟨[⟨0, 9, 12, 15⟩], ⟨0, 9, 15, 17⟩, [], "java/lang/IllegalStateException", hT, (by
      intro z hz
      simp only [List.mem_cons, List.not_mem_nil, or_false] at hz
      rcases hz with rfl
      · exact ⟨by decide, "java/lang/IllegalArgumentException", im tw_1_135, C.2.2.2.2.2.1.2.2.2 ("java/lang/IllegalStateException", "java/lang/IllegalArgumentException") (by simp [NCs])⟩), by decide, by decide, im tw_1_136, by simp [NWn], fun q11 => ?_⟩
      refine G_astore_n C (i := 3) (lv' := [(3, va_rf (some q11)), (0, va_rf x0), (1, Value.int x1), (2, va_rf x2)]) dL_pass_15 rfl (by decide) (by first | rfl | simp [va_cat, vi_cat, vl_cat]) ?_
      refine G_iconst C (v := 2) dL_pass_16 (by decide) ?_
      exact G_iret C (mc := mc) (ms := ms) (post := post) hr hc8 hs9 dL_pass_17 h
  · refine G_i2l C dL_pass_7 ?_
    obtain ⟨a12, ha13, h⟩ := h
    refine G_rf2 ha13 ?_
    obtain ⟨hk14, h⟩ := h
    obtain ⟨hi15, h⟩ := h
    refine G_last C hk14 hi15 dL_pass_8 ?_
    generalize e17 : sB S4 a12 ((0 : Int32).toNatClampNeg) r5.toInt64 = S16
    have h := h S16 e17.symm
    refine G_goto C (tgt := 18) dL_pass_9 (by decide) ?_
    refine G_iconst C (v := 0) dL_pass_18 (by decide) ?_
    exact G_iret C (mc := mc) (ms := ms) (post := post) hr hc8 hs9 dL_pass_19 h
set_option maxHeartbeats 4000000 in
set_option maxRecDepth 100000 in
theorem c_L_defect (l : Launch) (hl : l.stackTraces = false) (D : va_G) (cy : Nat → Nat) (x0 : Option Nat) (x1 : Int32) (x2 : Int32) (x3 : Int32) (x4 : Option Nat) (S : PT) (mc ms : Nat) (post : Int32 → PT → Prop) (h : w_L_defect x0 x1 x2 x3 x4 S mc ms post) : Mi l yL_defect (Wh yL_defect method_24_code 6 (Option.some Jvm.ClassFile.FieldType.int) [((0 : Nat), (12 : Nat), (15 : Nat), (13 : Nat)), ((0 : Nat), (12 : Nat), (19 : Nat), (15 : Nat))]) 7 136 D cy [va_rf x0, Value.int x1, Value.int x2, Value.int x3, va_rf x4] S mc ms post := by
  refine Mih_of (own := "TrenchboardLaw") (by decide) rfl (by first | decide | simp [lg_sl, va_cat, vi_cat, vl_cat]) (fun p e s m below meth c A C hZ hr hT => ?_)
  refine G_lv C (lv' := [(0, va_rf x0), (1, Value.int x1), (2, Value.int x2), (3, Value.int x3), (4, va_rf x4)]) [0, 1, 2, 3, 4] (by first | rfl | simp [lv_pick, lv_args, va_cat, vi_cat, vl_cat]) ?_
  unfold w_L_defect at h
  refine G_aload C (x := x4) 4 dL_defect_0 rfl ?_
  refine G_iconst C (v := 0) dL_defect_2 (by decide) ?_
  refine G_aload_n C (x := x0) 0 dL_defect_3 rfl rfl ?_
  refine G_iload_n C (x := x1) 1 dL_defect_4 rfl rfl ?_
  refine G_iload_n C (x := x2) 2 dL_defect_5 rfl rfl ?_
  refine G_iload_n C (x := x3) 3 dL_defect_6 rfl rfl ?_
  obtain ⟨a1, ha2, h⟩ := h
  obtain ⟨hk3, h⟩ := h
  obtain ⟨m6, m7, hc8, hs9, h⟩ := h
  refine G_xcalli C hZ (Tf := TX8) (N := 10) hk3 (by decide) rfl tw_4_217 tw_4_218 tw_4_219 tw_1_1 tw_4_220 hy_X8_defect ⟨Nat.le_of_ble_eq_true rfl, Nat.le_of_ble_eq_true rfl⟩ (As := [Value.int x1, Value.int x2, Value.int x3]) (rest := [Value.int 0, va_rf x4]) (c_X8_defect l hl  D cy a1 x1 x2 x3 S m6 m7 _ _ h) rfl (by first | rfl | (simp only [ha2]; rfl) | simp only [ha2]) (by simp [va_cat, vi_cat, vl_cat]) dL_defect_7 ⟨hc8, hs9⟩ (fun E S4 h => ?_) (fun r5 S4 h => ?_)
  · rcases h with ⟨rfl, h⟩ | ⟨rfl, h⟩
    · refine ⟨[], ⟨0, 12, 15, 13⟩, [⟨0, 12, 19, 15⟩], "java/lang/IndexOutOfBoundsException", hT, (by simp), by decide, by decide, im tw_1_134, by simp [NWn], fun q10 => ?_⟩
      refine G_astore C (i := 5) (lv' := [(5, va_rf (some q10)), (0, va_rf x0), (1, Value.int x1), (2, Value.int x2), (3, Value.int x3), (4, va_rf x4)]) dL_defect_15 (by decide) (by first | rfl | simp [va_cat, vi_cat, vl_cat]) ?_
      refine G_iconst C (v := 1) dL_defect_17 (by decide) ?_
      exact G_iret C (mc := mc) (ms := ms) (post := post) hr hc8 hs9 dL_defect_18 h
    · refine ⟨[⟨0, 12, 15, 13⟩], ⟨0, 12, 19, 15⟩, [], "java/lang/IllegalArgumentException", hT, (by
      intro z hz
      simp only [List.mem_cons, List.not_mem_nil, or_false] at hz
      rcases hz with rfl
      · exact ⟨by decide, "java/lang/IndexOutOfBoundsException", im tw_1_134, C.2.2.2.2.2.1.2.2.2 ("java/lang/IllegalArgumentException", "java/lang/IndexOutOfBoundsException") (by simp [NCs])⟩), by decide, by decide, im tw_1_135, by simp [NWn], fun q11 => ?_⟩
      refine G_astore C (i := 5) (lv' := [(5, va_rf (some q11)), (0, va_rf x0), (1, Value.int x1), (2, Value.int x2), (3, Value.int x3), (4, va_rf x4)]) dL_defect_19 (by decide) (by first | rfl | simp [va_cat, vi_cat, vl_cat]) ?_
      refine G_iconst C (v := 2) dL_defect_21 (by decide) ?_
      exact G_iret C (mc := mc) (ms := ms) (post := post) hr hc8 hs9 dL_defect_22 h
  · refine G_i2l C dL_defect_10 ?_
    obtain ⟨a12, ha13, h⟩ := h
    refine G_rf2 ha13 ?_
    obtain ⟨hk14, h⟩ := h
    obtain ⟨hi15, h⟩ := h
    refine G_last C hk14 hi15 dL_defect_11 ?_
    generalize e17 : sB S4 a12 ((0 : Int32).toNatClampNeg) r5.toInt64 = S16
    have h := h S16 e17.symm
    refine G_goto C (tgt := 23) dL_defect_12 (by decide) ?_
    refine G_iconst C (v := 0) dL_defect_23 (by decide) ?_
    exact G_iret C (mc := mc) (ms := ms) (post := post) hr hc8 hs9 dL_defect_24 h
set_option maxHeartbeats 4000000 in
set_option maxRecDepth 100000 in
theorem c_L_core (l : Launch) (hl : l.stackTraces = false) (D : va_G) (cy : Nat → Nat) (x0 : Option Nat) (x1 : Int32) (x2 : Int32) (x3 : Option Nat) (S : PT) (mc ms : Nat) (post : Int32 → PT → Prop) (h : w_L_core x0 x1 x2 x3 S mc ms post) : Mi l yL_core (Wh yL_core method_25_code 5 (Option.some Jvm.ClassFile.FieldType.int) [((0 : Nat), (10 : Nat), (13 : Nat), (13 : Nat)), ((0 : Nat), (10 : Nat), (17 : Nat), (17 : Nat))]) 7 115 D cy [va_rf x0, Value.int x1, Value.int x2, va_rf x3] S mc ms post := by
  refine Mih_of (own := "TrenchboardLaw") (by decide) rfl (by first | decide | simp [lg_sl, va_cat, vi_cat, vl_cat]) (fun p e s m below meth c A C hZ hr hT => ?_)
  refine G_lv C (lv' := [(0, va_rf x0), (1, Value.int x1), (2, Value.int x2), (3, va_rf x3)]) [0, 1, 2, 3] (by first | rfl | simp [lv_pick, lv_args, va_cat, vi_cat, vl_cat]) ?_
  unfold w_L_core at h
  refine G_aload_n C (x := x3) 3 dL_core_0 rfl rfl ?_
  refine G_iconst C (v := 0) dL_core_1 (by decide) ?_
  refine G_aload_n C (x := x0) 0 dL_core_2 rfl rfl ?_
  refine G_iload_n C (x := x1) 1 dL_core_3 rfl rfl ?_
  refine G_iload_n C (x := x2) 2 dL_core_4 rfl rfl ?_
  obtain ⟨a1, ha2, h⟩ := h
  obtain ⟨hk3, h⟩ := h
  obtain ⟨m6, m7, hc8, hs9, h⟩ := h
  refine G_xcalli C hZ (Tf := TX8) (N := 10) hk3 (by decide) rfl tw_5_1 tw_5_2 tw_5_3 tw_1_1 tw_5_4 hy_X8_core ⟨Nat.le_of_ble_eq_true rfl, Nat.le_of_ble_eq_true rfl⟩ (As := [Value.int x1, Value.int x2]) (rest := [Value.int 0, va_rf x3]) (c_X8_core l hl  D cy a1 x1 x2 S m6 m7 _ _ h) rfl (by first | rfl | (simp only [ha2]; rfl) | simp only [ha2]) (by simp [va_cat, vi_cat, vl_cat]) dL_core_5 ⟨hc8, hs9⟩ (fun E S4 h => ?_) (fun r5 S4 h => ?_)
  · rcases h with ⟨rfl, h⟩ | ⟨rfl, h⟩
    · refine ⟨[], ⟨0, 10, 13, 13⟩, [⟨0, 10, 17, 17⟩], "java/lang/IndexOutOfBoundsException", hT, (by simp), by decide, by decide, im tw_1_134, by simp [NWn], fun q10 => ?_⟩
      refine G_astore C (i := 4) (lv' := [(4, va_rf (some q10)), (0, va_rf x0), (1, Value.int x1), (2, Value.int x2), (3, va_rf x3)]) dL_core_13 (by decide) (by first | rfl | simp [va_cat, vi_cat, vl_cat]) ?_
      refine G_iconst C (v := 1) dL_core_15 (by decide) ?_
      exact G_iret C (mc := mc) (ms := ms) (post := post) hr hc8 hs9 dL_core_16 h
    · refine ⟨[⟨0, 10, 13, 13⟩], ⟨0, 10, 17, 17⟩, [], "java/lang/IllegalStateException", hT, (by
      intro z hz
      simp only [List.mem_cons, List.not_mem_nil, or_false] at hz
      rcases hz with rfl
      · exact ⟨by decide, "java/lang/IndexOutOfBoundsException", im tw_1_134, C.2.2.2.2.2.1.2.2.2 ("java/lang/IllegalStateException", "java/lang/IndexOutOfBoundsException") (by simp [NCs])⟩), by decide, by decide, im tw_1_136, by simp [NWn], fun q11 => ?_⟩
      refine G_astore C (i := 4) (lv' := [(4, va_rf (some q11)), (0, va_rf x0), (1, Value.int x1), (2, Value.int x2), (3, va_rf x3)]) dL_core_17 (by decide) (by first | rfl | simp [va_cat, vi_cat, vl_cat]) ?_
      refine G_iconst C (v := 2) dL_core_19 (by decide) ?_
      exact G_iret C (mc := mc) (ms := ms) (post := post) hr hc8 hs9 dL_core_20 h
  · refine G_i2l C dL_core_8 ?_
    obtain ⟨a12, ha13, h⟩ := h
    refine G_rf2 ha13 ?_
    obtain ⟨hk14, h⟩ := h
    obtain ⟨hi15, h⟩ := h
    refine G_last C hk14 hi15 dL_core_9 ?_
    generalize e17 : sB S4 a12 ((0 : Int32).toNatClampNeg) r5.toInt64 = S16
    have h := h S16 e17.symm
    refine G_goto C (tgt := 21) dL_core_10 (by decide) ?_
    refine G_iconst C (v := 0) dL_core_21 (by decide) ?_
    exact G_iret C (mc := mc) (ms := ms) (post := post) hr hc8 hs9 dL_core_22 h
set_option maxHeartbeats 4000000 in
set_option maxRecDepth 100000 in
theorem c_L_liable (l : Launch) (hl : l.stackTraces = false) (D : va_G) (cy : Nat → Nat) (x0 : Option Nat) (x1 : Int32) (x2 : Int32) (x3 : Int32) (x4 : Option Nat) (S : PT) (mc ms : Nat) (post : Int32 → PT → Prop) (h : w_L_liable x0 x1 x2 x3 x4 S mc ms post) : Mi l yL_liable (Wh yL_liable method_26_code 6 (Option.some Jvm.ClassFile.FieldType.int) [((0 : Nat), (12 : Nat), (15 : Nat), (13 : Nat)), ((0 : Nat), (12 : Nat), (19 : Nat), (15 : Nat))]) 7 115 D cy [va_rf x0, Value.int x1, Value.int x2, Value.int x3, va_rf x4] S mc ms post := by
  refine Mih_of (own := "TrenchboardLaw") (by decide) rfl (by first | decide | simp [lg_sl, va_cat, vi_cat, vl_cat]) (fun p e s m below meth c A C hZ hr hT => ?_)
  refine G_lv C (lv' := [(0, va_rf x0), (1, Value.int x1), (2, Value.int x2), (3, Value.int x3), (4, va_rf x4)]) [0, 1, 2, 3, 4] (by first | rfl | simp [lv_pick, lv_args, va_cat, vi_cat, vl_cat]) ?_
  unfold w_L_liable at h
  refine G_aload C (x := x4) 4 dL_liable_0 rfl ?_
  refine G_iconst C (v := 0) dL_liable_2 (by decide) ?_
  refine G_aload_n C (x := x0) 0 dL_liable_3 rfl rfl ?_
  refine G_iload_n C (x := x1) 1 dL_liable_4 rfl rfl ?_
  refine G_iload_n C (x := x2) 2 dL_liable_5 rfl rfl ?_
  refine G_iload_n C (x := x3) 3 dL_liable_6 rfl rfl ?_
  obtain ⟨a1, ha2, h⟩ := h
  obtain ⟨hk3, h⟩ := h
  obtain ⟨m6, m7, hc8, hs9, h⟩ := h
  refine G_xcalli C hZ (Tf := TX8) (N := 10) hk3 (by decide) rfl tw_5_13 tw_5_14 tw_5_15 tw_1_1 tw_5_16 hy_X8_liable ⟨Nat.le_of_ble_eq_true rfl, Nat.le_of_ble_eq_true rfl⟩ (As := [Value.int x1, Value.int x2, Value.int x3]) (rest := [Value.int 0, va_rf x4]) (c_X8_liable l hl  D cy a1 x1 x2 x3 S m6 m7 _ _ h) rfl (by first | rfl | (simp only [ha2]; rfl) | simp only [ha2]) (by simp [va_cat, vi_cat, vl_cat]) dL_liable_7 ⟨hc8, hs9⟩ (fun E S4 h => ?_) (fun r5 S4 h => ?_)
  · rcases h with ⟨rfl, h⟩ | ⟨rfl, h⟩
    · refine ⟨[], ⟨0, 12, 15, 13⟩, [⟨0, 12, 19, 15⟩], "java/lang/IndexOutOfBoundsException", hT, (by simp), by decide, by decide, im tw_1_134, by simp [NWn], fun q10 => ?_⟩
      refine G_astore C (i := 5) (lv' := [(5, va_rf (some q10)), (0, va_rf x0), (1, Value.int x1), (2, Value.int x2), (3, Value.int x3), (4, va_rf x4)]) dL_liable_15 (by decide) (by first | rfl | simp [va_cat, vi_cat, vl_cat]) ?_
      refine G_iconst C (v := 1) dL_liable_17 (by decide) ?_
      exact G_iret C (mc := mc) (ms := ms) (post := post) hr hc8 hs9 dL_liable_18 h
    · refine ⟨[⟨0, 12, 15, 13⟩], ⟨0, 12, 19, 15⟩, [], "java/lang/IllegalArgumentException", hT, (by
      intro z hz
      simp only [List.mem_cons, List.not_mem_nil, or_false] at hz
      rcases hz with rfl
      · exact ⟨by decide, "java/lang/IndexOutOfBoundsException", im tw_1_134, C.2.2.2.2.2.1.2.2.2 ("java/lang/IllegalArgumentException", "java/lang/IndexOutOfBoundsException") (by simp [NCs])⟩), by decide, by decide, im tw_1_135, by simp [NWn], fun q11 => ?_⟩
      refine G_astore C (i := 5) (lv' := [(5, va_rf (some q11)), (0, va_rf x0), (1, Value.int x1), (2, Value.int x2), (3, Value.int x3), (4, va_rf x4)]) dL_liable_19 (by decide) (by first | rfl | simp [va_cat, vi_cat, vl_cat]) ?_
      refine G_iconst C (v := 2) dL_liable_21 (by decide) ?_
      exact G_iret C (mc := mc) (ms := ms) (post := post) hr hc8 hs9 dL_liable_22 h
  · refine G_i2l C dL_liable_10 ?_
    obtain ⟨a12, ha13, h⟩ := h
    refine G_rf2 ha13 ?_
    obtain ⟨hk14, h⟩ := h
    obtain ⟨hi15, h⟩ := h
    refine G_last C hk14 hi15 dL_liable_11 ?_
    generalize e17 : sB S4 a12 ((0 : Int32).toNatClampNeg) r5.toInt64 = S16
    have h := h S16 e17.symm
    refine G_goto C (tgt := 23) dL_liable_12 (by decide) ?_
    refine G_iconst C (v := 0) dL_liable_23 (by decide) ?_
    exact G_iret C (mc := mc) (ms := ms) (post := post) hr hc8 hs9 dL_liable_24 h
set_option maxHeartbeats 4000000 in
set_option maxRecDepth 100000 in
theorem c_L_liableAnew (l : Launch) (hl : l.stackTraces = false) (D : va_G) (cy : Nat → Nat) (x0 : Option Nat) (x1 : Int32) (x2 : Int32) (x3 : Int32) (x4 : Option Nat) (S : PT) (mc ms : Nat) (post : Int32 → PT → Prop) (h : w_L_liableAnew x0 x1 x2 x3 x4 S mc ms post) : Mi l yL_liableAnew (Wh yL_liableAnew method_27_code 6 (Option.some Jvm.ClassFile.FieldType.int) [((0 : Nat), (12 : Nat), (15 : Nat), (13 : Nat)), ((0 : Nat), (12 : Nat), (19 : Nat), (15 : Nat))]) 7 120 D cy [va_rf x0, Value.int x1, Value.int x2, Value.int x3, va_rf x4] S mc ms post := by
  refine Mih_of (own := "TrenchboardLaw") (by decide) rfl (by first | decide | simp [lg_sl, va_cat, vi_cat, vl_cat]) (fun p e s m below meth c A C hZ hr hT => ?_)
  refine G_lv C (lv' := [(0, va_rf x0), (1, Value.int x1), (2, Value.int x2), (3, Value.int x3), (4, va_rf x4)]) [0, 1, 2, 3, 4] (by first | rfl | simp [lv_pick, lv_args, va_cat, vi_cat, vl_cat]) ?_
  unfold w_L_liableAnew at h
  refine G_aload C (x := x4) 4 dL_liableAnew_0 rfl ?_
  refine G_iconst C (v := 0) dL_liableAnew_2 (by decide) ?_
  refine G_aload_n C (x := x0) 0 dL_liableAnew_3 rfl rfl ?_
  refine G_iload_n C (x := x1) 1 dL_liableAnew_4 rfl rfl ?_
  refine G_iload_n C (x := x2) 2 dL_liableAnew_5 rfl rfl ?_
  refine G_iload_n C (x := x3) 3 dL_liableAnew_6 rfl rfl ?_
  obtain ⟨a1, ha2, h⟩ := h
  obtain ⟨hk3, h⟩ := h
  obtain ⟨m6, m7, hc8, hs9, h⟩ := h
  refine G_xcalli C hZ (Tf := TX8) (N := 10) hk3 (by decide) rfl tw_5_23 tw_5_24 tw_5_25 tw_1_1 tw_5_26 hy_X8_liableAnew ⟨Nat.le_of_ble_eq_true rfl, Nat.le_of_ble_eq_true rfl⟩ (As := [Value.int x1, Value.int x2, Value.int x3]) (rest := [Value.int 0, va_rf x4]) (c_X8_liableAnew l hl  D cy a1 x1 x2 x3 S m6 m7 _ _ h) rfl (by first | rfl | (simp only [ha2]; rfl) | simp only [ha2]) (by simp [va_cat, vi_cat, vl_cat]) dL_liableAnew_7 ⟨hc8, hs9⟩ (fun E S4 h => ?_) (fun r5 S4 h => ?_)
  · rcases h with ⟨rfl, h⟩ | ⟨rfl, h⟩
    · refine ⟨[], ⟨0, 12, 15, 13⟩, [⟨0, 12, 19, 15⟩], "java/lang/IndexOutOfBoundsException", hT, (by simp), by decide, by decide, im tw_1_134, by simp [NWn], fun q10 => ?_⟩
      refine G_astore C (i := 5) (lv' := [(5, va_rf (some q10)), (0, va_rf x0), (1, Value.int x1), (2, Value.int x2), (3, Value.int x3), (4, va_rf x4)]) dL_liableAnew_15 (by decide) (by first | rfl | simp [va_cat, vi_cat, vl_cat]) ?_
      refine G_iconst C (v := 1) dL_liableAnew_17 (by decide) ?_
      exact G_iret C (mc := mc) (ms := ms) (post := post) hr hc8 hs9 dL_liableAnew_18 h
    · refine ⟨[⟨0, 12, 15, 13⟩], ⟨0, 12, 19, 15⟩, [], "java/lang/IllegalArgumentException", hT, (by
      intro z hz
      simp only [List.mem_cons, List.not_mem_nil, or_false] at hz
      rcases hz with rfl
      · exact ⟨by decide, "java/lang/IndexOutOfBoundsException", im tw_1_134, C.2.2.2.2.2.1.2.2.2 ("java/lang/IllegalArgumentException", "java/lang/IndexOutOfBoundsException") (by simp [NCs])⟩), by decide, by decide, im tw_1_135, by simp [NWn], fun q11 => ?_⟩
      refine G_astore C (i := 5) (lv' := [(5, va_rf (some q11)), (0, va_rf x0), (1, Value.int x1), (2, Value.int x2), (3, Value.int x3), (4, va_rf x4)]) dL_liableAnew_19 (by decide) (by first | rfl | simp [va_cat, vi_cat, vl_cat]) ?_
      refine G_iconst C (v := 2) dL_liableAnew_21 (by decide) ?_
      exact G_iret C (mc := mc) (ms := ms) (post := post) hr hc8 hs9 dL_liableAnew_22 h
  · refine G_i2l C dL_liableAnew_10 ?_
    obtain ⟨a12, ha13, h⟩ := h
    refine G_rf2 ha13 ?_
    obtain ⟨hk14, h⟩ := h
    obtain ⟨hi15, h⟩ := h
    refine G_last C hk14 hi15 dL_liableAnew_11 ?_
    generalize e17 : sB S4 a12 ((0 : Int32).toNatClampNeg) r5.toInt64 = S16
    have h := h S16 e17.symm
    refine G_goto C (tgt := 23) dL_liableAnew_12 (by decide) ?_
    refine G_iconst C (v := 0) dL_liableAnew_23 (by decide) ?_
    exact G_iret C (mc := mc) (ms := ms) (post := post) hr hc8 hs9 dL_liableAnew_24 h
set_option maxHeartbeats 4000000 in
set_option maxRecDepth 100000 in
theorem c_L_bars (l : Launch) (hl : l.stackTraces = false) (D : va_G) (cy : Nat → Nat) (x0 : Option Nat) (x1 : Int32) (x2 : Option Nat) (S : PT) (mc ms : Nat) (post : Int32 → PT → Prop) (h : w_L_bars x0 x1 x2 S mc ms post) : Mi l yL_bars (Wh yL_bars method_28_code 4 (Option.some Jvm.ClassFile.FieldType.int) [((0 : Nat), (9 : Nat), (12 : Nat), (13 : Nat))]) 7 113 D cy [va_rf x0, Value.int x1, va_rf x2] S mc ms post := by
  refine Mih_of (own := "TrenchboardLaw") (by decide) rfl (by first | decide | simp [lg_sl, va_cat, vi_cat, vl_cat]) (fun p e s m below meth c A C hZ hr hT => ?_)
  refine G_lv C (lv' := [(0, va_rf x0), (1, Value.int x1), (2, va_rf x2)]) [0, 1, 2] (by first | rfl | simp [lv_pick, lv_args, va_cat, vi_cat, vl_cat]) ?_
  unfold w_L_bars at h
  refine G_aload_n C (x := x2) 2 dL_bars_0 rfl rfl ?_
  refine G_iconst C (v := 0) dL_bars_1 (by decide) ?_
  refine G_aload_n C (x := x0) 0 dL_bars_2 rfl rfl ?_
  refine G_iload_n C (x := x1) 1 dL_bars_3 rfl rfl ?_
  obtain ⟨a1, ha2, h⟩ := h
  obtain ⟨hk3, h⟩ := h
  obtain ⟨m6, m7, hc8, hs9, h⟩ := h
  refine G_xcalli C hZ (Tf := TX8) (N := 10) hk3 (by decide) rfl tw_5_52 tw_5_53 tw_5_54 tw_1_1 tw_5_55 hy_X8_bars ⟨Nat.le_of_ble_eq_true rfl, Nat.le_of_ble_eq_true rfl⟩ (As := [Value.int x1]) (rest := [Value.int 0, va_rf x2]) (c_X8_bars l hl  D cy a1 x1 S m6 m7 _ _ h) rfl (by first | rfl | (simp only [ha2]; rfl) | simp only [ha2]) (by simp [va_cat, vi_cat, vl_cat]) dL_bars_4 ⟨hc8, hs9⟩ (fun E S4 h => ?_) (fun r5 S4 h => ?_)
  · rcases h with ⟨rfl, h⟩
    · refine ⟨[], ⟨0, 9, 12, 13⟩, [], "java/lang/IndexOutOfBoundsException", hT, (by simp), by decide, by decide, im tw_1_134, by simp [NWn], fun q10 => ?_⟩
      refine G_astore_n C (i := 3) (lv' := [(3, va_rf (some q10)), (0, va_rf x0), (1, Value.int x1), (2, va_rf x2)]) dL_bars_12 rfl (by decide) (by first | rfl | simp [va_cat, vi_cat, vl_cat]) ?_
      refine G_iconst C (v := 1) dL_bars_13 (by decide) ?_
      exact G_iret C (mc := mc) (ms := ms) (post := post) hr hc8 hs9 dL_bars_14 h
  · refine G_i2l C dL_bars_7 ?_
    obtain ⟨a11, ha12, h⟩ := h
    refine G_rf2 ha12 ?_
    obtain ⟨hk13, h⟩ := h
    obtain ⟨hi14, h⟩ := h
    refine G_last C hk13 hi14 dL_bars_8 ?_
    generalize e16 : sB S4 a11 ((0 : Int32).toNatClampNeg) r5.toInt64 = S15
    have h := h S15 e16.symm
    refine G_goto C (tgt := 15) dL_bars_9 (by decide) ?_
    refine G_iconst C (v := 0) dL_bars_15 (by decide) ?_
    exact G_iret C (mc := mc) (ms := ms) (post := post) hr hc8 hs9 dL_bars_16 h
set_option maxHeartbeats 4000000 in
set_option maxRecDepth 100000 in
theorem c_L_meets (l : Launch) (hl : l.stackTraces = false) (D : va_G) (cy : Nat → Nat) (x0 : Option Nat) (x1 : Int32) (x2 : Int32) (x3 : Option Nat) (S : PT) (mc ms : Nat) (post : Int32 → PT → Prop) (h : w_L_meets x0 x1 x2 x3 S mc ms post) : Mi l yL_meets (Wh yL_meets method_29_code 5 (Option.some Jvm.ClassFile.FieldType.int) [((0 : Nat), (10 : Nat), (13 : Nat), (13 : Nat)), ((0 : Nat), (10 : Nat), (17 : Nat), (15 : Nat))]) 7 113 D cy [va_rf x0, Value.int x1, Value.int x2, va_rf x3] S mc ms post := by
  refine Mih_of (own := "TrenchboardLaw") (by decide) rfl (by first | decide | simp [lg_sl, va_cat, vi_cat, vl_cat]) (fun p e s m below meth c A C hZ hr hT => ?_)
  refine G_lv C (lv' := [(0, va_rf x0), (1, Value.int x1), (2, Value.int x2), (3, va_rf x3)]) [0, 1, 2, 3] (by first | rfl | simp [lv_pick, lv_args, va_cat, vi_cat, vl_cat]) ?_
  unfold w_L_meets at h
  refine G_aload_n C (x := x3) 3 dL_meets_0 rfl rfl ?_
  refine G_iconst C (v := 0) dL_meets_1 (by decide) ?_
  refine G_aload_n C (x := x0) 0 dL_meets_2 rfl rfl ?_
  refine G_iload_n C (x := x1) 1 dL_meets_3 rfl rfl ?_
  refine G_iload_n C (x := x2) 2 dL_meets_4 rfl rfl ?_
  obtain ⟨a1, ha2, h⟩ := h
  obtain ⟨hk3, h⟩ := h
  obtain ⟨m6, m7, hc8, hs9, h⟩ := h
  refine G_xcalli C hZ (Tf := TX8) (N := 10) hk3 (by decide) rfl tw_5_59 tw_5_60 tw_5_61 tw_1_1 tw_5_62 hy_X8_meets ⟨Nat.le_of_ble_eq_true rfl, Nat.le_of_ble_eq_true rfl⟩ (As := [Value.int x1, Value.int x2]) (rest := [Value.int 0, va_rf x3]) (c_X8_meets l hl  D cy a1 x1 x2 S m6 m7 _ _ h) rfl (by first | rfl | (simp only [ha2]; rfl) | simp only [ha2]) (by simp [va_cat, vi_cat, vl_cat]) dL_meets_5 ⟨hc8, hs9⟩ (fun E S4 h => ?_) (fun r5 S4 h => ?_)
  · rcases h with ⟨rfl, h⟩ | ⟨rfl, h⟩
    · refine ⟨[], ⟨0, 10, 13, 13⟩, [⟨0, 10, 17, 15⟩], "java/lang/IndexOutOfBoundsException", hT, (by simp), by decide, by decide, im tw_1_134, by simp [NWn], fun q10 => ?_⟩
      refine G_astore C (i := 4) (lv' := [(4, va_rf (some q10)), (0, va_rf x0), (1, Value.int x1), (2, Value.int x2), (3, va_rf x3)]) dL_meets_13 (by decide) (by first | rfl | simp [va_cat, vi_cat, vl_cat]) ?_
      refine G_iconst C (v := 1) dL_meets_15 (by decide) ?_
      exact G_iret C (mc := mc) (ms := ms) (post := post) hr hc8 hs9 dL_meets_16 h
    · refine ⟨[⟨0, 10, 13, 13⟩], ⟨0, 10, 17, 15⟩, [], "java/lang/IllegalArgumentException", hT, (by
      intro z hz
      simp only [List.mem_cons, List.not_mem_nil, or_false] at hz
      rcases hz with rfl
      · exact ⟨by decide, "java/lang/IndexOutOfBoundsException", im tw_1_134, C.2.2.2.2.2.1.2.2.2 ("java/lang/IllegalArgumentException", "java/lang/IndexOutOfBoundsException") (by simp [NCs])⟩), by decide, by decide, im tw_1_135, by simp [NWn], fun q11 => ?_⟩
      refine G_astore C (i := 4) (lv' := [(4, va_rf (some q11)), (0, va_rf x0), (1, Value.int x1), (2, Value.int x2), (3, va_rf x3)]) dL_meets_17 (by decide) (by first | rfl | simp [va_cat, vi_cat, vl_cat]) ?_
      refine G_iconst C (v := 2) dL_meets_19 (by decide) ?_
      exact G_iret C (mc := mc) (ms := ms) (post := post) hr hc8 hs9 dL_meets_20 h
  · refine G_i2l C dL_meets_8 ?_
    obtain ⟨a12, ha13, h⟩ := h
    refine G_rf2 ha13 ?_
    obtain ⟨hk14, h⟩ := h
    obtain ⟨hi15, h⟩ := h
    refine G_last C hk14 hi15 dL_meets_9 ?_
    generalize e17 : sB S4 a12 ((0 : Int32).toNatClampNeg) r5.toInt64 = S16
    have h := h S16 e17.symm
    refine G_goto C (tgt := 21) dL_meets_10 (by decide) ?_
    refine G_iconst C (v := 0) dL_meets_21 (by decide) ?_
    exact G_iret C (mc := mc) (ms := ms) (post := post) hr hc8 hs9 dL_meets_22 h
set_option maxHeartbeats 4000000 in
set_option maxRecDepth 100000 in
theorem c_L_of (l : Launch) (hl : l.stackTraces = false) (D : va_G) (cy : Nat → Nat) (x0 : Option Nat) (x1 : Int32) (x2 : Int32) (x3 : Option Nat) (S : PT) (mc ms : Nat) (post : Int32 → PT → Prop) (h : w_L_of x0 x1 x2 x3 S mc ms post) : Mi l yL_of (Wh yL_of method_30_code 5 (Option.some Jvm.ClassFile.FieldType.int) [((0 : Nat), (10 : Nat), (13 : Nat), (13 : Nat)), ((0 : Nat), (10 : Nat), (17 : Nat), (15 : Nat))]) 7 113 D cy [va_rf x0, Value.int x1, Value.int x2, va_rf x3] S mc ms post := by
  refine Mih_of (own := "TrenchboardLaw") (by decide) rfl (by first | decide | simp [lg_sl, va_cat, vi_cat, vl_cat]) (fun p e s m below meth c A C hZ hr hT => ?_)
  refine G_lv C (lv' := [(0, va_rf x0), (1, Value.int x1), (2, Value.int x2), (3, va_rf x3)]) [0, 1, 2, 3] (by first | rfl | simp [lv_pick, lv_args, va_cat, vi_cat, vl_cat]) ?_
  unfold w_L_of at h
  refine G_aload_n C (x := x3) 3 dL_of_0 rfl rfl ?_
  refine G_iconst C (v := 0) dL_of_1 (by decide) ?_
  refine G_aload_n C (x := x0) 0 dL_of_2 rfl rfl ?_
  refine G_iload_n C (x := x1) 1 dL_of_3 rfl rfl ?_
  refine G_iload_n C (x := x2) 2 dL_of_4 rfl rfl ?_
  obtain ⟨a1, ha2, h⟩ := h
  obtain ⟨hk3, h⟩ := h
  obtain ⟨m6, m7, hc8, hs9, h⟩ := h
  refine G_xcalli C hZ (Tf := TX8) (N := 10) hk3 (by decide) rfl tw_5_67 tw_5_68 tw_5_69 tw_1_1 tw_5_70 hy_X8_of ⟨Nat.le_of_ble_eq_true rfl, Nat.le_of_ble_eq_true rfl⟩ (As := [Value.int x1, Value.int x2]) (rest := [Value.int 0, va_rf x3]) (c_X8_of l hl  D cy a1 x1 x2 S m6 m7 _ _ h) rfl (by first | rfl | (simp only [ha2]; rfl) | simp only [ha2]) (by simp [va_cat, vi_cat, vl_cat]) dL_of_5 ⟨hc8, hs9⟩ (fun E S4 h => ?_) (fun r5 S4 h => ?_)
  · rcases h with ⟨rfl, h⟩ | ⟨rfl, h⟩
    · refine ⟨[], ⟨0, 10, 13, 13⟩, [⟨0, 10, 17, 15⟩], "java/lang/IndexOutOfBoundsException", hT, (by simp), by decide, by decide, im tw_1_134, by simp [NWn], fun q10 => ?_⟩
      refine G_astore C (i := 4) (lv' := [(4, va_rf (some q10)), (0, va_rf x0), (1, Value.int x1), (2, Value.int x2), (3, va_rf x3)]) dL_of_13 (by decide) (by first | rfl | simp [va_cat, vi_cat, vl_cat]) ?_
      refine G_iconst C (v := 1) dL_of_15 (by decide) ?_
      exact G_iret C (mc := mc) (ms := ms) (post := post) hr hc8 hs9 dL_of_16 h
    · refine ⟨[⟨0, 10, 13, 13⟩], ⟨0, 10, 17, 15⟩, [], "java/lang/IllegalArgumentException", hT, (by
      intro z hz
      simp only [List.mem_cons, List.not_mem_nil, or_false] at hz
      rcases hz with rfl
      · exact ⟨by decide, "java/lang/IndexOutOfBoundsException", im tw_1_134, C.2.2.2.2.2.1.2.2.2 ("java/lang/IllegalArgumentException", "java/lang/IndexOutOfBoundsException") (by simp [NCs])⟩), by decide, by decide, im tw_1_135, by simp [NWn], fun q11 => ?_⟩
      refine G_astore C (i := 4) (lv' := [(4, va_rf (some q11)), (0, va_rf x0), (1, Value.int x1), (2, Value.int x2), (3, va_rf x3)]) dL_of_17 (by decide) (by first | rfl | simp [va_cat, vi_cat, vl_cat]) ?_
      refine G_iconst C (v := 2) dL_of_19 (by decide) ?_
      exact G_iret C (mc := mc) (ms := ms) (post := post) hr hc8 hs9 dL_of_20 h
  · refine G_i2l C dL_of_8 ?_
    obtain ⟨a12, ha13, h⟩ := h
    refine G_rf2 ha13 ?_
    obtain ⟨hk14, h⟩ := h
    obtain ⟨hi15, h⟩ := h
    refine G_last C hk14 hi15 dL_of_9 ?_
    generalize e17 : sB S4 a12 ((0 : Int32).toNatClampNeg) r5.toInt64 = S16
    have h := h S16 e17.symm
    refine G_goto C (tgt := 21) dL_of_10 (by decide) ?_
    refine G_iconst C (v := 0) dL_of_21 (by decide) ?_
    exact G_iret C (mc := mc) (ms := ms) (post := post) hr hc8 hs9 dL_of_22 h
set_option maxHeartbeats 4000000 in
set_option maxRecDepth 100000 in
theorem c_L_metre (l : Launch) (hl : l.stackTraces = false) (D : va_G) (cy : Nat → Nat) (x0 : Option Nat) (x1 : Int32) (x2 : Int32) (x3 : Int32) (x4 : Option Nat) (S : PT) (mc ms : Nat) (post : Int32 → PT → Prop) (h : w_L_metre x0 x1 x2 x3 x4 S mc ms post) : Mi l yL_metre (Wh yL_metre method_31_code 6 (Option.some Jvm.ClassFile.FieldType.int) [((0 : Nat), (12 : Nat), (15 : Nat), (13 : Nat)), ((0 : Nat), (12 : Nat), (19 : Nat), (15 : Nat))]) 7 115 D cy [va_rf x0, Value.int x1, Value.int x2, Value.int x3, va_rf x4] S mc ms post := by
  refine Mih_of (own := "TrenchboardLaw") (by decide) rfl (by first | decide | simp [lg_sl, va_cat, vi_cat, vl_cat]) (fun p e s m below meth c A C hZ hr hT => ?_)
  refine G_lv C (lv' := [(0, va_rf x0), (1, Value.int x1), (2, Value.int x2), (3, Value.int x3), (4, va_rf x4)]) [0, 1, 2, 3, 4] (by first | rfl | simp [lv_pick, lv_args, va_cat, vi_cat, vl_cat]) ?_
  unfold w_L_metre at h
  refine G_aload C (x := x4) 4 dL_metre_0 rfl ?_
  refine G_iconst C (v := 0) dL_metre_2 (by decide) ?_
  refine G_aload_n C (x := x0) 0 dL_metre_3 rfl rfl ?_
  refine G_iload_n C (x := x1) 1 dL_metre_4 rfl rfl ?_
  refine G_iload_n C (x := x2) 2 dL_metre_5 rfl rfl ?_
  refine G_iload_n C (x := x3) 3 dL_metre_6 rfl rfl ?_
  obtain ⟨a1, ha2, h⟩ := h
  obtain ⟨hk3, h⟩ := h
  obtain ⟨m6, m7, hc8, hs9, h⟩ := h
  refine G_xcalli C hZ (Tf := TX8) (N := 10) hk3 (by decide) rfl tw_5_75 tw_5_76 tw_5_77 tw_1_1 tw_5_78 hy_X8_metre ⟨Nat.le_of_ble_eq_true rfl, Nat.le_of_ble_eq_true rfl⟩ (As := [Value.int x1, Value.int x2, Value.int x3]) (rest := [Value.int 0, va_rf x4]) (c_X8_metre l hl  D cy a1 x1 x2 x3 S m6 m7 _ _ h) rfl (by first | rfl | (simp only [ha2]; rfl) | simp only [ha2]) (by simp [va_cat, vi_cat, vl_cat]) dL_metre_7 ⟨hc8, hs9⟩ (fun E S4 h => ?_) (fun r5 S4 h => ?_)
  · rcases h with ⟨rfl, h⟩ | ⟨rfl, h⟩
    · refine ⟨[], ⟨0, 12, 15, 13⟩, [⟨0, 12, 19, 15⟩], "java/lang/IndexOutOfBoundsException", hT, (by simp), by decide, by decide, im tw_1_134, by simp [NWn], fun q10 => ?_⟩
      refine G_astore C (i := 5) (lv' := [(5, va_rf (some q10)), (0, va_rf x0), (1, Value.int x1), (2, Value.int x2), (3, Value.int x3), (4, va_rf x4)]) dL_metre_15 (by decide) (by first | rfl | simp [va_cat, vi_cat, vl_cat]) ?_
      refine G_iconst C (v := 1) dL_metre_17 (by decide) ?_
      exact G_iret C (mc := mc) (ms := ms) (post := post) hr hc8 hs9 dL_metre_18 h
    · refine ⟨[⟨0, 12, 15, 13⟩], ⟨0, 12, 19, 15⟩, [], "java/lang/IllegalArgumentException", hT, (by
      intro z hz
      simp only [List.mem_cons, List.not_mem_nil, or_false] at hz
      rcases hz with rfl
      · exact ⟨by decide, "java/lang/IndexOutOfBoundsException", im tw_1_134, C.2.2.2.2.2.1.2.2.2 ("java/lang/IllegalArgumentException", "java/lang/IndexOutOfBoundsException") (by simp [NCs])⟩), by decide, by decide, im tw_1_135, by simp [NWn], fun q11 => ?_⟩
      refine G_astore C (i := 5) (lv' := [(5, va_rf (some q11)), (0, va_rf x0), (1, Value.int x1), (2, Value.int x2), (3, Value.int x3), (4, va_rf x4)]) dL_metre_19 (by decide) (by first | rfl | simp [va_cat, vi_cat, vl_cat]) ?_
      refine G_iconst C (v := 2) dL_metre_21 (by decide) ?_
      exact G_iret C (mc := mc) (ms := ms) (post := post) hr hc8 hs9 dL_metre_22 h
  · refine G_i2l C dL_metre_10 ?_
    obtain ⟨a12, ha13, h⟩ := h
    refine G_rf2 ha13 ?_
    obtain ⟨hk14, h⟩ := h
    obtain ⟨hi15, h⟩ := h
    refine G_last C hk14 hi15 dL_metre_11 ?_
    generalize e17 : sB S4 a12 ((0 : Int32).toNatClampNeg) r5.toInt64 = S16
    have h := h S16 e17.symm
    refine G_goto C (tgt := 23) dL_metre_12 (by decide) ?_
    refine G_iconst C (v := 0) dL_metre_23 (by decide) ?_
    exact G_iret C (mc := mc) (ms := ms) (post := post) hr hc8 hs9 dL_metre_24 h
set_option maxHeartbeats 4000000 in
set_option maxRecDepth 100000 in
theorem c_L_search (l : Launch) (hl : l.stackTraces = false) (D : va_G) (cy : Nat → Nat) (x0 : Option Nat) (x1 : Int32) (x2 : Int32) (x3 : Int32) (x4 : Option Nat) (S : PT) (mc ms : Nat) (post : Int32 → PT → Prop) (h : w_L_search x0 x1 x2 x3 x4 S mc ms post) : Mi l yL_search (Wh yL_search method_32_code 6 (Option.some Jvm.ClassFile.FieldType.int) [((0 : Nat), (12 : Nat), (15 : Nat), (13 : Nat)), ((0 : Nat), (12 : Nat), (19 : Nat), (15 : Nat))]) 7 114 D cy [va_rf x0, Value.int x1, Value.int x2, Value.int x3, va_rf x4] S mc ms post := by
  refine Mih_of (own := "TrenchboardLaw") (by decide) rfl (by first | decide | simp [lg_sl, va_cat, vi_cat, vl_cat]) (fun p e s m below meth c A C hZ hr hT => ?_)
  refine G_lv C (lv' := [(0, va_rf x0), (1, Value.int x1), (2, Value.int x2), (3, Value.int x3), (4, va_rf x4)]) [0, 1, 2, 3, 4] (by first | rfl | simp [lv_pick, lv_args, va_cat, vi_cat, vl_cat]) ?_
  unfold w_L_search at h
  refine G_aload C (x := x4) 4 dL_search_0 rfl ?_
  refine G_iconst C (v := 0) dL_search_2 (by decide) ?_
  refine G_aload_n C (x := x0) 0 dL_search_3 rfl rfl ?_
  refine G_iload_n C (x := x1) 1 dL_search_4 rfl rfl ?_
  refine G_iload_n C (x := x2) 2 dL_search_5 rfl rfl ?_
  refine G_iload_n C (x := x3) 3 dL_search_6 rfl rfl ?_
  obtain ⟨a1, ha2, h⟩ := h
  obtain ⟨hk3, h⟩ := h
  obtain ⟨m6, m7, hc8, hs9, h⟩ := h
  refine G_xcalli C hZ (Tf := TX8) (N := 10) hk3 (by decide) rfl tw_5_82 tw_5_83 tw_5_84 tw_1_1 tw_5_85 hy_X8_search ⟨Nat.le_of_ble_eq_true rfl, Nat.le_of_ble_eq_true rfl⟩ (As := [Value.int x1, Value.int x2, Value.int x3]) (rest := [Value.int 0, va_rf x4]) (c_X8_search l hl  D cy a1 x1 x2 x3 S m6 m7 _ _ h) rfl (by first | rfl | (simp only [ha2]; rfl) | simp only [ha2]) (by simp [va_cat, vi_cat, vl_cat]) dL_search_7 ⟨hc8, hs9⟩ (fun E S4 h => ?_) (fun r5 S4 h => ?_)
  · rcases h with ⟨rfl, h⟩ | ⟨rfl, h⟩
    · refine ⟨[], ⟨0, 12, 15, 13⟩, [⟨0, 12, 19, 15⟩], "java/lang/IndexOutOfBoundsException", hT, (by simp), by decide, by decide, im tw_1_134, by simp [NWn], fun q10 => ?_⟩
      refine G_astore C (i := 5) (lv' := [(5, va_rf (some q10)), (0, va_rf x0), (1, Value.int x1), (2, Value.int x2), (3, Value.int x3), (4, va_rf x4)]) dL_search_15 (by decide) (by first | rfl | simp [va_cat, vi_cat, vl_cat]) ?_
      refine G_iconst C (v := 1) dL_search_17 (by decide) ?_
      exact G_iret C (mc := mc) (ms := ms) (post := post) hr hc8 hs9 dL_search_18 h
    · refine ⟨[⟨0, 12, 15, 13⟩], ⟨0, 12, 19, 15⟩, [], "java/lang/IllegalArgumentException", hT, (by
      intro z hz
      simp only [List.mem_cons, List.not_mem_nil, or_false] at hz
      rcases hz with rfl
      · exact ⟨by decide, "java/lang/IndexOutOfBoundsException", im tw_1_134, C.2.2.2.2.2.1.2.2.2 ("java/lang/IllegalArgumentException", "java/lang/IndexOutOfBoundsException") (by simp [NCs])⟩), by decide, by decide, im tw_1_135, by simp [NWn], fun q11 => ?_⟩
      refine G_astore C (i := 5) (lv' := [(5, va_rf (some q11)), (0, va_rf x0), (1, Value.int x1), (2, Value.int x2), (3, Value.int x3), (4, va_rf x4)]) dL_search_19 (by decide) (by first | rfl | simp [va_cat, vi_cat, vl_cat]) ?_
      refine G_iconst C (v := 2) dL_search_21 (by decide) ?_
      exact G_iret C (mc := mc) (ms := ms) (post := post) hr hc8 hs9 dL_search_22 h
  · refine G_i2l C dL_search_10 ?_
    obtain ⟨a12, ha13, h⟩ := h
    refine G_rf2 ha13 ?_
    obtain ⟨hk14, h⟩ := h
    obtain ⟨hi15, h⟩ := h
    refine G_last C hk14 hi15 dL_search_11 ?_
    generalize e17 : sB S4 a12 ((0 : Int32).toNatClampNeg) r5.toInt64 = S16
    have h := h S16 e17.symm
    refine G_goto C (tgt := 23) dL_search_12 (by decide) ?_
    refine G_iconst C (v := 0) dL_search_23 (by decide) ?_
    exact G_iret C (mc := mc) (ms := ms) (post := post) hr hc8 hs9 dL_search_24 h
set_option maxHeartbeats 4000000 in
set_option maxRecDepth 100000 in
theorem c_L_queue (l : Launch) (hl : l.stackTraces = false) (D : va_G) (cy : Nat → Nat) (x0 : Option Nat) (x1 : Int32) (x2 : Option Nat) (S : PT) (mc ms : Nat) (post : Int32 → PT → Prop) (h : w_L_queue x0 x1 x2 S mc ms post) : Mi l yL_queue (Wh yL_queue method_33_code 4 (Option.some Jvm.ClassFile.FieldType.int) [((0 : Nat), (9 : Nat), (12 : Nat), (13 : Nat))]) 7 112 D cy [va_rf x0, Value.int x1, va_rf x2] S mc ms post := by
  refine Mih_of (own := "TrenchboardLaw") (by decide) rfl (by first | decide | simp [lg_sl, va_cat, vi_cat, vl_cat]) (fun p e s m below meth c A C hZ hr hT => ?_)
  refine G_lv C (lv' := [(0, va_rf x0), (1, Value.int x1), (2, va_rf x2)]) [0, 1, 2] (by first | rfl | simp [lv_pick, lv_args, va_cat, vi_cat, vl_cat]) ?_
  unfold w_L_queue at h
  refine G_aload_n C (x := x2) 2 dL_queue_0 rfl rfl ?_
  refine G_iconst C (v := 0) dL_queue_1 (by decide) ?_
  refine G_aload_n C (x := x0) 0 dL_queue_2 rfl rfl ?_
  refine G_iload_n C (x := x1) 1 dL_queue_3 rfl rfl ?_
  obtain ⟨a1, ha2, h⟩ := h
  obtain ⟨hk3, h⟩ := h
  obtain ⟨m6, m7, hc8, hs9, h⟩ := h
  refine G_xcalli C hZ (Tf := TX8) (N := 10) hk3 (by decide) rfl tw_5_90 tw_5_91 tw_5_92 tw_1_1 tw_5_93 hy_X8_queue ⟨Nat.le_of_ble_eq_true rfl, Nat.le_of_ble_eq_true rfl⟩ (As := [Value.int x1]) (rest := [Value.int 0, va_rf x2]) (c_X8_queue l hl  D cy a1 x1 S m6 m7 _ _ h) rfl (by first | rfl | (simp only [ha2]; rfl) | simp only [ha2]) (by simp [va_cat, vi_cat, vl_cat]) dL_queue_4 ⟨hc8, hs9⟩ (fun E S4 h => ?_) (fun r5 S4 h => ?_)
  · rcases h with ⟨rfl, h⟩
    · refine ⟨[], ⟨0, 9, 12, 13⟩, [], "java/lang/IndexOutOfBoundsException", hT, (by simp), by decide, by decide, im tw_1_134, by simp [NWn], fun q10 => ?_⟩
      refine G_astore_n C (i := 3) (lv' := [(3, va_rf (some q10)), (0, va_rf x0), (1, Value.int x1), (2, va_rf x2)]) dL_queue_12 rfl (by decide) (by first | rfl | simp [va_cat, vi_cat, vl_cat]) ?_
      refine G_iconst C (v := 1) dL_queue_13 (by decide) ?_
      exact G_iret C (mc := mc) (ms := ms) (post := post) hr hc8 hs9 dL_queue_14 h
  · refine G_i2l C dL_queue_7 ?_
    obtain ⟨a11, ha12, h⟩ := h
    refine G_rf2 ha12 ?_
    obtain ⟨hk13, h⟩ := h
    obtain ⟨hi14, h⟩ := h
    refine G_last C hk13 hi14 dL_queue_8 ?_
    generalize e16 : sB S4 a11 ((0 : Int32).toNatClampNeg) r5.toInt64 = S15
    have h := h S15 e16.symm
    refine G_goto C (tgt := 15) dL_queue_9 (by decide) ?_
    refine G_iconst C (v := 0) dL_queue_15 (by decide) ?_
    exact G_iret C (mc := mc) (ms := ms) (post := post) hr hc8 hs9 dL_queue_16 h
set_option maxHeartbeats 4000000 in
set_option maxRecDepth 100000 in
theorem c_L_due (l : Launch) (hl : l.stackTraces = false) (D : va_G) (cy : Nat → Nat) (x0 : Option Nat) (x1 : Int32) (x2 : Option Nat) (S : PT) (mc ms : Nat) (post : Int32 → PT → Prop) (h : w_L_due x0 x1 x2 S mc ms post) : Mi l yL_due (Wh yL_due method_34_code 4 (Option.some Jvm.ClassFile.FieldType.int) [((0 : Nat), (9 : Nat), (12 : Nat), (13 : Nat))]) 7 113 D cy [va_rf x0, Value.int x1, va_rf x2] S mc ms post := by
  refine Mih_of (own := "TrenchboardLaw") (by decide) rfl (by first | decide | simp [lg_sl, va_cat, vi_cat, vl_cat]) (fun p e s m below meth c A C hZ hr hT => ?_)
  refine G_lv C (lv' := [(0, va_rf x0), (1, Value.int x1), (2, va_rf x2)]) [0, 1, 2] (by first | rfl | simp [lv_pick, lv_args, va_cat, vi_cat, vl_cat]) ?_
  unfold w_L_due at h
  refine G_aload_n C (x := x2) 2 dL_due_0 rfl rfl ?_
  refine G_iconst C (v := 0) dL_due_1 (by decide) ?_
  refine G_aload_n C (x := x0) 0 dL_due_2 rfl rfl ?_
  refine G_iload_n C (x := x1) 1 dL_due_3 rfl rfl ?_
  obtain ⟨a1, ha2, h⟩ := h
  obtain ⟨hk3, h⟩ := h
  obtain ⟨m6, m7, hc8, hs9, h⟩ := h
  refine G_xcalli C hZ (Tf := TX8) (N := 10) hk3 (by decide) rfl tw_5_97 tw_5_98 tw_5_99 tw_1_1 tw_5_100 hy_X8_due ⟨Nat.le_of_ble_eq_true rfl, Nat.le_of_ble_eq_true rfl⟩ (As := [Value.int x1]) (rest := [Value.int 0, va_rf x2]) (c_X8_due l hl  D cy a1 x1 S m6 m7 _ _ h) rfl (by first | rfl | (simp only [ha2]; rfl) | simp only [ha2]) (by simp [va_cat, vi_cat, vl_cat]) dL_due_4 ⟨hc8, hs9⟩ (fun E S4 h => ?_) (fun r5 S4 h => ?_)
  · rcases h with ⟨rfl, h⟩
    · refine ⟨[], ⟨0, 9, 12, 13⟩, [], "java/lang/IndexOutOfBoundsException", hT, (by simp), by decide, by decide, im tw_1_134, by simp [NWn], fun q10 => ?_⟩
      refine G_astore_n C (i := 3) (lv' := [(3, va_rf (some q10)), (0, va_rf x0), (1, Value.int x1), (2, va_rf x2)]) dL_due_12 rfl (by decide) (by first | rfl | simp [va_cat, vi_cat, vl_cat]) ?_
      refine G_iconst C (v := 1) dL_due_13 (by decide) ?_
      exact G_iret C (mc := mc) (ms := ms) (post := post) hr hc8 hs9 dL_due_14 h
  · refine G_i2l C dL_due_7 ?_
    obtain ⟨a11, ha12, h⟩ := h
    refine G_rf2 ha12 ?_
    obtain ⟨hk13, h⟩ := h
    obtain ⟨hi14, h⟩ := h
    refine G_last C hk13 hi14 dL_due_8 ?_
    generalize e16 : sB S4 a11 ((0 : Int32).toNatClampNeg) r5.toInt64 = S15
    have h := h S15 e16.symm
    refine G_goto C (tgt := 15) dL_due_9 (by decide) ?_
    refine G_iconst C (v := 0) dL_due_15 (by decide) ?_
    exact G_iret C (mc := mc) (ms := ms) (post := post) hr hc8 hs9 dL_due_16 h
set_option maxHeartbeats 4000000 in
set_option maxRecDepth 100000 in
theorem c_L_money (l : Launch) (hl : l.stackTraces = false) (D : va_G) (cy : Nat → Nat) (x0 : Option Nat) (x1 : Int32) (x2 : Option Nat) (S : PT) (mc ms : Nat) (post : Int32 → PT → Prop) (h : w_L_money x0 x1 x2 S mc ms post) : Mi l yL_money (Wh yL_money method_35_code 4 (Option.some Jvm.ClassFile.FieldType.int) [((0 : Nat), (8 : Nat), (11 : Nat), (13 : Nat))]) 7 112 D cy [va_rf x0, Value.int x1, va_rf x2] S mc ms post := by
  refine Mih_of (own := "TrenchboardLaw") (by decide) rfl (by first | decide | simp [lg_sl, va_cat, vi_cat, vl_cat]) (fun p e s m below meth c A C hZ hr hT => ?_)
  refine G_lv C (lv' := [(0, va_rf x0), (1, Value.int x1), (2, va_rf x2)]) [0, 1, 2] (by first | rfl | simp [lv_pick, lv_args, va_cat, vi_cat, vl_cat]) ?_
  unfold w_L_money at h
  refine G_aload_n C (x := x2) 2 dL_money_0 rfl rfl ?_
  refine G_iconst C (v := 0) dL_money_1 (by decide) ?_
  refine G_aload_n C (x := x0) 0 dL_money_2 rfl rfl ?_
  refine G_iload_n C (x := x1) 1 dL_money_3 rfl rfl ?_
  obtain ⟨a1, ha2, h⟩ := h
  obtain ⟨hk3, h⟩ := h
  obtain ⟨m6, m7, hc8, hs9, h⟩ := h
  refine G_xcalll C hZ (Tf := TX8) (N := 10) hk3 (by decide) rfl tw_5_106 tw_5_107 tw_5_108 tw_1_1 tw_5_109 hy_X8_money ⟨Nat.le_of_ble_eq_true rfl, Nat.le_of_ble_eq_true rfl⟩ (As := [Value.int x1]) (rest := [Value.int 0, va_rf x2]) (c_X8_money l hl  D cy a1 x1 S m6 m7 _ _ h) rfl (by first | rfl | (simp only [ha2]; rfl) | simp only [ha2]) (by simp [va_cat, vi_cat, vl_cat]) dL_money_4 ⟨hc8, hs9⟩ (fun E S4 h => ?_) (fun r5 S4 h => ?_)
  · rcases h with ⟨rfl, h⟩
    · refine ⟨[], ⟨0, 8, 11, 13⟩, [], "java/lang/IndexOutOfBoundsException", hT, (by simp), by decide, by decide, im tw_1_134, by simp [NWn], fun q10 => ?_⟩
      refine G_astore_n C (i := 3) (lv' := [(3, va_rf (some q10)), (0, va_rf x0), (1, Value.int x1), (2, va_rf x2)]) dL_money_11 rfl (by decide) (by first | rfl | simp [va_cat, vi_cat, vl_cat]) ?_
      refine G_iconst C (v := 1) dL_money_12 (by decide) ?_
      exact G_iret C (mc := mc) (ms := ms) (post := post) hr hc8 hs9 dL_money_13 h
  · obtain ⟨a11, ha12, h⟩ := h
    refine G_rf2 ha12 ?_
    obtain ⟨hk13, h⟩ := h
    obtain ⟨hi14, h⟩ := h
    refine G_last C hk13 hi14 dL_money_7 ?_
    generalize e16 : sB S4 a11 ((0 : Int32).toNatClampNeg) r5 = S15
    have h := h S15 e16.symm
    refine G_goto C (tgt := 14) dL_money_8 (by decide) ?_
    refine G_iconst C (v := 0) dL_money_14 (by decide) ?_
    exact G_iret C (mc := mc) (ms := ms) (post := post) hr hc8 hs9 dL_money_15 h
set_option maxHeartbeats 4000000 in
set_option maxRecDepth 100000 in
theorem c_L_moneyAnew (l : Launch) (hl : l.stackTraces = false) (D : va_G) (cy : Nat → Nat) (x0 : Option Nat) (x1 : Int32) (x2 : Option Nat) (S : PT) (mc ms : Nat) (post : Int32 → PT → Prop) (h : w_L_moneyAnew x0 x1 x2 S mc ms post) : Mi l yL_moneyAnew (Wh yL_moneyAnew method_36_code 4 (Option.some Jvm.ClassFile.FieldType.int) [((0 : Nat), (8 : Nat), (11 : Nat), (13 : Nat))]) 7 111 D cy [va_rf x0, Value.int x1, va_rf x2] S mc ms post := by
  refine Mih_of (own := "TrenchboardLaw") (by decide) rfl (by first | decide | simp [lg_sl, va_cat, vi_cat, vl_cat]) (fun p e s m below meth c A C hZ hr hT => ?_)
  refine G_lv C (lv' := [(0, va_rf x0), (1, Value.int x1), (2, va_rf x2)]) [0, 1, 2] (by first | rfl | simp [lv_pick, lv_args, va_cat, vi_cat, vl_cat]) ?_
  unfold w_L_moneyAnew at h
  refine G_aload_n C (x := x2) 2 dL_moneyAnew_0 rfl rfl ?_
  refine G_iconst C (v := 0) dL_moneyAnew_1 (by decide) ?_
  refine G_aload_n C (x := x0) 0 dL_moneyAnew_2 rfl rfl ?_
  refine G_iload_n C (x := x1) 1 dL_moneyAnew_3 rfl rfl ?_
  obtain ⟨a1, ha2, h⟩ := h
  obtain ⟨hk3, h⟩ := h
  obtain ⟨m6, m7, hc8, hs9, h⟩ := h
  refine G_xcalll C hZ (Tf := TX8) (N := 10) hk3 (by decide) rfl tw_5_114 tw_5_115 tw_5_116 tw_1_1 tw_5_117 hy_X8_moneyAnew ⟨Nat.le_of_ble_eq_true rfl, Nat.le_of_ble_eq_true rfl⟩ (As := [Value.int x1]) (rest := [Value.int 0, va_rf x2]) (c_X8_moneyAnew l hl  D cy a1 x1 S m6 m7 _ _ h) rfl (by first | rfl | (simp only [ha2]; rfl) | simp only [ha2]) (by simp [va_cat, vi_cat, vl_cat]) dL_moneyAnew_4 ⟨hc8, hs9⟩ (fun E S4 h => ?_) (fun r5 S4 h => ?_)
  · rcases h with ⟨rfl, h⟩
    · refine ⟨[], ⟨0, 8, 11, 13⟩, [], "java/lang/IndexOutOfBoundsException", hT, (by simp), by decide, by decide, im tw_1_134, by simp [NWn], fun q10 => ?_⟩
      refine G_astore_n C (i := 3) (lv' := [(3, va_rf (some q10)), (0, va_rf x0), (1, Value.int x1), (2, va_rf x2)]) dL_moneyAnew_11 rfl (by decide) (by first | rfl | simp [va_cat, vi_cat, vl_cat]) ?_
      refine G_iconst C (v := 1) dL_moneyAnew_12 (by decide) ?_
      exact G_iret C (mc := mc) (ms := ms) (post := post) hr hc8 hs9 dL_moneyAnew_13 h
  · obtain ⟨a11, ha12, h⟩ := h
    refine G_rf2 ha12 ?_
    obtain ⟨hk13, h⟩ := h
    obtain ⟨hi14, h⟩ := h
    refine G_last C hk13 hi14 dL_moneyAnew_7 ?_
    generalize e16 : sB S4 a11 ((0 : Int32).toNatClampNeg) r5 = S15
    have h := h S15 e16.symm
    refine G_goto C (tgt := 14) dL_moneyAnew_8 (by decide) ?_
    refine G_iconst C (v := 0) dL_moneyAnew_14 (by decide) ?_
    exact G_iret C (mc := mc) (ms := ms) (post := post) hr hc8 hs9 dL_moneyAnew_15 h
