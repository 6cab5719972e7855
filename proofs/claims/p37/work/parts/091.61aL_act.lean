set_option maxHeartbeats 4000000 in
set_option maxRecDepth 100000 in
theorem c_L_act (l : Launch) (hl : l.stackTraces = false) (D : va_G) (cy : Nat → Nat) (e0 m0 : Nat) (he : e0 = cy 9) (hm : m0 = cy 10) (x0 : Option Nat) (x1 : Int32) (x2 : Int32) (x3 : Int32) (x4 : Int32) (x5 : Int32) (x6 : Int32) (S : PT) (mc ms : Nat) (post : Int32 → PT → Prop) (h : w_L_act e0 m0 x0 x1 x2 x3 x4 x5 x6 S mc ms post) : Mi l yL_act (Wh yL_act method_3_code 8 (Option.some Jvm.ClassFile.FieldType.int) [((0 : Nat), (517 : Nat), (518 : Nat), (118 : Nat)), ((0 : Nat), (517 : Nat), (523 : Nat), (121 : Nat)), ((0 : Nat), (517 : Nat), (528 : Nat), (124 : Nat))]) 9 217 D cy [va_rf x0, Value.int x1, Value.int x2, Value.int x3, Value.int x4, Value.int x5, Value.int x6] S mc ms post := by
  refine Mih_of (own := "TrenchboardLaw") (by decide) rfl (by first | decide | simp [lg_sl, va_cat, vi_cat, vl_cat]) (fun p e s m below meth c A C hZ hr hT => ?_)
  have J517 : ∀ (c0 n0 : Nat) (S : PT) (s0 : Int32), w_L_act_b517 e0 m0 x0 x1 x2 x3 x4 x5 x6 mc ms post c0 n0 S s0 → G p l e { frames := 9, cells := mc, slots := ms, locals := 217 } s m [va_rf x0, Value.int x1, Value.int x2, Value.int x3, Value.int x4, Value.int x5, Value.int x6].toArray below meth c D cy A s.heap 8 (QMi below D cy A [va_rf x0, Value.int x1, Value.int x2, Value.int x3, Value.int x4, Value.int x5, Value.int x6] s mc ms post) S c0 n0 517 [] [Value.int s0] := by
    intro c0 n0 S s0 h
    unfold w_L_act_b517 at h
    obtain ⟨hc00, hn00, h⟩ := h
    exact G_iret C (mc := mc) (ms := ms) (post := post) hr hc00 hn00 dL_act_517 h
  refine G_lv C (lv' := [(0, va_rf x0), (1, Value.int x1), (2, Value.int x2), (3, Value.int x3), (4, Value.int x4), (5, Value.int x5), (6, Value.int x6)]) [0, 1, 2, 3, 4, 5, 6] (by first | rfl | simp [lv_pick, lv_args, va_cat, vi_cat, vl_cat]) ?_
  unfold w_L_act at h
  refine G_iload_n C (x := x1) 1 dL_act_0 rfl rfl ?_
  refine G_if_ne C (tgt := 17) dL_act_1 (by decide) (fun hc => ?_) (fun hc => ?_)
  · have h := h.1 hc
    refine G_iload_n C (x := x1) 1 dL_act_17 rfl rfl ?_
    refine G_iconst C (v := 1) dL_act_18 (by decide) ?_
    refine G_icmp_ne C (tgt := 30) dL_act_19 (by decide) (fun hc => ?_) (fun hc => ?_)
    · have h := h.1 hc
      refine G_iload_n C (x := x1) 1 dL_act_30 rfl rfl ?_
      refine G_iconst C (v := 2) dL_act_31 (by decide) ?_
      refine G_icmp_ne C (tgt := 46) dL_act_32 (by decide) (fun hc => ?_) (fun hc => ?_)
      · have h := h.1 hc
        refine G_iload_n C (x := x1) 1 dL_act_46 rfl rfl ?_
        refine G_iconst C (v := 3) dL_act_47 (by decide) ?_
        refine G_icmp_ne C (tgt := 66) dL_act_48 (by decide) (fun hc => ?_) (fun hc => ?_)
        · have h := h.1 hc
          refine G_iload_n C (x := x1) 1 dL_act_66 rfl rfl ?_
          refine G_iconst C (v := 4) dL_act_67 (by decide) ?_
          refine G_icmp_ne C (tgt := 84) dL_act_68 (by decide) (fun hc => ?_) (fun hc => ?_)
          · have h := h.1 hc
            refine G_iload_n C (x := x1) 1 dL_act_84 rfl rfl ?_
            refine G_iconst C (v := 5) dL_act_85 (by decide) ?_
            refine G_icmp_ne C (tgt := 105) dL_act_86 (by decide) (fun hc => ?_) (fun hc => ?_)
            · have h := h.1 hc
              refine G_iload_n C (x := x1) 1 dL_act_105 rfl rfl ?_
              refine G_bipush C (v := 6) dL_act_106 (by decide) ?_
              refine G_icmp_ne C (tgt := 119) dL_act_108 (by decide) (fun hc => ?_) (fun hc => ?_)
              · have h := h.1 hc
                refine G_iload_n C (x := x1) 1 dL_act_119 rfl rfl ?_
                refine G_bipush C (v := 7) dL_act_120 (by decide) ?_
                refine G_icmp_ne C (tgt := 134) dL_act_122 (by decide) (fun hc => ?_) (fun hc => ?_)
                · have h := h.1 hc
                  refine G_iload_n C (x := x1) 1 dL_act_134 rfl rfl ?_
                  refine G_bipush C (v := 8) dL_act_135 (by decide) ?_
                  refine G_icmp_ne C (tgt := 149) dL_act_137 (by decide) (fun hc => ?_) (fun hc => ?_)
                  · have h := h.1 hc
                    refine G_iload_n C (x := x1) 1 dL_act_149 rfl rfl ?_
                    refine G_bipush C (v := 9) dL_act_150 (by decide) ?_
                    refine G_icmp_ne C (tgt := 163) dL_act_152 (by decide) (fun hc => ?_) (fun hc => ?_)
                    · have h := h.1 hc
                      refine G_iload_n C (x := x1) 1 dL_act_163 rfl rfl ?_
                      refine G_bipush C (v := 10) dL_act_164 (by decide) ?_
                      refine G_icmp_ne C (tgt := 178) dL_act_166 (by decide) (fun hc => ?_) (fun hc => ?_)
                      · have h := h.1 hc
                        refine G_iload_n C (x := x1) 1 dL_act_178 rfl rfl ?_
                        refine G_bipush C (v := 11) dL_act_179 (by decide) ?_
                        refine G_icmp_ne C (tgt := 200) dL_act_181 (by decide) (fun hc => ?_) (fun hc => ?_)
                        · have h := h.1 hc
                          refine G_iload_n C (x := x1) 1 dL_act_200 rfl rfl ?_
                          refine G_bipush C (v := 12) dL_act_201 (by decide) ?_
                          refine G_icmp_ne C (tgt := 223) dL_act_203 (by decide) (fun hc => ?_) (fun hc => ?_)
                          · have h := h.1 hc
                            refine G_iload_n C (x := x1) 1 dL_act_223 rfl rfl ?_
                            refine G_bipush C (v := 13) dL_act_224 (by decide) ?_
                            refine G_icmp_ne C (tgt := 237) dL_act_226 (by decide) (fun hc => ?_) (fun hc => ?_)
                            · have h := h.1 hc
                              refine G_iload_n C (x := x1) 1 dL_act_237 rfl rfl ?_
                              refine G_bipush C (v := 14) dL_act_238 (by decide) ?_
                              refine G_icmp_ne C (tgt := 252) dL_act_240 (by decide) (fun hc => ?_) (fun hc => ?_)
                              · have h := h.1 hc
                                refine G_iload_n C (x := x1) 1 dL_act_252 rfl rfl ?_
                                refine G_bipush C (v := 15) dL_act_253 (by decide) ?_
                                refine G_icmp_ne C (tgt := 269) dL_act_255 (by decide) (fun hc => ?_) (fun hc => ?_)
                                · have h := h.1 hc
                                  refine G_iload_n C (x := x1) 1 dL_act_269 rfl rfl ?_
                                  refine G_bipush C (v := 16) dL_act_270 (by decide) ?_
                                  refine G_icmp_ne C (tgt := 291) dL_act_272 (by decide) (fun hc => ?_) (fun hc => ?_)
                                  · have h := h.1 hc
                                    refine G_iload_n C (x := x1) 1 dL_act_291 rfl rfl ?_
                                    refine G_bipush C (v := 17) dL_act_292 (by decide) ?_
                                    refine G_icmp_ne C (tgt := 305) dL_act_294 (by decide) (fun hc => ?_) (fun hc => ?_)
                                    · have h := h.1 hc
                                      refine G_iload_n C (x := x1) 1 dL_act_305 rfl rfl ?_
                                      refine G_bipush C (v := 18) dL_act_306 (by decide) ?_
                                      refine G_icmp_ne C (tgt := 319) dL_act_308 (by decide) (fun hc => ?_) (fun hc => ?_)
                                      · have h := h.1 hc
                                        refine G_iload_n C (x := x1) 1 dL_act_319 rfl rfl ?_
                                        refine G_bipush C (v := 19) dL_act_320 (by decide) ?_
                                        refine G_icmp_ne C (tgt := 333) dL_act_322 (by decide) (fun hc => ?_) (fun hc => ?_)
                                        · have h := h.1 hc
                                          refine G_iload_n C (x := x1) 1 dL_act_333 rfl rfl ?_
                                          refine G_bipush C (v := 20) dL_act_334 (by decide) ?_
                                          refine G_icmp_ne C (tgt := 350) dL_act_336 (by decide) (fun hc => ?_) (fun hc => ?_)
                                          · have h := h.1 hc
                                            refine G_iload_n C (x := x1) 1 dL_act_350 rfl rfl ?_
                                            refine G_bipush C (v := 21) dL_act_351 (by decide) ?_
                                            refine G_icmp_ne C (tgt := 365) dL_act_353 (by decide) (fun hc => ?_) (fun hc => ?_)
                                            · have h := h.1 hc
                                              refine G_iload_n C (x := x1) 1 dL_act_365 rfl rfl ?_
                                              refine G_bipush C (v := 22) dL_act_366 (by decide) ?_
                                              refine G_icmp_ne C (tgt := 382) dL_act_368 (by decide) (fun hc => ?_) (fun hc => ?_)
                                              · have h := h.1 hc
                                                refine G_iload_n C (x := x1) 1 dL_act_382 rfl rfl ?_
                                                refine G_bipush C (v := 23) dL_act_383 (by decide) ?_
                                                refine G_icmp_ne C (tgt := 399) dL_act_385 (by decide) (fun hc => ?_) (fun hc => ?_)
                                                · have h := h.1 hc
                                                  refine G_iload_n C (x := x1) 1 dL_act_399 rfl rfl ?_
                                                  refine G_bipush C (v := 24) dL_act_400 (by decide) ?_
                                                  refine G_icmp_ne C (tgt := 413) dL_act_402 (by decide) (fun hc => ?_) (fun hc => ?_)
                                                  · have h := h.1 hc
                                                    refine G_iload_n C (x := x1) 1 dL_act_413 rfl rfl ?_
                                                    refine G_bipush C (v := 25) dL_act_414 (by decide) ?_
                                                    refine G_icmp_ne C (tgt := 428) dL_act_416 (by decide) (fun hc => ?_) (fun hc => ?_)
                                                    · have h := h.1 hc
                                                      refine G_iload_n C (x := x1) 1 dL_act_428 rfl rfl ?_
                                                      refine G_bipush C (v := 26) dL_act_429 (by decide) ?_
                                                      refine G_icmp_ne C (tgt := 443) dL_act_431 (by decide) (fun hc => ?_) (fun hc => ?_)
                                                      · have h := h.1 hc
                                                        refine G_iload_n C (x := x1) 1 dL_act_443 rfl rfl ?_
                                                        refine G_bipush C (v := 27) dL_act_444 (by decide) ?_
                                                        refine G_icmp_ne C (tgt := 460) dL_act_446 (by decide) (fun hc => ?_) (fun hc => ?_)
                                                        · have h := h.1 hc
                                                          refine G_iload_n C (x := x1) 1 dL_act_460 rfl rfl ?_
                                                          refine G_bipush C (v := 28) dL_act_461 (by decide) ?_
                                                          refine G_icmp_ne C (tgt := 477) dL_act_463 (by decide) (fun hc => ?_) (fun hc => ?_)
                                                          · have h := h.1 hc
                                                            refine G_iload_n C (x := x1) 1 dL_act_477 rfl rfl ?_
                                                            refine G_bipush C (v := 29) dL_act_478 (by decide) ?_
                                                            refine G_icmp_ne C (tgt := 491) dL_act_480 (by decide) (fun hc => ?_) (fun hc => ?_)
                                                            · have h := h.1 hc
                                                              refine G_iload_n C (x := x1) 1 dL_act_491 rfl rfl ?_
                                                              refine G_bipush C (v := 30) dL_act_492 (by decide) ?_
                                                              refine G_icmp_ne C (tgt := 505) dL_act_494 (by decide) (fun hc => ?_) (fun hc => ?_)
                                                              · have h := h.1 hc
                                                                refine G_aload_n C (x := x0) 0 dL_act_505 rfl rfl ?_
                                                                refine G_iload_n C (x := x2) 2 dL_act_506 rfl rfl ?_
                                                                obtain ⟨S1, M2, hv3, hd4, h⟩ := h
                                                                obtain ⟨a6, ha7, h⟩ := h
                                                                obtain ⟨hk8, h⟩ := h
                                                                obtain ⟨m11, m12, hc13, hs14, h⟩ := h
                                                                refine G_fxcalll C hZ hv3 hd4 (Tf := TX8) (N := 10) hk8 (by decide) rfl tw_2_21 tw_2_22 tw_2_23 tw_1_1 tw_2_24 hy_X8_money ⟨Nat.le_of_ble_eq_true rfl, Nat.le_of_ble_eq_true rfl⟩ (As := [Value.int x2]) (rest := []) (c_X8_money l hl  D cy a6 x2 S1 m11 m12 _ _ h) rfl (by first | rfl | (simp only [ha7]; rfl) | simp only [ha7]) (by simp [va_cat, vi_cat, vl_cat]) dL_act_507 ⟨hc13, hs14⟩ (fun E S9 hd5 h => ?_) (fun r10 S9 hd5 h => ?_)
                                                                · replace h := h hd5; rcases h with ⟨rfl, h⟩ | ⟨rfl, h⟩ | ⟨rfl, h⟩
                                                                  · refine ⟨[], ⟨0, 517, 518, 118⟩, [⟨0, 517, 523, 121⟩, ⟨0, 517, 528, 124⟩], "java/lang/IndexOutOfBoundsException", hT, (by simp), by decide, by decide, im tw_2_38, by simp [NWn], fun q15 => ?_⟩
                                                                    refine G_astore C (i := 7) (lv' := [(7, va_rf (some q15)), (0, va_rf x0), (1, Value.int x1), (2, Value.int x2), (3, Value.int x3), (4, Value.int x4), (5, Value.int x5), (6, Value.int x6)]) dL_act_518 (by decide) (by first | rfl | simp [va_cat, vi_cat, vl_cat]) ?_
                                                                    refine G_ldc C (v := (-1711000)) (im tw_4_174) dL_act_520 ?_
                                                                    exact G_iret C (mc := mc) (ms := ms) (post := post) hr hc13 hs14 dL_act_522 h
                                                                  · refine ⟨[⟨0, 517, 518, 118⟩], ⟨0, 517, 523, 121⟩, [⟨0, 517, 528, 124⟩], "java/lang/IllegalArgumentException", hT, (by
      intro z hz
      simp only [List.mem_cons, List.not_mem_nil, or_false] at hz
      rcases hz with rfl
      · exact ⟨by decide, "java/lang/IndexOutOfBoundsException", im tw_2_38, C.2.2.2.2.2.1.2.2.2 ("java/lang/IllegalArgumentException", "java/lang/IndexOutOfBoundsException") (by simp [NCs])⟩), by decide, by decide, im tw_2_39, by simp [NWn], fun q16 => ?_⟩
                                                                    refine G_astore C (i := 7) (lv' := [(7, va_rf (some q16)), (0, va_rf x0), (1, Value.int x1), (2, Value.int x2), (3, Value.int x3), (4, Value.int x4), (5, Value.int x5), (6, Value.int x6)]) dL_act_523 (by decide) (by first | rfl | simp [va_cat, vi_cat, vl_cat]) ?_
                                                                    refine G_ldc C (v := (-1712000)) (im tw_4_175) dL_act_525 ?_
                                                                    exact G_iret C (mc := mc) (ms := ms) (post := post) hr hc13 hs14 dL_act_527 h
                                                                  · refine ⟨[⟨0, 517, 518, 118⟩, ⟨0, 517, 523, 121⟩], ⟨0, 517, 528, 124⟩, [], "java/lang/IllegalStateException", hT, (by
      intro z hz
      simp only [List.mem_cons, List.not_mem_nil, or_false] at hz
      rcases hz with rfl | rfl
      · exact ⟨by decide, "java/lang/IndexOutOfBoundsException", im tw_2_38, C.2.2.2.2.2.1.2.2.2 ("java/lang/IllegalStateException", "java/lang/IndexOutOfBoundsException") (by simp [NCs])⟩
      · exact ⟨by decide, "java/lang/IllegalArgumentException", im tw_2_39, C.2.2.2.2.2.1.2.2.2 ("java/lang/IllegalStateException", "java/lang/IllegalArgumentException") (by simp [NCs])⟩), by decide, by decide, im tw_2_40, by simp [NWn], fun q17 => ?_⟩
                                                                    refine G_astore C (i := 7) (lv' := [(7, va_rf (some q17)), (0, va_rf x0), (1, Value.int x1), (2, Value.int x2), (3, Value.int x3), (4, Value.int x4), (5, Value.int x5), (6, Value.int x6)]) dL_act_528 (by decide) (by first | rfl | simp [va_cat, vi_cat, vl_cat]) ?_
                                                                    refine G_ldc C (v := (-1713000)) (im tw_4_176) dL_act_530 ?_
                                                                    exact G_iret C (mc := mc) (ms := ms) (post := post) hr hc13 hs14 dL_act_532 h
                                                                · replace h := h hd5
                                                                  refine G_aload_n C (x := x0) 0 dL_act_510 rfl rfl ?_
                                                                  refine G_iload_n C (x := x2) 2 dL_act_511 rfl rfl ?_
                                                                  obtain ⟨S18, M19, hv20, hd21, h⟩ := h
                                                                  obtain ⟨hk23, h⟩ := h
                                                                  obtain ⟨m26, m27, hc28, hs29, h⟩ := h
                                                                  refine G_fxcalll C hZ hv20 hd21 (Tf := TX8) (N := 10) hk23 (by decide) rfl tw_4_166 tw_4_167 tw_4_168 tw_1_1 tw_4_169 hy_X8_moneyAnew ⟨Nat.le_of_ble_eq_true rfl, Nat.le_of_ble_eq_true rfl⟩ (As := [Value.int x2]) (rest := [Value.long r10]) (c_X8_moneyAnew l hl  D cy a6 x2 S18 m26 m27 _ _ h) rfl (by first | rfl | (simp only [ha7]; rfl) | simp only [ha7]) (by simp [va_cat, vi_cat, vl_cat]) dL_act_512 ⟨hc28, hs29⟩ (fun E S24 hd22 h => ?_) (fun r25 S24 hd22 h => ?_)
                                                                  · replace h := h hd22; rcases h with ⟨rfl, h⟩ | ⟨rfl, h⟩ | ⟨rfl, h⟩
                                                                    · refine ⟨[], ⟨0, 517, 518, 118⟩, [⟨0, 517, 523, 121⟩, ⟨0, 517, 528, 124⟩], "java/lang/IndexOutOfBoundsException", hT, (by simp), by decide, by decide, im tw_2_38, by simp [NWn], fun q30 => ?_⟩
                                                                      refine G_astore C (i := 7) (lv' := [(7, va_rf (some q30)), (0, va_rf x0), (1, Value.int x1), (2, Value.int x2), (3, Value.int x3), (4, Value.int x4), (5, Value.int x5), (6, Value.int x6)]) dL_act_518 (by decide) (by first | rfl | simp [va_cat, vi_cat, vl_cat]) ?_
                                                                      refine G_ldc C (v := (-1711000)) (im tw_4_174) dL_act_520 ?_
                                                                      exact G_iret C (mc := mc) (ms := ms) (post := post) hr hc28 hs29 dL_act_522 h
                                                                    · refine ⟨[⟨0, 517, 518, 118⟩], ⟨0, 517, 523, 121⟩, [⟨0, 517, 528, 124⟩], "java/lang/IllegalArgumentException", hT, (by
      intro z hz
      simp only [List.mem_cons, List.not_mem_nil, or_false] at hz
      rcases hz with rfl
      · exact ⟨by decide, "java/lang/IndexOutOfBoundsException", im tw_2_38, C.2.2.2.2.2.1.2.2.2 ("java/lang/IllegalArgumentException", "java/lang/IndexOutOfBoundsException") (by simp [NCs])⟩), by decide, by decide, im tw_2_39, by simp [NWn], fun q31 => ?_⟩
                                                                      refine G_astore C (i := 7) (lv' := [(7, va_rf (some q31)), (0, va_rf x0), (1, Value.int x1), (2, Value.int x2), (3, Value.int x3), (4, Value.int x4), (5, Value.int x5), (6, Value.int x6)]) dL_act_523 (by decide) (by first | rfl | simp [va_cat, vi_cat, vl_cat]) ?_
                                                                      refine G_ldc C (v := (-1712000)) (im tw_4_175) dL_act_525 ?_
                                                                      exact G_iret C (mc := mc) (ms := ms) (post := post) hr hc28 hs29 dL_act_527 h
                                                                    · refine ⟨[⟨0, 517, 518, 118⟩, ⟨0, 517, 523, 121⟩], ⟨0, 517, 528, 124⟩, [], "java/lang/IllegalStateException", hT, (by
      intro z hz
      simp only [List.mem_cons, List.not_mem_nil, or_false] at hz
      rcases hz with rfl | rfl
      · exact ⟨by decide, "java/lang/IndexOutOfBoundsException", im tw_2_38, C.2.2.2.2.2.1.2.2.2 ("java/lang/IllegalStateException", "java/lang/IndexOutOfBoundsException") (by simp [NCs])⟩
      · exact ⟨by decide, "java/lang/IllegalArgumentException", im tw_2_39, C.2.2.2.2.2.1.2.2.2 ("java/lang/IllegalStateException", "java/lang/IllegalArgumentException") (by simp [NCs])⟩), by decide, by decide, im tw_2_40, by simp [NWn], fun q32 => ?_⟩
                                                                      refine G_astore C (i := 7) (lv' := [(7, va_rf (some q32)), (0, va_rf x0), (1, Value.int x1), (2, Value.int x2), (3, Value.int x3), (4, Value.int x4), (5, Value.int x5), (6, Value.int x6)]) dL_act_528 (by decide) (by first | rfl | simp [va_cat, vi_cat, vl_cat]) ?_
                                                                      refine G_ldc C (v := (-1713000)) (im tw_4_176) dL_act_530 ?_
                                                                      exact G_iret C (mc := mc) (ms := ms) (post := post) hr hc28 hs29 dL_act_532 h
                                                                  · replace h := h hd22
                                                                    refine G_lsub C dL_act_515 ?_
                                                                    refine G_l2i C dL_act_516 ?_
                                                                    refine G_lv C (lv' := []) [] rfl ?_
                                                                    exact J517 _ _ _ _ h
                                                              · have h := h.2 hc
                                                                refine G_aload_n C (x := x0) 0 dL_act_497 rfl rfl ?_
                                                                refine G_iload_n C (x := x2) 2 dL_act_498 rfl rfl ?_
                                                                obtain ⟨S33, M34, hv35, hd36, h⟩ := h
                                                                obtain ⟨a38, ha39, h⟩ := h
                                                                obtain ⟨hk40, h⟩ := h
                                                                obtain ⟨m43, m44, hc45, hs46, h⟩ := h
                                                                refine G_fxcalli C hZ hv35 hd36 (Tf := TX8) (N := 10) hk40 (by decide) rfl tw_4_160 tw_4_161 tw_4_162 tw_1_1 tw_4_163 hy_X8_due ⟨Nat.le_of_ble_eq_true rfl, Nat.le_of_ble_eq_true rfl⟩ (As := [Value.int x2]) (rest := []) (c_X8_due l hl  D cy a38 x2 S33 m43 m44 _ _ h) rfl (by first | rfl | (simp only [ha39]; rfl) | simp only [ha39]) (by simp [va_cat, vi_cat, vl_cat]) dL_act_499 ⟨hc45, hs46⟩ (fun E S41 hd37 h => ?_) (fun r42 S41 hd37 h => ?_)
                                                                · replace h := h hd37; rcases h with ⟨rfl, h⟩ | ⟨rfl, h⟩ | ⟨rfl, h⟩
                                                                  · refine ⟨[], ⟨0, 517, 518, 118⟩, [⟨0, 517, 523, 121⟩, ⟨0, 517, 528, 124⟩], "java/lang/IndexOutOfBoundsException", hT, (by simp), by decide, by decide, im tw_2_38, by simp [NWn], fun q47 => ?_⟩
                                                                    refine G_astore C (i := 7) (lv' := [(7, va_rf (some q47)), (0, va_rf x0), (1, Value.int x1), (2, Value.int x2), (3, Value.int x3), (4, Value.int x4), (5, Value.int x5), (6, Value.int x6)]) dL_act_518 (by decide) (by first | rfl | simp [va_cat, vi_cat, vl_cat]) ?_
                                                                    refine G_ldc C (v := (-1711000)) (im tw_4_174) dL_act_520 ?_
                                                                    exact G_iret C (mc := mc) (ms := ms) (post := post) hr hc45 hs46 dL_act_522 h
                                                                  · refine ⟨[⟨0, 517, 518, 118⟩], ⟨0, 517, 523, 121⟩, [⟨0, 517, 528, 124⟩], "java/lang/IllegalArgumentException", hT, (by
      intro z hz
      simp only [List.mem_cons, List.not_mem_nil, or_false] at hz
      rcases hz with rfl
      · exact ⟨by decide, "java/lang/IndexOutOfBoundsException", im tw_2_38, C.2.2.2.2.2.1.2.2.2 ("java/lang/IllegalArgumentException", "java/lang/IndexOutOfBoundsException") (by simp [NCs])⟩), by decide, by decide, im tw_2_39, by simp [NWn], fun q48 => ?_⟩
                                                                    refine G_astore C (i := 7) (lv' := [(7, va_rf (some q48)), (0, va_rf x0), (1, Value.int x1), (2, Value.int x2), (3, Value.int x3), (4, Value.int x4), (5, Value.int x5), (6, Value.int x6)]) dL_act_523 (by decide) (by first | rfl | simp [va_cat, vi_cat, vl_cat]) ?_
                                                                    refine G_ldc C (v := (-1712000)) (im tw_4_175) dL_act_525 ?_
                                                                    exact G_iret C (mc := mc) (ms := ms) (post := post) hr hc45 hs46 dL_act_527 h
                                                                  · refine ⟨[⟨0, 517, 518, 118⟩, ⟨0, 517, 523, 121⟩], ⟨0, 517, 528, 124⟩, [], "java/lang/IllegalStateException", hT, (by
      intro z hz
      simp only [List.mem_cons, List.not_mem_nil, or_false] at hz
      rcases hz with rfl | rfl
      · exact ⟨by decide, "java/lang/IndexOutOfBoundsException", im tw_2_38, C.2.2.2.2.2.1.2.2.2 ("java/lang/IllegalStateException", "java/lang/IndexOutOfBoundsException") (by simp [NCs])⟩
      · exact ⟨by decide, "java/lang/IllegalArgumentException", im tw_2_39, C.2.2.2.2.2.1.2.2.2 ("java/lang/IllegalStateException", "java/lang/IllegalArgumentException") (by simp [NCs])⟩), by decide, by decide, im tw_2_40, by simp [NWn], fun q49 => ?_⟩
                                                                    refine G_astore C (i := 7) (lv' := [(7, va_rf (some q49)), (0, va_rf x0), (1, Value.int x1), (2, Value.int x2), (3, Value.int x3), (4, Value.int x4), (5, Value.int x5), (6, Value.int x6)]) dL_act_528 (by decide) (by first | rfl | simp [va_cat, vi_cat, vl_cat]) ?_
                                                                    refine G_ldc C (v := (-1713000)) (im tw_4_176) dL_act_530 ?_
                                                                    exact G_iret C (mc := mc) (ms := ms) (post := post) hr hc45 hs46 dL_act_532 h
                                                                · replace h := h hd37
                                                                  refine G_goto C (tgt := 517) dL_act_502 (by decide) ?_
                                                                  refine G_lv C (lv' := []) [] rfl ?_
                                                                  exact J517 _ _ _ _ h
                                                            · have h := h.2 hc
                                                              refine G_aload_n C (x := x0) 0 dL_act_483 rfl rfl ?_
                                                              refine G_iload_n C (x := x2) 2 dL_act_484 rfl rfl ?_
                                                              obtain ⟨S50, M51, hv52, hd53, h⟩ := h
                                                              obtain ⟨a55, ha56, h⟩ := h
                                                              obtain ⟨hk57, h⟩ := h
                                                              obtain ⟨m60, m61, hc62, hs63, h⟩ := h
                                                              refine G_fxcalli C hZ hv52 hd53 (Tf := TX8) (N := 10) hk57 (by decide) rfl tw_4_156 tw_4_157 tw_4_158 tw_1_1 tw_4_159 hy_X8_queue ⟨Nat.le_of_ble_eq_true rfl, Nat.le_of_ble_eq_true rfl⟩ (As := [Value.int x2]) (rest := []) (c_X8_queue l hl  D cy a55 x2 S50 m60 m61 _ _ h) rfl (by first | rfl | (simp only [ha56]; rfl) | simp only [ha56]) (by simp [va_cat, vi_cat, vl_cat]) dL_act_485 ⟨hc62, hs63⟩ (fun E S58 hd54 h => ?_) (fun r59 S58 hd54 h => ?_)
                                                              · replace h := h hd54; rcases h with ⟨rfl, h⟩ | ⟨rfl, h⟩ | ⟨rfl, h⟩
                                                                · refine ⟨[], ⟨0, 517, 518, 118⟩, [⟨0, 517, 523, 121⟩, ⟨0, 517, 528, 124⟩], "java/lang/IndexOutOfBoundsException", hT, (by simp), by decide, by decide, im tw_2_38, by simp [NWn], fun q64 => ?_⟩
                                                                  refine G_astore C (i := 7) (lv' := [(7, va_rf (some q64)), (0, va_rf x0), (1, Value.int x1), (2, Value.int x2), (3, Value.int x3), (4, Value.int x4), (5, Value.int x5), (6, Value.int x6)]) dL_act_518 (by decide) (by first | rfl | simp [va_cat, vi_cat, vl_cat]) ?_
                                                                  refine G_ldc C (v := (-1711000)) (im tw_4_174) dL_act_520 ?_
                                                                  exact G_iret C (mc := mc) (ms := ms) (post := post) hr hc62 hs63 dL_act_522 h
                                                                · refine ⟨[⟨0, 517, 518, 118⟩], ⟨0, 517, 523, 121⟩, [⟨0, 517, 528, 124⟩], "java/lang/IllegalArgumentException", hT, (by
      intro z hz
      simp only [List.mem_cons, List.not_mem_nil, or_false] at hz
      rcases hz with rfl
      · exact ⟨by decide, "java/lang/IndexOutOfBoundsException", im tw_2_38, C.2.2.2.2.2.1.2.2.2 ("java/lang/IllegalArgumentException", "java/lang/IndexOutOfBoundsException") (by simp [NCs])⟩), by decide, by decide, im tw_2_39, by simp [NWn], fun q65 => ?_⟩
                                                                  refine G_astore C (i := 7) (lv' := [(7, va_rf (some q65)), (0, va_rf x0), (1, Value.int x1), (2, Value.int x2), (3, Value.int x3), (4, Value.int x4), (5, Value.int x5), (6, Value.int x6)]) dL_act_523 (by decide) (by first | rfl | simp [va_cat, vi_cat, vl_cat]) ?_
                                                                  refine G_ldc C (v := (-1712000)) (im tw_4_175) dL_act_525 ?_
                                                                  exact G_iret C (mc := mc) (ms := ms) (post := post) hr hc62 hs63 dL_act_527 h
                                                                · refine ⟨[⟨0, 517, 518, 118⟩, ⟨0, 517, 523, 121⟩], ⟨0, 517, 528, 124⟩, [], "java/lang/IllegalStateException", hT, (by
      intro z hz
      simp only [List.mem_cons, List.not_mem_nil, or_false] at hz
      rcases hz with rfl | rfl
      · exact ⟨by decide, "java/lang/IndexOutOfBoundsException", im tw_2_38, C.2.2.2.2.2.1.2.2.2 ("java/lang/IllegalStateException", "java/lang/IndexOutOfBoundsException") (by simp [NCs])⟩
      · exact ⟨by decide, "java/lang/IllegalArgumentException", im tw_2_39, C.2.2.2.2.2.1.2.2.2 ("java/lang/IllegalStateException", "java/lang/IllegalArgumentException") (by simp [NCs])⟩), by decide, by decide, im tw_2_40, by simp [NWn], fun q66 => ?_⟩
                                                                  refine G_astore C (i := 7) (lv' := [(7, va_rf (some q66)), (0, va_rf x0), (1, Value.int x1), (2, Value.int x2), (3, Value.int x3), (4, Value.int x4), (5, Value.int x5), (6, Value.int x6)]) dL_act_528 (by decide) (by first | rfl | simp [va_cat, vi_cat, vl_cat]) ?_
                                                                  refine G_ldc C (v := (-1713000)) (im tw_4_176) dL_act_530 ?_
                                                                  exact G_iret C (mc := mc) (ms := ms) (post := post) hr hc62 hs63 dL_act_532 h
                                                              · replace h := h hd54
                                                                refine G_goto C (tgt := 517) dL_act_488 (by decide) ?_
                                                                refine G_lv C (lv' := []) [] rfl ?_
                                                                exact J517 _ _ _ _ h
                                                          · have h := h.2 hc
                                                            refine G_aload_n C (x := x0) 0 dL_act_466 rfl rfl ?_
                                                            refine G_iload_n C (x := x2) 2 dL_act_467 rfl rfl ?_
                                                            refine G_iload_n C (x := x3) 3 dL_act_468 rfl rfl ?_
                                                            refine G_iload C (x := x4) 4 dL_act_469 rfl ?_
                                                            obtain ⟨S67, M68, hv69, hd70, h⟩ := h
                                                            obtain ⟨a72, ha73, h⟩ := h
                                                            obtain ⟨hk74, h⟩ := h
                                                            obtain ⟨m77, m78, hc79, hs80, h⟩ := h
                                                            refine G_fxcalli C hZ hv69 hd70 (Tf := TX8) (N := 10) hk74 (by decide) rfl tw_4_151 tw_4_152 tw_4_153 tw_1_1 tw_4_154 hy_X8_search ⟨Nat.le_of_ble_eq_true rfl, Nat.le_of_ble_eq_true rfl⟩ (As := [Value.int x2, Value.int x3, Value.int x4]) (rest := []) (c_X8_search l hl  D cy a72 x2 x3 x4 S67 m77 m78 _ _ h) rfl (by first | rfl | (simp only [ha73]; rfl) | simp only [ha73]) (by simp [va_cat, vi_cat, vl_cat]) dL_act_471 ⟨hc79, hs80⟩ (fun E S75 hd71 h => ?_) (fun r76 S75 hd71 h => ?_)
                                                            · replace h := h hd71; rcases h with ⟨rfl, h⟩ | ⟨rfl, h⟩ | ⟨rfl, h⟩
                                                              · refine ⟨[], ⟨0, 517, 518, 118⟩, [⟨0, 517, 523, 121⟩, ⟨0, 517, 528, 124⟩], "java/lang/IndexOutOfBoundsException", hT, (by simp), by decide, by decide, im tw_2_38, by simp [NWn], fun q81 => ?_⟩
                                                                refine G_astore C (i := 7) (lv' := [(7, va_rf (some q81)), (0, va_rf x0), (1, Value.int x1), (2, Value.int x2), (3, Value.int x3), (4, Value.int x4), (5, Value.int x5), (6, Value.int x6)]) dL_act_518 (by decide) (by first | rfl | simp [va_cat, vi_cat, vl_cat]) ?_
                                                                refine G_ldc C (v := (-1711000)) (im tw_4_174) dL_act_520 ?_
                                                                exact G_iret C (mc := mc) (ms := ms) (post := post) hr hc79 hs80 dL_act_522 h
                                                              · refine ⟨[⟨0, 517, 518, 118⟩], ⟨0, 517, 523, 121⟩, [⟨0, 517, 528, 124⟩], "java/lang/IllegalArgumentException", hT, (by
      intro z hz
      simp only [List.mem_cons, List.not_mem_nil, or_false] at hz
      rcases hz with rfl
      · exact ⟨by decide, "java/lang/IndexOutOfBoundsException", im tw_2_38, C.2.2.2.2.2.1.2.2.2 ("java/lang/IllegalArgumentException", "java/lang/IndexOutOfBoundsException") (by simp [NCs])⟩), by decide, by decide, im tw_2_39, by simp [NWn], fun q82 => ?_⟩
                                                                refine G_astore C (i := 7) (lv' := [(7, va_rf (some q82)), (0, va_rf x0), (1, Value.int x1), (2, Value.int x2), (3, Value.int x3), (4, Value.int x4), (5, Value.int x5), (6, Value.int x6)]) dL_act_523 (by decide) (by first | rfl | simp [va_cat, vi_cat, vl_cat]) ?_
                                                                refine G_ldc C (v := (-1712000)) (im tw_4_175) dL_act_525 ?_
                                                                exact G_iret C (mc := mc) (ms := ms) (post := post) hr hc79 hs80 dL_act_527 h
                                                              · refine ⟨[⟨0, 517, 518, 118⟩, ⟨0, 517, 523, 121⟩], ⟨0, 517, 528, 124⟩, [], "java/lang/IllegalStateException", hT, (by
      intro z hz
      simp only [List.mem_cons, List.not_mem_nil, or_false] at hz
      rcases hz with rfl | rfl
      · exact ⟨by decide, "java/lang/IndexOutOfBoundsException", im tw_2_38, C.2.2.2.2.2.1.2.2.2 ("java/lang/IllegalStateException", "java/lang/IndexOutOfBoundsException") (by simp [NCs])⟩
      · exact ⟨by decide, "java/lang/IllegalArgumentException", im tw_2_39, C.2.2.2.2.2.1.2.2.2 ("java/lang/IllegalStateException", "java/lang/IllegalArgumentException") (by simp [NCs])⟩), by decide, by decide, im tw_2_40, by simp [NWn], fun q83 => ?_⟩
                                                                refine G_astore C (i := 7) (lv' := [(7, va_rf (some q83)), (0, va_rf x0), (1, Value.int x1), (2, Value.int x2), (3, Value.int x3), (4, Value.int x4), (5, Value.int x5), (6, Value.int x6)]) dL_act_528 (by decide) (by first | rfl | simp [va_cat, vi_cat, vl_cat]) ?_
                                                                refine G_ldc C (v := (-1713000)) (im tw_4_176) dL_act_530 ?_
                                                                exact G_iret C (mc := mc) (ms := ms) (post := post) hr hc79 hs80 dL_act_532 h
                                                            · replace h := h hd71
                                                              refine G_goto C (tgt := 517) dL_act_474 (by decide) ?_
                                                              refine G_lv C (lv' := []) [] rfl ?_
                                                              exact J517 _ _ _ _ h
                                                        · have h := h.2 hc
                                                          refine G_aload_n C (x := x0) 0 dL_act_449 rfl rfl ?_
                                                          refine G_iload_n C (x := x2) 2 dL_act_450 rfl rfl ?_
                                                          refine G_iload_n C (x := x3) 3 dL_act_451 rfl rfl ?_
                                                          refine G_iload C (x := x4) 4 dL_act_452 rfl ?_
                                                          obtain ⟨S84, M85, hv86, hd87, h⟩ := h
                                                          obtain ⟨a89, ha90, h⟩ := h
                                                          obtain ⟨hk91, h⟩ := h
                                                          obtain ⟨m94, m95, hc96, hs97, h⟩ := h
                                                          refine G_fxcalli C hZ hv86 hd87 (Tf := TX8) (N := 10) hk91 (by decide) rfl tw_2_5 tw_2_6 tw_2_7 tw_1_1 tw_2_8 hy_X8_metre ⟨Nat.le_of_ble_eq_true rfl, Nat.le_of_ble_eq_true rfl⟩ (As := [Value.int x2, Value.int x3, Value.int x4]) (rest := []) (c_X8_metre l hl  D cy a89 x2 x3 x4 S84 m94 m95 _ _ h) rfl (by first | rfl | (simp only [ha90]; rfl) | simp only [ha90]) (by simp [va_cat, vi_cat, vl_cat]) dL_act_454 ⟨hc96, hs97⟩ (fun E S92 hd88 h => ?_) (fun r93 S92 hd88 h => ?_)
                                                          · replace h := h hd88; rcases h with ⟨rfl, h⟩ | ⟨rfl, h⟩ | ⟨rfl, h⟩
                                                            · refine ⟨[], ⟨0, 517, 518, 118⟩, [⟨0, 517, 523, 121⟩, ⟨0, 517, 528, 124⟩], "java/lang/IndexOutOfBoundsException", hT, (by simp), by decide, by decide, im tw_2_38, by simp [NWn], fun q98 => ?_⟩
                                                              refine G_astore C (i := 7) (lv' := [(7, va_rf (some q98)), (0, va_rf x0), (1, Value.int x1), (2, Value.int x2), (3, Value.int x3), (4, Value.int x4), (5, Value.int x5), (6, Value.int x6)]) dL_act_518 (by decide) (by first | rfl | simp [va_cat, vi_cat, vl_cat]) ?_
                                                              refine G_ldc C (v := (-1711000)) (im tw_4_174) dL_act_520 ?_
                                                              exact G_iret C (mc := mc) (ms := ms) (post := post) hr hc96 hs97 dL_act_522 h
                                                            · refine ⟨[⟨0, 517, 518, 118⟩], ⟨0, 517, 523, 121⟩, [⟨0, 517, 528, 124⟩], "java/lang/IllegalArgumentException", hT, (by
      intro z hz
      simp only [List.mem_cons, List.not_mem_nil, or_false] at hz
      rcases hz with rfl
      · exact ⟨by decide, "java/lang/IndexOutOfBoundsException", im tw_2_38, C.2.2.2.2.2.1.2.2.2 ("java/lang/IllegalArgumentException", "java/lang/IndexOutOfBoundsException") (by simp [NCs])⟩), by decide, by decide, im tw_2_39, by simp [NWn], fun q99 => ?_⟩
                                                              refine G_astore C (i := 7) (lv' := [(7, va_rf (some q99)), (0, va_rf x0), (1, Value.int x1), (2, Value.int x2), (3, Value.int x3), (4, Value.int x4), (5, Value.int x5), (6, Value.int x6)]) dL_act_523 (by decide) (by first | rfl | simp [va_cat, vi_cat, vl_cat]) ?_
                                                              refine G_ldc C (v := (-1712000)) (im tw_4_175) dL_act_525 ?_
                                                              exact G_iret C (mc := mc) (ms := ms) (post := post) hr hc96 hs97 dL_act_527 h
                                                            · refine ⟨[⟨0, 517, 518, 118⟩, ⟨0, 517, 523, 121⟩], ⟨0, 517, 528, 124⟩, [], "java/lang/IllegalStateException", hT, (by
      intro z hz
      simp only [List.mem_cons, List.not_mem_nil, or_false] at hz
      rcases hz with rfl | rfl
      · exact ⟨by decide, "java/lang/IndexOutOfBoundsException", im tw_2_38, C.2.2.2.2.2.1.2.2.2 ("java/lang/IllegalStateException", "java/lang/IndexOutOfBoundsException") (by simp [NCs])⟩
      · exact ⟨by decide, "java/lang/IllegalArgumentException", im tw_2_39, C.2.2.2.2.2.1.2.2.2 ("java/lang/IllegalStateException", "java/lang/IllegalArgumentException") (by simp [NCs])⟩), by decide, by decide, im tw_2_40, by simp [NWn], fun q100 => ?_⟩
                                                              refine G_astore C (i := 7) (lv' := [(7, va_rf (some q100)), (0, va_rf x0), (1, Value.int x1), (2, Value.int x2), (3, Value.int x3), (4, Value.int x4), (5, Value.int x5), (6, Value.int x6)]) dL_act_528 (by decide) (by first | rfl | simp [va_cat, vi_cat, vl_cat]) ?_
                                                              refine G_ldc C (v := (-1713000)) (im tw_4_176) dL_act_530 ?_
                                                              exact G_iret C (mc := mc) (ms := ms) (post := post) hr hc96 hs97 dL_act_532 h
                                                          · replace h := h hd88
                                                            refine G_goto C (tgt := 517) dL_act_457 (by decide) ?_
                                                            refine G_lv C (lv' := []) [] rfl ?_
                                                            exact J517 _ _ _ _ h
                                                      · have h := h.2 hc
                                                        refine G_aload_n C (x := x0) 0 dL_act_434 rfl rfl ?_
                                                        refine G_iload_n C (x := x2) 2 dL_act_435 rfl rfl ?_
                                                        refine G_iload_n C (x := x3) 3 dL_act_436 rfl rfl ?_
                                                        obtain ⟨S101, M102, hv103, hd104, h⟩ := h
                                                        obtain ⟨a106, ha107, h⟩ := h
                                                        obtain ⟨hk108, h⟩ := h
                                                        obtain ⟨m111, m112, hc113, hs114, h⟩ := h
                                                        refine G_fxcalli C hZ hv103 hd104 (Tf := TX8) (N := 10) hk108 (by decide) rfl tw_4_147 tw_4_148 tw_4_149 tw_1_1 tw_4_150 hy_X8_of ⟨Nat.le_of_ble_eq_true rfl, Nat.le_of_ble_eq_true rfl⟩ (As := [Value.int x2, Value.int x3]) (rest := []) (c_X8_of l hl  D cy a106 x2 x3 S101 m111 m112 _ _ h) rfl (by first | rfl | (simp only [ha107]; rfl) | simp only [ha107]) (by simp [va_cat, vi_cat, vl_cat]) dL_act_437 ⟨hc113, hs114⟩ (fun E S109 hd105 h => ?_) (fun r110 S109 hd105 h => ?_)
                                                        · replace h := h hd105; rcases h with ⟨rfl, h⟩ | ⟨rfl, h⟩ | ⟨rfl, h⟩
                                                          · refine ⟨[], ⟨0, 517, 518, 118⟩, [⟨0, 517, 523, 121⟩, ⟨0, 517, 528, 124⟩], "java/lang/IndexOutOfBoundsException", hT, (by simp), by decide, by decide, im tw_2_38, by simp [NWn], fun q115 => ?_⟩
                                                            refine G_astore C (i := 7) (lv' := [(7, va_rf (some q115)), (0, va_rf x0), (1, Value.int x1), (2, Value.int x2), (3, Value.int x3), (4, Value.int x4), (5, Value.int x5), (6, Value.int x6)]) dL_act_518 (by decide) (by first | rfl | simp [va_cat, vi_cat, vl_cat]) ?_
                                                            refine G_ldc C (v := (-1711000)) (im tw_4_174) dL_act_520 ?_
                                                            exact G_iret C (mc := mc) (ms := ms) (post := post) hr hc113 hs114 dL_act_522 h
                                                          · refine ⟨[⟨0, 517, 518, 118⟩], ⟨0, 517, 523, 121⟩, [⟨0, 517, 528, 124⟩], "java/lang/IllegalArgumentException", hT, (by
      intro z hz
      simp only [List.mem_cons, List.not_mem_nil, or_false] at hz
      rcases hz with rfl
      · exact ⟨by decide, "java/lang/IndexOutOfBoundsException", im tw_2_38, C.2.2.2.2.2.1.2.2.2 ("java/lang/IllegalArgumentException", "java/lang/IndexOutOfBoundsException") (by simp [NCs])⟩), by decide, by decide, im tw_2_39, by simp [NWn], fun q116 => ?_⟩
                                                            refine G_astore C (i := 7) (lv' := [(7, va_rf (some q116)), (0, va_rf x0), (1, Value.int x1), (2, Value.int x2), (3, Value.int x3), (4, Value.int x4), (5, Value.int x5), (6, Value.int x6)]) dL_act_523 (by decide) (by first | rfl | simp [va_cat, vi_cat, vl_cat]) ?_
                                                            refine G_ldc C (v := (-1712000)) (im tw_4_175) dL_act_525 ?_
                                                            exact G_iret C (mc := mc) (ms := ms) (post := post) hr hc113 hs114 dL_act_527 h
                                                          · refine ⟨[⟨0, 517, 518, 118⟩, ⟨0, 517, 523, 121⟩], ⟨0, 517, 528, 124⟩, [], "java/lang/IllegalStateException", hT, (by
      intro z hz
      simp only [List.mem_cons, List.not_mem_nil, or_false] at hz
      rcases hz with rfl | rfl
      · exact ⟨by decide, "java/lang/IndexOutOfBoundsException", im tw_2_38, C.2.2.2.2.2.1.2.2.2 ("java/lang/IllegalStateException", "java/lang/IndexOutOfBoundsException") (by simp [NCs])⟩
      · exact ⟨by decide, "java/lang/IllegalArgumentException", im tw_2_39, C.2.2.2.2.2.1.2.2.2 ("java/lang/IllegalStateException", "java/lang/IllegalArgumentException") (by simp [NCs])⟩), by decide, by decide, im tw_2_40, by simp [NWn], fun q117 => ?_⟩
                                                            refine G_astore C (i := 7) (lv' := [(7, va_rf (some q117)), (0, va_rf x0), (1, Value.int x1), (2, Value.int x2), (3, Value.int x3), (4, Value.int x4), (5, Value.int x5), (6, Value.int x6)]) dL_act_528 (by decide) (by first | rfl | simp [va_cat, vi_cat, vl_cat]) ?_
                                                            refine G_ldc C (v := (-1713000)) (im tw_4_176) dL_act_530 ?_
                                                            exact G_iret C (mc := mc) (ms := ms) (post := post) hr hc113 hs114 dL_act_532 h
                                                        · replace h := h hd105
                                                          refine G_goto C (tgt := 517) dL_act_440 (by decide) ?_
                                                          refine G_lv C (lv' := []) [] rfl ?_
                                                          exact J517 _ _ _ _ h
                                                    · have h := h.2 hc
                                                      refine G_aload_n C (x := x0) 0 dL_act_419 rfl rfl ?_
                                                      refine G_iload_n C (x := x2) 2 dL_act_420 rfl rfl ?_
                                                      refine G_iload_n C (x := x3) 3 dL_act_421 rfl rfl ?_
                                                      obtain ⟨S118, M119, hv120, hd121, h⟩ := h
                                                      obtain ⟨a123, ha124, h⟩ := h
                                                      obtain ⟨hk125, h⟩ := h
                                                      obtain ⟨m128, m129, hc130, hs131, h⟩ := h
                                                      refine G_fxcalli C hZ hv120 hd121 (Tf := TX8) (N := 10) hk125 (by decide) rfl tw_4_142 tw_4_143 tw_4_144 tw_1_1 tw_4_145 hy_X8_meets ⟨Nat.le_of_ble_eq_true rfl, Nat.le_of_ble_eq_true rfl⟩ (As := [Value.int x2, Value.int x3]) (rest := []) (c_X8_meets l hl  D cy a123 x2 x3 S118 m128 m129 _ _ h) rfl (by first | rfl | (simp only [ha124]; rfl) | simp only [ha124]) (by simp [va_cat, vi_cat, vl_cat]) dL_act_422 ⟨hc130, hs131⟩ (fun E S126 hd122 h => ?_) (fun r127 S126 hd122 h => ?_)
                                                      · replace h := h hd122; rcases h with ⟨rfl, h⟩ | ⟨rfl, h⟩ | ⟨rfl, h⟩
                                                        · refine ⟨[], ⟨0, 517, 518, 118⟩, [⟨0, 517, 523, 121⟩, ⟨0, 517, 528, 124⟩], "java/lang/IndexOutOfBoundsException", hT, (by simp), by decide, by decide, im tw_2_38, by simp [NWn], fun q132 => ?_⟩
                                                          refine G_astore C (i := 7) (lv' := [(7, va_rf (some q132)), (0, va_rf x0), (1, Value.int x1), (2, Value.int x2), (3, Value.int x3), (4, Value.int x4), (5, Value.int x5), (6, Value.int x6)]) dL_act_518 (by decide) (by first | rfl | simp [va_cat, vi_cat, vl_cat]) ?_
                                                          refine G_ldc C (v := (-1711000)) (im tw_4_174) dL_act_520 ?_
                                                          exact G_iret C (mc := mc) (ms := ms) (post := post) hr hc130 hs131 dL_act_522 h
                                                        · refine ⟨[⟨0, 517, 518, 118⟩], ⟨0, 517, 523, 121⟩, [⟨0, 517, 528, 124⟩], "java/lang/IllegalArgumentException", hT, (by
      intro z hz
      simp only [List.mem_cons, List.not_mem_nil, or_false] at hz
      rcases hz with rfl
      · exact ⟨by decide, "java/lang/IndexOutOfBoundsException", im tw_2_38, C.2.2.2.2.2.1.2.2.2 ("java/lang/IllegalArgumentException", "java/lang/IndexOutOfBoundsException") (by simp [NCs])⟩), by decide, by decide, im tw_2_39, by simp [NWn], fun q133 => ?_⟩
                                                          refine G_astore C (i := 7) (lv' := [(7, va_rf (some q133)), (0, va_rf x0), (1, Value.int x1), (2, Value.int x2), (3, Value.int x3), (4, Value.int x4), (5, Value.int x5), (6, Value.int x6)]) dL_act_523 (by decide) (by first | rfl | simp [va_cat, vi_cat, vl_cat]) ?_
                                                          refine G_ldc C (v := (-1712000)) (im tw_4_175) dL_act_525 ?_
                                                          exact G_iret C (mc := mc) (ms := ms) (post := post) hr hc130 hs131 dL_act_527 h
                                                        · refine ⟨[⟨0, 517, 518, 118⟩, ⟨0, 517, 523, 121⟩], ⟨0, 517, 528, 124⟩, [], "java/lang/IllegalStateException", hT, (by
      intro z hz
      simp only [List.mem_cons, List.not_mem_nil, or_false] at hz
      rcases hz with rfl | rfl
      · exact ⟨by decide, "java/lang/IndexOutOfBoundsException", im tw_2_38, C.2.2.2.2.2.1.2.2.2 ("java/lang/IllegalStateException", "java/lang/IndexOutOfBoundsException") (by simp [NCs])⟩
      · exact ⟨by decide, "java/lang/IllegalArgumentException", im tw_2_39, C.2.2.2.2.2.1.2.2.2 ("java/lang/IllegalStateException", "java/lang/IllegalArgumentException") (by simp [NCs])⟩), by decide, by decide, im tw_2_40, by simp [NWn], fun q134 => ?_⟩
                                                          refine G_astore C (i := 7) (lv' := [(7, va_rf (some q134)), (0, va_rf x0), (1, Value.int x1), (2, Value.int x2), (3, Value.int x3), (4, Value.int x4), (5, Value.int x5), (6, Value.int x6)]) dL_act_528 (by decide) (by first | rfl | simp [va_cat, vi_cat, vl_cat]) ?_
                                                          refine G_ldc C (v := (-1713000)) (im tw_4_176) dL_act_530 ?_
                                                          exact G_iret C (mc := mc) (ms := ms) (post := post) hr hc130 hs131 dL_act_532 h
                                                      · replace h := h hd122
                                                        refine G_goto C (tgt := 517) dL_act_425 (by decide) ?_
                                                        refine G_lv C (lv' := []) [] rfl ?_
                                                        exact J517 _ _ _ _ h
                                                  · have h := h.2 hc
                                                    refine G_aload_n C (x := x0) 0 dL_act_405 rfl rfl ?_
                                                    refine G_iload_n C (x := x2) 2 dL_act_406 rfl rfl ?_
                                                    obtain ⟨S135, M136, hv137, hd138, h⟩ := h
                                                    obtain ⟨a140, ha141, h⟩ := h
                                                    obtain ⟨hk142, h⟩ := h
                                                    obtain ⟨m145, m146, hc147, hs148, h⟩ := h
                                                    refine G_fxcalli C hZ hv137 hd138 (Tf := TX8) (N := 10) hk142 (by decide) rfl tw_4_138 tw_4_139 tw_4_140 tw_1_1 tw_4_141 hy_X8_bars ⟨Nat.le_of_ble_eq_true rfl, Nat.le_of_ble_eq_true rfl⟩ (As := [Value.int x2]) (rest := []) (c_X8_bars l hl  D cy a140 x2 S135 m145 m146 _ _ h) rfl (by first | rfl | (simp only [ha141]; rfl) | simp only [ha141]) (by simp [va_cat, vi_cat, vl_cat]) dL_act_407 ⟨hc147, hs148⟩ (fun E S143 hd139 h => ?_) (fun r144 S143 hd139 h => ?_)
                                                    · replace h := h hd139; rcases h with ⟨rfl, h⟩ | ⟨rfl, h⟩ | ⟨rfl, h⟩
                                                      · refine ⟨[], ⟨0, 517, 518, 118⟩, [⟨0, 517, 523, 121⟩, ⟨0, 517, 528, 124⟩], "java/lang/IndexOutOfBoundsException", hT, (by simp), by decide, by decide, im tw_2_38, by simp [NWn], fun q149 => ?_⟩
                                                        refine G_astore C (i := 7) (lv' := [(7, va_rf (some q149)), (0, va_rf x0), (1, Value.int x1), (2, Value.int x2), (3, Value.int x3), (4, Value.int x4), (5, Value.int x5), (6, Value.int x6)]) dL_act_518 (by decide) (by first | rfl | simp [va_cat, vi_cat, vl_cat]) ?_
                                                        refine G_ldc C (v := (-1711000)) (im tw_4_174) dL_act_520 ?_
                                                        exact G_iret C (mc := mc) (ms := ms) (post := post) hr hc147 hs148 dL_act_522 h
                                                      · refine ⟨[⟨0, 517, 518, 118⟩], ⟨0, 517, 523, 121⟩, [⟨0, 517, 528, 124⟩], "java/lang/IllegalArgumentException", hT, (by
      intro z hz
      simp only [List.mem_cons, List.not_mem_nil, or_false] at hz
      rcases hz with rfl
      · exact ⟨by decide, "java/lang/IndexOutOfBoundsException", im tw_2_38, C.2.2.2.2.2.1.2.2.2 ("java/lang/IllegalArgumentException", "java/lang/IndexOutOfBoundsException") (by simp [NCs])⟩), by decide, by decide, im tw_2_39, by simp [NWn], fun q150 => ?_⟩
                                                        refine G_astore C (i := 7) (lv' := [(7, va_rf (some q150)), (0, va_rf x0), (1, Value.int x1), (2, Value.int x2), (3, Value.int x3), (4, Value.int x4), (5, Value.int x5), (6, Value.int x6)]) dL_act_523 (by decide) (by first | rfl | simp [va_cat, vi_cat, vl_cat]) ?_
                                                        refine G_ldc C (v := (-1712000)) (im tw_4_175) dL_act_525 ?_
                                                        exact G_iret C (mc := mc) (ms := ms) (post := post) hr hc147 hs148 dL_act_527 h
                                                      · refine ⟨[⟨0, 517, 518, 118⟩, ⟨0, 517, 523, 121⟩], ⟨0, 517, 528, 124⟩, [], "java/lang/IllegalStateException", hT, (by
      intro z hz
      simp only [List.mem_cons, List.not_mem_nil, or_false] at hz
      rcases hz with rfl | rfl
      · exact ⟨by decide, "java/lang/IndexOutOfBoundsException", im tw_2_38, C.2.2.2.2.2.1.2.2.2 ("java/lang/IllegalStateException", "java/lang/IndexOutOfBoundsException") (by simp [NCs])⟩
      · exact ⟨by decide, "java/lang/IllegalArgumentException", im tw_2_39, C.2.2.2.2.2.1.2.2.2 ("java/lang/IllegalStateException", "java/lang/IllegalArgumentException") (by simp [NCs])⟩), by decide, by decide, im tw_2_40, by simp [NWn], fun q151 => ?_⟩
                                                        refine G_astore C (i := 7) (lv' := [(7, va_rf (some q151)), (0, va_rf x0), (1, Value.int x1), (2, Value.int x2), (3, Value.int x3), (4, Value.int x4), (5, Value.int x5), (6, Value.int x6)]) dL_act_528 (by decide) (by first | rfl | simp [va_cat, vi_cat, vl_cat]) ?_
                                                        refine G_ldc C (v := (-1713000)) (im tw_4_176) dL_act_530 ?_
                                                        exact G_iret C (mc := mc) (ms := ms) (post := post) hr hc147 hs148 dL_act_532 h
                                                    · replace h := h hd139
                                                      refine G_goto C (tgt := 517) dL_act_410 (by decide) ?_
                                                      refine G_lv C (lv' := []) [] rfl ?_
                                                      exact J517 _ _ _ _ h
                                                · have h := h.2 hc
                                                  refine G_aload_n C (x := x0) 0 dL_act_388 rfl rfl ?_
                                                  refine G_iload_n C (x := x2) 2 dL_act_389 rfl rfl ?_
                                                  refine G_iload_n C (x := x3) 3 dL_act_390 rfl rfl ?_
                                                  refine G_iload C (x := x4) 4 dL_act_391 rfl ?_
                                                  obtain ⟨S152, M153, hv154, hd155, h⟩ := h
                                                  obtain ⟨a157, ha158, h⟩ := h
                                                  obtain ⟨hk159, h⟩ := h
                                                  obtain ⟨m162, m163, hc164, hs165, h⟩ := h
                                                  refine G_fxcalli C hZ hv154 hd155 (Tf := TX8) (N := 10) hk159 (by decide) rfl tw_4_112 tw_4_113 tw_4_114 tw_1_1 tw_4_115 hy_X8_liableAnew ⟨Nat.le_of_ble_eq_true rfl, Nat.le_of_ble_eq_true rfl⟩ (As := [Value.int x2, Value.int x3, Value.int x4]) (rest := []) (c_X8_liableAnew l hl  D cy a157 x2 x3 x4 S152 m162 m163 _ _ h) rfl (by first | rfl | (simp only [ha158]; rfl) | simp only [ha158]) (by simp [va_cat, vi_cat, vl_cat]) dL_act_393 ⟨hc164, hs165⟩ (fun E S160 hd156 h => ?_) (fun r161 S160 hd156 h => ?_)
                                                  · replace h := h hd156; rcases h with ⟨rfl, h⟩ | ⟨rfl, h⟩ | ⟨rfl, h⟩
                                                    · refine ⟨[], ⟨0, 517, 518, 118⟩, [⟨0, 517, 523, 121⟩, ⟨0, 517, 528, 124⟩], "java/lang/IndexOutOfBoundsException", hT, (by simp), by decide, by decide, im tw_2_38, by simp [NWn], fun q166 => ?_⟩
                                                      refine G_astore C (i := 7) (lv' := [(7, va_rf (some q166)), (0, va_rf x0), (1, Value.int x1), (2, Value.int x2), (3, Value.int x3), (4, Value.int x4), (5, Value.int x5), (6, Value.int x6)]) dL_act_518 (by decide) (by first | rfl | simp [va_cat, vi_cat, vl_cat]) ?_
                                                      refine G_ldc C (v := (-1711000)) (im tw_4_174) dL_act_520 ?_
                                                      exact G_iret C (mc := mc) (ms := ms) (post := post) hr hc164 hs165 dL_act_522 h
                                                    · refine ⟨[⟨0, 517, 518, 118⟩], ⟨0, 517, 523, 121⟩, [⟨0, 517, 528, 124⟩], "java/lang/IllegalArgumentException", hT, (by
      intro z hz
      simp only [List.mem_cons, List.not_mem_nil, or_false] at hz
      rcases hz with rfl
      · exact ⟨by decide, "java/lang/IndexOutOfBoundsException", im tw_2_38, C.2.2.2.2.2.1.2.2.2 ("java/lang/IllegalArgumentException", "java/lang/IndexOutOfBoundsException") (by simp [NCs])⟩), by decide, by decide, im tw_2_39, by simp [NWn], fun q167 => ?_⟩
                                                      refine G_astore C (i := 7) (lv' := [(7, va_rf (some q167)), (0, va_rf x0), (1, Value.int x1), (2, Value.int x2), (3, Value.int x3), (4, Value.int x4), (5, Value.int x5), (6, Value.int x6)]) dL_act_523 (by decide) (by first | rfl | simp [va_cat, vi_cat, vl_cat]) ?_
                                                      refine G_ldc C (v := (-1712000)) (im tw_4_175) dL_act_525 ?_
                                                      exact G_iret C (mc := mc) (ms := ms) (post := post) hr hc164 hs165 dL_act_527 h
                                                    · refine ⟨[⟨0, 517, 518, 118⟩, ⟨0, 517, 523, 121⟩], ⟨0, 517, 528, 124⟩, [], "java/lang/IllegalStateException", hT, (by
      intro z hz
      simp only [List.mem_cons, List.not_mem_nil, or_false] at hz
      rcases hz with rfl | rfl
      · exact ⟨by decide, "java/lang/IndexOutOfBoundsException", im tw_2_38, C.2.2.2.2.2.1.2.2.2 ("java/lang/IllegalStateException", "java/lang/IndexOutOfBoundsException") (by simp [NCs])⟩
      · exact ⟨by decide, "java/lang/IllegalArgumentException", im tw_2_39, C.2.2.2.2.2.1.2.2.2 ("java/lang/IllegalStateException", "java/lang/IllegalArgumentException") (by simp [NCs])⟩), by decide, by decide, im tw_2_40, by simp [NWn], fun q168 => ?_⟩
                                                      refine G_astore C (i := 7) (lv' := [(7, va_rf (some q168)), (0, va_rf x0), (1, Value.int x1), (2, Value.int x2), (3, Value.int x3), (4, Value.int x4), (5, Value.int x5), (6, Value.int x6)]) dL_act_528 (by decide) (by first | rfl | simp [va_cat, vi_cat, vl_cat]) ?_
                                                      refine G_ldc C (v := (-1713000)) (im tw_4_176) dL_act_530 ?_
                                                      exact G_iret C (mc := mc) (ms := ms) (post := post) hr hc164 hs165 dL_act_532 h
                                                  · replace h := h hd156
                                                    refine G_goto C (tgt := 517) dL_act_396 (by decide) ?_
                                                    refine G_lv C (lv' := []) [] rfl ?_
                                                    exact J517 _ _ _ _ h
                                              · have h := h.2 hc
                                                refine G_aload_n C (x := x0) 0 dL_act_371 rfl rfl ?_
                                                refine G_iload_n C (x := x2) 2 dL_act_372 rfl rfl ?_
                                                refine G_iload_n C (x := x3) 3 dL_act_373 rfl rfl ?_
                                                refine G_iload C (x := x4) 4 dL_act_374 rfl ?_
                                                obtain ⟨S169, M170, hv171, hd172, h⟩ := h
                                                obtain ⟨a174, ha175, h⟩ := h
                                                obtain ⟨hk176, h⟩ := h
                                                obtain ⟨m179, m180, hc181, hs182, h⟩ := h
                                                refine G_fxcalli C hZ hv171 hd172 (Tf := TX8) (N := 10) hk176 (by decide) rfl tw_1_130 tw_1_131 tw_1_132 tw_1_1 tw_1_133 hy_X8_liable ⟨Nat.le_of_ble_eq_true rfl, Nat.le_of_ble_eq_true rfl⟩ (As := [Value.int x2, Value.int x3, Value.int x4]) (rest := []) (c_X8_liable l hl  D cy a174 x2 x3 x4 S169 m179 m180 _ _ h) rfl (by first | rfl | (simp only [ha175]; rfl) | simp only [ha175]) (by simp [va_cat, vi_cat, vl_cat]) dL_act_376 ⟨hc181, hs182⟩ (fun E S177 hd173 h => ?_) (fun r178 S177 hd173 h => ?_)
                                                · replace h := h hd173; rcases h with ⟨rfl, h⟩ | ⟨rfl, h⟩ | ⟨rfl, h⟩
                                                  · refine ⟨[], ⟨0, 517, 518, 118⟩, [⟨0, 517, 523, 121⟩, ⟨0, 517, 528, 124⟩], "java/lang/IndexOutOfBoundsException", hT, (by simp), by decide, by decide, im tw_2_38, by simp [NWn], fun q183 => ?_⟩
                                                    refine G_astore C (i := 7) (lv' := [(7, va_rf (some q183)), (0, va_rf x0), (1, Value.int x1), (2, Value.int x2), (3, Value.int x3), (4, Value.int x4), (5, Value.int x5), (6, Value.int x6)]) dL_act_518 (by decide) (by first | rfl | simp [va_cat, vi_cat, vl_cat]) ?_
                                                    refine G_ldc C (v := (-1711000)) (im tw_4_174) dL_act_520 ?_
                                                    exact G_iret C (mc := mc) (ms := ms) (post := post) hr hc181 hs182 dL_act_522 h
                                                  · refine ⟨[⟨0, 517, 518, 118⟩], ⟨0, 517, 523, 121⟩, [⟨0, 517, 528, 124⟩], "java/lang/IllegalArgumentException", hT, (by
      intro z hz
      simp only [List.mem_cons, List.not_mem_nil, or_false] at hz
      rcases hz with rfl
      · exact ⟨by decide, "java/lang/IndexOutOfBoundsException", im tw_2_38, C.2.2.2.2.2.1.2.2.2 ("java/lang/IllegalArgumentException", "java/lang/IndexOutOfBoundsException") (by simp [NCs])⟩), by decide, by decide, im tw_2_39, by simp [NWn], fun q184 => ?_⟩
                                                    refine G_astore C (i := 7) (lv' := [(7, va_rf (some q184)), (0, va_rf x0), (1, Value.int x1), (2, Value.int x2), (3, Value.int x3), (4, Value.int x4), (5, Value.int x5), (6, Value.int x6)]) dL_act_523 (by decide) (by first | rfl | simp [va_cat, vi_cat, vl_cat]) ?_
                                                    refine G_ldc C (v := (-1712000)) (im tw_4_175) dL_act_525 ?_
                                                    exact G_iret C (mc := mc) (ms := ms) (post := post) hr hc181 hs182 dL_act_527 h
                                                  · refine ⟨[⟨0, 517, 518, 118⟩, ⟨0, 517, 523, 121⟩], ⟨0, 517, 528, 124⟩, [], "java/lang/IllegalStateException", hT, (by
      intro z hz
      simp only [List.mem_cons, List.not_mem_nil, or_false] at hz
      rcases hz with rfl | rfl
      · exact ⟨by decide, "java/lang/IndexOutOfBoundsException", im tw_2_38, C.2.2.2.2.2.1.2.2.2 ("java/lang/IllegalStateException", "java/lang/IndexOutOfBoundsException") (by simp [NCs])⟩
      · exact ⟨by decide, "java/lang/IllegalArgumentException", im tw_2_39, C.2.2.2.2.2.1.2.2.2 ("java/lang/IllegalStateException", "java/lang/IllegalArgumentException") (by simp [NCs])⟩), by decide, by decide, im tw_2_40, by simp [NWn], fun q185 => ?_⟩
                                                    refine G_astore C (i := 7) (lv' := [(7, va_rf (some q185)), (0, va_rf x0), (1, Value.int x1), (2, Value.int x2), (3, Value.int x3), (4, Value.int x4), (5, Value.int x5), (6, Value.int x6)]) dL_act_528 (by decide) (by first | rfl | simp [va_cat, vi_cat, vl_cat]) ?_
                                                    refine G_ldc C (v := (-1713000)) (im tw_4_176) dL_act_530 ?_
                                                    exact G_iret C (mc := mc) (ms := ms) (post := post) hr hc181 hs182 dL_act_532 h
                                                · replace h := h hd173
                                                  refine G_goto C (tgt := 517) dL_act_379 (by decide) ?_
                                                  refine G_lv C (lv' := []) [] rfl ?_
                                                  exact J517 _ _ _ _ h
                                            · have h := h.2 hc
                                              refine G_aload_n C (x := x0) 0 dL_act_356 rfl rfl ?_
                                              refine G_iload_n C (x := x2) 2 dL_act_357 rfl rfl ?_
                                              refine G_iload_n C (x := x3) 3 dL_act_358 rfl rfl ?_
                                              obtain ⟨S186, M187, hv188, hd189, h⟩ := h
                                              obtain ⟨a191, ha192, h⟩ := h
                                              obtain ⟨hk193, h⟩ := h
                                              obtain ⟨m196, m197, hc198, hs199, h⟩ := h
                                              refine G_fxcalli C hZ hv188 hd189 (Tf := TX8) (N := 10) hk193 (by decide) rfl tw_4_103 tw_4_104 tw_4_105 tw_1_1 tw_4_106 hy_X8_core ⟨Nat.le_of_ble_eq_true rfl, Nat.le_of_ble_eq_true rfl⟩ (As := [Value.int x2, Value.int x3]) (rest := []) (c_X8_core l hl  D cy a191 x2 x3 S186 m196 m197 _ _ h) rfl (by first | rfl | (simp only [ha192]; rfl) | simp only [ha192]) (by simp [va_cat, vi_cat, vl_cat]) dL_act_359 ⟨hc198, hs199⟩ (fun E S194 hd190 h => ?_) (fun r195 S194 hd190 h => ?_)
                                              · replace h := h hd190; rcases h with ⟨rfl, h⟩ | ⟨rfl, h⟩ | ⟨rfl, h⟩
                                                · refine ⟨[], ⟨0, 517, 518, 118⟩, [⟨0, 517, 523, 121⟩, ⟨0, 517, 528, 124⟩], "java/lang/IndexOutOfBoundsException", hT, (by simp), by decide, by decide, im tw_2_38, by simp [NWn], fun q200 => ?_⟩
                                                  refine G_astore C (i := 7) (lv' := [(7, va_rf (some q200)), (0, va_rf x0), (1, Value.int x1), (2, Value.int x2), (3, Value.int x3), (4, Value.int x4), (5, Value.int x5), (6, Value.int x6)]) dL_act_518 (by decide) (by first | rfl | simp [va_cat, vi_cat, vl_cat]) ?_
                                                  refine G_ldc C (v := (-1711000)) (im tw_4_174) dL_act_520 ?_
                                                  exact G_iret C (mc := mc) (ms := ms) (post := post) hr hc198 hs199 dL_act_522 h
                                                · refine ⟨[⟨0, 517, 518, 118⟩], ⟨0, 517, 523, 121⟩, [⟨0, 517, 528, 124⟩], "java/lang/IllegalArgumentException", hT, (by
      intro z hz
      simp only [List.mem_cons, List.not_mem_nil, or_false] at hz
      rcases hz with rfl
      · exact ⟨by decide, "java/lang/IndexOutOfBoundsException", im tw_2_38, C.2.2.2.2.2.1.2.2.2 ("java/lang/IllegalArgumentException", "java/lang/IndexOutOfBoundsException") (by simp [NCs])⟩), by decide, by decide, im tw_2_39, by simp [NWn], fun q201 => ?_⟩
                                                  refine G_astore C (i := 7) (lv' := [(7, va_rf (some q201)), (0, va_rf x0), (1, Value.int x1), (2, Value.int x2), (3, Value.int x3), (4, Value.int x4), (5, Value.int x5), (6, Value.int x6)]) dL_act_523 (by decide) (by first | rfl | simp [va_cat, vi_cat, vl_cat]) ?_
                                                  refine G_ldc C (v := (-1712000)) (im tw_4_175) dL_act_525 ?_
                                                  exact G_iret C (mc := mc) (ms := ms) (post := post) hr hc198 hs199 dL_act_527 h
                                                · refine ⟨[⟨0, 517, 518, 118⟩, ⟨0, 517, 523, 121⟩], ⟨0, 517, 528, 124⟩, [], "java/lang/IllegalStateException", hT, (by
      intro z hz
      simp only [List.mem_cons, List.not_mem_nil, or_false] at hz
      rcases hz with rfl | rfl
      · exact ⟨by decide, "java/lang/IndexOutOfBoundsException", im tw_2_38, C.2.2.2.2.2.1.2.2.2 ("java/lang/IllegalStateException", "java/lang/IndexOutOfBoundsException") (by simp [NCs])⟩
      · exact ⟨by decide, "java/lang/IllegalArgumentException", im tw_2_39, C.2.2.2.2.2.1.2.2.2 ("java/lang/IllegalStateException", "java/lang/IllegalArgumentException") (by simp [NCs])⟩), by decide, by decide, im tw_2_40, by simp [NWn], fun q202 => ?_⟩
                                                  refine G_astore C (i := 7) (lv' := [(7, va_rf (some q202)), (0, va_rf x0), (1, Value.int x1), (2, Value.int x2), (3, Value.int x3), (4, Value.int x4), (5, Value.int x5), (6, Value.int x6)]) dL_act_528 (by decide) (by first | rfl | simp [va_cat, vi_cat, vl_cat]) ?_
                                                  refine G_ldc C (v := (-1713000)) (im tw_4_176) dL_act_530 ?_
                                                  exact G_iret C (mc := mc) (ms := ms) (post := post) hr hc198 hs199 dL_act_532 h
                                              · replace h := h hd190
                                                refine G_goto C (tgt := 517) dL_act_362 (by decide) ?_
                                                refine G_lv C (lv' := []) [] rfl ?_
                                                exact J517 _ _ _ _ h
                                          · have h := h.2 hc
                                            refine G_aload_n C (x := x0) 0 dL_act_339 rfl rfl ?_
                                            refine G_iload_n C (x := x2) 2 dL_act_340 rfl rfl ?_
                                            refine G_iload_n C (x := x3) 3 dL_act_341 rfl rfl ?_
                                            refine G_iload C (x := x4) 4 dL_act_342 rfl ?_
                                            obtain ⟨S203, M204, hv205, hd206, h⟩ := h
                                            obtain ⟨a208, ha209, h⟩ := h
                                            obtain ⟨hk210, h⟩ := h
                                            obtain ⟨m213, m214, hc215, hs216, h⟩ := h
                                            refine G_fxcalli C hZ hv205 hd206 (Tf := TX8) (N := 10) hk210 (by decide) rfl tw_4_95 tw_4_96 tw_4_97 tw_1_1 tw_4_98 hy_X8_defect ⟨Nat.le_of_ble_eq_true rfl, Nat.le_of_ble_eq_true rfl⟩ (As := [Value.int x2, Value.int x3, Value.int x4]) (rest := []) (c_X8_defect l hl  D cy a208 x2 x3 x4 S203 m213 m214 _ _ h) rfl (by first | rfl | (simp only [ha209]; rfl) | simp only [ha209]) (by simp [va_cat, vi_cat, vl_cat]) dL_act_344 ⟨hc215, hs216⟩ (fun E S211 hd207 h => ?_) (fun r212 S211 hd207 h => ?_)
                                            · replace h := h hd207; rcases h with ⟨rfl, h⟩ | ⟨rfl, h⟩ | ⟨rfl, h⟩
                                              · refine ⟨[], ⟨0, 517, 518, 118⟩, [⟨0, 517, 523, 121⟩, ⟨0, 517, 528, 124⟩], "java/lang/IndexOutOfBoundsException", hT, (by simp), by decide, by decide, im tw_2_38, by simp [NWn], fun q217 => ?_⟩
                                                refine G_astore C (i := 7) (lv' := [(7, va_rf (some q217)), (0, va_rf x0), (1, Value.int x1), (2, Value.int x2), (3, Value.int x3), (4, Value.int x4), (5, Value.int x5), (6, Value.int x6)]) dL_act_518 (by decide) (by first | rfl | simp [va_cat, vi_cat, vl_cat]) ?_
                                                refine G_ldc C (v := (-1711000)) (im tw_4_174) dL_act_520 ?_
                                                exact G_iret C (mc := mc) (ms := ms) (post := post) hr hc215 hs216 dL_act_522 h
                                              · refine ⟨[⟨0, 517, 518, 118⟩], ⟨0, 517, 523, 121⟩, [⟨0, 517, 528, 124⟩], "java/lang/IllegalArgumentException", hT, (by
      intro z hz
      simp only [List.mem_cons, List.not_mem_nil, or_false] at hz
      rcases hz with rfl
      · exact ⟨by decide, "java/lang/IndexOutOfBoundsException", im tw_2_38, C.2.2.2.2.2.1.2.2.2 ("java/lang/IllegalArgumentException", "java/lang/IndexOutOfBoundsException") (by simp [NCs])⟩), by decide, by decide, im tw_2_39, by simp [NWn], fun q218 => ?_⟩
                                                refine G_astore C (i := 7) (lv' := [(7, va_rf (some q218)), (0, va_rf x0), (1, Value.int x1), (2, Value.int x2), (3, Value.int x3), (4, Value.int x4), (5, Value.int x5), (6, Value.int x6)]) dL_act_523 (by decide) (by first | rfl | simp [va_cat, vi_cat, vl_cat]) ?_
                                                refine G_ldc C (v := (-1712000)) (im tw_4_175) dL_act_525 ?_
                                                exact G_iret C (mc := mc) (ms := ms) (post := post) hr hc215 hs216 dL_act_527 h
                                              · refine ⟨[⟨0, 517, 518, 118⟩, ⟨0, 517, 523, 121⟩], ⟨0, 517, 528, 124⟩, [], "java/lang/IllegalStateException", hT, (by
      intro z hz
      simp only [List.mem_cons, List.not_mem_nil, or_false] at hz
      rcases hz with rfl | rfl
      · exact ⟨by decide, "java/lang/IndexOutOfBoundsException", im tw_2_38, C.2.2.2.2.2.1.2.2.2 ("java/lang/IllegalStateException", "java/lang/IndexOutOfBoundsException") (by simp [NCs])⟩
      · exact ⟨by decide, "java/lang/IllegalArgumentException", im tw_2_39, C.2.2.2.2.2.1.2.2.2 ("java/lang/IllegalStateException", "java/lang/IllegalArgumentException") (by simp [NCs])⟩), by decide, by decide, im tw_2_40, by simp [NWn], fun q219 => ?_⟩
                                                refine G_astore C (i := 7) (lv' := [(7, va_rf (some q219)), (0, va_rf x0), (1, Value.int x1), (2, Value.int x2), (3, Value.int x3), (4, Value.int x4), (5, Value.int x5), (6, Value.int x6)]) dL_act_528 (by decide) (by first | rfl | simp [va_cat, vi_cat, vl_cat]) ?_
                                                refine G_ldc C (v := (-1713000)) (im tw_4_176) dL_act_530 ?_
                                                exact G_iret C (mc := mc) (ms := ms) (post := post) hr hc215 hs216 dL_act_532 h
                                            · replace h := h hd207
                                              refine G_goto C (tgt := 517) dL_act_347 (by decide) ?_
                                              refine G_lv C (lv' := []) [] rfl ?_
                                              exact J517 _ _ _ _ h
                                        · have h := h.2 hc
                                          refine G_aload_n C (x := x0) 0 dL_act_325 rfl rfl ?_
                                          refine G_iload_n C (x := x2) 2 dL_act_326 rfl rfl ?_
                                          obtain ⟨S220, M221, hv222, hd223, h⟩ := h
                                          obtain ⟨a225, ha226, h⟩ := h
                                          obtain ⟨hk227, h⟩ := h
                                          obtain ⟨m230, m231, hc232, hs233, h⟩ := h
                                          refine G_fxcalli C hZ hv222 hd223 (Tf := TX8) (N := 10) hk227 (by decide) rfl tw_4_48 tw_4_49 tw_4_50 tw_1_1 tw_4_51 hy_X8_pass ⟨Nat.le_of_ble_eq_true rfl, Nat.le_of_ble_eq_true rfl⟩ (As := [Value.int x2]) (rest := []) (c_X8_pass l hl  D cy a225 x2 S220 m230 m231 _ _ h) rfl (by first | rfl | (simp only [ha226]; rfl) | simp only [ha226]) (by simp [va_cat, vi_cat, vl_cat]) dL_act_327 ⟨hc232, hs233⟩ (fun E S228 hd224 h => ?_) (fun r229 S228 hd224 h => ?_)
                                          · replace h := h hd224; rcases h with ⟨rfl, h⟩ | ⟨rfl, h⟩ | ⟨rfl, h⟩
                                            · refine ⟨[], ⟨0, 517, 518, 118⟩, [⟨0, 517, 523, 121⟩, ⟨0, 517, 528, 124⟩], "java/lang/IndexOutOfBoundsException", hT, (by simp), by decide, by decide, im tw_2_38, by simp [NWn], fun q234 => ?_⟩
                                              refine G_astore C (i := 7) (lv' := [(7, va_rf (some q234)), (0, va_rf x0), (1, Value.int x1), (2, Value.int x2), (3, Value.int x3), (4, Value.int x4), (5, Value.int x5), (6, Value.int x6)]) dL_act_518 (by decide) (by first | rfl | simp [va_cat, vi_cat, vl_cat]) ?_
                                              refine G_ldc C (v := (-1711000)) (im tw_4_174) dL_act_520 ?_
                                              exact G_iret C (mc := mc) (ms := ms) (post := post) hr hc232 hs233 dL_act_522 h
                                            · refine ⟨[⟨0, 517, 518, 118⟩], ⟨0, 517, 523, 121⟩, [⟨0, 517, 528, 124⟩], "java/lang/IllegalArgumentException", hT, (by
      intro z hz
      simp only [List.mem_cons, List.not_mem_nil, or_false] at hz
      rcases hz with rfl
      · exact ⟨by decide, "java/lang/IndexOutOfBoundsException", im tw_2_38, C.2.2.2.2.2.1.2.2.2 ("java/lang/IllegalArgumentException", "java/lang/IndexOutOfBoundsException") (by simp [NCs])⟩), by decide, by decide, im tw_2_39, by simp [NWn], fun q235 => ?_⟩
                                              refine G_astore C (i := 7) (lv' := [(7, va_rf (some q235)), (0, va_rf x0), (1, Value.int x1), (2, Value.int x2), (3, Value.int x3), (4, Value.int x4), (5, Value.int x5), (6, Value.int x6)]) dL_act_523 (by decide) (by first | rfl | simp [va_cat, vi_cat, vl_cat]) ?_
                                              refine G_ldc C (v := (-1712000)) (im tw_4_175) dL_act_525 ?_
                                              exact G_iret C (mc := mc) (ms := ms) (post := post) hr hc232 hs233 dL_act_527 h
                                            · refine ⟨[⟨0, 517, 518, 118⟩, ⟨0, 517, 523, 121⟩], ⟨0, 517, 528, 124⟩, [], "java/lang/IllegalStateException", hT, (by
      intro z hz
      simp only [List.mem_cons, List.not_mem_nil, or_false] at hz
      rcases hz with rfl | rfl
      · exact ⟨by decide, "java/lang/IndexOutOfBoundsException", im tw_2_38, C.2.2.2.2.2.1.2.2.2 ("java/lang/IllegalStateException", "java/lang/IndexOutOfBoundsException") (by simp [NCs])⟩
      · exact ⟨by decide, "java/lang/IllegalArgumentException", im tw_2_39, C.2.2.2.2.2.1.2.2.2 ("java/lang/IllegalStateException", "java/lang/IllegalArgumentException") (by simp [NCs])⟩), by decide, by decide, im tw_2_40, by simp [NWn], fun q236 => ?_⟩
                                              refine G_astore C (i := 7) (lv' := [(7, va_rf (some q236)), (0, va_rf x0), (1, Value.int x1), (2, Value.int x2), (3, Value.int x3), (4, Value.int x4), (5, Value.int x5), (6, Value.int x6)]) dL_act_528 (by decide) (by first | rfl | simp [va_cat, vi_cat, vl_cat]) ?_
                                              refine G_ldc C (v := (-1713000)) (im tw_4_176) dL_act_530 ?_
                                              exact G_iret C (mc := mc) (ms := ms) (post := post) hr hc232 hs233 dL_act_532 h
                                          · replace h := h hd224
                                            refine G_goto C (tgt := 517) dL_act_330 (by decide) ?_
                                            refine G_lv C (lv' := []) [] rfl ?_
                                            exact J517 _ _ _ _ h
                                      · have h := h.2 hc
                                        refine G_aload_n C (x := x0) 0 dL_act_311 rfl rfl ?_
                                        refine G_iload_n C (x := x2) 2 dL_act_312 rfl rfl ?_
                                        obtain ⟨S237, M238, hv239, hd240, h⟩ := h
                                        obtain ⟨a242, ha243, h⟩ := h
                                        obtain ⟨hk244, h⟩ := h
                                        obtain ⟨m247, m248, hc249, hs250, h⟩ := h
                                        refine G_fxcalli C hZ hv239 hd240 (Tf := TX8) (N := 10) hk244 (by decide) rfl tw_4_43 tw_4_44 tw_4_45 tw_1_1 tw_4_46 hy_X8_stop ⟨Nat.le_of_ble_eq_true rfl, Nat.le_of_ble_eq_true rfl⟩ (As := [Value.int x2]) (rest := []) (c_X8_stop l hl  D cy a242 x2 S237 m247 m248 _ _ h) rfl (by first | rfl | (simp only [ha243]; rfl) | simp only [ha243]) (by simp [va_cat, vi_cat, vl_cat]) dL_act_313 ⟨hc249, hs250⟩ (fun E S245 hd241 h => ?_) (fun r246 S245 hd241 h => ?_)
                                        · replace h := h hd241; rcases h with ⟨rfl, h⟩ | ⟨rfl, h⟩ | ⟨rfl, h⟩
                                          · refine ⟨[], ⟨0, 517, 518, 118⟩, [⟨0, 517, 523, 121⟩, ⟨0, 517, 528, 124⟩], "java/lang/IndexOutOfBoundsException", hT, (by simp), by decide, by decide, im tw_2_38, by simp [NWn], fun q251 => ?_⟩
                                            refine G_astore C (i := 7) (lv' := [(7, va_rf (some q251)), (0, va_rf x0), (1, Value.int x1), (2, Value.int x2), (3, Value.int x3), (4, Value.int x4), (5, Value.int x5), (6, Value.int x6)]) dL_act_518 (by decide) (by first | rfl | simp [va_cat, vi_cat, vl_cat]) ?_
                                            refine G_ldc C (v := (-1711000)) (im tw_4_174) dL_act_520 ?_
                                            exact G_iret C (mc := mc) (ms := ms) (post := post) hr hc249 hs250 dL_act_522 h
                                          · refine ⟨[⟨0, 517, 518, 118⟩], ⟨0, 517, 523, 121⟩, [⟨0, 517, 528, 124⟩], "java/lang/IllegalArgumentException", hT, (by
      intro z hz
      simp only [List.mem_cons, List.not_mem_nil, or_false] at hz
      rcases hz with rfl
      · exact ⟨by decide, "java/lang/IndexOutOfBoundsException", im tw_2_38, C.2.2.2.2.2.1.2.2.2 ("java/lang/IllegalArgumentException", "java/lang/IndexOutOfBoundsException") (by simp [NCs])⟩), by decide, by decide, im tw_2_39, by simp [NWn], fun q252 => ?_⟩
                                            refine G_astore C (i := 7) (lv' := [(7, va_rf (some q252)), (0, va_rf x0), (1, Value.int x1), (2, Value.int x2), (3, Value.int x3), (4, Value.int x4), (5, Value.int x5), (6, Value.int x6)]) dL_act_523 (by decide) (by first | rfl | simp [va_cat, vi_cat, vl_cat]) ?_
                                            refine G_ldc C (v := (-1712000)) (im tw_4_175) dL_act_525 ?_
                                            exact G_iret C (mc := mc) (ms := ms) (post := post) hr hc249 hs250 dL_act_527 h
                                          · refine ⟨[⟨0, 517, 518, 118⟩, ⟨0, 517, 523, 121⟩], ⟨0, 517, 528, 124⟩, [], "java/lang/IllegalStateException", hT, (by
      intro z hz
      simp only [List.mem_cons, List.not_mem_nil, or_false] at hz
      rcases hz with rfl | rfl
      · exact ⟨by decide, "java/lang/IndexOutOfBoundsException", im tw_2_38, C.2.2.2.2.2.1.2.2.2 ("java/lang/IllegalStateException", "java/lang/IndexOutOfBoundsException") (by simp [NCs])⟩
      · exact ⟨by decide, "java/lang/IllegalArgumentException", im tw_2_39, C.2.2.2.2.2.1.2.2.2 ("java/lang/IllegalStateException", "java/lang/IllegalArgumentException") (by simp [NCs])⟩), by decide, by decide, im tw_2_40, by simp [NWn], fun q253 => ?_⟩
                                            refine G_astore C (i := 7) (lv' := [(7, va_rf (some q253)), (0, va_rf x0), (1, Value.int x1), (2, Value.int x2), (3, Value.int x3), (4, Value.int x4), (5, Value.int x5), (6, Value.int x6)]) dL_act_528 (by decide) (by first | rfl | simp [va_cat, vi_cat, vl_cat]) ?_
                                            refine G_ldc C (v := (-1713000)) (im tw_4_176) dL_act_530 ?_
                                            exact G_iret C (mc := mc) (ms := ms) (post := post) hr hc249 hs250 dL_act_532 h
                                        · replace h := h hd241
                                          refine G_goto C (tgt := 517) dL_act_316 (by decide) ?_
                                          refine G_lv C (lv' := []) [] rfl ?_
                                          exact J517 _ _ _ _ h
                                    · have h := h.2 hc
                                      refine G_aload_n C (x := x0) 0 dL_act_297 rfl rfl ?_
                                      refine G_iload_n C (x := x2) 2 dL_act_298 rfl rfl ?_
                                      obtain ⟨S254, M255, hv256, hd257, h⟩ := h
                                      obtain ⟨a259, ha260, h⟩ := h
                                      obtain ⟨hk261, h⟩ := h
                                      obtain ⟨m264, m265, hc266, hs267, h⟩ := h
                                      refine G_fxcalli C hZ hv256 hd257 (Tf := TX8) (N := 10) hk261 (by decide) rfl tw_4_36 tw_4_37 tw_4_38 tw_1_1 tw_4_39 hy_X8_extend ⟨Nat.le_of_ble_eq_true rfl, Nat.le_of_ble_eq_true rfl⟩ (As := [Value.int x2]) (rest := []) (c_X8_extend l hl  D cy a259 x2 S254 m264 m265 _ _ h) rfl (by first | rfl | (simp only [ha260]; rfl) | simp only [ha260]) (by simp [va_cat, vi_cat, vl_cat]) dL_act_299 ⟨hc266, hs267⟩ (fun E S262 hd258 h => ?_) (fun r263 S262 hd258 h => ?_)
                                      · replace h := h hd258; rcases h with ⟨rfl, h⟩ | ⟨rfl, h⟩ | ⟨rfl, h⟩
                                        · refine ⟨[], ⟨0, 517, 518, 118⟩, [⟨0, 517, 523, 121⟩, ⟨0, 517, 528, 124⟩], "java/lang/IndexOutOfBoundsException", hT, (by simp), by decide, by decide, im tw_2_38, by simp [NWn], fun q268 => ?_⟩
                                          refine G_astore C (i := 7) (lv' := [(7, va_rf (some q268)), (0, va_rf x0), (1, Value.int x1), (2, Value.int x2), (3, Value.int x3), (4, Value.int x4), (5, Value.int x5), (6, Value.int x6)]) dL_act_518 (by decide) (by first | rfl | simp [va_cat, vi_cat, vl_cat]) ?_
                                          refine G_ldc C (v := (-1711000)) (im tw_4_174) dL_act_520 ?_
                                          exact G_iret C (mc := mc) (ms := ms) (post := post) hr hc266 hs267 dL_act_522 h
                                        · refine ⟨[⟨0, 517, 518, 118⟩], ⟨0, 517, 523, 121⟩, [⟨0, 517, 528, 124⟩], "java/lang/IllegalArgumentException", hT, (by
      intro z hz
      simp only [List.mem_cons, List.not_mem_nil, or_false] at hz
      rcases hz with rfl
      · exact ⟨by decide, "java/lang/IndexOutOfBoundsException", im tw_2_38, C.2.2.2.2.2.1.2.2.2 ("java/lang/IllegalArgumentException", "java/lang/IndexOutOfBoundsException") (by simp [NCs])⟩), by decide, by decide, im tw_2_39, by simp [NWn], fun q269 => ?_⟩
                                          refine G_astore C (i := 7) (lv' := [(7, va_rf (some q269)), (0, va_rf x0), (1, Value.int x1), (2, Value.int x2), (3, Value.int x3), (4, Value.int x4), (5, Value.int x5), (6, Value.int x6)]) dL_act_523 (by decide) (by first | rfl | simp [va_cat, vi_cat, vl_cat]) ?_
                                          refine G_ldc C (v := (-1712000)) (im tw_4_175) dL_act_525 ?_
                                          exact G_iret C (mc := mc) (ms := ms) (post := post) hr hc266 hs267 dL_act_527 h
                                        · refine ⟨[⟨0, 517, 518, 118⟩, ⟨0, 517, 523, 121⟩], ⟨0, 517, 528, 124⟩, [], "java/lang/IllegalStateException", hT, (by
      intro z hz
      simp only [List.mem_cons, List.not_mem_nil, or_false] at hz
      rcases hz with rfl | rfl
      · exact ⟨by decide, "java/lang/IndexOutOfBoundsException", im tw_2_38, C.2.2.2.2.2.1.2.2.2 ("java/lang/IllegalStateException", "java/lang/IndexOutOfBoundsException") (by simp [NCs])⟩
      · exact ⟨by decide, "java/lang/IllegalArgumentException", im tw_2_39, C.2.2.2.2.2.1.2.2.2 ("java/lang/IllegalStateException", "java/lang/IllegalArgumentException") (by simp [NCs])⟩), by decide, by decide, im tw_2_40, by simp [NWn], fun q270 => ?_⟩
                                          refine G_astore C (i := 7) (lv' := [(7, va_rf (some q270)), (0, va_rf x0), (1, Value.int x1), (2, Value.int x2), (3, Value.int x3), (4, Value.int x4), (5, Value.int x5), (6, Value.int x6)]) dL_act_528 (by decide) (by first | rfl | simp [va_cat, vi_cat, vl_cat]) ?_
                                          refine G_ldc C (v := (-1713000)) (im tw_4_176) dL_act_530 ?_
                                          exact G_iret C (mc := mc) (ms := ms) (post := post) hr hc266 hs267 dL_act_532 h
                                      · replace h := h hd258
                                        refine G_goto C (tgt := 517) dL_act_302 (by decide) ?_
                                        refine G_lv C (lv' := []) [] rfl ?_
                                        exact J517 _ _ _ _ h
                                  · have h := h.2 hc
                                    refine G_aload_n C (x := x0) 0 dL_act_275 rfl rfl ?_
                                    refine G_iload_n C (x := x2) 2 dL_act_276 rfl rfl ?_
                                    obtain ⟨S271, M272, hv273, hd274, h⟩ := h
                                    obtain ⟨a276, ha277, h⟩ := h
                                    obtain ⟨hk278, h⟩ := h
                                    obtain ⟨m281, m282, hc283, hs284, h⟩ := h
                                    refine G_fxcalli C hZ hv273 hd274 (Tf := TX8) (N := 10) hk278 (by decide) rfl tw_4_31 tw_4_32 tw_4_33 tw_1_1 tw_4_34 hy_X8_plate ⟨Nat.le_of_ble_eq_true rfl, Nat.le_of_ble_eq_true rfl⟩ (As := [Value.int x2]) (rest := []) (c_X8_plate l hl  D cy a276 x2 S271 m281 m282 _ _ h) rfl (by first | rfl | (simp only [ha277]; rfl) | simp only [ha277]) (by simp [va_cat, vi_cat, vl_cat]) dL_act_277 ⟨hc283, hs284⟩ (fun E S279 hd275 h => ?_) (fun r280 S279 hd275 h => ?_)
                                    · replace h := h hd275; rcases h with ⟨rfl, h⟩ | ⟨rfl, h⟩ | ⟨rfl, h⟩
                                      · refine ⟨[], ⟨0, 517, 518, 118⟩, [⟨0, 517, 523, 121⟩, ⟨0, 517, 528, 124⟩], "java/lang/IndexOutOfBoundsException", hT, (by simp), by decide, by decide, im tw_2_38, by simp [NWn], fun q285 => ?_⟩
                                        refine G_astore C (i := 7) (lv' := [(7, va_rf (some q285)), (0, va_rf x0), (1, Value.int x1), (2, Value.int x2), (3, Value.int x3), (4, Value.int x4), (5, Value.int x5), (6, Value.int x6)]) dL_act_518 (by decide) (by first | rfl | simp [va_cat, vi_cat, vl_cat]) ?_
                                        refine G_ldc C (v := (-1711000)) (im tw_4_174) dL_act_520 ?_
                                        exact G_iret C (mc := mc) (ms := ms) (post := post) hr hc283 hs284 dL_act_522 h
                                      · refine ⟨[⟨0, 517, 518, 118⟩], ⟨0, 517, 523, 121⟩, [⟨0, 517, 528, 124⟩], "java/lang/IllegalArgumentException", hT, (by
      intro z hz
      simp only [List.mem_cons, List.not_mem_nil, or_false] at hz
      rcases hz with rfl
      · exact ⟨by decide, "java/lang/IndexOutOfBoundsException", im tw_2_38, C.2.2.2.2.2.1.2.2.2 ("java/lang/IllegalArgumentException", "java/lang/IndexOutOfBoundsException") (by simp [NCs])⟩), by decide, by decide, im tw_2_39, by simp [NWn], fun q286 => ?_⟩
                                        refine G_astore C (i := 7) (lv' := [(7, va_rf (some q286)), (0, va_rf x0), (1, Value.int x1), (2, Value.int x2), (3, Value.int x3), (4, Value.int x4), (5, Value.int x5), (6, Value.int x6)]) dL_act_523 (by decide) (by first | rfl | simp [va_cat, vi_cat, vl_cat]) ?_
                                        refine G_ldc C (v := (-1712000)) (im tw_4_175) dL_act_525 ?_
                                        exact G_iret C (mc := mc) (ms := ms) (post := post) hr hc283 hs284 dL_act_527 h
                                      · refine ⟨[⟨0, 517, 518, 118⟩, ⟨0, 517, 523, 121⟩], ⟨0, 517, 528, 124⟩, [], "java/lang/IllegalStateException", hT, (by
      intro z hz
      simp only [List.mem_cons, List.not_mem_nil, or_false] at hz
      rcases hz with rfl | rfl
      · exact ⟨by decide, "java/lang/IndexOutOfBoundsException", im tw_2_38, C.2.2.2.2.2.1.2.2.2 ("java/lang/IllegalStateException", "java/lang/IndexOutOfBoundsException") (by simp [NCs])⟩
      · exact ⟨by decide, "java/lang/IllegalArgumentException", im tw_2_39, C.2.2.2.2.2.1.2.2.2 ("java/lang/IllegalStateException", "java/lang/IllegalArgumentException") (by simp [NCs])⟩), by decide, by decide, im tw_2_40, by simp [NWn], fun q287 => ?_⟩
                                        refine G_astore C (i := 7) (lv' := [(7, va_rf (some q287)), (0, va_rf x0), (1, Value.int x1), (2, Value.int x2), (3, Value.int x3), (4, Value.int x4), (5, Value.int x5), (6, Value.int x6)]) dL_act_528 (by decide) (by first | rfl | simp [va_cat, vi_cat, vl_cat]) ?_
                                        refine G_ldc C (v := (-1713000)) (im tw_4_176) dL_act_530 ?_
                                        exact G_iret C (mc := mc) (ms := ms) (post := post) hr hc283 hs284 dL_act_532 h
                                    obtain ⟨hb288, h⟩ := h
                                    · replace h := h hd275
                                      refine G_if_eq C (tgt := 287) dL_act_280 (by decide) (fun hc => ?_) (fun hc => ?_)
                                      · have h := h.1 hc
                                        refine G_iconst C (v := 0) dL_act_287 (by decide) ?_
                                        refine G_goto C (tgt := 517) dL_act_288 (by decide) ?_
                                        refine G_lv C (lv' := []) [] rfl ?_
                                        exact J517 _ _ _ _ h
                                      · have h := h.2 hc
                                        refine G_iconst C (v := 1) dL_act_283 (by decide) ?_
                                        refine G_goto C (tgt := 517) dL_act_284 (by decide) ?_
                                        refine G_lv C (lv' := []) [] rfl ?_
                                        exact J517 _ _ _ _ h
                                · have h := h.2 hc
                                  refine G_aload_n C (x := x0) 0 dL_act_258 rfl rfl ?_
                                  refine G_iload_n C (x := x2) 2 dL_act_259 rfl rfl ?_
                                  refine G_iload_n C (x := x3) 3 dL_act_260 rfl rfl ?_
                                  refine G_iload C (x := x4) 4 dL_act_261 rfl ?_
                                  obtain ⟨S289, M290, hv291, hd292, h⟩ := h
                                  obtain ⟨a294, ha295, h⟩ := h
                                  obtain ⟨hk296, h⟩ := h
                                  obtain ⟨m299, m300, hc301, hs302, h⟩ := h
                                  refine G_fxcalli C hZ hv291 hd292 (Tf := TX8) (N := 10) hk296 (by decide) rfl tw_3_230 tw_3_231 tw_3_232 tw_1_1 tw_3_233 hy_X8_fill ⟨Nat.le_of_ble_eq_true rfl, Nat.le_of_ble_eq_true rfl⟩ (As := [Value.int x2, Value.int x3, Value.int x4]) (rest := []) (c_X8_fill l hl  D cy e0 m0 he hm a294 x2 x3 x4 S289 m299 m300 _ _ h) rfl (by first | rfl | (simp only [ha295]; rfl) | simp only [ha295]) (by simp [va_cat, vi_cat, vl_cat]) dL_act_263 ⟨hc301, hs302⟩ (fun E S297 hd293 h => ?_) (fun r298 S297 hd293 h => ?_)
                                  · replace h := h hd293; rcases h with ⟨rfl, h⟩ | ⟨rfl, h⟩ | ⟨rfl, h⟩
                                    · refine ⟨[], ⟨0, 517, 518, 118⟩, [⟨0, 517, 523, 121⟩, ⟨0, 517, 528, 124⟩], "java/lang/IndexOutOfBoundsException", hT, (by simp), by decide, by decide, im tw_2_38, by simp [NWn], fun q303 => ?_⟩
                                      refine G_astore C (i := 7) (lv' := [(7, va_rf (some q303)), (0, va_rf x0), (1, Value.int x1), (2, Value.int x2), (3, Value.int x3), (4, Value.int x4), (5, Value.int x5), (6, Value.int x6)]) dL_act_518 (by decide) (by first | rfl | simp [va_cat, vi_cat, vl_cat]) ?_
                                      refine G_ldc C (v := (-1711000)) (im tw_4_174) dL_act_520 ?_
                                      exact G_iret C (mc := mc) (ms := ms) (post := post) hr hc301 hs302 dL_act_522 h
                                    · refine ⟨[⟨0, 517, 518, 118⟩], ⟨0, 517, 523, 121⟩, [⟨0, 517, 528, 124⟩], "java/lang/IllegalArgumentException", hT, (by
      intro z hz
      simp only [List.mem_cons, List.not_mem_nil, or_false] at hz
      rcases hz with rfl
      · exact ⟨by decide, "java/lang/IndexOutOfBoundsException", im tw_2_38, C.2.2.2.2.2.1.2.2.2 ("java/lang/IllegalArgumentException", "java/lang/IndexOutOfBoundsException") (by simp [NCs])⟩), by decide, by decide, im tw_2_39, by simp [NWn], fun q304 => ?_⟩
                                      refine G_astore C (i := 7) (lv' := [(7, va_rf (some q304)), (0, va_rf x0), (1, Value.int x1), (2, Value.int x2), (3, Value.int x3), (4, Value.int x4), (5, Value.int x5), (6, Value.int x6)]) dL_act_523 (by decide) (by first | rfl | simp [va_cat, vi_cat, vl_cat]) ?_
                                      refine G_ldc C (v := (-1712000)) (im tw_4_175) dL_act_525 ?_
                                      exact G_iret C (mc := mc) (ms := ms) (post := post) hr hc301 hs302 dL_act_527 h
                                    · refine ⟨[⟨0, 517, 518, 118⟩, ⟨0, 517, 523, 121⟩], ⟨0, 517, 528, 124⟩, [], "java/lang/IllegalStateException", hT, (by
      intro z hz
      simp only [List.mem_cons, List.not_mem_nil, or_false] at hz
      rcases hz with rfl | rfl
      · exact ⟨by decide, "java/lang/IndexOutOfBoundsException", im tw_2_38, C.2.2.2.2.2.1.2.2.2 ("java/lang/IllegalStateException", "java/lang/IndexOutOfBoundsException") (by simp [NCs])⟩
      · exact ⟨by decide, "java/lang/IllegalArgumentException", im tw_2_39, C.2.2.2.2.2.1.2.2.2 ("java/lang/IllegalStateException", "java/lang/IllegalArgumentException") (by simp [NCs])⟩), by decide, by decide, im tw_2_40, by simp [NWn], fun q305 => ?_⟩
                                      refine G_astore C (i := 7) (lv' := [(7, va_rf (some q305)), (0, va_rf x0), (1, Value.int x1), (2, Value.int x2), (3, Value.int x3), (4, Value.int x4), (5, Value.int x5), (6, Value.int x6)]) dL_act_528 (by decide) (by first | rfl | simp [va_cat, vi_cat, vl_cat]) ?_
                                      refine G_ldc C (v := (-1713000)) (im tw_4_176) dL_act_530 ?_
                                      exact G_iret C (mc := mc) (ms := ms) (post := post) hr hc301 hs302 dL_act_532 h
                                  · replace h := h hd293
                                    refine G_goto C (tgt := 517) dL_act_266 (by decide) ?_
                                    refine G_lv C (lv' := []) [] rfl ?_
                                    exact J517 _ _ _ _ h
                              · have h := h.2 hc
                                refine G_aload_n C (x := x0) 0 dL_act_243 rfl rfl ?_
                                refine G_iload_n C (x := x2) 2 dL_act_244 rfl rfl ?_
                                refine G_iload_n C (x := x3) 3 dL_act_245 rfl rfl ?_
                                obtain ⟨S306, M307, hv308, hd309, h⟩ := h
                                obtain ⟨a311, ha312, h⟩ := h
                                obtain ⟨hk313, h⟩ := h
                                obtain ⟨m316, m317, hc318, hs319, h⟩ := h
                                refine G_fxcalli C hZ hv308 hd309 (Tf := TX8) (N := 10) hk313 (by decide) rfl tw_3_206 tw_3_207 tw_3_208 tw_1_1 tw_3_209 hy_X8_open ⟨Nat.le_of_ble_eq_true rfl, Nat.le_of_ble_eq_true rfl⟩ (As := [Value.int x2, Value.int x3]) (rest := []) (c_X8_open l hl  D cy a311 x2 x3 S306 m316 m317 _ _ h) rfl (by first | rfl | (simp only [ha312]; rfl) | simp only [ha312]) (by simp [va_cat, vi_cat, vl_cat]) dL_act_246 ⟨hc318, hs319⟩ (fun E S314 hd310 h => ?_) (fun r315 S314 hd310 h => ?_)
                                · replace h := h hd310; rcases h with ⟨rfl, h⟩ | ⟨rfl, h⟩ | ⟨rfl, h⟩
                                  · refine ⟨[], ⟨0, 517, 518, 118⟩, [⟨0, 517, 523, 121⟩, ⟨0, 517, 528, 124⟩], "java/lang/IndexOutOfBoundsException", hT, (by simp), by decide, by decide, im tw_2_38, by simp [NWn], fun q320 => ?_⟩
                                    refine G_astore C (i := 7) (lv' := [(7, va_rf (some q320)), (0, va_rf x0), (1, Value.int x1), (2, Value.int x2), (3, Value.int x3), (4, Value.int x4), (5, Value.int x5), (6, Value.int x6)]) dL_act_518 (by decide) (by first | rfl | simp [va_cat, vi_cat, vl_cat]) ?_
                                    refine G_ldc C (v := (-1711000)) (im tw_4_174) dL_act_520 ?_
                                    exact G_iret C (mc := mc) (ms := ms) (post := post) hr hc318 hs319 dL_act_522 h
                                  · refine ⟨[⟨0, 517, 518, 118⟩], ⟨0, 517, 523, 121⟩, [⟨0, 517, 528, 124⟩], "java/lang/IllegalArgumentException", hT, (by
      intro z hz
      simp only [List.mem_cons, List.not_mem_nil, or_false] at hz
      rcases hz with rfl
      · exact ⟨by decide, "java/lang/IndexOutOfBoundsException", im tw_2_38, C.2.2.2.2.2.1.2.2.2 ("java/lang/IllegalArgumentException", "java/lang/IndexOutOfBoundsException") (by simp [NCs])⟩), by decide, by decide, im tw_2_39, by simp [NWn], fun q321 => ?_⟩
                                    refine G_astore C (i := 7) (lv' := [(7, va_rf (some q321)), (0, va_rf x0), (1, Value.int x1), (2, Value.int x2), (3, Value.int x3), (4, Value.int x4), (5, Value.int x5), (6, Value.int x6)]) dL_act_523 (by decide) (by first | rfl | simp [va_cat, vi_cat, vl_cat]) ?_
                                    refine G_ldc C (v := (-1712000)) (im tw_4_175) dL_act_525 ?_
                                    exact G_iret C (mc := mc) (ms := ms) (post := post) hr hc318 hs319 dL_act_527 h
                                  · refine ⟨[⟨0, 517, 518, 118⟩, ⟨0, 517, 523, 121⟩], ⟨0, 517, 528, 124⟩, [], "java/lang/IllegalStateException", hT, (by
      intro z hz
      simp only [List.mem_cons, List.not_mem_nil, or_false] at hz
      rcases hz with rfl | rfl
      · exact ⟨by decide, "java/lang/IndexOutOfBoundsException", im tw_2_38, C.2.2.2.2.2.1.2.2.2 ("java/lang/IllegalStateException", "java/lang/IndexOutOfBoundsException") (by simp [NCs])⟩
      · exact ⟨by decide, "java/lang/IllegalArgumentException", im tw_2_39, C.2.2.2.2.2.1.2.2.2 ("java/lang/IllegalStateException", "java/lang/IllegalArgumentException") (by simp [NCs])⟩), by decide, by decide, im tw_2_40, by simp [NWn], fun q322 => ?_⟩
                                    refine G_astore C (i := 7) (lv' := [(7, va_rf (some q322)), (0, va_rf x0), (1, Value.int x1), (2, Value.int x2), (3, Value.int x3), (4, Value.int x4), (5, Value.int x5), (6, Value.int x6)]) dL_act_528 (by decide) (by first | rfl | simp [va_cat, vi_cat, vl_cat]) ?_
                                    refine G_ldc C (v := (-1713000)) (im tw_4_176) dL_act_530 ?_
                                    exact G_iret C (mc := mc) (ms := ms) (post := post) hr hc318 hs319 dL_act_532 h
                                · replace h := h hd310
                                  refine G_goto C (tgt := 517) dL_act_249 (by decide) ?_
                                  refine G_lv C (lv' := []) [] rfl ?_
                                  exact J517 _ _ _ _ h
                            · have h := h.2 hc
                              refine G_aload_n C (x := x0) 0 dL_act_229 rfl rfl ?_
                              refine G_iload_n C (x := x2) 2 dL_act_230 rfl rfl ?_
                              obtain ⟨S323, M324, hv325, hd326, h⟩ := h
                              obtain ⟨a328, ha329, h⟩ := h
                              obtain ⟨hk330, h⟩ := h
                              obtain ⟨m333, m334, hc335, hs336, h⟩ := h
                              refine G_fxcalli C hZ hv325 hd326 (Tf := TX8) (N := 10) hk330 (by decide) rfl tw_3_201 tw_3_202 tw_3_203 tw_1_1 tw_3_204 hy_X8_start ⟨Nat.le_of_ble_eq_true rfl, Nat.le_of_ble_eq_true rfl⟩ (As := [Value.int x2]) (rest := []) (c_X8_start l hl  D cy a328 x2 S323 m333 m334 _ _ h) rfl (by first | rfl | (simp only [ha329]; rfl) | simp only [ha329]) (by simp [va_cat, vi_cat, vl_cat]) dL_act_231 ⟨hc335, hs336⟩ (fun E S331 hd327 h => ?_) (fun r332 S331 hd327 h => ?_)
                              · replace h := h hd327; rcases h with ⟨rfl, h⟩ | ⟨rfl, h⟩ | ⟨rfl, h⟩
                                · refine ⟨[], ⟨0, 517, 518, 118⟩, [⟨0, 517, 523, 121⟩, ⟨0, 517, 528, 124⟩], "java/lang/IndexOutOfBoundsException", hT, (by simp), by decide, by decide, im tw_2_38, by simp [NWn], fun q337 => ?_⟩
                                  refine G_astore C (i := 7) (lv' := [(7, va_rf (some q337)), (0, va_rf x0), (1, Value.int x1), (2, Value.int x2), (3, Value.int x3), (4, Value.int x4), (5, Value.int x5), (6, Value.int x6)]) dL_act_518 (by decide) (by first | rfl | simp [va_cat, vi_cat, vl_cat]) ?_
                                  refine G_ldc C (v := (-1711000)) (im tw_4_174) dL_act_520 ?_
                                  exact G_iret C (mc := mc) (ms := ms) (post := post) hr hc335 hs336 dL_act_522 h
                                · refine ⟨[⟨0, 517, 518, 118⟩], ⟨0, 517, 523, 121⟩, [⟨0, 517, 528, 124⟩], "java/lang/IllegalArgumentException", hT, (by
      intro z hz
      simp only [List.mem_cons, List.not_mem_nil, or_false] at hz
      rcases hz with rfl
      · exact ⟨by decide, "java/lang/IndexOutOfBoundsException", im tw_2_38, C.2.2.2.2.2.1.2.2.2 ("java/lang/IllegalArgumentException", "java/lang/IndexOutOfBoundsException") (by simp [NCs])⟩), by decide, by decide, im tw_2_39, by simp [NWn], fun q338 => ?_⟩
                                  refine G_astore C (i := 7) (lv' := [(7, va_rf (some q338)), (0, va_rf x0), (1, Value.int x1), (2, Value.int x2), (3, Value.int x3), (4, Value.int x4), (5, Value.int x5), (6, Value.int x6)]) dL_act_523 (by decide) (by first | rfl | simp [va_cat, vi_cat, vl_cat]) ?_
                                  refine G_ldc C (v := (-1712000)) (im tw_4_175) dL_act_525 ?_
                                  exact G_iret C (mc := mc) (ms := ms) (post := post) hr hc335 hs336 dL_act_527 h
                                · refine ⟨[⟨0, 517, 518, 118⟩, ⟨0, 517, 523, 121⟩], ⟨0, 517, 528, 124⟩, [], "java/lang/IllegalStateException", hT, (by
      intro z hz
      simp only [List.mem_cons, List.not_mem_nil, or_false] at hz
      rcases hz with rfl | rfl
      · exact ⟨by decide, "java/lang/IndexOutOfBoundsException", im tw_2_38, C.2.2.2.2.2.1.2.2.2 ("java/lang/IllegalStateException", "java/lang/IndexOutOfBoundsException") (by simp [NCs])⟩
      · exact ⟨by decide, "java/lang/IllegalArgumentException", im tw_2_39, C.2.2.2.2.2.1.2.2.2 ("java/lang/IllegalStateException", "java/lang/IllegalArgumentException") (by simp [NCs])⟩), by decide, by decide, im tw_2_40, by simp [NWn], fun q339 => ?_⟩
                                  refine G_astore C (i := 7) (lv' := [(7, va_rf (some q339)), (0, va_rf x0), (1, Value.int x1), (2, Value.int x2), (3, Value.int x3), (4, Value.int x4), (5, Value.int x5), (6, Value.int x6)]) dL_act_528 (by decide) (by first | rfl | simp [va_cat, vi_cat, vl_cat]) ?_
                                  refine G_ldc C (v := (-1713000)) (im tw_4_176) dL_act_530 ?_
                                  exact G_iret C (mc := mc) (ms := ms) (post := post) hr hc335 hs336 dL_act_532 h
                              · replace h := h hd327
                                refine G_goto C (tgt := 517) dL_act_234 (by decide) ?_
                                refine G_lv C (lv' := []) [] rfl ?_
                                exact J517 _ _ _ _ h
                          · have h := h.2 hc
                            refine G_aload_n C (x := x0) 0 dL_act_206 rfl rfl ?_
                            refine G_iload_n C (x := x2) 2 dL_act_207 rfl rfl ?_
                            refine G_iload_n C (x := x3) 3 dL_act_208 rfl rfl ?_
                            obtain ⟨S340, M341, hv342, hd343, h⟩ := h
                            obtain ⟨a345, ha346, h⟩ := h
                            obtain ⟨hk347, h⟩ := h
                            obtain ⟨m350, m351, hc352, hs353, h⟩ := h
                            refine G_fxcalli C hZ hv342 hd343 (Tf := TX8) (N := 10) hk347 (by decide) rfl tw_3_195 tw_3_196 tw_3_197 tw_1_1 tw_3_198 hy_X8_agree ⟨Nat.le_of_ble_eq_true rfl, Nat.le_of_ble_eq_true rfl⟩ (As := [Value.int x2, Value.int x3]) (rest := []) (c_X8_agree l hl  D cy a345 x2 x3 S340 m350 m351 _ _ h) rfl (by first | rfl | (simp only [ha346]; rfl) | simp only [ha346]) (by simp [va_cat, vi_cat, vl_cat]) dL_act_209 ⟨hc352, hs353⟩ (fun E S348 hd344 h => ?_) (fun r349 S348 hd344 h => ?_)
                            · replace h := h hd344; rcases h with ⟨rfl, h⟩ | ⟨rfl, h⟩ | ⟨rfl, h⟩
                              · refine ⟨[], ⟨0, 517, 518, 118⟩, [⟨0, 517, 523, 121⟩, ⟨0, 517, 528, 124⟩], "java/lang/IndexOutOfBoundsException", hT, (by simp), by decide, by decide, im tw_2_38, by simp [NWn], fun q354 => ?_⟩
                                refine G_astore C (i := 7) (lv' := [(7, va_rf (some q354)), (0, va_rf x0), (1, Value.int x1), (2, Value.int x2), (3, Value.int x3), (4, Value.int x4), (5, Value.int x5), (6, Value.int x6)]) dL_act_518 (by decide) (by first | rfl | simp [va_cat, vi_cat, vl_cat]) ?_
                                refine G_ldc C (v := (-1711000)) (im tw_4_174) dL_act_520 ?_
                                exact G_iret C (mc := mc) (ms := ms) (post := post) hr hc352 hs353 dL_act_522 h
                              · refine ⟨[⟨0, 517, 518, 118⟩], ⟨0, 517, 523, 121⟩, [⟨0, 517, 528, 124⟩], "java/lang/IllegalArgumentException", hT, (by
      intro z hz
      simp only [List.mem_cons, List.not_mem_nil, or_false] at hz
      rcases hz with rfl
      · exact ⟨by decide, "java/lang/IndexOutOfBoundsException", im tw_2_38, C.2.2.2.2.2.1.2.2.2 ("java/lang/IllegalArgumentException", "java/lang/IndexOutOfBoundsException") (by simp [NCs])⟩), by decide, by decide, im tw_2_39, by simp [NWn], fun q355 => ?_⟩
                                refine G_astore C (i := 7) (lv' := [(7, va_rf (some q355)), (0, va_rf x0), (1, Value.int x1), (2, Value.int x2), (3, Value.int x3), (4, Value.int x4), (5, Value.int x5), (6, Value.int x6)]) dL_act_523 (by decide) (by first | rfl | simp [va_cat, vi_cat, vl_cat]) ?_
                                refine G_ldc C (v := (-1712000)) (im tw_4_175) dL_act_525 ?_
                                exact G_iret C (mc := mc) (ms := ms) (post := post) hr hc352 hs353 dL_act_527 h
                              · refine ⟨[⟨0, 517, 518, 118⟩, ⟨0, 517, 523, 121⟩], ⟨0, 517, 528, 124⟩, [], "java/lang/IllegalStateException", hT, (by
      intro z hz
      simp only [List.mem_cons, List.not_mem_nil, or_false] at hz
      rcases hz with rfl | rfl
      · exact ⟨by decide, "java/lang/IndexOutOfBoundsException", im tw_2_38, C.2.2.2.2.2.1.2.2.2 ("java/lang/IllegalStateException", "java/lang/IndexOutOfBoundsException") (by simp [NCs])⟩
      · exact ⟨by decide, "java/lang/IllegalArgumentException", im tw_2_39, C.2.2.2.2.2.1.2.2.2 ("java/lang/IllegalStateException", "java/lang/IllegalArgumentException") (by simp [NCs])⟩), by decide, by decide, im tw_2_40, by simp [NWn], fun q356 => ?_⟩
                                refine G_astore C (i := 7) (lv' := [(7, va_rf (some q356)), (0, va_rf x0), (1, Value.int x1), (2, Value.int x2), (3, Value.int x3), (4, Value.int x4), (5, Value.int x5), (6, Value.int x6)]) dL_act_528 (by decide) (by first | rfl | simp [va_cat, vi_cat, vl_cat]) ?_
                                refine G_ldc C (v := (-1713000)) (im tw_4_176) dL_act_530 ?_
                                exact G_iret C (mc := mc) (ms := ms) (post := post) hr hc352 hs353 dL_act_532 h
                            obtain ⟨hb357, h⟩ := h
                            · replace h := h hd344
                              refine G_if_eq C (tgt := 219) dL_act_212 (by decide) (fun hc => ?_) (fun hc => ?_)
                              · have h := h.1 hc
                                refine G_iconst C (v := 0) dL_act_219 (by decide) ?_
                                refine G_goto C (tgt := 517) dL_act_220 (by decide) ?_
                                refine G_lv C (lv' := []) [] rfl ?_
                                exact J517 _ _ _ _ h
                              · have h := h.2 hc
                                refine G_iconst C (v := 1) dL_act_215 (by decide) ?_
                                refine G_goto C (tgt := 517) dL_act_216 (by decide) ?_
                                refine G_lv C (lv' := []) [] rfl ?_
                                exact J517 _ _ _ _ h
                        · have h := h.2 hc
                          refine G_aload_n C (x := x0) 0 dL_act_184 rfl rfl ?_
                          refine G_iload_n C (x := x2) 2 dL_act_185 rfl rfl ?_
                          obtain ⟨S358, M359, hv360, hd361, h⟩ := h
                          obtain ⟨a363, ha364, h⟩ := h
                          obtain ⟨hk365, h⟩ := h
                          obtain ⟨m368, m369, hc370, hs371, h⟩ := h
                          refine G_fxcalli C hZ hv360 hd361 (Tf := TX8) (N := 10) hk365 (by decide) rfl tw_3_191 tw_3_192 tw_3_193 tw_1_1 tw_3_194 hy_X8_exempt ⟨Nat.le_of_ble_eq_true rfl, Nat.le_of_ble_eq_true rfl⟩ (As := [Value.int x2]) (rest := []) (c_X8_exempt l hl  D cy a363 x2 S358 m368 m369 _ _ h) rfl (by first | rfl | (simp only [ha364]; rfl) | simp only [ha364]) (by simp [va_cat, vi_cat, vl_cat]) dL_act_186 ⟨hc370, hs371⟩ (fun E S366 hd362 h => ?_) (fun r367 S366 hd362 h => ?_)
                          · replace h := h hd362; rcases h with ⟨rfl, h⟩ | ⟨rfl, h⟩ | ⟨rfl, h⟩
                            · refine ⟨[], ⟨0, 517, 518, 118⟩, [⟨0, 517, 523, 121⟩, ⟨0, 517, 528, 124⟩], "java/lang/IndexOutOfBoundsException", hT, (by simp), by decide, by decide, im tw_2_38, by simp [NWn], fun q372 => ?_⟩
                              refine G_astore C (i := 7) (lv' := [(7, va_rf (some q372)), (0, va_rf x0), (1, Value.int x1), (2, Value.int x2), (3, Value.int x3), (4, Value.int x4), (5, Value.int x5), (6, Value.int x6)]) dL_act_518 (by decide) (by first | rfl | simp [va_cat, vi_cat, vl_cat]) ?_
                              refine G_ldc C (v := (-1711000)) (im tw_4_174) dL_act_520 ?_
                              exact G_iret C (mc := mc) (ms := ms) (post := post) hr hc370 hs371 dL_act_522 h
                            · refine ⟨[⟨0, 517, 518, 118⟩], ⟨0, 517, 523, 121⟩, [⟨0, 517, 528, 124⟩], "java/lang/IllegalArgumentException", hT, (by
      intro z hz
      simp only [List.mem_cons, List.not_mem_nil, or_false] at hz
      rcases hz with rfl
      · exact ⟨by decide, "java/lang/IndexOutOfBoundsException", im tw_2_38, C.2.2.2.2.2.1.2.2.2 ("java/lang/IllegalArgumentException", "java/lang/IndexOutOfBoundsException") (by simp [NCs])⟩), by decide, by decide, im tw_2_39, by simp [NWn], fun q373 => ?_⟩
                              refine G_astore C (i := 7) (lv' := [(7, va_rf (some q373)), (0, va_rf x0), (1, Value.int x1), (2, Value.int x2), (3, Value.int x3), (4, Value.int x4), (5, Value.int x5), (6, Value.int x6)]) dL_act_523 (by decide) (by first | rfl | simp [va_cat, vi_cat, vl_cat]) ?_
                              refine G_ldc C (v := (-1712000)) (im tw_4_175) dL_act_525 ?_
                              exact G_iret C (mc := mc) (ms := ms) (post := post) hr hc370 hs371 dL_act_527 h
                            · refine ⟨[⟨0, 517, 518, 118⟩, ⟨0, 517, 523, 121⟩], ⟨0, 517, 528, 124⟩, [], "java/lang/IllegalStateException", hT, (by
      intro z hz
      simp only [List.mem_cons, List.not_mem_nil, or_false] at hz
      rcases hz with rfl | rfl
      · exact ⟨by decide, "java/lang/IndexOutOfBoundsException", im tw_2_38, C.2.2.2.2.2.1.2.2.2 ("java/lang/IllegalStateException", "java/lang/IndexOutOfBoundsException") (by simp [NCs])⟩
      · exact ⟨by decide, "java/lang/IllegalArgumentException", im tw_2_39, C.2.2.2.2.2.1.2.2.2 ("java/lang/IllegalStateException", "java/lang/IllegalArgumentException") (by simp [NCs])⟩), by decide, by decide, im tw_2_40, by simp [NWn], fun q374 => ?_⟩
                              refine G_astore C (i := 7) (lv' := [(7, va_rf (some q374)), (0, va_rf x0), (1, Value.int x1), (2, Value.int x2), (3, Value.int x3), (4, Value.int x4), (5, Value.int x5), (6, Value.int x6)]) dL_act_528 (by decide) (by first | rfl | simp [va_cat, vi_cat, vl_cat]) ?_
                              refine G_ldc C (v := (-1713000)) (im tw_4_176) dL_act_530 ?_
                              exact G_iret C (mc := mc) (ms := ms) (post := post) hr hc370 hs371 dL_act_532 h
                          obtain ⟨hb375, h⟩ := h
                          · replace h := h hd362
                            refine G_if_eq C (tgt := 196) dL_act_189 (by decide) (fun hc => ?_) (fun hc => ?_)
                            · have h := h.1 hc
                              refine G_iconst C (v := 0) dL_act_196 (by decide) ?_
                              refine G_goto C (tgt := 517) dL_act_197 (by decide) ?_
                              refine G_lv C (lv' := []) [] rfl ?_
                              exact J517 _ _ _ _ h
                            · have h := h.2 hc
                              refine G_iconst C (v := 1) dL_act_192 (by decide) ?_
                              refine G_goto C (tgt := 517) dL_act_193 (by decide) ?_
                              refine G_lv C (lv' := []) [] rfl ?_
                              exact J517 _ _ _ _ h
                      · have h := h.2 hc
                        refine G_aload_n C (x := x0) 0 dL_act_169 rfl rfl ?_
                        refine G_iload_n C (x := x2) 2 dL_act_170 rfl rfl ?_
                        refine G_iload_n C (x := x3) 3 dL_act_171 rfl rfl ?_
                        obtain ⟨S376, M377, hv378, hd379, h⟩ := h
                        obtain ⟨a381, ha382, h⟩ := h
                        obtain ⟨hk383, h⟩ := h
                        obtain ⟨m386, m387, hc388, hs389, h⟩ := h
                        refine G_fxcalli C hZ hv378 hd379 (Tf := TX8) (N := 10) hk383 (by decide) rfl tw_3_186 tw_3_187 tw_3_188 tw_1_1 tw_3_189 hy_X8_vary ⟨Nat.le_of_ble_eq_true rfl, Nat.le_of_ble_eq_true rfl⟩ (As := [Value.int x2, Value.int x3]) (rest := []) (c_X8_vary l hl  D cy a381 x2 x3 S376 m386 m387 _ _ h) rfl (by first | rfl | (simp only [ha382]; rfl) | simp only [ha382]) (by simp [va_cat, vi_cat, vl_cat]) dL_act_172 ⟨hc388, hs389⟩ (fun E S384 hd380 h => ?_) (fun r385 S384 hd380 h => ?_)
                        · replace h := h hd380; rcases h with ⟨rfl, h⟩ | ⟨rfl, h⟩ | ⟨rfl, h⟩
                          · refine ⟨[], ⟨0, 517, 518, 118⟩, [⟨0, 517, 523, 121⟩, ⟨0, 517, 528, 124⟩], "java/lang/IndexOutOfBoundsException", hT, (by simp), by decide, by decide, im tw_2_38, by simp [NWn], fun q390 => ?_⟩
                            refine G_astore C (i := 7) (lv' := [(7, va_rf (some q390)), (0, va_rf x0), (1, Value.int x1), (2, Value.int x2), (3, Value.int x3), (4, Value.int x4), (5, Value.int x5), (6, Value.int x6)]) dL_act_518 (by decide) (by first | rfl | simp [va_cat, vi_cat, vl_cat]) ?_
                            refine G_ldc C (v := (-1711000)) (im tw_4_174) dL_act_520 ?_
                            exact G_iret C (mc := mc) (ms := ms) (post := post) hr hc388 hs389 dL_act_522 h
                          · refine ⟨[⟨0, 517, 518, 118⟩], ⟨0, 517, 523, 121⟩, [⟨0, 517, 528, 124⟩], "java/lang/IllegalArgumentException", hT, (by
      intro z hz
      simp only [List.mem_cons, List.not_mem_nil, or_false] at hz
      rcases hz with rfl
      · exact ⟨by decide, "java/lang/IndexOutOfBoundsException", im tw_2_38, C.2.2.2.2.2.1.2.2.2 ("java/lang/IllegalArgumentException", "java/lang/IndexOutOfBoundsException") (by simp [NCs])⟩), by decide, by decide, im tw_2_39, by simp [NWn], fun q391 => ?_⟩
                            refine G_astore C (i := 7) (lv' := [(7, va_rf (some q391)), (0, va_rf x0), (1, Value.int x1), (2, Value.int x2), (3, Value.int x3), (4, Value.int x4), (5, Value.int x5), (6, Value.int x6)]) dL_act_523 (by decide) (by first | rfl | simp [va_cat, vi_cat, vl_cat]) ?_
                            refine G_ldc C (v := (-1712000)) (im tw_4_175) dL_act_525 ?_
                            exact G_iret C (mc := mc) (ms := ms) (post := post) hr hc388 hs389 dL_act_527 h
                          · refine ⟨[⟨0, 517, 518, 118⟩, ⟨0, 517, 523, 121⟩], ⟨0, 517, 528, 124⟩, [], "java/lang/IllegalStateException", hT, (by
      intro z hz
      simp only [List.mem_cons, List.not_mem_nil, or_false] at hz
      rcases hz with rfl | rfl
      · exact ⟨by decide, "java/lang/IndexOutOfBoundsException", im tw_2_38, C.2.2.2.2.2.1.2.2.2 ("java/lang/IllegalStateException", "java/lang/IndexOutOfBoundsException") (by simp [NCs])⟩
      · exact ⟨by decide, "java/lang/IllegalArgumentException", im tw_2_39, C.2.2.2.2.2.1.2.2.2 ("java/lang/IllegalStateException", "java/lang/IllegalArgumentException") (by simp [NCs])⟩), by decide, by decide, im tw_2_40, by simp [NWn], fun q392 => ?_⟩
                            refine G_astore C (i := 7) (lv' := [(7, va_rf (some q392)), (0, va_rf x0), (1, Value.int x1), (2, Value.int x2), (3, Value.int x3), (4, Value.int x4), (5, Value.int x5), (6, Value.int x6)]) dL_act_528 (by decide) (by first | rfl | simp [va_cat, vi_cat, vl_cat]) ?_
                            refine G_ldc C (v := (-1713000)) (im tw_4_176) dL_act_530 ?_
                            exact G_iret C (mc := mc) (ms := ms) (post := post) hr hc388 hs389 dL_act_532 h
                        · replace h := h hd380
                          refine G_goto C (tgt := 517) dL_act_175 (by decide) ?_
                          refine G_lv C (lv' := []) [] rfl ?_
                          exact J517 _ _ _ _ h
                    · have h := h.2 hc
                      refine G_aload_n C (x := x0) 0 dL_act_155 rfl rfl ?_
                      refine G_iload_n C (x := x2) 2 dL_act_156 rfl rfl ?_
                      obtain ⟨S393, M394, hv395, hd396, h⟩ := h
                      obtain ⟨a398, ha399, h⟩ := h
                      obtain ⟨hk400, h⟩ := h
                      obtain ⟨m403, m404, hc405, hs406, h⟩ := h
                      refine G_fxcalli C hZ hv395 hd396 (Tf := TX8) (N := 10) hk400 (by decide) rfl tw_3_181 tw_3_182 tw_3_183 tw_1_1 tw_3_184 hy_X8_refuse ⟨Nat.le_of_ble_eq_true rfl, Nat.le_of_ble_eq_true rfl⟩ (As := [Value.int x2]) (rest := []) (c_X8_refuse l hl  D cy a398 x2 S393 m403 m404 _ _ h) rfl (by first | rfl | (simp only [ha399]; rfl) | simp only [ha399]) (by simp [va_cat, vi_cat, vl_cat]) dL_act_157 ⟨hc405, hs406⟩ (fun E S401 hd397 h => ?_) (fun r402 S401 hd397 h => ?_)
                      · replace h := h hd397; rcases h with ⟨rfl, h⟩ | ⟨rfl, h⟩ | ⟨rfl, h⟩
                        · refine ⟨[], ⟨0, 517, 518, 118⟩, [⟨0, 517, 523, 121⟩, ⟨0, 517, 528, 124⟩], "java/lang/IndexOutOfBoundsException", hT, (by simp), by decide, by decide, im tw_2_38, by simp [NWn], fun q407 => ?_⟩
                          refine G_astore C (i := 7) (lv' := [(7, va_rf (some q407)), (0, va_rf x0), (1, Value.int x1), (2, Value.int x2), (3, Value.int x3), (4, Value.int x4), (5, Value.int x5), (6, Value.int x6)]) dL_act_518 (by decide) (by first | rfl | simp [va_cat, vi_cat, vl_cat]) ?_
                          refine G_ldc C (v := (-1711000)) (im tw_4_174) dL_act_520 ?_
                          exact G_iret C (mc := mc) (ms := ms) (post := post) hr hc405 hs406 dL_act_522 h
                        · refine ⟨[⟨0, 517, 518, 118⟩], ⟨0, 517, 523, 121⟩, [⟨0, 517, 528, 124⟩], "java/lang/IllegalArgumentException", hT, (by
      intro z hz
      simp only [List.mem_cons, List.not_mem_nil, or_false] at hz
      rcases hz with rfl
      · exact ⟨by decide, "java/lang/IndexOutOfBoundsException", im tw_2_38, C.2.2.2.2.2.1.2.2.2 ("java/lang/IllegalArgumentException", "java/lang/IndexOutOfBoundsException") (by simp [NCs])⟩), by decide, by decide, im tw_2_39, by simp [NWn], fun q408 => ?_⟩
                          refine G_astore C (i := 7) (lv' := [(7, va_rf (some q408)), (0, va_rf x0), (1, Value.int x1), (2, Value.int x2), (3, Value.int x3), (4, Value.int x4), (5, Value.int x5), (6, Value.int x6)]) dL_act_523 (by decide) (by first | rfl | simp [va_cat, vi_cat, vl_cat]) ?_
                          refine G_ldc C (v := (-1712000)) (im tw_4_175) dL_act_525 ?_
                          exact G_iret C (mc := mc) (ms := ms) (post := post) hr hc405 hs406 dL_act_527 h
                        · refine ⟨[⟨0, 517, 518, 118⟩, ⟨0, 517, 523, 121⟩], ⟨0, 517, 528, 124⟩, [], "java/lang/IllegalStateException", hT, (by
      intro z hz
      simp only [List.mem_cons, List.not_mem_nil, or_false] at hz
      rcases hz with rfl | rfl
      · exact ⟨by decide, "java/lang/IndexOutOfBoundsException", im tw_2_38, C.2.2.2.2.2.1.2.2.2 ("java/lang/IllegalStateException", "java/lang/IndexOutOfBoundsException") (by simp [NCs])⟩
      · exact ⟨by decide, "java/lang/IllegalArgumentException", im tw_2_39, C.2.2.2.2.2.1.2.2.2 ("java/lang/IllegalStateException", "java/lang/IllegalArgumentException") (by simp [NCs])⟩), by decide, by decide, im tw_2_40, by simp [NWn], fun q409 => ?_⟩
                          refine G_astore C (i := 7) (lv' := [(7, va_rf (some q409)), (0, va_rf x0), (1, Value.int x1), (2, Value.int x2), (3, Value.int x3), (4, Value.int x4), (5, Value.int x5), (6, Value.int x6)]) dL_act_528 (by decide) (by first | rfl | simp [va_cat, vi_cat, vl_cat]) ?_
                          refine G_ldc C (v := (-1713000)) (im tw_4_176) dL_act_530 ?_
                          exact G_iret C (mc := mc) (ms := ms) (post := post) hr hc405 hs406 dL_act_532 h
                      · replace h := h hd397
                        refine G_goto C (tgt := 517) dL_act_160 (by decide) ?_
                        refine G_lv C (lv' := []) [] rfl ?_
                        exact J517 _ _ _ _ h
                  · have h := h.2 hc
                    refine G_aload_n C (x := x0) 0 dL_act_140 rfl rfl ?_
                    refine G_iload_n C (x := x2) 2 dL_act_141 rfl rfl ?_
                    refine G_iload_n C (x := x3) 3 dL_act_142 rfl rfl ?_
                    obtain ⟨S410, M411, hv412, hd413, h⟩ := h
                    obtain ⟨a415, ha416, h⟩ := h
                    obtain ⟨hk417, h⟩ := h
                    obtain ⟨m420, m421, hc422, hs423, h⟩ := h
                    refine G_fxcalli C hZ hv412 hd413 (Tf := TX8) (N := 10) hk417 (by decide) rfl tw_3_98 tw_3_99 tw_3_100 tw_1_1 tw_3_101 hy_X8_grant ⟨Nat.le_of_ble_eq_true rfl, Nat.le_of_ble_eq_true rfl⟩ (As := [Value.int x2, Value.int x3]) (rest := []) (c_X8_grant l hl  D cy a415 x2 x3 S410 m420 m421 _ _ h) rfl (by first | rfl | (simp only [ha416]; rfl) | simp only [ha416]) (by simp [va_cat, vi_cat, vl_cat]) dL_act_143 ⟨hc422, hs423⟩ (fun E S418 hd414 h => ?_) (fun r419 S418 hd414 h => ?_)
                    · replace h := h hd414; rcases h with ⟨rfl, h⟩ | ⟨rfl, h⟩ | ⟨rfl, h⟩
                      · refine ⟨[], ⟨0, 517, 518, 118⟩, [⟨0, 517, 523, 121⟩, ⟨0, 517, 528, 124⟩], "java/lang/IndexOutOfBoundsException", hT, (by simp), by decide, by decide, im tw_2_38, by simp [NWn], fun q424 => ?_⟩
                        refine G_astore C (i := 7) (lv' := [(7, va_rf (some q424)), (0, va_rf x0), (1, Value.int x1), (2, Value.int x2), (3, Value.int x3), (4, Value.int x4), (5, Value.int x5), (6, Value.int x6)]) dL_act_518 (by decide) (by first | rfl | simp [va_cat, vi_cat, vl_cat]) ?_
                        refine G_ldc C (v := (-1711000)) (im tw_4_174) dL_act_520 ?_
                        exact G_iret C (mc := mc) (ms := ms) (post := post) hr hc422 hs423 dL_act_522 h
                      · refine ⟨[⟨0, 517, 518, 118⟩], ⟨0, 517, 523, 121⟩, [⟨0, 517, 528, 124⟩], "java/lang/IllegalArgumentException", hT, (by
      intro z hz
      simp only [List.mem_cons, List.not_mem_nil, or_false] at hz
      rcases hz with rfl
      · exact ⟨by decide, "java/lang/IndexOutOfBoundsException", im tw_2_38, C.2.2.2.2.2.1.2.2.2 ("java/lang/IllegalArgumentException", "java/lang/IndexOutOfBoundsException") (by simp [NCs])⟩), by decide, by decide, im tw_2_39, by simp [NWn], fun q425 => ?_⟩
                        refine G_astore C (i := 7) (lv' := [(7, va_rf (some q425)), (0, va_rf x0), (1, Value.int x1), (2, Value.int x2), (3, Value.int x3), (4, Value.int x4), (5, Value.int x5), (6, Value.int x6)]) dL_act_523 (by decide) (by first | rfl | simp [va_cat, vi_cat, vl_cat]) ?_
                        refine G_ldc C (v := (-1712000)) (im tw_4_175) dL_act_525 ?_
                        exact G_iret C (mc := mc) (ms := ms) (post := post) hr hc422 hs423 dL_act_527 h
                      · refine ⟨[⟨0, 517, 518, 118⟩, ⟨0, 517, 523, 121⟩], ⟨0, 517, 528, 124⟩, [], "java/lang/IllegalStateException", hT, (by
      intro z hz
      simp only [List.mem_cons, List.not_mem_nil, or_false] at hz
      rcases hz with rfl | rfl
      · exact ⟨by decide, "java/lang/IndexOutOfBoundsException", im tw_2_38, C.2.2.2.2.2.1.2.2.2 ("java/lang/IllegalStateException", "java/lang/IndexOutOfBoundsException") (by simp [NCs])⟩
      · exact ⟨by decide, "java/lang/IllegalArgumentException", im tw_2_39, C.2.2.2.2.2.1.2.2.2 ("java/lang/IllegalStateException", "java/lang/IllegalArgumentException") (by simp [NCs])⟩), by decide, by decide, im tw_2_40, by simp [NWn], fun q426 => ?_⟩
                        refine G_astore C (i := 7) (lv' := [(7, va_rf (some q426)), (0, va_rf x0), (1, Value.int x1), (2, Value.int x2), (3, Value.int x3), (4, Value.int x4), (5, Value.int x5), (6, Value.int x6)]) dL_act_528 (by decide) (by first | rfl | simp [va_cat, vi_cat, vl_cat]) ?_
                        refine G_ldc C (v := (-1713000)) (im tw_4_176) dL_act_530 ?_
                        exact G_iret C (mc := mc) (ms := ms) (post := post) hr hc422 hs423 dL_act_532 h
                    · replace h := h hd414
                      refine G_goto C (tgt := 517) dL_act_146 (by decide) ?_
                      refine G_lv C (lv' := []) [] rfl ?_
                      exact J517 _ _ _ _ h
                · have h := h.2 hc
                  refine G_aload_n C (x := x0) 0 dL_act_125 rfl rfl ?_
                  refine G_iload_n C (x := x2) 2 dL_act_126 rfl rfl ?_
                  refine G_iload_n C (x := x3) 3 dL_act_127 rfl rfl ?_
                  obtain ⟨S427, M428, hv429, hd430, h⟩ := h
                  obtain ⟨a432, ha433, h⟩ := h
                  obtain ⟨hk434, h⟩ := h
                  obtain ⟨m437, m438, hc439, hs440, h⟩ := h
                  refine G_fxcalli C hZ hv429 hd430 (Tf := TX8) (N := 10) hk434 (by decide) rfl tw_3_90 tw_3_91 tw_3_92 tw_1_1 tw_3_93 hy_X8_trial ⟨Nat.le_of_ble_eq_true rfl, Nat.le_of_ble_eq_true rfl⟩ (As := [Value.int x2, Value.int x3]) (rest := []) (c_X8_trial l hl  D cy a432 x2 x3 S427 m437 m438 _ _ h) rfl (by first | rfl | (simp only [ha433]; rfl) | simp only [ha433]) (by simp [va_cat, vi_cat, vl_cat]) dL_act_128 ⟨hc439, hs440⟩ (fun E S435 hd431 h => ?_) (fun r436 S435 hd431 h => ?_)
                  · replace h := h hd431; rcases h with ⟨rfl, h⟩ | ⟨rfl, h⟩ | ⟨rfl, h⟩
                    · refine ⟨[], ⟨0, 517, 518, 118⟩, [⟨0, 517, 523, 121⟩, ⟨0, 517, 528, 124⟩], "java/lang/IndexOutOfBoundsException", hT, (by simp), by decide, by decide, im tw_2_38, by simp [NWn], fun q441 => ?_⟩
                      refine G_astore C (i := 7) (lv' := [(7, va_rf (some q441)), (0, va_rf x0), (1, Value.int x1), (2, Value.int x2), (3, Value.int x3), (4, Value.int x4), (5, Value.int x5), (6, Value.int x6)]) dL_act_518 (by decide) (by first | rfl | simp [va_cat, vi_cat, vl_cat]) ?_
                      refine G_ldc C (v := (-1711000)) (im tw_4_174) dL_act_520 ?_
                      exact G_iret C (mc := mc) (ms := ms) (post := post) hr hc439 hs440 dL_act_522 h
                    · refine ⟨[⟨0, 517, 518, 118⟩], ⟨0, 517, 523, 121⟩, [⟨0, 517, 528, 124⟩], "java/lang/IllegalArgumentException", hT, (by
      intro z hz
      simp only [List.mem_cons, List.not_mem_nil, or_false] at hz
      rcases hz with rfl
      · exact ⟨by decide, "java/lang/IndexOutOfBoundsException", im tw_2_38, C.2.2.2.2.2.1.2.2.2 ("java/lang/IllegalArgumentException", "java/lang/IndexOutOfBoundsException") (by simp [NCs])⟩), by decide, by decide, im tw_2_39, by simp [NWn], fun q442 => ?_⟩
                      refine G_astore C (i := 7) (lv' := [(7, va_rf (some q442)), (0, va_rf x0), (1, Value.int x1), (2, Value.int x2), (3, Value.int x3), (4, Value.int x4), (5, Value.int x5), (6, Value.int x6)]) dL_act_523 (by decide) (by first | rfl | simp [va_cat, vi_cat, vl_cat]) ?_
                      refine G_ldc C (v := (-1712000)) (im tw_4_175) dL_act_525 ?_
                      exact G_iret C (mc := mc) (ms := ms) (post := post) hr hc439 hs440 dL_act_527 h
                    · refine ⟨[⟨0, 517, 518, 118⟩, ⟨0, 517, 523, 121⟩], ⟨0, 517, 528, 124⟩, [], "java/lang/IllegalStateException", hT, (by
      intro z hz
      simp only [List.mem_cons, List.not_mem_nil, or_false] at hz
      rcases hz with rfl | rfl
      · exact ⟨by decide, "java/lang/IndexOutOfBoundsException", im tw_2_38, C.2.2.2.2.2.1.2.2.2 ("java/lang/IllegalStateException", "java/lang/IndexOutOfBoundsException") (by simp [NCs])⟩
      · exact ⟨by decide, "java/lang/IllegalArgumentException", im tw_2_39, C.2.2.2.2.2.1.2.2.2 ("java/lang/IllegalStateException", "java/lang/IllegalArgumentException") (by simp [NCs])⟩), by decide, by decide, im tw_2_40, by simp [NWn], fun q443 => ?_⟩
                      refine G_astore C (i := 7) (lv' := [(7, va_rf (some q443)), (0, va_rf x0), (1, Value.int x1), (2, Value.int x2), (3, Value.int x3), (4, Value.int x4), (5, Value.int x5), (6, Value.int x6)]) dL_act_528 (by decide) (by first | rfl | simp [va_cat, vi_cat, vl_cat]) ?_
                      refine G_ldc C (v := (-1713000)) (im tw_4_176) dL_act_530 ?_
                      exact G_iret C (mc := mc) (ms := ms) (post := post) hr hc439 hs440 dL_act_532 h
                  · replace h := h hd431
                    refine G_goto C (tgt := 517) dL_act_131 (by decide) ?_
                    refine G_lv C (lv' := []) [] rfl ?_
                    exact J517 _ _ _ _ h
              · have h := h.2 hc
                refine G_aload_n C (x := x0) 0 dL_act_111 rfl rfl ?_
                refine G_iload_n C (x := x2) 2 dL_act_112 rfl rfl ?_
                obtain ⟨S444, M445, hv446, hd447, h⟩ := h
                obtain ⟨a449, ha450, h⟩ := h
                obtain ⟨hk451, h⟩ := h
                obtain ⟨m454, m455, hc456, hs457, h⟩ := h
                refine G_fxcalli C hZ hv446 hd447 (Tf := TX8) (N := 10) hk451 (by decide) rfl tw_3_80 tw_3_81 tw_3_82 tw_1_1 tw_3_83 hy_X8_survey ⟨Nat.le_of_ble_eq_true rfl, Nat.le_of_ble_eq_true rfl⟩ (As := [Value.int x2]) (rest := []) (c_X8_survey l hl  D cy a449 x2 S444 m454 m455 _ _ h) rfl (by first | rfl | (simp only [ha450]; rfl) | simp only [ha450]) (by simp [va_cat, vi_cat, vl_cat]) dL_act_113 ⟨hc456, hs457⟩ (fun E S452 hd448 h => ?_) (fun r453 S452 hd448 h => ?_)
                · replace h := h hd448; rcases h with ⟨rfl, h⟩ | ⟨rfl, h⟩ | ⟨rfl, h⟩
                  · refine ⟨[], ⟨0, 517, 518, 118⟩, [⟨0, 517, 523, 121⟩, ⟨0, 517, 528, 124⟩], "java/lang/IndexOutOfBoundsException", hT, (by simp), by decide, by decide, im tw_2_38, by simp [NWn], fun q458 => ?_⟩
                    refine G_astore C (i := 7) (lv' := [(7, va_rf (some q458)), (0, va_rf x0), (1, Value.int x1), (2, Value.int x2), (3, Value.int x3), (4, Value.int x4), (5, Value.int x5), (6, Value.int x6)]) dL_act_518 (by decide) (by first | rfl | simp [va_cat, vi_cat, vl_cat]) ?_
                    refine G_ldc C (v := (-1711000)) (im tw_4_174) dL_act_520 ?_
                    exact G_iret C (mc := mc) (ms := ms) (post := post) hr hc456 hs457 dL_act_522 h
                  · refine ⟨[⟨0, 517, 518, 118⟩], ⟨0, 517, 523, 121⟩, [⟨0, 517, 528, 124⟩], "java/lang/IllegalArgumentException", hT, (by
      intro z hz
      simp only [List.mem_cons, List.not_mem_nil, or_false] at hz
      rcases hz with rfl
      · exact ⟨by decide, "java/lang/IndexOutOfBoundsException", im tw_2_38, C.2.2.2.2.2.1.2.2.2 ("java/lang/IllegalArgumentException", "java/lang/IndexOutOfBoundsException") (by simp [NCs])⟩), by decide, by decide, im tw_2_39, by simp [NWn], fun q459 => ?_⟩
                    refine G_astore C (i := 7) (lv' := [(7, va_rf (some q459)), (0, va_rf x0), (1, Value.int x1), (2, Value.int x2), (3, Value.int x3), (4, Value.int x4), (5, Value.int x5), (6, Value.int x6)]) dL_act_523 (by decide) (by first | rfl | simp [va_cat, vi_cat, vl_cat]) ?_
                    refine G_ldc C (v := (-1712000)) (im tw_4_175) dL_act_525 ?_
                    exact G_iret C (mc := mc) (ms := ms) (post := post) hr hc456 hs457 dL_act_527 h
                  · refine ⟨[⟨0, 517, 518, 118⟩, ⟨0, 517, 523, 121⟩], ⟨0, 517, 528, 124⟩, [], "java/lang/IllegalStateException", hT, (by
      intro z hz
      simp only [List.mem_cons, List.not_mem_nil, or_false] at hz
      rcases hz with rfl | rfl
      · exact ⟨by decide, "java/lang/IndexOutOfBoundsException", im tw_2_38, C.2.2.2.2.2.1.2.2.2 ("java/lang/IllegalStateException", "java/lang/IndexOutOfBoundsException") (by simp [NCs])⟩
      · exact ⟨by decide, "java/lang/IllegalArgumentException", im tw_2_39, C.2.2.2.2.2.1.2.2.2 ("java/lang/IllegalStateException", "java/lang/IllegalArgumentException") (by simp [NCs])⟩), by decide, by decide, im tw_2_40, by simp [NWn], fun q460 => ?_⟩
                    refine G_astore C (i := 7) (lv' := [(7, va_rf (some q460)), (0, va_rf x0), (1, Value.int x1), (2, Value.int x2), (3, Value.int x3), (4, Value.int x4), (5, Value.int x5), (6, Value.int x6)]) dL_act_528 (by decide) (by first | rfl | simp [va_cat, vi_cat, vl_cat]) ?_
                    refine G_ldc C (v := (-1713000)) (im tw_4_176) dL_act_530 ?_
                    exact G_iret C (mc := mc) (ms := ms) (post := post) hr hc456 hs457 dL_act_532 h
                · replace h := h hd448
                  refine G_goto C (tgt := 517) dL_act_116 (by decide) ?_
                  refine G_lv C (lv' := []) [] rfl ?_
                  exact J517 _ _ _ _ h
            · have h := h.2 hc
              refine G_aload_n C (x := x0) 0 dL_act_89 rfl rfl ?_
              refine G_iload_n C (x := x2) 2 dL_act_90 rfl rfl ?_
              obtain ⟨S461, M462, hv463, hd464, h⟩ := h
              obtain ⟨a466, ha467, h⟩ := h
              obtain ⟨hk468, h⟩ := h
              obtain ⟨m471, m472, hc473, hs474, h⟩ := h
              refine G_fxcalli C hZ hv463 hd464 (Tf := TX8) (N := 10) hk468 (by decide) rfl tw_3_75 tw_3_76 tw_3_77 tw_1_1 tw_3_78 hy_X8_lose ⟨Nat.le_of_ble_eq_true rfl, Nat.le_of_ble_eq_true rfl⟩ (As := [Value.int x2]) (rest := []) (c_X8_lose l hl  D cy a466 x2 S461 m471 m472 _ _ h) rfl (by first | rfl | (simp only [ha467]; rfl) | simp only [ha467]) (by simp [va_cat, vi_cat, vl_cat]) dL_act_91 ⟨hc473, hs474⟩ (fun E S469 hd465 h => ?_) (fun r470 S469 hd465 h => ?_)
              · replace h := h hd465; rcases h with ⟨rfl, h⟩ | ⟨rfl, h⟩ | ⟨rfl, h⟩
                · refine ⟨[], ⟨0, 517, 518, 118⟩, [⟨0, 517, 523, 121⟩, ⟨0, 517, 528, 124⟩], "java/lang/IndexOutOfBoundsException", hT, (by simp), by decide, by decide, im tw_2_38, by simp [NWn], fun q475 => ?_⟩
                  refine G_astore C (i := 7) (lv' := [(7, va_rf (some q475)), (0, va_rf x0), (1, Value.int x1), (2, Value.int x2), (3, Value.int x3), (4, Value.int x4), (5, Value.int x5), (6, Value.int x6)]) dL_act_518 (by decide) (by first | rfl | simp [va_cat, vi_cat, vl_cat]) ?_
                  refine G_ldc C (v := (-1711000)) (im tw_4_174) dL_act_520 ?_
                  exact G_iret C (mc := mc) (ms := ms) (post := post) hr hc473 hs474 dL_act_522 h
                · refine ⟨[⟨0, 517, 518, 118⟩], ⟨0, 517, 523, 121⟩, [⟨0, 517, 528, 124⟩], "java/lang/IllegalArgumentException", hT, (by
      intro z hz
      simp only [List.mem_cons, List.not_mem_nil, or_false] at hz
      rcases hz with rfl
      · exact ⟨by decide, "java/lang/IndexOutOfBoundsException", im tw_2_38, C.2.2.2.2.2.1.2.2.2 ("java/lang/IllegalArgumentException", "java/lang/IndexOutOfBoundsException") (by simp [NCs])⟩), by decide, by decide, im tw_2_39, by simp [NWn], fun q476 => ?_⟩
                  refine G_astore C (i := 7) (lv' := [(7, va_rf (some q476)), (0, va_rf x0), (1, Value.int x1), (2, Value.int x2), (3, Value.int x3), (4, Value.int x4), (5, Value.int x5), (6, Value.int x6)]) dL_act_523 (by decide) (by first | rfl | simp [va_cat, vi_cat, vl_cat]) ?_
                  refine G_ldc C (v := (-1712000)) (im tw_4_175) dL_act_525 ?_
                  exact G_iret C (mc := mc) (ms := ms) (post := post) hr hc473 hs474 dL_act_527 h
                · refine ⟨[⟨0, 517, 518, 118⟩, ⟨0, 517, 523, 121⟩], ⟨0, 517, 528, 124⟩, [], "java/lang/IllegalStateException", hT, (by
      intro z hz
      simp only [List.mem_cons, List.not_mem_nil, or_false] at hz
      rcases hz with rfl | rfl
      · exact ⟨by decide, "java/lang/IndexOutOfBoundsException", im tw_2_38, C.2.2.2.2.2.1.2.2.2 ("java/lang/IllegalStateException", "java/lang/IndexOutOfBoundsException") (by simp [NCs])⟩
      · exact ⟨by decide, "java/lang/IllegalArgumentException", im tw_2_39, C.2.2.2.2.2.1.2.2.2 ("java/lang/IllegalStateException", "java/lang/IllegalArgumentException") (by simp [NCs])⟩), by decide, by decide, im tw_2_40, by simp [NWn], fun q477 => ?_⟩
                  refine G_astore C (i := 7) (lv' := [(7, va_rf (some q477)), (0, va_rf x0), (1, Value.int x1), (2, Value.int x2), (3, Value.int x3), (4, Value.int x4), (5, Value.int x5), (6, Value.int x6)]) dL_act_528 (by decide) (by first | rfl | simp [va_cat, vi_cat, vl_cat]) ?_
                  refine G_ldc C (v := (-1713000)) (im tw_4_176) dL_act_530 ?_
                  exact G_iret C (mc := mc) (ms := ms) (post := post) hr hc473 hs474 dL_act_532 h
              obtain ⟨hb478, h⟩ := h
              · replace h := h hd465
                refine G_if_eq C (tgt := 101) dL_act_94 (by decide) (fun hc => ?_) (fun hc => ?_)
                · have h := h.1 hc
                  refine G_iconst C (v := 0) dL_act_101 (by decide) ?_
                  refine G_goto C (tgt := 517) dL_act_102 (by decide) ?_
                  refine G_lv C (lv' := []) [] rfl ?_
                  exact J517 _ _ _ _ h
                · have h := h.2 hc
                  refine G_iconst C (v := 1) dL_act_97 (by decide) ?_
                  refine G_goto C (tgt := 517) dL_act_98 (by decide) ?_
                  refine G_lv C (lv' := []) [] rfl ?_
                  exact J517 _ _ _ _ h
          · have h := h.2 hc
            refine G_aload_n C (x := x0) 0 dL_act_71 rfl rfl ?_
            refine G_iload_n C (x := x2) 2 dL_act_72 rfl rfl ?_
            refine G_iload_n C (x := x3) 3 dL_act_73 rfl rfl ?_
            refine G_iload C (x := x4) 4 dL_act_74 rfl ?_
            refine G_iload C (x := x5) 5 dL_act_76 rfl ?_
            obtain ⟨S479, M480, hv481, hd482, h⟩ := h
            obtain ⟨a484, ha485, h⟩ := h
            obtain ⟨hk486, h⟩ := h
            obtain ⟨m489, m490, hc491, hs492, h⟩ := h
            refine G_fxcalli C hZ hv481 hd482 (Tf := TX8) (N := 10) hk486 (by decide) rfl tw_3_55 tw_3_56 tw_3_57 tw_1_1 tw_3_58 hy_X8_record ⟨Nat.le_of_ble_eq_true rfl, Nat.le_of_ble_eq_true rfl⟩ (As := [Value.int x2, Value.int x3, Value.int x4, Value.int x5]) (rest := []) (c_X8_record l hl  D cy a484 x2 x3 x4 x5 S479 m489 m490 _ _ h) rfl (by first | rfl | (simp only [ha485]; rfl) | simp only [ha485]) (by simp [va_cat, vi_cat, vl_cat]) dL_act_78 ⟨hc491, hs492⟩ (fun E S487 hd483 h => ?_) (fun r488 S487 hd483 h => ?_)
            · replace h := h hd483; rcases h with ⟨rfl, h⟩ | ⟨rfl, h⟩ | ⟨rfl, h⟩
              · refine ⟨[], ⟨0, 517, 518, 118⟩, [⟨0, 517, 523, 121⟩, ⟨0, 517, 528, 124⟩], "java/lang/IndexOutOfBoundsException", hT, (by simp), by decide, by decide, im tw_2_38, by simp [NWn], fun q493 => ?_⟩
                refine G_astore C (i := 7) (lv' := [(7, va_rf (some q493)), (0, va_rf x0), (1, Value.int x1), (2, Value.int x2), (3, Value.int x3), (4, Value.int x4), (5, Value.int x5), (6, Value.int x6)]) dL_act_518 (by decide) (by first | rfl | simp [va_cat, vi_cat, vl_cat]) ?_
                refine G_ldc C (v := (-1711000)) (im tw_4_174) dL_act_520 ?_
                exact G_iret C (mc := mc) (ms := ms) (post := post) hr hc491 hs492 dL_act_522 h
              · refine ⟨[⟨0, 517, 518, 118⟩], ⟨0, 517, 523, 121⟩, [⟨0, 517, 528, 124⟩], "java/lang/IllegalArgumentException", hT, (by
      intro z hz
      simp only [List.mem_cons, List.not_mem_nil, or_false] at hz
      rcases hz with rfl
      · exact ⟨by decide, "java/lang/IndexOutOfBoundsException", im tw_2_38, C.2.2.2.2.2.1.2.2.2 ("java/lang/IllegalArgumentException", "java/lang/IndexOutOfBoundsException") (by simp [NCs])⟩), by decide, by decide, im tw_2_39, by simp [NWn], fun q494 => ?_⟩
                refine G_astore C (i := 7) (lv' := [(7, va_rf (some q494)), (0, va_rf x0), (1, Value.int x1), (2, Value.int x2), (3, Value.int x3), (4, Value.int x4), (5, Value.int x5), (6, Value.int x6)]) dL_act_523 (by decide) (by first | rfl | simp [va_cat, vi_cat, vl_cat]) ?_
                refine G_ldc C (v := (-1712000)) (im tw_4_175) dL_act_525 ?_
                exact G_iret C (mc := mc) (ms := ms) (post := post) hr hc491 hs492 dL_act_527 h
              · refine ⟨[⟨0, 517, 518, 118⟩, ⟨0, 517, 523, 121⟩], ⟨0, 517, 528, 124⟩, [], "java/lang/IllegalStateException", hT, (by
      intro z hz
      simp only [List.mem_cons, List.not_mem_nil, or_false] at hz
      rcases hz with rfl | rfl
      · exact ⟨by decide, "java/lang/IndexOutOfBoundsException", im tw_2_38, C.2.2.2.2.2.1.2.2.2 ("java/lang/IllegalStateException", "java/lang/IndexOutOfBoundsException") (by simp [NCs])⟩
      · exact ⟨by decide, "java/lang/IllegalArgumentException", im tw_2_39, C.2.2.2.2.2.1.2.2.2 ("java/lang/IllegalStateException", "java/lang/IllegalArgumentException") (by simp [NCs])⟩), by decide, by decide, im tw_2_40, by simp [NWn], fun q495 => ?_⟩
                refine G_astore C (i := 7) (lv' := [(7, va_rf (some q495)), (0, va_rf x0), (1, Value.int x1), (2, Value.int x2), (3, Value.int x3), (4, Value.int x4), (5, Value.int x5), (6, Value.int x6)]) dL_act_528 (by decide) (by first | rfl | simp [va_cat, vi_cat, vl_cat]) ?_
                refine G_ldc C (v := (-1713000)) (im tw_4_176) dL_act_530 ?_
                exact G_iret C (mc := mc) (ms := ms) (post := post) hr hc491 hs492 dL_act_532 h
            · replace h := h hd483
              refine G_goto C (tgt := 517) dL_act_81 (by decide) ?_
              refine G_lv C (lv' := []) [] rfl ?_
              exact J517 _ _ _ _ h
        · have h := h.2 hc
          refine G_aload_n C (x := x0) 0 dL_act_51 rfl rfl ?_
          refine G_iload_n C (x := x2) 2 dL_act_52 rfl rfl ?_
          refine G_iload_n C (x := x3) 3 dL_act_53 rfl rfl ?_
          refine G_iload C (x := x4) 4 dL_act_54 rfl ?_
          refine G_iload C (x := x5) 5 dL_act_56 rfl ?_
          refine G_iload C (x := x6) 6 dL_act_58 rfl ?_
          obtain ⟨S496, M497, hv498, hd499, h⟩ := h
          obtain ⟨a501, ha502, h⟩ := h
          obtain ⟨hk503, h⟩ := h
          obtain ⟨m506, m507, hc508, hs509, h⟩ := h
          refine G_fxcalli C hZ hv498 hd499 (Tf := TX8) (N := 10) hk503 (by decide) rfl tw_3_7 tw_3_8 tw_3_9 tw_1_1 tw_3_10 hy_X8_thing ⟨Nat.le_of_ble_eq_true rfl, Nat.le_of_ble_eq_true rfl⟩ (As := [Value.int x2, Value.int x3, Value.int x4, Value.int x5, Value.int x6]) (rest := []) (c_X8_thing l hl  D cy a501 x2 x3 x4 x5 x6 S496 m506 m507 _ _ h) rfl (by first | rfl | (simp only [ha502]; rfl) | simp only [ha502]) (by simp [va_cat, vi_cat, vl_cat]) dL_act_60 ⟨hc508, hs509⟩ (fun E S504 hd500 h => ?_) (fun r505 S504 hd500 h => ?_)
          · replace h := h hd500; rcases h with ⟨rfl, h⟩ | ⟨rfl, h⟩ | ⟨rfl, h⟩
            · refine ⟨[], ⟨0, 517, 518, 118⟩, [⟨0, 517, 523, 121⟩, ⟨0, 517, 528, 124⟩], "java/lang/IndexOutOfBoundsException", hT, (by simp), by decide, by decide, im tw_2_38, by simp [NWn], fun q510 => ?_⟩
              refine G_astore C (i := 7) (lv' := [(7, va_rf (some q510)), (0, va_rf x0), (1, Value.int x1), (2, Value.int x2), (3, Value.int x3), (4, Value.int x4), (5, Value.int x5), (6, Value.int x6)]) dL_act_518 (by decide) (by first | rfl | simp [va_cat, vi_cat, vl_cat]) ?_
              refine G_ldc C (v := (-1711000)) (im tw_4_174) dL_act_520 ?_
              exact G_iret C (mc := mc) (ms := ms) (post := post) hr hc508 hs509 dL_act_522 h
            · refine ⟨[⟨0, 517, 518, 118⟩], ⟨0, 517, 523, 121⟩, [⟨0, 517, 528, 124⟩], "java/lang/IllegalArgumentException", hT, (by
      intro z hz
      simp only [List.mem_cons, List.not_mem_nil, or_false] at hz
      rcases hz with rfl
      · exact ⟨by decide, "java/lang/IndexOutOfBoundsException", im tw_2_38, C.2.2.2.2.2.1.2.2.2 ("java/lang/IllegalArgumentException", "java/lang/IndexOutOfBoundsException") (by simp [NCs])⟩), by decide, by decide, im tw_2_39, by simp [NWn], fun q511 => ?_⟩
              refine G_astore C (i := 7) (lv' := [(7, va_rf (some q511)), (0, va_rf x0), (1, Value.int x1), (2, Value.int x2), (3, Value.int x3), (4, Value.int x4), (5, Value.int x5), (6, Value.int x6)]) dL_act_523 (by decide) (by first | rfl | simp [va_cat, vi_cat, vl_cat]) ?_
              refine G_ldc C (v := (-1712000)) (im tw_4_175) dL_act_525 ?_
              exact G_iret C (mc := mc) (ms := ms) (post := post) hr hc508 hs509 dL_act_527 h
            · refine ⟨[⟨0, 517, 518, 118⟩, ⟨0, 517, 523, 121⟩], ⟨0, 517, 528, 124⟩, [], "java/lang/IllegalStateException", hT, (by
      intro z hz
      simp only [List.mem_cons, List.not_mem_nil, or_false] at hz
      rcases hz with rfl | rfl
      · exact ⟨by decide, "java/lang/IndexOutOfBoundsException", im tw_2_38, C.2.2.2.2.2.1.2.2.2 ("java/lang/IllegalStateException", "java/lang/IndexOutOfBoundsException") (by simp [NCs])⟩
      · exact ⟨by decide, "java/lang/IllegalArgumentException", im tw_2_39, C.2.2.2.2.2.1.2.2.2 ("java/lang/IllegalStateException", "java/lang/IllegalArgumentException") (by simp [NCs])⟩), by decide, by decide, im tw_2_40, by simp [NWn], fun q512 => ?_⟩
              refine G_astore C (i := 7) (lv' := [(7, va_rf (some q512)), (0, va_rf x0), (1, Value.int x1), (2, Value.int x2), (3, Value.int x3), (4, Value.int x4), (5, Value.int x5), (6, Value.int x6)]) dL_act_528 (by decide) (by first | rfl | simp [va_cat, vi_cat, vl_cat]) ?_
              refine G_ldc C (v := (-1713000)) (im tw_4_176) dL_act_530 ?_
              exact G_iret C (mc := mc) (ms := ms) (post := post) hr hc508 hs509 dL_act_532 h
          · replace h := h hd500
            refine G_goto C (tgt := 517) dL_act_63 (by decide) ?_
            refine G_lv C (lv' := []) [] rfl ?_
            exact J517 _ _ _ _ h
      · have h := h.2 hc
        refine G_aload_n C (x := x0) 0 dL_act_35 rfl rfl ?_
        refine G_iload_n C (x := x2) 2 dL_act_36 rfl rfl ?_
        refine G_iload_n C (x := x3) 3 dL_act_37 rfl rfl ?_
        refine G_iload C (x := x4) 4 dL_act_38 rfl ?_
        obtain ⟨S513, M514, hv515, hd516, h⟩ := h
        obtain ⟨a518, ha519, h⟩ := h
        obtain ⟨hk520, h⟩ := h
        obtain ⟨m523, m524, hc525, hs526, h⟩ := h
        refine G_fxcalli C hZ hv515 hd516 (Tf := TX8) (N := 10) hk520 (by decide) rfl tw_2_237 tw_2_238 tw_2_239 tw_1_1 tw_3_0 hy_X8_embargo ⟨Nat.le_of_ble_eq_true rfl, Nat.le_of_ble_eq_true rfl⟩ (As := [Value.int x2, Value.int x3, Value.int x4]) (rest := []) (c_X8_embargo l hl  D cy a518 x2 x3 x4 S513 m523 m524 _ _ h) rfl (by first | rfl | (simp only [ha519]; rfl) | simp only [ha519]) (by simp [va_cat, vi_cat, vl_cat]) dL_act_40 ⟨hc525, hs526⟩ (fun E S521 hd517 h => ?_) (fun r522 S521 hd517 h => ?_)
        · replace h := h hd517; rcases h with ⟨rfl, h⟩ | ⟨rfl, h⟩ | ⟨rfl, h⟩
          · refine ⟨[], ⟨0, 517, 518, 118⟩, [⟨0, 517, 523, 121⟩, ⟨0, 517, 528, 124⟩], "java/lang/IndexOutOfBoundsException", hT, (by simp), by decide, by decide, im tw_2_38, by simp [NWn], fun q527 => ?_⟩
            refine G_astore C (i := 7) (lv' := [(7, va_rf (some q527)), (0, va_rf x0), (1, Value.int x1), (2, Value.int x2), (3, Value.int x3), (4, Value.int x4), (5, Value.int x5), (6, Value.int x6)]) dL_act_518 (by decide) (by first | rfl | simp [va_cat, vi_cat, vl_cat]) ?_
            refine G_ldc C (v := (-1711000)) (im tw_4_174) dL_act_520 ?_
            exact G_iret C (mc := mc) (ms := ms) (post := post) hr hc525 hs526 dL_act_522 h
          · refine ⟨[⟨0, 517, 518, 118⟩], ⟨0, 517, 523, 121⟩, [⟨0, 517, 528, 124⟩], "java/lang/IllegalArgumentException", hT, (by
      intro z hz
      simp only [List.mem_cons, List.not_mem_nil, or_false] at hz
      rcases hz with rfl
      · exact ⟨by decide, "java/lang/IndexOutOfBoundsException", im tw_2_38, C.2.2.2.2.2.1.2.2.2 ("java/lang/IllegalArgumentException", "java/lang/IndexOutOfBoundsException") (by simp [NCs])⟩), by decide, by decide, im tw_2_39, by simp [NWn], fun q528 => ?_⟩
            refine G_astore C (i := 7) (lv' := [(7, va_rf (some q528)), (0, va_rf x0), (1, Value.int x1), (2, Value.int x2), (3, Value.int x3), (4, Value.int x4), (5, Value.int x5), (6, Value.int x6)]) dL_act_523 (by decide) (by first | rfl | simp [va_cat, vi_cat, vl_cat]) ?_
            refine G_ldc C (v := (-1712000)) (im tw_4_175) dL_act_525 ?_
            exact G_iret C (mc := mc) (ms := ms) (post := post) hr hc525 hs526 dL_act_527 h
          · refine ⟨[⟨0, 517, 518, 118⟩, ⟨0, 517, 523, 121⟩], ⟨0, 517, 528, 124⟩, [], "java/lang/IllegalStateException", hT, (by
      intro z hz
      simp only [List.mem_cons, List.not_mem_nil, or_false] at hz
      rcases hz with rfl | rfl
      · exact ⟨by decide, "java/lang/IndexOutOfBoundsException", im tw_2_38, C.2.2.2.2.2.1.2.2.2 ("java/lang/IllegalStateException", "java/lang/IndexOutOfBoundsException") (by simp [NCs])⟩
      · exact ⟨by decide, "java/lang/IllegalArgumentException", im tw_2_39, C.2.2.2.2.2.1.2.2.2 ("java/lang/IllegalStateException", "java/lang/IllegalArgumentException") (by simp [NCs])⟩), by decide, by decide, im tw_2_40, by simp [NWn], fun q529 => ?_⟩
            refine G_astore C (i := 7) (lv' := [(7, va_rf (some q529)), (0, va_rf x0), (1, Value.int x1), (2, Value.int x2), (3, Value.int x3), (4, Value.int x4), (5, Value.int x5), (6, Value.int x6)]) dL_act_528 (by decide) (by first | rfl | simp [va_cat, vi_cat, vl_cat]) ?_
            refine G_ldc C (v := (-1713000)) (im tw_4_176) dL_act_530 ?_
            exact G_iret C (mc := mc) (ms := ms) (post := post) hr hc525 hs526 dL_act_532 h
        · replace h := h hd517
          refine G_goto C (tgt := 517) dL_act_43 (by decide) ?_
          refine G_lv C (lv' := []) [] rfl ?_
          exact J517 _ _ _ _ h
    · have h := h.2 hc
      refine G_aload_n C (x := x0) 0 dL_act_22 rfl rfl ?_
      refine G_iload_n C (x := x2) 2 dL_act_23 rfl rfl ?_
      obtain ⟨S530, M531, hv532, hd533, h⟩ := h
      obtain ⟨a535, ha536, h⟩ := h
      obtain ⟨hk537, h⟩ := h
      obtain ⟨m540, m541, hc542, hs543, h⟩ := h
      refine G_fxcalli C hZ hv532 hd533 (Tf := TX8) (N := 10) hk537 (by decide) rfl tw_2_140 tw_2_141 tw_2_142 tw_1_1 tw_2_143 hy_X8_surface ⟨Nat.le_of_ble_eq_true rfl, Nat.le_of_ble_eq_true rfl⟩ (As := [Value.int x2]) (rest := []) (c_X8_surface l hl  D cy e0 m0 he hm a535 x2 S530 m540 m541 _ _ h) rfl (by first | rfl | (simp only [ha536]; rfl) | simp only [ha536]) (by simp [va_cat, vi_cat, vl_cat]) dL_act_24 ⟨hc542, hs543⟩ (fun E S538 hd534 h => ?_) (fun r539 S538 hd534 h => ?_)
      · replace h := h hd534; rcases h with ⟨rfl, h⟩ | ⟨rfl, h⟩ | ⟨rfl, h⟩
        · refine ⟨[], ⟨0, 517, 518, 118⟩, [⟨0, 517, 523, 121⟩, ⟨0, 517, 528, 124⟩], "java/lang/IndexOutOfBoundsException", hT, (by simp), by decide, by decide, im tw_2_38, by simp [NWn], fun q544 => ?_⟩
          refine G_astore C (i := 7) (lv' := [(7, va_rf (some q544)), (0, va_rf x0), (1, Value.int x1), (2, Value.int x2), (3, Value.int x3), (4, Value.int x4), (5, Value.int x5), (6, Value.int x6)]) dL_act_518 (by decide) (by first | rfl | simp [va_cat, vi_cat, vl_cat]) ?_
          refine G_ldc C (v := (-1711000)) (im tw_4_174) dL_act_520 ?_
          exact G_iret C (mc := mc) (ms := ms) (post := post) hr hc542 hs543 dL_act_522 h
        · refine ⟨[⟨0, 517, 518, 118⟩], ⟨0, 517, 523, 121⟩, [⟨0, 517, 528, 124⟩], "java/lang/IllegalArgumentException", hT, (by
      intro z hz
      simp only [List.mem_cons, List.not_mem_nil, or_false] at hz
      rcases hz with rfl
      · exact ⟨by decide, "java/lang/IndexOutOfBoundsException", im tw_2_38, C.2.2.2.2.2.1.2.2.2 ("java/lang/IllegalArgumentException", "java/lang/IndexOutOfBoundsException") (by simp [NCs])⟩), by decide, by decide, im tw_2_39, by simp [NWn], fun q545 => ?_⟩
          refine G_astore C (i := 7) (lv' := [(7, va_rf (some q545)), (0, va_rf x0), (1, Value.int x1), (2, Value.int x2), (3, Value.int x3), (4, Value.int x4), (5, Value.int x5), (6, Value.int x6)]) dL_act_523 (by decide) (by first | rfl | simp [va_cat, vi_cat, vl_cat]) ?_
          refine G_ldc C (v := (-1712000)) (im tw_4_175) dL_act_525 ?_
          exact G_iret C (mc := mc) (ms := ms) (post := post) hr hc542 hs543 dL_act_527 h
        · refine ⟨[⟨0, 517, 518, 118⟩, ⟨0, 517, 523, 121⟩], ⟨0, 517, 528, 124⟩, [], "java/lang/IllegalStateException", hT, (by
      intro z hz
      simp only [List.mem_cons, List.not_mem_nil, or_false] at hz
      rcases hz with rfl | rfl
      · exact ⟨by decide, "java/lang/IndexOutOfBoundsException", im tw_2_38, C.2.2.2.2.2.1.2.2.2 ("java/lang/IllegalStateException", "java/lang/IndexOutOfBoundsException") (by simp [NCs])⟩
      · exact ⟨by decide, "java/lang/IllegalArgumentException", im tw_2_39, C.2.2.2.2.2.1.2.2.2 ("java/lang/IllegalStateException", "java/lang/IllegalArgumentException") (by simp [NCs])⟩), by decide, by decide, im tw_2_40, by simp [NWn], fun q546 => ?_⟩
          refine G_astore C (i := 7) (lv' := [(7, va_rf (some q546)), (0, va_rf x0), (1, Value.int x1), (2, Value.int x2), (3, Value.int x3), (4, Value.int x4), (5, Value.int x5), (6, Value.int x6)]) dL_act_528 (by decide) (by first | rfl | simp [va_cat, vi_cat, vl_cat]) ?_
          refine G_ldc C (v := (-1713000)) (im tw_4_176) dL_act_530 ?_
          exact G_iret C (mc := mc) (ms := ms) (post := post) hr hc542 hs543 dL_act_532 h
      · replace h := h hd534
        refine G_goto C (tgt := 517) dL_act_27 (by decide) ?_
        refine G_lv C (lv' := []) [] rfl ?_
        exact J517 _ _ _ _ h
  · have h := h.2 hc
    refine G_aload_n C (x := x0) 0 dL_act_4 rfl rfl ?_
    refine G_iload_n C (x := x2) 2 dL_act_5 rfl rfl ?_
    refine G_iload_n C (x := x3) 3 dL_act_6 rfl rfl ?_
    refine G_iload C (x := x4) 4 dL_act_7 rfl ?_
    refine G_iload C (x := x5) 5 dL_act_9 rfl ?_
    obtain ⟨S547, M548, hv549, hd550, h⟩ := h
    obtain ⟨a552, ha553, h⟩ := h
    obtain ⟨hk554, h⟩ := h
    obtain ⟨m557, m558, hc559, hs560, h⟩ := h
    refine G_fxcalli C hZ hv549 hd550 (Tf := TX8) (N := 10) hk554 (by decide) rfl tw_2_41 tw_2_42 tw_2_43 tw_1_1 tw_2_44 hy_X8_street ⟨Nat.le_of_ble_eq_true rfl, Nat.le_of_ble_eq_true rfl⟩ (As := [Value.int x2, Value.int x3, Value.int x4, Value.int x5]) (rest := []) (c_X8_street l hl  D cy a552 x2 x3 x4 x5 S547 m557 m558 _ _ h) rfl (by first | rfl | (simp only [ha553]; rfl) | simp only [ha553]) (by simp [va_cat, vi_cat, vl_cat]) dL_act_11 ⟨hc559, hs560⟩ (fun E S555 hd551 h => ?_) (fun r556 S555 hd551 h => ?_)
    · replace h := h hd551; rcases h with ⟨rfl, h⟩ | ⟨rfl, h⟩ | ⟨rfl, h⟩
      · refine ⟨[], ⟨0, 517, 518, 118⟩, [⟨0, 517, 523, 121⟩, ⟨0, 517, 528, 124⟩], "java/lang/IndexOutOfBoundsException", hT, (by simp), by decide, by decide, im tw_2_38, by simp [NWn], fun q561 => ?_⟩
        refine G_astore C (i := 7) (lv' := [(7, va_rf (some q561)), (0, va_rf x0), (1, Value.int x1), (2, Value.int x2), (3, Value.int x3), (4, Value.int x4), (5, Value.int x5), (6, Value.int x6)]) dL_act_518 (by decide) (by first | rfl | simp [va_cat, vi_cat, vl_cat]) ?_
        refine G_ldc C (v := (-1711000)) (im tw_4_174) dL_act_520 ?_
        exact G_iret C (mc := mc) (ms := ms) (post := post) hr hc559 hs560 dL_act_522 h
      · refine ⟨[⟨0, 517, 518, 118⟩], ⟨0, 517, 523, 121⟩, [⟨0, 517, 528, 124⟩], "java/lang/IllegalArgumentException", hT, (by
      intro z hz
      simp only [List.mem_cons, List.not_mem_nil, or_false] at hz
      rcases hz with rfl
      · exact ⟨by decide, "java/lang/IndexOutOfBoundsException", im tw_2_38, C.2.2.2.2.2.1.2.2.2 ("java/lang/IllegalArgumentException", "java/lang/IndexOutOfBoundsException") (by simp [NCs])⟩), by decide, by decide, im tw_2_39, by simp [NWn], fun q562 => ?_⟩
        refine G_astore C (i := 7) (lv' := [(7, va_rf (some q562)), (0, va_rf x0), (1, Value.int x1), (2, Value.int x2), (3, Value.int x3), (4, Value.int x4), (5, Value.int x5), (6, Value.int x6)]) dL_act_523 (by decide) (by first | rfl | simp [va_cat, vi_cat, vl_cat]) ?_
        refine G_ldc C (v := (-1712000)) (im tw_4_175) dL_act_525 ?_
        exact G_iret C (mc := mc) (ms := ms) (post := post) hr hc559 hs560 dL_act_527 h
      · refine ⟨[⟨0, 517, 518, 118⟩, ⟨0, 517, 523, 121⟩], ⟨0, 517, 528, 124⟩, [], "java/lang/IllegalStateException", hT, (by
      intro z hz
      simp only [List.mem_cons, List.not_mem_nil, or_false] at hz
      rcases hz with rfl | rfl
      · exact ⟨by decide, "java/lang/IndexOutOfBoundsException", im tw_2_38, C.2.2.2.2.2.1.2.2.2 ("java/lang/IllegalStateException", "java/lang/IndexOutOfBoundsException") (by simp [NCs])⟩
      · exact ⟨by decide, "java/lang/IllegalArgumentException", im tw_2_39, C.2.2.2.2.2.1.2.2.2 ("java/lang/IllegalStateException", "java/lang/IllegalArgumentException") (by simp [NCs])⟩), by decide, by decide, im tw_2_40, by simp [NWn], fun q563 => ?_⟩
        refine G_astore C (i := 7) (lv' := [(7, va_rf (some q563)), (0, va_rf x0), (1, Value.int x1), (2, Value.int x2), (3, Value.int x3), (4, Value.int x4), (5, Value.int x5), (6, Value.int x6)]) dL_act_528 (by decide) (by first | rfl | simp [va_cat, vi_cat, vl_cat]) ?_
        refine G_ldc C (v := (-1713000)) (im tw_4_176) dL_act_530 ?_
        exact G_iret C (mc := mc) (ms := ms) (post := post) hr hc559 hs560 dL_act_532 h
    · replace h := h hd551
      refine G_goto C (tgt := 517) dL_act_14 (by decide) ?_
      refine G_lv C (lv' := []) [] rfl ?_
      exact J517 _ _ _ _ h
