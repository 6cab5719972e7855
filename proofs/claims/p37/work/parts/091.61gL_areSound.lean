set_option maxHeartbeats 4000000 in
set_option maxRecDepth 100000 in
theorem c_L_areSound (l : Launch) (hl : l.stackTraces = false) (D : va_G) (cy : Nat → Nat) (x0 : Option Nat) (x1 : Option Nat) (x2 : Option Nat) (x3 : Option Nat) (x4 : Int32) (S : PT) (mc ms : Nat) (post : Int32 → PT → Prop) (h : w_L_areSound x0 x1 x2 x3 x4 S mc ms post) : Mi l yL_areSound (Wm yL_areSound method_9_code 14 (Option.some Jvm.ClassFile.FieldType.boolean)) 7 120 D cy [va_rf x0, va_rf x1, va_rf x2, va_rf x3, Value.int x4] S mc ms (fun r S => bo r ∧ post r S) := by
  refine Mi_of (own := "TrenchboardLaw") (by decide) rfl (by first | decide | simp [lg_sl, va_cat, vi_cat, vl_cat]) (fun p e s m below meth c A C hZ hr hin9 => ?_)
  have J641 : ∀ (c0 n0 : Nat) (S : PT) (v7 : Int32), w_L_areSound_b641 x0 x1 x2 x3 x4 mc ms post c0 n0 S v7 → G p l e { frames := 7, cells := mc, slots := ms, locals := 120 } s m [va_rf x0, va_rf x1, va_rf x2, va_rf x3, Value.int x4].toArray below meth c D cy A s.heap 14 (QMi below D cy A [va_rf x0, va_rf x1, va_rf x2, va_rf x3, Value.int x4] s mc ms (fun r S => bo r ∧ post r S)) S c0 n0 641 [(7, Value.int v7)] [] := by
    intro c0 n0 S v7 h
    unfold w_L_areSound_b641 at h
    obtain ⟨hc00, hn00, h⟩ := h
    refine G_iload C (x := v7) 0 dL_areSound_641 rfl ?_
    obtain ⟨hb1, h⟩ := h
    exact G_zret C (mc := mc) (ms := ms) (post := (fun r S => bo r ∧ post r S)) (bo_nar hb1) hr hc00 hn00 dL_areSound_643 ⟨hb1, h⟩
  have J353 : ∀ (n : Nat) (c0 n0 : Nat) (S : PT) (v7 : Int32) (v8 : Int32), w_L_areSound_l353 x0 x1 x2 x3 x4 mc ms post n c0 n0 S v7 v8 → G p l e { frames := 7, cells := mc, slots := ms, locals := 120 } s m [va_rf x0, va_rf x1, va_rf x2, va_rf x3, Value.int x4].toArray below meth c D cy A s.heap 14 (QMi below D cy A [va_rf x0, va_rf x1, va_rf x2, va_rf x3, Value.int x4] s mc ms (fun r S => bo r ∧ post r S)) S c0 n0 353 [(0, va_rf x0), (1, va_rf x1), (2, va_rf x2), (3, va_rf x3), (4, Value.int x4), (7, Value.int v7), (8, Value.int v8)] [] := by
    intro n353
    induction n353 with
    | zero => intro c0 n0 S v7 v8 h; rw [w_L_areSound_l353] at h; exact False.elim h
    | succ n353 K353 =>
      have J633 : ∀ (c0 n0 : Nat) (S : PT) (v8 : Int32) (s0 : Int32), w_L_areSound_b633 x0 x1 x2 x3 x4 mc ms post (w_L_areSound_l353 x0 x1 x2 x3 x4 mc ms post n353) c0 n0 S v8 s0 → G p l e { frames := 7, cells := mc, slots := ms, locals := 120 } s m [va_rf x0, va_rf x1, va_rf x2, va_rf x3, Value.int x4].toArray below meth c D cy A s.heap 14 (QMi below D cy A [va_rf x0, va_rf x1, va_rf x2, va_rf x3, Value.int x4] s mc ms (fun r S => bo r ∧ post r S)) S c0 n0 633 [(0, va_rf x0), (1, va_rf x1), (2, va_rf x2), (3, va_rf x3), (4, Value.int x4), (8, Value.int v8)] [Value.int s0] := by
        intro c0 n0 S v8 s0 h
        unfold w_L_areSound_b633 at h
        obtain ⟨hc00, hn00, h⟩ := h
        refine G_istore C (i := 7) (lv' := [(7, Value.int s0), (0, va_rf x0), (1, va_rf x1), (2, va_rf x2), (3, va_rf x3), (4, Value.int x4), (8, Value.int v8)]) dL_areSound_633 (by decide) (by first | rfl | simp [va_cat, vi_cat, vl_cat]) ?_
        refine G_iinc C (v := (v8 + 1)) (lv' := [(8, Value.int (v8 + 1)), (7, Value.int s0), (0, va_rf x0), (1, va_rf x1), (2, va_rf x2), (3, va_rf x3), (4, Value.int x4)]) 6 dL_areSound_635 rfl rfl (by decide) (by first | rfl | simp [va_cat, vi_cat, vl_cat]) ?_
        refine G_goto C (tgt := 353) dL_areSound_638 (by decide) ?_
        refine G_lv C (lv' := [(0, va_rf x0), (1, va_rf x1), (2, va_rf x2), (3, va_rf x3), (4, Value.int x4), (7, Value.int s0), (8, Value.int (v8 + 1))]) [2, 3, 4, 5, 6, 1, 0] rfl ?_
        exact K353 _ _ _ _ _ h
      have J632 : ∀ (c0 n0 : Nat) (S : PT) (v8 : Int32), w_L_areSound_b632 x0 x1 x2 x3 x4 mc ms post (w_L_areSound_l353 x0 x1 x2 x3 x4 mc ms post n353) c0 n0 S v8 → G p l e { frames := 7, cells := mc, slots := ms, locals := 120 } s m [va_rf x0, va_rf x1, va_rf x2, va_rf x3, Value.int x4].toArray below meth c D cy A s.heap 14 (QMi below D cy A [va_rf x0, va_rf x1, va_rf x2, va_rf x3, Value.int x4] s mc ms (fun r S => bo r ∧ post r S)) S c0 n0 632 [(0, va_rf x0), (1, va_rf x1), (2, va_rf x2), (3, va_rf x3), (4, Value.int x4), (8, Value.int v8)] [] := by
        intro c0 n0 S v8 h
        unfold w_L_areSound_b632 at h
        obtain ⟨hc00, hn00, h⟩ := h
        refine G_iconst C (v := 0) dL_areSound_632 (by decide) ?_
        refine G_lv C (lv' := [(0, va_rf x0), (1, va_rf x1), (2, va_rf x2), (3, va_rf x3), (4, Value.int x4), (8, Value.int v8)]) [0, 1, 2, 3, 4, 5] rfl ?_
        exact J633 _ _ _ _ _ h
      have J628 : ∀ (c0 n0 : Nat) (S : PT) (v8 : Int32), w_L_areSound_b628 x0 x1 x2 x3 x4 mc ms post (w_L_areSound_l353 x0 x1 x2 x3 x4 mc ms post n353) c0 n0 S v8 → G p l e { frames := 7, cells := mc, slots := ms, locals := 120 } s m [va_rf x0, va_rf x1, va_rf x2, va_rf x3, Value.int x4].toArray below meth c D cy A s.heap 14 (QMi below D cy A [va_rf x0, va_rf x1, va_rf x2, va_rf x3, Value.int x4] s mc ms (fun r S => bo r ∧ post r S)) S c0 n0 628 [(0, va_rf x0), (1, va_rf x1), (2, va_rf x2), (3, va_rf x3), (4, Value.int x4), (8, Value.int v8)] [] := by
        intro c0 n0 S v8 h
        unfold w_L_areSound_b628 at h
        obtain ⟨hc00, hn00, h⟩ := h
        refine G_iconst C (v := 1) dL_areSound_628 (by decide) ?_
        refine G_goto C (tgt := 633) dL_areSound_629 (by decide) ?_
        refine G_lv C (lv' := [(0, va_rf x0), (1, va_rf x1), (2, va_rf x2), (3, va_rf x3), (4, Value.int x4), (8, Value.int v8)]) [0, 1, 2, 3, 4, 5] rfl ?_
        exact J633 _ _ _ _ _ h
      have J503 : ∀ (c0 n0 : Nat) (S : PT) (v8 : Int32) (v9 : Int32) (v11 : Int32) (v12 : Int32) (v13 : Int32) (s0 : Int32) (s1 : Int32), w_L_areSound_b503 x0 x1 x2 x3 x4 mc ms post (w_L_areSound_l353 x0 x1 x2 x3 x4 mc ms post n353) c0 n0 S v8 v9 v11 v12 v13 s0 s1 → G p l e { frames := 7, cells := mc, slots := ms, locals := 120 } s m [va_rf x0, va_rf x1, va_rf x2, va_rf x3, Value.int x4].toArray below meth c D cy A s.heap 14 (QMi below D cy A [va_rf x0, va_rf x1, va_rf x2, va_rf x3, Value.int x4] s mc ms (fun r S => bo r ∧ post r S)) S c0 n0 503 [(0, va_rf x0), (1, va_rf x1), (2, va_rf x2), (3, va_rf x3), (4, Value.int x4), (8, Value.int v8), (9, Value.int v9), (11, Value.int v11), (12, Value.int v12), (13, Value.int v13)] [Value.int s1, Value.int s0] := by
        intro c0 n0 S v8 v9 v11 v12 v13 s0 s1 h
        unfold w_L_areSound_b503 at h
        obtain ⟨hc00, hn00, h⟩ := h
        refine G_icmp_ne C (tgt := 632) dL_areSound_503 (by decide) (fun hc => ?_) (fun hc => ?_)
        · have h := h.1 hc
          refine G_lv C (lv' := [(0, va_rf x0), (1, va_rf x1), (2, va_rf x2), (3, va_rf x3), (4, Value.int x4), (8, Value.int v8)]) [0, 1, 2, 3, 4, 5] rfl ?_
          exact J632 _ _ _ _ h
        · have h := h.2 hc
          refine G_aload_n C (x := x0) 0 dL_areSound_506 rfl rfl ?_
          refine G_iload C (x := v8) 5 dL_areSound_507 rfl ?_
          refine G_iconst C (v := 0) dL_areSound_509 (by decide) ?_
          refine G_aload_n C (x := x2) 2 dL_areSound_510 rfl rfl ?_
          refine G_iload C (x := v8) 5 dL_areSound_511 rfl ?_
          obtain ⟨a2, ha3, h⟩ := h
          refine G_rf1 ha3 ?_
          obtain ⟨hk4, h⟩ := h
          obtain ⟨hi5, h⟩ := h
          refine G_iald C hk4 hi5 dL_areSound_513 ?_
          refine G_iconst C (v := 1) dL_areSound_514 (by decide) ?_
          refine G_isub C dL_areSound_515 ?_
          obtain ⟨S6, M7, hv8, hd9, h⟩ := h
          obtain ⟨a11, ha12, h⟩ := h
          obtain ⟨hk13, h⟩ := h
          obtain ⟨m16, m17, hc18, hs19, h⟩ := h
          refine G_fxcalli C hZ hv8 hd9 (Tf := TX8) (N := 10) hk13 (by decide) rfl tw_4_151 tw_4_152 tw_4_153 tw_1_1 tw_4_154 hy_X8_search ⟨Nat.le_of_ble_eq_true rfl, Nat.le_of_ble_eq_true rfl⟩ (As := [Value.int v8, Value.int 0, Value.int ((gA S a2 v8.toNatClampNeg) - 1)]) (rest := []) (c_X8_search l hl  D cy a11 v8 0 ((gA S a2 v8.toNatClampNeg) - 1) S6 m16 m17 _ _ h) rfl (by first | rfl | (simp only [ha12]; rfl) | simp only [ha12]) (by simp [va_cat, vi_cat, vl_cat]) dL_areSound_516 ⟨hc18, hs19⟩ (fun E S14 hd10 h => ?_) (fun r15 S14 hd10 h => ?_)
          · exact (h hd10).elim
          · replace h := h hd10
            refine G_iload C (x := v11) 7 dL_areSound_519 rfl ?_
            refine G_iand C dL_areSound_521 ?_
            refine G_iload C (x := v11) 7 dL_areSound_522 rfl ?_
            refine G_icmp_ne C (tgt := 632) dL_areSound_524 (by decide) (fun hc => ?_) (fun hc => ?_)
            · have h := h.1 hc
              refine G_lv C (lv' := [(0, va_rf x0), (1, va_rf x1), (2, va_rf x2), (3, va_rf x3), (4, Value.int x4), (8, Value.int v8)]) [0, 1, 2, 3, 4, 5] rfl ?_
              exact J632 _ _ _ _ h
            · have h := h.2 hc
              refine G_aload_n C (x := x0) 0 dL_areSound_527 rfl rfl ?_
              refine G_iload C (x := v8) 5 dL_areSound_528 rfl ?_
              refine G_iload C (x := v9) 6 dL_areSound_530 rfl ?_
              refine G_iload C (x := v12) 8 dL_areSound_532 rfl ?_
              obtain ⟨S20, M21, hv22, hd23, h⟩ := h
              obtain ⟨hk25, h⟩ := h
              obtain ⟨m28, m29, hc30, hs31, h⟩ := h
              refine G_fxcalli C hZ hv22 hd23 (Tf := TX8) (N := 10) hk25 (by decide) rfl tw_4_112 tw_4_113 tw_4_114 tw_1_1 tw_4_115 hy_X8_liableAnew ⟨Nat.le_of_ble_eq_true rfl, Nat.le_of_ble_eq_true rfl⟩ (As := [Value.int v8, Value.int v9, Value.int v12]) (rest := []) (c_X8_liableAnew l hl  D cy a11 v8 v9 v12 S20 m28 m29 _ _ h) rfl (by first | rfl | (simp only [ha12]; rfl) | simp only [ha12]) (by simp [va_cat, vi_cat, vl_cat]) dL_areSound_534 ⟨hc30, hs31⟩ (fun E S26 hd24 h => ?_) (fun r27 S26 hd24 h => ?_)
              · exact (h hd24).elim
              · replace h := h hd24
                refine G_iload C (x := v13) 9 dL_areSound_537 rfl ?_
                refine G_icmp_ne C (tgt := 632) dL_areSound_539 (by decide) (fun hc => ?_) (fun hc => ?_)
                · have h := h.1 hc
                  refine G_lv C (lv' := [(0, va_rf x0), (1, va_rf x1), (2, va_rf x2), (3, va_rf x3), (4, Value.int x4), (8, Value.int v8)]) [0, 1, 2, 3, 4, 5] rfl ?_
                  exact J632 _ _ _ _ h
                · have h := h.2 hc
                  refine G_iload C (x := v13) 9 dL_areSound_542 rfl ?_
                  refine G_iconst C (v := (-1)) dL_areSound_544 (by decide) ?_
                  refine G_icmp_eq C (tgt := 628) dL_areSound_545 (by decide) (fun hc => ?_) (fun hc => ?_)
                  · have h := h.1 hc
                    refine G_lv C (lv' := [(0, va_rf x0), (1, va_rf x1), (2, va_rf x2), (3, va_rf x3), (4, Value.int x4), (8, Value.int v8)]) [0, 1, 2, 3, 4, 5] rfl ?_
                    exact J628 _ _ _ _ h
                  · have h := h.2 hc
                    refine G_aload_n C (x := x0) 0 dL_areSound_548 rfl rfl ?_
                    refine G_iload C (x := v8) 5 dL_areSound_549 rfl ?_
                    refine G_iload C (x := v9) 6 dL_areSound_551 rfl ?_
                    refine G_iconst C (v := 3) dL_areSound_553 (by decide) ?_
                    obtain ⟨S32, M33, hv34, hd35, h⟩ := h
                    obtain ⟨hk37, h⟩ := h
                    obtain ⟨m40, m41, hc42, hs43, h⟩ := h
                    refine G_fxcalli C hZ hv34 hd35 (Tf := TX8) (N := 10) hk37 (by decide) rfl tw_2_5 tw_2_6 tw_2_7 tw_1_1 tw_2_8 hy_X8_metre ⟨Nat.le_of_ble_eq_true rfl, Nat.le_of_ble_eq_true rfl⟩ (As := [Value.int v8, Value.int v9, Value.int 3]) (rest := []) (c_X8_metre l hl  D cy a11 v8 v9 3 S32 m40 m41 _ _ h) rfl (by first | rfl | (simp only [ha12]; rfl) | simp only [ha12]) (by simp [va_cat, vi_cat, vl_cat]) dL_areSound_554 ⟨hc42, hs43⟩ (fun E S38 hd36 h => ?_) (fun r39 S38 hd36 h => ?_)
                    · exact (h hd36).elim
                    · replace h := h hd36
                      refine G_if_le C (tgt := 632) dL_areSound_557 (by decide) (fun hc => ?_) (fun hc => ?_)
                      · have h := h.1 hc
                        refine G_lv C (lv' := [(0, va_rf x0), (1, va_rf x1), (2, va_rf x2), (3, va_rf x3), (4, Value.int x4), (8, Value.int v8)]) [0, 1, 2, 3, 4, 5] rfl ?_
                        exact J632 _ _ _ _ h
                      · have h := h.2 hc
                        refine G_aload_n C (x := x3) 3 dL_areSound_560 rfl rfl ?_
                        refine G_iconst C (v := 4) dL_areSound_561 (by decide) ?_
                        refine G_iload C (x := v13) 9 dL_areSound_562 rfl ?_
                        refine G_imul C dL_areSound_564 ?_
                        obtain ⟨a44, ha45, h⟩ := h
                        refine G_rf1 ha45 ?_
                        obtain ⟨hk46, h⟩ := h
                        obtain ⟨hi47, h⟩ := h
                        refine G_iald C hk46 hi47 dL_areSound_565 ?_
                        refine G_iload C (x := v8) 5 dL_areSound_566 rfl ?_
                        refine G_icmp_ne C (tgt := 632) dL_areSound_568 (by decide) (fun hc => ?_) (fun hc => ?_)
                        · have h := h.1 hc
                          refine G_lv C (lv' := [(0, va_rf x0), (1, va_rf x1), (2, va_rf x2), (3, va_rf x3), (4, Value.int x4), (8, Value.int v8)]) [0, 1, 2, 3, 4, 5] rfl ?_
                          exact J632 _ _ _ _ h
                        · have h := h.2 hc
                          refine G_aload_n C (x := x3) 3 dL_areSound_571 rfl rfl ?_
                          refine G_iconst C (v := 4) dL_areSound_572 (by decide) ?_
                          refine G_iload C (x := v13) 9 dL_areSound_573 rfl ?_
                          refine G_imul C dL_areSound_575 ?_
                          refine G_iconst C (v := 1) dL_areSound_576 (by decide) ?_
                          refine G_iadd C dL_areSound_577 ?_
                          refine G_rf1 ha45 ?_
                          obtain ⟨hi48, h⟩ := h
                          refine G_iald C hk46 hi48 dL_areSound_578 ?_
                          refine G_iload C (x := v9) 6 dL_areSound_579 rfl ?_
                          refine G_icmp_gt C (tgt := 632) dL_areSound_581 (by decide) (fun hc => ?_) (fun hc => ?_)
                          · have h := h.1 hc
                            refine G_lv C (lv' := [(0, va_rf x0), (1, va_rf x1), (2, va_rf x2), (3, va_rf x3), (4, Value.int x4), (8, Value.int v8)]) [0, 1, 2, 3, 4, 5] rfl ?_
                            exact J632 _ _ _ _ h
                          · have h := h.2 hc
                            refine G_iload C (x := v9) 6 dL_areSound_584 rfl ?_
                            refine G_aload_n C (x := x3) 3 dL_areSound_586 rfl rfl ?_
                            refine G_iconst C (v := 4) dL_areSound_587 (by decide) ?_
                            refine G_iload C (x := v13) 9 dL_areSound_588 rfl ?_
                            refine G_imul C dL_areSound_590 ?_
                            refine G_iconst C (v := 2) dL_areSound_591 (by decide) ?_
                            refine G_iadd C dL_areSound_592 ?_
                            refine G_rf1 ha45 ?_
                            obtain ⟨hi49, h⟩ := h
                            refine G_iald C hk46 hi49 dL_areSound_593 ?_
                            refine G_icmp_gt C (tgt := 632) dL_areSound_594 (by decide) (fun hc => ?_) (fun hc => ?_)
                            · have h := h.1 hc
                              refine G_lv C (lv' := [(0, va_rf x0), (1, va_rf x1), (2, va_rf x2), (3, va_rf x3), (4, Value.int x4), (8, Value.int v8)]) [0, 1, 2, 3, 4, 5] rfl ?_
                              exact J632 _ _ _ _ h
                            · have h := h.2 hc
                              refine G_bipush C (v := 10) dL_areSound_597 (by decide) ?_
                              refine G_bipush C (v := 7) dL_areSound_599 (by decide) ?_
                              refine G_aload_n C (x := x3) 3 dL_areSound_601 rfl rfl ?_
                              refine G_iconst C (v := 4) dL_areSound_602 (by decide) ?_
                              refine G_iload C (x := v13) 9 dL_areSound_603 rfl ?_
                              refine G_imul C dL_areSound_605 ?_
                              refine G_iconst C (v := 1) dL_areSound_606 (by decide) ?_
                              refine G_iadd C dL_areSound_607 ?_
                              refine G_rf1 ha45 ?_
                              obtain ⟨hi50, h⟩ := h
                              refine G_iald C hk46 hi50 dL_areSound_608 ?_
                              refine G_imul C dL_areSound_609 ?_
                              refine G_iadd C dL_areSound_610 ?_
                              refine G_bipush C (v := 11) dL_areSound_611 (by decide) ?_
                              refine G_aload_n C (x := x3) 3 dL_areSound_613 rfl rfl ?_
                              refine G_iconst C (v := 4) dL_areSound_614 (by decide) ?_
                              refine G_iload C (x := v13) 9 dL_areSound_615 rfl ?_
                              refine G_imul C dL_areSound_617 ?_
                              refine G_iconst C (v := 2) dL_areSound_618 (by decide) ?_
                              refine G_iadd C dL_areSound_619 ?_
                              refine G_rf1 ha45 ?_
                              obtain ⟨hi51, h⟩ := h
                              refine G_iald C hk46 hi51 dL_areSound_620 ?_
                              refine G_imul C dL_areSound_621 ?_
                              refine G_iadd C dL_areSound_622 ?_
                              refine G_iload C (x := v12) 8 dL_areSound_623 rfl ?_
                              refine G_icmp_lt C (tgt := 632) dL_areSound_625 (by decide) (fun hc => ?_) (fun hc => ?_)
                              · have h := h.1 hc
                                refine G_lv C (lv' := [(0, va_rf x0), (1, va_rf x1), (2, va_rf x2), (3, va_rf x3), (4, Value.int x4), (8, Value.int v8)]) [0, 1, 2, 3, 4, 5] rfl ?_
                                exact J632 _ _ _ _ h
                              · have h := h.2 hc
                                refine G_lv C (lv' := [(0, va_rf x0), (1, va_rf x1), (2, va_rf x2), (3, va_rf x3), (4, Value.int x4), (8, Value.int v8)]) [0, 1, 2, 3, 4, 5] rfl ?_
                                exact J628 _ _ _ _ h
      have J484 : ∀ (c0 n0 : Nat) (S : PT) (v8 : Int32) (v9 : Int32) (v11 : Int32) (v12 : Int32) (v13 : Int32), w_L_areSound_b484 x0 x1 x2 x3 x4 mc ms post (w_L_areSound_l353 x0 x1 x2 x3 x4 mc ms post n353) c0 n0 S v8 v9 v11 v12 v13 → G p l e { frames := 7, cells := mc, slots := ms, locals := 120 } s m [va_rf x0, va_rf x1, va_rf x2, va_rf x3, Value.int x4].toArray below meth c D cy A s.heap 14 (QMi below D cy A [va_rf x0, va_rf x1, va_rf x2, va_rf x3, Value.int x4] s mc ms (fun r S => bo r ∧ post r S)) S c0 n0 484 [(0, va_rf x0), (1, va_rf x1), (2, va_rf x2), (3, va_rf x3), (4, Value.int x4), (8, Value.int v8), (9, Value.int v9), (11, Value.int v11), (12, Value.int v12), (13, Value.int v13)] [] := by
        intro c0 n0 S v8 v9 v11 v12 v13 h
        unfold w_L_areSound_b484 at h
        obtain ⟨hc00, hn00, h⟩ := h
        refine G_aload_n C (x := x0) 0 dL_areSound_484 rfl rfl ?_
        refine G_iload C (x := v8) 5 dL_areSound_485 rfl ?_
        refine G_iload C (x := v9) 6 dL_areSound_487 rfl ?_
        refine G_iconst C (v := 0) dL_areSound_489 (by decide) ?_
        obtain ⟨S52, M53, hv54, hd55, h⟩ := h
        obtain ⟨a57, ha58, h⟩ := h
        obtain ⟨hk59, h⟩ := h
        obtain ⟨m62, m63, hc64, hs65, h⟩ := h
        refine G_fxcalli C hZ hv54 hd55 (Tf := TX8) (N := 10) hk59 (by decide) rfl tw_2_5 tw_2_6 tw_2_7 tw_1_1 tw_2_8 hy_X8_metre ⟨Nat.le_of_ble_eq_true rfl, Nat.le_of_ble_eq_true rfl⟩ (As := [Value.int v8, Value.int v9, Value.int 0]) (rest := []) (c_X8_metre l hl  D cy a57 v8 v9 0 S52 m62 m63 _ _ h) rfl (by first | rfl | (simp only [ha58]; rfl) | simp only [ha58]) (by simp [va_cat, vi_cat, vl_cat]) dL_areSound_490 ⟨hc64, hs65⟩ (fun E S60 hd56 h => ?_) (fun r61 S60 hd56 h => ?_)
        · exact (h hd56).elim
        · replace h := h hd56
          refine G_iload C (x := v11) 7 dL_areSound_493 rfl ?_
          refine G_if_ne C (tgt := 502) dL_areSound_495 (by decide) (fun hc => ?_) (fun hc => ?_)
          · have h := h.1 hc
            refine G_iconst C (v := 1) dL_areSound_502 (by decide) ?_
            refine G_lv C (lv' := [(0, va_rf x0), (1, va_rf x1), (2, va_rf x2), (3, va_rf x3), (4, Value.int x4), (8, Value.int v8), (9, Value.int v9), (11, Value.int v11), (12, Value.int v12), (13, Value.int v13)]) [0, 1, 2, 3, 4, 5, 6, 7, 8, 9] rfl ?_
            exact J503 _ _ _ _ _ _ _ _ _ _ h
          · have h := h.2 hc
            refine G_iconst C (v := 0) dL_areSound_498 (by decide) ?_
            refine G_goto C (tgt := 503) dL_areSound_499 (by decide) ?_
            refine G_lv C (lv' := [(0, va_rf x0), (1, va_rf x1), (2, va_rf x2), (3, va_rf x3), (4, Value.int x4), (8, Value.int v8), (9, Value.int v9), (11, Value.int v11), (12, Value.int v12), (13, Value.int v13)]) [0, 1, 2, 3, 4, 5, 6, 7, 8, 9] rfl ?_
            exact J503 _ _ _ _ _ _ _ _ _ _ h
      intro c0 n0 S v7 v8 h
      rw [w_L_areSound_l353] at h
      obtain ⟨hc00, hn00, h⟩ := h
      refine G_iload C (x := v8) 6 dL_areSound_353 rfl ?_
      refine G_aload_n C (x := x1) 1 dL_areSound_355 rfl rfl ?_
      refine G_iconst C (v := 1) dL_areSound_356 (by decide) ?_
      obtain ⟨a66, ha67, h⟩ := h
      refine G_rf1 ha67 ?_
      obtain ⟨hk68, h⟩ := h
      obtain ⟨hi69, h⟩ := h
      refine G_iald C hk68 hi69 dL_areSound_357 ?_
      refine G_icmp_ge C (tgt := 641) dL_areSound_358 (by decide) (fun hc => ?_) (fun hc => ?_)
      · have h := h.1 hc
        refine G_lv C (lv' := [(7, Value.int v7)]) [5] rfl ?_
        exact J641 _ _ _ _ h
      · have h := h.2 hc
        refine G_iload C (x := v7) 5 dL_areSound_361 rfl ?_
        refine G_if_eq C (tgt := 641) dL_areSound_363 (by decide) (fun hc => ?_) (fun hc => ?_)
        · have h := h.1 hc
          refine G_lv C (lv' := [(7, Value.int v7)]) [5] rfl ?_
          exact J641 _ _ _ _ h
        · have h := h.2 hc
          refine G_iload C (x := x4) 4 dL_areSound_366 rfl ?_
          refine G_aload_n C (x := x2) 2 dL_areSound_368 rfl rfl ?_
          refine G_iload C (x := v8) 6 dL_areSound_369 rfl ?_
          obtain ⟨a70, ha71, h⟩ := h
          refine G_rf1 ha71 ?_
          obtain ⟨hk72, h⟩ := h
          obtain ⟨hi73, h⟩ := h
          refine G_iald C hk72 hi73 dL_areSound_371 ?_
          obtain ⟨hn74, h⟩ := h
          refine G_irem C dL_areSound_372 hn74 ?_
          refine G_istore C (i := 9) (lv' := [(9, Value.int (x4 - x4 / (gA S a70 v8.toNatClampNeg) * (gA S a70 v8.toNatClampNeg))), (0, va_rf x0), (1, va_rf x1), (2, va_rf x2), (3, va_rf x3), (4, Value.int x4), (7, Value.int v7), (8, Value.int v8)]) dL_areSound_373 (by decide) (by first | rfl | simp [va_cat, vi_cat, vl_cat]) ?_
          refine G_aload_n C (x := x0) 1 dL_areSound_375 rfl rfl ?_
          refine G_iload C (x := v8) 7 dL_areSound_376 rfl ?_
          refine G_iload C (x := (x4 - x4 / (gA S a70 v8.toNatClampNeg) * (gA S a70 v8.toNatClampNeg))) 0 dL_areSound_378 rfl ?_
          refine G_iconst C (v := 2) dL_areSound_380 (by decide) ?_
          obtain ⟨S75, M76, hv77, hd78, h⟩ := h
          obtain ⟨a80, ha81, h⟩ := h
          obtain ⟨hk82, h⟩ := h
          obtain ⟨m85, m86, hc87, hs88, h⟩ := h
          refine G_fxcalli C hZ hv77 hd78 (Tf := TX8) (N := 10) hk82 (by decide) rfl tw_2_5 tw_2_6 tw_2_7 tw_1_1 tw_2_8 hy_X8_metre ⟨Nat.le_of_ble_eq_true rfl, Nat.le_of_ble_eq_true rfl⟩ (As := [Value.int v8, Value.int (x4 - x4 / (gA S a70 v8.toNatClampNeg) * (gA S a70 v8.toNatClampNeg)), Value.int 2]) (rest := []) (c_X8_metre l hl  D cy a80 v8 (x4 - x4 / (gA S a70 v8.toNatClampNeg) * (gA S a70 v8.toNatClampNeg)) 2 S75 m85 m86 _ _ h) rfl (by first | rfl | (simp only [ha81]; rfl) | simp only [ha81]) (by simp [va_cat, vi_cat, vl_cat]) dL_areSound_381 ⟨hc87, hs88⟩ (fun E S83 hd79 h => ?_) (fun r84 S83 hd79 h => ?_)
          · exact (h hd79).elim
          · replace h := h hd79
            refine G_istore C (i := 10) (lv' := [(10, Value.int r84), (9, Value.int (x4 - x4 / (gA S a70 v8.toNatClampNeg) * (gA S a70 v8.toNatClampNeg))), (0, va_rf x0), (1, va_rf x1), (2, va_rf x2), (3, va_rf x3), (4, Value.int x4), (7, Value.int v7), (8, Value.int v8)]) dL_areSound_384 (by decide) (by first | rfl | simp [va_cat, vi_cat, vl_cat]) ?_
            refine G_aload_n C (x := x0) 2 dL_areSound_386 rfl rfl ?_
            refine G_iload C (x := v8) 8 dL_areSound_387 rfl ?_
            refine G_iload C (x := (x4 - x4 / (gA S a70 v8.toNatClampNeg) * (gA S a70 v8.toNatClampNeg))) 1 dL_areSound_389 rfl ?_
            refine G_iload C (x := (x4 - x4 / (gA S a70 v8.toNatClampNeg) * (gA S a70 v8.toNatClampNeg))) 1 dL_areSound_391 rfl ?_
            obtain ⟨S89, M90, hv91, hd92, h⟩ := h
            obtain ⟨hk94, h⟩ := h
            obtain ⟨m97, m98, hc99, hs100, h⟩ := h
            refine G_fxcalli C hZ hv91 hd92 (Tf := TX8) (N := 10) hk94 (by decide) rfl tw_4_151 tw_4_152 tw_4_153 tw_1_1 tw_4_154 hy_X8_search ⟨Nat.le_of_ble_eq_true rfl, Nat.le_of_ble_eq_true rfl⟩ (As := [Value.int v8, Value.int (x4 - x4 / (gA S a70 v8.toNatClampNeg) * (gA S a70 v8.toNatClampNeg)), Value.int (x4 - x4 / (gA S a70 v8.toNatClampNeg) * (gA S a70 v8.toNatClampNeg))]) (rest := []) (c_X8_search l hl  D cy a80 v8 (x4 - x4 / (gA S a70 v8.toNatClampNeg) * (gA S a70 v8.toNatClampNeg)) (x4 - x4 / (gA S a70 v8.toNatClampNeg) * (gA S a70 v8.toNatClampNeg)) S89 m97 m98 _ _ h) rfl (by first | rfl | (simp only [ha81]; rfl) | simp only [ha81]) (by simp [va_cat, vi_cat, vl_cat]) dL_areSound_393 ⟨hc99, hs100⟩ (fun E S95 hd93 h => ?_) (fun r96 S95 hd93 h => ?_)
            · exact (h hd93).elim
            · replace h := h hd93
              refine G_istore C (i := 11) (lv' := [(11, Value.int r96), (10, Value.int r84), (9, Value.int (x4 - x4 / (gA S a70 v8.toNatClampNeg) * (gA S a70 v8.toNatClampNeg))), (0, va_rf x0), (1, va_rf x1), (2, va_rf x2), (3, va_rf x3), (4, Value.int x4), (7, Value.int v7), (8, Value.int v8)]) dL_areSound_396 (by decide) (by first | rfl | simp [va_cat, vi_cat, vl_cat]) ?_
              refine G_iload C (x := x4) 7 dL_areSound_398 rfl ?_
              refine G_bipush C (v := 7) dL_areSound_400 (by decide) ?_
              refine G_idiv C dL_areSound_402 (by decide) ?_
              refine G_sipush C (v := 301) dL_areSound_403 (by decide) ?_
              refine G_irem C dL_areSound_406 (by decide) ?_
              refine G_istore C (i := 12) (lv' := [(12, Value.int ((x4 / 7) - (x4 / 7) / 301 * 301)), (11, Value.int r96), (10, Value.int r84), (9, Value.int (x4 - x4 / (gA S a70 v8.toNatClampNeg) * (gA S a70 v8.toNatClampNeg))), (0, va_rf x0), (1, va_rf x1), (2, va_rf x2), (3, va_rf x3), (4, Value.int x4), (7, Value.int v7), (8, Value.int v8)]) dL_areSound_407 (by decide) (by first | rfl | simp [va_cat, vi_cat, vl_cat]) ?_
              refine G_aload_n C (x := x0) 4 dL_areSound_409 rfl rfl ?_
              refine G_iload C (x := v8) 10 dL_areSound_410 rfl ?_
              refine G_iload C (x := (x4 - x4 / (gA S a70 v8.toNatClampNeg) * (gA S a70 v8.toNatClampNeg))) 3 dL_areSound_412 rfl ?_
              refine G_iload C (x := ((x4 / 7) - (x4 / 7) / 301 * 301)) 0 dL_areSound_414 rfl ?_
              obtain ⟨S101, M102, hv103, hd104, h⟩ := h
              obtain ⟨hk106, h⟩ := h
              obtain ⟨m109, m110, hc111, hs112, h⟩ := h
              refine G_fxcalli C hZ hv103 hd104 (Tf := TX8) (N := 10) hk106 (by decide) rfl tw_1_130 tw_1_131 tw_1_132 tw_1_1 tw_1_133 hy_X8_liable ⟨Nat.le_of_ble_eq_true rfl, Nat.le_of_ble_eq_true rfl⟩ (As := [Value.int v8, Value.int (x4 - x4 / (gA S a70 v8.toNatClampNeg) * (gA S a70 v8.toNatClampNeg)), Value.int ((x4 / 7) - (x4 / 7) / 301 * 301)]) (rest := []) (c_X8_liable l hl  D cy a80 v8 (x4 - x4 / (gA S a70 v8.toNatClampNeg) * (gA S a70 v8.toNatClampNeg)) ((x4 / 7) - (x4 / 7) / 301 * 301) S101 m109 m110 _ _ h) rfl (by first | rfl | (simp only [ha81]; rfl) | simp only [ha81]) (by simp [va_cat, vi_cat, vl_cat]) dL_areSound_416 ⟨hc111, hs112⟩ (fun E S107 hd105 h => ?_) (fun r108 S107 hd105 h => ?_)
              · exact (h hd105).elim
              · replace h := h hd105
                refine G_istore C (i := 13) (lv' := [(13, Value.int r108), (12, Value.int ((x4 / 7) - (x4 / 7) / 301 * 301)), (11, Value.int r96), (10, Value.int r84), (9, Value.int (x4 - x4 / (gA S a70 v8.toNatClampNeg) * (gA S a70 v8.toNatClampNeg))), (0, va_rf x0), (1, va_rf x1), (2, va_rf x2), (3, va_rf x3), (4, Value.int x4), (7, Value.int v7), (8, Value.int v8)]) dL_areSound_419 (by decide) (by first | rfl | simp [va_cat, vi_cat, vl_cat]) ?_
                refine G_aload_n C (x := x0) 5 dL_areSound_421 rfl rfl ?_
                refine G_iload C (x := v8) 11 dL_areSound_422 rfl ?_
                obtain ⟨S113, M114, hv115, hd116, h⟩ := h
                obtain ⟨hk118, h⟩ := h
                obtain ⟨m121, m122, hc123, hs124, h⟩ := h
                refine G_fxcalli C hZ hv115 hd116 (Tf := TX8) (N := 10) hk118 (by decide) rfl tw_4_156 tw_4_157 tw_4_158 tw_1_1 tw_4_159 hy_X8_queue ⟨Nat.le_of_ble_eq_true rfl, Nat.le_of_ble_eq_true rfl⟩ (As := [Value.int v8]) (rest := []) (c_X8_queue l hl  D cy a80 v8 S113 m121 m122 _ _ h) rfl (by first | rfl | (simp only [ha81]; rfl) | simp only [ha81]) (by simp [va_cat, vi_cat, vl_cat]) dL_areSound_424 ⟨hc123, hs124⟩ (fun E S119 hd117 h => ?_) (fun r120 S119 hd117 h => ?_)
                · exact (h hd117).elim
                · replace h := h hd117
                  refine G_if_lt C (tgt := 632) dL_areSound_427 (by decide) (fun hc => ?_) (fun hc => ?_)
                  · have h := h.1 hc
                    refine G_lv C (lv' := [(0, va_rf x0), (1, va_rf x1), (2, va_rf x2), (3, va_rf x3), (4, Value.int x4), (8, Value.int v8)]) [5, 6, 7, 8, 9, 11] rfl ?_
                    exact J632 _ _ _ _ h
                  · have h := h.2 hc
                    refine G_iload C (x := r84) 3 dL_areSound_430 rfl ?_
                    refine G_iconst C (v := (-1)) dL_areSound_432 (by decide) ?_
                    refine G_icmp_eq C (tgt := 484) dL_areSound_433 (by decide) (fun hc => ?_) (fun hc => ?_)
                    · have h := h.1 hc
                      refine G_lv C (lv' := [(0, va_rf x0), (1, va_rf x1), (2, va_rf x2), (3, va_rf x3), (4, Value.int x4), (8, Value.int v8), (9, Value.int (x4 - x4 / (gA S a70 v8.toNatClampNeg) * (gA S a70 v8.toNatClampNeg))), (11, Value.int r96), (12, Value.int ((x4 / 7) - (x4 / 7) / 301 * 301)), (13, Value.int r108)]) [5, 6, 7, 8, 9, 11, 4, 2, 1, 0] rfl ?_
                      exact J484 _ _ _ _ _ _ _ _ h
                    · have h := h.2 hc
                      refine G_aload_n C (x := x3) 8 dL_areSound_436 rfl rfl ?_
                      refine G_iconst C (v := 4) dL_areSound_437 (by decide) ?_
                      refine G_iload C (x := r84) 3 dL_areSound_438 rfl ?_
                      refine G_imul C dL_areSound_440 ?_
                      obtain ⟨a125, ha126, h⟩ := h
                      refine G_rf1 ha126 ?_
                      obtain ⟨hk127, h⟩ := h
                      obtain ⟨hi128, h⟩ := h
                      refine G_iald C hk127 hi128 dL_areSound_441 ?_
                      refine G_iload C (x := v8) 11 dL_areSound_442 rfl ?_
                      refine G_icmp_ne C (tgt := 632) dL_areSound_444 (by decide) (fun hc => ?_) (fun hc => ?_)
                      · have h := h.1 hc
                        refine G_lv C (lv' := [(0, va_rf x0), (1, va_rf x1), (2, va_rf x2), (3, va_rf x3), (4, Value.int x4), (8, Value.int v8)]) [5, 6, 7, 8, 9, 11] rfl ?_
                        exact J632 _ _ _ _ h
                      · have h := h.2 hc
                        refine G_aload_n C (x := x3) 8 dL_areSound_447 rfl rfl ?_
                        refine G_iconst C (v := 4) dL_areSound_448 (by decide) ?_
                        refine G_iload C (x := r84) 3 dL_areSound_449 rfl ?_
                        refine G_imul C dL_areSound_451 ?_
                        refine G_iconst C (v := 1) dL_areSound_452 (by decide) ?_
                        refine G_iadd C dL_areSound_453 ?_
                        refine G_rf1 ha126 ?_
                        obtain ⟨hi129, h⟩ := h
                        refine G_iald C hk127 hi129 dL_areSound_454 ?_
                        refine G_iload C (x := (x4 - x4 / (gA S a70 v8.toNatClampNeg) * (gA S a70 v8.toNatClampNeg))) 4 dL_areSound_455 rfl ?_
                        refine G_icmp_gt C (tgt := 632) dL_areSound_457 (by decide) (fun hc => ?_) (fun hc => ?_)
                        · have h := h.1 hc
                          refine G_lv C (lv' := [(0, va_rf x0), (1, va_rf x1), (2, va_rf x2), (3, va_rf x3), (4, Value.int x4), (8, Value.int v8)]) [5, 6, 7, 8, 9, 11] rfl ?_
                          exact J632 _ _ _ _ h
                        · have h := h.2 hc
                          refine G_iload C (x := (x4 - x4 / (gA S a70 v8.toNatClampNeg) * (gA S a70 v8.toNatClampNeg))) 4 dL_areSound_460 rfl ?_
                          refine G_aload_n C (x := x3) 8 dL_areSound_462 rfl rfl ?_
                          refine G_iconst C (v := 4) dL_areSound_463 (by decide) ?_
                          refine G_iload C (x := r84) 3 dL_areSound_464 rfl ?_
                          refine G_imul C dL_areSound_466 ?_
                          refine G_iconst C (v := 2) dL_areSound_467 (by decide) ?_
                          refine G_iadd C dL_areSound_468 ?_
                          refine G_rf1 ha126 ?_
                          obtain ⟨hi130, h⟩ := h
                          refine G_iald C hk127 hi130 dL_areSound_469 ?_
                          refine G_icmp_gt C (tgt := 632) dL_areSound_470 (by decide) (fun hc => ?_) (fun hc => ?_)
                          · have h := h.1 hc
                            refine G_lv C (lv' := [(0, va_rf x0), (1, va_rf x1), (2, va_rf x2), (3, va_rf x3), (4, Value.int x4), (8, Value.int v8)]) [5, 6, 7, 8, 9, 11] rfl ?_
                            exact J632 _ _ _ _ h
                          · have h := h.2 hc
                            refine G_aload_n C (x := x0) 5 dL_areSound_473 rfl rfl ?_
                            refine G_iload C (x := r84) 3 dL_areSound_474 rfl ?_
                            refine G_iconst C (v := 0) dL_areSound_476 (by decide) ?_
                            obtain ⟨S131, M132, hv133, hd134, h⟩ := h
                            obtain ⟨hk136, h⟩ := h
                            obtain ⟨m139, m140, hc141, hs142, h⟩ := h
                            refine G_fxcalli C hZ hv133 hd134 (Tf := TX8) (N := 10) hk136 (by decide) rfl tw_4_147 tw_4_148 tw_4_149 tw_1_1 tw_4_150 hy_X8_of ⟨Nat.le_of_ble_eq_true rfl, Nat.le_of_ble_eq_true rfl⟩ (As := [Value.int r84, Value.int 0]) (rest := []) (c_X8_of l hl  D cy a80 r84 0 S131 m139 m140 _ _ h) rfl (by first | rfl | (simp only [ha81]; rfl) | simp only [ha81]) (by simp [va_cat, vi_cat, vl_cat]) dL_areSound_477 ⟨hc141, hs142⟩ (fun E S137 hd135 h => ?_) (fun r138 S137 hd135 h => ?_)
                            · exact (h hd135).elim
                            · replace h := h hd135
                              refine G_iconst C (v := 3) dL_areSound_480 (by decide) ?_
                              refine G_icmp_ne C (tgt := 632) dL_areSound_481 (by decide) (fun hc => ?_) (fun hc => ?_)
                              · have h := h.1 hc
                                refine G_lv C (lv' := [(0, va_rf x0), (1, va_rf x1), (2, va_rf x2), (3, va_rf x3), (4, Value.int x4), (8, Value.int v8)]) [5, 6, 7, 8, 9, 11] rfl ?_
                                exact J632 _ _ _ _ h
                              · have h := h.2 hc
                                refine G_lv C (lv' := [(0, va_rf x0), (1, va_rf x1), (2, va_rf x2), (3, va_rf x3), (4, Value.int x4), (8, Value.int v8), (9, Value.int (x4 - x4 / (gA S a70 v8.toNatClampNeg) * (gA S a70 v8.toNatClampNeg))), (11, Value.int r96), (12, Value.int ((x4 / 7) - (x4 / 7) / 301 * 301)), (13, Value.int r108)]) [5, 6, 7, 8, 9, 11, 4, 2, 1, 0] rfl ?_
                                exact J484 _ _ _ _ _ _ _ _ h
  have J350 : ∀ (c0 n0 : Nat) (S : PT) (v7 : Int32), w_L_areSound_b350 x0 x1 x2 x3 x4 mc ms post c0 n0 S v7 → G p l e { frames := 7, cells := mc, slots := ms, locals := 120 } s m [va_rf x0, va_rf x1, va_rf x2, va_rf x3, Value.int x4].toArray below meth c D cy A s.heap 14 (QMi below D cy A [va_rf x0, va_rf x1, va_rf x2, va_rf x3, Value.int x4] s mc ms (fun r S => bo r ∧ post r S)) S c0 n0 350 [(0, va_rf x0), (1, va_rf x1), (2, va_rf x2), (3, va_rf x3), (4, Value.int x4), (7, Value.int v7)] [] := by
    intro c0 n0 S v7 h
    unfold w_L_areSound_b350 at h
    obtain ⟨hc00, hn00, h⟩ := h
    refine G_iconst C (v := 0) dL_areSound_350 (by decide) ?_
    refine G_istore C (i := 8) (lv' := [(8, Value.int 0), (0, va_rf x0), (1, va_rf x1), (2, va_rf x2), (3, va_rf x3), (4, Value.int x4), (7, Value.int v7)]) dL_areSound_351 (by decide) (by first | rfl | simp [va_cat, vi_cat, vl_cat]) ?_
    refine G_lv C (lv' := [(0, va_rf x0), (1, va_rf x1), (2, va_rf x2), (3, va_rf x3), (4, Value.int x4), (7, Value.int v7), (8, Value.int 0)]) [1, 2, 3, 4, 5, 6, 0] rfl ?_
    obtain ⟨n9, h⟩ := h
    exact J353 n9 _ _ _ _ _ h
  have J108 : ∀ (n : Nat) (c0 n0 : Nat) (S : PT) (v7 : Int32) (v8 : Int32), w_L_areSound_l108 x0 x1 x2 x3 x4 mc ms post n c0 n0 S v7 v8 → G p l e { frames := 7, cells := mc, slots := ms, locals := 120 } s m [va_rf x0, va_rf x1, va_rf x2, va_rf x3, Value.int x4].toArray below meth c D cy A s.heap 14 (QMi below D cy A [va_rf x0, va_rf x1, va_rf x2, va_rf x3, Value.int x4] s mc ms (fun r S => bo r ∧ post r S)) S c0 n0 108 [(0, va_rf x0), (1, va_rf x1), (2, va_rf x2), (3, va_rf x3), (4, Value.int x4), (7, Value.int v7), (8, Value.int v8)] [] := by
    intro n108
    induction n108 with
    | zero => intro c0 n0 S v7 v8 h; rw [w_L_areSound_l108] at h; exact False.elim h
    | succ n108 K108 =>
      have J342 : ∀ (c0 n0 : Nat) (S : PT) (v8 : Int32) (s0 : Int32), w_L_areSound_b342 x0 x1 x2 x3 x4 mc ms post (w_L_areSound_l108 x0 x1 x2 x3 x4 mc ms post n108) c0 n0 S v8 s0 → G p l e { frames := 7, cells := mc, slots := ms, locals := 120 } s m [va_rf x0, va_rf x1, va_rf x2, va_rf x3, Value.int x4].toArray below meth c D cy A s.heap 14 (QMi below D cy A [va_rf x0, va_rf x1, va_rf x2, va_rf x3, Value.int x4] s mc ms (fun r S => bo r ∧ post r S)) S c0 n0 342 [(0, va_rf x0), (1, va_rf x1), (2, va_rf x2), (3, va_rf x3), (4, Value.int x4), (8, Value.int v8)] [Value.int s0] := by
        intro c0 n0 S v8 s0 h
        unfold w_L_areSound_b342 at h
        obtain ⟨hc00, hn00, h⟩ := h
        refine G_istore C (i := 7) (lv' := [(7, Value.int s0), (0, va_rf x0), (1, va_rf x1), (2, va_rf x2), (3, va_rf x3), (4, Value.int x4), (8, Value.int v8)]) dL_areSound_342 (by decide) (by first | rfl | simp [va_cat, vi_cat, vl_cat]) ?_
        refine G_iinc C (v := (v8 + 1)) (lv' := [(8, Value.int (v8 + 1)), (7, Value.int s0), (0, va_rf x0), (1, va_rf x1), (2, va_rf x2), (3, va_rf x3), (4, Value.int x4)]) 6 dL_areSound_344 rfl rfl (by decide) (by first | rfl | simp [va_cat, vi_cat, vl_cat]) ?_
        refine G_goto C (tgt := 108) dL_areSound_347 (by decide) ?_
        refine G_lv C (lv' := [(0, va_rf x0), (1, va_rf x1), (2, va_rf x2), (3, va_rf x3), (4, Value.int x4), (7, Value.int s0), (8, Value.int (v8 + 1))]) [2, 3, 4, 5, 6, 1, 0] rfl ?_
        exact K108 _ _ _ _ _ h
      have J341 : ∀ (c0 n0 : Nat) (S : PT) (v8 : Int32), w_L_areSound_b341 x0 x1 x2 x3 x4 mc ms post (w_L_areSound_l108 x0 x1 x2 x3 x4 mc ms post n108) c0 n0 S v8 → G p l e { frames := 7, cells := mc, slots := ms, locals := 120 } s m [va_rf x0, va_rf x1, va_rf x2, va_rf x3, Value.int x4].toArray below meth c D cy A s.heap 14 (QMi below D cy A [va_rf x0, va_rf x1, va_rf x2, va_rf x3, Value.int x4] s mc ms (fun r S => bo r ∧ post r S)) S c0 n0 341 [(0, va_rf x0), (1, va_rf x1), (2, va_rf x2), (3, va_rf x3), (4, Value.int x4), (8, Value.int v8)] [] := by
        intro c0 n0 S v8 h
        unfold w_L_areSound_b341 at h
        obtain ⟨hc00, hn00, h⟩ := h
        refine G_iconst C (v := 0) dL_areSound_341 (by decide) ?_
        refine G_lv C (lv' := [(0, va_rf x0), (1, va_rf x1), (2, va_rf x2), (3, va_rf x3), (4, Value.int x4), (8, Value.int v8)]) [0, 1, 2, 3, 4, 5] rfl ?_
        exact J342 _ _ _ _ _ h
      have J337 : ∀ (c0 n0 : Nat) (S : PT) (v8 : Int32), w_L_areSound_b337 x0 x1 x2 x3 x4 mc ms post (w_L_areSound_l108 x0 x1 x2 x3 x4 mc ms post n108) c0 n0 S v8 → G p l e { frames := 7, cells := mc, slots := ms, locals := 120 } s m [va_rf x0, va_rf x1, va_rf x2, va_rf x3, Value.int x4].toArray below meth c D cy A s.heap 14 (QMi below D cy A [va_rf x0, va_rf x1, va_rf x2, va_rf x3, Value.int x4] s mc ms (fun r S => bo r ∧ post r S)) S c0 n0 337 [(0, va_rf x0), (1, va_rf x1), (2, va_rf x2), (3, va_rf x3), (4, Value.int x4), (8, Value.int v8)] [] := by
        intro c0 n0 S v8 h
        unfold w_L_areSound_b337 at h
        obtain ⟨hc00, hn00, h⟩ := h
        refine G_iconst C (v := 1) dL_areSound_337 (by decide) ?_
        refine G_goto C (tgt := 342) dL_areSound_338 (by decide) ?_
        refine G_lv C (lv' := [(0, va_rf x0), (1, va_rf x1), (2, va_rf x2), (3, va_rf x3), (4, Value.int x4), (8, Value.int v8)]) [0, 1, 2, 3, 4, 5] rfl ?_
        exact J342 _ _ _ _ _ h
      have J291 : ∀ (c0 n0 : Nat) (S : PT) (v8 : Int32) (v12 : Int32), w_L_areSound_b291 x0 x1 x2 x3 x4 mc ms post (w_L_areSound_l108 x0 x1 x2 x3 x4 mc ms post n108) c0 n0 S v8 v12 → G p l e { frames := 7, cells := mc, slots := ms, locals := 120 } s m [va_rf x0, va_rf x1, va_rf x2, va_rf x3, Value.int x4].toArray below meth c D cy A s.heap 14 (QMi below D cy A [va_rf x0, va_rf x1, va_rf x2, va_rf x3, Value.int x4] s mc ms (fun r S => bo r ∧ post r S)) S c0 n0 291 [(0, va_rf x0), (1, va_rf x1), (2, va_rf x2), (3, va_rf x3), (4, Value.int x4), (8, Value.int v8), (12, Value.int v12)] [] := by
        intro c0 n0 S v8 v12 h
        unfold w_L_areSound_b291 at h
        obtain ⟨hc00, hn00, h⟩ := h
        refine G_iload C (x := v12) 6 dL_areSound_291 rfl ?_
        refine G_if_lt C (tgt := 337) dL_areSound_293 (by decide) (fun hc => ?_) (fun hc => ?_)
        · have h := h.1 hc
          refine G_lv C (lv' := [(0, va_rf x0), (1, va_rf x1), (2, va_rf x2), (3, va_rf x3), (4, Value.int x4), (8, Value.int v8)]) [0, 1, 2, 3, 4, 5] rfl ?_
          exact J337 _ _ _ _ h
        · have h := h.2 hc
          refine G_aload_n C (x := x0) 0 dL_areSound_296 rfl rfl ?_
          refine G_iload C (x := v12) 6 dL_areSound_297 rfl ?_
          refine G_iload C (x := v8) 5 dL_areSound_299 rfl ?_
          obtain ⟨S143, M144, hv145, hd146, h⟩ := h
          obtain ⟨a148, ha149, h⟩ := h
          obtain ⟨hk150, h⟩ := h
          obtain ⟨m153, m154, hc155, hs156, h⟩ := h
          refine G_fxcalli C hZ hv145 hd146 (Tf := TX8) (N := 10) hk150 (by decide) rfl tw_4_142 tw_4_143 tw_4_144 tw_1_1 tw_4_145 hy_X8_meets ⟨Nat.le_of_ble_eq_true rfl, Nat.le_of_ble_eq_true rfl⟩ (As := [Value.int v12, Value.int v8]) (rest := []) (c_X8_meets l hl  D cy a148 v12 v8 S143 m153 m154 _ _ h) rfl (by first | rfl | (simp only [ha149]; rfl) | simp only [ha149]) (by simp [va_cat, vi_cat, vl_cat]) dL_areSound_301 ⟨hc155, hs156⟩ (fun E S151 hd147 h => ?_) (fun r152 S151 hd147 h => ?_)
          · exact (h hd147).elim
          · replace h := h hd147
            refine G_iload C (x := v8) 5 dL_areSound_304 rfl ?_
            refine G_icmp_ne C (tgt := 341) dL_areSound_306 (by decide) (fun hc => ?_) (fun hc => ?_)
            · have h := h.1 hc
              refine G_lv C (lv' := [(0, va_rf x0), (1, va_rf x1), (2, va_rf x2), (3, va_rf x3), (4, Value.int x4), (8, Value.int v8)]) [0, 1, 2, 3, 4, 5] rfl ?_
              exact J341 _ _ _ _ h
            · have h := h.2 hc
              refine G_aload_n C (x := x0) 0 dL_areSound_309 rfl rfl ?_
              refine G_iload C (x := v8) 5 dL_areSound_310 rfl ?_
              refine G_iload C (x := v12) 6 dL_areSound_312 rfl ?_
              obtain ⟨S157, M158, hv159, hd160, h⟩ := h
              obtain ⟨hk162, h⟩ := h
              obtain ⟨m165, m166, hc167, hs168, h⟩ := h
              refine G_fxcalli C hZ hv159 hd160 (Tf := TX8) (N := 10) hk162 (by decide) rfl tw_4_142 tw_4_143 tw_4_144 tw_1_1 tw_4_145 hy_X8_meets ⟨Nat.le_of_ble_eq_true rfl, Nat.le_of_ble_eq_true rfl⟩ (As := [Value.int v8, Value.int v12]) (rest := []) (c_X8_meets l hl  D cy a148 v8 v12 S157 m165 m166 _ _ h) rfl (by first | rfl | (simp only [ha149]; rfl) | simp only [ha149]) (by simp [va_cat, vi_cat, vl_cat]) dL_areSound_314 ⟨hc167, hs168⟩ (fun E S163 hd161 h => ?_) (fun r164 S163 hd161 h => ?_)
              · exact (h hd161).elim
              · replace h := h hd161
                refine G_iload C (x := v12) 6 dL_areSound_317 rfl ?_
                refine G_icmp_ne C (tgt := 341) dL_areSound_319 (by decide) (fun hc => ?_) (fun hc => ?_)
                · have h := h.1 hc
                  refine G_lv C (lv' := [(0, va_rf x0), (1, va_rf x1), (2, va_rf x2), (3, va_rf x3), (4, Value.int x4), (8, Value.int v8)]) [0, 1, 2, 3, 4, 5] rfl ?_
                  exact J341 _ _ _ _ h
                · have h := h.2 hc
                  refine G_aload_n C (x := x0) 0 dL_areSound_322 rfl rfl ?_
                  refine G_iload C (x := v8) 5 dL_areSound_323 rfl ?_
                  refine G_iload C (x := v12) 6 dL_areSound_325 rfl ?_
                  refine G_iconst C (v := 1) dL_areSound_327 (by decide) ?_
                  refine G_iadd C dL_areSound_328 ?_
                  obtain ⟨S169, M170, hv171, hd172, h⟩ := h
                  obtain ⟨hk174, h⟩ := h
                  obtain ⟨m177, m178, hc179, hs180, h⟩ := h
                  refine G_fxcalli C hZ hv171 hd172 (Tf := TX8) (N := 10) hk174 (by decide) rfl tw_4_142 tw_4_143 tw_4_144 tw_1_1 tw_4_145 hy_X8_meets ⟨Nat.le_of_ble_eq_true rfl, Nat.le_of_ble_eq_true rfl⟩ (As := [Value.int v8, Value.int (v12 + 1)]) (rest := []) (c_X8_meets l hl  D cy a148 v8 (v12 + 1) S169 m177 m178 _ _ h) rfl (by first | rfl | (simp only [ha149]; rfl) | simp only [ha149]) (by simp [va_cat, vi_cat, vl_cat]) dL_areSound_329 ⟨hc179, hs180⟩ (fun E S175 hd173 h => ?_) (fun r176 S175 hd173 h => ?_)
                  · exact (h hd173).elim
                  · replace h := h hd173
                    refine G_iload C (x := v12) 6 dL_areSound_332 rfl ?_
                    refine G_icmp_eq C (tgt := 341) dL_areSound_334 (by decide) (fun hc => ?_) (fun hc => ?_)
                    · have h := h.1 hc
                      refine G_lv C (lv' := [(0, va_rf x0), (1, va_rf x1), (2, va_rf x2), (3, va_rf x3), (4, Value.int x4), (8, Value.int v8)]) [0, 1, 2, 3, 4, 5] rfl ?_
                      exact J341 _ _ _ _ h
                    · have h := h.2 hc
                      refine G_lv C (lv' := [(0, va_rf x0), (1, va_rf x1), (2, va_rf x2), (3, va_rf x3), (4, Value.int x4), (8, Value.int v8)]) [0, 1, 2, 3, 4, 5] rfl ?_
                      exact J337 _ _ _ _ h
      have J280 : ∀ (c0 n0 : Nat) (S : PT) (v8 : Int32) (v11 : Int32) (v12 : Int32), w_L_areSound_b280 x0 x1 x2 x3 x4 mc ms post (w_L_areSound_l108 x0 x1 x2 x3 x4 mc ms post n108) c0 n0 S v8 v11 v12 → G p l e { frames := 7, cells := mc, slots := ms, locals := 120 } s m [va_rf x0, va_rf x1, va_rf x2, va_rf x3, Value.int x4].toArray below meth c D cy A s.heap 14 (QMi below D cy A [va_rf x0, va_rf x1, va_rf x2, va_rf x3, Value.int x4] s mc ms (fun r S => bo r ∧ post r S)) S c0 n0 280 [(0, va_rf x0), (1, va_rf x1), (2, va_rf x2), (3, va_rf x3), (4, Value.int x4), (8, Value.int v8), (11, Value.int v11), (12, Value.int v12)] [] := by
        intro c0 n0 S v8 v11 v12 h
        unfold w_L_areSound_b280 at h
        obtain ⟨hc00, hn00, h⟩ := h
        refine G_iload C (x := v11) 6 dL_areSound_280 rfl ?_
        refine G_iconst C (v := 3) dL_areSound_282 (by decide) ?_
        refine G_icmp_ne C (tgt := 291) dL_areSound_283 (by decide) (fun hc => ?_) (fun hc => ?_)
        · have h := h.1 hc
          refine G_lv C (lv' := [(0, va_rf x0), (1, va_rf x1), (2, va_rf x2), (3, va_rf x3), (4, Value.int x4), (8, Value.int v8), (12, Value.int v12)]) [0, 1, 2, 3, 4, 5, 7] rfl ?_
          exact J291 _ _ _ _ _ h
        · have h := h.2 hc
          refine G_iload C (x := v12) 7 dL_areSound_286 rfl ?_
          refine G_if_lt C (tgt := 341) dL_areSound_288 (by decide) (fun hc => ?_) (fun hc => ?_)
          · have h := h.1 hc
            refine G_lv C (lv' := [(0, va_rf x0), (1, va_rf x1), (2, va_rf x2), (3, va_rf x3), (4, Value.int x4), (8, Value.int v8)]) [0, 1, 2, 3, 4, 5] rfl ?_
            exact J341 _ _ _ _ h
          · have h := h.2 hc
            refine G_lv C (lv' := [(0, va_rf x0), (1, va_rf x1), (2, va_rf x2), (3, va_rf x3), (4, Value.int x4), (8, Value.int v8), (12, Value.int v12)]) [0, 1, 2, 3, 4, 5, 7] rfl ?_
            exact J291 _ _ _ _ _ h
      have J274 : ∀ (c0 n0 : Nat) (S : PT) (v8 : Int32) (v11 : Int32) (v12 : Int32), w_L_areSound_b274 x0 x1 x2 x3 x4 mc ms post (w_L_areSound_l108 x0 x1 x2 x3 x4 mc ms post n108) c0 n0 S v8 v11 v12 → G p l e { frames := 7, cells := mc, slots := ms, locals := 120 } s m [va_rf x0, va_rf x1, va_rf x2, va_rf x3, Value.int x4].toArray below meth c D cy A s.heap 14 (QMi below D cy A [va_rf x0, va_rf x1, va_rf x2, va_rf x3, Value.int x4] s mc ms (fun r S => bo r ∧ post r S)) S c0 n0 274 [(0, va_rf x0), (1, va_rf x1), (2, va_rf x2), (3, va_rf x3), (4, Value.int x4), (8, Value.int v8), (11, Value.int v11), (12, Value.int v12)] [] := by
        intro c0 n0 S v8 v11 v12 h
        unfold w_L_areSound_b274 at h
        obtain ⟨hc00, hn00, h⟩ := h
        refine G_iload C (x := v12) 7 dL_areSound_274 rfl ?_
        refine G_iconst C (v := (-1)) dL_areSound_276 (by decide) ?_
        refine G_icmp_ne C (tgt := 341) dL_areSound_277 (by decide) (fun hc => ?_) (fun hc => ?_)
        · have h := h.1 hc
          refine G_lv C (lv' := [(0, va_rf x0), (1, va_rf x1), (2, va_rf x2), (3, va_rf x3), (4, Value.int x4), (8, Value.int v8)]) [0, 1, 2, 3, 4, 5] rfl ?_
          exact J341 _ _ _ _ h
        · have h := h.2 hc
          refine G_lv C (lv' := [(0, va_rf x0), (1, va_rf x1), (2, va_rf x2), (3, va_rf x3), (4, Value.int x4), (8, Value.int v8), (11, Value.int v11), (12, Value.int v12)]) [0, 1, 2, 3, 4, 5, 6, 7] rfl ?_
          exact J280 _ _ _ _ _ _ h
      have J241 : ∀ (c0 n0 : Nat) (S : PT) (v8 : Int32) (v9 : Int32) (v11 : Int32) (v12 : Int32), w_L_areSound_b241 x0 x1 x2 x3 x4 mc ms post (w_L_areSound_l108 x0 x1 x2 x3 x4 mc ms post n108) c0 n0 S v8 v9 v11 v12 → G p l e { frames := 7, cells := mc, slots := ms, locals := 120 } s m [va_rf x0, va_rf x1, va_rf x2, va_rf x3, Value.int x4].toArray below meth c D cy A s.heap 14 (QMi below D cy A [va_rf x0, va_rf x1, va_rf x2, va_rf x3, Value.int x4] s mc ms (fun r S => bo r ∧ post r S)) S c0 n0 241 [(0, va_rf x0), (1, va_rf x1), (2, va_rf x2), (3, va_rf x3), (4, Value.int x4), (8, Value.int v8), (9, Value.int v9), (11, Value.int v11), (12, Value.int v12)] [] := by
        intro c0 n0 S v8 v9 v11 v12 h
        unfold w_L_areSound_b241 at h
        obtain ⟨hc00, hn00, h⟩ := h
        refine G_iload C (x := v11) 7 dL_areSound_241 rfl ?_
        refine G_if_lt C (tgt := 341) dL_areSound_243 (by decide) (fun hc => ?_) (fun hc => ?_)
        · have h := h.1 hc
          refine G_lv C (lv' := [(0, va_rf x0), (1, va_rf x1), (2, va_rf x2), (3, va_rf x3), (4, Value.int x4), (8, Value.int v8)]) [0, 1, 2, 3, 4, 5] rfl ?_
          exact J341 _ _ _ _ h
        · have h := h.2 hc
          refine G_iload C (x := v11) 7 dL_areSound_246 rfl ?_
          refine G_iconst C (v := 4) dL_areSound_248 (by decide) ?_
          refine G_icmp_ge C (tgt := 341) dL_areSound_249 (by decide) (fun hc => ?_) (fun hc => ?_)
          · have h := h.1 hc
            refine G_lv C (lv' := [(0, va_rf x0), (1, va_rf x1), (2, va_rf x2), (3, va_rf x3), (4, Value.int x4), (8, Value.int v8)]) [0, 1, 2, 3, 4, 5] rfl ?_
            exact J341 _ _ _ _ h
          · have h := h.2 hc
            refine G_aload_n C (x := x0) 0 dL_areSound_252 rfl rfl ?_
            refine G_iload C (x := v8) 5 dL_areSound_253 rfl ?_
            refine G_iconst C (v := 4) dL_areSound_255 (by decide) ?_
            obtain ⟨S181, M182, hv183, hd184, h⟩ := h
            obtain ⟨a186, ha187, h⟩ := h
            obtain ⟨hk188, h⟩ := h
            obtain ⟨m191, m192, hc193, hs194, h⟩ := h
            refine G_fxcalli C hZ hv183 hd184 (Tf := TX8) (N := 10) hk188 (by decide) rfl tw_4_147 tw_4_148 tw_4_149 tw_1_1 tw_4_150 hy_X8_of ⟨Nat.le_of_ble_eq_true rfl, Nat.le_of_ble_eq_true rfl⟩ (As := [Value.int v8, Value.int 4]) (rest := []) (c_X8_of l hl  D cy a186 v8 4 S181 m191 m192 _ _ h) rfl (by first | rfl | (simp only [ha187]; rfl) | simp only [ha187]) (by simp [va_cat, vi_cat, vl_cat]) dL_areSound_256 ⟨hc193, hs194⟩ (fun E S189 hd185 h => ?_) (fun r190 S189 hd185 h => ?_)
            · exact (h hd185).elim
            · replace h := h hd185
              refine G_if_lt C (tgt := 341) dL_areSound_259 (by decide) (fun hc => ?_) (fun hc => ?_)
              · have h := h.1 hc
                refine G_lv C (lv' := [(0, va_rf x0), (1, va_rf x1), (2, va_rf x2), (3, va_rf x3), (4, Value.int x4), (8, Value.int v8)]) [0, 1, 2, 3, 4, 5] rfl ?_
                exact J341 _ _ _ _ h
              · have h := h.2 hc
                refine G_iload C (x := v9) 6 dL_areSound_262 rfl ?_
                refine G_iconst C (v := 2) dL_areSound_264 (by decide) ?_
                refine G_icmp_eq C (tgt := 274) dL_areSound_265 (by decide) (fun hc => ?_) (fun hc => ?_)
                · have h := h.1 hc
                  refine G_lv C (lv' := [(0, va_rf x0), (1, va_rf x1), (2, va_rf x2), (3, va_rf x3), (4, Value.int x4), (8, Value.int v8), (11, Value.int v11), (12, Value.int v12)]) [0, 1, 2, 3, 4, 5, 7, 8] rfl ?_
                  exact J274 _ _ _ _ _ _ h
                · have h := h.2 hc
                  refine G_iload C (x := v9) 6 dL_areSound_268 rfl ?_
                  refine G_iconst C (v := 4) dL_areSound_270 (by decide) ?_
                  refine G_icmp_ne C (tgt := 280) dL_areSound_271 (by decide) (fun hc => ?_) (fun hc => ?_)
                  · have h := h.1 hc
                    refine G_lv C (lv' := [(0, va_rf x0), (1, va_rf x1), (2, va_rf x2), (3, va_rf x3), (4, Value.int x4), (8, Value.int v8), (11, Value.int v11), (12, Value.int v12)]) [0, 1, 2, 3, 4, 5, 7, 8] rfl ?_
                    exact J280 _ _ _ _ _ _ h
                  · have h := h.2 hc
                    refine G_lv C (lv' := [(0, va_rf x0), (1, va_rf x1), (2, va_rf x2), (3, va_rf x3), (4, Value.int x4), (8, Value.int v8), (11, Value.int v11), (12, Value.int v12)]) [0, 1, 2, 3, 4, 5, 7, 8] rfl ?_
                    exact J274 _ _ _ _ _ _ h
      have J143 : ∀ (n : Nat) (c0 n0 : Nat) (S : PT) (v8 : Int32) (v9 : Int32) (v10 : Int32) (v11 : Int32), w_L_areSound_l143 x0 x1 x2 x3 x4 mc ms post (w_L_areSound_l108 x0 x1 x2 x3 x4 mc ms post n108) n c0 n0 S v8 v9 v10 v11 → G p l e { frames := 7, cells := mc, slots := ms, locals := 120 } s m [va_rf x0, va_rf x1, va_rf x2, va_rf x3, Value.int x4].toArray below meth c D cy A s.heap 14 (QMi below D cy A [va_rf x0, va_rf x1, va_rf x2, va_rf x3, Value.int x4] s mc ms (fun r S => bo r ∧ post r S)) S c0 n0 143 [(0, va_rf x0), (1, va_rf x1), (2, va_rf x2), (3, va_rf x3), (4, Value.int x4), (8, Value.int v8), (9, Value.int v9), (10, Value.int v10), (11, Value.int v11)] [] := by
        intro n143
        induction n143 with
        | zero => intro c0 n0 S v8 v9 v10 v11 h; rw [w_L_areSound_l143] at h; exact False.elim h
        | succ n143 K143 =>
          have J181 : ∀ (c0 n0 : Nat) (S : PT) (v8 : Int32) (v9 : Int32) (v11 : Int32) (s0 : Int32) (s1 : Int32), w_L_areSound_b181 x0 x1 x2 x3 x4 mc ms post (w_L_areSound_l108 x0 x1 x2 x3 x4 mc ms post n108) (w_L_areSound_l143 x0 x1 x2 x3 x4 mc ms post (w_L_areSound_l108 x0 x1 x2 x3 x4 mc ms post n108) n143) c0 n0 S v8 v9 v11 s0 s1 → G p l e { frames := 7, cells := mc, slots := ms, locals := 120 } s m [va_rf x0, va_rf x1, va_rf x2, va_rf x3, Value.int x4].toArray below meth c D cy A s.heap 14 (QMi below D cy A [va_rf x0, va_rf x1, va_rf x2, va_rf x3, Value.int x4] s mc ms (fun r S => bo r ∧ post r S)) S c0 n0 181 [(0, va_rf x0), (1, va_rf x1), (2, va_rf x2), (3, va_rf x3), (4, Value.int x4), (8, Value.int v8), (9, Value.int v9), (11, Value.int v11)] [Value.int s1, Value.int s0] := by
            intro c0 n0 S v8 v9 v11 s0 s1 h
            unfold w_L_areSound_b181 at h
            obtain ⟨hc00, hn00, h⟩ := h
            refine G_iadd C dL_areSound_181 ?_
            refine G_istore C (i := 10) (lv' := [(10, Value.int (s0 + s1)), (0, va_rf x0), (1, va_rf x1), (2, va_rf x2), (3, va_rf x3), (4, Value.int x4), (8, Value.int v8), (9, Value.int v9), (11, Value.int v11)]) dL_areSound_182 (by decide) (by first | rfl | simp [va_cat, vi_cat, vl_cat]) ?_
            refine G_iinc C (v := (v11 + 1)) (lv' := [(11, Value.int (v11 + 1)), (10, Value.int (s0 + s1)), (0, va_rf x0), (1, va_rf x1), (2, va_rf x2), (3, va_rf x3), (4, Value.int x4), (8, Value.int v8), (9, Value.int v9)]) 8 dL_areSound_184 rfl rfl (by decide) (by first | rfl | simp [va_cat, vi_cat, vl_cat]) ?_
            refine G_goto C (tgt := 143) dL_areSound_187 (by decide) ?_
            refine G_lv C (lv' := [(0, va_rf x0), (1, va_rf x1), (2, va_rf x2), (3, va_rf x3), (4, Value.int x4), (8, Value.int v8), (9, Value.int v9), (10, Value.int (s0 + s1)), (11, Value.int (v11 + 1))]) [2, 3, 4, 5, 6, 7, 8, 1, 0] rfl ?_
            exact K143 _ _ _ _ _ _ _ h
          intro c0 n0 S v8 v9 v10 v11 h
          rw [w_L_areSound_l143] at h
          obtain ⟨hc00, hn00, h⟩ := h
          refine G_iload C (x := v11) 8 dL_areSound_143 rfl ?_
          refine G_aload_n C (x := x3) 3 dL_areSound_145 rfl rfl ?_
          refine G_iconst C (v := 4) dL_areSound_146 (by decide) ?_
          refine G_iload C (x := v8) 5 dL_areSound_147 rfl ?_
          refine G_imul C dL_areSound_149 ?_
          refine G_iconst C (v := 2) dL_areSound_150 (by decide) ?_
          refine G_iadd C dL_areSound_151 ?_
          obtain ⟨a195, ha196, h⟩ := h
          refine G_rf1 ha196 ?_
          obtain ⟨hk197, h⟩ := h
          obtain ⟨hi198, h⟩ := h
          refine G_iald C hk197 hi198 dL_areSound_152 ?_
          refine G_icmp_gt C (tgt := 190) dL_areSound_153 (by decide) (fun hc => ?_) (fun hc => ?_)
          · have h := h.1 hc
            refine G_aload_n C (x := x0) 0 dL_areSound_190 rfl rfl ?_
            refine G_iload C (x := v8) 5 dL_areSound_191 rfl ?_
            obtain ⟨S199, M200, hv201, hd202, h⟩ := h
            obtain ⟨a204, ha205, h⟩ := h
            obtain ⟨hk206, h⟩ := h
            obtain ⟨m209, m210, hc211, hs212, h⟩ := h
            refine G_fxcalli C hZ hv201 hd202 (Tf := TX8) (N := 10) hk206 (by decide) rfl tw_4_138 tw_4_139 tw_4_140 tw_1_1 tw_4_141 hy_X8_bars ⟨Nat.le_of_ble_eq_true rfl, Nat.le_of_ble_eq_true rfl⟩ (As := [Value.int v8]) (rest := []) (c_X8_bars l hl  D cy a204 v8 S199 m209 m210 _ _ h) rfl (by first | rfl | (simp only [ha205]; rfl) | simp only [ha205]) (by simp [va_cat, vi_cat, vl_cat]) dL_areSound_193 ⟨hc211, hs212⟩ (fun E S207 hd203 h => ?_) (fun r208 S207 hd203 h => ?_)
            · exact (h hd203).elim
            · replace h := h hd203
              refine G_istore C (i := 11) (lv' := [(11, Value.int r208), (0, va_rf x0), (1, va_rf x1), (2, va_rf x2), (3, va_rf x3), (4, Value.int x4), (8, Value.int v8), (9, Value.int v9), (10, Value.int v10)]) dL_areSound_196 (by decide) (by first | rfl | simp [va_cat, vi_cat, vl_cat]) ?_
              refine G_aload_n C (x := x0) 1 dL_areSound_198 rfl rfl ?_
              refine G_iload C (x := v8) 6 dL_areSound_199 rfl ?_
              refine G_iconst C (v := 0) dL_areSound_201 (by decide) ?_
              obtain ⟨S213, M214, hv215, hd216, h⟩ := h
              obtain ⟨hk218, h⟩ := h
              obtain ⟨m221, m222, hc223, hs224, h⟩ := h
              refine G_fxcalli C hZ hv215 hd216 (Tf := TX8) (N := 10) hk218 (by decide) rfl tw_4_142 tw_4_143 tw_4_144 tw_1_1 tw_4_145 hy_X8_meets ⟨Nat.le_of_ble_eq_true rfl, Nat.le_of_ble_eq_true rfl⟩ (As := [Value.int v8, Value.int 0]) (rest := []) (c_X8_meets l hl  D cy a204 v8 0 S213 m221 m222 _ _ h) rfl (by first | rfl | (simp only [ha205]; rfl) | simp only [ha205]) (by simp [va_cat, vi_cat, vl_cat]) dL_areSound_202 ⟨hc223, hs224⟩ (fun E S219 hd217 h => ?_) (fun r220 S219 hd217 h => ?_)
              · exact (h hd217).elim
              · replace h := h hd217
                refine G_istore C (i := 12) (lv' := [(12, Value.int r220), (11, Value.int r208), (0, va_rf x0), (1, va_rf x1), (2, va_rf x2), (3, va_rf x3), (4, Value.int x4), (8, Value.int v8), (9, Value.int v9), (10, Value.int v10)]) dL_areSound_205 (by decide) (by first | rfl | simp [va_cat, vi_cat, vl_cat]) ?_
                refine G_aload_n C (x := x0) 2 dL_areSound_207 rfl rfl ?_
                refine G_iload C (x := v8) 7 dL_areSound_208 rfl ?_
                refine G_iconst C (v := 5) dL_areSound_210 (by decide) ?_
                obtain ⟨S225, M226, hv227, hd228, h⟩ := h
                obtain ⟨hk230, h⟩ := h
                obtain ⟨m233, m234, hc235, hs236, h⟩ := h
                refine G_fxcalli C hZ hv227 hd228 (Tf := TX8) (N := 10) hk230 (by decide) rfl tw_4_147 tw_4_148 tw_4_149 tw_1_1 tw_4_150 hy_X8_of ⟨Nat.le_of_ble_eq_true rfl, Nat.le_of_ble_eq_true rfl⟩ (As := [Value.int v8, Value.int 5]) (rest := []) (c_X8_of l hl  D cy a204 v8 5 S225 m233 m234 _ _ h) rfl (by first | rfl | (simp only [ha205]; rfl) | simp only [ha205]) (by simp [va_cat, vi_cat, vl_cat]) dL_areSound_211 ⟨hc235, hs236⟩ (fun E S231 hd229 h => ?_) (fun r232 S231 hd229 h => ?_)
                · exact (h hd229).elim
                · replace h := h hd229
                  refine G_iload C (x := v10) 9 dL_areSound_214 rfl ?_
                  refine G_icmp_ne C (tgt := 341) dL_areSound_216 (by decide) (fun hc => ?_) (fun hc => ?_)
                  · have h := h.1 hc
                    refine G_lv C (lv' := [(0, va_rf x0), (1, va_rf x1), (2, va_rf x2), (3, va_rf x3), (4, Value.int x4), (8, Value.int v8)]) [2, 3, 4, 5, 6, 7] rfl ?_
                    exact J341 _ _ _ _ h
                  · have h := h.2 hc
                    refine G_iload C (x := v9) 8 dL_areSound_219 rfl ?_
                    refine G_iconst C (v := 3) dL_areSound_221 (by decide) ?_
                    refine G_icmp_eq C (tgt := 241) dL_areSound_222 (by decide) (fun hc => ?_) (fun hc => ?_)
                    · have h := h.1 hc
                      refine G_lv C (lv' := [(0, va_rf x0), (1, va_rf x1), (2, va_rf x2), (3, va_rf x3), (4, Value.int x4), (8, Value.int v8), (9, Value.int v9), (11, Value.int r208), (12, Value.int r220)]) [2, 3, 4, 5, 6, 7, 8, 1, 0] rfl ?_
                      exact J241 _ _ _ _ _ _ _ h
                    · have h := h.2 hc
                      refine G_iload C (x := v10) 9 dL_areSound_225 rfl ?_
                      refine G_if_ne C (tgt := 341) dL_areSound_227 (by decide) (fun hc => ?_) (fun hc => ?_)
                      · have h := h.1 hc
                        refine G_lv C (lv' := [(0, va_rf x0), (1, va_rf x1), (2, va_rf x2), (3, va_rf x3), (4, Value.int x4), (8, Value.int v8)]) [2, 3, 4, 5, 6, 7] rfl ?_
                        exact J341 _ _ _ _ h
                      · have h := h.2 hc
                        refine G_aload_n C (x := x0) 2 dL_areSound_230 rfl rfl ?_
                        refine G_iload C (x := v8) 7 dL_areSound_231 rfl ?_
                        refine G_bipush C (v := 6) dL_areSound_233 (by decide) ?_
                        obtain ⟨S237, M238, hv239, hd240, h⟩ := h
                        obtain ⟨hk242, h⟩ := h
                        obtain ⟨m245, m246, hc247, hs248, h⟩ := h
                        refine G_fxcalli C hZ hv239 hd240 (Tf := TX8) (N := 10) hk242 (by decide) rfl tw_4_147 tw_4_148 tw_4_149 tw_1_1 tw_4_150 hy_X8_of ⟨Nat.le_of_ble_eq_true rfl, Nat.le_of_ble_eq_true rfl⟩ (As := [Value.int v8, Value.int 6]) (rest := []) (c_X8_of l hl  D cy a204 v8 6 S237 m245 m246 _ _ h) rfl (by first | rfl | (simp only [ha205]; rfl) | simp only [ha205]) (by simp [va_cat, vi_cat, vl_cat]) dL_areSound_235 ⟨hc247, hs248⟩ (fun E S243 hd241 h => ?_) (fun r244 S243 hd241 h => ?_)
                        · exact (h hd241).elim
                        · replace h := h hd241
                          refine G_if_ne C (tgt := 341) dL_areSound_238 (by decide) (fun hc => ?_) (fun hc => ?_)
                          · have h := h.1 hc
                            refine G_lv C (lv' := [(0, va_rf x0), (1, va_rf x1), (2, va_rf x2), (3, va_rf x3), (4, Value.int x4), (8, Value.int v8)]) [2, 3, 4, 5, 6, 7] rfl ?_
                            exact J341 _ _ _ _ h
                          · have h := h.2 hc
                            refine G_lv C (lv' := [(0, va_rf x0), (1, va_rf x1), (2, va_rf x2), (3, va_rf x3), (4, Value.int x4), (8, Value.int v8), (9, Value.int v9), (11, Value.int r208), (12, Value.int r220)]) [2, 3, 4, 5, 6, 7, 8, 1, 0] rfl ?_
                            exact J241 _ _ _ _ _ _ _ h
          · have h := h.2 hc
            refine G_iload C (x := v10) 7 dL_areSound_156 rfl ?_
            refine G_aload_n C (x := x0) 0 dL_areSound_158 rfl rfl ?_
            refine G_aload_n C (x := x3) 3 dL_areSound_159 rfl rfl ?_
            refine G_iconst C (v := 4) dL_areSound_160 (by decide) ?_
            refine G_iload C (x := v8) 5 dL_areSound_161 rfl ?_
            refine G_imul C dL_areSound_163 ?_
            refine G_rf1 ha196 ?_
            obtain ⟨hi249, h⟩ := h
            refine G_iald C hk197 hi249 dL_areSound_164 ?_
            refine G_iload C (x := v11) 8 dL_areSound_165 rfl ?_
            refine G_iconst C (v := 2) dL_areSound_167 (by decide) ?_
            obtain ⟨S250, M251, hv252, hd253, h⟩ := h
            obtain ⟨a255, ha256, h⟩ := h
            obtain ⟨hk257, h⟩ := h
            obtain ⟨m260, m261, hc262, hs263, h⟩ := h
            refine G_fxcalli C hZ hv252 hd253 (Tf := TX8) (N := 10) hk257 (by decide) rfl tw_2_5 tw_2_6 tw_2_7 tw_1_1 tw_2_8 hy_X8_metre ⟨Nat.le_of_ble_eq_true rfl, Nat.le_of_ble_eq_true rfl⟩ (As := [Value.int (gA S a195 (((4 * v8)).toNatClampNeg)), Value.int v11, Value.int 2]) (rest := [Value.int v10]) (c_X8_metre l hl  D cy a255 (gA S a195 (((4 * v8)).toNatClampNeg)) v11 2 S250 m260 m261 _ _ h) rfl (by first | rfl | (simp only [ha256]; rfl) | simp only [ha256]) (by simp [va_cat, vi_cat, vl_cat]) dL_areSound_168 ⟨hc262, hs263⟩ (fun E S258 hd254 h => ?_) (fun r259 S258 hd254 h => ?_)
            · exact (h hd254).elim
            · replace h := h hd254
              refine G_iload C (x := v8) 5 dL_areSound_171 rfl ?_
              refine G_icmp_ne C (tgt := 180) dL_areSound_173 (by decide) (fun hc => ?_) (fun hc => ?_)
              · have h := h.1 hc
                refine G_iconst C (v := 0) dL_areSound_180 (by decide) ?_
                refine G_lv C (lv' := [(0, va_rf x0), (1, va_rf x1), (2, va_rf x2), (3, va_rf x3), (4, Value.int x4), (8, Value.int v8), (9, Value.int v9), (11, Value.int v11)]) [0, 1, 2, 3, 4, 5, 6, 8] rfl ?_
                exact J181 _ _ _ _ _ _ _ _ h
              · have h := h.2 hc
                refine G_iconst C (v := 1) dL_areSound_176 (by decide) ?_
                refine G_goto C (tgt := 181) dL_areSound_177 (by decide) ?_
                refine G_lv C (lv' := [(0, va_rf x0), (1, va_rf x1), (2, va_rf x2), (3, va_rf x3), (4, Value.int x4), (8, Value.int v8), (9, Value.int v9), (11, Value.int v11)]) [0, 1, 2, 3, 4, 5, 6, 8] rfl ?_
                exact J181 _ _ _ _ _ _ _ _ h
      intro c0 n0 S v7 v8 h
      rw [w_L_areSound_l108] at h
      obtain ⟨hc00, hn00, h⟩ := h
      refine G_iload C (x := v8) 6 dL_areSound_108 rfl ?_
      refine G_aload_n C (x := x1) 1 dL_areSound_110 rfl rfl ?_
      refine G_iconst C (v := 3) dL_areSound_111 (by decide) ?_
      obtain ⟨a264, ha265, h⟩ := h
      refine G_rf1 ha265 ?_
      obtain ⟨hk266, h⟩ := h
      obtain ⟨hi267, h⟩ := h
      refine G_iald C hk266 hi267 dL_areSound_112 ?_
      refine G_icmp_ge C (tgt := 350) dL_areSound_113 (by decide) (fun hc => ?_) (fun hc => ?_)
      · have h := h.1 hc
        refine G_lv C (lv' := [(0, va_rf x0), (1, va_rf x1), (2, va_rf x2), (3, va_rf x3), (4, Value.int x4), (7, Value.int v7)]) [0, 1, 2, 3, 4, 5] rfl ?_
        exact J350 _ _ _ _ h
      · have h := h.2 hc
        refine G_iload C (x := v7) 5 dL_areSound_116 rfl ?_
        refine G_if_eq C (tgt := 350) dL_areSound_118 (by decide) (fun hc => ?_) (fun hc => ?_)
        · have h := h.1 hc
          refine G_lv C (lv' := [(0, va_rf x0), (1, va_rf x1), (2, va_rf x2), (3, va_rf x3), (4, Value.int x4), (7, Value.int v7)]) [0, 1, 2, 3, 4, 5] rfl ?_
          exact J350 _ _ _ _ h
        · have h := h.2 hc
          refine G_aload_n C (x := x0) 0 dL_areSound_121 rfl rfl ?_
          refine G_iload C (x := v8) 6 dL_areSound_122 rfl ?_
          refine G_iconst C (v := 0) dL_areSound_124 (by decide) ?_
          obtain ⟨S268, M269, hv270, hd271, h⟩ := h
          obtain ⟨a273, ha274, h⟩ := h
          obtain ⟨hk275, h⟩ := h
          obtain ⟨m278, m279, hc280, hs281, h⟩ := h
          refine G_fxcalli C hZ hv270 hd271 (Tf := TX8) (N := 10) hk275 (by decide) rfl tw_4_147 tw_4_148 tw_4_149 tw_1_1 tw_4_150 hy_X8_of ⟨Nat.le_of_ble_eq_true rfl, Nat.le_of_ble_eq_true rfl⟩ (As := [Value.int v8, Value.int 0]) (rest := []) (c_X8_of l hl  D cy a273 v8 0 S268 m278 m279 _ _ h) rfl (by first | rfl | (simp only [ha274]; rfl) | simp only [ha274]) (by simp [va_cat, vi_cat, vl_cat]) dL_areSound_125 ⟨hc280, hs281⟩ (fun E S276 hd272 h => ?_) (fun r277 S276 hd272 h => ?_)
          · exact (h hd272).elim
          · replace h := h hd272
            refine G_istore C (i := 9) (lv' := [(9, Value.int r277), (0, va_rf x0), (1, va_rf x1), (2, va_rf x2), (3, va_rf x3), (4, Value.int x4), (7, Value.int v7), (8, Value.int v8)]) dL_areSound_128 (by decide) (by first | rfl | simp [va_cat, vi_cat, vl_cat]) ?_
            refine G_iconst C (v := 0) dL_areSound_130 (by decide) ?_
            refine G_istore C (i := 10) (lv' := [(10, Value.int 0), (9, Value.int r277), (0, va_rf x0), (1, va_rf x1), (2, va_rf x2), (3, va_rf x3), (4, Value.int x4), (7, Value.int v7), (8, Value.int v8)]) dL_areSound_131 (by decide) (by first | rfl | simp [va_cat, vi_cat, vl_cat]) ?_
            refine G_aload_n C (x := x3) 5 dL_areSound_133 rfl rfl ?_
            refine G_iconst C (v := 4) dL_areSound_134 (by decide) ?_
            refine G_iload C (x := v8) 8 dL_areSound_135 rfl ?_
            refine G_imul C dL_areSound_137 ?_
            refine G_iconst C (v := 1) dL_areSound_138 (by decide) ?_
            refine G_iadd C dL_areSound_139 ?_
            obtain ⟨a282, ha283, h⟩ := h
            refine G_rf1 ha283 ?_
            obtain ⟨hk284, h⟩ := h
            obtain ⟨hi285, h⟩ := h
            refine G_iald C hk284 hi285 dL_areSound_140 ?_
            refine G_istore C (i := 11) (lv' := [(11, Value.int (gA (ov S276 M269) a282 ((((4 * v8) + 1)).toNatClampNeg))), (10, Value.int 0), (9, Value.int r277), (0, va_rf x0), (1, va_rf x1), (2, va_rf x2), (3, va_rf x3), (4, Value.int x4), (7, Value.int v7), (8, Value.int v8)]) dL_areSound_141 (by decide) (by first | rfl | simp [va_cat, vi_cat, vl_cat]) ?_
            refine G_lv C (lv' := [(0, va_rf x0), (1, va_rf x1), (2, va_rf x2), (3, va_rf x3), (4, Value.int x4), (8, Value.int v8), (9, Value.int r277), (10, Value.int 0), (11, Value.int (gA (ov S276 M269) a282 ((((4 * v8) + 1)).toNatClampNeg)))]) [3, 4, 5, 6, 7, 9, 2, 1, 0] rfl ?_
            obtain ⟨n9, h⟩ := h
            exact J143 n9 _ _ _ _ _ _ _ h
  have J103 : ∀ (c0 n0 : Nat) (S : PT) (s0 : Int32), w_L_areSound_b103 x0 x1 x2 x3 x4 mc ms post c0 n0 S s0 → G p l e { frames := 7, cells := mc, slots := ms, locals := 120 } s m [va_rf x0, va_rf x1, va_rf x2, va_rf x3, Value.int x4].toArray below meth c D cy A s.heap 14 (QMi below D cy A [va_rf x0, va_rf x1, va_rf x2, va_rf x3, Value.int x4] s mc ms (fun r S => bo r ∧ post r S)) S c0 n0 103 [(0, va_rf x0), (1, va_rf x1), (2, va_rf x2), (3, va_rf x3), (4, Value.int x4)] [Value.int s0] := by
    intro c0 n0 S s0 h
    unfold w_L_areSound_b103 at h
    obtain ⟨hc00, hn00, h⟩ := h
    refine G_istore C (i := 7) (lv' := [(7, Value.int s0), (0, va_rf x0), (1, va_rf x1), (2, va_rf x2), (3, va_rf x3), (4, Value.int x4)]) dL_areSound_103 (by decide) (by first | rfl | simp [va_cat, vi_cat, vl_cat]) ?_
    refine G_iconst C (v := 0) dL_areSound_105 (by decide) ?_
    refine G_istore C (i := 8) (lv' := [(8, Value.int 0), (7, Value.int s0), (0, va_rf x0), (1, va_rf x1), (2, va_rf x2), (3, va_rf x3), (4, Value.int x4)]) dL_areSound_106 (by decide) (by first | rfl | simp [va_cat, vi_cat, vl_cat]) ?_
    refine G_lv C (lv' := [(0, va_rf x0), (1, va_rf x1), (2, va_rf x2), (3, va_rf x3), (4, Value.int x4), (7, Value.int s0), (8, Value.int 0)]) [2, 3, 4, 5, 6, 1, 0] rfl ?_
    obtain ⟨n9, h⟩ := h
    exact J108 n9 _ _ _ _ _ h
  have J102 : ∀ (c0 n0 : Nat) (S : PT), w_L_areSound_b102 x0 x1 x2 x3 x4 mc ms post c0 n0 S → G p l e { frames := 7, cells := mc, slots := ms, locals := 120 } s m [va_rf x0, va_rf x1, va_rf x2, va_rf x3, Value.int x4].toArray below meth c D cy A s.heap 14 (QMi below D cy A [va_rf x0, va_rf x1, va_rf x2, va_rf x3, Value.int x4] s mc ms (fun r S => bo r ∧ post r S)) S c0 n0 102 [(0, va_rf x0), (1, va_rf x1), (2, va_rf x2), (3, va_rf x3), (4, Value.int x4)] [] := by
    intro c0 n0 S h
    unfold w_L_areSound_b102 at h
    obtain ⟨hc00, hn00, h⟩ := h
    refine G_iconst C (v := 0) dL_areSound_102 (by decide) ?_
    refine G_lv C (lv' := [(0, va_rf x0), (1, va_rf x1), (2, va_rf x2), (3, va_rf x3), (4, Value.int x4)]) [0, 1, 2, 3, 4] rfl ?_
    exact J103 _ _ _ _ h
  have J76 : ∀ (c0 n0 : Nat) (S : PT) (v5 : Int64) (v7 : Int32), w_L_areSound_b76 x0 x1 x2 x3 x4 mc ms post c0 n0 S v5 v7 → G p l e { frames := 7, cells := mc, slots := ms, locals := 120 } s m [va_rf x0, va_rf x1, va_rf x2, va_rf x3, Value.int x4].toArray below meth c D cy A s.heap 14 (QMi below D cy A [va_rf x0, va_rf x1, va_rf x2, va_rf x3, Value.int x4] s mc ms (fun r S => bo r ∧ post r S)) S c0 n0 76 [(0, va_rf x0), (1, va_rf x1), (2, va_rf x2), (3, va_rf x3), (4, Value.int x4), (5, Value.long v5), (7, Value.int v7)] [] := by
    intro c0 n0 S v5 v7 h
    unfold w_L_areSound_b76 at h
    obtain ⟨hc00, hn00, h⟩ := h
    refine G_iload C (x := v7) 6 dL_areSound_76 rfl ?_
    refine G_if_eq C (tgt := 102) dL_areSound_78 (by decide) (fun hc => ?_) (fun hc => ?_)
    · have h := h.1 hc
      refine G_lv C (lv' := [(0, va_rf x0), (1, va_rf x1), (2, va_rf x2), (3, va_rf x3), (4, Value.int x4)]) [0, 1, 2, 3, 4] rfl ?_
      exact J102 _ _ _ h
    · have h := h.2 hc
      refine G_lload C (x := v5) 5 dL_areSound_81 rfl ?_
      refine G_lconst C (v := 0) dL_areSound_83 (by decide) ?_
      refine G_lcmp C dL_areSound_84 ?_
      refine G_if_ne C (tgt := 102) dL_areSound_85 (by decide) (fun hc => ?_) (fun hc => ?_)
      · have h := h.1 hc
        refine G_lv C (lv' := [(0, va_rf x0), (1, va_rf x1), (2, va_rf x2), (3, va_rf x3), (4, Value.int x4)]) [0, 1, 2, 3, 4] rfl ?_
        exact J102 _ _ _ h
      · have h := h.2 hc
        refine G_aload_n C (x := x0) 0 dL_areSound_88 rfl rfl ?_
        refine G_iconst C (v := 5) dL_areSound_89 (by decide) ?_
        obtain ⟨S286, M287, hv288, hd289, h⟩ := h
        obtain ⟨a291, ha292, h⟩ := h
        obtain ⟨hk293, h⟩ := h
        obtain ⟨m296, m297, hc298, hs299, h⟩ := h
        refine G_fxcalll C hZ hv288 hd289 (Tf := TX8) (N := 10) hk293 (by decide) rfl tw_2_21 tw_2_22 tw_2_23 tw_1_1 tw_2_24 hy_X8_money ⟨Nat.le_of_ble_eq_true rfl, Nat.le_of_ble_eq_true rfl⟩ (As := [Value.int 5]) (rest := []) (c_X8_money l hl  D cy a291 5 S286 m296 m297 _ _ h) rfl (by first | rfl | (simp only [ha292]; rfl) | simp only [ha292]) (by simp [va_cat, vi_cat, vl_cat]) dL_areSound_90 ⟨hc298, hs299⟩ (fun E S294 hd290 h => ?_) (fun r295 S294 hd290 h => ?_)
        · exact (h hd290).elim
        · replace h := h hd290
          refine G_lconst C (v := 0) dL_areSound_93 (by decide) ?_
          refine G_lcmp C dL_areSound_94 ?_
          refine G_if_lt C (tgt := 102) dL_areSound_95 (by decide) (fun hc => ?_) (fun hc => ?_)
          · have h := h.1 hc
            refine G_lv C (lv' := [(0, va_rf x0), (1, va_rf x1), (2, va_rf x2), (3, va_rf x3), (4, Value.int x4)]) [0, 1, 2, 3, 4] rfl ?_
            exact J102 _ _ _ h
          · have h := h.2 hc
            refine G_iconst C (v := 1) dL_areSound_98 (by decide) ?_
            refine G_goto C (tgt := 103) dL_areSound_99 (by decide) ?_
            refine G_lv C (lv' := [(0, va_rf x0), (1, va_rf x1), (2, va_rf x2), (3, va_rf x3), (4, Value.int x4)]) [0, 1, 2, 3, 4] rfl ?_
            exact J103 _ _ _ _ h
  have J9 : ∀ (n : Nat) (c0 n0 : Nat) (S : PT) (v5 : Int64) (v7 : Int32) (v8 : Int32), w_L_areSound_l9 x0 x1 x2 x3 x4 mc ms post n c0 n0 S v5 v7 v8 → G p l e { frames := 7, cells := mc, slots := ms, locals := 120 } s m [va_rf x0, va_rf x1, va_rf x2, va_rf x3, Value.int x4].toArray below meth c D cy A s.heap 14 (QMi below D cy A [va_rf x0, va_rf x1, va_rf x2, va_rf x3, Value.int x4] s mc ms (fun r S => bo r ∧ post r S)) S c0 n0 9 [(0, va_rf x0), (1, va_rf x1), (2, va_rf x2), (3, va_rf x3), (4, Value.int x4), (5, Value.long v5), (7, Value.int v7), (8, Value.int v8)] [] := by
    intro n9
    induction n9 with
    | zero => intro c0 n0 S v5 v7 v8 h; rw [w_L_areSound_l9] at h; exact False.elim h
    | succ n9 K9 =>
      have J68 : ∀ (c0 n0 : Nat) (S : PT) (v5 : Int64) (v8 : Int32) (s0 : Int32), w_L_areSound_b68 x0 x1 x2 x3 x4 mc ms post (w_L_areSound_l9 x0 x1 x2 x3 x4 mc ms post n9) c0 n0 S v5 v8 s0 → G p l e { frames := 7, cells := mc, slots := ms, locals := 120 } s m [va_rf x0, va_rf x1, va_rf x2, va_rf x3, Value.int x4].toArray below meth c D cy A s.heap 14 (QMi below D cy A [va_rf x0, va_rf x1, va_rf x2, va_rf x3, Value.int x4] s mc ms (fun r S => bo r ∧ post r S)) S c0 n0 68 [(0, va_rf x0), (1, va_rf x1), (2, va_rf x2), (3, va_rf x3), (4, Value.int x4), (5, Value.long v5), (8, Value.int v8)] [Value.int s0] := by
        intro c0 n0 S v5 v8 s0 h
        unfold w_L_areSound_b68 at h
        obtain ⟨hc00, hn00, h⟩ := h
        refine G_istore C (i := 7) (lv' := [(7, Value.int s0), (0, va_rf x0), (1, va_rf x1), (2, va_rf x2), (3, va_rf x3), (4, Value.int x4), (5, Value.long v5), (8, Value.int v8)]) dL_areSound_68 (by decide) (by first | rfl | simp [va_cat, vi_cat, vl_cat]) ?_
        refine G_iinc C (v := (v8 + 1)) (lv' := [(8, Value.int (v8 + 1)), (7, Value.int s0), (0, va_rf x0), (1, va_rf x1), (2, va_rf x2), (3, va_rf x3), (4, Value.int x4), (5, Value.long v5)]) 7 dL_areSound_70 rfl rfl (by decide) (by first | rfl | simp [va_cat, vi_cat, vl_cat]) ?_
        refine G_goto C (tgt := 9) dL_areSound_73 (by decide) ?_
        refine G_lv C (lv' := [(0, va_rf x0), (1, va_rf x1), (2, va_rf x2), (3, va_rf x3), (4, Value.int x4), (5, Value.long v5), (7, Value.int s0), (8, Value.int (v8 + 1))]) [2, 3, 4, 5, 6, 7, 1, 0] rfl ?_
        exact K9 _ _ _ _ _ _ h
      have J67 : ∀ (c0 n0 : Nat) (S : PT) (v5 : Int64) (v8 : Int32), w_L_areSound_b67 x0 x1 x2 x3 x4 mc ms post (w_L_areSound_l9 x0 x1 x2 x3 x4 mc ms post n9) c0 n0 S v5 v8 → G p l e { frames := 7, cells := mc, slots := ms, locals := 120 } s m [va_rf x0, va_rf x1, va_rf x2, va_rf x3, Value.int x4].toArray below meth c D cy A s.heap 14 (QMi below D cy A [va_rf x0, va_rf x1, va_rf x2, va_rf x3, Value.int x4] s mc ms (fun r S => bo r ∧ post r S)) S c0 n0 67 [(0, va_rf x0), (1, va_rf x1), (2, va_rf x2), (3, va_rf x3), (4, Value.int x4), (5, Value.long v5), (8, Value.int v8)] [] := by
        intro c0 n0 S v5 v8 h
        unfold w_L_areSound_b67 at h
        obtain ⟨hc00, hn00, h⟩ := h
        refine G_iconst C (v := 0) dL_areSound_67 (by decide) ?_
        refine G_lv C (lv' := [(0, va_rf x0), (1, va_rf x1), (2, va_rf x2), (3, va_rf x3), (4, Value.int x4), (5, Value.long v5), (8, Value.int v8)]) [0, 1, 2, 3, 4, 5, 6] rfl ?_
        exact J68 _ _ _ _ _ _ h
      have J63 : ∀ (c0 n0 : Nat) (S : PT) (v5 : Int64) (v8 : Int32), w_L_areSound_b63 x0 x1 x2 x3 x4 mc ms post (w_L_areSound_l9 x0 x1 x2 x3 x4 mc ms post n9) c0 n0 S v5 v8 → G p l e { frames := 7, cells := mc, slots := ms, locals := 120 } s m [va_rf x0, va_rf x1, va_rf x2, va_rf x3, Value.int x4].toArray below meth c D cy A s.heap 14 (QMi below D cy A [va_rf x0, va_rf x1, va_rf x2, va_rf x3, Value.int x4] s mc ms (fun r S => bo r ∧ post r S)) S c0 n0 63 [(0, va_rf x0), (1, va_rf x1), (2, va_rf x2), (3, va_rf x3), (4, Value.int x4), (5, Value.long v5), (8, Value.int v8)] [] := by
        intro c0 n0 S v5 v8 h
        unfold w_L_areSound_b63 at h
        obtain ⟨hc00, hn00, h⟩ := h
        refine G_iconst C (v := 1) dL_areSound_63 (by decide) ?_
        refine G_goto C (tgt := 68) dL_areSound_64 (by decide) ?_
        refine G_lv C (lv' := [(0, va_rf x0), (1, va_rf x1), (2, va_rf x2), (3, va_rf x3), (4, Value.int x4), (5, Value.long v5), (8, Value.int v8)]) [0, 1, 2, 3, 4, 5, 6] rfl ?_
        exact J68 _ _ _ _ _ _ h
      intro c0 n0 S v5 v7 v8 h
      rw [w_L_areSound_l9] at h
      obtain ⟨hc00, hn00, h⟩ := h
      refine G_iload C (x := v8) 7 dL_areSound_9 rfl ?_
      refine G_bipush C (v := 6) dL_areSound_11 (by decide) ?_
      refine G_icmp_ge C (tgt := 76) dL_areSound_13 (by decide) (fun hc => ?_) (fun hc => ?_)
      · have h := h.1 hc
        refine G_lv C (lv' := [(0, va_rf x0), (1, va_rf x1), (2, va_rf x2), (3, va_rf x3), (4, Value.int x4), (5, Value.long v5), (7, Value.int v7)]) [0, 1, 2, 3, 4, 5, 6] rfl ?_
        exact J76 _ _ _ _ _ h
      · have h := h.2 hc
        refine G_iload C (x := v7) 6 dL_areSound_16 rfl ?_
        refine G_if_eq C (tgt := 76) dL_areSound_18 (by decide) (fun hc => ?_) (fun hc => ?_)
        · have h := h.1 hc
          refine G_lv C (lv' := [(0, va_rf x0), (1, va_rf x1), (2, va_rf x2), (3, va_rf x3), (4, Value.int x4), (5, Value.long v5), (7, Value.int v7)]) [0, 1, 2, 3, 4, 5, 6] rfl ?_
          exact J76 _ _ _ _ _ h
        · have h := h.2 hc
          refine G_lload C (x := v5) 5 dL_areSound_21 rfl ?_
          refine G_aload_n C (x := x0) 0 dL_areSound_23 rfl rfl ?_
          refine G_iload C (x := v8) 7 dL_areSound_24 rfl ?_
          obtain ⟨S300, M301, hv302, hd303, h⟩ := h
          obtain ⟨a305, ha306, h⟩ := h
          obtain ⟨hk307, h⟩ := h
          obtain ⟨m310, m311, hc312, hs313, h⟩ := h
          refine G_fxcalll C hZ hv302 hd303 (Tf := TX8) (N := 10) hk307 (by decide) rfl tw_2_21 tw_2_22 tw_2_23 tw_1_1 tw_2_24 hy_X8_money ⟨Nat.le_of_ble_eq_true rfl, Nat.le_of_ble_eq_true rfl⟩ (As := [Value.int v8]) (rest := [Value.long v5]) (c_X8_money l hl  D cy a305 v8 S300 m310 m311 _ _ h) rfl (by first | rfl | (simp only [ha306]; rfl) | simp only [ha306]) (by simp [va_cat, vi_cat, vl_cat]) dL_areSound_26 ⟨hc312, hs313⟩ (fun E S308 hd304 h => ?_) (fun r309 S308 hd304 h => ?_)
          · exact (h hd304).elim
          · replace h := h hd304
            refine G_ladd C dL_areSound_29 ?_
            refine G_lstore C (i := 5) (lv' := [(5, Value.long (v5 + r309)), (0, va_rf x0), (1, va_rf x1), (2, va_rf x2), (3, va_rf x3), (4, Value.int x4), (7, Value.int v7), (8, Value.int v8)]) dL_areSound_30 (by decide) (by first | rfl | simp [va_cat, vi_cat, vl_cat]) ?_
            refine G_aload_n C (x := x0) 1 dL_areSound_32 rfl rfl ?_
            refine G_iload C (x := v8) 7 dL_areSound_33 rfl ?_
            obtain ⟨S314, M315, hv316, hd317, h⟩ := h
            obtain ⟨hk319, h⟩ := h
            obtain ⟨m322, m323, hc324, hs325, h⟩ := h
            refine G_fxcalll C hZ hv316 hd317 (Tf := TX8) (N := 10) hk319 (by decide) rfl tw_2_21 tw_2_22 tw_2_23 tw_1_1 tw_2_24 hy_X8_money ⟨Nat.le_of_ble_eq_true rfl, Nat.le_of_ble_eq_true rfl⟩ (As := [Value.int v8]) (rest := []) (c_X8_money l hl  D cy a305 v8 S314 m322 m323 _ _ h) rfl (by first | rfl | (simp only [ha306]; rfl) | simp only [ha306]) (by simp [va_cat, vi_cat, vl_cat]) dL_areSound_35 ⟨hc324, hs325⟩ (fun E S320 hd318 h => ?_) (fun r321 S320 hd318 h => ?_)
            · exact (h hd318).elim
            · replace h := h hd318
              refine G_aload_n C (x := x0) 1 dL_areSound_38 rfl rfl ?_
              refine G_iload C (x := v8) 7 dL_areSound_39 rfl ?_
              obtain ⟨S326, M327, hv328, hd329, h⟩ := h
              obtain ⟨hk331, h⟩ := h
              obtain ⟨m334, m335, hc336, hs337, h⟩ := h
              refine G_fxcalll C hZ hv328 hd329 (Tf := TX8) (N := 10) hk331 (by decide) rfl tw_4_166 tw_4_167 tw_4_168 tw_1_1 tw_4_169 hy_X8_moneyAnew ⟨Nat.le_of_ble_eq_true rfl, Nat.le_of_ble_eq_true rfl⟩ (As := [Value.int v8]) (rest := [Value.long r321]) (c_X8_moneyAnew l hl  D cy a305 v8 S326 m334 m335 _ _ h) rfl (by first | rfl | (simp only [ha306]; rfl) | simp only [ha306]) (by simp [va_cat, vi_cat, vl_cat]) dL_areSound_41 ⟨hc336, hs337⟩ (fun E S332 hd330 h => ?_) (fun r333 S332 hd330 h => ?_)
              · exact (h hd330).elim
              · replace h := h hd330
                refine G_lcmp C dL_areSound_44 ?_
                refine G_if_ne C (tgt := 67) dL_areSound_45 (by decide) (fun hc => ?_) (fun hc => ?_)
                · have h := h.1 hc
                  refine G_lv C (lv' := [(0, va_rf x0), (1, va_rf x1), (2, va_rf x2), (3, va_rf x3), (4, Value.int x4), (5, Value.long (v5 + r309)), (8, Value.int v8)]) [1, 2, 3, 4, 5, 0, 7] rfl ?_
                  exact J67 _ _ _ _ _ h
                · have h := h.2 hc
                  refine G_iload C (x := v8) 7 dL_areSound_48 rfl ?_
                  refine G_iconst C (v := 5) dL_areSound_50 (by decide) ?_
                  refine G_icmp_eq C (tgt := 63) dL_areSound_51 (by decide) (fun hc => ?_) (fun hc => ?_)
                  · have h := h.1 hc
                    refine G_lv C (lv' := [(0, va_rf x0), (1, va_rf x1), (2, va_rf x2), (3, va_rf x3), (4, Value.int x4), (5, Value.long (v5 + r309)), (8, Value.int v8)]) [1, 2, 3, 4, 5, 0, 7] rfl ?_
                    exact J63 _ _ _ _ _ h
                  · have h := h.2 hc
                    refine G_aload_n C (x := x0) 1 dL_areSound_54 rfl rfl ?_
                    refine G_iload C (x := v8) 7 dL_areSound_55 rfl ?_
                    obtain ⟨S338, M339, hv340, hd341, h⟩ := h
                    obtain ⟨hk343, h⟩ := h
                    obtain ⟨m346, m347, hc348, hs349, h⟩ := h
                    refine G_fxcalli C hZ hv340 hd341 (Tf := TX8) (N := 10) hk343 (by decide) rfl tw_4_160 tw_4_161 tw_4_162 tw_1_1 tw_4_163 hy_X8_due ⟨Nat.le_of_ble_eq_true rfl, Nat.le_of_ble_eq_true rfl⟩ (As := [Value.int v8]) (rest := []) (c_X8_due l hl  D cy a305 v8 S338 m346 m347 _ _ h) rfl (by first | rfl | (simp only [ha306]; rfl) | simp only [ha306]) (by simp [va_cat, vi_cat, vl_cat]) dL_areSound_57 ⟨hc348, hs349⟩ (fun E S344 hd342 h => ?_) (fun r345 S344 hd342 h => ?_)
                    · exact (h hd342).elim
                    · replace h := h hd342
                      refine G_if_lt C (tgt := 67) dL_areSound_60 (by decide) (fun hc => ?_) (fun hc => ?_)
                      · have h := h.1 hc
                        refine G_lv C (lv' := [(0, va_rf x0), (1, va_rf x1), (2, va_rf x2), (3, va_rf x3), (4, Value.int x4), (5, Value.long (v5 + r309)), (8, Value.int v8)]) [1, 2, 3, 4, 5, 0, 7] rfl ?_
                        exact J67 _ _ _ _ _ h
                      · have h := h.2 hc
                        refine G_lv C (lv' := [(0, va_rf x0), (1, va_rf x1), (2, va_rf x2), (3, va_rf x3), (4, Value.int x4), (5, Value.long (v5 + r309)), (8, Value.int v8)]) [1, 2, 3, 4, 5, 0, 7] rfl ?_
                        exact J63 _ _ _ _ _ h
  refine G_lv C (lv' := [(0, va_rf x0), (1, va_rf x1), (2, va_rf x2), (3, va_rf x3), (4, Value.int x4)]) [0, 1, 2, 3, 4] (by first | rfl | simp [lv_pick, lv_args, va_cat, vi_cat, vl_cat]) ?_
  unfold w_L_areSound at h
  refine G_lconst C (v := 0) dL_areSound_0 (by decide) ?_
  refine G_lstore C (i := 5) (lv' := [(5, Value.long 0), (0, va_rf x0), (1, va_rf x1), (2, va_rf x2), (3, va_rf x3), (4, Value.int x4)]) dL_areSound_1 (by decide) (by first | rfl | simp [va_cat, vi_cat, vl_cat]) ?_
  refine G_iconst C (v := 1) dL_areSound_3 (by decide) ?_
  refine G_istore C (i := 7) (lv' := [(7, Value.int 1), (5, Value.long 0), (0, va_rf x0), (1, va_rf x1), (2, va_rf x2), (3, va_rf x3), (4, Value.int x4)]) dL_areSound_4 (by decide) (by first | rfl | simp [va_cat, vi_cat, vl_cat]) ?_
  refine G_iconst C (v := 0) dL_areSound_6 (by decide) ?_
  refine G_istore C (i := 8) (lv' := [(8, Value.int 0), (7, Value.int 1), (5, Value.long 0), (0, va_rf x0), (1, va_rf x1), (2, va_rf x2), (3, va_rf x3), (4, Value.int x4)]) dL_areSound_7 (by decide) (by first | rfl | simp [va_cat, vi_cat, vl_cat]) ?_
  refine G_lv C (lv' := [(0, va_rf x0), (1, va_rf x1), (2, va_rf x2), (3, va_rf x3), (4, Value.int x4), (5, Value.long 0), (7, Value.int 1), (8, Value.int 0)]) [3, 4, 5, 6, 7, 2, 1, 0] rfl ?_
  obtain ⟨n9, h⟩ := h
  exact J9 n9 _ _ _ _ _ _ h
