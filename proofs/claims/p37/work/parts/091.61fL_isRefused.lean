set_option maxHeartbeats 4000000 in
set_option maxRecDepth 100000 in
theorem c_L_isRefused (l : Launch) (hl : l.stackTraces = false) (D : va_G) (cy : Nat → Nat) (e0 m0 : Nat) (he : e0 = cy 9) (hm : m0 = cy 10) (x0 : Option Nat) (x1 : Option Nat) (x2 : Option Nat) (x3 : Option Nat) (x4 : Int32) (S : PT) (mc ms : Nat) (post : Int32 → PT → Prop) (h : w_L_isRefused e0 m0 x0 x1 x2 x3 x4 S mc ms post) : Mi l yL_isRefused (Wm yL_isRefused method_8_code 15 (Option.some Jvm.ClassFile.FieldType.boolean)) 11 270 D cy [va_rf x0, va_rf x1, va_rf x2, va_rf x3, Value.int x4] S mc ms (fun r S => bo r ∧ post r S) := by
  refine Mi_of (own := "TrenchboardLaw") (by decide) rfl (by first | decide | simp [lg_sl, va_cat, vi_cat, vl_cat]) (fun p e s m below meth c A C hZ hr hin9 => ?_)
  have J1590 : ∀ (c0 n0 : Nat) (S : PT) (s0 : Int32), w_L_isRefused_b1590 e0 m0 x0 x1 x2 x3 x4 mc ms post c0 n0 S s0 → G p l e { frames := 11, cells := mc, slots := ms, locals := 270 } s m [va_rf x0, va_rf x1, va_rf x2, va_rf x3, Value.int x4].toArray below meth c D cy A s.heap 15 (QMi below D cy A [va_rf x0, va_rf x1, va_rf x2, va_rf x3, Value.int x4] s mc ms (fun r S => bo r ∧ post r S)) S c0 n0 1590 [] [Value.int s0] := by
    intro c0 n0 S s0 h
    unfold w_L_isRefused_b1590 at h
    obtain ⟨hc00, hn00, h⟩ := h
    obtain ⟨hb1, h⟩ := h
    exact G_zret C (mc := mc) (ms := ms) (post := (fun r S => bo r ∧ post r S)) (bo_nar hb1) hr hc00 hn00 dL_isRefused_1590 ⟨hb1, h⟩
  have J1589 : ∀ (c0 n0 : Nat) (S : PT), w_L_isRefused_b1589 e0 m0 x0 x1 x2 x3 x4 mc ms post c0 n0 S → G p l e { frames := 11, cells := mc, slots := ms, locals := 270 } s m [va_rf x0, va_rf x1, va_rf x2, va_rf x3, Value.int x4].toArray below meth c D cy A s.heap 15 (QMi below D cy A [va_rf x0, va_rf x1, va_rf x2, va_rf x3, Value.int x4] s mc ms (fun r S => bo r ∧ post r S)) S c0 n0 1589 [] [] := by
    intro c0 n0 S h
    unfold w_L_isRefused_b1589 at h
    obtain ⟨hc00, hn00, h⟩ := h
    refine G_iconst C (v := 0) dL_isRefused_1589 (by decide) ?_
    refine G_lv C (lv' := []) [] rfl ?_
    exact J1590 _ _ _ _ h
  have J1568 : ∀ (c0 n0 : Nat) (S : PT) (v10 : Int64) (v12 : Int32), w_L_isRefused_b1568 e0 m0 x0 x1 x2 x3 x4 mc ms post c0 n0 S v10 v12 → G p l e { frames := 11, cells := mc, slots := ms, locals := 270 } s m [va_rf x0, va_rf x1, va_rf x2, va_rf x3, Value.int x4].toArray below meth c D cy A s.heap 15 (QMi below D cy A [va_rf x0, va_rf x1, va_rf x2, va_rf x3, Value.int x4] s mc ms (fun r S => bo r ∧ post r S)) S c0 n0 1568 [(0, va_rf x0), (1, va_rf x1), (2, va_rf x2), (10, Value.long v10), (12, Value.int v12)] [] := by
    intro c0 n0 S v10 v12 h
    unfold w_L_isRefused_b1568 at h
    obtain ⟨hc00, hn00, h⟩ := h
    refine G_iload C (x := v12) 4 dL_isRefused_1568 rfl ?_
    refine G_if_eq C (tgt := 1589) dL_isRefused_1570 (by decide) (fun hc => ?_) (fun hc => ?_)
    · have h := h.1 hc
      refine G_lv C (lv' := []) [] rfl ?_
      exact J1589 _ _ _ h
    · have h := h.2 hc
      refine G_aload_n C (x := x0) 0 dL_isRefused_1573 rfl rfl ?_
      refine G_aload_n C (x := x1) 1 dL_isRefused_1574 rfl rfl ?_
      refine G_aload_n C (x := x2) 2 dL_isRefused_1575 rfl rfl ?_
      obtain ⟨m4, m5, hc6, hs7, h⟩ := h
      refine G_callSl C hZ tw_4_180 tw_4_181 tw_1_0 tw_4_182 hy_L_all ⟨Nat.le_of_ble_eq_true rfl, Nat.le_of_ble_eq_true rfl⟩ (As := [va_rf x0, va_rf x1, va_rf x2]) (rest := []) (c_L_all l hl D cy x0 x1 x2 S m4 m5 _ h) rfl rfl (by simp [va_cat, vi_cat, vl_cat]) dL_isRefused_1576 ⟨hc6, hs7⟩ (fun r3 S2 h => ?_)
      refine G_lload C (x := v10) 3 dL_isRefused_1579 rfl ?_
      refine G_lcmp C dL_isRefused_1581 ?_
      refine G_if_ne C (tgt := 1589) dL_isRefused_1582 (by decide) (fun hc => ?_) (fun hc => ?_)
      · have h := h.1 hc
        refine G_lv C (lv' := []) [] rfl ?_
        exact J1589 _ _ _ h
      · have h := h.2 hc
        refine G_iconst C (v := 1) dL_isRefused_1585 (by decide) ?_
        refine G_goto C (tgt := 1590) dL_isRefused_1586 (by decide) ?_
        refine G_lv C (lv' := []) [] rfl ?_
        exact J1590 _ _ _ _ h
  have J1566 : ∀ (c0 n0 : Nat) (S : PT) (v10 : Int64) (s0 : Int32), w_L_isRefused_b1566 e0 m0 x0 x1 x2 x3 x4 mc ms post c0 n0 S v10 s0 → G p l e { frames := 11, cells := mc, slots := ms, locals := 270 } s m [va_rf x0, va_rf x1, va_rf x2, va_rf x3, Value.int x4].toArray below meth c D cy A s.heap 15 (QMi below D cy A [va_rf x0, va_rf x1, va_rf x2, va_rf x3, Value.int x4] s mc ms (fun r S => bo r ∧ post r S)) S c0 n0 1566 [(0, va_rf x0), (1, va_rf x1), (2, va_rf x2), (10, Value.long v10)] [Value.int s0] := by
    intro c0 n0 S v10 s0 h
    unfold w_L_isRefused_b1566 at h
    obtain ⟨hc00, hn00, h⟩ := h
    refine G_istore C (i := 12) (lv' := [(12, Value.int s0), (0, va_rf x0), (1, va_rf x1), (2, va_rf x2), (10, Value.long v10)]) dL_isRefused_1566 (by decide) (by first | rfl | simp [va_cat, vi_cat, vl_cat]) ?_
    refine G_lv C (lv' := [(0, va_rf x0), (1, va_rf x1), (2, va_rf x2), (10, Value.long v10), (12, Value.int s0)]) [1, 2, 3, 4, 0] rfl ?_
    exact J1568 _ _ _ _ _ h
  have J1565 : ∀ (c0 n0 : Nat) (S : PT) (v10 : Int64), w_L_isRefused_b1565 e0 m0 x0 x1 x2 x3 x4 mc ms post c0 n0 S v10 → G p l e { frames := 11, cells := mc, slots := ms, locals := 270 } s m [va_rf x0, va_rf x1, va_rf x2, va_rf x3, Value.int x4].toArray below meth c D cy A s.heap 15 (QMi below D cy A [va_rf x0, va_rf x1, va_rf x2, va_rf x3, Value.int x4] s mc ms (fun r S => bo r ∧ post r S)) S c0 n0 1565 [(0, va_rf x0), (1, va_rf x1), (2, va_rf x2), (10, Value.long v10)] [] := by
    intro c0 n0 S v10 h
    unfold w_L_isRefused_b1565 at h
    obtain ⟨hc00, hn00, h⟩ := h
    refine G_iconst C (v := 0) dL_isRefused_1565 (by decide) ?_
    refine G_lv C (lv' := [(0, va_rf x0), (1, va_rf x1), (2, va_rf x2), (10, Value.long v10)]) [0, 1, 2, 3] rfl ?_
    exact J1566 _ _ _ _ _ h
  have J1552 : ∀ (c0 n0 : Nat) (S : PT) (v10 : Int64) (s0 : Option Nat) (s1 : Int32) (s2 : Int32) (s3 : Int32), w_L_isRefused_b1552 e0 m0 x0 x1 x2 x3 x4 mc ms post c0 n0 S v10 s0 s1 s2 s3 → G p l e { frames := 11, cells := mc, slots := ms, locals := 270 } s m [va_rf x0, va_rf x1, va_rf x2, va_rf x3, Value.int x4].toArray below meth c D cy A s.heap 15 (QMi below D cy A [va_rf x0, va_rf x1, va_rf x2, va_rf x3, Value.int x4] s mc ms (fun r S => bo r ∧ post r S)) S c0 n0 1552 [(0, va_rf x0), (1, va_rf x1), (2, va_rf x2), (10, Value.long v10)] [Value.int s3, Value.int s2, Value.int s1, va_rf s0] := by
    intro c0 n0 S v10 s0 s1 s2 s3 h
    unfold w_L_isRefused_b1552 at h
    obtain ⟨hc00, hn00, h⟩ := h
    refine G_iconst C (v := 0) dL_isRefused_1552 (by decide) ?_
    refine G_iconst C (v := 0) dL_isRefused_1553 (by decide) ?_
    refine G_iconst C (v := 0) dL_isRefused_1554 (by decide) ?_
    obtain ⟨m10, m11, hc12, hs13, h⟩ := h
    refine G_callSi C hZ tw_4_186 tw_4_187 tw_1_0 tw_4_188 hy_L_off ⟨Nat.le_of_ble_eq_true rfl, Nat.le_of_ble_eq_true rfl⟩ (As := [va_rf s0, Value.int s1, Value.int s2, Value.int s3, Value.int 0, Value.int 0, Value.int 0]) (rest := []) (c_L_off l hl D cy e0 m0 he hm s0 s1 s2 s3 0 0 0 S m10 m11 _ h) rfl rfl (by simp [va_cat, vi_cat, vl_cat]) dL_isRefused_1555 ⟨hc12, hs13⟩ (fun r9 S8 h => ?_)
    obtain ⟨hb14, h⟩ := h
    refine G_if_eq C (tgt := 1565) dL_isRefused_1558 (by decide) (fun hc => ?_) (fun hc => ?_)
    · have h := h.1 hc
      refine G_lv C (lv' := [(0, va_rf x0), (1, va_rf x1), (2, va_rf x2), (10, Value.long v10)]) [0, 1, 2, 3] rfl ?_
      exact J1565 _ _ _ _ h
    · have h := h.2 hc
      refine G_iconst C (v := 1) dL_isRefused_1561 (by decide) ?_
      refine G_goto C (tgt := 1566) dL_isRefused_1562 (by decide) ?_
      refine G_lv C (lv' := [(0, va_rf x0), (1, va_rf x1), (2, va_rf x2), (10, Value.long v10)]) [0, 1, 2, 3] rfl ?_
      exact J1566 _ _ _ _ _ h
  have J1501 : ∀ (c0 n0 : Nat) (S : PT) (v5 : Int32) (v10 : Int64) (v13 : Int32) (s0 : Option Nat) (s1 : Int32) (s2 : Int32) (s3 : Int32) (s4 : Int32), w_L_isRefused_b1501 e0 m0 x0 x1 x2 x3 x4 mc ms post c0 n0 S v5 v10 v13 s0 s1 s2 s3 s4 → G p l e { frames := 11, cells := mc, slots := ms, locals := 270 } s m [va_rf x0, va_rf x1, va_rf x2, va_rf x3, Value.int x4].toArray below meth c D cy A s.heap 15 (QMi below D cy A [va_rf x0, va_rf x1, va_rf x2, va_rf x3, Value.int x4] s mc ms (fun r S => bo r ∧ post r S)) S c0 n0 1501 [(0, va_rf x0), (1, va_rf x1), (2, va_rf x2), (4, Value.int x4), (5, Value.int v5), (10, Value.long v10), (13, Value.int v13)] [Value.int s4, Value.int s3, Value.int s2, Value.int s1, va_rf s0] := by
    intro c0 n0 S v5 v10 v13 s0 s1 s2 s3 s4 h
    unfold w_L_isRefused_b1501 at h
    obtain ⟨hc00, hn00, h⟩ := h
    refine G_iconst C (v := 0) dL_isRefused_1501 (by decide) ?_
    refine G_iconst C (v := 0) dL_isRefused_1502 (by decide) ?_
    obtain ⟨m17, m18, hc19, hs20, h⟩ := h
    refine G_callSi C hZ tw_4_186 tw_4_187 tw_1_0 tw_4_188 hy_L_off ⟨Nat.le_of_ble_eq_true rfl, Nat.le_of_ble_eq_true rfl⟩ (As := [va_rf s0, Value.int s1, Value.int s2, Value.int s3, Value.int s4, Value.int 0, Value.int 0]) (rest := []) (c_L_off l hl D cy e0 m0 he hm s0 s1 s2 s3 s4 0 0 S m17 m18 _ h) rfl rfl (by simp [va_cat, vi_cat, vl_cat]) dL_isRefused_1503 ⟨hc19, hs20⟩ (fun r16 S15 h => ?_)
    obtain ⟨hb21, h⟩ := h
    refine G_if_eq C (tgt := 1565) dL_isRefused_1506 (by decide) (fun hc => ?_) (fun hc => ?_)
    · have h := h.1 hc
      refine G_lv C (lv' := [(0, va_rf x0), (1, va_rf x1), (2, va_rf x2), (10, Value.long v10)]) [0, 1, 2, 5] rfl ?_
      exact J1565 _ _ _ _ h
    · have h := h.2 hc
      refine G_aload_n C (x := x0) 0 dL_isRefused_1509 rfl rfl ?_
      refine G_bipush C (v := 25) dL_isRefused_1510 (by decide) ?_
      refine G_iload C (x := v13) 6 dL_isRefused_1512 rfl ?_
      refine G_iconst C (v := (-1)) dL_isRefused_1514 (by decide) ?_
      refine G_iload C (x := x4) 3 dL_isRefused_1515 rfl ?_
      refine G_bipush C (v := 30) dL_isRefused_1517 (by decide) ?_
      refine G_irem C dL_isRefused_1519 (by decide) ?_
      refine G_isub C dL_isRefused_1520 ?_
      refine G_iconst C (v := 0) dL_isRefused_1521 (by decide) ?_
      refine G_iconst C (v := 0) dL_isRefused_1522 (by decide) ?_
      refine G_iconst C (v := 0) dL_isRefused_1523 (by decide) ?_
      obtain ⟨m24, m25, hc26, hs27, h⟩ := h
      refine G_callSi C hZ tw_4_186 tw_4_187 tw_1_0 tw_4_188 hy_L_off ⟨Nat.le_of_ble_eq_true rfl, Nat.le_of_ble_eq_true rfl⟩ (As := [va_rf x0, Value.int 25, Value.int v13, Value.int ((-1) - (x4 - x4 / 30 * 30)), Value.int 0, Value.int 0, Value.int 0]) (rest := []) (c_L_off l hl D cy e0 m0 he hm x0 25 v13 ((-1) - (x4 - x4 / 30 * 30)) 0 0 0 S15 m24 m25 _ h) rfl rfl (by simp [va_cat, vi_cat, vl_cat]) dL_isRefused_1524 ⟨hc26, hs27⟩ (fun r23 S22 h => ?_)
      obtain ⟨hb28, h⟩ := h
      refine G_if_eq C (tgt := 1565) dL_isRefused_1527 (by decide) (fun hc => ?_) (fun hc => ?_)
      · have h := h.1 hc
        refine G_lv C (lv' := [(0, va_rf x0), (1, va_rf x1), (2, va_rf x2), (10, Value.long v10)]) [0, 1, 2, 5] rfl ?_
        exact J1565 _ _ _ _ h
      · have h := h.2 hc
        refine G_aload_n C (x := x0) 0 dL_isRefused_1530 rfl rfl ?_
        refine G_bipush C (v := 26) dL_isRefused_1531 (by decide) ?_
        refine G_iload C (x := v13) 6 dL_isRefused_1533 rfl ?_
        refine G_iload C (x := v5) 4 dL_isRefused_1535 rfl ?_
        refine G_if_eq C (tgt := 1550) dL_isRefused_1537 (by decide) (fun hc => ?_) (fun hc => ?_)
        · have h := h.1 hc
          refine G_bipush C (v := 8) dL_isRefused_1550 (by decide) ?_
          refine G_lv C (lv' := [(0, va_rf x0), (1, va_rf x1), (2, va_rf x2), (10, Value.long v10)]) [0, 1, 2, 5] rfl ?_
          exact J1552 _ _ _ _ _ _ _ _ h
        · have h := h.2 hc
          refine G_iconst C (v := (-1)) dL_isRefused_1540 (by decide) ?_
          refine G_iload C (x := x4) 3 dL_isRefused_1541 rfl ?_
          refine G_bipush C (v := 30) dL_isRefused_1543 (by decide) ?_
          refine G_irem C dL_isRefused_1545 (by decide) ?_
          refine G_isub C dL_isRefused_1546 ?_
          refine G_goto C (tgt := 1552) dL_isRefused_1547 (by decide) ?_
          refine G_lv C (lv' := [(0, va_rf x0), (1, va_rf x1), (2, va_rf x2), (10, Value.long v10)]) [0, 1, 2, 5] rfl ?_
          exact J1552 _ _ _ _ _ _ _ _ h
  have J1462 : ∀ (c0 n0 : Nat) (S : PT) (v5 : Int32) (v10 : Int64) (v13 : Int32) (s0 : Option Nat) (s1 : Int32) (s2 : Int32) (s3 : Int32), w_L_isRefused_b1462 e0 m0 x0 x1 x2 x3 x4 mc ms post c0 n0 S v5 v10 v13 s0 s1 s2 s3 → G p l e { frames := 11, cells := mc, slots := ms, locals := 270 } s m [va_rf x0, va_rf x1, va_rf x2, va_rf x3, Value.int x4].toArray below meth c D cy A s.heap 15 (QMi below D cy A [va_rf x0, va_rf x1, va_rf x2, va_rf x3, Value.int x4] s mc ms (fun r S => bo r ∧ post r S)) S c0 n0 1462 [(0, va_rf x0), (1, va_rf x1), (2, va_rf x2), (3, va_rf x3), (4, Value.int x4), (5, Value.int v5), (10, Value.long v10), (13, Value.int v13)] [Value.int s3, Value.int s2, Value.int s1, va_rf s0] := by
    intro c0 n0 S v5 v10 v13 s0 s1 s2 s3 h
    unfold w_L_isRefused_b1462 at h
    obtain ⟨hc00, hn00, h⟩ := h
    refine G_sipush C (v := 999) dL_isRefused_1462 (by decide) ?_
    obtain ⟨m31, m32, hc33, hs34, h⟩ := h
    refine G_callSi C hZ tw_4_189 tw_4_190 tw_1_0 tw_4_191 hy_L_no ⟨Nat.le_of_ble_eq_true rfl, Nat.le_of_ble_eq_true rfl⟩ (As := [va_rf s0, Value.int s1, Value.int s2, Value.int s3, Value.int 999]) (rest := []) (c_L_no l hl D cy e0 m0 he hm s0 s1 s2 s3 999 S m31 m32 _ h) rfl rfl (by simp [va_cat, vi_cat, vl_cat]) dL_isRefused_1465 ⟨hc33, hs34⟩ (fun r30 S29 h => ?_)
    obtain ⟨hb35, h⟩ := h
    refine G_if_eq C (tgt := 1565) dL_isRefused_1468 (by decide) (fun hc => ?_) (fun hc => ?_)
    · have h := h.1 hc
      refine G_lv C (lv' := [(0, va_rf x0), (1, va_rf x1), (2, va_rf x2), (10, Value.long v10)]) [0, 1, 2, 6] rfl ?_
      exact J1565 _ _ _ _ h
    · have h := h.2 hc
      refine G_aload_n C (x := x0) 0 dL_isRefused_1471 rfl rfl ?_
      refine G_bipush C (v := 15) dL_isRefused_1472 (by decide) ?_
      refine G_iload C (x := v13) 7 dL_isRefused_1474 rfl ?_
      refine G_aload_n C (x := x3) 3 dL_isRefused_1476 rfl rfl ?_
      refine G_iconst C (v := 4) dL_isRefused_1477 (by decide) ?_
      refine G_iload C (x := v13) 7 dL_isRefused_1478 rfl ?_
      refine G_imul C dL_isRefused_1480 ?_
      refine G_iconst C (v := 1) dL_isRefused_1481 (by decide) ?_
      refine G_iadd C dL_isRefused_1482 ?_
      obtain ⟨a36, ha37, h⟩ := h
      refine G_rf1 ha37 ?_
      obtain ⟨hk38, h⟩ := h
      obtain ⟨hi39, h⟩ := h
      refine G_iald C hk38 hi39 dL_isRefused_1483 ?_
      refine G_iload C (x := v5) 5 dL_isRefused_1484 rfl ?_
      refine G_if_eq C (tgt := 1499) dL_isRefused_1486 (by decide) (fun hc => ?_) (fun hc => ?_)
      · have h := h.1 hc
        refine G_bipush C (v := 101) dL_isRefused_1499 (by decide) ?_
        refine G_lv C (lv' := [(0, va_rf x0), (1, va_rf x1), (2, va_rf x2), (4, Value.int x4), (5, Value.int v5), (10, Value.long v10), (13, Value.int v13)]) [0, 1, 2, 4, 5, 6, 7] rfl ?_
        exact J1501 _ _ _ _ _ _ _ _ _ _ _ h
      · have h := h.2 hc
        refine G_iconst C (v := (-1)) dL_isRefused_1489 (by decide) ?_
        refine G_iload C (x := x4) 4 dL_isRefused_1490 rfl ?_
        refine G_bipush C (v := 30) dL_isRefused_1492 (by decide) ?_
        refine G_irem C dL_isRefused_1494 (by decide) ?_
        refine G_isub C dL_isRefused_1495 ?_
        refine G_goto C (tgt := 1501) dL_isRefused_1496 (by decide) ?_
        refine G_lv C (lv' := [(0, va_rf x0), (1, va_rf x1), (2, va_rf x2), (4, Value.int x4), (5, Value.int v5), (10, Value.long v10), (13, Value.int v13)]) [0, 1, 2, 4, 5, 6, 7] rfl ?_
        exact J1501 _ _ _ _ _ _ _ _ _ _ _ h
  have J1422 : ∀ (c0 n0 : Nat) (S : PT) (v5 : Int32) (v10 : Int64) (v13 : Int32) (s0 : Option Nat) (s1 : Int32) (s2 : Int32) (s3 : Int32), w_L_isRefused_b1422 e0 m0 x0 x1 x2 x3 x4 mc ms post c0 n0 S v5 v10 v13 s0 s1 s2 s3 → G p l e { frames := 11, cells := mc, slots := ms, locals := 270 } s m [va_rf x0, va_rf x1, va_rf x2, va_rf x3, Value.int x4].toArray below meth c D cy A s.heap 15 (QMi below D cy A [va_rf x0, va_rf x1, va_rf x2, va_rf x3, Value.int x4] s mc ms (fun r S => bo r ∧ post r S)) S c0 n0 1422 [(0, va_rf x0), (1, va_rf x1), (2, va_rf x2), (3, va_rf x3), (4, Value.int x4), (5, Value.int v5), (10, Value.long v10), (13, Value.int v13)] [Value.int s3, Value.int s2, Value.int s1, va_rf s0] := by
    intro c0 n0 S v5 v10 v13 s0 s1 s2 s3 h
    unfold w_L_isRefused_b1422 at h
    obtain ⟨hc00, hn00, h⟩ := h
    refine G_iconst C (v := 0) dL_isRefused_1422 (by decide) ?_
    obtain ⟨m42, m43, hc44, hs45, h⟩ := h
    refine G_callSi C hZ tw_4_189 tw_4_190 tw_1_0 tw_4_191 hy_L_no ⟨Nat.le_of_ble_eq_true rfl, Nat.le_of_ble_eq_true rfl⟩ (As := [va_rf s0, Value.int s1, Value.int s2, Value.int s3, Value.int 0]) (rest := []) (c_L_no l hl D cy e0 m0 he hm s0 s1 s2 s3 0 S m42 m43 _ h) rfl rfl (by simp [va_cat, vi_cat, vl_cat]) dL_isRefused_1423 ⟨hc44, hs45⟩ (fun r41 S40 h => ?_)
    obtain ⟨hb46, h⟩ := h
    refine G_if_eq C (tgt := 1565) dL_isRefused_1426 (by decide) (fun hc => ?_) (fun hc => ?_)
    · have h := h.1 hc
      refine G_lv C (lv' := [(0, va_rf x0), (1, va_rf x1), (2, va_rf x2), (10, Value.long v10)]) [0, 1, 2, 6] rfl ?_
      exact J1565 _ _ _ _ h
    · have h := h.2 hc
      refine G_aload_n C (x := x0) 0 dL_isRefused_1429 rfl rfl ?_
      refine G_bipush C (v := 15) dL_isRefused_1430 (by decide) ?_
      refine G_iload C (x := v13) 7 dL_isRefused_1432 rfl ?_
      refine G_iload C (x := v5) 5 dL_isRefused_1434 rfl ?_
      refine G_if_eq C (tgt := 1452) dL_isRefused_1436 (by decide) (fun hc => ?_) (fun hc => ?_)
      · have h := h.1 hc
        refine G_aload_n C (x := x3) 3 dL_isRefused_1452 rfl rfl ?_
        refine G_iconst C (v := 4) dL_isRefused_1453 (by decide) ?_
        refine G_iload C (x := v13) 7 dL_isRefused_1454 rfl ?_
        refine G_imul C dL_isRefused_1456 ?_
        refine G_iconst C (v := 2) dL_isRefused_1457 (by decide) ?_
        refine G_iadd C dL_isRefused_1458 ?_
        obtain ⟨a47, ha48, h⟩ := h
        refine G_rf1 ha48 ?_
        obtain ⟨hk49, h⟩ := h
        obtain ⟨hi50, h⟩ := h
        refine G_iald C hk49 hi50 dL_isRefused_1459 ?_
        refine G_iconst C (v := 1) dL_isRefused_1460 (by decide) ?_
        refine G_iadd C dL_isRefused_1461 ?_
        refine G_lv C (lv' := [(0, va_rf x0), (1, va_rf x1), (2, va_rf x2), (3, va_rf x3), (4, Value.int x4), (5, Value.int v5), (10, Value.long v10), (13, Value.int v13)]) [0, 1, 2, 3, 4, 5, 6, 7] rfl ?_
        exact J1462 _ _ _ _ _ _ _ _ _ _ h
      · have h := h.2 hc
        refine G_aload_n C (x := x3) 3 dL_isRefused_1439 rfl rfl ?_
        refine G_iconst C (v := 4) dL_isRefused_1440 (by decide) ?_
        refine G_iload C (x := v13) 7 dL_isRefused_1441 rfl ?_
        refine G_imul C dL_isRefused_1443 ?_
        refine G_iconst C (v := 1) dL_isRefused_1444 (by decide) ?_
        refine G_iadd C dL_isRefused_1445 ?_
        obtain ⟨a51, ha52, h⟩ := h
        refine G_rf1 ha52 ?_
        obtain ⟨hk53, h⟩ := h
        obtain ⟨hi54, h⟩ := h
        refine G_iald C hk53 hi54 dL_isRefused_1446 ?_
        refine G_iconst C (v := 1) dL_isRefused_1447 (by decide) ?_
        refine G_isub C dL_isRefused_1448 ?_
        refine G_goto C (tgt := 1462) dL_isRefused_1449 (by decide) ?_
        refine G_lv C (lv' := [(0, va_rf x0), (1, va_rf x1), (2, va_rf x2), (3, va_rf x3), (4, Value.int x4), (5, Value.int v5), (10, Value.long v10), (13, Value.int v13)]) [0, 1, 2, 3, 4, 5, 6, 7] rfl ?_
        exact J1462 _ _ _ _ _ _ _ _ _ _ h
  have J1350 : ∀ (c0 n0 : Nat) (S : PT) (v5 : Int32) (v8 : Int32) (v10 : Int64) (v13 : Int32) (s0 : Option Nat) (s1 : Int32) (s2 : Int32) (s3 : Int32), w_L_isRefused_b1350 e0 m0 x0 x1 x2 x3 x4 mc ms post c0 n0 S v5 v8 v10 v13 s0 s1 s2 s3 → G p l e { frames := 11, cells := mc, slots := ms, locals := 270 } s m [va_rf x0, va_rf x1, va_rf x2, va_rf x3, Value.int x4].toArray below meth c D cy A s.heap 15 (QMi below D cy A [va_rf x0, va_rf x1, va_rf x2, va_rf x3, Value.int x4] s mc ms (fun r S => bo r ∧ post r S)) S c0 n0 1350 [(0, va_rf x0), (1, va_rf x1), (2, va_rf x2), (3, va_rf x3), (4, Value.int x4), (5, Value.int v5), (8, Value.int v8), (10, Value.long v10), (13, Value.int v13)] [Value.int s3, Value.int s2, Value.int s1, va_rf s0] := by
    intro c0 n0 S v5 v8 v10 v13 s0 s1 s2 s3 h
    unfold w_L_isRefused_b1350 at h
    obtain ⟨hc00, hn00, h⟩ := h
    refine G_iconst C (v := 0) dL_isRefused_1350 (by decide) ?_
    refine G_iconst C (v := 0) dL_isRefused_1351 (by decide) ?_
    refine G_iconst C (v := 0) dL_isRefused_1352 (by decide) ?_
    obtain ⟨m57, m58, hc59, hs60, h⟩ := h
    refine G_callSi C hZ tw_4_186 tw_4_187 tw_1_0 tw_4_188 hy_L_off ⟨Nat.le_of_ble_eq_true rfl, Nat.le_of_ble_eq_true rfl⟩ (As := [va_rf s0, Value.int s1, Value.int s2, Value.int s3, Value.int 0, Value.int 0, Value.int 0]) (rest := []) (c_L_off l hl D cy e0 m0 he hm s0 s1 s2 s3 0 0 0 S m57 m58 _ h) rfl rfl (by simp [va_cat, vi_cat, vl_cat]) dL_isRefused_1353 ⟨hc59, hs60⟩ (fun r56 S55 h => ?_)
    obtain ⟨hb61, h⟩ := h
    refine G_if_eq C (tgt := 1565) dL_isRefused_1356 (by decide) (fun hc => ?_) (fun hc => ?_)
    · have h := h.1 hc
      refine G_lv C (lv' := [(0, va_rf x0), (1, va_rf x1), (2, va_rf x2), (10, Value.long v10)]) [0, 1, 2, 7] rfl ?_
      exact J1565 _ _ _ _ h
    · have h := h.2 hc
      refine G_aload_n C (x := x0) 0 dL_isRefused_1359 rfl rfl ?_
      refine G_bipush C (v := 12) dL_isRefused_1360 (by decide) ?_
      refine G_iload C (x := v13) 8 dL_isRefused_1362 rfl ?_
      refine G_iload C (x := v8) 6 dL_isRefused_1364 rfl ?_
      refine G_iconst C (v := 0) dL_isRefused_1366 (by decide) ?_
      obtain ⟨m64, m65, hc66, hs67, h⟩ := h
      refine G_callSi C hZ tw_4_189 tw_4_190 tw_1_0 tw_4_191 hy_L_no ⟨Nat.le_of_ble_eq_true rfl, Nat.le_of_ble_eq_true rfl⟩ (As := [va_rf x0, Value.int 12, Value.int v13, Value.int v8, Value.int 0]) (rest := []) (c_L_no l hl D cy e0 m0 he hm x0 12 v13 v8 0 S55 m64 m65 _ h) rfl rfl (by simp [va_cat, vi_cat, vl_cat]) dL_isRefused_1367 ⟨hc66, hs67⟩ (fun r63 S62 h => ?_)
      obtain ⟨hb68, h⟩ := h
      refine G_if_eq C (tgt := 1565) dL_isRefused_1370 (by decide) (fun hc => ?_) (fun hc => ?_)
      · have h := h.1 hc
        refine G_lv C (lv' := [(0, va_rf x0), (1, va_rf x1), (2, va_rf x2), (10, Value.long v10)]) [0, 1, 2, 7] rfl ?_
        exact J1565 _ _ _ _ h
      · have h := h.2 hc
        refine G_aload_n C (x := x0) 0 dL_isRefused_1373 rfl rfl ?_
        refine G_bipush C (v := 12) dL_isRefused_1374 (by decide) ?_
        refine G_iload C (x := v13) 8 dL_isRefused_1376 rfl ?_
        refine G_iload C (x := v13) 8 dL_isRefused_1378 rfl ?_
        refine G_iconst C (v := 0) dL_isRefused_1380 (by decide) ?_
        refine G_iconst C (v := 0) dL_isRefused_1381 (by decide) ?_
        refine G_iconst C (v := 0) dL_isRefused_1382 (by decide) ?_
        obtain ⟨m71, m72, hc73, hs74, h⟩ := h
        refine G_callSi C hZ tw_4_186 tw_4_187 tw_1_0 tw_4_188 hy_L_off ⟨Nat.le_of_ble_eq_true rfl, Nat.le_of_ble_eq_true rfl⟩ (As := [va_rf x0, Value.int 12, Value.int v13, Value.int v13, Value.int 0, Value.int 0, Value.int 0]) (rest := []) (c_L_off l hl D cy e0 m0 he hm x0 12 v13 v13 0 0 0 S62 m71 m72 _ h) rfl rfl (by simp [va_cat, vi_cat, vl_cat]) dL_isRefused_1383 ⟨hc73, hs74⟩ (fun r70 S69 h => ?_)
        obtain ⟨hb75, h⟩ := h
        refine G_if_eq C (tgt := 1565) dL_isRefused_1386 (by decide) (fun hc => ?_) (fun hc => ?_)
        · have h := h.1 hc
          refine G_lv C (lv' := [(0, va_rf x0), (1, va_rf x1), (2, va_rf x2), (10, Value.long v10)]) [0, 1, 2, 7] rfl ?_
          exact J1565 _ _ _ _ h
        · have h := h.2 hc
          refine G_aload_n C (x := x0) 0 dL_isRefused_1389 rfl rfl ?_
          refine G_bipush C (v := 14) dL_isRefused_1390 (by decide) ?_
          refine G_iload C (x := v13) 8 dL_isRefused_1392 rfl ?_
          refine G_iload C (x := v5) 5 dL_isRefused_1394 rfl ?_
          refine G_if_eq C (tgt := 1412) dL_isRefused_1396 (by decide) (fun hc => ?_) (fun hc => ?_)
          · have h := h.1 hc
            refine G_aload_n C (x := x3) 3 dL_isRefused_1412 rfl rfl ?_
            refine G_iconst C (v := 4) dL_isRefused_1413 (by decide) ?_
            refine G_iload C (x := v13) 8 dL_isRefused_1414 rfl ?_
            refine G_imul C dL_isRefused_1416 ?_
            refine G_iconst C (v := 2) dL_isRefused_1417 (by decide) ?_
            refine G_iadd C dL_isRefused_1418 ?_
            obtain ⟨a76, ha77, h⟩ := h
            refine G_rf1 ha77 ?_
            obtain ⟨hk78, h⟩ := h
            obtain ⟨hi79, h⟩ := h
            refine G_iald C hk78 hi79 dL_isRefused_1419 ?_
            refine G_iconst C (v := 1) dL_isRefused_1420 (by decide) ?_
            refine G_iadd C dL_isRefused_1421 ?_
            refine G_lv C (lv' := [(0, va_rf x0), (1, va_rf x1), (2, va_rf x2), (3, va_rf x3), (4, Value.int x4), (5, Value.int v5), (10, Value.long v10), (13, Value.int v13)]) [0, 1, 2, 3, 4, 5, 7, 8] rfl ?_
            exact J1422 _ _ _ _ _ _ _ _ _ _ h
          · have h := h.2 hc
            refine G_aload_n C (x := x3) 3 dL_isRefused_1399 rfl rfl ?_
            refine G_iconst C (v := 4) dL_isRefused_1400 (by decide) ?_
            refine G_iload C (x := v13) 8 dL_isRefused_1401 rfl ?_
            refine G_imul C dL_isRefused_1403 ?_
            refine G_iconst C (v := 1) dL_isRefused_1404 (by decide) ?_
            refine G_iadd C dL_isRefused_1405 ?_
            obtain ⟨a80, ha81, h⟩ := h
            refine G_rf1 ha81 ?_
            obtain ⟨hk82, h⟩ := h
            obtain ⟨hi83, h⟩ := h
            refine G_iald C hk82 hi83 dL_isRefused_1406 ?_
            refine G_iconst C (v := 1) dL_isRefused_1407 (by decide) ?_
            refine G_isub C dL_isRefused_1408 ?_
            refine G_goto C (tgt := 1422) dL_isRefused_1409 (by decide) ?_
            refine G_lv C (lv' := [(0, va_rf x0), (1, va_rf x1), (2, va_rf x2), (3, va_rf x3), (4, Value.int x4), (5, Value.int v5), (10, Value.long v10), (13, Value.int v13)]) [0, 1, 2, 3, 4, 5, 7, 8] rfl ?_
            exact J1422 _ _ _ _ _ _ _ _ _ _ h
  have J1320 : ∀ (c0 n0 : Nat) (S : PT) (v5 : Int32) (v8 : Int32) (v10 : Int64) (v13 : Int32) (s0 : Option Nat) (s1 : Int32) (s2 : Int32) (s3 : Int32), w_L_isRefused_b1320 e0 m0 x0 x1 x2 x3 x4 mc ms post c0 n0 S v5 v8 v10 v13 s0 s1 s2 s3 → G p l e { frames := 11, cells := mc, slots := ms, locals := 270 } s m [va_rf x0, va_rf x1, va_rf x2, va_rf x3, Value.int x4].toArray below meth c D cy A s.heap 15 (QMi below D cy A [va_rf x0, va_rf x1, va_rf x2, va_rf x3, Value.int x4] s mc ms (fun r S => bo r ∧ post r S)) S c0 n0 1320 [(0, va_rf x0), (1, va_rf x1), (2, va_rf x2), (3, va_rf x3), (4, Value.int x4), (5, Value.int v5), (8, Value.int v8), (10, Value.long v10), (13, Value.int v13)] [Value.int s3, Value.int s2, Value.int s1, va_rf s0] := by
    intro c0 n0 S v5 v8 v10 v13 s0 s1 s2 s3 h
    unfold w_L_isRefused_b1320 at h
    obtain ⟨hc00, hn00, h⟩ := h
    refine G_iconst C (v := 0) dL_isRefused_1320 (by decide) ?_
    refine G_iconst C (v := 0) dL_isRefused_1321 (by decide) ?_
    refine G_iconst C (v := 0) dL_isRefused_1322 (by decide) ?_
    obtain ⟨m86, m87, hc88, hs89, h⟩ := h
    refine G_callSi C hZ tw_4_186 tw_4_187 tw_1_0 tw_4_188 hy_L_off ⟨Nat.le_of_ble_eq_true rfl, Nat.le_of_ble_eq_true rfl⟩ (As := [va_rf s0, Value.int s1, Value.int s2, Value.int s3, Value.int 0, Value.int 0, Value.int 0]) (rest := []) (c_L_off l hl D cy e0 m0 he hm s0 s1 s2 s3 0 0 0 S m86 m87 _ h) rfl rfl (by simp [va_cat, vi_cat, vl_cat]) dL_isRefused_1323 ⟨hc88, hs89⟩ (fun r85 S84 h => ?_)
    obtain ⟨hb90, h⟩ := h
    refine G_if_eq C (tgt := 1565) dL_isRefused_1326 (by decide) (fun hc => ?_) (fun hc => ?_)
    · have h := h.1 hc
      refine G_lv C (lv' := [(0, va_rf x0), (1, va_rf x1), (2, va_rf x2), (10, Value.long v10)]) [0, 1, 2, 7] rfl ?_
      exact J1565 _ _ _ _ h
    · have h := h.2 hc
      refine G_aload_n C (x := x0) 0 dL_isRefused_1329 rfl rfl ?_
      refine G_bipush C (v := 10) dL_isRefused_1330 (by decide) ?_
      refine G_iload C (x := v13) 8 dL_isRefused_1332 rfl ?_
      refine G_iload C (x := v5) 5 dL_isRefused_1334 rfl ?_
      refine G_if_eq C (tgt := 1349) dL_isRefused_1336 (by decide) (fun hc => ?_) (fun hc => ?_)
      · have h := h.1 hc
        refine G_iconst C (v := 4) dL_isRefused_1349 (by decide) ?_
        refine G_lv C (lv' := [(0, va_rf x0), (1, va_rf x1), (2, va_rf x2), (3, va_rf x3), (4, Value.int x4), (5, Value.int v5), (8, Value.int v8), (10, Value.long v10), (13, Value.int v13)]) [0, 1, 2, 3, 4, 5, 6, 7, 8] rfl ?_
        exact J1350 _ _ _ _ _ _ _ _ _ _ _ h
      · have h := h.2 hc
        refine G_iconst C (v := (-1)) dL_isRefused_1339 (by decide) ?_
        refine G_iload C (x := x4) 4 dL_isRefused_1340 rfl ?_
        refine G_bipush C (v := 30) dL_isRefused_1342 (by decide) ?_
        refine G_irem C dL_isRefused_1344 (by decide) ?_
        refine G_isub C dL_isRefused_1345 ?_
        refine G_goto C (tgt := 1350) dL_isRefused_1346 (by decide) ?_
        refine G_lv C (lv' := [(0, va_rf x0), (1, va_rf x1), (2, va_rf x2), (3, va_rf x3), (4, Value.int x4), (5, Value.int v5), (8, Value.int v8), (10, Value.long v10), (13, Value.int v13)]) [0, 1, 2, 3, 4, 5, 6, 7, 8] rfl ?_
        exact J1350 _ _ _ _ _ _ _ _ _ _ _ h
  have J1278 : ∀ (c0 n0 : Nat) (S : PT) (v5 : Int32) (v8 : Int32) (v10 : Int64) (v12 : Int32), w_L_isRefused_b1278 e0 m0 x0 x1 x2 x3 x4 mc ms post c0 n0 S v5 v8 v10 v12 → G p l e { frames := 11, cells := mc, slots := ms, locals := 270 } s m [va_rf x0, va_rf x1, va_rf x2, va_rf x3, Value.int x4].toArray below meth c D cy A s.heap 15 (QMi below D cy A [va_rf x0, va_rf x1, va_rf x2, va_rf x3, Value.int x4] s mc ms (fun r S => bo r ∧ post r S)) S c0 n0 1278 [(0, va_rf x0), (1, va_rf x1), (2, va_rf x2), (3, va_rf x3), (4, Value.int x4), (5, Value.int v5), (8, Value.int v8), (10, Value.long v10), (12, Value.int v12)] [] := by
    intro c0 n0 S v5 v8 v10 v12 h
    unfold w_L_isRefused_b1278 at h
    obtain ⟨hc00, hn00, h⟩ := h
    refine G_iload C (x := v12) 8 dL_isRefused_1278 rfl ?_
    refine G_if_eq C (tgt := 1568) dL_isRefused_1280 (by decide) (fun hc => ?_) (fun hc => ?_)
    · have h := h.1 hc
      refine G_lv C (lv' := [(0, va_rf x0), (1, va_rf x1), (2, va_rf x2), (10, Value.long v10), (12, Value.int v12)]) [0, 1, 2, 7, 8] rfl ?_
      exact J1568 _ _ _ _ _ h
    · have h := h.2 hc
      refine G_aload_n C (x := x1) 1 dL_isRefused_1283 rfl rfl ?_
      refine G_iconst C (v := 3) dL_isRefused_1284 (by decide) ?_
      obtain ⟨a91, ha92, h⟩ := h
      refine G_rf1 ha92 ?_
      obtain ⟨hk93, h⟩ := h
      obtain ⟨hi94, h⟩ := h
      refine G_iald C hk93 hi94 dL_isRefused_1285 ?_
      refine G_if_le C (tgt := 1568) dL_isRefused_1286 (by decide) (fun hc => ?_) (fun hc => ?_)
      · have h := h.1 hc
        refine G_lv C (lv' := [(0, va_rf x0), (1, va_rf x1), (2, va_rf x2), (10, Value.long v10), (12, Value.int v12)]) [0, 1, 2, 7, 8] rfl ?_
        exact J1568 _ _ _ _ _ h
      · have h := h.2 hc
        refine G_iload C (x := x4) 4 dL_isRefused_1289 rfl ?_
        refine G_iconst C (v := 2) dL_isRefused_1291 (by decide) ?_
        refine G_idiv C dL_isRefused_1292 (by decide) ?_
        refine G_aload_n C (x := x1) 1 dL_isRefused_1293 rfl rfl ?_
        refine G_iconst C (v := 3) dL_isRefused_1294 (by decide) ?_
        refine G_rf1 ha92 ?_
        obtain ⟨hi95, h⟩ := h
        refine G_iald C hk93 hi95 dL_isRefused_1295 ?_
        obtain ⟨hn96, h⟩ := h
        refine G_irem C dL_isRefused_1296 hn96 ?_
        refine G_istore C (i := 13) (lv' := [(13, Value.int ((x4 / 2) - (x4 / 2) / (gA S a91 ((3 : Int32).toNatClampNeg)) * (gA S a91 ((3 : Int32).toNatClampNeg)))), (0, va_rf x0), (1, va_rf x1), (2, va_rf x2), (3, va_rf x3), (4, Value.int x4), (5, Value.int v5), (8, Value.int v8), (10, Value.long v10), (12, Value.int v12)]) dL_isRefused_1297 (by decide) (by first | rfl | simp [va_cat, vi_cat, vl_cat]) ?_
        refine G_aload_n C (x := x0) 1 dL_isRefused_1299 rfl rfl ?_
        refine G_bipush C (v := 8) dL_isRefused_1300 (by decide) ?_
        refine G_iload C (x := ((x4 / 2) - (x4 / 2) / (gA S a91 ((3 : Int32).toNatClampNeg)) * (gA S a91 ((3 : Int32).toNatClampNeg)))) 0 dL_isRefused_1302 rfl ?_
        refine G_iload C (x := v5) 6 dL_isRefused_1304 rfl ?_
        refine G_if_eq C (tgt := 1313) dL_isRefused_1306 (by decide) (fun hc => ?_) (fun hc => ?_)
        · have h := h.1 hc
          refine G_iconst C (v := 4) dL_isRefused_1313 (by decide) ?_
          refine G_iload C (x := x4) 5 dL_isRefused_1314 rfl ?_
          refine G_bipush C (v := 30) dL_isRefused_1316 (by decide) ?_
          refine G_irem C dL_isRefused_1318 (by decide) ?_
          refine G_iadd C dL_isRefused_1319 ?_
          refine G_lv C (lv' := [(0, va_rf x0), (1, va_rf x1), (2, va_rf x2), (3, va_rf x3), (4, Value.int x4), (5, Value.int v5), (8, Value.int v8), (10, Value.long v10), (13, Value.int ((x4 / 2) - (x4 / 2) / (gA S a91 ((3 : Int32).toNatClampNeg)) * (gA S a91 ((3 : Int32).toNatClampNeg))))]) [1, 2, 3, 4, 5, 6, 7, 8, 0] rfl ?_
          exact J1320 _ _ _ _ _ _ _ _ _ _ _ h
        · have h := h.2 hc
          refine G_iconst C (v := (-1)) dL_isRefused_1309 (by decide) ?_
          refine G_goto C (tgt := 1320) dL_isRefused_1310 (by decide) ?_
          refine G_lv C (lv' := [(0, va_rf x0), (1, va_rf x1), (2, va_rf x2), (3, va_rf x3), (4, Value.int x4), (5, Value.int v5), (8, Value.int v8), (10, Value.long v10), (13, Value.int ((x4 / 2) - (x4 / 2) / (gA S a91 ((3 : Int32).toNatClampNeg)) * (gA S a91 ((3 : Int32).toNatClampNeg))))]) [1, 2, 3, 4, 5, 6, 7, 8, 0] rfl ?_
          exact J1320 _ _ _ _ _ _ _ _ _ _ _ h
  have J738 : ∀ (n : Nat) (c0 n0 : Nat) (S : PT) (v5 : Int32) (v8 : Int32) (v9 : Int32) (v10 : Int64) (v12 : Int32) (v13 : Int32), w_L_isRefused_l738 e0 m0 x0 x1 x2 x3 x4 mc ms post n c0 n0 S v5 v8 v9 v10 v12 v13 → G p l e { frames := 11, cells := mc, slots := ms, locals := 270 } s m [va_rf x0, va_rf x1, va_rf x2, va_rf x3, Value.int x4].toArray below meth c D cy A s.heap 15 (QMi below D cy A [va_rf x0, va_rf x1, va_rf x2, va_rf x3, Value.int x4] s mc ms (fun r S => bo r ∧ post r S)) S c0 n0 738 [(0, va_rf x0), (1, va_rf x1), (2, va_rf x2), (3, va_rf x3), (4, Value.int x4), (5, Value.int v5), (8, Value.int v8), (9, Value.int v9), (10, Value.long v10), (12, Value.int v12), (13, Value.int v13)] [] := by
    intro n738
    induction n738 with
    | zero => intro c0 n0 S v5 v8 v9 v10 v12 v13 h; rw [w_L_isRefused_l738] at h; exact False.elim h
    | succ n738 K738 =>
      have J1270 : ∀ (c0 n0 : Nat) (S : PT) (v5 : Int32) (v8 : Int32) (v9 : Int32) (v10 : Int64) (v13 : Int32) (s0 : Int32), w_L_isRefused_b1270 e0 m0 x0 x1 x2 x3 x4 mc ms post (w_L_isRefused_l738 e0 m0 x0 x1 x2 x3 x4 mc ms post n738) c0 n0 S v5 v8 v9 v10 v13 s0 → G p l e { frames := 11, cells := mc, slots := ms, locals := 270 } s m [va_rf x0, va_rf x1, va_rf x2, va_rf x3, Value.int x4].toArray below meth c D cy A s.heap 15 (QMi below D cy A [va_rf x0, va_rf x1, va_rf x2, va_rf x3, Value.int x4] s mc ms (fun r S => bo r ∧ post r S)) S c0 n0 1270 [(0, va_rf x0), (1, va_rf x1), (2, va_rf x2), (3, va_rf x3), (4, Value.int x4), (5, Value.int v5), (8, Value.int v8), (9, Value.int v9), (10, Value.long v10), (13, Value.int v13)] [Value.int s0] := by
        intro c0 n0 S v5 v8 v9 v10 v13 s0 h
        unfold w_L_isRefused_b1270 at h
        obtain ⟨hc00, hn00, h⟩ := h
        refine G_istore C (i := 12) (lv' := [(12, Value.int s0), (0, va_rf x0), (1, va_rf x1), (2, va_rf x2), (3, va_rf x3), (4, Value.int x4), (5, Value.int v5), (8, Value.int v8), (9, Value.int v9), (10, Value.long v10), (13, Value.int v13)]) dL_isRefused_1270 (by decide) (by first | rfl | simp [va_cat, vi_cat, vl_cat]) ?_
        refine G_iinc C (v := (v13 + 1)) (lv' := [(13, Value.int (v13 + 1)), (12, Value.int s0), (0, va_rf x0), (1, va_rf x1), (2, va_rf x2), (3, va_rf x3), (4, Value.int x4), (5, Value.int v5), (8, Value.int v8), (9, Value.int v9), (10, Value.long v10)]) 10 dL_isRefused_1272 rfl rfl (by decide) (by first | rfl | simp [va_cat, vi_cat, vl_cat]) ?_
        refine G_goto C (tgt := 738) dL_isRefused_1275 (by decide) ?_
        refine G_lv C (lv' := [(0, va_rf x0), (1, va_rf x1), (2, va_rf x2), (3, va_rf x3), (4, Value.int x4), (5, Value.int v5), (8, Value.int v8), (9, Value.int v9), (10, Value.long v10), (12, Value.int s0), (13, Value.int (v13 + 1))]) [2, 3, 4, 5, 6, 7, 8, 9, 10, 1, 0] rfl ?_
        exact K738 _ _ _ _ _ _ _ _ _ h
      have J1269 : ∀ (c0 n0 : Nat) (S : PT) (v5 : Int32) (v8 : Int32) (v9 : Int32) (v10 : Int64) (v13 : Int32), w_L_isRefused_b1269 e0 m0 x0 x1 x2 x3 x4 mc ms post (w_L_isRefused_l738 e0 m0 x0 x1 x2 x3 x4 mc ms post n738) c0 n0 S v5 v8 v9 v10 v13 → G p l e { frames := 11, cells := mc, slots := ms, locals := 270 } s m [va_rf x0, va_rf x1, va_rf x2, va_rf x3, Value.int x4].toArray below meth c D cy A s.heap 15 (QMi below D cy A [va_rf x0, va_rf x1, va_rf x2, va_rf x3, Value.int x4] s mc ms (fun r S => bo r ∧ post r S)) S c0 n0 1269 [(0, va_rf x0), (1, va_rf x1), (2, va_rf x2), (3, va_rf x3), (4, Value.int x4), (5, Value.int v5), (8, Value.int v8), (9, Value.int v9), (10, Value.long v10), (13, Value.int v13)] [] := by
        intro c0 n0 S v5 v8 v9 v10 v13 h
        unfold w_L_isRefused_b1269 at h
        obtain ⟨hc00, hn00, h⟩ := h
        refine G_iconst C (v := 0) dL_isRefused_1269 (by decide) ?_
        refine G_lv C (lv' := [(0, va_rf x0), (1, va_rf x1), (2, va_rf x2), (3, va_rf x3), (4, Value.int x4), (5, Value.int v5), (8, Value.int v8), (9, Value.int v9), (10, Value.long v10), (13, Value.int v13)]) [0, 1, 2, 3, 4, 5, 6, 7, 8, 9] rfl ?_
        exact J1270 _ _ _ _ _ _ _ _ _ h
      have J1242 : ∀ (c0 n0 : Nat) (S : PT) (v5 : Int32) (v8 : Int32) (v9 : Int32) (v10 : Int64) (v13 : Int32) (s0 : Option Nat) (s1 : Int32) (s2 : Int32) (s3 : Int32) (s4 : Int32), w_L_isRefused_b1242 e0 m0 x0 x1 x2 x3 x4 mc ms post (w_L_isRefused_l738 e0 m0 x0 x1 x2 x3 x4 mc ms post n738) c0 n0 S v5 v8 v9 v10 v13 s0 s1 s2 s3 s4 → G p l e { frames := 11, cells := mc, slots := ms, locals := 270 } s m [va_rf x0, va_rf x1, va_rf x2, va_rf x3, Value.int x4].toArray below meth c D cy A s.heap 15 (QMi below D cy A [va_rf x0, va_rf x1, va_rf x2, va_rf x3, Value.int x4] s mc ms (fun r S => bo r ∧ post r S)) S c0 n0 1242 [(0, va_rf x0), (1, va_rf x1), (2, va_rf x2), (3, va_rf x3), (4, Value.int x4), (5, Value.int v5), (8, Value.int v8), (9, Value.int v9), (10, Value.long v10), (13, Value.int v13)] [Value.int s4, Value.int s3, Value.int s2, Value.int s1, va_rf s0] := by
        intro c0 n0 S v5 v8 v9 v10 v13 s0 s1 s2 s3 s4 h
        unfold w_L_isRefused_b1242 at h
        obtain ⟨hc00, hn00, h⟩ := h
        refine G_iconst C (v := 0) dL_isRefused_1242 (by decide) ?_
        refine G_iconst C (v := 0) dL_isRefused_1243 (by decide) ?_
        obtain ⟨m99, m100, hc101, hs102, h⟩ := h
        refine G_callSi C hZ tw_4_186 tw_4_187 tw_1_0 tw_4_188 hy_L_off ⟨Nat.le_of_ble_eq_true rfl, Nat.le_of_ble_eq_true rfl⟩ (As := [va_rf s0, Value.int s1, Value.int s2, Value.int s3, Value.int s4, Value.int 0, Value.int 0]) (rest := []) (c_L_off l hl D cy e0 m0 he hm s0 s1 s2 s3 s4 0 0 S m99 m100 _ h) rfl rfl (by simp [va_cat, vi_cat, vl_cat]) dL_isRefused_1244 ⟨hc101, hs102⟩ (fun r98 S97 h => ?_)
        obtain ⟨hb103, h⟩ := h
        refine G_if_eq C (tgt := 1269) dL_isRefused_1247 (by decide) (fun hc => ?_) (fun hc => ?_)
        · have h := h.1 hc
          refine G_lv C (lv' := [(0, va_rf x0), (1, va_rf x1), (2, va_rf x2), (3, va_rf x3), (4, Value.int x4), (5, Value.int v5), (8, Value.int v8), (9, Value.int v9), (10, Value.long v10), (13, Value.int v13)]) [0, 1, 2, 3, 4, 5, 6, 7, 8, 9] rfl ?_
          exact J1269 _ _ _ _ _ _ _ _ h
        · have h := h.2 hc
          refine G_aload_n C (x := x0) 0 dL_isRefused_1250 rfl rfl ?_
          refine G_bipush C (v := 28) dL_isRefused_1251 (by decide) ?_
          refine G_iload C (x := v13) 9 dL_isRefused_1253 rfl ?_
          refine G_iconst C (v := 1) dL_isRefused_1255 (by decide) ?_
          refine G_iconst C (v := 0) dL_isRefused_1256 (by decide) ?_
          refine G_iconst C (v := 0) dL_isRefused_1257 (by decide) ?_
          refine G_iconst C (v := 0) dL_isRefused_1258 (by decide) ?_
          obtain ⟨m106, m107, hc108, hs109, h⟩ := h
          refine G_callSi C hZ tw_4_186 tw_4_187 tw_1_0 tw_4_188 hy_L_off ⟨Nat.le_of_ble_eq_true rfl, Nat.le_of_ble_eq_true rfl⟩ (As := [va_rf x0, Value.int 28, Value.int v13, Value.int 1, Value.int 0, Value.int 0, Value.int 0]) (rest := []) (c_L_off l hl D cy e0 m0 he hm x0 28 v13 1 0 0 0 S97 m106 m107 _ h) rfl rfl (by simp [va_cat, vi_cat, vl_cat]) dL_isRefused_1259 ⟨hc108, hs109⟩ (fun r105 S104 h => ?_)
          obtain ⟨hb110, h⟩ := h
          refine G_if_eq C (tgt := 1269) dL_isRefused_1262 (by decide) (fun hc => ?_) (fun hc => ?_)
          · have h := h.1 hc
            refine G_lv C (lv' := [(0, va_rf x0), (1, va_rf x1), (2, va_rf x2), (3, va_rf x3), (4, Value.int x4), (5, Value.int v5), (8, Value.int v8), (9, Value.int v9), (10, Value.long v10), (13, Value.int v13)]) [0, 1, 2, 3, 4, 5, 6, 7, 8, 9] rfl ?_
            exact J1269 _ _ _ _ _ _ _ _ h
          · have h := h.2 hc
            refine G_iconst C (v := 1) dL_isRefused_1265 (by decide) ?_
            refine G_goto C (tgt := 1270) dL_isRefused_1266 (by decide) ?_
            refine G_lv C (lv' := [(0, va_rf x0), (1, va_rf x1), (2, va_rf x2), (3, va_rf x3), (4, Value.int x4), (5, Value.int v5), (8, Value.int v8), (9, Value.int v9), (10, Value.long v10), (13, Value.int v13)]) [0, 1, 2, 3, 4, 5, 6, 7, 8, 9] rfl ?_
            exact J1270 _ _ _ _ _ _ _ _ _ h
      have J1197 : ∀ (c0 n0 : Nat) (S : PT) (v5 : Int32) (v8 : Int32) (v9 : Int32) (v10 : Int64) (v13 : Int32) (v14 : Int32) (s0 : Option Nat) (s1 : Int32) (s2 : Int32) (s3 : Int32) (s4 : Int32), w_L_isRefused_b1197 e0 m0 x0 x1 x2 x3 x4 mc ms post (w_L_isRefused_l738 e0 m0 x0 x1 x2 x3 x4 mc ms post n738) c0 n0 S v5 v8 v9 v10 v13 v14 s0 s1 s2 s3 s4 → G p l e { frames := 11, cells := mc, slots := ms, locals := 270 } s m [va_rf x0, va_rf x1, va_rf x2, va_rf x3, Value.int x4].toArray below meth c D cy A s.heap 15 (QMi below D cy A [va_rf x0, va_rf x1, va_rf x2, va_rf x3, Value.int x4] s mc ms (fun r S => bo r ∧ post r S)) S c0 n0 1197 [(0, va_rf x0), (1, va_rf x1), (2, va_rf x2), (3, va_rf x3), (4, Value.int x4), (5, Value.int v5), (8, Value.int v8), (9, Value.int v9), (10, Value.long v10), (13, Value.int v13), (14, Value.int v14)] [Value.int s4, Value.int s3, Value.int s2, Value.int s1, va_rf s0] := by
        intro c0 n0 S v5 v8 v9 v10 v13 v14 s0 s1 s2 s3 s4 h
        unfold w_L_isRefused_b1197 at h
        obtain ⟨hc00, hn00, h⟩ := h
        refine G_iconst C (v := 0) dL_isRefused_1197 (by decide) ?_
        refine G_iconst C (v := 0) dL_isRefused_1198 (by decide) ?_
        obtain ⟨m113, m114, hc115, hs116, h⟩ := h
        refine G_callSi C hZ tw_4_186 tw_4_187 tw_1_0 tw_4_188 hy_L_off ⟨Nat.le_of_ble_eq_true rfl, Nat.le_of_ble_eq_true rfl⟩ (As := [va_rf s0, Value.int s1, Value.int s2, Value.int s3, Value.int s4, Value.int 0, Value.int 0]) (rest := []) (c_L_off l hl D cy e0 m0 he hm s0 s1 s2 s3 s4 0 0 S m113 m114 _ h) rfl rfl (by simp [va_cat, vi_cat, vl_cat]) dL_isRefused_1199 ⟨hc115, hs116⟩ (fun r112 S111 h => ?_)
        obtain ⟨hb117, h⟩ := h
        refine G_if_eq C (tgt := 1269) dL_isRefused_1202 (by decide) (fun hc => ?_) (fun hc => ?_)
        · have h := h.1 hc
          refine G_lv C (lv' := [(0, va_rf x0), (1, va_rf x1), (2, va_rf x2), (3, va_rf x3), (4, Value.int x4), (5, Value.int v5), (8, Value.int v8), (9, Value.int v9), (10, Value.long v10), (13, Value.int v13)]) [0, 1, 2, 3, 4, 5, 6, 7, 8, 9] rfl ?_
          exact J1269 _ _ _ _ _ _ _ _ h
        · have h := h.2 hc
          refine G_aload_n C (x := x0) 0 dL_isRefused_1205 rfl rfl ?_
          refine G_bipush C (v := 27) dL_isRefused_1206 (by decide) ?_
          refine G_iload C (x := v13) 9 dL_isRefused_1208 rfl ?_
          refine G_iload C (x := v14) 10 dL_isRefused_1210 rfl ?_
          refine G_bipush C (v := 9) dL_isRefused_1212 (by decide) ?_
          obtain ⟨m120, m121, hc122, hs123, h⟩ := h
          refine G_callSi C hZ tw_4_189 tw_4_190 tw_1_0 tw_4_191 hy_L_no ⟨Nat.le_of_ble_eq_true rfl, Nat.le_of_ble_eq_true rfl⟩ (As := [va_rf x0, Value.int 27, Value.int v13, Value.int v14, Value.int 9]) (rest := []) (c_L_no l hl D cy e0 m0 he hm x0 27 v13 v14 9 S111 m120 m121 _ h) rfl rfl (by simp [va_cat, vi_cat, vl_cat]) dL_isRefused_1214 ⟨hc122, hs123⟩ (fun r119 S118 h => ?_)
          obtain ⟨hb124, h⟩ := h
          refine G_if_eq C (tgt := 1269) dL_isRefused_1217 (by decide) (fun hc => ?_) (fun hc => ?_)
          · have h := h.1 hc
            refine G_lv C (lv' := [(0, va_rf x0), (1, va_rf x1), (2, va_rf x2), (3, va_rf x3), (4, Value.int x4), (5, Value.int v5), (8, Value.int v8), (9, Value.int v9), (10, Value.long v10), (13, Value.int v13)]) [0, 1, 2, 3, 4, 5, 6, 7, 8, 9] rfl ?_
            exact J1269 _ _ _ _ _ _ _ _ h
          · have h := h.2 hc
            refine G_aload_n C (x := x0) 0 dL_isRefused_1220 rfl rfl ?_
            refine G_bipush C (v := 27) dL_isRefused_1221 (by decide) ?_
            refine G_iload C (x := v13) 9 dL_isRefused_1223 rfl ?_
            refine G_iconst C (v := 0) dL_isRefused_1225 (by decide) ?_
            refine G_iload C (x := v5) 5 dL_isRefused_1226 rfl ?_
            refine G_if_eq C (tgt := 1241) dL_isRefused_1228 (by decide) (fun hc => ?_) (fun hc => ?_)
            · have h := h.1 hc
              refine G_iconst C (v := 4) dL_isRefused_1241 (by decide) ?_
              refine G_lv C (lv' := [(0, va_rf x0), (1, va_rf x1), (2, va_rf x2), (3, va_rf x3), (4, Value.int x4), (5, Value.int v5), (8, Value.int v8), (9, Value.int v9), (10, Value.long v10), (13, Value.int v13)]) [0, 1, 2, 3, 4, 5, 6, 7, 8, 9] rfl ?_
              exact J1242 _ _ _ _ _ _ _ _ _ _ _ _ _ h
            · have h := h.2 hc
              refine G_iconst C (v := (-1)) dL_isRefused_1231 (by decide) ?_
              refine G_iload C (x := x4) 4 dL_isRefused_1232 rfl ?_
              refine G_bipush C (v := 30) dL_isRefused_1234 (by decide) ?_
              refine G_irem C dL_isRefused_1236 (by decide) ?_
              refine G_isub C dL_isRefused_1237 ?_
              refine G_goto C (tgt := 1242) dL_isRefused_1238 (by decide) ?_
              refine G_lv C (lv' := [(0, va_rf x0), (1, va_rf x1), (2, va_rf x2), (3, va_rf x3), (4, Value.int x4), (5, Value.int v5), (8, Value.int v8), (9, Value.int v9), (10, Value.long v10), (13, Value.int v13)]) [0, 1, 2, 3, 4, 5, 6, 7, 8, 9] rfl ?_
              exact J1242 _ _ _ _ _ _ _ _ _ _ _ _ _ h
      have J1155 : ∀ (c0 n0 : Nat) (S : PT) (v5 : Int32) (v8 : Int32) (v9 : Int32) (v10 : Int64) (v13 : Int32) (v14 : Int32) (s0 : Option Nat) (s1 : Int32) (s2 : Int32) (s3 : Int32) (s4 : Int32) (s5 : Int32) (s6 : Int32) (s7 : Int32), w_L_isRefused_b1155 e0 m0 x0 x1 x2 x3 x4 mc ms post (w_L_isRefused_l738 e0 m0 x0 x1 x2 x3 x4 mc ms post n738) c0 n0 S v5 v8 v9 v10 v13 v14 s0 s1 s2 s3 s4 s5 s6 s7 → G p l e { frames := 11, cells := mc, slots := ms, locals := 270 } s m [va_rf x0, va_rf x1, va_rf x2, va_rf x3, Value.int x4].toArray below meth c D cy A s.heap 15 (QMi below D cy A [va_rf x0, va_rf x1, va_rf x2, va_rf x3, Value.int x4] s mc ms (fun r S => bo r ∧ post r S)) S c0 n0 1155 [(0, va_rf x0), (1, va_rf x1), (2, va_rf x2), (3, va_rf x3), (4, Value.int x4), (5, Value.int v5), (8, Value.int v8), (9, Value.int v9), (10, Value.long v10), (13, Value.int v13), (14, Value.int v14)] [Value.int s7, Value.int s6, Value.int s5, Value.int s4, Value.int s3, Value.int s2, Value.int s1, va_rf s0] := by
        intro c0 n0 S v5 v8 v9 v10 v13 v14 s0 s1 s2 s3 s4 s5 s6 s7 h
        unfold w_L_isRefused_b1155 at h
        obtain ⟨hc00, hn00, h⟩ := h
        obtain ⟨m127, m128, hc129, hs130, h⟩ := h
        refine G_callSWi C hZ tw_4_192 tw_4_193 tw_1_0 tw_4_194 hy_L_asks ⟨Nat.le_of_ble_eq_true rfl, Nat.le_of_ble_eq_true rfl⟩ (As := [va_rf s0, Value.int s1, Value.int s2, Value.int s3, Value.int s4, Value.int s5, Value.int s6, Value.int s7]) (rest := []) (c_L_asks l hl D cy s0 s1 s2 s3 s4 s5 s6 s7 S m127 m128 _ h) rfl rfl (by simp [va_cat, vi_cat, vl_cat]) dL_isRefused_1155 ⟨hc129, hs130⟩ (fun r126 S125 h => ?_)
        refine G_ldc C (v := (-1712000)) (im tw_4_175) dL_isRefused_1158 ?_
        refine G_icmp_ne C (tgt := 1269) dL_isRefused_1160 (by decide) (fun hc => ?_) (fun hc => ?_)
        · have h := h.1 hc
          refine G_lv C (lv' := [(0, va_rf x0), (1, va_rf x1), (2, va_rf x2), (3, va_rf x3), (4, Value.int x4), (5, Value.int v5), (8, Value.int v8), (9, Value.int v9), (10, Value.long v10), (13, Value.int v13)]) [0, 1, 2, 3, 4, 5, 6, 7, 8, 9] rfl ?_
          exact J1269 _ _ _ _ _ _ _ _ h
        · have h := h.2 hc
          refine G_aload_n C (x := x0) 0 dL_isRefused_1163 rfl rfl ?_
          refine G_bipush C (v := 22) dL_isRefused_1164 (by decide) ?_
          refine G_iload C (x := v13) 9 dL_isRefused_1166 rfl ?_
          refine G_iload C (x := v14) 10 dL_isRefused_1168 rfl ?_
          refine G_sipush C (v := 999) dL_isRefused_1170 (by decide) ?_
          obtain ⟨m133, m134, hc135, hs136, h⟩ := h
          refine G_callSi C hZ tw_4_189 tw_4_190 tw_1_0 tw_4_191 hy_L_no ⟨Nat.le_of_ble_eq_true rfl, Nat.le_of_ble_eq_true rfl⟩ (As := [va_rf x0, Value.int 22, Value.int v13, Value.int v14, Value.int 999]) (rest := []) (c_L_no l hl D cy e0 m0 he hm x0 22 v13 v14 999 S125 m133 m134 _ h) rfl rfl (by simp [va_cat, vi_cat, vl_cat]) dL_isRefused_1173 ⟨hc135, hs136⟩ (fun r132 S131 h => ?_)
          obtain ⟨hb137, h⟩ := h
          refine G_if_eq C (tgt := 1269) dL_isRefused_1176 (by decide) (fun hc => ?_) (fun hc => ?_)
          · have h := h.1 hc
            refine G_lv C (lv' := [(0, va_rf x0), (1, va_rf x1), (2, va_rf x2), (3, va_rf x3), (4, Value.int x4), (5, Value.int v5), (8, Value.int v8), (9, Value.int v9), (10, Value.long v10), (13, Value.int v13)]) [0, 1, 2, 3, 4, 5, 6, 7, 8, 9] rfl ?_
            exact J1269 _ _ _ _ _ _ _ _ h
          · have h := h.2 hc
            refine G_aload_n C (x := x0) 0 dL_isRefused_1179 rfl rfl ?_
            refine G_bipush C (v := 23) dL_isRefused_1180 (by decide) ?_
            refine G_iload C (x := v13) 9 dL_isRefused_1182 rfl ?_
            refine G_iconst C (v := 0) dL_isRefused_1184 (by decide) ?_
            refine G_iload C (x := v5) 5 dL_isRefused_1185 rfl ?_
            refine G_if_eq C (tgt := 1194) dL_isRefused_1187 (by decide) (fun hc => ?_) (fun hc => ?_)
            · have h := h.1 hc
              refine G_sipush C (v := 301) dL_isRefused_1194 (by decide) ?_
              refine G_lv C (lv' := [(0, va_rf x0), (1, va_rf x1), (2, va_rf x2), (3, va_rf x3), (4, Value.int x4), (5, Value.int v5), (8, Value.int v8), (9, Value.int v9), (10, Value.long v10), (13, Value.int v13), (14, Value.int v14)]) [0, 1, 2, 3, 4, 5, 6, 7, 8, 9, 10] rfl ?_
              exact J1197 _ _ _ _ _ _ _ _ _ _ _ _ _ _ h
            · have h := h.2 hc
              refine G_iconst C (v := (-1)) dL_isRefused_1190 (by decide) ?_
              refine G_goto C (tgt := 1197) dL_isRefused_1191 (by decide) ?_
              refine G_lv C (lv' := [(0, va_rf x0), (1, va_rf x1), (2, va_rf x2), (3, va_rf x3), (4, Value.int x4), (5, Value.int v5), (8, Value.int v8), (9, Value.int v9), (10, Value.long v10), (13, Value.int v13), (14, Value.int v14)]) [0, 1, 2, 3, 4, 5, 6, 7, 8, 9, 10] rfl ?_
              exact J1197 _ _ _ _ _ _ _ _ _ _ _ _ _ _ h
      have J1092 : ∀ (c0 n0 : Nat) (S : PT) (v5 : Int32) (v8 : Int32) (v9 : Int32) (v10 : Int64) (v13 : Int32) (v14 : Int32) (s0 : Option Nat) (s1 : Int32) (s2 : Int32) (s3 : Int32) (s4 : Int32) (s5 : Int32) (s6 : Int32), w_L_isRefused_b1092 e0 m0 x0 x1 x2 x3 x4 mc ms post (w_L_isRefused_l738 e0 m0 x0 x1 x2 x3 x4 mc ms post n738) c0 n0 S v5 v8 v9 v10 v13 v14 s0 s1 s2 s3 s4 s5 s6 → G p l e { frames := 11, cells := mc, slots := ms, locals := 270 } s m [va_rf x0, va_rf x1, va_rf x2, va_rf x3, Value.int x4].toArray below meth c D cy A s.heap 15 (QMi below D cy A [va_rf x0, va_rf x1, va_rf x2, va_rf x3, Value.int x4] s mc ms (fun r S => bo r ∧ post r S)) S c0 n0 1092 [(0, va_rf x0), (1, va_rf x1), (2, va_rf x2), (3, va_rf x3), (4, Value.int x4), (5, Value.int v5), (8, Value.int v8), (9, Value.int v9), (10, Value.long v10), (13, Value.int v13), (14, Value.int v14)] [Value.int s6, Value.int s5, Value.int s4, Value.int s3, Value.int s2, Value.int s1, va_rf s0] := by
        intro c0 n0 S v5 v8 v9 v10 v13 v14 s0 s1 s2 s3 s4 s5 s6 h
        unfold w_L_isRefused_b1092 at h
        obtain ⟨hc00, hn00, h⟩ := h
        refine G_iconst C (v := 1) dL_isRefused_1092 (by decide) ?_
        obtain ⟨m140, m141, hc142, hs143, h⟩ := h
        refine G_callSWi C hZ tw_4_192 tw_4_193 tw_1_0 tw_4_194 hy_L_asks ⟨Nat.le_of_ble_eq_true rfl, Nat.le_of_ble_eq_true rfl⟩ (As := [va_rf s0, Value.int s1, Value.int s2, Value.int s3, Value.int s4, Value.int s5, Value.int s6, Value.int 1]) (rest := []) (c_L_asks l hl D cy s0 s1 s2 s3 s4 s5 s6 1 S m140 m141 _ h) rfl rfl (by simp [va_cat, vi_cat, vl_cat]) dL_isRefused_1093 ⟨hc142, hs143⟩ (fun r139 S138 h => ?_)
        refine G_ldc C (v := (-1712000)) (im tw_4_175) dL_isRefused_1096 ?_
        refine G_icmp_ne C (tgt := 1269) dL_isRefused_1098 (by decide) (fun hc => ?_) (fun hc => ?_)
        · have h := h.1 hc
          refine G_lv C (lv' := [(0, va_rf x0), (1, va_rf x1), (2, va_rf x2), (3, va_rf x3), (4, Value.int x4), (5, Value.int v5), (8, Value.int v8), (9, Value.int v9), (10, Value.long v10), (13, Value.int v13)]) [0, 1, 2, 3, 4, 5, 6, 7, 8, 9] rfl ?_
          exact J1269 _ _ _ _ _ _ _ _ h
        · have h := h.2 hc
          refine G_aload_n C (x := x0) 0 dL_isRefused_1101 rfl rfl ?_
          refine G_iconst C (v := 0) dL_isRefused_1102 (by decide) ?_
          refine G_iload C (x := v13) 9 dL_isRefused_1103 rfl ?_
          refine G_iconst C (v := 0) dL_isRefused_1105 (by decide) ?_
          refine G_iconst C (v := 0) dL_isRefused_1106 (by decide) ?_
          refine G_iload C (x := x4) 4 dL_isRefused_1107 rfl ?_
          refine G_iconst C (v := 3) dL_isRefused_1109 (by decide) ?_
          refine G_irem C dL_isRefused_1110 (by decide) ?_
          refine G_aload_n C (x := x1) 1 dL_isRefused_1111 rfl rfl ?_
          refine G_iconst C (v := 0) dL_isRefused_1112 (by decide) ?_
          obtain ⟨a144, ha145, h⟩ := h
          refine G_rf1 ha145 ?_
          obtain ⟨hk146, h⟩ := h
          obtain ⟨hi147, h⟩ := h
          refine G_iald C hk146 hi147 dL_isRefused_1113 ?_
          refine G_bipush C (v := 24) dL_isRefused_1114 (by decide) ?_
          refine G_idiv C dL_isRefused_1116 (by decide) ?_
          refine G_iconst C (v := 2) dL_isRefused_1117 (by decide) ?_
          refine G_iadd C dL_isRefused_1118 ?_
          refine G_iconst C (v := 1) dL_isRefused_1119 (by decide) ?_
          obtain ⟨m150, m151, hc152, hs153, h⟩ := h
          refine G_callSWi C hZ tw_4_192 tw_4_193 tw_1_0 tw_4_194 hy_L_asks ⟨Nat.le_of_ble_eq_true rfl, Nat.le_of_ble_eq_true rfl⟩ (As := [va_rf x0, Value.int 0, Value.int v13, Value.int 0, Value.int 0, Value.int (x4 - x4 / 3 * 3), Value.int (((gA S138 a144 ((0 : Int32).toNatClampNeg)) / 24) + 2), Value.int 1]) (rest := []) (c_L_asks l hl D cy x0 0 v13 0 0 (x4 - x4 / 3 * 3) (((gA S138 a144 ((0 : Int32).toNatClampNeg)) / 24) + 2) 1 S138 m150 m151 _ h) rfl rfl (by simp [va_cat, vi_cat, vl_cat]) dL_isRefused_1120 ⟨hc152, hs153⟩ (fun r149 S148 h => ?_)
          refine G_ldc C (v := (-1712000)) (im tw_4_175) dL_isRefused_1123 ?_
          refine G_icmp_ne C (tgt := 1269) dL_isRefused_1125 (by decide) (fun hc => ?_) (fun hc => ?_)
          · have h := h.1 hc
            refine G_lv C (lv' := [(0, va_rf x0), (1, va_rf x1), (2, va_rf x2), (3, va_rf x3), (4, Value.int x4), (5, Value.int v5), (8, Value.int v8), (9, Value.int v9), (10, Value.long v10), (13, Value.int v13)]) [0, 1, 2, 3, 4, 5, 6, 7, 8, 9] rfl ?_
            exact J1269 _ _ _ _ _ _ _ _ h
          · have h := h.2 hc
            refine G_aload_n C (x := x0) 0 dL_isRefused_1128 rfl rfl ?_
            refine G_iconst C (v := 0) dL_isRefused_1129 (by decide) ?_
            refine G_iload C (x := v13) 9 dL_isRefused_1130 rfl ?_
            refine G_iconst C (v := 0) dL_isRefused_1132 (by decide) ?_
            refine G_iconst C (v := 0) dL_isRefused_1133 (by decide) ?_
            refine G_iconst C (v := 3) dL_isRefused_1134 (by decide) ?_
            refine G_sipush C (v := 999) dL_isRefused_1135 (by decide) ?_
            refine G_iload C (x := v5) 5 dL_isRefused_1138 rfl ?_
            refine G_if_eq C (tgt := 1153) dL_isRefused_1140 (by decide) (fun hc => ?_) (fun hc => ?_)
            · have h := h.1 hc
              refine G_bipush C (v := 61) dL_isRefused_1153 (by decide) ?_
              refine G_lv C (lv' := [(0, va_rf x0), (1, va_rf x1), (2, va_rf x2), (3, va_rf x3), (4, Value.int x4), (5, Value.int v5), (8, Value.int v8), (9, Value.int v9), (10, Value.long v10), (13, Value.int v13), (14, Value.int v14)]) [0, 1, 2, 3, 4, 5, 6, 7, 8, 9, 10] rfl ?_
              exact J1155 _ _ _ _ _ _ _ _ _ _ _ _ _ _ _ _ _ h
            · have h := h.2 hc
              refine G_iconst C (v := 0) dL_isRefused_1143 (by decide) ?_
              refine G_iload C (x := x4) 4 dL_isRefused_1144 rfl ?_
              refine G_bipush C (v := 30) dL_isRefused_1146 (by decide) ?_
              refine G_irem C dL_isRefused_1148 (by decide) ?_
              refine G_isub C dL_isRefused_1149 ?_
              refine G_goto C (tgt := 1155) dL_isRefused_1150 (by decide) ?_
              refine G_lv C (lv' := [(0, va_rf x0), (1, va_rf x1), (2, va_rf x2), (3, va_rf x3), (4, Value.int x4), (5, Value.int v5), (8, Value.int v8), (9, Value.int v9), (10, Value.long v10), (13, Value.int v13), (14, Value.int v14)]) [0, 1, 2, 3, 4, 5, 6, 7, 8, 9, 10] rfl ?_
              exact J1155 _ _ _ _ _ _ _ _ _ _ _ _ _ _ _ _ _ h
      have J1048 : ∀ (c0 n0 : Nat) (S : PT) (v5 : Int32) (v8 : Int32) (v9 : Int32) (v10 : Int64) (v13 : Int32) (v14 : Int32) (s0 : Option Nat) (s1 : Int32) (s2 : Int32) (s3 : Int32) (s4 : Int32) (s5 : Int32), w_L_isRefused_b1048 e0 m0 x0 x1 x2 x3 x4 mc ms post (w_L_isRefused_l738 e0 m0 x0 x1 x2 x3 x4 mc ms post n738) c0 n0 S v5 v8 v9 v10 v13 v14 s0 s1 s2 s3 s4 s5 → G p l e { frames := 11, cells := mc, slots := ms, locals := 270 } s m [va_rf x0, va_rf x1, va_rf x2, va_rf x3, Value.int x4].toArray below meth c D cy A s.heap 15 (QMi below D cy A [va_rf x0, va_rf x1, va_rf x2, va_rf x3, Value.int x4] s mc ms (fun r S => bo r ∧ post r S)) S c0 n0 1048 [(0, va_rf x0), (1, va_rf x1), (2, va_rf x2), (3, va_rf x3), (4, Value.int x4), (5, Value.int v5), (8, Value.int v8), (9, Value.int v9), (10, Value.long v10), (13, Value.int v13), (14, Value.int v14)] [Value.int s5, Value.int s4, Value.int s3, Value.int s2, Value.int s1, va_rf s0] := by
        intro c0 n0 S v5 v8 v9 v10 v13 v14 s0 s1 s2 s3 s4 s5 h
        unfold w_L_isRefused_b1048 at h
        obtain ⟨hc00, hn00, h⟩ := h
        refine G_sipush C (v := 999) dL_isRefused_1048 (by decide) ?_
        refine G_iconst C (v := 1) dL_isRefused_1051 (by decide) ?_
        obtain ⟨m156, m157, hc158, hs159, h⟩ := h
        refine G_callSWi C hZ tw_4_192 tw_4_193 tw_1_0 tw_4_194 hy_L_asks ⟨Nat.le_of_ble_eq_true rfl, Nat.le_of_ble_eq_true rfl⟩ (As := [va_rf s0, Value.int s1, Value.int s2, Value.int s3, Value.int s4, Value.int s5, Value.int 999, Value.int 1]) (rest := []) (c_L_asks l hl D cy s0 s1 s2 s3 s4 s5 999 1 S m156 m157 _ h) rfl rfl (by simp [va_cat, vi_cat, vl_cat]) dL_isRefused_1052 ⟨hc158, hs159⟩ (fun r155 S154 h => ?_)
        refine G_ldc C (v := (-1712000)) (im tw_4_175) dL_isRefused_1055 ?_
        refine G_icmp_ne C (tgt := 1269) dL_isRefused_1057 (by decide) (fun hc => ?_) (fun hc => ?_)
        · have h := h.1 hc
          refine G_lv C (lv' := [(0, va_rf x0), (1, va_rf x1), (2, va_rf x2), (3, va_rf x3), (4, Value.int x4), (5, Value.int v5), (8, Value.int v8), (9, Value.int v9), (10, Value.long v10), (13, Value.int v13)]) [0, 1, 2, 3, 4, 5, 6, 7, 8, 9] rfl ?_
          exact J1269 _ _ _ _ _ _ _ _ h
        · have h := h.2 hc
          refine G_aload_n C (x := x0) 0 dL_isRefused_1060 rfl rfl ?_
          refine G_iconst C (v := 0) dL_isRefused_1061 (by decide) ?_
          refine G_iload C (x := v13) 9 dL_isRefused_1062 rfl ?_
          refine G_iconst C (v := 0) dL_isRefused_1064 (by decide) ?_
          refine G_iconst C (v := 0) dL_isRefused_1065 (by decide) ?_
          refine G_iconst C (v := 3) dL_isRefused_1066 (by decide) ?_
          refine G_iload C (x := v5) 5 dL_isRefused_1067 rfl ?_
          refine G_if_eq C (tgt := 1089) dL_isRefused_1069 (by decide) (fun hc => ?_) (fun hc => ?_)
          · have h := h.1 hc
            refine G_sipush C (v := 1000) dL_isRefused_1089 (by decide) ?_
            refine G_lv C (lv' := [(0, va_rf x0), (1, va_rf x1), (2, va_rf x2), (3, va_rf x3), (4, Value.int x4), (5, Value.int v5), (8, Value.int v8), (9, Value.int v9), (10, Value.long v10), (13, Value.int v13), (14, Value.int v14)]) [0, 1, 2, 3, 4, 5, 6, 7, 8, 9, 10] rfl ?_
            exact J1092 _ _ _ _ _ _ _ _ _ _ _ _ _ _ _ _ h
          · have h := h.2 hc
            refine G_aload_n C (x := x1) 1 dL_isRefused_1072 rfl rfl ?_
            refine G_iconst C (v := 0) dL_isRefused_1073 (by decide) ?_
            obtain ⟨a160, ha161, h⟩ := h
            refine G_rf1 ha161 ?_
            obtain ⟨hk162, h⟩ := h
            obtain ⟨hi163, h⟩ := h
            refine G_iald C hk162 hi163 dL_isRefused_1074 ?_
            refine G_bipush C (v := 24) dL_isRefused_1075 (by decide) ?_
            refine G_idiv C dL_isRefused_1077 (by decide) ?_
            refine G_iconst C (v := 1) dL_isRefused_1078 (by decide) ?_
            refine G_isub C dL_isRefused_1079 ?_
            refine G_iload C (x := x4) 4 dL_isRefused_1080 rfl ?_
            refine G_bipush C (v := 30) dL_isRefused_1082 (by decide) ?_
            refine G_irem C dL_isRefused_1084 (by decide) ?_
            refine G_isub C dL_isRefused_1085 ?_
            refine G_goto C (tgt := 1092) dL_isRefused_1086 (by decide) ?_
            refine G_lv C (lv' := [(0, va_rf x0), (1, va_rf x1), (2, va_rf x2), (3, va_rf x3), (4, Value.int x4), (5, Value.int v5), (8, Value.int v8), (9, Value.int v9), (10, Value.long v10), (13, Value.int v13), (14, Value.int v14)]) [0, 1, 2, 3, 4, 5, 6, 7, 8, 9, 10] rfl ?_
            exact J1092 _ _ _ _ _ _ _ _ _ _ _ _ _ _ _ _ h
      have J945 : ∀ (c0 n0 : Nat) (S : PT) (v5 : Int32) (v8 : Int32) (v9 : Int32) (v10 : Int64) (v13 : Int32) (v14 : Int32) (s0 : Option Nat) (s1 : Int32) (s2 : Int32) (s3 : Int32) (s4 : Int32), w_L_isRefused_b945 e0 m0 x0 x1 x2 x3 x4 mc ms post (w_L_isRefused_l738 e0 m0 x0 x1 x2 x3 x4 mc ms post n738) c0 n0 S v5 v8 v9 v10 v13 v14 s0 s1 s2 s3 s4 → G p l e { frames := 11, cells := mc, slots := ms, locals := 270 } s m [va_rf x0, va_rf x1, va_rf x2, va_rf x3, Value.int x4].toArray below meth c D cy A s.heap 15 (QMi below D cy A [va_rf x0, va_rf x1, va_rf x2, va_rf x3, Value.int x4] s mc ms (fun r S => bo r ∧ post r S)) S c0 n0 945 [(0, va_rf x0), (1, va_rf x1), (2, va_rf x2), (3, va_rf x3), (4, Value.int x4), (5, Value.int v5), (8, Value.int v8), (9, Value.int v9), (10, Value.long v10), (13, Value.int v13), (14, Value.int v14)] [Value.int s4, Value.int s3, Value.int s2, Value.int s1, va_rf s0] := by
        intro c0 n0 S v5 v8 v9 v10 v13 v14 s0 s1 s2 s3 s4 h
        unfold w_L_isRefused_b945 at h
        obtain ⟨hc00, hn00, h⟩ := h
        refine G_iconst C (v := 0) dL_isRefused_945 (by decide) ?_
        refine G_iconst C (v := 0) dL_isRefused_946 (by decide) ?_
        obtain ⟨m166, m167, hc168, hs169, h⟩ := h
        refine G_callSi C hZ tw_4_186 tw_4_187 tw_1_0 tw_4_188 hy_L_off ⟨Nat.le_of_ble_eq_true rfl, Nat.le_of_ble_eq_true rfl⟩ (As := [va_rf s0, Value.int s1, Value.int s2, Value.int s3, Value.int s4, Value.int 0, Value.int 0]) (rest := []) (c_L_off l hl D cy e0 m0 he hm s0 s1 s2 s3 s4 0 0 S m166 m167 _ h) rfl rfl (by simp [va_cat, vi_cat, vl_cat]) dL_isRefused_947 ⟨hc168, hs169⟩ (fun r165 S164 h => ?_)
        obtain ⟨hb170, h⟩ := h
        refine G_if_eq C (tgt := 1269) dL_isRefused_950 (by decide) (fun hc => ?_) (fun hc => ?_)
        · have h := h.1 hc
          refine G_lv C (lv' := [(0, va_rf x0), (1, va_rf x1), (2, va_rf x2), (3, va_rf x3), (4, Value.int x4), (5, Value.int v5), (8, Value.int v8), (9, Value.int v9), (10, Value.long v10), (13, Value.int v13)]) [0, 1, 2, 3, 4, 5, 6, 7, 8, 9] rfl ?_
          exact J1269 _ _ _ _ _ _ _ _ h
        · have h := h.2 hc
          refine G_aload_n C (x := x0) 0 dL_isRefused_953 rfl rfl ?_
          refine G_bipush C (v := 21) dL_isRefused_954 (by decide) ?_
          refine G_iload C (x := v13) 9 dL_isRefused_956 rfl ?_
          refine G_iload C (x := v14) 10 dL_isRefused_958 rfl ?_
          refine G_iconst C (v := 0) dL_isRefused_960 (by decide) ?_
          obtain ⟨m173, m174, hc175, hs176, h⟩ := h
          refine G_callSi C hZ tw_4_189 tw_4_190 tw_1_0 tw_4_191 hy_L_no ⟨Nat.le_of_ble_eq_true rfl, Nat.le_of_ble_eq_true rfl⟩ (As := [va_rf x0, Value.int 21, Value.int v13, Value.int v14, Value.int 0]) (rest := []) (c_L_no l hl D cy e0 m0 he hm x0 21 v13 v14 0 S164 m173 m174 _ h) rfl rfl (by simp [va_cat, vi_cat, vl_cat]) dL_isRefused_961 ⟨hc175, hs176⟩ (fun r172 S171 h => ?_)
          obtain ⟨hb177, h⟩ := h
          refine G_if_eq C (tgt := 1269) dL_isRefused_964 (by decide) (fun hc => ?_) (fun hc => ?_)
          · have h := h.1 hc
            refine G_lv C (lv' := [(0, va_rf x0), (1, va_rf x1), (2, va_rf x2), (3, va_rf x3), (4, Value.int x4), (5, Value.int v5), (8, Value.int v8), (9, Value.int v9), (10, Value.long v10), (13, Value.int v13)]) [0, 1, 2, 3, 4, 5, 6, 7, 8, 9] rfl ?_
            exact J1269 _ _ _ _ _ _ _ _ h
          · have h := h.2 hc
            refine G_aload_n C (x := x0) 0 dL_isRefused_967 rfl rfl ?_
            refine G_iload C (x := v9) 7 dL_isRefused_968 rfl ?_
            refine G_iload C (x := v13) 9 dL_isRefused_970 rfl ?_
            refine G_iconst C (v := 0) dL_isRefused_972 (by decide) ?_
            refine G_iconst C (v := 0) dL_isRefused_973 (by decide) ?_
            refine G_iconst C (v := 3) dL_isRefused_974 (by decide) ?_
            refine G_sipush C (v := 999) dL_isRefused_975 (by decide) ?_
            refine G_iconst C (v := 1) dL_isRefused_978 (by decide) ?_
            obtain ⟨m180, m181, hc182, hs183, h⟩ := h
            refine G_callSWi C hZ tw_4_192 tw_4_193 tw_1_0 tw_4_194 hy_L_asks ⟨Nat.le_of_ble_eq_true rfl, Nat.le_of_ble_eq_true rfl⟩ (As := [va_rf x0, Value.int v9, Value.int v13, Value.int 0, Value.int 0, Value.int 3, Value.int 999, Value.int 1]) (rest := []) (c_L_asks l hl D cy x0 v9 v13 0 0 3 999 1 S171 m180 m181 _ h) rfl rfl (by simp [va_cat, vi_cat, vl_cat]) dL_isRefused_979 ⟨hc182, hs183⟩ (fun r179 S178 h => ?_)
            refine G_ldc C (v := (-1711000)) (im tw_4_174) dL_isRefused_982 ?_
            refine G_icmp_ne C (tgt := 1269) dL_isRefused_984 (by decide) (fun hc => ?_) (fun hc => ?_)
            · have h := h.1 hc
              refine G_lv C (lv' := [(0, va_rf x0), (1, va_rf x1), (2, va_rf x2), (3, va_rf x3), (4, Value.int x4), (5, Value.int v5), (8, Value.int v8), (9, Value.int v9), (10, Value.long v10), (13, Value.int v13)]) [0, 1, 2, 3, 4, 5, 6, 7, 8, 9] rfl ?_
              exact J1269 _ _ _ _ _ _ _ _ h
            · have h := h.2 hc
              refine G_aload_n C (x := x0) 0 dL_isRefused_987 rfl rfl ?_
              refine G_iconst C (v := 0) dL_isRefused_988 (by decide) ?_
              refine G_iload C (x := v13) 9 dL_isRefused_989 rfl ?_
              refine G_iconst C (v := 0) dL_isRefused_991 (by decide) ?_
              refine G_iload C (x := v14) 10 dL_isRefused_992 rfl ?_
              refine G_iconst C (v := 3) dL_isRefused_994 (by decide) ?_
              refine G_sipush C (v := 999) dL_isRefused_995 (by decide) ?_
              refine G_iconst C (v := 1) dL_isRefused_998 (by decide) ?_
              obtain ⟨m186, m187, hc188, hs189, h⟩ := h
              refine G_callSWi C hZ tw_4_192 tw_4_193 tw_1_0 tw_4_194 hy_L_asks ⟨Nat.le_of_ble_eq_true rfl, Nat.le_of_ble_eq_true rfl⟩ (As := [va_rf x0, Value.int 0, Value.int v13, Value.int 0, Value.int v14, Value.int 3, Value.int 999, Value.int 1]) (rest := []) (c_L_asks l hl D cy x0 0 v13 0 v14 3 999 1 S178 m186 m187 _ h) rfl rfl (by simp [va_cat, vi_cat, vl_cat]) dL_isRefused_999 ⟨hc188, hs189⟩ (fun r185 S184 h => ?_)
              refine G_ldc C (v := (-1711000)) (im tw_4_174) dL_isRefused_1002 ?_
              refine G_icmp_ne C (tgt := 1269) dL_isRefused_1004 (by decide) (fun hc => ?_) (fun hc => ?_)
              · have h := h.1 hc
                refine G_lv C (lv' := [(0, va_rf x0), (1, va_rf x1), (2, va_rf x2), (3, va_rf x3), (4, Value.int x4), (5, Value.int v5), (8, Value.int v8), (9, Value.int v9), (10, Value.long v10), (13, Value.int v13)]) [0, 1, 2, 3, 4, 5, 6, 7, 8, 9] rfl ?_
                exact J1269 _ _ _ _ _ _ _ _ h
              · have h := h.2 hc
                refine G_aload_n C (x := x0) 0 dL_isRefused_1007 rfl rfl ?_
                refine G_iconst C (v := 0) dL_isRefused_1008 (by decide) ?_
                refine G_iload C (x := v13) 9 dL_isRefused_1009 rfl ?_
                refine G_iconst C (v := 1) dL_isRefused_1011 (by decide) ?_
                refine G_iconst C (v := 0) dL_isRefused_1012 (by decide) ?_
                refine G_iconst C (v := 3) dL_isRefused_1013 (by decide) ?_
                refine G_sipush C (v := 999) dL_isRefused_1014 (by decide) ?_
                refine G_iconst C (v := 1) dL_isRefused_1017 (by decide) ?_
                obtain ⟨m192, m193, hc194, hs195, h⟩ := h
                refine G_callSWi C hZ tw_4_192 tw_4_193 tw_1_0 tw_4_194 hy_L_asks ⟨Nat.le_of_ble_eq_true rfl, Nat.le_of_ble_eq_true rfl⟩ (As := [va_rf x0, Value.int 0, Value.int v13, Value.int 1, Value.int 0, Value.int 3, Value.int 999, Value.int 1]) (rest := []) (c_L_asks l hl D cy x0 0 v13 1 0 3 999 1 S184 m192 m193 _ h) rfl rfl (by simp [va_cat, vi_cat, vl_cat]) dL_isRefused_1018 ⟨hc194, hs195⟩ (fun r191 S190 h => ?_)
                refine G_ldc C (v := (-1712000)) (im tw_4_175) dL_isRefused_1021 ?_
                refine G_icmp_ne C (tgt := 1269) dL_isRefused_1023 (by decide) (fun hc => ?_) (fun hc => ?_)
                · have h := h.1 hc
                  refine G_lv C (lv' := [(0, va_rf x0), (1, va_rf x1), (2, va_rf x2), (3, va_rf x3), (4, Value.int x4), (5, Value.int v5), (8, Value.int v8), (9, Value.int v9), (10, Value.long v10), (13, Value.int v13)]) [0, 1, 2, 3, 4, 5, 6, 7, 8, 9] rfl ?_
                  exact J1269 _ _ _ _ _ _ _ _ h
                · have h := h.2 hc
                  refine G_aload_n C (x := x0) 0 dL_isRefused_1026 rfl rfl ?_
                  refine G_iconst C (v := 0) dL_isRefused_1027 (by decide) ?_
                  refine G_iload C (x := v13) 9 dL_isRefused_1028 rfl ?_
                  refine G_iconst C (v := 0) dL_isRefused_1030 (by decide) ?_
                  refine G_iconst C (v := 0) dL_isRefused_1031 (by decide) ?_
                  refine G_iload C (x := v5) 5 dL_isRefused_1032 rfl ?_
                  refine G_if_eq C (tgt := 1041) dL_isRefused_1034 (by decide) (fun hc => ?_) (fun hc => ?_)
                  · have h := h.1 hc
                    refine G_iconst C (v := 4) dL_isRefused_1041 (by decide) ?_
                    refine G_iload C (x := x4) 4 dL_isRefused_1042 rfl ?_
                    refine G_bipush C (v := 30) dL_isRefused_1044 (by decide) ?_
                    refine G_irem C dL_isRefused_1046 (by decide) ?_
                    refine G_iadd C dL_isRefused_1047 ?_
                    refine G_lv C (lv' := [(0, va_rf x0), (1, va_rf x1), (2, va_rf x2), (3, va_rf x3), (4, Value.int x4), (5, Value.int v5), (8, Value.int v8), (9, Value.int v9), (10, Value.long v10), (13, Value.int v13), (14, Value.int v14)]) [0, 1, 2, 3, 4, 5, 6, 7, 8, 9, 10] rfl ?_
                    exact J1048 _ _ _ _ _ _ _ _ _ _ _ _ _ _ _ h
                  · have h := h.2 hc
                    refine G_iconst C (v := (-1)) dL_isRefused_1037 (by decide) ?_
                    refine G_goto C (tgt := 1048) dL_isRefused_1038 (by decide) ?_
                    refine G_lv C (lv' := [(0, va_rf x0), (1, va_rf x1), (2, va_rf x2), (3, va_rf x3), (4, Value.int x4), (5, Value.int v5), (8, Value.int v8), (9, Value.int v9), (10, Value.long v10), (13, Value.int v13), (14, Value.int v14)]) [0, 1, 2, 3, 4, 5, 6, 7, 8, 9, 10] rfl ?_
                    exact J1048 _ _ _ _ _ _ _ _ _ _ _ _ _ _ _ h
      have J885 : ∀ (c0 n0 : Nat) (S : PT) (v5 : Int32) (v8 : Int32) (v9 : Int32) (v10 : Int64) (v13 : Int32) (v14 : Int32) (s0 : Option Nat) (s1 : Int32) (s2 : Int32) (s3 : Int32) (s4 : Int32) (s5 : Int32) (s6 : Int32), w_L_isRefused_b885 e0 m0 x0 x1 x2 x3 x4 mc ms post (w_L_isRefused_l738 e0 m0 x0 x1 x2 x3 x4 mc ms post n738) c0 n0 S v5 v8 v9 v10 v13 v14 s0 s1 s2 s3 s4 s5 s6 → G p l e { frames := 11, cells := mc, slots := ms, locals := 270 } s m [va_rf x0, va_rf x1, va_rf x2, va_rf x3, Value.int x4].toArray below meth c D cy A s.heap 15 (QMi below D cy A [va_rf x0, va_rf x1, va_rf x2, va_rf x3, Value.int x4] s mc ms (fun r S => bo r ∧ post r S)) S c0 n0 885 [(0, va_rf x0), (1, va_rf x1), (2, va_rf x2), (3, va_rf x3), (4, Value.int x4), (5, Value.int v5), (8, Value.int v8), (9, Value.int v9), (10, Value.long v10), (13, Value.int v13), (14, Value.int v14)] [Value.int s6, Value.int s5, Value.int s4, Value.int s3, Value.int s2, Value.int s1, va_rf s0] := by
        intro c0 n0 S v5 v8 v9 v10 v13 v14 s0 s1 s2 s3 s4 s5 s6 h
        unfold w_L_isRefused_b885 at h
        obtain ⟨hc00, hn00, h⟩ := h
        obtain ⟨m198, m199, hc200, hs201, h⟩ := h
        refine G_callSi C hZ tw_4_186 tw_4_187 tw_1_0 tw_4_188 hy_L_off ⟨Nat.le_of_ble_eq_true rfl, Nat.le_of_ble_eq_true rfl⟩ (As := [va_rf s0, Value.int s1, Value.int s2, Value.int s3, Value.int s4, Value.int s5, Value.int s6]) (rest := []) (c_L_off l hl D cy e0 m0 he hm s0 s1 s2 s3 s4 s5 s6 S m198 m199 _ h) rfl rfl (by simp [va_cat, vi_cat, vl_cat]) dL_isRefused_885 ⟨hc200, hs201⟩ (fun r197 S196 h => ?_)
        obtain ⟨hb202, h⟩ := h
        refine G_if_eq C (tgt := 1269) dL_isRefused_888 (by decide) (fun hc => ?_) (fun hc => ?_)
        · have h := h.1 hc
          refine G_lv C (lv' := [(0, va_rf x0), (1, va_rf x1), (2, va_rf x2), (3, va_rf x3), (4, Value.int x4), (5, Value.int v5), (8, Value.int v8), (9, Value.int v9), (10, Value.long v10), (13, Value.int v13)]) [0, 1, 2, 3, 4, 5, 6, 7, 8, 9] rfl ?_
          exact J1269 _ _ _ _ _ _ _ _ h
        · have h := h.2 hc
          refine G_aload_n C (x := x0) 0 dL_isRefused_891 rfl rfl ?_
          refine G_bipush C (v := 7) dL_isRefused_892 (by decide) ?_
          refine G_iload C (x := v13) 9 dL_isRefused_894 rfl ?_
          refine G_iload C (x := v14) 10 dL_isRefused_896 rfl ?_
          refine G_iconst C (v := 0) dL_isRefused_898 (by decide) ?_
          obtain ⟨m205, m206, hc207, hs208, h⟩ := h
          refine G_callSi C hZ tw_4_189 tw_4_190 tw_1_0 tw_4_191 hy_L_no ⟨Nat.le_of_ble_eq_true rfl, Nat.le_of_ble_eq_true rfl⟩ (As := [va_rf x0, Value.int 7, Value.int v13, Value.int v14, Value.int 0]) (rest := []) (c_L_no l hl D cy e0 m0 he hm x0 7 v13 v14 0 S196 m205 m206 _ h) rfl rfl (by simp [va_cat, vi_cat, vl_cat]) dL_isRefused_899 ⟨hc207, hs208⟩ (fun r204 S203 h => ?_)
          obtain ⟨hb209, h⟩ := h
          refine G_if_eq C (tgt := 1269) dL_isRefused_902 (by decide) (fun hc => ?_) (fun hc => ?_)
          · have h := h.1 hc
            refine G_lv C (lv' := [(0, va_rf x0), (1, va_rf x1), (2, va_rf x2), (3, va_rf x3), (4, Value.int x4), (5, Value.int v5), (8, Value.int v8), (9, Value.int v9), (10, Value.long v10), (13, Value.int v13)]) [0, 1, 2, 3, 4, 5, 6, 7, 8, 9] rfl ?_
            exact J1269 _ _ _ _ _ _ _ _ h
          · have h := h.2 hc
            refine G_aload_n C (x := x0) 0 dL_isRefused_905 rfl rfl ?_
            refine G_bipush C (v := 20) dL_isRefused_906 (by decide) ?_
            refine G_iload C (x := v13) 9 dL_isRefused_908 rfl ?_
            refine G_iload C (x := v14) 10 dL_isRefused_910 rfl ?_
            refine G_sipush C (v := 999) dL_isRefused_912 (by decide) ?_
            obtain ⟨m212, m213, hc214, hs215, h⟩ := h
            refine G_callSi C hZ tw_4_189 tw_4_190 tw_1_0 tw_4_191 hy_L_no ⟨Nat.le_of_ble_eq_true rfl, Nat.le_of_ble_eq_true rfl⟩ (As := [va_rf x0, Value.int 20, Value.int v13, Value.int v14, Value.int 999]) (rest := []) (c_L_no l hl D cy e0 m0 he hm x0 20 v13 v14 999 S203 m212 m213 _ h) rfl rfl (by simp [va_cat, vi_cat, vl_cat]) dL_isRefused_915 ⟨hc214, hs215⟩ (fun r211 S210 h => ?_)
            obtain ⟨hb216, h⟩ := h
            refine G_if_eq C (tgt := 1269) dL_isRefused_918 (by decide) (fun hc => ?_) (fun hc => ?_)
            · have h := h.1 hc
              refine G_lv C (lv' := [(0, va_rf x0), (1, va_rf x1), (2, va_rf x2), (3, va_rf x3), (4, Value.int x4), (5, Value.int v5), (8, Value.int v8), (9, Value.int v9), (10, Value.long v10), (13, Value.int v13)]) [0, 1, 2, 3, 4, 5, 6, 7, 8, 9] rfl ?_
              exact J1269 _ _ _ _ _ _ _ _ h
            · have h := h.2 hc
              refine G_aload_n C (x := x0) 0 dL_isRefused_921 rfl rfl ?_
              refine G_bipush C (v := 20) dL_isRefused_922 (by decide) ?_
              refine G_iload C (x := v13) 9 dL_isRefused_924 rfl ?_
              refine G_iconst C (v := 0) dL_isRefused_926 (by decide) ?_
              refine G_iload C (x := v5) 5 dL_isRefused_927 rfl ?_
              refine G_if_eq C (tgt := 942) dL_isRefused_929 (by decide) (fun hc => ?_) (fun hc => ?_)
              · have h := h.1 hc
                refine G_sipush C (v := 301) dL_isRefused_942 (by decide) ?_
                refine G_lv C (lv' := [(0, va_rf x0), (1, va_rf x1), (2, va_rf x2), (3, va_rf x3), (4, Value.int x4), (5, Value.int v5), (8, Value.int v8), (9, Value.int v9), (10, Value.long v10), (13, Value.int v13), (14, Value.int v14)]) [0, 1, 2, 3, 4, 5, 6, 7, 8, 9, 10] rfl ?_
                exact J945 _ _ _ _ _ _ _ _ _ _ _ _ _ _ h
              · have h := h.2 hc
                refine G_iconst C (v := (-1)) dL_isRefused_932 (by decide) ?_
                refine G_iload C (x := x4) 4 dL_isRefused_933 rfl ?_
                refine G_bipush C (v := 30) dL_isRefused_935 (by decide) ?_
                refine G_irem C dL_isRefused_937 (by decide) ?_
                refine G_isub C dL_isRefused_938 ?_
                refine G_goto C (tgt := 945) dL_isRefused_939 (by decide) ?_
                refine G_lv C (lv' := [(0, va_rf x0), (1, va_rf x1), (2, va_rf x2), (3, va_rf x3), (4, Value.int x4), (5, Value.int v5), (8, Value.int v8), (9, Value.int v9), (10, Value.long v10), (13, Value.int v13), (14, Value.int v14)]) [0, 1, 2, 3, 4, 5, 6, 7, 8, 9, 10] rfl ?_
                exact J945 _ _ _ _ _ _ _ _ _ _ _ _ _ _ h
      have J802 : ∀ (c0 n0 : Nat) (S : PT) (v5 : Int32) (v8 : Int32) (v9 : Int32) (v10 : Int64) (v13 : Int32) (v14 : Int32) (s0 : Option Nat) (s1 : Int32) (s2 : Int32) (s3 : Int32) (s4 : Int32), w_L_isRefused_b802 e0 m0 x0 x1 x2 x3 x4 mc ms post (w_L_isRefused_l738 e0 m0 x0 x1 x2 x3 x4 mc ms post n738) c0 n0 S v5 v8 v9 v10 v13 v14 s0 s1 s2 s3 s4 → G p l e { frames := 11, cells := mc, slots := ms, locals := 270 } s m [va_rf x0, va_rf x1, va_rf x2, va_rf x3, Value.int x4].toArray below meth c D cy A s.heap 15 (QMi below D cy A [va_rf x0, va_rf x1, va_rf x2, va_rf x3, Value.int x4] s mc ms (fun r S => bo r ∧ post r S)) S c0 n0 802 [(0, va_rf x0), (1, va_rf x1), (2, va_rf x2), (3, va_rf x3), (4, Value.int x4), (5, Value.int v5), (8, Value.int v8), (9, Value.int v9), (10, Value.long v10), (13, Value.int v13), (14, Value.int v14)] [Value.int s4, Value.int s3, Value.int s2, Value.int s1, va_rf s0] := by
        intro c0 n0 S v5 v8 v9 v10 v13 v14 s0 s1 s2 s3 s4 h
        unfold w_L_isRefused_b802 at h
        obtain ⟨hc00, hn00, h⟩ := h
        refine G_iconst C (v := 0) dL_isRefused_802 (by decide) ?_
        refine G_iconst C (v := 0) dL_isRefused_803 (by decide) ?_
        obtain ⟨m219, m220, hc221, hs222, h⟩ := h
        refine G_callSi C hZ tw_4_186 tw_4_187 tw_1_0 tw_4_188 hy_L_off ⟨Nat.le_of_ble_eq_true rfl, Nat.le_of_ble_eq_true rfl⟩ (As := [va_rf s0, Value.int s1, Value.int s2, Value.int s3, Value.int s4, Value.int 0, Value.int 0]) (rest := []) (c_L_off l hl D cy e0 m0 he hm s0 s1 s2 s3 s4 0 0 S m219 m220 _ h) rfl rfl (by simp [va_cat, vi_cat, vl_cat]) dL_isRefused_804 ⟨hc221, hs222⟩ (fun r218 S217 h => ?_)
        obtain ⟨hb223, h⟩ := h
        refine G_if_eq C (tgt := 1269) dL_isRefused_807 (by decide) (fun hc => ?_) (fun hc => ?_)
        · have h := h.1 hc
          refine G_lv C (lv' := [(0, va_rf x0), (1, va_rf x1), (2, va_rf x2), (3, va_rf x3), (4, Value.int x4), (5, Value.int v5), (8, Value.int v8), (9, Value.int v9), (10, Value.long v10), (13, Value.int v13)]) [0, 1, 2, 3, 4, 5, 6, 7, 8, 9] rfl ?_
          exact J1269 _ _ _ _ _ _ _ _ h
        · have h := h.2 hc
          refine G_aload_n C (x := x0) 0 dL_isRefused_810 rfl rfl ?_
          refine G_iconst C (v := 3) dL_isRefused_811 (by decide) ?_
          refine G_iload C (x := v9) 7 dL_isRefused_812 rfl ?_
          refine G_iload C (x := v13) 9 dL_isRefused_814 rfl ?_
          refine G_iconst C (v := 0) dL_isRefused_816 (by decide) ?_
          refine G_iconst C (v := 0) dL_isRefused_817 (by decide) ?_
          refine G_iconst C (v := 5) dL_isRefused_818 (by decide) ?_
          obtain ⟨m226, m227, hc228, hs229, h⟩ := h
          refine G_callSWi C hZ tw_2_35 tw_2_36 tw_1_0 tw_2_37 hy_L_act ⟨Nat.le_of_ble_eq_true rfl, Nat.le_of_ble_eq_true rfl⟩ (As := [va_rf x0, Value.int 3, Value.int v9, Value.int v13, Value.int 0, Value.int 0, Value.int 5]) (rest := []) (c_L_act l hl D cy e0 m0 he hm x0 3 v9 v13 0 0 5 S217 m226 m227 _ h) rfl rfl (by simp [va_cat, vi_cat, vl_cat]) dL_isRefused_819 ⟨hc228, hs229⟩ (fun r225 S224 h => ?_)
          refine G_ldc C (v := (-1711000)) (im tw_4_174) dL_isRefused_822 ?_
          refine G_icmp_ne C (tgt := 1269) dL_isRefused_824 (by decide) (fun hc => ?_) (fun hc => ?_)
          · have h := h.1 hc
            refine G_lv C (lv' := [(0, va_rf x0), (1, va_rf x1), (2, va_rf x2), (3, va_rf x3), (4, Value.int x4), (5, Value.int v5), (8, Value.int v8), (9, Value.int v9), (10, Value.long v10), (13, Value.int v13)]) [0, 1, 2, 3, 4, 5, 6, 7, 8, 9] rfl ?_
            exact J1269 _ _ _ _ _ _ _ _ h
          · have h := h.2 hc
            refine G_aload_n C (x := x0) 0 dL_isRefused_827 rfl rfl ?_
            refine G_iconst C (v := 3) dL_isRefused_828 (by decide) ?_
            refine G_iconst C (v := 0) dL_isRefused_829 (by decide) ?_
            refine G_iload C (x := v13) 9 dL_isRefused_830 rfl ?_
            refine G_iload C (x := v14) 10 dL_isRefused_832 rfl ?_
            refine G_iconst C (v := 0) dL_isRefused_834 (by decide) ?_
            refine G_iconst C (v := 5) dL_isRefused_835 (by decide) ?_
            obtain ⟨m232, m233, hc234, hs235, h⟩ := h
            refine G_callSWi C hZ tw_2_35 tw_2_36 tw_1_0 tw_2_37 hy_L_act ⟨Nat.le_of_ble_eq_true rfl, Nat.le_of_ble_eq_true rfl⟩ (As := [va_rf x0, Value.int 3, Value.int 0, Value.int v13, Value.int v14, Value.int 0, Value.int 5]) (rest := []) (c_L_act l hl D cy e0 m0 he hm x0 3 0 v13 v14 0 5 S224 m232 m233 _ h) rfl rfl (by simp [va_cat, vi_cat, vl_cat]) dL_isRefused_836 ⟨hc234, hs235⟩ (fun r231 S230 h => ?_)
            refine G_ldc C (v := (-1711000)) (im tw_4_174) dL_isRefused_839 ?_
            refine G_icmp_ne C (tgt := 1269) dL_isRefused_841 (by decide) (fun hc => ?_) (fun hc => ?_)
            · have h := h.1 hc
              refine G_lv C (lv' := [(0, va_rf x0), (1, va_rf x1), (2, va_rf x2), (3, va_rf x3), (4, Value.int x4), (5, Value.int v5), (8, Value.int v8), (9, Value.int v9), (10, Value.long v10), (13, Value.int v13)]) [0, 1, 2, 3, 4, 5, 6, 7, 8, 9] rfl ?_
              exact J1269 _ _ _ _ _ _ _ _ h
            · have h := h.2 hc
              refine G_aload_n C (x := x0) 0 dL_isRefused_844 rfl rfl ?_
              refine G_iconst C (v := 3) dL_isRefused_845 (by decide) ?_
              refine G_iconst C (v := 0) dL_isRefused_846 (by decide) ?_
              refine G_iload C (x := v13) 9 dL_isRefused_847 rfl ?_
              refine G_iconst C (v := 1) dL_isRefused_849 (by decide) ?_
              refine G_iconst C (v := 0) dL_isRefused_850 (by decide) ?_
              refine G_bipush C (v := 50) dL_isRefused_851 (by decide) ?_
              obtain ⟨m238, m239, hc240, hs241, h⟩ := h
              refine G_callSi C hZ tw_4_186 tw_4_187 tw_1_0 tw_4_188 hy_L_off ⟨Nat.le_of_ble_eq_true rfl, Nat.le_of_ble_eq_true rfl⟩ (As := [va_rf x0, Value.int 3, Value.int 0, Value.int v13, Value.int 1, Value.int 0, Value.int 50]) (rest := []) (c_L_off l hl D cy e0 m0 he hm x0 3 0 v13 1 0 50 S230 m238 m239 _ h) rfl rfl (by simp [va_cat, vi_cat, vl_cat]) dL_isRefused_853 ⟨hc240, hs241⟩ (fun r237 S236 h => ?_)
              obtain ⟨hb242, h⟩ := h
              refine G_if_eq C (tgt := 1269) dL_isRefused_856 (by decide) (fun hc => ?_) (fun hc => ?_)
              · have h := h.1 hc
                refine G_lv C (lv' := [(0, va_rf x0), (1, va_rf x1), (2, va_rf x2), (3, va_rf x3), (4, Value.int x4), (5, Value.int v5), (8, Value.int v8), (9, Value.int v9), (10, Value.long v10), (13, Value.int v13)]) [0, 1, 2, 3, 4, 5, 6, 7, 8, 9] rfl ?_
                exact J1269 _ _ _ _ _ _ _ _ h
              · have h := h.2 hc
                refine G_aload_n C (x := x0) 0 dL_isRefused_859 rfl rfl ?_
                refine G_iconst C (v := 3) dL_isRefused_860 (by decide) ?_
                refine G_iconst C (v := 0) dL_isRefused_861 (by decide) ?_
                refine G_iload C (x := v13) 9 dL_isRefused_862 rfl ?_
                refine G_iconst C (v := 0) dL_isRefused_864 (by decide) ?_
                refine G_iconst C (v := 0) dL_isRefused_865 (by decide) ?_
                refine G_iload C (x := v5) 5 dL_isRefused_866 rfl ?_
                refine G_if_eq C (tgt := 882) dL_isRefused_868 (by decide) (fun hc => ?_) (fun hc => ?_)
                · have h := h.1 hc
                  refine G_sipush C (v := 301) dL_isRefused_882 (by decide) ?_
                  refine G_lv C (lv' := [(0, va_rf x0), (1, va_rf x1), (2, va_rf x2), (3, va_rf x3), (4, Value.int x4), (5, Value.int v5), (8, Value.int v8), (9, Value.int v9), (10, Value.long v10), (13, Value.int v13), (14, Value.int v14)]) [0, 1, 2, 3, 4, 5, 6, 7, 8, 9, 10] rfl ?_
                  exact J885 _ _ _ _ _ _ _ _ _ _ _ _ _ _ _ _ h
                · have h := h.2 hc
                  refine G_bipush C (v := 9) dL_isRefused_871 (by decide) ?_
                  refine G_iload C (x := x4) 4 dL_isRefused_873 rfl ?_
                  refine G_bipush C (v := 30) dL_isRefused_875 (by decide) ?_
                  refine G_irem C dL_isRefused_877 (by decide) ?_
                  refine G_isub C dL_isRefused_878 ?_
                  refine G_goto C (tgt := 885) dL_isRefused_879 (by decide) ?_
                  refine G_lv C (lv' := [(0, va_rf x0), (1, va_rf x1), (2, va_rf x2), (3, va_rf x3), (4, Value.int x4), (5, Value.int v5), (8, Value.int v8), (9, Value.int v9), (10, Value.long v10), (13, Value.int v13), (14, Value.int v14)]) [0, 1, 2, 3, 4, 5, 6, 7, 8, 9, 10] rfl ?_
                  exact J885 _ _ _ _ _ _ _ _ _ _ _ _ _ _ _ _ h
      have J792 : ∀ (c0 n0 : Nat) (S : PT) (v5 : Int32) (v8 : Int32) (v9 : Int32) (v10 : Int64) (v13 : Int32) (v14 : Int32) (s0 : Option Nat) (s1 : Int32) (s2 : Int32) (s3 : Int32), w_L_isRefused_b792 e0 m0 x0 x1 x2 x3 x4 mc ms post (w_L_isRefused_l738 e0 m0 x0 x1 x2 x3 x4 mc ms post n738) c0 n0 S v5 v8 v9 v10 v13 v14 s0 s1 s2 s3 → G p l e { frames := 11, cells := mc, slots := ms, locals := 270 } s m [va_rf x0, va_rf x1, va_rf x2, va_rf x3, Value.int x4].toArray below meth c D cy A s.heap 15 (QMi below D cy A [va_rf x0, va_rf x1, va_rf x2, va_rf x3, Value.int x4] s mc ms (fun r S => bo r ∧ post r S)) S c0 n0 792 [(0, va_rf x0), (1, va_rf x1), (2, va_rf x2), (3, va_rf x3), (4, Value.int x4), (5, Value.int v5), (8, Value.int v8), (9, Value.int v9), (10, Value.long v10), (13, Value.int v13), (14, Value.int v14)] [Value.int s3, Value.int s2, Value.int s1, va_rf s0] := by
        intro c0 n0 S v5 v8 v9 v10 v13 v14 s0 s1 s2 s3 h
        unfold w_L_isRefused_b792 at h
        obtain ⟨hc00, hn00, h⟩ := h
        refine G_iload C (x := v5) 5 dL_isRefused_792 rfl ?_
        refine G_if_eq C (tgt := 801) dL_isRefused_794 (by decide) (fun hc => ?_) (fun hc => ?_)
        · have h := h.1 hc
          refine G_iconst C (v := 4) dL_isRefused_801 (by decide) ?_
          refine G_lv C (lv' := [(0, va_rf x0), (1, va_rf x1), (2, va_rf x2), (3, va_rf x3), (4, Value.int x4), (5, Value.int v5), (8, Value.int v8), (9, Value.int v9), (10, Value.long v10), (13, Value.int v13), (14, Value.int v14)]) [0, 1, 2, 3, 4, 5, 6, 7, 8, 9, 10] rfl ?_
          exact J802 _ _ _ _ _ _ _ _ _ _ _ _ _ _ h
        · have h := h.2 hc
          refine G_iconst C (v := 5) dL_isRefused_797 (by decide) ?_
          refine G_goto C (tgt := 802) dL_isRefused_798 (by decide) ?_
          refine G_lv C (lv' := [(0, va_rf x0), (1, va_rf x1), (2, va_rf x2), (3, va_rf x3), (4, Value.int x4), (5, Value.int v5), (8, Value.int v8), (9, Value.int v9), (10, Value.long v10), (13, Value.int v13), (14, Value.int v14)]) [0, 1, 2, 3, 4, 5, 6, 7, 8, 9, 10] rfl ?_
          exact J802 _ _ _ _ _ _ _ _ _ _ _ _ _ _ h
      have J776 : ∀ (c0 n0 : Nat) (S : PT) (v5 : Int32) (v8 : Int32) (v9 : Int32) (v10 : Int64) (v13 : Int32) (s0 : Int32), w_L_isRefused_b776 e0 m0 x0 x1 x2 x3 x4 mc ms post (w_L_isRefused_l738 e0 m0 x0 x1 x2 x3 x4 mc ms post n738) c0 n0 S v5 v8 v9 v10 v13 s0 → G p l e { frames := 11, cells := mc, slots := ms, locals := 270 } s m [va_rf x0, va_rf x1, va_rf x2, va_rf x3, Value.int x4].toArray below meth c D cy A s.heap 15 (QMi below D cy A [va_rf x0, va_rf x1, va_rf x2, va_rf x3, Value.int x4] s mc ms (fun r S => bo r ∧ post r S)) S c0 n0 776 [(0, va_rf x0), (1, va_rf x1), (2, va_rf x2), (3, va_rf x3), (4, Value.int x4), (5, Value.int v5), (8, Value.int v8), (9, Value.int v9), (10, Value.long v10), (13, Value.int v13)] [Value.int s0] := by
        intro c0 n0 S v5 v8 v9 v10 v13 s0 h
        unfold w_L_isRefused_b776 at h
        obtain ⟨hc00, hn00, h⟩ := h
        refine G_istore C (i := 14) (lv' := [(14, Value.int s0), (0, va_rf x0), (1, va_rf x1), (2, va_rf x2), (3, va_rf x3), (4, Value.int x4), (5, Value.int v5), (8, Value.int v8), (9, Value.int v9), (10, Value.long v10), (13, Value.int v13)]) dL_isRefused_776 (by decide) (by first | rfl | simp [va_cat, vi_cat, vl_cat]) ?_
        refine G_aload_n C (x := x0) 1 dL_isRefused_778 rfl rfl ?_
        refine G_iconst C (v := 2) dL_isRefused_779 (by decide) ?_
        refine G_iload C (x := v13) 10 dL_isRefused_780 rfl ?_
        refine G_iload C (x := v5) 6 dL_isRefused_782 rfl ?_
        refine G_if_eq C (tgt := 791) dL_isRefused_784 (by decide) (fun hc => ?_) (fun hc => ?_)
        · have h := h.1 hc
          refine G_iconst C (v := 5) dL_isRefused_791 (by decide) ?_
          refine G_lv C (lv' := [(0, va_rf x0), (1, va_rf x1), (2, va_rf x2), (3, va_rf x3), (4, Value.int x4), (5, Value.int v5), (8, Value.int v8), (9, Value.int v9), (10, Value.long v10), (13, Value.int v13), (14, Value.int s0)]) [1, 2, 3, 4, 5, 6, 7, 8, 9, 10, 0] rfl ?_
          exact J792 _ _ _ _ _ _ _ _ _ _ _ _ _ h
        · have h := h.2 hc
          refine G_iconst C (v := (-1)) dL_isRefused_787 (by decide) ?_
          refine G_goto C (tgt := 792) dL_isRefused_788 (by decide) ?_
          refine G_lv C (lv' := [(0, va_rf x0), (1, va_rf x1), (2, va_rf x2), (3, va_rf x3), (4, Value.int x4), (5, Value.int v5), (8, Value.int v8), (9, Value.int v9), (10, Value.long v10), (13, Value.int v13), (14, Value.int s0)]) [1, 2, 3, 4, 5, 6, 7, 8, 9, 10, 0] rfl ?_
          exact J792 _ _ _ _ _ _ _ _ _ _ _ _ _ h
      intro c0 n0 S v5 v8 v9 v10 v12 v13 h
      rw [w_L_isRefused_l738] at h
      obtain ⟨hc00, hn00, h⟩ := h
      refine G_iload C (x := v13) 10 dL_isRefused_738 rfl ?_
      refine G_aload_n C (x := x1) 1 dL_isRefused_740 rfl rfl ?_
      refine G_iconst C (v := 1) dL_isRefused_741 (by decide) ?_
      obtain ⟨a243, ha244, h⟩ := h
      refine G_rf1 ha244 ?_
      obtain ⟨hk245, h⟩ := h
      obtain ⟨hi246, h⟩ := h
      refine G_iald C hk245 hi246 dL_isRefused_742 ?_
      refine G_icmp_ge C (tgt := 1278) dL_isRefused_743 (by decide) (fun hc => ?_) (fun hc => ?_)
      · have h := h.1 hc
        refine G_lv C (lv' := [(0, va_rf x0), (1, va_rf x1), (2, va_rf x2), (3, va_rf x3), (4, Value.int x4), (5, Value.int v5), (8, Value.int v8), (10, Value.long v10), (12, Value.int v12)]) [0, 1, 2, 3, 4, 5, 6, 8, 9] rfl ?_
        exact J1278 _ _ _ _ _ _ _ h
      · have h := h.2 hc
        refine G_iload C (x := v12) 9 dL_isRefused_746 rfl ?_
        refine G_if_eq C (tgt := 1278) dL_isRefused_748 (by decide) (fun hc => ?_) (fun hc => ?_)
        · have h := h.1 hc
          refine G_lv C (lv' := [(0, va_rf x0), (1, va_rf x1), (2, va_rf x2), (3, va_rf x3), (4, Value.int x4), (5, Value.int v5), (8, Value.int v8), (10, Value.long v10), (12, Value.int v12)]) [0, 1, 2, 3, 4, 5, 6, 8, 9] rfl ?_
          exact J1278 _ _ _ _ _ _ _ h
        · have h := h.2 hc
          refine G_iload C (x := v5) 5 dL_isRefused_751 rfl ?_
          refine G_if_eq C (tgt := 766) dL_isRefused_753 (by decide) (fun hc => ?_) (fun hc => ?_)
          · have h := h.1 hc
            refine G_aload_n C (x := x2) 2 dL_isRefused_766 rfl rfl ?_
            refine G_iload C (x := v13) 10 dL_isRefused_767 rfl ?_
            obtain ⟨a247, ha248, h⟩ := h
            refine G_rf1 ha248 ?_
            obtain ⟨hk249, h⟩ := h
            obtain ⟨hi250, h⟩ := h
            refine G_iald C hk249 hi250 dL_isRefused_769 ?_
            refine G_iload C (x := x4) 4 dL_isRefused_770 rfl ?_
            refine G_bipush C (v := 30) dL_isRefused_772 (by decide) ?_
            refine G_irem C dL_isRefused_774 (by decide) ?_
            refine G_iadd C dL_isRefused_775 ?_
            refine G_lv C (lv' := [(0, va_rf x0), (1, va_rf x1), (2, va_rf x2), (3, va_rf x3), (4, Value.int x4), (5, Value.int v5), (8, Value.int v8), (9, Value.int v9), (10, Value.long v10), (13, Value.int v13)]) [0, 1, 2, 3, 4, 5, 6, 7, 8, 10] rfl ?_
            exact J776 _ _ _ _ _ _ _ _ _ h
          · have h := h.2 hc
            refine G_iconst C (v := (-1)) dL_isRefused_756 (by decide) ?_
            refine G_iload C (x := x4) 4 dL_isRefused_757 rfl ?_
            refine G_bipush C (v := 30) dL_isRefused_759 (by decide) ?_
            refine G_irem C dL_isRefused_761 (by decide) ?_
            refine G_isub C dL_isRefused_762 ?_
            refine G_goto C (tgt := 776) dL_isRefused_763 (by decide) ?_
            refine G_lv C (lv' := [(0, va_rf x0), (1, va_rf x1), (2, va_rf x2), (3, va_rf x3), (4, Value.int x4), (5, Value.int v5), (8, Value.int v8), (9, Value.int v9), (10, Value.long v10), (13, Value.int v13)]) [0, 1, 2, 3, 4, 5, 6, 7, 8, 10] rfl ?_
            exact J776 _ _ _ _ _ _ _ _ _ h
  have J733 : ∀ (c0 n0 : Nat) (S : PT) (v5 : Int32) (v8 : Int32) (v9 : Int32) (v10 : Int64) (s0 : Int32), w_L_isRefused_b733 e0 m0 x0 x1 x2 x3 x4 mc ms post c0 n0 S v5 v8 v9 v10 s0 → G p l e { frames := 11, cells := mc, slots := ms, locals := 270 } s m [va_rf x0, va_rf x1, va_rf x2, va_rf x3, Value.int x4].toArray below meth c D cy A s.heap 15 (QMi below D cy A [va_rf x0, va_rf x1, va_rf x2, va_rf x3, Value.int x4] s mc ms (fun r S => bo r ∧ post r S)) S c0 n0 733 [(0, va_rf x0), (1, va_rf x1), (2, va_rf x2), (3, va_rf x3), (4, Value.int x4), (5, Value.int v5), (8, Value.int v8), (9, Value.int v9), (10, Value.long v10)] [Value.int s0] := by
    intro c0 n0 S v5 v8 v9 v10 s0 h
    unfold w_L_isRefused_b733 at h
    obtain ⟨hc00, hn00, h⟩ := h
    refine G_istore C (i := 12) (lv' := [(12, Value.int s0), (0, va_rf x0), (1, va_rf x1), (2, va_rf x2), (3, va_rf x3), (4, Value.int x4), (5, Value.int v5), (8, Value.int v8), (9, Value.int v9), (10, Value.long v10)]) dL_isRefused_733 (by decide) (by first | rfl | simp [va_cat, vi_cat, vl_cat]) ?_
    refine G_iconst C (v := 0) dL_isRefused_735 (by decide) ?_
    refine G_istore C (i := 13) (lv' := [(13, Value.int 0), (12, Value.int s0), (0, va_rf x0), (1, va_rf x1), (2, va_rf x2), (3, va_rf x3), (4, Value.int x4), (5, Value.int v5), (8, Value.int v8), (9, Value.int v9), (10, Value.long v10)]) dL_isRefused_736 (by decide) (by first | rfl | simp [va_cat, vi_cat, vl_cat]) ?_
    refine G_lv C (lv' := [(0, va_rf x0), (1, va_rf x1), (2, va_rf x2), (3, va_rf x3), (4, Value.int x4), (5, Value.int v5), (8, Value.int v8), (9, Value.int v9), (10, Value.long v10), (12, Value.int s0), (13, Value.int 0)]) [2, 3, 4, 5, 6, 7, 8, 9, 10, 1, 0] rfl ?_
    obtain ⟨n9, h⟩ := h
    exact J738 n9 _ _ _ _ _ _ _ _ _ h
  have J732 : ∀ (c0 n0 : Nat) (S : PT) (v5 : Int32) (v8 : Int32) (v9 : Int32) (v10 : Int64), w_L_isRefused_b732 e0 m0 x0 x1 x2 x3 x4 mc ms post c0 n0 S v5 v8 v9 v10 → G p l e { frames := 11, cells := mc, slots := ms, locals := 270 } s m [va_rf x0, va_rf x1, va_rf x2, va_rf x3, Value.int x4].toArray below meth c D cy A s.heap 15 (QMi below D cy A [va_rf x0, va_rf x1, va_rf x2, va_rf x3, Value.int x4] s mc ms (fun r S => bo r ∧ post r S)) S c0 n0 732 [(0, va_rf x0), (1, va_rf x1), (2, va_rf x2), (3, va_rf x3), (4, Value.int x4), (5, Value.int v5), (8, Value.int v8), (9, Value.int v9), (10, Value.long v10)] [] := by
    intro c0 n0 S v5 v8 v9 v10 h
    unfold w_L_isRefused_b732 at h
    obtain ⟨hc00, hn00, h⟩ := h
    refine G_iconst C (v := 0) dL_isRefused_732 (by decide) ?_
    refine G_lv C (lv' := [(0, va_rf x0), (1, va_rf x1), (2, va_rf x2), (3, va_rf x3), (4, Value.int x4), (5, Value.int v5), (8, Value.int v8), (9, Value.int v9), (10, Value.long v10)]) [0, 1, 2, 3, 4, 5, 6, 7, 8] rfl ?_
    exact J733 _ _ _ _ _ _ _ _ h
  have J701 : ∀ (c0 n0 : Nat) (S : PT) (v5 : Int32) (v6 : Int32) (v8 : Int32) (v9 : Int32) (v10 : Int64) (s0 : Option Nat) (s1 : Int32) (s2 : Int32), w_L_isRefused_b701 e0 m0 x0 x1 x2 x3 x4 mc ms post c0 n0 S v5 v6 v8 v9 v10 s0 s1 s2 → G p l e { frames := 11, cells := mc, slots := ms, locals := 270 } s m [va_rf x0, va_rf x1, va_rf x2, va_rf x3, Value.int x4].toArray below meth c D cy A s.heap 15 (QMi below D cy A [va_rf x0, va_rf x1, va_rf x2, va_rf x3, Value.int x4] s mc ms (fun r S => bo r ∧ post r S)) S c0 n0 701 [(0, va_rf x0), (1, va_rf x1), (2, va_rf x2), (3, va_rf x3), (4, Value.int x4), (5, Value.int v5), (6, Value.int v6), (8, Value.int v8), (9, Value.int v9), (10, Value.long v10)] [Value.int s2, Value.int s1, va_rf s0] := by
    intro c0 n0 S v5 v6 v8 v9 v10 s0 s1 s2 h
    unfold w_L_isRefused_b701 at h
    obtain ⟨hc00, hn00, h⟩ := h
    refine G_iconst C (v := 0) dL_isRefused_701 (by decide) ?_
    refine G_iconst C (v := 0) dL_isRefused_702 (by decide) ?_
    obtain ⟨m253, m254, hc255, hs256, h⟩ := h
    refine G_callSi C hZ tw_4_189 tw_4_190 tw_1_0 tw_4_191 hy_L_no ⟨Nat.le_of_ble_eq_true rfl, Nat.le_of_ble_eq_true rfl⟩ (As := [va_rf s0, Value.int s1, Value.int s2, Value.int 0, Value.int 0]) (rest := []) (c_L_no l hl D cy e0 m0 he hm s0 s1 s2 0 0 S m253 m254 _ h) rfl rfl (by simp [va_cat, vi_cat, vl_cat]) dL_isRefused_703 ⟨hc255, hs256⟩ (fun r252 S251 h => ?_)
    obtain ⟨hb257, h⟩ := h
    refine G_if_eq C (tgt := 732) dL_isRefused_706 (by decide) (fun hc => ?_) (fun hc => ?_)
    · have h := h.1 hc
      refine G_lv C (lv' := [(0, va_rf x0), (1, va_rf x1), (2, va_rf x2), (3, va_rf x3), (4, Value.int x4), (5, Value.int v5), (8, Value.int v8), (9, Value.int v9), (10, Value.long v10)]) [0, 1, 2, 3, 4, 5, 7, 8, 9] rfl ?_
      exact J732 _ _ _ _ _ _ _ h
    · have h := h.2 hc
      refine G_aload_n C (x := x0) 0 dL_isRefused_709 rfl rfl ?_
      refine G_iconst C (v := 0) dL_isRefused_710 (by decide) ?_
      refine G_iload C (x := v6) 6 dL_isRefused_711 rfl ?_
      refine G_iconst C (v := 0) dL_isRefused_713 (by decide) ?_
      refine G_iconst C (v := 0) dL_isRefused_714 (by decide) ?_
      refine G_iconst C (v := 3) dL_isRefused_715 (by decide) ?_
      refine G_sipush C (v := 999) dL_isRefused_716 (by decide) ?_
      refine G_iconst C (v := 1) dL_isRefused_719 (by decide) ?_
      obtain ⟨m260, m261, hc262, hs263, h⟩ := h
      refine G_callSWi C hZ tw_4_192 tw_4_193 tw_1_0 tw_4_194 hy_L_asks ⟨Nat.le_of_ble_eq_true rfl, Nat.le_of_ble_eq_true rfl⟩ (As := [va_rf x0, Value.int 0, Value.int v6, Value.int 0, Value.int 0, Value.int 3, Value.int 999, Value.int 1]) (rest := []) (c_L_asks l hl D cy x0 0 v6 0 0 3 999 1 S251 m260 m261 _ h) rfl rfl (by simp [va_cat, vi_cat, vl_cat]) dL_isRefused_720 ⟨hc262, hs263⟩ (fun r259 S258 h => ?_)
      refine G_ldc C (v := (-1711000)) (im tw_4_174) dL_isRefused_723 ?_
      refine G_icmp_ne C (tgt := 732) dL_isRefused_725 (by decide) (fun hc => ?_) (fun hc => ?_)
      · have h := h.1 hc
        refine G_lv C (lv' := [(0, va_rf x0), (1, va_rf x1), (2, va_rf x2), (3, va_rf x3), (4, Value.int x4), (5, Value.int v5), (8, Value.int v8), (9, Value.int v9), (10, Value.long v10)]) [0, 1, 2, 3, 4, 5, 7, 8, 9] rfl ?_
        exact J732 _ _ _ _ _ _ _ h
      · have h := h.2 hc
        refine G_iconst C (v := 1) dL_isRefused_728 (by decide) ?_
        refine G_goto C (tgt := 733) dL_isRefused_729 (by decide) ?_
        refine G_lv C (lv' := [(0, va_rf x0), (1, va_rf x1), (2, va_rf x2), (3, va_rf x3), (4, Value.int x4), (5, Value.int v5), (8, Value.int v8), (9, Value.int v9), (10, Value.long v10)]) [0, 1, 2, 3, 4, 5, 7, 8, 9] rfl ?_
        exact J733 _ _ _ _ _ _ _ _ h
  have J514 : ∀ (c0 n0 : Nat) (S : PT) (v5 : Int32) (v6 : Int32) (v8 : Int32) (v9 : Int32) (v10 : Int64) (s0 : Option Nat) (s1 : Int32) (s2 : Int32), w_L_isRefused_b514 e0 m0 x0 x1 x2 x3 x4 mc ms post c0 n0 S v5 v6 v8 v9 v10 s0 s1 s2 → G p l e { frames := 11, cells := mc, slots := ms, locals := 270 } s m [va_rf x0, va_rf x1, va_rf x2, va_rf x3, Value.int x4].toArray below meth c D cy A s.heap 15 (QMi below D cy A [va_rf x0, va_rf x1, va_rf x2, va_rf x3, Value.int x4] s mc ms (fun r S => bo r ∧ post r S)) S c0 n0 514 [(0, va_rf x0), (1, va_rf x1), (2, va_rf x2), (3, va_rf x3), (4, Value.int x4), (5, Value.int v5), (6, Value.int v6), (8, Value.int v8), (9, Value.int v9), (10, Value.long v10)] [Value.int s2, Value.int s1, va_rf s0] := by
    intro c0 n0 S v5 v6 v8 v9 v10 s0 s1 s2 h
    unfold w_L_isRefused_b514 at h
    obtain ⟨hc00, hn00, h⟩ := h
    refine G_iconst C (v := 0) dL_isRefused_514 (by decide) ?_
    refine G_iconst C (v := 0) dL_isRefused_515 (by decide) ?_
    refine G_iconst C (v := 0) dL_isRefused_516 (by decide) ?_
    refine G_iconst C (v := 0) dL_isRefused_517 (by decide) ?_
    obtain ⟨m266, m267, hc268, hs269, h⟩ := h
    refine G_callSi C hZ tw_4_186 tw_4_187 tw_1_0 tw_4_188 hy_L_off ⟨Nat.le_of_ble_eq_true rfl, Nat.le_of_ble_eq_true rfl⟩ (As := [va_rf s0, Value.int s1, Value.int s2, Value.int 0, Value.int 0, Value.int 0, Value.int 0]) (rest := []) (c_L_off l hl D cy e0 m0 he hm s0 s1 s2 0 0 0 0 S m266 m267 _ h) rfl rfl (by simp [va_cat, vi_cat, vl_cat]) dL_isRefused_518 ⟨hc268, hs269⟩ (fun r265 S264 h => ?_)
    obtain ⟨hb270, h⟩ := h
    refine G_if_eq C (tgt := 732) dL_isRefused_521 (by decide) (fun hc => ?_) (fun hc => ?_)
    · have h := h.1 hc
      refine G_lv C (lv' := [(0, va_rf x0), (1, va_rf x1), (2, va_rf x2), (3, va_rf x3), (4, Value.int x4), (5, Value.int v5), (8, Value.int v8), (9, Value.int v9), (10, Value.long v10)]) [0, 1, 2, 3, 4, 5, 7, 8, 9] rfl ?_
      exact J732 _ _ _ _ _ _ _ h
    · have h := h.2 hc
      refine G_aload_n C (x := x0) 0 dL_isRefused_524 rfl rfl ?_
      refine G_bipush C (v := 20) dL_isRefused_525 (by decide) ?_
      refine G_iload C (x := v6) 6 dL_isRefused_527 rfl ?_
      refine G_iconst C (v := 0) dL_isRefused_529 (by decide) ?_
      refine G_sipush C (v := 999) dL_isRefused_530 (by decide) ?_
      obtain ⟨m273, m274, hc275, hs276, h⟩ := h
      refine G_callSi C hZ tw_4_189 tw_4_190 tw_1_0 tw_4_191 hy_L_no ⟨Nat.le_of_ble_eq_true rfl, Nat.le_of_ble_eq_true rfl⟩ (As := [va_rf x0, Value.int 20, Value.int v6, Value.int 0, Value.int 999]) (rest := []) (c_L_no l hl D cy e0 m0 he hm x0 20 v6 0 999 S264 m273 m274 _ h) rfl rfl (by simp [va_cat, vi_cat, vl_cat]) dL_isRefused_533 ⟨hc275, hs276⟩ (fun r272 S271 h => ?_)
      obtain ⟨hb277, h⟩ := h
      refine G_if_eq C (tgt := 732) dL_isRefused_536 (by decide) (fun hc => ?_) (fun hc => ?_)
      · have h := h.1 hc
        refine G_lv C (lv' := [(0, va_rf x0), (1, va_rf x1), (2, va_rf x2), (3, va_rf x3), (4, Value.int x4), (5, Value.int v5), (8, Value.int v8), (9, Value.int v9), (10, Value.long v10)]) [0, 1, 2, 3, 4, 5, 7, 8, 9] rfl ?_
        exact J732 _ _ _ _ _ _ _ h
      · have h := h.2 hc
        refine G_aload_n C (x := x0) 0 dL_isRefused_539 rfl rfl ?_
        refine G_bipush C (v := 21) dL_isRefused_540 (by decide) ?_
        refine G_iload C (x := v6) 6 dL_isRefused_542 rfl ?_
        refine G_iconst C (v := 0) dL_isRefused_544 (by decide) ?_
        refine G_iconst C (v := 0) dL_isRefused_545 (by decide) ?_
        obtain ⟨m280, m281, hc282, hs283, h⟩ := h
        refine G_callSi C hZ tw_4_189 tw_4_190 tw_1_0 tw_4_191 hy_L_no ⟨Nat.le_of_ble_eq_true rfl, Nat.le_of_ble_eq_true rfl⟩ (As := [va_rf x0, Value.int 21, Value.int v6, Value.int 0, Value.int 0]) (rest := []) (c_L_no l hl D cy e0 m0 he hm x0 21 v6 0 0 S271 m280 m281 _ h) rfl rfl (by simp [va_cat, vi_cat, vl_cat]) dL_isRefused_546 ⟨hc282, hs283⟩ (fun r279 S278 h => ?_)
        obtain ⟨hb284, h⟩ := h
        refine G_if_eq C (tgt := 732) dL_isRefused_549 (by decide) (fun hc => ?_) (fun hc => ?_)
        · have h := h.1 hc
          refine G_lv C (lv' := [(0, va_rf x0), (1, va_rf x1), (2, va_rf x2), (3, va_rf x3), (4, Value.int x4), (5, Value.int v5), (8, Value.int v8), (9, Value.int v9), (10, Value.long v10)]) [0, 1, 2, 3, 4, 5, 7, 8, 9] rfl ?_
          exact J732 _ _ _ _ _ _ _ h
        · have h := h.2 hc
          refine G_aload_n C (x := x0) 0 dL_isRefused_552 rfl rfl ?_
          refine G_bipush C (v := 22) dL_isRefused_553 (by decide) ?_
          refine G_iload C (x := v6) 6 dL_isRefused_555 rfl ?_
          refine G_iconst C (v := 0) dL_isRefused_557 (by decide) ?_
          refine G_sipush C (v := 999) dL_isRefused_558 (by decide) ?_
          obtain ⟨m287, m288, hc289, hs290, h⟩ := h
          refine G_callSi C hZ tw_4_189 tw_4_190 tw_1_0 tw_4_191 hy_L_no ⟨Nat.le_of_ble_eq_true rfl, Nat.le_of_ble_eq_true rfl⟩ (As := [va_rf x0, Value.int 22, Value.int v6, Value.int 0, Value.int 999]) (rest := []) (c_L_no l hl D cy e0 m0 he hm x0 22 v6 0 999 S278 m287 m288 _ h) rfl rfl (by simp [va_cat, vi_cat, vl_cat]) dL_isRefused_561 ⟨hc289, hs290⟩ (fun r286 S285 h => ?_)
          obtain ⟨hb291, h⟩ := h
          refine G_if_eq C (tgt := 732) dL_isRefused_564 (by decide) (fun hc => ?_) (fun hc => ?_)
          · have h := h.1 hc
            refine G_lv C (lv' := [(0, va_rf x0), (1, va_rf x1), (2, va_rf x2), (3, va_rf x3), (4, Value.int x4), (5, Value.int v5), (8, Value.int v8), (9, Value.int v9), (10, Value.long v10)]) [0, 1, 2, 3, 4, 5, 7, 8, 9] rfl ?_
            exact J732 _ _ _ _ _ _ _ h
          · have h := h.2 hc
            refine G_aload_n C (x := x0) 0 dL_isRefused_567 rfl rfl ?_
            refine G_bipush C (v := 23) dL_isRefused_568 (by decide) ?_
            refine G_iload C (x := v6) 6 dL_isRefused_570 rfl ?_
            refine G_iconst C (v := 0) dL_isRefused_572 (by decide) ?_
            refine G_sipush C (v := 999) dL_isRefused_573 (by decide) ?_
            obtain ⟨m294, m295, hc296, hs297, h⟩ := h
            refine G_callSi C hZ tw_4_189 tw_4_190 tw_1_0 tw_4_191 hy_L_no ⟨Nat.le_of_ble_eq_true rfl, Nat.le_of_ble_eq_true rfl⟩ (As := [va_rf x0, Value.int 23, Value.int v6, Value.int 0, Value.int 999]) (rest := []) (c_L_no l hl D cy e0 m0 he hm x0 23 v6 0 999 S285 m294 m295 _ h) rfl rfl (by simp [va_cat, vi_cat, vl_cat]) dL_isRefused_576 ⟨hc296, hs297⟩ (fun r293 S292 h => ?_)
            obtain ⟨hb298, h⟩ := h
            refine G_if_eq C (tgt := 732) dL_isRefused_579 (by decide) (fun hc => ?_) (fun hc => ?_)
            · have h := h.1 hc
              refine G_lv C (lv' := [(0, va_rf x0), (1, va_rf x1), (2, va_rf x2), (3, va_rf x3), (4, Value.int x4), (5, Value.int v5), (8, Value.int v8), (9, Value.int v9), (10, Value.long v10)]) [0, 1, 2, 3, 4, 5, 7, 8, 9] rfl ?_
              exact J732 _ _ _ _ _ _ _ h
            · have h := h.2 hc
              refine G_aload_n C (x := x0) 0 dL_isRefused_582 rfl rfl ?_
              refine G_bipush C (v := 24) dL_isRefused_583 (by decide) ?_
              refine G_iload C (x := v8) 7 dL_isRefused_585 rfl ?_
              refine G_iconst C (v := 0) dL_isRefused_587 (by decide) ?_
              refine G_iconst C (v := 0) dL_isRefused_588 (by decide) ?_
              obtain ⟨m301, m302, hc303, hs304, h⟩ := h
              refine G_callSi C hZ tw_4_189 tw_4_190 tw_1_0 tw_4_191 hy_L_no ⟨Nat.le_of_ble_eq_true rfl, Nat.le_of_ble_eq_true rfl⟩ (As := [va_rf x0, Value.int 24, Value.int v8, Value.int 0, Value.int 0]) (rest := []) (c_L_no l hl D cy e0 m0 he hm x0 24 v8 0 0 S292 m301 m302 _ h) rfl rfl (by simp [va_cat, vi_cat, vl_cat]) dL_isRefused_589 ⟨hc303, hs304⟩ (fun r300 S299 h => ?_)
              obtain ⟨hb305, h⟩ := h
              refine G_if_eq C (tgt := 732) dL_isRefused_592 (by decide) (fun hc => ?_) (fun hc => ?_)
              · have h := h.1 hc
                refine G_lv C (lv' := [(0, va_rf x0), (1, va_rf x1), (2, va_rf x2), (3, va_rf x3), (4, Value.int x4), (5, Value.int v5), (8, Value.int v8), (9, Value.int v9), (10, Value.long v10)]) [0, 1, 2, 3, 4, 5, 7, 8, 9] rfl ?_
                exact J732 _ _ _ _ _ _ _ h
              · have h := h.2 hc
                refine G_aload_n C (x := x0) 0 dL_isRefused_595 rfl rfl ?_
                refine G_bipush C (v := 25) dL_isRefused_596 (by decide) ?_
                refine G_iload C (x := v8) 7 dL_isRefused_598 rfl ?_
                refine G_iconst C (v := (-1)) dL_isRefused_600 (by decide) ?_
                refine G_iconst C (v := 0) dL_isRefused_601 (by decide) ?_
                obtain ⟨m308, m309, hc310, hs311, h⟩ := h
                refine G_callSi C hZ tw_4_189 tw_4_190 tw_1_0 tw_4_191 hy_L_no ⟨Nat.le_of_ble_eq_true rfl, Nat.le_of_ble_eq_true rfl⟩ (As := [va_rf x0, Value.int 25, Value.int v8, Value.int (-1), Value.int 0]) (rest := []) (c_L_no l hl D cy e0 m0 he hm x0 25 v8 (-1) 0 S299 m308 m309 _ h) rfl rfl (by simp [va_cat, vi_cat, vl_cat]) dL_isRefused_602 ⟨hc310, hs311⟩ (fun r307 S306 h => ?_)
                obtain ⟨hb312, h⟩ := h
                refine G_if_eq C (tgt := 732) dL_isRefused_605 (by decide) (fun hc => ?_) (fun hc => ?_)
                · have h := h.1 hc
                  refine G_lv C (lv' := [(0, va_rf x0), (1, va_rf x1), (2, va_rf x2), (3, va_rf x3), (4, Value.int x4), (5, Value.int v5), (8, Value.int v8), (9, Value.int v9), (10, Value.long v10)]) [0, 1, 2, 3, 4, 5, 7, 8, 9] rfl ?_
                  exact J732 _ _ _ _ _ _ _ h
                · have h := h.2 hc
                  refine G_aload_n C (x := x0) 0 dL_isRefused_608 rfl rfl ?_
                  refine G_bipush C (v := 26) dL_isRefused_609 (by decide) ?_
                  refine G_iload C (x := v8) 7 dL_isRefused_611 rfl ?_
                  refine G_bipush C (v := 9) dL_isRefused_613 (by decide) ?_
                  refine G_iconst C (v := 0) dL_isRefused_615 (by decide) ?_
                  obtain ⟨m315, m316, hc317, hs318, h⟩ := h
                  refine G_callSi C hZ tw_4_189 tw_4_190 tw_1_0 tw_4_191 hy_L_no ⟨Nat.le_of_ble_eq_true rfl, Nat.le_of_ble_eq_true rfl⟩ (As := [va_rf x0, Value.int 26, Value.int v8, Value.int 9, Value.int 0]) (rest := []) (c_L_no l hl D cy e0 m0 he hm x0 26 v8 9 0 S306 m315 m316 _ h) rfl rfl (by simp [va_cat, vi_cat, vl_cat]) dL_isRefused_616 ⟨hc317, hs318⟩ (fun r314 S313 h => ?_)
                  obtain ⟨hb319, h⟩ := h
                  refine G_if_eq C (tgt := 732) dL_isRefused_619 (by decide) (fun hc => ?_) (fun hc => ?_)
                  · have h := h.1 hc
                    refine G_lv C (lv' := [(0, va_rf x0), (1, va_rf x1), (2, va_rf x2), (3, va_rf x3), (4, Value.int x4), (5, Value.int v5), (8, Value.int v8), (9, Value.int v9), (10, Value.long v10)]) [0, 1, 2, 3, 4, 5, 7, 8, 9] rfl ?_
                    exact J732 _ _ _ _ _ _ _ h
                  · have h := h.2 hc
                    refine G_aload_n C (x := x0) 0 dL_isRefused_622 rfl rfl ?_
                    refine G_bipush C (v := 27) dL_isRefused_623 (by decide) ?_
                    refine G_iload C (x := v6) 6 dL_isRefused_625 rfl ?_
                    refine G_iconst C (v := 0) dL_isRefused_627 (by decide) ?_
                    refine G_bipush C (v := 9) dL_isRefused_628 (by decide) ?_
                    obtain ⟨m322, m323, hc324, hs325, h⟩ := h
                    refine G_callSi C hZ tw_4_189 tw_4_190 tw_1_0 tw_4_191 hy_L_no ⟨Nat.le_of_ble_eq_true rfl, Nat.le_of_ble_eq_true rfl⟩ (As := [va_rf x0, Value.int 27, Value.int v6, Value.int 0, Value.int 9]) (rest := []) (c_L_no l hl D cy e0 m0 he hm x0 27 v6 0 9 S313 m322 m323 _ h) rfl rfl (by simp [va_cat, vi_cat, vl_cat]) dL_isRefused_630 ⟨hc324, hs325⟩ (fun r321 S320 h => ?_)
                    obtain ⟨hb326, h⟩ := h
                    refine G_if_eq C (tgt := 732) dL_isRefused_633 (by decide) (fun hc => ?_) (fun hc => ?_)
                    · have h := h.1 hc
                      refine G_lv C (lv' := [(0, va_rf x0), (1, va_rf x1), (2, va_rf x2), (3, va_rf x3), (4, Value.int x4), (5, Value.int v5), (8, Value.int v8), (9, Value.int v9), (10, Value.long v10)]) [0, 1, 2, 3, 4, 5, 7, 8, 9] rfl ?_
                      exact J732 _ _ _ _ _ _ _ h
                    · have h := h.2 hc
                      refine G_aload_n C (x := x0) 0 dL_isRefused_636 rfl rfl ?_
                      refine G_bipush C (v := 28) dL_isRefused_637 (by decide) ?_
                      refine G_iload C (x := v6) 6 dL_isRefused_639 rfl ?_
                      refine G_iconst C (v := 1) dL_isRefused_641 (by decide) ?_
                      refine G_iconst C (v := 0) dL_isRefused_642 (by decide) ?_
                      obtain ⟨m329, m330, hc331, hs332, h⟩ := h
                      refine G_callSi C hZ tw_4_189 tw_4_190 tw_1_0 tw_4_191 hy_L_no ⟨Nat.le_of_ble_eq_true rfl, Nat.le_of_ble_eq_true rfl⟩ (As := [va_rf x0, Value.int 28, Value.int v6, Value.int 1, Value.int 0]) (rest := []) (c_L_no l hl D cy e0 m0 he hm x0 28 v6 1 0 S320 m329 m330 _ h) rfl rfl (by simp [va_cat, vi_cat, vl_cat]) dL_isRefused_643 ⟨hc331, hs332⟩ (fun r328 S327 h => ?_)
                      obtain ⟨hb333, h⟩ := h
                      refine G_if_eq C (tgt := 732) dL_isRefused_646 (by decide) (fun hc => ?_) (fun hc => ?_)
                      · have h := h.1 hc
                        refine G_lv C (lv' := [(0, va_rf x0), (1, va_rf x1), (2, va_rf x2), (3, va_rf x3), (4, Value.int x4), (5, Value.int v5), (8, Value.int v8), (9, Value.int v9), (10, Value.long v10)]) [0, 1, 2, 3, 4, 5, 7, 8, 9] rfl ?_
                        exact J732 _ _ _ _ _ _ _ h
                      · have h := h.2 hc
                        refine G_aload_n C (x := x0) 0 dL_isRefused_649 rfl rfl ?_
                        refine G_bipush C (v := 29) dL_isRefused_650 (by decide) ?_
                        refine G_iload C (x := v6) 6 dL_isRefused_652 rfl ?_
                        refine G_iconst C (v := 0) dL_isRefused_654 (by decide) ?_
                        refine G_iconst C (v := 0) dL_isRefused_655 (by decide) ?_
                        obtain ⟨m336, m337, hc338, hs339, h⟩ := h
                        refine G_callSi C hZ tw_4_189 tw_4_190 tw_1_0 tw_4_191 hy_L_no ⟨Nat.le_of_ble_eq_true rfl, Nat.le_of_ble_eq_true rfl⟩ (As := [va_rf x0, Value.int 29, Value.int v6, Value.int 0, Value.int 0]) (rest := []) (c_L_no l hl D cy e0 m0 he hm x0 29 v6 0 0 S327 m336 m337 _ h) rfl rfl (by simp [va_cat, vi_cat, vl_cat]) dL_isRefused_656 ⟨hc338, hs339⟩ (fun r335 S334 h => ?_)
                        obtain ⟨hb340, h⟩ := h
                        refine G_if_eq C (tgt := 732) dL_isRefused_659 (by decide) (fun hc => ?_) (fun hc => ?_)
                        · have h := h.1 hc
                          refine G_lv C (lv' := [(0, va_rf x0), (1, va_rf x1), (2, va_rf x2), (3, va_rf x3), (4, Value.int x4), (5, Value.int v5), (8, Value.int v8), (9, Value.int v9), (10, Value.long v10)]) [0, 1, 2, 3, 4, 5, 7, 8, 9] rfl ?_
                          exact J732 _ _ _ _ _ _ _ h
                        · have h := h.2 hc
                          refine G_aload_n C (x := x0) 0 dL_isRefused_662 rfl rfl ?_
                          refine G_bipush C (v := 30) dL_isRefused_663 (by decide) ?_
                          refine G_iload C (x := v9) 8 dL_isRefused_665 rfl ?_
                          refine G_iconst C (v := 0) dL_isRefused_667 (by decide) ?_
                          refine G_iconst C (v := 0) dL_isRefused_668 (by decide) ?_
                          obtain ⟨m343, m344, hc345, hs346, h⟩ := h
                          refine G_callSi C hZ tw_4_189 tw_4_190 tw_1_0 tw_4_191 hy_L_no ⟨Nat.le_of_ble_eq_true rfl, Nat.le_of_ble_eq_true rfl⟩ (As := [va_rf x0, Value.int 30, Value.int v9, Value.int 0, Value.int 0]) (rest := []) (c_L_no l hl D cy e0 m0 he hm x0 30 v9 0 0 S334 m343 m344 _ h) rfl rfl (by simp [va_cat, vi_cat, vl_cat]) dL_isRefused_669 ⟨hc345, hs346⟩ (fun r342 S341 h => ?_)
                          obtain ⟨hb347, h⟩ := h
                          refine G_if_eq C (tgt := 732) dL_isRefused_672 (by decide) (fun hc => ?_) (fun hc => ?_)
                          · have h := h.1 hc
                            refine G_lv C (lv' := [(0, va_rf x0), (1, va_rf x1), (2, va_rf x2), (3, va_rf x3), (4, Value.int x4), (5, Value.int v5), (8, Value.int v8), (9, Value.int v9), (10, Value.long v10)]) [0, 1, 2, 3, 4, 5, 7, 8, 9] rfl ?_
                            exact J732 _ _ _ _ _ _ _ h
                          · have h := h.2 hc
                            refine G_aload_n C (x := x0) 0 dL_isRefused_675 rfl rfl ?_
                            refine G_bipush C (v := 31) dL_isRefused_676 (by decide) ?_
                            refine G_iload C (x := v5) 5 dL_isRefused_678 rfl ?_
                            refine G_if_eq C (tgt := 693) dL_isRefused_680 (by decide) (fun hc => ?_) (fun hc => ?_)
                            · have h := h.1 hc
                              refine G_bipush C (v := 6) dL_isRefused_693 (by decide) ?_
                              refine G_iload C (x := x4) 4 dL_isRefused_695 rfl ?_
                              refine G_bipush C (v := 30) dL_isRefused_697 (by decide) ?_
                              refine G_irem C dL_isRefused_699 (by decide) ?_
                              refine G_iadd C dL_isRefused_700 ?_
                              refine G_lv C (lv' := [(0, va_rf x0), (1, va_rf x1), (2, va_rf x2), (3, va_rf x3), (4, Value.int x4), (5, Value.int v5), (6, Value.int v6), (8, Value.int v8), (9, Value.int v9), (10, Value.long v10)]) [0, 1, 2, 3, 4, 5, 6, 7, 8, 9] rfl ?_
                              exact J701 _ _ _ _ _ _ _ _ _ _ _ h
                            · have h := h.2 hc
                              refine G_iconst C (v := (-1)) dL_isRefused_683 (by decide) ?_
                              refine G_iload C (x := x4) 4 dL_isRefused_684 rfl ?_
                              refine G_bipush C (v := 30) dL_isRefused_686 (by decide) ?_
                              refine G_irem C dL_isRefused_688 (by decide) ?_
                              refine G_isub C dL_isRefused_689 ?_
                              refine G_goto C (tgt := 701) dL_isRefused_690 (by decide) ?_
                              refine G_lv C (lv' := [(0, va_rf x0), (1, va_rf x1), (2, va_rf x2), (3, va_rf x3), (4, Value.int x4), (5, Value.int v5), (6, Value.int v6), (8, Value.int v8), (9, Value.int v9), (10, Value.long v10)]) [0, 1, 2, 3, 4, 5, 6, 7, 8, 9] rfl ?_
                              exact J701 _ _ _ _ _ _ _ _ _ _ _ h
  have J242 : ∀ (c0 n0 : Nat) (S : PT) (v5 : Int32) (v6 : Int32) (v7 : Int32) (v8 : Int32) (v9 : Int32) (v10 : Int64) (s0 : Option Nat) (s1 : Int32) (s2 : Int32) (s3 : Int32) (s4 : Int32), w_L_isRefused_b242 e0 m0 x0 x1 x2 x3 x4 mc ms post c0 n0 S v5 v6 v7 v8 v9 v10 s0 s1 s2 s3 s4 → G p l e { frames := 11, cells := mc, slots := ms, locals := 270 } s m [va_rf x0, va_rf x1, va_rf x2, va_rf x3, Value.int x4].toArray below meth c D cy A s.heap 15 (QMi below D cy A [va_rf x0, va_rf x1, va_rf x2, va_rf x3, Value.int x4] s mc ms (fun r S => bo r ∧ post r S)) S c0 n0 242 [(0, va_rf x0), (1, va_rf x1), (2, va_rf x2), (3, va_rf x3), (4, Value.int x4), (5, Value.int v5), (6, Value.int v6), (7, Value.int v7), (8, Value.int v8), (9, Value.int v9), (10, Value.long v10)] [Value.int s4, Value.int s3, Value.int s2, Value.int s1, va_rf s0] := by
    intro c0 n0 S v5 v6 v7 v8 v9 v10 s0 s1 s2 s3 s4 h
    unfold w_L_isRefused_b242 at h
    obtain ⟨hc00, hn00, h⟩ := h
    refine G_iconst C (v := (-1)) dL_isRefused_242 (by decide) ?_
    refine G_iconst C (v := 0) dL_isRefused_243 (by decide) ?_
    obtain ⟨m350, m351, hc352, hs353, h⟩ := h
    refine G_callSi C hZ tw_4_186 tw_4_187 tw_1_0 tw_4_188 hy_L_off ⟨Nat.le_of_ble_eq_true rfl, Nat.le_of_ble_eq_true rfl⟩ (As := [va_rf s0, Value.int s1, Value.int s2, Value.int s3, Value.int s4, Value.int (-1), Value.int 0]) (rest := []) (c_L_off l hl D cy e0 m0 he hm s0 s1 s2 s3 s4 (-1) 0 S m350 m351 _ h) rfl rfl (by simp [va_cat, vi_cat, vl_cat]) dL_isRefused_244 ⟨hc352, hs353⟩ (fun r349 S348 h => ?_)
    obtain ⟨hb354, h⟩ := h
    refine G_if_eq C (tgt := 732) dL_isRefused_247 (by decide) (fun hc => ?_) (fun hc => ?_)
    · have h := h.1 hc
      refine G_lv C (lv' := [(0, va_rf x0), (1, va_rf x1), (2, va_rf x2), (3, va_rf x3), (4, Value.int x4), (5, Value.int v5), (8, Value.int v8), (9, Value.int v9), (10, Value.long v10)]) [0, 1, 2, 3, 4, 5, 8, 9, 10] rfl ?_
      exact J732 _ _ _ _ _ _ _ h
    · have h := h.2 hc
      refine G_aload_n C (x := x0) 0 dL_isRefused_250 rfl rfl ?_
      refine G_iconst C (v := 1) dL_isRefused_251 (by decide) ?_
      refine G_iload C (x := v6) 6 dL_isRefused_252 rfl ?_
      refine G_iconst C (v := 0) dL_isRefused_254 (by decide) ?_
      refine G_iconst C (v := 0) dL_isRefused_255 (by decide) ?_
      obtain ⟨m357, m358, hc359, hs360, h⟩ := h
      refine G_callSi C hZ tw_4_189 tw_4_190 tw_1_0 tw_4_191 hy_L_no ⟨Nat.le_of_ble_eq_true rfl, Nat.le_of_ble_eq_true rfl⟩ (As := [va_rf x0, Value.int 1, Value.int v6, Value.int 0, Value.int 0]) (rest := []) (c_L_no l hl D cy e0 m0 he hm x0 1 v6 0 0 S348 m357 m358 _ h) rfl rfl (by simp [va_cat, vi_cat, vl_cat]) dL_isRefused_256 ⟨hc359, hs360⟩ (fun r356 S355 h => ?_)
      obtain ⟨hb361, h⟩ := h
      refine G_if_eq C (tgt := 732) dL_isRefused_259 (by decide) (fun hc => ?_) (fun hc => ?_)
      · have h := h.1 hc
        refine G_lv C (lv' := [(0, va_rf x0), (1, va_rf x1), (2, va_rf x2), (3, va_rf x3), (4, Value.int x4), (5, Value.int v5), (8, Value.int v8), (9, Value.int v9), (10, Value.long v10)]) [0, 1, 2, 3, 4, 5, 8, 9, 10] rfl ?_
        exact J732 _ _ _ _ _ _ _ h
      · have h := h.2 hc
        refine G_aload_n C (x := x0) 0 dL_isRefused_262 rfl rfl ?_
        refine G_iconst C (v := 2) dL_isRefused_263 (by decide) ?_
        refine G_iload C (x := v6) 6 dL_isRefused_264 rfl ?_
        refine G_iconst C (v := 5) dL_isRefused_266 (by decide) ?_
        refine G_iconst C (v := 4) dL_isRefused_267 (by decide) ?_
        obtain ⟨m364, m365, hc366, hs367, h⟩ := h
        refine G_callSi C hZ tw_4_189 tw_4_190 tw_1_0 tw_4_191 hy_L_no ⟨Nat.le_of_ble_eq_true rfl, Nat.le_of_ble_eq_true rfl⟩ (As := [va_rf x0, Value.int 2, Value.int v6, Value.int 5, Value.int 4]) (rest := []) (c_L_no l hl D cy e0 m0 he hm x0 2 v6 5 4 S355 m364 m365 _ h) rfl rfl (by simp [va_cat, vi_cat, vl_cat]) dL_isRefused_268 ⟨hc366, hs367⟩ (fun r363 S362 h => ?_)
        obtain ⟨hb368, h⟩ := h
        refine G_if_eq C (tgt := 732) dL_isRefused_271 (by decide) (fun hc => ?_) (fun hc => ?_)
        · have h := h.1 hc
          refine G_lv C (lv' := [(0, va_rf x0), (1, va_rf x1), (2, va_rf x2), (3, va_rf x3), (4, Value.int x4), (5, Value.int v5), (8, Value.int v8), (9, Value.int v9), (10, Value.long v10)]) [0, 1, 2, 3, 4, 5, 8, 9, 10] rfl ?_
          exact J732 _ _ _ _ _ _ _ h
        · have h := h.2 hc
          refine G_aload_n C (x := x0) 0 dL_isRefused_274 rfl rfl ?_
          refine G_iconst C (v := 3) dL_isRefused_275 (by decide) ?_
          refine G_iconst C (v := 0) dL_isRefused_276 (by decide) ?_
          refine G_iload C (x := v6) 6 dL_isRefused_277 rfl ?_
          refine G_iconst C (v := 0) dL_isRefused_279 (by decide) ?_
          refine G_iconst C (v := 0) dL_isRefused_280 (by decide) ?_
          refine G_iconst C (v := 5) dL_isRefused_281 (by decide) ?_
          obtain ⟨m371, m372, hc373, hs374, h⟩ := h
          refine G_callSWi C hZ tw_2_35 tw_2_36 tw_1_0 tw_2_37 hy_L_act ⟨Nat.le_of_ble_eq_true rfl, Nat.le_of_ble_eq_true rfl⟩ (As := [va_rf x0, Value.int 3, Value.int 0, Value.int v6, Value.int 0, Value.int 0, Value.int 5]) (rest := []) (c_L_act l hl D cy e0 m0 he hm x0 3 0 v6 0 0 5 S362 m371 m372 _ h) rfl rfl (by simp [va_cat, vi_cat, vl_cat]) dL_isRefused_282 ⟨hc373, hs374⟩ (fun r370 S369 h => ?_)
          refine G_ldc C (v := (-1711000)) (im tw_4_174) dL_isRefused_285 ?_
          refine G_icmp_ne C (tgt := 732) dL_isRefused_287 (by decide) (fun hc => ?_) (fun hc => ?_)
          · have h := h.1 hc
            refine G_lv C (lv' := [(0, va_rf x0), (1, va_rf x1), (2, va_rf x2), (3, va_rf x3), (4, Value.int x4), (5, Value.int v5), (8, Value.int v8), (9, Value.int v9), (10, Value.long v10)]) [0, 1, 2, 3, 4, 5, 8, 9, 10] rfl ?_
            exact J732 _ _ _ _ _ _ _ h
          · have h := h.2 hc
            refine G_aload_n C (x := x0) 0 dL_isRefused_290 rfl rfl ?_
            refine G_iconst C (v := 4) dL_isRefused_291 (by decide) ?_
            refine G_iload C (x := v7) 7 dL_isRefused_292 rfl ?_
            refine G_iconst C (v := 0) dL_isRefused_294 (by decide) ?_
            refine G_iconst C (v := 0) dL_isRefused_295 (by decide) ?_
            refine G_bipush C (v := 9) dL_isRefused_296 (by decide) ?_
            refine G_iconst C (v := 0) dL_isRefused_298 (by decide) ?_
            obtain ⟨m377, m378, hc379, hs380, h⟩ := h
            refine G_callSWi C hZ tw_2_35 tw_2_36 tw_1_0 tw_2_37 hy_L_act ⟨Nat.le_of_ble_eq_true rfl, Nat.le_of_ble_eq_true rfl⟩ (As := [va_rf x0, Value.int 4, Value.int v7, Value.int 0, Value.int 0, Value.int 9, Value.int 0]) (rest := []) (c_L_act l hl D cy e0 m0 he hm x0 4 v7 0 0 9 0 S369 m377 m378 _ h) rfl rfl (by simp [va_cat, vi_cat, vl_cat]) dL_isRefused_299 ⟨hc379, hs380⟩ (fun r376 S375 h => ?_)
            refine G_ldc C (v := (-1711000)) (im tw_4_174) dL_isRefused_302 ?_
            refine G_icmp_ne C (tgt := 732) dL_isRefused_304 (by decide) (fun hc => ?_) (fun hc => ?_)
            · have h := h.1 hc
              refine G_lv C (lv' := [(0, va_rf x0), (1, va_rf x1), (2, va_rf x2), (3, va_rf x3), (4, Value.int x4), (5, Value.int v5), (8, Value.int v8), (9, Value.int v9), (10, Value.long v10)]) [0, 1, 2, 3, 4, 5, 8, 9, 10] rfl ?_
              exact J732 _ _ _ _ _ _ _ h
            · have h := h.2 hc
              refine G_aload_n C (x := x0) 0 dL_isRefused_307 rfl rfl ?_
              refine G_iconst C (v := 5) dL_isRefused_308 (by decide) ?_
              refine G_iload C (x := v7) 7 dL_isRefused_309 rfl ?_
              refine G_iconst C (v := 0) dL_isRefused_311 (by decide) ?_
              refine G_iconst C (v := 0) dL_isRefused_312 (by decide) ?_
              obtain ⟨m383, m384, hc385, hs386, h⟩ := h
              refine G_callSi C hZ tw_4_189 tw_4_190 tw_1_0 tw_4_191 hy_L_no ⟨Nat.le_of_ble_eq_true rfl, Nat.le_of_ble_eq_true rfl⟩ (As := [va_rf x0, Value.int 5, Value.int v7, Value.int 0, Value.int 0]) (rest := []) (c_L_no l hl D cy e0 m0 he hm x0 5 v7 0 0 S375 m383 m384 _ h) rfl rfl (by simp [va_cat, vi_cat, vl_cat]) dL_isRefused_313 ⟨hc385, hs386⟩ (fun r382 S381 h => ?_)
              obtain ⟨hb387, h⟩ := h
              refine G_if_eq C (tgt := 732) dL_isRefused_316 (by decide) (fun hc => ?_) (fun hc => ?_)
              · have h := h.1 hc
                refine G_lv C (lv' := [(0, va_rf x0), (1, va_rf x1), (2, va_rf x2), (3, va_rf x3), (4, Value.int x4), (5, Value.int v5), (8, Value.int v8), (9, Value.int v9), (10, Value.long v10)]) [0, 1, 2, 3, 4, 5, 8, 9, 10] rfl ?_
                exact J732 _ _ _ _ _ _ _ h
              · have h := h.2 hc
                refine G_aload_n C (x := x0) 0 dL_isRefused_319 rfl rfl ?_
                refine G_bipush C (v := 6) dL_isRefused_320 (by decide) ?_
                refine G_iload C (x := v7) 7 dL_isRefused_322 rfl ?_
                refine G_iconst C (v := 0) dL_isRefused_324 (by decide) ?_
                refine G_iconst C (v := 0) dL_isRefused_325 (by decide) ?_
                obtain ⟨m390, m391, hc392, hs393, h⟩ := h
                refine G_callSi C hZ tw_4_189 tw_4_190 tw_1_0 tw_4_191 hy_L_no ⟨Nat.le_of_ble_eq_true rfl, Nat.le_of_ble_eq_true rfl⟩ (As := [va_rf x0, Value.int 6, Value.int v7, Value.int 0, Value.int 0]) (rest := []) (c_L_no l hl D cy e0 m0 he hm x0 6 v7 0 0 S381 m390 m391 _ h) rfl rfl (by simp [va_cat, vi_cat, vl_cat]) dL_isRefused_326 ⟨hc392, hs393⟩ (fun r389 S388 h => ?_)
                obtain ⟨hb394, h⟩ := h
                refine G_if_eq C (tgt := 732) dL_isRefused_329 (by decide) (fun hc => ?_) (fun hc => ?_)
                · have h := h.1 hc
                  refine G_lv C (lv' := [(0, va_rf x0), (1, va_rf x1), (2, va_rf x2), (3, va_rf x3), (4, Value.int x4), (5, Value.int v5), (8, Value.int v8), (9, Value.int v9), (10, Value.long v10)]) [0, 1, 2, 3, 4, 5, 8, 9, 10] rfl ?_
                  exact J732 _ _ _ _ _ _ _ h
                · have h := h.2 hc
                  refine G_aload_n C (x := x0) 0 dL_isRefused_332 rfl rfl ?_
                  refine G_bipush C (v := 7) dL_isRefused_333 (by decide) ?_
                  refine G_iload C (x := v6) 6 dL_isRefused_335 rfl ?_
                  refine G_iconst C (v := 0) dL_isRefused_337 (by decide) ?_
                  refine G_iconst C (v := 0) dL_isRefused_338 (by decide) ?_
                  obtain ⟨m397, m398, hc399, hs400, h⟩ := h
                  refine G_callSi C hZ tw_4_189 tw_4_190 tw_1_0 tw_4_191 hy_L_no ⟨Nat.le_of_ble_eq_true rfl, Nat.le_of_ble_eq_true rfl⟩ (As := [va_rf x0, Value.int 7, Value.int v6, Value.int 0, Value.int 0]) (rest := []) (c_L_no l hl D cy e0 m0 he hm x0 7 v6 0 0 S388 m397 m398 _ h) rfl rfl (by simp [va_cat, vi_cat, vl_cat]) dL_isRefused_339 ⟨hc399, hs400⟩ (fun r396 S395 h => ?_)
                  obtain ⟨hb401, h⟩ := h
                  refine G_if_eq C (tgt := 732) dL_isRefused_342 (by decide) (fun hc => ?_) (fun hc => ?_)
                  · have h := h.1 hc
                    refine G_lv C (lv' := [(0, va_rf x0), (1, va_rf x1), (2, va_rf x2), (3, va_rf x3), (4, Value.int x4), (5, Value.int v5), (8, Value.int v8), (9, Value.int v9), (10, Value.long v10)]) [0, 1, 2, 3, 4, 5, 8, 9, 10] rfl ?_
                    exact J732 _ _ _ _ _ _ _ h
                  · have h := h.2 hc
                    refine G_aload_n C (x := x0) 0 dL_isRefused_345 rfl rfl ?_
                    refine G_bipush C (v := 8) dL_isRefused_346 (by decide) ?_
                    refine G_iload C (x := v8) 8 dL_isRefused_348 rfl ?_
                    refine G_bipush C (v := 9) dL_isRefused_350 (by decide) ?_
                    refine G_iconst C (v := 0) dL_isRefused_352 (by decide) ?_
                    obtain ⟨m404, m405, hc406, hs407, h⟩ := h
                    refine G_callSi C hZ tw_4_189 tw_4_190 tw_1_0 tw_4_191 hy_L_no ⟨Nat.le_of_ble_eq_true rfl, Nat.le_of_ble_eq_true rfl⟩ (As := [va_rf x0, Value.int 8, Value.int v8, Value.int 9, Value.int 0]) (rest := []) (c_L_no l hl D cy e0 m0 he hm x0 8 v8 9 0 S395 m404 m405 _ h) rfl rfl (by simp [va_cat, vi_cat, vl_cat]) dL_isRefused_353 ⟨hc406, hs407⟩ (fun r403 S402 h => ?_)
                    obtain ⟨hb408, h⟩ := h
                    refine G_if_eq C (tgt := 732) dL_isRefused_356 (by decide) (fun hc => ?_) (fun hc => ?_)
                    · have h := h.1 hc
                      refine G_lv C (lv' := [(0, va_rf x0), (1, va_rf x1), (2, va_rf x2), (3, va_rf x3), (4, Value.int x4), (5, Value.int v5), (8, Value.int v8), (9, Value.int v9), (10, Value.long v10)]) [0, 1, 2, 3, 4, 5, 8, 9, 10] rfl ?_
                      exact J732 _ _ _ _ _ _ _ h
                    · have h := h.2 hc
                      refine G_aload_n C (x := x0) 0 dL_isRefused_359 rfl rfl ?_
                      refine G_bipush C (v := 9) dL_isRefused_360 (by decide) ?_
                      refine G_iload C (x := v8) 8 dL_isRefused_362 rfl ?_
                      refine G_iconst C (v := 0) dL_isRefused_364 (by decide) ?_
                      refine G_iconst C (v := 0) dL_isRefused_365 (by decide) ?_
                      obtain ⟨m411, m412, hc413, hs414, h⟩ := h
                      refine G_callSi C hZ tw_4_189 tw_4_190 tw_1_0 tw_4_191 hy_L_no ⟨Nat.le_of_ble_eq_true rfl, Nat.le_of_ble_eq_true rfl⟩ (As := [va_rf x0, Value.int 9, Value.int v8, Value.int 0, Value.int 0]) (rest := []) (c_L_no l hl D cy e0 m0 he hm x0 9 v8 0 0 S402 m411 m412 _ h) rfl rfl (by simp [va_cat, vi_cat, vl_cat]) dL_isRefused_366 ⟨hc413, hs414⟩ (fun r410 S409 h => ?_)
                      obtain ⟨hb415, h⟩ := h
                      refine G_if_eq C (tgt := 732) dL_isRefused_369 (by decide) (fun hc => ?_) (fun hc => ?_)
                      · have h := h.1 hc
                        refine G_lv C (lv' := [(0, va_rf x0), (1, va_rf x1), (2, va_rf x2), (3, va_rf x3), (4, Value.int x4), (5, Value.int v5), (8, Value.int v8), (9, Value.int v9), (10, Value.long v10)]) [0, 1, 2, 3, 4, 5, 8, 9, 10] rfl ?_
                        exact J732 _ _ _ _ _ _ _ h
                      · have h := h.2 hc
                        refine G_aload_n C (x := x0) 0 dL_isRefused_372 rfl rfl ?_
                        refine G_bipush C (v := 10) dL_isRefused_373 (by decide) ?_
                        refine G_iload C (x := v8) 8 dL_isRefused_375 rfl ?_
                        refine G_bipush C (v := 9) dL_isRefused_377 (by decide) ?_
                        refine G_iconst C (v := 0) dL_isRefused_379 (by decide) ?_
                        obtain ⟨m418, m419, hc420, hs421, h⟩ := h
                        refine G_callSi C hZ tw_4_189 tw_4_190 tw_1_0 tw_4_191 hy_L_no ⟨Nat.le_of_ble_eq_true rfl, Nat.le_of_ble_eq_true rfl⟩ (As := [va_rf x0, Value.int 10, Value.int v8, Value.int 9, Value.int 0]) (rest := []) (c_L_no l hl D cy e0 m0 he hm x0 10 v8 9 0 S409 m418 m419 _ h) rfl rfl (by simp [va_cat, vi_cat, vl_cat]) dL_isRefused_380 ⟨hc420, hs421⟩ (fun r417 S416 h => ?_)
                        obtain ⟨hb422, h⟩ := h
                        refine G_if_eq C (tgt := 732) dL_isRefused_383 (by decide) (fun hc => ?_) (fun hc => ?_)
                        · have h := h.1 hc
                          refine G_lv C (lv' := [(0, va_rf x0), (1, va_rf x1), (2, va_rf x2), (3, va_rf x3), (4, Value.int x4), (5, Value.int v5), (8, Value.int v8), (9, Value.int v9), (10, Value.long v10)]) [0, 1, 2, 3, 4, 5, 8, 9, 10] rfl ?_
                          exact J732 _ _ _ _ _ _ _ h
                        · have h := h.2 hc
                          refine G_aload_n C (x := x0) 0 dL_isRefused_386 rfl rfl ?_
                          refine G_bipush C (v := 11) dL_isRefused_387 (by decide) ?_
                          refine G_iload C (x := v8) 8 dL_isRefused_389 rfl ?_
                          refine G_iconst C (v := 0) dL_isRefused_391 (by decide) ?_
                          refine G_iconst C (v := 0) dL_isRefused_392 (by decide) ?_
                          obtain ⟨m425, m426, hc427, hs428, h⟩ := h
                          refine G_callSi C hZ tw_4_189 tw_4_190 tw_1_0 tw_4_191 hy_L_no ⟨Nat.le_of_ble_eq_true rfl, Nat.le_of_ble_eq_true rfl⟩ (As := [va_rf x0, Value.int 11, Value.int v8, Value.int 0, Value.int 0]) (rest := []) (c_L_no l hl D cy e0 m0 he hm x0 11 v8 0 0 S416 m425 m426 _ h) rfl rfl (by simp [va_cat, vi_cat, vl_cat]) dL_isRefused_393 ⟨hc427, hs428⟩ (fun r424 S423 h => ?_)
                          obtain ⟨hb429, h⟩ := h
                          refine G_if_eq C (tgt := 732) dL_isRefused_396 (by decide) (fun hc => ?_) (fun hc => ?_)
                          · have h := h.1 hc
                            refine G_lv C (lv' := [(0, va_rf x0), (1, va_rf x1), (2, va_rf x2), (3, va_rf x3), (4, Value.int x4), (5, Value.int v5), (8, Value.int v8), (9, Value.int v9), (10, Value.long v10)]) [0, 1, 2, 3, 4, 5, 8, 9, 10] rfl ?_
                            exact J732 _ _ _ _ _ _ _ h
                          · have h := h.2 hc
                            refine G_aload_n C (x := x0) 0 dL_isRefused_399 rfl rfl ?_
                            refine G_bipush C (v := 12) dL_isRefused_400 (by decide) ?_
                            refine G_iload C (x := v8) 8 dL_isRefused_402 rfl ?_
                            refine G_iload C (x := v8) 8 dL_isRefused_404 rfl ?_
                            refine G_iconst C (v := 0) dL_isRefused_406 (by decide) ?_
                            obtain ⟨m432, m433, hc434, hs435, h⟩ := h
                            refine G_callSi C hZ tw_4_189 tw_4_190 tw_1_0 tw_4_191 hy_L_no ⟨Nat.le_of_ble_eq_true rfl, Nat.le_of_ble_eq_true rfl⟩ (As := [va_rf x0, Value.int 12, Value.int v8, Value.int v8, Value.int 0]) (rest := []) (c_L_no l hl D cy e0 m0 he hm x0 12 v8 v8 0 S423 m432 m433 _ h) rfl rfl (by simp [va_cat, vi_cat, vl_cat]) dL_isRefused_407 ⟨hc434, hs435⟩ (fun r431 S430 h => ?_)
                            obtain ⟨hb436, h⟩ := h
                            refine G_if_eq C (tgt := 732) dL_isRefused_410 (by decide) (fun hc => ?_) (fun hc => ?_)
                            · have h := h.1 hc
                              refine G_lv C (lv' := [(0, va_rf x0), (1, va_rf x1), (2, va_rf x2), (3, va_rf x3), (4, Value.int x4), (5, Value.int v5), (8, Value.int v8), (9, Value.int v9), (10, Value.long v10)]) [0, 1, 2, 3, 4, 5, 8, 9, 10] rfl ?_
                              exact J732 _ _ _ _ _ _ _ h
                            · have h := h.2 hc
                              refine G_aload_n C (x := x0) 0 dL_isRefused_413 rfl rfl ?_
                              refine G_bipush C (v := 13) dL_isRefused_414 (by decide) ?_
                              refine G_iload C (x := v8) 8 dL_isRefused_416 rfl ?_
                              refine G_iconst C (v := 0) dL_isRefused_418 (by decide) ?_
                              refine G_iconst C (v := 0) dL_isRefused_419 (by decide) ?_
                              obtain ⟨m439, m440, hc441, hs442, h⟩ := h
                              refine G_callSi C hZ tw_4_189 tw_4_190 tw_1_0 tw_4_191 hy_L_no ⟨Nat.le_of_ble_eq_true rfl, Nat.le_of_ble_eq_true rfl⟩ (As := [va_rf x0, Value.int 13, Value.int v8, Value.int 0, Value.int 0]) (rest := []) (c_L_no l hl D cy e0 m0 he hm x0 13 v8 0 0 S430 m439 m440 _ h) rfl rfl (by simp [va_cat, vi_cat, vl_cat]) dL_isRefused_420 ⟨hc441, hs442⟩ (fun r438 S437 h => ?_)
                              obtain ⟨hb443, h⟩ := h
                              refine G_if_eq C (tgt := 732) dL_isRefused_423 (by decide) (fun hc => ?_) (fun hc => ?_)
                              · have h := h.1 hc
                                refine G_lv C (lv' := [(0, va_rf x0), (1, va_rf x1), (2, va_rf x2), (3, va_rf x3), (4, Value.int x4), (5, Value.int v5), (8, Value.int v8), (9, Value.int v9), (10, Value.long v10)]) [0, 1, 2, 3, 4, 5, 8, 9, 10] rfl ?_
                                exact J732 _ _ _ _ _ _ _ h
                              · have h := h.2 hc
                                refine G_aload_n C (x := x0) 0 dL_isRefused_426 rfl rfl ?_
                                refine G_bipush C (v := 14) dL_isRefused_427 (by decide) ?_
                                refine G_iload C (x := v8) 8 dL_isRefused_429 rfl ?_
                                refine G_iconst C (v := 0) dL_isRefused_431 (by decide) ?_
                                refine G_iconst C (v := 0) dL_isRefused_432 (by decide) ?_
                                obtain ⟨m446, m447, hc448, hs449, h⟩ := h
                                refine G_callSi C hZ tw_4_189 tw_4_190 tw_1_0 tw_4_191 hy_L_no ⟨Nat.le_of_ble_eq_true rfl, Nat.le_of_ble_eq_true rfl⟩ (As := [va_rf x0, Value.int 14, Value.int v8, Value.int 0, Value.int 0]) (rest := []) (c_L_no l hl D cy e0 m0 he hm x0 14 v8 0 0 S437 m446 m447 _ h) rfl rfl (by simp [va_cat, vi_cat, vl_cat]) dL_isRefused_433 ⟨hc448, hs449⟩ (fun r445 S444 h => ?_)
                                obtain ⟨hb450, h⟩ := h
                                refine G_if_eq C (tgt := 732) dL_isRefused_436 (by decide) (fun hc => ?_) (fun hc => ?_)
                                · have h := h.1 hc
                                  refine G_lv C (lv' := [(0, va_rf x0), (1, va_rf x1), (2, va_rf x2), (3, va_rf x3), (4, Value.int x4), (5, Value.int v5), (8, Value.int v8), (9, Value.int v9), (10, Value.long v10)]) [0, 1, 2, 3, 4, 5, 8, 9, 10] rfl ?_
                                  exact J732 _ _ _ _ _ _ _ h
                                · have h := h.2 hc
                                  refine G_aload_n C (x := x0) 0 dL_isRefused_439 rfl rfl ?_
                                  refine G_bipush C (v := 15) dL_isRefused_440 (by decide) ?_
                                  refine G_iload C (x := v8) 8 dL_isRefused_442 rfl ?_
                                  refine G_iconst C (v := 0) dL_isRefused_444 (by decide) ?_
                                  refine G_sipush C (v := 999) dL_isRefused_445 (by decide) ?_
                                  obtain ⟨m453, m454, hc455, hs456, h⟩ := h
                                  refine G_callSi C hZ tw_4_189 tw_4_190 tw_1_0 tw_4_191 hy_L_no ⟨Nat.le_of_ble_eq_true rfl, Nat.le_of_ble_eq_true rfl⟩ (As := [va_rf x0, Value.int 15, Value.int v8, Value.int 0, Value.int 999]) (rest := []) (c_L_no l hl D cy e0 m0 he hm x0 15 v8 0 999 S444 m453 m454 _ h) rfl rfl (by simp [va_cat, vi_cat, vl_cat]) dL_isRefused_448 ⟨hc455, hs456⟩ (fun r452 S451 h => ?_)
                                  obtain ⟨hb457, h⟩ := h
                                  refine G_if_eq C (tgt := 732) dL_isRefused_451 (by decide) (fun hc => ?_) (fun hc => ?_)
                                  · have h := h.1 hc
                                    refine G_lv C (lv' := [(0, va_rf x0), (1, va_rf x1), (2, va_rf x2), (3, va_rf x3), (4, Value.int x4), (5, Value.int v5), (8, Value.int v8), (9, Value.int v9), (10, Value.long v10)]) [0, 1, 2, 3, 4, 5, 8, 9, 10] rfl ?_
                                    exact J732 _ _ _ _ _ _ _ h
                                  · have h := h.2 hc
                                    refine G_aload_n C (x := x0) 0 dL_isRefused_454 rfl rfl ?_
                                    refine G_bipush C (v := 16) dL_isRefused_455 (by decide) ?_
                                    refine G_iload C (x := v8) 8 dL_isRefused_457 rfl ?_
                                    refine G_iconst C (v := 0) dL_isRefused_459 (by decide) ?_
                                    refine G_iconst C (v := 0) dL_isRefused_460 (by decide) ?_
                                    obtain ⟨m460, m461, hc462, hs463, h⟩ := h
                                    refine G_callSi C hZ tw_4_189 tw_4_190 tw_1_0 tw_4_191 hy_L_no ⟨Nat.le_of_ble_eq_true rfl, Nat.le_of_ble_eq_true rfl⟩ (As := [va_rf x0, Value.int 16, Value.int v8, Value.int 0, Value.int 0]) (rest := []) (c_L_no l hl D cy e0 m0 he hm x0 16 v8 0 0 S451 m460 m461 _ h) rfl rfl (by simp [va_cat, vi_cat, vl_cat]) dL_isRefused_461 ⟨hc462, hs463⟩ (fun r459 S458 h => ?_)
                                    obtain ⟨hb464, h⟩ := h
                                    refine G_if_eq C (tgt := 732) dL_isRefused_464 (by decide) (fun hc => ?_) (fun hc => ?_)
                                    · have h := h.1 hc
                                      refine G_lv C (lv' := [(0, va_rf x0), (1, va_rf x1), (2, va_rf x2), (3, va_rf x3), (4, Value.int x4), (5, Value.int v5), (8, Value.int v8), (9, Value.int v9), (10, Value.long v10)]) [0, 1, 2, 3, 4, 5, 8, 9, 10] rfl ?_
                                      exact J732 _ _ _ _ _ _ _ h
                                    · have h := h.2 hc
                                      refine G_aload_n C (x := x0) 0 dL_isRefused_467 rfl rfl ?_
                                      refine G_bipush C (v := 17) dL_isRefused_468 (by decide) ?_
                                      refine G_iload C (x := v8) 8 dL_isRefused_470 rfl ?_
                                      refine G_iconst C (v := 0) dL_isRefused_472 (by decide) ?_
                                      refine G_iconst C (v := 0) dL_isRefused_473 (by decide) ?_
                                      obtain ⟨m467, m468, hc469, hs470, h⟩ := h
                                      refine G_callSi C hZ tw_4_189 tw_4_190 tw_1_0 tw_4_191 hy_L_no ⟨Nat.le_of_ble_eq_true rfl, Nat.le_of_ble_eq_true rfl⟩ (As := [va_rf x0, Value.int 17, Value.int v8, Value.int 0, Value.int 0]) (rest := []) (c_L_no l hl D cy e0 m0 he hm x0 17 v8 0 0 S458 m467 m468 _ h) rfl rfl (by simp [va_cat, vi_cat, vl_cat]) dL_isRefused_474 ⟨hc469, hs470⟩ (fun r466 S465 h => ?_)
                                      obtain ⟨hb471, h⟩ := h
                                      refine G_if_eq C (tgt := 732) dL_isRefused_477 (by decide) (fun hc => ?_) (fun hc => ?_)
                                      · have h := h.1 hc
                                        refine G_lv C (lv' := [(0, va_rf x0), (1, va_rf x1), (2, va_rf x2), (3, va_rf x3), (4, Value.int x4), (5, Value.int v5), (8, Value.int v8), (9, Value.int v9), (10, Value.long v10)]) [0, 1, 2, 3, 4, 5, 8, 9, 10] rfl ?_
                                        exact J732 _ _ _ _ _ _ _ h
                                      · have h := h.2 hc
                                        refine G_aload_n C (x := x0) 0 dL_isRefused_480 rfl rfl ?_
                                        refine G_bipush C (v := 18) dL_isRefused_481 (by decide) ?_
                                        refine G_iload C (x := v8) 8 dL_isRefused_483 rfl ?_
                                        refine G_iconst C (v := 0) dL_isRefused_485 (by decide) ?_
                                        refine G_iconst C (v := 0) dL_isRefused_486 (by decide) ?_
                                        obtain ⟨m474, m475, hc476, hs477, h⟩ := h
                                        refine G_callSi C hZ tw_4_189 tw_4_190 tw_1_0 tw_4_191 hy_L_no ⟨Nat.le_of_ble_eq_true rfl, Nat.le_of_ble_eq_true rfl⟩ (As := [va_rf x0, Value.int 18, Value.int v8, Value.int 0, Value.int 0]) (rest := []) (c_L_no l hl D cy e0 m0 he hm x0 18 v8 0 0 S465 m474 m475 _ h) rfl rfl (by simp [va_cat, vi_cat, vl_cat]) dL_isRefused_487 ⟨hc476, hs477⟩ (fun r473 S472 h => ?_)
                                        obtain ⟨hb478, h⟩ := h
                                        refine G_if_eq C (tgt := 732) dL_isRefused_490 (by decide) (fun hc => ?_) (fun hc => ?_)
                                        · have h := h.1 hc
                                          refine G_lv C (lv' := [(0, va_rf x0), (1, va_rf x1), (2, va_rf x2), (3, va_rf x3), (4, Value.int x4), (5, Value.int v5), (8, Value.int v8), (9, Value.int v9), (10, Value.long v10)]) [0, 1, 2, 3, 4, 5, 8, 9, 10] rfl ?_
                                          exact J732 _ _ _ _ _ _ _ h
                                        · have h := h.2 hc
                                          refine G_aload_n C (x := x0) 0 dL_isRefused_493 rfl rfl ?_
                                          refine G_bipush C (v := 19) dL_isRefused_494 (by decide) ?_
                                          refine G_iload C (x := v5) 5 dL_isRefused_496 rfl ?_
                                          refine G_if_eq C (tgt := 511) dL_isRefused_498 (by decide) (fun hc => ?_) (fun hc => ?_)
                                          · have h := h.1 hc
                                            refine G_sipush C (v := 201) dL_isRefused_511 (by decide) ?_
                                            refine G_lv C (lv' := [(0, va_rf x0), (1, va_rf x1), (2, va_rf x2), (3, va_rf x3), (4, Value.int x4), (5, Value.int v5), (6, Value.int v6), (8, Value.int v8), (9, Value.int v9), (10, Value.long v10)]) [0, 1, 2, 3, 4, 5, 6, 8, 9, 10] rfl ?_
                                            exact J514 _ _ _ _ _ _ _ _ _ _ _ h
                                          · have h := h.2 hc
                                            refine G_iconst C (v := 0) dL_isRefused_501 (by decide) ?_
                                            refine G_iload C (x := x4) 4 dL_isRefused_502 rfl ?_
                                            refine G_bipush C (v := 30) dL_isRefused_504 (by decide) ?_
                                            refine G_irem C dL_isRefused_506 (by decide) ?_
                                            refine G_isub C dL_isRefused_507 ?_
                                            refine G_goto C (tgt := 514) dL_isRefused_508 (by decide) ?_
                                            refine G_lv C (lv' := [(0, va_rf x0), (1, va_rf x1), (2, va_rf x2), (3, va_rf x3), (4, Value.int x4), (5, Value.int v5), (6, Value.int v6), (8, Value.int v8), (9, Value.int v9), (10, Value.long v10)]) [0, 1, 2, 3, 4, 5, 6, 8, 9, 10] rfl ?_
                                            exact J514 _ _ _ _ _ _ _ _ _ _ _ h
  have J211 : ∀ (c0 n0 : Nat) (S : PT) (v5 : Int32) (v6 : Int32) (v7 : Int32) (v8 : Int32) (v9 : Int32) (v10 : Int64) (s0 : Option Nat) (s1 : Int32) (s2 : Int32) (s3 : Int32), w_L_isRefused_b211 e0 m0 x0 x1 x2 x3 x4 mc ms post c0 n0 S v5 v6 v7 v8 v9 v10 s0 s1 s2 s3 → G p l e { frames := 11, cells := mc, slots := ms, locals := 270 } s m [va_rf x0, va_rf x1, va_rf x2, va_rf x3, Value.int x4].toArray below meth c D cy A s.heap 15 (QMi below D cy A [va_rf x0, va_rf x1, va_rf x2, va_rf x3, Value.int x4] s mc ms (fun r S => bo r ∧ post r S)) S c0 n0 211 [(0, va_rf x0), (1, va_rf x1), (2, va_rf x2), (3, va_rf x3), (4, Value.int x4), (5, Value.int v5), (6, Value.int v6), (7, Value.int v7), (8, Value.int v8), (9, Value.int v9), (10, Value.long v10)] [Value.int s3, Value.int s2, Value.int s1, va_rf s0] := by
    intro c0 n0 S v5 v6 v7 v8 v9 v10 s0 s1 s2 s3 h
    unfold w_L_isRefused_b211 at h
    obtain ⟨hc00, hn00, h⟩ := h
    refine G_iconst C (v := 0) dL_isRefused_211 (by decide) ?_
    refine G_iconst C (v := (-1)) dL_isRefused_212 (by decide) ?_
    refine G_iconst C (v := 0) dL_isRefused_213 (by decide) ?_
    obtain ⟨m481, m482, hc483, hs484, h⟩ := h
    refine G_callSi C hZ tw_4_186 tw_4_187 tw_1_0 tw_4_188 hy_L_off ⟨Nat.le_of_ble_eq_true rfl, Nat.le_of_ble_eq_true rfl⟩ (As := [va_rf s0, Value.int s1, Value.int s2, Value.int s3, Value.int 0, Value.int (-1), Value.int 0]) (rest := []) (c_L_off l hl D cy e0 m0 he hm s0 s1 s2 s3 0 (-1) 0 S m481 m482 _ h) rfl rfl (by simp [va_cat, vi_cat, vl_cat]) dL_isRefused_214 ⟨hc483, hs484⟩ (fun r480 S479 h => ?_)
    obtain ⟨hb485, h⟩ := h
    refine G_if_eq C (tgt := 732) dL_isRefused_217 (by decide) (fun hc => ?_) (fun hc => ?_)
    · have h := h.1 hc
      refine G_lv C (lv' := [(0, va_rf x0), (1, va_rf x1), (2, va_rf x2), (3, va_rf x3), (4, Value.int x4), (5, Value.int v5), (8, Value.int v8), (9, Value.int v9), (10, Value.long v10)]) [0, 1, 2, 3, 4, 5, 8, 9, 10] rfl ?_
      exact J732 _ _ _ _ _ _ _ h
    · have h := h.2 hc
      refine G_aload_n C (x := x0) 0 dL_isRefused_220 rfl rfl ?_
      refine G_iconst C (v := 0) dL_isRefused_221 (by decide) ?_
      refine G_iconst C (v := 5) dL_isRefused_222 (by decide) ?_
      refine G_iconst C (v := 0) dL_isRefused_223 (by decide) ?_
      refine G_iload C (x := v5) 5 dL_isRefused_224 rfl ?_
      refine G_if_eq C (tgt := 239) dL_isRefused_226 (by decide) (fun hc => ?_) (fun hc => ?_)
      · have h := h.1 hc
        refine G_sipush C (v := 1000) dL_isRefused_239 (by decide) ?_
        refine G_lv C (lv' := [(0, va_rf x0), (1, va_rf x1), (2, va_rf x2), (3, va_rf x3), (4, Value.int x4), (5, Value.int v5), (6, Value.int v6), (7, Value.int v7), (8, Value.int v8), (9, Value.int v9), (10, Value.long v10)]) [0, 1, 2, 3, 4, 5, 6, 7, 8, 9, 10] rfl ?_
        exact J242 _ _ _ _ _ _ _ _ _ _ _ _ _ _ h
      · have h := h.2 hc
        refine G_iconst C (v := (-1)) dL_isRefused_229 (by decide) ?_
        refine G_iload C (x := x4) 4 dL_isRefused_230 rfl ?_
        refine G_bipush C (v := 30) dL_isRefused_232 (by decide) ?_
        refine G_irem C dL_isRefused_234 (by decide) ?_
        refine G_isub C dL_isRefused_235 ?_
        refine G_goto C (tgt := 242) dL_isRefused_236 (by decide) ?_
        refine G_lv C (lv' := [(0, va_rf x0), (1, va_rf x1), (2, va_rf x2), (3, va_rf x3), (4, Value.int x4), (5, Value.int v5), (6, Value.int v6), (7, Value.int v7), (8, Value.int v8), (9, Value.int v9), (10, Value.long v10)]) [0, 1, 2, 3, 4, 5, 6, 7, 8, 9, 10] rfl ?_
        exact J242 _ _ _ _ _ _ _ _ _ _ _ _ _ _ h
  have J182 : ∀ (c0 n0 : Nat) (S : PT) (v5 : Int32) (v6 : Int32) (v7 : Int32) (v8 : Int32) (v9 : Int32) (v10 : Int64) (s0 : Option Nat) (s1 : Int32) (s2 : Int32), w_L_isRefused_b182 e0 m0 x0 x1 x2 x3 x4 mc ms post c0 n0 S v5 v6 v7 v8 v9 v10 s0 s1 s2 → G p l e { frames := 11, cells := mc, slots := ms, locals := 270 } s m [va_rf x0, va_rf x1, va_rf x2, va_rf x3, Value.int x4].toArray below meth c D cy A s.heap 15 (QMi below D cy A [va_rf x0, va_rf x1, va_rf x2, va_rf x3, Value.int x4] s mc ms (fun r S => bo r ∧ post r S)) S c0 n0 182 [(0, va_rf x0), (1, va_rf x1), (2, va_rf x2), (3, va_rf x3), (4, Value.int x4), (5, Value.int v5), (6, Value.int v6), (7, Value.int v7), (8, Value.int v8), (9, Value.int v9), (10, Value.long v10)] [Value.int s2, Value.int s1, va_rf s0] := by
    intro c0 n0 S v5 v6 v7 v8 v9 v10 s0 s1 s2 h
    unfold w_L_isRefused_b182 at h
    obtain ⟨hc00, hn00, h⟩ := h
    refine G_iconst C (v := 0) dL_isRefused_182 (by decide) ?_
    refine G_iconst C (v := 0) dL_isRefused_183 (by decide) ?_
    refine G_iconst C (v := (-1)) dL_isRefused_184 (by decide) ?_
    refine G_iconst C (v := 0) dL_isRefused_185 (by decide) ?_
    obtain ⟨m488, m489, hc490, hs491, h⟩ := h
    refine G_callSi C hZ tw_4_186 tw_4_187 tw_1_0 tw_4_188 hy_L_off ⟨Nat.le_of_ble_eq_true rfl, Nat.le_of_ble_eq_true rfl⟩ (As := [va_rf s0, Value.int s1, Value.int s2, Value.int 0, Value.int 0, Value.int (-1), Value.int 0]) (rest := []) (c_L_off l hl D cy e0 m0 he hm s0 s1 s2 0 0 (-1) 0 S m488 m489 _ h) rfl rfl (by simp [va_cat, vi_cat, vl_cat]) dL_isRefused_186 ⟨hc490, hs491⟩ (fun r487 S486 h => ?_)
    obtain ⟨hb492, h⟩ := h
    refine G_if_eq C (tgt := 732) dL_isRefused_189 (by decide) (fun hc => ?_) (fun hc => ?_)
    · have h := h.1 hc
      refine G_lv C (lv' := [(0, va_rf x0), (1, va_rf x1), (2, va_rf x2), (3, va_rf x3), (4, Value.int x4), (5, Value.int v5), (8, Value.int v8), (9, Value.int v9), (10, Value.long v10)]) [0, 1, 2, 3, 4, 5, 8, 9, 10] rfl ?_
      exact J732 _ _ _ _ _ _ _ h
    · have h := h.2 hc
      refine G_aload_n C (x := x0) 0 dL_isRefused_192 rfl rfl ?_
      refine G_iconst C (v := 0) dL_isRefused_193 (by decide) ?_
      refine G_iconst C (v := 5) dL_isRefused_194 (by decide) ?_
      refine G_iload C (x := v5) 5 dL_isRefused_195 rfl ?_
      refine G_if_eq C (tgt := 204) dL_isRefused_197 (by decide) (fun hc => ?_) (fun hc => ?_)
      · have h := h.1 hc
        refine G_iconst C (v := 4) dL_isRefused_204 (by decide) ?_
        refine G_iload C (x := x4) 4 dL_isRefused_205 rfl ?_
        refine G_bipush C (v := 30) dL_isRefused_207 (by decide) ?_
        refine G_irem C dL_isRefused_209 (by decide) ?_
        refine G_iadd C dL_isRefused_210 ?_
        refine G_lv C (lv' := [(0, va_rf x0), (1, va_rf x1), (2, va_rf x2), (3, va_rf x3), (4, Value.int x4), (5, Value.int v5), (6, Value.int v6), (7, Value.int v7), (8, Value.int v8), (9, Value.int v9), (10, Value.long v10)]) [0, 1, 2, 3, 4, 5, 6, 7, 8, 9, 10] rfl ?_
        exact J211 _ _ _ _ _ _ _ _ _ _ _ _ _ h
      · have h := h.2 hc
        refine G_iconst C (v := (-1)) dL_isRefused_200 (by decide) ?_
        refine G_goto C (tgt := 211) dL_isRefused_201 (by decide) ?_
        refine G_lv C (lv' := [(0, va_rf x0), (1, va_rf x1), (2, va_rf x2), (3, va_rf x3), (4, Value.int x4), (5, Value.int v5), (6, Value.int v6), (7, Value.int v7), (8, Value.int v8), (9, Value.int v9), (10, Value.long v10)]) [0, 1, 2, 3, 4, 5, 6, 7, 8, 9, 10] rfl ?_
        exact J211 _ _ _ _ _ _ _ _ _ _ _ _ _ h
  have J154 : ∀ (c0 n0 : Nat) (S : PT) (v5 : Int32) (v6 : Int32) (v7 : Int32) (v8 : Int32) (v9 : Int32) (v10 : Int64) (s0 : Option Nat) (s1 : Int32) (s2 : Int32) (s3 : Int32) (s4 : Int32) (s5 : Int32), w_L_isRefused_b154 e0 m0 x0 x1 x2 x3 x4 mc ms post c0 n0 S v5 v6 v7 v8 v9 v10 s0 s1 s2 s3 s4 s5 → G p l e { frames := 11, cells := mc, slots := ms, locals := 270 } s m [va_rf x0, va_rf x1, va_rf x2, va_rf x3, Value.int x4].toArray below meth c D cy A s.heap 15 (QMi below D cy A [va_rf x0, va_rf x1, va_rf x2, va_rf x3, Value.int x4] s mc ms (fun r S => bo r ∧ post r S)) S c0 n0 154 [(0, va_rf x0), (1, va_rf x1), (2, va_rf x2), (3, va_rf x3), (4, Value.int x4), (5, Value.int v5), (6, Value.int v6), (7, Value.int v7), (8, Value.int v8), (9, Value.int v9), (10, Value.long v10)] [Value.int s5, Value.int s4, Value.int s3, Value.int s2, Value.int s1, va_rf s0] := by
    intro c0 n0 S v5 v6 v7 v8 v9 v10 s0 s1 s2 s3 s4 s5 h
    unfold w_L_isRefused_b154 at h
    obtain ⟨hc00, hn00, h⟩ := h
    refine G_iconst C (v := 0) dL_isRefused_154 (by decide) ?_
    obtain ⟨m495, m496, hc497, hs498, h⟩ := h
    refine G_callSWi C hZ tw_2_35 tw_2_36 tw_1_0 tw_2_37 hy_L_act ⟨Nat.le_of_ble_eq_true rfl, Nat.le_of_ble_eq_true rfl⟩ (As := [va_rf s0, Value.int s1, Value.int s2, Value.int s3, Value.int s4, Value.int s5, Value.int 0]) (rest := []) (c_L_act l hl D cy e0 m0 he hm s0 s1 s2 s3 s4 s5 0 S m495 m496 _ h) rfl rfl (by simp [va_cat, vi_cat, vl_cat]) dL_isRefused_155 ⟨hc497, hs498⟩ (fun r494 S493 h => ?_)
    refine G_ldc C (v := (-1711000)) (im tw_4_174) dL_isRefused_158 ?_
    refine G_icmp_ne C (tgt := 732) dL_isRefused_160 (by decide) (fun hc => ?_) (fun hc => ?_)
    · have h := h.1 hc
      refine G_lv C (lv' := [(0, va_rf x0), (1, va_rf x1), (2, va_rf x2), (3, va_rf x3), (4, Value.int x4), (5, Value.int v5), (8, Value.int v8), (9, Value.int v9), (10, Value.long v10)]) [0, 1, 2, 3, 4, 5, 8, 9, 10] rfl ?_
      exact J732 _ _ _ _ _ _ _ h
    · have h := h.2 hc
      refine G_aload_n C (x := x0) 0 dL_isRefused_163 rfl rfl ?_
      refine G_iconst C (v := 0) dL_isRefused_164 (by decide) ?_
      refine G_iload C (x := v5) 5 dL_isRefused_165 rfl ?_
      refine G_if_eq C (tgt := 180) dL_isRefused_167 (by decide) (fun hc => ?_) (fun hc => ?_)
      · have h := h.1 hc
        refine G_bipush C (v := 41) dL_isRefused_180 (by decide) ?_
        refine G_lv C (lv' := [(0, va_rf x0), (1, va_rf x1), (2, va_rf x2), (3, va_rf x3), (4, Value.int x4), (5, Value.int v5), (6, Value.int v6), (7, Value.int v7), (8, Value.int v8), (9, Value.int v9), (10, Value.long v10)]) [0, 1, 2, 3, 4, 5, 6, 7, 8, 9, 10] rfl ?_
        exact J182 _ _ _ _ _ _ _ _ _ _ _ _ h
      · have h := h.2 hc
        refine G_iconst C (v := 0) dL_isRefused_170 (by decide) ?_
        refine G_iload C (x := x4) 4 dL_isRefused_171 rfl ?_
        refine G_bipush C (v := 30) dL_isRefused_173 (by decide) ?_
        refine G_irem C dL_isRefused_175 (by decide) ?_
        refine G_isub C dL_isRefused_176 ?_
        refine G_goto C (tgt := 182) dL_isRefused_177 (by decide) ?_
        refine G_lv C (lv' := [(0, va_rf x0), (1, va_rf x1), (2, va_rf x2), (3, va_rf x3), (4, Value.int x4), (5, Value.int v5), (6, Value.int v6), (7, Value.int v7), (8, Value.int v8), (9, Value.int v9), (10, Value.long v10)]) [0, 1, 2, 3, 4, 5, 6, 7, 8, 9, 10] rfl ?_
        exact J182 _ _ _ _ _ _ _ _ _ _ _ _ h
  have J114 : ∀ (c0 n0 : Nat) (S : PT) (v5 : Int32) (v6 : Int32) (v7 : Int32) (v8 : Int32) (s0 : Int32), w_L_isRefused_b114 e0 m0 x0 x1 x2 x3 x4 mc ms post c0 n0 S v5 v6 v7 v8 s0 → G p l e { frames := 11, cells := mc, slots := ms, locals := 270 } s m [va_rf x0, va_rf x1, va_rf x2, va_rf x3, Value.int x4].toArray below meth c D cy A s.heap 15 (QMi below D cy A [va_rf x0, va_rf x1, va_rf x2, va_rf x3, Value.int x4] s mc ms (fun r S => bo r ∧ post r S)) S c0 n0 114 [(0, va_rf x0), (1, va_rf x1), (2, va_rf x2), (3, va_rf x3), (4, Value.int x4), (5, Value.int v5), (6, Value.int v6), (7, Value.int v7), (8, Value.int v8)] [Value.int s0] := by
    intro c0 n0 S v5 v6 v7 v8 s0 h
    unfold w_L_isRefused_b114 at h
    obtain ⟨hc00, hn00, h⟩ := h
    refine G_istore C (i := 9) (lv' := [(9, Value.int s0), (0, va_rf x0), (1, va_rf x1), (2, va_rf x2), (3, va_rf x3), (4, Value.int x4), (5, Value.int v5), (6, Value.int v6), (7, Value.int v7), (8, Value.int v8)]) dL_isRefused_114 (by decide) (by first | rfl | simp [va_cat, vi_cat, vl_cat]) ?_
    refine G_aload_n C (x := x0) 1 dL_isRefused_116 rfl rfl ?_
    refine G_aload_n C (x := x1) 2 dL_isRefused_117 rfl rfl ?_
    refine G_aload_n C (x := x2) 3 dL_isRefused_118 rfl rfl ?_
    obtain ⟨m501, m502, hc503, hs504, h⟩ := h
    refine G_callSl C hZ tw_4_180 tw_4_181 tw_1_0 tw_4_182 hy_L_all ⟨Nat.le_of_ble_eq_true rfl, Nat.le_of_ble_eq_true rfl⟩ (As := [va_rf x0, va_rf x1, va_rf x2]) (rest := []) (c_L_all l hl D cy x0 x1 x2 S m501 m502 _ h) rfl rfl (by simp [va_cat, vi_cat, vl_cat]) dL_isRefused_119 ⟨hc503, hs504⟩ (fun r500 S499 h => ?_)
    refine G_lstore C (i := 10) (lv' := [(10, Value.long r500), (9, Value.int s0), (0, va_rf x0), (1, va_rf x1), (2, va_rf x2), (3, va_rf x3), (4, Value.int x4), (5, Value.int v5), (6, Value.int v6), (7, Value.int v7), (8, Value.int v8)]) dL_isRefused_122 (by decide) (by first | rfl | simp [va_cat, vi_cat, vl_cat]) ?_
    refine G_aload_n C (x := x0) 2 dL_isRefused_124 rfl rfl ?_
    refine G_iconst C (v := 0) dL_isRefused_125 (by decide) ?_
    refine G_iconst C (v := 5) dL_isRefused_126 (by decide) ?_
    refine G_iconst C (v := 0) dL_isRefused_127 (by decide) ?_
    refine G_iconst C (v := 0) dL_isRefused_128 (by decide) ?_
    refine G_iload C (x := v5) 7 dL_isRefused_129 rfl ?_
    refine G_if_eq C (tgt := 145) dL_isRefused_131 (by decide) (fun hc => ?_) (fun hc => ?_)
    · have h := h.1 hc
      refine G_aload_n C (x := x1) 3 dL_isRefused_145 rfl rfl ?_
      refine G_iconst C (v := 1) dL_isRefused_146 (by decide) ?_
      obtain ⟨a505, ha506, h⟩ := h
      refine G_rf1 ha506 ?_
      obtain ⟨hk507, h⟩ := h
      obtain ⟨hi508, h⟩ := h
      refine G_iald C hk507 hi508 dL_isRefused_147 ?_
      refine G_iload C (x := x4) 6 dL_isRefused_148 rfl ?_
      refine G_bipush C (v := 30) dL_isRefused_150 (by decide) ?_
      refine G_irem C dL_isRefused_152 (by decide) ?_
      refine G_iadd C dL_isRefused_153 ?_
      refine G_lv C (lv' := [(0, va_rf x0), (1, va_rf x1), (2, va_rf x2), (3, va_rf x3), (4, Value.int x4), (5, Value.int v5), (6, Value.int v6), (7, Value.int v7), (8, Value.int v8), (9, Value.int s0), (10, Value.long r500)]) [2, 3, 4, 5, 6, 7, 8, 9, 10, 1, 0] rfl ?_
      exact J154 _ _ _ _ _ _ _ _ _ _ _ _ _ _ _ h
    · have h := h.2 hc
      refine G_bipush C (v := (-2)) dL_isRefused_134 (by decide) ?_
      refine G_iload C (x := x4) 6 dL_isRefused_136 rfl ?_
      refine G_bipush C (v := 30) dL_isRefused_138 (by decide) ?_
      refine G_irem C dL_isRefused_140 (by decide) ?_
      refine G_isub C dL_isRefused_141 ?_
      refine G_goto C (tgt := 154) dL_isRefused_142 (by decide) ?_
      refine G_lv C (lv' := [(0, va_rf x0), (1, va_rf x1), (2, va_rf x2), (3, va_rf x3), (4, Value.int x4), (5, Value.int v5), (6, Value.int v6), (7, Value.int v7), (8, Value.int v8), (9, Value.int s0), (10, Value.long r500)]) [2, 3, 4, 5, 6, 7, 8, 9, 10, 1, 0] rfl ?_
      exact J154 _ _ _ _ _ _ _ _ _ _ _ _ _ _ _ h
  have J90 : ∀ (c0 n0 : Nat) (S : PT) (v5 : Int32) (v6 : Int32) (v7 : Int32) (s0 : Int32), w_L_isRefused_b90 e0 m0 x0 x1 x2 x3 x4 mc ms post c0 n0 S v5 v6 v7 s0 → G p l e { frames := 11, cells := mc, slots := ms, locals := 270 } s m [va_rf x0, va_rf x1, va_rf x2, va_rf x3, Value.int x4].toArray below meth c D cy A s.heap 15 (QMi below D cy A [va_rf x0, va_rf x1, va_rf x2, va_rf x3, Value.int x4] s mc ms (fun r S => bo r ∧ post r S)) S c0 n0 90 [(0, va_rf x0), (1, va_rf x1), (2, va_rf x2), (3, va_rf x3), (4, Value.int x4), (5, Value.int v5), (6, Value.int v6), (7, Value.int v7)] [Value.int s0] := by
    intro c0 n0 S v5 v6 v7 s0 h
    unfold w_L_isRefused_b90 at h
    obtain ⟨hc00, hn00, h⟩ := h
    refine G_istore C (i := 8) (lv' := [(8, Value.int s0), (0, va_rf x0), (1, va_rf x1), (2, va_rf x2), (3, va_rf x3), (4, Value.int x4), (5, Value.int v5), (6, Value.int v6), (7, Value.int v7)]) dL_isRefused_90 (by decide) (by first | rfl | simp [va_cat, vi_cat, vl_cat]) ?_
    refine G_iload C (x := v5) 6 dL_isRefused_92 rfl ?_
    refine G_if_eq C (tgt := 107) dL_isRefused_94 (by decide) (fun hc => ?_) (fun hc => ?_)
    · have h := h.1 hc
      refine G_iconst C (v := 5) dL_isRefused_107 (by decide) ?_
      refine G_iload C (x := x4) 5 dL_isRefused_108 rfl ?_
      refine G_bipush C (v := 30) dL_isRefused_110 (by decide) ?_
      refine G_irem C dL_isRefused_112 (by decide) ?_
      refine G_iadd C dL_isRefused_113 ?_
      refine G_lv C (lv' := [(0, va_rf x0), (1, va_rf x1), (2, va_rf x2), (3, va_rf x3), (4, Value.int x4), (5, Value.int v5), (6, Value.int v6), (7, Value.int v7), (8, Value.int s0)]) [1, 2, 3, 4, 5, 6, 7, 8, 0] rfl ?_
      exact J114 _ _ _ _ _ _ _ _ h
    · have h := h.2 hc
      refine G_iconst C (v := (-1)) dL_isRefused_97 (by decide) ?_
      refine G_iload C (x := x4) 5 dL_isRefused_98 rfl ?_
      refine G_bipush C (v := 30) dL_isRefused_100 (by decide) ?_
      refine G_irem C dL_isRefused_102 (by decide) ?_
      refine G_isub C dL_isRefused_103 ?_
      refine G_goto C (tgt := 114) dL_isRefused_104 (by decide) ?_
      refine G_lv C (lv' := [(0, va_rf x0), (1, va_rf x1), (2, va_rf x2), (3, va_rf x3), (4, Value.int x4), (5, Value.int v5), (6, Value.int v6), (7, Value.int v7), (8, Value.int s0)]) [1, 2, 3, 4, 5, 6, 7, 8, 0] rfl ?_
      exact J114 _ _ _ _ _ _ _ _ h
  have J64 : ∀ (c0 n0 : Nat) (S : PT) (v5 : Int32) (v6 : Int32) (s0 : Int32), w_L_isRefused_b64 e0 m0 x0 x1 x2 x3 x4 mc ms post c0 n0 S v5 v6 s0 → G p l e { frames := 11, cells := mc, slots := ms, locals := 270 } s m [va_rf x0, va_rf x1, va_rf x2, va_rf x3, Value.int x4].toArray below meth c D cy A s.heap 15 (QMi below D cy A [va_rf x0, va_rf x1, va_rf x2, va_rf x3, Value.int x4] s mc ms (fun r S => bo r ∧ post r S)) S c0 n0 64 [(0, va_rf x0), (1, va_rf x1), (2, va_rf x2), (3, va_rf x3), (4, Value.int x4), (5, Value.int v5), (6, Value.int v6)] [Value.int s0] := by
    intro c0 n0 S v5 v6 s0 h
    unfold w_L_isRefused_b64 at h
    obtain ⟨hc00, hn00, h⟩ := h
    refine G_istore C (i := 7) (lv' := [(7, Value.int s0), (0, va_rf x0), (1, va_rf x1), (2, va_rf x2), (3, va_rf x3), (4, Value.int x4), (5, Value.int v5), (6, Value.int v6)]) dL_isRefused_64 (by decide) (by first | rfl | simp [va_cat, vi_cat, vl_cat]) ?_
    refine G_iload C (x := v5) 6 dL_isRefused_66 rfl ?_
    refine G_if_eq C (tgt := 81) dL_isRefused_68 (by decide) (fun hc => ?_) (fun hc => ?_)
    · have h := h.1 hc
      refine G_aload_n C (x := x1) 2 dL_isRefused_81 rfl rfl ?_
      refine G_iconst C (v := 3) dL_isRefused_82 (by decide) ?_
      obtain ⟨a509, ha510, h⟩ := h
      refine G_rf1 ha510 ?_
      obtain ⟨hk511, h⟩ := h
      obtain ⟨hi512, h⟩ := h
      refine G_iald C hk511 hi512 dL_isRefused_83 ?_
      refine G_iload C (x := x4) 5 dL_isRefused_84 rfl ?_
      refine G_bipush C (v := 30) dL_isRefused_86 (by decide) ?_
      refine G_irem C dL_isRefused_88 (by decide) ?_
      refine G_iadd C dL_isRefused_89 ?_
      refine G_lv C (lv' := [(0, va_rf x0), (1, va_rf x1), (2, va_rf x2), (3, va_rf x3), (4, Value.int x4), (5, Value.int v5), (6, Value.int v6), (7, Value.int s0)]) [1, 2, 3, 4, 5, 6, 7, 0] rfl ?_
      exact J90 _ _ _ _ _ _ _ h
    · have h := h.2 hc
      refine G_iconst C (v := (-1)) dL_isRefused_71 (by decide) ?_
      refine G_iload C (x := x4) 5 dL_isRefused_72 rfl ?_
      refine G_bipush C (v := 30) dL_isRefused_74 (by decide) ?_
      refine G_irem C dL_isRefused_76 (by decide) ?_
      refine G_isub C dL_isRefused_77 ?_
      refine G_goto C (tgt := 90) dL_isRefused_78 (by decide) ?_
      refine G_lv C (lv' := [(0, va_rf x0), (1, va_rf x1), (2, va_rf x2), (3, va_rf x3), (4, Value.int x4), (5, Value.int v5), (6, Value.int v6), (7, Value.int s0)]) [1, 2, 3, 4, 5, 6, 7, 0] rfl ?_
      exact J90 _ _ _ _ _ _ _ h
  have J38 : ∀ (c0 n0 : Nat) (S : PT) (v5 : Int32) (s0 : Int32), w_L_isRefused_b38 e0 m0 x0 x1 x2 x3 x4 mc ms post c0 n0 S v5 s0 → G p l e { frames := 11, cells := mc, slots := ms, locals := 270 } s m [va_rf x0, va_rf x1, va_rf x2, va_rf x3, Value.int x4].toArray below meth c D cy A s.heap 15 (QMi below D cy A [va_rf x0, va_rf x1, va_rf x2, va_rf x3, Value.int x4] s mc ms (fun r S => bo r ∧ post r S)) S c0 n0 38 [(0, va_rf x0), (1, va_rf x1), (2, va_rf x2), (3, va_rf x3), (4, Value.int x4), (5, Value.int v5)] [Value.int s0] := by
    intro c0 n0 S v5 s0 h
    unfold w_L_isRefused_b38 at h
    obtain ⟨hc00, hn00, h⟩ := h
    refine G_istore C (i := 6) (lv' := [(6, Value.int s0), (0, va_rf x0), (1, va_rf x1), (2, va_rf x2), (3, va_rf x3), (4, Value.int x4), (5, Value.int v5)]) dL_isRefused_38 (by decide) (by first | rfl | simp [va_cat, vi_cat, vl_cat]) ?_
    refine G_iload C (x := v5) 6 dL_isRefused_40 rfl ?_
    refine G_if_eq C (tgt := 55) dL_isRefused_42 (by decide) (fun hc => ?_) (fun hc => ?_)
    · have h := h.1 hc
      refine G_aload_n C (x := x1) 2 dL_isRefused_55 rfl rfl ?_
      refine G_iconst C (v := 2) dL_isRefused_56 (by decide) ?_
      obtain ⟨a513, ha514, h⟩ := h
      refine G_rf1 ha514 ?_
      obtain ⟨hk515, h⟩ := h
      obtain ⟨hi516, h⟩ := h
      refine G_iald C hk515 hi516 dL_isRefused_57 ?_
      refine G_iload C (x := x4) 5 dL_isRefused_58 rfl ?_
      refine G_bipush C (v := 30) dL_isRefused_60 (by decide) ?_
      refine G_irem C dL_isRefused_62 (by decide) ?_
      refine G_iadd C dL_isRefused_63 ?_
      refine G_lv C (lv' := [(0, va_rf x0), (1, va_rf x1), (2, va_rf x2), (3, va_rf x3), (4, Value.int x4), (5, Value.int v5), (6, Value.int s0)]) [1, 2, 3, 4, 5, 6, 0] rfl ?_
      exact J64 _ _ _ _ _ _ h
    · have h := h.2 hc
      refine G_iconst C (v := (-1)) dL_isRefused_45 (by decide) ?_
      refine G_iload C (x := x4) 5 dL_isRefused_46 rfl ?_
      refine G_bipush C (v := 30) dL_isRefused_48 (by decide) ?_
      refine G_irem C dL_isRefused_50 (by decide) ?_
      refine G_isub C dL_isRefused_51 ?_
      refine G_goto C (tgt := 64) dL_isRefused_52 (by decide) ?_
      refine G_lv C (lv' := [(0, va_rf x0), (1, va_rf x1), (2, va_rf x2), (3, va_rf x3), (4, Value.int x4), (5, Value.int v5), (6, Value.int s0)]) [1, 2, 3, 4, 5, 6, 0] rfl ?_
      exact J64 _ _ _ _ _ _ h
  have J12 : ∀ (c0 n0 : Nat) (S : PT) (s0 : Int32), w_L_isRefused_b12 e0 m0 x0 x1 x2 x3 x4 mc ms post c0 n0 S s0 → G p l e { frames := 11, cells := mc, slots := ms, locals := 270 } s m [va_rf x0, va_rf x1, va_rf x2, va_rf x3, Value.int x4].toArray below meth c D cy A s.heap 15 (QMi below D cy A [va_rf x0, va_rf x1, va_rf x2, va_rf x3, Value.int x4] s mc ms (fun r S => bo r ∧ post r S)) S c0 n0 12 [(0, va_rf x0), (1, va_rf x1), (2, va_rf x2), (3, va_rf x3), (4, Value.int x4)] [Value.int s0] := by
    intro c0 n0 S s0 h
    unfold w_L_isRefused_b12 at h
    obtain ⟨hc00, hn00, h⟩ := h
    refine G_istore C (i := 5) (lv' := [(5, Value.int s0), (0, va_rf x0), (1, va_rf x1), (2, va_rf x2), (3, va_rf x3), (4, Value.int x4)]) dL_isRefused_12 (by decide) (by first | rfl | simp [va_cat, vi_cat, vl_cat]) ?_
    refine G_iload C (x := s0) 0 dL_isRefused_14 rfl ?_
    refine G_if_eq C (tgt := 29) dL_isRefused_16 (by decide) (fun hc => ?_) (fun hc => ?_)
    · have h := h.1 hc
      refine G_aload_n C (x := x1) 2 dL_isRefused_29 rfl rfl ?_
      refine G_iconst C (v := 1) dL_isRefused_30 (by decide) ?_
      obtain ⟨a517, ha518, h⟩ := h
      refine G_rf1 ha518 ?_
      obtain ⟨hk519, h⟩ := h
      obtain ⟨hi520, h⟩ := h
      refine G_iald C hk519 hi520 dL_isRefused_31 ?_
      refine G_iload C (x := x4) 5 dL_isRefused_32 rfl ?_
      refine G_bipush C (v := 30) dL_isRefused_34 (by decide) ?_
      refine G_irem C dL_isRefused_36 (by decide) ?_
      refine G_iadd C dL_isRefused_37 ?_
      refine G_lv C (lv' := [(0, va_rf x0), (1, va_rf x1), (2, va_rf x2), (3, va_rf x3), (4, Value.int x4), (5, Value.int s0)]) [1, 2, 3, 4, 5, 0] rfl ?_
      exact J38 _ _ _ _ _ h
    · have h := h.2 hc
      refine G_iconst C (v := (-1)) dL_isRefused_19 (by decide) ?_
      refine G_iload C (x := x4) 5 dL_isRefused_20 rfl ?_
      refine G_bipush C (v := 30) dL_isRefused_22 (by decide) ?_
      refine G_irem C dL_isRefused_24 (by decide) ?_
      refine G_isub C dL_isRefused_25 ?_
      refine G_goto C (tgt := 38) dL_isRefused_26 (by decide) ?_
      refine G_lv C (lv' := [(0, va_rf x0), (1, va_rf x1), (2, va_rf x2), (3, va_rf x3), (4, Value.int x4), (5, Value.int s0)]) [1, 2, 3, 4, 5, 0] rfl ?_
      exact J38 _ _ _ _ _ h
  refine G_lv C (lv' := [(0, va_rf x0), (1, va_rf x1), (2, va_rf x2), (3, va_rf x3), (4, Value.int x4)]) [0, 1, 2, 3, 4] (by first | rfl | simp [lv_pick, lv_args, va_cat, vi_cat, vl_cat]) ?_
  unfold w_L_isRefused at h
  refine G_iload C (x := x4) 4 dL_isRefused_0 rfl ?_
  refine G_iconst C (v := 2) dL_isRefused_2 (by decide) ?_
  refine G_irem C dL_isRefused_3 (by decide) ?_
  refine G_if_ne C (tgt := 11) dL_isRefused_4 (by decide) (fun hc => ?_) (fun hc => ?_)
  · have h := h.1 hc
    refine G_iconst C (v := 0) dL_isRefused_11 (by decide) ?_
    refine G_lv C (lv' := [(0, va_rf x0), (1, va_rf x1), (2, va_rf x2), (3, va_rf x3), (4, Value.int x4)]) [0, 1, 2, 3, 4] rfl ?_
    exact J12 _ _ _ _ h
  · have h := h.2 hc
    refine G_iconst C (v := 1) dL_isRefused_7 (by decide) ?_
    refine G_goto C (tgt := 12) dL_isRefused_8 (by decide) ?_
    refine G_lv C (lv' := [(0, va_rf x0), (1, va_rf x1), (2, va_rf x2), (3, va_rf x3), (4, Value.int x4)]) [0, 1, 2, 3, 4] rfl ?_
    exact J12 _ _ _ _ h
