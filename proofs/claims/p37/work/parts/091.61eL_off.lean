set_option maxHeartbeats 4000000 in
set_option maxRecDepth 100000 in
theorem c_L_off (l : Launch) (hl : l.stackTraces = false) (D : va_G) (cy : Nat → Nat) (e0 m0 : Nat) (he : e0 = cy 9) (hm : m0 = cy 10) (x0 : Option Nat) (x1 : Int32) (x2 : Int32) (x3 : Int32) (x4 : Int32) (x5 : Int32) (x6 : Int32) (S : PT) (mc ms : Nat) (post : Int32 → PT → Prop) (h : w_L_off e0 m0 x0 x1 x2 x3 x4 x5 x6 S mc ms post) : Mi l yL_off (Wm yL_off method_7_code 7 (Option.some Jvm.ClassFile.FieldType.boolean)) 10 244 D cy [va_rf x0, Value.int x1, Value.int x2, Value.int x3, Value.int x4, Value.int x5, Value.int x6] S mc ms (fun r S => bo r ∧ post r S) := by
  refine Mi_of (own := "TrenchboardLaw") (by decide) rfl (by first | decide | simp [lg_sl, va_cat, vi_cat, vl_cat]) (fun p e s m below meth c A C hZ hr hin9 => ?_)
  have J23 : ∀ (c0 n0 : Nat) (S : PT) (s0 : Int32), w_L_off_b23 e0 m0 x0 x1 x2 x3 x4 x5 x6 mc ms post c0 n0 S s0 → G p l e { frames := 10, cells := mc, slots := ms, locals := 244 } s m [va_rf x0, Value.int x1, Value.int x2, Value.int x3, Value.int x4, Value.int x5, Value.int x6].toArray below meth c D cy A s.heap 7 (QMi below D cy A [va_rf x0, Value.int x1, Value.int x2, Value.int x3, Value.int x4, Value.int x5, Value.int x6] s mc ms (fun r S => bo r ∧ post r S)) S c0 n0 23 [] [Value.int s0] := by
    intro c0 n0 S s0 h
    unfold w_L_off_b23 at h
    obtain ⟨hc00, hn00, h⟩ := h
    obtain ⟨hb1, h⟩ := h
    exact G_zret C (mc := mc) (ms := ms) (post := (fun r S => bo r ∧ post r S)) (bo_nar hb1) hr hc00 hn00 dL_off_23 ⟨hb1, h⟩
  refine G_lv C (lv' := [(0, va_rf x0), (1, Value.int x1), (2, Value.int x2), (3, Value.int x3), (4, Value.int x4), (5, Value.int x5), (6, Value.int x6)]) [0, 1, 2, 3, 4, 5, 6] (by first | rfl | simp [lv_pick, lv_args, va_cat, vi_cat, vl_cat]) ?_
  unfold w_L_off at h
  refine G_aload_n C (x := x0) 0 dL_off_0 rfl rfl ?_
  refine G_iload_n C (x := x1) 1 dL_off_1 rfl rfl ?_
  refine G_iload_n C (x := x2) 2 dL_off_2 rfl rfl ?_
  refine G_iload_n C (x := x3) 3 dL_off_3 rfl rfl ?_
  refine G_iload C (x := x4) 4 dL_off_4 rfl ?_
  refine G_iload C (x := x5) 5 dL_off_6 rfl ?_
  refine G_iload C (x := x6) 6 dL_off_8 rfl ?_
  obtain ⟨m4, m5, hc6, hs7, h⟩ := h
  refine G_callSWi C hZ tw_2_35 tw_2_36 tw_1_0 tw_2_37 hy_L_act ⟨Nat.le_of_ble_eq_true rfl, Nat.le_of_ble_eq_true rfl⟩ (As := [va_rf x0, Value.int x1, Value.int x2, Value.int x3, Value.int x4, Value.int x5, Value.int x6]) (rest := []) (c_L_act l hl D cy e0 m0 he hm x0 x1 x2 x3 x4 x5 x6 S m4 m5 _ h) rfl rfl (by simp [va_cat, vi_cat, vl_cat]) dL_off_10 ⟨hc6, hs7⟩ (fun r3 S2 h => ?_)
  refine G_ldc C (v := (-1712000)) (im tw_4_175) dL_off_13 ?_
  refine G_icmp_ne C (tgt := 22) dL_off_15 (by decide) (fun hc => ?_) (fun hc => ?_)
  · have h := h.1 hc
    refine G_iconst C (v := 0) dL_off_22 (by decide) ?_
    refine G_lv C (lv' := []) [] rfl ?_
    exact J23 _ _ _ _ h
  · have h := h.2 hc
    refine G_iconst C (v := 1) dL_off_18 (by decide) ?_
    refine G_goto C (tgt := 23) dL_off_19 (by decide) ?_
    refine G_lv C (lv' := []) [] rfl ?_
    exact J23 _ _ _ _ h
