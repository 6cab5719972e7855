set_option maxHeartbeats 4000000 in
set_option maxRecDepth 100000 in
theorem c_L_isLaid (l : Launch) (hl : l.stackTraces = false) (D : va_G) (cy : Nat → Nat) (e0 m0 : Nat) (he : e0 = cy 9) (hm : m0 = cy 10) (x0 : Option Nat) (x1 : Option Nat) (x2 : Option Nat) (x3 : Int32) (x4 : Int32) (S : PT) (mc ms : Nat) (post : Int32 → PT → Prop) (h : w_L_isLaid e0 m0 x0 x1 x2 x3 x4 S mc ms post) : Mi l yL_isLaid (Wm yL_isLaid method_10_code 11 (Option.some Jvm.ClassFile.FieldType.boolean)) 10 244 D cy [va_rf x0, va_rf x1, va_rf x2, Value.int x3, Value.int x4] S mc ms (fun r S => bo r ∧ post r S) := by
  refine Mi_of (own := "TrenchboardLaw") (by decide) rfl (by first | decide | simp [lg_sl, va_cat, vi_cat, vl_cat]) (fun p e s m below meth c A C hZ hr hin9 => ?_)
  have J227 : ∀ (c0 n0 : Nat) (S : PT) (s0 : Int32), w_L_isLaid_b227 e0 m0 x0 x1 x2 x3 x4 mc ms post c0 n0 S s0 → G p l e { frames := 10, cells := mc, slots := ms, locals := 244 } s m [va_rf x0, va_rf x1, va_rf x2, Value.int x3, Value.int x4].toArray below meth c D cy A s.heap 11 (QMi below D cy A [va_rf x0, va_rf x1, va_rf x2, Value.int x3, Value.int x4] s mc ms (fun r S => bo r ∧ post r S)) S c0 n0 227 [] [Value.int s0] := by
    intro c0 n0 S s0 h
    unfold w_L_isLaid_b227 at h
    obtain ⟨hc00, hn00, h⟩ := h
    obtain ⟨hb1, h⟩ := h
    exact G_zret C (mc := mc) (ms := ms) (post := (fun r S => bo r ∧ post r S)) (bo_nar hb1) hr hc00 hn00 dL_isLaid_227 ⟨hb1, h⟩
  have J365 : ∀ (c0 n0 : Nat) (S : PT) (s0 : Int32), w_L_isLaid_b365 e0 m0 x0 x1 x2 x3 x4 mc ms post c0 n0 S s0 → G p l e { frames := 10, cells := mc, slots := ms, locals := 244 } s m [va_rf x0, va_rf x1, va_rf x2, Value.int x3, Value.int x4].toArray below meth c D cy A s.heap 11 (QMi below D cy A [va_rf x0, va_rf x1, va_rf x2, Value.int x3, Value.int x4] s mc ms (fun r S => bo r ∧ post r S)) S c0 n0 365 [] [Value.int s0] := by
    intro c0 n0 S s0 h
    unfold w_L_isLaid_b365 at h
    obtain ⟨hc00, hn00, h⟩ := h
    obtain ⟨hb2, h⟩ := h
    exact G_zret C (mc := mc) (ms := ms) (post := (fun r S => bo r ∧ post r S)) (bo_nar hb2) hr hc00 hn00 dL_isLaid_365 ⟨hb2, h⟩
  have J364 : ∀ (c0 n0 : Nat) (S : PT), w_L_isLaid_b364 e0 m0 x0 x1 x2 x3 x4 mc ms post c0 n0 S → G p l e { frames := 10, cells := mc, slots := ms, locals := 244 } s m [va_rf x0, va_rf x1, va_rf x2, Value.int x3, Value.int x4].toArray below meth c D cy A s.heap 11 (QMi below D cy A [va_rf x0, va_rf x1, va_rf x2, Value.int x3, Value.int x4] s mc ms (fun r S => bo r ∧ post r S)) S c0 n0 364 [] [] := by
    intro c0 n0 S h
    unfold w_L_isLaid_b364 at h
    obtain ⟨hc00, hn00, h⟩ := h
    refine G_iconst C (v := 0) dL_isLaid_364 (by decide) ?_
    refine G_lv C (lv' := []) [] rfl ?_
    exact J365 _ _ _ _ h
  have J281 : ∀ (n : Nat) (c0 n0 : Nat) (S : PT) (v5 : Int32) (v7 : Int32) (v8 : Int32) (v9 : Int32), w_L_isLaid_l281 e0 m0 x0 x1 x2 x3 x4 mc ms post n c0 n0 S v5 v7 v8 v9 → G p l e { frames := 10, cells := mc, slots := ms, locals := 244 } s m [va_rf x0, va_rf x1, va_rf x2, Value.int x3, Value.int x4].toArray below meth c D cy A s.heap 11 (QMi below D cy A [va_rf x0, va_rf x1, va_rf x2, Value.int x3, Value.int x4] s mc ms (fun r S => bo r ∧ post r S)) S c0 n0 281 [(0, va_rf x0), (1, va_rf x1), (5, Value.int v5), (7, Value.int v7), (8, Value.int v8), (9, Value.int v9)] [] := by
    intro n281
    induction n281 with
    | zero => intro c0 n0 S v5 v7 v8 v9 h; rw [w_L_isLaid_l281] at h; exact False.elim h
    | succ n281 K281 =>
      have J310 : ∀ (c0 n0 : Nat) (S : PT) (v5 : Int32) (v7 : Int32) (v9 : Int32) (s0 : Int32), w_L_isLaid_b310 e0 m0 x0 x1 x2 x3 x4 mc ms post (w_L_isLaid_l281 e0 m0 x0 x1 x2 x3 x4 mc ms post n281) c0 n0 S v5 v7 v9 s0 → G p l e { frames := 10, cells := mc, slots := ms, locals := 244 } s m [va_rf x0, va_rf x1, va_rf x2, Value.int x3, Value.int x4].toArray below meth c D cy A s.heap 11 (QMi below D cy A [va_rf x0, va_rf x1, va_rf x2, Value.int x3, Value.int x4] s mc ms (fun r S => bo r ∧ post r S)) S c0 n0 310 [(0, va_rf x0), (1, va_rf x1), (5, Value.int v5), (7, Value.int v7), (9, Value.int v9)] [Value.int s0] := by
        intro c0 n0 S v5 v7 v9 s0 h
        unfold w_L_isLaid_b310 at h
        obtain ⟨hc00, hn00, h⟩ := h
        refine G_istore C (i := 8) (lv' := [(8, Value.int s0), (0, va_rf x0), (1, va_rf x1), (5, Value.int v5), (7, Value.int v7), (9, Value.int v9)]) dL_isLaid_310 (by decide) (by first | rfl | simp [va_cat, vi_cat, vl_cat]) ?_
        refine G_iinc C (v := (v9 + 1)) (lv' := [(9, Value.int (v9 + 1)), (8, Value.int s0), (0, va_rf x0), (1, va_rf x1), (5, Value.int v5), (7, Value.int v7)]) 5 dL_isLaid_312 rfl rfl (by decide) (by first | rfl | simp [va_cat, vi_cat, vl_cat]) ?_
        refine G_goto C (tgt := 281) dL_isLaid_315 (by decide) ?_
        refine G_lv C (lv' := [(0, va_rf x0), (1, va_rf x1), (5, Value.int v5), (7, Value.int v7), (8, Value.int s0), (9, Value.int (v9 + 1))]) [2, 3, 4, 5, 1, 0] rfl ?_
        exact K281 _ _ _ _ _ _ _ h
      have J309 : ∀ (c0 n0 : Nat) (S : PT) (v5 : Int32) (v7 : Int32) (v9 : Int32), w_L_isLaid_b309 e0 m0 x0 x1 x2 x3 x4 mc ms post (w_L_isLaid_l281 e0 m0 x0 x1 x2 x3 x4 mc ms post n281) c0 n0 S v5 v7 v9 → G p l e { frames := 10, cells := mc, slots := ms, locals := 244 } s m [va_rf x0, va_rf x1, va_rf x2, Value.int x3, Value.int x4].toArray below meth c D cy A s.heap 11 (QMi below D cy A [va_rf x0, va_rf x1, va_rf x2, Value.int x3, Value.int x4] s mc ms (fun r S => bo r ∧ post r S)) S c0 n0 309 [(0, va_rf x0), (1, va_rf x1), (5, Value.int v5), (7, Value.int v7), (9, Value.int v9)] [] := by
        intro c0 n0 S v5 v7 v9 h
        unfold w_L_isLaid_b309 at h
        obtain ⟨hc00, hn00, h⟩ := h
        refine G_iconst C (v := 0) dL_isLaid_309 (by decide) ?_
        refine G_lv C (lv' := [(0, va_rf x0), (1, va_rf x1), (5, Value.int v5), (7, Value.int v7), (9, Value.int v9)]) [0, 1, 2, 3, 4] rfl ?_
        exact J310 _ _ _ _ _ _ _ h
      intro c0 n0 S v5 v7 v8 v9 h
      rw [w_L_isLaid_l281] at h
      obtain ⟨hc00, hn00, h⟩ := h
      refine G_iload C (x := v9) 5 dL_isLaid_281 rfl ?_
      refine G_iload C (x := v7) 3 dL_isLaid_283 rfl ?_
      refine G_icmp_gt C (tgt := 318) dL_isLaid_285 (by decide) (fun hc => ?_) (fun hc => ?_)
      · have h := h.1 hc
        refine G_iload C (x := v8) 4 dL_isLaid_318 rfl ?_
        refine G_if_eq C (tgt := 364) dL_isLaid_320 (by decide) (fun hc => ?_) (fun hc => ?_)
        · have h := h.1 hc
          refine G_lv C (lv' := []) [] rfl ?_
          exact J364 _ _ _ h
        · have h := h.2 hc
          refine G_aload_n C (x := x0) 0 dL_isLaid_323 rfl rfl ?_
          refine G_bipush C (v := 6) dL_isLaid_324 (by decide) ?_
          refine G_aload_n C (x := x1) 1 dL_isLaid_326 rfl rfl ?_
          refine G_iconst C (v := 2) dL_isLaid_327 (by decide) ?_
          obtain ⟨a3, ha4, h⟩ := h
          refine G_rf1 ha4 ?_
          obtain ⟨hk5, h⟩ := h
          obtain ⟨hi6, h⟩ := h
          refine G_iald C hk5 hi6 dL_isLaid_328 ?_
          refine G_iconst C (v := 1) dL_isLaid_329 (by decide) ?_
          refine G_isub C dL_isLaid_330 ?_
          refine G_iconst C (v := 0) dL_isLaid_331 (by decide) ?_
          refine G_iconst C (v := 0) dL_isLaid_332 (by decide) ?_
          refine G_iconst C (v := 0) dL_isLaid_333 (by decide) ?_
          refine G_iconst C (v := 0) dL_isLaid_334 (by decide) ?_
          obtain ⟨m9, m10, hc11, hs12, h⟩ := h
          refine G_callSWi C hZ tw_2_35 tw_2_36 tw_1_0 tw_2_37 hy_L_act ⟨Nat.le_of_ble_eq_true rfl, Nat.le_of_ble_eq_true rfl⟩ (As := [va_rf x0, Value.int 6, Value.int ((gA S a3 ((2 : Int32).toNatClampNeg)) - 1), Value.int 0, Value.int 0, Value.int 0, Value.int 0]) (rest := []) (c_L_act l hl D cy e0 m0 he hm x0 6 ((gA S a3 ((2 : Int32).toNatClampNeg)) - 1) 0 0 0 0 S m9 m10 _ h) rfl rfl (by simp [va_cat, vi_cat, vl_cat]) dL_isLaid_335 ⟨hc11, hs12⟩ (fun r8 S7 h => ?_)
          refine G_ldc C (v := (-1713000)) (im tw_4_176) dL_isLaid_338 ?_
          refine G_icmp_ne C (tgt := 364) dL_isLaid_340 (by decide) (fun hc => ?_) (fun hc => ?_)
          · have h := h.1 hc
            refine G_lv C (lv' := []) [] rfl ?_
            exact J364 _ _ _ h
          · have h := h.2 hc
            refine G_aload_n C (x := x0) 0 dL_isLaid_343 rfl rfl ?_
            refine G_iconst C (v := 5) dL_isLaid_344 (by decide) ?_
            refine G_aload_n C (x := x1) 1 dL_isLaid_345 rfl rfl ?_
            refine G_iconst C (v := 2) dL_isLaid_346 (by decide) ?_
            refine G_rf1 ha4 ?_
            obtain ⟨hk13, h⟩ := h
            obtain ⟨hi14, h⟩ := h
            refine G_iald C hk13 hi14 dL_isLaid_347 ?_
            refine G_iconst C (v := 1) dL_isLaid_348 (by decide) ?_
            refine G_isub C dL_isLaid_349 ?_
            refine G_iconst C (v := 0) dL_isLaid_350 (by decide) ?_
            refine G_iconst C (v := 0) dL_isLaid_351 (by decide) ?_
            refine G_iconst C (v := 0) dL_isLaid_352 (by decide) ?_
            refine G_iconst C (v := 0) dL_isLaid_353 (by decide) ?_
            obtain ⟨m17, m18, hc19, hs20, h⟩ := h
            refine G_callSWi C hZ tw_2_35 tw_2_36 tw_1_0 tw_2_37 hy_L_act ⟨Nat.le_of_ble_eq_true rfl, Nat.le_of_ble_eq_true rfl⟩ (As := [va_rf x0, Value.int 5, Value.int ((gA S7 a3 ((2 : Int32).toNatClampNeg)) - 1), Value.int 0, Value.int 0, Value.int 0, Value.int 0]) (rest := []) (c_L_act l hl D cy e0 m0 he hm x0 5 ((gA S7 a3 ((2 : Int32).toNatClampNeg)) - 1) 0 0 0 0 S7 m17 m18 _ h) rfl rfl (by simp [va_cat, vi_cat, vl_cat]) dL_isLaid_354 ⟨hc19, hs20⟩ (fun r16 S15 h => ?_)
            refine G_if_ne C (tgt := 364) dL_isLaid_357 (by decide) (fun hc => ?_) (fun hc => ?_)
            · have h := h.1 hc
              refine G_lv C (lv' := []) [] rfl ?_
              exact J364 _ _ _ h
            · have h := h.2 hc
              refine G_iconst C (v := 1) dL_isLaid_360 (by decide) ?_
              refine G_goto C (tgt := 365) dL_isLaid_361 (by decide) ?_
              refine G_lv C (lv' := []) [] rfl ?_
              exact J365 _ _ _ _ h
      · have h := h.2 hc
        refine G_iload C (x := v8) 4 dL_isLaid_288 rfl ?_
        refine G_if_eq C (tgt := 309) dL_isLaid_290 (by decide) (fun hc => ?_) (fun hc => ?_)
        · have h := h.1 hc
          refine G_lv C (lv' := [(0, va_rf x0), (1, va_rf x1), (5, Value.int v5), (7, Value.int v7), (9, Value.int v9)]) [0, 1, 2, 3, 5] rfl ?_
          exact J309 _ _ _ _ _ _ h
        · have h := h.2 hc
          refine G_aload_n C (x := x0) 0 dL_isLaid_293 rfl rfl ?_
          refine G_iload C (x := v5) 2 dL_isLaid_294 rfl ?_
          refine G_iload C (x := v9) 5 dL_isLaid_296 rfl ?_
          refine G_iconst C (v := 1) dL_isLaid_298 (by decide) ?_
          obtain ⟨S21, M22, hv23, hd24, h⟩ := h
          obtain ⟨a26, ha27, h⟩ := h
          obtain ⟨hk28, h⟩ := h
          obtain ⟨m31, m32, hc33, hs34, h⟩ := h
          refine G_fxcalli C hZ hv23 hd24 (Tf := TX8) (N := 10) hk28 (by decide) rfl tw_2_5 tw_2_6 tw_2_7 tw_1_1 tw_2_8 hy_X8_metre ⟨Nat.le_of_ble_eq_true rfl, Nat.le_of_ble_eq_true rfl⟩ (As := [Value.int v5, Value.int v9, Value.int 1]) (rest := []) (c_X8_metre l hl  D cy a26 v5 v9 1 S21 m31 m32 _ _ h) rfl (by first | rfl | (simp only [ha27]; rfl) | simp only [ha27]) (by simp [va_cat, vi_cat, vl_cat]) dL_isLaid_299 ⟨hc33, hs34⟩ (fun E S29 hd25 h => ?_) (fun r30 S29 hd25 h => ?_)
          · exact (h hd25).elim
          · replace h := h hd25
            refine G_if_ne C (tgt := 309) dL_isLaid_302 (by decide) (fun hc => ?_) (fun hc => ?_)
            · have h := h.1 hc
              refine G_lv C (lv' := [(0, va_rf x0), (1, va_rf x1), (5, Value.int v5), (7, Value.int v7), (9, Value.int v9)]) [0, 1, 2, 3, 5] rfl ?_
              exact J309 _ _ _ _ _ _ h
            · have h := h.2 hc
              refine G_iconst C (v := 1) dL_isLaid_305 (by decide) ?_
              refine G_goto C (tgt := 310) dL_isLaid_306 (by decide) ?_
              refine G_lv C (lv' := [(0, va_rf x0), (1, va_rf x1), (5, Value.int v5), (7, Value.int v7), (9, Value.int v9)]) [0, 1, 2, 3, 5] rfl ?_
              exact J310 _ _ _ _ _ _ _ h
  have J275 : ∀ (c0 n0 : Nat) (S : PT) (v5 : Int32) (v6 : Int32) (v7 : Int32) (s0 : Int32), w_L_isLaid_b275 e0 m0 x0 x1 x2 x3 x4 mc ms post c0 n0 S v5 v6 v7 s0 → G p l e { frames := 10, cells := mc, slots := ms, locals := 244 } s m [va_rf x0, va_rf x1, va_rf x2, Value.int x3, Value.int x4].toArray below meth c D cy A s.heap 11 (QMi below D cy A [va_rf x0, va_rf x1, va_rf x2, Value.int x3, Value.int x4] s mc ms (fun r S => bo r ∧ post r S)) S c0 n0 275 [(0, va_rf x0), (1, va_rf x1), (5, Value.int v5), (6, Value.int v6), (7, Value.int v7)] [Value.int s0] := by
    intro c0 n0 S v5 v6 v7 s0 h
    unfold w_L_isLaid_b275 at h
    obtain ⟨hc00, hn00, h⟩ := h
    refine G_istore C (i := 8) (lv' := [(8, Value.int s0), (0, va_rf x0), (1, va_rf x1), (5, Value.int v5), (6, Value.int v6), (7, Value.int v7)]) dL_isLaid_275 (by decide) (by first | rfl | simp [va_cat, vi_cat, vl_cat]) ?_
    refine G_iload C (x := v6) 4 dL_isLaid_277 rfl ?_
    refine G_istore C (i := 9) (lv' := [(9, Value.int v6), (8, Value.int s0), (0, va_rf x0), (1, va_rf x1), (5, Value.int v5), (6, Value.int v6), (7, Value.int v7)]) dL_isLaid_279 (by decide) (by first | rfl | simp [va_cat, vi_cat, vl_cat]) ?_
    refine G_lv C (lv' := [(0, va_rf x0), (1, va_rf x1), (5, Value.int v5), (7, Value.int v7), (8, Value.int s0), (9, Value.int v6)]) [2, 3, 4, 6, 1, 0] rfl ?_
    obtain ⟨n9, h⟩ := h
    exact J281 n9 _ _ _ _ _ _ _ h
  have J465 : ∀ (c0 n0 : Nat) (S : PT) (s0 : Int32), w_L_isLaid_b465 e0 m0 x0 x1 x2 x3 x4 mc ms post c0 n0 S s0 → G p l e { frames := 10, cells := mc, slots := ms, locals := 244 } s m [va_rf x0, va_rf x1, va_rf x2, Value.int x3, Value.int x4].toArray below meth c D cy A s.heap 11 (QMi below D cy A [va_rf x0, va_rf x1, va_rf x2, Value.int x3, Value.int x4] s mc ms (fun r S => bo r ∧ post r S)) S c0 n0 465 [] [Value.int s0] := by
    intro c0 n0 S s0 h
    unfold w_L_isLaid_b465 at h
    obtain ⟨hc00, hn00, h⟩ := h
    obtain ⟨hb35, h⟩ := h
    exact G_zret C (mc := mc) (ms := ms) (post := (fun r S => bo r ∧ post r S)) (bo_nar hb35) hr hc00 hn00 dL_isLaid_465 ⟨hb35, h⟩
  have J464 : ∀ (c0 n0 : Nat) (S : PT), w_L_isLaid_b464 e0 m0 x0 x1 x2 x3 x4 mc ms post c0 n0 S → G p l e { frames := 10, cells := mc, slots := ms, locals := 244 } s m [va_rf x0, va_rf x1, va_rf x2, Value.int x3, Value.int x4].toArray below meth c D cy A s.heap 11 (QMi below D cy A [va_rf x0, va_rf x1, va_rf x2, Value.int x3, Value.int x4] s mc ms (fun r S => bo r ∧ post r S)) S c0 n0 464 [] [] := by
    intro c0 n0 S h
    unfold w_L_isLaid_b464 at h
    obtain ⟨hc00, hn00, h⟩ := h
    refine G_iconst C (v := 0) dL_isLaid_464 (by decide) ?_
    refine G_lv C (lv' := []) [] rfl ?_
    exact J465 _ _ _ _ h
  have J526 : ∀ (c0 n0 : Nat) (S : PT) (s0 : Int32), w_L_isLaid_b526 e0 m0 x0 x1 x2 x3 x4 mc ms post c0 n0 S s0 → G p l e { frames := 10, cells := mc, slots := ms, locals := 244 } s m [va_rf x0, va_rf x1, va_rf x2, Value.int x3, Value.int x4].toArray below meth c D cy A s.heap 11 (QMi below D cy A [va_rf x0, va_rf x1, va_rf x2, Value.int x3, Value.int x4] s mc ms (fun r S => bo r ∧ post r S)) S c0 n0 526 [] [Value.int s0] := by
    intro c0 n0 S s0 h
    unfold w_L_isLaid_b526 at h
    obtain ⟨hc00, hn00, h⟩ := h
    obtain ⟨hb36, h⟩ := h
    exact G_zret C (mc := mc) (ms := ms) (post := (fun r S => bo r ∧ post r S)) (bo_nar hb36) hr hc00 hn00 dL_isLaid_526 ⟨hb36, h⟩
  have J521 : ∀ (c0 n0 : Nat) (S : PT), w_L_isLaid_b521 e0 m0 x0 x1 x2 x3 x4 mc ms post c0 n0 S → G p l e { frames := 10, cells := mc, slots := ms, locals := 244 } s m [va_rf x0, va_rf x1, va_rf x2, Value.int x3, Value.int x4].toArray below meth c D cy A s.heap 11 (QMi below D cy A [va_rf x0, va_rf x1, va_rf x2, Value.int x3, Value.int x4] s mc ms (fun r S => bo r ∧ post r S)) S c0 n0 521 [] [] := by
    intro c0 n0 S h
    unfold w_L_isLaid_b521 at h
    obtain ⟨hc00, hn00, h⟩ := h
    refine G_iconst C (v := 1) dL_isLaid_521 (by decide) ?_
    refine G_goto C (tgt := 526) dL_isLaid_522 (by decide) ?_
    refine G_lv C (lv' := []) [] rfl ?_
    exact J526 _ _ _ _ h
  have J525 : ∀ (c0 n0 : Nat) (S : PT), w_L_isLaid_b525 e0 m0 x0 x1 x2 x3 x4 mc ms post c0 n0 S → G p l e { frames := 10, cells := mc, slots := ms, locals := 244 } s m [va_rf x0, va_rf x1, va_rf x2, Value.int x3, Value.int x4].toArray below meth c D cy A s.heap 11 (QMi below D cy A [va_rf x0, va_rf x1, va_rf x2, Value.int x3, Value.int x4] s mc ms (fun r S => bo r ∧ post r S)) S c0 n0 525 [] [] := by
    intro c0 n0 S h
    unfold w_L_isLaid_b525 at h
    obtain ⟨hc00, hn00, h⟩ := h
    refine G_iconst C (v := 0) dL_isLaid_525 (by decide) ?_
    refine G_lv C (lv' := []) [] rfl ?_
    exact J526 _ _ _ _ h
  have J753 : ∀ (c0 n0 : Nat) (S : PT) (s0 : Int32), w_L_isLaid_b753 e0 m0 x0 x1 x2 x3 x4 mc ms post c0 n0 S s0 → G p l e { frames := 10, cells := mc, slots := ms, locals := 244 } s m [va_rf x0, va_rf x1, va_rf x2, Value.int x3, Value.int x4].toArray below meth c D cy A s.heap 11 (QMi below D cy A [va_rf x0, va_rf x1, va_rf x2, Value.int x3, Value.int x4] s mc ms (fun r S => bo r ∧ post r S)) S c0 n0 753 [] [Value.int s0] := by
    intro c0 n0 S s0 h
    unfold w_L_isLaid_b753 at h
    obtain ⟨hc00, hn00, h⟩ := h
    obtain ⟨hb37, h⟩ := h
    exact G_zret C (mc := mc) (ms := ms) (post := (fun r S => bo r ∧ post r S)) (bo_nar hb37) hr hc00 hn00 dL_isLaid_753 ⟨hb37, h⟩
  have J752 : ∀ (c0 n0 : Nat) (S : PT), w_L_isLaid_b752 e0 m0 x0 x1 x2 x3 x4 mc ms post c0 n0 S → G p l e { frames := 10, cells := mc, slots := ms, locals := 244 } s m [va_rf x0, va_rf x1, va_rf x2, Value.int x3, Value.int x4].toArray below meth c D cy A s.heap 11 (QMi below D cy A [va_rf x0, va_rf x1, va_rf x2, Value.int x3, Value.int x4] s mc ms (fun r S => bo r ∧ post r S)) S c0 n0 752 [] [] := by
    intro c0 n0 S h
    unfold w_L_isLaid_b752 at h
    obtain ⟨hc00, hn00, h⟩ := h
    refine G_iconst C (v := 0) dL_isLaid_752 (by decide) ?_
    refine G_lv C (lv' := []) [] rfl ?_
    exact J753 _ _ _ _ h
  have J685 : ∀ (c0 n0 : Nat) (S : PT) (s0 : Int32), w_L_isLaid_b685 e0 m0 x0 x1 x2 x3 x4 mc ms post c0 n0 S s0 → G p l e { frames := 10, cells := mc, slots := ms, locals := 244 } s m [va_rf x0, va_rf x1, va_rf x2, Value.int x3, Value.int x4].toArray below meth c D cy A s.heap 11 (QMi below D cy A [va_rf x0, va_rf x1, va_rf x2, Value.int x3, Value.int x4] s mc ms (fun r S => bo r ∧ post r S)) S c0 n0 685 [] [Value.int s0] := by
    intro c0 n0 S s0 h
    unfold w_L_isLaid_b685 at h
    obtain ⟨hc00, hn00, h⟩ := h
    obtain ⟨hb38, h⟩ := h
    exact G_zret C (mc := mc) (ms := ms) (post := (fun r S => bo r ∧ post r S)) (bo_nar hb38) hr hc00 hn00 dL_isLaid_685 ⟨hb38, h⟩
  have J677 : ∀ (c0 n0 : Nat) (S : PT) (s0 : Int32) (s1 : Int32), w_L_isLaid_b677 e0 m0 x0 x1 x2 x3 x4 mc ms post c0 n0 S s0 s1 → G p l e { frames := 10, cells := mc, slots := ms, locals := 244 } s m [va_rf x0, va_rf x1, va_rf x2, Value.int x3, Value.int x4].toArray below meth c D cy A s.heap 11 (QMi below D cy A [va_rf x0, va_rf x1, va_rf x2, Value.int x3, Value.int x4] s mc ms (fun r S => bo r ∧ post r S)) S c0 n0 677 [] [Value.int s1, Value.int s0] := by
    intro c0 n0 S s0 s1 h
    unfold w_L_isLaid_b677 at h
    obtain ⟨hc00, hn00, h⟩ := h
    refine G_icmp_ne C (tgt := 684) dL_isLaid_677 (by decide) (fun hc => ?_) (fun hc => ?_)
    · have h := h.1 hc
      refine G_iconst C (v := 0) dL_isLaid_684 (by decide) ?_
      refine G_lv C (lv' := []) [] rfl ?_
      exact J685 _ _ _ _ h
    · have h := h.2 hc
      refine G_iconst C (v := 1) dL_isLaid_680 (by decide) ?_
      refine G_goto C (tgt := 685) dL_isLaid_681 (by decide) ?_
      refine G_lv C (lv' := []) [] rfl ?_
      exact J685 _ _ _ _ h
  have J608 : ∀ (n : Nat) (c0 n0 : Nat) (S : PT) (v5 : Int32) (v8 : Int32) (v9 : Int32), w_L_isLaid_l608 e0 m0 x0 x1 x2 x3 x4 mc ms post n c0 n0 S v5 v8 v9 → G p l e { frames := 10, cells := mc, slots := ms, locals := 244 } s m [va_rf x0, va_rf x1, va_rf x2, Value.int x3, Value.int x4].toArray below meth c D cy A s.heap 11 (QMi below D cy A [va_rf x0, va_rf x1, va_rf x2, Value.int x3, Value.int x4] s mc ms (fun r S => bo r ∧ post r S)) S c0 n0 608 [(0, va_rf x0), (1, va_rf x1), (2, va_rf x2), (5, Value.int v5), (8, Value.int v8), (9, Value.int v9)] [] := by
    intro n608
    induction n608 with
    | zero => intro c0 n0 S v5 v8 v9 h; rw [w_L_isLaid_l608] at h; exact False.elim h
    | succ n608 K608 =>
      have J639 : ∀ (c0 n0 : Nat) (S : PT) (v5 : Int32) (v9 : Int32) (s0 : Int32), w_L_isLaid_b639 e0 m0 x0 x1 x2 x3 x4 mc ms post (w_L_isLaid_l608 e0 m0 x0 x1 x2 x3 x4 mc ms post n608) c0 n0 S v5 v9 s0 → G p l e { frames := 10, cells := mc, slots := ms, locals := 244 } s m [va_rf x0, va_rf x1, va_rf x2, Value.int x3, Value.int x4].toArray below meth c D cy A s.heap 11 (QMi below D cy A [va_rf x0, va_rf x1, va_rf x2, Value.int x3, Value.int x4] s mc ms (fun r S => bo r ∧ post r S)) S c0 n0 639 [(0, va_rf x0), (1, va_rf x1), (2, va_rf x2), (5, Value.int v5), (9, Value.int v9)] [Value.int s0] := by
        intro c0 n0 S v5 v9 s0 h
        unfold w_L_isLaid_b639 at h
        obtain ⟨hc00, hn00, h⟩ := h
        refine G_istore C (i := 8) (lv' := [(8, Value.int s0), (0, va_rf x0), (1, va_rf x1), (2, va_rf x2), (5, Value.int v5), (9, Value.int v9)]) dL_isLaid_639 (by decide) (by first | rfl | simp [va_cat, vi_cat, vl_cat]) ?_
        refine G_iinc C (v := (v9 + 1)) (lv' := [(9, Value.int (v9 + 1)), (8, Value.int s0), (0, va_rf x0), (1, va_rf x1), (2, va_rf x2), (5, Value.int v5)]) 5 dL_isLaid_641 rfl rfl (by decide) (by first | rfl | simp [va_cat, vi_cat, vl_cat]) ?_
        refine G_goto C (tgt := 608) dL_isLaid_644 (by decide) ?_
        refine G_lv C (lv' := [(0, va_rf x0), (1, va_rf x1), (2, va_rf x2), (5, Value.int v5), (8, Value.int s0), (9, Value.int (v9 + 1))]) [2, 3, 4, 5, 1, 0] rfl ?_
        exact K608 _ _ _ _ _ _ h
      have J634 : ∀ (c0 n0 : Nat) (S : PT) (v5 : Int32) (v9 : Int32), w_L_isLaid_b634 e0 m0 x0 x1 x2 x3 x4 mc ms post (w_L_isLaid_l608 e0 m0 x0 x1 x2 x3 x4 mc ms post n608) c0 n0 S v5 v9 → G p l e { frames := 10, cells := mc, slots := ms, locals := 244 } s m [va_rf x0, va_rf x1, va_rf x2, Value.int x3, Value.int x4].toArray below meth c D cy A s.heap 11 (QMi below D cy A [va_rf x0, va_rf x1, va_rf x2, Value.int x3, Value.int x4] s mc ms (fun r S => bo r ∧ post r S)) S c0 n0 634 [(0, va_rf x0), (1, va_rf x1), (2, va_rf x2), (5, Value.int v5), (9, Value.int v9)] [] := by
        intro c0 n0 S v5 v9 h
        unfold w_L_isLaid_b634 at h
        obtain ⟨hc00, hn00, h⟩ := h
        refine G_iconst C (v := 1) dL_isLaid_634 (by decide) ?_
        refine G_goto C (tgt := 639) dL_isLaid_635 (by decide) ?_
        refine G_lv C (lv' := [(0, va_rf x0), (1, va_rf x1), (2, va_rf x2), (5, Value.int v5), (9, Value.int v9)]) [0, 1, 2, 3, 4] rfl ?_
        exact J639 _ _ _ _ _ _ h
      intro c0 n0 S v5 v8 v9 h
      rw [w_L_isLaid_l608] at h
      obtain ⟨hc00, hn00, h⟩ := h
      refine G_iload C (x := v9) 5 dL_isLaid_608 rfl ?_
      refine G_aload_n C (x := x2) 2 dL_isLaid_610 rfl rfl ?_
      refine G_iload C (x := v5) 3 dL_isLaid_611 rfl ?_
      obtain ⟨a39, ha40, h⟩ := h
      refine G_rf1 ha40 ?_
      obtain ⟨hk41, h⟩ := h
      obtain ⟨hi42, h⟩ := h
      refine G_iald C hk41 hi42 dL_isLaid_613 ?_
      refine G_icmp_ge C (tgt := 647) dL_isLaid_614 (by decide) (fun hc => ?_) (fun hc => ?_)
      · have h := h.1 hc
        refine G_aload_n C (x := x0) 0 dL_isLaid_647 rfl rfl ?_
        refine G_iconst C (v := 1) dL_isLaid_648 (by decide) ?_
        refine G_iload C (x := v5) 3 dL_isLaid_649 rfl ?_
        refine G_iconst C (v := 0) dL_isLaid_651 (by decide) ?_
        refine G_iconst C (v := 0) dL_isLaid_652 (by decide) ?_
        refine G_iconst C (v := 0) dL_isLaid_653 (by decide) ?_
        refine G_iconst C (v := 0) dL_isLaid_654 (by decide) ?_
        obtain ⟨m45, m46, hc47, hs48, h⟩ := h
        refine G_callSWi C hZ tw_2_35 tw_2_36 tw_1_0 tw_2_37 hy_L_act ⟨Nat.le_of_ble_eq_true rfl, Nat.le_of_ble_eq_true rfl⟩ (As := [va_rf x0, Value.int 1, Value.int v5, Value.int 0, Value.int 0, Value.int 0, Value.int 0]) (rest := []) (c_L_act l hl D cy e0 m0 he hm x0 1 v5 0 0 0 0 S m45 m46 _ h) rfl rfl (by simp [va_cat, vi_cat, vl_cat]) dL_isLaid_655 ⟨hc47, hs48⟩ (fun r44 S43 h => ?_)
        refine G_iload C (x := v8) 4 dL_isLaid_658 rfl ?_
        refine G_if_eq C (tgt := 668) dL_isLaid_660 (by decide) (fun hc => ?_) (fun hc => ?_)
        · have h := h.1 hc
          refine G_aload_n C (x := x1) 1 dL_isLaid_668 rfl rfl ?_
          refine G_iconst C (v := 0) dL_isLaid_669 (by decide) ?_
          obtain ⟨a49, ha50, h⟩ := h
          refine G_rf1 ha50 ?_
          obtain ⟨hk51, h⟩ := h
          obtain ⟨hi52, h⟩ := h
          refine G_iald C hk51 hi52 dL_isLaid_670 ?_
          refine G_bipush C (v := 24) dL_isLaid_671 (by decide) ?_
          refine G_idiv C dL_isLaid_673 (by decide) ?_
          refine G_bipush C (v := 99) dL_isLaid_674 (by decide) ?_
          refine G_iadd C dL_isLaid_676 ?_
          refine G_lv C (lv' := []) [] rfl ?_
          exact J677 _ _ _ _ _ h
        · have h := h.2 hc
          refine G_ldc C (v := (-1713000)) (im tw_4_176) dL_isLaid_663 ?_
          refine G_goto C (tgt := 677) dL_isLaid_665 (by decide) ?_
          refine G_lv C (lv' := []) [] rfl ?_
          exact J677 _ _ _ _ _ h
      · have h := h.2 hc
        refine G_iload C (x := v8) 4 dL_isLaid_617 rfl ?_
        refine G_if_ne C (tgt := 634) dL_isLaid_619 (by decide) (fun hc => ?_) (fun hc => ?_)
        · have h := h.1 hc
          refine G_lv C (lv' := [(0, va_rf x0), (1, va_rf x1), (2, va_rf x2), (5, Value.int v5), (9, Value.int v9)]) [0, 1, 2, 3, 5] rfl ?_
          exact J634 _ _ _ _ _ h
        · have h := h.2 hc
          refine G_aload_n C (x := x0) 0 dL_isLaid_622 rfl rfl ?_
          refine G_iload C (x := v5) 3 dL_isLaid_623 rfl ?_
          refine G_iload C (x := v9) 5 dL_isLaid_625 rfl ?_
          refine G_iconst C (v := 2) dL_isLaid_627 (by decide) ?_
          obtain ⟨S53, M54, hv55, hd56, h⟩ := h
          obtain ⟨a58, ha59, h⟩ := h
          obtain ⟨hk60, h⟩ := h
          obtain ⟨m63, m64, hc65, hs66, h⟩ := h
          refine G_fxcalli C hZ hv55 hd56 (Tf := TX8) (N := 10) hk60 (by decide) rfl tw_2_5 tw_2_6 tw_2_7 tw_1_1 tw_2_8 hy_X8_metre ⟨Nat.le_of_ble_eq_true rfl, Nat.le_of_ble_eq_true rfl⟩ (As := [Value.int v5, Value.int v9, Value.int 2]) (rest := []) (c_X8_metre l hl  D cy a58 v5 v9 2 S53 m63 m64 _ _ h) rfl (by first | rfl | (simp only [ha59]; rfl) | simp only [ha59]) (by simp [va_cat, vi_cat, vl_cat]) dL_isLaid_628 ⟨hc65, hs66⟩ (fun E S61 hd57 h => ?_) (fun r62 S61 hd57 h => ?_)
          · exact (h hd57).elim
          · replace h := h hd57
            refine G_if_lt C (tgt := 638) dL_isLaid_631 (by decide) (fun hc => ?_) (fun hc => ?_)
            · have h := h.1 hc
              refine G_iconst C (v := 0) dL_isLaid_638 (by decide) ?_
              refine G_lv C (lv' := [(0, va_rf x0), (1, va_rf x1), (2, va_rf x2), (5, Value.int v5), (9, Value.int v9)]) [0, 1, 2, 3, 5] rfl ?_
              exact J639 _ _ _ _ _ _ h
            · have h := h.2 hc
              refine G_lv C (lv' := [(0, va_rf x0), (1, va_rf x1), (2, va_rf x2), (5, Value.int v5), (9, Value.int v9)]) [0, 1, 2, 3, 5] rfl ?_
              exact J634 _ _ _ _ _ h
  have J596 : ∀ (c0 n0 : Nat) (S : PT) (s0 : Int32), w_L_isLaid_b596 e0 m0 x0 x1 x2 x3 x4 mc ms post c0 n0 S s0 → G p l e { frames := 10, cells := mc, slots := ms, locals := 244 } s m [va_rf x0, va_rf x1, va_rf x2, Value.int x3, Value.int x4].toArray below meth c D cy A s.heap 11 (QMi below D cy A [va_rf x0, va_rf x1, va_rf x2, Value.int x3, Value.int x4] s mc ms (fun r S => bo r ∧ post r S)) S c0 n0 596 [] [Value.int s0] := by
    intro c0 n0 S s0 h
    unfold w_L_isLaid_b596 at h
    obtain ⟨hc00, hn00, h⟩ := h
    obtain ⟨hb67, h⟩ := h
    exact G_zret C (mc := mc) (ms := ms) (post := (fun r S => bo r ∧ post r S)) (bo_nar hb67) hr hc00 hn00 dL_isLaid_596 ⟨hb67, h⟩
  have J595 : ∀ (c0 n0 : Nat) (S : PT), w_L_isLaid_b595 e0 m0 x0 x1 x2 x3 x4 mc ms post c0 n0 S → G p l e { frames := 10, cells := mc, slots := ms, locals := 244 } s m [va_rf x0, va_rf x1, va_rf x2, Value.int x3, Value.int x4].toArray below meth c D cy A s.heap 11 (QMi below D cy A [va_rf x0, va_rf x1, va_rf x2, Value.int x3, Value.int x4] s mc ms (fun r S => bo r ∧ post r S)) S c0 n0 595 [] [] := by
    intro c0 n0 S h
    unfold w_L_isLaid_b595 at h
    obtain ⟨hc00, hn00, h⟩ := h
    refine G_iconst C (v := 0) dL_isLaid_595 (by decide) ?_
    refine G_lv C (lv' := []) [] rfl ?_
    exact J596 _ _ _ _ h
  have J527 : ∀ (c0 n0 : Nat) (S : PT) (v5 : Int32) (v6 : Int32), w_L_isLaid_b527 e0 m0 x0 x1 x2 x3 x4 mc ms post c0 n0 S v5 v6 → G p l e { frames := 10, cells := mc, slots := ms, locals := 244 } s m [va_rf x0, va_rf x1, va_rf x2, Value.int x3, Value.int x4].toArray below meth c D cy A s.heap 11 (QMi below D cy A [va_rf x0, va_rf x1, va_rf x2, Value.int x3, Value.int x4] s mc ms (fun r S => bo r ∧ post r S)) S c0 n0 527 [(0, va_rf x0), (1, va_rf x1), (2, va_rf x2), (3, Value.int x3), (4, Value.int x4), (5, Value.int v5), (6, Value.int v6)] [] := by
    intro c0 n0 S v5 v6 h
    unfold w_L_isLaid_b527 at h
    obtain ⟨hc00, hn00, h⟩ := h
    refine G_iload_n C (x := x3) 3 dL_isLaid_527 rfl rfl ?_
    refine G_iconst C (v := 3) dL_isLaid_528 (by decide) ?_
    refine G_icmp_ne C (tgt := 597) dL_isLaid_529 (by decide) (fun hc => ?_) (fun hc => ?_)
    · have h := h.1 hc
      refine G_iload_n C (x := x3) 3 dL_isLaid_597 rfl rfl ?_
      refine G_iconst C (v := 4) dL_isLaid_598 (by decide) ?_
      refine G_icmp_ne C (tgt := 686) dL_isLaid_599 (by decide) (fun hc => ?_) (fun hc => ?_)
      · have h := h.1 hc
        refine G_aload_n C (x := x0) 0 dL_isLaid_686 rfl rfl ?_
        refine G_iconst C (v := 2) dL_isLaid_687 (by decide) ?_
        refine G_iload C (x := v5) 5 dL_isLaid_688 rfl ?_
        refine G_aload_n C (x := x1) 1 dL_isLaid_690 rfl rfl ?_
        refine G_iconst C (v := 0) dL_isLaid_691 (by decide) ?_
        obtain ⟨a68, ha69, h⟩ := h
        refine G_rf1 ha69 ?_
        obtain ⟨hk70, h⟩ := h
        obtain ⟨hi71, h⟩ := h
        refine G_iald C hk70 hi71 dL_isLaid_692 ?_
        refine G_bipush C (v := 24) dL_isLaid_693 (by decide) ?_
        refine G_idiv C dL_isLaid_695 (by decide) ?_
        refine G_iload C (x := x4) 4 dL_isLaid_696 rfl ?_
        refine G_bipush C (v := 6) dL_isLaid_698 (by decide) ?_
        refine G_idiv C dL_isLaid_700 (by decide) ?_
        refine G_bipush C (v := 20) dL_isLaid_701 (by decide) ?_
        refine G_irem C dL_isLaid_703 (by decide) ?_
        refine G_iadd C dL_isLaid_704 ?_
        refine G_aload_n C (x := x1) 1 dL_isLaid_705 rfl rfl ?_
        refine G_iconst C (v := 0) dL_isLaid_706 (by decide) ?_
        refine G_rf1 ha69 ?_
        obtain ⟨hi72, h⟩ := h
        refine G_iald C hk70 hi72 dL_isLaid_707 ?_
        refine G_bipush C (v := 24) dL_isLaid_708 (by decide) ?_
        refine G_idiv C dL_isLaid_710 (by decide) ?_
        refine G_iload C (x := x4) 4 dL_isLaid_711 rfl ?_
        refine G_bipush C (v := 6) dL_isLaid_713 (by decide) ?_
        refine G_idiv C dL_isLaid_715 (by decide) ?_
        refine G_bipush C (v := 20) dL_isLaid_716 (by decide) ?_
        refine G_irem C dL_isLaid_718 (by decide) ?_
        refine G_iadd C dL_isLaid_719 ?_
        refine G_iload C (x := x4) 4 dL_isLaid_720 rfl ?_
        refine G_bipush C (v := 120) dL_isLaid_722 (by decide) ?_
        refine G_idiv C dL_isLaid_724 (by decide) ?_
        refine G_iconst C (v := 5) dL_isLaid_725 (by decide) ?_
        refine G_irem C dL_isLaid_726 (by decide) ?_
        refine G_iadd C dL_isLaid_727 ?_
        refine G_iconst C (v := 0) dL_isLaid_728 (by decide) ?_
        refine G_iconst C (v := 0) dL_isLaid_729 (by decide) ?_
        obtain ⟨m75, m76, hc77, hs78, h⟩ := h
        refine G_callSWi C hZ tw_2_35 tw_2_36 tw_1_0 tw_2_37 hy_L_act ⟨Nat.le_of_ble_eq_true rfl, Nat.le_of_ble_eq_true rfl⟩ (As := [va_rf x0, Value.int 2, Value.int v5, Value.int (((gA S a68 ((0 : Int32).toNatClampNeg)) / 24) + ((x4 / 6) - (x4 / 6) / 20 * 20)), Value.int ((((gA S a68 ((0 : Int32).toNatClampNeg)) / 24) + ((x4 / 6) - (x4 / 6) / 20 * 20)) + ((x4 / 120) - (x4 / 120) / 5 * 5)), Value.int 0, Value.int 0]) (rest := []) (c_L_act l hl D cy e0 m0 he hm x0 2 v5 (((gA S a68 ((0 : Int32).toNatClampNeg)) / 24) + ((x4 / 6) - (x4 / 6) / 20 * 20)) ((((gA S a68 ((0 : Int32).toNatClampNeg)) / 24) + ((x4 / 6) - (x4 / 6) / 20 * 20)) + ((x4 / 120) - (x4 / 120) / 5 * 5)) 0 0 S m75 m76 _ h) rfl rfl (by simp [va_cat, vi_cat, vl_cat]) dL_isLaid_730 ⟨hc77, hs78⟩ (fun r74 S73 h => ?_)
        refine G_istore C (i := 8) (lv' := [(8, Value.int r74), (0, va_rf x0), (1, va_rf x1), (2, va_rf x2), (3, Value.int x3), (4, Value.int x4), (5, Value.int v5), (6, Value.int v6)]) dL_isLaid_733 (by decide) (by first | rfl | simp [va_cat, vi_cat, vl_cat]) ?_
        refine G_iload C (x := r74) 0 dL_isLaid_735 rfl ?_
        refine G_if_lt C (tgt := 752) dL_isLaid_737 (by decide) (fun hc => ?_) (fun hc => ?_)
        · have h := h.1 hc
          refine G_lv C (lv' := []) [] rfl ?_
          exact J752 _ _ _ h
        · have h := h.2 hc
          refine G_iload C (x := r74) 0 dL_isLaid_740 rfl ?_
          refine G_aload_n C (x := x1) 2 dL_isLaid_742 rfl rfl ?_
          refine G_iconst C (v := 3) dL_isLaid_743 (by decide) ?_
          refine G_rf1 ha69 ?_
          obtain ⟨hk79, h⟩ := h
          obtain ⟨hi80, h⟩ := h
          refine G_iald C hk79 hi80 dL_isLaid_744 ?_
          refine G_icmp_gt C (tgt := 752) dL_isLaid_745 (by decide) (fun hc => ?_) (fun hc => ?_)
          · have h := h.1 hc
            refine G_lv C (lv' := []) [] rfl ?_
            exact J752 _ _ _ h
          · have h := h.2 hc
            refine G_iconst C (v := 1) dL_isLaid_748 (by decide) ?_
            refine G_goto C (tgt := 753) dL_isLaid_749 (by decide) ?_
            refine G_lv C (lv' := []) [] rfl ?_
            exact J753 _ _ _ _ h
      · have h := h.2 hc
        refine G_iconst C (v := 0) dL_isLaid_602 (by decide) ?_
        refine G_istore C (i := 8) (lv' := [(8, Value.int 0), (0, va_rf x0), (1, va_rf x1), (2, va_rf x2), (3, Value.int x3), (4, Value.int x4), (5, Value.int v5), (6, Value.int v6)]) dL_isLaid_603 (by decide) (by first | rfl | simp [va_cat, vi_cat, vl_cat]) ?_
        refine G_iconst C (v := 0) dL_isLaid_605 (by decide) ?_
        refine G_istore C (i := 9) (lv' := [(9, Value.int 0), (8, Value.int 0), (0, va_rf x0), (1, va_rf x1), (2, va_rf x2), (3, Value.int x3), (4, Value.int x4), (5, Value.int v5), (6, Value.int v6)]) dL_isLaid_606 (by decide) (by first | rfl | simp [va_cat, vi_cat, vl_cat]) ?_
        refine G_lv C (lv' := [(0, va_rf x0), (1, va_rf x1), (2, va_rf x2), (5, Value.int v5), (8, Value.int 0), (9, Value.int 0)]) [2, 3, 4, 7, 1, 0] rfl ?_
        obtain ⟨n9, h⟩ := h
        exact J608 n9 _ _ _ _ _ _ h
    · have h := h.2 hc
      refine G_aload_n C (x := x0) 0 dL_isLaid_532 rfl rfl ?_
      refine G_bipush C (v := 7) dL_isLaid_533 (by decide) ?_
      refine G_iload C (x := v5) 5 dL_isLaid_535 rfl ?_
      refine G_iload C (x := v6) 6 dL_isLaid_537 rfl ?_
      refine G_iconst C (v := 0) dL_isLaid_539 (by decide) ?_
      refine G_iconst C (v := 0) dL_isLaid_540 (by decide) ?_
      refine G_iconst C (v := 0) dL_isLaid_541 (by decide) ?_
      obtain ⟨m83, m84, hc85, hs86, h⟩ := h
      refine G_callSWi C hZ tw_2_35 tw_2_36 tw_1_0 tw_2_37 hy_L_act ⟨Nat.le_of_ble_eq_true rfl, Nat.le_of_ble_eq_true rfl⟩ (As := [va_rf x0, Value.int 7, Value.int v5, Value.int v6, Value.int 0, Value.int 0, Value.int 0]) (rest := []) (c_L_act l hl D cy e0 m0 he hm x0 7 v5 v6 0 0 0 S m83 m84 _ h) rfl rfl (by simp [va_cat, vi_cat, vl_cat]) dL_isLaid_542 ⟨hc85, hs86⟩ (fun r82 S81 h => ?_)
      refine G_istore C (i := 8) (lv' := [(8, Value.int r82), (0, va_rf x0), (1, va_rf x1), (2, va_rf x2), (3, Value.int x3), (4, Value.int x4), (5, Value.int v5), (6, Value.int v6)]) dL_isLaid_545 (by decide) (by first | rfl | simp [va_cat, vi_cat, vl_cat]) ?_
      refine G_iload C (x := r82) 0 dL_isLaid_547 rfl ?_
      refine G_if_lt C (tgt := 595) dL_isLaid_549 (by decide) (fun hc => ?_) (fun hc => ?_)
      · have h := h.1 hc
        refine G_lv C (lv' := []) [] rfl ?_
        exact J595 _ _ _ h
      · have h := h.2 hc
        refine G_iload C (x := r82) 0 dL_isLaid_552 rfl ?_
        refine G_aload_n C (x := x1) 2 dL_isLaid_554 rfl rfl ?_
        refine G_iconst C (v := 2) dL_isLaid_555 (by decide) ?_
        obtain ⟨a87, ha88, h⟩ := h
        refine G_rf1 ha88 ?_
        obtain ⟨hk89, h⟩ := h
        obtain ⟨hi90, h⟩ := h
        refine G_iald C hk89 hi90 dL_isLaid_556 ?_
        refine G_icmp_gt C (tgt := 595) dL_isLaid_557 (by decide) (fun hc => ?_) (fun hc => ?_)
        · have h := h.1 hc
          refine G_lv C (lv' := []) [] rfl ?_
          exact J595 _ _ _ h
        · have h := h.2 hc
          refine G_aload_n C (x := x0) 1 dL_isLaid_560 rfl rfl ?_
          refine G_iload C (x := v5) 6 dL_isLaid_561 rfl ?_
          refine G_iload C (x := v6) 7 dL_isLaid_563 rfl ?_
          refine G_iconst C (v := 1) dL_isLaid_565 (by decide) ?_
          obtain ⟨S91, M92, hv93, hd94, h⟩ := h
          obtain ⟨a96, ha97, h⟩ := h
          obtain ⟨hk98, h⟩ := h
          obtain ⟨m101, m102, hc103, hs104, h⟩ := h
          refine G_fxcalli C hZ hv93 hd94 (Tf := TX8) (N := 10) hk98 (by decide) rfl tw_2_5 tw_2_6 tw_2_7 tw_1_1 tw_2_8 hy_X8_metre ⟨Nat.le_of_ble_eq_true rfl, Nat.le_of_ble_eq_true rfl⟩ (As := [Value.int v5, Value.int v6, Value.int 1]) (rest := []) (c_X8_metre l hl  D cy a96 v5 v6 1 S91 m101 m102 _ _ h) rfl (by first | rfl | (simp only [ha97]; rfl) | simp only [ha97]) (by simp [va_cat, vi_cat, vl_cat]) dL_isLaid_566 ⟨hc103, hs104⟩ (fun E S99 hd95 h => ?_) (fun r100 S99 hd95 h => ?_)
          · exact (h hd95).elim
          · replace h := h hd95
            refine G_iconst C (v := 1) dL_isLaid_569 (by decide) ?_
            refine G_icmp_ne C (tgt := 595) dL_isLaid_570 (by decide) (fun hc => ?_) (fun hc => ?_)
            · have h := h.1 hc
              refine G_lv C (lv' := []) [] rfl ?_
              exact J595 _ _ _ h
            · have h := h.2 hc
              refine G_aload_n C (x := x0) 1 dL_isLaid_573 rfl rfl ?_
              refine G_bipush C (v := 7) dL_isLaid_574 (by decide) ?_
              refine G_iload C (x := v5) 6 dL_isLaid_576 rfl ?_
              refine G_iload C (x := v6) 7 dL_isLaid_578 rfl ?_
              refine G_iconst C (v := 0) dL_isLaid_580 (by decide) ?_
              refine G_iconst C (v := 0) dL_isLaid_581 (by decide) ?_
              refine G_iconst C (v := 0) dL_isLaid_582 (by decide) ?_
              obtain ⟨m107, m108, hc109, hs110, h⟩ := h
              refine G_callSWi C hZ tw_2_35 tw_2_36 tw_1_0 tw_2_37 hy_L_act ⟨Nat.le_of_ble_eq_true rfl, Nat.le_of_ble_eq_true rfl⟩ (As := [va_rf x0, Value.int 7, Value.int v5, Value.int v6, Value.int 0, Value.int 0, Value.int 0]) (rest := []) (c_L_act l hl D cy e0 m0 he hm x0 7 v5 v6 0 0 0 (ov S99 M92) m107 m108 _ h) rfl rfl (by simp [va_cat, vi_cat, vl_cat]) dL_isLaid_583 ⟨hc109, hs110⟩ (fun r106 S105 h => ?_)
              refine G_iload C (x := r82) 0 dL_isLaid_586 rfl ?_
              refine G_icmp_ne C (tgt := 595) dL_isLaid_588 (by decide) (fun hc => ?_) (fun hc => ?_)
              · have h := h.1 hc
                refine G_lv C (lv' := []) [] rfl ?_
                exact J595 _ _ _ h
              · have h := h.2 hc
                refine G_iconst C (v := 1) dL_isLaid_591 (by decide) ?_
                refine G_goto C (tgt := 596) dL_isLaid_592 (by decide) ?_
                refine G_lv C (lv' := []) [] rfl ?_
                exact J596 _ _ _ _ h
  have J153 : ∀ (c0 n0 : Nat) (S : PT) (s0 : Int32), w_L_isLaid_b153 e0 m0 x0 x1 x2 x3 x4 mc ms post c0 n0 S s0 → G p l e { frames := 10, cells := mc, slots := ms, locals := 244 } s m [va_rf x0, va_rf x1, va_rf x2, Value.int x3, Value.int x4].toArray below meth c D cy A s.heap 11 (QMi below D cy A [va_rf x0, va_rf x1, va_rf x2, Value.int x3, Value.int x4] s mc ms (fun r S => bo r ∧ post r S)) S c0 n0 153 [] [Value.int s0] := by
    intro c0 n0 S s0 h
    unfold w_L_isLaid_b153 at h
    obtain ⟨hc00, hn00, h⟩ := h
    obtain ⟨hb111, h⟩ := h
    exact G_zret C (mc := mc) (ms := ms) (post := (fun r S => bo r ∧ post r S)) (bo_nar hb111) hr hc00 hn00 dL_isLaid_153 ⟨hb111, h⟩
  have J64 : ∀ (c0 n0 : Nat) (S : PT) (s0 : Int32), w_L_isLaid_b64 e0 m0 x0 x1 x2 x3 x4 mc ms post c0 n0 S s0 → G p l e { frames := 10, cells := mc, slots := ms, locals := 244 } s m [va_rf x0, va_rf x1, va_rf x2, Value.int x3, Value.int x4].toArray below meth c D cy A s.heap 11 (QMi below D cy A [va_rf x0, va_rf x1, va_rf x2, Value.int x3, Value.int x4] s mc ms (fun r S => bo r ∧ post r S)) S c0 n0 64 [(0, va_rf x0), (1, va_rf x1), (2, va_rf x2), (4, Value.int x4)] [Value.int s0] := by
    intro c0 n0 S s0 h
    unfold w_L_isLaid_b64 at h
    obtain ⟨hc00, hn00, h⟩ := h
    refine G_istore C (i := 5) (lv' := [(5, Value.int s0), (0, va_rf x0), (1, va_rf x1), (2, va_rf x2), (4, Value.int x4)]) dL_isLaid_64 (by decide) (by first | rfl | simp [va_cat, vi_cat, vl_cat]) ?_
    refine G_aload_n C (x := x2) 3 dL_isLaid_66 rfl rfl ?_
    refine G_aload_n C (x := x1) 2 dL_isLaid_67 rfl rfl ?_
    refine G_iconst C (v := 1) dL_isLaid_68 (by decide) ?_
    obtain ⟨a112, ha113, h⟩ := h
    refine G_rf1 ha113 ?_
    obtain ⟨hk114, h⟩ := h
    obtain ⟨hi115, h⟩ := h
    refine G_iald C hk114 hi115 dL_isLaid_69 ?_
    refine G_iconst C (v := 2) dL_isLaid_70 (by decide) ?_
    refine G_iload C (x := x4) 4 dL_isLaid_71 rfl ?_
    refine G_bipush C (v := 12) dL_isLaid_73 (by decide) ?_
    refine G_irem C dL_isLaid_75 (by decide) ?_
    refine G_iadd C dL_isLaid_76 ?_
    obtain ⟨a116, ha117, h⟩ := h
    refine G_rf2 ha117 ?_
    obtain ⟨hk118, h⟩ := h
    obtain ⟨hi119, h⟩ := h
    refine G_iast C hk118 hi119 dL_isLaid_77 ?_
    generalize e121 : sA S a116 (((gA S a112 ((1 : Int32).toNatClampNeg))).toNatClampNeg) (2 + (x4 - x4 / 12 * 12)) = S120
    have h := h S120 e121.symm
    refine G_aload_n C (x := x2) 3 dL_isLaid_78 rfl rfl ?_
    refine G_bipush C (v := 6) dL_isLaid_79 (by decide) ?_
    refine G_aload_n C (x := x1) 2 dL_isLaid_81 rfl rfl ?_
    refine G_iconst C (v := 1) dL_isLaid_82 (by decide) ?_
    refine G_rf1 ha113 ?_
    obtain ⟨hi122, h⟩ := h
    refine G_iald C (ksA e121.symm hk114) hi122 dL_isLaid_83 ?_
    refine G_iadd C dL_isLaid_84 ?_
    refine G_iload C (x := x4) 4 dL_isLaid_85 rfl ?_
    refine G_bipush C (v := 12) dL_isLaid_87 (by decide) ?_
    refine G_idiv C dL_isLaid_89 (by decide) ?_
    refine G_sipush C (v := 400) dL_isLaid_90 (by decide) ?_
    refine G_irem C dL_isLaid_93 (by decide) ?_
    refine G_rf2 ha117 ?_
    obtain ⟨hi123, h⟩ := h
    refine G_iast C (ksA e121.symm hk118) hi123 dL_isLaid_94 ?_
    generalize e125 : sA S120 a116 (((6 + (gA S120 a112 ((1 : Int32).toNatClampNeg)))).toNatClampNeg) ((x4 / 12) - (x4 / 12) / 400 * 400) = S124
    have h := h S124 e125.symm
    refine G_aload_n C (x := x2) 3 dL_isLaid_95 rfl rfl ?_
    refine G_bipush C (v := 12) dL_isLaid_96 (by decide) ?_
    refine G_aload_n C (x := x1) 2 dL_isLaid_98 rfl rfl ?_
    refine G_iconst C (v := 1) dL_isLaid_99 (by decide) ?_
    refine G_rf1 ha113 ?_
    obtain ⟨hi126, h⟩ := h
    refine G_iald C (ksA e125.symm (ksA e121.symm hk114)) hi126 dL_isLaid_100 ?_
    refine G_iadd C dL_isLaid_101 ?_
    refine G_iload C (x := s0) 0 dL_isLaid_102 rfl ?_
    refine G_rf2 ha117 ?_
    obtain ⟨hi127, h⟩ := h
    refine G_iast C (ksA e125.symm (ksA e121.symm hk118)) hi127 dL_isLaid_104 ?_
    generalize e129 : sA S124 a116 (((12 + (gA S124 a112 ((1 : Int32).toNatClampNeg)))).toNatClampNeg) s0 = S128
    have h := h S128 e129.symm
    refine G_aload_n C (x := x1) 2 dL_isLaid_105 rfl rfl ?_
    refine G_iconst C (v := 1) dL_isLaid_106 (by decide) ?_
    refine G_dup2 C dL_isLaid_107 rfl (va_cat _) ?_
    refine G_rf1 ha113 ?_
    obtain ⟨hi130, h⟩ := h
    refine G_iald C (ksA e129.symm (ksA e125.symm (ksA e121.symm hk114))) hi130 dL_isLaid_108 ?_
    refine G_iconst C (v := 1) dL_isLaid_109 (by decide) ?_
    refine G_iadd C dL_isLaid_110 ?_
    refine G_rf2 ha113 ?_
    obtain ⟨hi131, h⟩ := h
    refine G_iast C (ksA e129.symm (ksA e125.symm (ksA e121.symm hk114))) hi131 dL_isLaid_111 ?_
    generalize e133 : sA S128 a112 ((1 : Int32).toNatClampNeg) ((gA S128 a112 ((1 : Int32).toNatClampNeg)) + 1) = S132
    have h := h S132 e133.symm
    refine G_aload_n C (x := x0) 1 dL_isLaid_112 rfl rfl ?_
    refine G_iconst C (v := 0) dL_isLaid_113 (by decide) ?_
    refine G_aload_n C (x := x2) 3 dL_isLaid_114 rfl rfl ?_
    refine G_aload_n C (x := x1) 2 dL_isLaid_115 rfl rfl ?_
    refine G_iconst C (v := 1) dL_isLaid_116 (by decide) ?_
    refine G_rf1 ha113 ?_
    obtain ⟨hi134, h⟩ := h
    refine G_iald C (ksA e133.symm (ksA e129.symm (ksA e125.symm (ksA e121.symm hk114)))) hi134 dL_isLaid_117 ?_
    refine G_iconst C (v := 1) dL_isLaid_118 (by decide) ?_
    refine G_isub C dL_isLaid_119 ?_
    refine G_rf1 ha117 ?_
    obtain ⟨hi135, h⟩ := h
    refine G_iald C (ksA e133.symm (ksA e129.symm (ksA e125.symm (ksA e121.symm hk118)))) hi135 dL_isLaid_120 ?_
    refine G_iload C (x := x4) 4 dL_isLaid_121 rfl ?_
    refine G_iconst C (v := 5) dL_isLaid_123 (by decide) ?_
    refine G_idiv C dL_isLaid_124 (by decide) ?_
    refine G_iconst C (v := 4) dL_isLaid_125 (by decide) ?_
    refine G_irem C dL_isLaid_126 (by decide) ?_
    refine G_aload_n C (x := x2) 3 dL_isLaid_127 rfl rfl ?_
    refine G_iconst C (v := 5) dL_isLaid_128 (by decide) ?_
    refine G_aload_n C (x := x1) 2 dL_isLaid_129 rfl rfl ?_
    refine G_iconst C (v := 1) dL_isLaid_130 (by decide) ?_
    refine G_rf1 ha113 ?_
    obtain ⟨hi136, h⟩ := h
    refine G_iald C (ksA e133.symm (ksA e129.symm (ksA e125.symm (ksA e121.symm hk114)))) hi136 dL_isLaid_131 ?_
    refine G_iadd C dL_isLaid_132 ?_
    refine G_rf1 ha117 ?_
    obtain ⟨hi137, h⟩ := h
    refine G_iald C (ksA e133.symm (ksA e129.symm (ksA e125.symm (ksA e121.symm hk118)))) hi137 dL_isLaid_133 ?_
    refine G_iload C (x := s0) 0 dL_isLaid_134 rfl ?_
    refine G_iconst C (v := 0) dL_isLaid_136 (by decide) ?_
    obtain ⟨m140, m141, hc142, hs143, h⟩ := h
    refine G_callSWi C hZ tw_2_35 tw_2_36 tw_1_0 tw_2_37 hy_L_act ⟨Nat.le_of_ble_eq_true rfl, Nat.le_of_ble_eq_true rfl⟩ (As := [va_rf x0, Value.int 0, Value.int (gA S132 a116 ((((gA S132 a112 ((1 : Int32).toNatClampNeg)) - 1)).toNatClampNeg)), Value.int ((x4 / 5) - (x4 / 5) / 4 * 4), Value.int (gA S132 a116 (((5 + (gA S132 a112 ((1 : Int32).toNatClampNeg)))).toNatClampNeg)), Value.int s0, Value.int 0]) (rest := []) (c_L_act l hl D cy e0 m0 he hm x0 0 (gA S132 a116 ((((gA S132 a112 ((1 : Int32).toNatClampNeg)) - 1)).toNatClampNeg)) ((x4 / 5) - (x4 / 5) / 4 * 4) (gA S132 a116 (((5 + (gA S132 a112 ((1 : Int32).toNatClampNeg)))).toNatClampNeg)) s0 0 S132 m140 m141 _ h) rfl rfl (by simp [va_cat, vi_cat, vl_cat]) dL_isLaid_137 ⟨hc142, hs143⟩ (fun r139 S138 h => ?_)
    refine G_aload_n C (x := x1) 2 dL_isLaid_140 rfl rfl ?_
    refine G_iconst C (v := 1) dL_isLaid_141 (by decide) ?_
    refine G_rf1 ha113 ?_
    obtain ⟨hk144, h⟩ := h
    obtain ⟨hi145, h⟩ := h
    refine G_iald C hk144 hi145 dL_isLaid_142 ?_
    refine G_iconst C (v := 1) dL_isLaid_143 (by decide) ?_
    refine G_isub C dL_isLaid_144 ?_
    refine G_icmp_ne C (tgt := 152) dL_isLaid_145 (by decide) (fun hc => ?_) (fun hc => ?_)
    · have h := h.1 hc
      refine G_iconst C (v := 0) dL_isLaid_152 (by decide) ?_
      refine G_lv C (lv' := []) [] rfl ?_
      exact J153 _ _ _ _ h
    · have h := h.2 hc
      refine G_iconst C (v := 1) dL_isLaid_148 (by decide) ?_
      refine G_goto C (tgt := 153) dL_isLaid_149 (by decide) ?_
      refine G_lv C (lv' := []) [] rfl ?_
      exact J153 _ _ _ _ h
  have J52 : ∀ (c0 n0 : Nat) (S : PT), w_L_isLaid_b52 e0 m0 x0 x1 x2 x3 x4 mc ms post c0 n0 S → G p l e { frames := 10, cells := mc, slots := ms, locals := 244 } s m [va_rf x0, va_rf x1, va_rf x2, Value.int x3, Value.int x4].toArray below meth c D cy A s.heap 11 (QMi below D cy A [va_rf x0, va_rf x1, va_rf x2, Value.int x3, Value.int x4] s mc ms (fun r S => bo r ∧ post r S)) S c0 n0 52 [(0, va_rf x0), (1, va_rf x1), (2, va_rf x2), (4, Value.int x4)] [] := by
    intro c0 n0 S h
    unfold w_L_isLaid_b52 at h
    obtain ⟨hc00, hn00, h⟩ := h
    refine G_iconst C (v := (-1)) dL_isLaid_52 (by decide) ?_
    refine G_goto C (tgt := 64) dL_isLaid_53 (by decide) ?_
    refine G_lv C (lv' := [(0, va_rf x0), (1, va_rf x1), (2, va_rf x2), (4, Value.int x4)]) [0, 1, 2, 3] rfl ?_
    exact J64 _ _ _ _ h
  have J38 : ∀ (c0 n0 : Nat) (S : PT) (s0 : Int32), w_L_isLaid_b38 e0 m0 x0 x1 x2 x3 x4 mc ms post c0 n0 S s0 → G p l e { frames := 10, cells := mc, slots := ms, locals := 244 } s m [va_rf x0, va_rf x1, va_rf x2, Value.int x3, Value.int x4].toArray below meth c D cy A s.heap 11 (QMi below D cy A [va_rf x0, va_rf x1, va_rf x2, Value.int x3, Value.int x4] s mc ms (fun r S => bo r ∧ post r S)) S c0 n0 38 [] [Value.int s0] := by
    intro c0 n0 S s0 h
    unfold w_L_isLaid_b38 at h
    obtain ⟨hc00, hn00, h⟩ := h
    obtain ⟨hb146, h⟩ := h
    exact G_zret C (mc := mc) (ms := ms) (post := (fun r S => bo r ∧ post r S)) (bo_nar hb146) hr hc00 hn00 dL_isLaid_38 ⟨hb146, h⟩
  have J10 : ∀ (c0 n0 : Nat) (S : PT), w_L_isLaid_b10 e0 m0 x0 x1 x2 x3 x4 mc ms post c0 n0 S → G p l e { frames := 10, cells := mc, slots := ms, locals := 244 } s m [va_rf x0, va_rf x1, va_rf x2, Value.int x3, Value.int x4].toArray below meth c D cy A s.heap 11 (QMi below D cy A [va_rf x0, va_rf x1, va_rf x2, Value.int x3, Value.int x4] s mc ms (fun r S => bo r ∧ post r S)) S c0 n0 10 [(0, va_rf x0), (1, va_rf x1), (2, va_rf x2), (4, Value.int x4)] [] := by
    intro c0 n0 S h
    unfold w_L_isLaid_b10 at h
    obtain ⟨hc00, hn00, h⟩ := h
    refine G_aload_n C (x := x1) 1 dL_isLaid_10 rfl rfl ?_
    refine G_iconst C (v := 1) dL_isLaid_11 (by decide) ?_
    obtain ⟨a147, ha148, h⟩ := h
    refine G_rf1 ha148 ?_
    obtain ⟨hk149, h⟩ := h
    obtain ⟨hi150, h⟩ := h
    refine G_iald C hk149 hi150 dL_isLaid_12 ?_
    refine G_bipush C (v := 6) dL_isLaid_13 (by decide) ?_
    refine G_icmp_ne C (tgt := 39) dL_isLaid_15 (by decide) (fun hc => ?_) (fun hc => ?_)
    · have h := h.1 hc
      refine G_iload C (x := x4) 3 dL_isLaid_39 rfl ?_
      refine G_iconst C (v := 3) dL_isLaid_41 (by decide) ?_
      refine G_irem C dL_isLaid_42 (by decide) ?_
      refine G_if_eq C (tgt := 52) dL_isLaid_43 (by decide) (fun hc => ?_) (fun hc => ?_)
      · have h := h.1 hc
        refine G_lv C (lv' := [(0, va_rf x0), (1, va_rf x1), (2, va_rf x2), (4, Value.int x4)]) [0, 1, 2, 3] rfl ?_
        exact J52 _ _ _ h
      · have h := h.2 hc
        refine G_aload_n C (x := x1) 1 dL_isLaid_46 rfl rfl ?_
        refine G_iconst C (v := 1) dL_isLaid_47 (by decide) ?_
        refine G_rf1 ha148 ?_
        obtain ⟨hi151, h⟩ := h
        refine G_iald C hk149 hi151 dL_isLaid_48 ?_
        refine G_if_ne C (tgt := 56) dL_isLaid_49 (by decide) (fun hc => ?_) (fun hc => ?_)
        · have h := h.1 hc
          refine G_iload C (x := x4) 3 dL_isLaid_56 rfl ?_
          refine G_iconst C (v := 3) dL_isLaid_58 (by decide) ?_
          refine G_idiv C dL_isLaid_59 (by decide) ?_
          refine G_aload_n C (x := x1) 1 dL_isLaid_60 rfl rfl ?_
          refine G_iconst C (v := 1) dL_isLaid_61 (by decide) ?_
          refine G_rf1 ha148 ?_
          obtain ⟨hi152, h⟩ := h
          refine G_iald C hk149 hi152 dL_isLaid_62 ?_
          obtain ⟨hn153, h⟩ := h
          refine G_irem C dL_isLaid_63 hn153 ?_
          refine G_lv C (lv' := [(0, va_rf x0), (1, va_rf x1), (2, va_rf x2), (4, Value.int x4)]) [0, 1, 2, 3] rfl ?_
          exact J64 _ _ _ _ h
        · have h := h.2 hc
          refine G_lv C (lv' := [(0, va_rf x0), (1, va_rf x1), (2, va_rf x2), (4, Value.int x4)]) [0, 1, 2, 3] rfl ?_
          exact J52 _ _ _ h
    · have h := h.2 hc
      refine G_aload_n C (x := x0) 0 dL_isLaid_18 rfl rfl ?_
      refine G_iconst C (v := 0) dL_isLaid_19 (by decide) ?_
      refine G_iconst C (v := 5) dL_isLaid_20 (by decide) ?_
      refine G_iconst C (v := 0) dL_isLaid_21 (by decide) ?_
      refine G_iconst C (v := 0) dL_isLaid_22 (by decide) ?_
      refine G_iconst C (v := (-1)) dL_isLaid_23 (by decide) ?_
      refine G_iconst C (v := 0) dL_isLaid_24 (by decide) ?_
      obtain ⟨m156, m157, hc158, hs159, h⟩ := h
      refine G_callSWi C hZ tw_2_35 tw_2_36 tw_1_0 tw_2_37 hy_L_act ⟨Nat.le_of_ble_eq_true rfl, Nat.le_of_ble_eq_true rfl⟩ (As := [va_rf x0, Value.int 0, Value.int 5, Value.int 0, Value.int 0, Value.int (-1), Value.int 0]) (rest := []) (c_L_act l hl D cy e0 m0 he hm x0 0 5 0 0 (-1) 0 S m156 m157 _ h) rfl rfl (by simp [va_cat, vi_cat, vl_cat]) dL_isLaid_25 ⟨hc158, hs159⟩ (fun r155 S154 h => ?_)
      refine G_ldc C (v := (-1713000)) (im tw_4_176) dL_isLaid_28 ?_
      refine G_icmp_ne C (tgt := 37) dL_isLaid_30 (by decide) (fun hc => ?_) (fun hc => ?_)
      · have h := h.1 hc
        refine G_iconst C (v := 0) dL_isLaid_37 (by decide) ?_
        refine G_lv C (lv' := []) [] rfl ?_
        exact J38 _ _ _ _ h
      · have h := h.2 hc
        refine G_iconst C (v := 1) dL_isLaid_33 (by decide) ?_
        refine G_goto C (tgt := 38) dL_isLaid_34 (by decide) ?_
        refine G_lv C (lv' := []) [] rfl ?_
        exact J38 _ _ _ _ h
  refine G_lv C (lv' := [(0, va_rf x0), (1, va_rf x1), (2, va_rf x2), (3, Value.int x3), (4, Value.int x4)]) [0, 1, 2, 3, 4] (by first | rfl | simp [lv_pick, lv_args, va_cat, vi_cat, vl_cat]) ?_
  unfold w_L_isLaid at h
  refine G_iload_n C (x := x3) 3 dL_isLaid_0 rfl rfl ?_
  refine G_if_eq C (tgt := 10) dL_isLaid_1 (by decide) (fun hc => ?_) (fun hc => ?_)
  · have h := h.1 hc
    refine G_lv C (lv' := [(0, va_rf x0), (1, va_rf x1), (2, va_rf x2), (4, Value.int x4)]) [0, 1, 2, 4] rfl ?_
    exact J10 _ _ _ h
  · have h := h.2 hc
    refine G_aload_n C (x := x1) 1 dL_isLaid_4 rfl rfl ?_
    refine G_iconst C (v := 1) dL_isLaid_5 (by decide) ?_
    obtain ⟨a160, ha161, h⟩ := h
    refine G_rf1 ha161 ?_
    obtain ⟨hk162, h⟩ := h
    obtain ⟨hi163, h⟩ := h
    refine G_iald C hk162 hi163 dL_isLaid_6 ?_
    refine G_if_ne C (tgt := 154) dL_isLaid_7 (by decide) (fun hc => ?_) (fun hc => ?_)
    · have h := h.1 hc
      refine G_iload C (x := x4) 4 dL_isLaid_154 rfl ?_
      refine G_aload_n C (x := x1) 1 dL_isLaid_156 rfl rfl ?_
      refine G_iconst C (v := 1) dL_isLaid_157 (by decide) ?_
      refine G_rf1 ha161 ?_
      obtain ⟨hi164, h⟩ := h
      refine G_iald C hk162 hi164 dL_isLaid_158 ?_
      obtain ⟨hn165, h⟩ := h
      refine G_irem C dL_isLaid_159 hn165 ?_
      refine G_istore C (i := 5) (lv' := [(5, Value.int (x4 - x4 / (gA S a160 ((1 : Int32).toNatClampNeg)) * (gA S a160 ((1 : Int32).toNatClampNeg)))), (0, va_rf x0), (1, va_rf x1), (2, va_rf x2), (3, Value.int x3), (4, Value.int x4)]) dL_isLaid_160 (by decide) (by first | rfl | simp [va_cat, vi_cat, vl_cat]) ?_
      refine G_iload C (x := x4) 5 dL_isLaid_162 rfl ?_
      refine G_bipush C (v := 6) dL_isLaid_164 (by decide) ?_
      refine G_idiv C dL_isLaid_166 (by decide) ?_
      refine G_aload_n C (x := x2) 3 dL_isLaid_167 rfl rfl ?_
      refine G_iload C (x := (x4 - x4 / (gA S a160 ((1 : Int32).toNatClampNeg)) * (gA S a160 ((1 : Int32).toNatClampNeg)))) 0 dL_isLaid_168 rfl ?_
      obtain ⟨a166, ha167, h⟩ := h
      refine G_rf1 ha167 ?_
      obtain ⟨hk168, h⟩ := h
      obtain ⟨hi169, h⟩ := h
      refine G_iald C hk168 hi169 dL_isLaid_170 ?_
      obtain ⟨hn170, h⟩ := h
      refine G_irem C dL_isLaid_171 hn170 ?_
      refine G_istore C (i := 6) (lv' := [(6, Value.int ((x4 / 6) - (x4 / 6) / (gA S a166 (((x4 - x4 / (gA S a160 ((1 : Int32).toNatClampNeg)) * (gA S a160 ((1 : Int32).toNatClampNeg)))).toNatClampNeg)) * (gA S a166 (((x4 - x4 / (gA S a160 ((1 : Int32).toNatClampNeg)) * (gA S a160 ((1 : Int32).toNatClampNeg)))).toNatClampNeg)))), (5, Value.int (x4 - x4 / (gA S a160 ((1 : Int32).toNatClampNeg)) * (gA S a160 ((1 : Int32).toNatClampNeg)))), (0, va_rf x0), (1, va_rf x1), (2, va_rf x2), (3, Value.int x3), (4, Value.int x4)]) dL_isLaid_172 (by decide) (by first | rfl | simp [va_cat, vi_cat, vl_cat]) ?_
      refine G_iload C (x := ((x4 / 6) - (x4 / 6) / (gA S a166 (((x4 - x4 / (gA S a160 ((1 : Int32).toNatClampNeg)) * (gA S a160 ((1 : Int32).toNatClampNeg)))).toNatClampNeg)) * (gA S a166 (((x4 - x4 / (gA S a160 ((1 : Int32).toNatClampNeg)) * (gA S a160 ((1 : Int32).toNatClampNeg)))).toNatClampNeg)))) 0 dL_isLaid_174 rfl ?_
      refine G_iload C (x := x4) 6 dL_isLaid_176 rfl ?_
      refine G_bipush C (v := 84) dL_isLaid_178 (by decide) ?_
      refine G_idiv C dL_isLaid_180 (by decide) ?_
      refine G_aload_n C (x := x2) 4 dL_isLaid_181 rfl rfl ?_
      refine G_iload C (x := (x4 - x4 / (gA S a160 ((1 : Int32).toNatClampNeg)) * (gA S a160 ((1 : Int32).toNatClampNeg)))) 1 dL_isLaid_182 rfl ?_
      refine G_rf1 ha167 ?_
      obtain ⟨hi171, h⟩ := h
      refine G_iald C hk168 hi171 dL_isLaid_184 ?_
      refine G_iload C (x := ((x4 / 6) - (x4 / 6) / (gA S a166 (((x4 - x4 / (gA S a160 ((1 : Int32).toNatClampNeg)) * (gA S a160 ((1 : Int32).toNatClampNeg)))).toNatClampNeg)) * (gA S a166 (((x4 - x4 / (gA S a160 ((1 : Int32).toNatClampNeg)) * (gA S a160 ((1 : Int32).toNatClampNeg)))).toNatClampNeg)))) 0 dL_isLaid_185 rfl ?_
      refine G_isub C dL_isLaid_187 ?_
      obtain ⟨hn172, h⟩ := h
      refine G_irem C dL_isLaid_188 hn172 ?_
      refine G_iadd C dL_isLaid_189 ?_
      refine G_istore C (i := 7) (lv' := [(7, Value.int (((x4 / 6) - (x4 / 6) / (gA S a166 (((x4 - x4 / (gA S a160 ((1 : Int32).toNatClampNeg)) * (gA S a160 ((1 : Int32).toNatClampNeg)))).toNatClampNeg)) * (gA S a166 (((x4 - x4 / (gA S a160 ((1 : Int32).toNatClampNeg)) * (gA S a160 ((1 : Int32).toNatClampNeg)))).toNatClampNeg))) + ((x4 / 84) - (x4 / 84) / ((gA S a166 (((x4 - x4 / (gA S a160 ((1 : Int32).toNatClampNeg)) * (gA S a160 ((1 : Int32).toNatClampNeg)))).toNatClampNeg)) - ((x4 / 6) - (x4 / 6) / (gA S a166 (((x4 - x4 / (gA S a160 ((1 : Int32).toNatClampNeg)) * (gA S a160 ((1 : Int32).toNatClampNeg)))).toNatClampNeg)) * (gA S a166 (((x4 - x4 / (gA S a160 ((1 : Int32).toNatClampNeg)) * (gA S a160 ((1 : Int32).toNatClampNeg)))).toNatClampNeg)))) * ((gA S a166 (((x4 - x4 / (gA S a160 ((1 : Int32).toNatClampNeg)) * (gA S a160 ((1 : Int32).toNatClampNeg)))).toNatClampNeg)) - ((x4 / 6) - (x4 / 6) / (gA S a166 (((x4 - x4 / (gA S a160 ((1 : Int32).toNatClampNeg)) * (gA S a160 ((1 : Int32).toNatClampNeg)))).toNatClampNeg)) * (gA S a166 (((x4 - x4 / (gA S a160 ((1 : Int32).toNatClampNeg)) * (gA S a160 ((1 : Int32).toNatClampNeg)))).toNatClampNeg))))))), (6, Value.int ((x4 / 6) - (x4 / 6) / (gA S a166 (((x4 - x4 / (gA S a160 ((1 : Int32).toNatClampNeg)) * (gA S a160 ((1 : Int32).toNatClampNeg)))).toNatClampNeg)) * (gA S a166 (((x4 - x4 / (gA S a160 ((1 : Int32).toNatClampNeg)) * (gA S a160 ((1 : Int32).toNatClampNeg)))).toNatClampNeg)))), (5, Value.int (x4 - x4 / (gA S a160 ((1 : Int32).toNatClampNeg)) * (gA S a160 ((1 : Int32).toNatClampNeg)))), (0, va_rf x0), (1, va_rf x1), (2, va_rf x2), (3, Value.int x3), (4, Value.int x4)]) dL_isLaid_190 (by decide) (by first | rfl | simp [va_cat, vi_cat, vl_cat]) ?_
      refine G_iload_n C (x := x3) 6 dL_isLaid_192 rfl rfl ?_
      refine G_iconst C (v := 1) dL_isLaid_193 (by decide) ?_
      refine G_icmp_ne C (tgt := 366) dL_isLaid_194 (by decide) (fun hc => ?_) (fun hc => ?_)
      · have h := h.1 hc
        refine G_iload_n C (x := x3) 6 dL_isLaid_366 rfl rfl ?_
        refine G_iconst C (v := 2) dL_isLaid_367 (by decide) ?_
        refine G_icmp_ne C (tgt := 527) dL_isLaid_368 (by decide) (fun hc => ?_) (fun hc => ?_)
        · have h := h.1 hc
          refine G_lv C (lv' := [(0, va_rf x0), (1, va_rf x1), (2, va_rf x2), (3, Value.int x3), (4, Value.int x4), (5, Value.int (x4 - x4 / (gA S a160 ((1 : Int32).toNatClampNeg)) * (gA S a160 ((1 : Int32).toNatClampNeg)))), (6, Value.int ((x4 / 6) - (x4 / 6) / (gA S a166 (((x4 - x4 / (gA S a160 ((1 : Int32).toNatClampNeg)) * (gA S a160 ((1 : Int32).toNatClampNeg)))).toNatClampNeg)) * (gA S a166 (((x4 - x4 / (gA S a160 ((1 : Int32).toNatClampNeg)) * (gA S a160 ((1 : Int32).toNatClampNeg)))).toNatClampNeg))))]) [3, 4, 5, 6, 7, 2, 1] rfl ?_
          exact J527 _ _ _ _ _ h
        · have h := h.2 hc
          refine G_aload_n C (x := x1) 4 dL_isLaid_371 rfl rfl ?_
          refine G_iconst C (v := 2) dL_isLaid_372 (by decide) ?_
          refine G_rf1 ha161 ?_
          obtain ⟨hi173, h⟩ := h
          refine G_iald C hk162 hi173 dL_isLaid_373 ?_
          refine G_if_le C (tgt := 527) dL_isLaid_374 (by decide) (fun hc => ?_) (fun hc => ?_)
          · have h := h.1 hc
            refine G_lv C (lv' := [(0, va_rf x0), (1, va_rf x1), (2, va_rf x2), (3, Value.int x3), (4, Value.int x4), (5, Value.int (x4 - x4 / (gA S a160 ((1 : Int32).toNatClampNeg)) * (gA S a160 ((1 : Int32).toNatClampNeg)))), (6, Value.int ((x4 / 6) - (x4 / 6) / (gA S a166 (((x4 - x4 / (gA S a160 ((1 : Int32).toNatClampNeg)) * (gA S a160 ((1 : Int32).toNatClampNeg)))).toNatClampNeg)) * (gA S a166 (((x4 - x4 / (gA S a160 ((1 : Int32).toNatClampNeg)) * (gA S a160 ((1 : Int32).toNatClampNeg)))).toNatClampNeg))))]) [3, 4, 5, 6, 7, 2, 1] rfl ?_
            exact J527 _ _ _ _ _ h
          · have h := h.2 hc
            refine G_iload C (x := x4) 7 dL_isLaid_377 rfl ?_
            refine G_bipush C (v := 7) dL_isLaid_379 (by decide) ?_
            refine G_idiv C dL_isLaid_381 (by decide) ?_
            refine G_aload_n C (x := x1) 4 dL_isLaid_382 rfl rfl ?_
            refine G_iconst C (v := 2) dL_isLaid_383 (by decide) ?_
            refine G_rf1 ha161 ?_
            obtain ⟨hi174, h⟩ := h
            refine G_iald C hk162 hi174 dL_isLaid_384 ?_
            obtain ⟨hn175, h⟩ := h
            refine G_irem C dL_isLaid_385 hn175 ?_
            refine G_istore C (i := 8) (lv' := [(8, Value.int ((x4 / 7) - (x4 / 7) / (gA S a160 ((2 : Int32).toNatClampNeg)) * (gA S a160 ((2 : Int32).toNatClampNeg)))), (7, Value.int (((x4 / 6) - (x4 / 6) / (gA S a166 (((x4 - x4 / (gA S a160 ((1 : Int32).toNatClampNeg)) * (gA S a160 ((1 : Int32).toNatClampNeg)))).toNatClampNeg)) * (gA S a166 (((x4 - x4 / (gA S a160 ((1 : Int32).toNatClampNeg)) * (gA S a160 ((1 : Int32).toNatClampNeg)))).toNatClampNeg))) + ((x4 / 84) - (x4 / 84) / ((gA S a166 (((x4 - x4 / (gA S a160 ((1 : Int32).toNatClampNeg)) * (gA S a160 ((1 : Int32).toNatClampNeg)))).toNatClampNeg)) - ((x4 / 6) - (x4 / 6) / (gA S a166 (((x4 - x4 / (gA S a160 ((1 : Int32).toNatClampNeg)) * (gA S a160 ((1 : Int32).toNatClampNeg)))).toNatClampNeg)) * (gA S a166 (((x4 - x4 / (gA S a160 ((1 : Int32).toNatClampNeg)) * (gA S a160 ((1 : Int32).toNatClampNeg)))).toNatClampNeg)))) * ((gA S a166 (((x4 - x4 / (gA S a160 ((1 : Int32).toNatClampNeg)) * (gA S a160 ((1 : Int32).toNatClampNeg)))).toNatClampNeg)) - ((x4 / 6) - (x4 / 6) / (gA S a166 (((x4 - x4 / (gA S a160 ((1 : Int32).toNatClampNeg)) * (gA S a160 ((1 : Int32).toNatClampNeg)))).toNatClampNeg)) * (gA S a166 (((x4 - x4 / (gA S a160 ((1 : Int32).toNatClampNeg)) * (gA S a160 ((1 : Int32).toNatClampNeg)))).toNatClampNeg))))))), (6, Value.int ((x4 / 6) - (x4 / 6) / (gA S a166 (((x4 - x4 / (gA S a160 ((1 : Int32).toNatClampNeg)) * (gA S a160 ((1 : Int32).toNatClampNeg)))).toNatClampNeg)) * (gA S a166 (((x4 - x4 / (gA S a160 ((1 : Int32).toNatClampNeg)) * (gA S a160 ((1 : Int32).toNatClampNeg)))).toNatClampNeg)))), (5, Value.int (x4 - x4 / (gA S a160 ((1 : Int32).toNatClampNeg)) * (gA S a160 ((1 : Int32).toNatClampNeg)))), (0, va_rf x0), (1, va_rf x1), (2, va_rf x2), (3, Value.int x3), (4, Value.int x4)]) dL_isLaid_386 (by decide) (by first | rfl | simp [va_cat, vi_cat, vl_cat]) ?_
            refine G_aload_n C (x := x0) 4 dL_isLaid_388 rfl rfl ?_
            refine G_iconst C (v := 4) dL_isLaid_389 (by decide) ?_
            refine G_iload C (x := ((x4 / 7) - (x4 / 7) / (gA S a160 ((2 : Int32).toNatClampNeg)) * (gA S a160 ((2 : Int32).toNatClampNeg)))) 0 dL_isLaid_390 rfl ?_
            refine G_iconst C (v := 0) dL_isLaid_392 (by decide) ?_
            refine G_iload C (x := x4) 8 dL_isLaid_393 rfl ?_
            refine G_iconst C (v := 2) dL_isLaid_395 (by decide) ?_
            refine G_irem C dL_isLaid_396 (by decide) ?_
            refine G_iload C (x := x4) 8 dL_isLaid_397 rfl ?_
            refine G_iconst C (v := 3) dL_isLaid_399 (by decide) ?_
            refine G_idiv C dL_isLaid_400 (by decide) ?_
            refine G_iconst C (v := 4) dL_isLaid_401 (by decide) ?_
            refine G_irem C dL_isLaid_402 (by decide) ?_
            refine G_iconst C (v := 0) dL_isLaid_403 (by decide) ?_
            obtain ⟨m178, m179, hc180, hs181, h⟩ := h
            refine G_callSWi C hZ tw_2_35 tw_2_36 tw_1_0 tw_2_37 hy_L_act ⟨Nat.le_of_ble_eq_true rfl, Nat.le_of_ble_eq_true rfl⟩ (As := [va_rf x0, Value.int 4, Value.int ((x4 / 7) - (x4 / 7) / (gA S a160 ((2 : Int32).toNatClampNeg)) * (gA S a160 ((2 : Int32).toNatClampNeg))), Value.int 0, Value.int (x4 - x4 / 2 * 2), Value.int ((x4 / 3) - (x4 / 3) / 4 * 4), Value.int 0]) (rest := []) (c_L_act l hl D cy e0 m0 he hm x0 4 ((x4 / 7) - (x4 / 7) / (gA S a160 ((2 : Int32).toNatClampNeg)) * (gA S a160 ((2 : Int32).toNatClampNeg))) 0 (x4 - x4 / 2 * 2) ((x4 / 3) - (x4 / 3) / 4 * 4) 0 S m178 m179 _ h) rfl rfl (by simp [va_cat, vi_cat, vl_cat]) dL_isLaid_404 ⟨hc180, hs181⟩ (fun r177 S176 h => ?_)
            refine G_istore C (i := 9) (lv' := [(9, Value.int r177), (8, Value.int ((x4 / 7) - (x4 / 7) / (gA S a160 ((2 : Int32).toNatClampNeg)) * (gA S a160 ((2 : Int32).toNatClampNeg)))), (7, Value.int (((x4 / 6) - (x4 / 6) / (gA S a166 (((x4 - x4 / (gA S a160 ((1 : Int32).toNatClampNeg)) * (gA S a160 ((1 : Int32).toNatClampNeg)))).toNatClampNeg)) * (gA S a166 (((x4 - x4 / (gA S a160 ((1 : Int32).toNatClampNeg)) * (gA S a160 ((1 : Int32).toNatClampNeg)))).toNatClampNeg))) + ((x4 / 84) - (x4 / 84) / ((gA S a166 (((x4 - x4 / (gA S a160 ((1 : Int32).toNatClampNeg)) * (gA S a160 ((1 : Int32).toNatClampNeg)))).toNatClampNeg)) - ((x4 / 6) - (x4 / 6) / (gA S a166 (((x4 - x4 / (gA S a160 ((1 : Int32).toNatClampNeg)) * (gA S a160 ((1 : Int32).toNatClampNeg)))).toNatClampNeg)) * (gA S a166 (((x4 - x4 / (gA S a160 ((1 : Int32).toNatClampNeg)) * (gA S a160 ((1 : Int32).toNatClampNeg)))).toNatClampNeg)))) * ((gA S a166 (((x4 - x4 / (gA S a160 ((1 : Int32).toNatClampNeg)) * (gA S a160 ((1 : Int32).toNatClampNeg)))).toNatClampNeg)) - ((x4 / 6) - (x4 / 6) / (gA S a166 (((x4 - x4 / (gA S a160 ((1 : Int32).toNatClampNeg)) * (gA S a160 ((1 : Int32).toNatClampNeg)))).toNatClampNeg)) * (gA S a166 (((x4 - x4 / (gA S a160 ((1 : Int32).toNatClampNeg)) * (gA S a160 ((1 : Int32).toNatClampNeg)))).toNatClampNeg))))))), (6, Value.int ((x4 / 6) - (x4 / 6) / (gA S a166 (((x4 - x4 / (gA S a160 ((1 : Int32).toNatClampNeg)) * (gA S a160 ((1 : Int32).toNatClampNeg)))).toNatClampNeg)) * (gA S a166 (((x4 - x4 / (gA S a160 ((1 : Int32).toNatClampNeg)) * (gA S a160 ((1 : Int32).toNatClampNeg)))).toNatClampNeg)))), (5, Value.int (x4 - x4 / (gA S a160 ((1 : Int32).toNatClampNeg)) * (gA S a160 ((1 : Int32).toNatClampNeg)))), (0, va_rf x0), (1, va_rf x1), (2, va_rf x2), (3, Value.int x3), (4, Value.int x4)]) dL_isLaid_407 (by decide) (by first | rfl | simp [va_cat, vi_cat, vl_cat]) ?_
            refine G_iload C (x := x4) 9 dL_isLaid_409 rfl ?_
            refine G_bipush C (v := 12) dL_isLaid_411 (by decide) ?_
            refine G_idiv C dL_isLaid_413 (by decide) ?_
            refine G_iconst C (v := 3) dL_isLaid_414 (by decide) ?_
            refine G_irem C dL_isLaid_415 (by decide) ?_
            refine G_if_le C (tgt := 466) dL_isLaid_416 (by decide) (fun hc => ?_) (fun hc => ?_)
            · have h := h.1 hc
              refine G_aload_n C (x := x0) 5 dL_isLaid_466 rfl rfl ?_
              refine G_bipush C (v := 6) dL_isLaid_467 (by decide) ?_
              refine G_iload C (x := ((x4 / 7) - (x4 / 7) / (gA S a160 ((2 : Int32).toNatClampNeg)) * (gA S a160 ((2 : Int32).toNatClampNeg)))) 1 dL_isLaid_469 rfl ?_
              refine G_iconst C (v := 0) dL_isLaid_471 (by decide) ?_
              refine G_iconst C (v := 0) dL_isLaid_472 (by decide) ?_
              refine G_iconst C (v := 0) dL_isLaid_473 (by decide) ?_
              refine G_iconst C (v := 0) dL_isLaid_474 (by decide) ?_
              obtain ⟨m184, m185, hc186, hs187, h⟩ := h
              refine G_callSWi C hZ tw_2_35 tw_2_36 tw_1_0 tw_2_37 hy_L_act ⟨Nat.le_of_ble_eq_true rfl, Nat.le_of_ble_eq_true rfl⟩ (As := [va_rf x0, Value.int 6, Value.int ((x4 / 7) - (x4 / 7) / (gA S a160 ((2 : Int32).toNatClampNeg)) * (gA S a160 ((2 : Int32).toNatClampNeg))), Value.int 0, Value.int 0, Value.int 0, Value.int 0]) (rest := []) (c_L_act l hl D cy e0 m0 he hm x0 6 ((x4 / 7) - (x4 / 7) / (gA S a160 ((2 : Int32).toNatClampNeg)) * (gA S a160 ((2 : Int32).toNatClampNeg))) 0 0 0 0 S176 m184 m185 _ h) rfl rfl (by simp [va_cat, vi_cat, vl_cat]) dL_isLaid_475 ⟨hc186, hs187⟩ (fun r183 S182 h => ?_)
              refine G_istore C (i := 10) (lv' := [(10, Value.int r183), (9, Value.int r177), (8, Value.int ((x4 / 7) - (x4 / 7) / (gA S a160 ((2 : Int32).toNatClampNeg)) * (gA S a160 ((2 : Int32).toNatClampNeg)))), (7, Value.int (((x4 / 6) - (x4 / 6) / (gA S a166 (((x4 - x4 / (gA S a160 ((1 : Int32).toNatClampNeg)) * (gA S a160 ((1 : Int32).toNatClampNeg)))).toNatClampNeg)) * (gA S a166 (((x4 - x4 / (gA S a160 ((1 : Int32).toNatClampNeg)) * (gA S a160 ((1 : Int32).toNatClampNeg)))).toNatClampNeg))) + ((x4 / 84) - (x4 / 84) / ((gA S a166 (((x4 - x4 / (gA S a160 ((1 : Int32).toNatClampNeg)) * (gA S a160 ((1 : Int32).toNatClampNeg)))).toNatClampNeg)) - ((x4 / 6) - (x4 / 6) / (gA S a166 (((x4 - x4 / (gA S a160 ((1 : Int32).toNatClampNeg)) * (gA S a160 ((1 : Int32).toNatClampNeg)))).toNatClampNeg)) * (gA S a166 (((x4 - x4 / (gA S a160 ((1 : Int32).toNatClampNeg)) * (gA S a160 ((1 : Int32).toNatClampNeg)))).toNatClampNeg)))) * ((gA S a166 (((x4 - x4 / (gA S a160 ((1 : Int32).toNatClampNeg)) * (gA S a160 ((1 : Int32).toNatClampNeg)))).toNatClampNeg)) - ((x4 / 6) - (x4 / 6) / (gA S a166 (((x4 - x4 / (gA S a160 ((1 : Int32).toNatClampNeg)) * (gA S a160 ((1 : Int32).toNatClampNeg)))).toNatClampNeg)) * (gA S a166 (((x4 - x4 / (gA S a160 ((1 : Int32).toNatClampNeg)) * (gA S a160 ((1 : Int32).toNatClampNeg)))).toNatClampNeg))))))), (6, Value.int ((x4 / 6) - (x4 / 6) / (gA S a166 (((x4 - x4 / (gA S a160 ((1 : Int32).toNatClampNeg)) * (gA S a160 ((1 : Int32).toNatClampNeg)))).toNatClampNeg)) * (gA S a166 (((x4 - x4 / (gA S a160 ((1 : Int32).toNatClampNeg)) * (gA S a160 ((1 : Int32).toNatClampNeg)))).toNatClampNeg)))), (5, Value.int (x4 - x4 / (gA S a160 ((1 : Int32).toNatClampNeg)) * (gA S a160 ((1 : Int32).toNatClampNeg)))), (0, va_rf x0), (1, va_rf x1), (2, va_rf x2), (3, Value.int x3), (4, Value.int x4)]) dL_isLaid_478 (by decide) (by first | rfl | simp [va_cat, vi_cat, vl_cat]) ?_
              refine G_iload C (x := r177) 1 dL_isLaid_480 rfl ?_
              refine G_if_le C (tgt := 525) dL_isLaid_482 (by decide) (fun hc => ?_) (fun hc => ?_)
              · have h := h.1 hc
                refine G_lv C (lv' := []) [] rfl ?_
                exact J525 _ _ _ h
              · have h := h.2 hc
                refine G_iload C (x := r177) 1 dL_isLaid_485 rfl ?_
                refine G_bipush C (v := 8) dL_isLaid_487 (by decide) ?_
                refine G_icmp_gt C (tgt := 525) dL_isLaid_489 (by decide) (fun hc => ?_) (fun hc => ?_)
                · have h := h.1 hc
                  refine G_lv C (lv' := []) [] rfl ?_
                  exact J525 _ _ _ h
                · have h := h.2 hc
                  refine G_iload C (x := r183) 0 dL_isLaid_492 rfl ?_
                  refine G_ldc C (v := (-1713000)) (im tw_4_176) dL_isLaid_494 ?_
                  refine G_icmp_eq C (tgt := 521) dL_isLaid_496 (by decide) (fun hc => ?_) (fun hc => ?_)
                  · have h := h.1 hc
                    refine G_lv C (lv' := []) [] rfl ?_
                    exact J521 _ _ _ h
                  · have h := h.2 hc
                    refine G_iload C (x := r183) 0 dL_isLaid_499 rfl ?_
                    refine G_iload C (x := r177) 1 dL_isLaid_501 rfl ?_
                    refine G_icmp_ne C (tgt := 525) dL_isLaid_503 (by decide) (fun hc => ?_) (fun hc => ?_)
                    · have h := h.1 hc
                      refine G_lv C (lv' := []) [] rfl ?_
                      exact J525 _ _ _ h
                    · have h := h.2 hc
                      refine G_aload_n C (x := x0) 6 dL_isLaid_506 rfl rfl ?_
                      refine G_bipush C (v := 6) dL_isLaid_507 (by decide) ?_
                      refine G_iload C (x := ((x4 / 7) - (x4 / 7) / (gA S a160 ((2 : Int32).toNatClampNeg)) * (gA S a160 ((2 : Int32).toNatClampNeg)))) 2 dL_isLaid_509 rfl ?_
                      refine G_iconst C (v := 0) dL_isLaid_511 (by decide) ?_
                      refine G_iconst C (v := 0) dL_isLaid_512 (by decide) ?_
                      refine G_iconst C (v := 0) dL_isLaid_513 (by decide) ?_
                      refine G_iconst C (v := 0) dL_isLaid_514 (by decide) ?_
                      obtain ⟨m190, m191, hc192, hs193, h⟩ := h
                      refine G_callSWi C hZ tw_2_35 tw_2_36 tw_1_0 tw_2_37 hy_L_act ⟨Nat.le_of_ble_eq_true rfl, Nat.le_of_ble_eq_true rfl⟩ (As := [va_rf x0, Value.int 6, Value.int ((x4 / 7) - (x4 / 7) / (gA S a160 ((2 : Int32).toNatClampNeg)) * (gA S a160 ((2 : Int32).toNatClampNeg))), Value.int 0, Value.int 0, Value.int 0, Value.int 0]) (rest := []) (c_L_act l hl D cy e0 m0 he hm x0 6 ((x4 / 7) - (x4 / 7) / (gA S a160 ((2 : Int32).toNatClampNeg)) * (gA S a160 ((2 : Int32).toNatClampNeg))) 0 0 0 0 S182 m190 m191 _ h) rfl rfl (by simp [va_cat, vi_cat, vl_cat]) dL_isLaid_515 ⟨hc192, hs193⟩ (fun r189 S188 h => ?_)
                      refine G_if_le C (tgt := 525) dL_isLaid_518 (by decide) (fun hc => ?_) (fun hc => ?_)
                      · have h := h.1 hc
                        refine G_lv C (lv' := []) [] rfl ?_
                        exact J525 _ _ _ h
                      · have h := h.2 hc
                        refine G_lv C (lv' := []) [] rfl ?_
                        exact J521 _ _ _ h
            · have h := h.2 hc
              refine G_iload C (x := r177) 0 dL_isLaid_419 rfl ?_
              refine G_if_le C (tgt := 464) dL_isLaid_421 (by decide) (fun hc => ?_) (fun hc => ?_)
              · have h := h.1 hc
                refine G_lv C (lv' := []) [] rfl ?_
                exact J464 _ _ _ h
              · have h := h.2 hc
                refine G_iload C (x := r177) 0 dL_isLaid_424 rfl ?_
                refine G_bipush C (v := 8) dL_isLaid_426 (by decide) ?_
                refine G_icmp_gt C (tgt := 464) dL_isLaid_428 (by decide) (fun hc => ?_) (fun hc => ?_)
                · have h := h.1 hc
                  refine G_lv C (lv' := []) [] rfl ?_
                  exact J464 _ _ _ h
                · have h := h.2 hc
                  refine G_aload_n C (x := x0) 5 dL_isLaid_431 rfl rfl ?_
                  refine G_iconst C (v := 5) dL_isLaid_432 (by decide) ?_
                  refine G_iload C (x := ((x4 / 7) - (x4 / 7) / (gA S a160 ((2 : Int32).toNatClampNeg)) * (gA S a160 ((2 : Int32).toNatClampNeg)))) 1 dL_isLaid_433 rfl ?_
                  refine G_iconst C (v := 0) dL_isLaid_435 (by decide) ?_
                  refine G_iconst C (v := 0) dL_isLaid_436 (by decide) ?_
                  refine G_iconst C (v := 0) dL_isLaid_437 (by decide) ?_
                  refine G_iconst C (v := 0) dL_isLaid_438 (by decide) ?_
                  obtain ⟨m196, m197, hc198, hs199, h⟩ := h
                  refine G_callSWi C hZ tw_2_35 tw_2_36 tw_1_0 tw_2_37 hy_L_act ⟨Nat.le_of_ble_eq_true rfl, Nat.le_of_ble_eq_true rfl⟩ (As := [va_rf x0, Value.int 5, Value.int ((x4 / 7) - (x4 / 7) / (gA S a160 ((2 : Int32).toNatClampNeg)) * (gA S a160 ((2 : Int32).toNatClampNeg))), Value.int 0, Value.int 0, Value.int 0, Value.int 0]) (rest := []) (c_L_act l hl D cy e0 m0 he hm x0 5 ((x4 / 7) - (x4 / 7) / (gA S a160 ((2 : Int32).toNatClampNeg)) * (gA S a160 ((2 : Int32).toNatClampNeg))) 0 0 0 0 S176 m196 m197 _ h) rfl rfl (by simp [va_cat, vi_cat, vl_cat]) dL_isLaid_439 ⟨hc198, hs199⟩ (fun r195 S194 h => ?_)
                  refine G_iconst C (v := 1) dL_isLaid_442 (by decide) ?_
                  refine G_icmp_ne C (tgt := 464) dL_isLaid_443 (by decide) (fun hc => ?_) (fun hc => ?_)
                  · have h := h.1 hc
                    refine G_lv C (lv' := []) [] rfl ?_
                    exact J464 _ _ _ h
                  · have h := h.2 hc
                    refine G_aload_n C (x := x0) 5 dL_isLaid_446 rfl rfl ?_
                    refine G_iconst C (v := 5) dL_isLaid_447 (by decide) ?_
                    refine G_iload C (x := ((x4 / 7) - (x4 / 7) / (gA S a160 ((2 : Int32).toNatClampNeg)) * (gA S a160 ((2 : Int32).toNatClampNeg)))) 1 dL_isLaid_448 rfl ?_
                    refine G_iconst C (v := 0) dL_isLaid_450 (by decide) ?_
                    refine G_iconst C (v := 0) dL_isLaid_451 (by decide) ?_
                    refine G_iconst C (v := 0) dL_isLaid_452 (by decide) ?_
                    refine G_iconst C (v := 0) dL_isLaid_453 (by decide) ?_
                    obtain ⟨m202, m203, hc204, hs205, h⟩ := h
                    refine G_callSWi C hZ tw_2_35 tw_2_36 tw_1_0 tw_2_37 hy_L_act ⟨Nat.le_of_ble_eq_true rfl, Nat.le_of_ble_eq_true rfl⟩ (As := [va_rf x0, Value.int 5, Value.int ((x4 / 7) - (x4 / 7) / (gA S a160 ((2 : Int32).toNatClampNeg)) * (gA S a160 ((2 : Int32).toNatClampNeg))), Value.int 0, Value.int 0, Value.int 0, Value.int 0]) (rest := []) (c_L_act l hl D cy e0 m0 he hm x0 5 ((x4 / 7) - (x4 / 7) / (gA S a160 ((2 : Int32).toNatClampNeg)) * (gA S a160 ((2 : Int32).toNatClampNeg))) 0 0 0 0 S194 m202 m203 _ h) rfl rfl (by simp [va_cat, vi_cat, vl_cat]) dL_isLaid_454 ⟨hc204, hs205⟩ (fun r201 S200 h => ?_)
                    refine G_if_ne C (tgt := 464) dL_isLaid_457 (by decide) (fun hc => ?_) (fun hc => ?_)
                    · have h := h.1 hc
                      refine G_lv C (lv' := []) [] rfl ?_
                      exact J464 _ _ _ h
                    · have h := h.2 hc
                      refine G_iconst C (v := 1) dL_isLaid_460 (by decide) ?_
                      refine G_goto C (tgt := 465) dL_isLaid_461 (by decide) ?_
                      refine G_lv C (lv' := []) [] rfl ?_
                      exact J465 _ _ _ _ h
      · have h := h.2 hc
        refine G_aload_n C (x := x1) 4 dL_isLaid_197 rfl rfl ?_
        refine G_iconst C (v := 2) dL_isLaid_198 (by decide) ?_
        refine G_rf1 ha161 ?_
        obtain ⟨hi206, h⟩ := h
        refine G_iald C hk162 hi206 dL_isLaid_199 ?_
        refine G_bipush C (v := 30) dL_isLaid_200 (by decide) ?_
        refine G_icmp_ne C (tgt := 228) dL_isLaid_202 (by decide) (fun hc => ?_) (fun hc => ?_)
        · have h := h.1 hc
          refine G_aload_n C (x := x1) 4 dL_isLaid_228 rfl rfl ?_
          refine G_iconst C (v := 2) dL_isLaid_229 (by decide) ?_
          refine G_dup2 C dL_isLaid_230 rfl (va_cat _) ?_
          refine G_rf1 ha161 ?_
          obtain ⟨hi207, h⟩ := h
          refine G_iald C hk162 hi207 dL_isLaid_231 ?_
          refine G_iconst C (v := 1) dL_isLaid_232 (by decide) ?_
          refine G_iadd C dL_isLaid_233 ?_
          refine G_rf2 ha161 ?_
          obtain ⟨hi208, h⟩ := h
          refine G_iast C hk162 hi208 dL_isLaid_234 ?_
          generalize e210 : sA S a160 ((2 : Int32).toNatClampNeg) ((gA S a160 ((2 : Int32).toNatClampNeg)) + 1) = S209
          have h := h S209 e210.symm
          refine G_aload_n C (x := x0) 3 dL_isLaid_235 rfl rfl ?_
          refine G_iconst C (v := 3) dL_isLaid_236 (by decide) ?_
          refine G_iload C (x := x4) 7 dL_isLaid_237 rfl ?_
          refine G_iconst C (v := 5) dL_isLaid_239 (by decide) ?_
          refine G_irem C dL_isLaid_240 (by decide) ?_
          refine G_iload C (x := (x4 - x4 / (gA S a160 ((1 : Int32).toNatClampNeg)) * (gA S a160 ((1 : Int32).toNatClampNeg)))) 2 dL_isLaid_241 rfl ?_
          refine G_iload C (x := ((x4 / 6) - (x4 / 6) / (gA S a166 (((x4 - x4 / (gA S a160 ((1 : Int32).toNatClampNeg)) * (gA S a160 ((1 : Int32).toNatClampNeg)))).toNatClampNeg)) * (gA S a166 (((x4 - x4 / (gA S a160 ((1 : Int32).toNatClampNeg)) * (gA S a160 ((1 : Int32).toNatClampNeg)))).toNatClampNeg)))) 1 dL_isLaid_243 rfl ?_
          refine G_iload C (x := (((x4 / 6) - (x4 / 6) / (gA S a166 (((x4 - x4 / (gA S a160 ((1 : Int32).toNatClampNeg)) * (gA S a160 ((1 : Int32).toNatClampNeg)))).toNatClampNeg)) * (gA S a166 (((x4 - x4 / (gA S a160 ((1 : Int32).toNatClampNeg)) * (gA S a160 ((1 : Int32).toNatClampNeg)))).toNatClampNeg))) + ((x4 / 84) - (x4 / 84) / ((gA S a166 (((x4 - x4 / (gA S a160 ((1 : Int32).toNatClampNeg)) * (gA S a160 ((1 : Int32).toNatClampNeg)))).toNatClampNeg)) - ((x4 / 6) - (x4 / 6) / (gA S a166 (((x4 - x4 / (gA S a160 ((1 : Int32).toNatClampNeg)) * (gA S a160 ((1 : Int32).toNatClampNeg)))).toNatClampNeg)) * (gA S a166 (((x4 - x4 / (gA S a160 ((1 : Int32).toNatClampNeg)) * (gA S a160 ((1 : Int32).toNatClampNeg)))).toNatClampNeg)))) * ((gA S a166 (((x4 - x4 / (gA S a160 ((1 : Int32).toNatClampNeg)) * (gA S a160 ((1 : Int32).toNatClampNeg)))).toNatClampNeg)) - ((x4 / 6) - (x4 / 6) / (gA S a166 (((x4 - x4 / (gA S a160 ((1 : Int32).toNatClampNeg)) * (gA S a160 ((1 : Int32).toNatClampNeg)))).toNatClampNeg)) * (gA S a166 (((x4 - x4 / (gA S a160 ((1 : Int32).toNatClampNeg)) * (gA S a160 ((1 : Int32).toNatClampNeg)))).toNatClampNeg))))))) 0 dL_isLaid_245 rfl ?_
          refine G_bipush C (v := 10) dL_isLaid_247 (by decide) ?_
          refine G_iload C (x := x4) 7 dL_isLaid_249 rfl ?_
          refine G_bipush C (v := 7) dL_isLaid_251 (by decide) ?_
          refine G_idiv C dL_isLaid_253 (by decide) ?_
          refine G_sipush C (v := 250) dL_isLaid_254 (by decide) ?_
          refine G_irem C dL_isLaid_257 (by decide) ?_
          refine G_iadd C dL_isLaid_258 ?_
          obtain ⟨m213, m214, hc215, hs216, h⟩ := h
          refine G_callSWi C hZ tw_2_35 tw_2_36 tw_1_0 tw_2_37 hy_L_act ⟨Nat.le_of_ble_eq_true rfl, Nat.le_of_ble_eq_true rfl⟩ (As := [va_rf x0, Value.int 3, Value.int (x4 - x4 / 5 * 5), Value.int (x4 - x4 / (gA S a160 ((1 : Int32).toNatClampNeg)) * (gA S a160 ((1 : Int32).toNatClampNeg))), Value.int ((x4 / 6) - (x4 / 6) / (gA S a166 (((x4 - x4 / (gA S a160 ((1 : Int32).toNatClampNeg)) * (gA S a160 ((1 : Int32).toNatClampNeg)))).toNatClampNeg)) * (gA S a166 (((x4 - x4 / (gA S a160 ((1 : Int32).toNatClampNeg)) * (gA S a160 ((1 : Int32).toNatClampNeg)))).toNatClampNeg))), Value.int (((x4 / 6) - (x4 / 6) / (gA S a166 (((x4 - x4 / (gA S a160 ((1 : Int32).toNatClampNeg)) * (gA S a160 ((1 : Int32).toNatClampNeg)))).toNatClampNeg)) * (gA S a166 (((x4 - x4 / (gA S a160 ((1 : Int32).toNatClampNeg)) * (gA S a160 ((1 : Int32).toNatClampNeg)))).toNatClampNeg))) + ((x4 / 84) - (x4 / 84) / ((gA S a166 (((x4 - x4 / (gA S a160 ((1 : Int32).toNatClampNeg)) * (gA S a160 ((1 : Int32).toNatClampNeg)))).toNatClampNeg)) - ((x4 / 6) - (x4 / 6) / (gA S a166 (((x4 - x4 / (gA S a160 ((1 : Int32).toNatClampNeg)) * (gA S a160 ((1 : Int32).toNatClampNeg)))).toNatClampNeg)) * (gA S a166 (((x4 - x4 / (gA S a160 ((1 : Int32).toNatClampNeg)) * (gA S a160 ((1 : Int32).toNatClampNeg)))).toNatClampNeg)))) * ((gA S a166 (((x4 - x4 / (gA S a160 ((1 : Int32).toNatClampNeg)) * (gA S a160 ((1 : Int32).toNatClampNeg)))).toNatClampNeg)) - ((x4 / 6) - (x4 / 6) / (gA S a166 (((x4 - x4 / (gA S a160 ((1 : Int32).toNatClampNeg)) * (gA S a160 ((1 : Int32).toNatClampNeg)))).toNatClampNeg)) * (gA S a166 (((x4 - x4 / (gA S a160 ((1 : Int32).toNatClampNeg)) * (gA S a160 ((1 : Int32).toNatClampNeg)))).toNatClampNeg)))))), Value.int (10 + ((x4 / 7) - (x4 / 7) / 250 * 250))]) (rest := []) (c_L_act l hl D cy e0 m0 he hm x0 3 (x4 - x4 / 5 * 5) (x4 - x4 / (gA S a160 ((1 : Int32).toNatClampNeg)) * (gA S a160 ((1 : Int32).toNatClampNeg))) ((x4 / 6) - (x4 / 6) / (gA S a166 (((x4 - x4 / (gA S a160 ((1 : Int32).toNatClampNeg)) * (gA S a160 ((1 : Int32).toNatClampNeg)))).toNatClampNeg)) * (gA S a166 (((x4 - x4 / (gA S a160 ((1 : Int32).toNatClampNeg)) * (gA S a160 ((1 : Int32).toNatClampNeg)))).toNatClampNeg))) (((x4 / 6) - (x4 / 6) / (gA S a166 (((x4 - x4 / (gA S a160 ((1 : Int32).toNatClampNeg)) * (gA S a160 ((1 : Int32).toNatClampNeg)))).toNatClampNeg)) * (gA S a166 (((x4 - x4 / (gA S a160 ((1 : Int32).toNatClampNeg)) * (gA S a160 ((1 : Int32).toNatClampNeg)))).toNatClampNeg))) + ((x4 / 84) - (x4 / 84) / ((gA S a166 (((x4 - x4 / (gA S a160 ((1 : Int32).toNatClampNeg)) * (gA S a160 ((1 : Int32).toNatClampNeg)))).toNatClampNeg)) - ((x4 / 6) - (x4 / 6) / (gA S a166 (((x4 - x4 / (gA S a160 ((1 : Int32).toNatClampNeg)) * (gA S a160 ((1 : Int32).toNatClampNeg)))).toNatClampNeg)) * (gA S a166 (((x4 - x4 / (gA S a160 ((1 : Int32).toNatClampNeg)) * (gA S a160 ((1 : Int32).toNatClampNeg)))).toNatClampNeg)))) * ((gA S a166 (((x4 - x4 / (gA S a160 ((1 : Int32).toNatClampNeg)) * (gA S a160 ((1 : Int32).toNatClampNeg)))).toNatClampNeg)) - ((x4 / 6) - (x4 / 6) / (gA S a166 (((x4 - x4 / (gA S a160 ((1 : Int32).toNatClampNeg)) * (gA S a160 ((1 : Int32).toNatClampNeg)))).toNatClampNeg)) * (gA S a166 (((x4 - x4 / (gA S a160 ((1 : Int32).toNatClampNeg)) * (gA S a160 ((1 : Int32).toNatClampNeg)))).toNatClampNeg)))))) (10 + ((x4 / 7) - (x4 / 7) / 250 * 250)) S209 m213 m214 _ h) rfl rfl (by simp [va_cat, vi_cat, vl_cat]) dL_isLaid_259 ⟨hc215, hs216⟩ (fun r212 S211 h => ?_)
          refine G_aload_n C (x := x1) 4 dL_isLaid_262 rfl rfl ?_
          refine G_iconst C (v := 2) dL_isLaid_263 (by decide) ?_
          refine G_rf1 ha161 ?_
          obtain ⟨hk217, h⟩ := h
          obtain ⟨hi218, h⟩ := h
          refine G_iald C hk217 hi218 dL_isLaid_264 ?_
          refine G_iconst C (v := 1) dL_isLaid_265 (by decide) ?_
          refine G_isub C dL_isLaid_266 ?_
          refine G_icmp_ne C (tgt := 274) dL_isLaid_267 (by decide) (fun hc => ?_) (fun hc => ?_)
          · have h := h.1 hc
            refine G_iconst C (v := 0) dL_isLaid_274 (by decide) ?_
            refine G_lv C (lv' := [(0, va_rf x0), (1, va_rf x1), (5, Value.int (x4 - x4 / (gA S a160 ((1 : Int32).toNatClampNeg)) * (gA S a160 ((1 : Int32).toNatClampNeg)))), (6, Value.int ((x4 / 6) - (x4 / 6) / (gA S a166 (((x4 - x4 / (gA S a160 ((1 : Int32).toNatClampNeg)) * (gA S a160 ((1 : Int32).toNatClampNeg)))).toNatClampNeg)) * (gA S a166 (((x4 - x4 / (gA S a160 ((1 : Int32).toNatClampNeg)) * (gA S a160 ((1 : Int32).toNatClampNeg)))).toNatClampNeg)))), (7, Value.int (((x4 / 6) - (x4 / 6) / (gA S a166 (((x4 - x4 / (gA S a160 ((1 : Int32).toNatClampNeg)) * (gA S a160 ((1 : Int32).toNatClampNeg)))).toNatClampNeg)) * (gA S a166 (((x4 - x4 / (gA S a160 ((1 : Int32).toNatClampNeg)) * (gA S a160 ((1 : Int32).toNatClampNeg)))).toNatClampNeg))) + ((x4 / 84) - (x4 / 84) / ((gA S a166 (((x4 - x4 / (gA S a160 ((1 : Int32).toNatClampNeg)) * (gA S a160 ((1 : Int32).toNatClampNeg)))).toNatClampNeg)) - ((x4 / 6) - (x4 / 6) / (gA S a166 (((x4 - x4 / (gA S a160 ((1 : Int32).toNatClampNeg)) * (gA S a160 ((1 : Int32).toNatClampNeg)))).toNatClampNeg)) * (gA S a166 (((x4 - x4 / (gA S a160 ((1 : Int32).toNatClampNeg)) * (gA S a160 ((1 : Int32).toNatClampNeg)))).toNatClampNeg)))) * ((gA S a166 (((x4 - x4 / (gA S a160 ((1 : Int32).toNatClampNeg)) * (gA S a160 ((1 : Int32).toNatClampNeg)))).toNatClampNeg)) - ((x4 / 6) - (x4 / 6) / (gA S a166 (((x4 - x4 / (gA S a160 ((1 : Int32).toNatClampNeg)) * (gA S a160 ((1 : Int32).toNatClampNeg)))).toNatClampNeg)) * (gA S a166 (((x4 - x4 / (gA S a160 ((1 : Int32).toNatClampNeg)) * (gA S a160 ((1 : Int32).toNatClampNeg)))).toNatClampNeg)))))))]) [3, 4, 2, 1, 0] rfl ?_
            exact J275 _ _ _ _ _ _ _ h
          · have h := h.2 hc
            refine G_iconst C (v := 1) dL_isLaid_270 (by decide) ?_
            refine G_goto C (tgt := 275) dL_isLaid_271 (by decide) ?_
            refine G_lv C (lv' := [(0, va_rf x0), (1, va_rf x1), (5, Value.int (x4 - x4 / (gA S a160 ((1 : Int32).toNatClampNeg)) * (gA S a160 ((1 : Int32).toNatClampNeg)))), (6, Value.int ((x4 / 6) - (x4 / 6) / (gA S a166 (((x4 - x4 / (gA S a160 ((1 : Int32).toNatClampNeg)) * (gA S a160 ((1 : Int32).toNatClampNeg)))).toNatClampNeg)) * (gA S a166 (((x4 - x4 / (gA S a160 ((1 : Int32).toNatClampNeg)) * (gA S a160 ((1 : Int32).toNatClampNeg)))).toNatClampNeg)))), (7, Value.int (((x4 / 6) - (x4 / 6) / (gA S a166 (((x4 - x4 / (gA S a160 ((1 : Int32).toNatClampNeg)) * (gA S a160 ((1 : Int32).toNatClampNeg)))).toNatClampNeg)) * (gA S a166 (((x4 - x4 / (gA S a160 ((1 : Int32).toNatClampNeg)) * (gA S a160 ((1 : Int32).toNatClampNeg)))).toNatClampNeg))) + ((x4 / 84) - (x4 / 84) / ((gA S a166 (((x4 - x4 / (gA S a160 ((1 : Int32).toNatClampNeg)) * (gA S a160 ((1 : Int32).toNatClampNeg)))).toNatClampNeg)) - ((x4 / 6) - (x4 / 6) / (gA S a166 (((x4 - x4 / (gA S a160 ((1 : Int32).toNatClampNeg)) * (gA S a160 ((1 : Int32).toNatClampNeg)))).toNatClampNeg)) * (gA S a166 (((x4 - x4 / (gA S a160 ((1 : Int32).toNatClampNeg)) * (gA S a160 ((1 : Int32).toNatClampNeg)))).toNatClampNeg)))) * ((gA S a166 (((x4 - x4 / (gA S a160 ((1 : Int32).toNatClampNeg)) * (gA S a160 ((1 : Int32).toNatClampNeg)))).toNatClampNeg)) - ((x4 / 6) - (x4 / 6) / (gA S a166 (((x4 - x4 / (gA S a160 ((1 : Int32).toNatClampNeg)) * (gA S a160 ((1 : Int32).toNatClampNeg)))).toNatClampNeg)) * (gA S a166 (((x4 - x4 / (gA S a160 ((1 : Int32).toNatClampNeg)) * (gA S a160 ((1 : Int32).toNatClampNeg)))).toNatClampNeg)))))))]) [3, 4, 2, 1, 0] rfl ?_
            exact J275 _ _ _ _ _ _ _ h
        · have h := h.2 hc
          refine G_aload_n C (x := x0) 3 dL_isLaid_205 rfl rfl ?_
          refine G_iconst C (v := 3) dL_isLaid_206 (by decide) ?_
          refine G_iconst C (v := 0) dL_isLaid_207 (by decide) ?_
          refine G_iload C (x := (x4 - x4 / (gA S a160 ((1 : Int32).toNatClampNeg)) * (gA S a160 ((1 : Int32).toNatClampNeg)))) 2 dL_isLaid_208 rfl ?_
          refine G_iconst C (v := 0) dL_isLaid_210 (by decide) ?_
          refine G_iconst C (v := 0) dL_isLaid_211 (by decide) ?_
          refine G_bipush C (v := 50) dL_isLaid_212 (by decide) ?_
          obtain ⟨m221, m222, hc223, hs224, h⟩ := h
          refine G_callSWi C hZ tw_2_35 tw_2_36 tw_1_0 tw_2_37 hy_L_act ⟨Nat.le_of_ble_eq_true rfl, Nat.le_of_ble_eq_true rfl⟩ (As := [va_rf x0, Value.int 3, Value.int 0, Value.int (x4 - x4 / (gA S a160 ((1 : Int32).toNatClampNeg)) * (gA S a160 ((1 : Int32).toNatClampNeg))), Value.int 0, Value.int 0, Value.int 50]) (rest := []) (c_L_act l hl D cy e0 m0 he hm x0 3 0 (x4 - x4 / (gA S a160 ((1 : Int32).toNatClampNeg)) * (gA S a160 ((1 : Int32).toNatClampNeg))) 0 0 50 S m221 m222 _ h) rfl rfl (by simp [va_cat, vi_cat, vl_cat]) dL_isLaid_214 ⟨hc223, hs224⟩ (fun r220 S219 h => ?_)
          refine G_ldc C (v := (-1713000)) (im tw_4_176) dL_isLaid_217 ?_
          refine G_icmp_ne C (tgt := 226) dL_isLaid_219 (by decide) (fun hc => ?_) (fun hc => ?_)
          · have h := h.1 hc
            refine G_iconst C (v := 0) dL_isLaid_226 (by decide) ?_
            refine G_lv C (lv' := []) [] rfl ?_
            exact J227 _ _ _ _ h
          · have h := h.2 hc
            refine G_iconst C (v := 1) dL_isLaid_222 (by decide) ?_
            refine G_goto C (tgt := 227) dL_isLaid_223 (by decide) ?_
            refine G_lv C (lv' := []) [] rfl ?_
            exact J227 _ _ _ _ h
    · have h := h.2 hc
      refine G_lv C (lv' := [(0, va_rf x0), (1, va_rf x1), (2, va_rf x2), (4, Value.int x4)]) [0, 1, 2, 4] rfl ?_
      exact J10 _ _ _ h
