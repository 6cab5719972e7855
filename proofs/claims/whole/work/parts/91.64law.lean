theorem lw_cmp0 {x y : Int64} (h : x = y) : lg_cmp x y = 0 := by subst h; simp [lg_cmp]
set_option maxHeartbeats 4000000 in
set_option maxRecDepth 100000 in
theorem k_op_0 {p : Program} {l : Launch} {e : Env} {s : State} {m9 : MethodId} {below : List Frame} {meth : Method} {c : Code} {D : va_G} {cy : Nat → Nat} {A : Nat → Prop} {b L : Nat} {xs : Nat → Int32} (hl : l.stackTraces = false) (C : Cx p s m9 #[va_rf (some b)] meth c cL_law 8 lw_tbl "TrenchboardLaw" D cy A s.heap) (hZ : ZZ cy A s s.heap) (hX : va_X b L xs s s.heap) (hbl : b < s.heap.size) (hbA : ¬ A b) (hAs : A = fun q => s.heap.size ≤ q) (hr : meth.sig.returnType = ret) (e0 m0 x m o : Nat) (he : e0 = cy 9) (hm : m0 = cy 10) (v : Int32) (h1 : vp_in (v + 1) L) (h2 : vp_in (v + 2) L) (h3 : vp_in (v + 3) L) (h4 : vp_in (v + 4) L) (SC SM : PT) (c1 s1 : Nat) (K : PT → PT → Nat → Nat → Prop) (kk : ∀ (SC SM : PT) (c1 s1 : Nat), K SC SM c1 s1 → GL p l e room_1 s m9 #[va_rf (some b)] below meth c D cy A s.heap 8 (lw_Z below #[Value.ref b] s) SC SM c1 s1 2596 [(0, va_rf (some b)), (1, va_rf (some x)), (2, va_rf (some m)), (3, va_rf (some o)), (4, Value.int v)] []) (h : w_op_0 e0 m0 x m o (xs (v + 1).toNatClampNeg) (xs (v + 2).toNatClampNeg) (xs (v + 3).toNatClampNeg) (xs (v + 4).toNatClampNeg) SC SM c1 s1 K) : GL p l e room_1 s m9 #[va_rf (some b)] below meth c D cy A s.heap 8 (lw_Z below #[Value.ref b] s) SC SM c1 s1 192 [(0, va_rf (some b)), (1, va_rf (some x)), (2, va_rf (some m)), (3, va_rf (some o)), (4, Value.int v)] [] := by
  obtain ⟨m1, m2, hc1, hs1, h⟩ := h
  replace hc1 := Nat.le_trans hc1 rC
  replace hs1 := Nat.le_trans hs1 rS
  refine GL_aload_n C (x := (some x)) 1 dL_law_192 rfl rfl ?_
  refine GL_aload_n C (x := (some b)) 0 dL_law_193 rfl rfl ?_
  refine GL_iload C (x := v) 4 dL_law_194 rfl ?_
  refine GL_iconst C (v := 1) dL_law_196 (by decide) ?_
  refine GL_iadd C dL_law_197 ?_
  refine GL_sld C hX hbl hbA h1 dL_law_198 ?_
  refine GL_aload_n C (x := (some b)) 0 dL_law_199 rfl rfl ?_
  refine GL_iload C (x := v) 4 dL_law_200 rfl ?_
  refine GL_iconst C (v := 2) dL_law_202 (by decide) ?_
  refine GL_iadd C dL_law_203 ?_
  refine GL_sld C hX hbl hbA h2 dL_law_204 ?_
  refine GL_aload_n C (x := (some b)) 0 dL_law_205 rfl rfl ?_
  refine GL_iload C (x := v) 4 dL_law_206 rfl ?_
  refine GL_iconst C (v := 3) dL_law_208 (by decide) ?_
  refine GL_iadd C dL_law_209 ?_
  refine GL_sld C hX hbl hbA h3 dL_law_210 ?_
  refine GL_aload_n C (x := (some b)) 0 dL_law_211 rfl rfl ?_
  refine GL_iload C (x := v) 4 dL_law_212 rfl ?_
  refine GL_iconst C (v := 4) dL_law_214 (by decide) ?_
  refine GL_iadd C dL_law_215 ?_
  refine GL_sld C hX hbl hbA h4 dL_law_216 ?_
  refine GL_aload_n C (x := (some o)) 3 dL_law_217 rfl rfl ?_
  refine GL_callW C hZ tw_1_131 tw_1_132 tw_1_0 tw_1_133 hy_L_street ⟨Nat.le_of_ble_eq_true rfl, Nat.le_of_ble_eq_true rfl⟩ (As := [va_rf (some x), Value.int (xs (v + 1).toNatClampNeg), Value.int (xs (v + 2).toNatClampNeg), Value.int (xs (v + 3).toNatClampNeg), Value.int (xs (v + 4).toNatClampNeg), va_rf (some o)]) (rest := []) (c_L_street l hl D cy (some x) (xs (v + 1).toNatClampNeg) (xs (v + 2).toNatClampNeg) (xs (v + 3).toNatClampNeg) (xs (v + 4).toNatClampNeg) (some o) SC m1 m2 _ h) rfl rfl (Nat.zero_le _) dL_law_218 ⟨hc1, hs1⟩ (fun k5 SC1 h => ?_)
  obtain ⟨hk1, h⟩ := h
  refine GL_istore C (i := 5) (lv' := [(5, Value.int k5), (0, va_rf (some b)), (1, va_rf (some x)), (2, va_rf (some m)), (3, va_rf (some o)), (4, Value.int v)]) dL_law_221 (by decide) (by first | rfl | simp [va_cat, vi_cat, vl_cat]) ?_
  refine GL_aload_n C (x := (some m)) 3 dL_law_223 rfl rfl ?_
  refine GL_aload_n C (x := (some b)) 1 dL_law_224 rfl rfl ?_
  refine GL_iload C (x := v) 5 dL_law_225 rfl ?_
  refine GL_iconst C (v := 1) dL_law_227 (by decide) ?_
  refine GL_iadd C dL_law_228 ?_
  refine GL_sld C hX hbl hbA h1 dL_law_229 ?_
  refine GL_aload_n C (x := (some b)) 1 dL_law_230 rfl rfl ?_
  refine GL_iload C (x := v) 5 dL_law_231 rfl ?_
  refine GL_iconst C (v := 2) dL_law_233 (by decide) ?_
  refine GL_iadd C dL_law_234 ?_
  refine GL_sld C hX hbl hbA h2 dL_law_235 ?_
  refine GL_aload_n C (x := (some b)) 1 dL_law_236 rfl rfl ?_
  refine GL_iload C (x := v) 5 dL_law_237 rfl ?_
  refine GL_iconst C (v := 3) dL_law_239 (by decide) ?_
  refine GL_iadd C dL_law_240 ?_
  refine GL_sld C hX hbl hbA h3 dL_law_241 ?_
  refine GL_aload_n C (x := (some b)) 1 dL_law_242 rfl rfl ?_
  refine GL_iload C (x := v) 5 dL_law_243 rfl ?_
  refine GL_iconst C (v := 4) dL_law_245 (by decide) ?_
  refine GL_iadd C dL_law_246 ?_
  refine GL_sld C hX hbl hbA h4 dL_law_247 ?_
  refine GL_callMi C hZ (Tf := TX9) (N := 50) hk1 (by decide) rfl tw_6_45 tw_6_46 tw_6_47 tw_1_7 tw_6_48 hy_X9_street ⟨Nat.le_of_ble_eq_true rfl, Nat.le_of_ble_eq_true rfl⟩ (As := [Value.int (xs (v + 1).toNatClampNeg), Value.int (xs (v + 2).toNatClampNeg), Value.int (xs (v + 3).toNatClampNeg), Value.int (xs (v + 4).toNatClampNeg)]) (rest := []) (c_X9_street l D cy m (xs (v + 1).toNatClampNeg) (xs (v + 2).toNatClampNeg) (xs (v + 3).toNatClampNeg) (xs (v + 4).toNatClampNeg) SM _ h) rfl rfl (by simp [va_cat, vi_cat, vl_cat]) dL_law_248 ⟨hc1, hs1⟩ (fun b5 SM1 h => ?_)
  obtain ⟨hk2, h⟩ := h
  refine GL_istore C (i := 6) (lv' := [(6, Value.int b5), (5, Value.int k5), (0, va_rf (some b)), (1, va_rf (some x)), (2, va_rf (some m)), (3, va_rf (some o)), (4, Value.int v)]) dL_law_251 (by decide) (by first | rfl | simp [va_cat, vi_cat, vl_cat]) ?_
  refine GL_aload_n C (x := (some m)) 4 dL_law_253 rfl rfl ?_
  refine GL_callMi C hZ (Tf := TX9) (N := 50) hk2 (by decide) rfl tw_6_41 tw_6_42 tw_6_43 tw_1_7 tw_6_44 hy_X9_thrown ⟨Nat.le_of_ble_eq_true rfl, Nat.le_of_ble_eq_true rfl⟩ (As := []) (rest := []) (c_X9_thrown l D cy m  SM1 _ h) rfl rfl (by simp [va_cat, vi_cat, vl_cat]) dL_law_254 ⟨hc1, hs1⟩ (fun t5 SM2 h => ?_)
  obtain ⟨ht, hout, h⟩ := h
  refine GL_iload C (x := k5) 1 dL_law_257 rfl ?_
  refine GL_icmp_eq C (tgt := 264) dL_law_259 (by decide) (fun _ => ?_) (fun hc => absurd ht hc)
  refine GL_iload C (x := k5) 1 dL_law_264 rfl ?_
  refine GL_if_ne C (tgt := 281) dL_law_266 (by decide) (fun _ => ?_) (fun hk0 => ?_)
  · refine GL_goto C (tgt := 2596) dL_law_281 (by decide) ?_
    refine GL_lv C (lv' := [(0, va_rf (some b)), (1, va_rf (some x)), (2, va_rf (some m)), (3, va_rf (some o)), (4, Value.int v)]) [2, 3, 4, 5, 6] rfl ?_
    exact kk _ _ _ _ h
  · obtain ⟨ho, hin, heq⟩ := hout hk0
    refine GL_aload_n C (x := (some o)) 5 dL_law_269 rfl rfl ?_
    refine GL_iconst C (v := 0) dL_law_270 (by decide) ?_
    refine GL_lald C ho hin dL_law_271 ?_
    refine GL_iload C (x := b5) 0 dL_law_272 rfl ?_
    refine GL_i2l C dL_law_274 ?_
    refine GL_lcmp C dL_law_275 ?_
    refine GL_if_eq C (tgt := 281) dL_law_276 (by decide) (fun _ => ?_) (fun hc => absurd (lw_cmp0 heq) hc)
    refine GL_goto C (tgt := 2596) dL_law_281 (by decide) ?_
    refine GL_lv C (lv' := [(0, va_rf (some b)), (1, va_rf (some x)), (2, va_rf (some m)), (3, va_rf (some o)), (4, Value.int v)]) [2, 3, 4, 5, 6] rfl ?_
    exact kk _ _ _ _ h
set_option maxHeartbeats 4000000 in
set_option maxRecDepth 100000 in
theorem k_op_1 {p : Program} {l : Launch} {e : Env} {s : State} {m9 : MethodId} {below : List Frame} {meth : Method} {c : Code} {D : va_G} {cy : Nat → Nat} {A : Nat → Prop} {b L : Nat} {xs : Nat → Int32} (hl : l.stackTraces = false) (C : Cx p s m9 #[va_rf (some b)] meth c cL_law 8 lw_tbl "TrenchboardLaw" D cy A s.heap) (hZ : ZZ cy A s s.heap) (hX : va_X b L xs s s.heap) (hbl : b < s.heap.size) (hbA : ¬ A b) (hAs : A = fun q => s.heap.size ≤ q) (hr : meth.sig.returnType = ret) (e0 m0 x m o : Nat) (he : e0 = cy 9) (hm : m0 = cy 10) (v : Int32) (h1 : vp_in (v + 1) L) (SC SM : PT) (c1 s1 : Nat) (K : PT → PT → Nat → Nat → Prop) (kk : ∀ (SC SM : PT) (c1 s1 : Nat), K SC SM c1 s1 → GL p l e room_1 s m9 #[va_rf (some b)] below meth c D cy A s.heap 8 (lw_Z below #[Value.ref b] s) SC SM c1 s1 2596 [(0, va_rf (some b)), (1, va_rf (some x)), (2, va_rf (some m)), (3, va_rf (some o)), (4, Value.int v)] []) (h : w_op_1 e0 m0 x m o (xs (v + 1).toNatClampNeg) SC SM c1 s1 K) : GL p l e room_1 s m9 #[va_rf (some b)] below meth c D cy A s.heap 8 (lw_Z below #[Value.ref b] s) SC SM c1 s1 284 [(0, va_rf (some b)), (1, va_rf (some x)), (2, va_rf (some m)), (3, va_rf (some o)), (4, Value.int v)] [] := by
  obtain ⟨m1, m2, hc1, hs1, h⟩ := h
  replace hc1 := Nat.le_trans hc1 rC
  replace hs1 := Nat.le_trans hs1 rS
  refine GL_aload_n C (x := (some x)) 1 dL_law_284 rfl rfl ?_
  refine GL_aload_n C (x := (some b)) 0 dL_law_285 rfl rfl ?_
  refine GL_iload C (x := v) 4 dL_law_286 rfl ?_
  refine GL_iconst C (v := 1) dL_law_288 (by decide) ?_
  refine GL_iadd C dL_law_289 ?_
  refine GL_sld C hX hbl hbA h1 dL_law_290 ?_
  refine GL_aload_n C (x := (some o)) 3 dL_law_291 rfl rfl ?_
  refine GL_callW C hZ tw_2_82 tw_2_83 tw_1_0 tw_2_84 hy_L_surface ⟨Nat.le_of_ble_eq_true rfl, Nat.le_of_ble_eq_true rfl⟩ (As := [va_rf (some x), Value.int (xs (v + 1).toNatClampNeg), va_rf (some o)]) (rest := []) (c_L_surface l hl D cy e0 m0 he hm (some x) (xs (v + 1).toNatClampNeg) (some o) SC m1 m2 _ h) rfl rfl (Nat.zero_le _) dL_law_292 ⟨hc1, hs1⟩ (fun k5 SC1 h => ?_)
  obtain ⟨hk1, h⟩ := h
  refine GL_istore C (i := 5) (lv' := [(5, Value.int k5), (0, va_rf (some b)), (1, va_rf (some x)), (2, va_rf (some m)), (3, va_rf (some o)), (4, Value.int v)]) dL_law_295 (by decide) (by first | rfl | simp [va_cat, vi_cat, vl_cat]) ?_
  refine GL_aload_n C (x := (some m)) 3 dL_law_297 rfl rfl ?_
  refine GL_aload_n C (x := (some b)) 1 dL_law_298 rfl rfl ?_
  refine GL_iload C (x := v) 5 dL_law_299 rfl ?_
  refine GL_iconst C (v := 1) dL_law_301 (by decide) ?_
  refine GL_iadd C dL_law_302 ?_
  refine GL_sld C hX hbl hbA h1 dL_law_303 ?_
  refine GL_callMi C hZ (Tf := TX9) (N := 50) hk1 (by decide) rfl tw_6_60 tw_6_61 tw_6_62 tw_1_7 tw_6_63 hy_X9_surface ⟨Nat.le_of_ble_eq_true rfl, Nat.le_of_ble_eq_true rfl⟩ (As := [Value.int (xs (v + 1).toNatClampNeg)]) (rest := []) (c_X9_surface l D cy m (xs (v + 1).toNatClampNeg) SM _ h) rfl rfl (by simp [va_cat, vi_cat, vl_cat]) dL_law_304 ⟨hc1, hs1⟩ (fun b5 SM1 h => ?_)
  obtain ⟨hk2, h⟩ := h
  refine GL_istore C (i := 6) (lv' := [(6, Value.int b5), (5, Value.int k5), (0, va_rf (some b)), (1, va_rf (some x)), (2, va_rf (some m)), (3, va_rf (some o)), (4, Value.int v)]) dL_law_307 (by decide) (by first | rfl | simp [va_cat, vi_cat, vl_cat]) ?_
  refine GL_aload_n C (x := (some m)) 4 dL_law_309 rfl rfl ?_
  refine GL_callMi C hZ (Tf := TX9) (N := 50) hk2 (by decide) rfl tw_6_41 tw_6_42 tw_6_43 tw_1_7 tw_6_44 hy_X9_thrown ⟨Nat.le_of_ble_eq_true rfl, Nat.le_of_ble_eq_true rfl⟩ (As := []) (rest := []) (c_X9_thrown l D cy m  SM1 _ h) rfl rfl (by simp [va_cat, vi_cat, vl_cat]) dL_law_310 ⟨hc1, hs1⟩ (fun t5 SM2 h => ?_)
  obtain ⟨ht, hout, h⟩ := h
  refine GL_iload C (x := k5) 1 dL_law_313 rfl ?_
  refine GL_icmp_eq C (tgt := 320) dL_law_315 (by decide) (fun _ => ?_) (fun hc => absurd ht hc)
  refine GL_iload C (x := k5) 1 dL_law_320 rfl ?_
  refine GL_if_ne C (tgt := 337) dL_law_322 (by decide) (fun _ => ?_) (fun hk0 => ?_)
  · refine GL_goto C (tgt := 2596) dL_law_337 (by decide) ?_
    refine GL_lv C (lv' := [(0, va_rf (some b)), (1, va_rf (some x)), (2, va_rf (some m)), (3, va_rf (some o)), (4, Value.int v)]) [2, 3, 4, 5, 6] rfl ?_
    exact kk _ _ _ _ h
  · obtain ⟨ho, hin, heq⟩ := hout hk0
    refine GL_aload_n C (x := (some o)) 5 dL_law_325 rfl rfl ?_
    refine GL_iconst C (v := 0) dL_law_326 (by decide) ?_
    refine GL_lald C ho hin dL_law_327 ?_
    refine GL_iload C (x := b5) 0 dL_law_328 rfl ?_
    refine GL_i2l C dL_law_330 ?_
    refine GL_lcmp C dL_law_331 ?_
    refine GL_if_eq C (tgt := 337) dL_law_332 (by decide) (fun _ => ?_) (fun hc => absurd (lw_cmp0 heq) hc)
    refine GL_goto C (tgt := 2596) dL_law_337 (by decide) ?_
    refine GL_lv C (lv' := [(0, va_rf (some b)), (1, va_rf (some x)), (2, va_rf (some m)), (3, va_rf (some o)), (4, Value.int v)]) [2, 3, 4, 5, 6] rfl ?_
    exact kk _ _ _ _ h
set_option maxHeartbeats 4000000 in
set_option maxRecDepth 100000 in
theorem k_op_2 {p : Program} {l : Launch} {e : Env} {s : State} {m9 : MethodId} {below : List Frame} {meth : Method} {c : Code} {D : va_G} {cy : Nat → Nat} {A : Nat → Prop} {b L : Nat} {xs : Nat → Int32} (hl : l.stackTraces = false) (C : Cx p s m9 #[va_rf (some b)] meth c cL_law 8 lw_tbl "TrenchboardLaw" D cy A s.heap) (hZ : ZZ cy A s s.heap) (hX : va_X b L xs s s.heap) (hbl : b < s.heap.size) (hbA : ¬ A b) (hAs : A = fun q => s.heap.size ≤ q) (hr : meth.sig.returnType = ret) (e0 m0 x m o : Nat) (he : e0 = cy 9) (hm : m0 = cy 10) (v : Int32) (h1 : vp_in (v + 1) L) (h2 : vp_in (v + 2) L) (h3 : vp_in (v + 3) L) (SC SM : PT) (c1 s1 : Nat) (K : PT → PT → Nat → Nat → Prop) (kk : ∀ (SC SM : PT) (c1 s1 : Nat), K SC SM c1 s1 → GL p l e room_1 s m9 #[va_rf (some b)] below meth c D cy A s.heap 8 (lw_Z below #[Value.ref b] s) SC SM c1 s1 2596 [(0, va_rf (some b)), (1, va_rf (some x)), (2, va_rf (some m)), (3, va_rf (some o)), (4, Value.int v)] []) (h : w_op_2 e0 m0 x m o (xs (v + 1).toNatClampNeg) (xs (v + 2).toNatClampNeg) (xs (v + 3).toNatClampNeg) SC SM c1 s1 K) : GL p l e room_1 s m9 #[va_rf (some b)] below meth c D cy A s.heap 8 (lw_Z below #[Value.ref b] s) SC SM c1 s1 340 [(0, va_rf (some b)), (1, va_rf (some x)), (2, va_rf (some m)), (3, va_rf (some o)), (4, Value.int v)] [] := by
  obtain ⟨m1, m2, hc1, hs1, h⟩ := h
  replace hc1 := Nat.le_trans hc1 rC
  replace hs1 := Nat.le_trans hs1 rS
  refine GL_aload_n C (x := (some x)) 1 dL_law_340 rfl rfl ?_
  refine GL_aload_n C (x := (some b)) 0 dL_law_341 rfl rfl ?_
  refine GL_iload C (x := v) 4 dL_law_342 rfl ?_
  refine GL_iconst C (v := 1) dL_law_344 (by decide) ?_
  refine GL_iadd C dL_law_345 ?_
  refine GL_sld C hX hbl hbA h1 dL_law_346 ?_
  refine GL_aload_n C (x := (some b)) 0 dL_law_347 rfl rfl ?_
  refine GL_iload C (x := v) 4 dL_law_348 rfl ?_
  refine GL_iconst C (v := 2) dL_law_350 (by decide) ?_
  refine GL_iadd C dL_law_351 ?_
  refine GL_sld C hX hbl hbA h2 dL_law_352 ?_
  refine GL_aload_n C (x := (some b)) 0 dL_law_353 rfl rfl ?_
  refine GL_iload C (x := v) 4 dL_law_354 rfl ?_
  refine GL_iconst C (v := 3) dL_law_356 (by decide) ?_
  refine GL_iadd C dL_law_357 ?_
  refine GL_sld C hX hbl hbA h3 dL_law_358 ?_
  refine GL_aload_n C (x := (some o)) 3 dL_law_359 rfl rfl ?_
  refine GL_callW C hZ tw_2_187 tw_2_188 tw_1_0 tw_2_189 hy_L_embargo ⟨Nat.le_of_ble_eq_true rfl, Nat.le_of_ble_eq_true rfl⟩ (As := [va_rf (some x), Value.int (xs (v + 1).toNatClampNeg), Value.int (xs (v + 2).toNatClampNeg), Value.int (xs (v + 3).toNatClampNeg), va_rf (some o)]) (rest := []) (c_L_embargo l hl D cy (some x) (xs (v + 1).toNatClampNeg) (xs (v + 2).toNatClampNeg) (xs (v + 3).toNatClampNeg) (some o) SC m1 m2 _ h) rfl rfl (Nat.zero_le _) dL_law_360 ⟨hc1, hs1⟩ (fun k5 SC1 h => ?_)
  obtain ⟨hk1, h⟩ := h
  refine GL_istore C (i := 5) (lv' := [(5, Value.int k5), (0, va_rf (some b)), (1, va_rf (some x)), (2, va_rf (some m)), (3, va_rf (some o)), (4, Value.int v)]) dL_law_363 (by decide) (by first | rfl | simp [va_cat, vi_cat, vl_cat]) ?_
  refine GL_aload_n C (x := (some m)) 3 dL_law_365 rfl rfl ?_
  refine GL_aload_n C (x := (some b)) 1 dL_law_366 rfl rfl ?_
  refine GL_iload C (x := v) 5 dL_law_367 rfl ?_
  refine GL_iconst C (v := 1) dL_law_369 (by decide) ?_
  refine GL_iadd C dL_law_370 ?_
  refine GL_sld C hX hbl hbA h1 dL_law_371 ?_
  refine GL_aload_n C (x := (some b)) 1 dL_law_372 rfl rfl ?_
  refine GL_iload C (x := v) 5 dL_law_373 rfl ?_
  refine GL_iconst C (v := 2) dL_law_375 (by decide) ?_
  refine GL_iadd C dL_law_376 ?_
  refine GL_sld C hX hbl hbA h2 dL_law_377 ?_
  refine GL_aload_n C (x := (some b)) 1 dL_law_378 rfl rfl ?_
  refine GL_iload C (x := v) 5 dL_law_379 rfl ?_
  refine GL_iconst C (v := 3) dL_law_381 (by decide) ?_
  refine GL_iadd C dL_law_382 ?_
  refine GL_sld C hX hbl hbA h3 dL_law_383 ?_
  refine GL_callMi C hZ (Tf := TX9) (N := 50) hk1 (by decide) rfl tw_6_72 tw_6_73 tw_6_74 tw_1_7 tw_6_75 hy_X9_embargo ⟨Nat.le_of_ble_eq_true rfl, Nat.le_of_ble_eq_true rfl⟩ (As := [Value.int (xs (v + 1).toNatClampNeg), Value.int (xs (v + 2).toNatClampNeg), Value.int (xs (v + 3).toNatClampNeg)]) (rest := []) (c_X9_embargo l D cy m (xs (v + 1).toNatClampNeg) (xs (v + 2).toNatClampNeg) (xs (v + 3).toNatClampNeg) SM _ h) rfl rfl (by simp [va_cat, vi_cat, vl_cat]) dL_law_384 ⟨hc1, hs1⟩ (fun b5 SM1 h => ?_)
  obtain ⟨hk2, h⟩ := h
  refine GL_istore C (i := 6) (lv' := [(6, Value.int b5), (5, Value.int k5), (0, va_rf (some b)), (1, va_rf (some x)), (2, va_rf (some m)), (3, va_rf (some o)), (4, Value.int v)]) dL_law_387 (by decide) (by first | rfl | simp [va_cat, vi_cat, vl_cat]) ?_
  refine GL_aload_n C (x := (some m)) 4 dL_law_389 rfl rfl ?_
  refine GL_callMi C hZ (Tf := TX9) (N := 50) hk2 (by decide) rfl tw_6_41 tw_6_42 tw_6_43 tw_1_7 tw_6_44 hy_X9_thrown ⟨Nat.le_of_ble_eq_true rfl, Nat.le_of_ble_eq_true rfl⟩ (As := []) (rest := []) (c_X9_thrown l D cy m  SM1 _ h) rfl rfl (by simp [va_cat, vi_cat, vl_cat]) dL_law_390 ⟨hc1, hs1⟩ (fun t5 SM2 h => ?_)
  obtain ⟨ht, hout, h⟩ := h
  refine GL_iload C (x := k5) 1 dL_law_393 rfl ?_
  refine GL_icmp_eq C (tgt := 400) dL_law_395 (by decide) (fun _ => ?_) (fun hc => absurd ht hc)
  refine GL_iload C (x := k5) 1 dL_law_400 rfl ?_
  refine GL_if_ne C (tgt := 417) dL_law_402 (by decide) (fun _ => ?_) (fun hk0 => ?_)
  · refine GL_goto C (tgt := 2596) dL_law_417 (by decide) ?_
    refine GL_lv C (lv' := [(0, va_rf (some b)), (1, va_rf (some x)), (2, va_rf (some m)), (3, va_rf (some o)), (4, Value.int v)]) [2, 3, 4, 5, 6] rfl ?_
    exact kk _ _ _ _ h
  · obtain ⟨ho, hin, heq⟩ := hout hk0
    refine GL_aload_n C (x := (some o)) 5 dL_law_405 rfl rfl ?_
    refine GL_iconst C (v := 0) dL_law_406 (by decide) ?_
    refine GL_lald C ho hin dL_law_407 ?_
    refine GL_iload C (x := b5) 0 dL_law_408 rfl ?_
    refine GL_i2l C dL_law_410 ?_
    refine GL_lcmp C dL_law_411 ?_
    refine GL_if_eq C (tgt := 417) dL_law_412 (by decide) (fun _ => ?_) (fun hc => absurd (lw_cmp0 heq) hc)
    refine GL_goto C (tgt := 2596) dL_law_417 (by decide) ?_
    refine GL_lv C (lv' := [(0, va_rf (some b)), (1, va_rf (some x)), (2, va_rf (some m)), (3, va_rf (some o)), (4, Value.int v)]) [2, 3, 4, 5, 6] rfl ?_
    exact kk _ _ _ _ h
set_option maxHeartbeats 4000000 in
set_option maxRecDepth 100000 in
theorem k_op_3 {p : Program} {l : Launch} {e : Env} {s : State} {m9 : MethodId} {below : List Frame} {meth : Method} {c : Code} {D : va_G} {cy : Nat → Nat} {A : Nat → Prop} {b L : Nat} {xs : Nat → Int32} (hl : l.stackTraces = false) (C : Cx p s m9 #[va_rf (some b)] meth c cL_law 8 lw_tbl "TrenchboardLaw" D cy A s.heap) (hZ : ZZ cy A s s.heap) (hX : va_X b L xs s s.heap) (hbl : b < s.heap.size) (hbA : ¬ A b) (hAs : A = fun q => s.heap.size ≤ q) (hr : meth.sig.returnType = ret) (e0 m0 x m o : Nat) (he : e0 = cy 9) (hm : m0 = cy 10) (v : Int32) (h1 : vp_in (v + 1) L) (h2 : vp_in (v + 2) L) (h3 : vp_in (v + 3) L) (h4 : vp_in (v + 4) L) (h5 : vp_in (v + 5) L) (SC SM : PT) (c1 s1 : Nat) (K : PT → PT → Nat → Nat → Prop) (kk : ∀ (SC SM : PT) (c1 s1 : Nat), K SC SM c1 s1 → GL p l e room_1 s m9 #[va_rf (some b)] below meth c D cy A s.heap 8 (lw_Z below #[Value.ref b] s) SC SM c1 s1 2596 [(0, va_rf (some b)), (1, va_rf (some x)), (2, va_rf (some m)), (3, va_rf (some o)), (4, Value.int v)] []) (h : w_op_3 e0 m0 x m o (xs (v + 1).toNatClampNeg) (xs (v + 2).toNatClampNeg) (xs (v + 3).toNatClampNeg) (xs (v + 4).toNatClampNeg) (xs (v + 5).toNatClampNeg) SC SM c1 s1 K) : GL p l e room_1 s m9 #[va_rf (some b)] below meth c D cy A s.heap 8 (lw_Z below #[Value.ref b] s) SC SM c1 s1 420 [(0, va_rf (some b)), (1, va_rf (some x)), (2, va_rf (some m)), (3, va_rf (some o)), (4, Value.int v)] [] := by
  obtain ⟨m1, m2, hc1, hs1, h⟩ := h
  replace hc1 := Nat.le_trans hc1 rC
  replace hs1 := Nat.le_trans hs1 rS
  refine GL_aload_n C (x := (some x)) 1 dL_law_420 rfl rfl ?_
  refine GL_aload_n C (x := (some b)) 0 dL_law_421 rfl rfl ?_
  refine GL_iload C (x := v) 4 dL_law_422 rfl ?_
  refine GL_iconst C (v := 1) dL_law_424 (by decide) ?_
  refine GL_iadd C dL_law_425 ?_
  refine GL_sld C hX hbl hbA h1 dL_law_426 ?_
  refine GL_aload_n C (x := (some b)) 0 dL_law_427 rfl rfl ?_
  refine GL_iload C (x := v) 4 dL_law_428 rfl ?_
  refine GL_iconst C (v := 2) dL_law_430 (by decide) ?_
  refine GL_iadd C dL_law_431 ?_
  refine GL_sld C hX hbl hbA h2 dL_law_432 ?_
  refine GL_aload_n C (x := (some b)) 0 dL_law_433 rfl rfl ?_
  refine GL_iload C (x := v) 4 dL_law_434 rfl ?_
  refine GL_iconst C (v := 3) dL_law_436 (by decide) ?_
  refine GL_iadd C dL_law_437 ?_
  refine GL_sld C hX hbl hbA h3 dL_law_438 ?_
  refine GL_aload_n C (x := (some b)) 0 dL_law_439 rfl rfl ?_
  refine GL_iload C (x := v) 4 dL_law_440 rfl ?_
  refine GL_iconst C (v := 4) dL_law_442 (by decide) ?_
  refine GL_iadd C dL_law_443 ?_
  refine GL_sld C hX hbl hbA h4 dL_law_444 ?_
  refine GL_aload_n C (x := (some b)) 0 dL_law_445 rfl rfl ?_
  refine GL_iload C (x := v) 4 dL_law_446 rfl ?_
  refine GL_iconst C (v := 5) dL_law_448 (by decide) ?_
  refine GL_iadd C dL_law_449 ?_
  refine GL_sld C hX hbl hbA h5 dL_law_450 ?_
  refine GL_aload_n C (x := (some o)) 3 dL_law_451 rfl rfl ?_
  refine GL_callW C hZ tw_2_202 tw_2_203 tw_1_0 tw_2_204 hy_L_thing ⟨Nat.le_of_ble_eq_true rfl, Nat.le_of_ble_eq_true rfl⟩ (As := [va_rf (some x), Value.int (xs (v + 1).toNatClampNeg), Value.int (xs (v + 2).toNatClampNeg), Value.int (xs (v + 3).toNatClampNeg), Value.int (xs (v + 4).toNatClampNeg), Value.int (xs (v + 5).toNatClampNeg), va_rf (some o)]) (rest := []) (c_L_thing l hl D cy (some x) (xs (v + 1).toNatClampNeg) (xs (v + 2).toNatClampNeg) (xs (v + 3).toNatClampNeg) (xs (v + 4).toNatClampNeg) (xs (v + 5).toNatClampNeg) (some o) SC m1 m2 _ h) rfl rfl (Nat.zero_le _) dL_law_452 ⟨hc1, hs1⟩ (fun k5 SC1 h => ?_)
  obtain ⟨hk1, h⟩ := h
  refine GL_istore C (i := 5) (lv' := [(5, Value.int k5), (0, va_rf (some b)), (1, va_rf (some x)), (2, va_rf (some m)), (3, va_rf (some o)), (4, Value.int v)]) dL_law_455 (by decide) (by first | rfl | simp [va_cat, vi_cat, vl_cat]) ?_
  refine GL_aload_n C (x := (some m)) 3 dL_law_457 rfl rfl ?_
  refine GL_aload_n C (x := (some b)) 1 dL_law_458 rfl rfl ?_
  refine GL_iload C (x := v) 5 dL_law_459 rfl ?_
  refine GL_iconst C (v := 1) dL_law_461 (by decide) ?_
  refine GL_iadd C dL_law_462 ?_
  refine GL_sld C hX hbl hbA h1 dL_law_463 ?_
  refine GL_aload_n C (x := (some b)) 1 dL_law_464 rfl rfl ?_
  refine GL_iload C (x := v) 5 dL_law_465 rfl ?_
  refine GL_iconst C (v := 2) dL_law_467 (by decide) ?_
  refine GL_iadd C dL_law_468 ?_
  refine GL_sld C hX hbl hbA h2 dL_law_469 ?_
  refine GL_aload_n C (x := (some b)) 1 dL_law_470 rfl rfl ?_
  refine GL_iload C (x := v) 5 dL_law_471 rfl ?_
  refine GL_iconst C (v := 3) dL_law_473 (by decide) ?_
  refine GL_iadd C dL_law_474 ?_
  refine GL_sld C hX hbl hbA h3 dL_law_475 ?_
  refine GL_aload_n C (x := (some b)) 1 dL_law_476 rfl rfl ?_
  refine GL_iload C (x := v) 5 dL_law_477 rfl ?_
  refine GL_iconst C (v := 4) dL_law_479 (by decide) ?_
  refine GL_iadd C dL_law_480 ?_
  refine GL_sld C hX hbl hbA h4 dL_law_481 ?_
  refine GL_aload_n C (x := (some b)) 1 dL_law_482 rfl rfl ?_
  refine GL_iload C (x := v) 5 dL_law_483 rfl ?_
  refine GL_iconst C (v := 5) dL_law_485 (by decide) ?_
  refine GL_iadd C dL_law_486 ?_
  refine GL_sld C hX hbl hbA h5 dL_law_487 ?_
  refine GL_callMi C hZ (Tf := TX9) (N := 50) hk1 (by decide) rfl tw_6_88 tw_6_89 tw_6_90 tw_1_7 tw_6_91 hy_X9_thing ⟨Nat.le_of_ble_eq_true rfl, Nat.le_of_ble_eq_true rfl⟩ (As := [Value.int (xs (v + 1).toNatClampNeg), Value.int (xs (v + 2).toNatClampNeg), Value.int (xs (v + 3).toNatClampNeg), Value.int (xs (v + 4).toNatClampNeg), Value.int (xs (v + 5).toNatClampNeg)]) (rest := []) (c_X9_thing l D cy m (xs (v + 1).toNatClampNeg) (xs (v + 2).toNatClampNeg) (xs (v + 3).toNatClampNeg) (xs (v + 4).toNatClampNeg) (xs (v + 5).toNatClampNeg) SM _ h) rfl rfl (by simp [va_cat, vi_cat, vl_cat]) dL_law_488 ⟨hc1, hs1⟩ (fun b5 SM1 h => ?_)
  obtain ⟨hk2, h⟩ := h
  refine GL_istore C (i := 6) (lv' := [(6, Value.int b5), (5, Value.int k5), (0, va_rf (some b)), (1, va_rf (some x)), (2, va_rf (some m)), (3, va_rf (some o)), (4, Value.int v)]) dL_law_491 (by decide) (by first | rfl | simp [va_cat, vi_cat, vl_cat]) ?_
  refine GL_aload_n C (x := (some m)) 4 dL_law_493 rfl rfl ?_
  refine GL_callMi C hZ (Tf := TX9) (N := 50) hk2 (by decide) rfl tw_6_41 tw_6_42 tw_6_43 tw_1_7 tw_6_44 hy_X9_thrown ⟨Nat.le_of_ble_eq_true rfl, Nat.le_of_ble_eq_true rfl⟩ (As := []) (rest := []) (c_X9_thrown l D cy m  SM1 _ h) rfl rfl (by simp [va_cat, vi_cat, vl_cat]) dL_law_494 ⟨hc1, hs1⟩ (fun t5 SM2 h => ?_)
  obtain ⟨ht, hout, h⟩ := h
  refine GL_iload C (x := k5) 1 dL_law_497 rfl ?_
  refine GL_icmp_eq C (tgt := 504) dL_law_499 (by decide) (fun _ => ?_) (fun hc => absurd ht hc)
  refine GL_iload C (x := k5) 1 dL_law_504 rfl ?_
  refine GL_if_ne C (tgt := 521) dL_law_506 (by decide) (fun _ => ?_) (fun hk0 => ?_)
  · refine GL_goto C (tgt := 2596) dL_law_521 (by decide) ?_
    refine GL_lv C (lv' := [(0, va_rf (some b)), (1, va_rf (some x)), (2, va_rf (some m)), (3, va_rf (some o)), (4, Value.int v)]) [2, 3, 4, 5, 6] rfl ?_
    exact kk _ _ _ _ h
  · obtain ⟨ho, hin, heq⟩ := hout hk0
    refine GL_aload_n C (x := (some o)) 5 dL_law_509 rfl rfl ?_
    refine GL_iconst C (v := 0) dL_law_510 (by decide) ?_
    refine GL_lald C ho hin dL_law_511 ?_
    refine GL_iload C (x := b5) 0 dL_law_512 rfl ?_
    refine GL_i2l C dL_law_514 ?_
    refine GL_lcmp C dL_law_515 ?_
    refine GL_if_eq C (tgt := 521) dL_law_516 (by decide) (fun _ => ?_) (fun hc => absurd (lw_cmp0 heq) hc)
    refine GL_goto C (tgt := 2596) dL_law_521 (by decide) ?_
    refine GL_lv C (lv' := [(0, va_rf (some b)), (1, va_rf (some x)), (2, va_rf (some m)), (3, va_rf (some o)), (4, Value.int v)]) [2, 3, 4, 5, 6] rfl ?_
    exact kk _ _ _ _ h
set_option maxHeartbeats 4000000 in
set_option maxRecDepth 100000 in
theorem k_op_4 {p : Program} {l : Launch} {e : Env} {s : State} {m9 : MethodId} {below : List Frame} {meth : Method} {c : Code} {D : va_G} {cy : Nat → Nat} {A : Nat → Prop} {b L : Nat} {xs : Nat → Int32} (hl : l.stackTraces = false) (C : Cx p s m9 #[va_rf (some b)] meth c cL_law 8 lw_tbl "TrenchboardLaw" D cy A s.heap) (hZ : ZZ cy A s s.heap) (hX : va_X b L xs s s.heap) (hbl : b < s.heap.size) (hbA : ¬ A b) (hAs : A = fun q => s.heap.size ≤ q) (hr : meth.sig.returnType = ret) (e0 m0 x m o : Nat) (he : e0 = cy 9) (hm : m0 = cy 10) (v : Int32) (h1 : vp_in (v + 1) L) (h2 : vp_in (v + 2) L) (h3 : vp_in (v + 3) L) (h4 : vp_in (v + 4) L) (SC SM : PT) (c1 s1 : Nat) (K : PT → PT → Nat → Nat → Prop) (kk : ∀ (SC SM : PT) (c1 s1 : Nat), K SC SM c1 s1 → GL p l e room_1 s m9 #[va_rf (some b)] below meth c D cy A s.heap 8 (lw_Z below #[Value.ref b] s) SC SM c1 s1 2596 [(0, va_rf (some b)), (1, va_rf (some x)), (2, va_rf (some m)), (3, va_rf (some o)), (4, Value.int v)] []) (h : w_op_4 e0 m0 x m o (xs (v + 1).toNatClampNeg) (xs (v + 2).toNatClampNeg) (xs (v + 3).toNatClampNeg) (xs (v + 4).toNatClampNeg) SC SM c1 s1 K) : GL p l e room_1 s m9 #[va_rf (some b)] below meth c D cy A s.heap 8 (lw_Z below #[Value.ref b] s) SC SM c1 s1 524 [(0, va_rf (some b)), (1, va_rf (some x)), (2, va_rf (some m)), (3, va_rf (some o)), (4, Value.int v)] [] := by
  obtain ⟨m1, m2, hc1, hs1, h⟩ := h
  replace hc1 := Nat.le_trans hc1 rC
  replace hs1 := Nat.le_trans hs1 rS
  refine GL_aload_n C (x := (some x)) 1 dL_law_524 rfl rfl ?_
  refine GL_aload_n C (x := (some b)) 0 dL_law_525 rfl rfl ?_
  refine GL_iload C (x := v) 4 dL_law_526 rfl ?_
  refine GL_iconst C (v := 1) dL_law_528 (by decide) ?_
  refine GL_iadd C dL_law_529 ?_
  refine GL_sld C hX hbl hbA h1 dL_law_530 ?_
  refine GL_aload_n C (x := (some b)) 0 dL_law_531 rfl rfl ?_
  refine GL_iload C (x := v) 4 dL_law_532 rfl ?_
  refine GL_iconst C (v := 2) dL_law_534 (by decide) ?_
  refine GL_iadd C dL_law_535 ?_
  refine GL_sld C hX hbl hbA h2 dL_law_536 ?_
  refine GL_aload_n C (x := (some b)) 0 dL_law_537 rfl rfl ?_
  refine GL_iload C (x := v) 4 dL_law_538 rfl ?_
  refine GL_iconst C (v := 3) dL_law_540 (by decide) ?_
  refine GL_iadd C dL_law_541 ?_
  refine GL_sld C hX hbl hbA h3 dL_law_542 ?_
  refine GL_aload_n C (x := (some b)) 0 dL_law_543 rfl rfl ?_
  refine GL_iload C (x := v) 4 dL_law_544 rfl ?_
  refine GL_iconst C (v := 4) dL_law_546 (by decide) ?_
  refine GL_iadd C dL_law_547 ?_
  refine GL_sld C hX hbl hbA h4 dL_law_548 ?_
  refine GL_aload_n C (x := (some o)) 3 dL_law_549 rfl rfl ?_
  refine GL_callW C hZ tw_3_17 tw_3_18 tw_1_0 tw_3_19 hy_L_record ⟨Nat.le_of_ble_eq_true rfl, Nat.le_of_ble_eq_true rfl⟩ (As := [va_rf (some x), Value.int (xs (v + 1).toNatClampNeg), Value.int (xs (v + 2).toNatClampNeg), Value.int (xs (v + 3).toNatClampNeg), Value.int (xs (v + 4).toNatClampNeg), va_rf (some o)]) (rest := []) (c_L_record l hl D cy (some x) (xs (v + 1).toNatClampNeg) (xs (v + 2).toNatClampNeg) (xs (v + 3).toNatClampNeg) (xs (v + 4).toNatClampNeg) (some o) SC m1 m2 _ h) rfl rfl (Nat.zero_le _) dL_law_550 ⟨hc1, hs1⟩ (fun k5 SC1 h => ?_)
  obtain ⟨hk1, h⟩ := h
  refine GL_istore C (i := 5) (lv' := [(5, Value.int k5), (0, va_rf (some b)), (1, va_rf (some x)), (2, va_rf (some m)), (3, va_rf (some o)), (4, Value.int v)]) dL_law_553 (by decide) (by first | rfl | simp [va_cat, vi_cat, vl_cat]) ?_
  refine GL_aload_n C (x := (some m)) 3 dL_law_555 rfl rfl ?_
  refine GL_aload_n C (x := (some b)) 1 dL_law_556 rfl rfl ?_
  refine GL_iload C (x := v) 5 dL_law_557 rfl ?_
  refine GL_iconst C (v := 1) dL_law_559 (by decide) ?_
  refine GL_iadd C dL_law_560 ?_
  refine GL_sld C hX hbl hbA h1 dL_law_561 ?_
  refine GL_aload_n C (x := (some b)) 1 dL_law_562 rfl rfl ?_
  refine GL_iload C (x := v) 5 dL_law_563 rfl ?_
  refine GL_iconst C (v := 2) dL_law_565 (by decide) ?_
  refine GL_iadd C dL_law_566 ?_
  refine GL_sld C hX hbl hbA h2 dL_law_567 ?_
  refine GL_aload_n C (x := (some b)) 1 dL_law_568 rfl rfl ?_
  refine GL_iload C (x := v) 5 dL_law_569 rfl ?_
  refine GL_iconst C (v := 3) dL_law_571 (by decide) ?_
  refine GL_iadd C dL_law_572 ?_
  refine GL_sld C hX hbl hbA h3 dL_law_573 ?_
  refine GL_aload_n C (x := (some b)) 1 dL_law_574 rfl rfl ?_
  refine GL_iload C (x := v) 5 dL_law_575 rfl ?_
  refine GL_iconst C (v := 4) dL_law_577 (by decide) ?_
  refine GL_iadd C dL_law_578 ?_
  refine GL_sld C hX hbl hbA h4 dL_law_579 ?_
  refine GL_callMi C hZ (Tf := TX9) (N := 50) hk1 (by decide) rfl tw_6_99 tw_6_100 tw_6_101 tw_1_7 tw_6_102 hy_X9_record ⟨Nat.le_of_ble_eq_true rfl, Nat.le_of_ble_eq_true rfl⟩ (As := [Value.int (xs (v + 1).toNatClampNeg), Value.int (xs (v + 2).toNatClampNeg), Value.int (xs (v + 3).toNatClampNeg), Value.int (xs (v + 4).toNatClampNeg)]) (rest := []) (c_X9_record l D cy m (xs (v + 1).toNatClampNeg) (xs (v + 2).toNatClampNeg) (xs (v + 3).toNatClampNeg) (xs (v + 4).toNatClampNeg) SM _ h) rfl rfl (by simp [va_cat, vi_cat, vl_cat]) dL_law_580 ⟨hc1, hs1⟩ (fun b5 SM1 h => ?_)
  obtain ⟨hk2, h⟩ := h
  refine GL_istore C (i := 6) (lv' := [(6, Value.int b5), (5, Value.int k5), (0, va_rf (some b)), (1, va_rf (some x)), (2, va_rf (some m)), (3, va_rf (some o)), (4, Value.int v)]) dL_law_583 (by decide) (by first | rfl | simp [va_cat, vi_cat, vl_cat]) ?_
  refine GL_aload_n C (x := (some m)) 4 dL_law_585 rfl rfl ?_
  refine GL_callMi C hZ (Tf := TX9) (N := 50) hk2 (by decide) rfl tw_6_41 tw_6_42 tw_6_43 tw_1_7 tw_6_44 hy_X9_thrown ⟨Nat.le_of_ble_eq_true rfl, Nat.le_of_ble_eq_true rfl⟩ (As := []) (rest := []) (c_X9_thrown l D cy m  SM1 _ h) rfl rfl (by simp [va_cat, vi_cat, vl_cat]) dL_law_586 ⟨hc1, hs1⟩ (fun t5 SM2 h => ?_)
  obtain ⟨ht, hout, h⟩ := h
  refine GL_iload C (x := k5) 1 dL_law_589 rfl ?_
  refine GL_icmp_eq C (tgt := 596) dL_law_591 (by decide) (fun _ => ?_) (fun hc => absurd ht hc)
  refine GL_iload C (x := k5) 1 dL_law_596 rfl ?_
  refine GL_if_ne C (tgt := 613) dL_law_598 (by decide) (fun _ => ?_) (fun hk0 => ?_)
  · refine GL_goto C (tgt := 2596) dL_law_613 (by decide) ?_
    refine GL_lv C (lv' := [(0, va_rf (some b)), (1, va_rf (some x)), (2, va_rf (some m)), (3, va_rf (some o)), (4, Value.int v)]) [2, 3, 4, 5, 6] rfl ?_
    exact kk _ _ _ _ h
  · obtain ⟨ho, hin, heq⟩ := hout hk0
    refine GL_aload_n C (x := (some o)) 5 dL_law_601 rfl rfl ?_
    refine GL_iconst C (v := 0) dL_law_602 (by decide) ?_
    refine GL_lald C ho hin dL_law_603 ?_
    refine GL_iload C (x := b5) 0 dL_law_604 rfl ?_
    refine GL_i2l C dL_law_606 ?_
    refine GL_lcmp C dL_law_607 ?_
    refine GL_if_eq C (tgt := 613) dL_law_608 (by decide) (fun _ => ?_) (fun hc => absurd (lw_cmp0 heq) hc)
    refine GL_goto C (tgt := 2596) dL_law_613 (by decide) ?_
    refine GL_lv C (lv' := [(0, va_rf (some b)), (1, va_rf (some x)), (2, va_rf (some m)), (3, va_rf (some o)), (4, Value.int v)]) [2, 3, 4, 5, 6] rfl ?_
    exact kk _ _ _ _ h
set_option maxHeartbeats 4000000 in
set_option maxRecDepth 100000 in
theorem k_op_5 {p : Program} {l : Launch} {e : Env} {s : State} {m9 : MethodId} {below : List Frame} {meth : Method} {c : Code} {D : va_G} {cy : Nat → Nat} {A : Nat → Prop} {b L : Nat} {xs : Nat → Int32} (hl : l.stackTraces = false) (C : Cx p s m9 #[va_rf (some b)] meth c cL_law 8 lw_tbl "TrenchboardLaw" D cy A s.heap) (hZ : ZZ cy A s s.heap) (hX : va_X b L xs s s.heap) (hbl : b < s.heap.size) (hbA : ¬ A b) (hAs : A = fun q => s.heap.size ≤ q) (hr : meth.sig.returnType = ret) (e0 m0 x m o : Nat) (he : e0 = cy 9) (hm : m0 = cy 10) (v : Int32) (h1 : vp_in (v + 1) L) (SC SM : PT) (c1 s1 : Nat) (K : PT → PT → Nat → Nat → Prop) (kk : ∀ (SC SM : PT) (c1 s1 : Nat), K SC SM c1 s1 → GL p l e room_1 s m9 #[va_rf (some b)] below meth c D cy A s.heap 8 (lw_Z below #[Value.ref b] s) SC SM c1 s1 2596 [(0, va_rf (some b)), (1, va_rf (some x)), (2, va_rf (some m)), (3, va_rf (some o)), (4, Value.int v)] []) (h : w_op_5 e0 m0 x m o (xs (v + 1).toNatClampNeg) SC SM c1 s1 K) : GL p l e room_1 s m9 #[va_rf (some b)] below meth c D cy A s.heap 8 (lw_Z below #[Value.ref b] s) SC SM c1 s1 616 [(0, va_rf (some b)), (1, va_rf (some x)), (2, va_rf (some m)), (3, va_rf (some o)), (4, Value.int v)] [] := by
  obtain ⟨m1, m2, hc1, hs1, h⟩ := h
  replace hc1 := Nat.le_trans hc1 rC
  replace hs1 := Nat.le_trans hs1 rS
  refine GL_aload_n C (x := (some x)) 1 dL_law_616 rfl rfl ?_
  refine GL_aload_n C (x := (some b)) 0 dL_law_617 rfl rfl ?_
  refine GL_iload C (x := v) 4 dL_law_618 rfl ?_
  refine GL_iconst C (v := 1) dL_law_620 (by decide) ?_
  refine GL_iadd C dL_law_621 ?_
  refine GL_sld C hX hbl hbA h1 dL_law_622 ?_
  refine GL_aload_n C (x := (some o)) 3 dL_law_623 rfl rfl ?_
  refine GL_callW C hZ tw_3_40 tw_3_41 tw_1_0 tw_3_42 hy_L_lose ⟨Nat.le_of_ble_eq_true rfl, Nat.le_of_ble_eq_true rfl⟩ (As := [va_rf (some x), Value.int (xs (v + 1).toNatClampNeg), va_rf (some o)]) (rest := []) (c_L_lose l hl D cy (some x) (xs (v + 1).toNatClampNeg) (some o) SC m1 m2 _ h) rfl rfl (Nat.zero_le _) dL_law_624 ⟨hc1, hs1⟩ (fun k5 SC1 h => ?_)
  obtain ⟨hk1, h⟩ := h
  refine GL_istore C (i := 5) (lv' := [(5, Value.int k5), (0, va_rf (some b)), (1, va_rf (some x)), (2, va_rf (some m)), (3, va_rf (some o)), (4, Value.int v)]) dL_law_627 (by decide) (by first | rfl | simp [va_cat, vi_cat, vl_cat]) ?_
  refine GL_aload_n C (x := (some m)) 3 dL_law_629 rfl rfl ?_
  refine GL_aload_n C (x := (some b)) 1 dL_law_630 rfl rfl ?_
  refine GL_iload C (x := v) 5 dL_law_631 rfl ?_
  refine GL_iconst C (v := 1) dL_law_633 (by decide) ?_
  refine GL_iadd C dL_law_634 ?_
  refine GL_sld C hX hbl hbA h1 dL_law_635 ?_
  refine GL_callMi C hZ (Tf := TX9) (N := 50) hk1 (by decide) rfl tw_6_119 tw_6_120 tw_6_121 tw_1_7 tw_6_122 hy_X9_lose ⟨Nat.le_of_ble_eq_true rfl, Nat.le_of_ble_eq_true rfl⟩ (As := [Value.int (xs (v + 1).toNatClampNeg)]) (rest := []) (c_X9_lose l D cy m (xs (v + 1).toNatClampNeg) SM _ h) rfl rfl (by simp [va_cat, vi_cat, vl_cat]) dL_law_636 ⟨hc1, hs1⟩ (fun b5 SM1 h => ?_)
  obtain ⟨hbo, h⟩ := h
  obtain ⟨hk2, h⟩ := h
  refine GL_istore C (i := 6) (lv' := [(6, Value.int b5), (5, Value.int k5), (0, va_rf (some b)), (1, va_rf (some x)), (2, va_rf (some m)), (3, va_rf (some o)), (4, Value.int v)]) dL_law_639 (by decide) (by first | rfl | simp [va_cat, vi_cat, vl_cat]) ?_
  refine GL_aload_n C (x := (some m)) 4 dL_law_641 rfl rfl ?_
  refine GL_callMi C hZ (Tf := TX9) (N := 50) hk2 (by decide) rfl tw_6_41 tw_6_42 tw_6_43 tw_1_7 tw_6_44 hy_X9_thrown ⟨Nat.le_of_ble_eq_true rfl, Nat.le_of_ble_eq_true rfl⟩ (As := []) (rest := []) (c_X9_thrown l D cy m  SM1 _ h) rfl rfl (by simp [va_cat, vi_cat, vl_cat]) dL_law_642 ⟨hc1, hs1⟩ (fun t5 SM2 h => ?_)
  obtain ⟨ht, hout, h⟩ := h
  refine GL_iload C (x := k5) 1 dL_law_645 rfl ?_
  refine GL_icmp_eq C (tgt := 652) dL_law_647 (by decide) (fun _ => ?_) (fun hc => absurd ht hc)
  refine GL_iload C (x := k5) 1 dL_law_652 rfl ?_
  refine GL_if_ne C (tgt := 676) dL_law_654 (by decide) (fun _ => ?_) (fun hk0 => ?_)
  · refine GL_goto C (tgt := 2596) dL_law_676 (by decide) ?_
    refine GL_lv C (lv' := [(0, va_rf (some b)), (1, va_rf (some x)), (2, va_rf (some m)), (3, va_rf (some o)), (4, Value.int v)]) [2, 3, 4, 5, 6] rfl ?_
    exact kk _ _ _ _ h
  · obtain ⟨ho, hin, heq⟩ := hout hk0
    refine GL_aload_n C (x := (some o)) 5 dL_law_657 rfl rfl ?_
    refine GL_iconst C (v := 0) dL_law_658 (by decide) ?_
    refine GL_lald C ho hin dL_law_659 ?_
    refine GL_iload C (x := b5) 0 dL_law_660 rfl ?_
    refine GL_if_eq C (tgt := 669) dL_law_662 (by decide) (fun hb => ?_) (fun hb => ?_)
    · refine GL_lconst C (v := 0) dL_law_669 (by decide) ?_
      refine GL_lcmp C dL_law_670 ?_
      refine GL_if_eq C (tgt := 676) dL_law_671 (by decide) (fun _ => ?_) (fun hc => absurd (lw_cmp0 (by rw [heq, if_pos hb])) hc)
      refine GL_goto C (tgt := 2596) dL_law_676 (by decide) ?_
      refine GL_lv C (lv' := [(0, va_rf (some b)), (1, va_rf (some x)), (2, va_rf (some m)), (3, va_rf (some o)), (4, Value.int v)]) [2, 3, 4, 5, 6] rfl ?_
      exact kk _ _ _ _ h
    · refine GL_lconst C (v := 1) dL_law_665 (by decide) ?_
      refine GL_goto C (tgt := 670) dL_law_666 (by decide) ?_
      refine GL_lcmp C dL_law_670 ?_
      refine GL_if_eq C (tgt := 676) dL_law_671 (by decide) (fun _ => ?_) (fun hc => absurd (lw_cmp0 (by rw [heq, if_neg hb])) hc)
      refine GL_goto C (tgt := 2596) dL_law_676 (by decide) ?_
      refine GL_lv C (lv' := [(0, va_rf (some b)), (1, va_rf (some x)), (2, va_rf (some m)), (3, va_rf (some o)), (4, Value.int v)]) [2, 3, 4, 5, 6] rfl ?_
      exact kk _ _ _ _ h
set_option maxHeartbeats 4000000 in
set_option maxRecDepth 100000 in
theorem k_op_6 {p : Program} {l : Launch} {e : Env} {s : State} {m9 : MethodId} {below : List Frame} {meth : Method} {c : Code} {D : va_G} {cy : Nat → Nat} {A : Nat → Prop} {b L : Nat} {xs : Nat → Int32} (hl : l.stackTraces = false) (C : Cx p s m9 #[va_rf (some b)] meth c cL_law 8 lw_tbl "TrenchboardLaw" D cy A s.heap) (hZ : ZZ cy A s s.heap) (hX : va_X b L xs s s.heap) (hbl : b < s.heap.size) (hbA : ¬ A b) (hAs : A = fun q => s.heap.size ≤ q) (hr : meth.sig.returnType = ret) (e0 m0 x m o : Nat) (he : e0 = cy 9) (hm : m0 = cy 10) (v : Int32) (h1 : vp_in (v + 1) L) (SC SM : PT) (c1 s1 : Nat) (K : PT → PT → Nat → Nat → Prop) (kk : ∀ (SC SM : PT) (c1 s1 : Nat), K SC SM c1 s1 → GL p l e room_1 s m9 #[va_rf (some b)] below meth c D cy A s.heap 8 (lw_Z below #[Value.ref b] s) SC SM c1 s1 2596 [(0, va_rf (some b)), (1, va_rf (some x)), (2, va_rf (some m)), (3, va_rf (some o)), (4, Value.int v)] []) (h : w_op_6 e0 m0 x m o (xs (v + 1).toNatClampNeg) SC SM c1 s1 K) : GL p l e room_1 s m9 #[va_rf (some b)] below meth c D cy A s.heap 8 (lw_Z below #[Value.ref b] s) SC SM c1 s1 679 [(0, va_rf (some b)), (1, va_rf (some x)), (2, va_rf (some m)), (3, va_rf (some o)), (4, Value.int v)] [] := by
  obtain ⟨m1, m2, hc1, hs1, h⟩ := h
  replace hc1 := Nat.le_trans hc1 rC
  replace hs1 := Nat.le_trans hs1 rS
  refine GL_aload_n C (x := (some x)) 1 dL_law_679 rfl rfl ?_
  refine GL_aload_n C (x := (some b)) 0 dL_law_680 rfl rfl ?_
  refine GL_iload C (x := v) 4 dL_law_681 rfl ?_
  refine GL_iconst C (v := 1) dL_law_683 (by decide) ?_
  refine GL_iadd C dL_law_684 ?_
  refine GL_sld C hX hbl hbA h1 dL_law_685 ?_
  refine GL_aload_n C (x := (some o)) 3 dL_law_686 rfl rfl ?_
  refine GL_callW C hZ tw_3_48 tw_3_49 tw_1_0 tw_3_50 hy_L_survey ⟨Nat.le_of_ble_eq_true rfl, Nat.le_of_ble_eq_true rfl⟩ (As := [va_rf (some x), Value.int (xs (v + 1).toNatClampNeg), va_rf (some o)]) (rest := []) (c_L_survey l hl D cy (some x) (xs (v + 1).toNatClampNeg) (some o) SC m1 m2 _ h) rfl rfl (Nat.zero_le _) dL_law_687 ⟨hc1, hs1⟩ (fun k5 SC1 h => ?_)
  obtain ⟨hk1, h⟩ := h
  refine GL_istore C (i := 5) (lv' := [(5, Value.int k5), (0, va_rf (some b)), (1, va_rf (some x)), (2, va_rf (some m)), (3, va_rf (some o)), (4, Value.int v)]) dL_law_690 (by decide) (by first | rfl | simp [va_cat, vi_cat, vl_cat]) ?_
  refine GL_aload_n C (x := (some m)) 3 dL_law_692 rfl rfl ?_
  refine GL_aload_n C (x := (some b)) 1 dL_law_693 rfl rfl ?_
  refine GL_iload C (x := v) 5 dL_law_694 rfl ?_
  refine GL_iconst C (v := 1) dL_law_696 (by decide) ?_
  refine GL_iadd C dL_law_697 ?_
  refine GL_sld C hX hbl hbA h1 dL_law_698 ?_
  refine GL_callMi C hZ (Tf := TX9) (N := 50) hk1 (by decide) rfl tw_6_123 tw_6_124 tw_6_125 tw_1_7 tw_6_126 hy_X9_survey ⟨Nat.le_of_ble_eq_true rfl, Nat.le_of_ble_eq_true rfl⟩ (As := [Value.int (xs (v + 1).toNatClampNeg)]) (rest := []) (c_X9_survey l D cy m (xs (v + 1).toNatClampNeg) SM _ h) rfl rfl (by simp [va_cat, vi_cat, vl_cat]) dL_law_699 ⟨hc1, hs1⟩ (fun b5 SM1 h => ?_)
  obtain ⟨hk2, h⟩ := h
  refine GL_istore C (i := 6) (lv' := [(6, Value.int b5), (5, Value.int k5), (0, va_rf (some b)), (1, va_rf (some x)), (2, va_rf (some m)), (3, va_rf (some o)), (4, Value.int v)]) dL_law_702 (by decide) (by first | rfl | simp [va_cat, vi_cat, vl_cat]) ?_
  refine GL_aload_n C (x := (some m)) 4 dL_law_704 rfl rfl ?_
  refine GL_callMi C hZ (Tf := TX9) (N := 50) hk2 (by decide) rfl tw_6_41 tw_6_42 tw_6_43 tw_1_7 tw_6_44 hy_X9_thrown ⟨Nat.le_of_ble_eq_true rfl, Nat.le_of_ble_eq_true rfl⟩ (As := []) (rest := []) (c_X9_thrown l D cy m  SM1 _ h) rfl rfl (by simp [va_cat, vi_cat, vl_cat]) dL_law_705 ⟨hc1, hs1⟩ (fun t5 SM2 h => ?_)
  obtain ⟨ht, hout, h⟩ := h
  refine GL_iload C (x := k5) 1 dL_law_708 rfl ?_
  refine GL_icmp_eq C (tgt := 715) dL_law_710 (by decide) (fun _ => ?_) (fun hc => absurd ht hc)
  refine GL_iload C (x := k5) 1 dL_law_715 rfl ?_
  refine GL_if_ne C (tgt := 732) dL_law_717 (by decide) (fun _ => ?_) (fun hk0 => ?_)
  · refine GL_goto C (tgt := 2596) dL_law_732 (by decide) ?_
    refine GL_lv C (lv' := [(0, va_rf (some b)), (1, va_rf (some x)), (2, va_rf (some m)), (3, va_rf (some o)), (4, Value.int v)]) [2, 3, 4, 5, 6] rfl ?_
    exact kk _ _ _ _ h
  · obtain ⟨ho, hin, heq⟩ := hout hk0
    refine GL_aload_n C (x := (some o)) 5 dL_law_720 rfl rfl ?_
    refine GL_iconst C (v := 0) dL_law_721 (by decide) ?_
    refine GL_lald C ho hin dL_law_722 ?_
    refine GL_iload C (x := b5) 0 dL_law_723 rfl ?_
    refine GL_i2l C dL_law_725 ?_
    refine GL_lcmp C dL_law_726 ?_
    refine GL_if_eq C (tgt := 732) dL_law_727 (by decide) (fun _ => ?_) (fun hc => absurd (lw_cmp0 heq) hc)
    refine GL_goto C (tgt := 2596) dL_law_732 (by decide) ?_
    refine GL_lv C (lv' := [(0, va_rf (some b)), (1, va_rf (some x)), (2, va_rf (some m)), (3, va_rf (some o)), (4, Value.int v)]) [2, 3, 4, 5, 6] rfl ?_
    exact kk _ _ _ _ h
set_option maxHeartbeats 4000000 in
set_option maxRecDepth 100000 in
theorem k_op_7 {p : Program} {l : Launch} {e : Env} {s : State} {m9 : MethodId} {below : List Frame} {meth : Method} {c : Code} {D : va_G} {cy : Nat → Nat} {A : Nat → Prop} {b L : Nat} {xs : Nat → Int32} (hl : l.stackTraces = false) (C : Cx p s m9 #[va_rf (some b)] meth c cL_law 8 lw_tbl "TrenchboardLaw" D cy A s.heap) (hZ : ZZ cy A s s.heap) (hX : va_X b L xs s s.heap) (hbl : b < s.heap.size) (hbA : ¬ A b) (hAs : A = fun q => s.heap.size ≤ q) (hr : meth.sig.returnType = ret) (e0 m0 x m o : Nat) (he : e0 = cy 9) (hm : m0 = cy 10) (v : Int32) (h1 : vp_in (v + 1) L) (h2 : vp_in (v + 2) L) (SC SM : PT) (c1 s1 : Nat) (K : PT → PT → Nat → Nat → Prop) (kk : ∀ (SC SM : PT) (c1 s1 : Nat), K SC SM c1 s1 → GL p l e room_1 s m9 #[va_rf (some b)] below meth c D cy A s.heap 8 (lw_Z below #[Value.ref b] s) SC SM c1 s1 2596 [(0, va_rf (some b)), (1, va_rf (some x)), (2, va_rf (some m)), (3, va_rf (some o)), (4, Value.int v)] []) (h : w_op_7 e0 m0 x m o (xs (v + 1).toNatClampNeg) (xs (v + 2).toNatClampNeg) SC SM c1 s1 K) : GL p l e room_1 s m9 #[va_rf (some b)] below meth c D cy A s.heap 8 (lw_Z below #[Value.ref b] s) SC SM c1 s1 735 [(0, va_rf (some b)), (1, va_rf (some x)), (2, va_rf (some m)), (3, va_rf (some o)), (4, Value.int v)] [] := by
  obtain ⟨m1, m2, hc1, hs1, h⟩ := h
  replace hc1 := Nat.le_trans hc1 rC
  replace hs1 := Nat.le_trans hs1 rS
  refine GL_aload_n C (x := (some x)) 1 dL_law_735 rfl rfl ?_
  refine GL_aload_n C (x := (some b)) 0 dL_law_736 rfl rfl ?_
  refine GL_iload C (x := v) 4 dL_law_737 rfl ?_
  refine GL_iconst C (v := 1) dL_law_739 (by decide) ?_
  refine GL_iadd C dL_law_740 ?_
  refine GL_sld C hX hbl hbA h1 dL_law_741 ?_
  refine GL_aload_n C (x := (some b)) 0 dL_law_742 rfl rfl ?_
  refine GL_iload C (x := v) 4 dL_law_743 rfl ?_
  refine GL_iconst C (v := 2) dL_law_745 (by decide) ?_
  refine GL_iadd C dL_law_746 ?_
  refine GL_sld C hX hbl hbA h2 dL_law_747 ?_
  refine GL_aload_n C (x := (some o)) 3 dL_law_748 rfl rfl ?_
  refine GL_callW C hZ tw_3_61 tw_3_62 tw_1_0 tw_3_63 hy_L_trial ⟨Nat.le_of_ble_eq_true rfl, Nat.le_of_ble_eq_true rfl⟩ (As := [va_rf (some x), Value.int (xs (v + 1).toNatClampNeg), Value.int (xs (v + 2).toNatClampNeg), va_rf (some o)]) (rest := []) (c_L_trial l hl D cy (some x) (xs (v + 1).toNatClampNeg) (xs (v + 2).toNatClampNeg) (some o) SC m1 m2 _ h) rfl rfl (Nat.zero_le _) dL_law_749 ⟨hc1, hs1⟩ (fun k5 SC1 h => ?_)
  obtain ⟨hk1, h⟩ := h
  refine GL_istore C (i := 5) (lv' := [(5, Value.int k5), (0, va_rf (some b)), (1, va_rf (some x)), (2, va_rf (some m)), (3, va_rf (some o)), (4, Value.int v)]) dL_law_752 (by decide) (by first | rfl | simp [va_cat, vi_cat, vl_cat]) ?_
  refine GL_aload_n C (x := (some m)) 3 dL_law_754 rfl rfl ?_
  refine GL_aload_n C (x := (some b)) 1 dL_law_755 rfl rfl ?_
  refine GL_iload C (x := v) 5 dL_law_756 rfl ?_
  refine GL_iconst C (v := 1) dL_law_758 (by decide) ?_
  refine GL_iadd C dL_law_759 ?_
  refine GL_sld C hX hbl hbA h1 dL_law_760 ?_
  refine GL_aload_n C (x := (some b)) 1 dL_law_761 rfl rfl ?_
  refine GL_iload C (x := v) 5 dL_law_762 rfl ?_
  refine GL_iconst C (v := 2) dL_law_764 (by decide) ?_
  refine GL_iadd C dL_law_765 ?_
  refine GL_sld C hX hbl hbA h2 dL_law_766 ?_
  refine GL_callMi C hZ (Tf := TX9) (N := 50) hk1 (by decide) rfl tw_6_127 tw_6_128 tw_6_129 tw_1_7 tw_6_130 hy_X9_trial ⟨Nat.le_of_ble_eq_true rfl, Nat.le_of_ble_eq_true rfl⟩ (As := [Value.int (xs (v + 1).toNatClampNeg), Value.int (xs (v + 2).toNatClampNeg)]) (rest := []) (c_X9_trial l D cy m (xs (v + 1).toNatClampNeg) (xs (v + 2).toNatClampNeg) SM _ h) rfl rfl (by simp [va_cat, vi_cat, vl_cat]) dL_law_767 ⟨hc1, hs1⟩ (fun b5 SM1 h => ?_)
  obtain ⟨hk2, h⟩ := h
  refine GL_istore C (i := 6) (lv' := [(6, Value.int b5), (5, Value.int k5), (0, va_rf (some b)), (1, va_rf (some x)), (2, va_rf (some m)), (3, va_rf (some o)), (4, Value.int v)]) dL_law_770 (by decide) (by first | rfl | simp [va_cat, vi_cat, vl_cat]) ?_
  refine GL_aload_n C (x := (some m)) 4 dL_law_772 rfl rfl ?_
  refine GL_callMi C hZ (Tf := TX9) (N := 50) hk2 (by decide) rfl tw_6_41 tw_6_42 tw_6_43 tw_1_7 tw_6_44 hy_X9_thrown ⟨Nat.le_of_ble_eq_true rfl, Nat.le_of_ble_eq_true rfl⟩ (As := []) (rest := []) (c_X9_thrown l D cy m  SM1 _ h) rfl rfl (by simp [va_cat, vi_cat, vl_cat]) dL_law_773 ⟨hc1, hs1⟩ (fun t5 SM2 h => ?_)
  obtain ⟨ht, hout, h⟩ := h
  refine GL_iload C (x := k5) 1 dL_law_776 rfl ?_
  refine GL_icmp_eq C (tgt := 783) dL_law_778 (by decide) (fun _ => ?_) (fun hc => absurd ht hc)
  refine GL_iload C (x := k5) 1 dL_law_783 rfl ?_
  refine GL_if_ne C (tgt := 800) dL_law_785 (by decide) (fun _ => ?_) (fun hk0 => ?_)
  · refine GL_goto C (tgt := 2596) dL_law_800 (by decide) ?_
    refine GL_lv C (lv' := [(0, va_rf (some b)), (1, va_rf (some x)), (2, va_rf (some m)), (3, va_rf (some o)), (4, Value.int v)]) [2, 3, 4, 5, 6] rfl ?_
    exact kk _ _ _ _ h
  · obtain ⟨ho, hin, heq⟩ := hout hk0
    refine GL_aload_n C (x := (some o)) 5 dL_law_788 rfl rfl ?_
    refine GL_iconst C (v := 0) dL_law_789 (by decide) ?_
    refine GL_lald C ho hin dL_law_790 ?_
    refine GL_iload C (x := b5) 0 dL_law_791 rfl ?_
    refine GL_i2l C dL_law_793 ?_
    refine GL_lcmp C dL_law_794 ?_
    refine GL_if_eq C (tgt := 800) dL_law_795 (by decide) (fun _ => ?_) (fun hc => absurd (lw_cmp0 heq) hc)
    refine GL_goto C (tgt := 2596) dL_law_800 (by decide) ?_
    refine GL_lv C (lv' := [(0, va_rf (some b)), (1, va_rf (some x)), (2, va_rf (some m)), (3, va_rf (some o)), (4, Value.int v)]) [2, 3, 4, 5, 6] rfl ?_
    exact kk _ _ _ _ h
set_option maxHeartbeats 4000000 in
set_option maxRecDepth 100000 in
theorem k_op_8 {p : Program} {l : Launch} {e : Env} {s : State} {m9 : MethodId} {below : List Frame} {meth : Method} {c : Code} {D : va_G} {cy : Nat → Nat} {A : Nat → Prop} {b L : Nat} {xs : Nat → Int32} (hl : l.stackTraces = false) (C : Cx p s m9 #[va_rf (some b)] meth c cL_law 8 lw_tbl "TrenchboardLaw" D cy A s.heap) (hZ : ZZ cy A s s.heap) (hX : va_X b L xs s s.heap) (hbl : b < s.heap.size) (hbA : ¬ A b) (hAs : A = fun q => s.heap.size ≤ q) (hr : meth.sig.returnType = ret) (e0 m0 x m o : Nat) (he : e0 = cy 9) (hm : m0 = cy 10) (v : Int32) (h1 : vp_in (v + 1) L) (h2 : vp_in (v + 2) L) (h3 : vp_in (v + 3) L) (h4 : vp_in (v + 4) L) (h5 : vp_in (v + 5) L) (h6 : vp_in (v + 6) L) (h7 : vp_in (v + 7) L) (h8 : vp_in (v + 8) L) (SC SM : PT) (c1 s1 : Nat) (K : PT → PT → Nat → Nat → Prop) (kk : ∀ (SC SM : PT) (c1 s1 : Nat), K SC SM c1 s1 → GL p l e room_1 s m9 #[va_rf (some b)] below meth c D cy A s.heap 8 (lw_Z below #[Value.ref b] s) SC SM c1 s1 2596 [(0, va_rf (some b)), (1, va_rf (some x)), (2, va_rf (some m)), (3, va_rf (some o)), (4, Value.int v)] []) (h : w_op_8 e0 m0 x m o (xs (v + 1).toNatClampNeg) (xs (v + 2).toNatClampNeg) (xs (v + 3).toNatClampNeg) (xs (v + 4).toNatClampNeg) (xs (v + 5).toNatClampNeg) (xs (v + 6).toNatClampNeg) (xs (v + 7).toNatClampNeg) (xs (v + 8).toNatClampNeg) SC SM c1 s1 K) : GL p l e room_1 s m9 #[va_rf (some b)] below meth c D cy A s.heap 8 (lw_Z below #[Value.ref b] s) SC SM c1 s1 803 [(0, va_rf (some b)), (1, va_rf (some x)), (2, va_rf (some m)), (3, va_rf (some o)), (4, Value.int v)] [] := by
  obtain ⟨m1, m2, hc1, hs1, h⟩ := h
  replace hc1 := Nat.le_trans hc1 rC
  replace hs1 := Nat.le_trans hs1 rS
  refine GL_aload_n C (x := (some x)) 1 dL_law_803 rfl rfl ?_
  refine GL_aload_n C (x := (some b)) 0 dL_law_804 rfl rfl ?_
  refine GL_iload C (x := v) 4 dL_law_805 rfl ?_
  refine GL_iconst C (v := 1) dL_law_807 (by decide) ?_
  refine GL_iadd C dL_law_808 ?_
  refine GL_sld C hX hbl hbA h1 dL_law_809 ?_
  refine GL_aload_n C (x := (some b)) 0 dL_law_810 rfl rfl ?_
  refine GL_iload C (x := v) 4 dL_law_811 rfl ?_
  refine GL_iconst C (v := 2) dL_law_813 (by decide) ?_
  refine GL_iadd C dL_law_814 ?_
  refine GL_sld C hX hbl hbA h2 dL_law_815 ?_
  refine GL_aload_n C (x := (some b)) 0 dL_law_816 rfl rfl ?_
  refine GL_iload C (x := v) 4 dL_law_817 rfl ?_
  refine GL_iconst C (v := 3) dL_law_819 (by decide) ?_
  refine GL_iadd C dL_law_820 ?_
  refine GL_sld C hX hbl hbA h3 dL_law_821 ?_
  refine GL_aload_n C (x := (some b)) 0 dL_law_822 rfl rfl ?_
  refine GL_iload C (x := v) 4 dL_law_823 rfl ?_
  refine GL_iconst C (v := 4) dL_law_825 (by decide) ?_
  refine GL_iadd C dL_law_826 ?_
  refine GL_sld C hX hbl hbA h4 dL_law_827 ?_
  refine GL_aload_n C (x := (some b)) 0 dL_law_828 rfl rfl ?_
  refine GL_iload C (x := v) 4 dL_law_829 rfl ?_
  refine GL_iconst C (v := 5) dL_law_831 (by decide) ?_
  refine GL_iadd C dL_law_832 ?_
  refine GL_sld C hX hbl hbA h5 dL_law_833 ?_
  refine GL_aload_n C (x := (some b)) 0 dL_law_834 rfl rfl ?_
  refine GL_iload C (x := v) 4 dL_law_835 rfl ?_
  refine GL_bipush C (v := 6) dL_law_837 (by decide) ?_
  refine GL_iadd C dL_law_839 ?_
  refine GL_sld C hX hbl hbA h6 dL_law_840 ?_
  refine GL_aload_n C (x := (some b)) 0 dL_law_841 rfl rfl ?_
  refine GL_iload C (x := v) 4 dL_law_842 rfl ?_
  refine GL_bipush C (v := 7) dL_law_844 (by decide) ?_
  refine GL_iadd C dL_law_846 ?_
  refine GL_sld C hX hbl hbA h7 dL_law_847 ?_
  refine GL_aload_n C (x := (some b)) 0 dL_law_848 rfl rfl ?_
  refine GL_iload C (x := v) 4 dL_law_849 rfl ?_
  refine GL_bipush C (v := 8) dL_law_851 (by decide) ?_
  refine GL_iadd C dL_law_853 ?_
  refine GL_sld C hX hbl hbA h8 dL_law_854 ?_
  refine GL_aload_n C (x := (some o)) 3 dL_law_855 rfl rfl ?_
  refine GL_callW C hZ tw_3_73 tw_3_74 tw_1_0 tw_3_75 hy_L_ask ⟨Nat.le_of_ble_eq_true rfl, Nat.le_of_ble_eq_true rfl⟩ (As := [va_rf (some x), Value.int (xs (v + 1).toNatClampNeg), Value.int (xs (v + 2).toNatClampNeg), Value.int (xs (v + 3).toNatClampNeg), Value.int (xs (v + 4).toNatClampNeg), Value.int (xs (v + 5).toNatClampNeg), Value.int (xs (v + 6).toNatClampNeg), Value.int (xs (v + 7).toNatClampNeg), Value.int (xs (v + 8).toNatClampNeg), va_rf (some o)]) (rest := []) (c_L_ask l hl D cy (some x) (xs (v + 1).toNatClampNeg) (xs (v + 2).toNatClampNeg) (xs (v + 3).toNatClampNeg) (xs (v + 4).toNatClampNeg) (xs (v + 5).toNatClampNeg) (xs (v + 6).toNatClampNeg) (xs (v + 7).toNatClampNeg) (xs (v + 8).toNatClampNeg) (some o) SC m1 m2 _ h) rfl rfl (Nat.zero_le _) dL_law_856 ⟨hc1, hs1⟩ (fun k5 SC1 h => ?_)
  obtain ⟨hk1, h⟩ := h
  refine GL_istore C (i := 5) (lv' := [(5, Value.int k5), (0, va_rf (some b)), (1, va_rf (some x)), (2, va_rf (some m)), (3, va_rf (some o)), (4, Value.int v)]) dL_law_859 (by decide) (by first | rfl | simp [va_cat, vi_cat, vl_cat]) ?_
  refine GL_aload_n C (x := (some m)) 3 dL_law_861 rfl rfl ?_
  refine GL_aload_n C (x := (some b)) 1 dL_law_862 rfl rfl ?_
  refine GL_iload C (x := v) 5 dL_law_863 rfl ?_
  refine GL_iconst C (v := 1) dL_law_865 (by decide) ?_
  refine GL_iadd C dL_law_866 ?_
  refine GL_sld C hX hbl hbA h1 dL_law_867 ?_
  refine GL_aload_n C (x := (some b)) 1 dL_law_868 rfl rfl ?_
  refine GL_iload C (x := v) 5 dL_law_869 rfl ?_
  refine GL_iconst C (v := 2) dL_law_871 (by decide) ?_
  refine GL_iadd C dL_law_872 ?_
  refine GL_sld C hX hbl hbA h2 dL_law_873 ?_
  refine GL_aload_n C (x := (some b)) 1 dL_law_874 rfl rfl ?_
  refine GL_iload C (x := v) 5 dL_law_875 rfl ?_
  refine GL_iconst C (v := 3) dL_law_877 (by decide) ?_
  refine GL_iadd C dL_law_878 ?_
  refine GL_sld C hX hbl hbA h3 dL_law_879 ?_
  refine GL_aload_n C (x := (some b)) 1 dL_law_880 rfl rfl ?_
  refine GL_iload C (x := v) 5 dL_law_881 rfl ?_
  refine GL_iconst C (v := 4) dL_law_883 (by decide) ?_
  refine GL_iadd C dL_law_884 ?_
  refine GL_sld C hX hbl hbA h4 dL_law_885 ?_
  refine GL_aload_n C (x := (some b)) 1 dL_law_886 rfl rfl ?_
  refine GL_iload C (x := v) 5 dL_law_887 rfl ?_
  refine GL_iconst C (v := 5) dL_law_889 (by decide) ?_
  refine GL_iadd C dL_law_890 ?_
  refine GL_sld C hX hbl hbA h5 dL_law_891 ?_
  refine GL_aload_n C (x := (some b)) 1 dL_law_892 rfl rfl ?_
  refine GL_iload C (x := v) 5 dL_law_893 rfl ?_
  refine GL_bipush C (v := 6) dL_law_895 (by decide) ?_
  refine GL_iadd C dL_law_897 ?_
  refine GL_sld C hX hbl hbA h6 dL_law_898 ?_
  refine GL_aload_n C (x := (some b)) 1 dL_law_899 rfl rfl ?_
  refine GL_iload C (x := v) 5 dL_law_900 rfl ?_
  refine GL_bipush C (v := 7) dL_law_902 (by decide) ?_
  refine GL_iadd C dL_law_904 ?_
  refine GL_sld C hX hbl hbA h7 dL_law_905 ?_
  refine GL_aload_n C (x := (some b)) 1 dL_law_906 rfl rfl ?_
  refine GL_iload C (x := v) 5 dL_law_907 rfl ?_
  refine GL_bipush C (v := 8) dL_law_909 (by decide) ?_
  refine GL_iadd C dL_law_911 ?_
  refine GL_sld C hX hbl hbA h8 dL_law_912 ?_
  refine GL_callMi C hZ (Tf := TX9) (N := 50) hk1 (by decide) rfl tw_6_135 tw_6_136 tw_6_137 tw_1_7 tw_6_138 hy_X9_ask ⟨Nat.le_of_ble_eq_true rfl, Nat.le_of_ble_eq_true rfl⟩ (As := [Value.int (xs (v + 1).toNatClampNeg), Value.int (xs (v + 2).toNatClampNeg), Value.int (xs (v + 3).toNatClampNeg), Value.int (xs (v + 4).toNatClampNeg), Value.int (xs (v + 5).toNatClampNeg), Value.int (xs (v + 6).toNatClampNeg), Value.int (xs (v + 7).toNatClampNeg), Value.int (xs (v + 8).toNatClampNeg)]) (rest := []) (c_X9_ask l D cy m (xs (v + 1).toNatClampNeg) (xs (v + 2).toNatClampNeg) (xs (v + 3).toNatClampNeg) (xs (v + 4).toNatClampNeg) (xs (v + 5).toNatClampNeg) (xs (v + 6).toNatClampNeg) (xs (v + 7).toNatClampNeg) (xs (v + 8).toNatClampNeg) SM _ h) rfl rfl (by simp [va_cat, vi_cat, vl_cat]) dL_law_913 ⟨hc1, hs1⟩ (fun b5 SM1 h => ?_)
  obtain ⟨hk2, h⟩ := h
  refine GL_istore C (i := 6) (lv' := [(6, Value.int b5), (5, Value.int k5), (0, va_rf (some b)), (1, va_rf (some x)), (2, va_rf (some m)), (3, va_rf (some o)), (4, Value.int v)]) dL_law_916 (by decide) (by first | rfl | simp [va_cat, vi_cat, vl_cat]) ?_
  refine GL_aload_n C (x := (some m)) 4 dL_law_918 rfl rfl ?_
  refine GL_callMi C hZ (Tf := TX9) (N := 50) hk2 (by decide) rfl tw_6_41 tw_6_42 tw_6_43 tw_1_7 tw_6_44 hy_X9_thrown ⟨Nat.le_of_ble_eq_true rfl, Nat.le_of_ble_eq_true rfl⟩ (As := []) (rest := []) (c_X9_thrown l D cy m  SM1 _ h) rfl rfl (by simp [va_cat, vi_cat, vl_cat]) dL_law_919 ⟨hc1, hs1⟩ (fun t5 SM2 h => ?_)
  obtain ⟨ht, hout, h⟩ := h
  refine GL_iload C (x := k5) 1 dL_law_922 rfl ?_
  refine GL_icmp_eq C (tgt := 929) dL_law_924 (by decide) (fun _ => ?_) (fun hc => absurd ht hc)
  refine GL_iload C (x := k5) 1 dL_law_929 rfl ?_
  refine GL_if_ne C (tgt := 946) dL_law_931 (by decide) (fun _ => ?_) (fun hk0 => ?_)
  · refine GL_goto C (tgt := 2596) dL_law_946 (by decide) ?_
    refine GL_lv C (lv' := [(0, va_rf (some b)), (1, va_rf (some x)), (2, va_rf (some m)), (3, va_rf (some o)), (4, Value.int v)]) [2, 3, 4, 5, 6] rfl ?_
    exact kk _ _ _ _ h
  · obtain ⟨ho, hin, heq⟩ := hout hk0
    refine GL_aload_n C (x := (some o)) 5 dL_law_934 rfl rfl ?_
    refine GL_iconst C (v := 0) dL_law_935 (by decide) ?_
    refine GL_lald C ho hin dL_law_936 ?_
    refine GL_iload C (x := b5) 0 dL_law_937 rfl ?_
    refine GL_i2l C dL_law_939 ?_
    refine GL_lcmp C dL_law_940 ?_
    refine GL_if_eq C (tgt := 946) dL_law_941 (by decide) (fun _ => ?_) (fun hc => absurd (lw_cmp0 heq) hc)
    refine GL_goto C (tgt := 2596) dL_law_946 (by decide) ?_
    refine GL_lv C (lv' := [(0, va_rf (some b)), (1, va_rf (some x)), (2, va_rf (some m)), (3, va_rf (some o)), (4, Value.int v)]) [2, 3, 4, 5, 6] rfl ?_
    exact kk _ _ _ _ h
set_option maxHeartbeats 4000000 in
set_option maxRecDepth 100000 in
theorem k_op_9 {p : Program} {l : Launch} {e : Env} {s : State} {m9 : MethodId} {below : List Frame} {meth : Method} {c : Code} {D : va_G} {cy : Nat → Nat} {A : Nat → Prop} {b L : Nat} {xs : Nat → Int32} (hl : l.stackTraces = false) (C : Cx p s m9 #[va_rf (some b)] meth c cL_law 8 lw_tbl "TrenchboardLaw" D cy A s.heap) (hZ : ZZ cy A s s.heap) (hX : va_X b L xs s s.heap) (hbl : b < s.heap.size) (hbA : ¬ A b) (hAs : A = fun q => s.heap.size ≤ q) (hr : meth.sig.returnType = ret) (e0 m0 x m o : Nat) (he : e0 = cy 9) (hm : m0 = cy 10) (v : Int32) (h1 : vp_in (v + 1) L) (h2 : vp_in (v + 2) L) (SC SM : PT) (c1 s1 : Nat) (K : PT → PT → Nat → Nat → Prop) (kk : ∀ (SC SM : PT) (c1 s1 : Nat), K SC SM c1 s1 → GL p l e room_1 s m9 #[va_rf (some b)] below meth c D cy A s.heap 8 (lw_Z below #[Value.ref b] s) SC SM c1 s1 2596 [(0, va_rf (some b)), (1, va_rf (some x)), (2, va_rf (some m)), (3, va_rf (some o)), (4, Value.int v)] []) (h : w_op_9 e0 m0 x m o (xs (v + 1).toNatClampNeg) (xs (v + 2).toNatClampNeg) SC SM c1 s1 K) : GL p l e room_1 s m9 #[va_rf (some b)] below meth c D cy A s.heap 8 (lw_Z below #[Value.ref b] s) SC SM c1 s1 949 [(0, va_rf (some b)), (1, va_rf (some x)), (2, va_rf (some m)), (3, va_rf (some o)), (4, Value.int v)] [] := by
  obtain ⟨m1, m2, hc1, hs1, h⟩ := h
  replace hc1 := Nat.le_trans hc1 rC
  replace hs1 := Nat.le_trans hs1 rS
  refine GL_aload_n C (x := (some x)) 1 dL_law_949 rfl rfl ?_
  refine GL_aload_n C (x := (some b)) 0 dL_law_950 rfl rfl ?_
  refine GL_iload C (x := v) 4 dL_law_951 rfl ?_
  refine GL_iconst C (v := 1) dL_law_953 (by decide) ?_
  refine GL_iadd C dL_law_954 ?_
  refine GL_sld C hX hbl hbA h1 dL_law_955 ?_
  refine GL_aload_n C (x := (some b)) 0 dL_law_956 rfl rfl ?_
  refine GL_iload C (x := v) 4 dL_law_957 rfl ?_
  refine GL_iconst C (v := 2) dL_law_959 (by decide) ?_
  refine GL_iadd C dL_law_960 ?_
  refine GL_sld C hX hbl hbA h2 dL_law_961 ?_
  refine GL_aload_n C (x := (some o)) 3 dL_law_962 rfl rfl ?_
  refine GL_callW C hZ tw_3_168 tw_3_169 tw_1_0 tw_3_170 hy_L_grant ⟨Nat.le_of_ble_eq_true rfl, Nat.le_of_ble_eq_true rfl⟩ (As := [va_rf (some x), Value.int (xs (v + 1).toNatClampNeg), Value.int (xs (v + 2).toNatClampNeg), va_rf (some o)]) (rest := []) (c_L_grant l hl D cy (some x) (xs (v + 1).toNatClampNeg) (xs (v + 2).toNatClampNeg) (some o) SC m1 m2 _ h) rfl rfl (Nat.zero_le _) dL_law_963 ⟨hc1, hs1⟩ (fun k5 SC1 h => ?_)
  obtain ⟨hk1, h⟩ := h
  refine GL_istore C (i := 5) (lv' := [(5, Value.int k5), (0, va_rf (some b)), (1, va_rf (some x)), (2, va_rf (some m)), (3, va_rf (some o)), (4, Value.int v)]) dL_law_966 (by decide) (by first | rfl | simp [va_cat, vi_cat, vl_cat]) ?_
  refine GL_aload_n C (x := (some m)) 3 dL_law_968 rfl rfl ?_
  refine GL_aload_n C (x := (some b)) 1 dL_law_969 rfl rfl ?_
  refine GL_iload C (x := v) 5 dL_law_970 rfl ?_
  refine GL_iconst C (v := 1) dL_law_972 (by decide) ?_
  refine GL_iadd C dL_law_973 ?_
  refine GL_sld C hX hbl hbA h1 dL_law_974 ?_
  refine GL_aload_n C (x := (some b)) 1 dL_law_975 rfl rfl ?_
  refine GL_iload C (x := v) 5 dL_law_976 rfl ?_
  refine GL_iconst C (v := 2) dL_law_978 (by decide) ?_
  refine GL_iadd C dL_law_979 ?_
  refine GL_sld C hX hbl hbA h2 dL_law_980 ?_
  refine GL_callMi C hZ (Tf := TX9) (N := 50) hk1 (by decide) rfl tw_6_142 tw_6_143 tw_6_144 tw_1_7 tw_6_145 hy_X9_grant ⟨Nat.le_of_ble_eq_true rfl, Nat.le_of_ble_eq_true rfl⟩ (As := [Value.int (xs (v + 1).toNatClampNeg), Value.int (xs (v + 2).toNatClampNeg)]) (rest := []) (c_X9_grant l D cy m (xs (v + 1).toNatClampNeg) (xs (v + 2).toNatClampNeg) SM _ h) rfl rfl (by simp [va_cat, vi_cat, vl_cat]) dL_law_981 ⟨hc1, hs1⟩ (fun b5 SM1 h => ?_)
  obtain ⟨hk2, h⟩ := h
  refine GL_istore C (i := 6) (lv' := [(6, Value.int b5), (5, Value.int k5), (0, va_rf (some b)), (1, va_rf (some x)), (2, va_rf (some m)), (3, va_rf (some o)), (4, Value.int v)]) dL_law_984 (by decide) (by first | rfl | simp [va_cat, vi_cat, vl_cat]) ?_
  refine GL_aload_n C (x := (some m)) 4 dL_law_986 rfl rfl ?_
  refine GL_callMi C hZ (Tf := TX9) (N := 50) hk2 (by decide) rfl tw_6_41 tw_6_42 tw_6_43 tw_1_7 tw_6_44 hy_X9_thrown ⟨Nat.le_of_ble_eq_true rfl, Nat.le_of_ble_eq_true rfl⟩ (As := []) (rest := []) (c_X9_thrown l D cy m  SM1 _ h) rfl rfl (by simp [va_cat, vi_cat, vl_cat]) dL_law_987 ⟨hc1, hs1⟩ (fun t5 SM2 h => ?_)
  obtain ⟨ht, hout, h⟩ := h
  refine GL_iload C (x := k5) 1 dL_law_990 rfl ?_
  refine GL_icmp_eq C (tgt := 997) dL_law_992 (by decide) (fun _ => ?_) (fun hc => absurd ht hc)
  refine GL_iload C (x := k5) 1 dL_law_997 rfl ?_
  refine GL_if_ne C (tgt := 1014) dL_law_999 (by decide) (fun _ => ?_) (fun hk0 => ?_)
  · refine GL_goto C (tgt := 2596) dL_law_1014 (by decide) ?_
    refine GL_lv C (lv' := [(0, va_rf (some b)), (1, va_rf (some x)), (2, va_rf (some m)), (3, va_rf (some o)), (4, Value.int v)]) [2, 3, 4, 5, 6] rfl ?_
    exact kk _ _ _ _ h
  · obtain ⟨ho, hin, heq⟩ := hout hk0
    refine GL_aload_n C (x := (some o)) 5 dL_law_1002 rfl rfl ?_
    refine GL_iconst C (v := 0) dL_law_1003 (by decide) ?_
    refine GL_lald C ho hin dL_law_1004 ?_
    refine GL_iload C (x := b5) 0 dL_law_1005 rfl ?_
    refine GL_i2l C dL_law_1007 ?_
    refine GL_lcmp C dL_law_1008 ?_
    refine GL_if_eq C (tgt := 1014) dL_law_1009 (by decide) (fun _ => ?_) (fun hc => absurd (lw_cmp0 heq) hc)
    refine GL_goto C (tgt := 2596) dL_law_1014 (by decide) ?_
    refine GL_lv C (lv' := [(0, va_rf (some b)), (1, va_rf (some x)), (2, va_rf (some m)), (3, va_rf (some o)), (4, Value.int v)]) [2, 3, 4, 5, 6] rfl ?_
    exact kk _ _ _ _ h
set_option maxHeartbeats 4000000 in
set_option maxRecDepth 100000 in
theorem k_op_10 {p : Program} {l : Launch} {e : Env} {s : State} {m9 : MethodId} {below : List Frame} {meth : Method} {c : Code} {D : va_G} {cy : Nat → Nat} {A : Nat → Prop} {b L : Nat} {xs : Nat → Int32} (hl : l.stackTraces = false) (C : Cx p s m9 #[va_rf (some b)] meth c cL_law 8 lw_tbl "TrenchboardLaw" D cy A s.heap) (hZ : ZZ cy A s s.heap) (hX : va_X b L xs s s.heap) (hbl : b < s.heap.size) (hbA : ¬ A b) (hAs : A = fun q => s.heap.size ≤ q) (hr : meth.sig.returnType = ret) (e0 m0 x m o : Nat) (he : e0 = cy 9) (hm : m0 = cy 10) (v : Int32) (h1 : vp_in (v + 1) L) (SC SM : PT) (c1 s1 : Nat) (K : PT → PT → Nat → Nat → Prop) (kk : ∀ (SC SM : PT) (c1 s1 : Nat), K SC SM c1 s1 → GL p l e room_1 s m9 #[va_rf (some b)] below meth c D cy A s.heap 8 (lw_Z below #[Value.ref b] s) SC SM c1 s1 2596 [(0, va_rf (some b)), (1, va_rf (some x)), (2, va_rf (some m)), (3, va_rf (some o)), (4, Value.int v)] []) (h : w_op_10 e0 m0 x m o (xs (v + 1).toNatClampNeg) SC SM c1 s1 K) : GL p l e room_1 s m9 #[va_rf (some b)] below meth c D cy A s.heap 8 (lw_Z below #[Value.ref b] s) SC SM c1 s1 1017 [(0, va_rf (some b)), (1, va_rf (some x)), (2, va_rf (some m)), (3, va_rf (some o)), (4, Value.int v)] [] := by
  obtain ⟨m1, m2, hc1, hs1, h⟩ := h
  replace hc1 := Nat.le_trans hc1 rC
  replace hs1 := Nat.le_trans hs1 rS
  refine GL_aload_n C (x := (some x)) 1 dL_law_1017 rfl rfl ?_
  refine GL_aload_n C (x := (some b)) 0 dL_law_1018 rfl rfl ?_
  refine GL_iload C (x := v) 4 dL_law_1019 rfl ?_
  refine GL_iconst C (v := 1) dL_law_1021 (by decide) ?_
  refine GL_iadd C dL_law_1022 ?_
  refine GL_sld C hX hbl hbA h1 dL_law_1023 ?_
  refine GL_aload_n C (x := (some o)) 3 dL_law_1024 rfl rfl ?_
  refine GL_callW C hZ tw_4_19 tw_4_20 tw_1_0 tw_4_21 hy_L_refuse ⟨Nat.le_of_ble_eq_true rfl, Nat.le_of_ble_eq_true rfl⟩ (As := [va_rf (some x), Value.int (xs (v + 1).toNatClampNeg), va_rf (some o)]) (rest := []) (c_L_refuse l hl D cy (some x) (xs (v + 1).toNatClampNeg) (some o) SC m1 m2 _ h) rfl rfl (Nat.zero_le _) dL_law_1025 ⟨hc1, hs1⟩ (fun k5 SC1 h => ?_)
  obtain ⟨hk1, h⟩ := h
  refine GL_istore C (i := 5) (lv' := [(5, Value.int k5), (0, va_rf (some b)), (1, va_rf (some x)), (2, va_rf (some m)), (3, va_rf (some o)), (4, Value.int v)]) dL_law_1028 (by decide) (by first | rfl | simp [va_cat, vi_cat, vl_cat]) ?_
  refine GL_aload_n C (x := (some m)) 3 dL_law_1030 rfl rfl ?_
  refine GL_aload_n C (x := (some b)) 1 dL_law_1031 rfl rfl ?_
  refine GL_iload C (x := v) 5 dL_law_1032 rfl ?_
  refine GL_iconst C (v := 1) dL_law_1034 (by decide) ?_
  refine GL_iadd C dL_law_1035 ?_
  refine GL_sld C hX hbl hbA h1 dL_law_1036 ?_
  refine GL_callMi C hZ (Tf := TX9) (N := 50) hk1 (by decide) rfl tw_6_178 tw_6_179 tw_6_180 tw_1_7 tw_6_181 hy_X9_refuse ⟨Nat.le_of_ble_eq_true rfl, Nat.le_of_ble_eq_true rfl⟩ (As := [Value.int (xs (v + 1).toNatClampNeg)]) (rest := []) (c_X9_refuse l D cy m (xs (v + 1).toNatClampNeg) SM _ h) rfl rfl (by simp [va_cat, vi_cat, vl_cat]) dL_law_1037 ⟨hc1, hs1⟩ (fun b5 SM1 h => ?_)
  obtain ⟨hk2, h⟩ := h
  refine GL_istore C (i := 6) (lv' := [(6, Value.int b5), (5, Value.int k5), (0, va_rf (some b)), (1, va_rf (some x)), (2, va_rf (some m)), (3, va_rf (some o)), (4, Value.int v)]) dL_law_1040 (by decide) (by first | rfl | simp [va_cat, vi_cat, vl_cat]) ?_
  refine GL_aload_n C (x := (some m)) 4 dL_law_1042 rfl rfl ?_
  refine GL_callMi C hZ (Tf := TX9) (N := 50) hk2 (by decide) rfl tw_6_41 tw_6_42 tw_6_43 tw_1_7 tw_6_44 hy_X9_thrown ⟨Nat.le_of_ble_eq_true rfl, Nat.le_of_ble_eq_true rfl⟩ (As := []) (rest := []) (c_X9_thrown l D cy m  SM1 _ h) rfl rfl (by simp [va_cat, vi_cat, vl_cat]) dL_law_1043 ⟨hc1, hs1⟩ (fun t5 SM2 h => ?_)
  obtain ⟨ht, hout, h⟩ := h
  refine GL_iload C (x := k5) 1 dL_law_1046 rfl ?_
  refine GL_icmp_eq C (tgt := 1053) dL_law_1048 (by decide) (fun _ => ?_) (fun hc => absurd ht hc)
  refine GL_iload C (x := k5) 1 dL_law_1053 rfl ?_
  refine GL_if_ne C (tgt := 1070) dL_law_1055 (by decide) (fun _ => ?_) (fun hk0 => ?_)
  · refine GL_goto C (tgt := 2596) dL_law_1070 (by decide) ?_
    refine GL_lv C (lv' := [(0, va_rf (some b)), (1, va_rf (some x)), (2, va_rf (some m)), (3, va_rf (some o)), (4, Value.int v)]) [2, 3, 4, 5, 6] rfl ?_
    exact kk _ _ _ _ h
  · obtain ⟨ho, hin, heq⟩ := hout hk0
    refine GL_aload_n C (x := (some o)) 5 dL_law_1058 rfl rfl ?_
    refine GL_iconst C (v := 0) dL_law_1059 (by decide) ?_
    refine GL_lald C ho hin dL_law_1060 ?_
    refine GL_iload C (x := b5) 0 dL_law_1061 rfl ?_
    refine GL_i2l C dL_law_1063 ?_
    refine GL_lcmp C dL_law_1064 ?_
    refine GL_if_eq C (tgt := 1070) dL_law_1065 (by decide) (fun _ => ?_) (fun hc => absurd (lw_cmp0 heq) hc)
    refine GL_goto C (tgt := 2596) dL_law_1070 (by decide) ?_
    refine GL_lv C (lv' := [(0, va_rf (some b)), (1, va_rf (some x)), (2, va_rf (some m)), (3, va_rf (some o)), (4, Value.int v)]) [2, 3, 4, 5, 6] rfl ?_
    exact kk _ _ _ _ h
set_option maxHeartbeats 4000000 in
set_option maxRecDepth 100000 in
theorem k_op_11 {p : Program} {l : Launch} {e : Env} {s : State} {m9 : MethodId} {below : List Frame} {meth : Method} {c : Code} {D : va_G} {cy : Nat → Nat} {A : Nat → Prop} {b L : Nat} {xs : Nat → Int32} (hl : l.stackTraces = false) (C : Cx p s m9 #[va_rf (some b)] meth c cL_law 8 lw_tbl "TrenchboardLaw" D cy A s.heap) (hZ : ZZ cy A s s.heap) (hX : va_X b L xs s s.heap) (hbl : b < s.heap.size) (hbA : ¬ A b) (hAs : A = fun q => s.heap.size ≤ q) (hr : meth.sig.returnType = ret) (e0 m0 x m o : Nat) (he : e0 = cy 9) (hm : m0 = cy 10) (v : Int32) (h1 : vp_in (v + 1) L) (h2 : vp_in (v + 2) L) (SC SM : PT) (c1 s1 : Nat) (K : PT → PT → Nat → Nat → Prop) (kk : ∀ (SC SM : PT) (c1 s1 : Nat), K SC SM c1 s1 → GL p l e room_1 s m9 #[va_rf (some b)] below meth c D cy A s.heap 8 (lw_Z below #[Value.ref b] s) SC SM c1 s1 2596 [(0, va_rf (some b)), (1, va_rf (some x)), (2, va_rf (some m)), (3, va_rf (some o)), (4, Value.int v)] []) (h : w_op_11 e0 m0 x m o (xs (v + 1).toNatClampNeg) (xs (v + 2).toNatClampNeg) SC SM c1 s1 K) : GL p l e room_1 s m9 #[va_rf (some b)] below meth c D cy A s.heap 8 (lw_Z below #[Value.ref b] s) SC SM c1 s1 1073 [(0, va_rf (some b)), (1, va_rf (some x)), (2, va_rf (some m)), (3, va_rf (some o)), (4, Value.int v)] [] := by
  obtain ⟨m1, m2, hc1, hs1, h⟩ := h
  replace hc1 := Nat.le_trans hc1 rC
  replace hs1 := Nat.le_trans hs1 rS
  refine GL_aload_n C (x := (some x)) 1 dL_law_1073 rfl rfl ?_
  refine GL_aload_n C (x := (some b)) 0 dL_law_1074 rfl rfl ?_
  refine GL_iload C (x := v) 4 dL_law_1075 rfl ?_
  refine GL_iconst C (v := 1) dL_law_1077 (by decide) ?_
  refine GL_iadd C dL_law_1078 ?_
  refine GL_sld C hX hbl hbA h1 dL_law_1079 ?_
  refine GL_aload_n C (x := (some b)) 0 dL_law_1080 rfl rfl ?_
  refine GL_iload C (x := v) 4 dL_law_1081 rfl ?_
  refine GL_iconst C (v := 2) dL_law_1083 (by decide) ?_
  refine GL_iadd C dL_law_1084 ?_
  refine GL_sld C hX hbl hbA h2 dL_law_1085 ?_
  refine GL_aload_n C (x := (some o)) 3 dL_law_1086 rfl rfl ?_
  refine GL_callW C hZ tw_4_27 tw_4_28 tw_1_0 tw_4_29 hy_L_vary ⟨Nat.le_of_ble_eq_true rfl, Nat.le_of_ble_eq_true rfl⟩ (As := [va_rf (some x), Value.int (xs (v + 1).toNatClampNeg), Value.int (xs (v + 2).toNatClampNeg), va_rf (some o)]) (rest := []) (c_L_vary l hl D cy (some x) (xs (v + 1).toNatClampNeg) (xs (v + 2).toNatClampNeg) (some o) SC m1 m2 _ h) rfl rfl (Nat.zero_le _) dL_law_1087 ⟨hc1, hs1⟩ (fun k5 SC1 h => ?_)
  obtain ⟨hk1, h⟩ := h
  refine GL_istore C (i := 5) (lv' := [(5, Value.int k5), (0, va_rf (some b)), (1, va_rf (some x)), (2, va_rf (some m)), (3, va_rf (some o)), (4, Value.int v)]) dL_law_1090 (by decide) (by first | rfl | simp [va_cat, vi_cat, vl_cat]) ?_
  refine GL_aload_n C (x := (some m)) 3 dL_law_1092 rfl rfl ?_
  refine GL_aload_n C (x := (some b)) 1 dL_law_1093 rfl rfl ?_
  refine GL_iload C (x := v) 5 dL_law_1094 rfl ?_
  refine GL_iconst C (v := 1) dL_law_1096 (by decide) ?_
  refine GL_iadd C dL_law_1097 ?_
  refine GL_sld C hX hbl hbA h1 dL_law_1098 ?_
  refine GL_aload_n C (x := (some b)) 1 dL_law_1099 rfl rfl ?_
  refine GL_iload C (x := v) 5 dL_law_1100 rfl ?_
  refine GL_iconst C (v := 2) dL_law_1102 (by decide) ?_
  refine GL_iadd C dL_law_1103 ?_
  refine GL_sld C hX hbl hbA h2 dL_law_1104 ?_
  refine GL_callMi C hZ (Tf := TX9) (N := 50) hk1 (by decide) rfl tw_6_182 tw_6_183 tw_6_184 tw_1_7 tw_6_185 hy_X9_vary ⟨Nat.le_of_ble_eq_true rfl, Nat.le_of_ble_eq_true rfl⟩ (As := [Value.int (xs (v + 1).toNatClampNeg), Value.int (xs (v + 2).toNatClampNeg)]) (rest := []) (c_X9_vary l D cy m (xs (v + 1).toNatClampNeg) (xs (v + 2).toNatClampNeg) SM _ h) rfl rfl (by simp [va_cat, vi_cat, vl_cat]) dL_law_1105 ⟨hc1, hs1⟩ (fun b5 SM1 h => ?_)
  obtain ⟨hk2, h⟩ := h
  refine GL_istore C (i := 6) (lv' := [(6, Value.int b5), (5, Value.int k5), (0, va_rf (some b)), (1, va_rf (some x)), (2, va_rf (some m)), (3, va_rf (some o)), (4, Value.int v)]) dL_law_1108 (by decide) (by first | rfl | simp [va_cat, vi_cat, vl_cat]) ?_
  refine GL_aload_n C (x := (some m)) 4 dL_law_1110 rfl rfl ?_
  refine GL_callMi C hZ (Tf := TX9) (N := 50) hk2 (by decide) rfl tw_6_41 tw_6_42 tw_6_43 tw_1_7 tw_6_44 hy_X9_thrown ⟨Nat.le_of_ble_eq_true rfl, Nat.le_of_ble_eq_true rfl⟩ (As := []) (rest := []) (c_X9_thrown l D cy m  SM1 _ h) rfl rfl (by simp [va_cat, vi_cat, vl_cat]) dL_law_1111 ⟨hc1, hs1⟩ (fun t5 SM2 h => ?_)
  obtain ⟨ht, hout, h⟩ := h
  refine GL_iload C (x := k5) 1 dL_law_1114 rfl ?_
  refine GL_icmp_eq C (tgt := 1121) dL_law_1116 (by decide) (fun _ => ?_) (fun hc => absurd ht hc)
  refine GL_iload C (x := k5) 1 dL_law_1121 rfl ?_
  refine GL_if_ne C (tgt := 1138) dL_law_1123 (by decide) (fun _ => ?_) (fun hk0 => ?_)
  · refine GL_goto C (tgt := 2596) dL_law_1138 (by decide) ?_
    refine GL_lv C (lv' := [(0, va_rf (some b)), (1, va_rf (some x)), (2, va_rf (some m)), (3, va_rf (some o)), (4, Value.int v)]) [2, 3, 4, 5, 6] rfl ?_
    exact kk _ _ _ _ h
  · obtain ⟨ho, hin, heq⟩ := hout hk0
    refine GL_aload_n C (x := (some o)) 5 dL_law_1126 rfl rfl ?_
    refine GL_iconst C (v := 0) dL_law_1127 (by decide) ?_
    refine GL_lald C ho hin dL_law_1128 ?_
    refine GL_iload C (x := b5) 0 dL_law_1129 rfl ?_
    refine GL_i2l C dL_law_1131 ?_
    refine GL_lcmp C dL_law_1132 ?_
    refine GL_if_eq C (tgt := 1138) dL_law_1133 (by decide) (fun _ => ?_) (fun hc => absurd (lw_cmp0 heq) hc)
    refine GL_goto C (tgt := 2596) dL_law_1138 (by decide) ?_
    refine GL_lv C (lv' := [(0, va_rf (some b)), (1, va_rf (some x)), (2, va_rf (some m)), (3, va_rf (some o)), (4, Value.int v)]) [2, 3, 4, 5, 6] rfl ?_
    exact kk _ _ _ _ h
set_option maxHeartbeats 4000000 in
set_option maxRecDepth 100000 in
theorem k_op_12 {p : Program} {l : Launch} {e : Env} {s : State} {m9 : MethodId} {below : List Frame} {meth : Method} {c : Code} {D : va_G} {cy : Nat → Nat} {A : Nat → Prop} {b L : Nat} {xs : Nat → Int32} (hl : l.stackTraces = false) (C : Cx p s m9 #[va_rf (some b)] meth c cL_law 8 lw_tbl "TrenchboardLaw" D cy A s.heap) (hZ : ZZ cy A s s.heap) (hX : va_X b L xs s s.heap) (hbl : b < s.heap.size) (hbA : ¬ A b) (hAs : A = fun q => s.heap.size ≤ q) (hr : meth.sig.returnType = ret) (e0 m0 x m o : Nat) (he : e0 = cy 9) (hm : m0 = cy 10) (v : Int32) (h1 : vp_in (v + 1) L) (SC SM : PT) (c1 s1 : Nat) (K : PT → PT → Nat → Nat → Prop) (kk : ∀ (SC SM : PT) (c1 s1 : Nat), K SC SM c1 s1 → GL p l e room_1 s m9 #[va_rf (some b)] below meth c D cy A s.heap 8 (lw_Z below #[Value.ref b] s) SC SM c1 s1 2596 [(0, va_rf (some b)), (1, va_rf (some x)), (2, va_rf (some m)), (3, va_rf (some o)), (4, Value.int v)] []) (h : w_op_12 e0 m0 x m o (xs (v + 1).toNatClampNeg) SC SM c1 s1 K) : GL p l e room_1 s m9 #[va_rf (some b)] below meth c D cy A s.heap 8 (lw_Z below #[Value.ref b] s) SC SM c1 s1 1141 [(0, va_rf (some b)), (1, va_rf (some x)), (2, va_rf (some m)), (3, va_rf (some o)), (4, Value.int v)] [] := by
  obtain ⟨m1, m2, hc1, hs1, h⟩ := h
  replace hc1 := Nat.le_trans hc1 rC
  replace hs1 := Nat.le_trans hs1 rS
  refine GL_aload_n C (x := (some x)) 1 dL_law_1141 rfl rfl ?_
  refine GL_aload_n C (x := (some b)) 0 dL_law_1142 rfl rfl ?_
  refine GL_iload C (x := v) 4 dL_law_1143 rfl ?_
  refine GL_iconst C (v := 1) dL_law_1145 (by decide) ?_
  refine GL_iadd C dL_law_1146 ?_
  refine GL_sld C hX hbl hbA h1 dL_law_1147 ?_
  refine GL_aload_n C (x := (some o)) 3 dL_law_1148 rfl rfl ?_
  refine GL_callW C hZ tw_4_35 tw_4_36 tw_1_0 tw_4_37 hy_L_exempt ⟨Nat.le_of_ble_eq_true rfl, Nat.le_of_ble_eq_true rfl⟩ (As := [va_rf (some x), Value.int (xs (v + 1).toNatClampNeg), va_rf (some o)]) (rest := []) (c_L_exempt l hl D cy (some x) (xs (v + 1).toNatClampNeg) (some o) SC m1 m2 _ h) rfl rfl (Nat.zero_le _) dL_law_1149 ⟨hc1, hs1⟩ (fun k5 SC1 h => ?_)
  obtain ⟨hk1, h⟩ := h
  refine GL_istore C (i := 5) (lv' := [(5, Value.int k5), (0, va_rf (some b)), (1, va_rf (some x)), (2, va_rf (some m)), (3, va_rf (some o)), (4, Value.int v)]) dL_law_1152 (by decide) (by first | rfl | simp [va_cat, vi_cat, vl_cat]) ?_
  refine GL_aload_n C (x := (some m)) 3 dL_law_1154 rfl rfl ?_
  refine GL_aload_n C (x := (some b)) 1 dL_law_1155 rfl rfl ?_
  refine GL_iload C (x := v) 5 dL_law_1156 rfl ?_
  refine GL_iconst C (v := 1) dL_law_1158 (by decide) ?_
  refine GL_iadd C dL_law_1159 ?_
  refine GL_sld C hX hbl hbA h1 dL_law_1160 ?_
  refine GL_callMi C hZ (Tf := TX9) (N := 50) hk1 (by decide) rfl tw_6_186 tw_6_187 tw_6_188 tw_1_7 tw_6_189 hy_X9_exempt ⟨Nat.le_of_ble_eq_true rfl, Nat.le_of_ble_eq_true rfl⟩ (As := [Value.int (xs (v + 1).toNatClampNeg)]) (rest := []) (c_X9_exempt l D cy m (xs (v + 1).toNatClampNeg) SM _ h) rfl rfl (by simp [va_cat, vi_cat, vl_cat]) dL_law_1161 ⟨hc1, hs1⟩ (fun b5 SM1 h => ?_)
  obtain ⟨hbo, h⟩ := h
  obtain ⟨hk2, h⟩ := h
  refine GL_istore C (i := 6) (lv' := [(6, Value.int b5), (5, Value.int k5), (0, va_rf (some b)), (1, va_rf (some x)), (2, va_rf (some m)), (3, va_rf (some o)), (4, Value.int v)]) dL_law_1164 (by decide) (by first | rfl | simp [va_cat, vi_cat, vl_cat]) ?_
  refine GL_aload_n C (x := (some m)) 4 dL_law_1166 rfl rfl ?_
  refine GL_callMi C hZ (Tf := TX9) (N := 50) hk2 (by decide) rfl tw_6_41 tw_6_42 tw_6_43 tw_1_7 tw_6_44 hy_X9_thrown ⟨Nat.le_of_ble_eq_true rfl, Nat.le_of_ble_eq_true rfl⟩ (As := []) (rest := []) (c_X9_thrown l D cy m  SM1 _ h) rfl rfl (by simp [va_cat, vi_cat, vl_cat]) dL_law_1167 ⟨hc1, hs1⟩ (fun t5 SM2 h => ?_)
  obtain ⟨ht, hout, h⟩ := h
  refine GL_iload C (x := k5) 1 dL_law_1170 rfl ?_
  refine GL_icmp_eq C (tgt := 1177) dL_law_1172 (by decide) (fun _ => ?_) (fun hc => absurd ht hc)
  refine GL_iload C (x := k5) 1 dL_law_1177 rfl ?_
  refine GL_if_ne C (tgt := 1201) dL_law_1179 (by decide) (fun _ => ?_) (fun hk0 => ?_)
  · refine GL_goto C (tgt := 2596) dL_law_1201 (by decide) ?_
    refine GL_lv C (lv' := [(0, va_rf (some b)), (1, va_rf (some x)), (2, va_rf (some m)), (3, va_rf (some o)), (4, Value.int v)]) [2, 3, 4, 5, 6] rfl ?_
    exact kk _ _ _ _ h
  · obtain ⟨ho, hin, heq⟩ := hout hk0
    refine GL_aload_n C (x := (some o)) 5 dL_law_1182 rfl rfl ?_
    refine GL_iconst C (v := 0) dL_law_1183 (by decide) ?_
    refine GL_lald C ho hin dL_law_1184 ?_
    refine GL_iload C (x := b5) 0 dL_law_1185 rfl ?_
    refine GL_if_eq C (tgt := 1194) dL_law_1187 (by decide) (fun hb => ?_) (fun hb => ?_)
    · refine GL_lconst C (v := 0) dL_law_1194 (by decide) ?_
      refine GL_lcmp C dL_law_1195 ?_
      refine GL_if_eq C (tgt := 1201) dL_law_1196 (by decide) (fun _ => ?_) (fun hc => absurd (lw_cmp0 (by rw [heq, if_pos hb])) hc)
      refine GL_goto C (tgt := 2596) dL_law_1201 (by decide) ?_
      refine GL_lv C (lv' := [(0, va_rf (some b)), (1, va_rf (some x)), (2, va_rf (some m)), (3, va_rf (some o)), (4, Value.int v)]) [2, 3, 4, 5, 6] rfl ?_
      exact kk _ _ _ _ h
    · refine GL_lconst C (v := 1) dL_law_1190 (by decide) ?_
      refine GL_goto C (tgt := 1195) dL_law_1191 (by decide) ?_
      refine GL_lcmp C dL_law_1195 ?_
      refine GL_if_eq C (tgt := 1201) dL_law_1196 (by decide) (fun _ => ?_) (fun hc => absurd (lw_cmp0 (by rw [heq, if_neg hb])) hc)
      refine GL_goto C (tgt := 2596) dL_law_1201 (by decide) ?_
      refine GL_lv C (lv' := [(0, va_rf (some b)), (1, va_rf (some x)), (2, va_rf (some m)), (3, va_rf (some o)), (4, Value.int v)]) [2, 3, 4, 5, 6] rfl ?_
      exact kk _ _ _ _ h
set_option maxHeartbeats 4000000 in
set_option maxRecDepth 100000 in
theorem k_op_13 {p : Program} {l : Launch} {e : Env} {s : State} {m9 : MethodId} {below : List Frame} {meth : Method} {c : Code} {D : va_G} {cy : Nat → Nat} {A : Nat → Prop} {b L : Nat} {xs : Nat → Int32} (hl : l.stackTraces = false) (C : Cx p s m9 #[va_rf (some b)] meth c cL_law 8 lw_tbl "TrenchboardLaw" D cy A s.heap) (hZ : ZZ cy A s s.heap) (hX : va_X b L xs s s.heap) (hbl : b < s.heap.size) (hbA : ¬ A b) (hAs : A = fun q => s.heap.size ≤ q) (hr : meth.sig.returnType = ret) (e0 m0 x m o : Nat) (he : e0 = cy 9) (hm : m0 = cy 10) (v : Int32) (h1 : vp_in (v + 1) L) (h2 : vp_in (v + 2) L) (SC SM : PT) (c1 s1 : Nat) (K : PT → PT → Nat → Nat → Prop) (kk : ∀ (SC SM : PT) (c1 s1 : Nat), K SC SM c1 s1 → GL p l e room_1 s m9 #[va_rf (some b)] below meth c D cy A s.heap 8 (lw_Z below #[Value.ref b] s) SC SM c1 s1 2596 [(0, va_rf (some b)), (1, va_rf (some x)), (2, va_rf (some m)), (3, va_rf (some o)), (4, Value.int v)] []) (h : w_op_13 e0 m0 x m o (xs (v + 1).toNatClampNeg) (xs (v + 2).toNatClampNeg) SC SM c1 s1 K) : GL p l e room_1 s m9 #[va_rf (some b)] below meth c D cy A s.heap 8 (lw_Z below #[Value.ref b] s) SC SM c1 s1 1204 [(0, va_rf (some b)), (1, va_rf (some x)), (2, va_rf (some m)), (3, va_rf (some o)), (4, Value.int v)] [] := by
  obtain ⟨m1, m2, hc1, hs1, h⟩ := h
  replace hc1 := Nat.le_trans hc1 rC
  replace hs1 := Nat.le_trans hs1 rS
  refine GL_aload_n C (x := (some x)) 1 dL_law_1204 rfl rfl ?_
  refine GL_aload_n C (x := (some b)) 0 dL_law_1205 rfl rfl ?_
  refine GL_iload C (x := v) 4 dL_law_1206 rfl ?_
  refine GL_iconst C (v := 1) dL_law_1208 (by decide) ?_
  refine GL_iadd C dL_law_1209 ?_
  refine GL_sld C hX hbl hbA h1 dL_law_1210 ?_
  refine GL_aload_n C (x := (some b)) 0 dL_law_1211 rfl rfl ?_
  refine GL_iload C (x := v) 4 dL_law_1212 rfl ?_
  refine GL_iconst C (v := 2) dL_law_1214 (by decide) ?_
  refine GL_iadd C dL_law_1215 ?_
  refine GL_sld C hX hbl hbA h2 dL_law_1216 ?_
  refine GL_aload_n C (x := (some o)) 3 dL_law_1217 rfl rfl ?_
  refine GL_callW C hZ tw_4_42 tw_4_43 tw_1_0 tw_4_44 hy_L_agree ⟨Nat.le_of_ble_eq_true rfl, Nat.le_of_ble_eq_true rfl⟩ (As := [va_rf (some x), Value.int (xs (v + 1).toNatClampNeg), Value.int (xs (v + 2).toNatClampNeg), va_rf (some o)]) (rest := []) (c_L_agree l hl D cy (some x) (xs (v + 1).toNatClampNeg) (xs (v + 2).toNatClampNeg) (some o) SC m1 m2 _ h) rfl rfl (Nat.zero_le _) dL_law_1218 ⟨hc1, hs1⟩ (fun k5 SC1 h => ?_)
  obtain ⟨hk1, h⟩ := h
  refine GL_istore C (i := 5) (lv' := [(5, Value.int k5), (0, va_rf (some b)), (1, va_rf (some x)), (2, va_rf (some m)), (3, va_rf (some o)), (4, Value.int v)]) dL_law_1221 (by decide) (by first | rfl | simp [va_cat, vi_cat, vl_cat]) ?_
  refine GL_aload_n C (x := (some m)) 3 dL_law_1223 rfl rfl ?_
  refine GL_aload_n C (x := (some b)) 1 dL_law_1224 rfl rfl ?_
  refine GL_iload C (x := v) 5 dL_law_1225 rfl ?_
  refine GL_iconst C (v := 1) dL_law_1227 (by decide) ?_
  refine GL_iadd C dL_law_1228 ?_
  refine GL_sld C hX hbl hbA h1 dL_law_1229 ?_
  refine GL_aload_n C (x := (some b)) 1 dL_law_1230 rfl rfl ?_
  refine GL_iload C (x := v) 5 dL_law_1231 rfl ?_
  refine GL_iconst C (v := 2) dL_law_1233 (by decide) ?_
  refine GL_iadd C dL_law_1234 ?_
  refine GL_sld C hX hbl hbA h2 dL_law_1235 ?_
  refine GL_callMi C hZ (Tf := TX9) (N := 50) hk1 (by decide) rfl tw_6_190 tw_6_191 tw_6_192 tw_1_7 tw_6_193 hy_X9_agree ⟨Nat.le_of_ble_eq_true rfl, Nat.le_of_ble_eq_true rfl⟩ (As := [Value.int (xs (v + 1).toNatClampNeg), Value.int (xs (v + 2).toNatClampNeg)]) (rest := []) (c_X9_agree l D cy m (xs (v + 1).toNatClampNeg) (xs (v + 2).toNatClampNeg) SM _ h) rfl rfl (by simp [va_cat, vi_cat, vl_cat]) dL_law_1236 ⟨hc1, hs1⟩ (fun b5 SM1 h => ?_)
  obtain ⟨hbo, h⟩ := h
  obtain ⟨hk2, h⟩ := h
  refine GL_istore C (i := 6) (lv' := [(6, Value.int b5), (5, Value.int k5), (0, va_rf (some b)), (1, va_rf (some x)), (2, va_rf (some m)), (3, va_rf (some o)), (4, Value.int v)]) dL_law_1239 (by decide) (by first | rfl | simp [va_cat, vi_cat, vl_cat]) ?_
  refine GL_aload_n C (x := (some m)) 4 dL_law_1241 rfl rfl ?_
  refine GL_callMi C hZ (Tf := TX9) (N := 50) hk2 (by decide) rfl tw_6_41 tw_6_42 tw_6_43 tw_1_7 tw_6_44 hy_X9_thrown ⟨Nat.le_of_ble_eq_true rfl, Nat.le_of_ble_eq_true rfl⟩ (As := []) (rest := []) (c_X9_thrown l D cy m  SM1 _ h) rfl rfl (by simp [va_cat, vi_cat, vl_cat]) dL_law_1242 ⟨hc1, hs1⟩ (fun t5 SM2 h => ?_)
  obtain ⟨ht, hout, h⟩ := h
  refine GL_iload C (x := k5) 1 dL_law_1245 rfl ?_
  refine GL_icmp_eq C (tgt := 1252) dL_law_1247 (by decide) (fun _ => ?_) (fun hc => absurd ht hc)
  refine GL_iload C (x := k5) 1 dL_law_1252 rfl ?_
  refine GL_if_ne C (tgt := 1276) dL_law_1254 (by decide) (fun _ => ?_) (fun hk0 => ?_)
  · refine GL_goto C (tgt := 2596) dL_law_1276 (by decide) ?_
    refine GL_lv C (lv' := [(0, va_rf (some b)), (1, va_rf (some x)), (2, va_rf (some m)), (3, va_rf (some o)), (4, Value.int v)]) [2, 3, 4, 5, 6] rfl ?_
    exact kk _ _ _ _ h
  · obtain ⟨ho, hin, heq⟩ := hout hk0
    refine GL_aload_n C (x := (some o)) 5 dL_law_1257 rfl rfl ?_
    refine GL_iconst C (v := 0) dL_law_1258 (by decide) ?_
    refine GL_lald C ho hin dL_law_1259 ?_
    refine GL_iload C (x := b5) 0 dL_law_1260 rfl ?_
    refine GL_if_eq C (tgt := 1269) dL_law_1262 (by decide) (fun hb => ?_) (fun hb => ?_)
    · refine GL_lconst C (v := 0) dL_law_1269 (by decide) ?_
      refine GL_lcmp C dL_law_1270 ?_
      refine GL_if_eq C (tgt := 1276) dL_law_1271 (by decide) (fun _ => ?_) (fun hc => absurd (lw_cmp0 (by rw [heq, if_pos hb])) hc)
      refine GL_goto C (tgt := 2596) dL_law_1276 (by decide) ?_
      refine GL_lv C (lv' := [(0, va_rf (some b)), (1, va_rf (some x)), (2, va_rf (some m)), (3, va_rf (some o)), (4, Value.int v)]) [2, 3, 4, 5, 6] rfl ?_
      exact kk _ _ _ _ h
    · refine GL_lconst C (v := 1) dL_law_1265 (by decide) ?_
      refine GL_goto C (tgt := 1270) dL_law_1266 (by decide) ?_
      refine GL_lcmp C dL_law_1270 ?_
      refine GL_if_eq C (tgt := 1276) dL_law_1271 (by decide) (fun _ => ?_) (fun hc => absurd (lw_cmp0 (by rw [heq, if_neg hb])) hc)
      refine GL_goto C (tgt := 2596) dL_law_1276 (by decide) ?_
      refine GL_lv C (lv' := [(0, va_rf (some b)), (1, va_rf (some x)), (2, va_rf (some m)), (3, va_rf (some o)), (4, Value.int v)]) [2, 3, 4, 5, 6] rfl ?_
      exact kk _ _ _ _ h
set_option maxHeartbeats 4000000 in
set_option maxRecDepth 100000 in
theorem k_op_14 {p : Program} {l : Launch} {e : Env} {s : State} {m9 : MethodId} {below : List Frame} {meth : Method} {c : Code} {D : va_G} {cy : Nat → Nat} {A : Nat → Prop} {b L : Nat} {xs : Nat → Int32} (hl : l.stackTraces = false) (C : Cx p s m9 #[va_rf (some b)] meth c cL_law 8 lw_tbl "TrenchboardLaw" D cy A s.heap) (hZ : ZZ cy A s s.heap) (hX : va_X b L xs s s.heap) (hbl : b < s.heap.size) (hbA : ¬ A b) (hAs : A = fun q => s.heap.size ≤ q) (hr : meth.sig.returnType = ret) (e0 m0 x m o : Nat) (he : e0 = cy 9) (hm : m0 = cy 10) (v : Int32) (h1 : vp_in (v + 1) L) (SC SM : PT) (c1 s1 : Nat) (K : PT → PT → Nat → Nat → Prop) (kk : ∀ (SC SM : PT) (c1 s1 : Nat), K SC SM c1 s1 → GL p l e room_1 s m9 #[va_rf (some b)] below meth c D cy A s.heap 8 (lw_Z below #[Value.ref b] s) SC SM c1 s1 2596 [(0, va_rf (some b)), (1, va_rf (some x)), (2, va_rf (some m)), (3, va_rf (some o)), (4, Value.int v)] []) (h : w_op_14 e0 m0 x m o (xs (v + 1).toNatClampNeg) SC SM c1 s1 K) : GL p l e room_1 s m9 #[va_rf (some b)] below meth c D cy A s.heap 8 (lw_Z below #[Value.ref b] s) SC SM c1 s1 1279 [(0, va_rf (some b)), (1, va_rf (some x)), (2, va_rf (some m)), (3, va_rf (some o)), (4, Value.int v)] [] := by
  obtain ⟨m1, m2, hc1, hs1, h⟩ := h
  replace hc1 := Nat.le_trans hc1 rC
  replace hs1 := Nat.le_trans hs1 rS
  refine GL_aload_n C (x := (some x)) 1 dL_law_1279 rfl rfl ?_
  refine GL_aload_n C (x := (some b)) 0 dL_law_1280 rfl rfl ?_
  refine GL_iload C (x := v) 4 dL_law_1281 rfl ?_
  refine GL_iconst C (v := 1) dL_law_1283 (by decide) ?_
  refine GL_iadd C dL_law_1284 ?_
  refine GL_sld C hX hbl hbA h1 dL_law_1285 ?_
  refine GL_aload_n C (x := (some o)) 3 dL_law_1286 rfl rfl ?_
  refine GL_callW C hZ tw_4_51 tw_4_52 tw_1_0 tw_4_53 hy_L_start ⟨Nat.le_of_ble_eq_true rfl, Nat.le_of_ble_eq_true rfl⟩ (As := [va_rf (some x), Value.int (xs (v + 1).toNatClampNeg), va_rf (some o)]) (rest := []) (c_L_start l hl D cy (some x) (xs (v + 1).toNatClampNeg) (some o) SC m1 m2 _ h) rfl rfl (Nat.zero_le _) dL_law_1287 ⟨hc1, hs1⟩ (fun k5 SC1 h => ?_)
  obtain ⟨hk1, h⟩ := h
  refine GL_istore C (i := 5) (lv' := [(5, Value.int k5), (0, va_rf (some b)), (1, va_rf (some x)), (2, va_rf (some m)), (3, va_rf (some o)), (4, Value.int v)]) dL_law_1290 (by decide) (by first | rfl | simp [va_cat, vi_cat, vl_cat]) ?_
  refine GL_aload_n C (x := (some m)) 3 dL_law_1292 rfl rfl ?_
  refine GL_aload_n C (x := (some b)) 1 dL_law_1293 rfl rfl ?_
  refine GL_iload C (x := v) 5 dL_law_1294 rfl ?_
  refine GL_iconst C (v := 1) dL_law_1296 (by decide) ?_
  refine GL_iadd C dL_law_1297 ?_
  refine GL_sld C hX hbl hbA h1 dL_law_1298 ?_
  refine GL_callMi C hZ (Tf := TX9) (N := 50) hk1 (by decide) rfl tw_6_194 tw_6_195 tw_6_196 tw_1_7 tw_6_197 hy_X9_start ⟨Nat.le_of_ble_eq_true rfl, Nat.le_of_ble_eq_true rfl⟩ (As := [Value.int (xs (v + 1).toNatClampNeg)]) (rest := []) (c_X9_start l D cy m (xs (v + 1).toNatClampNeg) SM _ h) rfl rfl (by simp [va_cat, vi_cat, vl_cat]) dL_law_1299 ⟨hc1, hs1⟩ (fun b5 SM1 h => ?_)
  obtain ⟨hk2, h⟩ := h
  refine GL_istore C (i := 6) (lv' := [(6, Value.int b5), (5, Value.int k5), (0, va_rf (some b)), (1, va_rf (some x)), (2, va_rf (some m)), (3, va_rf (some o)), (4, Value.int v)]) dL_law_1302 (by decide) (by first | rfl | simp [va_cat, vi_cat, vl_cat]) ?_
  refine GL_aload_n C (x := (some m)) 4 dL_law_1304 rfl rfl ?_
  refine GL_callMi C hZ (Tf := TX9) (N := 50) hk2 (by decide) rfl tw_6_41 tw_6_42 tw_6_43 tw_1_7 tw_6_44 hy_X9_thrown ⟨Nat.le_of_ble_eq_true rfl, Nat.le_of_ble_eq_true rfl⟩ (As := []) (rest := []) (c_X9_thrown l D cy m  SM1 _ h) rfl rfl (by simp [va_cat, vi_cat, vl_cat]) dL_law_1305 ⟨hc1, hs1⟩ (fun t5 SM2 h => ?_)
  obtain ⟨ht, hout, h⟩ := h
  refine GL_iload C (x := k5) 1 dL_law_1308 rfl ?_
  refine GL_icmp_eq C (tgt := 1315) dL_law_1310 (by decide) (fun _ => ?_) (fun hc => absurd ht hc)
  refine GL_iload C (x := k5) 1 dL_law_1315 rfl ?_
  refine GL_if_ne C (tgt := 1332) dL_law_1317 (by decide) (fun _ => ?_) (fun hk0 => ?_)
  · refine GL_goto C (tgt := 2596) dL_law_1332 (by decide) ?_
    refine GL_lv C (lv' := [(0, va_rf (some b)), (1, va_rf (some x)), (2, va_rf (some m)), (3, va_rf (some o)), (4, Value.int v)]) [2, 3, 4, 5, 6] rfl ?_
    exact kk _ _ _ _ h
  · obtain ⟨ho, hin, heq⟩ := hout hk0
    refine GL_aload_n C (x := (some o)) 5 dL_law_1320 rfl rfl ?_
    refine GL_iconst C (v := 0) dL_law_1321 (by decide) ?_
    refine GL_lald C ho hin dL_law_1322 ?_
    refine GL_iload C (x := b5) 0 dL_law_1323 rfl ?_
    refine GL_i2l C dL_law_1325 ?_
    refine GL_lcmp C dL_law_1326 ?_
    refine GL_if_eq C (tgt := 1332) dL_law_1327 (by decide) (fun _ => ?_) (fun hc => absurd (lw_cmp0 heq) hc)
    refine GL_goto C (tgt := 2596) dL_law_1332 (by decide) ?_
    refine GL_lv C (lv' := [(0, va_rf (some b)), (1, va_rf (some x)), (2, va_rf (some m)), (3, va_rf (some o)), (4, Value.int v)]) [2, 3, 4, 5, 6] rfl ?_
    exact kk _ _ _ _ h
set_option maxHeartbeats 4000000 in
set_option maxRecDepth 100000 in
theorem k_op_15 {p : Program} {l : Launch} {e : Env} {s : State} {m9 : MethodId} {below : List Frame} {meth : Method} {c : Code} {D : va_G} {cy : Nat → Nat} {A : Nat → Prop} {b L : Nat} {xs : Nat → Int32} (hl : l.stackTraces = false) (C : Cx p s m9 #[va_rf (some b)] meth c cL_law 8 lw_tbl "TrenchboardLaw" D cy A s.heap) (hZ : ZZ cy A s s.heap) (hX : va_X b L xs s s.heap) (hbl : b < s.heap.size) (hbA : ¬ A b) (hAs : A = fun q => s.heap.size ≤ q) (hr : meth.sig.returnType = ret) (e0 m0 x m o : Nat) (he : e0 = cy 9) (hm : m0 = cy 10) (v : Int32) (h1 : vp_in (v + 1) L) (h2 : vp_in (v + 2) L) (SC SM : PT) (c1 s1 : Nat) (K : PT → PT → Nat → Nat → Prop) (kk : ∀ (SC SM : PT) (c1 s1 : Nat), K SC SM c1 s1 → GL p l e room_1 s m9 #[va_rf (some b)] below meth c D cy A s.heap 8 (lw_Z below #[Value.ref b] s) SC SM c1 s1 2596 [(0, va_rf (some b)), (1, va_rf (some x)), (2, va_rf (some m)), (3, va_rf (some o)), (4, Value.int v)] []) (h : w_op_15 e0 m0 x m o (xs (v + 1).toNatClampNeg) (xs (v + 2).toNatClampNeg) SC SM c1 s1 K) : GL p l e room_1 s m9 #[va_rf (some b)] below meth c D cy A s.heap 8 (lw_Z below #[Value.ref b] s) SC SM c1 s1 1335 [(0, va_rf (some b)), (1, va_rf (some x)), (2, va_rf (some m)), (3, va_rf (some o)), (4, Value.int v)] [] := by
  obtain ⟨m1, m2, hc1, hs1, h⟩ := h
  replace hc1 := Nat.le_trans hc1 rC
  replace hs1 := Nat.le_trans hs1 rS
  refine GL_aload_n C (x := (some x)) 1 dL_law_1335 rfl rfl ?_
  refine GL_aload_n C (x := (some b)) 0 dL_law_1336 rfl rfl ?_
  refine GL_iload C (x := v) 4 dL_law_1337 rfl ?_
  refine GL_iconst C (v := 1) dL_law_1339 (by decide) ?_
  refine GL_iadd C dL_law_1340 ?_
  refine GL_sld C hX hbl hbA h1 dL_law_1341 ?_
  refine GL_aload_n C (x := (some b)) 0 dL_law_1342 rfl rfl ?_
  refine GL_iload C (x := v) 4 dL_law_1343 rfl ?_
  refine GL_iconst C (v := 2) dL_law_1345 (by decide) ?_
  refine GL_iadd C dL_law_1346 ?_
  refine GL_sld C hX hbl hbA h2 dL_law_1347 ?_
  refine GL_aload_n C (x := (some o)) 3 dL_law_1348 rfl rfl ?_
  refine GL_callW C hZ tw_4_59 tw_4_60 tw_1_0 tw_4_61 hy_L_open ⟨Nat.le_of_ble_eq_true rfl, Nat.le_of_ble_eq_true rfl⟩ (As := [va_rf (some x), Value.int (xs (v + 1).toNatClampNeg), Value.int (xs (v + 2).toNatClampNeg), va_rf (some o)]) (rest := []) (c_L_open l hl D cy (some x) (xs (v + 1).toNatClampNeg) (xs (v + 2).toNatClampNeg) (some o) SC m1 m2 _ h) rfl rfl (Nat.zero_le _) dL_law_1349 ⟨hc1, hs1⟩ (fun k5 SC1 h => ?_)
  obtain ⟨hk1, h⟩ := h
  refine GL_istore C (i := 5) (lv' := [(5, Value.int k5), (0, va_rf (some b)), (1, va_rf (some x)), (2, va_rf (some m)), (3, va_rf (some o)), (4, Value.int v)]) dL_law_1352 (by decide) (by first | rfl | simp [va_cat, vi_cat, vl_cat]) ?_
  refine GL_aload_n C (x := (some m)) 3 dL_law_1354 rfl rfl ?_
  refine GL_aload_n C (x := (some b)) 1 dL_law_1355 rfl rfl ?_
  refine GL_iload C (x := v) 5 dL_law_1356 rfl ?_
  refine GL_iconst C (v := 1) dL_law_1358 (by decide) ?_
  refine GL_iadd C dL_law_1359 ?_
  refine GL_sld C hX hbl hbA h1 dL_law_1360 ?_
  refine GL_aload_n C (x := (some b)) 1 dL_law_1361 rfl rfl ?_
  refine GL_iload C (x := v) 5 dL_law_1362 rfl ?_
  refine GL_iconst C (v := 2) dL_law_1364 (by decide) ?_
  refine GL_iadd C dL_law_1365 ?_
  refine GL_sld C hX hbl hbA h2 dL_law_1366 ?_
  refine GL_callMi C hZ (Tf := TX9) (N := 50) hk1 (by decide) rfl tw_6_198 tw_6_199 tw_6_200 tw_1_7 tw_6_201 hy_X9_open ⟨Nat.le_of_ble_eq_true rfl, Nat.le_of_ble_eq_true rfl⟩ (As := [Value.int (xs (v + 1).toNatClampNeg), Value.int (xs (v + 2).toNatClampNeg)]) (rest := []) (c_X9_open l D cy m (xs (v + 1).toNatClampNeg) (xs (v + 2).toNatClampNeg) SM _ h) rfl rfl (by simp [va_cat, vi_cat, vl_cat]) dL_law_1367 ⟨hc1, hs1⟩ (fun b5 SM1 h => ?_)
  obtain ⟨hk2, h⟩ := h
  refine GL_istore C (i := 6) (lv' := [(6, Value.int b5), (5, Value.int k5), (0, va_rf (some b)), (1, va_rf (some x)), (2, va_rf (some m)), (3, va_rf (some o)), (4, Value.int v)]) dL_law_1370 (by decide) (by first | rfl | simp [va_cat, vi_cat, vl_cat]) ?_
  refine GL_aload_n C (x := (some m)) 4 dL_law_1372 rfl rfl ?_
  refine GL_callMi C hZ (Tf := TX9) (N := 50) hk2 (by decide) rfl tw_6_41 tw_6_42 tw_6_43 tw_1_7 tw_6_44 hy_X9_thrown ⟨Nat.le_of_ble_eq_true rfl, Nat.le_of_ble_eq_true rfl⟩ (As := []) (rest := []) (c_X9_thrown l D cy m  SM1 _ h) rfl rfl (by simp [va_cat, vi_cat, vl_cat]) dL_law_1373 ⟨hc1, hs1⟩ (fun t5 SM2 h => ?_)
  obtain ⟨ht, hout, h⟩ := h
  refine GL_iload C (x := k5) 1 dL_law_1376 rfl ?_
  refine GL_icmp_eq C (tgt := 1383) dL_law_1378 (by decide) (fun _ => ?_) (fun hc => absurd ht hc)
  refine GL_iload C (x := k5) 1 dL_law_1383 rfl ?_
  refine GL_if_ne C (tgt := 1400) dL_law_1385 (by decide) (fun _ => ?_) (fun hk0 => ?_)
  · refine GL_goto C (tgt := 2596) dL_law_1400 (by decide) ?_
    refine GL_lv C (lv' := [(0, va_rf (some b)), (1, va_rf (some x)), (2, va_rf (some m)), (3, va_rf (some o)), (4, Value.int v)]) [2, 3, 4, 5, 6] rfl ?_
    exact kk _ _ _ _ h
  · obtain ⟨ho, hin, heq⟩ := hout hk0
    refine GL_aload_n C (x := (some o)) 5 dL_law_1388 rfl rfl ?_
    refine GL_iconst C (v := 0) dL_law_1389 (by decide) ?_
    refine GL_lald C ho hin dL_law_1390 ?_
    refine GL_iload C (x := b5) 0 dL_law_1391 rfl ?_
    refine GL_i2l C dL_law_1393 ?_
    refine GL_lcmp C dL_law_1394 ?_
    refine GL_if_eq C (tgt := 1400) dL_law_1395 (by decide) (fun _ => ?_) (fun hc => absurd (lw_cmp0 heq) hc)
    refine GL_goto C (tgt := 2596) dL_law_1400 (by decide) ?_
    refine GL_lv C (lv' := [(0, va_rf (some b)), (1, va_rf (some x)), (2, va_rf (some m)), (3, va_rf (some o)), (4, Value.int v)]) [2, 3, 4, 5, 6] rfl ?_
    exact kk _ _ _ _ h
set_option maxHeartbeats 4000000 in
set_option maxRecDepth 100000 in
theorem k_op_16 {p : Program} {l : Launch} {e : Env} {s : State} {m9 : MethodId} {below : List Frame} {meth : Method} {c : Code} {D : va_G} {cy : Nat → Nat} {A : Nat → Prop} {b L : Nat} {xs : Nat → Int32} (hl : l.stackTraces = false) (C : Cx p s m9 #[va_rf (some b)] meth c cL_law 8 lw_tbl "TrenchboardLaw" D cy A s.heap) (hZ : ZZ cy A s s.heap) (hX : va_X b L xs s s.heap) (hbl : b < s.heap.size) (hbA : ¬ A b) (hAs : A = fun q => s.heap.size ≤ q) (hr : meth.sig.returnType = ret) (e0 m0 x m o : Nat) (he : e0 = cy 9) (hm : m0 = cy 10) (v : Int32) (h1 : vp_in (v + 1) L) (h2 : vp_in (v + 2) L) (h3 : vp_in (v + 3) L) (SC SM : PT) (c1 s1 : Nat) (K : PT → PT → Nat → Nat → Prop) (kk : ∀ (SC SM : PT) (c1 s1 : Nat), K SC SM c1 s1 → GL p l e room_1 s m9 #[va_rf (some b)] below meth c D cy A s.heap 8 (lw_Z below #[Value.ref b] s) SC SM c1 s1 2596 [(0, va_rf (some b)), (1, va_rf (some x)), (2, va_rf (some m)), (3, va_rf (some o)), (4, Value.int v)] []) (h : w_op_16 e0 m0 x m o (xs (v + 1).toNatClampNeg) (xs (v + 2).toNatClampNeg) (xs (v + 3).toNatClampNeg) SC SM c1 s1 K) : GL p l e room_1 s m9 #[va_rf (some b)] below meth c D cy A s.heap 8 (lw_Z below #[Value.ref b] s) SC SM c1 s1 1403 [(0, va_rf (some b)), (1, va_rf (some x)), (2, va_rf (some m)), (3, va_rf (some o)), (4, Value.int v)] [] := by
  obtain ⟨m1, m2, hc1, hs1, h⟩ := h
  replace hc1 := Nat.le_trans hc1 rC
  replace hs1 := Nat.le_trans hs1 rS
  refine GL_aload_n C (x := (some x)) 1 dL_law_1403 rfl rfl ?_
  refine GL_aload_n C (x := (some b)) 0 dL_law_1404 rfl rfl ?_
  refine GL_iload C (x := v) 4 dL_law_1405 rfl ?_
  refine GL_iconst C (v := 1) dL_law_1407 (by decide) ?_
  refine GL_iadd C dL_law_1408 ?_
  refine GL_sld C hX hbl hbA h1 dL_law_1409 ?_
  refine GL_aload_n C (x := (some b)) 0 dL_law_1410 rfl rfl ?_
  refine GL_iload C (x := v) 4 dL_law_1411 rfl ?_
  refine GL_iconst C (v := 2) dL_law_1413 (by decide) ?_
  refine GL_iadd C dL_law_1414 ?_
  refine GL_sld C hX hbl hbA h2 dL_law_1415 ?_
  refine GL_aload_n C (x := (some b)) 0 dL_law_1416 rfl rfl ?_
  refine GL_iload C (x := v) 4 dL_law_1417 rfl ?_
  refine GL_iconst C (v := 3) dL_law_1419 (by decide) ?_
  refine GL_iadd C dL_law_1420 ?_
  refine GL_sld C hX hbl hbA h3 dL_law_1421 ?_
  refine GL_aload_n C (x := (some o)) 3 dL_law_1422 rfl rfl ?_
  refine GL_callW C hZ tw_4_94 tw_4_95 tw_1_0 tw_4_96 hy_L_fill ⟨Nat.le_of_ble_eq_true rfl, Nat.le_of_ble_eq_true rfl⟩ (As := [va_rf (some x), Value.int (xs (v + 1).toNatClampNeg), Value.int (xs (v + 2).toNatClampNeg), Value.int (xs (v + 3).toNatClampNeg), va_rf (some o)]) (rest := []) (c_L_fill l hl D cy e0 m0 he hm (some x) (xs (v + 1).toNatClampNeg) (xs (v + 2).toNatClampNeg) (xs (v + 3).toNatClampNeg) (some o) SC m1 m2 _ h) rfl rfl (Nat.zero_le _) dL_law_1423 ⟨hc1, hs1⟩ (fun k5 SC1 h => ?_)
  obtain ⟨hk1, h⟩ := h
  refine GL_istore C (i := 5) (lv' := [(5, Value.int k5), (0, va_rf (some b)), (1, va_rf (some x)), (2, va_rf (some m)), (3, va_rf (some o)), (4, Value.int v)]) dL_law_1426 (by decide) (by first | rfl | simp [va_cat, vi_cat, vl_cat]) ?_
  refine GL_aload_n C (x := (some m)) 3 dL_law_1428 rfl rfl ?_
  refine GL_aload_n C (x := (some b)) 1 dL_law_1429 rfl rfl ?_
  refine GL_iload C (x := v) 5 dL_law_1430 rfl ?_
  refine GL_iconst C (v := 1) dL_law_1432 (by decide) ?_
  refine GL_iadd C dL_law_1433 ?_
  refine GL_sld C hX hbl hbA h1 dL_law_1434 ?_
  refine GL_aload_n C (x := (some b)) 1 dL_law_1435 rfl rfl ?_
  refine GL_iload C (x := v) 5 dL_law_1436 rfl ?_
  refine GL_iconst C (v := 2) dL_law_1438 (by decide) ?_
  refine GL_iadd C dL_law_1439 ?_
  refine GL_sld C hX hbl hbA h2 dL_law_1440 ?_
  refine GL_aload_n C (x := (some b)) 1 dL_law_1441 rfl rfl ?_
  refine GL_iload C (x := v) 5 dL_law_1442 rfl ?_
  refine GL_iconst C (v := 3) dL_law_1444 (by decide) ?_
  refine GL_iadd C dL_law_1445 ?_
  refine GL_sld C hX hbl hbA h3 dL_law_1446 ?_
  refine GL_callMi C hZ (Tf := TX9) (N := 50) hk1 (by decide) rfl tw_6_218 tw_6_219 tw_6_220 tw_1_7 tw_6_221 hy_X9_fill ⟨Nat.le_of_ble_eq_true rfl, Nat.le_of_ble_eq_true rfl⟩ (As := [Value.int (xs (v + 1).toNatClampNeg), Value.int (xs (v + 2).toNatClampNeg), Value.int (xs (v + 3).toNatClampNeg)]) (rest := []) (c_X9_fill l D cy m (xs (v + 1).toNatClampNeg) (xs (v + 2).toNatClampNeg) (xs (v + 3).toNatClampNeg) SM _ h) rfl rfl (by simp [va_cat, vi_cat, vl_cat]) dL_law_1447 ⟨hc1, hs1⟩ (fun b5 SM1 h => ?_)
  obtain ⟨hk2, h⟩ := h
  refine GL_istore C (i := 6) (lv' := [(6, Value.int b5), (5, Value.int k5), (0, va_rf (some b)), (1, va_rf (some x)), (2, va_rf (some m)), (3, va_rf (some o)), (4, Value.int v)]) dL_law_1450 (by decide) (by first | rfl | simp [va_cat, vi_cat, vl_cat]) ?_
  refine GL_aload_n C (x := (some m)) 4 dL_law_1452 rfl rfl ?_
  refine GL_callMi C hZ (Tf := TX9) (N := 50) hk2 (by decide) rfl tw_6_41 tw_6_42 tw_6_43 tw_1_7 tw_6_44 hy_X9_thrown ⟨Nat.le_of_ble_eq_true rfl, Nat.le_of_ble_eq_true rfl⟩ (As := []) (rest := []) (c_X9_thrown l D cy m  SM1 _ h) rfl rfl (by simp [va_cat, vi_cat, vl_cat]) dL_law_1453 ⟨hc1, hs1⟩ (fun t5 SM2 h => ?_)
  obtain ⟨ht, hout, h⟩ := h
  refine GL_iload C (x := k5) 1 dL_law_1456 rfl ?_
  refine GL_icmp_eq C (tgt := 1463) dL_law_1458 (by decide) (fun _ => ?_) (fun hc => absurd ht hc)
  refine GL_iload C (x := k5) 1 dL_law_1463 rfl ?_
  refine GL_if_ne C (tgt := 1480) dL_law_1465 (by decide) (fun _ => ?_) (fun hk0 => ?_)
  · refine GL_goto C (tgt := 2596) dL_law_1480 (by decide) ?_
    refine GL_lv C (lv' := [(0, va_rf (some b)), (1, va_rf (some x)), (2, va_rf (some m)), (3, va_rf (some o)), (4, Value.int v)]) [2, 3, 4, 5, 6] rfl ?_
    exact kk _ _ _ _ h
  · obtain ⟨ho, hin, heq⟩ := hout hk0
    refine GL_aload_n C (x := (some o)) 5 dL_law_1468 rfl rfl ?_
    refine GL_iconst C (v := 0) dL_law_1469 (by decide) ?_
    refine GL_lald C ho hin dL_law_1470 ?_
    refine GL_iload C (x := b5) 0 dL_law_1471 rfl ?_
    refine GL_i2l C dL_law_1473 ?_
    refine GL_lcmp C dL_law_1474 ?_
    refine GL_if_eq C (tgt := 1480) dL_law_1475 (by decide) (fun _ => ?_) (fun hc => absurd (lw_cmp0 heq) hc)
    refine GL_goto C (tgt := 2596) dL_law_1480 (by decide) ?_
    refine GL_lv C (lv' := [(0, va_rf (some b)), (1, va_rf (some x)), (2, va_rf (some m)), (3, va_rf (some o)), (4, Value.int v)]) [2, 3, 4, 5, 6] rfl ?_
    exact kk _ _ _ _ h
set_option maxHeartbeats 4000000 in
set_option maxRecDepth 100000 in
theorem k_op_17 {p : Program} {l : Launch} {e : Env} {s : State} {m9 : MethodId} {below : List Frame} {meth : Method} {c : Code} {D : va_G} {cy : Nat → Nat} {A : Nat → Prop} {b L : Nat} {xs : Nat → Int32} (hl : l.stackTraces = false) (C : Cx p s m9 #[va_rf (some b)] meth c cL_law 8 lw_tbl "TrenchboardLaw" D cy A s.heap) (hZ : ZZ cy A s s.heap) (hX : va_X b L xs s s.heap) (hbl : b < s.heap.size) (hbA : ¬ A b) (hAs : A = fun q => s.heap.size ≤ q) (hr : meth.sig.returnType = ret) (e0 m0 x m o : Nat) (he : e0 = cy 9) (hm : m0 = cy 10) (v : Int32) (h1 : vp_in (v + 1) L) (SC SM : PT) (c1 s1 : Nat) (K : PT → PT → Nat → Nat → Prop) (kk : ∀ (SC SM : PT) (c1 s1 : Nat), K SC SM c1 s1 → GL p l e room_1 s m9 #[va_rf (some b)] below meth c D cy A s.heap 8 (lw_Z below #[Value.ref b] s) SC SM c1 s1 2596 [(0, va_rf (some b)), (1, va_rf (some x)), (2, va_rf (some m)), (3, va_rf (some o)), (4, Value.int v)] []) (h : w_op_17 e0 m0 x m o (xs (v + 1).toNatClampNeg) SC SM c1 s1 K) : GL p l e room_1 s m9 #[va_rf (some b)] below meth c D cy A s.heap 8 (lw_Z below #[Value.ref b] s) SC SM c1 s1 1483 [(0, va_rf (some b)), (1, va_rf (some x)), (2, va_rf (some m)), (3, va_rf (some o)), (4, Value.int v)] [] := by
  obtain ⟨m1, m2, hc1, hs1, h⟩ := h
  replace hc1 := Nat.le_trans hc1 rC
  replace hs1 := Nat.le_trans hs1 rS
  refine GL_aload_n C (x := (some x)) 1 dL_law_1483 rfl rfl ?_
  refine GL_aload_n C (x := (some b)) 0 dL_law_1484 rfl rfl ?_
  refine GL_iload C (x := v) 4 dL_law_1485 rfl ?_
  refine GL_iconst C (v := 1) dL_law_1487 (by decide) ?_
  refine GL_iadd C dL_law_1488 ?_
  refine GL_sld C hX hbl hbA h1 dL_law_1489 ?_
  refine GL_aload_n C (x := (some o)) 3 dL_law_1490 rfl rfl ?_
  refine GL_callW C hZ tw_4_138 tw_4_139 tw_1_0 tw_4_140 hy_L_plate ⟨Nat.le_of_ble_eq_true rfl, Nat.le_of_ble_eq_true rfl⟩ (As := [va_rf (some x), Value.int (xs (v + 1).toNatClampNeg), va_rf (some o)]) (rest := []) (c_L_plate l hl D cy (some x) (xs (v + 1).toNatClampNeg) (some o) SC m1 m2 _ h) rfl rfl (Nat.zero_le _) dL_law_1491 ⟨hc1, hs1⟩ (fun k5 SC1 h => ?_)
  obtain ⟨hk1, h⟩ := h
  refine GL_istore C (i := 5) (lv' := [(5, Value.int k5), (0, va_rf (some b)), (1, va_rf (some x)), (2, va_rf (some m)), (3, va_rf (some o)), (4, Value.int v)]) dL_law_1494 (by decide) (by first | rfl | simp [va_cat, vi_cat, vl_cat]) ?_
  refine GL_aload_n C (x := (some m)) 3 dL_law_1496 rfl rfl ?_
  refine GL_aload_n C (x := (some b)) 1 dL_law_1497 rfl rfl ?_
  refine GL_iload C (x := v) 5 dL_law_1498 rfl ?_
  refine GL_iconst C (v := 1) dL_law_1500 (by decide) ?_
  refine GL_iadd C dL_law_1501 ?_
  refine GL_sld C hX hbl hbA h1 dL_law_1502 ?_
  refine GL_callMi C hZ (Tf := TX9) (N := 50) hk1 (by decide) rfl tw_6_226 tw_6_227 tw_6_228 tw_1_7 tw_6_229 hy_X9_plate ⟨Nat.le_of_ble_eq_true rfl, Nat.le_of_ble_eq_true rfl⟩ (As := [Value.int (xs (v + 1).toNatClampNeg)]) (rest := []) (c_X9_plate l D cy m (xs (v + 1).toNatClampNeg) SM _ h) rfl rfl (by simp [va_cat, vi_cat, vl_cat]) dL_law_1503 ⟨hc1, hs1⟩ (fun b5 SM1 h => ?_)
  obtain ⟨hbo, h⟩ := h
  obtain ⟨hk2, h⟩ := h
  refine GL_istore C (i := 6) (lv' := [(6, Value.int b5), (5, Value.int k5), (0, va_rf (some b)), (1, va_rf (some x)), (2, va_rf (some m)), (3, va_rf (some o)), (4, Value.int v)]) dL_law_1506 (by decide) (by first | rfl | simp [va_cat, vi_cat, vl_cat]) ?_
  refine GL_aload_n C (x := (some m)) 4 dL_law_1508 rfl rfl ?_
  refine GL_callMi C hZ (Tf := TX9) (N := 50) hk2 (by decide) rfl tw_6_41 tw_6_42 tw_6_43 tw_1_7 tw_6_44 hy_X9_thrown ⟨Nat.le_of_ble_eq_true rfl, Nat.le_of_ble_eq_true rfl⟩ (As := []) (rest := []) (c_X9_thrown l D cy m  SM1 _ h) rfl rfl (by simp [va_cat, vi_cat, vl_cat]) dL_law_1509 ⟨hc1, hs1⟩ (fun t5 SM2 h => ?_)
  obtain ⟨ht, hout, h⟩ := h
  refine GL_iload C (x := k5) 1 dL_law_1512 rfl ?_
  refine GL_icmp_eq C (tgt := 1519) dL_law_1514 (by decide) (fun _ => ?_) (fun hc => absurd ht hc)
  refine GL_iload C (x := k5) 1 dL_law_1519 rfl ?_
  refine GL_if_ne C (tgt := 1543) dL_law_1521 (by decide) (fun _ => ?_) (fun hk0 => ?_)
  · refine GL_goto C (tgt := 2596) dL_law_1543 (by decide) ?_
    refine GL_lv C (lv' := [(0, va_rf (some b)), (1, va_rf (some x)), (2, va_rf (some m)), (3, va_rf (some o)), (4, Value.int v)]) [2, 3, 4, 5, 6] rfl ?_
    exact kk _ _ _ _ h
  · obtain ⟨ho, hin, heq⟩ := hout hk0
    refine GL_aload_n C (x := (some o)) 5 dL_law_1524 rfl rfl ?_
    refine GL_iconst C (v := 0) dL_law_1525 (by decide) ?_
    refine GL_lald C ho hin dL_law_1526 ?_
    refine GL_iload C (x := b5) 0 dL_law_1527 rfl ?_
    refine GL_if_eq C (tgt := 1536) dL_law_1529 (by decide) (fun hb => ?_) (fun hb => ?_)
    · refine GL_lconst C (v := 0) dL_law_1536 (by decide) ?_
      refine GL_lcmp C dL_law_1537 ?_
      refine GL_if_eq C (tgt := 1543) dL_law_1538 (by decide) (fun _ => ?_) (fun hc => absurd (lw_cmp0 (by rw [heq, if_pos hb])) hc)
      refine GL_goto C (tgt := 2596) dL_law_1543 (by decide) ?_
      refine GL_lv C (lv' := [(0, va_rf (some b)), (1, va_rf (some x)), (2, va_rf (some m)), (3, va_rf (some o)), (4, Value.int v)]) [2, 3, 4, 5, 6] rfl ?_
      exact kk _ _ _ _ h
    · refine GL_lconst C (v := 1) dL_law_1532 (by decide) ?_
      refine GL_goto C (tgt := 1537) dL_law_1533 (by decide) ?_
      refine GL_lcmp C dL_law_1537 ?_
      refine GL_if_eq C (tgt := 1543) dL_law_1538 (by decide) (fun _ => ?_) (fun hc => absurd (lw_cmp0 (by rw [heq, if_neg hb])) hc)
      refine GL_goto C (tgt := 2596) dL_law_1543 (by decide) ?_
      refine GL_lv C (lv' := [(0, va_rf (some b)), (1, va_rf (some x)), (2, va_rf (some m)), (3, va_rf (some o)), (4, Value.int v)]) [2, 3, 4, 5, 6] rfl ?_
      exact kk _ _ _ _ h
set_option maxHeartbeats 4000000 in
set_option maxRecDepth 100000 in
theorem k_op_18 {p : Program} {l : Launch} {e : Env} {s : State} {m9 : MethodId} {below : List Frame} {meth : Method} {c : Code} {D : va_G} {cy : Nat → Nat} {A : Nat → Prop} {b L : Nat} {xs : Nat → Int32} (hl : l.stackTraces = false) (C : Cx p s m9 #[va_rf (some b)] meth c cL_law 8 lw_tbl "TrenchboardLaw" D cy A s.heap) (hZ : ZZ cy A s s.heap) (hX : va_X b L xs s s.heap) (hbl : b < s.heap.size) (hbA : ¬ A b) (hAs : A = fun q => s.heap.size ≤ q) (hr : meth.sig.returnType = ret) (e0 m0 x m o : Nat) (he : e0 = cy 9) (hm : m0 = cy 10) (v : Int32) (h1 : vp_in (v + 1) L) (SC SM : PT) (c1 s1 : Nat) (K : PT → PT → Nat → Nat → Prop) (kk : ∀ (SC SM : PT) (c1 s1 : Nat), K SC SM c1 s1 → GL p l e room_1 s m9 #[va_rf (some b)] below meth c D cy A s.heap 8 (lw_Z below #[Value.ref b] s) SC SM c1 s1 2596 [(0, va_rf (some b)), (1, va_rf (some x)), (2, va_rf (some m)), (3, va_rf (some o)), (4, Value.int v)] []) (h : w_op_18 e0 m0 x m o (xs (v + 1).toNatClampNeg) SC SM c1 s1 K) : GL p l e room_1 s m9 #[va_rf (some b)] below meth c D cy A s.heap 8 (lw_Z below #[Value.ref b] s) SC SM c1 s1 1546 [(0, va_rf (some b)), (1, va_rf (some x)), (2, va_rf (some m)), (3, va_rf (some o)), (4, Value.int v)] [] := by
  obtain ⟨m1, m2, hc1, hs1, h⟩ := h
  replace hc1 := Nat.le_trans hc1 rC
  replace hs1 := Nat.le_trans hs1 rS
  refine GL_aload_n C (x := (some x)) 1 dL_law_1546 rfl rfl ?_
  refine GL_aload_n C (x := (some b)) 0 dL_law_1547 rfl rfl ?_
  refine GL_iload C (x := v) 4 dL_law_1548 rfl ?_
  refine GL_iconst C (v := 1) dL_law_1550 (by decide) ?_
  refine GL_iadd C dL_law_1551 ?_
  refine GL_sld C hX hbl hbA h1 dL_law_1552 ?_
  refine GL_aload_n C (x := (some o)) 3 dL_law_1553 rfl rfl ?_
  refine GL_callW C hZ tw_4_146 tw_4_147 tw_1_0 tw_4_148 hy_L_extend ⟨Nat.le_of_ble_eq_true rfl, Nat.le_of_ble_eq_true rfl⟩ (As := [va_rf (some x), Value.int (xs (v + 1).toNatClampNeg), va_rf (some o)]) (rest := []) (c_L_extend l hl D cy (some x) (xs (v + 1).toNatClampNeg) (some o) SC m1 m2 _ h) rfl rfl (Nat.zero_le _) dL_law_1554 ⟨hc1, hs1⟩ (fun k5 SC1 h => ?_)
  obtain ⟨hk1, h⟩ := h
  refine GL_istore C (i := 5) (lv' := [(5, Value.int k5), (0, va_rf (some b)), (1, va_rf (some x)), (2, va_rf (some m)), (3, va_rf (some o)), (4, Value.int v)]) dL_law_1557 (by decide) (by first | rfl | simp [va_cat, vi_cat, vl_cat]) ?_
  refine GL_aload_n C (x := (some m)) 3 dL_law_1559 rfl rfl ?_
  refine GL_aload_n C (x := (some b)) 1 dL_law_1560 rfl rfl ?_
  refine GL_iload C (x := v) 5 dL_law_1561 rfl ?_
  refine GL_iconst C (v := 1) dL_law_1563 (by decide) ?_
  refine GL_iadd C dL_law_1564 ?_
  refine GL_sld C hX hbl hbA h1 dL_law_1565 ?_
  refine GL_callMi C hZ (Tf := TX9) (N := 50) hk1 (by decide) rfl tw_6_230 tw_6_231 tw_6_232 tw_1_7 tw_6_233 hy_X9_extend ⟨Nat.le_of_ble_eq_true rfl, Nat.le_of_ble_eq_true rfl⟩ (As := [Value.int (xs (v + 1).toNatClampNeg)]) (rest := []) (c_X9_extend l D cy m (xs (v + 1).toNatClampNeg) SM _ h) rfl rfl (by simp [va_cat, vi_cat, vl_cat]) dL_law_1566 ⟨hc1, hs1⟩ (fun b5 SM1 h => ?_)
  obtain ⟨hk2, h⟩ := h
  refine GL_istore C (i := 6) (lv' := [(6, Value.int b5), (5, Value.int k5), (0, va_rf (some b)), (1, va_rf (some x)), (2, va_rf (some m)), (3, va_rf (some o)), (4, Value.int v)]) dL_law_1569 (by decide) (by first | rfl | simp [va_cat, vi_cat, vl_cat]) ?_
  refine GL_aload_n C (x := (some m)) 4 dL_law_1571 rfl rfl ?_
  refine GL_callMi C hZ (Tf := TX9) (N := 50) hk2 (by decide) rfl tw_6_41 tw_6_42 tw_6_43 tw_1_7 tw_6_44 hy_X9_thrown ⟨Nat.le_of_ble_eq_true rfl, Nat.le_of_ble_eq_true rfl⟩ (As := []) (rest := []) (c_X9_thrown l D cy m  SM1 _ h) rfl rfl (by simp [va_cat, vi_cat, vl_cat]) dL_law_1572 ⟨hc1, hs1⟩ (fun t5 SM2 h => ?_)
  obtain ⟨ht, hout, h⟩ := h
  refine GL_iload C (x := k5) 1 dL_law_1575 rfl ?_
  refine GL_icmp_eq C (tgt := 1582) dL_law_1577 (by decide) (fun _ => ?_) (fun hc => absurd ht hc)
  refine GL_iload C (x := k5) 1 dL_law_1582 rfl ?_
  refine GL_if_ne C (tgt := 1599) dL_law_1584 (by decide) (fun _ => ?_) (fun hk0 => ?_)
  · refine GL_goto C (tgt := 2596) dL_law_1599 (by decide) ?_
    refine GL_lv C (lv' := [(0, va_rf (some b)), (1, va_rf (some x)), (2, va_rf (some m)), (3, va_rf (some o)), (4, Value.int v)]) [2, 3, 4, 5, 6] rfl ?_
    exact kk _ _ _ _ h
  · obtain ⟨ho, hin, heq⟩ := hout hk0
    refine GL_aload_n C (x := (some o)) 5 dL_law_1587 rfl rfl ?_
    refine GL_iconst C (v := 0) dL_law_1588 (by decide) ?_
    refine GL_lald C ho hin dL_law_1589 ?_
    refine GL_iload C (x := b5) 0 dL_law_1590 rfl ?_
    refine GL_i2l C dL_law_1592 ?_
    refine GL_lcmp C dL_law_1593 ?_
    refine GL_if_eq C (tgt := 1599) dL_law_1594 (by decide) (fun _ => ?_) (fun hc => absurd (lw_cmp0 heq) hc)
    refine GL_goto C (tgt := 2596) dL_law_1599 (by decide) ?_
    refine GL_lv C (lv' := [(0, va_rf (some b)), (1, va_rf (some x)), (2, va_rf (some m)), (3, va_rf (some o)), (4, Value.int v)]) [2, 3, 4, 5, 6] rfl ?_
    exact kk _ _ _ _ h
set_option maxHeartbeats 4000000 in
set_option maxRecDepth 100000 in
theorem k_op_19 {p : Program} {l : Launch} {e : Env} {s : State} {m9 : MethodId} {below : List Frame} {meth : Method} {c : Code} {D : va_G} {cy : Nat → Nat} {A : Nat → Prop} {b L : Nat} {xs : Nat → Int32} (hl : l.stackTraces = false) (C : Cx p s m9 #[va_rf (some b)] meth c cL_law 8 lw_tbl "TrenchboardLaw" D cy A s.heap) (hZ : ZZ cy A s s.heap) (hX : va_X b L xs s s.heap) (hbl : b < s.heap.size) (hbA : ¬ A b) (hAs : A = fun q => s.heap.size ≤ q) (hr : meth.sig.returnType = ret) (e0 m0 x m o : Nat) (he : e0 = cy 9) (hm : m0 = cy 10) (v : Int32) (h1 : vp_in (v + 1) L) (SC SM : PT) (c1 s1 : Nat) (K : PT → PT → Nat → Nat → Prop) (kk : ∀ (SC SM : PT) (c1 s1 : Nat), K SC SM c1 s1 → GL p l e room_1 s m9 #[va_rf (some b)] below meth c D cy A s.heap 8 (lw_Z below #[Value.ref b] s) SC SM c1 s1 2596 [(0, va_rf (some b)), (1, va_rf (some x)), (2, va_rf (some m)), (3, va_rf (some o)), (4, Value.int v)] []) (h : w_op_19 e0 m0 x m o (xs (v + 1).toNatClampNeg) SC SM c1 s1 K) : GL p l e room_1 s m9 #[va_rf (some b)] below meth c D cy A s.heap 8 (lw_Z below #[Value.ref b] s) SC SM c1 s1 1602 [(0, va_rf (some b)), (1, va_rf (some x)), (2, va_rf (some m)), (3, va_rf (some o)), (4, Value.int v)] [] := by
  obtain ⟨m1, m2, hc1, hs1, h⟩ := h
  replace hc1 := Nat.le_trans hc1 rC
  replace hs1 := Nat.le_trans hs1 rS
  refine GL_aload_n C (x := (some x)) 1 dL_law_1602 rfl rfl ?_
  refine GL_aload_n C (x := (some b)) 0 dL_law_1603 rfl rfl ?_
  refine GL_iload C (x := v) 4 dL_law_1604 rfl ?_
  refine GL_iconst C (v := 1) dL_law_1606 (by decide) ?_
  refine GL_iadd C dL_law_1607 ?_
  refine GL_sld C hX hbl hbA h1 dL_law_1608 ?_
  refine GL_aload_n C (x := (some o)) 3 dL_law_1609 rfl rfl ?_
  refine GL_callW C hZ tw_4_156 tw_4_157 tw_1_0 tw_4_158 hy_L_stop ⟨Nat.le_of_ble_eq_true rfl, Nat.le_of_ble_eq_true rfl⟩ (As := [va_rf (some x), Value.int (xs (v + 1).toNatClampNeg), va_rf (some o)]) (rest := []) (c_L_stop l hl D cy (some x) (xs (v + 1).toNatClampNeg) (some o) SC m1 m2 _ h) rfl rfl (Nat.zero_le _) dL_law_1610 ⟨hc1, hs1⟩ (fun k5 SC1 h => ?_)
  obtain ⟨hk1, h⟩ := h
  refine GL_istore C (i := 5) (lv' := [(5, Value.int k5), (0, va_rf (some b)), (1, va_rf (some x)), (2, va_rf (some m)), (3, va_rf (some o)), (4, Value.int v)]) dL_law_1613 (by decide) (by first | rfl | simp [va_cat, vi_cat, vl_cat]) ?_
  refine GL_aload_n C (x := (some m)) 3 dL_law_1615 rfl rfl ?_
  refine GL_aload_n C (x := (some b)) 1 dL_law_1616 rfl rfl ?_
  refine GL_iload C (x := v) 5 dL_law_1617 rfl ?_
  refine GL_iconst C (v := 1) dL_law_1619 (by decide) ?_
  refine GL_iadd C dL_law_1620 ?_
  refine GL_sld C hX hbl hbA h1 dL_law_1621 ?_
  refine GL_callMi C hZ (Tf := TX9) (N := 50) hk1 (by decide) rfl tw_6_234 tw_6_235 tw_6_236 tw_1_7 tw_6_237 hy_X9_stop ⟨Nat.le_of_ble_eq_true rfl, Nat.le_of_ble_eq_true rfl⟩ (As := [Value.int (xs (v + 1).toNatClampNeg)]) (rest := []) (c_X9_stop l D cy m (xs (v + 1).toNatClampNeg) SM _ h) rfl rfl (by simp [va_cat, vi_cat, vl_cat]) dL_law_1622 ⟨hc1, hs1⟩ (fun b5 SM1 h => ?_)
  obtain ⟨hk2, h⟩ := h
  refine GL_istore C (i := 6) (lv' := [(6, Value.int b5), (5, Value.int k5), (0, va_rf (some b)), (1, va_rf (some x)), (2, va_rf (some m)), (3, va_rf (some o)), (4, Value.int v)]) dL_law_1625 (by decide) (by first | rfl | simp [va_cat, vi_cat, vl_cat]) ?_
  refine GL_aload_n C (x := (some m)) 4 dL_law_1627 rfl rfl ?_
  refine GL_callMi C hZ (Tf := TX9) (N := 50) hk2 (by decide) rfl tw_6_41 tw_6_42 tw_6_43 tw_1_7 tw_6_44 hy_X9_thrown ⟨Nat.le_of_ble_eq_true rfl, Nat.le_of_ble_eq_true rfl⟩ (As := []) (rest := []) (c_X9_thrown l D cy m  SM1 _ h) rfl rfl (by simp [va_cat, vi_cat, vl_cat]) dL_law_1628 ⟨hc1, hs1⟩ (fun t5 SM2 h => ?_)
  obtain ⟨ht, hout, h⟩ := h
  refine GL_iload C (x := k5) 1 dL_law_1631 rfl ?_
  refine GL_icmp_eq C (tgt := 1638) dL_law_1633 (by decide) (fun _ => ?_) (fun hc => absurd ht hc)
  refine GL_iload C (x := k5) 1 dL_law_1638 rfl ?_
  refine GL_if_ne C (tgt := 1655) dL_law_1640 (by decide) (fun _ => ?_) (fun hk0 => ?_)
  · refine GL_goto C (tgt := 2596) dL_law_1655 (by decide) ?_
    refine GL_lv C (lv' := [(0, va_rf (some b)), (1, va_rf (some x)), (2, va_rf (some m)), (3, va_rf (some o)), (4, Value.int v)]) [2, 3, 4, 5, 6] rfl ?_
    exact kk _ _ _ _ h
  · obtain ⟨ho, hin, heq⟩ := hout hk0
    refine GL_aload_n C (x := (some o)) 5 dL_law_1643 rfl rfl ?_
    refine GL_iconst C (v := 0) dL_law_1644 (by decide) ?_
    refine GL_lald C ho hin dL_law_1645 ?_
    refine GL_iload C (x := b5) 0 dL_law_1646 rfl ?_
    refine GL_i2l C dL_law_1648 ?_
    refine GL_lcmp C dL_law_1649 ?_
    refine GL_if_eq C (tgt := 1655) dL_law_1650 (by decide) (fun _ => ?_) (fun hc => absurd (lw_cmp0 heq) hc)
    refine GL_goto C (tgt := 2596) dL_law_1655 (by decide) ?_
    refine GL_lv C (lv' := [(0, va_rf (some b)), (1, va_rf (some x)), (2, va_rf (some m)), (3, va_rf (some o)), (4, Value.int v)]) [2, 3, 4, 5, 6] rfl ?_
    exact kk _ _ _ _ h
set_option maxHeartbeats 4000000 in
set_option maxRecDepth 100000 in
theorem k_op_20 {p : Program} {l : Launch} {e : Env} {s : State} {m9 : MethodId} {below : List Frame} {meth : Method} {c : Code} {D : va_G} {cy : Nat → Nat} {A : Nat → Prop} {b L : Nat} {xs : Nat → Int32} (hl : l.stackTraces = false) (C : Cx p s m9 #[va_rf (some b)] meth c cL_law 8 lw_tbl "TrenchboardLaw" D cy A s.heap) (hZ : ZZ cy A s s.heap) (hX : va_X b L xs s s.heap) (hbl : b < s.heap.size) (hbA : ¬ A b) (hAs : A = fun q => s.heap.size ≤ q) (hr : meth.sig.returnType = ret) (e0 m0 x m o : Nat) (he : e0 = cy 9) (hm : m0 = cy 10) (v : Int32) (h1 : vp_in (v + 1) L) (SC SM : PT) (c1 s1 : Nat) (K : PT → PT → Nat → Nat → Prop) (kk : ∀ (SC SM : PT) (c1 s1 : Nat), K SC SM c1 s1 → GL p l e room_1 s m9 #[va_rf (some b)] below meth c D cy A s.heap 8 (lw_Z below #[Value.ref b] s) SC SM c1 s1 2596 [(0, va_rf (some b)), (1, va_rf (some x)), (2, va_rf (some m)), (3, va_rf (some o)), (4, Value.int v)] []) (h : w_op_20 e0 m0 x m o (xs (v + 1).toNatClampNeg) SC SM c1 s1 K) : GL p l e room_1 s m9 #[va_rf (some b)] below meth c D cy A s.heap 8 (lw_Z below #[Value.ref b] s) SC SM c1 s1 1658 [(0, va_rf (some b)), (1, va_rf (some x)), (2, va_rf (some m)), (3, va_rf (some o)), (4, Value.int v)] [] := by
  obtain ⟨m1, m2, hc1, hs1, h⟩ := h
  replace hc1 := Nat.le_trans hc1 rC
  replace hs1 := Nat.le_trans hs1 rS
  refine GL_aload_n C (x := (some x)) 1 dL_law_1658 rfl rfl ?_
  refine GL_aload_n C (x := (some b)) 0 dL_law_1659 rfl rfl ?_
  refine GL_iload C (x := v) 4 dL_law_1660 rfl ?_
  refine GL_iconst C (v := 1) dL_law_1662 (by decide) ?_
  refine GL_iadd C dL_law_1663 ?_
  refine GL_sld C hX hbl hbA h1 dL_law_1664 ?_
  refine GL_aload_n C (x := (some o)) 3 dL_law_1665 rfl rfl ?_
  refine GL_callW C hZ tw_4_164 tw_4_165 tw_1_0 tw_4_166 hy_L_pass ⟨Nat.le_of_ble_eq_true rfl, Nat.le_of_ble_eq_true rfl⟩ (As := [va_rf (some x), Value.int (xs (v + 1).toNatClampNeg), va_rf (some o)]) (rest := []) (c_L_pass l hl D cy (some x) (xs (v + 1).toNatClampNeg) (some o) SC m1 m2 _ h) rfl rfl (Nat.zero_le _) dL_law_1666 ⟨hc1, hs1⟩ (fun k5 SC1 h => ?_)
  obtain ⟨hk1, h⟩ := h
  refine GL_istore C (i := 5) (lv' := [(5, Value.int k5), (0, va_rf (some b)), (1, va_rf (some x)), (2, va_rf (some m)), (3, va_rf (some o)), (4, Value.int v)]) dL_law_1669 (by decide) (by first | rfl | simp [va_cat, vi_cat, vl_cat]) ?_
  refine GL_aload_n C (x := (some m)) 3 dL_law_1671 rfl rfl ?_
  refine GL_aload_n C (x := (some b)) 1 dL_law_1672 rfl rfl ?_
  refine GL_iload C (x := v) 5 dL_law_1673 rfl ?_
  refine GL_iconst C (v := 1) dL_law_1675 (by decide) ?_
  refine GL_iadd C dL_law_1676 ?_
  refine GL_sld C hX hbl hbA h1 dL_law_1677 ?_
  refine GL_callMi C hZ (Tf := TX9) (N := 50) hk1 (by decide) rfl tw_7_2 tw_7_3 tw_7_4 tw_1_7 tw_7_5 hy_X9_pass ⟨Nat.le_of_ble_eq_true rfl, Nat.le_of_ble_eq_true rfl⟩ (As := [Value.int (xs (v + 1).toNatClampNeg)]) (rest := []) (c_X9_pass l D cy m (xs (v + 1).toNatClampNeg) SM _ h) rfl rfl (by simp [va_cat, vi_cat, vl_cat]) dL_law_1678 ⟨hc1, hs1⟩ (fun b5 SM1 h => ?_)
  obtain ⟨hk2, h⟩ := h
  refine GL_istore C (i := 6) (lv' := [(6, Value.int b5), (5, Value.int k5), (0, va_rf (some b)), (1, va_rf (some x)), (2, va_rf (some m)), (3, va_rf (some o)), (4, Value.int v)]) dL_law_1681 (by decide) (by first | rfl | simp [va_cat, vi_cat, vl_cat]) ?_
  refine GL_aload_n C (x := (some m)) 4 dL_law_1683 rfl rfl ?_
  refine GL_callMi C hZ (Tf := TX9) (N := 50) hk2 (by decide) rfl tw_6_41 tw_6_42 tw_6_43 tw_1_7 tw_6_44 hy_X9_thrown ⟨Nat.le_of_ble_eq_true rfl, Nat.le_of_ble_eq_true rfl⟩ (As := []) (rest := []) (c_X9_thrown l D cy m  SM1 _ h) rfl rfl (by simp [va_cat, vi_cat, vl_cat]) dL_law_1684 ⟨hc1, hs1⟩ (fun t5 SM2 h => ?_)
  obtain ⟨ht, hout, h⟩ := h
  refine GL_iload C (x := k5) 1 dL_law_1687 rfl ?_
  refine GL_icmp_eq C (tgt := 1694) dL_law_1689 (by decide) (fun _ => ?_) (fun hc => absurd ht hc)
  refine GL_iload C (x := k5) 1 dL_law_1694 rfl ?_
  refine GL_if_ne C (tgt := 1711) dL_law_1696 (by decide) (fun _ => ?_) (fun hk0 => ?_)
  · refine GL_goto C (tgt := 2596) dL_law_1711 (by decide) ?_
    refine GL_lv C (lv' := [(0, va_rf (some b)), (1, va_rf (some x)), (2, va_rf (some m)), (3, va_rf (some o)), (4, Value.int v)]) [2, 3, 4, 5, 6] rfl ?_
    exact kk _ _ _ _ h
  · obtain ⟨ho, hin, heq⟩ := hout hk0
    refine GL_aload_n C (x := (some o)) 5 dL_law_1699 rfl rfl ?_
    refine GL_iconst C (v := 0) dL_law_1700 (by decide) ?_
    refine GL_lald C ho hin dL_law_1701 ?_
    refine GL_iload C (x := b5) 0 dL_law_1702 rfl ?_
    refine GL_i2l C dL_law_1704 ?_
    refine GL_lcmp C dL_law_1705 ?_
    refine GL_if_eq C (tgt := 1711) dL_law_1706 (by decide) (fun _ => ?_) (fun hc => absurd (lw_cmp0 heq) hc)
    refine GL_goto C (tgt := 2596) dL_law_1711 (by decide) ?_
    refine GL_lv C (lv' := [(0, va_rf (some b)), (1, va_rf (some x)), (2, va_rf (some m)), (3, va_rf (some o)), (4, Value.int v)]) [2, 3, 4, 5, 6] rfl ?_
    exact kk _ _ _ _ h
set_option maxHeartbeats 4000000 in
set_option maxRecDepth 100000 in
theorem k_op_21 {p : Program} {l : Launch} {e : Env} {s : State} {m9 : MethodId} {below : List Frame} {meth : Method} {c : Code} {D : va_G} {cy : Nat → Nat} {A : Nat → Prop} {b L : Nat} {xs : Nat → Int32} (hl : l.stackTraces = false) (C : Cx p s m9 #[va_rf (some b)] meth c cL_law 8 lw_tbl "TrenchboardLaw" D cy A s.heap) (hZ : ZZ cy A s s.heap) (hX : va_X b L xs s s.heap) (hbl : b < s.heap.size) (hbA : ¬ A b) (hAs : A = fun q => s.heap.size ≤ q) (hr : meth.sig.returnType = ret) (e0 m0 x m o : Nat) (he : e0 = cy 9) (hm : m0 = cy 10) (v : Int32) (h1 : vp_in (v + 1) L) (h2 : vp_in (v + 2) L) (h3 : vp_in (v + 3) L) (SC SM : PT) (c1 s1 : Nat) (K : PT → PT → Nat → Nat → Prop) (kk : ∀ (SC SM : PT) (c1 s1 : Nat), K SC SM c1 s1 → GL p l e room_1 s m9 #[va_rf (some b)] below meth c D cy A s.heap 8 (lw_Z below #[Value.ref b] s) SC SM c1 s1 2596 [(0, va_rf (some b)), (1, va_rf (some x)), (2, va_rf (some m)), (3, va_rf (some o)), (4, Value.int v)] []) (h : w_op_21 e0 m0 x m o (xs (v + 1).toNatClampNeg) (xs (v + 2).toNatClampNeg) (xs (v + 3).toNatClampNeg) SC SM c1 s1 K) : GL p l e room_1 s m9 #[va_rf (some b)] below meth c D cy A s.heap 8 (lw_Z below #[Value.ref b] s) SC SM c1 s1 1714 [(0, va_rf (some b)), (1, va_rf (some x)), (2, va_rf (some m)), (3, va_rf (some o)), (4, Value.int v)] [] := by
  obtain ⟨m1, m2, hc1, hs1, h⟩ := h
  replace hc1 := Nat.le_trans hc1 rC
  replace hs1 := Nat.le_trans hs1 rS
  refine GL_aload_n C (x := (some x)) 1 dL_law_1714 rfl rfl ?_
  refine GL_aload_n C (x := (some b)) 0 dL_law_1715 rfl rfl ?_
  refine GL_iload C (x := v) 4 dL_law_1716 rfl ?_
  refine GL_iconst C (v := 1) dL_law_1718 (by decide) ?_
  refine GL_iadd C dL_law_1719 ?_
  refine GL_sld C hX hbl hbA h1 dL_law_1720 ?_
  refine GL_aload_n C (x := (some b)) 0 dL_law_1721 rfl rfl ?_
  refine GL_iload C (x := v) 4 dL_law_1722 rfl ?_
  refine GL_iconst C (v := 2) dL_law_1724 (by decide) ?_
  refine GL_iadd C dL_law_1725 ?_
  refine GL_sld C hX hbl hbA h2 dL_law_1726 ?_
  refine GL_aload_n C (x := (some b)) 0 dL_law_1727 rfl rfl ?_
  refine GL_iload C (x := v) 4 dL_law_1728 rfl ?_
  refine GL_iconst C (v := 3) dL_law_1730 (by decide) ?_
  refine GL_iadd C dL_law_1731 ?_
  refine GL_sld C hX hbl hbA h3 dL_law_1732 ?_
  refine GL_aload_n C (x := (some o)) 3 dL_law_1733 rfl rfl ?_
  refine GL_callW C hZ tw_4_214 tw_4_215 tw_1_0 tw_4_216 hy_L_defect ⟨Nat.le_of_ble_eq_true rfl, Nat.le_of_ble_eq_true rfl⟩ (As := [va_rf (some x), Value.int (xs (v + 1).toNatClampNeg), Value.int (xs (v + 2).toNatClampNeg), Value.int (xs (v + 3).toNatClampNeg), va_rf (some o)]) (rest := []) (c_L_defect l hl D cy (some x) (xs (v + 1).toNatClampNeg) (xs (v + 2).toNatClampNeg) (xs (v + 3).toNatClampNeg) (some o) SC m1 m2 _ h) rfl rfl (Nat.zero_le _) dL_law_1734 ⟨hc1, hs1⟩ (fun k5 SC1 h => ?_)
  obtain ⟨hk1, h⟩ := h
  refine GL_istore C (i := 5) (lv' := [(5, Value.int k5), (0, va_rf (some b)), (1, va_rf (some x)), (2, va_rf (some m)), (3, va_rf (some o)), (4, Value.int v)]) dL_law_1737 (by decide) (by first | rfl | simp [va_cat, vi_cat, vl_cat]) ?_
  refine GL_aload_n C (x := (some m)) 3 dL_law_1739 rfl rfl ?_
  refine GL_aload_n C (x := (some b)) 1 dL_law_1740 rfl rfl ?_
  refine GL_iload C (x := v) 5 dL_law_1741 rfl ?_
  refine GL_iconst C (v := 1) dL_law_1743 (by decide) ?_
  refine GL_iadd C dL_law_1744 ?_
  refine GL_sld C hX hbl hbA h1 dL_law_1745 ?_
  refine GL_aload_n C (x := (some b)) 1 dL_law_1746 rfl rfl ?_
  refine GL_iload C (x := v) 5 dL_law_1747 rfl ?_
  refine GL_iconst C (v := 2) dL_law_1749 (by decide) ?_
  refine GL_iadd C dL_law_1750 ?_
  refine GL_sld C hX hbl hbA h2 dL_law_1751 ?_
  refine GL_aload_n C (x := (some b)) 1 dL_law_1752 rfl rfl ?_
  refine GL_iload C (x := v) 5 dL_law_1753 rfl ?_
  refine GL_iconst C (v := 3) dL_law_1755 (by decide) ?_
  refine GL_iadd C dL_law_1756 ?_
  refine GL_sld C hX hbl hbA h3 dL_law_1757 ?_
  refine GL_callMi C hZ (Tf := TX9) (N := 50) hk1 (by decide) rfl tw_7_38 tw_7_39 tw_7_40 tw_1_7 tw_7_41 hy_X9_defect ⟨Nat.le_of_ble_eq_true rfl, Nat.le_of_ble_eq_true rfl⟩ (As := [Value.int (xs (v + 1).toNatClampNeg), Value.int (xs (v + 2).toNatClampNeg), Value.int (xs (v + 3).toNatClampNeg)]) (rest := []) (c_X9_defect l D cy m (xs (v + 1).toNatClampNeg) (xs (v + 2).toNatClampNeg) (xs (v + 3).toNatClampNeg) SM _ h) rfl rfl (by simp [va_cat, vi_cat, vl_cat]) dL_law_1758 ⟨hc1, hs1⟩ (fun b5 SM1 h => ?_)
  obtain ⟨hk2, h⟩ := h
  refine GL_istore C (i := 6) (lv' := [(6, Value.int b5), (5, Value.int k5), (0, va_rf (some b)), (1, va_rf (some x)), (2, va_rf (some m)), (3, va_rf (some o)), (4, Value.int v)]) dL_law_1761 (by decide) (by first | rfl | simp [va_cat, vi_cat, vl_cat]) ?_
  refine GL_aload_n C (x := (some m)) 4 dL_law_1763 rfl rfl ?_
  refine GL_callMi C hZ (Tf := TX9) (N := 50) hk2 (by decide) rfl tw_6_41 tw_6_42 tw_6_43 tw_1_7 tw_6_44 hy_X9_thrown ⟨Nat.le_of_ble_eq_true rfl, Nat.le_of_ble_eq_true rfl⟩ (As := []) (rest := []) (c_X9_thrown l D cy m  SM1 _ h) rfl rfl (by simp [va_cat, vi_cat, vl_cat]) dL_law_1764 ⟨hc1, hs1⟩ (fun t5 SM2 h => ?_)
  obtain ⟨ht, hout, h⟩ := h
  refine GL_iload C (x := k5) 1 dL_law_1767 rfl ?_
  refine GL_icmp_eq C (tgt := 1774) dL_law_1769 (by decide) (fun _ => ?_) (fun hc => absurd ht hc)
  refine GL_iload C (x := k5) 1 dL_law_1774 rfl ?_
  refine GL_if_ne C (tgt := 1791) dL_law_1776 (by decide) (fun _ => ?_) (fun hk0 => ?_)
  · refine GL_goto C (tgt := 2596) dL_law_1791 (by decide) ?_
    refine GL_lv C (lv' := [(0, va_rf (some b)), (1, va_rf (some x)), (2, va_rf (some m)), (3, va_rf (some o)), (4, Value.int v)]) [2, 3, 4, 5, 6] rfl ?_
    exact kk _ _ _ _ h
  · obtain ⟨ho, hin, heq⟩ := hout hk0
    refine GL_aload_n C (x := (some o)) 5 dL_law_1779 rfl rfl ?_
    refine GL_iconst C (v := 0) dL_law_1780 (by decide) ?_
    refine GL_lald C ho hin dL_law_1781 ?_
    refine GL_iload C (x := b5) 0 dL_law_1782 rfl ?_
    refine GL_i2l C dL_law_1784 ?_
    refine GL_lcmp C dL_law_1785 ?_
    refine GL_if_eq C (tgt := 1791) dL_law_1786 (by decide) (fun _ => ?_) (fun hc => absurd (lw_cmp0 heq) hc)
    refine GL_goto C (tgt := 2596) dL_law_1791 (by decide) ?_
    refine GL_lv C (lv' := [(0, va_rf (some b)), (1, va_rf (some x)), (2, va_rf (some m)), (3, va_rf (some o)), (4, Value.int v)]) [2, 3, 4, 5, 6] rfl ?_
    exact kk _ _ _ _ h
set_option maxHeartbeats 4000000 in
set_option maxRecDepth 100000 in
theorem k_op_22 {p : Program} {l : Launch} {e : Env} {s : State} {m9 : MethodId} {below : List Frame} {meth : Method} {c : Code} {D : va_G} {cy : Nat → Nat} {A : Nat → Prop} {b L : Nat} {xs : Nat → Int32} (hl : l.stackTraces = false) (C : Cx p s m9 #[va_rf (some b)] meth c cL_law 8 lw_tbl "TrenchboardLaw" D cy A s.heap) (hZ : ZZ cy A s s.heap) (hX : va_X b L xs s s.heap) (hbl : b < s.heap.size) (hbA : ¬ A b) (hAs : A = fun q => s.heap.size ≤ q) (hr : meth.sig.returnType = ret) (e0 m0 x m o : Nat) (he : e0 = cy 9) (hm : m0 = cy 10) (v : Int32) (h1 : vp_in (v + 1) L) (h2 : vp_in (v + 2) L) (SC SM : PT) (c1 s1 : Nat) (K : PT → PT → Nat → Nat → Prop) (kk : ∀ (SC SM : PT) (c1 s1 : Nat), K SC SM c1 s1 → GL p l e room_1 s m9 #[va_rf (some b)] below meth c D cy A s.heap 8 (lw_Z below #[Value.ref b] s) SC SM c1 s1 2596 [(0, va_rf (some b)), (1, va_rf (some x)), (2, va_rf (some m)), (3, va_rf (some o)), (4, Value.int v)] []) (h : w_op_22 e0 m0 x m o (xs (v + 1).toNatClampNeg) (xs (v + 2).toNatClampNeg) SC SM c1 s1 K) : GL p l e room_1 s m9 #[va_rf (some b)] below meth c D cy A s.heap 8 (lw_Z below #[Value.ref b] s) SC SM c1 s1 1794 [(0, va_rf (some b)), (1, va_rf (some x)), (2, va_rf (some m)), (3, va_rf (some o)), (4, Value.int v)] [] := by
  obtain ⟨m1, m2, hc1, hs1, h⟩ := h
  replace hc1 := Nat.le_trans hc1 rC
  replace hs1 := Nat.le_trans hs1 rS
  refine GL_aload_n C (x := (some x)) 1 dL_law_1794 rfl rfl ?_
  refine GL_aload_n C (x := (some b)) 0 dL_law_1795 rfl rfl ?_
  refine GL_iload C (x := v) 4 dL_law_1796 rfl ?_
  refine GL_iconst C (v := 1) dL_law_1798 (by decide) ?_
  refine GL_iadd C dL_law_1799 ?_
  refine GL_sld C hX hbl hbA h1 dL_law_1800 ?_
  refine GL_aload_n C (x := (some b)) 0 dL_law_1801 rfl rfl ?_
  refine GL_iload C (x := v) 4 dL_law_1802 rfl ?_
  refine GL_iconst C (v := 2) dL_law_1804 (by decide) ?_
  refine GL_iadd C dL_law_1805 ?_
  refine GL_sld C hX hbl hbA h2 dL_law_1806 ?_
  refine GL_aload_n C (x := (some o)) 3 dL_law_1807 rfl rfl ?_
  refine GL_callW C hZ tw_4_238 tw_4_239 tw_1_0 tw_5_0 hy_L_core ⟨Nat.le_of_ble_eq_true rfl, Nat.le_of_ble_eq_true rfl⟩ (As := [va_rf (some x), Value.int (xs (v + 1).toNatClampNeg), Value.int (xs (v + 2).toNatClampNeg), va_rf (some o)]) (rest := []) (c_L_core l hl D cy (some x) (xs (v + 1).toNatClampNeg) (xs (v + 2).toNatClampNeg) (some o) SC m1 m2 _ h) rfl rfl (Nat.zero_le _) dL_law_1808 ⟨hc1, hs1⟩ (fun k5 SC1 h => ?_)
  obtain ⟨hk1, h⟩ := h
  refine GL_istore C (i := 5) (lv' := [(5, Value.int k5), (0, va_rf (some b)), (1, va_rf (some x)), (2, va_rf (some m)), (3, va_rf (some o)), (4, Value.int v)]) dL_law_1811 (by decide) (by first | rfl | simp [va_cat, vi_cat, vl_cat]) ?_
  refine GL_aload_n C (x := (some m)) 3 dL_law_1813 rfl rfl ?_
  refine GL_aload_n C (x := (some b)) 1 dL_law_1814 rfl rfl ?_
  refine GL_iload C (x := v) 5 dL_law_1815 rfl ?_
  refine GL_iconst C (v := 1) dL_law_1817 (by decide) ?_
  refine GL_iadd C dL_law_1818 ?_
  refine GL_sld C hX hbl hbA h1 dL_law_1819 ?_
  refine GL_aload_n C (x := (some b)) 1 dL_law_1820 rfl rfl ?_
  refine GL_iload C (x := v) 5 dL_law_1821 rfl ?_
  refine GL_iconst C (v := 2) dL_law_1823 (by decide) ?_
  refine GL_iadd C dL_law_1824 ?_
  refine GL_sld C hX hbl hbA h2 dL_law_1825 ?_
  refine GL_callMi C hZ (Tf := TX9) (N := 50) hk1 (by decide) rfl tw_7_50 tw_7_51 tw_7_52 tw_1_7 tw_7_53 hy_X9_core ⟨Nat.le_of_ble_eq_true rfl, Nat.le_of_ble_eq_true rfl⟩ (As := [Value.int (xs (v + 1).toNatClampNeg), Value.int (xs (v + 2).toNatClampNeg)]) (rest := []) (c_X9_core l D cy m (xs (v + 1).toNatClampNeg) (xs (v + 2).toNatClampNeg) SM _ h) rfl rfl (by simp [va_cat, vi_cat, vl_cat]) dL_law_1826 ⟨hc1, hs1⟩ (fun b5 SM1 h => ?_)
  obtain ⟨hk2, h⟩ := h
  refine GL_istore C (i := 6) (lv' := [(6, Value.int b5), (5, Value.int k5), (0, va_rf (some b)), (1, va_rf (some x)), (2, va_rf (some m)), (3, va_rf (some o)), (4, Value.int v)]) dL_law_1829 (by decide) (by first | rfl | simp [va_cat, vi_cat, vl_cat]) ?_
  refine GL_aload_n C (x := (some m)) 4 dL_law_1831 rfl rfl ?_
  refine GL_callMi C hZ (Tf := TX9) (N := 50) hk2 (by decide) rfl tw_6_41 tw_6_42 tw_6_43 tw_1_7 tw_6_44 hy_X9_thrown ⟨Nat.le_of_ble_eq_true rfl, Nat.le_of_ble_eq_true rfl⟩ (As := []) (rest := []) (c_X9_thrown l D cy m  SM1 _ h) rfl rfl (by simp [va_cat, vi_cat, vl_cat]) dL_law_1832 ⟨hc1, hs1⟩ (fun t5 SM2 h => ?_)
  obtain ⟨ht, hout, h⟩ := h
  refine GL_iload C (x := k5) 1 dL_law_1835 rfl ?_
  refine GL_icmp_eq C (tgt := 1842) dL_law_1837 (by decide) (fun _ => ?_) (fun hc => absurd ht hc)
  refine GL_iload C (x := k5) 1 dL_law_1842 rfl ?_
  refine GL_if_ne C (tgt := 1859) dL_law_1844 (by decide) (fun _ => ?_) (fun hk0 => ?_)
  · refine GL_goto C (tgt := 2596) dL_law_1859 (by decide) ?_
    refine GL_lv C (lv' := [(0, va_rf (some b)), (1, va_rf (some x)), (2, va_rf (some m)), (3, va_rf (some o)), (4, Value.int v)]) [2, 3, 4, 5, 6] rfl ?_
    exact kk _ _ _ _ h
  · obtain ⟨ho, hin, heq⟩ := hout hk0
    refine GL_aload_n C (x := (some o)) 5 dL_law_1847 rfl rfl ?_
    refine GL_iconst C (v := 0) dL_law_1848 (by decide) ?_
    refine GL_lald C ho hin dL_law_1849 ?_
    refine GL_iload C (x := b5) 0 dL_law_1850 rfl ?_
    refine GL_i2l C dL_law_1852 ?_
    refine GL_lcmp C dL_law_1853 ?_
    refine GL_if_eq C (tgt := 1859) dL_law_1854 (by decide) (fun _ => ?_) (fun hc => absurd (lw_cmp0 heq) hc)
    refine GL_goto C (tgt := 2596) dL_law_1859 (by decide) ?_
    refine GL_lv C (lv' := [(0, va_rf (some b)), (1, va_rf (some x)), (2, va_rf (some m)), (3, va_rf (some o)), (4, Value.int v)]) [2, 3, 4, 5, 6] rfl ?_
    exact kk _ _ _ _ h
set_option maxHeartbeats 4000000 in
set_option maxRecDepth 100000 in
theorem k_op_23 {p : Program} {l : Launch} {e : Env} {s : State} {m9 : MethodId} {below : List Frame} {meth : Method} {c : Code} {D : va_G} {cy : Nat → Nat} {A : Nat → Prop} {b L : Nat} {xs : Nat → Int32} (hl : l.stackTraces = false) (C : Cx p s m9 #[va_rf (some b)] meth c cL_law 8 lw_tbl "TrenchboardLaw" D cy A s.heap) (hZ : ZZ cy A s s.heap) (hX : va_X b L xs s s.heap) (hbl : b < s.heap.size) (hbA : ¬ A b) (hAs : A = fun q => s.heap.size ≤ q) (hr : meth.sig.returnType = ret) (e0 m0 x m o : Nat) (he : e0 = cy 9) (hm : m0 = cy 10) (v : Int32) (h1 : vp_in (v + 1) L) (h2 : vp_in (v + 2) L) (h3 : vp_in (v + 3) L) (SC SM : PT) (c1 s1 : Nat) (K : PT → PT → Nat → Nat → Prop) (kk : ∀ (SC SM : PT) (c1 s1 : Nat), K SC SM c1 s1 → GL p l e room_1 s m9 #[va_rf (some b)] below meth c D cy A s.heap 8 (lw_Z below #[Value.ref b] s) SC SM c1 s1 2596 [(0, va_rf (some b)), (1, va_rf (some x)), (2, va_rf (some m)), (3, va_rf (some o)), (4, Value.int v)] []) (h : w_op_23 e0 m0 x m o (xs (v + 1).toNatClampNeg) (xs (v + 2).toNatClampNeg) (xs (v + 3).toNatClampNeg) SC SM c1 s1 K) : GL p l e room_1 s m9 #[va_rf (some b)] below meth c D cy A s.heap 8 (lw_Z below #[Value.ref b] s) SC SM c1 s1 1862 [(0, va_rf (some b)), (1, va_rf (some x)), (2, va_rf (some m)), (3, va_rf (some o)), (4, Value.int v)] [] := by
  obtain ⟨m1, m2, hc1, hs1, h⟩ := h
  replace hc1 := Nat.le_trans hc1 rC
  replace hs1 := Nat.le_trans hs1 rS
  refine GL_aload_n C (x := (some x)) 1 dL_law_1862 rfl rfl ?_
  refine GL_aload_n C (x := (some b)) 0 dL_law_1863 rfl rfl ?_
  refine GL_iload C (x := v) 4 dL_law_1864 rfl ?_
  refine GL_iconst C (v := 1) dL_law_1866 (by decide) ?_
  refine GL_iadd C dL_law_1867 ?_
  refine GL_sld C hX hbl hbA h1 dL_law_1868 ?_
  refine GL_aload_n C (x := (some b)) 0 dL_law_1869 rfl rfl ?_
  refine GL_iload C (x := v) 4 dL_law_1870 rfl ?_
  refine GL_iconst C (v := 2) dL_law_1872 (by decide) ?_
  refine GL_iadd C dL_law_1873 ?_
  refine GL_sld C hX hbl hbA h2 dL_law_1874 ?_
  refine GL_aload_n C (x := (some b)) 0 dL_law_1875 rfl rfl ?_
  refine GL_iload C (x := v) 4 dL_law_1876 rfl ?_
  refine GL_iconst C (v := 3) dL_law_1878 (by decide) ?_
  refine GL_iadd C dL_law_1879 ?_
  refine GL_sld C hX hbl hbA h3 dL_law_1880 ?_
  refine GL_aload_n C (x := (some o)) 3 dL_law_1881 rfl rfl ?_
  refine GL_callW C hZ tw_5_10 tw_5_11 tw_1_0 tw_5_12 hy_L_liable ⟨Nat.le_of_ble_eq_true rfl, Nat.le_of_ble_eq_true rfl⟩ (As := [va_rf (some x), Value.int (xs (v + 1).toNatClampNeg), Value.int (xs (v + 2).toNatClampNeg), Value.int (xs (v + 3).toNatClampNeg), va_rf (some o)]) (rest := []) (c_L_liable l hl D cy (some x) (xs (v + 1).toNatClampNeg) (xs (v + 2).toNatClampNeg) (xs (v + 3).toNatClampNeg) (some o) SC m1 m2 _ h) rfl rfl (Nat.zero_le _) dL_law_1882 ⟨hc1, hs1⟩ (fun k5 SC1 h => ?_)
  obtain ⟨hk1, h⟩ := h
  refine GL_istore C (i := 5) (lv' := [(5, Value.int k5), (0, va_rf (some b)), (1, va_rf (some x)), (2, va_rf (some m)), (3, va_rf (some o)), (4, Value.int v)]) dL_law_1885 (by decide) (by first | rfl | simp [va_cat, vi_cat, vl_cat]) ?_
  refine GL_aload_n C (x := (some m)) 3 dL_law_1887 rfl rfl ?_
  refine GL_aload_n C (x := (some b)) 1 dL_law_1888 rfl rfl ?_
  refine GL_iload C (x := v) 5 dL_law_1889 rfl ?_
  refine GL_iconst C (v := 1) dL_law_1891 (by decide) ?_
  refine GL_iadd C dL_law_1892 ?_
  refine GL_sld C hX hbl hbA h1 dL_law_1893 ?_
  refine GL_aload_n C (x := (some b)) 1 dL_law_1894 rfl rfl ?_
  refine GL_iload C (x := v) 5 dL_law_1895 rfl ?_
  refine GL_iconst C (v := 2) dL_law_1897 (by decide) ?_
  refine GL_iadd C dL_law_1898 ?_
  refine GL_sld C hX hbl hbA h2 dL_law_1899 ?_
  refine GL_aload_n C (x := (some b)) 1 dL_law_1900 rfl rfl ?_
  refine GL_iload C (x := v) 5 dL_law_1901 rfl ?_
  refine GL_iconst C (v := 3) dL_law_1903 (by decide) ?_
  refine GL_iadd C dL_law_1904 ?_
  refine GL_sld C hX hbl hbA h3 dL_law_1905 ?_
  refine GL_callMi C hZ (Tf := TX9) (N := 50) hk1 (by decide) rfl tw_7_58 tw_7_59 tw_7_60 tw_1_7 tw_7_61 hy_X9_liable ⟨Nat.le_of_ble_eq_true rfl, Nat.le_of_ble_eq_true rfl⟩ (As := [Value.int (xs (v + 1).toNatClampNeg), Value.int (xs (v + 2).toNatClampNeg), Value.int (xs (v + 3).toNatClampNeg)]) (rest := []) (c_X9_liable l D cy m (xs (v + 1).toNatClampNeg) (xs (v + 2).toNatClampNeg) (xs (v + 3).toNatClampNeg) SM _ h) rfl rfl (by simp [va_cat, vi_cat, vl_cat]) dL_law_1906 ⟨hc1, hs1⟩ (fun b5 SM1 h => ?_)
  obtain ⟨hk2, h⟩ := h
  refine GL_istore C (i := 6) (lv' := [(6, Value.int b5), (5, Value.int k5), (0, va_rf (some b)), (1, va_rf (some x)), (2, va_rf (some m)), (3, va_rf (some o)), (4, Value.int v)]) dL_law_1909 (by decide) (by first | rfl | simp [va_cat, vi_cat, vl_cat]) ?_
  refine GL_aload_n C (x := (some m)) 4 dL_law_1911 rfl rfl ?_
  refine GL_callMi C hZ (Tf := TX9) (N := 50) hk2 (by decide) rfl tw_6_41 tw_6_42 tw_6_43 tw_1_7 tw_6_44 hy_X9_thrown ⟨Nat.le_of_ble_eq_true rfl, Nat.le_of_ble_eq_true rfl⟩ (As := []) (rest := []) (c_X9_thrown l D cy m  SM1 _ h) rfl rfl (by simp [va_cat, vi_cat, vl_cat]) dL_law_1912 ⟨hc1, hs1⟩ (fun t5 SM2 h => ?_)
  obtain ⟨ht, hout, h⟩ := h
  refine GL_iload C (x := k5) 1 dL_law_1915 rfl ?_
  refine GL_icmp_eq C (tgt := 1922) dL_law_1917 (by decide) (fun _ => ?_) (fun hc => absurd ht hc)
  refine GL_iload C (x := k5) 1 dL_law_1922 rfl ?_
  refine GL_if_ne C (tgt := 1939) dL_law_1924 (by decide) (fun _ => ?_) (fun hk0 => ?_)
  · refine GL_goto C (tgt := 2596) dL_law_1939 (by decide) ?_
    refine GL_lv C (lv' := [(0, va_rf (some b)), (1, va_rf (some x)), (2, va_rf (some m)), (3, va_rf (some o)), (4, Value.int v)]) [2, 3, 4, 5, 6] rfl ?_
    exact kk _ _ _ _ h
  · obtain ⟨ho, hin, heq⟩ := hout hk0
    refine GL_aload_n C (x := (some o)) 5 dL_law_1927 rfl rfl ?_
    refine GL_iconst C (v := 0) dL_law_1928 (by decide) ?_
    refine GL_lald C ho hin dL_law_1929 ?_
    refine GL_iload C (x := b5) 0 dL_law_1930 rfl ?_
    refine GL_i2l C dL_law_1932 ?_
    refine GL_lcmp C dL_law_1933 ?_
    refine GL_if_eq C (tgt := 1939) dL_law_1934 (by decide) (fun _ => ?_) (fun hc => absurd (lw_cmp0 heq) hc)
    refine GL_goto C (tgt := 2596) dL_law_1939 (by decide) ?_
    refine GL_lv C (lv' := [(0, va_rf (some b)), (1, va_rf (some x)), (2, va_rf (some m)), (3, va_rf (some o)), (4, Value.int v)]) [2, 3, 4, 5, 6] rfl ?_
    exact kk _ _ _ _ h
set_option maxHeartbeats 4000000 in
set_option maxRecDepth 100000 in
theorem k_op_24 {p : Program} {l : Launch} {e : Env} {s : State} {m9 : MethodId} {below : List Frame} {meth : Method} {c : Code} {D : va_G} {cy : Nat → Nat} {A : Nat → Prop} {b L : Nat} {xs : Nat → Int32} (hl : l.stackTraces = false) (C : Cx p s m9 #[va_rf (some b)] meth c cL_law 8 lw_tbl "TrenchboardLaw" D cy A s.heap) (hZ : ZZ cy A s s.heap) (hX : va_X b L xs s s.heap) (hbl : b < s.heap.size) (hbA : ¬ A b) (hAs : A = fun q => s.heap.size ≤ q) (hr : meth.sig.returnType = ret) (e0 m0 x m o : Nat) (he : e0 = cy 9) (hm : m0 = cy 10) (v : Int32) (h1 : vp_in (v + 1) L) (h2 : vp_in (v + 2) L) (h3 : vp_in (v + 3) L) (SC SM : PT) (c1 s1 : Nat) (K : PT → PT → Nat → Nat → Prop) (kk : ∀ (SC SM : PT) (c1 s1 : Nat), K SC SM c1 s1 → GL p l e room_1 s m9 #[va_rf (some b)] below meth c D cy A s.heap 8 (lw_Z below #[Value.ref b] s) SC SM c1 s1 2596 [(0, va_rf (some b)), (1, va_rf (some x)), (2, va_rf (some m)), (3, va_rf (some o)), (4, Value.int v)] []) (h : w_op_24 e0 m0 x m o (xs (v + 1).toNatClampNeg) (xs (v + 2).toNatClampNeg) (xs (v + 3).toNatClampNeg) SC SM c1 s1 K) : GL p l e room_1 s m9 #[va_rf (some b)] below meth c D cy A s.heap 8 (lw_Z below #[Value.ref b] s) SC SM c1 s1 1942 [(0, va_rf (some b)), (1, va_rf (some x)), (2, va_rf (some m)), (3, va_rf (some o)), (4, Value.int v)] [] := by
  obtain ⟨m1, m2, hc1, hs1, h⟩ := h
  replace hc1 := Nat.le_trans hc1 rC
  replace hs1 := Nat.le_trans hs1 rS
  refine GL_aload_n C (x := (some x)) 1 dL_law_1942 rfl rfl ?_
  refine GL_aload_n C (x := (some b)) 0 dL_law_1943 rfl rfl ?_
  refine GL_iload C (x := v) 4 dL_law_1944 rfl ?_
  refine GL_iconst C (v := 1) dL_law_1946 (by decide) ?_
  refine GL_iadd C dL_law_1947 ?_
  refine GL_sld C hX hbl hbA h1 dL_law_1948 ?_
  refine GL_aload_n C (x := (some b)) 0 dL_law_1949 rfl rfl ?_
  refine GL_iload C (x := v) 4 dL_law_1950 rfl ?_
  refine GL_iconst C (v := 2) dL_law_1952 (by decide) ?_
  refine GL_iadd C dL_law_1953 ?_
  refine GL_sld C hX hbl hbA h2 dL_law_1954 ?_
  refine GL_aload_n C (x := (some b)) 0 dL_law_1955 rfl rfl ?_
  refine GL_iload C (x := v) 4 dL_law_1956 rfl ?_
  refine GL_iconst C (v := 3) dL_law_1958 (by decide) ?_
  refine GL_iadd C dL_law_1959 ?_
  refine GL_sld C hX hbl hbA h3 dL_law_1960 ?_
  refine GL_aload_n C (x := (some o)) 3 dL_law_1961 rfl rfl ?_
  refine GL_callW C hZ tw_5_20 tw_5_21 tw_1_0 tw_5_22 hy_L_liableAnew ⟨Nat.le_of_ble_eq_true rfl, Nat.le_of_ble_eq_true rfl⟩ (As := [va_rf (some x), Value.int (xs (v + 1).toNatClampNeg), Value.int (xs (v + 2).toNatClampNeg), Value.int (xs (v + 3).toNatClampNeg), va_rf (some o)]) (rest := []) (c_L_liableAnew l hl D cy (some x) (xs (v + 1).toNatClampNeg) (xs (v + 2).toNatClampNeg) (xs (v + 3).toNatClampNeg) (some o) SC m1 m2 _ h) rfl rfl (Nat.zero_le _) dL_law_1962 ⟨hc1, hs1⟩ (fun k5 SC1 h => ?_)
  obtain ⟨hk1, h⟩ := h
  refine GL_istore C (i := 5) (lv' := [(5, Value.int k5), (0, va_rf (some b)), (1, va_rf (some x)), (2, va_rf (some m)), (3, va_rf (some o)), (4, Value.int v)]) dL_law_1965 (by decide) (by first | rfl | simp [va_cat, vi_cat, vl_cat]) ?_
  refine GL_aload_n C (x := (some m)) 3 dL_law_1967 rfl rfl ?_
  refine GL_aload_n C (x := (some b)) 1 dL_law_1968 rfl rfl ?_
  refine GL_iload C (x := v) 5 dL_law_1969 rfl ?_
  refine GL_iconst C (v := 1) dL_law_1971 (by decide) ?_
  refine GL_iadd C dL_law_1972 ?_
  refine GL_sld C hX hbl hbA h1 dL_law_1973 ?_
  refine GL_aload_n C (x := (some b)) 1 dL_law_1974 rfl rfl ?_
  refine GL_iload C (x := v) 5 dL_law_1975 rfl ?_
  refine GL_iconst C (v := 2) dL_law_1977 (by decide) ?_
  refine GL_iadd C dL_law_1978 ?_
  refine GL_sld C hX hbl hbA h2 dL_law_1979 ?_
  refine GL_aload_n C (x := (some b)) 1 dL_law_1980 rfl rfl ?_
  refine GL_iload C (x := v) 5 dL_law_1981 rfl ?_
  refine GL_iconst C (v := 3) dL_law_1983 (by decide) ?_
  refine GL_iadd C dL_law_1984 ?_
  refine GL_sld C hX hbl hbA h3 dL_law_1985 ?_
  refine GL_callMi C hZ (Tf := TX9) (N := 50) hk1 (by decide) rfl tw_7_62 tw_7_63 tw_7_64 tw_1_7 tw_7_65 hy_X9_liableAnew ⟨Nat.le_of_ble_eq_true rfl, Nat.le_of_ble_eq_true rfl⟩ (As := [Value.int (xs (v + 1).toNatClampNeg), Value.int (xs (v + 2).toNatClampNeg), Value.int (xs (v + 3).toNatClampNeg)]) (rest := []) (c_X9_liableAnew l D cy m (xs (v + 1).toNatClampNeg) (xs (v + 2).toNatClampNeg) (xs (v + 3).toNatClampNeg) SM _ h) rfl rfl (by simp [va_cat, vi_cat, vl_cat]) dL_law_1986 ⟨hc1, hs1⟩ (fun b5 SM1 h => ?_)
  obtain ⟨hk2, h⟩ := h
  refine GL_istore C (i := 6) (lv' := [(6, Value.int b5), (5, Value.int k5), (0, va_rf (some b)), (1, va_rf (some x)), (2, va_rf (some m)), (3, va_rf (some o)), (4, Value.int v)]) dL_law_1989 (by decide) (by first | rfl | simp [va_cat, vi_cat, vl_cat]) ?_
  refine GL_aload_n C (x := (some m)) 4 dL_law_1991 rfl rfl ?_
  refine GL_callMi C hZ (Tf := TX9) (N := 50) hk2 (by decide) rfl tw_6_41 tw_6_42 tw_6_43 tw_1_7 tw_6_44 hy_X9_thrown ⟨Nat.le_of_ble_eq_true rfl, Nat.le_of_ble_eq_true rfl⟩ (As := []) (rest := []) (c_X9_thrown l D cy m  SM1 _ h) rfl rfl (by simp [va_cat, vi_cat, vl_cat]) dL_law_1992 ⟨hc1, hs1⟩ (fun t5 SM2 h => ?_)
  obtain ⟨ht, hout, h⟩ := h
  refine GL_iload C (x := k5) 1 dL_law_1995 rfl ?_
  refine GL_icmp_eq C (tgt := 2002) dL_law_1997 (by decide) (fun _ => ?_) (fun hc => absurd ht hc)
  refine GL_iload C (x := k5) 1 dL_law_2002 rfl ?_
  refine GL_if_ne C (tgt := 2019) dL_law_2004 (by decide) (fun _ => ?_) (fun hk0 => ?_)
  · refine GL_goto C (tgt := 2596) dL_law_2019 (by decide) ?_
    refine GL_lv C (lv' := [(0, va_rf (some b)), (1, va_rf (some x)), (2, va_rf (some m)), (3, va_rf (some o)), (4, Value.int v)]) [2, 3, 4, 5, 6] rfl ?_
    exact kk _ _ _ _ h
  · obtain ⟨ho, hin, heq⟩ := hout hk0
    refine GL_aload_n C (x := (some o)) 5 dL_law_2007 rfl rfl ?_
    refine GL_iconst C (v := 0) dL_law_2008 (by decide) ?_
    refine GL_lald C ho hin dL_law_2009 ?_
    refine GL_iload C (x := b5) 0 dL_law_2010 rfl ?_
    refine GL_i2l C dL_law_2012 ?_
    refine GL_lcmp C dL_law_2013 ?_
    refine GL_if_eq C (tgt := 2019) dL_law_2014 (by decide) (fun _ => ?_) (fun hc => absurd (lw_cmp0 heq) hc)
    refine GL_goto C (tgt := 2596) dL_law_2019 (by decide) ?_
    refine GL_lv C (lv' := [(0, va_rf (some b)), (1, va_rf (some x)), (2, va_rf (some m)), (3, va_rf (some o)), (4, Value.int v)]) [2, 3, 4, 5, 6] rfl ?_
    exact kk _ _ _ _ h
set_option maxHeartbeats 4000000 in
set_option maxRecDepth 100000 in
theorem k_op_25 {p : Program} {l : Launch} {e : Env} {s : State} {m9 : MethodId} {below : List Frame} {meth : Method} {c : Code} {D : va_G} {cy : Nat → Nat} {A : Nat → Prop} {b L : Nat} {xs : Nat → Int32} (hl : l.stackTraces = false) (C : Cx p s m9 #[va_rf (some b)] meth c cL_law 8 lw_tbl "TrenchboardLaw" D cy A s.heap) (hZ : ZZ cy A s s.heap) (hX : va_X b L xs s s.heap) (hbl : b < s.heap.size) (hbA : ¬ A b) (hAs : A = fun q => s.heap.size ≤ q) (hr : meth.sig.returnType = ret) (e0 m0 x m o : Nat) (he : e0 = cy 9) (hm : m0 = cy 10) (v : Int32) (h1 : vp_in (v + 1) L) (SC SM : PT) (c1 s1 : Nat) (K : PT → PT → Nat → Nat → Prop) (kk : ∀ (SC SM : PT) (c1 s1 : Nat), K SC SM c1 s1 → GL p l e room_1 s m9 #[va_rf (some b)] below meth c D cy A s.heap 8 (lw_Z below #[Value.ref b] s) SC SM c1 s1 2596 [(0, va_rf (some b)), (1, va_rf (some x)), (2, va_rf (some m)), (3, va_rf (some o)), (4, Value.int v)] []) (h : w_op_25 e0 m0 x m o (xs (v + 1).toNatClampNeg) SC SM c1 s1 K) : GL p l e room_1 s m9 #[va_rf (some b)] below meth c D cy A s.heap 8 (lw_Z below #[Value.ref b] s) SC SM c1 s1 2022 [(0, va_rf (some b)), (1, va_rf (some x)), (2, va_rf (some m)), (3, va_rf (some o)), (4, Value.int v)] [] := by
  obtain ⟨m1, m2, hc1, hs1, h⟩ := h
  replace hc1 := Nat.le_trans hc1 rC
  replace hs1 := Nat.le_trans hs1 rS
  refine GL_aload_n C (x := (some x)) 1 dL_law_2022 rfl rfl ?_
  refine GL_aload_n C (x := (some b)) 0 dL_law_2023 rfl rfl ?_
  refine GL_iload C (x := v) 4 dL_law_2024 rfl ?_
  refine GL_iconst C (v := 1) dL_law_2026 (by decide) ?_
  refine GL_iadd C dL_law_2027 ?_
  refine GL_sld C hX hbl hbA h1 dL_law_2028 ?_
  refine GL_aload_n C (x := (some o)) 3 dL_law_2029 rfl rfl ?_
  refine GL_callW C hZ tw_5_49 tw_5_50 tw_1_0 tw_5_51 hy_L_bars ⟨Nat.le_of_ble_eq_true rfl, Nat.le_of_ble_eq_true rfl⟩ (As := [va_rf (some x), Value.int (xs (v + 1).toNatClampNeg), va_rf (some o)]) (rest := []) (c_L_bars l hl D cy (some x) (xs (v + 1).toNatClampNeg) (some o) SC m1 m2 _ h) rfl rfl (Nat.zero_le _) dL_law_2030 ⟨hc1, hs1⟩ (fun k5 SC1 h => ?_)
  obtain ⟨hk1, h⟩ := h
  refine GL_istore C (i := 5) (lv' := [(5, Value.int k5), (0, va_rf (some b)), (1, va_rf (some x)), (2, va_rf (some m)), (3, va_rf (some o)), (4, Value.int v)]) dL_law_2033 (by decide) (by first | rfl | simp [va_cat, vi_cat, vl_cat]) ?_
  refine GL_aload_n C (x := (some m)) 3 dL_law_2035 rfl rfl ?_
  refine GL_aload_n C (x := (some b)) 1 dL_law_2036 rfl rfl ?_
  refine GL_iload C (x := v) 5 dL_law_2037 rfl ?_
  refine GL_iconst C (v := 1) dL_law_2039 (by decide) ?_
  refine GL_iadd C dL_law_2040 ?_
  refine GL_sld C hX hbl hbA h1 dL_law_2041 ?_
  refine GL_callMi C hZ (Tf := TX9) (N := 50) hk1 (by decide) rfl tw_7_66 tw_7_67 tw_7_68 tw_1_7 tw_7_69 hy_X9_bars ⟨Nat.le_of_ble_eq_true rfl, Nat.le_of_ble_eq_true rfl⟩ (As := [Value.int (xs (v + 1).toNatClampNeg)]) (rest := []) (c_X9_bars l D cy m (xs (v + 1).toNatClampNeg) SM _ h) rfl rfl (by simp [va_cat, vi_cat, vl_cat]) dL_law_2042 ⟨hc1, hs1⟩ (fun b5 SM1 h => ?_)
  obtain ⟨hk2, h⟩ := h
  refine GL_istore C (i := 6) (lv' := [(6, Value.int b5), (5, Value.int k5), (0, va_rf (some b)), (1, va_rf (some x)), (2, va_rf (some m)), (3, va_rf (some o)), (4, Value.int v)]) dL_law_2045 (by decide) (by first | rfl | simp [va_cat, vi_cat, vl_cat]) ?_
  refine GL_aload_n C (x := (some m)) 4 dL_law_2047 rfl rfl ?_
  refine GL_callMi C hZ (Tf := TX9) (N := 50) hk2 (by decide) rfl tw_6_41 tw_6_42 tw_6_43 tw_1_7 tw_6_44 hy_X9_thrown ⟨Nat.le_of_ble_eq_true rfl, Nat.le_of_ble_eq_true rfl⟩ (As := []) (rest := []) (c_X9_thrown l D cy m  SM1 _ h) rfl rfl (by simp [va_cat, vi_cat, vl_cat]) dL_law_2048 ⟨hc1, hs1⟩ (fun t5 SM2 h => ?_)
  obtain ⟨ht, hout, h⟩ := h
  refine GL_iload C (x := k5) 1 dL_law_2051 rfl ?_
  refine GL_icmp_eq C (tgt := 2058) dL_law_2053 (by decide) (fun _ => ?_) (fun hc => absurd ht hc)
  refine GL_iload C (x := k5) 1 dL_law_2058 rfl ?_
  refine GL_if_ne C (tgt := 2075) dL_law_2060 (by decide) (fun _ => ?_) (fun hk0 => ?_)
  · refine GL_goto C (tgt := 2596) dL_law_2075 (by decide) ?_
    refine GL_lv C (lv' := [(0, va_rf (some b)), (1, va_rf (some x)), (2, va_rf (some m)), (3, va_rf (some o)), (4, Value.int v)]) [2, 3, 4, 5, 6] rfl ?_
    exact kk _ _ _ _ h
  · obtain ⟨ho, hin, heq⟩ := hout hk0
    refine GL_aload_n C (x := (some o)) 5 dL_law_2063 rfl rfl ?_
    refine GL_iconst C (v := 0) dL_law_2064 (by decide) ?_
    refine GL_lald C ho hin dL_law_2065 ?_
    refine GL_iload C (x := b5) 0 dL_law_2066 rfl ?_
    refine GL_i2l C dL_law_2068 ?_
    refine GL_lcmp C dL_law_2069 ?_
    refine GL_if_eq C (tgt := 2075) dL_law_2070 (by decide) (fun _ => ?_) (fun hc => absurd (lw_cmp0 heq) hc)
    refine GL_goto C (tgt := 2596) dL_law_2075 (by decide) ?_
    refine GL_lv C (lv' := [(0, va_rf (some b)), (1, va_rf (some x)), (2, va_rf (some m)), (3, va_rf (some o)), (4, Value.int v)]) [2, 3, 4, 5, 6] rfl ?_
    exact kk _ _ _ _ h
set_option maxHeartbeats 4000000 in
set_option maxRecDepth 100000 in
theorem k_op_26 {p : Program} {l : Launch} {e : Env} {s : State} {m9 : MethodId} {below : List Frame} {meth : Method} {c : Code} {D : va_G} {cy : Nat → Nat} {A : Nat → Prop} {b L : Nat} {xs : Nat → Int32} (hl : l.stackTraces = false) (C : Cx p s m9 #[va_rf (some b)] meth c cL_law 8 lw_tbl "TrenchboardLaw" D cy A s.heap) (hZ : ZZ cy A s s.heap) (hX : va_X b L xs s s.heap) (hbl : b < s.heap.size) (hbA : ¬ A b) (hAs : A = fun q => s.heap.size ≤ q) (hr : meth.sig.returnType = ret) (e0 m0 x m o : Nat) (he : e0 = cy 9) (hm : m0 = cy 10) (v : Int32) (h1 : vp_in (v + 1) L) (h2 : vp_in (v + 2) L) (SC SM : PT) (c1 s1 : Nat) (K : PT → PT → Nat → Nat → Prop) (kk : ∀ (SC SM : PT) (c1 s1 : Nat), K SC SM c1 s1 → GL p l e room_1 s m9 #[va_rf (some b)] below meth c D cy A s.heap 8 (lw_Z below #[Value.ref b] s) SC SM c1 s1 2596 [(0, va_rf (some b)), (1, va_rf (some x)), (2, va_rf (some m)), (3, va_rf (some o)), (4, Value.int v)] []) (h : w_op_26 e0 m0 x m o (xs (v + 1).toNatClampNeg) (xs (v + 2).toNatClampNeg) SC SM c1 s1 K) : GL p l e room_1 s m9 #[va_rf (some b)] below meth c D cy A s.heap 8 (lw_Z below #[Value.ref b] s) SC SM c1 s1 2078 [(0, va_rf (some b)), (1, va_rf (some x)), (2, va_rf (some m)), (3, va_rf (some o)), (4, Value.int v)] [] := by
  obtain ⟨m1, m2, hc1, hs1, h⟩ := h
  replace hc1 := Nat.le_trans hc1 rC
  replace hs1 := Nat.le_trans hs1 rS
  refine GL_aload_n C (x := (some x)) 1 dL_law_2078 rfl rfl ?_
  refine GL_aload_n C (x := (some b)) 0 dL_law_2079 rfl rfl ?_
  refine GL_iload C (x := v) 4 dL_law_2080 rfl ?_
  refine GL_iconst C (v := 1) dL_law_2082 (by decide) ?_
  refine GL_iadd C dL_law_2083 ?_
  refine GL_sld C hX hbl hbA h1 dL_law_2084 ?_
  refine GL_aload_n C (x := (some b)) 0 dL_law_2085 rfl rfl ?_
  refine GL_iload C (x := v) 4 dL_law_2086 rfl ?_
  refine GL_iconst C (v := 2) dL_law_2088 (by decide) ?_
  refine GL_iadd C dL_law_2089 ?_
  refine GL_sld C hX hbl hbA h2 dL_law_2090 ?_
  refine GL_aload_n C (x := (some o)) 3 dL_law_2091 rfl rfl ?_
  refine GL_callW C hZ tw_5_56 tw_5_57 tw_1_0 tw_5_58 hy_L_meets ⟨Nat.le_of_ble_eq_true rfl, Nat.le_of_ble_eq_true rfl⟩ (As := [va_rf (some x), Value.int (xs (v + 1).toNatClampNeg), Value.int (xs (v + 2).toNatClampNeg), va_rf (some o)]) (rest := []) (c_L_meets l hl D cy (some x) (xs (v + 1).toNatClampNeg) (xs (v + 2).toNatClampNeg) (some o) SC m1 m2 _ h) rfl rfl (Nat.zero_le _) dL_law_2092 ⟨hc1, hs1⟩ (fun k5 SC1 h => ?_)
  obtain ⟨hk1, h⟩ := h
  refine GL_istore C (i := 5) (lv' := [(5, Value.int k5), (0, va_rf (some b)), (1, va_rf (some x)), (2, va_rf (some m)), (3, va_rf (some o)), (4, Value.int v)]) dL_law_2095 (by decide) (by first | rfl | simp [va_cat, vi_cat, vl_cat]) ?_
  refine GL_aload_n C (x := (some m)) 3 dL_law_2097 rfl rfl ?_
  refine GL_aload_n C (x := (some b)) 1 dL_law_2098 rfl rfl ?_
  refine GL_iload C (x := v) 5 dL_law_2099 rfl ?_
  refine GL_iconst C (v := 1) dL_law_2101 (by decide) ?_
  refine GL_iadd C dL_law_2102 ?_
  refine GL_sld C hX hbl hbA h1 dL_law_2103 ?_
  refine GL_aload_n C (x := (some b)) 1 dL_law_2104 rfl rfl ?_
  refine GL_iload C (x := v) 5 dL_law_2105 rfl ?_
  refine GL_iconst C (v := 2) dL_law_2107 (by decide) ?_
  refine GL_iadd C dL_law_2108 ?_
  refine GL_sld C hX hbl hbA h2 dL_law_2109 ?_
  refine GL_callMi C hZ (Tf := TX9) (N := 50) hk1 (by decide) rfl tw_7_70 tw_7_71 tw_7_72 tw_1_7 tw_7_73 hy_X9_meets ⟨Nat.le_of_ble_eq_true rfl, Nat.le_of_ble_eq_true rfl⟩ (As := [Value.int (xs (v + 1).toNatClampNeg), Value.int (xs (v + 2).toNatClampNeg)]) (rest := []) (c_X9_meets l D cy m (xs (v + 1).toNatClampNeg) (xs (v + 2).toNatClampNeg) SM _ h) rfl rfl (by simp [va_cat, vi_cat, vl_cat]) dL_law_2110 ⟨hc1, hs1⟩ (fun b5 SM1 h => ?_)
  obtain ⟨hk2, h⟩ := h
  refine GL_istore C (i := 6) (lv' := [(6, Value.int b5), (5, Value.int k5), (0, va_rf (some b)), (1, va_rf (some x)), (2, va_rf (some m)), (3, va_rf (some o)), (4, Value.int v)]) dL_law_2113 (by decide) (by first | rfl | simp [va_cat, vi_cat, vl_cat]) ?_
  refine GL_aload_n C (x := (some m)) 4 dL_law_2115 rfl rfl ?_
  refine GL_callMi C hZ (Tf := TX9) (N := 50) hk2 (by decide) rfl tw_6_41 tw_6_42 tw_6_43 tw_1_7 tw_6_44 hy_X9_thrown ⟨Nat.le_of_ble_eq_true rfl, Nat.le_of_ble_eq_true rfl⟩ (As := []) (rest := []) (c_X9_thrown l D cy m  SM1 _ h) rfl rfl (by simp [va_cat, vi_cat, vl_cat]) dL_law_2116 ⟨hc1, hs1⟩ (fun t5 SM2 h => ?_)
  obtain ⟨ht, hout, h⟩ := h
  refine GL_iload C (x := k5) 1 dL_law_2119 rfl ?_
  refine GL_icmp_eq C (tgt := 2126) dL_law_2121 (by decide) (fun _ => ?_) (fun hc => absurd ht hc)
  refine GL_iload C (x := k5) 1 dL_law_2126 rfl ?_
  refine GL_if_ne C (tgt := 2143) dL_law_2128 (by decide) (fun _ => ?_) (fun hk0 => ?_)
  · refine GL_goto C (tgt := 2596) dL_law_2143 (by decide) ?_
    refine GL_lv C (lv' := [(0, va_rf (some b)), (1, va_rf (some x)), (2, va_rf (some m)), (3, va_rf (some o)), (4, Value.int v)]) [2, 3, 4, 5, 6] rfl ?_
    exact kk _ _ _ _ h
  · obtain ⟨ho, hin, heq⟩ := hout hk0
    refine GL_aload_n C (x := (some o)) 5 dL_law_2131 rfl rfl ?_
    refine GL_iconst C (v := 0) dL_law_2132 (by decide) ?_
    refine GL_lald C ho hin dL_law_2133 ?_
    refine GL_iload C (x := b5) 0 dL_law_2134 rfl ?_
    refine GL_i2l C dL_law_2136 ?_
    refine GL_lcmp C dL_law_2137 ?_
    refine GL_if_eq C (tgt := 2143) dL_law_2138 (by decide) (fun _ => ?_) (fun hc => absurd (lw_cmp0 heq) hc)
    refine GL_goto C (tgt := 2596) dL_law_2143 (by decide) ?_
    refine GL_lv C (lv' := [(0, va_rf (some b)), (1, va_rf (some x)), (2, va_rf (some m)), (3, va_rf (some o)), (4, Value.int v)]) [2, 3, 4, 5, 6] rfl ?_
    exact kk _ _ _ _ h
set_option maxHeartbeats 4000000 in
set_option maxRecDepth 100000 in
theorem k_op_27 {p : Program} {l : Launch} {e : Env} {s : State} {m9 : MethodId} {below : List Frame} {meth : Method} {c : Code} {D : va_G} {cy : Nat → Nat} {A : Nat → Prop} {b L : Nat} {xs : Nat → Int32} (hl : l.stackTraces = false) (C : Cx p s m9 #[va_rf (some b)] meth c cL_law 8 lw_tbl "TrenchboardLaw" D cy A s.heap) (hZ : ZZ cy A s s.heap) (hX : va_X b L xs s s.heap) (hbl : b < s.heap.size) (hbA : ¬ A b) (hAs : A = fun q => s.heap.size ≤ q) (hr : meth.sig.returnType = ret) (e0 m0 x m o : Nat) (he : e0 = cy 9) (hm : m0 = cy 10) (v : Int32) (h1 : vp_in (v + 1) L) (h2 : vp_in (v + 2) L) (SC SM : PT) (c1 s1 : Nat) (K : PT → PT → Nat → Nat → Prop) (kk : ∀ (SC SM : PT) (c1 s1 : Nat), K SC SM c1 s1 → GL p l e room_1 s m9 #[va_rf (some b)] below meth c D cy A s.heap 8 (lw_Z below #[Value.ref b] s) SC SM c1 s1 2596 [(0, va_rf (some b)), (1, va_rf (some x)), (2, va_rf (some m)), (3, va_rf (some o)), (4, Value.int v)] []) (h : w_op_27 e0 m0 x m o (xs (v + 1).toNatClampNeg) (xs (v + 2).toNatClampNeg) SC SM c1 s1 K) : GL p l e room_1 s m9 #[va_rf (some b)] below meth c D cy A s.heap 8 (lw_Z below #[Value.ref b] s) SC SM c1 s1 2146 [(0, va_rf (some b)), (1, va_rf (some x)), (2, va_rf (some m)), (3, va_rf (some o)), (4, Value.int v)] [] := by
  obtain ⟨m1, m2, hc1, hs1, h⟩ := h
  replace hc1 := Nat.le_trans hc1 rC
  replace hs1 := Nat.le_trans hs1 rS
  refine GL_aload_n C (x := (some x)) 1 dL_law_2146 rfl rfl ?_
  refine GL_aload_n C (x := (some b)) 0 dL_law_2147 rfl rfl ?_
  refine GL_iload C (x := v) 4 dL_law_2148 rfl ?_
  refine GL_iconst C (v := 1) dL_law_2150 (by decide) ?_
  refine GL_iadd C dL_law_2151 ?_
  refine GL_sld C hX hbl hbA h1 dL_law_2152 ?_
  refine GL_aload_n C (x := (some b)) 0 dL_law_2153 rfl rfl ?_
  refine GL_iload C (x := v) 4 dL_law_2154 rfl ?_
  refine GL_iconst C (v := 2) dL_law_2156 (by decide) ?_
  refine GL_iadd C dL_law_2157 ?_
  refine GL_sld C hX hbl hbA h2 dL_law_2158 ?_
  refine GL_aload_n C (x := (some o)) 3 dL_law_2159 rfl rfl ?_
  refine GL_callW C hZ tw_5_64 tw_5_65 tw_1_0 tw_5_66 hy_L_of ⟨Nat.le_of_ble_eq_true rfl, Nat.le_of_ble_eq_true rfl⟩ (As := [va_rf (some x), Value.int (xs (v + 1).toNatClampNeg), Value.int (xs (v + 2).toNatClampNeg), va_rf (some o)]) (rest := []) (c_L_of l hl D cy (some x) (xs (v + 1).toNatClampNeg) (xs (v + 2).toNatClampNeg) (some o) SC m1 m2 _ h) rfl rfl (Nat.zero_le _) dL_law_2160 ⟨hc1, hs1⟩ (fun k5 SC1 h => ?_)
  obtain ⟨hk1, h⟩ := h
  refine GL_istore C (i := 5) (lv' := [(5, Value.int k5), (0, va_rf (some b)), (1, va_rf (some x)), (2, va_rf (some m)), (3, va_rf (some o)), (4, Value.int v)]) dL_law_2163 (by decide) (by first | rfl | simp [va_cat, vi_cat, vl_cat]) ?_
  refine GL_aload_n C (x := (some m)) 3 dL_law_2165 rfl rfl ?_
  refine GL_aload_n C (x := (some b)) 1 dL_law_2166 rfl rfl ?_
  refine GL_iload C (x := v) 5 dL_law_2167 rfl ?_
  refine GL_iconst C (v := 1) dL_law_2169 (by decide) ?_
  refine GL_iadd C dL_law_2170 ?_
  refine GL_sld C hX hbl hbA h1 dL_law_2171 ?_
  refine GL_aload_n C (x := (some b)) 1 dL_law_2172 rfl rfl ?_
  refine GL_iload C (x := v) 5 dL_law_2173 rfl ?_
  refine GL_iconst C (v := 2) dL_law_2175 (by decide) ?_
  refine GL_iadd C dL_law_2176 ?_
  refine GL_sld C hX hbl hbA h2 dL_law_2177 ?_
  refine GL_callMi C hZ (Tf := TX9) (N := 50) hk1 (by decide) rfl tw_7_74 tw_7_75 tw_7_76 tw_1_7 tw_7_77 hy_X9_of ⟨Nat.le_of_ble_eq_true rfl, Nat.le_of_ble_eq_true rfl⟩ (As := [Value.int (xs (v + 1).toNatClampNeg), Value.int (xs (v + 2).toNatClampNeg)]) (rest := []) (c_X9_of l D cy m (xs (v + 1).toNatClampNeg) (xs (v + 2).toNatClampNeg) SM _ h) rfl rfl (by simp [va_cat, vi_cat, vl_cat]) dL_law_2178 ⟨hc1, hs1⟩ (fun b5 SM1 h => ?_)
  obtain ⟨hk2, h⟩ := h
  refine GL_istore C (i := 6) (lv' := [(6, Value.int b5), (5, Value.int k5), (0, va_rf (some b)), (1, va_rf (some x)), (2, va_rf (some m)), (3, va_rf (some o)), (4, Value.int v)]) dL_law_2181 (by decide) (by first | rfl | simp [va_cat, vi_cat, vl_cat]) ?_
  refine GL_aload_n C (x := (some m)) 4 dL_law_2183 rfl rfl ?_
  refine GL_callMi C hZ (Tf := TX9) (N := 50) hk2 (by decide) rfl tw_6_41 tw_6_42 tw_6_43 tw_1_7 tw_6_44 hy_X9_thrown ⟨Nat.le_of_ble_eq_true rfl, Nat.le_of_ble_eq_true rfl⟩ (As := []) (rest := []) (c_X9_thrown l D cy m  SM1 _ h) rfl rfl (by simp [va_cat, vi_cat, vl_cat]) dL_law_2184 ⟨hc1, hs1⟩ (fun t5 SM2 h => ?_)
  obtain ⟨ht, hout, h⟩ := h
  refine GL_iload C (x := k5) 1 dL_law_2187 rfl ?_
  refine GL_icmp_eq C (tgt := 2194) dL_law_2189 (by decide) (fun _ => ?_) (fun hc => absurd ht hc)
  refine GL_iload C (x := k5) 1 dL_law_2194 rfl ?_
  refine GL_if_ne C (tgt := 2211) dL_law_2196 (by decide) (fun _ => ?_) (fun hk0 => ?_)
  · refine GL_goto C (tgt := 2596) dL_law_2211 (by decide) ?_
    refine GL_lv C (lv' := [(0, va_rf (some b)), (1, va_rf (some x)), (2, va_rf (some m)), (3, va_rf (some o)), (4, Value.int v)]) [2, 3, 4, 5, 6] rfl ?_
    exact kk _ _ _ _ h
  · obtain ⟨ho, hin, heq⟩ := hout hk0
    refine GL_aload_n C (x := (some o)) 5 dL_law_2199 rfl rfl ?_
    refine GL_iconst C (v := 0) dL_law_2200 (by decide) ?_
    refine GL_lald C ho hin dL_law_2201 ?_
    refine GL_iload C (x := b5) 0 dL_law_2202 rfl ?_
    refine GL_i2l C dL_law_2204 ?_
    refine GL_lcmp C dL_law_2205 ?_
    refine GL_if_eq C (tgt := 2211) dL_law_2206 (by decide) (fun _ => ?_) (fun hc => absurd (lw_cmp0 heq) hc)
    refine GL_goto C (tgt := 2596) dL_law_2211 (by decide) ?_
    refine GL_lv C (lv' := [(0, va_rf (some b)), (1, va_rf (some x)), (2, va_rf (some m)), (3, va_rf (some o)), (4, Value.int v)]) [2, 3, 4, 5, 6] rfl ?_
    exact kk _ _ _ _ h
set_option maxHeartbeats 4000000 in
set_option maxRecDepth 100000 in
theorem k_op_28 {p : Program} {l : Launch} {e : Env} {s : State} {m9 : MethodId} {below : List Frame} {meth : Method} {c : Code} {D : va_G} {cy : Nat → Nat} {A : Nat → Prop} {b L : Nat} {xs : Nat → Int32} (hl : l.stackTraces = false) (C : Cx p s m9 #[va_rf (some b)] meth c cL_law 8 lw_tbl "TrenchboardLaw" D cy A s.heap) (hZ : ZZ cy A s s.heap) (hX : va_X b L xs s s.heap) (hbl : b < s.heap.size) (hbA : ¬ A b) (hAs : A = fun q => s.heap.size ≤ q) (hr : meth.sig.returnType = ret) (e0 m0 x m o : Nat) (he : e0 = cy 9) (hm : m0 = cy 10) (v : Int32) (h1 : vp_in (v + 1) L) (h2 : vp_in (v + 2) L) (h3 : vp_in (v + 3) L) (SC SM : PT) (c1 s1 : Nat) (K : PT → PT → Nat → Nat → Prop) (kk : ∀ (SC SM : PT) (c1 s1 : Nat), K SC SM c1 s1 → GL p l e room_1 s m9 #[va_rf (some b)] below meth c D cy A s.heap 8 (lw_Z below #[Value.ref b] s) SC SM c1 s1 2596 [(0, va_rf (some b)), (1, va_rf (some x)), (2, va_rf (some m)), (3, va_rf (some o)), (4, Value.int v)] []) (h : w_op_28 e0 m0 x m o (xs (v + 1).toNatClampNeg) (xs (v + 2).toNatClampNeg) (xs (v + 3).toNatClampNeg) SC SM c1 s1 K) : GL p l e room_1 s m9 #[va_rf (some b)] below meth c D cy A s.heap 8 (lw_Z below #[Value.ref b] s) SC SM c1 s1 2214 [(0, va_rf (some b)), (1, va_rf (some x)), (2, va_rf (some m)), (3, va_rf (some o)), (4, Value.int v)] [] := by
  obtain ⟨m1, m2, hc1, hs1, h⟩ := h
  replace hc1 := Nat.le_trans hc1 rC
  replace hs1 := Nat.le_trans hs1 rS
  refine GL_aload_n C (x := (some x)) 1 dL_law_2214 rfl rfl ?_
  refine GL_aload_n C (x := (some b)) 0 dL_law_2215 rfl rfl ?_
  refine GL_iload C (x := v) 4 dL_law_2216 rfl ?_
  refine GL_iconst C (v := 1) dL_law_2218 (by decide) ?_
  refine GL_iadd C dL_law_2219 ?_
  refine GL_sld C hX hbl hbA h1 dL_law_2220 ?_
  refine GL_aload_n C (x := (some b)) 0 dL_law_2221 rfl rfl ?_
  refine GL_iload C (x := v) 4 dL_law_2222 rfl ?_
  refine GL_iconst C (v := 2) dL_law_2224 (by decide) ?_
  refine GL_iadd C dL_law_2225 ?_
  refine GL_sld C hX hbl hbA h2 dL_law_2226 ?_
  refine GL_aload_n C (x := (some b)) 0 dL_law_2227 rfl rfl ?_
  refine GL_iload C (x := v) 4 dL_law_2228 rfl ?_
  refine GL_iconst C (v := 3) dL_law_2230 (by decide) ?_
  refine GL_iadd C dL_law_2231 ?_
  refine GL_sld C hX hbl hbA h3 dL_law_2232 ?_
  refine GL_aload_n C (x := (some o)) 3 dL_law_2233 rfl rfl ?_
  refine GL_callW C hZ tw_5_72 tw_5_73 tw_1_0 tw_5_74 hy_L_metre ⟨Nat.le_of_ble_eq_true rfl, Nat.le_of_ble_eq_true rfl⟩ (As := [va_rf (some x), Value.int (xs (v + 1).toNatClampNeg), Value.int (xs (v + 2).toNatClampNeg), Value.int (xs (v + 3).toNatClampNeg), va_rf (some o)]) (rest := []) (c_L_metre l hl D cy (some x) (xs (v + 1).toNatClampNeg) (xs (v + 2).toNatClampNeg) (xs (v + 3).toNatClampNeg) (some o) SC m1 m2 _ h) rfl rfl (Nat.zero_le _) dL_law_2234 ⟨hc1, hs1⟩ (fun k5 SC1 h => ?_)
  obtain ⟨hk1, h⟩ := h
  refine GL_istore C (i := 5) (lv' := [(5, Value.int k5), (0, va_rf (some b)), (1, va_rf (some x)), (2, va_rf (some m)), (3, va_rf (some o)), (4, Value.int v)]) dL_law_2237 (by decide) (by first | rfl | simp [va_cat, vi_cat, vl_cat]) ?_
  refine GL_aload_n C (x := (some m)) 3 dL_law_2239 rfl rfl ?_
  refine GL_aload_n C (x := (some b)) 1 dL_law_2240 rfl rfl ?_
  refine GL_iload C (x := v) 5 dL_law_2241 rfl ?_
  refine GL_iconst C (v := 1) dL_law_2243 (by decide) ?_
  refine GL_iadd C dL_law_2244 ?_
  refine GL_sld C hX hbl hbA h1 dL_law_2245 ?_
  refine GL_aload_n C (x := (some b)) 1 dL_law_2246 rfl rfl ?_
  refine GL_iload C (x := v) 5 dL_law_2247 rfl ?_
  refine GL_iconst C (v := 2) dL_law_2249 (by decide) ?_
  refine GL_iadd C dL_law_2250 ?_
  refine GL_sld C hX hbl hbA h2 dL_law_2251 ?_
  refine GL_aload_n C (x := (some b)) 1 dL_law_2252 rfl rfl ?_
  refine GL_iload C (x := v) 5 dL_law_2253 rfl ?_
  refine GL_iconst C (v := 3) dL_law_2255 (by decide) ?_
  refine GL_iadd C dL_law_2256 ?_
  refine GL_sld C hX hbl hbA h3 dL_law_2257 ?_
  refine GL_callMi C hZ (Tf := TX9) (N := 50) hk1 (by decide) rfl tw_7_78 tw_7_79 tw_7_80 tw_1_7 tw_7_81 hy_X9_metre ⟨Nat.le_of_ble_eq_true rfl, Nat.le_of_ble_eq_true rfl⟩ (As := [Value.int (xs (v + 1).toNatClampNeg), Value.int (xs (v + 2).toNatClampNeg), Value.int (xs (v + 3).toNatClampNeg)]) (rest := []) (c_X9_metre l D cy m (xs (v + 1).toNatClampNeg) (xs (v + 2).toNatClampNeg) (xs (v + 3).toNatClampNeg) SM _ h) rfl rfl (by simp [va_cat, vi_cat, vl_cat]) dL_law_2258 ⟨hc1, hs1⟩ (fun b5 SM1 h => ?_)
  obtain ⟨hk2, h⟩ := h
  refine GL_istore C (i := 6) (lv' := [(6, Value.int b5), (5, Value.int k5), (0, va_rf (some b)), (1, va_rf (some x)), (2, va_rf (some m)), (3, va_rf (some o)), (4, Value.int v)]) dL_law_2261 (by decide) (by first | rfl | simp [va_cat, vi_cat, vl_cat]) ?_
  refine GL_aload_n C (x := (some m)) 4 dL_law_2263 rfl rfl ?_
  refine GL_callMi C hZ (Tf := TX9) (N := 50) hk2 (by decide) rfl tw_6_41 tw_6_42 tw_6_43 tw_1_7 tw_6_44 hy_X9_thrown ⟨Nat.le_of_ble_eq_true rfl, Nat.le_of_ble_eq_true rfl⟩ (As := []) (rest := []) (c_X9_thrown l D cy m  SM1 _ h) rfl rfl (by simp [va_cat, vi_cat, vl_cat]) dL_law_2264 ⟨hc1, hs1⟩ (fun t5 SM2 h => ?_)
  obtain ⟨ht, hout, h⟩ := h
  refine GL_iload C (x := k5) 1 dL_law_2267 rfl ?_
  refine GL_icmp_eq C (tgt := 2274) dL_law_2269 (by decide) (fun _ => ?_) (fun hc => absurd ht hc)
  refine GL_iload C (x := k5) 1 dL_law_2274 rfl ?_
  refine GL_if_ne C (tgt := 2291) dL_law_2276 (by decide) (fun _ => ?_) (fun hk0 => ?_)
  · refine GL_goto C (tgt := 2596) dL_law_2291 (by decide) ?_
    refine GL_lv C (lv' := [(0, va_rf (some b)), (1, va_rf (some x)), (2, va_rf (some m)), (3, va_rf (some o)), (4, Value.int v)]) [2, 3, 4, 5, 6] rfl ?_
    exact kk _ _ _ _ h
  · obtain ⟨ho, hin, heq⟩ := hout hk0
    refine GL_aload_n C (x := (some o)) 5 dL_law_2279 rfl rfl ?_
    refine GL_iconst C (v := 0) dL_law_2280 (by decide) ?_
    refine GL_lald C ho hin dL_law_2281 ?_
    refine GL_iload C (x := b5) 0 dL_law_2282 rfl ?_
    refine GL_i2l C dL_law_2284 ?_
    refine GL_lcmp C dL_law_2285 ?_
    refine GL_if_eq C (tgt := 2291) dL_law_2286 (by decide) (fun _ => ?_) (fun hc => absurd (lw_cmp0 heq) hc)
    refine GL_goto C (tgt := 2596) dL_law_2291 (by decide) ?_
    refine GL_lv C (lv' := [(0, va_rf (some b)), (1, va_rf (some x)), (2, va_rf (some m)), (3, va_rf (some o)), (4, Value.int v)]) [2, 3, 4, 5, 6] rfl ?_
    exact kk _ _ _ _ h
set_option maxHeartbeats 4000000 in
set_option maxRecDepth 100000 in
theorem k_op_29 {p : Program} {l : Launch} {e : Env} {s : State} {m9 : MethodId} {below : List Frame} {meth : Method} {c : Code} {D : va_G} {cy : Nat → Nat} {A : Nat → Prop} {b L : Nat} {xs : Nat → Int32} (hl : l.stackTraces = false) (C : Cx p s m9 #[va_rf (some b)] meth c cL_law 8 lw_tbl "TrenchboardLaw" D cy A s.heap) (hZ : ZZ cy A s s.heap) (hX : va_X b L xs s s.heap) (hbl : b < s.heap.size) (hbA : ¬ A b) (hAs : A = fun q => s.heap.size ≤ q) (hr : meth.sig.returnType = ret) (e0 m0 x m o : Nat) (he : e0 = cy 9) (hm : m0 = cy 10) (v : Int32) (h1 : vp_in (v + 1) L) (h2 : vp_in (v + 2) L) (h3 : vp_in (v + 3) L) (SC SM : PT) (c1 s1 : Nat) (K : PT → PT → Nat → Nat → Prop) (kk : ∀ (SC SM : PT) (c1 s1 : Nat), K SC SM c1 s1 → GL p l e room_1 s m9 #[va_rf (some b)] below meth c D cy A s.heap 8 (lw_Z below #[Value.ref b] s) SC SM c1 s1 2596 [(0, va_rf (some b)), (1, va_rf (some x)), (2, va_rf (some m)), (3, va_rf (some o)), (4, Value.int v)] []) (h : w_op_29 e0 m0 x m o (xs (v + 1).toNatClampNeg) (xs (v + 2).toNatClampNeg) (xs (v + 3).toNatClampNeg) SC SM c1 s1 K) : GL p l e room_1 s m9 #[va_rf (some b)] below meth c D cy A s.heap 8 (lw_Z below #[Value.ref b] s) SC SM c1 s1 2294 [(0, va_rf (some b)), (1, va_rf (some x)), (2, va_rf (some m)), (3, va_rf (some o)), (4, Value.int v)] [] := by
  obtain ⟨m1, m2, hc1, hs1, h⟩ := h
  replace hc1 := Nat.le_trans hc1 rC
  replace hs1 := Nat.le_trans hs1 rS
  refine GL_aload_n C (x := (some x)) 1 dL_law_2294 rfl rfl ?_
  refine GL_aload_n C (x := (some b)) 0 dL_law_2295 rfl rfl ?_
  refine GL_iload C (x := v) 4 dL_law_2296 rfl ?_
  refine GL_iconst C (v := 1) dL_law_2298 (by decide) ?_
  refine GL_iadd C dL_law_2299 ?_
  refine GL_sld C hX hbl hbA h1 dL_law_2300 ?_
  refine GL_aload_n C (x := (some b)) 0 dL_law_2301 rfl rfl ?_
  refine GL_iload C (x := v) 4 dL_law_2302 rfl ?_
  refine GL_iconst C (v := 2) dL_law_2304 (by decide) ?_
  refine GL_iadd C dL_law_2305 ?_
  refine GL_sld C hX hbl hbA h2 dL_law_2306 ?_
  refine GL_aload_n C (x := (some b)) 0 dL_law_2307 rfl rfl ?_
  refine GL_iload C (x := v) 4 dL_law_2308 rfl ?_
  refine GL_iconst C (v := 3) dL_law_2310 (by decide) ?_
  refine GL_iadd C dL_law_2311 ?_
  refine GL_sld C hX hbl hbA h3 dL_law_2312 ?_
  refine GL_aload_n C (x := (some o)) 3 dL_law_2313 rfl rfl ?_
  refine GL_callW C hZ tw_5_79 tw_5_80 tw_1_0 tw_5_81 hy_L_search ⟨Nat.le_of_ble_eq_true rfl, Nat.le_of_ble_eq_true rfl⟩ (As := [va_rf (some x), Value.int (xs (v + 1).toNatClampNeg), Value.int (xs (v + 2).toNatClampNeg), Value.int (xs (v + 3).toNatClampNeg), va_rf (some o)]) (rest := []) (c_L_search l hl D cy (some x) (xs (v + 1).toNatClampNeg) (xs (v + 2).toNatClampNeg) (xs (v + 3).toNatClampNeg) (some o) SC m1 m2 _ h) rfl rfl (Nat.zero_le _) dL_law_2314 ⟨hc1, hs1⟩ (fun k5 SC1 h => ?_)
  obtain ⟨hk1, h⟩ := h
  refine GL_istore C (i := 5) (lv' := [(5, Value.int k5), (0, va_rf (some b)), (1, va_rf (some x)), (2, va_rf (some m)), (3, va_rf (some o)), (4, Value.int v)]) dL_law_2317 (by decide) (by first | rfl | simp [va_cat, vi_cat, vl_cat]) ?_
  refine GL_aload_n C (x := (some m)) 3 dL_law_2319 rfl rfl ?_
  refine GL_aload_n C (x := (some b)) 1 dL_law_2320 rfl rfl ?_
  refine GL_iload C (x := v) 5 dL_law_2321 rfl ?_
  refine GL_iconst C (v := 1) dL_law_2323 (by decide) ?_
  refine GL_iadd C dL_law_2324 ?_
  refine GL_sld C hX hbl hbA h1 dL_law_2325 ?_
  refine GL_aload_n C (x := (some b)) 1 dL_law_2326 rfl rfl ?_
  refine GL_iload C (x := v) 5 dL_law_2327 rfl ?_
  refine GL_iconst C (v := 2) dL_law_2329 (by decide) ?_
  refine GL_iadd C dL_law_2330 ?_
  refine GL_sld C hX hbl hbA h2 dL_law_2331 ?_
  refine GL_aload_n C (x := (some b)) 1 dL_law_2332 rfl rfl ?_
  refine GL_iload C (x := v) 5 dL_law_2333 rfl ?_
  refine GL_iconst C (v := 3) dL_law_2335 (by decide) ?_
  refine GL_iadd C dL_law_2336 ?_
  refine GL_sld C hX hbl hbA h3 dL_law_2337 ?_
  refine GL_callMi C hZ (Tf := TX9) (N := 50) hk1 (by decide) rfl tw_7_82 tw_7_83 tw_7_84 tw_1_7 tw_7_85 hy_X9_search ⟨Nat.le_of_ble_eq_true rfl, Nat.le_of_ble_eq_true rfl⟩ (As := [Value.int (xs (v + 1).toNatClampNeg), Value.int (xs (v + 2).toNatClampNeg), Value.int (xs (v + 3).toNatClampNeg)]) (rest := []) (c_X9_search l D cy m (xs (v + 1).toNatClampNeg) (xs (v + 2).toNatClampNeg) (xs (v + 3).toNatClampNeg) SM _ h) rfl rfl (by simp [va_cat, vi_cat, vl_cat]) dL_law_2338 ⟨hc1, hs1⟩ (fun b5 SM1 h => ?_)
  obtain ⟨hk2, h⟩ := h
  refine GL_istore C (i := 6) (lv' := [(6, Value.int b5), (5, Value.int k5), (0, va_rf (some b)), (1, va_rf (some x)), (2, va_rf (some m)), (3, va_rf (some o)), (4, Value.int v)]) dL_law_2341 (by decide) (by first | rfl | simp [va_cat, vi_cat, vl_cat]) ?_
  refine GL_aload_n C (x := (some m)) 4 dL_law_2343 rfl rfl ?_
  refine GL_callMi C hZ (Tf := TX9) (N := 50) hk2 (by decide) rfl tw_6_41 tw_6_42 tw_6_43 tw_1_7 tw_6_44 hy_X9_thrown ⟨Nat.le_of_ble_eq_true rfl, Nat.le_of_ble_eq_true rfl⟩ (As := []) (rest := []) (c_X9_thrown l D cy m  SM1 _ h) rfl rfl (by simp [va_cat, vi_cat, vl_cat]) dL_law_2344 ⟨hc1, hs1⟩ (fun t5 SM2 h => ?_)
  obtain ⟨ht, hout, h⟩ := h
  refine GL_iload C (x := k5) 1 dL_law_2347 rfl ?_
  refine GL_icmp_eq C (tgt := 2354) dL_law_2349 (by decide) (fun _ => ?_) (fun hc => absurd ht hc)
  refine GL_iload C (x := k5) 1 dL_law_2354 rfl ?_
  refine GL_if_ne C (tgt := 2371) dL_law_2356 (by decide) (fun _ => ?_) (fun hk0 => ?_)
  · refine GL_goto C (tgt := 2596) dL_law_2371 (by decide) ?_
    refine GL_lv C (lv' := [(0, va_rf (some b)), (1, va_rf (some x)), (2, va_rf (some m)), (3, va_rf (some o)), (4, Value.int v)]) [2, 3, 4, 5, 6] rfl ?_
    exact kk _ _ _ _ h
  · obtain ⟨ho, hin, heq⟩ := hout hk0
    refine GL_aload_n C (x := (some o)) 5 dL_law_2359 rfl rfl ?_
    refine GL_iconst C (v := 0) dL_law_2360 (by decide) ?_
    refine GL_lald C ho hin dL_law_2361 ?_
    refine GL_iload C (x := b5) 0 dL_law_2362 rfl ?_
    refine GL_i2l C dL_law_2364 ?_
    refine GL_lcmp C dL_law_2365 ?_
    refine GL_if_eq C (tgt := 2371) dL_law_2366 (by decide) (fun _ => ?_) (fun hc => absurd (lw_cmp0 heq) hc)
    refine GL_goto C (tgt := 2596) dL_law_2371 (by decide) ?_
    refine GL_lv C (lv' := [(0, va_rf (some b)), (1, va_rf (some x)), (2, va_rf (some m)), (3, va_rf (some o)), (4, Value.int v)]) [2, 3, 4, 5, 6] rfl ?_
    exact kk _ _ _ _ h
set_option maxHeartbeats 4000000 in
set_option maxRecDepth 100000 in
theorem k_op_30 {p : Program} {l : Launch} {e : Env} {s : State} {m9 : MethodId} {below : List Frame} {meth : Method} {c : Code} {D : va_G} {cy : Nat → Nat} {A : Nat → Prop} {b L : Nat} {xs : Nat → Int32} (hl : l.stackTraces = false) (C : Cx p s m9 #[va_rf (some b)] meth c cL_law 8 lw_tbl "TrenchboardLaw" D cy A s.heap) (hZ : ZZ cy A s s.heap) (hX : va_X b L xs s s.heap) (hbl : b < s.heap.size) (hbA : ¬ A b) (hAs : A = fun q => s.heap.size ≤ q) (hr : meth.sig.returnType = ret) (e0 m0 x m o : Nat) (he : e0 = cy 9) (hm : m0 = cy 10) (v : Int32) (h1 : vp_in (v + 1) L) (SC SM : PT) (c1 s1 : Nat) (K : PT → PT → Nat → Nat → Prop) (kk : ∀ (SC SM : PT) (c1 s1 : Nat), K SC SM c1 s1 → GL p l e room_1 s m9 #[va_rf (some b)] below meth c D cy A s.heap 8 (lw_Z below #[Value.ref b] s) SC SM c1 s1 2596 [(0, va_rf (some b)), (1, va_rf (some x)), (2, va_rf (some m)), (3, va_rf (some o)), (4, Value.int v)] []) (h : w_op_30 e0 m0 x m o (xs (v + 1).toNatClampNeg) SC SM c1 s1 K) : GL p l e room_1 s m9 #[va_rf (some b)] below meth c D cy A s.heap 8 (lw_Z below #[Value.ref b] s) SC SM c1 s1 2374 [(0, va_rf (some b)), (1, va_rf (some x)), (2, va_rf (some m)), (3, va_rf (some o)), (4, Value.int v)] [] := by
  obtain ⟨m1, m2, hc1, hs1, h⟩ := h
  replace hc1 := Nat.le_trans hc1 rC
  replace hs1 := Nat.le_trans hs1 rS
  refine GL_aload_n C (x := (some x)) 1 dL_law_2374 rfl rfl ?_
  refine GL_aload_n C (x := (some b)) 0 dL_law_2375 rfl rfl ?_
  refine GL_iload C (x := v) 4 dL_law_2376 rfl ?_
  refine GL_iconst C (v := 1) dL_law_2378 (by decide) ?_
  refine GL_iadd C dL_law_2379 ?_
  refine GL_sld C hX hbl hbA h1 dL_law_2380 ?_
  refine GL_aload_n C (x := (some o)) 3 dL_law_2381 rfl rfl ?_
  refine GL_callW C hZ tw_5_87 tw_5_88 tw_1_0 tw_5_89 hy_L_queue ⟨Nat.le_of_ble_eq_true rfl, Nat.le_of_ble_eq_true rfl⟩ (As := [va_rf (some x), Value.int (xs (v + 1).toNatClampNeg), va_rf (some o)]) (rest := []) (c_L_queue l hl D cy (some x) (xs (v + 1).toNatClampNeg) (some o) SC m1 m2 _ h) rfl rfl (Nat.zero_le _) dL_law_2382 ⟨hc1, hs1⟩ (fun k5 SC1 h => ?_)
  obtain ⟨hk1, h⟩ := h
  refine GL_istore C (i := 5) (lv' := [(5, Value.int k5), (0, va_rf (some b)), (1, va_rf (some x)), (2, va_rf (some m)), (3, va_rf (some o)), (4, Value.int v)]) dL_law_2385 (by decide) (by first | rfl | simp [va_cat, vi_cat, vl_cat]) ?_
  refine GL_aload_n C (x := (some m)) 3 dL_law_2387 rfl rfl ?_
  refine GL_aload_n C (x := (some b)) 1 dL_law_2388 rfl rfl ?_
  refine GL_iload C (x := v) 5 dL_law_2389 rfl ?_
  refine GL_iconst C (v := 1) dL_law_2391 (by decide) ?_
  refine GL_iadd C dL_law_2392 ?_
  refine GL_sld C hX hbl hbA h1 dL_law_2393 ?_
  refine GL_callMi C hZ (Tf := TX9) (N := 50) hk1 (by decide) rfl tw_7_86 tw_7_87 tw_7_88 tw_1_7 tw_7_89 hy_X9_queue ⟨Nat.le_of_ble_eq_true rfl, Nat.le_of_ble_eq_true rfl⟩ (As := [Value.int (xs (v + 1).toNatClampNeg)]) (rest := []) (c_X9_queue l D cy m (xs (v + 1).toNatClampNeg) SM _ h) rfl rfl (by simp [va_cat, vi_cat, vl_cat]) dL_law_2394 ⟨hc1, hs1⟩ (fun b5 SM1 h => ?_)
  obtain ⟨hk2, h⟩ := h
  refine GL_istore C (i := 6) (lv' := [(6, Value.int b5), (5, Value.int k5), (0, va_rf (some b)), (1, va_rf (some x)), (2, va_rf (some m)), (3, va_rf (some o)), (4, Value.int v)]) dL_law_2397 (by decide) (by first | rfl | simp [va_cat, vi_cat, vl_cat]) ?_
  refine GL_aload_n C (x := (some m)) 4 dL_law_2399 rfl rfl ?_
  refine GL_callMi C hZ (Tf := TX9) (N := 50) hk2 (by decide) rfl tw_6_41 tw_6_42 tw_6_43 tw_1_7 tw_6_44 hy_X9_thrown ⟨Nat.le_of_ble_eq_true rfl, Nat.le_of_ble_eq_true rfl⟩ (As := []) (rest := []) (c_X9_thrown l D cy m  SM1 _ h) rfl rfl (by simp [va_cat, vi_cat, vl_cat]) dL_law_2400 ⟨hc1, hs1⟩ (fun t5 SM2 h => ?_)
  obtain ⟨ht, hout, h⟩ := h
  refine GL_iload C (x := k5) 1 dL_law_2403 rfl ?_
  refine GL_icmp_eq C (tgt := 2410) dL_law_2405 (by decide) (fun _ => ?_) (fun hc => absurd ht hc)
  refine GL_iload C (x := k5) 1 dL_law_2410 rfl ?_
  refine GL_if_ne C (tgt := 2427) dL_law_2412 (by decide) (fun _ => ?_) (fun hk0 => ?_)
  · refine GL_goto C (tgt := 2596) dL_law_2427 (by decide) ?_
    refine GL_lv C (lv' := [(0, va_rf (some b)), (1, va_rf (some x)), (2, va_rf (some m)), (3, va_rf (some o)), (4, Value.int v)]) [2, 3, 4, 5, 6] rfl ?_
    exact kk _ _ _ _ h
  · obtain ⟨ho, hin, heq⟩ := hout hk0
    refine GL_aload_n C (x := (some o)) 5 dL_law_2415 rfl rfl ?_
    refine GL_iconst C (v := 0) dL_law_2416 (by decide) ?_
    refine GL_lald C ho hin dL_law_2417 ?_
    refine GL_iload C (x := b5) 0 dL_law_2418 rfl ?_
    refine GL_i2l C dL_law_2420 ?_
    refine GL_lcmp C dL_law_2421 ?_
    refine GL_if_eq C (tgt := 2427) dL_law_2422 (by decide) (fun _ => ?_) (fun hc => absurd (lw_cmp0 heq) hc)
    refine GL_goto C (tgt := 2596) dL_law_2427 (by decide) ?_
    refine GL_lv C (lv' := [(0, va_rf (some b)), (1, va_rf (some x)), (2, va_rf (some m)), (3, va_rf (some o)), (4, Value.int v)]) [2, 3, 4, 5, 6] rfl ?_
    exact kk _ _ _ _ h
set_option maxHeartbeats 4000000 in
set_option maxRecDepth 100000 in
theorem k_op_31 {p : Program} {l : Launch} {e : Env} {s : State} {m9 : MethodId} {below : List Frame} {meth : Method} {c : Code} {D : va_G} {cy : Nat → Nat} {A : Nat → Prop} {b L : Nat} {xs : Nat → Int32} (hl : l.stackTraces = false) (C : Cx p s m9 #[va_rf (some b)] meth c cL_law 8 lw_tbl "TrenchboardLaw" D cy A s.heap) (hZ : ZZ cy A s s.heap) (hX : va_X b L xs s s.heap) (hbl : b < s.heap.size) (hbA : ¬ A b) (hAs : A = fun q => s.heap.size ≤ q) (hr : meth.sig.returnType = ret) (e0 m0 x m o : Nat) (he : e0 = cy 9) (hm : m0 = cy 10) (v : Int32) (h1 : vp_in (v + 1) L) (SC SM : PT) (c1 s1 : Nat) (K : PT → PT → Nat → Nat → Prop) (kk : ∀ (SC SM : PT) (c1 s1 : Nat), K SC SM c1 s1 → GL p l e room_1 s m9 #[va_rf (some b)] below meth c D cy A s.heap 8 (lw_Z below #[Value.ref b] s) SC SM c1 s1 2596 [(0, va_rf (some b)), (1, va_rf (some x)), (2, va_rf (some m)), (3, va_rf (some o)), (4, Value.int v)] []) (h : w_op_31 e0 m0 x m o (xs (v + 1).toNatClampNeg) SC SM c1 s1 K) : GL p l e room_1 s m9 #[va_rf (some b)] below meth c D cy A s.heap 8 (lw_Z below #[Value.ref b] s) SC SM c1 s1 2430 [(0, va_rf (some b)), (1, va_rf (some x)), (2, va_rf (some m)), (3, va_rf (some o)), (4, Value.int v)] [] := by
  obtain ⟨m1, m2, hc1, hs1, h⟩ := h
  replace hc1 := Nat.le_trans hc1 rC
  replace hs1 := Nat.le_trans hs1 rS
  refine GL_aload_n C (x := (some x)) 1 dL_law_2430 rfl rfl ?_
  refine GL_aload_n C (x := (some b)) 0 dL_law_2431 rfl rfl ?_
  refine GL_iload C (x := v) 4 dL_law_2432 rfl ?_
  refine GL_iconst C (v := 1) dL_law_2434 (by decide) ?_
  refine GL_iadd C dL_law_2435 ?_
  refine GL_sld C hX hbl hbA h1 dL_law_2436 ?_
  refine GL_aload_n C (x := (some o)) 3 dL_law_2437 rfl rfl ?_
  refine GL_callW C hZ tw_5_94 tw_5_95 tw_1_0 tw_5_96 hy_L_due ⟨Nat.le_of_ble_eq_true rfl, Nat.le_of_ble_eq_true rfl⟩ (As := [va_rf (some x), Value.int (xs (v + 1).toNatClampNeg), va_rf (some o)]) (rest := []) (c_L_due l hl D cy (some x) (xs (v + 1).toNatClampNeg) (some o) SC m1 m2 _ h) rfl rfl (Nat.zero_le _) dL_law_2438 ⟨hc1, hs1⟩ (fun k5 SC1 h => ?_)
  obtain ⟨hk1, h⟩ := h
  refine GL_istore C (i := 5) (lv' := [(5, Value.int k5), (0, va_rf (some b)), (1, va_rf (some x)), (2, va_rf (some m)), (3, va_rf (some o)), (4, Value.int v)]) dL_law_2441 (by decide) (by first | rfl | simp [va_cat, vi_cat, vl_cat]) ?_
  refine GL_aload_n C (x := (some m)) 3 dL_law_2443 rfl rfl ?_
  refine GL_aload_n C (x := (some b)) 1 dL_law_2444 rfl rfl ?_
  refine GL_iload C (x := v) 5 dL_law_2445 rfl ?_
  refine GL_iconst C (v := 1) dL_law_2447 (by decide) ?_
  refine GL_iadd C dL_law_2448 ?_
  refine GL_sld C hX hbl hbA h1 dL_law_2449 ?_
  refine GL_callMi C hZ (Tf := TX9) (N := 50) hk1 (by decide) rfl tw_7_90 tw_7_91 tw_7_92 tw_1_7 tw_7_93 hy_X9_due ⟨Nat.le_of_ble_eq_true rfl, Nat.le_of_ble_eq_true rfl⟩ (As := [Value.int (xs (v + 1).toNatClampNeg)]) (rest := []) (c_X9_due l D cy m (xs (v + 1).toNatClampNeg) SM _ h) rfl rfl (by simp [va_cat, vi_cat, vl_cat]) dL_law_2450 ⟨hc1, hs1⟩ (fun b5 SM1 h => ?_)
  obtain ⟨hk2, h⟩ := h
  refine GL_istore C (i := 6) (lv' := [(6, Value.int b5), (5, Value.int k5), (0, va_rf (some b)), (1, va_rf (some x)), (2, va_rf (some m)), (3, va_rf (some o)), (4, Value.int v)]) dL_law_2453 (by decide) (by first | rfl | simp [va_cat, vi_cat, vl_cat]) ?_
  refine GL_aload_n C (x := (some m)) 4 dL_law_2455 rfl rfl ?_
  refine GL_callMi C hZ (Tf := TX9) (N := 50) hk2 (by decide) rfl tw_6_41 tw_6_42 tw_6_43 tw_1_7 tw_6_44 hy_X9_thrown ⟨Nat.le_of_ble_eq_true rfl, Nat.le_of_ble_eq_true rfl⟩ (As := []) (rest := []) (c_X9_thrown l D cy m  SM1 _ h) rfl rfl (by simp [va_cat, vi_cat, vl_cat]) dL_law_2456 ⟨hc1, hs1⟩ (fun t5 SM2 h => ?_)
  obtain ⟨ht, hout, h⟩ := h
  refine GL_iload C (x := k5) 1 dL_law_2459 rfl ?_
  refine GL_icmp_eq C (tgt := 2466) dL_law_2461 (by decide) (fun _ => ?_) (fun hc => absurd ht hc)
  refine GL_iload C (x := k5) 1 dL_law_2466 rfl ?_
  refine GL_if_ne C (tgt := 2483) dL_law_2468 (by decide) (fun _ => ?_) (fun hk0 => ?_)
  · refine GL_goto C (tgt := 2596) dL_law_2483 (by decide) ?_
    refine GL_lv C (lv' := [(0, va_rf (some b)), (1, va_rf (some x)), (2, va_rf (some m)), (3, va_rf (some o)), (4, Value.int v)]) [2, 3, 4, 5, 6] rfl ?_
    exact kk _ _ _ _ h
  · obtain ⟨ho, hin, heq⟩ := hout hk0
    refine GL_aload_n C (x := (some o)) 5 dL_law_2471 rfl rfl ?_
    refine GL_iconst C (v := 0) dL_law_2472 (by decide) ?_
    refine GL_lald C ho hin dL_law_2473 ?_
    refine GL_iload C (x := b5) 0 dL_law_2474 rfl ?_
    refine GL_i2l C dL_law_2476 ?_
    refine GL_lcmp C dL_law_2477 ?_
    refine GL_if_eq C (tgt := 2483) dL_law_2478 (by decide) (fun _ => ?_) (fun hc => absurd (lw_cmp0 heq) hc)
    refine GL_goto C (tgt := 2596) dL_law_2483 (by decide) ?_
    refine GL_lv C (lv' := [(0, va_rf (some b)), (1, va_rf (some x)), (2, va_rf (some m)), (3, va_rf (some o)), (4, Value.int v)]) [2, 3, 4, 5, 6] rfl ?_
    exact kk _ _ _ _ h
set_option maxHeartbeats 4000000 in
set_option maxRecDepth 100000 in
theorem k_op_32 {p : Program} {l : Launch} {e : Env} {s : State} {m9 : MethodId} {below : List Frame} {meth : Method} {c : Code} {D : va_G} {cy : Nat → Nat} {A : Nat → Prop} {b L : Nat} {xs : Nat → Int32} (hl : l.stackTraces = false) (C : Cx p s m9 #[va_rf (some b)] meth c cL_law 8 lw_tbl "TrenchboardLaw" D cy A s.heap) (hZ : ZZ cy A s s.heap) (hX : va_X b L xs s s.heap) (hbl : b < s.heap.size) (hbA : ¬ A b) (hAs : A = fun q => s.heap.size ≤ q) (hr : meth.sig.returnType = ret) (e0 m0 x m o : Nat) (he : e0 = cy 9) (hm : m0 = cy 10) (v : Int32) (h1 : vp_in (v + 1) L) (SC SM : PT) (c1 s1 : Nat) (K : PT → PT → Nat → Nat → Prop) (kk : ∀ (SC SM : PT) (c1 s1 : Nat), K SC SM c1 s1 → GL p l e room_1 s m9 #[va_rf (some b)] below meth c D cy A s.heap 8 (lw_Z below #[Value.ref b] s) SC SM c1 s1 2596 [(0, va_rf (some b)), (1, va_rf (some x)), (2, va_rf (some m)), (3, va_rf (some o)), (4, Value.int v)] []) (h : w_op_32 e0 m0 x m o (xs (v + 1).toNatClampNeg) SC SM c1 s1 K) : GL p l e room_1 s m9 #[va_rf (some b)] below meth c D cy A s.heap 8 (lw_Z below #[Value.ref b] s) SC SM c1 s1 2486 [(0, va_rf (some b)), (1, va_rf (some x)), (2, va_rf (some m)), (3, va_rf (some o)), (4, Value.int v)] [] := by
  obtain ⟨m1, m2, hc1, hs1, h⟩ := h
  replace hc1 := Nat.le_trans hc1 rC
  replace hs1 := Nat.le_trans hs1 rS
  refine GL_aload_n C (x := (some x)) 1 dL_law_2486 rfl rfl ?_
  refine GL_aload_n C (x := (some b)) 0 dL_law_2487 rfl rfl ?_
  refine GL_iload C (x := v) 4 dL_law_2488 rfl ?_
  refine GL_iconst C (v := 1) dL_law_2490 (by decide) ?_
  refine GL_iadd C dL_law_2491 ?_
  refine GL_sld C hX hbl hbA h1 dL_law_2492 ?_
  refine GL_aload_n C (x := (some o)) 3 dL_law_2493 rfl rfl ?_
  refine GL_callW C hZ tw_5_103 tw_5_104 tw_1_0 tw_5_105 hy_L_money ⟨Nat.le_of_ble_eq_true rfl, Nat.le_of_ble_eq_true rfl⟩ (As := [va_rf (some x), Value.int (xs (v + 1).toNatClampNeg), va_rf (some o)]) (rest := []) (c_L_money l hl D cy (some x) (xs (v + 1).toNatClampNeg) (some o) SC m1 m2 _ h) rfl rfl (Nat.zero_le _) dL_law_2494 ⟨hc1, hs1⟩ (fun k5 SC1 h => ?_)
  obtain ⟨hk1, h⟩ := h
  refine GL_istore C (i := 5) (lv' := [(5, Value.int k5), (0, va_rf (some b)), (1, va_rf (some x)), (2, va_rf (some m)), (3, va_rf (some o)), (4, Value.int v)]) dL_law_2497 (by decide) (by first | rfl | simp [va_cat, vi_cat, vl_cat]) ?_
  refine GL_aload_n C (x := (some m)) 3 dL_law_2499 rfl rfl ?_
  refine GL_aload_n C (x := (some b)) 1 dL_law_2500 rfl rfl ?_
  refine GL_iload C (x := v) 5 dL_law_2501 rfl ?_
  refine GL_iconst C (v := 1) dL_law_2503 (by decide) ?_
  refine GL_iadd C dL_law_2504 ?_
  refine GL_sld C hX hbl hbA h1 dL_law_2505 ?_
  refine GL_callMl C hZ (Tf := TX9) (N := 50) hk1 (by decide) rfl tw_7_94 tw_7_95 tw_7_96 tw_1_7 tw_7_97 hy_X9_money ⟨Nat.le_of_ble_eq_true rfl, Nat.le_of_ble_eq_true rfl⟩ (As := [Value.int (xs (v + 1).toNatClampNeg)]) (rest := []) (c_X9_money l D cy m (xs (v + 1).toNatClampNeg) SM _ h) rfl rfl (by simp [va_cat, vi_cat, vl_cat]) dL_law_2506 ⟨hc1, hs1⟩ (fun b5 SM1 h => ?_)
  obtain ⟨hk2, h⟩ := h
  refine GL_lstore C (i := 6) (lv' := [(6, Value.long b5), (5, Value.int k5), (0, va_rf (some b)), (1, va_rf (some x)), (2, va_rf (some m)), (3, va_rf (some o)), (4, Value.int v)]) dL_law_2509 (by decide) (by first | rfl | simp [va_cat, vi_cat, vl_cat]) ?_
  refine GL_aload_n C (x := (some m)) 4 dL_law_2511 rfl rfl ?_
  refine GL_callMi C hZ (Tf := TX9) (N := 50) hk2 (by decide) rfl tw_6_41 tw_6_42 tw_6_43 tw_1_7 tw_6_44 hy_X9_thrown ⟨Nat.le_of_ble_eq_true rfl, Nat.le_of_ble_eq_true rfl⟩ (As := []) (rest := []) (c_X9_thrown l D cy m  SM1 _ h) rfl rfl (by simp [va_cat, vi_cat, vl_cat]) dL_law_2512 ⟨hc1, hs1⟩ (fun t5 SM2 h => ?_)
  obtain ⟨ht, hout, h⟩ := h
  refine GL_iload C (x := k5) 1 dL_law_2515 rfl ?_
  refine GL_icmp_eq C (tgt := 2522) dL_law_2517 (by decide) (fun _ => ?_) (fun hc => absurd ht hc)
  refine GL_iload C (x := k5) 1 dL_law_2522 rfl ?_
  refine GL_if_ne C (tgt := 2538) dL_law_2524 (by decide) (fun _ => ?_) (fun hk0 => ?_)
  · refine GL_goto C (tgt := 2596) dL_law_2538 (by decide) ?_
    refine GL_lv C (lv' := [(0, va_rf (some b)), (1, va_rf (some x)), (2, va_rf (some m)), (3, va_rf (some o)), (4, Value.int v)]) [2, 3, 4, 5, 6] rfl ?_
    exact kk _ _ _ _ h
  · obtain ⟨ho, hin, heq⟩ := hout hk0
    refine GL_aload_n C (x := (some o)) 5 dL_law_2527 rfl rfl ?_
    refine GL_iconst C (v := 0) dL_law_2528 (by decide) ?_
    refine GL_lald C ho hin dL_law_2529 ?_
    refine GL_lload C (x := b5) 0 dL_law_2530 rfl ?_
    refine GL_lcmp C dL_law_2532 ?_
    refine GL_if_eq C (tgt := 2538) dL_law_2533 (by decide) (fun _ => ?_) (fun hc => absurd (lw_cmp0 heq) hc)
    refine GL_goto C (tgt := 2596) dL_law_2538 (by decide) ?_
    refine GL_lv C (lv' := [(0, va_rf (some b)), (1, va_rf (some x)), (2, va_rf (some m)), (3, va_rf (some o)), (4, Value.int v)]) [2, 3, 4, 5, 6] rfl ?_
    exact kk _ _ _ _ h
set_option maxHeartbeats 4000000 in
set_option maxRecDepth 100000 in
theorem k_op_33 {p : Program} {l : Launch} {e : Env} {s : State} {m9 : MethodId} {below : List Frame} {meth : Method} {c : Code} {D : va_G} {cy : Nat → Nat} {A : Nat → Prop} {b L : Nat} {xs : Nat → Int32} (hl : l.stackTraces = false) (C : Cx p s m9 #[va_rf (some b)] meth c cL_law 8 lw_tbl "TrenchboardLaw" D cy A s.heap) (hZ : ZZ cy A s s.heap) (hX : va_X b L xs s s.heap) (hbl : b < s.heap.size) (hbA : ¬ A b) (hAs : A = fun q => s.heap.size ≤ q) (hr : meth.sig.returnType = ret) (e0 m0 x m o : Nat) (he : e0 = cy 9) (hm : m0 = cy 10) (v : Int32) (h1 : vp_in (v + 1) L) (SC SM : PT) (c1 s1 : Nat) (K : PT → PT → Nat → Nat → Prop) (kk : ∀ (SC SM : PT) (c1 s1 : Nat), K SC SM c1 s1 → GL p l e room_1 s m9 #[va_rf (some b)] below meth c D cy A s.heap 8 (lw_Z below #[Value.ref b] s) SC SM c1 s1 2596 [(0, va_rf (some b)), (1, va_rf (some x)), (2, va_rf (some m)), (3, va_rf (some o)), (4, Value.int v)] []) (h : w_op_33 e0 m0 x m o (xs (v + 1).toNatClampNeg) SC SM c1 s1 K) : GL p l e room_1 s m9 #[va_rf (some b)] below meth c D cy A s.heap 8 (lw_Z below #[Value.ref b] s) SC SM c1 s1 2541 [(0, va_rf (some b)), (1, va_rf (some x)), (2, va_rf (some m)), (3, va_rf (some o)), (4, Value.int v)] [] := by
  obtain ⟨m1, m2, hc1, hs1, h⟩ := h
  replace hc1 := Nat.le_trans hc1 rC
  replace hs1 := Nat.le_trans hs1 rS
  refine GL_aload_n C (x := (some x)) 1 dL_law_2541 rfl rfl ?_
  refine GL_aload_n C (x := (some b)) 0 dL_law_2542 rfl rfl ?_
  refine GL_iload C (x := v) 4 dL_law_2543 rfl ?_
  refine GL_iconst C (v := 1) dL_law_2545 (by decide) ?_
  refine GL_iadd C dL_law_2546 ?_
  refine GL_sld C hX hbl hbA h1 dL_law_2547 ?_
  refine GL_aload_n C (x := (some o)) 3 dL_law_2548 rfl rfl ?_
  refine GL_callW C hZ tw_5_111 tw_5_112 tw_1_0 tw_5_113 hy_L_moneyAnew ⟨Nat.le_of_ble_eq_true rfl, Nat.le_of_ble_eq_true rfl⟩ (As := [va_rf (some x), Value.int (xs (v + 1).toNatClampNeg), va_rf (some o)]) (rest := []) (c_L_moneyAnew l hl D cy (some x) (xs (v + 1).toNatClampNeg) (some o) SC m1 m2 _ h) rfl rfl (Nat.zero_le _) dL_law_2549 ⟨hc1, hs1⟩ (fun k5 SC1 h => ?_)
  obtain ⟨hk1, h⟩ := h
  refine GL_istore C (i := 5) (lv' := [(5, Value.int k5), (0, va_rf (some b)), (1, va_rf (some x)), (2, va_rf (some m)), (3, va_rf (some o)), (4, Value.int v)]) dL_law_2552 (by decide) (by first | rfl | simp [va_cat, vi_cat, vl_cat]) ?_
  refine GL_aload_n C (x := (some m)) 3 dL_law_2554 rfl rfl ?_
  refine GL_aload_n C (x := (some b)) 1 dL_law_2555 rfl rfl ?_
  refine GL_iload C (x := v) 5 dL_law_2556 rfl ?_
  refine GL_iconst C (v := 1) dL_law_2558 (by decide) ?_
  refine GL_iadd C dL_law_2559 ?_
  refine GL_sld C hX hbl hbA h1 dL_law_2560 ?_
  refine GL_callMl C hZ (Tf := TX9) (N := 50) hk1 (by decide) rfl tw_7_98 tw_7_99 tw_7_100 tw_1_7 tw_7_101 hy_X9_moneyAnew ⟨Nat.le_of_ble_eq_true rfl, Nat.le_of_ble_eq_true rfl⟩ (As := [Value.int (xs (v + 1).toNatClampNeg)]) (rest := []) (c_X9_moneyAnew l D cy m (xs (v + 1).toNatClampNeg) SM _ h) rfl rfl (by simp [va_cat, vi_cat, vl_cat]) dL_law_2561 ⟨hc1, hs1⟩ (fun b5 SM1 h => ?_)
  obtain ⟨hk2, h⟩ := h
  refine GL_lstore C (i := 6) (lv' := [(6, Value.long b5), (5, Value.int k5), (0, va_rf (some b)), (1, va_rf (some x)), (2, va_rf (some m)), (3, va_rf (some o)), (4, Value.int v)]) dL_law_2564 (by decide) (by first | rfl | simp [va_cat, vi_cat, vl_cat]) ?_
  refine GL_aload_n C (x := (some m)) 4 dL_law_2566 rfl rfl ?_
  refine GL_callMi C hZ (Tf := TX9) (N := 50) hk2 (by decide) rfl tw_6_41 tw_6_42 tw_6_43 tw_1_7 tw_6_44 hy_X9_thrown ⟨Nat.le_of_ble_eq_true rfl, Nat.le_of_ble_eq_true rfl⟩ (As := []) (rest := []) (c_X9_thrown l D cy m  SM1 _ h) rfl rfl (by simp [va_cat, vi_cat, vl_cat]) dL_law_2567 ⟨hc1, hs1⟩ (fun t5 SM2 h => ?_)
  obtain ⟨ht, hout, h⟩ := h
  refine GL_iload C (x := k5) 1 dL_law_2570 rfl ?_
  refine GL_icmp_eq C (tgt := 2577) dL_law_2572 (by decide) (fun _ => ?_) (fun hc => absurd ht hc)
  refine GL_iload C (x := k5) 1 dL_law_2577 rfl ?_
  refine GL_if_ne C (tgt := 2593) dL_law_2579 (by decide) (fun _ => ?_) (fun hk0 => ?_)
  · refine GL_goto C (tgt := 2596) dL_law_2593 (by decide) ?_
    refine GL_lv C (lv' := [(0, va_rf (some b)), (1, va_rf (some x)), (2, va_rf (some m)), (3, va_rf (some o)), (4, Value.int v)]) [2, 3, 4, 5, 6] rfl ?_
    exact kk _ _ _ _ h
  · obtain ⟨ho, hin, heq⟩ := hout hk0
    refine GL_aload_n C (x := (some o)) 5 dL_law_2582 rfl rfl ?_
    refine GL_iconst C (v := 0) dL_law_2583 (by decide) ?_
    refine GL_lald C ho hin dL_law_2584 ?_
    refine GL_lload C (x := b5) 0 dL_law_2585 rfl ?_
    refine GL_lcmp C dL_law_2587 ?_
    refine GL_if_eq C (tgt := 2593) dL_law_2588 (by decide) (fun _ => ?_) (fun hc => absurd (lw_cmp0 heq) hc)
    refine GL_goto C (tgt := 2596) dL_law_2593 (by decide) ?_
    refine GL_lv C (lv' := [(0, va_rf (some b)), (1, va_rf (some x)), (2, va_rf (some m)), (3, va_rf (some o)), (4, Value.int v)]) [2, 3, 4, 5, 6] rfl ?_
    exact kk _ _ _ _ h
set_option maxHeartbeats 8000000 in
set_option maxRecDepth 100000 in
theorem k_loop {p : Program} {l : Launch} {e : Env} {s : State} {m9 : MethodId} {below : List Frame} {meth : Method} {c : Code} {D : va_G} {cy : Nat → Nat} {A : Nat → Prop} {b L : Nat} {xs : Nat → Int32} (hl : l.stackTraces = false) (C : Cx p s m9 #[va_rf (some b)] meth c cL_law 8 lw_tbl "TrenchboardLaw" D cy A s.heap) (hZ : ZZ cy A s s.heap) (hX : va_X b L xs s s.heap) (hbl : b < s.heap.size) (hbA : ¬ A b) (hAs : A = fun q => s.heap.size ≤ q) (hr : meth.sig.returnType = ret) (hlocks : meth.locks = false) (e0 m0 x m o : Nat) (he : e0 = cy 9) (hm : m0 = cy 10) : ∀ (n : Nat) (v : Int32) (SC SM : PT) (c1 s1 : Nat), w_loop e0 m0 x m o L xs n v SC SM c1 s1 → GL p l e room_1 s m9 #[va_rf (some b)] below meth c D cy A s.heap 8 (lw_Z below #[Value.ref b] s) SC SM c1 s1 23 [(0, va_rf (some b)), (1, va_rf (some x)), (2, va_rf (some m)), (3, va_rf (some o)), (4, Value.int v)] [] := by
  intro n
  induction n with
  | zero => intro v SC SM c1 s1 h; exact h.elim
  | succ n ih =>
    intro v SC SM c1 s1 h
    obtain ⟨hc, hs, h⟩ := h
    refine GL_iload C (x := v) 4 dL_law_23 rfl ?_
    refine GL_aload_n C (x := some b) 0 dL_law_25 rfl rfl ?_
    refine GL_slen C hX hbl hbA dL_law_26 ?_
    refine GL_bipush C (v := 9) dL_law_27 (by decide) ?_
    refine GL_isub C dL_law_29 ?_
    refine GL_icmp_gt C (tgt := 2602) dL_law_30 (by decide) (fun _ => ?_) (fun hc9 => ?_)
    · refine GL_iconst C (v := 1) dL_law_2602 (by decide) ?_
      exact GL_lawret C hAs hr hlocks hc hs dL_law_2603
    · obtain ⟨h0, h1, h2, h3, h4, h5, h6, h7, h8, h⟩ := h hc9
      have kk : ∀ (SC SM : PT) (c1 s1 : Nat), w_loop e0 m0 x m o L xs n (v + 9) SC SM c1 s1 → GL p l e room_1 s m9 #[va_rf (some b)] below meth c D cy A s.heap 8 (lw_Z below #[Value.ref b] s) SC SM c1 s1 2596 [(0, va_rf (some b)), (1, va_rf (some x)), (2, va_rf (some m)), (3, va_rf (some o)), (4, Value.int v)] [] := by
        intro SC SM c1 s1 h
        refine GL_iinc C (v := v + 9) (lv' := [(4, Value.int (v + 9)), (0, va_rf (some b)), (1, va_rf (some x)), (2, va_rf (some m)), (3, va_rf (some o))]) 4 dL_law_2596 rfl rfl (by decide) rfl ?_
        refine GL_goto C (tgt := 23) dL_law_2599 (by decide) ?_
        refine GL_lv C (lv' := [(0, va_rf (some b)), (1, va_rf (some x)), (2, va_rf (some m)), (3, va_rf (some o)), (4, Value.int (v + 9))]) [1, 2, 3, 4, 0] rfl ?_
        exact ih (v + 9) SC SM c1 s1 h
      refine GL_aload_n C (x := some b) 0 dL_law_33 rfl rfl ?_
      refine GL_iload C (x := v) 4 dL_law_34 rfl ?_
      refine GL_sld C hX hbl hbA h0 dL_law_36 ?_
      refine GL_bipush C (v := 63) dL_law_37 (by decide) ?_
      refine GL_iand C dL_law_39 ?_
      generalize hop : (xs v.toNatClampNeg &&& 63) = op at h ⊢
      unfold w_step at h
      rw [hop] at h
      by_cases hd : op.toInt < 0 ∨ 33 < op.toInt
      · refine GL_tableOut C (tgt := 2596) dL_law_40 hd (by decide) ?_
        exact kk SC SM c1 s1 (h.1 hd)
      · have h := h.2
        rcases (show op.toInt = 0 ∨ op.toInt = 1 ∨ op.toInt = 2 ∨ op.toInt = 3 ∨ op.toInt = 4 ∨ op.toInt = 5 ∨ op.toInt = 6 ∨ op.toInt = 7 ∨ op.toInt = 8 ∨ op.toInt = 9 ∨ op.toInt = 10 ∨ op.toInt = 11 ∨ op.toInt = 12 ∨ op.toInt = 13 ∨ op.toInt = 14 ∨ op.toInt = 15 ∨ op.toInt = 16 ∨ op.toInt = 17 ∨ op.toInt = 18 ∨ op.toInt = 19 ∨ op.toInt = 20 ∨ op.toInt = 21 ∨ op.toInt = 22 ∨ op.toInt = 23 ∨ op.toInt = 24 ∨ op.toInt = 25 ∨ op.toInt = 26 ∨ op.toInt = 27 ∨ op.toInt = 28 ∨ op.toInt = 29 ∨ op.toInt = 30 ∨ op.toInt = 31 ∨ op.toInt = 32 ∨ op.toInt = 33 by omega) with hx | hx | hx | hx | hx | hx | hx | hx | hx | hx | hx | hx | hx | hx | hx | hx | hx | hx | hx | hx | hx | hx | hx | hx | hx | hx | hx | hx | hx | hx | hx | hx | hx | hx
        · refine GL_tableIn C (tgt := 192) dL_law_40 (by omega) (by omega) (by rw [hx]; rfl) (by decide) ?_
          exact k_op_0 hl C hZ hX hbl hbA hAs hr e0 m0 x m o he hm v h1 h2 h3 h4 SC SM c1 s1 _ kk (h.1 hx)
        · refine GL_tableIn C (tgt := 284) dL_law_40 (by omega) (by omega) (by rw [hx]; rfl) (by decide) ?_
          exact k_op_1 hl C hZ hX hbl hbA hAs hr e0 m0 x m o he hm v h1 SC SM c1 s1 _ kk (h.2.1 hx)
        · refine GL_tableIn C (tgt := 340) dL_law_40 (by omega) (by omega) (by rw [hx]; rfl) (by decide) ?_
          exact k_op_2 hl C hZ hX hbl hbA hAs hr e0 m0 x m o he hm v h1 h2 h3 SC SM c1 s1 _ kk (h.2.2.1 hx)
        · refine GL_tableIn C (tgt := 420) dL_law_40 (by omega) (by omega) (by rw [hx]; rfl) (by decide) ?_
          exact k_op_3 hl C hZ hX hbl hbA hAs hr e0 m0 x m o he hm v h1 h2 h3 h4 h5 SC SM c1 s1 _ kk (h.2.2.2.1 hx)
        · refine GL_tableIn C (tgt := 524) dL_law_40 (by omega) (by omega) (by rw [hx]; rfl) (by decide) ?_
          exact k_op_4 hl C hZ hX hbl hbA hAs hr e0 m0 x m o he hm v h1 h2 h3 h4 SC SM c1 s1 _ kk (h.2.2.2.2.1 hx)
        · refine GL_tableIn C (tgt := 616) dL_law_40 (by omega) (by omega) (by rw [hx]; rfl) (by decide) ?_
          exact k_op_5 hl C hZ hX hbl hbA hAs hr e0 m0 x m o he hm v h1 SC SM c1 s1 _ kk (h.2.2.2.2.2.1 hx)
        · refine GL_tableIn C (tgt := 679) dL_law_40 (by omega) (by omega) (by rw [hx]; rfl) (by decide) ?_
          exact k_op_6 hl C hZ hX hbl hbA hAs hr e0 m0 x m o he hm v h1 SC SM c1 s1 _ kk (h.2.2.2.2.2.2.1 hx)
        · refine GL_tableIn C (tgt := 735) dL_law_40 (by omega) (by omega) (by rw [hx]; rfl) (by decide) ?_
          exact k_op_7 hl C hZ hX hbl hbA hAs hr e0 m0 x m o he hm v h1 h2 SC SM c1 s1 _ kk (h.2.2.2.2.2.2.2.1 hx)
        · refine GL_tableIn C (tgt := 803) dL_law_40 (by omega) (by omega) (by rw [hx]; rfl) (by decide) ?_
          exact k_op_8 hl C hZ hX hbl hbA hAs hr e0 m0 x m o he hm v h1 h2 h3 h4 h5 h6 h7 h8 SC SM c1 s1 _ kk (h.2.2.2.2.2.2.2.2.1 hx)
        · refine GL_tableIn C (tgt := 949) dL_law_40 (by omega) (by omega) (by rw [hx]; rfl) (by decide) ?_
          exact k_op_9 hl C hZ hX hbl hbA hAs hr e0 m0 x m o he hm v h1 h2 SC SM c1 s1 _ kk (h.2.2.2.2.2.2.2.2.2.1 hx)
        · refine GL_tableIn C (tgt := 1017) dL_law_40 (by omega) (by omega) (by rw [hx]; rfl) (by decide) ?_
          exact k_op_10 hl C hZ hX hbl hbA hAs hr e0 m0 x m o he hm v h1 SC SM c1 s1 _ kk (h.2.2.2.2.2.2.2.2.2.2.1 hx)
        · refine GL_tableIn C (tgt := 1073) dL_law_40 (by omega) (by omega) (by rw [hx]; rfl) (by decide) ?_
          exact k_op_11 hl C hZ hX hbl hbA hAs hr e0 m0 x m o he hm v h1 h2 SC SM c1 s1 _ kk (h.2.2.2.2.2.2.2.2.2.2.2.1 hx)
        · refine GL_tableIn C (tgt := 1141) dL_law_40 (by omega) (by omega) (by rw [hx]; rfl) (by decide) ?_
          exact k_op_12 hl C hZ hX hbl hbA hAs hr e0 m0 x m o he hm v h1 SC SM c1 s1 _ kk (h.2.2.2.2.2.2.2.2.2.2.2.2.1 hx)
        · refine GL_tableIn C (tgt := 1204) dL_law_40 (by omega) (by omega) (by rw [hx]; rfl) (by decide) ?_
          exact k_op_13 hl C hZ hX hbl hbA hAs hr e0 m0 x m o he hm v h1 h2 SC SM c1 s1 _ kk (h.2.2.2.2.2.2.2.2.2.2.2.2.2.1 hx)
        · refine GL_tableIn C (tgt := 1279) dL_law_40 (by omega) (by omega) (by rw [hx]; rfl) (by decide) ?_
          exact k_op_14 hl C hZ hX hbl hbA hAs hr e0 m0 x m o he hm v h1 SC SM c1 s1 _ kk (h.2.2.2.2.2.2.2.2.2.2.2.2.2.2.1 hx)
        · refine GL_tableIn C (tgt := 1335) dL_law_40 (by omega) (by omega) (by rw [hx]; rfl) (by decide) ?_
          exact k_op_15 hl C hZ hX hbl hbA hAs hr e0 m0 x m o he hm v h1 h2 SC SM c1 s1 _ kk (h.2.2.2.2.2.2.2.2.2.2.2.2.2.2.2.1 hx)
        · refine GL_tableIn C (tgt := 1403) dL_law_40 (by omega) (by omega) (by rw [hx]; rfl) (by decide) ?_
          exact k_op_16 hl C hZ hX hbl hbA hAs hr e0 m0 x m o he hm v h1 h2 h3 SC SM c1 s1 _ kk (h.2.2.2.2.2.2.2.2.2.2.2.2.2.2.2.2.1 hx)
        · refine GL_tableIn C (tgt := 1483) dL_law_40 (by omega) (by omega) (by rw [hx]; rfl) (by decide) ?_
          exact k_op_17 hl C hZ hX hbl hbA hAs hr e0 m0 x m o he hm v h1 SC SM c1 s1 _ kk (h.2.2.2.2.2.2.2.2.2.2.2.2.2.2.2.2.2.1 hx)
        · refine GL_tableIn C (tgt := 1546) dL_law_40 (by omega) (by omega) (by rw [hx]; rfl) (by decide) ?_
          exact k_op_18 hl C hZ hX hbl hbA hAs hr e0 m0 x m o he hm v h1 SC SM c1 s1 _ kk (h.2.2.2.2.2.2.2.2.2.2.2.2.2.2.2.2.2.2.1 hx)
        · refine GL_tableIn C (tgt := 1602) dL_law_40 (by omega) (by omega) (by rw [hx]; rfl) (by decide) ?_
          exact k_op_19 hl C hZ hX hbl hbA hAs hr e0 m0 x m o he hm v h1 SC SM c1 s1 _ kk (h.2.2.2.2.2.2.2.2.2.2.2.2.2.2.2.2.2.2.2.1 hx)
        · refine GL_tableIn C (tgt := 1658) dL_law_40 (by omega) (by omega) (by rw [hx]; rfl) (by decide) ?_
          exact k_op_20 hl C hZ hX hbl hbA hAs hr e0 m0 x m o he hm v h1 SC SM c1 s1 _ kk (h.2.2.2.2.2.2.2.2.2.2.2.2.2.2.2.2.2.2.2.2.1 hx)
        · refine GL_tableIn C (tgt := 1714) dL_law_40 (by omega) (by omega) (by rw [hx]; rfl) (by decide) ?_
          exact k_op_21 hl C hZ hX hbl hbA hAs hr e0 m0 x m o he hm v h1 h2 h3 SC SM c1 s1 _ kk (h.2.2.2.2.2.2.2.2.2.2.2.2.2.2.2.2.2.2.2.2.2.1 hx)
        · refine GL_tableIn C (tgt := 1794) dL_law_40 (by omega) (by omega) (by rw [hx]; rfl) (by decide) ?_
          exact k_op_22 hl C hZ hX hbl hbA hAs hr e0 m0 x m o he hm v h1 h2 SC SM c1 s1 _ kk (h.2.2.2.2.2.2.2.2.2.2.2.2.2.2.2.2.2.2.2.2.2.2.1 hx)
        · refine GL_tableIn C (tgt := 1862) dL_law_40 (by omega) (by omega) (by rw [hx]; rfl) (by decide) ?_
          exact k_op_23 hl C hZ hX hbl hbA hAs hr e0 m0 x m o he hm v h1 h2 h3 SC SM c1 s1 _ kk (h.2.2.2.2.2.2.2.2.2.2.2.2.2.2.2.2.2.2.2.2.2.2.2.1 hx)
        · refine GL_tableIn C (tgt := 1942) dL_law_40 (by omega) (by omega) (by rw [hx]; rfl) (by decide) ?_
          exact k_op_24 hl C hZ hX hbl hbA hAs hr e0 m0 x m o he hm v h1 h2 h3 SC SM c1 s1 _ kk (h.2.2.2.2.2.2.2.2.2.2.2.2.2.2.2.2.2.2.2.2.2.2.2.2.1 hx)
        · refine GL_tableIn C (tgt := 2022) dL_law_40 (by omega) (by omega) (by rw [hx]; rfl) (by decide) ?_
          exact k_op_25 hl C hZ hX hbl hbA hAs hr e0 m0 x m o he hm v h1 SC SM c1 s1 _ kk (h.2.2.2.2.2.2.2.2.2.2.2.2.2.2.2.2.2.2.2.2.2.2.2.2.2.1 hx)
        · refine GL_tableIn C (tgt := 2078) dL_law_40 (by omega) (by omega) (by rw [hx]; rfl) (by decide) ?_
          exact k_op_26 hl C hZ hX hbl hbA hAs hr e0 m0 x m o he hm v h1 h2 SC SM c1 s1 _ kk (h.2.2.2.2.2.2.2.2.2.2.2.2.2.2.2.2.2.2.2.2.2.2.2.2.2.2.1 hx)
        · refine GL_tableIn C (tgt := 2146) dL_law_40 (by omega) (by omega) (by rw [hx]; rfl) (by decide) ?_
          exact k_op_27 hl C hZ hX hbl hbA hAs hr e0 m0 x m o he hm v h1 h2 SC SM c1 s1 _ kk (h.2.2.2.2.2.2.2.2.2.2.2.2.2.2.2.2.2.2.2.2.2.2.2.2.2.2.2.1 hx)
        · refine GL_tableIn C (tgt := 2214) dL_law_40 (by omega) (by omega) (by rw [hx]; rfl) (by decide) ?_
          exact k_op_28 hl C hZ hX hbl hbA hAs hr e0 m0 x m o he hm v h1 h2 h3 SC SM c1 s1 _ kk (h.2.2.2.2.2.2.2.2.2.2.2.2.2.2.2.2.2.2.2.2.2.2.2.2.2.2.2.2.1 hx)
        · refine GL_tableIn C (tgt := 2294) dL_law_40 (by omega) (by omega) (by rw [hx]; rfl) (by decide) ?_
          exact k_op_29 hl C hZ hX hbl hbA hAs hr e0 m0 x m o he hm v h1 h2 h3 SC SM c1 s1 _ kk (h.2.2.2.2.2.2.2.2.2.2.2.2.2.2.2.2.2.2.2.2.2.2.2.2.2.2.2.2.2.1 hx)
        · refine GL_tableIn C (tgt := 2374) dL_law_40 (by omega) (by omega) (by rw [hx]; rfl) (by decide) ?_
          exact k_op_30 hl C hZ hX hbl hbA hAs hr e0 m0 x m o he hm v h1 SC SM c1 s1 _ kk (h.2.2.2.2.2.2.2.2.2.2.2.2.2.2.2.2.2.2.2.2.2.2.2.2.2.2.2.2.2.2.1 hx)
        · refine GL_tableIn C (tgt := 2430) dL_law_40 (by omega) (by omega) (by rw [hx]; rfl) (by decide) ?_
          exact k_op_31 hl C hZ hX hbl hbA hAs hr e0 m0 x m o he hm v h1 SC SM c1 s1 _ kk (h.2.2.2.2.2.2.2.2.2.2.2.2.2.2.2.2.2.2.2.2.2.2.2.2.2.2.2.2.2.2.2.1 hx)
        · refine GL_tableIn C (tgt := 2486) dL_law_40 (by omega) (by omega) (by rw [hx]; rfl) (by decide) ?_
          exact k_op_32 hl C hZ hX hbl hbA hAs hr e0 m0 x m o he hm v h1 SC SM c1 s1 _ kk (h.2.2.2.2.2.2.2.2.2.2.2.2.2.2.2.2.2.2.2.2.2.2.2.2.2.2.2.2.2.2.2.2.1 hx)
        · refine GL_tableIn C (tgt := 2541) dL_law_40 (by omega) (by omega) (by rw [hx]; rfl) (by decide) ?_
          exact k_op_33 hl C hZ hX hbl hbA hAs hr e0 m0 x m o he hm v h1 SC SM c1 s1 _ kk (h.2.2.2.2.2.2.2.2.2.2.2.2.2.2.2.2.2.2.2.2.2.2.2.2.2.2.2.2.2.2.2.2.2 hx)
