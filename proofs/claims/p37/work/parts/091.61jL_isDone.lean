set_option maxHeartbeats 4000000 in
set_option maxRecDepth 100000 in
theorem c_L_isDone (l : Launch) (hl : l.stackTraces = false) (D : va_G) (cy : Nat → Nat) (e0 m0 : Nat) (he : e0 = cy 9) (hm : m0 = cy 10) (x0 : Option Nat) (x1 : Option Nat) (x2 : Option Nat) (x3 : Int32) (x4 : Int32) (S : PT) (mc ms : Nat) (post : Int32 → PT → Prop) (h : w_L_isDone e0 m0 x0 x1 x2 x3 x4 S mc ms post) : Mi l yL_isDone (Wm yL_isDone method_12_code 17 (Option.some Jvm.ClassFile.FieldType.boolean)) 10 244 D cy [va_rf x0, va_rf x1, va_rf x2, Value.int x3, Value.int x4] S mc ms (fun r S => bo r ∧ post r S) := by
  refine Mi_of (own := "TrenchboardLaw") (by decide) rfl (by first | decide | simp [lg_sl, va_cat, vi_cat, vl_cat]) (fun p e s m below meth c A C hZ hr hin9 => ?_)
  have J1349 : ∀ (c0 n0 : Nat) (S : PT) (s0 : Int32), w_L_isDone_b1349 e0 m0 x0 x1 x2 x3 x4 mc ms post c0 n0 S s0 → G p l e { frames := 10, cells := mc, slots := ms, locals := 244 } s m [va_rf x0, va_rf x1, va_rf x2, Value.int x3, Value.int x4].toArray below meth c D cy A s.heap 17 (QMi below D cy A [va_rf x0, va_rf x1, va_rf x2, Value.int x3, Value.int x4] s mc ms (fun r S => bo r ∧ post r S)) S c0 n0 1349 [] [Value.int s0] := by
    intro c0 n0 S s0 h
    unfold w_L_isDone_b1349 at h
    obtain ⟨hc00, hn00, h⟩ := h
    obtain ⟨hb1, h⟩ := h
    exact G_zret C (mc := mc) (ms := ms) (post := (fun r S => bo r ∧ post r S)) (bo_nar hb1) hr hc00 hn00 dL_isDone_1349 ⟨hb1, h⟩
  have J1348 : ∀ (c0 n0 : Nat) (S : PT), w_L_isDone_b1348 e0 m0 x0 x1 x2 x3 x4 mc ms post c0 n0 S → G p l e { frames := 10, cells := mc, slots := ms, locals := 244 } s m [va_rf x0, va_rf x1, va_rf x2, Value.int x3, Value.int x4].toArray below meth c D cy A s.heap 17 (QMi below D cy A [va_rf x0, va_rf x1, va_rf x2, Value.int x3, Value.int x4] s mc ms (fun r S => bo r ∧ post r S)) S c0 n0 1348 [] [] := by
    intro c0 n0 S h
    unfold w_L_isDone_b1348 at h
    obtain ⟨hc00, hn00, h⟩ := h
    refine G_iconst C (v := 0) dL_isDone_1348 (by decide) ?_
    refine G_lv C (lv' := []) [] rfl ?_
    exact J1349 _ _ _ _ h
  have J1344 : ∀ (c0 n0 : Nat) (S : PT), w_L_isDone_b1344 e0 m0 x0 x1 x2 x3 x4 mc ms post c0 n0 S → G p l e { frames := 10, cells := mc, slots := ms, locals := 244 } s m [va_rf x0, va_rf x1, va_rf x2, Value.int x3, Value.int x4].toArray below meth c D cy A s.heap 17 (QMi below D cy A [va_rf x0, va_rf x1, va_rf x2, Value.int x3, Value.int x4] s mc ms (fun r S => bo r ∧ post r S)) S c0 n0 1344 [] [] := by
    intro c0 n0 S h
    unfold w_L_isDone_b1344 at h
    obtain ⟨hc00, hn00, h⟩ := h
    refine G_iconst C (v := 1) dL_isDone_1344 (by decide) ?_
    refine G_goto C (tgt := 1349) dL_isDone_1345 (by decide) ?_
    refine G_lv C (lv' := []) [] rfl ?_
    exact J1349 _ _ _ _ h
  have J1325 : ∀ (c0 n0 : Nat) (S : PT) (v5 : Int32) (v10 : Int32) (s0 : Int32) (s1 : Int32), w_L_isDone_b1325 e0 m0 x0 x1 x2 x3 x4 mc ms post c0 n0 S v5 v10 s0 s1 → G p l e { frames := 10, cells := mc, slots := ms, locals := 244 } s m [va_rf x0, va_rf x1, va_rf x2, Value.int x3, Value.int x4].toArray below meth c D cy A s.heap 17 (QMi below D cy A [va_rf x0, va_rf x1, va_rf x2, Value.int x3, Value.int x4] s mc ms (fun r S => bo r ∧ post r S)) S c0 n0 1325 [(0, va_rf x0), (5, Value.int v5), (10, Value.int v10)] [Value.int s1, Value.int s0] := by
    intro c0 n0 S v5 v10 s0 s1 h
    unfold w_L_isDone_b1325 at h
    obtain ⟨hc00, hn00, h⟩ := h
    refine G_icmp_ne C (tgt := 1348) dL_isDone_1325 (by decide) (fun hc => ?_) (fun hc => ?_)
    · have h := h.1 hc
      refine G_lv C (lv' := []) [] rfl ?_
      exact J1348 _ _ _ h
    · have h := h.2 hc
      refine G_iload C (x := v10) 2 dL_isDone_1328 rfl ?_
      refine G_if_eq C (tgt := 1344) dL_isDone_1330 (by decide) (fun hc => ?_) (fun hc => ?_)
      · have h := h.1 hc
        refine G_lv C (lv' := []) [] rfl ?_
        exact J1344 _ _ _ h
      · have h := h.2 hc
        refine G_aload_n C (x := x0) 0 dL_isDone_1333 rfl rfl ?_
        refine G_iload C (x := v5) 1 dL_isDone_1334 rfl ?_
        refine G_iconst C (v := 0) dL_isDone_1336 (by decide) ?_
        obtain ⟨S2, M3, hv4, hd5, h⟩ := h
        obtain ⟨a7, ha8, h⟩ := h
        obtain ⟨hk9, h⟩ := h
        obtain ⟨m12, m13, hc14, hs15, h⟩ := h
        refine G_fxcalli C hZ hv4 hd5 (Tf := TX8) (N := 10) hk9 (by decide) rfl tw_4_147 tw_4_148 tw_4_149 tw_1_1 tw_4_150 hy_X8_of ⟨Nat.le_of_ble_eq_true rfl, Nat.le_of_ble_eq_true rfl⟩ (As := [Value.int v5, Value.int 0]) (rest := []) (c_X8_of l hl  D cy a7 v5 0 S2 m12 m13 _ _ h) rfl (by first | rfl | (simp only [ha8]; rfl) | simp only [ha8]) (by simp [va_cat, vi_cat, vl_cat]) dL_isDone_1337 ⟨hc14, hs15⟩ (fun E S10 hd6 h => ?_) (fun r11 S10 hd6 h => ?_)
        · exact (h hd6).elim
        · replace h := h hd6
          refine G_iconst C (v := 4) dL_isDone_1340 (by decide) ?_
          refine G_icmp_ne C (tgt := 1348) dL_isDone_1341 (by decide) (fun hc => ?_) (fun hc => ?_)
          · have h := h.1 hc
            refine G_lv C (lv' := []) [] rfl ?_
            exact J1348 _ _ _ h
          · have h := h.2 hc
            refine G_lv C (lv' := []) [] rfl ?_
            exact J1344 _ _ _ h
  have J1299 : ∀ (c0 n0 : Nat) (S : PT) (v5 : Int32) (v10 : Int32) (s0 : Int32), w_L_isDone_b1299 e0 m0 x0 x1 x2 x3 x4 mc ms post c0 n0 S v5 v10 s0 → G p l e { frames := 10, cells := mc, slots := ms, locals := 244 } s m [va_rf x0, va_rf x1, va_rf x2, Value.int x3, Value.int x4].toArray below meth c D cy A s.heap 17 (QMi below D cy A [va_rf x0, va_rf x1, va_rf x2, Value.int x3, Value.int x4] s mc ms (fun r S => bo r ∧ post r S)) S c0 n0 1299 [(0, va_rf x0), (5, Value.int v5), (10, Value.int v10)] [Value.int s0] := by
    intro c0 n0 S v5 v10 s0 h
    unfold w_L_isDone_b1299 at h
    obtain ⟨hc00, hn00, h⟩ := h
    refine G_istore C (i := 12) (lv' := [(12, Value.int s0), (0, va_rf x0), (5, Value.int v5), (10, Value.int v10)]) dL_isDone_1299 (by decide) (by first | rfl | simp [va_cat, vi_cat, vl_cat]) ?_
    refine G_aload_n C (x := x0) 1 dL_isDone_1301 rfl rfl ?_
    refine G_bipush C (v := 18) dL_isDone_1302 (by decide) ?_
    refine G_iload C (x := v5) 2 dL_isDone_1304 rfl ?_
    refine G_iconst C (v := 0) dL_isDone_1306 (by decide) ?_
    refine G_iconst C (v := 0) dL_isDone_1307 (by decide) ?_
    refine G_iconst C (v := 0) dL_isDone_1308 (by decide) ?_
    refine G_iconst C (v := 0) dL_isDone_1309 (by decide) ?_
    obtain ⟨m18, m19, hc20, hs21, h⟩ := h
    refine G_callSWi C hZ tw_2_35 tw_2_36 tw_1_0 tw_2_37 hy_L_act ⟨Nat.le_of_ble_eq_true rfl, Nat.le_of_ble_eq_true rfl⟩ (As := [va_rf x0, Value.int 18, Value.int v5, Value.int 0, Value.int 0, Value.int 0, Value.int 0]) (rest := []) (c_L_act l hl D cy e0 m0 he hm x0 18 v5 0 0 0 0 S m18 m19 _ h) rfl rfl (by simp [va_cat, vi_cat, vl_cat]) dL_isDone_1310 ⟨hc20, hs21⟩ (fun r17 S16 h => ?_)
    refine G_iload C (x := v10) 3 dL_isDone_1313 rfl ?_
    refine G_if_eq C (tgt := 1323) dL_isDone_1315 (by decide) (fun hc => ?_) (fun hc => ?_)
    · have h := h.1 hc
      refine G_ldc C (v := (-1713000)) (im tw_4_176) dL_isDone_1323 ?_
      refine G_lv C (lv' := [(0, va_rf x0), (5, Value.int v5), (10, Value.int v10)]) [1, 2, 3] rfl ?_
      exact J1325 _ _ _ _ _ _ _ h
    · have h := h.2 hc
      refine G_iload C (x := s0) 0 dL_isDone_1318 rfl ?_
      refine G_goto C (tgt := 1325) dL_isDone_1320 (by decide) ?_
      refine G_lv C (lv' := [(0, va_rf x0), (5, Value.int v5), (10, Value.int v10)]) [1, 2, 3] rfl ?_
      exact J1325 _ _ _ _ _ _ _ h
  have J1264 : ∀ (c0 n0 : Nat) (S : PT) (v5 : Int32) (s0 : Int32), w_L_isDone_b1264 e0 m0 x0 x1 x2 x3 x4 mc ms post c0 n0 S v5 s0 → G p l e { frames := 10, cells := mc, slots := ms, locals := 244 } s m [va_rf x0, va_rf x1, va_rf x2, Value.int x3, Value.int x4].toArray below meth c D cy A s.heap 17 (QMi below D cy A [va_rf x0, va_rf x1, va_rf x2, Value.int x3, Value.int x4] s mc ms (fun r S => bo r ∧ post r S)) S c0 n0 1264 [(0, va_rf x0), (1, va_rf x1), (5, Value.int v5)] [Value.int s0] := by
    intro c0 n0 S v5 s0 h
    unfold w_L_isDone_b1264 at h
    obtain ⟨hc00, hn00, h⟩ := h
    refine G_istore C (i := 10) (lv' := [(10, Value.int s0), (0, va_rf x0), (1, va_rf x1), (5, Value.int v5)]) dL_isDone_1264 (by decide) (by first | rfl | simp [va_cat, vi_cat, vl_cat]) ?_
    refine G_aload_n C (x := x0) 1 dL_isDone_1266 rfl rfl ?_
    refine G_iload C (x := v5) 3 dL_isDone_1267 rfl ?_
    refine G_iconst C (v := 1) dL_isDone_1269 (by decide) ?_
    obtain ⟨S22, M23, hv24, hd25, h⟩ := h
    obtain ⟨a27, ha28, h⟩ := h
    obtain ⟨hk29, h⟩ := h
    obtain ⟨m32, m33, hc34, hs35, h⟩ := h
    refine G_fxcalli C hZ hv24 hd25 (Tf := TX8) (N := 10) hk29 (by decide) rfl tw_4_147 tw_4_148 tw_4_149 tw_1_1 tw_4_150 hy_X8_of ⟨Nat.le_of_ble_eq_true rfl, Nat.le_of_ble_eq_true rfl⟩ (As := [Value.int v5, Value.int 1]) (rest := []) (c_X8_of l hl  D cy a27 v5 1 S22 m32 m33 _ _ h) rfl (by first | rfl | (simp only [ha28]; rfl) | simp only [ha28]) (by simp [va_cat, vi_cat, vl_cat]) dL_isDone_1270 ⟨hc34, hs35⟩ (fun E S30 hd26 h => ?_) (fun r31 S30 hd26 h => ?_)
    · exact (h hd26).elim
    · replace h := h hd26
      refine G_istore C (i := 11) (lv' := [(11, Value.int r31), (10, Value.int s0), (0, va_rf x0), (1, va_rf x1), (5, Value.int v5)]) dL_isDone_1273 (by decide) (by first | rfl | simp [va_cat, vi_cat, vl_cat]) ?_
      refine G_aload_n C (x := x1) 3 dL_isDone_1275 rfl rfl ?_
      refine G_iconst C (v := 0) dL_isDone_1276 (by decide) ?_
      obtain ⟨a36, ha37, h⟩ := h
      refine G_rf1 ha37 ?_
      obtain ⟨hk38, h⟩ := h
      obtain ⟨hi39, h⟩ := h
      refine G_iald C hk38 hi39 dL_isDone_1277 ?_
      refine G_bipush C (v := 24) dL_isDone_1278 (by decide) ?_
      refine G_idiv C dL_isDone_1280 (by decide) ?_
      refine G_iload C (x := r31) 0 dL_isDone_1281 rfl ?_
      refine G_icmp_le C (tgt := 1298) dL_isDone_1283 (by decide) (fun hc => ?_) (fun hc => ?_)
      · have h := h.1 hc
        refine G_iconst C (v := 0) dL_isDone_1298 (by decide) ?_
        refine G_lv C (lv' := [(0, va_rf x0), (5, Value.int v5), (10, Value.int s0)]) [2, 4, 1] rfl ?_
        exact J1299 _ _ _ _ _ _ h
      · have h := h.2 hc
        refine G_aload_n C (x := x1) 3 dL_isDone_1286 rfl rfl ?_
        refine G_iconst C (v := 0) dL_isDone_1287 (by decide) ?_
        refine G_rf1 ha37 ?_
        obtain ⟨hi40, h⟩ := h
        refine G_iald C hk38 hi40 dL_isDone_1288 ?_
        refine G_bipush C (v := 24) dL_isDone_1289 (by decide) ?_
        refine G_idiv C dL_isDone_1291 (by decide) ?_
        refine G_iload C (x := r31) 0 dL_isDone_1292 rfl ?_
        refine G_isub C dL_isDone_1294 ?_
        refine G_goto C (tgt := 1299) dL_isDone_1295 (by decide) ?_
        refine G_lv C (lv' := [(0, va_rf x0), (5, Value.int v5), (10, Value.int s0)]) [2, 4, 1] rfl ?_
        exact J1299 _ _ _ _ _ _ h
  have J1263 : ∀ (c0 n0 : Nat) (S : PT) (v5 : Int32), w_L_isDone_b1263 e0 m0 x0 x1 x2 x3 x4 mc ms post c0 n0 S v5 → G p l e { frames := 10, cells := mc, slots := ms, locals := 244 } s m [va_rf x0, va_rf x1, va_rf x2, Value.int x3, Value.int x4].toArray below meth c D cy A s.heap 17 (QMi below D cy A [va_rf x0, va_rf x1, va_rf x2, Value.int x3, Value.int x4] s mc ms (fun r S => bo r ∧ post r S)) S c0 n0 1263 [(0, va_rf x0), (1, va_rf x1), (5, Value.int v5)] [] := by
    intro c0 n0 S v5 h
    unfold w_L_isDone_b1263 at h
    obtain ⟨hc00, hn00, h⟩ := h
    refine G_iconst C (v := 0) dL_isDone_1263 (by decide) ?_
    refine G_lv C (lv' := [(0, va_rf x0), (1, va_rf x1), (5, Value.int v5)]) [0, 1, 2] rfl ?_
    exact J1264 _ _ _ _ _ h
  have J1242 : ∀ (c0 n0 : Nat) (S : PT) (s0 : Int32), w_L_isDone_b1242 e0 m0 x0 x1 x2 x3 x4 mc ms post c0 n0 S s0 → G p l e { frames := 10, cells := mc, slots := ms, locals := 244 } s m [va_rf x0, va_rf x1, va_rf x2, Value.int x3, Value.int x4].toArray below meth c D cy A s.heap 17 (QMi below D cy A [va_rf x0, va_rf x1, va_rf x2, Value.int x3, Value.int x4] s mc ms (fun r S => bo r ∧ post r S)) S c0 n0 1242 [] [Value.int s0] := by
    intro c0 n0 S s0 h
    unfold w_L_isDone_b1242 at h
    obtain ⟨hc00, hn00, h⟩ := h
    obtain ⟨hb41, h⟩ := h
    exact G_zret C (mc := mc) (ms := ms) (post := (fun r S => bo r ∧ post r S)) (bo_nar hb41) hr hc00 hn00 dL_isDone_1242 ⟨hb41, h⟩
  have J1241 : ∀ (c0 n0 : Nat) (S : PT), w_L_isDone_b1241 e0 m0 x0 x1 x2 x3 x4 mc ms post c0 n0 S → G p l e { frames := 10, cells := mc, slots := ms, locals := 244 } s m [va_rf x0, va_rf x1, va_rf x2, Value.int x3, Value.int x4].toArray below meth c D cy A s.heap 17 (QMi below D cy A [va_rf x0, va_rf x1, va_rf x2, Value.int x3, Value.int x4] s mc ms (fun r S => bo r ∧ post r S)) S c0 n0 1241 [] [] := by
    intro c0 n0 S h
    unfold w_L_isDone_b1241 at h
    obtain ⟨hc00, hn00, h⟩ := h
    refine G_iconst C (v := 0) dL_isDone_1241 (by decide) ?_
    refine G_lv C (lv' := []) [] rfl ?_
    exact J1242 _ _ _ _ h
  have J1189 : ∀ (c0 n0 : Nat) (S : PT), w_L_isDone_b1189 e0 m0 x0 x1 x2 x3 x4 mc ms post c0 n0 S → G p l e { frames := 10, cells := mc, slots := ms, locals := 244 } s m [va_rf x0, va_rf x1, va_rf x2, Value.int x3, Value.int x4].toArray below meth c D cy A s.heap 17 (QMi below D cy A [va_rf x0, va_rf x1, va_rf x2, Value.int x3, Value.int x4] s mc ms (fun r S => bo r ∧ post r S)) S c0 n0 1189 [] [] := by
    intro c0 n0 S h
    unfold w_L_isDone_b1189 at h
    obtain ⟨hc00, hn00, h⟩ := h
    refine G_iconst C (v := 0) dL_isDone_1189 (by decide) ?_
    refine G_goto C (tgt := 1242) dL_isDone_1190 (by decide) ?_
    refine G_lv C (lv' := []) [] rfl ?_
    exact J1242 _ _ _ _ h
  have J1115 : ∀ (c0 n0 : Nat) (S : PT) (s0 : Int32), w_L_isDone_b1115 e0 m0 x0 x1 x2 x3 x4 mc ms post c0 n0 S s0 → G p l e { frames := 10, cells := mc, slots := ms, locals := 244 } s m [va_rf x0, va_rf x1, va_rf x2, Value.int x3, Value.int x4].toArray below meth c D cy A s.heap 17 (QMi below D cy A [va_rf x0, va_rf x1, va_rf x2, Value.int x3, Value.int x4] s mc ms (fun r S => bo r ∧ post r S)) S c0 n0 1115 [] [Value.int s0] := by
    intro c0 n0 S s0 h
    unfold w_L_isDone_b1115 at h
    obtain ⟨hc00, hn00, h⟩ := h
    obtain ⟨hb42, h⟩ := h
    exact G_zret C (mc := mc) (ms := ms) (post := (fun r S => bo r ∧ post r S)) (bo_nar hb42) hr hc00 hn00 dL_isDone_1115 ⟨hb42, h⟩
  have J1107 : ∀ (c0 n0 : Nat) (S : PT) (s0 : Int32) (s1 : Int32), w_L_isDone_b1107 e0 m0 x0 x1 x2 x3 x4 mc ms post c0 n0 S s0 s1 → G p l e { frames := 10, cells := mc, slots := ms, locals := 244 } s m [va_rf x0, va_rf x1, va_rf x2, Value.int x3, Value.int x4].toArray below meth c D cy A s.heap 17 (QMi below D cy A [va_rf x0, va_rf x1, va_rf x2, Value.int x3, Value.int x4] s mc ms (fun r S => bo r ∧ post r S)) S c0 n0 1107 [] [Value.int s1, Value.int s0] := by
    intro c0 n0 S s0 s1 h
    unfold w_L_isDone_b1107 at h
    obtain ⟨hc00, hn00, h⟩ := h
    refine G_icmp_ne C (tgt := 1114) dL_isDone_1107 (by decide) (fun hc => ?_) (fun hc => ?_)
    · have h := h.1 hc
      refine G_iconst C (v := 0) dL_isDone_1114 (by decide) ?_
      refine G_lv C (lv' := []) [] rfl ?_
      exact J1115 _ _ _ _ h
    · have h := h.2 hc
      refine G_iconst C (v := 1) dL_isDone_1110 (by decide) ?_
      refine G_goto C (tgt := 1115) dL_isDone_1111 (by decide) ?_
      refine G_lv C (lv' := []) [] rfl ?_
      exact J1115 _ _ _ _ h
  have J1063 : ∀ (c0 n0 : Nat) (S : PT) (s0 : Int32), w_L_isDone_b1063 e0 m0 x0 x1 x2 x3 x4 mc ms post c0 n0 S s0 → G p l e { frames := 10, cells := mc, slots := ms, locals := 244 } s m [va_rf x0, va_rf x1, va_rf x2, Value.int x3, Value.int x4].toArray below meth c D cy A s.heap 17 (QMi below D cy A [va_rf x0, va_rf x1, va_rf x2, Value.int x3, Value.int x4] s mc ms (fun r S => bo r ∧ post r S)) S c0 n0 1063 [] [Value.int s0] := by
    intro c0 n0 S s0 h
    unfold w_L_isDone_b1063 at h
    obtain ⟨hc00, hn00, h⟩ := h
    obtain ⟨hb43, h⟩ := h
    exact G_zret C (mc := mc) (ms := ms) (post := (fun r S => bo r ∧ post r S)) (bo_nar hb43) hr hc00 hn00 dL_isDone_1063 ⟨hb43, h⟩
  have J1047 : ∀ (c0 n0 : Nat) (S : PT), w_L_isDone_b1047 e0 m0 x0 x1 x2 x3 x4 mc ms post c0 n0 S → G p l e { frames := 10, cells := mc, slots := ms, locals := 244 } s m [va_rf x0, va_rf x1, va_rf x2, Value.int x3, Value.int x4].toArray below meth c D cy A s.heap 17 (QMi below D cy A [va_rf x0, va_rf x1, va_rf x2, Value.int x3, Value.int x4] s mc ms (fun r S => bo r ∧ post r S)) S c0 n0 1047 [] [] := by
    intro c0 n0 S h
    unfold w_L_isDone_b1047 at h
    obtain ⟨hc00, hn00, h⟩ := h
    refine G_iconst C (v := 0) dL_isDone_1047 (by decide) ?_
    refine G_goto C (tgt := 1063) dL_isDone_1048 (by decide) ?_
    refine G_lv C (lv' := []) [] rfl ?_
    exact J1063 _ _ _ _ h
  have J955 : ∀ (c0 n0 : Nat) (S : PT) (v5 : Int32) (v6 : Int32) (v9 : Int32) (s0 : Int32), w_L_isDone_b955 e0 m0 x0 x1 x2 x3 x4 mc ms post c0 n0 S v5 v6 v9 s0 → G p l e { frames := 10, cells := mc, slots := ms, locals := 244 } s m [va_rf x0, va_rf x1, va_rf x2, Value.int x3, Value.int x4].toArray below meth c D cy A s.heap 17 (QMi below D cy A [va_rf x0, va_rf x1, va_rf x2, Value.int x3, Value.int x4] s mc ms (fun r S => bo r ∧ post r S)) S c0 n0 955 [(0, va_rf x0), (2, va_rf x2), (5, Value.int v5), (6, Value.int v6), (9, Value.int v9)] [Value.int s0] := by
    intro c0 n0 S v5 v6 v9 s0 h
    unfold w_L_isDone_b955 at h
    obtain ⟨hc00, hn00, h⟩ := h
    refine G_istore C (i := 10) (lv' := [(10, Value.int s0), (0, va_rf x0), (2, va_rf x2), (5, Value.int v5), (6, Value.int v6), (9, Value.int v9)]) dL_isDone_955 (by decide) (by first | rfl | simp [va_cat, vi_cat, vl_cat]) ?_
    refine G_aload_n C (x := x0) 1 dL_isDone_957 rfl rfl ?_
    refine G_aload_n C (x := x2) 2 dL_isDone_958 rfl rfl ?_
    refine G_iconst C (v := 4) dL_isDone_959 (by decide) ?_
    refine G_iload C (x := v5) 3 dL_isDone_960 rfl ?_
    refine G_imul C dL_isDone_962 ?_
    obtain ⟨a44, ha45, h⟩ := h
    refine G_rf1 ha45 ?_
    obtain ⟨hk46, h⟩ := h
    obtain ⟨hi47, h⟩ := h
    refine G_iald C hk46 hi47 dL_isDone_963 ?_
    refine G_iload C (x := v9) 5 dL_isDone_964 rfl ?_
    refine G_iconst C (v := 3) dL_isDone_966 (by decide) ?_
    obtain ⟨S48, M49, hv50, hd51, h⟩ := h
    obtain ⟨a53, ha54, h⟩ := h
    obtain ⟨hk55, h⟩ := h
    obtain ⟨m58, m59, hc60, hs61, h⟩ := h
    refine G_fxcalli C hZ hv50 hd51 (Tf := TX8) (N := 10) hk55 (by decide) rfl tw_2_5 tw_2_6 tw_2_7 tw_1_1 tw_2_8 hy_X8_metre ⟨Nat.le_of_ble_eq_true rfl, Nat.le_of_ble_eq_true rfl⟩ (As := [Value.int (gA S a44 (((4 * v5)).toNatClampNeg)), Value.int v9, Value.int 3]) (rest := []) (c_X8_metre l hl  D cy a53 (gA S a44 (((4 * v5)).toNatClampNeg)) v9 3 S48 m58 m59 _ _ h) rfl (by first | rfl | (simp only [ha54]; rfl) | simp only [ha54]) (by simp [va_cat, vi_cat, vl_cat]) dL_isDone_967 ⟨hc60, hs61⟩ (fun E S56 hd52 h => ?_) (fun r57 S56 hd52 h => ?_)
    · exact (h hd52).elim
    · replace h := h hd52
      refine G_istore C (i := 11) (lv' := [(11, Value.int r57), (10, Value.int s0), (0, va_rf x0), (2, va_rf x2), (5, Value.int v5), (6, Value.int v6), (9, Value.int v9)]) dL_isDone_970 (by decide) (by first | rfl | simp [va_cat, vi_cat, vl_cat]) ?_
      refine G_aload_n C (x := x0) 2 dL_isDone_972 rfl rfl ?_
      refine G_bipush C (v := 15) dL_isDone_973 (by decide) ?_
      refine G_iload C (x := v5) 4 dL_isDone_975 rfl ?_
      refine G_iload C (x := v9) 6 dL_isDone_977 rfl ?_
      refine G_iload C (x := v6) 5 dL_isDone_979 rfl ?_
      refine G_bipush C (v := 40) dL_isDone_981 (by decide) ?_
      refine G_idiv C dL_isDone_983 (by decide) ?_
      refine G_bipush C (v := 101) dL_isDone_984 (by decide) ?_
      refine G_irem C dL_isDone_986 (by decide) ?_
      refine G_iconst C (v := 0) dL_isDone_987 (by decide) ?_
      refine G_iconst C (v := 0) dL_isDone_988 (by decide) ?_
      obtain ⟨m64, m65, hc66, hs67, h⟩ := h
      refine G_callSWi C hZ tw_2_35 tw_2_36 tw_1_0 tw_2_37 hy_L_act ⟨Nat.le_of_ble_eq_true rfl, Nat.le_of_ble_eq_true rfl⟩ (As := [va_rf x0, Value.int 15, Value.int v5, Value.int v9, Value.int ((v6 / 40) - (v6 / 40) / 101 * 101), Value.int 0, Value.int 0]) (rest := []) (c_L_act l hl D cy e0 m0 he hm x0 15 v5 v9 ((v6 / 40) - (v6 / 40) / 101 * 101) 0 0 (ov S56 M49) m64 m65 _ h) rfl rfl (by simp [va_cat, vi_cat, vl_cat]) dL_isDone_989 ⟨hc66, hs67⟩ (fun r63 S62 h => ?_)
      refine G_istore C (i := 12) (lv' := [(12, Value.int r63), (11, Value.int r57), (10, Value.int s0), (0, va_rf x0), (2, va_rf x2), (5, Value.int v5), (6, Value.int v6), (9, Value.int v9)]) dL_isDone_992 (by decide) (by first | rfl | simp [va_cat, vi_cat, vl_cat]) ?_
      refine G_iload C (x := s0) 2 dL_isDone_994 rfl ?_
      refine G_if_eq C (tgt := 1051) dL_isDone_996 (by decide) (fun hc => ?_) (fun hc => ?_)
      · have h := h.1 hc
        refine G_iload C (x := r63) 0 dL_isDone_1051 rfl ?_
        refine G_ldc C (v := (-1713000)) (im tw_4_176) dL_isDone_1053 ?_
        refine G_icmp_ne C (tgt := 1062) dL_isDone_1055 (by decide) (fun hc => ?_) (fun hc => ?_)
        · have h := h.1 hc
          refine G_iconst C (v := 0) dL_isDone_1062 (by decide) ?_
          refine G_lv C (lv' := []) [] rfl ?_
          exact J1063 _ _ _ _ h
        · have h := h.2 hc
          refine G_iconst C (v := 1) dL_isDone_1058 (by decide) ?_
          refine G_goto C (tgt := 1063) dL_isDone_1059 (by decide) ?_
          refine G_lv C (lv' := []) [] rfl ?_
          exact J1063 _ _ _ _ h
      · have h := h.2 hc
        refine G_iload C (x := r63) 0 dL_isDone_999 rfl ?_
        refine G_iload C (x := r57) 1 dL_isDone_1001 rfl ?_
        refine G_iconst C (v := 1) dL_isDone_1003 (by decide) ?_
        refine G_iadd C dL_isDone_1004 ?_
        refine G_icmp_ne C (tgt := 1047) dL_isDone_1005 (by decide) (fun hc => ?_) (fun hc => ?_)
        · have h := h.1 hc
          refine G_lv C (lv' := []) [] rfl ?_
          exact J1047 _ _ _ h
        · have h := h.2 hc
          refine G_aload_n C (x := x0) 3 dL_isDone_1008 rfl rfl ?_
          refine G_aload_n C (x := x2) 4 dL_isDone_1009 rfl rfl ?_
          refine G_iconst C (v := 4) dL_isDone_1010 (by decide) ?_
          refine G_iload C (x := v5) 5 dL_isDone_1011 rfl ?_
          refine G_imul C dL_isDone_1013 ?_
          refine G_rf1 ha45 ?_
          obtain ⟨hk68, h⟩ := h
          obtain ⟨hi69, h⟩ := h
          refine G_iald C hk68 hi69 dL_isDone_1014 ?_
          refine G_iload C (x := v9) 7 dL_isDone_1015 rfl ?_
          refine G_iconst C (v := 2) dL_isDone_1017 (by decide) ?_
          obtain ⟨S70, M71, hv72, hd73, h⟩ := h
          obtain ⟨hk75, h⟩ := h
          obtain ⟨m78, m79, hc80, hs81, h⟩ := h
          refine G_fxcalli C hZ hv72 hd73 (Tf := TX8) (N := 10) hk75 (by decide) rfl tw_2_5 tw_2_6 tw_2_7 tw_1_1 tw_2_8 hy_X8_metre ⟨Nat.le_of_ble_eq_true rfl, Nat.le_of_ble_eq_true rfl⟩ (As := [Value.int (gA S62 a44 (((4 * v5)).toNatClampNeg)), Value.int v9, Value.int 2]) (rest := []) (c_X8_metre l hl  D cy a53 (gA S62 a44 (((4 * v5)).toNatClampNeg)) v9 2 S70 m78 m79 _ _ h) rfl (by first | rfl | (simp only [ha54]; rfl) | simp only [ha54]) (by simp [va_cat, vi_cat, vl_cat]) dL_isDone_1018 ⟨hc80, hs81⟩ (fun E S76 hd74 h => ?_) (fun r77 S76 hd74 h => ?_)
          · exact (h hd74).elim
          · replace h := h hd74
            refine G_iconst C (v := (-1)) dL_isDone_1021 (by decide) ?_
            refine G_icmp_ne C (tgt := 1047) dL_isDone_1022 (by decide) (fun hc => ?_) (fun hc => ?_)
            · have h := h.1 hc
              refine G_lv C (lv' := []) [] rfl ?_
              exact J1047 _ _ _ h
            · have h := h.2 hc
              refine G_aload_n C (x := x0) 3 dL_isDone_1025 rfl rfl ?_
              refine G_aload_n C (x := x2) 4 dL_isDone_1026 rfl rfl ?_
              refine G_iconst C (v := 4) dL_isDone_1027 (by decide) ?_
              refine G_iload C (x := v5) 5 dL_isDone_1028 rfl ?_
              refine G_imul C dL_isDone_1030 ?_
              refine G_rf1 ha45 ?_
              obtain ⟨hk82, h⟩ := h
              obtain ⟨hi83, h⟩ := h
              refine G_iald C hk82 hi83 dL_isDone_1031 ?_
              refine G_iload C (x := v9) 7 dL_isDone_1032 rfl ?_
              refine G_iconst C (v := 3) dL_isDone_1034 (by decide) ?_
              obtain ⟨S84, M85, hv86, hd87, h⟩ := h
              obtain ⟨hk89, h⟩ := h
              obtain ⟨m92, m93, hc94, hs95, h⟩ := h
              refine G_fxcalli C hZ hv86 hd87 (Tf := TX8) (N := 10) hk89 (by decide) rfl tw_2_5 tw_2_6 tw_2_7 tw_1_1 tw_2_8 hy_X8_metre ⟨Nat.le_of_ble_eq_true rfl, Nat.le_of_ble_eq_true rfl⟩ (As := [Value.int (gA (ov S76 M71) a44 (((4 * v5)).toNatClampNeg)), Value.int v9, Value.int 3]) (rest := []) (c_X8_metre l hl  D cy a53 (gA (ov S76 M71) a44 (((4 * v5)).toNatClampNeg)) v9 3 S84 m92 m93 _ _ h) rfl (by first | rfl | (simp only [ha54]; rfl) | simp only [ha54]) (by simp [va_cat, vi_cat, vl_cat]) dL_isDone_1035 ⟨hc94, hs95⟩ (fun E S90 hd88 h => ?_) (fun r91 S90 hd88 h => ?_)
              · exact (h hd88).elim
              · replace h := h hd88
                refine G_iload C (x := r63) 0 dL_isDone_1038 rfl ?_
                refine G_icmp_ne C (tgt := 1047) dL_isDone_1040 (by decide) (fun hc => ?_) (fun hc => ?_)
                · have h := h.1 hc
                  refine G_lv C (lv' := []) [] rfl ?_
                  exact J1047 _ _ _ h
                · have h := h.2 hc
                  refine G_iconst C (v := 1) dL_isDone_1043 (by decide) ?_
                  refine G_goto C (tgt := 1063) dL_isDone_1044 (by decide) ?_
                  refine G_lv C (lv' := []) [] rfl ?_
                  exact J1063 _ _ _ _ h
  have J925 : ∀ (c0 n0 : Nat) (S : PT) (s0 : Int32), w_L_isDone_b925 e0 m0 x0 x1 x2 x3 x4 mc ms post c0 n0 S s0 → G p l e { frames := 10, cells := mc, slots := ms, locals := 244 } s m [va_rf x0, va_rf x1, va_rf x2, Value.int x3, Value.int x4].toArray below meth c D cy A s.heap 17 (QMi below D cy A [va_rf x0, va_rf x1, va_rf x2, Value.int x3, Value.int x4] s mc ms (fun r S => bo r ∧ post r S)) S c0 n0 925 [] [Value.int s0] := by
    intro c0 n0 S s0 h
    unfold w_L_isDone_b925 at h
    obtain ⟨hc00, hn00, h⟩ := h
    obtain ⟨hb96, h⟩ := h
    exact G_zret C (mc := mc) (ms := ms) (post := (fun r S => bo r ∧ post r S)) (bo_nar hb96) hr hc00 hn00 dL_isDone_925 ⟨hb96, h⟩
  have J924 : ∀ (c0 n0 : Nat) (S : PT), w_L_isDone_b924 e0 m0 x0 x1 x2 x3 x4 mc ms post c0 n0 S → G p l e { frames := 10, cells := mc, slots := ms, locals := 244 } s m [va_rf x0, va_rf x1, va_rf x2, Value.int x3, Value.int x4].toArray below meth c D cy A s.heap 17 (QMi below D cy A [va_rf x0, va_rf x1, va_rf x2, Value.int x3, Value.int x4] s mc ms (fun r S => bo r ∧ post r S)) S c0 n0 924 [] [] := by
    intro c0 n0 S h
    unfold w_L_isDone_b924 at h
    obtain ⟨hc00, hn00, h⟩ := h
    refine G_iconst C (v := 0) dL_isDone_924 (by decide) ?_
    refine G_lv C (lv' := []) [] rfl ?_
    exact J925 _ _ _ _ h
  have J842 : ∀ (c0 n0 : Nat) (S : PT) (v5 : Int32) (v8 : Int32) (v9 : Int32) (v10 : Int32) (v11 : Int32) (v14 : Int64) (v16 : Int32), w_L_isDone_b842 e0 m0 x0 x1 x2 x3 x4 mc ms post c0 n0 S v5 v8 v9 v10 v11 v14 v16 → G p l e { frames := 10, cells := mc, slots := ms, locals := 244 } s m [va_rf x0, va_rf x1, va_rf x2, Value.int x3, Value.int x4].toArray below meth c D cy A s.heap 17 (QMi below D cy A [va_rf x0, va_rf x1, va_rf x2, Value.int x3, Value.int x4] s mc ms (fun r S => bo r ∧ post r S)) S c0 n0 842 [(0, va_rf x0), (2, va_rf x2), (5, Value.int v5), (8, Value.int v8), (9, Value.int v9), (10, Value.int v10), (11, Value.int v11), (14, Value.long v14), (16, Value.int v16)] [] := by
    intro c0 n0 S v5 v8 v9 v10 v11 v14 v16 h
    unfold w_L_isDone_b842 at h
    obtain ⟨hc00, hn00, h⟩ := h
    refine G_aload_n C (x := x0) 0 dL_isDone_842 rfl rfl ?_
    refine G_iload C (x := v5) 2 dL_isDone_843 rfl ?_
    refine G_iconst C (v := 4) dL_isDone_845 (by decide) ?_
    obtain ⟨S97, M98, hv99, hd100, h⟩ := h
    obtain ⟨a102, ha103, h⟩ := h
    obtain ⟨hk104, h⟩ := h
    obtain ⟨m107, m108, hc109, hs110, h⟩ := h
    refine G_fxcalli C hZ hv99 hd100 (Tf := TX8) (N := 10) hk104 (by decide) rfl tw_4_147 tw_4_148 tw_4_149 tw_1_1 tw_4_150 hy_X8_of ⟨Nat.le_of_ble_eq_true rfl, Nat.le_of_ble_eq_true rfl⟩ (As := [Value.int v5, Value.int 4]) (rest := []) (c_X8_of l hl  D cy a102 v5 4 S97 m107 m108 _ _ h) rfl (by first | rfl | (simp only [ha103]; rfl) | simp only [ha103]) (by simp [va_cat, vi_cat, vl_cat]) dL_isDone_846 ⟨hc109, hs110⟩ (fun E S105 hd101 h => ?_) (fun r106 S105 hd101 h => ?_)
    · exact (h hd101).elim
    · replace h := h hd101
      refine G_iload C (x := v10) 5 dL_isDone_849 rfl ?_
      refine G_iload C (x := v16) 8 dL_isDone_851 rfl ?_
      refine G_iadd C dL_isDone_853 ?_
      refine G_icmp_ne C (tgt := 924) dL_isDone_854 (by decide) (fun hc => ?_) (fun hc => ?_)
      · have h := h.1 hc
        refine G_lv C (lv' := []) [] rfl ?_
        exact J924 _ _ _ h
      · have h := h.2 hc
        refine G_aload_n C (x := x0) 0 dL_isDone_857 rfl rfl ?_
        refine G_iload C (x := v5) 2 dL_isDone_858 rfl ?_
        refine G_iconst C (v := 5) dL_isDone_860 (by decide) ?_
        obtain ⟨S111, M112, hv113, hd114, h⟩ := h
        obtain ⟨hk116, h⟩ := h
        obtain ⟨m119, m120, hc121, hs122, h⟩ := h
        refine G_fxcalli C hZ hv113 hd114 (Tf := TX8) (N := 10) hk116 (by decide) rfl tw_4_147 tw_4_148 tw_4_149 tw_1_1 tw_4_150 hy_X8_of ⟨Nat.le_of_ble_eq_true rfl, Nat.le_of_ble_eq_true rfl⟩ (As := [Value.int v5, Value.int 5]) (rest := []) (c_X8_of l hl  D cy a102 v5 5 S111 m119 m120 _ _ h) rfl (by first | rfl | (simp only [ha103]; rfl) | simp only [ha103]) (by simp [va_cat, vi_cat, vl_cat]) dL_isDone_861 ⟨hc121, hs122⟩ (fun E S117 hd115 h => ?_) (fun r118 S117 hd115 h => ?_)
        · exact (h hd115).elim
        · replace h := h hd115
          refine G_iload C (x := v11) 6 dL_isDone_864 rfl ?_
          refine G_iconst C (v := 1) dL_isDone_866 (by decide) ?_
          refine G_iadd C dL_isDone_867 ?_
          refine G_icmp_ne C (tgt := 924) dL_isDone_868 (by decide) (fun hc => ?_) (fun hc => ?_)
          · have h := h.1 hc
            refine G_lv C (lv' := []) [] rfl ?_
            exact J924 _ _ _ h
          · have h := h.2 hc
            refine G_aload_n C (x := x0) 0 dL_isDone_871 rfl rfl ?_
            refine G_aload_n C (x := x2) 1 dL_isDone_872 rfl rfl ?_
            refine G_iconst C (v := 4) dL_isDone_873 (by decide) ?_
            refine G_iload C (x := v5) 2 dL_isDone_874 rfl ?_
            refine G_imul C dL_isDone_876 ?_
            obtain ⟨a123, ha124, h⟩ := h
            refine G_rf1 ha124 ?_
            obtain ⟨hk125, h⟩ := h
            obtain ⟨hi126, h⟩ := h
            refine G_iald C hk125 hi126 dL_isDone_877 ?_
            refine G_iload C (x := v9) 4 dL_isDone_878 rfl ?_
            refine G_iconst C (v := 1) dL_isDone_880 (by decide) ?_
            obtain ⟨S127, M128, hv129, hd130, h⟩ := h
            obtain ⟨hk132, h⟩ := h
            obtain ⟨m135, m136, hc137, hs138, h⟩ := h
            refine G_fxcalli C hZ hv129 hd130 (Tf := TX8) (N := 10) hk132 (by decide) rfl tw_2_5 tw_2_6 tw_2_7 tw_1_1 tw_2_8 hy_X8_metre ⟨Nat.le_of_ble_eq_true rfl, Nat.le_of_ble_eq_true rfl⟩ (As := [Value.int (gA (ov S117 M112) a123 (((4 * v5)).toNatClampNeg)), Value.int v9, Value.int 1]) (rest := []) (c_X8_metre l hl  D cy a102 (gA (ov S117 M112) a123 (((4 * v5)).toNatClampNeg)) v9 1 S127 m135 m136 _ _ h) rfl (by first | rfl | (simp only [ha103]; rfl) | simp only [ha103]) (by simp [va_cat, vi_cat, vl_cat]) dL_isDone_881 ⟨hc137, hs138⟩ (fun E S133 hd131 h => ?_) (fun r134 S133 hd131 h => ?_)
            · exact (h hd131).elim
            · replace h := h hd131
              refine G_iconst C (v := 1) dL_isDone_884 (by decide) ?_
              refine G_icmp_ne C (tgt := 924) dL_isDone_885 (by decide) (fun hc => ?_) (fun hc => ?_)
              · have h := h.1 hc
                refine G_lv C (lv' := []) [] rfl ?_
                exact J924 _ _ _ h
              · have h := h.2 hc
                refine G_aload_n C (x := x0) 0 dL_isDone_888 rfl rfl ?_
                refine G_iload C (x := v8) 3 dL_isDone_889 rfl ?_
                obtain ⟨S139, M140, hv141, hd142, h⟩ := h
                obtain ⟨hk144, h⟩ := h
                obtain ⟨m147, m148, hc149, hs150, h⟩ := h
                refine G_fxcalll C hZ hv141 hd142 (Tf := TX8) (N := 10) hk144 (by decide) rfl tw_2_21 tw_2_22 tw_2_23 tw_1_1 tw_2_24 hy_X8_money ⟨Nat.le_of_ble_eq_true rfl, Nat.le_of_ble_eq_true rfl⟩ (As := [Value.int v8]) (rest := []) (c_X8_money l hl  D cy a102 v8 S139 m147 m148 _ _ h) rfl (by first | rfl | (simp only [ha103]; rfl) | simp only [ha103]) (by simp [va_cat, vi_cat, vl_cat]) dL_isDone_891 ⟨hc149, hs150⟩ (fun E S145 hd143 h => ?_) (fun r146 S145 hd143 h => ?_)
                · exact (h hd143).elim
                · replace h := h hd143
                  refine G_lload C (x := v14) 7 dL_isDone_894 rfl ?_
                  refine G_lcmp C dL_isDone_896 ?_
                  refine G_if_gt C (tgt := 924) dL_isDone_897 (by decide) (fun hc => ?_) (fun hc => ?_)
                  · have h := h.1 hc
                    refine G_lv C (lv' := []) [] rfl ?_
                    exact J924 _ _ _ h
                  · have h := h.2 hc
                    refine G_aload_n C (x := x0) 0 dL_isDone_900 rfl rfl ?_
                    refine G_iload C (x := v8) 3 dL_isDone_901 rfl ?_
                    obtain ⟨S151, M152, hv153, hd154, h⟩ := h
                    obtain ⟨hk156, h⟩ := h
                    obtain ⟨m159, m160, hc161, hs162, h⟩ := h
                    refine G_fxcalll C hZ hv153 hd154 (Tf := TX8) (N := 10) hk156 (by decide) rfl tw_2_21 tw_2_22 tw_2_23 tw_1_1 tw_2_24 hy_X8_money ⟨Nat.le_of_ble_eq_true rfl, Nat.le_of_ble_eq_true rfl⟩ (As := [Value.int v8]) (rest := []) (c_X8_money l hl  D cy a102 v8 S151 m159 m160 _ _ h) rfl (by first | rfl | (simp only [ha103]; rfl) | simp only [ha103]) (by simp [va_cat, vi_cat, vl_cat]) dL_isDone_903 ⟨hc161, hs162⟩ (fun E S157 hd155 h => ?_) (fun r158 S157 hd155 h => ?_)
                    · exact (h hd155).elim
                    · replace h := h hd155
                      refine G_lload C (x := v14) 7 dL_isDone_906 rfl ?_
                      refine G_ldc2 C (v := 1000) (im tw_5_59) dL_isDone_908 ?_
                      refine G_iload C (x := v16) 8 dL_isDone_911 rfl ?_
                      refine G_i2l C dL_isDone_913 ?_
                      refine G_lmul C dL_isDone_914 ?_
                      refine G_lsub C dL_isDone_915 ?_
                      refine G_lcmp C dL_isDone_916 ?_
                      refine G_if_lt C (tgt := 924) dL_isDone_917 (by decide) (fun hc => ?_) (fun hc => ?_)
                      · have h := h.1 hc
                        refine G_lv C (lv' := []) [] rfl ?_
                        exact J924 _ _ _ h
                      · have h := h.2 hc
                        refine G_iconst C (v := 1) dL_isDone_920 (by decide) ?_
                        refine G_goto C (tgt := 925) dL_isDone_921 (by decide) ?_
                        refine G_lv C (lv' := []) [] rfl ?_
                        exact J925 _ _ _ _ h
  have J832 : ∀ (c0 n0 : Nat) (S : PT) (v5 : Int32) (v8 : Int32) (v9 : Int32) (v10 : Int32) (v11 : Int32) (v12 : Int32) (v13 : Int32) (v14 : Int64) (v16 : Int32), w_L_isDone_b832 e0 m0 x0 x1 x2 x3 x4 mc ms post c0 n0 S v5 v8 v9 v10 v11 v12 v13 v14 v16 → G p l e { frames := 10, cells := mc, slots := ms, locals := 244 } s m [va_rf x0, va_rf x1, va_rf x2, Value.int x3, Value.int x4].toArray below meth c D cy A s.heap 17 (QMi below D cy A [va_rf x0, va_rf x1, va_rf x2, Value.int x3, Value.int x4] s mc ms (fun r S => bo r ∧ post r S)) S c0 n0 832 [(0, va_rf x0), (2, va_rf x2), (5, Value.int v5), (8, Value.int v8), (9, Value.int v9), (10, Value.int v10), (11, Value.int v11), (12, Value.int v12), (13, Value.int v13), (14, Value.long v14), (16, Value.int v16)] [] := by
    intro c0 n0 S v5 v8 v9 v10 v11 v12 v13 v14 v16 h
    unfold w_L_isDone_b832 at h
    obtain ⟨hc00, hn00, h⟩ := h
    refine G_iload C (x := v12) 7 dL_isDone_832 rfl ?_
    refine G_if_ne C (tgt := 842) dL_isDone_834 (by decide) (fun hc => ?_) (fun hc => ?_)
    · have h := h.1 hc
      refine G_lv C (lv' := [(0, va_rf x0), (2, va_rf x2), (5, Value.int v5), (8, Value.int v8), (9, Value.int v9), (10, Value.int v10), (11, Value.int v11), (14, Value.long v14), (16, Value.int v16)]) [0, 1, 2, 3, 4, 5, 6, 9, 10] rfl ?_
      exact J842 _ _ _ _ _ _ _ _ _ _ h
    · have h := h.2 hc
      refine G_iload C (x := v13) 8 dL_isDone_837 rfl ?_
      refine G_if_ne C (tgt := 924) dL_isDone_839 (by decide) (fun hc => ?_) (fun hc => ?_)
      · have h := h.1 hc
        refine G_lv C (lv' := []) [] rfl ?_
        exact J924 _ _ _ h
      · have h := h.2 hc
        refine G_lv C (lv' := [(0, va_rf x0), (2, va_rf x2), (5, Value.int v5), (8, Value.int v8), (9, Value.int v9), (10, Value.int v10), (11, Value.int v11), (14, Value.long v14), (16, Value.int v16)]) [0, 1, 2, 3, 4, 5, 6, 9, 10] rfl ?_
        exact J842 _ _ _ _ _ _ _ _ _ _ h
  have J807 : ∀ (c0 n0 : Nat) (S : PT), w_L_isDone_b807 e0 m0 x0 x1 x2 x3 x4 mc ms post c0 n0 S → G p l e { frames := 10, cells := mc, slots := ms, locals := 244 } s m [va_rf x0, va_rf x1, va_rf x2, Value.int x3, Value.int x4].toArray below meth c D cy A s.heap 17 (QMi below D cy A [va_rf x0, va_rf x1, va_rf x2, Value.int x3, Value.int x4] s mc ms (fun r S => bo r ∧ post r S)) S c0 n0 807 [] [] := by
    intro c0 n0 S h
    unfold w_L_isDone_b807 at h
    obtain ⟨hc00, hn00, h⟩ := h
    refine G_iconst C (v := 0) dL_isDone_807 (by decide) ?_
    refine G_goto C (tgt := 925) dL_isDone_808 (by decide) ?_
    refine G_lv C (lv' := []) [] rfl ?_
    exact J925 _ _ _ _ h
  have J747 : ∀ (c0 n0 : Nat) (S : PT) (v5 : Int32) (v7 : Int32) (v8 : Int32) (v9 : Int32) (v10 : Int32) (v11 : Int32) (v12 : Int32) (s0 : Int32), w_L_isDone_b747 e0 m0 x0 x1 x2 x3 x4 mc ms post c0 n0 S v5 v7 v8 v9 v10 v11 v12 s0 → G p l e { frames := 10, cells := mc, slots := ms, locals := 244 } s m [va_rf x0, va_rf x1, va_rf x2, Value.int x3, Value.int x4].toArray below meth c D cy A s.heap 17 (QMi below D cy A [va_rf x0, va_rf x1, va_rf x2, Value.int x3, Value.int x4] s mc ms (fun r S => bo r ∧ post r S)) S c0 n0 747 [(0, va_rf x0), (2, va_rf x2), (5, Value.int v5), (7, Value.int v7), (8, Value.int v8), (9, Value.int v9), (10, Value.int v10), (11, Value.int v11), (12, Value.int v12)] [Value.int s0] := by
    intro c0 n0 S v5 v7 v8 v9 v10 v11 v12 s0 h
    unfold w_L_isDone_b747 at h
    obtain ⟨hc00, hn00, h⟩ := h
    refine G_istore C (i := 13) (lv' := [(13, Value.int s0), (0, va_rf x0), (2, va_rf x2), (5, Value.int v5), (7, Value.int v7), (8, Value.int v8), (9, Value.int v9), (10, Value.int v10), (11, Value.int v11), (12, Value.int v12)]) dL_isDone_747 (by decide) (by first | rfl | simp [va_cat, vi_cat, vl_cat]) ?_
    refine G_aload_n C (x := x0) 1 dL_isDone_749 rfl rfl ?_
    refine G_iload C (x := v8) 5 dL_isDone_750 rfl ?_
    obtain ⟨S163, M164, hv165, hd166, h⟩ := h
    obtain ⟨a168, ha169, h⟩ := h
    obtain ⟨hk170, h⟩ := h
    obtain ⟨m173, m174, hc175, hs176, h⟩ := h
    refine G_fxcalll C hZ hv165 hd166 (Tf := TX8) (N := 10) hk170 (by decide) rfl tw_2_21 tw_2_22 tw_2_23 tw_1_1 tw_2_24 hy_X8_money ⟨Nat.le_of_ble_eq_true rfl, Nat.le_of_ble_eq_true rfl⟩ (As := [Value.int v8]) (rest := []) (c_X8_money l hl  D cy a168 v8 S163 m173 m174 _ _ h) rfl (by first | rfl | (simp only [ha169]; rfl) | simp only [ha169]) (by simp [va_cat, vi_cat, vl_cat]) dL_isDone_752 ⟨hc175, hs176⟩ (fun E S171 hd167 h => ?_) (fun r172 S171 hd167 h => ?_)
    · exact (h hd167).elim
    · replace h := h hd167
      refine G_lstore C (i := 14) (lv' := [(14, Value.long r172), (13, Value.int s0), (0, va_rf x0), (2, va_rf x2), (5, Value.int v5), (7, Value.int v7), (8, Value.int v8), (9, Value.int v9), (10, Value.int v10), (11, Value.int v11), (12, Value.int v12)]) dL_isDone_755 (by decide) (by first | rfl | simp [va_cat, vi_cat, vl_cat]) ?_
      refine G_aload_n C (x := x0) 2 dL_isDone_757 rfl rfl ?_
      refine G_bipush C (v := 14) dL_isDone_758 (by decide) ?_
      refine G_iload C (x := v5) 4 dL_isDone_760 rfl ?_
      refine G_iload C (x := v9) 7 dL_isDone_762 rfl ?_
      refine G_iconst C (v := 0) dL_isDone_764 (by decide) ?_
      refine G_iconst C (v := 0) dL_isDone_765 (by decide) ?_
      refine G_iconst C (v := 0) dL_isDone_766 (by decide) ?_
      obtain ⟨m179, m180, hc181, hs182, h⟩ := h
      refine G_callSWi C hZ tw_2_35 tw_2_36 tw_1_0 tw_2_37 hy_L_act ⟨Nat.le_of_ble_eq_true rfl, Nat.le_of_ble_eq_true rfl⟩ (As := [va_rf x0, Value.int 14, Value.int v5, Value.int v9, Value.int 0, Value.int 0, Value.int 0]) (rest := []) (c_L_act l hl D cy e0 m0 he hm x0 14 v5 v9 0 0 0 (ov S171 M164) m179 m180 _ h) rfl rfl (by simp [va_cat, vi_cat, vl_cat]) dL_isDone_767 ⟨hc181, hs182⟩ (fun r178 S177 h => ?_)
      refine G_istore C (i := 16) (lv' := [(16, Value.int r178), (14, Value.long r172), (13, Value.int s0), (0, va_rf x0), (2, va_rf x2), (5, Value.int v5), (7, Value.int v7), (8, Value.int v8), (9, Value.int v9), (10, Value.int v10), (11, Value.int v11), (12, Value.int v12)]) dL_isDone_770 (by decide) (by first | rfl | simp [va_cat, vi_cat, vl_cat]) ?_
      refine G_iload C (x := r178) 0 dL_isDone_772 rfl ?_
      refine G_ldc C (v := (-1713000)) (im tw_4_176) dL_isDone_774 ?_
      refine G_icmp_ne C (tgt := 811) dL_isDone_776 (by decide) (fun hc => ?_) (fun hc => ?_)
      · have h := h.1 hc
        refine G_iload C (x := v7) 6 dL_isDone_811 rfl ?_
        refine G_iconst C (v := 3) dL_isDone_813 (by decide) ?_
        refine G_icmp_ne C (tgt := 924) dL_isDone_814 (by decide) (fun hc => ?_) (fun hc => ?_)
        · have h := h.1 hc
          refine G_lv C (lv' := []) [] rfl ?_
          exact J924 _ _ _ h
        · have h := h.2 hc
          refine G_iload C (x := r178) 0 dL_isDone_817 rfl ?_
          refine G_if_lt C (tgt := 924) dL_isDone_819 (by decide) (fun hc => ?_) (fun hc => ?_)
          · have h := h.1 hc
            refine G_lv C (lv' := []) [] rfl ?_
            exact J924 _ _ _ h
          · have h := h.2 hc
            refine G_iload C (x := v12) 11 dL_isDone_822 rfl ?_
            refine G_if_eq C (tgt := 832) dL_isDone_824 (by decide) (fun hc => ?_) (fun hc => ?_)
            · have h := h.1 hc
              refine G_lv C (lv' := [(0, va_rf x0), (2, va_rf x2), (5, Value.int v5), (8, Value.int v8), (9, Value.int v9), (10, Value.int v10), (11, Value.int v11), (12, Value.int v12), (13, Value.int s0), (14, Value.long r172), (16, Value.int r178)]) [3, 4, 5, 7, 8, 9, 10, 11, 2, 1, 0] rfl ?_
              exact J832 _ _ _ _ _ _ _ _ _ _ _ _ h
            · have h := h.2 hc
              refine G_iload C (x := r178) 0 dL_isDone_827 rfl ?_
              refine G_if_ne C (tgt := 924) dL_isDone_829 (by decide) (fun hc => ?_) (fun hc => ?_)
              · have h := h.1 hc
                refine G_lv C (lv' := []) [] rfl ?_
                exact J924 _ _ _ h
              · have h := h.2 hc
                refine G_lv C (lv' := [(0, va_rf x0), (2, va_rf x2), (5, Value.int v5), (8, Value.int v8), (9, Value.int v9), (10, Value.int v10), (11, Value.int v11), (12, Value.int v12), (13, Value.int s0), (14, Value.long r172), (16, Value.int r178)]) [3, 4, 5, 7, 8, 9, 10, 11, 2, 1, 0] rfl ?_
                exact J832 _ _ _ _ _ _ _ _ _ _ _ _ h
      · have h := h.2 hc
        refine G_aload_n C (x := x0) 3 dL_isDone_779 rfl rfl ?_
        refine G_iload C (x := v5) 5 dL_isDone_780 rfl ?_
        refine G_iconst C (v := 5) dL_isDone_782 (by decide) ?_
        obtain ⟨S183, M184, hv185, hd186, h⟩ := h
        obtain ⟨hk188, h⟩ := h
        obtain ⟨m191, m192, hc193, hs194, h⟩ := h
        refine G_fxcalli C hZ hv185 hd186 (Tf := TX8) (N := 10) hk188 (by decide) rfl tw_4_147 tw_4_148 tw_4_149 tw_1_1 tw_4_150 hy_X8_of ⟨Nat.le_of_ble_eq_true rfl, Nat.le_of_ble_eq_true rfl⟩ (As := [Value.int v5, Value.int 5]) (rest := []) (c_X8_of l hl  D cy a168 v5 5 S183 m191 m192 _ _ h) rfl (by first | rfl | (simp only [ha169]; rfl) | simp only [ha169]) (by simp [va_cat, vi_cat, vl_cat]) dL_isDone_783 ⟨hc193, hs194⟩ (fun E S189 hd187 h => ?_) (fun r190 S189 hd187 h => ?_)
        · exact (h hd187).elim
        · replace h := h hd187
          refine G_iload C (x := v11) 10 dL_isDone_786 rfl ?_
          refine G_icmp_ne C (tgt := 807) dL_isDone_788 (by decide) (fun hc => ?_) (fun hc => ?_)
          · have h := h.1 hc
            refine G_lv C (lv' := []) [] rfl ?_
            exact J807 _ _ _ h
          · have h := h.2 hc
            refine G_aload_n C (x := x0) 3 dL_isDone_791 rfl rfl ?_
            refine G_iload C (x := v5) 5 dL_isDone_792 rfl ?_
            refine G_iconst C (v := 4) dL_isDone_794 (by decide) ?_
            obtain ⟨S195, M196, hv197, hd198, h⟩ := h
            obtain ⟨hk200, h⟩ := h
            obtain ⟨m203, m204, hc205, hs206, h⟩ := h
            refine G_fxcalli C hZ hv197 hd198 (Tf := TX8) (N := 10) hk200 (by decide) rfl tw_4_147 tw_4_148 tw_4_149 tw_1_1 tw_4_150 hy_X8_of ⟨Nat.le_of_ble_eq_true rfl, Nat.le_of_ble_eq_true rfl⟩ (As := [Value.int v5, Value.int 4]) (rest := []) (c_X8_of l hl  D cy a168 v5 4 S195 m203 m204 _ _ h) rfl (by first | rfl | (simp only [ha169]; rfl) | simp only [ha169]) (by simp [va_cat, vi_cat, vl_cat]) dL_isDone_795 ⟨hc205, hs206⟩ (fun E S201 hd199 h => ?_) (fun r202 S201 hd199 h => ?_)
            · exact (h hd199).elim
            · replace h := h hd199
              refine G_iload C (x := v10) 9 dL_isDone_798 rfl ?_
              refine G_icmp_ne C (tgt := 807) dL_isDone_800 (by decide) (fun hc => ?_) (fun hc => ?_)
              · have h := h.1 hc
                refine G_lv C (lv' := []) [] rfl ?_
                exact J807 _ _ _ h
              · have h := h.2 hc
                refine G_iconst C (v := 1) dL_isDone_803 (by decide) ?_
                refine G_goto C (tgt := 925) dL_isDone_804 (by decide) ?_
                refine G_lv C (lv' := []) [] rfl ?_
                exact J925 _ _ _ _ h
  have J723 : ∀ (c0 n0 : Nat) (S : PT) (v5 : Int32) (v7 : Int32) (v8 : Int32) (v9 : Int32) (v10 : Int32) (v11 : Int32) (s0 : Int32), w_L_isDone_b723 e0 m0 x0 x1 x2 x3 x4 mc ms post c0 n0 S v5 v7 v8 v9 v10 v11 s0 → G p l e { frames := 10, cells := mc, slots := ms, locals := 244 } s m [va_rf x0, va_rf x1, va_rf x2, Value.int x3, Value.int x4].toArray below meth c D cy A s.heap 17 (QMi below D cy A [va_rf x0, va_rf x1, va_rf x2, Value.int x3, Value.int x4] s mc ms (fun r S => bo r ∧ post r S)) S c0 n0 723 [(0, va_rf x0), (2, va_rf x2), (5, Value.int v5), (7, Value.int v7), (8, Value.int v8), (9, Value.int v9), (10, Value.int v10), (11, Value.int v11)] [Value.int s0] := by
    intro c0 n0 S v5 v7 v8 v9 v10 v11 s0 h
    unfold w_L_isDone_b723 at h
    obtain ⟨hc00, hn00, h⟩ := h
    refine G_istore C (i := 12) (lv' := [(12, Value.int s0), (0, va_rf x0), (2, va_rf x2), (5, Value.int v5), (7, Value.int v7), (8, Value.int v8), (9, Value.int v9), (10, Value.int v10), (11, Value.int v11)]) dL_isDone_723 (by decide) (by first | rfl | simp [va_cat, vi_cat, vl_cat]) ?_
    refine G_aload_n C (x := x0) 1 dL_isDone_725 rfl rfl ?_
    refine G_aload_n C (x := x2) 2 dL_isDone_726 rfl rfl ?_
    refine G_iconst C (v := 4) dL_isDone_727 (by decide) ?_
    refine G_iload C (x := v5) 3 dL_isDone_728 rfl ?_
    refine G_imul C dL_isDone_730 ?_
    obtain ⟨a207, ha208, h⟩ := h
    refine G_rf1 ha208 ?_
    obtain ⟨hk209, h⟩ := h
    obtain ⟨hi210, h⟩ := h
    refine G_iald C hk209 hi210 dL_isDone_731 ?_
    refine G_iload C (x := v9) 6 dL_isDone_732 rfl ?_
    refine G_iconst C (v := 0) dL_isDone_734 (by decide) ?_
    obtain ⟨S211, M212, hv213, hd214, h⟩ := h
    obtain ⟨a216, ha217, h⟩ := h
    obtain ⟨hk218, h⟩ := h
    obtain ⟨m221, m222, hc223, hs224, h⟩ := h
    refine G_fxcalli C hZ hv213 hd214 (Tf := TX8) (N := 10) hk218 (by decide) rfl tw_2_5 tw_2_6 tw_2_7 tw_1_1 tw_2_8 hy_X8_metre ⟨Nat.le_of_ble_eq_true rfl, Nat.le_of_ble_eq_true rfl⟩ (As := [Value.int (gA S a207 (((4 * v5)).toNatClampNeg)), Value.int v9, Value.int 0]) (rest := []) (c_X8_metre l hl  D cy a216 (gA S a207 (((4 * v5)).toNatClampNeg)) v9 0 S211 m221 m222 _ _ h) rfl (by first | rfl | (simp only [ha217]; rfl) | simp only [ha217]) (by simp [va_cat, vi_cat, vl_cat]) dL_isDone_735 ⟨hc223, hs224⟩ (fun E S219 hd215 h => ?_) (fun r220 S219 hd215 h => ?_)
    · exact (h hd215).elim
    · replace h := h hd215
      refine G_iconst C (v := 1) dL_isDone_738 (by decide) ?_
      refine G_icmp_ne C (tgt := 746) dL_isDone_739 (by decide) (fun hc => ?_) (fun hc => ?_)
      · have h := h.1 hc
        refine G_iconst C (v := 0) dL_isDone_746 (by decide) ?_
        refine G_lv C (lv' := [(0, va_rf x0), (2, va_rf x2), (5, Value.int v5), (7, Value.int v7), (8, Value.int v8), (9, Value.int v9), (10, Value.int v10), (11, Value.int v11), (12, Value.int s0)]) [1, 2, 3, 4, 5, 6, 7, 8, 0] rfl ?_
        exact J747 _ _ _ _ _ _ _ _ _ _ _ h
      · have h := h.2 hc
        refine G_iconst C (v := 1) dL_isDone_742 (by decide) ?_
        refine G_goto C (tgt := 747) dL_isDone_743 (by decide) ?_
        refine G_lv C (lv' := [(0, va_rf x0), (2, va_rf x2), (5, Value.int v5), (7, Value.int v7), (8, Value.int v8), (9, Value.int v9), (10, Value.int v10), (11, Value.int v11), (12, Value.int s0)]) [1, 2, 3, 4, 5, 6, 7, 8, 0] rfl ?_
        exact J747 _ _ _ _ _ _ _ _ _ _ _ h
  have J643 : ∀ (c0 n0 : Nat) (S : PT) (s0 : Int32), w_L_isDone_b643 e0 m0 x0 x1 x2 x3 x4 mc ms post c0 n0 S s0 → G p l e { frames := 10, cells := mc, slots := ms, locals := 244 } s m [va_rf x0, va_rf x1, va_rf x2, Value.int x3, Value.int x4].toArray below meth c D cy A s.heap 17 (QMi below D cy A [va_rf x0, va_rf x1, va_rf x2, Value.int x3, Value.int x4] s mc ms (fun r S => bo r ∧ post r S)) S c0 n0 643 [] [Value.int s0] := by
    intro c0 n0 S s0 h
    unfold w_L_isDone_b643 at h
    obtain ⟨hc00, hn00, h⟩ := h
    obtain ⟨hb225, h⟩ := h
    exact G_zret C (mc := mc) (ms := ms) (post := (fun r S => bo r ∧ post r S)) (bo_nar hb225) hr hc00 hn00 dL_isDone_643 ⟨hb225, h⟩
  have J642 : ∀ (c0 n0 : Nat) (S : PT), w_L_isDone_b642 e0 m0 x0 x1 x2 x3 x4 mc ms post c0 n0 S → G p l e { frames := 10, cells := mc, slots := ms, locals := 244 } s m [va_rf x0, va_rf x1, va_rf x2, Value.int x3, Value.int x4].toArray below meth c D cy A s.heap 17 (QMi below D cy A [va_rf x0, va_rf x1, va_rf x2, Value.int x3, Value.int x4] s mc ms (fun r S => bo r ∧ post r S)) S c0 n0 642 [] [] := by
    intro c0 n0 S h
    unfold w_L_isDone_b642 at h
    obtain ⟨hc00, hn00, h⟩ := h
    refine G_iconst C (v := 0) dL_isDone_642 (by decide) ?_
    refine G_lv C (lv' := []) [] rfl ?_
    exact J643 _ _ _ _ h
  have J551 : ∀ (c0 n0 : Nat) (S : PT) (s0 : Int32), w_L_isDone_b551 e0 m0 x0 x1 x2 x3 x4 mc ms post c0 n0 S s0 → G p l e { frames := 10, cells := mc, slots := ms, locals := 244 } s m [va_rf x0, va_rf x1, va_rf x2, Value.int x3, Value.int x4].toArray below meth c D cy A s.heap 17 (QMi below D cy A [va_rf x0, va_rf x1, va_rf x2, Value.int x3, Value.int x4] s mc ms (fun r S => bo r ∧ post r S)) S c0 n0 551 [] [Value.int s0] := by
    intro c0 n0 S s0 h
    unfold w_L_isDone_b551 at h
    obtain ⟨hc00, hn00, h⟩ := h
    obtain ⟨hb226, h⟩ := h
    exact G_zret C (mc := mc) (ms := ms) (post := (fun r S => bo r ∧ post r S)) (bo_nar hb226) hr hc00 hn00 dL_isDone_551 ⟨hb226, h⟩
  have J550 : ∀ (c0 n0 : Nat) (S : PT), w_L_isDone_b550 e0 m0 x0 x1 x2 x3 x4 mc ms post c0 n0 S → G p l e { frames := 10, cells := mc, slots := ms, locals := 244 } s m [va_rf x0, va_rf x1, va_rf x2, Value.int x3, Value.int x4].toArray below meth c D cy A s.heap 17 (QMi below D cy A [va_rf x0, va_rf x1, va_rf x2, Value.int x3, Value.int x4] s mc ms (fun r S => bo r ∧ post r S)) S c0 n0 550 [] [] := by
    intro c0 n0 S h
    unfold w_L_isDone_b550 at h
    obtain ⟨hc00, hn00, h⟩ := h
    refine G_iconst C (v := 0) dL_isDone_550 (by decide) ?_
    refine G_lv C (lv' := []) [] rfl ?_
    exact J551 _ _ _ _ h
  have J546 : ∀ (c0 n0 : Nat) (S : PT), w_L_isDone_b546 e0 m0 x0 x1 x2 x3 x4 mc ms post c0 n0 S → G p l e { frames := 10, cells := mc, slots := ms, locals := 244 } s m [va_rf x0, va_rf x1, va_rf x2, Value.int x3, Value.int x4].toArray below meth c D cy A s.heap 17 (QMi below D cy A [va_rf x0, va_rf x1, va_rf x2, Value.int x3, Value.int x4] s mc ms (fun r S => bo r ∧ post r S)) S c0 n0 546 [] [] := by
    intro c0 n0 S h
    unfold w_L_isDone_b546 at h
    obtain ⟨hc00, hn00, h⟩ := h
    refine G_iconst C (v := 1) dL_isDone_546 (by decide) ?_
    refine G_goto C (tgt := 551) dL_isDone_547 (by decide) ?_
    refine G_lv C (lv' := []) [] rfl ?_
    exact J551 _ _ _ _ h
  have J505 : ∀ (c0 n0 : Nat) (S : PT) (v5 : Int32) (v6 : Int32) (v9 : Int32) (v10 : Int32) (s0 : Int32), w_L_isDone_b505 e0 m0 x0 x1 x2 x3 x4 mc ms post c0 n0 S v5 v6 v9 v10 s0 → G p l e { frames := 10, cells := mc, slots := ms, locals := 244 } s m [va_rf x0, va_rf x1, va_rf x2, Value.int x3, Value.int x4].toArray below meth c D cy A s.heap 17 (QMi below D cy A [va_rf x0, va_rf x1, va_rf x2, Value.int x3, Value.int x4] s mc ms (fun r S => bo r ∧ post r S)) S c0 n0 505 [(0, va_rf x0), (5, Value.int v5), (6, Value.int v6), (9, Value.int v9), (10, Value.int v10)] [Value.int s0] := by
    intro c0 n0 S v5 v6 v9 v10 s0 h
    unfold w_L_isDone_b505 at h
    obtain ⟨hc00, hn00, h⟩ := h
    refine G_istore C (i := 11) (lv' := [(11, Value.int s0), (0, va_rf x0), (5, Value.int v5), (6, Value.int v6), (9, Value.int v9), (10, Value.int v10)]) dL_isDone_505 (by decide) (by first | rfl | simp [va_cat, vi_cat, vl_cat]) ?_
    refine G_iload C (x := s0) 0 dL_isDone_507 rfl ?_
    refine G_if_eq C (tgt := 550) dL_isDone_509 (by decide) (fun hc => ?_) (fun hc => ?_)
    · have h := h.1 hc
      refine G_lv C (lv' := []) [] rfl ?_
      exact J550 _ _ _ h
    · have h := h.2 hc
      refine G_iload C (x := v9) 4 dL_isDone_512 rfl ?_
      refine G_iload C (x := v5) 2 dL_isDone_514 rfl ?_
      refine G_icmp_eq C (tgt := 546) dL_isDone_516 (by decide) (fun hc => ?_) (fun hc => ?_)
      · have h := h.1 hc
        refine G_lv C (lv' := []) [] rfl ?_
        exact J546 _ _ _ h
      · have h := h.2 hc
        refine G_iload C (x := v6) 3 dL_isDone_519 rfl ?_
        refine G_iconst C (v := 3) dL_isDone_521 (by decide) ?_
        refine G_irem C dL_isDone_522 (by decide) ?_
        refine G_if_gt C (tgt := 546) dL_isDone_523 (by decide) (fun hc => ?_) (fun hc => ?_)
        · have h := h.1 hc
          refine G_lv C (lv' := []) [] rfl ?_
          exact J546 _ _ _ h
        · have h := h.2 hc
          refine G_aload_n C (x := x0) 1 dL_isDone_526 rfl rfl ?_
          refine G_bipush C (v := 12) dL_isDone_527 (by decide) ?_
          refine G_iload C (x := v9) 4 dL_isDone_529 rfl ?_
          refine G_iload C (x := v5) 2 dL_isDone_531 rfl ?_
          refine G_iconst C (v := 0) dL_isDone_533 (by decide) ?_
          refine G_iconst C (v := 0) dL_isDone_534 (by decide) ?_
          refine G_iconst C (v := 0) dL_isDone_535 (by decide) ?_
          obtain ⟨m229, m230, hc231, hs232, h⟩ := h
          refine G_callSWi C hZ tw_2_35 tw_2_36 tw_1_0 tw_2_37 hy_L_act ⟨Nat.le_of_ble_eq_true rfl, Nat.le_of_ble_eq_true rfl⟩ (As := [va_rf x0, Value.int 12, Value.int v9, Value.int v5, Value.int 0, Value.int 0, Value.int 0]) (rest := []) (c_L_act l hl D cy e0 m0 he hm x0 12 v9 v5 0 0 0 S m229 m230 _ h) rfl rfl (by simp [va_cat, vi_cat, vl_cat]) dL_isDone_536 ⟨hc231, hs232⟩ (fun r228 S227 h => ?_)
          refine G_iconst C (v := 1) dL_isDone_539 (by decide) ?_
          refine G_iload C (x := v10) 5 dL_isDone_540 rfl ?_
          refine G_isub C dL_isDone_542 ?_
          refine G_icmp_ne C (tgt := 550) dL_isDone_543 (by decide) (fun hc => ?_) (fun hc => ?_)
          · have h := h.1 hc
            refine G_lv C (lv' := []) [] rfl ?_
            exact J550 _ _ _ h
          · have h := h.2 hc
            refine G_lv C (lv' := []) [] rfl ?_
            exact J546 _ _ _ h
  have J504 : ∀ (c0 n0 : Nat) (S : PT) (v5 : Int32) (v6 : Int32) (v9 : Int32) (v10 : Int32), w_L_isDone_b504 e0 m0 x0 x1 x2 x3 x4 mc ms post c0 n0 S v5 v6 v9 v10 → G p l e { frames := 10, cells := mc, slots := ms, locals := 244 } s m [va_rf x0, va_rf x1, va_rf x2, Value.int x3, Value.int x4].toArray below meth c D cy A s.heap 17 (QMi below D cy A [va_rf x0, va_rf x1, va_rf x2, Value.int x3, Value.int x4] s mc ms (fun r S => bo r ∧ post r S)) S c0 n0 504 [(0, va_rf x0), (5, Value.int v5), (6, Value.int v6), (9, Value.int v9), (10, Value.int v10)] [] := by
    intro c0 n0 S v5 v6 v9 v10 h
    unfold w_L_isDone_b504 at h
    obtain ⟨hc00, hn00, h⟩ := h
    refine G_iconst C (v := 0) dL_isDone_504 (by decide) ?_
    refine G_lv C (lv' := [(0, va_rf x0), (5, Value.int v5), (6, Value.int v6), (9, Value.int v9), (10, Value.int v10)]) [0, 1, 2, 3, 4] rfl ?_
    exact J505 _ _ _ _ _ _ _ _ h
  have J500 : ∀ (c0 n0 : Nat) (S : PT) (v5 : Int32) (v6 : Int32) (v9 : Int32) (v10 : Int32), w_L_isDone_b500 e0 m0 x0 x1 x2 x3 x4 mc ms post c0 n0 S v5 v6 v9 v10 → G p l e { frames := 10, cells := mc, slots := ms, locals := 244 } s m [va_rf x0, va_rf x1, va_rf x2, Value.int x3, Value.int x4].toArray below meth c D cy A s.heap 17 (QMi below D cy A [va_rf x0, va_rf x1, va_rf x2, Value.int x3, Value.int x4] s mc ms (fun r S => bo r ∧ post r S)) S c0 n0 500 [(0, va_rf x0), (5, Value.int v5), (6, Value.int v6), (9, Value.int v9), (10, Value.int v10)] [] := by
    intro c0 n0 S v5 v6 v9 v10 h
    unfold w_L_isDone_b500 at h
    obtain ⟨hc00, hn00, h⟩ := h
    refine G_iconst C (v := 1) dL_isDone_500 (by decide) ?_
    refine G_goto C (tgt := 505) dL_isDone_501 (by decide) ?_
    refine G_lv C (lv' := [(0, va_rf x0), (5, Value.int v5), (6, Value.int v6), (9, Value.int v9), (10, Value.int v10)]) [0, 1, 2, 3, 4] rfl ?_
    exact J505 _ _ _ _ _ _ _ _ h
  have J426 : ∀ (c0 n0 : Nat) (S : PT) (s0 : Int32), w_L_isDone_b426 e0 m0 x0 x1 x2 x3 x4 mc ms post c0 n0 S s0 → G p l e { frames := 10, cells := mc, slots := ms, locals := 244 } s m [va_rf x0, va_rf x1, va_rf x2, Value.int x3, Value.int x4].toArray below meth c D cy A s.heap 17 (QMi below D cy A [va_rf x0, va_rf x1, va_rf x2, Value.int x3, Value.int x4] s mc ms (fun r S => bo r ∧ post r S)) S c0 n0 426 [] [Value.int s0] := by
    intro c0 n0 S s0 h
    unfold w_L_isDone_b426 at h
    obtain ⟨hc00, hn00, h⟩ := h
    obtain ⟨hb233, h⟩ := h
    exact G_zret C (mc := mc) (ms := ms) (post := (fun r S => bo r ∧ post r S)) (bo_nar hb233) hr hc00 hn00 dL_isDone_426 ⟨hb233, h⟩
  have J425 : ∀ (c0 n0 : Nat) (S : PT), w_L_isDone_b425 e0 m0 x0 x1 x2 x3 x4 mc ms post c0 n0 S → G p l e { frames := 10, cells := mc, slots := ms, locals := 244 } s m [va_rf x0, va_rf x1, va_rf x2, Value.int x3, Value.int x4].toArray below meth c D cy A s.heap 17 (QMi below D cy A [va_rf x0, va_rf x1, va_rf x2, Value.int x3, Value.int x4] s mc ms (fun r S => bo r ∧ post r S)) S c0 n0 425 [] [] := by
    intro c0 n0 S h
    unfold w_L_isDone_b425 at h
    obtain ⟨hc00, hn00, h⟩ := h
    refine G_iconst C (v := 0) dL_isDone_425 (by decide) ?_
    refine G_lv C (lv' := []) [] rfl ?_
    exact J426 _ _ _ _ h
  have J371 : ∀ (c0 n0 : Nat) (S : PT) (s0 : Int32), w_L_isDone_b371 e0 m0 x0 x1 x2 x3 x4 mc ms post c0 n0 S s0 → G p l e { frames := 10, cells := mc, slots := ms, locals := 244 } s m [va_rf x0, va_rf x1, va_rf x2, Value.int x3, Value.int x4].toArray below meth c D cy A s.heap 17 (QMi below D cy A [va_rf x0, va_rf x1, va_rf x2, Value.int x3, Value.int x4] s mc ms (fun r S => bo r ∧ post r S)) S c0 n0 371 [] [Value.int s0] := by
    intro c0 n0 S s0 h
    unfold w_L_isDone_b371 at h
    obtain ⟨hc00, hn00, h⟩ := h
    obtain ⟨hb234, h⟩ := h
    exact G_zret C (mc := mc) (ms := ms) (post := (fun r S => bo r ∧ post r S)) (bo_nar hb234) hr hc00 hn00 dL_isDone_371 ⟨hb234, h⟩
  have J355 : ∀ (c0 n0 : Nat) (S : PT), w_L_isDone_b355 e0 m0 x0 x1 x2 x3 x4 mc ms post c0 n0 S → G p l e { frames := 10, cells := mc, slots := ms, locals := 244 } s m [va_rf x0, va_rf x1, va_rf x2, Value.int x3, Value.int x4].toArray below meth c D cy A s.heap 17 (QMi below D cy A [va_rf x0, va_rf x1, va_rf x2, Value.int x3, Value.int x4] s mc ms (fun r S => bo r ∧ post r S)) S c0 n0 355 [] [] := by
    intro c0 n0 S h
    unfold w_L_isDone_b355 at h
    obtain ⟨hc00, hn00, h⟩ := h
    refine G_iconst C (v := 0) dL_isDone_355 (by decide) ?_
    refine G_goto C (tgt := 371) dL_isDone_356 (by decide) ?_
    refine G_lv C (lv' := []) [] rfl ?_
    exact J371 _ _ _ _ h
  have J316 : ∀ (c0 n0 : Nat) (S : PT) (v5 : Int32) (v6 : Int32) (v9 : Int32) (v10 : Int32), w_L_isDone_b316 e0 m0 x0 x1 x2 x3 x4 mc ms post c0 n0 S v5 v6 v9 v10 → G p l e { frames := 10, cells := mc, slots := ms, locals := 244 } s m [va_rf x0, va_rf x1, va_rf x2, Value.int x3, Value.int x4].toArray below meth c D cy A s.heap 17 (QMi below D cy A [va_rf x0, va_rf x1, va_rf x2, Value.int x3, Value.int x4] s mc ms (fun r S => bo r ∧ post r S)) S c0 n0 316 [(0, va_rf x0), (5, Value.int v5), (6, Value.int v6), (9, Value.int v9), (10, Value.int v10)] [] := by
    intro c0 n0 S v5 v6 v9 v10 h
    unfold w_L_isDone_b316 at h
    obtain ⟨hc00, hn00, h⟩ := h
    refine G_iload C (x := v10) 4 dL_isDone_316 rfl ?_
    refine G_iload C (x := v9) 3 dL_isDone_318 rfl ?_
    refine G_iconst C (v := 1) dL_isDone_320 (by decide) ?_
    refine G_iadd C dL_isDone_321 ?_
    refine G_icmp_ne C (tgt := 355) dL_isDone_322 (by decide) (fun hc => ?_) (fun hc => ?_)
    · have h := h.1 hc
      refine G_lv C (lv' := []) [] rfl ?_
      exact J355 _ _ _ h
    · have h := h.2 hc
      refine G_aload_n C (x := x0) 0 dL_isDone_325 rfl rfl ?_
      refine G_iload C (x := v5) 1 dL_isDone_326 rfl ?_
      refine G_iconst C (v := 2) dL_isDone_328 (by decide) ?_
      obtain ⟨S235, M236, hv237, hd238, h⟩ := h
      obtain ⟨a240, ha241, h⟩ := h
      obtain ⟨hk242, h⟩ := h
      obtain ⟨m245, m246, hc247, hs248, h⟩ := h
      refine G_fxcalli C hZ hv237 hd238 (Tf := TX8) (N := 10) hk242 (by decide) rfl tw_4_147 tw_4_148 tw_4_149 tw_1_1 tw_4_150 hy_X8_of ⟨Nat.le_of_ble_eq_true rfl, Nat.le_of_ble_eq_true rfl⟩ (As := [Value.int v5, Value.int 2]) (rest := []) (c_X8_of l hl  D cy a240 v5 2 S235 m245 m246 _ _ h) rfl (by first | rfl | (simp only [ha241]; rfl) | simp only [ha241]) (by simp [va_cat, vi_cat, vl_cat]) dL_isDone_329 ⟨hc247, hs248⟩ (fun E S243 hd239 h => ?_) (fun r244 S243 hd239 h => ?_)
      · exact (h hd239).elim
      · replace h := h hd239
        refine G_iload C (x := v6) 2 dL_isDone_332 rfl ?_
        refine G_iconst C (v := 4) dL_isDone_334 (by decide) ?_
        refine G_irem C dL_isDone_335 (by decide) ?_
        refine G_icmp_ne C (tgt := 355) dL_isDone_336 (by decide) (fun hc => ?_) (fun hc => ?_)
        · have h := h.1 hc
          refine G_lv C (lv' := []) [] rfl ?_
          exact J355 _ _ _ h
        · have h := h.2 hc
          refine G_aload_n C (x := x0) 0 dL_isDone_339 rfl rfl ?_
          refine G_iload C (x := v5) 1 dL_isDone_340 rfl ?_
          refine G_iconst C (v := 3) dL_isDone_342 (by decide) ?_
          obtain ⟨S249, M250, hv251, hd252, h⟩ := h
          obtain ⟨hk254, h⟩ := h
          obtain ⟨m257, m258, hc259, hs260, h⟩ := h
          refine G_fxcalli C hZ hv251 hd252 (Tf := TX8) (N := 10) hk254 (by decide) rfl tw_4_147 tw_4_148 tw_4_149 tw_1_1 tw_4_150 hy_X8_of ⟨Nat.le_of_ble_eq_true rfl, Nat.le_of_ble_eq_true rfl⟩ (As := [Value.int v5, Value.int 3]) (rest := []) (c_X8_of l hl  D cy a240 v5 3 S249 m257 m258 _ _ h) rfl (by first | rfl | (simp only [ha241]; rfl) | simp only [ha241]) (by simp [va_cat, vi_cat, vl_cat]) dL_isDone_343 ⟨hc259, hs260⟩ (fun E S255 hd253 h => ?_) (fun r256 S255 hd253 h => ?_)
          · exact (h hd253).elim
          · replace h := h hd253
            refine G_iload C (x := v10) 4 dL_isDone_346 rfl ?_
            refine G_icmp_ne C (tgt := 355) dL_isDone_348 (by decide) (fun hc => ?_) (fun hc => ?_)
            · have h := h.1 hc
              refine G_lv C (lv' := []) [] rfl ?_
              exact J355 _ _ _ h
            · have h := h.2 hc
              refine G_iconst C (v := 1) dL_isDone_351 (by decide) ?_
              refine G_goto C (tgt := 371) dL_isDone_352 (by decide) ?_
              refine G_lv C (lv' := []) [] rfl ?_
              exact J371 _ _ _ _ h
  have J272 : ∀ (c0 n0 : Nat) (S : PT) (s0 : Int32), w_L_isDone_b272 e0 m0 x0 x1 x2 x3 x4 mc ms post c0 n0 S s0 → G p l e { frames := 10, cells := mc, slots := ms, locals := 244 } s m [va_rf x0, va_rf x1, va_rf x2, Value.int x3, Value.int x4].toArray below meth c D cy A s.heap 17 (QMi below D cy A [va_rf x0, va_rf x1, va_rf x2, Value.int x3, Value.int x4] s mc ms (fun r S => bo r ∧ post r S)) S c0 n0 272 [] [Value.int s0] := by
    intro c0 n0 S s0 h
    unfold w_L_isDone_b272 at h
    obtain ⟨hc00, hn00, h⟩ := h
    obtain ⟨hb261, h⟩ := h
    exact G_zret C (mc := mc) (ms := ms) (post := (fun r S => bo r ∧ post r S)) (bo_nar hb261) hr hc00 hn00 dL_isDone_272 ⟨hb261, h⟩
  have J256 : ∀ (c0 n0 : Nat) (S : PT), w_L_isDone_b256 e0 m0 x0 x1 x2 x3 x4 mc ms post c0 n0 S → G p l e { frames := 10, cells := mc, slots := ms, locals := 244 } s m [va_rf x0, va_rf x1, va_rf x2, Value.int x3, Value.int x4].toArray below meth c D cy A s.heap 17 (QMi below D cy A [va_rf x0, va_rf x1, va_rf x2, Value.int x3, Value.int x4] s mc ms (fun r S => bo r ∧ post r S)) S c0 n0 256 [] [] := by
    intro c0 n0 S h
    unfold w_L_isDone_b256 at h
    obtain ⟨hc00, hn00, h⟩ := h
    refine G_iconst C (v := 0) dL_isDone_256 (by decide) ?_
    refine G_goto C (tgt := 272) dL_isDone_257 (by decide) ?_
    refine G_lv C (lv' := []) [] rfl ?_
    exact J272 _ _ _ _ h
  have J208 : ∀ (c0 n0 : Nat) (S : PT) (s0 : Int32), w_L_isDone_b208 e0 m0 x0 x1 x2 x3 x4 mc ms post c0 n0 S s0 → G p l e { frames := 10, cells := mc, slots := ms, locals := 244 } s m [va_rf x0, va_rf x1, va_rf x2, Value.int x3, Value.int x4].toArray below meth c D cy A s.heap 17 (QMi below D cy A [va_rf x0, va_rf x1, va_rf x2, Value.int x3, Value.int x4] s mc ms (fun r S => bo r ∧ post r S)) S c0 n0 208 [] [Value.int s0] := by
    intro c0 n0 S s0 h
    unfold w_L_isDone_b208 at h
    obtain ⟨hc00, hn00, h⟩ := h
    obtain ⟨hb262, h⟩ := h
    exact G_zret C (mc := mc) (ms := ms) (post := (fun r S => bo r ∧ post r S)) (bo_nar hb262) hr hc00 hn00 dL_isDone_208 ⟨hb262, h⟩
  have J207 : ∀ (c0 n0 : Nat) (S : PT), w_L_isDone_b207 e0 m0 x0 x1 x2 x3 x4 mc ms post c0 n0 S → G p l e { frames := 10, cells := mc, slots := ms, locals := 244 } s m [va_rf x0, va_rf x1, va_rf x2, Value.int x3, Value.int x4].toArray below meth c D cy A s.heap 17 (QMi below D cy A [va_rf x0, va_rf x1, va_rf x2, Value.int x3, Value.int x4] s mc ms (fun r S => bo r ∧ post r S)) S c0 n0 207 [] [] := by
    intro c0 n0 S h
    unfold w_L_isDone_b207 at h
    obtain ⟨hc00, hn00, h⟩ := h
    refine G_iconst C (v := 0) dL_isDone_207 (by decide) ?_
    refine G_lv C (lv' := []) [] rfl ?_
    exact J208 _ _ _ _ h
  have J131 : ∀ (c0 n0 : Nat) (S : PT), w_L_isDone_b131 e0 m0 x0 x1 x2 x3 x4 mc ms post c0 n0 S → G p l e { frames := 10, cells := mc, slots := ms, locals := 244 } s m [va_rf x0, va_rf x1, va_rf x2, Value.int x3, Value.int x4].toArray below meth c D cy A s.heap 17 (QMi below D cy A [va_rf x0, va_rf x1, va_rf x2, Value.int x3, Value.int x4] s mc ms (fun r S => bo r ∧ post r S)) S c0 n0 131 [] [] := by
    intro c0 n0 S h
    unfold w_L_isDone_b131 at h
    obtain ⟨hc00, hn00, h⟩ := h
    refine G_iconst C (v := 1) dL_isDone_131 (by decide) ?_
    refine G_goto C (tgt := 208) dL_isDone_132 (by decide) ?_
    refine G_lv C (lv' := []) [] rfl ?_
    exact J208 _ _ _ _ h
  have J51 : ∀ (c0 n0 : Nat) (S : PT) (v5 : Int32), w_L_isDone_b51 e0 m0 x0 x1 x2 x3 x4 mc ms post c0 n0 S v5 → G p l e { frames := 10, cells := mc, slots := ms, locals := 244 } s m [va_rf x0, va_rf x1, va_rf x2, Value.int x3, Value.int x4].toArray below meth c D cy A s.heap 17 (QMi below D cy A [va_rf x0, va_rf x1, va_rf x2, Value.int x3, Value.int x4] s mc ms (fun r S => bo r ∧ post r S)) S c0 n0 51 [(0, va_rf x0), (1, va_rf x1), (2, va_rf x2), (3, Value.int x3), (4, Value.int x4), (5, Value.int v5)] [] := by
    intro c0 n0 S v5 h
    unfold w_L_isDone_b51 at h
    obtain ⟨hc00, hn00, h⟩ := h
    refine G_iload C (x := x4) 4 dL_isDone_51 rfl ?_
    refine G_bipush C (v := 24) dL_isDone_53 (by decide) ?_
    refine G_idiv C dL_isDone_55 (by decide) ?_
    refine G_istore C (i := 6) (lv' := [(6, Value.int (x4 / 24)), (0, va_rf x0), (1, va_rf x1), (2, va_rf x2), (3, Value.int x3), (4, Value.int x4), (5, Value.int v5)]) dL_isDone_56 (by decide) (by first | rfl | simp [va_cat, vi_cat, vl_cat]) ?_
    refine G_aload_n C (x := x0) 1 dL_isDone_58 rfl rfl ?_
    refine G_iload C (x := v5) 6 dL_isDone_59 rfl ?_
    refine G_iconst C (v := 0) dL_isDone_61 (by decide) ?_
    obtain ⟨S263, M264, hv265, hd266, h⟩ := h
    obtain ⟨a268, ha269, h⟩ := h
    obtain ⟨hk270, h⟩ := h
    obtain ⟨m273, m274, hc275, hs276, h⟩ := h
    refine G_fxcalli C hZ hv265 hd266 (Tf := TX8) (N := 10) hk270 (by decide) rfl tw_4_147 tw_4_148 tw_4_149 tw_1_1 tw_4_150 hy_X8_of ⟨Nat.le_of_ble_eq_true rfl, Nat.le_of_ble_eq_true rfl⟩ (As := [Value.int v5, Value.int 0]) (rest := []) (c_X8_of l hl  D cy a268 v5 0 S263 m273 m274 _ _ h) rfl (by first | rfl | (simp only [ha269]; rfl) | simp only [ha269]) (by simp [va_cat, vi_cat, vl_cat]) dL_isDone_62 ⟨hc275, hs276⟩ (fun E S271 hd267 h => ?_) (fun r272 S271 hd267 h => ?_)
    · exact (h hd267).elim
    · replace h := h hd267
      refine G_istore C (i := 7) (lv' := [(7, Value.int r272), (6, Value.int (x4 / 24)), (0, va_rf x0), (1, va_rf x1), (2, va_rf x2), (3, Value.int x3), (4, Value.int x4), (5, Value.int v5)]) dL_isDone_65 (by decide) (by first | rfl | simp [va_cat, vi_cat, vl_cat]) ?_
      refine G_aload_n C (x := x2) 4 dL_isDone_67 rfl rfl ?_
      refine G_iconst C (v := 4) dL_isDone_68 (by decide) ?_
      refine G_iload C (x := v5) 7 dL_isDone_69 rfl ?_
      refine G_imul C dL_isDone_71 ?_
      refine G_iconst C (v := 3) dL_isDone_72 (by decide) ?_
      refine G_iadd C dL_isDone_73 ?_
      obtain ⟨a277, ha278, h⟩ := h
      refine G_rf1 ha278 ?_
      obtain ⟨hk279, h⟩ := h
      obtain ⟨hi280, h⟩ := h
      refine G_iald C hk279 hi280 dL_isDone_74 ?_
      refine G_istore C (i := 8) (lv' := [(8, Value.int (gA (ov S271 M264) a277 ((((4 * v5) + 3)).toNatClampNeg))), (7, Value.int r272), (6, Value.int (x4 / 24)), (0, va_rf x0), (1, va_rf x1), (2, va_rf x2), (3, Value.int x3), (4, Value.int x4), (5, Value.int v5)]) dL_isDone_75 (by decide) (by first | rfl | simp [va_cat, vi_cat, vl_cat]) ?_
      refine G_iload_n C (x := x3) 6 dL_isDone_77 rfl rfl ?_
      refine G_if_ne C (tgt := 209) dL_isDone_78 (by decide) (fun hc => ?_) (fun hc => ?_)
      · have h := h.1 hc
        refine G_iload_n C (x := x3) 6 dL_isDone_209 rfl rfl ?_
        refine G_iconst C (v := 1) dL_isDone_210 (by decide) ?_
        refine G_icmp_ne C (tgt := 273) dL_isDone_211 (by decide) (fun hc => ?_) (fun hc => ?_)
        · have h := h.1 hc
          refine G_iload_n C (x := x3) 6 dL_isDone_273 rfl rfl ?_
          refine G_iconst C (v := 2) dL_isDone_274 (by decide) ?_
          refine G_icmp_ne C (tgt := 372) dL_isDone_275 (by decide) (fun hc => ?_) (fun hc => ?_)
          · have h := h.1 hc
            refine G_iload_n C (x := x3) 6 dL_isDone_372 rfl rfl ?_
            refine G_iconst C (v := 3) dL_isDone_373 (by decide) ?_
            refine G_icmp_ne C (tgt := 427) dL_isDone_374 (by decide) (fun hc => ?_) (fun hc => ?_)
            · have h := h.1 hc
              refine G_iload_n C (x := x3) 6 dL_isDone_427 rfl rfl ?_
              refine G_iconst C (v := 4) dL_isDone_428 (by decide) ?_
              refine G_icmp_ne C (tgt := 552) dL_isDone_429 (by decide) (fun hc => ?_) (fun hc => ?_)
              · have h := h.1 hc
                refine G_iload_n C (x := x3) 6 dL_isDone_552 rfl rfl ?_
                refine G_iconst C (v := 5) dL_isDone_553 (by decide) ?_
                refine G_icmp_ne C (tgt := 644) dL_isDone_554 (by decide) (fun hc => ?_) (fun hc => ?_)
                · have h := h.1 hc
                  refine G_aload_n C (x := x2) 5 dL_isDone_644 rfl rfl ?_
                  refine G_iconst C (v := 4) dL_isDone_645 (by decide) ?_
                  refine G_iload C (x := v5) 8 dL_isDone_646 rfl ?_
                  refine G_imul C dL_isDone_648 ?_
                  refine G_iconst C (v := 1) dL_isDone_649 (by decide) ?_
                  refine G_iadd C dL_isDone_650 ?_
                  refine G_rf1 ha278 ?_
                  obtain ⟨hi281, h⟩ := h
                  refine G_iald C hk279 hi281 dL_isDone_651 ?_
                  refine G_iload C (x := (x4 / 24)) 2 dL_isDone_652 rfl ?_
                  refine G_aload_n C (x := x2) 5 dL_isDone_654 rfl rfl ?_
                  refine G_iconst C (v := 4) dL_isDone_655 (by decide) ?_
                  refine G_iload C (x := v5) 8 dL_isDone_656 rfl ?_
                  refine G_imul C dL_isDone_658 ?_
                  refine G_iconst C (v := 2) dL_isDone_659 (by decide) ?_
                  refine G_iadd C dL_isDone_660 ?_
                  refine G_rf1 ha278 ?_
                  obtain ⟨hi282, h⟩ := h
                  refine G_iald C hk279 hi282 dL_isDone_661 ?_
                  refine G_aload_n C (x := x2) 5 dL_isDone_662 rfl rfl ?_
                  refine G_iconst C (v := 4) dL_isDone_663 (by decide) ?_
                  refine G_iload C (x := v5) 8 dL_isDone_664 rfl ?_
                  refine G_imul C dL_isDone_666 ?_
                  refine G_iconst C (v := 1) dL_isDone_667 (by decide) ?_
                  refine G_iadd C dL_isDone_668 ?_
                  refine G_rf1 ha278 ?_
                  obtain ⟨hi283, h⟩ := h
                  refine G_iald C hk279 hi283 dL_isDone_669 ?_
                  refine G_isub C dL_isDone_670 ?_
                  refine G_iconst C (v := 1) dL_isDone_671 (by decide) ?_
                  refine G_iadd C dL_isDone_672 ?_
                  obtain ⟨hn284, h⟩ := h
                  refine G_irem C dL_isDone_673 hn284 ?_
                  refine G_iadd C dL_isDone_674 ?_
                  refine G_istore C (i := 9) (lv' := [(9, Value.int ((gA (ov S271 M264) a277 ((((4 * v5) + 1)).toNatClampNeg)) + ((x4 / 24) - (x4 / 24) / (((gA (ov S271 M264) a277 ((((4 * v5) + 2)).toNatClampNeg)) - (gA (ov S271 M264) a277 ((((4 * v5) + 1)).toNatClampNeg))) + 1) * (((gA (ov S271 M264) a277 ((((4 * v5) + 2)).toNatClampNeg)) - (gA (ov S271 M264) a277 ((((4 * v5) + 1)).toNatClampNeg))) + 1)))), (8, Value.int (gA (ov S271 M264) a277 ((((4 * v5) + 3)).toNatClampNeg))), (7, Value.int r272), (6, Value.int (x4 / 24)), (0, va_rf x0), (1, va_rf x1), (2, va_rf x2), (3, Value.int x3), (4, Value.int x4), (5, Value.int v5)]) dL_isDone_675 (by decide) (by first | rfl | simp [va_cat, vi_cat, vl_cat]) ?_
                  refine G_iload_n C (x := x3) 7 dL_isDone_677 rfl rfl ?_
                  refine G_bipush C (v := 10) dL_isDone_678 (by decide) ?_
                  refine G_icmp_ge C (tgt := 926) dL_isDone_680 (by decide) (fun hc => ?_) (fun hc => ?_)
                  · have h := h.1 hc
                    refine G_iload_n C (x := x3) 7 dL_isDone_926 rfl rfl ?_
                    refine G_bipush C (v := 13) dL_isDone_927 (by decide) ?_
                    refine G_icmp_ge C (tgt := 1064) dL_isDone_929 (by decide) (fun hc => ?_) (fun hc => ?_)
                    · have h := h.1 hc
                      refine G_iload_n C (x := x3) 7 dL_isDone_1064 rfl rfl ?_
                      refine G_bipush C (v := 13) dL_isDone_1065 (by decide) ?_
                      refine G_icmp_ne C (tgt := 1116) dL_isDone_1067 (by decide) (fun hc => ?_) (fun hc => ?_)
                      · have h := h.1 hc
                        refine G_iload_n C (x := x3) 7 dL_isDone_1116 rfl rfl ?_
                        refine G_bipush C (v := 14) dL_isDone_1117 (by decide) ?_
                        refine G_icmp_ne C (tgt := 1243) dL_isDone_1119 (by decide) (fun hc => ?_) (fun hc => ?_)
                        · have h := h.1 hc
                          refine G_iload C (x := r272) 2 dL_isDone_1243 rfl ?_
                          refine G_iconst C (v := 3) dL_isDone_1245 (by decide) ?_
                          refine G_icmp_ne C (tgt := 1263) dL_isDone_1246 (by decide) (fun hc => ?_) (fun hc => ?_)
                          · have h := h.1 hc
                            refine G_lv C (lv' := [(0, va_rf x0), (1, va_rf x1), (5, Value.int v5)]) [4, 5, 9] rfl ?_
                            exact J1263 _ _ _ _ h
                          · have h := h.2 hc
                            refine G_aload_n C (x := x0) 4 dL_isDone_1249 rfl rfl ?_
                            refine G_iload C (x := v5) 9 dL_isDone_1250 rfl ?_
                            refine G_iconst C (v := 5) dL_isDone_1252 (by decide) ?_
                            obtain ⟨S285, M286, hv287, hd288, h⟩ := h
                            obtain ⟨hk290, h⟩ := h
                            obtain ⟨m293, m294, hc295, hs296, h⟩ := h
                            refine G_fxcalli C hZ hv287 hd288 (Tf := TX8) (N := 10) hk290 (by decide) rfl tw_4_147 tw_4_148 tw_4_149 tw_1_1 tw_4_150 hy_X8_of ⟨Nat.le_of_ble_eq_true rfl, Nat.le_of_ble_eq_true rfl⟩ (As := [Value.int v5, Value.int 5]) (rest := []) (c_X8_of l hl  D cy a268 v5 5 S285 m293 m294 _ _ h) rfl (by first | rfl | (simp only [ha269]; rfl) | simp only [ha269]) (by simp [va_cat, vi_cat, vl_cat]) dL_isDone_1253 ⟨hc295, hs296⟩ (fun E S291 hd289 h => ?_) (fun r292 S291 hd289 h => ?_)
                            · exact (h hd289).elim
                            · replace h := h hd289
                              refine G_if_ne C (tgt := 1263) dL_isDone_1256 (by decide) (fun hc => ?_) (fun hc => ?_)
                              · have h := h.1 hc
                                refine G_lv C (lv' := [(0, va_rf x0), (1, va_rf x1), (5, Value.int v5)]) [4, 5, 9] rfl ?_
                                exact J1263 _ _ _ _ h
                              · have h := h.2 hc
                                refine G_iconst C (v := 1) dL_isDone_1259 (by decide) ?_
                                refine G_goto C (tgt := 1264) dL_isDone_1260 (by decide) ?_
                                refine G_lv C (lv' := [(0, va_rf x0), (1, va_rf x1), (5, Value.int v5)]) [4, 5, 9] rfl ?_
                                exact J1264 _ _ _ _ _ h
                        · have h := h.2 hc
                          refine G_aload_n C (x := x0) 4 dL_isDone_1122 rfl rfl ?_
                          refine G_iload C (x := v5) 9 dL_isDone_1123 rfl ?_
                          refine G_iconst C (v := 4) dL_isDone_1125 (by decide) ?_
                          obtain ⟨S297, M298, hv299, hd300, h⟩ := h
                          obtain ⟨hk302, h⟩ := h
                          obtain ⟨m305, m306, hc307, hs308, h⟩ := h
                          refine G_fxcalli C hZ hv299 hd300 (Tf := TX8) (N := 10) hk302 (by decide) rfl tw_4_147 tw_4_148 tw_4_149 tw_1_1 tw_4_150 hy_X8_of ⟨Nat.le_of_ble_eq_true rfl, Nat.le_of_ble_eq_true rfl⟩ (As := [Value.int v5, Value.int 4]) (rest := []) (c_X8_of l hl  D cy a268 v5 4 S297 m305 m306 _ _ h) rfl (by first | rfl | (simp only [ha269]; rfl) | simp only [ha269]) (by simp [va_cat, vi_cat, vl_cat]) dL_isDone_1126 ⟨hc307, hs308⟩ (fun E S303 hd301 h => ?_) (fun r304 S303 hd301 h => ?_)
                          · exact (h hd301).elim
                          · replace h := h hd301
                            refine G_istore C (i := 10) (lv' := [(10, Value.int r304), (9, Value.int ((gA (ov S271 M264) a277 ((((4 * v5) + 1)).toNatClampNeg)) + ((x4 / 24) - (x4 / 24) / (((gA (ov S271 M264) a277 ((((4 * v5) + 2)).toNatClampNeg)) - (gA (ov S271 M264) a277 ((((4 * v5) + 1)).toNatClampNeg))) + 1) * (((gA (ov S271 M264) a277 ((((4 * v5) + 2)).toNatClampNeg)) - (gA (ov S271 M264) a277 ((((4 * v5) + 1)).toNatClampNeg))) + 1)))), (8, Value.int (gA (ov S271 M264) a277 ((((4 * v5) + 3)).toNatClampNeg))), (7, Value.int r272), (6, Value.int (x4 / 24)), (0, va_rf x0), (1, va_rf x1), (2, va_rf x2), (3, Value.int x3), (4, Value.int x4), (5, Value.int v5)]) dL_isDone_1129 (by decide) (by first | rfl | simp [va_cat, vi_cat, vl_cat]) ?_
                            refine G_aload_n C (x := x0) 5 dL_isDone_1131 rfl rfl ?_
                            refine G_iload C (x := v5) 10 dL_isDone_1132 rfl ?_
                            refine G_iconst C (v := 1) dL_isDone_1134 (by decide) ?_
                            obtain ⟨S309, M310, hv311, hd312, h⟩ := h
                            obtain ⟨hk314, h⟩ := h
                            obtain ⟨m317, m318, hc319, hs320, h⟩ := h
                            refine G_fxcalli C hZ hv311 hd312 (Tf := TX8) (N := 10) hk314 (by decide) rfl tw_4_147 tw_4_148 tw_4_149 tw_1_1 tw_4_150 hy_X8_of ⟨Nat.le_of_ble_eq_true rfl, Nat.le_of_ble_eq_true rfl⟩ (As := [Value.int v5, Value.int 1]) (rest := []) (c_X8_of l hl  D cy a268 v5 1 S309 m317 m318 _ _ h) rfl (by first | rfl | (simp only [ha269]; rfl) | simp only [ha269]) (by simp [va_cat, vi_cat, vl_cat]) dL_isDone_1135 ⟨hc319, hs320⟩ (fun E S315 hd313 h => ?_) (fun r316 S315 hd313 h => ?_)
                            · exact (h hd313).elim
                            · replace h := h hd313
                              refine G_istore C (i := 11) (lv' := [(11, Value.int r316), (10, Value.int r304), (9, Value.int ((gA (ov S271 M264) a277 ((((4 * v5) + 1)).toNatClampNeg)) + ((x4 / 24) - (x4 / 24) / (((gA (ov S271 M264) a277 ((((4 * v5) + 2)).toNatClampNeg)) - (gA (ov S271 M264) a277 ((((4 * v5) + 1)).toNatClampNeg))) + 1) * (((gA (ov S271 M264) a277 ((((4 * v5) + 2)).toNatClampNeg)) - (gA (ov S271 M264) a277 ((((4 * v5) + 1)).toNatClampNeg))) + 1)))), (8, Value.int (gA (ov S271 M264) a277 ((((4 * v5) + 3)).toNatClampNeg))), (7, Value.int r272), (6, Value.int (x4 / 24)), (0, va_rf x0), (1, va_rf x1), (2, va_rf x2), (3, Value.int x3), (4, Value.int x4), (5, Value.int v5)]) dL_isDone_1138 (by decide) (by first | rfl | simp [va_cat, vi_cat, vl_cat]) ?_
                              refine G_aload_n C (x := x0) 6 dL_isDone_1140 rfl rfl ?_
                              refine G_bipush C (v := 17) dL_isDone_1141 (by decide) ?_
                              refine G_iload C (x := v5) 11 dL_isDone_1143 rfl ?_
                              refine G_iconst C (v := 0) dL_isDone_1145 (by decide) ?_
                              refine G_iconst C (v := 0) dL_isDone_1146 (by decide) ?_
                              refine G_iconst C (v := 0) dL_isDone_1147 (by decide) ?_
                              refine G_iconst C (v := 0) dL_isDone_1148 (by decide) ?_
                              obtain ⟨m323, m324, hc325, hs326, h⟩ := h
                              refine G_callSWi C hZ tw_2_35 tw_2_36 tw_1_0 tw_2_37 hy_L_act ⟨Nat.le_of_ble_eq_true rfl, Nat.le_of_ble_eq_true rfl⟩ (As := [va_rf x0, Value.int 17, Value.int v5, Value.int 0, Value.int 0, Value.int 0, Value.int 0]) (rest := []) (c_L_act l hl D cy e0 m0 he hm x0 17 v5 0 0 0 0 (ov S315 M310) m323 m324 _ h) rfl rfl (by simp [va_cat, vi_cat, vl_cat]) dL_isDone_1149 ⟨hc325, hs326⟩ (fun r322 S321 h => ?_)
                              refine G_istore C (i := 12) (lv' := [(12, Value.int r322), (11, Value.int r316), (10, Value.int r304), (9, Value.int ((gA (ov S271 M264) a277 ((((4 * v5) + 1)).toNatClampNeg)) + ((x4 / 24) - (x4 / 24) / (((gA (ov S271 M264) a277 ((((4 * v5) + 2)).toNatClampNeg)) - (gA (ov S271 M264) a277 ((((4 * v5) + 1)).toNatClampNeg))) + 1) * (((gA (ov S271 M264) a277 ((((4 * v5) + 2)).toNatClampNeg)) - (gA (ov S271 M264) a277 ((((4 * v5) + 1)).toNatClampNeg))) + 1)))), (8, Value.int (gA (ov S271 M264) a277 ((((4 * v5) + 3)).toNatClampNeg))), (7, Value.int r272), (6, Value.int (x4 / 24)), (0, va_rf x0), (1, va_rf x1), (2, va_rf x2), (3, Value.int x3), (4, Value.int x4), (5, Value.int v5)]) dL_isDone_1152 (by decide) (by first | rfl | simp [va_cat, vi_cat, vl_cat]) ?_
                              refine G_iload C (x := r322) 0 dL_isDone_1154 rfl ?_
                              refine G_ldc C (v := (-1713000)) (im tw_4_176) dL_isDone_1156 ?_
                              refine G_icmp_ne C (tgt := 1193) dL_isDone_1158 (by decide) (fun hc => ?_) (fun hc => ?_)
                              · have h := h.1 hc
                                refine G_iload C (x := r272) 5 dL_isDone_1193 rfl ?_
                                refine G_iconst C (v := 3) dL_isDone_1195 (by decide) ?_
                                refine G_icmp_ne C (tgt := 1241) dL_isDone_1196 (by decide) (fun hc => ?_) (fun hc => ?_)
                                · have h := h.1 hc
                                  refine G_lv C (lv' := []) [] rfl ?_
                                  exact J1241 _ _ _ h
                                · have h := h.2 hc
                                  refine G_iload C (x := r304) 2 dL_isDone_1199 rfl ?_
                                  refine G_if_le C (tgt := 1241) dL_isDone_1201 (by decide) (fun hc => ?_) (fun hc => ?_)
                                  · have h := h.1 hc
                                    refine G_lv C (lv' := []) [] rfl ?_
                                    exact J1241 _ _ _ h
                                  · have h := h.2 hc
                                    refine G_iload C (x := r322) 0 dL_isDone_1204 rfl ?_
                                    refine G_iload C (x := r316) 1 dL_isDone_1206 rfl ?_
                                    refine G_iconst C (v := 2) dL_isDone_1208 (by decide) ?_
                                    refine G_iadd C dL_isDone_1209 ?_
                                    refine G_icmp_ne C (tgt := 1241) dL_isDone_1210 (by decide) (fun hc => ?_) (fun hc => ?_)
                                    · have h := h.1 hc
                                      refine G_lv C (lv' := []) [] rfl ?_
                                      exact J1241 _ _ _ h
                                    · have h := h.2 hc
                                      refine G_aload_n C (x := x0) 7 dL_isDone_1213 rfl rfl ?_
                                      refine G_iload C (x := v5) 12 dL_isDone_1214 rfl ?_
                                      refine G_iconst C (v := 4) dL_isDone_1216 (by decide) ?_
                                      obtain ⟨S327, M328, hv329, hd330, h⟩ := h
                                      obtain ⟨hk332, h⟩ := h
                                      obtain ⟨m335, m336, hc337, hs338, h⟩ := h
                                      refine G_fxcalli C hZ hv329 hd330 (Tf := TX8) (N := 10) hk332 (by decide) rfl tw_4_147 tw_4_148 tw_4_149 tw_1_1 tw_4_150 hy_X8_of ⟨Nat.le_of_ble_eq_true rfl, Nat.le_of_ble_eq_true rfl⟩ (As := [Value.int v5, Value.int 4]) (rest := []) (c_X8_of l hl  D cy a268 v5 4 S327 m335 m336 _ _ h) rfl (by first | rfl | (simp only [ha269]; rfl) | simp only [ha269]) (by simp [va_cat, vi_cat, vl_cat]) dL_isDone_1217 ⟨hc337, hs338⟩ (fun E S333 hd331 h => ?_) (fun r334 S333 hd331 h => ?_)
                                      · exact (h hd331).elim
                                      · replace h := h hd331
                                        refine G_iload C (x := r304) 2 dL_isDone_1220 rfl ?_
                                        refine G_iconst C (v := 1) dL_isDone_1222 (by decide) ?_
                                        refine G_isub C dL_isDone_1223 ?_
                                        refine G_icmp_ne C (tgt := 1241) dL_isDone_1224 (by decide) (fun hc => ?_) (fun hc => ?_)
                                        · have h := h.1 hc
                                          refine G_lv C (lv' := []) [] rfl ?_
                                          exact J1241 _ _ _ h
                                        · have h := h.2 hc
                                          refine G_aload_n C (x := x0) 7 dL_isDone_1227 rfl rfl ?_
                                          refine G_iload C (x := v5) 12 dL_isDone_1228 rfl ?_
                                          obtain ⟨S339, M340, hv341, hd342, h⟩ := h
                                          obtain ⟨hk344, h⟩ := h
                                          obtain ⟨m347, m348, hc349, hs350, h⟩ := h
                                          refine G_fxcalli C hZ hv341 hd342 (Tf := TX8) (N := 10) hk344 (by decide) rfl tw_4_138 tw_4_139 tw_4_140 tw_1_1 tw_4_141 hy_X8_bars ⟨Nat.le_of_ble_eq_true rfl, Nat.le_of_ble_eq_true rfl⟩ (As := [Value.int v5]) (rest := []) (c_X8_bars l hl  D cy a268 v5 S339 m347 m348 _ _ h) rfl (by first | rfl | (simp only [ha269]; rfl) | simp only [ha269]) (by simp [va_cat, vi_cat, vl_cat]) dL_isDone_1230 ⟨hc349, hs350⟩ (fun E S345 hd343 h => ?_) (fun r346 S345 hd343 h => ?_)
                                          · exact (h hd343).elim
                                          · replace h := h hd343
                                            refine G_iconst C (v := 3) dL_isDone_1233 (by decide) ?_
                                            refine G_icmp_eq C (tgt := 1241) dL_isDone_1234 (by decide) (fun hc => ?_) (fun hc => ?_)
                                            · have h := h.1 hc
                                              refine G_lv C (lv' := []) [] rfl ?_
                                              exact J1241 _ _ _ h
                                            · have h := h.2 hc
                                              refine G_iconst C (v := 1) dL_isDone_1237 (by decide) ?_
                                              refine G_goto C (tgt := 1242) dL_isDone_1238 (by decide) ?_
                                              refine G_lv C (lv' := []) [] rfl ?_
                                              exact J1242 _ _ _ _ h
                              · have h := h.2 hc
                                refine G_aload_n C (x := x0) 7 dL_isDone_1161 rfl rfl ?_
                                refine G_iload C (x := v5) 12 dL_isDone_1162 rfl ?_
                                refine G_iconst C (v := 1) dL_isDone_1164 (by decide) ?_
                                obtain ⟨S351, M352, hv353, hd354, h⟩ := h
                                obtain ⟨hk356, h⟩ := h
                                obtain ⟨m359, m360, hc361, hs362, h⟩ := h
                                refine G_fxcalli C hZ hv353 hd354 (Tf := TX8) (N := 10) hk356 (by decide) rfl tw_4_147 tw_4_148 tw_4_149 tw_1_1 tw_4_150 hy_X8_of ⟨Nat.le_of_ble_eq_true rfl, Nat.le_of_ble_eq_true rfl⟩ (As := [Value.int v5, Value.int 1]) (rest := []) (c_X8_of l hl  D cy a268 v5 1 S351 m359 m360 _ _ h) rfl (by first | rfl | (simp only [ha269]; rfl) | simp only [ha269]) (by simp [va_cat, vi_cat, vl_cat]) dL_isDone_1165 ⟨hc361, hs362⟩ (fun E S357 hd355 h => ?_) (fun r358 S357 hd355 h => ?_)
                                · exact (h hd355).elim
                                · replace h := h hd355
                                  refine G_iload C (x := r316) 1 dL_isDone_1168 rfl ?_
                                  refine G_icmp_ne C (tgt := 1189) dL_isDone_1170 (by decide) (fun hc => ?_) (fun hc => ?_)
                                  · have h := h.1 hc
                                    refine G_lv C (lv' := []) [] rfl ?_
                                    exact J1189 _ _ _ h
                                  · have h := h.2 hc
                                    refine G_aload_n C (x := x0) 7 dL_isDone_1173 rfl rfl ?_
                                    refine G_iload C (x := v5) 12 dL_isDone_1174 rfl ?_
                                    refine G_iconst C (v := 4) dL_isDone_1176 (by decide) ?_
                                    obtain ⟨S363, M364, hv365, hd366, h⟩ := h
                                    obtain ⟨hk368, h⟩ := h
                                    obtain ⟨m371, m372, hc373, hs374, h⟩ := h
                                    refine G_fxcalli C hZ hv365 hd366 (Tf := TX8) (N := 10) hk368 (by decide) rfl tw_4_147 tw_4_148 tw_4_149 tw_1_1 tw_4_150 hy_X8_of ⟨Nat.le_of_ble_eq_true rfl, Nat.le_of_ble_eq_true rfl⟩ (As := [Value.int v5, Value.int 4]) (rest := []) (c_X8_of l hl  D cy a268 v5 4 S363 m371 m372 _ _ h) rfl (by first | rfl | (simp only [ha269]; rfl) | simp only [ha269]) (by simp [va_cat, vi_cat, vl_cat]) dL_isDone_1177 ⟨hc373, hs374⟩ (fun E S369 hd367 h => ?_) (fun r370 S369 hd367 h => ?_)
                                    · exact (h hd367).elim
                                    · replace h := h hd367
                                      refine G_iload C (x := r304) 2 dL_isDone_1180 rfl ?_
                                      refine G_icmp_ne C (tgt := 1189) dL_isDone_1182 (by decide) (fun hc => ?_) (fun hc => ?_)
                                      · have h := h.1 hc
                                        refine G_lv C (lv' := []) [] rfl ?_
                                        exact J1189 _ _ _ h
                                      · have h := h.2 hc
                                        refine G_iconst C (v := 1) dL_isDone_1185 (by decide) ?_
                                        refine G_goto C (tgt := 1242) dL_isDone_1186 (by decide) ?_
                                        refine G_lv C (lv' := []) [] rfl ?_
                                        exact J1242 _ _ _ _ h
                      · have h := h.2 hc
                        refine G_aload_n C (x := x0) 4 dL_isDone_1070 rfl rfl ?_
                        refine G_iload C (x := v5) 9 dL_isDone_1071 rfl ?_
                        refine G_bipush C (v := 6) dL_isDone_1073 (by decide) ?_
                        obtain ⟨S375, M376, hv377, hd378, h⟩ := h
                        obtain ⟨hk380, h⟩ := h
                        obtain ⟨m383, m384, hc385, hs386, h⟩ := h
                        refine G_fxcalli C hZ hv377 hd378 (Tf := TX8) (N := 10) hk380 (by decide) rfl tw_4_147 tw_4_148 tw_4_149 tw_1_1 tw_4_150 hy_X8_of ⟨Nat.le_of_ble_eq_true rfl, Nat.le_of_ble_eq_true rfl⟩ (As := [Value.int v5, Value.int 6]) (rest := []) (c_X8_of l hl  D cy a268 v5 6 S375 m383 m384 _ _ h) rfl (by first | rfl | (simp only [ha269]; rfl) | simp only [ha269]) (by simp [va_cat, vi_cat, vl_cat]) dL_isDone_1075 ⟨hc385, hs386⟩ (fun E S381 hd379 h => ?_) (fun r382 S381 hd379 h => ?_)
                        · exact (h hd379).elim
                        · replace h := h hd379
                          refine G_istore C (i := 10) (lv' := [(10, Value.int r382), (9, Value.int ((gA (ov S271 M264) a277 ((((4 * v5) + 1)).toNatClampNeg)) + ((x4 / 24) - (x4 / 24) / (((gA (ov S271 M264) a277 ((((4 * v5) + 2)).toNatClampNeg)) - (gA (ov S271 M264) a277 ((((4 * v5) + 1)).toNatClampNeg))) + 1) * (((gA (ov S271 M264) a277 ((((4 * v5) + 2)).toNatClampNeg)) - (gA (ov S271 M264) a277 ((((4 * v5) + 1)).toNatClampNeg))) + 1)))), (8, Value.int (gA (ov S271 M264) a277 ((((4 * v5) + 3)).toNatClampNeg))), (7, Value.int r272), (6, Value.int (x4 / 24)), (0, va_rf x0), (1, va_rf x1), (2, va_rf x2), (3, Value.int x3), (4, Value.int x4), (5, Value.int v5)]) dL_isDone_1078 (by decide) (by first | rfl | simp [va_cat, vi_cat, vl_cat]) ?_
                          refine G_aload_n C (x := x0) 5 dL_isDone_1080 rfl rfl ?_
                          refine G_bipush C (v := 16) dL_isDone_1081 (by decide) ?_
                          refine G_iload C (x := v5) 10 dL_isDone_1083 rfl ?_
                          refine G_iconst C (v := 0) dL_isDone_1085 (by decide) ?_
                          refine G_iconst C (v := 0) dL_isDone_1086 (by decide) ?_
                          refine G_iconst C (v := 0) dL_isDone_1087 (by decide) ?_
                          refine G_iconst C (v := 0) dL_isDone_1088 (by decide) ?_
                          obtain ⟨m389, m390, hc391, hs392, h⟩ := h
                          refine G_callSWi C hZ tw_2_35 tw_2_36 tw_1_0 tw_2_37 hy_L_act ⟨Nat.le_of_ble_eq_true rfl, Nat.le_of_ble_eq_true rfl⟩ (As := [va_rf x0, Value.int 16, Value.int v5, Value.int 0, Value.int 0, Value.int 0, Value.int 0]) (rest := []) (c_L_act l hl D cy e0 m0 he hm x0 16 v5 0 0 0 0 (ov S381 M376) m389 m390 _ h) rfl rfl (by simp [va_cat, vi_cat, vl_cat]) dL_isDone_1089 ⟨hc391, hs392⟩ (fun r388 S387 h => ?_)
                          refine G_iload C (x := r272) 3 dL_isDone_1092 rfl ?_
                          refine G_iconst C (v := 3) dL_isDone_1094 (by decide) ?_
                          refine G_icmp_ne C (tgt := 1105) dL_isDone_1095 (by decide) (fun hc => ?_) (fun hc => ?_)
                          · have h := h.1 hc
                            refine G_ldc C (v := (-1713000)) (im tw_4_176) dL_isDone_1105 ?_
                            refine G_lv C (lv' := []) [] rfl ?_
                            exact J1107 _ _ _ _ _ h
                          · have h := h.2 hc
                            refine G_iconst C (v := 1) dL_isDone_1098 (by decide) ?_
                            refine G_iload C (x := r382) 0 dL_isDone_1099 rfl ?_
                            refine G_isub C dL_isDone_1101 ?_
                            refine G_goto C (tgt := 1107) dL_isDone_1102 (by decide) ?_
                            refine G_lv C (lv' := []) [] rfl ?_
                            exact J1107 _ _ _ _ _ h
                    · have h := h.2 hc
                      refine G_aload_n C (x := x0) 4 dL_isDone_932 rfl rfl ?_
                      refine G_aload_n C (x := x2) 6 dL_isDone_933 rfl rfl ?_
                      refine G_iconst C (v := 4) dL_isDone_934 (by decide) ?_
                      refine G_iload C (x := v5) 9 dL_isDone_935 rfl ?_
                      refine G_imul C dL_isDone_937 ?_
                      refine G_rf1 ha278 ?_
                      obtain ⟨hi393, h⟩ := h
                      refine G_iald C hk279 hi393 dL_isDone_938 ?_
                      refine G_iload C (x := ((gA (ov S271 M264) a277 ((((4 * v5) + 1)).toNatClampNeg)) + ((x4 / 24) - (x4 / 24) / (((gA (ov S271 M264) a277 ((((4 * v5) + 2)).toNatClampNeg)) - (gA (ov S271 M264) a277 ((((4 * v5) + 1)).toNatClampNeg))) + 1) * (((gA (ov S271 M264) a277 ((((4 * v5) + 2)).toNatClampNeg)) - (gA (ov S271 M264) a277 ((((4 * v5) + 1)).toNatClampNeg))) + 1)))) 0 dL_isDone_939 rfl ?_
                      refine G_iconst C (v := 2) dL_isDone_941 (by decide) ?_
                      obtain ⟨S394, M395, hv396, hd397, h⟩ := h
                      obtain ⟨hk399, h⟩ := h
                      obtain ⟨m402, m403, hc404, hs405, h⟩ := h
                      refine G_fxcalli C hZ hv396 hd397 (Tf := TX8) (N := 10) hk399 (by decide) rfl tw_2_5 tw_2_6 tw_2_7 tw_1_1 tw_2_8 hy_X8_metre ⟨Nat.le_of_ble_eq_true rfl, Nat.le_of_ble_eq_true rfl⟩ (As := [Value.int (gA (ov S271 M264) a277 (((4 * v5)).toNatClampNeg)), Value.int ((gA (ov S271 M264) a277 ((((4 * v5) + 1)).toNatClampNeg)) + ((x4 / 24) - (x4 / 24) / (((gA (ov S271 M264) a277 ((((4 * v5) + 2)).toNatClampNeg)) - (gA (ov S271 M264) a277 ((((4 * v5) + 1)).toNatClampNeg))) + 1) * (((gA (ov S271 M264) a277 ((((4 * v5) + 2)).toNatClampNeg)) - (gA (ov S271 M264) a277 ((((4 * v5) + 1)).toNatClampNeg))) + 1))), Value.int 2]) (rest := []) (c_X8_metre l hl  D cy a268 (gA (ov S271 M264) a277 (((4 * v5)).toNatClampNeg)) ((gA (ov S271 M264) a277 ((((4 * v5) + 1)).toNatClampNeg)) + ((x4 / 24) - (x4 / 24) / (((gA (ov S271 M264) a277 ((((4 * v5) + 2)).toNatClampNeg)) - (gA (ov S271 M264) a277 ((((4 * v5) + 1)).toNatClampNeg))) + 1) * (((gA (ov S271 M264) a277 ((((4 * v5) + 2)).toNatClampNeg)) - (gA (ov S271 M264) a277 ((((4 * v5) + 1)).toNatClampNeg))) + 1))) 2 S394 m402 m403 _ _ h) rfl (by first | rfl | (simp only [ha269]; rfl) | simp only [ha269]) (by simp [va_cat, vi_cat, vl_cat]) dL_isDone_942 ⟨hc404, hs405⟩ (fun E S400 hd398 h => ?_) (fun r401 S400 hd398 h => ?_)
                      · exact (h hd398).elim
                      · replace h := h hd398
                        refine G_iload C (x := v5) 9 dL_isDone_945 rfl ?_
                        refine G_icmp_ne C (tgt := 954) dL_isDone_947 (by decide) (fun hc => ?_) (fun hc => ?_)
                        · have h := h.1 hc
                          refine G_iconst C (v := 0) dL_isDone_954 (by decide) ?_
                          refine G_lv C (lv' := [(0, va_rf x0), (2, va_rf x2), (5, Value.int v5), (6, Value.int (x4 / 24)), (9, Value.int ((gA (ov S271 M264) a277 ((((4 * v5) + 1)).toNatClampNeg)) + ((x4 / 24) - (x4 / 24) / (((gA (ov S271 M264) a277 ((((4 * v5) + 2)).toNatClampNeg)) - (gA (ov S271 M264) a277 ((((4 * v5) + 1)).toNatClampNeg))) + 1) * (((gA (ov S271 M264) a277 ((((4 * v5) + 2)).toNatClampNeg)) - (gA (ov S271 M264) a277 ((((4 * v5) + 1)).toNatClampNeg))) + 1))))]) [4, 6, 9, 3, 0] rfl ?_
                          exact J955 _ _ _ _ _ _ _ h
                        · have h := h.2 hc
                          refine G_iconst C (v := 1) dL_isDone_950 (by decide) ?_
                          refine G_goto C (tgt := 955) dL_isDone_951 (by decide) ?_
                          refine G_lv C (lv' := [(0, va_rf x0), (2, va_rf x2), (5, Value.int v5), (6, Value.int (x4 / 24)), (9, Value.int ((gA (ov S271 M264) a277 ((((4 * v5) + 1)).toNatClampNeg)) + ((x4 / 24) - (x4 / 24) / (((gA (ov S271 M264) a277 ((((4 * v5) + 2)).toNatClampNeg)) - (gA (ov S271 M264) a277 ((((4 * v5) + 1)).toNatClampNeg))) + 1) * (((gA (ov S271 M264) a277 ((((4 * v5) + 2)).toNatClampNeg)) - (gA (ov S271 M264) a277 ((((4 * v5) + 1)).toNatClampNeg))) + 1))))]) [4, 6, 9, 3, 0] rfl ?_
                          exact J955 _ _ _ _ _ _ _ h
                  · have h := h.2 hc
                    refine G_aload_n C (x := x0) 4 dL_isDone_683 rfl rfl ?_
                    refine G_iload C (x := v5) 9 dL_isDone_684 rfl ?_
                    refine G_iconst C (v := 4) dL_isDone_686 (by decide) ?_
                    obtain ⟨S406, M407, hv408, hd409, h⟩ := h
                    obtain ⟨hk411, h⟩ := h
                    obtain ⟨m414, m415, hc416, hs417, h⟩ := h
                    refine G_fxcalli C hZ hv408 hd409 (Tf := TX8) (N := 10) hk411 (by decide) rfl tw_4_147 tw_4_148 tw_4_149 tw_1_1 tw_4_150 hy_X8_of ⟨Nat.le_of_ble_eq_true rfl, Nat.le_of_ble_eq_true rfl⟩ (As := [Value.int v5, Value.int 4]) (rest := []) (c_X8_of l hl  D cy a268 v5 4 S406 m414 m415 _ _ h) rfl (by first | rfl | (simp only [ha269]; rfl) | simp only [ha269]) (by simp [va_cat, vi_cat, vl_cat]) dL_isDone_687 ⟨hc416, hs417⟩ (fun E S412 hd410 h => ?_) (fun r413 S412 hd410 h => ?_)
                    · exact (h hd410).elim
                    · replace h := h hd410
                      refine G_istore C (i := 10) (lv' := [(10, Value.int r413), (9, Value.int ((gA (ov S271 M264) a277 ((((4 * v5) + 1)).toNatClampNeg)) + ((x4 / 24) - (x4 / 24) / (((gA (ov S271 M264) a277 ((((4 * v5) + 2)).toNatClampNeg)) - (gA (ov S271 M264) a277 ((((4 * v5) + 1)).toNatClampNeg))) + 1) * (((gA (ov S271 M264) a277 ((((4 * v5) + 2)).toNatClampNeg)) - (gA (ov S271 M264) a277 ((((4 * v5) + 1)).toNatClampNeg))) + 1)))), (8, Value.int (gA (ov S271 M264) a277 ((((4 * v5) + 3)).toNatClampNeg))), (7, Value.int r272), (6, Value.int (x4 / 24)), (0, va_rf x0), (1, va_rf x1), (2, va_rf x2), (3, Value.int x3), (4, Value.int x4), (5, Value.int v5)]) dL_isDone_690 (by decide) (by first | rfl | simp [va_cat, vi_cat, vl_cat]) ?_
                      refine G_aload_n C (x := x0) 5 dL_isDone_692 rfl rfl ?_
                      refine G_iload C (x := v5) 10 dL_isDone_693 rfl ?_
                      refine G_iconst C (v := 5) dL_isDone_695 (by decide) ?_
                      obtain ⟨S418, M419, hv420, hd421, h⟩ := h
                      obtain ⟨hk423, h⟩ := h
                      obtain ⟨m426, m427, hc428, hs429, h⟩ := h
                      refine G_fxcalli C hZ hv420 hd421 (Tf := TX8) (N := 10) hk423 (by decide) rfl tw_4_147 tw_4_148 tw_4_149 tw_1_1 tw_4_150 hy_X8_of ⟨Nat.le_of_ble_eq_true rfl, Nat.le_of_ble_eq_true rfl⟩ (As := [Value.int v5, Value.int 5]) (rest := []) (c_X8_of l hl  D cy a268 v5 5 S418 m426 m427 _ _ h) rfl (by first | rfl | (simp only [ha269]; rfl) | simp only [ha269]) (by simp [va_cat, vi_cat, vl_cat]) dL_isDone_696 ⟨hc428, hs429⟩ (fun E S424 hd422 h => ?_) (fun r425 S424 hd422 h => ?_)
                      · exact (h hd422).elim
                      · replace h := h hd422
                        refine G_istore C (i := 11) (lv' := [(11, Value.int r425), (10, Value.int r413), (9, Value.int ((gA (ov S271 M264) a277 ((((4 * v5) + 1)).toNatClampNeg)) + ((x4 / 24) - (x4 / 24) / (((gA (ov S271 M264) a277 ((((4 * v5) + 2)).toNatClampNeg)) - (gA (ov S271 M264) a277 ((((4 * v5) + 1)).toNatClampNeg))) + 1) * (((gA (ov S271 M264) a277 ((((4 * v5) + 2)).toNatClampNeg)) - (gA (ov S271 M264) a277 ((((4 * v5) + 1)).toNatClampNeg))) + 1)))), (8, Value.int (gA (ov S271 M264) a277 ((((4 * v5) + 3)).toNatClampNeg))), (7, Value.int r272), (6, Value.int (x4 / 24)), (0, va_rf x0), (1, va_rf x1), (2, va_rf x2), (3, Value.int x3), (4, Value.int x4), (5, Value.int v5)]) dL_isDone_699 (by decide) (by first | rfl | simp [va_cat, vi_cat, vl_cat]) ?_
                        refine G_aload_n C (x := x0) 6 dL_isDone_701 rfl rfl ?_
                        refine G_aload_n C (x := x2) 8 dL_isDone_702 rfl rfl ?_
                        refine G_iconst C (v := 4) dL_isDone_703 (by decide) ?_
                        refine G_iload C (x := v5) 11 dL_isDone_704 rfl ?_
                        refine G_imul C dL_isDone_706 ?_
                        refine G_rf1 ha278 ?_
                        obtain ⟨hk430, h⟩ := h
                        obtain ⟨hi431, h⟩ := h
                        refine G_iald C hk430 hi431 dL_isDone_707 ?_
                        refine G_iload C (x := ((gA (ov S271 M264) a277 ((((4 * v5) + 1)).toNatClampNeg)) + ((x4 / 24) - (x4 / 24) / (((gA (ov S271 M264) a277 ((((4 * v5) + 2)).toNatClampNeg)) - (gA (ov S271 M264) a277 ((((4 * v5) + 1)).toNatClampNeg))) + 1) * (((gA (ov S271 M264) a277 ((((4 * v5) + 2)).toNatClampNeg)) - (gA (ov S271 M264) a277 ((((4 * v5) + 1)).toNatClampNeg))) + 1)))) 2 dL_isDone_708 rfl ?_
                        refine G_iconst C (v := 1) dL_isDone_710 (by decide) ?_
                        obtain ⟨S432, M433, hv434, hd435, h⟩ := h
                        obtain ⟨hk437, h⟩ := h
                        obtain ⟨m440, m441, hc442, hs443, h⟩ := h
                        refine G_fxcalli C hZ hv434 hd435 (Tf := TX8) (N := 10) hk437 (by decide) rfl tw_2_5 tw_2_6 tw_2_7 tw_1_1 tw_2_8 hy_X8_metre ⟨Nat.le_of_ble_eq_true rfl, Nat.le_of_ble_eq_true rfl⟩ (As := [Value.int (gA (ov S424 M419) a277 (((4 * v5)).toNatClampNeg)), Value.int ((gA (ov S271 M264) a277 ((((4 * v5) + 1)).toNatClampNeg)) + ((x4 / 24) - (x4 / 24) / (((gA (ov S271 M264) a277 ((((4 * v5) + 2)).toNatClampNeg)) - (gA (ov S271 M264) a277 ((((4 * v5) + 1)).toNatClampNeg))) + 1) * (((gA (ov S271 M264) a277 ((((4 * v5) + 2)).toNatClampNeg)) - (gA (ov S271 M264) a277 ((((4 * v5) + 1)).toNatClampNeg))) + 1))), Value.int 1]) (rest := []) (c_X8_metre l hl  D cy a268 (gA (ov S424 M419) a277 (((4 * v5)).toNatClampNeg)) ((gA (ov S271 M264) a277 ((((4 * v5) + 1)).toNatClampNeg)) + ((x4 / 24) - (x4 / 24) / (((gA (ov S271 M264) a277 ((((4 * v5) + 2)).toNatClampNeg)) - (gA (ov S271 M264) a277 ((((4 * v5) + 1)).toNatClampNeg))) + 1) * (((gA (ov S271 M264) a277 ((((4 * v5) + 2)).toNatClampNeg)) - (gA (ov S271 M264) a277 ((((4 * v5) + 1)).toNatClampNeg))) + 1))) 1 S432 m440 m441 _ _ h) rfl (by first | rfl | (simp only [ha269]; rfl) | simp only [ha269]) (by simp [va_cat, vi_cat, vl_cat]) dL_isDone_711 ⟨hc442, hs443⟩ (fun E S438 hd436 h => ?_) (fun r439 S438 hd436 h => ?_)
                        · exact (h hd436).elim
                        · replace h := h hd436
                          refine G_iconst C (v := 1) dL_isDone_714 (by decide) ?_
                          refine G_icmp_ne C (tgt := 722) dL_isDone_715 (by decide) (fun hc => ?_) (fun hc => ?_)
                          · have h := h.1 hc
                            refine G_iconst C (v := 0) dL_isDone_722 (by decide) ?_
                            refine G_lv C (lv' := [(0, va_rf x0), (2, va_rf x2), (5, Value.int v5), (7, Value.int r272), (8, Value.int (gA (ov S271 M264) a277 ((((4 * v5) + 3)).toNatClampNeg))), (9, Value.int ((gA (ov S271 M264) a277 ((((4 * v5) + 1)).toNatClampNeg)) + ((x4 / 24) - (x4 / 24) / (((gA (ov S271 M264) a277 ((((4 * v5) + 2)).toNatClampNeg)) - (gA (ov S271 M264) a277 ((((4 * v5) + 1)).toNatClampNeg))) + 1) * (((gA (ov S271 M264) a277 ((((4 * v5) + 2)).toNatClampNeg)) - (gA (ov S271 M264) a277 ((((4 * v5) + 1)).toNatClampNeg))) + 1)))), (10, Value.int r413), (11, Value.int r425)]) [6, 8, 11, 4, 3, 2, 1, 0] rfl ?_
                            exact J723 _ _ _ _ _ _ _ _ _ _ h
                          · have h := h.2 hc
                            refine G_iconst C (v := 1) dL_isDone_718 (by decide) ?_
                            refine G_goto C (tgt := 723) dL_isDone_719 (by decide) ?_
                            refine G_lv C (lv' := [(0, va_rf x0), (2, va_rf x2), (5, Value.int v5), (7, Value.int r272), (8, Value.int (gA (ov S271 M264) a277 ((((4 * v5) + 3)).toNatClampNeg))), (9, Value.int ((gA (ov S271 M264) a277 ((((4 * v5) + 1)).toNatClampNeg)) + ((x4 / 24) - (x4 / 24) / (((gA (ov S271 M264) a277 ((((4 * v5) + 2)).toNatClampNeg)) - (gA (ov S271 M264) a277 ((((4 * v5) + 1)).toNatClampNeg))) + 1) * (((gA (ov S271 M264) a277 ((((4 * v5) + 2)).toNatClampNeg)) - (gA (ov S271 M264) a277 ((((4 * v5) + 1)).toNatClampNeg))) + 1)))), (10, Value.int r413), (11, Value.int r425)]) [6, 8, 11, 4, 3, 2, 1, 0] rfl ?_
                            exact J723 _ _ _ _ _ _ _ _ _ _ h
                · have h := h.2 hc
                  refine G_aload_n C (x := x0) 3 dL_isDone_557 rfl rfl ?_
                  refine G_bipush C (v := 13) dL_isDone_558 (by decide) ?_
                  refine G_iload C (x := v5) 8 dL_isDone_560 rfl ?_
                  refine G_iconst C (v := 0) dL_isDone_562 (by decide) ?_
                  refine G_iconst C (v := 0) dL_isDone_563 (by decide) ?_
                  refine G_iconst C (v := 0) dL_isDone_564 (by decide) ?_
                  refine G_iconst C (v := 0) dL_isDone_565 (by decide) ?_
                  obtain ⟨m446, m447, hc448, hs449, h⟩ := h
                  refine G_callSWi C hZ tw_2_35 tw_2_36 tw_1_0 tw_2_37 hy_L_act ⟨Nat.le_of_ble_eq_true rfl, Nat.le_of_ble_eq_true rfl⟩ (As := [va_rf x0, Value.int 13, Value.int v5, Value.int 0, Value.int 0, Value.int 0, Value.int 0]) (rest := []) (c_L_act l hl D cy e0 m0 he hm x0 13 v5 0 0 0 0 (ov S271 M264) m446 m447 _ h) rfl rfl (by simp [va_cat, vi_cat, vl_cat]) dL_isDone_566 ⟨hc448, hs449⟩ (fun r445 S444 h => ?_)
                  refine G_istore C (i := 9) (lv' := [(9, Value.int r445), (8, Value.int (gA (ov S271 M264) a277 ((((4 * v5) + 3)).toNatClampNeg))), (7, Value.int r272), (6, Value.int (x4 / 24)), (0, va_rf x0), (1, va_rf x1), (2, va_rf x2), (3, Value.int x3), (4, Value.int x4), (5, Value.int v5)]) dL_isDone_569 (by decide) (by first | rfl | simp [va_cat, vi_cat, vl_cat]) ?_
                  refine G_iload C (x := r445) 0 dL_isDone_571 rfl ?_
                  refine G_ldc C (v := (-1713000)) (im tw_4_176) dL_isDone_573 ?_
                  refine G_icmp_ne C (tgt := 598) dL_isDone_575 (by decide) (fun hc => ?_) (fun hc => ?_)
                  · have h := h.1 hc
                    refine G_iload C (x := r272) 2 dL_isDone_598 rfl ?_
                    refine G_iconst C (v := 1) dL_isDone_600 (by decide) ?_
                    refine G_icmp_ne C (tgt := 642) dL_isDone_601 (by decide) (fun hc => ?_) (fun hc => ?_)
                    · have h := h.1 hc
                      refine G_lv C (lv' := []) [] rfl ?_
                      exact J642 _ _ _ h
                    · have h := h.2 hc
                      refine G_aload_n C (x := x0) 4 dL_isDone_604 rfl rfl ?_
                      refine G_iload C (x := v5) 9 dL_isDone_605 rfl ?_
                      refine G_iconst C (v := 0) dL_isDone_607 (by decide) ?_
                      obtain ⟨S450, M451, hv452, hd453, h⟩ := h
                      obtain ⟨hk455, h⟩ := h
                      obtain ⟨m458, m459, hc460, hs461, h⟩ := h
                      refine G_fxcalli C hZ hv452 hd453 (Tf := TX8) (N := 10) hk455 (by decide) rfl tw_4_147 tw_4_148 tw_4_149 tw_1_1 tw_4_150 hy_X8_of ⟨Nat.le_of_ble_eq_true rfl, Nat.le_of_ble_eq_true rfl⟩ (As := [Value.int v5, Value.int 0]) (rest := []) (c_X8_of l hl  D cy a268 v5 0 S450 m458 m459 _ _ h) rfl (by first | rfl | (simp only [ha269]; rfl) | simp only [ha269]) (by simp [va_cat, vi_cat, vl_cat]) dL_isDone_608 ⟨hc460, hs461⟩ (fun E S456 hd454 h => ?_) (fun r457 S456 hd454 h => ?_)
                      · exact (h hd454).elim
                      · replace h := h hd454
                        refine G_iconst C (v := 3) dL_isDone_611 (by decide) ?_
                        refine G_icmp_ne C (tgt := 642) dL_isDone_612 (by decide) (fun hc => ?_) (fun hc => ?_)
                        · have h := h.1 hc
                          refine G_lv C (lv' := []) [] rfl ?_
                          exact J642 _ _ _ h
                        · have h := h.2 hc
                          refine G_iload C (x := r445) 0 dL_isDone_615 rfl ?_
                          refine G_aload_n C (x := x0) 4 dL_isDone_617 rfl rfl ?_
                          refine G_iload C (x := v5) 9 dL_isDone_618 rfl ?_
                          refine G_iconst C (v := 1) dL_isDone_620 (by decide) ?_
                          obtain ⟨S462, M463, hv464, hd465, h⟩ := h
                          obtain ⟨hk467, h⟩ := h
                          obtain ⟨m470, m471, hc472, hs473, h⟩ := h
                          refine G_fxcalli C hZ hv464 hd465 (Tf := TX8) (N := 10) hk467 (by decide) rfl tw_4_147 tw_4_148 tw_4_149 tw_1_1 tw_4_150 hy_X8_of ⟨Nat.le_of_ble_eq_true rfl, Nat.le_of_ble_eq_true rfl⟩ (As := [Value.int v5, Value.int 1]) (rest := [Value.int r445]) (c_X8_of l hl  D cy a268 v5 1 S462 m470 m471 _ _ h) rfl (by first | rfl | (simp only [ha269]; rfl) | simp only [ha269]) (by simp [va_cat, vi_cat, vl_cat]) dL_isDone_621 ⟨hc472, hs473⟩ (fun E S468 hd466 h => ?_) (fun r469 S468 hd466 h => ?_)
                          · exact (h hd466).elim
                          · replace h := h hd466
                            refine G_icmp_ne C (tgt := 642) dL_isDone_624 (by decide) (fun hc => ?_) (fun hc => ?_)
                            · have h := h.1 hc
                              refine G_lv C (lv' := []) [] rfl ?_
                              exact J642 _ _ _ h
                            · have h := h.2 hc
                              refine G_aload_n C (x := x1) 5 dL_isDone_627 rfl rfl ?_
                              refine G_iconst C (v := 0) dL_isDone_628 (by decide) ?_
                              obtain ⟨a474, ha475, h⟩ := h
                              refine G_rf1 ha475 ?_
                              obtain ⟨hk476, h⟩ := h
                              obtain ⟨hi477, h⟩ := h
                              refine G_iald C hk476 hi477 dL_isDone_629 ?_
                              refine G_bipush C (v := 24) dL_isDone_630 (by decide) ?_
                              refine G_idiv C dL_isDone_632 (by decide) ?_
                              refine G_iload C (x := r445) 0 dL_isDone_633 rfl ?_
                              refine G_icmp_gt C (tgt := 642) dL_isDone_635 (by decide) (fun hc => ?_) (fun hc => ?_)
                              · have h := h.1 hc
                                refine G_lv C (lv' := []) [] rfl ?_
                                exact J642 _ _ _ h
                              · have h := h.2 hc
                                refine G_iconst C (v := 1) dL_isDone_638 (by decide) ?_
                                refine G_goto C (tgt := 643) dL_isDone_639 (by decide) ?_
                                refine G_lv C (lv' := []) [] rfl ?_
                                exact J643 _ _ _ _ h
                  · have h := h.2 hc
                    refine G_aload_n C (x := x0) 4 dL_isDone_578 rfl rfl ?_
                    refine G_iload C (x := v5) 9 dL_isDone_579 rfl ?_
                    refine G_iconst C (v := 0) dL_isDone_581 (by decide) ?_
                    obtain ⟨S478, M479, hv480, hd481, h⟩ := h
                    obtain ⟨hk483, h⟩ := h
                    obtain ⟨m486, m487, hc488, hs489, h⟩ := h
                    refine G_fxcalli C hZ hv480 hd481 (Tf := TX8) (N := 10) hk483 (by decide) rfl tw_4_147 tw_4_148 tw_4_149 tw_1_1 tw_4_150 hy_X8_of ⟨Nat.le_of_ble_eq_true rfl, Nat.le_of_ble_eq_true rfl⟩ (As := [Value.int v5, Value.int 0]) (rest := []) (c_X8_of l hl  D cy a268 v5 0 S478 m486 m487 _ _ h) rfl (by first | rfl | (simp only [ha269]; rfl) | simp only [ha269]) (by simp [va_cat, vi_cat, vl_cat]) dL_isDone_582 ⟨hc488, hs489⟩ (fun E S484 hd482 h => ?_) (fun r485 S484 hd482 h => ?_)
                    · exact (h hd482).elim
                    · replace h := h hd482
                      refine G_iload C (x := r272) 2 dL_isDone_585 rfl ?_
                      refine G_icmp_ne C (tgt := 594) dL_isDone_587 (by decide) (fun hc => ?_) (fun hc => ?_)
                      · have h := h.1 hc
                        refine G_iconst C (v := 0) dL_isDone_594 (by decide) ?_
                        refine G_goto C (tgt := 643) dL_isDone_595 (by decide) ?_
                        refine G_lv C (lv' := []) [] rfl ?_
                        exact J643 _ _ _ _ h
                      · have h := h.2 hc
                        refine G_iconst C (v := 1) dL_isDone_590 (by decide) ?_
                        refine G_goto C (tgt := 643) dL_isDone_591 (by decide) ?_
                        refine G_lv C (lv' := []) [] rfl ?_
                        exact J643 _ _ _ _ h
              · have h := h.2 hc
                refine G_iload C (x := (x4 / 24)) 2 dL_isDone_432 rfl ?_
                refine G_aload_n C (x := x1) 4 dL_isDone_434 rfl rfl ?_
                refine G_iconst C (v := 3) dL_isDone_435 (by decide) ?_
                obtain ⟨a490, ha491, h⟩ := h
                refine G_rf1 ha491 ?_
                obtain ⟨hk492, h⟩ := h
                obtain ⟨hi493, h⟩ := h
                refine G_iald C hk492 hi493 dL_isDone_436 ?_
                obtain ⟨hn494, h⟩ := h
                refine G_irem C dL_isDone_437 hn494 ?_
                refine G_istore C (i := 9) (lv' := [(9, Value.int ((x4 / 24) - (x4 / 24) / (gA (ov S271 M264) a490 ((3 : Int32).toNatClampNeg)) * (gA (ov S271 M264) a490 ((3 : Int32).toNatClampNeg)))), (8, Value.int (gA (ov S271 M264) a277 ((((4 * v5) + 3)).toNatClampNeg))), (7, Value.int r272), (6, Value.int (x4 / 24)), (0, va_rf x0), (1, va_rf x1), (2, va_rf x2), (3, Value.int x3), (4, Value.int x4), (5, Value.int v5)]) dL_isDone_438 (by decide) (by first | rfl | simp [va_cat, vi_cat, vl_cat]) ?_
                refine G_aload_n C (x := x0) 4 dL_isDone_440 rfl rfl ?_
                refine G_bipush C (v := 12) dL_isDone_441 (by decide) ?_
                refine G_iload C (x := v5) 9 dL_isDone_443 rfl ?_
                refine G_iload C (x := ((x4 / 24) - (x4 / 24) / (gA (ov S271 M264) a490 ((3 : Int32).toNatClampNeg)) * (gA (ov S271 M264) a490 ((3 : Int32).toNatClampNeg)))) 0 dL_isDone_445 rfl ?_
                refine G_iconst C (v := 0) dL_isDone_447 (by decide) ?_
                refine G_iconst C (v := 0) dL_isDone_448 (by decide) ?_
                refine G_iconst C (v := 0) dL_isDone_449 (by decide) ?_
                obtain ⟨m497, m498, hc499, hs500, h⟩ := h
                refine G_callSWi C hZ tw_2_35 tw_2_36 tw_1_0 tw_2_37 hy_L_act ⟨Nat.le_of_ble_eq_true rfl, Nat.le_of_ble_eq_true rfl⟩ (As := [va_rf x0, Value.int 12, Value.int v5, Value.int ((x4 / 24) - (x4 / 24) / (gA (ov S271 M264) a490 ((3 : Int32).toNatClampNeg)) * (gA (ov S271 M264) a490 ((3 : Int32).toNatClampNeg))), Value.int 0, Value.int 0, Value.int 0]) (rest := []) (c_L_act l hl D cy e0 m0 he hm x0 12 v5 ((x4 / 24) - (x4 / 24) / (gA (ov S271 M264) a490 ((3 : Int32).toNatClampNeg)) * (gA (ov S271 M264) a490 ((3 : Int32).toNatClampNeg))) 0 0 0 (ov S271 M264) m497 m498 _ h) rfl rfl (by simp [va_cat, vi_cat, vl_cat]) dL_isDone_450 ⟨hc499, hs500⟩ (fun r496 S495 h => ?_)
                refine G_istore C (i := 10) (lv' := [(10, Value.int r496), (9, Value.int ((x4 / 24) - (x4 / 24) / (gA (ov S271 M264) a490 ((3 : Int32).toNatClampNeg)) * (gA (ov S271 M264) a490 ((3 : Int32).toNatClampNeg)))), (8, Value.int (gA (ov S271 M264) a277 ((((4 * v5) + 3)).toNatClampNeg))), (7, Value.int r272), (6, Value.int (x4 / 24)), (0, va_rf x0), (1, va_rf x1), (2, va_rf x2), (3, Value.int x3), (4, Value.int x4), (5, Value.int v5)]) dL_isDone_453 (by decide) (by first | rfl | simp [va_cat, vi_cat, vl_cat]) ?_
                refine G_iload C (x := ((x4 / 24) - (x4 / 24) / (gA (ov S271 M264) a490 ((3 : Int32).toNatClampNeg)) * (gA (ov S271 M264) a490 ((3 : Int32).toNatClampNeg)))) 1 dL_isDone_455 rfl ?_
                refine G_iload C (x := v5) 10 dL_isDone_457 rfl ?_
                refine G_icmp_ne C (tgt := 477) dL_isDone_459 (by decide) (fun hc => ?_) (fun hc => ?_)
                · have h := h.1 hc
                  refine G_iload C (x := r496) 0 dL_isDone_477 rfl ?_
                  refine G_if_lt C (tgt := 504) dL_isDone_479 (by decide) (fun hc => ?_) (fun hc => ?_)
                  · have h := h.1 hc
                    refine G_lv C (lv' := [(0, va_rf x0), (5, Value.int v5), (6, Value.int (x4 / 24)), (9, Value.int ((x4 / 24) - (x4 / 24) / (gA (ov S271 M264) a490 ((3 : Int32).toNatClampNeg)) * (gA (ov S271 M264) a490 ((3 : Int32).toNatClampNeg)))), (10, Value.int r496)]) [5, 10, 4, 1, 0] rfl ?_
                    exact J504 _ _ _ _ _ _ _ h
                  · have h := h.2 hc
                    refine G_iload C (x := r496) 0 dL_isDone_482 rfl ?_
                    refine G_if_eq C (tgt := 500) dL_isDone_484 (by decide) (fun hc => ?_) (fun hc => ?_)
                    · have h := h.1 hc
                      refine G_lv C (lv' := [(0, va_rf x0), (5, Value.int v5), (6, Value.int (x4 / 24)), (9, Value.int ((x4 / 24) - (x4 / 24) / (gA (ov S271 M264) a490 ((3 : Int32).toNatClampNeg)) * (gA (ov S271 M264) a490 ((3 : Int32).toNatClampNeg)))), (10, Value.int r496)]) [5, 10, 4, 1, 0] rfl ?_
                      exact J500 _ _ _ _ _ _ _ h
                    · have h := h.2 hc
                      refine G_aload_n C (x := x0) 5 dL_isDone_487 rfl rfl ?_
                      refine G_iload C (x := v5) 10 dL_isDone_488 rfl ?_
                      refine G_iload C (x := ((x4 / 24) - (x4 / 24) / (gA (ov S271 M264) a490 ((3 : Int32).toNatClampNeg)) * (gA (ov S271 M264) a490 ((3 : Int32).toNatClampNeg)))) 1 dL_isDone_490 rfl ?_
                      obtain ⟨S501, M502, hv503, hd504, h⟩ := h
                      obtain ⟨hk506, h⟩ := h
                      obtain ⟨m509, m510, hc511, hs512, h⟩ := h
                      refine G_fxcalli C hZ hv503 hd504 (Tf := TX8) (N := 10) hk506 (by decide) rfl tw_4_142 tw_4_143 tw_4_144 tw_1_1 tw_4_145 hy_X8_meets ⟨Nat.le_of_ble_eq_true rfl, Nat.le_of_ble_eq_true rfl⟩ (As := [Value.int v5, Value.int ((x4 / 24) - (x4 / 24) / (gA (ov S271 M264) a490 ((3 : Int32).toNatClampNeg)) * (gA (ov S271 M264) a490 ((3 : Int32).toNatClampNeg)))]) (rest := []) (c_X8_meets l hl  D cy a268 v5 ((x4 / 24) - (x4 / 24) / (gA (ov S271 M264) a490 ((3 : Int32).toNatClampNeg)) * (gA (ov S271 M264) a490 ((3 : Int32).toNatClampNeg))) S501 m509 m510 _ _ h) rfl (by first | rfl | (simp only [ha269]; rfl) | simp only [ha269]) (by simp [va_cat, vi_cat, vl_cat]) dL_isDone_492 ⟨hc511, hs512⟩ (fun E S507 hd505 h => ?_) (fun r508 S507 hd505 h => ?_)
                      · exact (h hd505).elim
                      · replace h := h hd505
                        refine G_iload C (x := ((x4 / 24) - (x4 / 24) / (gA (ov S271 M264) a490 ((3 : Int32).toNatClampNeg)) * (gA (ov S271 M264) a490 ((3 : Int32).toNatClampNeg)))) 1 dL_isDone_495 rfl ?_
                        refine G_icmp_eq C (tgt := 504) dL_isDone_497 (by decide) (fun hc => ?_) (fun hc => ?_)
                        · have h := h.1 hc
                          refine G_lv C (lv' := [(0, va_rf x0), (5, Value.int v5), (6, Value.int (x4 / 24)), (9, Value.int ((x4 / 24) - (x4 / 24) / (gA (ov S271 M264) a490 ((3 : Int32).toNatClampNeg)) * (gA (ov S271 M264) a490 ((3 : Int32).toNatClampNeg)))), (10, Value.int r496)]) [5, 10, 4, 1, 0] rfl ?_
                          exact J504 _ _ _ _ _ _ _ h
                        · have h := h.2 hc
                          refine G_lv C (lv' := [(0, va_rf x0), (5, Value.int v5), (6, Value.int (x4 / 24)), (9, Value.int ((x4 / 24) - (x4 / 24) / (gA (ov S271 M264) a490 ((3 : Int32).toNatClampNeg)) * (gA (ov S271 M264) a490 ((3 : Int32).toNatClampNeg)))), (10, Value.int r496)]) [5, 10, 4, 1, 0] rfl ?_
                          exact J500 _ _ _ _ _ _ _ h
                · have h := h.2 hc
                  refine G_iload C (x := r496) 0 dL_isDone_462 rfl ?_
                  refine G_ldc C (v := (-1712000)) (im tw_4_175) dL_isDone_464 ?_
                  refine G_icmp_ne C (tgt := 473) dL_isDone_466 (by decide) (fun hc => ?_) (fun hc => ?_)
                  · have h := h.1 hc
                    refine G_iconst C (v := 0) dL_isDone_473 (by decide) ?_
                    refine G_goto C (tgt := 505) dL_isDone_474 (by decide) ?_
                    refine G_lv C (lv' := [(0, va_rf x0), (5, Value.int v5), (6, Value.int (x4 / 24)), (9, Value.int ((x4 / 24) - (x4 / 24) / (gA (ov S271 M264) a490 ((3 : Int32).toNatClampNeg)) * (gA (ov S271 M264) a490 ((3 : Int32).toNatClampNeg)))), (10, Value.int r496)]) [5, 10, 4, 1, 0] rfl ?_
                    exact J505 _ _ _ _ _ _ _ _ h
                  · have h := h.2 hc
                    refine G_iconst C (v := 1) dL_isDone_469 (by decide) ?_
                    refine G_goto C (tgt := 505) dL_isDone_470 (by decide) ?_
                    refine G_lv C (lv' := [(0, va_rf x0), (5, Value.int v5), (6, Value.int (x4 / 24)), (9, Value.int ((x4 / 24) - (x4 / 24) / (gA (ov S271 M264) a490 ((3 : Int32).toNatClampNeg)) * (gA (ov S271 M264) a490 ((3 : Int32).toNatClampNeg)))), (10, Value.int r496)]) [5, 10, 4, 1, 0] rfl ?_
                    exact J505 _ _ _ _ _ _ _ _ h
            · have h := h.2 hc
              refine G_aload_n C (x := x0) 3 dL_isDone_377 rfl rfl ?_
              refine G_iload C (x := v5) 8 dL_isDone_378 rfl ?_
              refine G_bipush C (v := 7) dL_isDone_380 (by decide) ?_
              obtain ⟨S513, M514, hv515, hd516, h⟩ := h
              obtain ⟨hk518, h⟩ := h
              obtain ⟨m521, m522, hc523, hs524, h⟩ := h
              refine G_fxcalli C hZ hv515 hd516 (Tf := TX8) (N := 10) hk518 (by decide) rfl tw_4_147 tw_4_148 tw_4_149 tw_1_1 tw_4_150 hy_X8_of ⟨Nat.le_of_ble_eq_true rfl, Nat.le_of_ble_eq_true rfl⟩ (As := [Value.int v5, Value.int 7]) (rest := []) (c_X8_of l hl  D cy a268 v5 7 S513 m521 m522 _ _ h) rfl (by first | rfl | (simp only [ha269]; rfl) | simp only [ha269]) (by simp [va_cat, vi_cat, vl_cat]) dL_isDone_382 ⟨hc523, hs524⟩ (fun E S519 hd517 h => ?_) (fun r520 S519 hd517 h => ?_)
              · exact (h hd517).elim
              · replace h := h hd517
                refine G_istore C (i := 9) (lv' := [(9, Value.int r520), (8, Value.int (gA (ov S271 M264) a277 ((((4 * v5) + 3)).toNatClampNeg))), (7, Value.int r272), (6, Value.int (x4 / 24)), (0, va_rf x0), (1, va_rf x1), (2, va_rf x2), (3, Value.int x3), (4, Value.int x4), (5, Value.int v5)]) dL_isDone_385 (by decide) (by first | rfl | simp [va_cat, vi_cat, vl_cat]) ?_
                refine G_aload_n C (x := x0) 4 dL_isDone_387 rfl rfl ?_
                refine G_bipush C (v := 11) dL_isDone_388 (by decide) ?_
                refine G_iload C (x := v5) 9 dL_isDone_390 rfl ?_
                refine G_iconst C (v := 0) dL_isDone_392 (by decide) ?_
                refine G_iconst C (v := 0) dL_isDone_393 (by decide) ?_
                refine G_iconst C (v := 0) dL_isDone_394 (by decide) ?_
                refine G_iconst C (v := 0) dL_isDone_395 (by decide) ?_
                obtain ⟨m527, m528, hc529, hs530, h⟩ := h
                refine G_callSWi C hZ tw_2_35 tw_2_36 tw_1_0 tw_2_37 hy_L_act ⟨Nat.le_of_ble_eq_true rfl, Nat.le_of_ble_eq_true rfl⟩ (As := [va_rf x0, Value.int 11, Value.int v5, Value.int 0, Value.int 0, Value.int 0, Value.int 0]) (rest := []) (c_L_act l hl D cy e0 m0 he hm x0 11 v5 0 0 0 0 (ov S519 M514) m527 m528 _ h) rfl rfl (by simp [va_cat, vi_cat, vl_cat]) dL_isDone_396 ⟨hc529, hs530⟩ (fun r526 S525 h => ?_)
                refine G_iconst C (v := 1) dL_isDone_399 (by decide) ?_
                refine G_iload C (x := r520) 0 dL_isDone_400 rfl ?_
                refine G_isub C dL_isDone_402 ?_
                refine G_icmp_ne C (tgt := 425) dL_isDone_403 (by decide) (fun hc => ?_) (fun hc => ?_)
                · have h := h.1 hc
                  refine G_lv C (lv' := []) [] rfl ?_
                  exact J425 _ _ _ h
                · have h := h.2 hc
                  refine G_aload_n C (x := x0) 4 dL_isDone_406 rfl rfl ?_
                  refine G_iload C (x := v5) 9 dL_isDone_407 rfl ?_
                  refine G_bipush C (v := 7) dL_isDone_409 (by decide) ?_
                  obtain ⟨S531, M532, hv533, hd534, h⟩ := h
                  obtain ⟨hk536, h⟩ := h
                  obtain ⟨m539, m540, hc541, hs542, h⟩ := h
                  refine G_fxcalli C hZ hv533 hd534 (Tf := TX8) (N := 10) hk536 (by decide) rfl tw_4_147 tw_4_148 tw_4_149 tw_1_1 tw_4_150 hy_X8_of ⟨Nat.le_of_ble_eq_true rfl, Nat.le_of_ble_eq_true rfl⟩ (As := [Value.int v5, Value.int 7]) (rest := []) (c_X8_of l hl  D cy a268 v5 7 S531 m539 m540 _ _ h) rfl (by first | rfl | (simp only [ha269]; rfl) | simp only [ha269]) (by simp [va_cat, vi_cat, vl_cat]) dL_isDone_411 ⟨hc541, hs542⟩ (fun E S537 hd535 h => ?_) (fun r538 S537 hd535 h => ?_)
                  · exact (h hd535).elim
                  · replace h := h hd535
                    refine G_iconst C (v := 1) dL_isDone_414 (by decide) ?_
                    refine G_iload C (x := r520) 0 dL_isDone_415 rfl ?_
                    refine G_isub C dL_isDone_417 ?_
                    refine G_icmp_ne C (tgt := 425) dL_isDone_418 (by decide) (fun hc => ?_) (fun hc => ?_)
                    · have h := h.1 hc
                      refine G_lv C (lv' := []) [] rfl ?_
                      exact J425 _ _ _ h
                    · have h := h.2 hc
                      refine G_iconst C (v := 1) dL_isDone_421 (by decide) ?_
                      refine G_goto C (tgt := 426) dL_isDone_422 (by decide) ?_
                      refine G_lv C (lv' := []) [] rfl ?_
                      exact J426 _ _ _ _ h
          · have h := h.2 hc
            refine G_aload_n C (x := x0) 3 dL_isDone_278 rfl rfl ?_
            refine G_iload C (x := v5) 8 dL_isDone_279 rfl ?_
            refine G_iconst C (v := 3) dL_isDone_281 (by decide) ?_
            obtain ⟨S543, M544, hv545, hd546, h⟩ := h
            obtain ⟨hk548, h⟩ := h
            obtain ⟨m551, m552, hc553, hs554, h⟩ := h
            refine G_fxcalli C hZ hv545 hd546 (Tf := TX8) (N := 10) hk548 (by decide) rfl tw_4_147 tw_4_148 tw_4_149 tw_1_1 tw_4_150 hy_X8_of ⟨Nat.le_of_ble_eq_true rfl, Nat.le_of_ble_eq_true rfl⟩ (As := [Value.int v5, Value.int 3]) (rest := []) (c_X8_of l hl  D cy a268 v5 3 S543 m551 m552 _ _ h) rfl (by first | rfl | (simp only [ha269]; rfl) | simp only [ha269]) (by simp [va_cat, vi_cat, vl_cat]) dL_isDone_282 ⟨hc553, hs554⟩ (fun E S549 hd547 h => ?_) (fun r550 S549 hd547 h => ?_)
            · exact (h hd547).elim
            · replace h := h hd547
              refine G_istore C (i := 9) (lv' := [(9, Value.int r550), (8, Value.int (gA (ov S271 M264) a277 ((((4 * v5) + 3)).toNatClampNeg))), (7, Value.int r272), (6, Value.int (x4 / 24)), (0, va_rf x0), (1, va_rf x1), (2, va_rf x2), (3, Value.int x3), (4, Value.int x4), (5, Value.int v5)]) dL_isDone_285 (by decide) (by first | rfl | simp [va_cat, vi_cat, vl_cat]) ?_
              refine G_aload_n C (x := x0) 4 dL_isDone_287 rfl rfl ?_
              refine G_bipush C (v := 10) dL_isDone_288 (by decide) ?_
              refine G_iload C (x := v5) 9 dL_isDone_290 rfl ?_
              refine G_iload C (x := (x4 / 24)) 3 dL_isDone_292 rfl ?_
              refine G_iconst C (v := 4) dL_isDone_294 (by decide) ?_
              refine G_irem C dL_isDone_295 (by decide) ?_
              refine G_iconst C (v := 0) dL_isDone_296 (by decide) ?_
              refine G_iconst C (v := 0) dL_isDone_297 (by decide) ?_
              refine G_iconst C (v := 0) dL_isDone_298 (by decide) ?_
              obtain ⟨m557, m558, hc559, hs560, h⟩ := h
              refine G_callSWi C hZ tw_2_35 tw_2_36 tw_1_0 tw_2_37 hy_L_act ⟨Nat.le_of_ble_eq_true rfl, Nat.le_of_ble_eq_true rfl⟩ (As := [va_rf x0, Value.int 10, Value.int v5, Value.int ((x4 / 24) - (x4 / 24) / 4 * 4), Value.int 0, Value.int 0, Value.int 0]) (rest := []) (c_L_act l hl D cy e0 m0 he hm x0 10 v5 ((x4 / 24) - (x4 / 24) / 4 * 4) 0 0 0 (ov S549 M544) m557 m558 _ h) rfl rfl (by simp [va_cat, vi_cat, vl_cat]) dL_isDone_299 ⟨hc559, hs560⟩ (fun r556 S555 h => ?_)
              refine G_istore C (i := 10) (lv' := [(10, Value.int r556), (9, Value.int r550), (8, Value.int (gA (ov S271 M264) a277 ((((4 * v5) + 3)).toNatClampNeg))), (7, Value.int r272), (6, Value.int (x4 / 24)), (0, va_rf x0), (1, va_rf x1), (2, va_rf x2), (3, Value.int x3), (4, Value.int x4), (5, Value.int v5)]) dL_isDone_302 (by decide) (by first | rfl | simp [va_cat, vi_cat, vl_cat]) ?_
              refine G_iload C (x := r272) 3 dL_isDone_304 rfl ?_
              refine G_iconst C (v := 1) dL_isDone_306 (by decide) ?_
              refine G_icmp_eq C (tgt := 316) dL_isDone_307 (by decide) (fun hc => ?_) (fun hc => ?_)
              · have h := h.1 hc
                refine G_lv C (lv' := [(0, va_rf x0), (5, Value.int v5), (6, Value.int (x4 / 24)), (9, Value.int r550), (10, Value.int r556)]) [5, 10, 4, 1, 0] rfl ?_
                exact J316 _ _ _ _ _ _ _ h
              · have h := h.2 hc
                refine G_iload C (x := r272) 3 dL_isDone_310 rfl ?_
                refine G_iconst C (v := 3) dL_isDone_312 (by decide) ?_
                refine G_icmp_ne C (tgt := 359) dL_isDone_313 (by decide) (fun hc => ?_) (fun hc => ?_)
                · have h := h.1 hc
                  refine G_iload C (x := r556) 0 dL_isDone_359 rfl ?_
                  refine G_ldc C (v := (-1713000)) (im tw_4_176) dL_isDone_361 ?_
                  refine G_icmp_ne C (tgt := 370) dL_isDone_363 (by decide) (fun hc => ?_) (fun hc => ?_)
                  · have h := h.1 hc
                    refine G_iconst C (v := 0) dL_isDone_370 (by decide) ?_
                    refine G_lv C (lv' := []) [] rfl ?_
                    exact J371 _ _ _ _ h
                  · have h := h.2 hc
                    refine G_iconst C (v := 1) dL_isDone_366 (by decide) ?_
                    refine G_goto C (tgt := 371) dL_isDone_367 (by decide) ?_
                    refine G_lv C (lv' := []) [] rfl ?_
                    exact J371 _ _ _ _ h
                · have h := h.2 hc
                  refine G_lv C (lv' := [(0, va_rf x0), (5, Value.int v5), (6, Value.int (x4 / 24)), (9, Value.int r550), (10, Value.int r556)]) [5, 10, 4, 1, 0] rfl ?_
                  exact J316 _ _ _ _ _ _ _ h
        · have h := h.2 hc
          refine G_aload_n C (x := x0) 3 dL_isDone_214 rfl rfl ?_
          refine G_bipush C (v := 9) dL_isDone_215 (by decide) ?_
          refine G_iload C (x := v5) 8 dL_isDone_217 rfl ?_
          refine G_iconst C (v := 0) dL_isDone_219 (by decide) ?_
          refine G_iconst C (v := 0) dL_isDone_220 (by decide) ?_
          refine G_iconst C (v := 0) dL_isDone_221 (by decide) ?_
          refine G_iconst C (v := 0) dL_isDone_222 (by decide) ?_
          obtain ⟨m563, m564, hc565, hs566, h⟩ := h
          refine G_callSWi C hZ tw_2_35 tw_2_36 tw_1_0 tw_2_37 hy_L_act ⟨Nat.le_of_ble_eq_true rfl, Nat.le_of_ble_eq_true rfl⟩ (As := [va_rf x0, Value.int 9, Value.int v5, Value.int 0, Value.int 0, Value.int 0, Value.int 0]) (rest := []) (c_L_act l hl D cy e0 m0 he hm x0 9 v5 0 0 0 0 (ov S271 M264) m563 m564 _ h) rfl rfl (by simp [va_cat, vi_cat, vl_cat]) dL_isDone_223 ⟨hc565, hs566⟩ (fun r562 S561 h => ?_)
          refine G_istore C (i := 9) (lv' := [(9, Value.int r562), (8, Value.int (gA (ov S271 M264) a277 ((((4 * v5) + 3)).toNatClampNeg))), (7, Value.int r272), (6, Value.int (x4 / 24)), (0, va_rf x0), (1, va_rf x1), (2, va_rf x2), (3, Value.int x3), (4, Value.int x4), (5, Value.int v5)]) dL_isDone_226 (by decide) (by first | rfl | simp [va_cat, vi_cat, vl_cat]) ?_
          refine G_iload C (x := r272) 2 dL_isDone_228 rfl ?_
          refine G_iconst C (v := 2) dL_isDone_230 (by decide) ?_
          refine G_icmp_ge C (tgt := 260) dL_isDone_231 (by decide) (fun hc => ?_) (fun hc => ?_)
          · have h := h.1 hc
            refine G_iload C (x := r562) 0 dL_isDone_260 rfl ?_
            refine G_ldc C (v := (-1713000)) (im tw_4_176) dL_isDone_262 ?_
            refine G_icmp_ne C (tgt := 271) dL_isDone_264 (by decide) (fun hc => ?_) (fun hc => ?_)
            · have h := h.1 hc
              refine G_iconst C (v := 0) dL_isDone_271 (by decide) ?_
              refine G_lv C (lv' := []) [] rfl ?_
              exact J272 _ _ _ _ h
            · have h := h.2 hc
              refine G_iconst C (v := 1) dL_isDone_267 (by decide) ?_
              refine G_goto C (tgt := 272) dL_isDone_268 (by decide) ?_
              refine G_lv C (lv' := []) [] rfl ?_
              exact J272 _ _ _ _ h
          · have h := h.2 hc
            refine G_iload C (x := r562) 0 dL_isDone_234 rfl ?_
            refine G_iload C (x := r272) 2 dL_isDone_236 rfl ?_
            refine G_icmp_ne C (tgt := 256) dL_isDone_238 (by decide) (fun hc => ?_) (fun hc => ?_)
            · have h := h.1 hc
              refine G_lv C (lv' := []) [] rfl ?_
              exact J256 _ _ _ h
            · have h := h.2 hc
              refine G_aload_n C (x := x0) 4 dL_isDone_241 rfl rfl ?_
              refine G_iload C (x := v5) 9 dL_isDone_242 rfl ?_
              refine G_iconst C (v := 0) dL_isDone_244 (by decide) ?_
              obtain ⟨S567, M568, hv569, hd570, h⟩ := h
              obtain ⟨hk572, h⟩ := h
              obtain ⟨m575, m576, hc577, hs578, h⟩ := h
              refine G_fxcalli C hZ hv569 hd570 (Tf := TX8) (N := 10) hk572 (by decide) rfl tw_4_147 tw_4_148 tw_4_149 tw_1_1 tw_4_150 hy_X8_of ⟨Nat.le_of_ble_eq_true rfl, Nat.le_of_ble_eq_true rfl⟩ (As := [Value.int v5, Value.int 0]) (rest := []) (c_X8_of l hl  D cy a268 v5 0 S567 m575 m576 _ _ h) rfl (by first | rfl | (simp only [ha269]; rfl) | simp only [ha269]) (by simp [va_cat, vi_cat, vl_cat]) dL_isDone_245 ⟨hc577, hs578⟩ (fun E S573 hd571 h => ?_) (fun r574 S573 hd571 h => ?_)
              · exact (h hd571).elim
              · replace h := h hd571
                refine G_iconst C (v := 2) dL_isDone_248 (by decide) ?_
                refine G_icmp_ne C (tgt := 256) dL_isDone_249 (by decide) (fun hc => ?_) (fun hc => ?_)
                · have h := h.1 hc
                  refine G_lv C (lv' := []) [] rfl ?_
                  exact J256 _ _ _ h
                · have h := h.2 hc
                  refine G_iconst C (v := 1) dL_isDone_252 (by decide) ?_
                  refine G_goto C (tgt := 272) dL_isDone_253 (by decide) ?_
                  refine G_lv C (lv' := []) [] rfl ?_
                  exact J272 _ _ _ _ h
      · have h := h.2 hc
        refine G_aload_n C (x := x0) 3 dL_isDone_81 rfl rfl ?_
        refine G_iload C (x := v5) 8 dL_isDone_82 rfl ?_
        obtain ⟨S579, M580, hv581, hd582, h⟩ := h
        obtain ⟨hk584, h⟩ := h
        obtain ⟨m587, m588, hc589, hs590, h⟩ := h
        refine G_fxcalli C hZ hv581 hd582 (Tf := TX8) (N := 10) hk584 (by decide) rfl tw_4_138 tw_4_139 tw_4_140 tw_1_1 tw_4_141 hy_X8_bars ⟨Nat.le_of_ble_eq_true rfl, Nat.le_of_ble_eq_true rfl⟩ (As := [Value.int v5]) (rest := []) (c_X8_bars l hl  D cy a268 v5 S579 m587 m588 _ _ h) rfl (by first | rfl | (simp only [ha269]; rfl) | simp only [ha269]) (by simp [va_cat, vi_cat, vl_cat]) dL_isDone_84 ⟨hc589, hs590⟩ (fun E S585 hd583 h => ?_) (fun r586 S585 hd583 h => ?_)
        · exact (h hd583).elim
        · replace h := h hd583
          refine G_istore C (i := 9) (lv' := [(9, Value.int r586), (8, Value.int (gA (ov S271 M264) a277 ((((4 * v5) + 3)).toNatClampNeg))), (7, Value.int r272), (6, Value.int (x4 / 24)), (0, va_rf x0), (1, va_rf x1), (2, va_rf x2), (3, Value.int x3), (4, Value.int x4), (5, Value.int v5)]) dL_isDone_87 (by decide) (by first | rfl | simp [va_cat, vi_cat, vl_cat]) ?_
          refine G_aload_n C (x := x0) 4 dL_isDone_89 rfl rfl ?_
          refine G_iload C (x := (gA (ov S271 M264) a277 ((((4 * v5) + 3)).toNatClampNeg))) 1 dL_isDone_90 rfl ?_
          obtain ⟨S591, M592, hv593, hd594, h⟩ := h
          obtain ⟨hk596, h⟩ := h
          obtain ⟨m599, m600, hc601, hs602, h⟩ := h
          refine G_fxcalll C hZ hv593 hd594 (Tf := TX8) (N := 10) hk596 (by decide) rfl tw_2_21 tw_2_22 tw_2_23 tw_1_1 tw_2_24 hy_X8_money ⟨Nat.le_of_ble_eq_true rfl, Nat.le_of_ble_eq_true rfl⟩ (As := [Value.int (gA (ov S271 M264) a277 ((((4 * v5) + 3)).toNatClampNeg))]) (rest := []) (c_X8_money l hl  D cy a268 (gA (ov S271 M264) a277 ((((4 * v5) + 3)).toNatClampNeg)) S591 m599 m600 _ _ h) rfl (by first | rfl | (simp only [ha269]; rfl) | simp only [ha269]) (by simp [va_cat, vi_cat, vl_cat]) dL_isDone_92 ⟨hc601, hs602⟩ (fun E S597 hd595 h => ?_) (fun r598 S597 hd595 h => ?_)
          · exact (h hd595).elim
          · replace h := h hd595
            refine G_lstore C (i := 10) (lv' := [(10, Value.long r598), (9, Value.int r586), (8, Value.int (gA (ov S271 M264) a277 ((((4 * v5) + 3)).toNatClampNeg))), (7, Value.int r272), (6, Value.int (x4 / 24)), (0, va_rf x0), (1, va_rf x1), (2, va_rf x2), (3, Value.int x3), (4, Value.int x4), (5, Value.int v5)]) dL_isDone_95 (by decide) (by first | rfl | simp [va_cat, vi_cat, vl_cat]) ?_
            refine G_aload_n C (x := x0) 5 dL_isDone_97 rfl rfl ?_
            refine G_bipush C (v := 8) dL_isDone_98 (by decide) ?_
            refine G_iload C (x := v5) 10 dL_isDone_100 rfl ?_
            refine G_iload C (x := (x4 / 24)) 4 dL_isDone_102 rfl ?_
            refine G_iconst C (v := 4) dL_isDone_104 (by decide) ?_
            refine G_irem C dL_isDone_105 (by decide) ?_
            refine G_iconst C (v := 0) dL_isDone_106 (by decide) ?_
            refine G_iconst C (v := 0) dL_isDone_107 (by decide) ?_
            refine G_iconst C (v := 0) dL_isDone_108 (by decide) ?_
            obtain ⟨m605, m606, hc607, hs608, h⟩ := h
            refine G_callSWi C hZ tw_2_35 tw_2_36 tw_1_0 tw_2_37 hy_L_act ⟨Nat.le_of_ble_eq_true rfl, Nat.le_of_ble_eq_true rfl⟩ (As := [va_rf x0, Value.int 8, Value.int v5, Value.int ((x4 / 24) - (x4 / 24) / 4 * 4), Value.int 0, Value.int 0, Value.int 0]) (rest := []) (c_L_act l hl D cy e0 m0 he hm x0 8 v5 ((x4 / 24) - (x4 / 24) / 4 * 4) 0 0 0 (ov S597 M592) m605 m606 _ h) rfl rfl (by simp [va_cat, vi_cat, vl_cat]) dL_isDone_109 ⟨hc607, hs608⟩ (fun r604 S603 h => ?_)
            refine G_istore C (i := 12) (lv' := [(12, Value.int r604), (10, Value.long r598), (9, Value.int r586), (8, Value.int (gA (ov S271 M264) a277 ((((4 * v5) + 3)).toNatClampNeg))), (7, Value.int r272), (6, Value.int (x4 / 24)), (0, va_rf x0), (1, va_rf x1), (2, va_rf x2), (3, Value.int x3), (4, Value.int x4), (5, Value.int v5)]) dL_isDone_112 (by decide) (by first | rfl | simp [va_cat, vi_cat, vl_cat]) ?_
            refine G_iload C (x := r604) 0 dL_isDone_114 rfl ?_
            refine G_ldc C (v := (-1713000)) (im tw_4_176) dL_isDone_116 ?_
            refine G_icmp_ne C (tgt := 139) dL_isDone_118 (by decide) (fun hc => ?_) (fun hc => ?_)
            · have h := h.1 hc
              refine G_iload C (x := r272) 4 dL_isDone_139 rfl ?_
              refine G_if_ne C (tgt := 207) dL_isDone_141 (by decide) (fun hc => ?_) (fun hc => ?_)
              · have h := h.1 hc
                refine G_lv C (lv' := []) [] rfl ?_
                exact J207 _ _ _ h
              · have h := h.2 hc
                refine G_iload C (x := r586) 2 dL_isDone_144 rfl ?_
                refine G_if_ne C (tgt := 207) dL_isDone_146 (by decide) (fun hc => ?_) (fun hc => ?_)
                · have h := h.1 hc
                  refine G_lv C (lv' := []) [] rfl ?_
                  exact J207 _ _ _ h
                · have h := h.2 hc
                  refine G_iload C (x := r604) 0 dL_isDone_149 rfl ?_
                  refine G_if_lt C (tgt := 207) dL_isDone_151 (by decide) (fun hc => ?_) (fun hc => ?_)
                  · have h := h.1 hc
                    refine G_lv C (lv' := []) [] rfl ?_
                    exact J207 _ _ _ h
                  · have h := h.2 hc
                    refine G_iload C (x := r604) 0 dL_isDone_154 rfl ?_
                    refine G_sipush C (v := 240) dL_isDone_156 (by decide) ?_
                    refine G_icmp_gt C (tgt := 207) dL_isDone_159 (by decide) (fun hc => ?_) (fun hc => ?_)
                    · have h := h.1 hc
                      refine G_lv C (lv' := []) [] rfl ?_
                      exact J207 _ _ _ h
                    · have h := h.2 hc
                      refine G_aload_n C (x := x0) 6 dL_isDone_162 rfl rfl ?_
                      refine G_iload C (x := v5) 11 dL_isDone_163 rfl ?_
                      refine G_iconst C (v := 0) dL_isDone_165 (by decide) ?_
                      obtain ⟨S609, M610, hv611, hd612, h⟩ := h
                      obtain ⟨hk614, h⟩ := h
                      obtain ⟨m617, m618, hc619, hs620, h⟩ := h
                      refine G_fxcalli C hZ hv611 hd612 (Tf := TX8) (N := 10) hk614 (by decide) rfl tw_4_147 tw_4_148 tw_4_149 tw_1_1 tw_4_150 hy_X8_of ⟨Nat.le_of_ble_eq_true rfl, Nat.le_of_ble_eq_true rfl⟩ (As := [Value.int v5, Value.int 0]) (rest := []) (c_X8_of l hl  D cy a268 v5 0 S609 m617 m618 _ _ h) rfl (by first | rfl | (simp only [ha269]; rfl) | simp only [ha269]) (by simp [va_cat, vi_cat, vl_cat]) dL_isDone_166 ⟨hc619, hs620⟩ (fun E S615 hd613 h => ?_) (fun r616 S615 hd613 h => ?_)
                      · exact (h hd613).elim
                      · replace h := h hd613
                        refine G_iconst C (v := 1) dL_isDone_169 (by decide) ?_
                        refine G_icmp_ne C (tgt := 207) dL_isDone_170 (by decide) (fun hc => ?_) (fun hc => ?_)
                        · have h := h.1 hc
                          refine G_lv C (lv' := []) [] rfl ?_
                          exact J207 _ _ _ h
                        · have h := h.2 hc
                          refine G_aload_n C (x := x0) 6 dL_isDone_173 rfl rfl ?_
                          refine G_iload C (x := v5) 11 dL_isDone_174 rfl ?_
                          refine G_iconst C (v := 2) dL_isDone_176 (by decide) ?_
                          obtain ⟨S621, M622, hv623, hd624, h⟩ := h
                          obtain ⟨hk626, h⟩ := h
                          obtain ⟨m629, m630, hc631, hs632, h⟩ := h
                          refine G_fxcalli C hZ hv623 hd624 (Tf := TX8) (N := 10) hk626 (by decide) rfl tw_4_147 tw_4_148 tw_4_149 tw_1_1 tw_4_150 hy_X8_of ⟨Nat.le_of_ble_eq_true rfl, Nat.le_of_ble_eq_true rfl⟩ (As := [Value.int v5, Value.int 2]) (rest := []) (c_X8_of l hl  D cy a268 v5 2 S621 m629 m630 _ _ h) rfl (by first | rfl | (simp only [ha269]; rfl) | simp only [ha269]) (by simp [va_cat, vi_cat, vl_cat]) dL_isDone_177 ⟨hc631, hs632⟩ (fun E S627 hd625 h => ?_) (fun r628 S627 hd625 h => ?_)
                          · exact (h hd625).elim
                          · replace h := h hd625
                            refine G_iload C (x := (x4 / 24)) 5 dL_isDone_180 rfl ?_
                            refine G_iconst C (v := 4) dL_isDone_182 (by decide) ?_
                            refine G_irem C dL_isDone_183 (by decide) ?_
                            refine G_icmp_ne C (tgt := 207) dL_isDone_184 (by decide) (fun hc => ?_) (fun hc => ?_)
                            · have h := h.1 hc
                              refine G_lv C (lv' := []) [] rfl ?_
                              exact J207 _ _ _ h
                            · have h := h.2 hc
                              refine G_aload_n C (x := x0) 6 dL_isDone_187 rfl rfl ?_
                              refine G_iload C (x := (gA (ov S271 M264) a277 ((((4 * v5) + 3)).toNatClampNeg))) 3 dL_isDone_188 rfl ?_
                              obtain ⟨S633, M634, hv635, hd636, h⟩ := h
                              obtain ⟨hk638, h⟩ := h
                              obtain ⟨m641, m642, hc643, hs644, h⟩ := h
                              refine G_fxcalll C hZ hv635 hd636 (Tf := TX8) (N := 10) hk638 (by decide) rfl tw_2_21 tw_2_22 tw_2_23 tw_1_1 tw_2_24 hy_X8_money ⟨Nat.le_of_ble_eq_true rfl, Nat.le_of_ble_eq_true rfl⟩ (As := [Value.int (gA (ov S271 M264) a277 ((((4 * v5) + 3)).toNatClampNeg))]) (rest := []) (c_X8_money l hl  D cy a268 (gA (ov S271 M264) a277 ((((4 * v5) + 3)).toNatClampNeg)) S633 m641 m642 _ _ h) rfl (by first | rfl | (simp only [ha269]; rfl) | simp only [ha269]) (by simp [va_cat, vi_cat, vl_cat]) dL_isDone_190 ⟨hc643, hs644⟩ (fun E S639 hd637 h => ?_) (fun r640 S639 hd637 h => ?_)
                              · exact (h hd637).elim
                              · replace h := h hd637
                                refine G_lload C (x := r598) 1 dL_isDone_193 rfl ?_
                                refine G_iload C (x := r604) 0 dL_isDone_195 rfl ?_
                                refine G_i2l C dL_isDone_197 ?_
                                refine G_lsub C dL_isDone_198 ?_
                                refine G_lcmp C dL_isDone_199 ?_
                                refine G_if_ne C (tgt := 207) dL_isDone_200 (by decide) (fun hc => ?_) (fun hc => ?_)
                                · have h := h.1 hc
                                  refine G_lv C (lv' := []) [] rfl ?_
                                  exact J207 _ _ _ h
                                · have h := h.2 hc
                                  refine G_iconst C (v := 1) dL_isDone_203 (by decide) ?_
                                  refine G_goto C (tgt := 208) dL_isDone_204 (by decide) ?_
                                  refine G_lv C (lv' := []) [] rfl ?_
                                  exact J208 _ _ _ _ h
            · have h := h.2 hc
              refine G_iload C (x := r272) 4 dL_isDone_121 rfl ?_
              refine G_if_ne C (tgt := 131) dL_isDone_123 (by decide) (fun hc => ?_) (fun hc => ?_)
              · have h := h.1 hc
                refine G_lv C (lv' := []) [] rfl ?_
                exact J131 _ _ _ h
              · have h := h.2 hc
                refine G_iload C (x := r586) 2 dL_isDone_126 rfl ?_
                refine G_if_le C (tgt := 135) dL_isDone_128 (by decide) (fun hc => ?_) (fun hc => ?_)
                · have h := h.1 hc
                  refine G_iconst C (v := 0) dL_isDone_135 (by decide) ?_
                  refine G_goto C (tgt := 208) dL_isDone_136 (by decide) ?_
                  refine G_lv C (lv' := []) [] rfl ?_
                  exact J208 _ _ _ _ h
                · have h := h.2 hc
                  refine G_lv C (lv' := []) [] rfl ?_
                  exact J131 _ _ _ h
  have J11 : ∀ (n : Nat) (c0 n0 : Nat) (S : PT) (v5 : Int32) (v6 : Int32), w_L_isDone_l11 e0 m0 x0 x1 x2 x3 x4 mc ms post n c0 n0 S v5 v6 → G p l e { frames := 10, cells := mc, slots := ms, locals := 244 } s m [va_rf x0, va_rf x1, va_rf x2, Value.int x3, Value.int x4].toArray below meth c D cy A s.heap 17 (QMi below D cy A [va_rf x0, va_rf x1, va_rf x2, Value.int x3, Value.int x4] s mc ms (fun r S => bo r ∧ post r S)) S c0 n0 11 [(0, va_rf x0), (1, va_rf x1), (2, va_rf x2), (3, Value.int x3), (4, Value.int x4), (5, Value.int v5), (6, Value.int v6)] [] := by
    intro n11
    induction n11 with
    | zero => intro c0 n0 S v5 v6 h; rw [w_L_isDone_l11] at h; exact False.elim h
    | succ n11 K11 =>
      intro c0 n0 S v5 v6 h
      rw [w_L_isDone_l11] at h
      obtain ⟨hc00, hn00, h⟩ := h
      refine G_iload C (x := v6) 6 dL_isDone_11 rfl ?_
      refine G_aload_n C (x := x1) 1 dL_isDone_13 rfl rfl ?_
      refine G_iconst C (v := 3) dL_isDone_14 (by decide) ?_
      obtain ⟨a645, ha646, h⟩ := h
      refine G_rf1 ha646 ?_
      obtain ⟨hk647, h⟩ := h
      obtain ⟨hi648, h⟩ := h
      refine G_iald C hk647 hi648 dL_isDone_15 ?_
      refine G_icmp_ge C (tgt := 51) dL_isDone_16 (by decide) (fun hc => ?_) (fun hc => ?_)
      · have h := h.1 hc
        refine G_lv C (lv' := [(0, va_rf x0), (1, va_rf x1), (2, va_rf x2), (3, Value.int x3), (4, Value.int x4), (5, Value.int v5)]) [0, 1, 2, 3, 4, 5] rfl ?_
        exact J51 _ _ _ _ h
      · have h := h.2 hc
        refine G_iload_n C (x := x3) 3 dL_isDone_19 rfl rfl ?_
        refine G_iconst C (v := 5) dL_isDone_20 (by decide) ?_
        refine G_icmp_le C (tgt := 51) dL_isDone_21 (by decide) (fun hc => ?_) (fun hc => ?_)
        · have h := h.1 hc
          refine G_lv C (lv' := [(0, va_rf x0), (1, va_rf x1), (2, va_rf x2), (3, Value.int x3), (4, Value.int x4), (5, Value.int v5)]) [0, 1, 2, 3, 4, 5] rfl ?_
          exact J51 _ _ _ _ h
        · have h := h.2 hc
          refine G_aload_n C (x := x0) 0 dL_isDone_24 rfl rfl ?_
          refine G_iload C (x := v5) 5 dL_isDone_25 rfl ?_
          refine G_iconst C (v := 0) dL_isDone_27 (by decide) ?_
          obtain ⟨S649, M650, hv651, hd652, h⟩ := h
          obtain ⟨a654, ha655, h⟩ := h
          obtain ⟨hk656, h⟩ := h
          obtain ⟨m659, m660, hc661, hs662, h⟩ := h
          refine G_fxcalli C hZ hv651 hd652 (Tf := TX8) (N := 10) hk656 (by decide) rfl tw_4_147 tw_4_148 tw_4_149 tw_1_1 tw_4_150 hy_X8_of ⟨Nat.le_of_ble_eq_true rfl, Nat.le_of_ble_eq_true rfl⟩ (As := [Value.int v5, Value.int 0]) (rest := []) (c_X8_of l hl  D cy a654 v5 0 S649 m659 m660 _ _ h) rfl (by first | rfl | (simp only [ha655]; rfl) | simp only [ha655]) (by simp [va_cat, vi_cat, vl_cat]) dL_isDone_28 ⟨hc661, hs662⟩ (fun E S657 hd653 h => ?_) (fun r658 S657 hd653 h => ?_)
          · exact (h hd653).elim
          · replace h := h hd653
            refine G_iconst C (v := 3) dL_isDone_31 (by decide) ?_
            refine G_icmp_eq C (tgt := 51) dL_isDone_32 (by decide) (fun hc => ?_) (fun hc => ?_)
            · have h := h.1 hc
              refine G_lv C (lv' := [(0, va_rf x0), (1, va_rf x1), (2, va_rf x2), (3, Value.int x3), (4, Value.int x4), (5, Value.int v5)]) [0, 1, 2, 3, 4, 5] rfl ?_
              exact J51 _ _ _ _ h
            · have h := h.2 hc
              refine G_iload C (x := v5) 5 dL_isDone_35 rfl ?_
              refine G_iconst C (v := 1) dL_isDone_37 (by decide) ?_
              refine G_iadd C dL_isDone_38 ?_
              refine G_aload_n C (x := x1) 1 dL_isDone_39 rfl rfl ?_
              refine G_iconst C (v := 3) dL_isDone_40 (by decide) ?_
              refine G_rf1 ha646 ?_
              obtain ⟨hk663, h⟩ := h
              obtain ⟨hi664, h⟩ := h
              refine G_iald C hk663 hi664 dL_isDone_41 ?_
              obtain ⟨hn665, h⟩ := h
              refine G_irem C dL_isDone_42 hn665 ?_
              refine G_istore C (i := 5) (lv' := [(5, Value.int ((v5 + 1) - (v5 + 1) / (gA (ov S657 M650) a645 ((3 : Int32).toNatClampNeg)) * (gA (ov S657 M650) a645 ((3 : Int32).toNatClampNeg)))), (0, va_rf x0), (1, va_rf x1), (2, va_rf x2), (3, Value.int x3), (4, Value.int x4), (6, Value.int v6)]) dL_isDone_43 (by decide) (by first | rfl | simp [va_cat, vi_cat, vl_cat]) ?_
              refine G_iinc C (v := (v6 + 1)) (lv' := [(6, Value.int (v6 + 1)), (5, Value.int ((v5 + 1) - (v5 + 1) / (gA (ov S657 M650) a645 ((3 : Int32).toNatClampNeg)) * (gA (ov S657 M650) a645 ((3 : Int32).toNatClampNeg)))), (0, va_rf x0), (1, va_rf x1), (2, va_rf x2), (3, Value.int x3), (4, Value.int x4)]) 6 dL_isDone_45 rfl rfl (by decide) (by first | rfl | simp [va_cat, vi_cat, vl_cat]) ?_
              refine G_goto C (tgt := 11) dL_isDone_48 (by decide) ?_
              refine G_lv C (lv' := [(0, va_rf x0), (1, va_rf x1), (2, va_rf x2), (3, Value.int x3), (4, Value.int x4), (5, Value.int ((v5 + 1) - (v5 + 1) / (gA (ov S657 M650) a645 ((3 : Int32).toNatClampNeg)) * (gA (ov S657 M650) a645 ((3 : Int32).toNatClampNeg)))), (6, Value.int (v6 + 1))]) [2, 3, 4, 5, 6, 1, 0] rfl ?_
              exact K11 _ _ _ _ _ h
  refine G_lv C (lv' := [(0, va_rf x0), (1, va_rf x1), (2, va_rf x2), (3, Value.int x3), (4, Value.int x4)]) [0, 1, 2, 3, 4] (by first | rfl | simp [lv_pick, lv_args, va_cat, vi_cat, vl_cat]) ?_
  unfold w_L_isDone at h
  refine G_iload C (x := x4) 4 dL_isDone_0 rfl ?_
  refine G_aload_n C (x := x1) 1 dL_isDone_2 rfl rfl ?_
  refine G_iconst C (v := 3) dL_isDone_3 (by decide) ?_
  obtain ⟨a666, ha667, h⟩ := h
  refine G_rf1 ha667 ?_
  obtain ⟨hk668, h⟩ := h
  obtain ⟨hi669, h⟩ := h
  refine G_iald C hk668 hi669 dL_isDone_4 ?_
  obtain ⟨hn670, h⟩ := h
  refine G_irem C dL_isDone_5 hn670 ?_
  refine G_istore C (i := 5) (lv' := [(5, Value.int (x4 - x4 / (gA S a666 ((3 : Int32).toNatClampNeg)) * (gA S a666 ((3 : Int32).toNatClampNeg)))), (0, va_rf x0), (1, va_rf x1), (2, va_rf x2), (3, Value.int x3), (4, Value.int x4)]) dL_isDone_6 (by decide) (by first | rfl | simp [va_cat, vi_cat, vl_cat]) ?_
  refine G_iconst C (v := 0) dL_isDone_8 (by decide) ?_
  refine G_istore C (i := 6) (lv' := [(6, Value.int 0), (5, Value.int (x4 - x4 / (gA S a666 ((3 : Int32).toNatClampNeg)) * (gA S a666 ((3 : Int32).toNatClampNeg)))), (0, va_rf x0), (1, va_rf x1), (2, va_rf x2), (3, Value.int x3), (4, Value.int x4)]) dL_isDone_9 (by decide) (by first | rfl | simp [va_cat, vi_cat, vl_cat]) ?_
  refine G_lv C (lv' := [(0, va_rf x0), (1, va_rf x1), (2, va_rf x2), (3, Value.int x3), (4, Value.int x4), (5, Value.int (x4 - x4 / (gA S a666 ((3 : Int32).toNatClampNeg)) * (gA S a666 ((3 : Int32).toNatClampNeg)))), (6, Value.int 0)]) [2, 3, 4, 5, 6, 1, 0] rfl ?_
  obtain ⟨n9, h⟩ := h
  exact J11 n9 _ _ _ _ _ h
