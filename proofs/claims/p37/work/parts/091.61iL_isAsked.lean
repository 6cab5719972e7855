set_option maxHeartbeats 4000000 in
set_option maxRecDepth 100000 in
theorem c_L_isAsked (l : Launch) (hl : l.stackTraces = false) (D : va_G) (cy : Nat → Nat) (x0 : Option Nat) (x1 : Option Nat) (x2 : Option Nat) (x3 : Option Nat) (x4 : Int32) (S : PT) (mc ms : Nat) (post : Int32 → PT → Prop) (h : w_L_isAsked x0 x1 x2 x3 x4 S mc ms post) : Mi l yL_isAsked (Wm yL_isAsked method_11_code 12 (Option.some Jvm.ClassFile.FieldType.boolean)) 8 148 D cy [va_rf x0, va_rf x1, va_rf x2, va_rf x3, Value.int x4] S mc ms (fun r S => bo r ∧ post r S) := by
  refine Mi_of (own := "TrenchboardLaw") (by decide) rfl (by first | decide | simp [lg_sl, va_cat, vi_cat, vl_cat]) (fun p e s m below meth c A C hZ hr hin9 => ?_)
  have J308 : ∀ (c0 n0 : Nat) (S : PT) (s0 : Int32), w_L_isAsked_b308 x0 x1 x2 x3 x4 mc ms post c0 n0 S s0 → G p l e { frames := 8, cells := mc, slots := ms, locals := 148 } s m [va_rf x0, va_rf x1, va_rf x2, va_rf x3, Value.int x4].toArray below meth c D cy A s.heap 12 (QMi below D cy A [va_rf x0, va_rf x1, va_rf x2, va_rf x3, Value.int x4] s mc ms (fun r S => bo r ∧ post r S)) S c0 n0 308 [] [Value.int s0] := by
    intro c0 n0 S s0 h
    unfold w_L_isAsked_b308 at h
    obtain ⟨hc00, hn00, h⟩ := h
    obtain ⟨hb1, h⟩ := h
    exact G_zret C (mc := mc) (ms := ms) (post := (fun r S => bo r ∧ post r S)) (bo_nar hb1) hr hc00 hn00 dL_isAsked_308 ⟨hb1, h⟩
  have J307 : ∀ (c0 n0 : Nat) (S : PT), w_L_isAsked_b307 x0 x1 x2 x3 x4 mc ms post c0 n0 S → G p l e { frames := 8, cells := mc, slots := ms, locals := 148 } s m [va_rf x0, va_rf x1, va_rf x2, va_rf x3, Value.int x4].toArray below meth c D cy A s.heap 12 (QMi below D cy A [va_rf x0, va_rf x1, va_rf x2, va_rf x3, Value.int x4] s mc ms (fun r S => bo r ∧ post r S)) S c0 n0 307 [] [] := by
    intro c0 n0 S h
    unfold w_L_isAsked_b307 at h
    obtain ⟨hc00, hn00, h⟩ := h
    refine G_iconst C (v := 0) dL_isAsked_307 (by decide) ?_
    refine G_lv C (lv' := []) [] rfl ?_
    exact J308 _ _ _ _ h
  have J303 : ∀ (c0 n0 : Nat) (S : PT), w_L_isAsked_b303 x0 x1 x2 x3 x4 mc ms post c0 n0 S → G p l e { frames := 8, cells := mc, slots := ms, locals := 148 } s m [va_rf x0, va_rf x1, va_rf x2, va_rf x3, Value.int x4].toArray below meth c D cy A s.heap 12 (QMi below D cy A [va_rf x0, va_rf x1, va_rf x2, va_rf x3, Value.int x4] s mc ms (fun r S => bo r ∧ post r S)) S c0 n0 303 [] [] := by
    intro c0 n0 S h
    unfold w_L_isAsked_b303 at h
    obtain ⟨hc00, hn00, h⟩ := h
    refine G_iconst C (v := 1) dL_isAsked_303 (by decide) ?_
    refine G_goto C (tgt := 308) dL_isAsked_304 (by decide) ?_
    refine G_lv C (lv' := []) [] rfl ?_
    exact J308 _ _ _ _ h
  have J234 : ∀ (c0 n0 : Nat) (S : PT) (v8 : Int32) (v9 : Int32) (v10 : Int32) (s0 : Int32) (s1 : Int32), w_L_isAsked_b234 x0 x1 x2 x3 x4 mc ms post c0 n0 S v8 v9 v10 s0 s1 → G p l e { frames := 8, cells := mc, slots := ms, locals := 148 } s m [va_rf x0, va_rf x1, va_rf x2, va_rf x3, Value.int x4].toArray below meth c D cy A s.heap 12 (QMi below D cy A [va_rf x0, va_rf x1, va_rf x2, va_rf x3, Value.int x4] s mc ms (fun r S => bo r ∧ post r S)) S c0 n0 234 [(0, va_rf x0), (4, Value.int x4), (8, Value.int v8), (9, Value.int v9), (10, Value.int v10)] [Value.int s1, Value.int s0] := by
    intro c0 n0 S v8 v9 v10 s0 s1 h
    unfold w_L_isAsked_b234 at h
    obtain ⟨hc00, hn00, h⟩ := h
    refine G_icmp_ne C (tgt := 307) dL_isAsked_234 (by decide) (fun hc => ?_) (fun hc => ?_)
    · have h := h.1 hc
      refine G_lv C (lv' := []) [] rfl ?_
      exact J307 _ _ _ h
    · have h := h.2 hc
      refine G_aload_n C (x := x0) 0 dL_isAsked_237 rfl rfl ?_
      refine G_iload C (x := v10) 4 dL_isAsked_238 rfl ?_
      refine G_iconst C (v := 1) dL_isAsked_240 (by decide) ?_
      obtain ⟨S2, M3, hv4, hd5, h⟩ := h
      obtain ⟨a7, ha8, h⟩ := h
      obtain ⟨hk9, h⟩ := h
      obtain ⟨m12, m13, hc14, hs15, h⟩ := h
      refine G_fxcalli C hZ hv4 hd5 (Tf := TX8) (N := 10) hk9 (by decide) rfl tw_4_147 tw_4_148 tw_4_149 tw_1_1 tw_4_150 hy_X8_of ⟨Nat.le_of_ble_eq_true rfl, Nat.le_of_ble_eq_true rfl⟩ (As := [Value.int v10, Value.int 1]) (rest := []) (c_X8_of l hl  D cy a7 v10 1 S2 m12 m13 _ _ h) rfl (by first | rfl | (simp only [ha8]; rfl) | simp only [ha8]) (by simp [va_cat, vi_cat, vl_cat]) dL_isAsked_241 ⟨hc14, hs15⟩ (fun E S10 hd6 h => ?_) (fun r11 S10 hd6 h => ?_)
      · exact (h hd6).elim
      · replace h := h hd6
        refine G_iload C (x := v9) 3 dL_isAsked_244 rfl ?_
        refine G_iload C (x := x4) 1 dL_isAsked_246 rfl ?_
        refine G_bipush C (v := 38) dL_isAsked_248 (by decide) ?_
        refine G_idiv C dL_isAsked_250 (by decide) ?_
        refine G_bipush C (v := 6) dL_isAsked_251 (by decide) ?_
        refine G_irem C dL_isAsked_253 (by decide) ?_
        refine G_iadd C dL_isAsked_254 ?_
        refine G_icmp_ne C (tgt := 307) dL_isAsked_255 (by decide) (fun hc => ?_) (fun hc => ?_)
        · have h := h.1 hc
          refine G_lv C (lv' := []) [] rfl ?_
          exact J307 _ _ _ h
        · have h := h.2 hc
          refine G_aload_n C (x := x0) 0 dL_isAsked_258 rfl rfl ?_
          refine G_iload C (x := v10) 4 dL_isAsked_259 rfl ?_
          refine G_iconst C (v := 2) dL_isAsked_261 (by decide) ?_
          obtain ⟨S16, M17, hv18, hd19, h⟩ := h
          obtain ⟨hk21, h⟩ := h
          obtain ⟨m24, m25, hc26, hs27, h⟩ := h
          refine G_fxcalli C hZ hv18 hd19 (Tf := TX8) (N := 10) hk21 (by decide) rfl tw_4_147 tw_4_148 tw_4_149 tw_1_1 tw_4_150 hy_X8_of ⟨Nat.le_of_ble_eq_true rfl, Nat.le_of_ble_eq_true rfl⟩ (As := [Value.int v10, Value.int 2]) (rest := []) (c_X8_of l hl  D cy a7 v10 2 S16 m24 m25 _ _ h) rfl (by first | rfl | (simp only [ha8]; rfl) | simp only [ha8]) (by simp [va_cat, vi_cat, vl_cat]) dL_isAsked_262 ⟨hc26, hs27⟩ (fun E S22 hd20 h => ?_) (fun r23 S22 hd20 h => ?_)
          · exact (h hd20).elim
          · replace h := h hd20
            refine G_if_ne C (tgt := 307) dL_isAsked_265 (by decide) (fun hc => ?_) (fun hc => ?_)
            · have h := h.1 hc
              refine G_lv C (lv' := []) [] rfl ?_
              exact J307 _ _ _ h
            · have h := h.2 hc
              refine G_aload_n C (x := x0) 0 dL_isAsked_268 rfl rfl ?_
              refine G_iload C (x := v10) 4 dL_isAsked_269 rfl ?_
              refine G_iconst C (v := 3) dL_isAsked_271 (by decide) ?_
              obtain ⟨S28, M29, hv30, hd31, h⟩ := h
              obtain ⟨hk33, h⟩ := h
              obtain ⟨m36, m37, hc38, hs39, h⟩ := h
              refine G_fxcalli C hZ hv30 hd31 (Tf := TX8) (N := 10) hk33 (by decide) rfl tw_4_147 tw_4_148 tw_4_149 tw_1_1 tw_4_150 hy_X8_of ⟨Nat.le_of_ble_eq_true rfl, Nat.le_of_ble_eq_true rfl⟩ (As := [Value.int v10, Value.int 3]) (rest := []) (c_X8_of l hl  D cy a7 v10 3 S28 m36 m37 _ _ h) rfl (by first | rfl | (simp only [ha8]; rfl) | simp only [ha8]) (by simp [va_cat, vi_cat, vl_cat]) dL_isAsked_272 ⟨hc38, hs39⟩ (fun E S34 hd32 h => ?_) (fun r35 S34 hd32 h => ?_)
              · exact (h hd32).elim
              · replace h := h hd32
                refine G_if_ne C (tgt := 307) dL_isAsked_275 (by decide) (fun hc => ?_) (fun hc => ?_)
                · have h := h.1 hc
                  refine G_lv C (lv' := []) [] rfl ?_
                  exact J307 _ _ _ h
                · have h := h.2 hc
                  refine G_aload_n C (x := x0) 0 dL_isAsked_278 rfl rfl ?_
                  refine G_iload C (x := v10) 4 dL_isAsked_279 rfl ?_
                  refine G_iconst C (v := 4) dL_isAsked_281 (by decide) ?_
                  obtain ⟨S40, M41, hv42, hd43, h⟩ := h
                  obtain ⟨hk45, h⟩ := h
                  obtain ⟨m48, m49, hc50, hs51, h⟩ := h
                  refine G_fxcalli C hZ hv42 hd43 (Tf := TX8) (N := 10) hk45 (by decide) rfl tw_4_147 tw_4_148 tw_4_149 tw_1_1 tw_4_150 hy_X8_of ⟨Nat.le_of_ble_eq_true rfl, Nat.le_of_ble_eq_true rfl⟩ (As := [Value.int v10, Value.int 4]) (rest := []) (c_X8_of l hl  D cy a7 v10 4 S40 m48 m49 _ _ h) rfl (by first | rfl | (simp only [ha8]; rfl) | simp only [ha8]) (by simp [va_cat, vi_cat, vl_cat]) dL_isAsked_282 ⟨hc50, hs51⟩ (fun E S46 hd44 h => ?_) (fun r47 S46 hd44 h => ?_)
                  · exact (h hd44).elim
                  · replace h := h hd44
                    refine G_if_ne C (tgt := 307) dL_isAsked_285 (by decide) (fun hc => ?_) (fun hc => ?_)
                    · have h := h.1 hc
                      refine G_lv C (lv' := []) [] rfl ?_
                      exact J307 _ _ _ h
                    · have h := h.2 hc
                      refine G_iload C (x := v8) 2 dL_isAsked_288 rfl ?_
                      refine G_iconst C (v := 3) dL_isAsked_290 (by decide) ?_
                      refine G_icmp_ne C (tgt := 303) dL_isAsked_291 (by decide) (fun hc => ?_) (fun hc => ?_)
                      · have h := h.1 hc
                        refine G_lv C (lv' := []) [] rfl ?_
                        exact J303 _ _ _ h
                      · have h := h.2 hc
                        refine G_aload_n C (x := x0) 0 dL_isAsked_294 rfl rfl ?_
                        refine G_iload C (x := v10) 4 dL_isAsked_295 rfl ?_
                        obtain ⟨S52, M53, hv54, hd55, h⟩ := h
                        obtain ⟨hk57, h⟩ := h
                        obtain ⟨m60, m61, hc62, hs63, h⟩ := h
                        refine G_fxcalli C hZ hv54 hd55 (Tf := TX8) (N := 10) hk57 (by decide) rfl tw_4_138 tw_4_139 tw_4_140 tw_1_1 tw_4_141 hy_X8_bars ⟨Nat.le_of_ble_eq_true rfl, Nat.le_of_ble_eq_true rfl⟩ (As := [Value.int v10]) (rest := []) (c_X8_bars l hl  D cy a7 v10 S52 m60 m61 _ _ h) rfl (by first | rfl | (simp only [ha8]; rfl) | simp only [ha8]) (by simp [va_cat, vi_cat, vl_cat]) dL_isAsked_297 ⟨hc62, hs63⟩ (fun E S58 hd56 h => ?_) (fun r59 S58 hd56 h => ?_)
                        · exact (h hd56).elim
                        · replace h := h hd56
                          refine G_if_ne C (tgt := 307) dL_isAsked_300 (by decide) (fun hc => ?_) (fun hc => ?_)
                          · have h := h.1 hc
                            refine G_lv C (lv' := []) [] rfl ?_
                            exact J307 _ _ _ h
                          · have h := h.2 hc
                            refine G_lv C (lv' := []) [] rfl ?_
                            exact J303 _ _ _ h
  have J115 : ∀ (c0 n0 : Nat) (S : PT) (v5 : Int32) (v6 : Int32) (v7 : Int32) (v8 : Int32) (s0 : Int32) (s1 : Int32), w_L_isAsked_b115 x0 x1 x2 x3 x4 mc ms post c0 n0 S v5 v6 v7 v8 s0 s1 → G p l e { frames := 8, cells := mc, slots := ms, locals := 148 } s m [va_rf x0, va_rf x1, va_rf x2, va_rf x3, Value.int x4].toArray below meth c D cy A s.heap 12 (QMi below D cy A [va_rf x0, va_rf x1, va_rf x2, va_rf x3, Value.int x4] s mc ms (fun r S => bo r ∧ post r S)) S c0 n0 115 [(0, va_rf x0), (1, va_rf x1), (3, va_rf x3), (4, Value.int x4), (5, Value.int v5), (6, Value.int v6), (7, Value.int v7), (8, Value.int v8)] [Value.int s1, Value.int s0] := by
    intro c0 n0 S v5 v6 v7 v8 s0 s1 h
    unfold w_L_isAsked_b115 at h
    obtain ⟨hc00, hn00, h⟩ := h
    refine G_iadd C dL_isAsked_115 ?_
    refine G_iload C (x := x4) 3 dL_isAsked_116 rfl ?_
    refine G_bipush C (v := 19) dL_isAsked_118 (by decide) ?_
    refine G_idiv C dL_isAsked_120 (by decide) ?_
    refine G_iconst C (v := 2) dL_isAsked_121 (by decide) ?_
    refine G_irem C dL_isAsked_122 (by decide) ?_
    refine G_iadd C dL_isAsked_123 ?_
    refine G_istore C (i := 9) (lv' := [(9, Value.int ((s0 + s1) + ((x4 / 19) - (x4 / 19) / 2 * 2))), (0, va_rf x0), (1, va_rf x1), (3, va_rf x3), (4, Value.int x4), (5, Value.int v5), (6, Value.int v6), (7, Value.int v7), (8, Value.int v8)]) dL_isAsked_124 (by decide) (by first | rfl | simp [va_cat, vi_cat, vl_cat]) ?_
    refine G_aload_n C (x := x0) 1 dL_isAsked_126 rfl rfl ?_
    refine G_iload C (x := x4) 4 dL_isAsked_127 rfl ?_
    refine G_iconst C (v := 5) dL_isAsked_129 (by decide) ?_
    refine G_idiv C dL_isAsked_130 (by decide) ?_
    refine G_iconst C (v := 5) dL_isAsked_131 (by decide) ?_
    refine G_irem C dL_isAsked_132 (by decide) ?_
    refine G_iload C (x := v5) 5 dL_isAsked_133 rfl ?_
    refine G_iload C (x := v6) 6 dL_isAsked_135 rfl ?_
    refine G_iload C (x := v7) 7 dL_isAsked_137 rfl ?_
    refine G_iload C (x := v8) 8 dL_isAsked_139 rfl ?_
    refine G_iload C (x := ((s0 + s1) + ((x4 / 19) - (x4 / 19) / 2 * 2))) 0 dL_isAsked_141 rfl ?_
    refine G_iconst C (v := 1) dL_isAsked_143 (by decide) ?_
    refine G_iload C (x := x4) 4 dL_isAsked_144 rfl ?_
    refine G_bipush C (v := 38) dL_isAsked_146 (by decide) ?_
    refine G_idiv C dL_isAsked_148 (by decide) ?_
    refine G_bipush C (v := 6) dL_isAsked_149 (by decide) ?_
    refine G_irem C dL_isAsked_151 (by decide) ?_
    refine G_iadd C dL_isAsked_152 ?_
    obtain ⟨m66, m67, hc68, hs69, h⟩ := h
    refine G_callSWi C hZ tw_4_192 tw_4_193 tw_1_0 tw_4_194 hy_L_asks ⟨Nat.le_of_ble_eq_true rfl, Nat.le_of_ble_eq_true rfl⟩ (As := [va_rf x0, Value.int ((x4 / 5) - (x4 / 5) / 5 * 5), Value.int v5, Value.int v6, Value.int v7, Value.int v8, Value.int ((s0 + s1) + ((x4 / 19) - (x4 / 19) / 2 * 2)), Value.int (1 + ((x4 / 38) - (x4 / 38) / 6 * 6))]) (rest := []) (c_L_asks l hl D cy x0 ((x4 / 5) - (x4 / 5) / 5 * 5) v5 v6 v7 v8 ((s0 + s1) + ((x4 / 19) - (x4 / 19) / 2 * 2)) (1 + ((x4 / 38) - (x4 / 38) / 6 * 6)) S m66 m67 _ h) rfl rfl (by simp [va_cat, vi_cat, vl_cat]) dL_isAsked_153 ⟨hc68, hs69⟩ (fun r65 S64 h => ?_)
    refine G_istore C (i := 10) (lv' := [(10, Value.int r65), (9, Value.int ((s0 + s1) + ((x4 / 19) - (x4 / 19) / 2 * 2))), (0, va_rf x0), (1, va_rf x1), (3, va_rf x3), (4, Value.int x4), (5, Value.int v5), (6, Value.int v6), (7, Value.int v7), (8, Value.int v8)]) dL_isAsked_156 (by decide) (by first | rfl | simp [va_cat, vi_cat, vl_cat]) ?_
    refine G_iconst C (v := 4) dL_isAsked_158 (by decide) ?_
    refine G_aload_n C (x := x1) 3 dL_isAsked_159 rfl rfl ?_
    refine G_iconst C (v := 3) dL_isAsked_160 (by decide) ?_
    obtain ⟨a70, ha71, h⟩ := h
    refine G_rf1 ha71 ?_
    obtain ⟨hk72, h⟩ := h
    obtain ⟨hi73, h⟩ := h
    refine G_iald C hk72 hi73 dL_isAsked_161 ?_
    refine G_imul C dL_isAsked_162 ?_
    refine G_istore C (i := 11) (lv' := [(11, Value.int (4 * (gA S64 a70 ((3 : Int32).toNatClampNeg)))), (10, Value.int r65), (9, Value.int ((s0 + s1) + ((x4 / 19) - (x4 / 19) / 2 * 2))), (0, va_rf x0), (1, va_rf x1), (3, va_rf x3), (4, Value.int x4), (5, Value.int v5), (6, Value.int v6), (7, Value.int v7), (8, Value.int v8)]) dL_isAsked_163 (by decide) (by first | rfl | simp [va_cat, vi_cat, vl_cat]) ?_
    refine G_aload_n C (x := x3) 5 dL_isAsked_165 rfl rfl ?_
    refine G_iload C (x := (4 * (gA S64 a70 ((3 : Int32).toNatClampNeg)))) 0 dL_isAsked_166 rfl ?_
    refine G_iload C (x := v5) 7 dL_isAsked_168 rfl ?_
    obtain ⟨a74, ha75, h⟩ := h
    refine G_rf2 ha75 ?_
    obtain ⟨hk76, h⟩ := h
    obtain ⟨hi77, h⟩ := h
    refine G_iast C hk76 hi77 dL_isAsked_170 ?_
    generalize e79 : sA S64 a74 (((4 * (gA S64 a70 ((3 : Int32).toNatClampNeg)))).toNatClampNeg) v5 = S78
    have h := h S78 e79.symm
    refine G_aload_n C (x := x3) 5 dL_isAsked_171 rfl rfl ?_
    refine G_iload C (x := (4 * (gA S64 a70 ((3 : Int32).toNatClampNeg)))) 0 dL_isAsked_172 rfl ?_
    refine G_iconst C (v := 1) dL_isAsked_174 (by decide) ?_
    refine G_iadd C dL_isAsked_175 ?_
    refine G_iload C (x := v6) 8 dL_isAsked_176 rfl ?_
    refine G_rf2 ha75 ?_
    obtain ⟨hi80, h⟩ := h
    refine G_iast C (ksA e79.symm hk76) hi80 dL_isAsked_178 ?_
    generalize e82 : sA S78 a74 ((((4 * (gA S64 a70 ((3 : Int32).toNatClampNeg))) + 1)).toNatClampNeg) v6 = S81
    have h := h S81 e82.symm
    refine G_aload_n C (x := x3) 5 dL_isAsked_179 rfl rfl ?_
    refine G_iload C (x := (4 * (gA S64 a70 ((3 : Int32).toNatClampNeg)))) 0 dL_isAsked_180 rfl ?_
    refine G_iconst C (v := 2) dL_isAsked_182 (by decide) ?_
    refine G_iadd C dL_isAsked_183 ?_
    refine G_iload C (x := v7) 9 dL_isAsked_184 rfl ?_
    refine G_rf2 ha75 ?_
    obtain ⟨hi83, h⟩ := h
    refine G_iast C (ksA e82.symm (ksA e79.symm hk76)) hi83 dL_isAsked_186 ?_
    generalize e85 : sA S81 a74 ((((4 * (gA S64 a70 ((3 : Int32).toNatClampNeg))) + 2)).toNatClampNeg) v7 = S84
    have h := h S84 e85.symm
    refine G_aload_n C (x := x3) 5 dL_isAsked_187 rfl rfl ?_
    refine G_iload C (x := (4 * (gA S64 a70 ((3 : Int32).toNatClampNeg)))) 0 dL_isAsked_188 rfl ?_
    refine G_iconst C (v := 3) dL_isAsked_190 (by decide) ?_
    refine G_iadd C dL_isAsked_191 ?_
    refine G_iload C (x := x4) 6 dL_isAsked_192 rfl ?_
    refine G_iconst C (v := 5) dL_isAsked_194 (by decide) ?_
    refine G_idiv C dL_isAsked_195 (by decide) ?_
    refine G_iconst C (v := 5) dL_isAsked_196 (by decide) ?_
    refine G_irem C dL_isAsked_197 (by decide) ?_
    refine G_rf2 ha75 ?_
    obtain ⟨hi86, h⟩ := h
    refine G_iast C (ksA e85.symm (ksA e82.symm (ksA e79.symm hk76))) hi86 dL_isAsked_198 ?_
    generalize e88 : sA S84 a74 ((((4 * (gA S64 a70 ((3 : Int32).toNatClampNeg))) + 3)).toNatClampNeg) ((x4 / 5) - (x4 / 5) / 5 * 5) = S87
    have h := h S87 e88.symm
    refine G_aload_n C (x := x1) 4 dL_isAsked_199 rfl rfl ?_
    refine G_iconst C (v := 3) dL_isAsked_200 (by decide) ?_
    refine G_dup2 C dL_isAsked_201 rfl (va_cat _) ?_
    refine G_rf1 ha71 ?_
    obtain ⟨hi89, h⟩ := h
    refine G_iald C (ksA e88.symm (ksA e85.symm (ksA e82.symm (ksA e79.symm hk72)))) hi89 dL_isAsked_202 ?_
    refine G_iconst C (v := 1) dL_isAsked_203 (by decide) ?_
    refine G_iadd C dL_isAsked_204 ?_
    refine G_rf2 ha71 ?_
    obtain ⟨hi90, h⟩ := h
    refine G_iast C (ksA e88.symm (ksA e85.symm (ksA e82.symm (ksA e79.symm hk72)))) hi90 dL_isAsked_205 ?_
    generalize e92 : sA S87 a70 ((3 : Int32).toNatClampNeg) ((gA S87 a70 ((3 : Int32).toNatClampNeg)) + 1) = S91
    have h := h S91 e92.symm
    refine G_iload C (x := r65) 1 dL_isAsked_206 rfl ?_
    refine G_aload_n C (x := x1) 4 dL_isAsked_208 rfl rfl ?_
    refine G_iconst C (v := 3) dL_isAsked_209 (by decide) ?_
    refine G_rf1 ha71 ?_
    obtain ⟨hi93, h⟩ := h
    refine G_iald C (ksA e92.symm (ksA e88.symm (ksA e85.symm (ksA e82.symm (ksA e79.symm hk72))))) hi93 dL_isAsked_210 ?_
    refine G_iconst C (v := 1) dL_isAsked_211 (by decide) ?_
    refine G_isub C dL_isAsked_212 ?_
    refine G_icmp_ne C (tgt := 307) dL_isAsked_213 (by decide) (fun hc => ?_) (fun hc => ?_)
    · have h := h.1 hc
      refine G_lv C (lv' := []) [] rfl ?_
      exact J307 _ _ _ h
    · have h := h.2 hc
      refine G_aload_n C (x := x0) 3 dL_isAsked_216 rfl rfl ?_
      refine G_iload C (x := r65) 1 dL_isAsked_217 rfl ?_
      refine G_iconst C (v := 0) dL_isAsked_219 (by decide) ?_
      obtain ⟨S94, M95, hv96, hd97, h⟩ := h
      obtain ⟨a99, ha100, h⟩ := h
      obtain ⟨hk101, h⟩ := h
      obtain ⟨m104, m105, hc106, hs107, h⟩ := h
      refine G_fxcalli C hZ hv96 hd97 (Tf := TX8) (N := 10) hk101 (by decide) rfl tw_4_147 tw_4_148 tw_4_149 tw_1_1 tw_4_150 hy_X8_of ⟨Nat.le_of_ble_eq_true rfl, Nat.le_of_ble_eq_true rfl⟩ (As := [Value.int r65, Value.int 0]) (rest := []) (c_X8_of l hl  D cy a99 r65 0 S94 m104 m105 _ _ h) rfl (by first | rfl | (simp only [ha100]; rfl) | simp only [ha100]) (by simp [va_cat, vi_cat, vl_cat]) dL_isAsked_220 ⟨hc106, hs107⟩ (fun E S102 hd98 h => ?_) (fun r103 S102 hd98 h => ?_)
      · exact (h hd98).elim
      · replace h := h hd98
        refine G_iload C (x := v8) 10 dL_isAsked_223 rfl ?_
        refine G_iconst C (v := 3) dL_isAsked_225 (by decide) ?_
        refine G_icmp_ne C (tgt := 233) dL_isAsked_226 (by decide) (fun hc => ?_) (fun hc => ?_)
        · have h := h.1 hc
          refine G_iconst C (v := 0) dL_isAsked_233 (by decide) ?_
          refine G_lv C (lv' := [(0, va_rf x0), (4, Value.int x4), (8, Value.int v8), (9, Value.int ((s0 + s1) + ((x4 / 19) - (x4 / 19) / 2 * 2))), (10, Value.int r65)]) [3, 6, 10, 2, 1] rfl ?_
          exact J234 _ _ _ _ _ _ _ _ h
        · have h := h.2 hc
          refine G_iconst C (v := 1) dL_isAsked_229 (by decide) ?_
          refine G_goto C (tgt := 234) dL_isAsked_230 (by decide) ?_
          refine G_lv C (lv' := [(0, va_rf x0), (4, Value.int x4), (8, Value.int v8), (9, Value.int ((s0 + s1) + ((x4 / 19) - (x4 / 19) / 2 * 2))), (10, Value.int r65)]) [3, 6, 10, 2, 1] rfl ?_
          exact J234 _ _ _ _ _ _ _ _ h
  have J74 : ∀ (c0 n0 : Nat) (S : PT) (v5 : Int32) (v6 : Int32) (v7 : Int32) (s0 : Int32), w_L_isAsked_b74 x0 x1 x2 x3 x4 mc ms post c0 n0 S v5 v6 v7 s0 → G p l e { frames := 8, cells := mc, slots := ms, locals := 148 } s m [va_rf x0, va_rf x1, va_rf x2, va_rf x3, Value.int x4].toArray below meth c D cy A s.heap 12 (QMi below D cy A [va_rf x0, va_rf x1, va_rf x2, va_rf x3, Value.int x4] s mc ms (fun r S => bo r ∧ post r S)) S c0 n0 74 [(0, va_rf x0), (1, va_rf x1), (3, va_rf x3), (4, Value.int x4), (5, Value.int v5), (6, Value.int v6), (7, Value.int v7)] [Value.int s0] := by
    intro c0 n0 S v5 v6 v7 s0 h
    unfold w_L_isAsked_b74 at h
    obtain ⟨hc00, hn00, h⟩ := h
    refine G_istore C (i := 8) (lv' := [(8, Value.int s0), (0, va_rf x0), (1, va_rf x1), (3, va_rf x3), (4, Value.int x4), (5, Value.int v5), (6, Value.int v6), (7, Value.int v7)]) dL_isAsked_74 (by decide) (by first | rfl | simp [va_cat, vi_cat, vl_cat]) ?_
    refine G_aload_n C (x := x1) 2 dL_isAsked_76 rfl rfl ?_
    refine G_iconst C (v := 0) dL_isAsked_77 (by decide) ?_
    obtain ⟨a108, ha109, h⟩ := h
    refine G_rf1 ha109 ?_
    obtain ⟨hk110, h⟩ := h
    obtain ⟨hi111, h⟩ := h
    refine G_iald C hk110 hi111 dL_isAsked_78 ?_
    refine G_bipush C (v := 24) dL_isAsked_79 (by decide) ?_
    refine G_idiv C dL_isAsked_81 (by decide) ?_
    refine G_iload C (x := s0) 0 dL_isAsked_82 rfl ?_
    refine G_if_ne C (tgt := 92) dL_isAsked_84 (by decide) (fun hc => ?_) (fun hc => ?_)
    · have h := h.1 hc
      refine G_iload C (x := s0) 0 dL_isAsked_92 rfl ?_
      refine G_iconst C (v := 1) dL_isAsked_94 (by decide) ?_
      refine G_icmp_ne C (tgt := 103) dL_isAsked_95 (by decide) (fun hc => ?_) (fun hc => ?_)
      · have h := h.1 hc
        refine G_iload C (x := s0) 0 dL_isAsked_103 rfl ?_
        refine G_iconst C (v := 2) dL_isAsked_105 (by decide) ?_
        refine G_icmp_ne C (tgt := 114) dL_isAsked_106 (by decide) (fun hc => ?_) (fun hc => ?_)
        · have h := h.1 hc
          refine G_iconst C (v := 0) dL_isAsked_114 (by decide) ?_
          refine G_lv C (lv' := [(0, va_rf x0), (1, va_rf x1), (3, va_rf x3), (4, Value.int x4), (5, Value.int v5), (6, Value.int v6), (7, Value.int v7), (8, Value.int s0)]) [1, 2, 3, 4, 5, 6, 7, 0] rfl ?_
          exact J115 _ _ _ _ _ _ _ _ _ h
        · have h := h.2 hc
          refine G_bipush C (v := 6) dL_isAsked_109 (by decide) ?_
          refine G_goto C (tgt := 115) dL_isAsked_111 (by decide) ?_
          refine G_lv C (lv' := [(0, va_rf x0), (1, va_rf x1), (3, va_rf x3), (4, Value.int x4), (5, Value.int v5), (6, Value.int v6), (7, Value.int v7), (8, Value.int s0)]) [1, 2, 3, 4, 5, 6, 7, 0] rfl ?_
          exact J115 _ _ _ _ _ _ _ _ _ h
      · have h := h.2 hc
        refine G_bipush C (v := 16) dL_isAsked_98 (by decide) ?_
        refine G_goto C (tgt := 115) dL_isAsked_100 (by decide) ?_
        refine G_lv C (lv' := [(0, va_rf x0), (1, va_rf x1), (3, va_rf x3), (4, Value.int x4), (5, Value.int v5), (6, Value.int v6), (7, Value.int v7), (8, Value.int s0)]) [1, 2, 3, 4, 5, 6, 7, 0] rfl ?_
        exact J115 _ _ _ _ _ _ _ _ _ h
    · have h := h.2 hc
      refine G_bipush C (v := 40) dL_isAsked_87 (by decide) ?_
      refine G_goto C (tgt := 115) dL_isAsked_89 (by decide) ?_
      refine G_lv C (lv' := [(0, va_rf x0), (1, va_rf x1), (3, va_rf x3), (4, Value.int x4), (5, Value.int v5), (6, Value.int v6), (7, Value.int v7), (8, Value.int s0)]) [1, 2, 3, 4, 5, 6, 7, 0] rfl ?_
      exact J115 _ _ _ _ _ _ _ _ _ h
  refine G_lv C (lv' := [(0, va_rf x0), (1, va_rf x1), (2, va_rf x2), (3, va_rf x3), (4, Value.int x4)]) [0, 1, 2, 3, 4] (by first | rfl | simp [lv_pick, lv_args, va_cat, vi_cat, vl_cat]) ?_
  unfold w_L_isAsked at h
  refine G_iload C (x := x4) 4 dL_isAsked_0 rfl ?_
  refine G_aload_n C (x := x1) 1 dL_isAsked_2 rfl rfl ?_
  refine G_iconst C (v := 1) dL_isAsked_3 (by decide) ?_
  obtain ⟨a112, ha113, h⟩ := h
  refine G_rf1 ha113 ?_
  obtain ⟨hk114, h⟩ := h
  obtain ⟨hi115, h⟩ := h
  refine G_iald C hk114 hi115 dL_isAsked_4 ?_
  obtain ⟨hn116, h⟩ := h
  refine G_irem C dL_isAsked_5 hn116 ?_
  refine G_istore C (i := 5) (lv' := [(5, Value.int (x4 - x4 / (gA S a112 ((1 : Int32).toNatClampNeg)) * (gA S a112 ((1 : Int32).toNatClampNeg)))), (0, va_rf x0), (1, va_rf x1), (2, va_rf x2), (3, va_rf x3), (4, Value.int x4)]) dL_isAsked_6 (by decide) (by first | rfl | simp [va_cat, vi_cat, vl_cat]) ?_
  refine G_iload C (x := x4) 5 dL_isAsked_8 rfl ?_
  refine G_bipush C (v := 6) dL_isAsked_10 (by decide) ?_
  refine G_idiv C dL_isAsked_12 (by decide) ?_
  refine G_aload_n C (x := x2) 3 dL_isAsked_13 rfl rfl ?_
  refine G_iload C (x := (x4 - x4 / (gA S a112 ((1 : Int32).toNatClampNeg)) * (gA S a112 ((1 : Int32).toNatClampNeg)))) 0 dL_isAsked_14 rfl ?_
  obtain ⟨a117, ha118, h⟩ := h
  refine G_rf1 ha118 ?_
  obtain ⟨hk119, h⟩ := h
  obtain ⟨hi120, h⟩ := h
  refine G_iald C hk119 hi120 dL_isAsked_16 ?_
  obtain ⟨hn121, h⟩ := h
  refine G_irem C dL_isAsked_17 hn121 ?_
  refine G_istore C (i := 6) (lv' := [(6, Value.int ((x4 / 6) - (x4 / 6) / (gA S a117 (((x4 - x4 / (gA S a112 ((1 : Int32).toNatClampNeg)) * (gA S a112 ((1 : Int32).toNatClampNeg)))).toNatClampNeg)) * (gA S a117 (((x4 - x4 / (gA S a112 ((1 : Int32).toNatClampNeg)) * (gA S a112 ((1 : Int32).toNatClampNeg)))).toNatClampNeg)))), (5, Value.int (x4 - x4 / (gA S a112 ((1 : Int32).toNatClampNeg)) * (gA S a112 ((1 : Int32).toNatClampNeg)))), (0, va_rf x0), (1, va_rf x1), (2, va_rf x2), (3, va_rf x3), (4, Value.int x4)]) dL_isAsked_18 (by decide) (by first | rfl | simp [va_cat, vi_cat, vl_cat]) ?_
  refine G_iload C (x := ((x4 / 6) - (x4 / 6) / (gA S a117 (((x4 - x4 / (gA S a112 ((1 : Int32).toNatClampNeg)) * (gA S a112 ((1 : Int32).toNatClampNeg)))).toNatClampNeg)) * (gA S a117 (((x4 - x4 / (gA S a112 ((1 : Int32).toNatClampNeg)) * (gA S a112 ((1 : Int32).toNatClampNeg)))).toNatClampNeg)))) 0 dL_isAsked_20 rfl ?_
  refine G_iload C (x := x4) 6 dL_isAsked_22 rfl ?_
  refine G_bipush C (v := 84) dL_isAsked_24 (by decide) ?_
  refine G_idiv C dL_isAsked_26 (by decide) ?_
  refine G_aload_n C (x := x2) 4 dL_isAsked_27 rfl rfl ?_
  refine G_iload C (x := (x4 - x4 / (gA S a112 ((1 : Int32).toNatClampNeg)) * (gA S a112 ((1 : Int32).toNatClampNeg)))) 1 dL_isAsked_28 rfl ?_
  refine G_rf1 ha118 ?_
  obtain ⟨hi122, h⟩ := h
  refine G_iald C hk119 hi122 dL_isAsked_30 ?_
  refine G_iload C (x := ((x4 / 6) - (x4 / 6) / (gA S a117 (((x4 - x4 / (gA S a112 ((1 : Int32).toNatClampNeg)) * (gA S a112 ((1 : Int32).toNatClampNeg)))).toNatClampNeg)) * (gA S a117 (((x4 - x4 / (gA S a112 ((1 : Int32).toNatClampNeg)) * (gA S a112 ((1 : Int32).toNatClampNeg)))).toNatClampNeg)))) 0 dL_isAsked_31 rfl ?_
  refine G_isub C dL_isAsked_33 ?_
  obtain ⟨hn123, h⟩ := h
  refine G_irem C dL_isAsked_34 hn123 ?_
  refine G_iadd C dL_isAsked_35 ?_
  refine G_istore C (i := 7) (lv' := [(7, Value.int (((x4 / 6) - (x4 / 6) / (gA S a117 (((x4 - x4 / (gA S a112 ((1 : Int32).toNatClampNeg)) * (gA S a112 ((1 : Int32).toNatClampNeg)))).toNatClampNeg)) * (gA S a117 (((x4 - x4 / (gA S a112 ((1 : Int32).toNatClampNeg)) * (gA S a112 ((1 : Int32).toNatClampNeg)))).toNatClampNeg))) + ((x4 / 84) - (x4 / 84) / ((gA S a117 (((x4 - x4 / (gA S a112 ((1 : Int32).toNatClampNeg)) * (gA S a112 ((1 : Int32).toNatClampNeg)))).toNatClampNeg)) - ((x4 / 6) - (x4 / 6) / (gA S a117 (((x4 - x4 / (gA S a112 ((1 : Int32).toNatClampNeg)) * (gA S a112 ((1 : Int32).toNatClampNeg)))).toNatClampNeg)) * (gA S a117 (((x4 - x4 / (gA S a112 ((1 : Int32).toNatClampNeg)) * (gA S a112 ((1 : Int32).toNatClampNeg)))).toNatClampNeg)))) * ((gA S a117 (((x4 - x4 / (gA S a112 ((1 : Int32).toNatClampNeg)) * (gA S a112 ((1 : Int32).toNatClampNeg)))).toNatClampNeg)) - ((x4 / 6) - (x4 / 6) / (gA S a117 (((x4 - x4 / (gA S a112 ((1 : Int32).toNatClampNeg)) * (gA S a112 ((1 : Int32).toNatClampNeg)))).toNatClampNeg)) * (gA S a117 (((x4 - x4 / (gA S a112 ((1 : Int32).toNatClampNeg)) * (gA S a112 ((1 : Int32).toNatClampNeg)))).toNatClampNeg))))))), (6, Value.int ((x4 / 6) - (x4 / 6) / (gA S a117 (((x4 - x4 / (gA S a112 ((1 : Int32).toNatClampNeg)) * (gA S a112 ((1 : Int32).toNatClampNeg)))).toNatClampNeg)) * (gA S a117 (((x4 - x4 / (gA S a112 ((1 : Int32).toNatClampNeg)) * (gA S a112 ((1 : Int32).toNatClampNeg)))).toNatClampNeg)))), (5, Value.int (x4 - x4 / (gA S a112 ((1 : Int32).toNatClampNeg)) * (gA S a112 ((1 : Int32).toNatClampNeg)))), (0, va_rf x0), (1, va_rf x1), (2, va_rf x2), (3, va_rf x3), (4, Value.int x4)]) dL_isAsked_36 (by decide) (by first | rfl | simp [va_cat, vi_cat, vl_cat]) ?_
  refine G_iload C (x := x4) 7 dL_isAsked_38 rfl ?_
  refine G_bipush C (v := 11) dL_isAsked_40 (by decide) ?_
  refine G_idiv C dL_isAsked_42 (by decide) ?_
  refine G_iconst C (v := 5) dL_isAsked_43 (by decide) ?_
  refine G_irem C dL_isAsked_44 (by decide) ?_
  refine G_if_ne C (tgt := 58) dL_isAsked_45 (by decide) (fun hc => ?_) (fun hc => ?_)
  · have h := h.1 hc
    refine G_iload C (x := x4) 7 dL_isAsked_58 rfl ?_
    refine G_bipush C (v := 11) dL_isAsked_60 (by decide) ?_
    refine G_idiv C dL_isAsked_62 (by decide) ?_
    refine G_iconst C (v := 5) dL_isAsked_63 (by decide) ?_
    refine G_irem C dL_isAsked_64 (by decide) ?_
    refine G_iconst C (v := 3) dL_isAsked_65 (by decide) ?_
    refine G_icmp_ge C (tgt := 73) dL_isAsked_66 (by decide) (fun hc => ?_) (fun hc => ?_)
    · have h := h.1 hc
      refine G_iconst C (v := 3) dL_isAsked_73 (by decide) ?_
      refine G_lv C (lv' := [(0, va_rf x0), (1, va_rf x1), (3, va_rf x3), (4, Value.int x4), (5, Value.int (x4 - x4 / (gA S a112 ((1 : Int32).toNatClampNeg)) * (gA S a112 ((1 : Int32).toNatClampNeg)))), (6, Value.int ((x4 / 6) - (x4 / 6) / (gA S a117 (((x4 - x4 / (gA S a112 ((1 : Int32).toNatClampNeg)) * (gA S a112 ((1 : Int32).toNatClampNeg)))).toNatClampNeg)) * (gA S a117 (((x4 - x4 / (gA S a112 ((1 : Int32).toNatClampNeg)) * (gA S a112 ((1 : Int32).toNatClampNeg)))).toNatClampNeg)))), (7, Value.int (((x4 / 6) - (x4 / 6) / (gA S a117 (((x4 - x4 / (gA S a112 ((1 : Int32).toNatClampNeg)) * (gA S a112 ((1 : Int32).toNatClampNeg)))).toNatClampNeg)) * (gA S a117 (((x4 - x4 / (gA S a112 ((1 : Int32).toNatClampNeg)) * (gA S a112 ((1 : Int32).toNatClampNeg)))).toNatClampNeg))) + ((x4 / 84) - (x4 / 84) / ((gA S a117 (((x4 - x4 / (gA S a112 ((1 : Int32).toNatClampNeg)) * (gA S a112 ((1 : Int32).toNatClampNeg)))).toNatClampNeg)) - ((x4 / 6) - (x4 / 6) / (gA S a117 (((x4 - x4 / (gA S a112 ((1 : Int32).toNatClampNeg)) * (gA S a112 ((1 : Int32).toNatClampNeg)))).toNatClampNeg)) * (gA S a117 (((x4 - x4 / (gA S a112 ((1 : Int32).toNatClampNeg)) * (gA S a112 ((1 : Int32).toNatClampNeg)))).toNatClampNeg)))) * ((gA S a117 (((x4 - x4 / (gA S a112 ((1 : Int32).toNatClampNeg)) * (gA S a112 ((1 : Int32).toNatClampNeg)))).toNatClampNeg)) - ((x4 / 6) - (x4 / 6) / (gA S a117 (((x4 - x4 / (gA S a112 ((1 : Int32).toNatClampNeg)) * (gA S a112 ((1 : Int32).toNatClampNeg)))).toNatClampNeg)) * (gA S a117 (((x4 - x4 / (gA S a112 ((1 : Int32).toNatClampNeg)) * (gA S a112 ((1 : Int32).toNatClampNeg)))).toNatClampNeg)))))))]) [3, 4, 6, 7, 2, 1, 0] rfl ?_
      exact J74 _ _ _ _ _ _ _ h
    · have h := h.2 hc
      refine G_iconst C (v := 2) dL_isAsked_69 (by decide) ?_
      refine G_goto C (tgt := 74) dL_isAsked_70 (by decide) ?_
      refine G_lv C (lv' := [(0, va_rf x0), (1, va_rf x1), (3, va_rf x3), (4, Value.int x4), (5, Value.int (x4 - x4 / (gA S a112 ((1 : Int32).toNatClampNeg)) * (gA S a112 ((1 : Int32).toNatClampNeg)))), (6, Value.int ((x4 / 6) - (x4 / 6) / (gA S a117 (((x4 - x4 / (gA S a112 ((1 : Int32).toNatClampNeg)) * (gA S a112 ((1 : Int32).toNatClampNeg)))).toNatClampNeg)) * (gA S a117 (((x4 - x4 / (gA S a112 ((1 : Int32).toNatClampNeg)) * (gA S a112 ((1 : Int32).toNatClampNeg)))).toNatClampNeg)))), (7, Value.int (((x4 / 6) - (x4 / 6) / (gA S a117 (((x4 - x4 / (gA S a112 ((1 : Int32).toNatClampNeg)) * (gA S a112 ((1 : Int32).toNatClampNeg)))).toNatClampNeg)) * (gA S a117 (((x4 - x4 / (gA S a112 ((1 : Int32).toNatClampNeg)) * (gA S a112 ((1 : Int32).toNatClampNeg)))).toNatClampNeg))) + ((x4 / 84) - (x4 / 84) / ((gA S a117 (((x4 - x4 / (gA S a112 ((1 : Int32).toNatClampNeg)) * (gA S a112 ((1 : Int32).toNatClampNeg)))).toNatClampNeg)) - ((x4 / 6) - (x4 / 6) / (gA S a117 (((x4 - x4 / (gA S a112 ((1 : Int32).toNatClampNeg)) * (gA S a112 ((1 : Int32).toNatClampNeg)))).toNatClampNeg)) * (gA S a117 (((x4 - x4 / (gA S a112 ((1 : Int32).toNatClampNeg)) * (gA S a112 ((1 : Int32).toNatClampNeg)))).toNatClampNeg)))) * ((gA S a117 (((x4 - x4 / (gA S a112 ((1 : Int32).toNatClampNeg)) * (gA S a112 ((1 : Int32).toNatClampNeg)))).toNatClampNeg)) - ((x4 / 6) - (x4 / 6) / (gA S a117 (((x4 - x4 / (gA S a112 ((1 : Int32).toNatClampNeg)) * (gA S a112 ((1 : Int32).toNatClampNeg)))).toNatClampNeg)) * (gA S a117 (((x4 - x4 / (gA S a112 ((1 : Int32).toNatClampNeg)) * (gA S a112 ((1 : Int32).toNatClampNeg)))).toNatClampNeg)))))))]) [3, 4, 6, 7, 2, 1, 0] rfl ?_
      exact J74 _ _ _ _ _ _ _ h
  · have h := h.2 hc
    refine G_iload C (x := x4) 7 dL_isAsked_48 rfl ?_
    refine G_bipush C (v := 55) dL_isAsked_50 (by decide) ?_
    refine G_idiv C dL_isAsked_52 (by decide) ?_
    refine G_iconst C (v := 3) dL_isAsked_53 (by decide) ?_
    refine G_irem C dL_isAsked_54 (by decide) ?_
    refine G_goto C (tgt := 74) dL_isAsked_55 (by decide) ?_
    refine G_lv C (lv' := [(0, va_rf x0), (1, va_rf x1), (3, va_rf x3), (4, Value.int x4), (5, Value.int (x4 - x4 / (gA S a112 ((1 : Int32).toNatClampNeg)) * (gA S a112 ((1 : Int32).toNatClampNeg)))), (6, Value.int ((x4 / 6) - (x4 / 6) / (gA S a117 (((x4 - x4 / (gA S a112 ((1 : Int32).toNatClampNeg)) * (gA S a112 ((1 : Int32).toNatClampNeg)))).toNatClampNeg)) * (gA S a117 (((x4 - x4 / (gA S a112 ((1 : Int32).toNatClampNeg)) * (gA S a112 ((1 : Int32).toNatClampNeg)))).toNatClampNeg)))), (7, Value.int (((x4 / 6) - (x4 / 6) / (gA S a117 (((x4 - x4 / (gA S a112 ((1 : Int32).toNatClampNeg)) * (gA S a112 ((1 : Int32).toNatClampNeg)))).toNatClampNeg)) * (gA S a117 (((x4 - x4 / (gA S a112 ((1 : Int32).toNatClampNeg)) * (gA S a112 ((1 : Int32).toNatClampNeg)))).toNatClampNeg))) + ((x4 / 84) - (x4 / 84) / ((gA S a117 (((x4 - x4 / (gA S a112 ((1 : Int32).toNatClampNeg)) * (gA S a112 ((1 : Int32).toNatClampNeg)))).toNatClampNeg)) - ((x4 / 6) - (x4 / 6) / (gA S a117 (((x4 - x4 / (gA S a112 ((1 : Int32).toNatClampNeg)) * (gA S a112 ((1 : Int32).toNatClampNeg)))).toNatClampNeg)) * (gA S a117 (((x4 - x4 / (gA S a112 ((1 : Int32).toNatClampNeg)) * (gA S a112 ((1 : Int32).toNatClampNeg)))).toNatClampNeg)))) * ((gA S a117 (((x4 - x4 / (gA S a112 ((1 : Int32).toNatClampNeg)) * (gA S a112 ((1 : Int32).toNatClampNeg)))).toNatClampNeg)) - ((x4 / 6) - (x4 / 6) / (gA S a117 (((x4 - x4 / (gA S a112 ((1 : Int32).toNatClampNeg)) * (gA S a112 ((1 : Int32).toNatClampNeg)))).toNatClampNeg)) * (gA S a117 (((x4 - x4 / (gA S a112 ((1 : Int32).toNatClampNeg)) * (gA S a112 ((1 : Int32).toNatClampNeg)))).toNatClampNeg)))))))]) [3, 4, 6, 7, 2, 1, 0] rfl ?_
    exact J74 _ _ _ _ _ _ _ h
