set_option maxHeartbeats 4000000 in
set_option maxRecDepth 100000 in
theorem c_L_isPassed (l : Launch) (hl : l.stackTraces = false) (D : va_G) (cy : Nat → Nat) (e0 m0 : Nat) (he : e0 = cy 9) (hm : m0 = cy 10) (x0 : Option Nat) (x1 : Option Nat) (x2 : Option Nat) (x3 : Int32) (S : PT) (mc ms : Nat) (post : Int32 → PT → Prop) (h : w_L_isPassed e0 m0 x0 x1 x2 x3 S mc ms post) : Mi l yL_isPassed (Wm yL_isPassed method_13_code 12 (Option.some Jvm.ClassFile.FieldType.boolean)) 10 244 D cy [va_rf x0, va_rf x1, va_rf x2, Value.int x3] S mc ms (fun r S => bo r ∧ post r S) := by
  refine Mi_of (own := "TrenchboardLaw") (by decide) rfl (by first | decide | simp [lg_sl, va_cat, vi_cat, vl_cat]) (fun p e s m below meth c A C hZ hr hin9 => ?_)
  have J218 : ∀ (c0 n0 : Nat) (S : PT) (v8 : Int32), w_L_isPassed_b218 e0 m0 x0 x1 x2 x3 mc ms post c0 n0 S v8 → G p l e { frames := 10, cells := mc, slots := ms, locals := 244 } s m [va_rf x0, va_rf x1, va_rf x2, Value.int x3].toArray below meth c D cy A s.heap 12 (QMi below D cy A [va_rf x0, va_rf x1, va_rf x2, Value.int x3] s mc ms (fun r S => bo r ∧ post r S)) S c0 n0 218 [(8, Value.int v8)] [] := by
    intro c0 n0 S v8 h
    unfold w_L_isPassed_b218 at h
    obtain ⟨hc00, hn00, h⟩ := h
    refine G_iload C (x := v8) 0 dL_isPassed_218 rfl ?_
    obtain ⟨hb1, h⟩ := h
    exact G_zret C (mc := mc) (ms := ms) (post := (fun r S => bo r ∧ post r S)) (bo_nar hb1) hr hc00 hn00 dL_isPassed_220 ⟨hb1, h⟩
  have J107 : ∀ (n : Nat) (c0 n0 : Nat) (S : PT) (v4 : Int32) (v5 : Option Nat) (v8 : Int32) (v9 : Int32), w_L_isPassed_l107 e0 m0 x0 x1 x2 x3 mc ms post n c0 n0 S v4 v5 v8 v9 → G p l e { frames := 10, cells := mc, slots := ms, locals := 244 } s m [va_rf x0, va_rf x1, va_rf x2, Value.int x3].toArray below meth c D cy A s.heap 12 (QMi below D cy A [va_rf x0, va_rf x1, va_rf x2, Value.int x3] s mc ms (fun r S => bo r ∧ post r S)) S c0 n0 107 [(0, va_rf x0), (1, va_rf x1), (2, va_rf x2), (4, Value.int v4), (5, va_rf v5), (8, Value.int v8), (9, Value.int v9)] [] := by
    intro n107
    induction n107 with
    | zero => intro c0 n0 S v4 v5 v8 v9 h; rw [w_L_isPassed_l107] at h; exact False.elim h
    | succ n107 K107 =>
      have J210 : ∀ (c0 n0 : Nat) (S : PT) (v4 : Int32) (v5 : Option Nat) (v9 : Int32) (s0 : Int32), w_L_isPassed_b210 e0 m0 x0 x1 x2 x3 mc ms post (w_L_isPassed_l107 e0 m0 x0 x1 x2 x3 mc ms post n107) c0 n0 S v4 v5 v9 s0 → G p l e { frames := 10, cells := mc, slots := ms, locals := 244 } s m [va_rf x0, va_rf x1, va_rf x2, Value.int x3].toArray below meth c D cy A s.heap 12 (QMi below D cy A [va_rf x0, va_rf x1, va_rf x2, Value.int x3] s mc ms (fun r S => bo r ∧ post r S)) S c0 n0 210 [(0, va_rf x0), (1, va_rf x1), (2, va_rf x2), (4, Value.int v4), (5, va_rf v5), (9, Value.int v9)] [Value.int s0] := by
        intro c0 n0 S v4 v5 v9 s0 h
        unfold w_L_isPassed_b210 at h
        obtain ⟨hc00, hn00, h⟩ := h
        refine G_istore C (i := 8) (lv' := [(8, Value.int s0), (0, va_rf x0), (1, va_rf x1), (2, va_rf x2), (4, Value.int v4), (5, va_rf v5), (9, Value.int v9)]) dL_isPassed_210 (by decide) (by first | rfl | simp [va_cat, vi_cat, vl_cat]) ?_
        refine G_iinc C (v := (v9 + 1)) (lv' := [(9, Value.int (v9 + 1)), (8, Value.int s0), (0, va_rf x0), (1, va_rf x1), (2, va_rf x2), (4, Value.int v4), (5, va_rf v5)]) 6 dL_isPassed_212 rfl rfl (by decide) (by first | rfl | simp [va_cat, vi_cat, vl_cat]) ?_
        refine G_goto C (tgt := 107) dL_isPassed_215 (by decide) ?_
        refine G_lv C (lv' := [(0, va_rf x0), (1, va_rf x1), (2, va_rf x2), (4, Value.int v4), (5, va_rf v5), (8, Value.int s0), (9, Value.int (v9 + 1))]) [2, 3, 4, 5, 6, 1, 0] rfl ?_
        exact K107 _ _ _ _ _ _ _ h
      have J209 : ∀ (c0 n0 : Nat) (S : PT) (v4 : Int32) (v5 : Option Nat) (v9 : Int32), w_L_isPassed_b209 e0 m0 x0 x1 x2 x3 mc ms post (w_L_isPassed_l107 e0 m0 x0 x1 x2 x3 mc ms post n107) c0 n0 S v4 v5 v9 → G p l e { frames := 10, cells := mc, slots := ms, locals := 244 } s m [va_rf x0, va_rf x1, va_rf x2, Value.int x3].toArray below meth c D cy A s.heap 12 (QMi below D cy A [va_rf x0, va_rf x1, va_rf x2, Value.int x3] s mc ms (fun r S => bo r ∧ post r S)) S c0 n0 209 [(0, va_rf x0), (1, va_rf x1), (2, va_rf x2), (4, Value.int v4), (5, va_rf v5), (9, Value.int v9)] [] := by
        intro c0 n0 S v4 v5 v9 h
        unfold w_L_isPassed_b209 at h
        obtain ⟨hc00, hn00, h⟩ := h
        refine G_iconst C (v := 0) dL_isPassed_209 (by decide) ?_
        refine G_lv C (lv' := [(0, va_rf x0), (1, va_rf x1), (2, va_rf x2), (4, Value.int v4), (5, va_rf v5), (9, Value.int v9)]) [0, 1, 2, 3, 4, 5] rfl ?_
        exact J210 _ _ _ _ _ _ _ h
      have J132 : ∀ (n : Nat) (c0 n0 : Nat) (S : PT) (v4 : Int32) (v5 : Option Nat) (v9 : Int32) (v10 : Int32) (v11 : Int32), w_L_isPassed_l132 e0 m0 x0 x1 x2 x3 mc ms post (w_L_isPassed_l107 e0 m0 x0 x1 x2 x3 mc ms post n107) n c0 n0 S v4 v5 v9 v10 v11 → G p l e { frames := 10, cells := mc, slots := ms, locals := 244 } s m [va_rf x0, va_rf x1, va_rf x2, Value.int x3].toArray below meth c D cy A s.heap 12 (QMi below D cy A [va_rf x0, va_rf x1, va_rf x2, Value.int x3] s mc ms (fun r S => bo r ∧ post r S)) S c0 n0 132 [(0, va_rf x0), (1, va_rf x1), (2, va_rf x2), (4, Value.int v4), (5, va_rf v5), (9, Value.int v9), (10, Value.int v10), (11, Value.int v11)] [] := by
        intro n132
        induction n132 with
        | zero => intro c0 n0 S v4 v5 v9 v10 v11 h; rw [w_L_isPassed_l132] at h; exact False.elim h
        | succ n132 K132 =>
          have J167 : ∀ (c0 n0 : Nat) (S : PT) (v4 : Int32) (v5 : Option Nat) (v9 : Int32) (v11 : Int32) (s0 : Int32) (s1 : Int32), w_L_isPassed_b167 e0 m0 x0 x1 x2 x3 mc ms post (w_L_isPassed_l107 e0 m0 x0 x1 x2 x3 mc ms post n107) (w_L_isPassed_l132 e0 m0 x0 x1 x2 x3 mc ms post (w_L_isPassed_l107 e0 m0 x0 x1 x2 x3 mc ms post n107) n132) c0 n0 S v4 v5 v9 v11 s0 s1 → G p l e { frames := 10, cells := mc, slots := ms, locals := 244 } s m [va_rf x0, va_rf x1, va_rf x2, Value.int x3].toArray below meth c D cy A s.heap 12 (QMi below D cy A [va_rf x0, va_rf x1, va_rf x2, Value.int x3] s mc ms (fun r S => bo r ∧ post r S)) S c0 n0 167 [(0, va_rf x0), (1, va_rf x1), (2, va_rf x2), (4, Value.int v4), (5, va_rf v5), (9, Value.int v9), (11, Value.int v11)] [Value.int s1, Value.int s0] := by
            intro c0 n0 S v4 v5 v9 v11 s0 s1 h
            unfold w_L_isPassed_b167 at h
            obtain ⟨hc00, hn00, h⟩ := h
            refine G_iadd C dL_isPassed_167 ?_
            refine G_istore C (i := 10) (lv' := [(10, Value.int (s0 + s1)), (0, va_rf x0), (1, va_rf x1), (2, va_rf x2), (4, Value.int v4), (5, va_rf v5), (9, Value.int v9), (11, Value.int v11)]) dL_isPassed_168 (by decide) (by first | rfl | simp [va_cat, vi_cat, vl_cat]) ?_
            refine G_iinc C (v := (v11 + 1)) (lv' := [(11, Value.int (v11 + 1)), (10, Value.int (s0 + s1)), (0, va_rf x0), (1, va_rf x1), (2, va_rf x2), (4, Value.int v4), (5, va_rf v5), (9, Value.int v9)]) 7 dL_isPassed_170 rfl rfl (by decide) (by first | rfl | simp [va_cat, vi_cat, vl_cat]) ?_
            refine G_goto C (tgt := 132) dL_isPassed_173 (by decide) ?_
            refine G_lv C (lv' := [(0, va_rf x0), (1, va_rf x1), (2, va_rf x2), (4, Value.int v4), (5, va_rf v5), (9, Value.int v9), (10, Value.int (s0 + s1)), (11, Value.int (v11 + 1))]) [2, 3, 4, 5, 6, 7, 1, 0] rfl ?_
            exact K132 _ _ _ _ _ _ _ _ h
          intro c0 n0 S v4 v5 v9 v10 v11 h
          rw [w_L_isPassed_l132] at h
          obtain ⟨hc00, hn00, h⟩ := h
          refine G_iload C (x := v11) 7 dL_isPassed_132 rfl ?_
          refine G_aload_n C (x := x1) 1 dL_isPassed_134 rfl rfl ?_
          refine G_iconst C (v := 1) dL_isPassed_135 (by decide) ?_
          obtain ⟨a2, ha3, h⟩ := h
          refine G_rf1 ha3 ?_
          obtain ⟨hk4, h⟩ := h
          obtain ⟨hi5, h⟩ := h
          refine G_iald C hk4 hi5 dL_isPassed_136 ?_
          refine G_icmp_ge C (tgt := 176) dL_isPassed_137 (by decide) (fun hc => ?_) (fun hc => ?_)
          · have h := h.1 hc
            refine G_aload_n C (x := x0) 0 dL_isPassed_176 rfl rfl ?_
            refine G_iload C (x := v9) 5 dL_isPassed_177 rfl ?_
            obtain ⟨S6, M7, hv8, hd9, h⟩ := h
            obtain ⟨a11, ha12, h⟩ := h
            obtain ⟨hk13, h⟩ := h
            obtain ⟨m16, m17, hc18, hs19, h⟩ := h
            refine G_fxcalli C hZ hv8 hd9 (Tf := TX8) (N := 10) hk13 (by decide) rfl tw_4_156 tw_4_157 tw_4_158 tw_1_1 tw_4_159 hy_X8_queue ⟨Nat.le_of_ble_eq_true rfl, Nat.le_of_ble_eq_true rfl⟩ (As := [Value.int v9]) (rest := []) (c_X8_queue l hl  D cy a11 v9 S6 m16 m17 _ _ h) rfl (by first | rfl | (simp only [ha12]; rfl) | simp only [ha12]) (by simp [va_cat, vi_cat, vl_cat]) dL_isPassed_179 ⟨hc18, hs19⟩ (fun E S14 hd10 h => ?_) (fun r15 S14 hd10 h => ?_)
            · exact (h hd10).elim
            · replace h := h hd10
              refine G_aload C (x := v5) 4 dL_isPassed_182 rfl ?_
              refine G_iload C (x := v9) 5 dL_isPassed_184 rfl ?_
              obtain ⟨a20, ha21, h⟩ := h
              refine G_rf1 ha21 ?_
              obtain ⟨hk22, h⟩ := h
              obtain ⟨hi23, h⟩ := h
              refine G_iald C hk22 hi23 dL_isPassed_186 ?_
              refine G_iload C (x := v4) 3 dL_isPassed_187 rfl ?_
              refine G_iload C (x := v10) 6 dL_isPassed_189 rfl ?_
              refine G_imul C dL_isPassed_191 ?_
              refine G_iadd C dL_isPassed_192 ?_
              refine G_icmp_gt C (tgt := 209) dL_isPassed_193 (by decide) (fun hc => ?_) (fun hc => ?_)
              · have h := h.1 hc
                refine G_lv C (lv' := [(0, va_rf x0), (1, va_rf x1), (2, va_rf x2), (4, Value.int v4), (5, va_rf v5), (9, Value.int v9)]) [0, 1, 2, 3, 4, 5] rfl ?_
                exact J209 _ _ _ _ _ _ h
              · have h := h.2 hc
                refine G_aload_n C (x := x0) 0 dL_isPassed_196 rfl rfl ?_
                refine G_iload C (x := v9) 5 dL_isPassed_197 rfl ?_
                obtain ⟨S24, M25, hv26, hd27, h⟩ := h
                obtain ⟨hk29, h⟩ := h
                obtain ⟨m32, m33, hc34, hs35, h⟩ := h
                refine G_fxcalli C hZ hv26 hd27 (Tf := TX8) (N := 10) hk29 (by decide) rfl tw_4_156 tw_4_157 tw_4_158 tw_1_1 tw_4_159 hy_X8_queue ⟨Nat.le_of_ble_eq_true rfl, Nat.le_of_ble_eq_true rfl⟩ (As := [Value.int v9]) (rest := []) (c_X8_queue l hl  D cy a11 v9 S24 m32 m33 _ _ h) rfl (by first | rfl | (simp only [ha12]; rfl) | simp only [ha12]) (by simp [va_cat, vi_cat, vl_cat]) dL_isPassed_199 ⟨hc34, hs35⟩ (fun E S30 hd28 h => ?_) (fun r31 S30 hd28 h => ?_)
                · exact (h hd28).elim
                · replace h := h hd28
                  refine G_if_lt C (tgt := 209) dL_isPassed_202 (by decide) (fun hc => ?_) (fun hc => ?_)
                  · have h := h.1 hc
                    refine G_lv C (lv' := [(0, va_rf x0), (1, va_rf x1), (2, va_rf x2), (4, Value.int v4), (5, va_rf v5), (9, Value.int v9)]) [0, 1, 2, 3, 4, 5] rfl ?_
                    exact J209 _ _ _ _ _ _ h
                  · have h := h.2 hc
                    refine G_iconst C (v := 1) dL_isPassed_205 (by decide) ?_
                    refine G_goto C (tgt := 210) dL_isPassed_206 (by decide) ?_
                    refine G_lv C (lv' := [(0, va_rf x0), (1, va_rf x1), (2, va_rf x2), (4, Value.int v4), (5, va_rf v5), (9, Value.int v9)]) [0, 1, 2, 3, 4, 5] rfl ?_
                    exact J210 _ _ _ _ _ _ _ h
          · have h := h.2 hc
            refine G_iload C (x := v10) 6 dL_isPassed_140 rfl ?_
            refine G_aload_n C (x := x2) 2 dL_isPassed_142 rfl rfl ?_
            refine G_bipush C (v := 12) dL_isPassed_143 (by decide) ?_
            refine G_iload C (x := v11) 7 dL_isPassed_145 rfl ?_
            refine G_iadd C dL_isPassed_147 ?_
            obtain ⟨a36, ha37, h⟩ := h
            refine G_rf1 ha37 ?_
            obtain ⟨hk38, h⟩ := h
            obtain ⟨hi39, h⟩ := h
            refine G_iald C hk38 hi39 dL_isPassed_148 ?_
            refine G_iload C (x := v9) 5 dL_isPassed_149 rfl ?_
            refine G_icmp_ne C (tgt := 166) dL_isPassed_151 (by decide) (fun hc => ?_) (fun hc => ?_)
            · have h := h.1 hc
              refine G_iconst C (v := 0) dL_isPassed_166 (by decide) ?_
              refine G_lv C (lv' := [(0, va_rf x0), (1, va_rf x1), (2, va_rf x2), (4, Value.int v4), (5, va_rf v5), (9, Value.int v9), (11, Value.int v11)]) [0, 1, 2, 3, 4, 5, 7] rfl ?_
              exact J167 _ _ _ _ _ _ _ _ _ h
            · have h := h.2 hc
              refine G_aload_n C (x := x2) 2 dL_isPassed_154 rfl rfl ?_
              refine G_bipush C (v := 6) dL_isPassed_155 (by decide) ?_
              refine G_iload C (x := v11) 7 dL_isPassed_157 rfl ?_
              refine G_iadd C dL_isPassed_159 ?_
              refine G_rf1 ha37 ?_
              obtain ⟨hi40, h⟩ := h
              refine G_iald C hk38 hi40 dL_isPassed_160 ?_
              refine G_iconst C (v := 2) dL_isPassed_161 (by decide) ?_
              refine G_idiv C dL_isPassed_162 (by decide) ?_
              refine G_goto C (tgt := 167) dL_isPassed_163 (by decide) ?_
              refine G_lv C (lv' := [(0, va_rf x0), (1, va_rf x1), (2, va_rf x2), (4, Value.int v4), (5, va_rf v5), (9, Value.int v9), (11, Value.int v11)]) [0, 1, 2, 3, 4, 5, 7] rfl ?_
              exact J167 _ _ _ _ _ _ _ _ _ h
      intro c0 n0 S v4 v5 v8 v9 h
      rw [w_L_isPassed_l107] at h
      obtain ⟨hc00, hn00, h⟩ := h
      refine G_iload C (x := v9) 6 dL_isPassed_107 rfl ?_
      refine G_aload_n C (x := x1) 1 dL_isPassed_109 rfl rfl ?_
      refine G_iconst C (v := 1) dL_isPassed_110 (by decide) ?_
      obtain ⟨a41, ha42, h⟩ := h
      refine G_rf1 ha42 ?_
      obtain ⟨hk43, h⟩ := h
      obtain ⟨hi44, h⟩ := h
      refine G_iald C hk43 hi44 dL_isPassed_111 ?_
      refine G_icmp_ge C (tgt := 218) dL_isPassed_112 (by decide) (fun hc => ?_) (fun hc => ?_)
      · have h := h.1 hc
        refine G_lv C (lv' := [(8, Value.int v8)]) [5] rfl ?_
        exact J218 _ _ _ _ h
      · have h := h.2 hc
        refine G_iload C (x := v8) 5 dL_isPassed_115 rfl ?_
        refine G_if_eq C (tgt := 218) dL_isPassed_117 (by decide) (fun hc => ?_) (fun hc => ?_)
        · have h := h.1 hc
          refine G_lv C (lv' := [(8, Value.int v8)]) [5] rfl ?_
          exact J218 _ _ _ _ h
        · have h := h.2 hc
          refine G_aload_n C (x := x2) 2 dL_isPassed_120 rfl rfl ?_
          refine G_bipush C (v := 6) dL_isPassed_121 (by decide) ?_
          refine G_iload C (x := v9) 6 dL_isPassed_123 rfl ?_
          refine G_iadd C dL_isPassed_125 ?_
          obtain ⟨a45, ha46, h⟩ := h
          refine G_rf1 ha46 ?_
          obtain ⟨hk47, h⟩ := h
          obtain ⟨hi48, h⟩ := h
          refine G_iald C hk47 hi48 dL_isPassed_126 ?_
          refine G_istore C (i := 10) (lv' := [(10, Value.int (gA S a45 (((6 + v9)).toNatClampNeg))), (0, va_rf x0), (1, va_rf x1), (2, va_rf x2), (4, Value.int v4), (5, va_rf v5), (8, Value.int v8), (9, Value.int v9)]) dL_isPassed_127 (by decide) (by first | rfl | simp [va_cat, vi_cat, vl_cat]) ?_
          refine G_iconst C (v := 0) dL_isPassed_129 (by decide) ?_
          refine G_istore C (i := 11) (lv' := [(11, Value.int 0), (10, Value.int (gA S a45 (((6 + v9)).toNatClampNeg))), (0, va_rf x0), (1, va_rf x1), (2, va_rf x2), (4, Value.int v4), (5, va_rf v5), (8, Value.int v8), (9, Value.int v9)]) dL_isPassed_130 (by decide) (by first | rfl | simp [va_cat, vi_cat, vl_cat]) ?_
          refine G_lv C (lv' := [(0, va_rf x0), (1, va_rf x1), (2, va_rf x2), (4, Value.int v4), (5, va_rf v5), (9, Value.int v9), (10, Value.int (gA S a45 (((6 + v9)).toNatClampNeg))), (11, Value.int 0)]) [2, 3, 4, 5, 6, 8, 1, 0] rfl ?_
          obtain ⟨n9, h⟩ := h
          exact J132 n9 _ _ _ _ _ _ _ _ h
  have J102 : ∀ (c0 n0 : Nat) (S : PT) (v4 : Int32) (v5 : Option Nat) (s0 : Int32), w_L_isPassed_b102 e0 m0 x0 x1 x2 x3 mc ms post c0 n0 S v4 v5 s0 → G p l e { frames := 10, cells := mc, slots := ms, locals := 244 } s m [va_rf x0, va_rf x1, va_rf x2, Value.int x3].toArray below meth c D cy A s.heap 12 (QMi below D cy A [va_rf x0, va_rf x1, va_rf x2, Value.int x3] s mc ms (fun r S => bo r ∧ post r S)) S c0 n0 102 [(0, va_rf x0), (1, va_rf x1), (2, va_rf x2), (4, Value.int v4), (5, va_rf v5)] [Value.int s0] := by
    intro c0 n0 S v4 v5 s0 h
    unfold w_L_isPassed_b102 at h
    obtain ⟨hc00, hn00, h⟩ := h
    refine G_istore C (i := 8) (lv' := [(8, Value.int s0), (0, va_rf x0), (1, va_rf x1), (2, va_rf x2), (4, Value.int v4), (5, va_rf v5)]) dL_isPassed_102 (by decide) (by first | rfl | simp [va_cat, vi_cat, vl_cat]) ?_
    refine G_iconst C (v := 0) dL_isPassed_104 (by decide) ?_
    refine G_istore C (i := 9) (lv' := [(9, Value.int 0), (8, Value.int s0), (0, va_rf x0), (1, va_rf x1), (2, va_rf x2), (4, Value.int v4), (5, va_rf v5)]) dL_isPassed_105 (by decide) (by first | rfl | simp [va_cat, vi_cat, vl_cat]) ?_
    refine G_lv C (lv' := [(0, va_rf x0), (1, va_rf x1), (2, va_rf x2), (4, Value.int v4), (5, va_rf v5), (8, Value.int s0), (9, Value.int 0)]) [2, 3, 4, 5, 6, 1, 0] rfl ?_
    obtain ⟨n9, h⟩ := h
    exact J107 n9 _ _ _ _ _ _ _ h
  have J101 : ∀ (c0 n0 : Nat) (S : PT) (v4 : Int32) (v5 : Option Nat), w_L_isPassed_b101 e0 m0 x0 x1 x2 x3 mc ms post c0 n0 S v4 v5 → G p l e { frames := 10, cells := mc, slots := ms, locals := 244 } s m [va_rf x0, va_rf x1, va_rf x2, Value.int x3].toArray below meth c D cy A s.heap 12 (QMi below D cy A [va_rf x0, va_rf x1, va_rf x2, Value.int x3] s mc ms (fun r S => bo r ∧ post r S)) S c0 n0 101 [(0, va_rf x0), (1, va_rf x1), (2, va_rf x2), (4, Value.int v4), (5, va_rf v5)] [] := by
    intro c0 n0 S v4 v5 h
    unfold w_L_isPassed_b101 at h
    obtain ⟨hc00, hn00, h⟩ := h
    refine G_iconst C (v := 0) dL_isPassed_101 (by decide) ?_
    refine G_lv C (lv' := [(0, va_rf x0), (1, va_rf x1), (2, va_rf x2), (4, Value.int v4), (5, va_rf v5)]) [0, 1, 2, 3, 4] rfl ?_
    exact J102 _ _ _ _ _ _ h
  have J28 : ∀ (n : Nat) (c0 n0 : Nat) (S : PT) (v4 : Int32) (v5 : Option Nat) (v6 : Int32), w_L_isPassed_l28 e0 m0 x0 x1 x2 x3 mc ms post n c0 n0 S v4 v5 v6 → G p l e { frames := 10, cells := mc, slots := ms, locals := 244 } s m [va_rf x0, va_rf x1, va_rf x2, Value.int x3].toArray below meth c D cy A s.heap 12 (QMi below D cy A [va_rf x0, va_rf x1, va_rf x2, Value.int x3] s mc ms (fun r S => bo r ∧ post r S)) S c0 n0 28 [(0, va_rf x0), (1, va_rf x1), (2, va_rf x2), (4, Value.int v4), (5, va_rf v5), (6, Value.int v6)] [] := by
    intro n28
    induction n28 with
    | zero => intro c0 n0 S v4 v5 v6 h; rw [w_L_isPassed_l28] at h; exact False.elim h
    | succ n28 K28 =>
      intro c0 n0 S v4 v5 v6 h
      rw [w_L_isPassed_l28] at h
      obtain ⟨hc00, hn00, h⟩ := h
      refine G_iload C (x := v6) 5 dL_isPassed_28 rfl ?_
      refine G_aload_n C (x := x1) 1 dL_isPassed_30 rfl rfl ?_
      refine G_iconst C (v := 1) dL_isPassed_31 (by decide) ?_
      obtain ⟨a49, ha50, h⟩ := h
      refine G_rf1 ha50 ?_
      obtain ⟨hk51, h⟩ := h
      obtain ⟨hi52, h⟩ := h
      refine G_iald C hk51 hi52 dL_isPassed_32 ?_
      refine G_icmp_ge C (tgt := 53) dL_isPassed_33 (by decide) (fun hc => ?_) (fun hc => ?_)
      · have h := h.1 hc
        refine G_aload_n C (x := x0) 0 dL_isPassed_53 rfl rfl ?_
        refine G_iconst C (v := 5) dL_isPassed_54 (by decide) ?_
        obtain ⟨S53, M54, hv55, hd56, h⟩ := h
        obtain ⟨a58, ha59, h⟩ := h
        obtain ⟨hk60, h⟩ := h
        obtain ⟨m63, m64, hc65, hs66, h⟩ := h
        refine G_fxcalll C hZ hv55 hd56 (Tf := TX8) (N := 10) hk60 (by decide) rfl tw_2_21 tw_2_22 tw_2_23 tw_1_1 tw_2_24 hy_X8_money ⟨Nat.le_of_ble_eq_true rfl, Nat.le_of_ble_eq_true rfl⟩ (As := [Value.int 5]) (rest := []) (c_X8_money l hl  D cy a58 5 S53 m63 m64 _ _ h) rfl (by first | rfl | (simp only [ha59]; rfl) | simp only [ha59]) (by simp [va_cat, vi_cat, vl_cat]) dL_isPassed_55 ⟨hc65, hs66⟩ (fun E S61 hd57 h => ?_) (fun r62 S61 hd57 h => ?_)
        · exact (h hd57).elim
        · replace h := h hd57
          refine G_lstore C (i := 6) (lv' := [(6, Value.long r62), (0, va_rf x0), (1, va_rf x1), (2, va_rf x2), (4, Value.int v4), (5, va_rf v5)]) dL_isPassed_58 (by decide) (by first | rfl | simp [va_cat, vi_cat, vl_cat]) ?_
          refine G_aload_n C (x := x1) 2 dL_isPassed_60 rfl rfl ?_
          refine G_iconst C (v := 0) dL_isPassed_61 (by decide) ?_
          refine G_dup2 C dL_isPassed_62 rfl (va_cat _) ?_
          refine G_rf1 ha50 ?_
          obtain ⟨hk67, h⟩ := h
          obtain ⟨hi68, h⟩ := h
          refine G_iald C hk67 hi68 dL_isPassed_63 ?_
          refine G_iload C (x := v4) 4 dL_isPassed_64 rfl ?_
          refine G_iadd C dL_isPassed_66 ?_
          refine G_rf2 ha50 ?_
          obtain ⟨hi69, h⟩ := h
          refine G_iast C hk67 hi69 dL_isPassed_67 ?_
          generalize e71 : sA (ov S61 M54) a49 ((0 : Int32).toNatClampNeg) ((gA (ov S61 M54) a49 ((0 : Int32).toNatClampNeg)) + v4) = S70
          have h := h S70 e71.symm
          refine G_aload_n C (x := x0) 1 dL_isPassed_68 rfl rfl ?_
          refine G_bipush C (v := 19) dL_isPassed_69 (by decide) ?_
          refine G_iload C (x := v4) 4 dL_isPassed_71 rfl ?_
          refine G_iconst C (v := 0) dL_isPassed_73 (by decide) ?_
          refine G_iconst C (v := 0) dL_isPassed_74 (by decide) ?_
          refine G_iconst C (v := 0) dL_isPassed_75 (by decide) ?_
          refine G_iconst C (v := 0) dL_isPassed_76 (by decide) ?_
          obtain ⟨m74, m75, hc76, hs77, h⟩ := h
          refine G_callSWi C hZ tw_2_35 tw_2_36 tw_1_0 tw_2_37 hy_L_act ⟨Nat.le_of_ble_eq_true rfl, Nat.le_of_ble_eq_true rfl⟩ (As := [va_rf x0, Value.int 19, Value.int v4, Value.int 0, Value.int 0, Value.int 0, Value.int 0]) (rest := []) (c_L_act l hl D cy e0 m0 he hm x0 19 v4 0 0 0 0 S70 m74 m75 _ h) rfl rfl (by simp [va_cat, vi_cat, vl_cat]) dL_isPassed_77 ⟨hc76, hs77⟩ (fun r73 S72 h => ?_)
          refine G_aload_n C (x := x1) 2 dL_isPassed_80 rfl rfl ?_
          refine G_iconst C (v := 0) dL_isPassed_81 (by decide) ?_
          refine G_rf1 ha50 ?_
          obtain ⟨hk78, h⟩ := h
          obtain ⟨hi79, h⟩ := h
          refine G_iald C hk78 hi79 dL_isPassed_82 ?_
          refine G_icmp_ne C (tgt := 101) dL_isPassed_83 (by decide) (fun hc => ?_) (fun hc => ?_)
          · have h := h.1 hc
            refine G_lv C (lv' := [(0, va_rf x0), (1, va_rf x1), (2, va_rf x2), (4, Value.int v4), (5, va_rf v5)]) [1, 2, 3, 4, 5] rfl ?_
            exact J101 _ _ _ _ _ h
          · have h := h.2 hc
            refine G_aload_n C (x := x0) 1 dL_isPassed_86 rfl rfl ?_
            refine G_iconst C (v := 5) dL_isPassed_87 (by decide) ?_
            obtain ⟨S80, M81, hv82, hd83, h⟩ := h
            obtain ⟨hk85, h⟩ := h
            obtain ⟨m88, m89, hc90, hs91, h⟩ := h
            refine G_fxcalll C hZ hv82 hd83 (Tf := TX8) (N := 10) hk85 (by decide) rfl tw_2_21 tw_2_22 tw_2_23 tw_1_1 tw_2_24 hy_X8_money ⟨Nat.le_of_ble_eq_true rfl, Nat.le_of_ble_eq_true rfl⟩ (As := [Value.int 5]) (rest := []) (c_X8_money l hl  D cy a58 5 S80 m88 m89 _ _ h) rfl (by first | rfl | (simp only [ha59]; rfl) | simp only [ha59]) (by simp [va_cat, vi_cat, vl_cat]) dL_isPassed_88 ⟨hc90, hs91⟩ (fun E S86 hd84 h => ?_) (fun r87 S86 hd84 h => ?_)
            · exact (h hd84).elim
            · replace h := h hd84
              refine G_lload C (x := r62) 0 dL_isPassed_91 rfl ?_
              refine G_lcmp C dL_isPassed_93 ?_
              refine G_if_lt C (tgt := 101) dL_isPassed_94 (by decide) (fun hc => ?_) (fun hc => ?_)
              · have h := h.1 hc
                refine G_lv C (lv' := [(0, va_rf x0), (1, va_rf x1), (2, va_rf x2), (4, Value.int v4), (5, va_rf v5)]) [1, 2, 3, 4, 5] rfl ?_
                exact J101 _ _ _ _ _ h
              · have h := h.2 hc
                refine G_iconst C (v := 1) dL_isPassed_97 (by decide) ?_
                refine G_goto C (tgt := 102) dL_isPassed_98 (by decide) ?_
                refine G_lv C (lv' := [(0, va_rf x0), (1, va_rf x1), (2, va_rf x2), (4, Value.int v4), (5, va_rf v5)]) [1, 2, 3, 4, 5] rfl ?_
                exact J102 _ _ _ _ _ _ h
      · have h := h.2 hc
        refine G_aload C (x := v5) 4 dL_isPassed_36 rfl ?_
        refine G_iload C (x := v6) 5 dL_isPassed_38 rfl ?_
        refine G_aload_n C (x := x0) 0 dL_isPassed_40 rfl rfl ?_
        refine G_iload C (x := v6) 5 dL_isPassed_41 rfl ?_
        obtain ⟨S92, M93, hv94, hd95, h⟩ := h
        obtain ⟨a97, ha98, h⟩ := h
        obtain ⟨hk99, h⟩ := h
        obtain ⟨m102, m103, hc104, hs105, h⟩ := h
        refine G_fxcalli C hZ hv94 hd95 (Tf := TX8) (N := 10) hk99 (by decide) rfl tw_4_156 tw_4_157 tw_4_158 tw_1_1 tw_4_159 hy_X8_queue ⟨Nat.le_of_ble_eq_true rfl, Nat.le_of_ble_eq_true rfl⟩ (As := [Value.int v6]) (rest := [Value.int v6, va_rf v5]) (c_X8_queue l hl  D cy a97 v6 S92 m102 m103 _ _ h) rfl (by first | rfl | (simp only [ha98]; rfl) | simp only [ha98]) (by simp [va_cat, vi_cat, vl_cat]) dL_isPassed_43 ⟨hc104, hs105⟩ (fun E S100 hd96 h => ?_) (fun r101 S100 hd96 h => ?_)
        · exact (h hd96).elim
        · replace h := h hd96
          obtain ⟨a106, ha107, h⟩ := h
          refine G_rf2 ha107 ?_
          obtain ⟨hk108, h⟩ := h
          obtain ⟨hi109, h⟩ := h
          refine G_iast C hk108 hi109 dL_isPassed_46 ?_
          generalize e111 : sA (ov S100 M93) a106 ((v6).toNatClampNeg) r101 = S110
          have h := h S110 e111.symm
          refine G_iinc C (v := (v6 + 1)) (lv' := [(6, Value.int (v6 + 1)), (0, va_rf x0), (1, va_rf x1), (2, va_rf x2), (4, Value.int v4), (5, va_rf v5)]) 5 dL_isPassed_47 rfl rfl (by decide) (by first | rfl | simp [va_cat, vi_cat, vl_cat]) ?_
          refine G_goto C (tgt := 28) dL_isPassed_50 (by decide) ?_
          refine G_lv C (lv' := [(0, va_rf x0), (1, va_rf x1), (2, va_rf x2), (4, Value.int v4), (5, va_rf v5), (6, Value.int (v6 + 1))]) [1, 2, 3, 4, 5, 0] rfl ?_
          exact K28 _ _ _ _ _ _ h
  have J15 : ∀ (c0 n0 : Nat) (S : PT) (s0 : Int32) (s1 : Int32) (s2 : Int32), w_L_isPassed_b15 e0 m0 x0 x1 x2 x3 mc ms post c0 n0 S s0 s1 s2 → G p l e { frames := 10, cells := mc, slots := ms, locals := 244 } s m [va_rf x0, va_rf x1, va_rf x2, Value.int x3].toArray below meth c D cy A s.heap 12 (QMi below D cy A [va_rf x0, va_rf x1, va_rf x2, Value.int x3] s mc ms (fun r S => bo r ∧ post r S)) S c0 n0 15 [(0, va_rf x0), (1, va_rf x1), (2, va_rf x2)] [Value.int s2, Value.int s1, Value.int s0] := by
    intro c0 n0 S s0 s1 s2 h
    unfold w_L_isPassed_b15 at h
    obtain ⟨hc00, hn00, h⟩ := h
    obtain ⟨hn112, h⟩ := h
    refine G_irem C dL_isPassed_15 hn112 ?_
    refine G_iadd C dL_isPassed_16 ?_
    refine G_istore C (i := 4) (lv' := [(4, Value.int (s0 + (s1 - s1 / s2 * s2))), (0, va_rf x0), (1, va_rf x1), (2, va_rf x2)]) dL_isPassed_17 (by decide) (by first | rfl | simp [va_cat, vi_cat, vl_cat]) ?_
    refine G_bipush C (v := 6) dL_isPassed_19 (by decide) ?_
    obtain ⟨hc117, hs118, h⟩ := h
    refine G_newI C (i := 6)  (im tw_1_54) (by decide) (n := 6) (by decide) (by decide) hc117 hs118 dL_isPassed_21 (fun q113 hq116 => ?_)
    generalize e115 : nA S q113 12 6 = S114
    have h := h q113 S114 hq116 e115.symm
    refine G_astore C (i := 5) (lv' := [(5, va_rf (some q113)), (4, Value.int (s0 + (s1 - s1 / s2 * s2))), (0, va_rf x0), (1, va_rf x1), (2, va_rf x2)]) dL_isPassed_23 (by decide) (by first | rfl | simp [va_cat, vi_cat, vl_cat]) ?_
    refine G_iconst C (v := 0) dL_isPassed_25 (by decide) ?_
    refine G_istore C (i := 6) (lv' := [(6, Value.int 0), (5, va_rf (some q113)), (4, Value.int (s0 + (s1 - s1 / s2 * s2))), (0, va_rf x0), (1, va_rf x1), (2, va_rf x2)]) dL_isPassed_26 (by decide) (by first | rfl | simp [va_cat, vi_cat, vl_cat]) ?_
    refine G_lv C (lv' := [(0, va_rf x0), (1, va_rf x1), (2, va_rf x2), (4, Value.int (s0 + (s1 - s1 / s2 * s2))), (5, va_rf (some q113)), (6, Value.int 0)]) [3, 4, 5, 2, 1, 0] rfl ?_
    obtain ⟨n9, h⟩ := h
    exact J28 n9 _ _ _ _ _ _ h
  refine G_lv C (lv' := [(0, va_rf x0), (1, va_rf x1), (2, va_rf x2), (3, Value.int x3)]) [0, 1, 2, 3] (by first | rfl | simp [lv_pick, lv_args, va_cat, vi_cat, vl_cat]) ?_
  unfold w_L_isPassed at h
  refine G_iconst C (v := 1) dL_isPassed_0 (by decide) ?_
  refine G_iload_n C (x := x3) 3 dL_isPassed_1 rfl rfl ?_
  refine G_iload_n C (x := x3) 3 dL_isPassed_2 rfl rfl ?_
  refine G_iconst C (v := 5) dL_isPassed_3 (by decide) ?_
  refine G_irem C dL_isPassed_4 (by decide) ?_
  refine G_if_ne C (tgt := 13) dL_isPassed_5 (by decide) (fun hc => ?_) (fun hc => ?_)
  · have h := h.1 hc
    refine G_bipush C (v := 20) dL_isPassed_13 (by decide) ?_
    refine G_lv C (lv' := [(0, va_rf x0), (1, va_rf x1), (2, va_rf x2)]) [0, 1, 2] rfl ?_
    exact J15 _ _ _ _ _ _ h
  · have h := h.2 hc
    refine G_bipush C (v := 60) dL_isPassed_8 (by decide) ?_
    refine G_goto C (tgt := 15) dL_isPassed_10 (by decide) ?_
    refine G_lv C (lv' := [(0, va_rf x0), (1, va_rf x1), (2, va_rf x2)]) [0, 1, 2] rfl ?_
    exact J15 _ _ _ _ _ _ h
