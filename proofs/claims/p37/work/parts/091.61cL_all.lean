set_option maxHeartbeats 4000000 in
set_option maxRecDepth 100000 in
theorem c_L_all (l : Launch) (hl : l.stackTraces = false) (D : va_G) (cy : Nat → Nat) (x0 : Option Nat) (x1 : Option Nat) (x2 : Option Nat) (S : PT) (mc ms : Nat) (post : Int64 → PT → Prop) (h : w_L_all x0 x1 x2 S mc ms post) : Ml l yL_all (Wm yL_all method_5_code 6 (Option.some Jvm.ClassFile.FieldType.long)) 7 114 D cy [va_rf x0, va_rf x1, va_rf x2] S mc ms post := by
  refine Ml_of (own := "TrenchboardLaw") (by decide) rfl (by first | decide | simp [lg_sl, va_cat, vi_cat, vl_cat]) (fun p e s m below meth c A C hZ hr hin9 => ?_)
  have J75 : ∀ (n : Nat) (c0 n0 : Nat) (S : PT) (v3 : Int64) (v5 : Int32), w_L_all_l75 x0 x1 x2 mc ms post n c0 n0 S v3 v5 → G p l e { frames := 7, cells := mc, slots := ms, locals := 114 } s m [va_rf x0, va_rf x1, va_rf x2].toArray below meth c D cy A s.heap 6 (QMl below D cy A [va_rf x0, va_rf x1, va_rf x2] s mc ms post) S c0 n0 75 [(0, va_rf x0), (1, va_rf x1), (3, Value.long v3), (5, Value.int v5)] [] := by
    intro n75
    induction n75 with
    | zero => intro c0 n0 S v3 v5 h; rw [w_L_all_l75] at h; exact False.elim h
    | succ n75 K75 =>
      intro c0 n0 S v3 v5 h
      rw [w_L_all_l75] at h
      obtain ⟨hc00, hn00, h⟩ := h
      refine G_iload C (x := v5) 3 dL_all_75 rfl ?_
      refine G_bipush C (v := 8) dL_all_77 (by decide) ?_
      refine G_aload_n C (x := x1) 1 dL_all_79 rfl rfl ?_
      refine G_iconst C (v := 3) dL_all_80 (by decide) ?_
      obtain ⟨a1, ha2, h⟩ := h
      refine G_rf1 ha2 ?_
      obtain ⟨hk3, h⟩ := h
      obtain ⟨hi4, h⟩ := h
      refine G_iald C hk3 hi4 dL_all_81 ?_
      refine G_imul C dL_all_82 ?_
      refine G_icmp_ge C (tgt := 114) dL_all_83 (by decide) (fun hc => ?_) (fun hc => ?_)
      · have h := h.1 hc
        refine G_lload_n C (x := v3) 2 dL_all_114 rfl rfl ?_
        exact G_lret C (mc := mc) (ms := ms) (post := post) hr hc00 hn00 dL_all_115 h
      · have h := h.2 hc
        refine G_ldc2 C (v := 31) (im tw_4_185) dL_all_86 ?_
        refine G_lload_n C (x := v3) 2 dL_all_89 rfl rfl ?_
        refine G_lmul C dL_all_90 ?_
        refine G_aload_n C (x := x0) 0 dL_all_91 rfl rfl ?_
        refine G_iload C (x := v5) 3 dL_all_92 rfl ?_
        refine G_bipush C (v := 8) dL_all_94 (by decide) ?_
        refine G_idiv C dL_all_96 (by decide) ?_
        refine G_iload C (x := v5) 3 dL_all_97 rfl ?_
        refine G_bipush C (v := 8) dL_all_99 (by decide) ?_
        refine G_irem C dL_all_101 (by decide) ?_
        obtain ⟨S5, M6, hv7, hd8, h⟩ := h
        obtain ⟨a10, ha11, h⟩ := h
        obtain ⟨hk12, h⟩ := h
        obtain ⟨m15, m16, hc17, hs18, h⟩ := h
        refine G_fxcalli C hZ hv7 hd8 (Tf := TX8) (N := 10) hk12 (by decide) rfl tw_4_147 tw_4_148 tw_4_149 tw_1_1 tw_4_150 hy_X8_of ⟨Nat.le_of_ble_eq_true rfl, Nat.le_of_ble_eq_true rfl⟩ (As := [Value.int (v5 / 8), Value.int (v5 - v5 / 8 * 8)]) (rest := [Value.long (31 * v3)]) (c_X8_of l hl  D cy a10 (v5 / 8) (v5 - v5 / 8 * 8) S5 m15 m16 _ _ h) rfl (by first | rfl | (simp only [ha11]; rfl) | simp only [ha11]) (by simp [va_cat, vi_cat, vl_cat]) dL_all_102 ⟨hc17, hs18⟩ (fun E S13 hd9 h => ?_) (fun r14 S13 hd9 h => ?_)
        · exact (h hd9).elim
        · replace h := h hd9
          refine G_i2l C dL_all_105 ?_
          refine G_ladd C dL_all_106 ?_
          refine G_lstore_n C (i := 3) (lv' := [(3, Value.long ((31 * v3) + r14.toInt64)), (0, va_rf x0), (1, va_rf x1), (5, Value.int v5)]) dL_all_107 rfl (by decide) (by first | rfl | simp [va_cat, vi_cat, vl_cat]) ?_
          refine G_iinc C (v := (v5 + 1)) (lv' := [(5, Value.int (v5 + 1)), (3, Value.long ((31 * v3) + r14.toInt64)), (0, va_rf x0), (1, va_rf x1)]) 3 dL_all_108 rfl rfl (by decide) (by first | rfl | simp [va_cat, vi_cat, vl_cat]) ?_
          refine G_goto C (tgt := 75) dL_all_111 (by decide) ?_
          refine G_lv C (lv' := [(0, va_rf x0), (1, va_rf x1), (3, Value.long ((31 * v3) + r14.toInt64)), (5, Value.int (v5 + 1))]) [2, 3, 1, 0] rfl ?_
          exact K75 _ _ _ _ _ h
  have J7 : ∀ (n : Nat) (c0 n0 : Nat) (S : PT) (v3 : Int64) (v5 : Int32), w_L_all_l7 x0 x1 x2 mc ms post n c0 n0 S v3 v5 → G p l e { frames := 7, cells := mc, slots := ms, locals := 114 } s m [va_rf x0, va_rf x1, va_rf x2].toArray below meth c D cy A s.heap 6 (QMl below D cy A [va_rf x0, va_rf x1, va_rf x2] s mc ms post) S c0 n0 7 [(0, va_rf x0), (1, va_rf x1), (2, va_rf x2), (3, Value.long v3), (5, Value.int v5)] [] := by
    intro n7
    induction n7 with
    | zero => intro c0 n0 S v3 v5 h; rw [w_L_all_l7] at h; exact False.elim h
    | succ n7 K7 =>
      have J64 : ∀ (c0 n0 : Nat) (S : PT) (v5 : Int32) (s0 : Int64) (s1 : Int64), w_L_all_b64 x0 x1 x2 mc ms post (w_L_all_l7 x0 x1 x2 mc ms post n7) c0 n0 S v5 s0 s1 → G p l e { frames := 7, cells := mc, slots := ms, locals := 114 } s m [va_rf x0, va_rf x1, va_rf x2].toArray below meth c D cy A s.heap 6 (QMl below D cy A [va_rf x0, va_rf x1, va_rf x2] s mc ms post) S c0 n0 64 [(0, va_rf x0), (1, va_rf x1), (2, va_rf x2), (5, Value.int v5)] [Value.long s1, Value.long s0] := by
        intro c0 n0 S v5 s0 s1 h
        unfold w_L_all_b64 at h
        obtain ⟨hc00, hn00, h⟩ := h
        refine G_ladd C dL_all_64 ?_
        refine G_lstore_n C (i := 3) (lv' := [(3, Value.long (s0 + s1)), (0, va_rf x0), (1, va_rf x1), (2, va_rf x2), (5, Value.int v5)]) dL_all_65 rfl (by decide) (by first | rfl | simp [va_cat, vi_cat, vl_cat]) ?_
        refine G_iinc C (v := (v5 + 1)) (lv' := [(5, Value.int (v5 + 1)), (3, Value.long (s0 + s1)), (0, va_rf x0), (1, va_rf x1), (2, va_rf x2)]) 4 dL_all_66 rfl rfl (by decide) (by first | rfl | simp [va_cat, vi_cat, vl_cat]) ?_
        refine G_goto C (tgt := 7) dL_all_69 (by decide) ?_
        refine G_lv C (lv' := [(0, va_rf x0), (1, va_rf x1), (2, va_rf x2), (3, Value.long (s0 + s1)), (5, Value.int (v5 + 1))]) [2, 3, 4, 1, 0] rfl ?_
        exact K7 _ _ _ _ _ h
      intro c0 n0 S v3 v5 h
      rw [w_L_all_l7] at h
      obtain ⟨hc00, hn00, h⟩ := h
      refine G_iload C (x := v5) 4 dL_all_7 rfl ?_
      refine G_bipush C (v := 6) dL_all_9 (by decide) ?_
      refine G_icmp_ge C (tgt := 72) dL_all_11 (by decide) (fun hc => ?_) (fun hc => ?_)
      · have h := h.1 hc
        refine G_iconst C (v := 0) dL_all_72 (by decide) ?_
        refine G_istore C (i := 5) (lv' := [(5, Value.int 0), (0, va_rf x0), (1, va_rf x1), (2, va_rf x2), (3, Value.long v3)]) dL_all_73 (by decide) (by first | rfl | simp [va_cat, vi_cat, vl_cat]) ?_
        refine G_lv C (lv' := [(0, va_rf x0), (1, va_rf x1), (3, Value.long v3), (5, Value.int 0)]) [1, 2, 4, 0] rfl ?_
        obtain ⟨n9, h⟩ := h
        exact J75 n9 _ _ _ _ _ h
      · have h := h.2 hc
        refine G_ldc2 C (v := 1000003) (im tw_4_184) dL_all_14 ?_
        refine G_lload_n C (x := v3) 3 dL_all_17 rfl rfl ?_
        refine G_lmul C dL_all_18 ?_
        refine G_aload_n C (x := x0) 0 dL_all_19 rfl rfl ?_
        refine G_iload C (x := v5) 4 dL_all_20 rfl ?_
        obtain ⟨S19, M20, hv21, hd22, h⟩ := h
        obtain ⟨a24, ha25, h⟩ := h
        obtain ⟨hk26, h⟩ := h
        obtain ⟨m29, m30, hc31, hs32, h⟩ := h
        refine G_fxcalll C hZ hv21 hd22 (Tf := TX8) (N := 10) hk26 (by decide) rfl tw_2_21 tw_2_22 tw_2_23 tw_1_1 tw_2_24 hy_X8_money ⟨Nat.le_of_ble_eq_true rfl, Nat.le_of_ble_eq_true rfl⟩ (As := [Value.int v5]) (rest := [Value.long (1000003 * v3)]) (c_X8_money l hl  D cy a24 v5 S19 m29 m30 _ _ h) rfl (by first | rfl | (simp only [ha25]; rfl) | simp only [ha25]) (by simp [va_cat, vi_cat, vl_cat]) dL_all_22 ⟨hc31, hs32⟩ (fun E S27 hd23 h => ?_) (fun r28 S27 hd23 h => ?_)
        · exact (h hd23).elim
        · replace h := h hd23
          refine G_ladd C dL_all_25 ?_
          refine G_iload C (x := v5) 4 dL_all_26 rfl ?_
          refine G_aload_n C (x := x1) 1 dL_all_28 rfl rfl ?_
          refine G_iconst C (v := 1) dL_all_29 (by decide) ?_
          obtain ⟨a33, ha34, h⟩ := h
          refine G_rf1 ha34 ?_
          obtain ⟨hk35, h⟩ := h
          obtain ⟨hi36, h⟩ := h
          refine G_iald C hk35 hi36 dL_all_30 ?_
          refine G_icmp_ge C (tgt := 63) dL_all_31 (by decide) (fun hc => ?_) (fun hc => ?_)
          · have h := h.1 hc
            refine G_lconst C (v := 0) dL_all_63 (by decide) ?_
            refine G_lv C (lv' := [(0, va_rf x0), (1, va_rf x1), (2, va_rf x2), (5, Value.int v5)]) [0, 1, 2, 4] rfl ?_
            exact J64 _ _ _ _ _ _ h
          · have h := h.2 hc
            refine G_aload_n C (x := x0) 0 dL_all_34 rfl rfl ?_
            refine G_iload C (x := v5) 4 dL_all_35 rfl ?_
            obtain ⟨S37, M38, hv39, hd40, h⟩ := h
            obtain ⟨hk42, h⟩ := h
            obtain ⟨m45, m46, hc47, hs48, h⟩ := h
            refine G_fxcalli C hZ hv39 hd40 (Tf := TX8) (N := 10) hk42 (by decide) rfl tw_4_156 tw_4_157 tw_4_158 tw_1_1 tw_4_159 hy_X8_queue ⟨Nat.le_of_ble_eq_true rfl, Nat.le_of_ble_eq_true rfl⟩ (As := [Value.int v5]) (rest := [Value.long ((1000003 * v3) + r28)]) (c_X8_queue l hl  D cy a24 v5 S37 m45 m46 _ _ h) rfl (by first | rfl | (simp only [ha25]; rfl) | simp only [ha25]) (by simp [va_cat, vi_cat, vl_cat]) dL_all_37 ⟨hc47, hs48⟩ (fun E S43 hd41 h => ?_) (fun r44 S43 hd41 h => ?_)
            · exact (h hd41).elim
            · replace h := h hd41
              refine G_i2l C dL_all_40 ?_
              refine G_ldc2 C (v := 31) (im tw_4_185) dL_all_41 ?_
              refine G_aload_n C (x := x0) 0 dL_all_44 rfl rfl ?_
              refine G_iload C (x := v5) 4 dL_all_45 rfl ?_
              refine G_iconst C (v := 0) dL_all_47 (by decide) ?_
              refine G_aload_n C (x := x2) 2 dL_all_48 rfl rfl ?_
              refine G_iload C (x := v5) 4 dL_all_49 rfl ?_
              obtain ⟨a49, ha50, h⟩ := h
              refine G_rf1 ha50 ?_
              obtain ⟨hk51, h⟩ := h
              obtain ⟨hi52, h⟩ := h
              refine G_iald C hk51 hi52 dL_all_51 ?_
              refine G_iconst C (v := 1) dL_all_52 (by decide) ?_
              refine G_isub C dL_all_53 ?_
              obtain ⟨S53, M54, hv55, hd56, h⟩ := h
              obtain ⟨hk58, h⟩ := h
              obtain ⟨m61, m62, hc63, hs64, h⟩ := h
              refine G_fxcalli C hZ hv55 hd56 (Tf := TX8) (N := 10) hk58 (by decide) rfl tw_4_151 tw_4_152 tw_4_153 tw_1_1 tw_4_154 hy_X8_search ⟨Nat.le_of_ble_eq_true rfl, Nat.le_of_ble_eq_true rfl⟩ (As := [Value.int v5, Value.int 0, Value.int ((gA (ov S43 M38) a49 v5.toNatClampNeg) - 1)]) (rest := [Value.long 31, Value.long r44.toInt64, Value.long ((1000003 * v3) + r28)]) (c_X8_search l hl  D cy a24 v5 0 ((gA (ov S43 M38) a49 v5.toNatClampNeg) - 1) S53 m61 m62 _ _ h) rfl (by first | rfl | (simp only [ha25]; rfl) | simp only [ha25]) (by simp [va_cat, vi_cat, vl_cat]) dL_all_54 ⟨hc63, hs64⟩ (fun E S59 hd57 h => ?_) (fun r60 S59 hd57 h => ?_)
              · exact (h hd57).elim
              · replace h := h hd57
                refine G_i2l C dL_all_57 ?_
                refine G_lmul C dL_all_58 ?_
                refine G_ladd C dL_all_59 ?_
                refine G_goto C (tgt := 64) dL_all_60 (by decide) ?_
                refine G_lv C (lv' := [(0, va_rf x0), (1, va_rf x1), (2, va_rf x2), (5, Value.int v5)]) [0, 1, 2, 4] rfl ?_
                exact J64 _ _ _ _ _ _ h
  refine G_lv C (lv' := [(0, va_rf x0), (1, va_rf x1), (2, va_rf x2)]) [0, 1, 2] (by first | rfl | simp [lv_pick, lv_args, va_cat, vi_cat, vl_cat]) ?_
  unfold w_L_all at h
  refine G_ldc2 C (v := 7) (im tw_4_183) dL_all_0 ?_
  refine G_lstore_n C (i := 3) (lv' := [(3, Value.long 7), (0, va_rf x0), (1, va_rf x1), (2, va_rf x2)]) dL_all_3 rfl (by decide) (by first | rfl | simp [va_cat, vi_cat, vl_cat]) ?_
  refine G_iconst C (v := 0) dL_all_4 (by decide) ?_
  refine G_istore C (i := 5) (lv' := [(5, Value.int 0), (3, Value.long 7), (0, va_rf x0), (1, va_rf x1), (2, va_rf x2)]) dL_all_5 (by decide) (by first | rfl | simp [va_cat, vi_cat, vl_cat]) ?_
  refine G_lv C (lv' := [(0, va_rf x0), (1, va_rf x1), (2, va_rf x2), (3, Value.long 7), (5, Value.int 0)]) [2, 3, 4, 1, 0] rfl ?_
  obtain ⟨n9, h⟩ := h
  exact J7 n9 _ _ _ _ _ h
