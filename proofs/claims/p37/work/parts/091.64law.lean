set_option maxHeartbeats 4000000 in
set_option maxRecDepth 100000 in
theorem k_law {p : Program} {l : Launch} {e : Env} {s : State} {m : MethodId} {below : List Frame} {meth : Method} {c : Code} {D : va_G} {cy : Nat → Nat} {c0 : Cond} {x0 L : Nat} {xs : Nat → Int32} (hl : l.stackTraces = false) (C : Cx p s m #[va_rf (some x0)] meth c cL_law 16 (c0 :: GW) "TrenchboardLaw" D cy (fun q => s.heap.size ≤ q) s.heap) (hZ : ZZ cy (fun q => s.heap.size ≤ q) s s.heap) (hX : va_X x0 L xs s s.heap) (hbl : x0 < s.heap.size) (hbA : ¬ s.heap.size ≤ x0) (hr : meth.sig.returnType = ret) (hlocks : meth.locks = false) (hL : L ≤ 260) (e0 m0 : Nat) (he : e0 = cy 9) (hm : m0 = cy 10) (S : PT) (mc ms : Nat) (hmc : mc = room_1.cells) (hms : ms = room_1.slots) (post : Int32 → PT → Prop) (h : w_L_law e0 m0 L xs x0 S mc ms post) : G p l e { frames := room_1.frames, cells := mc, slots := ms, locals := room_1.locals } s m #[va_rf (some x0)] below meth c D cy (fun q => s.heap.size ≤ q) s.heap 16 (lw_Z below #[Value.ref x0] s) S 0 0 0 [(0, va_rf (some x0))] [] := by
  have J535 : ∀ (c0 n0 : Nat) (S : PT) (v5 : Int32), w_L_law_b535 e0 m0 L xs x0 mc ms post c0 n0 S v5 → G p l e { frames := room_1.frames, cells := mc, slots := ms, locals := room_1.locals } s m #[va_rf (some x0)] below meth c D cy (fun q => s.heap.size ≤ q) s.heap 16 (lw_Z below #[Value.ref x0] s) S c0 n0 535 [(5, Value.int v5)] [] := by
    intro c0 n0 S v5 h
    unfold w_L_law_b535 at h
    obtain ⟨hc00, hn00, h⟩ := h
    refine G_iload C (x := v5) 0 dL_law_535 rfl ?_
    exact G_lawret C hr hlocks hmc hms hc00 hn00 h dL_law_537
  have J57 : ∀ (n : Nat) (c0 n0 : Nat) (S : PT) (v1 : Option Nat) (v2 : Option Nat) (v3 : Option Nat) (v4 : Option Nat) (v5 : Int32) (v6 : Int32), w_L_law_l57 e0 m0 L xs x0 mc ms post n c0 n0 S v1 v2 v3 v4 v5 v6 → G p l e { frames := room_1.frames, cells := mc, slots := ms, locals := room_1.locals } s m #[va_rf (some x0)] below meth c D cy (fun q => s.heap.size ≤ q) s.heap 16 (lw_Z below #[Value.ref x0] s) S c0 n0 57 [(0, va_rf (some x0)), (1, va_rf v1), (2, va_rf v2), (3, va_rf v3), (4, va_rf v4), (5, Value.int v5), (6, Value.int v6)] [] := by
    intro n57
    induction n57 with
    | zero => intro c0 n0 S v1 v2 v3 v4 v5 v6 h; rw [w_L_law_l57] at h; exact False.elim h
    | succ n57 K57 =>
      have J527 : ∀ (c0 n0 : Nat) (S : PT) (v1 : Option Nat) (v2 : Option Nat) (v3 : Option Nat) (v4 : Option Nat) (v6 : Int32) (s0 : Int32), w_L_law_b527 e0 m0 L xs x0 mc ms post (w_L_law_l57 e0 m0 L xs x0 mc ms post n57) c0 n0 S v1 v2 v3 v4 v6 s0 → G p l e { frames := room_1.frames, cells := mc, slots := ms, locals := room_1.locals } s m #[va_rf (some x0)] below meth c D cy (fun q => s.heap.size ≤ q) s.heap 16 (lw_Z below #[Value.ref x0] s) S c0 n0 527 [(0, va_rf (some x0)), (1, va_rf v1), (2, va_rf v2), (3, va_rf v3), (4, va_rf v4), (6, Value.int v6)] [Value.int s0] := by
        intro c0 n0 S v1 v2 v3 v4 v6 s0 h
        unfold w_L_law_b527 at h
        obtain ⟨hc00, hn00, h⟩ := h
        refine G_istore C (i := 5) (lv' := [(5, Value.int s0), (0, va_rf (some x0)), (1, va_rf v1), (2, va_rf v2), (3, va_rf v3), (4, va_rf v4), (6, Value.int v6)]) dL_law_527 (by decide) (by first | rfl | simp [va_cat, vi_cat, vl_cat]) ?_
        refine G_iinc C (v := (v6 + 1)) (lv' := [(6, Value.int (v6 + 1)), (5, Value.int s0), (0, va_rf (some x0)), (1, va_rf v1), (2, va_rf v2), (3, va_rf v3), (4, va_rf v4)]) 6 dL_law_529 rfl rfl (by decide) (by first | rfl | simp [va_cat, vi_cat, vl_cat]) ?_
        refine G_goto C (tgt := 57) dL_law_532 (by decide) ?_
        refine G_lv C (lv' := [(0, va_rf (some x0)), (1, va_rf v1), (2, va_rf v2), (3, va_rf v3), (4, va_rf v4), (5, Value.int s0), (6, Value.int (v6 + 1))]) [2, 3, 4, 5, 6, 1, 0] rfl ?_
        exact K57 _ _ _ _ _ _ _ _ _ h
      have J526 : ∀ (c0 n0 : Nat) (S : PT) (v1 : Option Nat) (v2 : Option Nat) (v3 : Option Nat) (v4 : Option Nat) (v6 : Int32), w_L_law_b526 e0 m0 L xs x0 mc ms post (w_L_law_l57 e0 m0 L xs x0 mc ms post n57) c0 n0 S v1 v2 v3 v4 v6 → G p l e { frames := room_1.frames, cells := mc, slots := ms, locals := room_1.locals } s m #[va_rf (some x0)] below meth c D cy (fun q => s.heap.size ≤ q) s.heap 16 (lw_Z below #[Value.ref x0] s) S c0 n0 526 [(0, va_rf (some x0)), (1, va_rf v1), (2, va_rf v2), (3, va_rf v3), (4, va_rf v4), (6, Value.int v6)] [] := by
        intro c0 n0 S v1 v2 v3 v4 v6 h
        unfold w_L_law_b526 at h
        obtain ⟨hc00, hn00, h⟩ := h
        refine G_iconst C (v := 0) dL_law_526 (by decide) ?_
        refine G_lv C (lv' := [(0, va_rf (some x0)), (1, va_rf v1), (2, va_rf v2), (3, va_rf v3), (4, va_rf v4), (6, Value.int v6)]) [0, 1, 2, 3, 4, 5] rfl ?_
        exact J527 _ _ _ _ _ _ _ _ _ h
      have J522 : ∀ (c0 n0 : Nat) (S : PT) (v1 : Option Nat) (v2 : Option Nat) (v3 : Option Nat) (v4 : Option Nat) (v6 : Int32), w_L_law_b522 e0 m0 L xs x0 mc ms post (w_L_law_l57 e0 m0 L xs x0 mc ms post n57) c0 n0 S v1 v2 v3 v4 v6 → G p l e { frames := room_1.frames, cells := mc, slots := ms, locals := room_1.locals } s m #[va_rf (some x0)] below meth c D cy (fun q => s.heap.size ≤ q) s.heap 16 (lw_Z below #[Value.ref x0] s) S c0 n0 522 [(0, va_rf (some x0)), (1, va_rf v1), (2, va_rf v2), (3, va_rf v3), (4, va_rf v4), (6, Value.int v6)] [] := by
        intro c0 n0 S v1 v2 v3 v4 v6 h
        unfold w_L_law_b522 at h
        obtain ⟨hc00, hn00, h⟩ := h
        refine G_iconst C (v := 1) dL_law_522 (by decide) ?_
        refine G_goto C (tgt := 527) dL_law_523 (by decide) ?_
        refine G_lv C (lv' := [(0, va_rf (some x0)), (1, va_rf v1), (2, va_rf v2), (3, va_rf v3), (4, va_rf v4), (6, Value.int v6)]) [0, 1, 2, 3, 4, 5] rfl ?_
        exact J527 _ _ _ _ _ _ _ _ _ h
      have J481 : ∀ (c0 n0 : Nat) (S : PT) (v1 : Option Nat) (v2 : Option Nat) (v3 : Option Nat) (v4 : Option Nat) (v5 : Int32) (v6 : Int32) (v7 : Int32) (v9 : Int32), w_L_law_b481 e0 m0 L xs x0 mc ms post (w_L_law_l57 e0 m0 L xs x0 mc ms post n57) c0 n0 S v1 v2 v3 v4 v5 v6 v7 v9 → G p l e { frames := room_1.frames, cells := mc, slots := ms, locals := room_1.locals } s m #[va_rf (some x0)] below meth c D cy (fun q => s.heap.size ≤ q) s.heap 16 (lw_Z below #[Value.ref x0] s) S c0 n0 481 [(0, va_rf (some x0)), (1, va_rf v1), (2, va_rf v2), (3, va_rf v3), (4, va_rf v4), (5, Value.int v5), (6, Value.int v6), (7, Value.int v7), (9, Value.int v9)] [] := by
        intro c0 n0 S v1 v2 v3 v4 v5 v6 v7 v9 h
        unfold w_L_law_b481 at h
        obtain ⟨hc00, hn00, h⟩ := h
        refine G_iload C (x := v5) 5 dL_law_481 rfl ?_
        refine G_if_eq C (tgt := 526) dL_law_483 (by decide) (fun hc => ?_) (fun hc => ?_)
        · have h := h.1 hc
          refine G_lv C (lv' := [(0, va_rf (some x0)), (1, va_rf v1), (2, va_rf v2), (3, va_rf v3), (4, va_rf v4), (6, Value.int v6)]) [0, 1, 2, 3, 4, 6] rfl ?_
          exact J526 _ _ _ _ _ _ _ _ h
        · have h := h.2 hc
          refine G_aload_n C (x := v1) 1 dL_law_486 rfl rfl ?_
          refine G_aload_n C (x := v2) 2 dL_law_487 rfl rfl ?_
          refine G_aload_n C (x := v3) 3 dL_law_488 rfl rfl ?_
          refine G_aload C (x := v4) 4 dL_law_489 rfl ?_
          refine G_iload C (x := v9) 8 dL_law_491 rfl ?_
          obtain ⟨m3, m4, hc5, hs6, h⟩ := h
          refine G_callSi C hZ tw_5_47 tw_5_48 tw_1_0 tw_5_49 hy_L_areSound ⟨Nat.le_of_ble_eq_true rfl, Nat.le_of_ble_eq_true rfl⟩ (As := [va_rf v1, va_rf v2, va_rf v3, va_rf v4, Value.int v9]) (rest := []) (c_L_areSound l hl D cy v1 v2 v3 v4 v9 S m3 m4 _ h) rfl rfl (by simp [va_cat, vi_cat, vl_cat]) dL_law_493 ⟨hc5, hs6⟩ (fun r2 S1 h => ?_)
          obtain ⟨hb7, h⟩ := h
          refine G_if_eq C (tgt := 526) dL_law_496 (by decide) (fun hc => ?_) (fun hc => ?_)
          · have h := h.1 hc
            refine G_lv C (lv' := [(0, va_rf (some x0)), (1, va_rf v1), (2, va_rf v2), (3, va_rf v3), (4, va_rf v4), (6, Value.int v6)]) [0, 1, 2, 3, 4, 6] rfl ?_
            exact J526 _ _ _ _ _ _ _ _ h
          · have h := h.2 hc
            refine G_iload C (x := v6) 6 dL_law_499 rfl ?_
            refine G_bipush C (v := 45) dL_law_501 (by decide) ?_
            refine G_irem C dL_law_503 (by decide) ?_
            refine G_if_gt C (tgt := 522) dL_law_504 (by decide) (fun hc => ?_) (fun hc => ?_)
            · have h := h.1 hc
              refine G_lv C (lv' := [(0, va_rf (some x0)), (1, va_rf v1), (2, va_rf v2), (3, va_rf v3), (4, va_rf v4), (6, Value.int v6)]) [0, 1, 2, 3, 4, 6] rfl ?_
              exact J522 _ _ _ _ _ _ _ _ h
            · have h := h.2 hc
              refine G_aload_n C (x := v1) 1 dL_law_507 rfl rfl ?_
              refine G_aload_n C (x := v2) 2 dL_law_508 rfl rfl ?_
              refine G_aload_n C (x := v3) 3 dL_law_509 rfl rfl ?_
              refine G_aload C (x := v4) 4 dL_law_510 rfl ?_
              refine G_iload C (x := v7) 7 dL_law_512 rfl ?_
              refine G_iconst C (v := 3) dL_law_514 (by decide) ?_
              refine G_idiv C dL_law_515 (by decide) ?_
              obtain ⟨m10, m11, hc12, hs13, h⟩ := h
              refine G_callSi C hZ tw_4_177 tw_4_178 tw_1_0 tw_4_179 hy_L_isRefused ⟨Nat.le_of_ble_eq_true rfl, Nat.le_of_ble_eq_true rfl⟩ (As := [va_rf v1, va_rf v2, va_rf v3, va_rf v4, Value.int (v7 / 3)]) (rest := []) (c_L_isRefused l hl D cy e0 m0 he hm v1 v2 v3 v4 (v7 / 3) S1 m10 m11 _ h) rfl rfl (by simp [va_cat, vi_cat, vl_cat]) dL_law_516 ⟨hc12, hs13⟩ (fun r9 S8 h => ?_)
              obtain ⟨hb14, h⟩ := h
              refine G_if_eq C (tgt := 526) dL_law_519 (by decide) (fun hc => ?_) (fun hc => ?_)
              · have h := h.1 hc
                refine G_lv C (lv' := [(0, va_rf (some x0)), (1, va_rf v1), (2, va_rf v2), (3, va_rf v3), (4, va_rf v4), (6, Value.int v6)]) [0, 1, 2, 3, 4, 6] rfl ?_
                exact J526 _ _ _ _ _ _ _ _ h
              · have h := h.2 hc
                refine G_lv C (lv' := [(0, va_rf (some x0)), (1, va_rf v1), (2, va_rf v2), (3, va_rf v3), (4, va_rf v4), (6, Value.int v6)]) [0, 1, 2, 3, 4, 6] rfl ?_
                exact J522 _ _ _ _ _ _ _ _ h
      have J474 : ∀ (c0 n0 : Nat) (S : PT) (v1 : Option Nat) (v2 : Option Nat) (v3 : Option Nat) (v4 : Option Nat) (v6 : Int32) (v7 : Int32) (v9 : Int32) (s0 : Option Nat) (s1 : Option Nat) (s2 : Option Nat) (s3 : Int32), w_L_law_b474 e0 m0 L xs x0 mc ms post (w_L_law_l57 e0 m0 L xs x0 mc ms post n57) c0 n0 S v1 v2 v3 v4 v6 v7 v9 s0 s1 s2 s3 → G p l e { frames := room_1.frames, cells := mc, slots := ms, locals := room_1.locals } s m #[va_rf (some x0)] below meth c D cy (fun q => s.heap.size ≤ q) s.heap 16 (lw_Z below #[Value.ref x0] s) S c0 n0 474 [(0, va_rf (some x0)), (1, va_rf v1), (2, va_rf v2), (3, va_rf v3), (4, va_rf v4), (6, Value.int v6), (7, Value.int v7), (9, Value.int v9)] [Value.int s3, va_rf s2, va_rf s1, va_rf s0] := by
        intro c0 n0 S v1 v2 v3 v4 v6 v7 v9 s0 s1 s2 s3 h
        unfold w_L_law_b474 at h
        obtain ⟨hc00, hn00, h⟩ := h
        refine G_iload C (x := v9) 7 dL_law_474 rfl ?_
        obtain ⟨m17, m18, hc19, hs20, h⟩ := h
        refine G_callSi C hZ tw_5_56 tw_5_57 tw_1_0 tw_5_58 hy_L_isDone ⟨Nat.le_of_ble_eq_true rfl, Nat.le_of_ble_eq_true rfl⟩ (As := [va_rf s0, va_rf s1, va_rf s2, Value.int s3, Value.int v9]) (rest := []) (c_L_isDone l hl D cy e0 m0 he hm s0 s1 s2 s3 v9 S m17 m18 _ h) rfl rfl (by simp [va_cat, vi_cat, vl_cat]) dL_law_476 ⟨hc19, hs20⟩ (fun r16 S15 h => ?_)
        obtain ⟨hb21, h⟩ := h
        refine G_istore C (i := 5) (lv' := [(5, Value.int r16), (0, va_rf (some x0)), (1, va_rf v1), (2, va_rf v2), (3, va_rf v3), (4, va_rf v4), (6, Value.int v6), (7, Value.int v7), (9, Value.int v9)]) dL_law_479 (by decide) (by first | rfl | simp [va_cat, vi_cat, vl_cat]) ?_
        refine G_lv C (lv' := [(0, va_rf (some x0)), (1, va_rf v1), (2, va_rf v2), (3, va_rf v3), (4, va_rf v4), (5, Value.int r16), (6, Value.int v6), (7, Value.int v7), (9, Value.int v9)]) [1, 2, 3, 4, 5, 0, 6, 7, 8] rfl ?_
        exact J481 _ _ _ _ _ _ _ _ _ _ _ h
      have J422 : ∀ (c0 n0 : Nat) (S : PT) (v1 : Option Nat) (v2 : Option Nat) (v3 : Option Nat) (v4 : Option Nat) (v6 : Int32) (v7 : Int32) (v9 : Int32) (s0 : Int32), w_L_law_b422 e0 m0 L xs x0 mc ms post (w_L_law_l57 e0 m0 L xs x0 mc ms post n57) c0 n0 S v1 v2 v3 v4 v6 v7 v9 s0 → G p l e { frames := room_1.frames, cells := mc, slots := ms, locals := room_1.locals } s m #[va_rf (some x0)] below meth c D cy (fun q => s.heap.size ≤ q) s.heap 16 (lw_Z below #[Value.ref x0] s) S c0 n0 422 [(0, va_rf (some x0)), (1, va_rf v1), (2, va_rf v2), (3, va_rf v3), (4, va_rf v4), (6, Value.int v6), (7, Value.int v7), (9, Value.int v9)] [Value.int s0] := by
        intro c0 n0 S v1 v2 v3 v4 v6 v7 v9 s0 h
        unfold w_L_law_b422 at h
        obtain ⟨hc00, hn00, h⟩ := h
        refine G_istore C (i := 5) (lv' := [(5, Value.int s0), (0, va_rf (some x0)), (1, va_rf v1), (2, va_rf v2), (3, va_rf v3), (4, va_rf v4), (6, Value.int v6), (7, Value.int v7), (9, Value.int v9)]) dL_law_422 (by decide) (by first | rfl | simp [va_cat, vi_cat, vl_cat]) ?_
        refine G_goto C (tgt := 481) dL_law_424 (by decide) ?_
        refine G_lv C (lv' := [(0, va_rf (some x0)), (1, va_rf v1), (2, va_rf v2), (3, va_rf v3), (4, va_rf v4), (5, Value.int s0), (6, Value.int v6), (7, Value.int v7), (9, Value.int v9)]) [1, 2, 3, 4, 5, 0, 6, 7, 8] rfl ?_
        exact J481 _ _ _ _ _ _ _ _ _ _ _ h
      have J417 : ∀ (c0 n0 : Nat) (S : PT) (v1 : Option Nat) (v2 : Option Nat) (v3 : Option Nat) (v4 : Option Nat) (v6 : Int32) (v7 : Int32) (v9 : Int32), w_L_law_b417 e0 m0 L xs x0 mc ms post (w_L_law_l57 e0 m0 L xs x0 mc ms post n57) c0 n0 S v1 v2 v3 v4 v6 v7 v9 → G p l e { frames := room_1.frames, cells := mc, slots := ms, locals := room_1.locals } s m #[va_rf (some x0)] below meth c D cy (fun q => s.heap.size ≤ q) s.heap 16 (lw_Z below #[Value.ref x0] s) S c0 n0 417 [(0, va_rf (some x0)), (1, va_rf v1), (2, va_rf v2), (3, va_rf v3), (4, va_rf v4), (6, Value.int v6), (7, Value.int v7), (9, Value.int v9)] [] := by
        intro c0 n0 S v1 v2 v3 v4 v6 v7 v9 h
        unfold w_L_law_b417 at h
        obtain ⟨hc00, hn00, h⟩ := h
        refine G_iconst C (v := 1) dL_law_417 (by decide) ?_
        refine G_goto C (tgt := 422) dL_law_418 (by decide) ?_
        refine G_lv C (lv' := [(0, va_rf (some x0)), (1, va_rf v1), (2, va_rf v2), (3, va_rf v3), (4, va_rf v4), (6, Value.int v6), (7, Value.int v7), (9, Value.int v9)]) [0, 1, 2, 3, 4, 5, 6, 7] rfl ?_
        exact J422 _ _ _ _ _ _ _ _ _ _ _ h
      have J421 : ∀ (c0 n0 : Nat) (S : PT) (v1 : Option Nat) (v2 : Option Nat) (v3 : Option Nat) (v4 : Option Nat) (v6 : Int32) (v7 : Int32) (v9 : Int32), w_L_law_b421 e0 m0 L xs x0 mc ms post (w_L_law_l57 e0 m0 L xs x0 mc ms post n57) c0 n0 S v1 v2 v3 v4 v6 v7 v9 → G p l e { frames := room_1.frames, cells := mc, slots := ms, locals := room_1.locals } s m #[va_rf (some x0)] below meth c D cy (fun q => s.heap.size ≤ q) s.heap 16 (lw_Z below #[Value.ref x0] s) S c0 n0 421 [(0, va_rf (some x0)), (1, va_rf v1), (2, va_rf v2), (3, va_rf v3), (4, va_rf v4), (6, Value.int v6), (7, Value.int v7), (9, Value.int v9)] [] := by
        intro c0 n0 S v1 v2 v3 v4 v6 v7 v9 h
        unfold w_L_law_b421 at h
        obtain ⟨hc00, hn00, h⟩ := h
        refine G_iconst C (v := 0) dL_law_421 (by decide) ?_
        refine G_lv C (lv' := [(0, va_rf (some x0)), (1, va_rf v1), (2, va_rf v2), (3, va_rf v3), (4, va_rf v4), (6, Value.int v6), (7, Value.int v7), (9, Value.int v9)]) [0, 1, 2, 3, 4, 5, 6, 7] rfl ?_
        exact J422 _ _ _ _ _ _ _ _ _ _ _ h
      have J321 : ∀ (c0 n0 : Nat) (S : PT) (v1 : Option Nat) (v2 : Option Nat) (v3 : Option Nat) (v4 : Option Nat) (v6 : Int32) (v7 : Int32) (v9 : Int32) (s0 : Int32), w_L_law_b321 e0 m0 L xs x0 mc ms post (w_L_law_l57 e0 m0 L xs x0 mc ms post n57) c0 n0 S v1 v2 v3 v4 v6 v7 v9 s0 → G p l e { frames := room_1.frames, cells := mc, slots := ms, locals := room_1.locals } s m #[va_rf (some x0)] below meth c D cy (fun q => s.heap.size ≤ q) s.heap 16 (lw_Z below #[Value.ref x0] s) S c0 n0 321 [(0, va_rf (some x0)), (1, va_rf v1), (2, va_rf v2), (3, va_rf v3), (4, va_rf v4), (6, Value.int v6), (7, Value.int v7), (9, Value.int v9)] [Value.int s0] := by
        intro c0 n0 S v1 v2 v3 v4 v6 v7 v9 s0 h
        unfold w_L_law_b321 at h
        obtain ⟨hc00, hn00, h⟩ := h
        refine G_istore C (i := 5) (lv' := [(5, Value.int s0), (0, va_rf (some x0)), (1, va_rf v1), (2, va_rf v2), (3, va_rf v3), (4, va_rf v4), (6, Value.int v6), (7, Value.int v7), (9, Value.int v9)]) dL_law_321 (by decide) (by first | rfl | simp [va_cat, vi_cat, vl_cat]) ?_
        refine G_goto C (tgt := 481) dL_law_323 (by decide) ?_
        refine G_lv C (lv' := [(0, va_rf (some x0)), (1, va_rf v1), (2, va_rf v2), (3, va_rf v3), (4, va_rf v4), (5, Value.int s0), (6, Value.int v6), (7, Value.int v7), (9, Value.int v9)]) [1, 2, 3, 4, 5, 0, 6, 7, 8] rfl ?_
        exact J481 _ _ _ _ _ _ _ _ _ _ _ h
      have J320 : ∀ (c0 n0 : Nat) (S : PT) (v1 : Option Nat) (v2 : Option Nat) (v3 : Option Nat) (v4 : Option Nat) (v6 : Int32) (v7 : Int32) (v9 : Int32), w_L_law_b320 e0 m0 L xs x0 mc ms post (w_L_law_l57 e0 m0 L xs x0 mc ms post n57) c0 n0 S v1 v2 v3 v4 v6 v7 v9 → G p l e { frames := room_1.frames, cells := mc, slots := ms, locals := room_1.locals } s m #[va_rf (some x0)] below meth c D cy (fun q => s.heap.size ≤ q) s.heap 16 (lw_Z below #[Value.ref x0] s) S c0 n0 320 [(0, va_rf (some x0)), (1, va_rf v1), (2, va_rf v2), (3, va_rf v3), (4, va_rf v4), (6, Value.int v6), (7, Value.int v7), (9, Value.int v9)] [] := by
        intro c0 n0 S v1 v2 v3 v4 v6 v7 v9 h
        unfold w_L_law_b320 at h
        obtain ⟨hc00, hn00, h⟩ := h
        refine G_iconst C (v := 0) dL_law_320 (by decide) ?_
        refine G_lv C (lv' := [(0, va_rf (some x0)), (1, va_rf v1), (2, va_rf v2), (3, va_rf v3), (4, va_rf v4), (6, Value.int v6), (7, Value.int v7), (9, Value.int v9)]) [0, 1, 2, 3, 4, 5, 6, 7] rfl ?_
        exact J321 _ _ _ _ _ _ _ _ _ _ _ h
      have J310 : ∀ (c0 n0 : Nat) (S : PT) (v1 : Option Nat) (v2 : Option Nat) (v3 : Option Nat) (v4 : Option Nat) (v6 : Int32) (v7 : Int32) (v9 : Int32) (s0 : Int64) (s1 : Int64) (s2 : Int32), w_L_law_b310 e0 m0 L xs x0 mc ms post (w_L_law_l57 e0 m0 L xs x0 mc ms post n57) c0 n0 S v1 v2 v3 v4 v6 v7 v9 s0 s1 s2 → G p l e { frames := room_1.frames, cells := mc, slots := ms, locals := room_1.locals } s m #[va_rf (some x0)] below meth c D cy (fun q => s.heap.size ≤ q) s.heap 16 (lw_Z below #[Value.ref x0] s) S c0 n0 310 [(0, va_rf (some x0)), (1, va_rf v1), (2, va_rf v2), (3, va_rf v3), (4, va_rf v4), (6, Value.int v6), (7, Value.int v7), (9, Value.int v9)] [Value.int s2, Value.long s1, Value.long s0] := by
        intro c0 n0 S v1 v2 v3 v4 v6 v7 v9 s0 s1 s2 h
        unfold w_L_law_b310 at h
        obtain ⟨hc00, hn00, h⟩ := h
        refine G_i2l C dL_law_310 ?_
        refine G_ladd C dL_law_311 ?_
        refine G_lcmp C dL_law_312 ?_
        refine G_if_ne C (tgt := 320) dL_law_313 (by decide) (fun hc => ?_) (fun hc => ?_)
        · have h := h.1 hc
          refine G_lv C (lv' := [(0, va_rf (some x0)), (1, va_rf v1), (2, va_rf v2), (3, va_rf v3), (4, va_rf v4), (6, Value.int v6), (7, Value.int v7), (9, Value.int v9)]) [0, 1, 2, 3, 4, 5, 6, 7] rfl ?_
          exact J320 _ _ _ _ _ _ _ _ _ _ h
        · have h := h.2 hc
          refine G_iconst C (v := 1) dL_law_316 (by decide) ?_
          refine G_goto C (tgt := 321) dL_law_317 (by decide) ?_
          refine G_lv C (lv' := [(0, va_rf (some x0)), (1, va_rf v1), (2, va_rf v2), (3, va_rf v3), (4, va_rf v4), (6, Value.int v6), (7, Value.int v7), (9, Value.int v9)]) [0, 1, 2, 3, 4, 5, 6, 7] rfl ?_
          exact J321 _ _ _ _ _ _ _ _ _ _ _ h
      have J184 : ∀ (c0 n0 : Nat) (S : PT) (v1 : Option Nat) (v2 : Option Nat) (v3 : Option Nat) (v4 : Option Nat) (v6 : Int32) (v7 : Int32) (v9 : Int32) (s0 : Int32), w_L_law_b184 e0 m0 L xs x0 mc ms post (w_L_law_l57 e0 m0 L xs x0 mc ms post n57) c0 n0 S v1 v2 v3 v4 v6 v7 v9 s0 → G p l e { frames := room_1.frames, cells := mc, slots := ms, locals := room_1.locals } s m #[va_rf (some x0)] below meth c D cy (fun q => s.heap.size ≤ q) s.heap 16 (lw_Z below #[Value.ref x0] s) S c0 n0 184 [(0, va_rf (some x0)), (1, va_rf v1), (2, va_rf v2), (3, va_rf v3), (4, va_rf v4), (6, Value.int v6), (7, Value.int v7), (9, Value.int v9)] [Value.int s0] := by
        intro c0 n0 S v1 v2 v3 v4 v6 v7 v9 s0 h
        unfold w_L_law_b184 at h
        obtain ⟨hc00, hn00, h⟩ := h
        refine G_istore C (i := 5) (lv' := [(5, Value.int s0), (0, va_rf (some x0)), (1, va_rf v1), (2, va_rf v2), (3, va_rf v3), (4, va_rf v4), (6, Value.int v6), (7, Value.int v7), (9, Value.int v9)]) dL_law_184 (by decide) (by first | rfl | simp [va_cat, vi_cat, vl_cat]) ?_
        refine G_goto C (tgt := 481) dL_law_186 (by decide) ?_
        refine G_lv C (lv' := [(0, va_rf (some x0)), (1, va_rf v1), (2, va_rf v2), (3, va_rf v3), (4, va_rf v4), (5, Value.int s0), (6, Value.int v6), (7, Value.int v7), (9, Value.int v9)]) [1, 2, 3, 4, 5, 0, 6, 7, 8] rfl ?_
        exact J481 _ _ _ _ _ _ _ _ _ _ _ h
      have J179 : ∀ (c0 n0 : Nat) (S : PT) (v1 : Option Nat) (v2 : Option Nat) (v3 : Option Nat) (v4 : Option Nat) (v6 : Int32) (v7 : Int32) (v9 : Int32), w_L_law_b179 e0 m0 L xs x0 mc ms post (w_L_law_l57 e0 m0 L xs x0 mc ms post n57) c0 n0 S v1 v2 v3 v4 v6 v7 v9 → G p l e { frames := room_1.frames, cells := mc, slots := ms, locals := room_1.locals } s m #[va_rf (some x0)] below meth c D cy (fun q => s.heap.size ≤ q) s.heap 16 (lw_Z below #[Value.ref x0] s) S c0 n0 179 [(0, va_rf (some x0)), (1, va_rf v1), (2, va_rf v2), (3, va_rf v3), (4, va_rf v4), (6, Value.int v6), (7, Value.int v7), (9, Value.int v9)] [] := by
        intro c0 n0 S v1 v2 v3 v4 v6 v7 v9 h
        unfold w_L_law_b179 at h
        obtain ⟨hc00, hn00, h⟩ := h
        refine G_iconst C (v := 1) dL_law_179 (by decide) ?_
        refine G_goto C (tgt := 184) dL_law_180 (by decide) ?_
        refine G_lv C (lv' := [(0, va_rf (some x0)), (1, va_rf v1), (2, va_rf v2), (3, va_rf v3), (4, va_rf v4), (6, Value.int v6), (7, Value.int v7), (9, Value.int v9)]) [0, 1, 2, 3, 4, 5, 6, 7] rfl ?_
        exact J184 _ _ _ _ _ _ _ _ _ _ _ h
      have J141 : ∀ (c0 n0 : Nat) (S : PT) (v1 : Option Nat) (v2 : Option Nat) (v3 : Option Nat) (v4 : Option Nat) (v6 : Int32) (v7 : Int32) (v9 : Int32) (s0 : Option Nat) (s1 : Option Nat) (s2 : Option Nat) (s3 : Int32), w_L_law_b141 e0 m0 L xs x0 mc ms post (w_L_law_l57 e0 m0 L xs x0 mc ms post n57) c0 n0 S v1 v2 v3 v4 v6 v7 v9 s0 s1 s2 s3 → G p l e { frames := room_1.frames, cells := mc, slots := ms, locals := room_1.locals } s m #[va_rf (some x0)] below meth c D cy (fun q => s.heap.size ≤ q) s.heap 16 (lw_Z below #[Value.ref x0] s) S c0 n0 141 [(0, va_rf (some x0)), (1, va_rf v1), (2, va_rf v2), (3, va_rf v3), (4, va_rf v4), (6, Value.int v6), (7, Value.int v7), (9, Value.int v9)] [Value.int s3, va_rf s2, va_rf s1, va_rf s0] := by
        intro c0 n0 S v1 v2 v3 v4 v6 v7 v9 s0 s1 s2 s3 h
        unfold w_L_law_b141 at h
        obtain ⟨hc00, hn00, h⟩ := h
        refine G_iload C (x := v9) 7 dL_law_141 rfl ?_
        obtain ⟨m24, m25, hc26, hs27, h⟩ := h
        refine G_callSi C hZ tw_5_50 tw_5_51 tw_1_0 tw_5_52 hy_L_isLaid ⟨Nat.le_of_ble_eq_true rfl, Nat.le_of_ble_eq_true rfl⟩ (As := [va_rf s0, va_rf s1, va_rf s2, Value.int s3, Value.int v9]) (rest := []) (c_L_isLaid l hl D cy e0 m0 he hm s0 s1 s2 s3 v9 S m24 m25 _ h) rfl rfl (by simp [va_cat, vi_cat, vl_cat]) dL_law_143 ⟨hc26, hs27⟩ (fun r23 S22 h => ?_)
        obtain ⟨hb28, h⟩ := h
        refine G_istore C (i := 5) (lv' := [(5, Value.int r23), (0, va_rf (some x0)), (1, va_rf v1), (2, va_rf v2), (3, va_rf v3), (4, va_rf v4), (6, Value.int v6), (7, Value.int v7), (9, Value.int v9)]) dL_law_146 (by decide) (by first | rfl | simp [va_cat, vi_cat, vl_cat]) ?_
        refine G_goto C (tgt := 481) dL_law_148 (by decide) ?_
        refine G_lv C (lv' := [(0, va_rf (some x0)), (1, va_rf v1), (2, va_rf v2), (3, va_rf v3), (4, va_rf v4), (5, Value.int r23), (6, Value.int v6), (7, Value.int v7), (9, Value.int v9)]) [1, 2, 3, 4, 5, 0, 6, 7, 8] rfl ?_
        exact J481 _ _ _ _ _ _ _ _ _ _ _ h
      have J104 : ∀ (c0 n0 : Nat) (S : PT) (v1 : Option Nat) (v2 : Option Nat) (v3 : Option Nat) (v4 : Option Nat) (v6 : Int32) (v7 : Int32) (s0 : Int32), w_L_law_b104 e0 m0 L xs x0 mc ms post (w_L_law_l57 e0 m0 L xs x0 mc ms post n57) c0 n0 S v1 v2 v3 v4 v6 v7 s0 → G p l e { frames := room_1.frames, cells := mc, slots := ms, locals := room_1.locals } s m #[va_rf (some x0)] below meth c D cy (fun q => s.heap.size ≤ q) s.heap 16 (lw_Z below #[Value.ref x0] s) S c0 n0 104 [(0, va_rf (some x0)), (1, va_rf v1), (2, va_rf v2), (3, va_rf v3), (4, va_rf v4), (6, Value.int v6), (7, Value.int v7)] [Value.int s0] := by
        intro c0 n0 S v1 v2 v3 v4 v6 v7 s0 h
        unfold w_L_law_b104 at h
        obtain ⟨hc00, hn00, h⟩ := h
        refine G_istore C (i := 8) (lv' := [(8, Value.int s0), (0, va_rf (some x0)), (1, va_rf v1), (2, va_rf v2), (3, va_rf v3), (4, va_rf v4), (6, Value.int v6), (7, Value.int v7)]) dL_law_104 (by decide) (by first | rfl | simp [va_cat, vi_cat, vl_cat]) ?_
        refine G_iload C (x := v7) 7 dL_law_106 rfl ?_
        refine G_bipush C (v := 46) dL_law_108 (by decide) ?_
        refine G_idiv C dL_law_110 (by decide) ?_
        refine G_istore C (i := 9) (lv' := [(9, Value.int (v7 / 46)), (8, Value.int s0), (0, va_rf (some x0)), (1, va_rf v1), (2, va_rf v2), (3, va_rf v3), (4, va_rf v4), (6, Value.int v6), (7, Value.int v7)]) dL_law_111 (by decide) (by first | rfl | simp [va_cat, vi_cat, vl_cat]) ?_
        refine G_iload C (x := s0) 1 dL_law_113 rfl ?_
        refine G_bipush C (v := 8) dL_law_115 (by decide) ?_
        refine G_icmp_ge C (tgt := 151) dL_law_117 (by decide) (fun hc => ?_) (fun hc => ?_)
        · have h := h.1 hc
          refine G_iload C (x := s0) 1 dL_law_151 rfl ?_
          refine G_bipush C (v := 13) dL_law_153 (by decide) ?_
          refine G_icmp_ge C (tgt := 189) dL_law_155 (by decide) (fun hc => ?_) (fun hc => ?_)
          · have h := h.1 hc
            refine G_iload C (x := s0) 1 dL_law_189 rfl ?_
            refine G_bipush C (v := 21) dL_law_191 (by decide) ?_
            refine G_icmp_ge C (tgt := 209) dL_law_193 (by decide) (fun hc => ?_) (fun hc => ?_)
            · have h := h.1 hc
              refine G_iload C (x := s0) 1 dL_law_209 rfl ?_
              refine G_bipush C (v := 23) dL_law_211 (by decide) ?_
              refine G_icmp_ge C (tgt := 326) dL_law_213 (by decide) (fun hc => ?_) (fun hc => ?_)
              · have h := h.1 hc
                refine G_iload C (x := s0) 1 dL_law_326 rfl ?_
                refine G_bipush C (v := 25) dL_law_328 (by decide) ?_
                refine G_icmp_ge C (tgt := 427) dL_law_330 (by decide) (fun hc => ?_) (fun hc => ?_)
                · have h := h.1 hc
                  refine G_iload C (x := s0) 1 dL_law_427 rfl ?_
                  refine G_bipush C (v := 25) dL_law_429 (by decide) ?_
                  refine G_isub C dL_law_431 ?_
                  refine G_istore C (i := 10) (lv' := [(10, Value.int (s0 - 25)), (9, Value.int (v7 / 46)), (8, Value.int s0), (0, va_rf (some x0)), (1, va_rf v1), (2, va_rf v2), (3, va_rf v3), (4, va_rf v4), (6, Value.int v6), (7, Value.int v7)]) dL_law_432 (by decide) (by first | rfl | simp [va_cat, vi_cat, vl_cat]) ?_
                  refine G_aload_n C (x := v1) 4 dL_law_434 rfl rfl ?_
                  refine G_aload_n C (x := v2) 5 dL_law_435 rfl rfl ?_
                  refine G_aload C (x := v4) 7 dL_law_436 rfl ?_
                  refine G_iload C (x := (s0 - 25)) 0 dL_law_438 rfl ?_
                  refine G_bipush C (v := 16) dL_law_440 (by decide) ?_
                  refine G_icmp_ge C (tgt := 450) dL_law_442 (by decide) (fun hc => ?_) (fun hc => ?_)
                  · have h := h.1 hc
                    refine G_iload C (x := (s0 - 25)) 0 dL_law_450 rfl ?_
                    refine G_bipush C (v := 18) dL_law_452 (by decide) ?_
                    refine G_icmp_ge C (tgt := 461) dL_law_454 (by decide) (fun hc => ?_) (fun hc => ?_)
                    · have h := h.1 hc
                      refine G_iload C (x := (s0 - 25)) 0 dL_law_461 rfl ?_
                      refine G_bipush C (v := 20) dL_law_463 (by decide) ?_
                      refine G_icmp_ge C (tgt := 472) dL_law_465 (by decide) (fun hc => ?_) (fun hc => ?_)
                      · have h := h.1 hc
                        refine G_bipush C (v := 7) dL_law_472 (by decide) ?_
                        refine G_lv C (lv' := [(0, va_rf (some x0)), (1, va_rf v1), (2, va_rf v2), (3, va_rf v3), (4, va_rf v4), (6, Value.int v6), (7, Value.int v7), (9, Value.int (v7 / 46))]) [3, 4, 5, 6, 7, 8, 9, 1] rfl ?_
                        exact J474 _ _ _ _ _ _ _ _ _ _ _ _ _ _ h
                      · have h := h.2 hc
                        refine G_iconst C (v := 5) dL_law_468 (by decide) ?_
                        refine G_goto C (tgt := 474) dL_law_469 (by decide) ?_
                        refine G_lv C (lv' := [(0, va_rf (some x0)), (1, va_rf v1), (2, va_rf v2), (3, va_rf v3), (4, va_rf v4), (6, Value.int v6), (7, Value.int v7), (9, Value.int (v7 / 46))]) [3, 4, 5, 6, 7, 8, 9, 1] rfl ?_
                        exact J474 _ _ _ _ _ _ _ _ _ _ _ _ _ _ h
                    · have h := h.2 hc
                      refine G_iconst C (v := 0) dL_law_457 (by decide) ?_
                      refine G_goto C (tgt := 474) dL_law_458 (by decide) ?_
                      refine G_lv C (lv' := [(0, va_rf (some x0)), (1, va_rf v1), (2, va_rf v2), (3, va_rf v3), (4, va_rf v4), (6, Value.int v6), (7, Value.int v7), (9, Value.int (v7 / 46))]) [3, 4, 5, 6, 7, 8, 9, 1] rfl ?_
                      exact J474 _ _ _ _ _ _ _ _ _ _ _ _ _ _ h
                  · have h := h.2 hc
                    refine G_iload C (x := (s0 - 25)) 0 dL_law_445 rfl ?_
                    refine G_goto C (tgt := 474) dL_law_447 (by decide) ?_
                    refine G_lv C (lv' := [(0, va_rf (some x0)), (1, va_rf v1), (2, va_rf v2), (3, va_rf v3), (4, va_rf v4), (6, Value.int v6), (7, Value.int v7), (9, Value.int (v7 / 46))]) [3, 4, 5, 6, 7, 8, 9, 1] rfl ?_
                    exact J474 _ _ _ _ _ _ _ _ _ _ _ _ _ _ h
                · have h := h.2 hc
                  refine G_iload C (x := (v7 / 46)) 0 dL_law_333 rfl ?_
                  refine G_aload_n C (x := v2) 4 dL_law_335 rfl rfl ?_
                  refine G_iconst C (v := 1) dL_law_336 (by decide) ?_
                  obtain ⟨a29, ha30, h⟩ := h
                  refine G_rf1 ha30 ?_
                  obtain ⟨hk31, h⟩ := h
                  obtain ⟨hi32, h⟩ := h
                  refine G_iald C hk31 hi32 dL_law_337 ?_
                  obtain ⟨hn33, h⟩ := h
                  refine G_irem C dL_law_338 hn33 ?_
                  refine G_istore C (i := 10) (lv' := [(10, Value.int ((v7 / 46) - (v7 / 46) / (gA S a29 ((1 : Int32).toNatClampNeg)) * (gA S a29 ((1 : Int32).toNatClampNeg)))), (9, Value.int (v7 / 46)), (8, Value.int s0), (0, va_rf (some x0)), (1, va_rf v1), (2, va_rf v2), (3, va_rf v3), (4, va_rf v4), (6, Value.int v6), (7, Value.int v7)]) dL_law_339 (by decide) (by first | rfl | simp [va_cat, vi_cat, vl_cat]) ?_
                  refine G_iload C (x := (v7 / 46)) 1 dL_law_341 rfl ?_
                  refine G_bipush C (v := 6) dL_law_343 (by decide) ?_
                  refine G_idiv C dL_law_345 (by decide) ?_
                  refine G_aload_n C (x := v3) 6 dL_law_346 rfl rfl ?_
                  refine G_iload C (x := ((v7 / 46) - (v7 / 46) / (gA S a29 ((1 : Int32).toNatClampNeg)) * (gA S a29 ((1 : Int32).toNatClampNeg)))) 0 dL_law_347 rfl ?_
                  obtain ⟨a34, ha35, h⟩ := h
                  refine G_rf1 ha35 ?_
                  obtain ⟨hk36, h⟩ := h
                  obtain ⟨hi37, h⟩ := h
                  refine G_iald C hk36 hi37 dL_law_349 ?_
                  obtain ⟨hn38, h⟩ := h
                  refine G_irem C dL_law_350 hn38 ?_
                  refine G_istore C (i := 11) (lv' := [(11, Value.int (((v7 / 46) / 6) - ((v7 / 46) / 6) / (gA S a34 ((((v7 / 46) - (v7 / 46) / (gA S a29 ((1 : Int32).toNatClampNeg)) * (gA S a29 ((1 : Int32).toNatClampNeg)))).toNatClampNeg)) * (gA S a34 ((((v7 / 46) - (v7 / 46) / (gA S a29 ((1 : Int32).toNatClampNeg)) * (gA S a29 ((1 : Int32).toNatClampNeg)))).toNatClampNeg)))), (10, Value.int ((v7 / 46) - (v7 / 46) / (gA S a29 ((1 : Int32).toNatClampNeg)) * (gA S a29 ((1 : Int32).toNatClampNeg)))), (9, Value.int (v7 / 46)), (8, Value.int s0), (0, va_rf (some x0)), (1, va_rf v1), (2, va_rf v2), (3, va_rf v3), (4, va_rf v4), (6, Value.int v6), (7, Value.int v7)]) dL_law_351 (by decide) (by first | rfl | simp [va_cat, vi_cat, vl_cat]) ?_
                  refine G_aload_n C (x := v1) 5 dL_law_353 rfl rfl ?_
                  refine G_bipush C (v := 21) dL_law_354 (by decide) ?_
                  refine G_iload C (x := ((v7 / 46) - (v7 / 46) / (gA S a29 ((1 : Int32).toNatClampNeg)) * (gA S a29 ((1 : Int32).toNatClampNeg)))) 1 dL_law_356 rfl ?_
                  refine G_iload C (x := (((v7 / 46) / 6) - ((v7 / 46) / 6) / (gA S a34 ((((v7 / 46) - (v7 / 46) / (gA S a29 ((1 : Int32).toNatClampNeg)) * (gA S a29 ((1 : Int32).toNatClampNeg)))).toNatClampNeg)) * (gA S a34 ((((v7 / 46) - (v7 / 46) / (gA S a29 ((1 : Int32).toNatClampNeg)) * (gA S a29 ((1 : Int32).toNatClampNeg)))).toNatClampNeg)))) 0 dL_law_358 rfl ?_
                  refine G_iconst C (v := 0) dL_law_360 (by decide) ?_
                  refine G_iconst C (v := 0) dL_law_361 (by decide) ?_
                  refine G_iconst C (v := 0) dL_law_362 (by decide) ?_
                  obtain ⟨m41, m42, hc43, hs44, h⟩ := h
                  refine G_callSWi C hZ tw_2_35 tw_2_36 tw_1_0 tw_2_37 hy_L_act ⟨Nat.le_of_ble_eq_true rfl, Nat.le_of_ble_eq_true rfl⟩ (As := [va_rf v1, Value.int 21, Value.int ((v7 / 46) - (v7 / 46) / (gA S a29 ((1 : Int32).toNatClampNeg)) * (gA S a29 ((1 : Int32).toNatClampNeg))), Value.int (((v7 / 46) / 6) - ((v7 / 46) / 6) / (gA S a34 ((((v7 / 46) - (v7 / 46) / (gA S a29 ((1 : Int32).toNatClampNeg)) * (gA S a29 ((1 : Int32).toNatClampNeg)))).toNatClampNeg)) * (gA S a34 ((((v7 / 46) - (v7 / 46) / (gA S a29 ((1 : Int32).toNatClampNeg)) * (gA S a29 ((1 : Int32).toNatClampNeg)))).toNatClampNeg))), Value.int 0, Value.int 0, Value.int 0]) (rest := []) (c_L_act l hl D cy e0 m0 he hm v1 21 ((v7 / 46) - (v7 / 46) / (gA S a29 ((1 : Int32).toNatClampNeg)) * (gA S a29 ((1 : Int32).toNatClampNeg))) (((v7 / 46) / 6) - ((v7 / 46) / 6) / (gA S a34 ((((v7 / 46) - (v7 / 46) / (gA S a29 ((1 : Int32).toNatClampNeg)) * (gA S a29 ((1 : Int32).toNatClampNeg)))).toNatClampNeg)) * (gA S a34 ((((v7 / 46) - (v7 / 46) / (gA S a29 ((1 : Int32).toNatClampNeg)) * (gA S a29 ((1 : Int32).toNatClampNeg)))).toNatClampNeg))) 0 0 0 S m41 m42 _ h) rfl rfl (by simp [va_cat, vi_cat, vl_cat]) dL_law_363 ⟨hc43, hs44⟩ (fun r40 S39 h => ?_)
                  refine G_istore C (i := 12) (lv' := [(12, Value.int r40), (11, Value.int (((v7 / 46) / 6) - ((v7 / 46) / 6) / (gA S a34 ((((v7 / 46) - (v7 / 46) / (gA S a29 ((1 : Int32).toNatClampNeg)) * (gA S a29 ((1 : Int32).toNatClampNeg)))).toNatClampNeg)) * (gA S a34 ((((v7 / 46) - (v7 / 46) / (gA S a29 ((1 : Int32).toNatClampNeg)) * (gA S a29 ((1 : Int32).toNatClampNeg)))).toNatClampNeg)))), (10, Value.int ((v7 / 46) - (v7 / 46) / (gA S a29 ((1 : Int32).toNatClampNeg)) * (gA S a29 ((1 : Int32).toNatClampNeg)))), (9, Value.int (v7 / 46)), (8, Value.int s0), (0, va_rf (some x0)), (1, va_rf v1), (2, va_rf v2), (3, va_rf v3), (4, va_rf v4), (6, Value.int v6), (7, Value.int v7)]) dL_law_366 (by decide) (by first | rfl | simp [va_cat, vi_cat, vl_cat]) ?_
                  refine G_iload C (x := r40) 0 dL_law_368 rfl ?_
                  refine G_ldc C (v := (-1713000)) (im tw_4_176) dL_law_370 ?_
                  refine G_icmp_eq C (tgt := 417) dL_law_372 (by decide) (fun hc => ?_) (fun hc => ?_)
                  · have h := h.1 hc
                    refine G_lv C (lv' := [(0, va_rf (some x0)), (1, va_rf v1), (2, va_rf v2), (3, va_rf v3), (4, va_rf v4), (6, Value.int v6), (7, Value.int v7), (9, Value.int (v7 / 46))]) [5, 6, 7, 8, 9, 10, 11, 3] rfl ?_
                    exact J417 _ _ _ _ _ _ _ _ _ _ h
                  · have h := h.2 hc
                    refine G_iload C (x := r40) 0 dL_law_375 rfl ?_
                    refine G_if_lt C (tgt := 421) dL_law_377 (by decide) (fun hc => ?_) (fun hc => ?_)
                    · have h := h.1 hc
                      refine G_lv C (lv' := [(0, va_rf (some x0)), (1, va_rf v1), (2, va_rf v2), (3, va_rf v3), (4, va_rf v4), (6, Value.int v6), (7, Value.int v7), (9, Value.int (v7 / 46))]) [5, 6, 7, 8, 9, 10, 11, 3] rfl ?_
                      exact J421 _ _ _ _ _ _ _ _ _ _ h
                    · have h := h.2 hc
                      refine G_iload C (x := r40) 0 dL_law_380 rfl ?_
                      refine G_bipush C (v := 100) dL_law_382 (by decide) ?_
                      refine G_icmp_gt C (tgt := 421) dL_law_384 (by decide) (fun hc => ?_) (fun hc => ?_)
                      · have h := h.1 hc
                        refine G_lv C (lv' := [(0, va_rf (some x0)), (1, va_rf v1), (2, va_rf v2), (3, va_rf v3), (4, va_rf v4), (6, Value.int v6), (7, Value.int v7), (9, Value.int (v7 / 46))]) [5, 6, 7, 8, 9, 10, 11, 3] rfl ?_
                        exact J421 _ _ _ _ _ _ _ _ _ _ h
                      · have h := h.2 hc
                        refine G_aload_n C (x := v1) 6 dL_law_387 rfl rfl ?_
                        refine G_iload C (x := ((v7 / 46) - (v7 / 46) / (gA S a29 ((1 : Int32).toNatClampNeg)) * (gA S a29 ((1 : Int32).toNatClampNeg)))) 2 dL_law_388 rfl ?_
                        refine G_iload C (x := (((v7 / 46) / 6) - ((v7 / 46) / 6) / (gA S a34 ((((v7 / 46) - (v7 / 46) / (gA S a29 ((1 : Int32).toNatClampNeg)) * (gA S a29 ((1 : Int32).toNatClampNeg)))).toNatClampNeg)) * (gA S a34 ((((v7 / 46) - (v7 / 46) / (gA S a29 ((1 : Int32).toNatClampNeg)) * (gA S a29 ((1 : Int32).toNatClampNeg)))).toNatClampNeg)))) 1 dL_law_390 rfl ?_
                        refine G_iconst C (v := 3) dL_law_392 (by decide) ?_
                        obtain ⟨S45, M46, hv47, hd48, h⟩ := h
                        obtain ⟨a50, ha51, h⟩ := h
                        obtain ⟨hk52, h⟩ := h
                        obtain ⟨m55, m56, hc57, hs58, h⟩ := h
                        refine G_fxcalli C hZ hv47 hd48 (Tf := TX8) (N := 10) hk52 (by decide) rfl tw_2_5 tw_2_6 tw_2_7 tw_1_1 tw_2_8 hy_X8_metre ⟨Nat.le_of_ble_eq_true rfl, Nat.le_of_ble_eq_true rfl⟩ (As := [Value.int ((v7 / 46) - (v7 / 46) / (gA S a29 ((1 : Int32).toNatClampNeg)) * (gA S a29 ((1 : Int32).toNatClampNeg))), Value.int (((v7 / 46) / 6) - ((v7 / 46) / 6) / (gA S a34 ((((v7 / 46) - (v7 / 46) / (gA S a29 ((1 : Int32).toNatClampNeg)) * (gA S a29 ((1 : Int32).toNatClampNeg)))).toNatClampNeg)) * (gA S a34 ((((v7 / 46) - (v7 / 46) / (gA S a29 ((1 : Int32).toNatClampNeg)) * (gA S a29 ((1 : Int32).toNatClampNeg)))).toNatClampNeg))), Value.int 3]) (rest := []) (c_X8_metre l hl  D cy a50 ((v7 / 46) - (v7 / 46) / (gA S a29 ((1 : Int32).toNatClampNeg)) * (gA S a29 ((1 : Int32).toNatClampNeg))) (((v7 / 46) / 6) - ((v7 / 46) / 6) / (gA S a34 ((((v7 / 46) - (v7 / 46) / (gA S a29 ((1 : Int32).toNatClampNeg)) * (gA S a29 ((1 : Int32).toNatClampNeg)))).toNatClampNeg)) * (gA S a34 ((((v7 / 46) - (v7 / 46) / (gA S a29 ((1 : Int32).toNatClampNeg)) * (gA S a29 ((1 : Int32).toNatClampNeg)))).toNatClampNeg))) 3 S45 m55 m56 _ _ h) rfl (by first | rfl | (simp only [ha51]; rfl) | simp only [ha51]) (by simp [va_cat, vi_cat, vl_cat]) dL_law_393 ⟨hc57, hs58⟩ (fun E S53 hd49 h => ?_) (fun r54 S53 hd49 h => ?_)
                        · exact (h hd49).elim
                        · replace h := h hd49
                          refine G_if_le C (tgt := 421) dL_law_396 (by decide) (fun hc => ?_) (fun hc => ?_)
                          · have h := h.1 hc
                            refine G_lv C (lv' := [(0, va_rf (some x0)), (1, va_rf v1), (2, va_rf v2), (3, va_rf v3), (4, va_rf v4), (6, Value.int v6), (7, Value.int v7), (9, Value.int (v7 / 46))]) [5, 6, 7, 8, 9, 10, 11, 3] rfl ?_
                            exact J421 _ _ _ _ _ _ _ _ _ _ h
                          · have h := h.2 hc
                            refine G_aload_n C (x := v1) 6 dL_law_399 rfl rfl ?_
                            refine G_bipush C (v := 21) dL_law_400 (by decide) ?_
                            refine G_iload C (x := ((v7 / 46) - (v7 / 46) / (gA S a29 ((1 : Int32).toNatClampNeg)) * (gA S a29 ((1 : Int32).toNatClampNeg)))) 2 dL_law_402 rfl ?_
                            refine G_iload C (x := (((v7 / 46) / 6) - ((v7 / 46) / 6) / (gA S a34 ((((v7 / 46) - (v7 / 46) / (gA S a29 ((1 : Int32).toNatClampNeg)) * (gA S a29 ((1 : Int32).toNatClampNeg)))).toNatClampNeg)) * (gA S a34 ((((v7 / 46) - (v7 / 46) / (gA S a29 ((1 : Int32).toNatClampNeg)) * (gA S a29 ((1 : Int32).toNatClampNeg)))).toNatClampNeg)))) 1 dL_law_404 rfl ?_
                            refine G_iconst C (v := 0) dL_law_406 (by decide) ?_
                            refine G_iconst C (v := 0) dL_law_407 (by decide) ?_
                            refine G_iconst C (v := 0) dL_law_408 (by decide) ?_
                            obtain ⟨m61, m62, hc63, hs64, h⟩ := h
                            refine G_callSWi C hZ tw_2_35 tw_2_36 tw_1_0 tw_2_37 hy_L_act ⟨Nat.le_of_ble_eq_true rfl, Nat.le_of_ble_eq_true rfl⟩ (As := [va_rf v1, Value.int 21, Value.int ((v7 / 46) - (v7 / 46) / (gA S a29 ((1 : Int32).toNatClampNeg)) * (gA S a29 ((1 : Int32).toNatClampNeg))), Value.int (((v7 / 46) / 6) - ((v7 / 46) / 6) / (gA S a34 ((((v7 / 46) - (v7 / 46) / (gA S a29 ((1 : Int32).toNatClampNeg)) * (gA S a29 ((1 : Int32).toNatClampNeg)))).toNatClampNeg)) * (gA S a34 ((((v7 / 46) - (v7 / 46) / (gA S a29 ((1 : Int32).toNatClampNeg)) * (gA S a29 ((1 : Int32).toNatClampNeg)))).toNatClampNeg))), Value.int 0, Value.int 0, Value.int 0]) (rest := []) (c_L_act l hl D cy e0 m0 he hm v1 21 ((v7 / 46) - (v7 / 46) / (gA S a29 ((1 : Int32).toNatClampNeg)) * (gA S a29 ((1 : Int32).toNatClampNeg))) (((v7 / 46) / 6) - ((v7 / 46) / 6) / (gA S a34 ((((v7 / 46) - (v7 / 46) / (gA S a29 ((1 : Int32).toNatClampNeg)) * (gA S a29 ((1 : Int32).toNatClampNeg)))).toNatClampNeg)) * (gA S a34 ((((v7 / 46) - (v7 / 46) / (gA S a29 ((1 : Int32).toNatClampNeg)) * (gA S a29 ((1 : Int32).toNatClampNeg)))).toNatClampNeg))) 0 0 0 (ov S53 M46) m61 m62 _ h) rfl rfl (by simp [va_cat, vi_cat, vl_cat]) dL_law_409 ⟨hc63, hs64⟩ (fun r60 S59 h => ?_)
                            refine G_ldc C (v := (-1713000)) (im tw_4_176) dL_law_412 ?_
                            refine G_icmp_ne C (tgt := 421) dL_law_414 (by decide) (fun hc => ?_) (fun hc => ?_)
                            · have h := h.1 hc
                              refine G_lv C (lv' := [(0, va_rf (some x0)), (1, va_rf v1), (2, va_rf v2), (3, va_rf v3), (4, va_rf v4), (6, Value.int v6), (7, Value.int v7), (9, Value.int (v7 / 46))]) [5, 6, 7, 8, 9, 10, 11, 3] rfl ?_
                              exact J421 _ _ _ _ _ _ _ _ _ _ h
                            · have h := h.2 hc
                              refine G_lv C (lv' := [(0, va_rf (some x0)), (1, va_rf v1), (2, va_rf v2), (3, va_rf v3), (4, va_rf v4), (6, Value.int v6), (7, Value.int v7), (9, Value.int (v7 / 46))]) [5, 6, 7, 8, 9, 10, 11, 3] rfl ?_
                              exact J417 _ _ _ _ _ _ _ _ _ _ h
              · have h := h.2 hc
                refine G_iload C (x := (v7 / 46)) 0 dL_law_216 rfl ?_
                refine G_aload_n C (x := v2) 4 dL_law_218 rfl rfl ?_
                refine G_iconst C (v := 1) dL_law_219 (by decide) ?_
                obtain ⟨a65, ha66, h⟩ := h
                refine G_rf1 ha66 ?_
                obtain ⟨hk67, h⟩ := h
                obtain ⟨hi68, h⟩ := h
                refine G_iald C hk67 hi68 dL_law_220 ?_
                obtain ⟨hn69, h⟩ := h
                refine G_irem C dL_law_221 hn69 ?_
                refine G_istore C (i := 10) (lv' := [(10, Value.int ((v7 / 46) - (v7 / 46) / (gA S a65 ((1 : Int32).toNatClampNeg)) * (gA S a65 ((1 : Int32).toNatClampNeg)))), (9, Value.int (v7 / 46)), (8, Value.int s0), (0, va_rf (some x0)), (1, va_rf v1), (2, va_rf v2), (3, va_rf v3), (4, va_rf v4), (6, Value.int v6), (7, Value.int v7)]) dL_law_222 (by decide) (by first | rfl | simp [va_cat, vi_cat, vl_cat]) ?_
                refine G_iload C (x := (v7 / 46)) 1 dL_law_224 rfl ?_
                refine G_bipush C (v := 6) dL_law_226 (by decide) ?_
                refine G_idiv C dL_law_228 (by decide) ?_
                refine G_aload_n C (x := v3) 6 dL_law_229 rfl rfl ?_
                refine G_iload C (x := ((v7 / 46) - (v7 / 46) / (gA S a65 ((1 : Int32).toNatClampNeg)) * (gA S a65 ((1 : Int32).toNatClampNeg)))) 0 dL_law_230 rfl ?_
                obtain ⟨a70, ha71, h⟩ := h
                refine G_rf1 ha71 ?_
                obtain ⟨hk72, h⟩ := h
                obtain ⟨hi73, h⟩ := h
                refine G_iald C hk72 hi73 dL_law_232 ?_
                obtain ⟨hn74, h⟩ := h
                refine G_irem C dL_law_233 hn74 ?_
                refine G_istore C (i := 11) (lv' := [(11, Value.int (((v7 / 46) / 6) - ((v7 / 46) / 6) / (gA S a70 ((((v7 / 46) - (v7 / 46) / (gA S a65 ((1 : Int32).toNatClampNeg)) * (gA S a65 ((1 : Int32).toNatClampNeg)))).toNatClampNeg)) * (gA S a70 ((((v7 / 46) - (v7 / 46) / (gA S a65 ((1 : Int32).toNatClampNeg)) * (gA S a65 ((1 : Int32).toNatClampNeg)))).toNatClampNeg)))), (10, Value.int ((v7 / 46) - (v7 / 46) / (gA S a65 ((1 : Int32).toNatClampNeg)) * (gA S a65 ((1 : Int32).toNatClampNeg)))), (9, Value.int (v7 / 46)), (8, Value.int s0), (0, va_rf (some x0)), (1, va_rf v1), (2, va_rf v2), (3, va_rf v3), (4, va_rf v4), (6, Value.int v6), (7, Value.int v7)]) dL_law_234 (by decide) (by first | rfl | simp [va_cat, vi_cat, vl_cat]) ?_
                refine G_aload_n C (x := v1) 5 dL_law_236 rfl rfl ?_
                refine G_iconst C (v := 5) dL_law_237 (by decide) ?_
                obtain ⟨S75, M76, hv77, hd78, h⟩ := h
                obtain ⟨a80, ha81, h⟩ := h
                obtain ⟨hk82, h⟩ := h
                obtain ⟨m85, m86, hc87, hs88, h⟩ := h
                refine G_fxcalll C hZ hv77 hd78 (Tf := TX8) (N := 10) hk82 (by decide) rfl tw_2_21 tw_2_22 tw_2_23 tw_1_1 tw_2_24 hy_X8_money ⟨Nat.le_of_ble_eq_true rfl, Nat.le_of_ble_eq_true rfl⟩ (As := [Value.int 5]) (rest := []) (c_X8_money l hl  D cy a80 5 S75 m85 m86 _ _ h) rfl (by first | rfl | (simp only [ha81]; rfl) | simp only [ha81]) (by simp [va_cat, vi_cat, vl_cat]) dL_law_238 ⟨hc87, hs88⟩ (fun E S83 hd79 h => ?_) (fun r84 S83 hd79 h => ?_)
                · exact (h hd79).elim
                · replace h := h hd79
                  refine G_lstore C (i := 12) (lv' := [(12, Value.long r84), (11, Value.int (((v7 / 46) / 6) - ((v7 / 46) / 6) / (gA S a70 ((((v7 / 46) - (v7 / 46) / (gA S a65 ((1 : Int32).toNatClampNeg)) * (gA S a65 ((1 : Int32).toNatClampNeg)))).toNatClampNeg)) * (gA S a70 ((((v7 / 46) - (v7 / 46) / (gA S a65 ((1 : Int32).toNatClampNeg)) * (gA S a65 ((1 : Int32).toNatClampNeg)))).toNatClampNeg)))), (10, Value.int ((v7 / 46) - (v7 / 46) / (gA S a65 ((1 : Int32).toNatClampNeg)) * (gA S a65 ((1 : Int32).toNatClampNeg)))), (9, Value.int (v7 / 46)), (8, Value.int s0), (0, va_rf (some x0)), (1, va_rf v1), (2, va_rf v2), (3, va_rf v3), (4, va_rf v4), (6, Value.int v6), (7, Value.int v7)]) dL_law_241 (by decide) (by first | rfl | simp [va_cat, vi_cat, vl_cat]) ?_
                  refine G_aload_n C (x := v1) 6 dL_law_243 rfl rfl ?_
                  refine G_iload C (x := ((v7 / 46) - (v7 / 46) / (gA S a65 ((1 : Int32).toNatClampNeg)) * (gA S a65 ((1 : Int32).toNatClampNeg)))) 2 dL_law_244 rfl ?_
                  refine G_iload C (x := (((v7 / 46) / 6) - ((v7 / 46) / 6) / (gA S a70 ((((v7 / 46) - (v7 / 46) / (gA S a65 ((1 : Int32).toNatClampNeg)) * (gA S a65 ((1 : Int32).toNatClampNeg)))).toNatClampNeg)) * (gA S a70 ((((v7 / 46) - (v7 / 46) / (gA S a65 ((1 : Int32).toNatClampNeg)) * (gA S a65 ((1 : Int32).toNatClampNeg)))).toNatClampNeg)))) 1 dL_law_246 rfl ?_
                  refine G_iload C (x := (v7 / 46)) 3 dL_law_248 rfl ?_
                  refine G_bipush C (v := 84) dL_law_250 (by decide) ?_
                  refine G_idiv C dL_law_252 (by decide) ?_
                  refine G_bipush C (v := 30) dL_law_253 (by decide) ?_
                  refine G_irem C dL_law_255 (by decide) ?_
                  obtain ⟨S89, M90, hv91, hd92, h⟩ := h
                  obtain ⟨hk94, h⟩ := h
                  obtain ⟨m97, m98, hc99, hs100, h⟩ := h
                  refine G_fxcalli C hZ hv91 hd92 (Tf := TX8) (N := 10) hk94 (by decide) rfl tw_1_130 tw_1_131 tw_1_132 tw_1_1 tw_1_133 hy_X8_liable ⟨Nat.le_of_ble_eq_true rfl, Nat.le_of_ble_eq_true rfl⟩ (As := [Value.int ((v7 / 46) - (v7 / 46) / (gA S a65 ((1 : Int32).toNatClampNeg)) * (gA S a65 ((1 : Int32).toNatClampNeg))), Value.int (((v7 / 46) / 6) - ((v7 / 46) / 6) / (gA S a70 ((((v7 / 46) - (v7 / 46) / (gA S a65 ((1 : Int32).toNatClampNeg)) * (gA S a65 ((1 : Int32).toNatClampNeg)))).toNatClampNeg)) * (gA S a70 ((((v7 / 46) - (v7 / 46) / (gA S a65 ((1 : Int32).toNatClampNeg)) * (gA S a65 ((1 : Int32).toNatClampNeg)))).toNatClampNeg))), Value.int (((v7 / 46) / 84) - ((v7 / 46) / 84) / 30 * 30)]) (rest := []) (c_X8_liable l hl  D cy a80 ((v7 / 46) - (v7 / 46) / (gA S a65 ((1 : Int32).toNatClampNeg)) * (gA S a65 ((1 : Int32).toNatClampNeg))) (((v7 / 46) / 6) - ((v7 / 46) / 6) / (gA S a70 ((((v7 / 46) - (v7 / 46) / (gA S a65 ((1 : Int32).toNatClampNeg)) * (gA S a65 ((1 : Int32).toNatClampNeg)))).toNatClampNeg)) * (gA S a70 ((((v7 / 46) - (v7 / 46) / (gA S a65 ((1 : Int32).toNatClampNeg)) * (gA S a65 ((1 : Int32).toNatClampNeg)))).toNatClampNeg))) (((v7 / 46) / 84) - ((v7 / 46) / 84) / 30 * 30) S89 m97 m98 _ _ h) rfl (by first | rfl | (simp only [ha81]; rfl) | simp only [ha81]) (by simp [va_cat, vi_cat, vl_cat]) dL_law_256 ⟨hc99, hs100⟩ (fun E S95 hd93 h => ?_) (fun r96 S95 hd93 h => ?_)
                  · exact (h hd93).elim
                  · replace h := h hd93
                    refine G_istore C (i := 14) (lv' := [(14, Value.int r96), (12, Value.long r84), (11, Value.int (((v7 / 46) / 6) - ((v7 / 46) / 6) / (gA S a70 ((((v7 / 46) - (v7 / 46) / (gA S a65 ((1 : Int32).toNatClampNeg)) * (gA S a65 ((1 : Int32).toNatClampNeg)))).toNatClampNeg)) * (gA S a70 ((((v7 / 46) - (v7 / 46) / (gA S a65 ((1 : Int32).toNatClampNeg)) * (gA S a65 ((1 : Int32).toNatClampNeg)))).toNatClampNeg)))), (10, Value.int ((v7 / 46) - (v7 / 46) / (gA S a65 ((1 : Int32).toNatClampNeg)) * (gA S a65 ((1 : Int32).toNatClampNeg)))), (9, Value.int (v7 / 46)), (8, Value.int s0), (0, va_rf (some x0)), (1, va_rf v1), (2, va_rf v2), (3, va_rf v3), (4, va_rf v4), (6, Value.int v6), (7, Value.int v7)]) dL_law_259 (by decide) (by first | rfl | simp [va_cat, vi_cat, vl_cat]) ?_
                    refine G_aload_n C (x := v1) 7 dL_law_261 rfl rfl ?_
                    refine G_bipush C (v := 20) dL_law_262 (by decide) ?_
                    refine G_iload C (x := ((v7 / 46) - (v7 / 46) / (gA S a65 ((1 : Int32).toNatClampNeg)) * (gA S a65 ((1 : Int32).toNatClampNeg)))) 3 dL_law_264 rfl ?_
                    refine G_iload C (x := (((v7 / 46) / 6) - ((v7 / 46) / 6) / (gA S a70 ((((v7 / 46) - (v7 / 46) / (gA S a65 ((1 : Int32).toNatClampNeg)) * (gA S a65 ((1 : Int32).toNatClampNeg)))).toNatClampNeg)) * (gA S a70 ((((v7 / 46) - (v7 / 46) / (gA S a65 ((1 : Int32).toNatClampNeg)) * (gA S a65 ((1 : Int32).toNatClampNeg)))).toNatClampNeg)))) 2 dL_law_266 rfl ?_
                    refine G_iload C (x := (v7 / 46)) 4 dL_law_268 rfl ?_
                    refine G_bipush C (v := 84) dL_law_270 (by decide) ?_
                    refine G_idiv C dL_law_272 (by decide) ?_
                    refine G_bipush C (v := 30) dL_law_273 (by decide) ?_
                    refine G_irem C dL_law_275 (by decide) ?_
                    refine G_iconst C (v := 0) dL_law_276 (by decide) ?_
                    refine G_iconst C (v := 0) dL_law_277 (by decide) ?_
                    obtain ⟨m103, m104, hc105, hs106, h⟩ := h
                    refine G_callSWi C hZ tw_2_35 tw_2_36 tw_1_0 tw_2_37 hy_L_act ⟨Nat.le_of_ble_eq_true rfl, Nat.le_of_ble_eq_true rfl⟩ (As := [va_rf v1, Value.int 20, Value.int ((v7 / 46) - (v7 / 46) / (gA S a65 ((1 : Int32).toNatClampNeg)) * (gA S a65 ((1 : Int32).toNatClampNeg))), Value.int (((v7 / 46) / 6) - ((v7 / 46) / 6) / (gA S a70 ((((v7 / 46) - (v7 / 46) / (gA S a65 ((1 : Int32).toNatClampNeg)) * (gA S a65 ((1 : Int32).toNatClampNeg)))).toNatClampNeg)) * (gA S a70 ((((v7 / 46) - (v7 / 46) / (gA S a65 ((1 : Int32).toNatClampNeg)) * (gA S a65 ((1 : Int32).toNatClampNeg)))).toNatClampNeg))), Value.int (((v7 / 46) / 84) - ((v7 / 46) / 84) / 30 * 30), Value.int 0, Value.int 0]) (rest := []) (c_L_act l hl D cy e0 m0 he hm v1 20 ((v7 / 46) - (v7 / 46) / (gA S a65 ((1 : Int32).toNatClampNeg)) * (gA S a65 ((1 : Int32).toNatClampNeg))) (((v7 / 46) / 6) - ((v7 / 46) / 6) / (gA S a70 ((((v7 / 46) - (v7 / 46) / (gA S a65 ((1 : Int32).toNatClampNeg)) * (gA S a65 ((1 : Int32).toNatClampNeg)))).toNatClampNeg)) * (gA S a70 ((((v7 / 46) - (v7 / 46) / (gA S a65 ((1 : Int32).toNatClampNeg)) * (gA S a65 ((1 : Int32).toNatClampNeg)))).toNatClampNeg))) (((v7 / 46) / 84) - ((v7 / 46) / 84) / 30 * 30) 0 0 (ov S95 M90) m103 m104 _ h) rfl rfl (by simp [va_cat, vi_cat, vl_cat]) dL_law_278 ⟨hc105, hs106⟩ (fun r102 S101 h => ?_)
                    refine G_istore C (i := 15) (lv' := [(15, Value.int r102), (14, Value.int r96), (12, Value.long r84), (11, Value.int (((v7 / 46) / 6) - ((v7 / 46) / 6) / (gA S a70 ((((v7 / 46) - (v7 / 46) / (gA S a65 ((1 : Int32).toNatClampNeg)) * (gA S a65 ((1 : Int32).toNatClampNeg)))).toNatClampNeg)) * (gA S a70 ((((v7 / 46) - (v7 / 46) / (gA S a65 ((1 : Int32).toNatClampNeg)) * (gA S a65 ((1 : Int32).toNatClampNeg)))).toNatClampNeg)))), (10, Value.int ((v7 / 46) - (v7 / 46) / (gA S a65 ((1 : Int32).toNatClampNeg)) * (gA S a65 ((1 : Int32).toNatClampNeg)))), (9, Value.int (v7 / 46)), (8, Value.int s0), (0, va_rf (some x0)), (1, va_rf v1), (2, va_rf v2), (3, va_rf v3), (4, va_rf v4), (6, Value.int v6), (7, Value.int v7)]) dL_law_281 (by decide) (by first | rfl | simp [va_cat, vi_cat, vl_cat]) ?_
                    refine G_iload C (x := r102) 0 dL_law_283 rfl ?_
                    refine G_iload C (x := r96) 1 dL_law_285 rfl ?_
                    refine G_icmp_ne C (tgt := 320) dL_law_287 (by decide) (fun hc => ?_) (fun hc => ?_)
                    · have h := h.1 hc
                      refine G_lv C (lv' := [(0, va_rf (some x0)), (1, va_rf v1), (2, va_rf v2), (3, va_rf v3), (4, va_rf v4), (6, Value.int v6), (7, Value.int v7), (9, Value.int (v7 / 46))]) [7, 8, 9, 10, 11, 12, 13, 5] rfl ?_
                      exact J320 _ _ _ _ _ _ _ _ _ _ h
                    · have h := h.2 hc
                      refine G_aload_n C (x := v1) 8 dL_law_290 rfl rfl ?_
                      refine G_iconst C (v := 5) dL_law_291 (by decide) ?_
                      obtain ⟨S107, M108, hv109, hd110, h⟩ := h
                      obtain ⟨hk112, h⟩ := h
                      obtain ⟨m115, m116, hc117, hs118, h⟩ := h
                      refine G_fxcalll C hZ hv109 hd110 (Tf := TX8) (N := 10) hk112 (by decide) rfl tw_2_21 tw_2_22 tw_2_23 tw_1_1 tw_2_24 hy_X8_money ⟨Nat.le_of_ble_eq_true rfl, Nat.le_of_ble_eq_true rfl⟩ (As := [Value.int 5]) (rest := []) (c_X8_money l hl  D cy a80 5 S107 m115 m116 _ _ h) rfl (by first | rfl | (simp only [ha81]; rfl) | simp only [ha81]) (by simp [va_cat, vi_cat, vl_cat]) dL_law_292 ⟨hc117, hs118⟩ (fun E S113 hd111 h => ?_) (fun r114 S113 hd111 h => ?_)
                      · exact (h hd111).elim
                      · replace h := h hd111
                        refine G_lload C (x := r84) 2 dL_law_295 rfl ?_
                        refine G_iload C (x := r96) 1 dL_law_297 rfl ?_
                        refine G_iconst C (v := (-1)) dL_law_299 (by decide) ?_
                        refine G_icmp_ne C (tgt := 307) dL_law_300 (by decide) (fun hc => ?_) (fun hc => ?_)
                        · have h := h.1 hc
                          refine G_sipush C (v := 300) dL_law_307 (by decide) ?_
                          refine G_lv C (lv' := [(0, va_rf (some x0)), (1, va_rf v1), (2, va_rf v2), (3, va_rf v3), (4, va_rf v4), (6, Value.int v6), (7, Value.int v7), (9, Value.int (v7 / 46))]) [7, 8, 9, 10, 11, 12, 13, 5] rfl ?_
                          exact J310 _ _ _ _ _ _ _ _ _ _ _ _ _ h
                        · have h := h.2 hc
                          refine G_iconst C (v := 0) dL_law_303 (by decide) ?_
                          refine G_goto C (tgt := 310) dL_law_304 (by decide) ?_
                          refine G_lv C (lv' := [(0, va_rf (some x0)), (1, va_rf v1), (2, va_rf v2), (3, va_rf v3), (4, va_rf v4), (6, Value.int v6), (7, Value.int v7), (9, Value.int (v7 / 46))]) [7, 8, 9, 10, 11, 12, 13, 5] rfl ?_
                          exact J310 _ _ _ _ _ _ _ _ _ _ _ _ _ h
            · have h := h.2 hc
              refine G_aload_n C (x := v1) 3 dL_law_196 rfl rfl ?_
              refine G_aload_n C (x := v2) 4 dL_law_197 rfl rfl ?_
              refine G_aload_n C (x := v3) 5 dL_law_198 rfl rfl ?_
              refine G_iload C (x := (v7 / 46)) 0 dL_law_199 rfl ?_
              obtain ⟨m121, m122, hc123, hs124, h⟩ := h
              refine G_callSi C hZ tw_5_60 tw_5_61 tw_1_0 tw_5_62 hy_L_isPassed ⟨Nat.le_of_ble_eq_true rfl, Nat.le_of_ble_eq_true rfl⟩ (As := [va_rf v1, va_rf v2, va_rf v3, Value.int (v7 / 46)]) (rest := []) (c_L_isPassed l hl D cy e0 m0 he hm v1 v2 v3 (v7 / 46) S m121 m122 _ h) rfl rfl (by simp [va_cat, vi_cat, vl_cat]) dL_law_201 ⟨hc123, hs124⟩ (fun r120 S119 h => ?_)
              obtain ⟨hb125, h⟩ := h
              refine G_istore C (i := 5) (lv' := [(5, Value.int r120), (9, Value.int (v7 / 46)), (8, Value.int s0), (0, va_rf (some x0)), (1, va_rf v1), (2, va_rf v2), (3, va_rf v3), (4, va_rf v4), (6, Value.int v6), (7, Value.int v7)]) dL_law_204 (by decide) (by first | rfl | simp [va_cat, vi_cat, vl_cat]) ?_
              refine G_goto C (tgt := 481) dL_law_206 (by decide) ?_
              refine G_lv C (lv' := [(0, va_rf (some x0)), (1, va_rf v1), (2, va_rf v2), (3, va_rf v3), (4, va_rf v4), (5, Value.int r120), (6, Value.int v6), (7, Value.int v7), (9, Value.int (v7 / 46))]) [3, 4, 5, 6, 7, 0, 8, 9, 1] rfl ?_
              exact J481 _ _ _ _ _ _ _ _ _ _ _ h
          · have h := h.2 hc
            refine G_aload_n C (x := v2) 4 dL_law_158 rfl rfl ?_
            refine G_iconst C (v := 3) dL_law_159 (by decide) ?_
            obtain ⟨a126, ha127, h⟩ := h
            refine G_rf1 ha127 ?_
            obtain ⟨hk128, h⟩ := h
            obtain ⟨hi129, h⟩ := h
            refine G_iald C hk128 hi129 dL_law_160 ?_
            refine G_bipush C (v := 16) dL_law_161 (by decide) ?_
            refine G_icmp_eq C (tgt := 179) dL_law_163 (by decide) (fun hc => ?_) (fun hc => ?_)
            · have h := h.1 hc
              refine G_lv C (lv' := [(0, va_rf (some x0)), (1, va_rf v1), (2, va_rf v2), (3, va_rf v3), (4, va_rf v4), (6, Value.int v6), (7, Value.int v7), (9, Value.int (v7 / 46))]) [2, 3, 4, 5, 6, 7, 8, 0] rfl ?_
              exact J179 _ _ _ _ _ _ _ _ _ _ h
            · have h := h.2 hc
              refine G_aload_n C (x := v1) 3 dL_law_166 rfl rfl ?_
              refine G_aload_n C (x := v2) 4 dL_law_167 rfl rfl ?_
              refine G_aload_n C (x := v3) 5 dL_law_168 rfl rfl ?_
              refine G_aload C (x := v4) 6 dL_law_169 rfl ?_
              refine G_iload C (x := (v7 / 46)) 0 dL_law_171 rfl ?_
              obtain ⟨m132, m133, hc134, hs135, h⟩ := h
              refine G_callSi C hZ tw_5_53 tw_5_54 tw_1_0 tw_5_55 hy_L_isAsked ⟨Nat.le_of_ble_eq_true rfl, Nat.le_of_ble_eq_true rfl⟩ (As := [va_rf v1, va_rf v2, va_rf v3, va_rf v4, Value.int (v7 / 46)]) (rest := []) (c_L_isAsked l hl D cy v1 v2 v3 v4 (v7 / 46) S m132 m133 _ h) rfl rfl (by simp [va_cat, vi_cat, vl_cat]) dL_law_173 ⟨hc134, hs135⟩ (fun r131 S130 h => ?_)
              obtain ⟨hb136, h⟩ := h
              refine G_if_eq C (tgt := 183) dL_law_176 (by decide) (fun hc => ?_) (fun hc => ?_)
              · have h := h.1 hc
                refine G_iconst C (v := 0) dL_law_183 (by decide) ?_
                refine G_lv C (lv' := [(0, va_rf (some x0)), (1, va_rf v1), (2, va_rf v2), (3, va_rf v3), (4, va_rf v4), (6, Value.int v6), (7, Value.int v7), (9, Value.int (v7 / 46))]) [2, 3, 4, 5, 6, 7, 8, 0] rfl ?_
                exact J184 _ _ _ _ _ _ _ _ _ _ _ h
              · have h := h.2 hc
                refine G_lv C (lv' := [(0, va_rf (some x0)), (1, va_rf v1), (2, va_rf v2), (3, va_rf v3), (4, va_rf v4), (6, Value.int v6), (7, Value.int v7), (9, Value.int (v7 / 46))]) [2, 3, 4, 5, 6, 7, 8, 0] rfl ?_
                exact J179 _ _ _ _ _ _ _ _ _ _ h
        · have h := h.2 hc
          refine G_aload_n C (x := v1) 3 dL_law_120 rfl rfl ?_
          refine G_aload_n C (x := v2) 4 dL_law_121 rfl rfl ?_
          refine G_aload_n C (x := v3) 5 dL_law_122 rfl rfl ?_
          refine G_iload C (x := s0) 1 dL_law_123 rfl ?_
          refine G_bipush C (v := 6) dL_law_125 (by decide) ?_
          refine G_icmp_ge C (tgt := 135) dL_law_127 (by decide) (fun hc => ?_) (fun hc => ?_)
          · have h := h.1 hc
            refine G_iconst C (v := 1) dL_law_135 (by decide) ?_
            refine G_iload C (x := s0) 1 dL_law_136 rfl ?_
            refine G_iconst C (v := 3) dL_law_138 (by decide) ?_
            refine G_irem C dL_law_139 (by decide) ?_
            refine G_iadd C dL_law_140 ?_
            refine G_lv C (lv' := [(0, va_rf (some x0)), (1, va_rf v1), (2, va_rf v2), (3, va_rf v3), (4, va_rf v4), (6, Value.int v6), (7, Value.int v7), (9, Value.int (v7 / 46))]) [2, 3, 4, 5, 6, 7, 8, 0] rfl ?_
            exact J141 _ _ _ _ _ _ _ _ _ _ _ _ _ _ h
          · have h := h.2 hc
            refine G_iload C (x := s0) 1 dL_law_130 rfl ?_
            refine G_goto C (tgt := 141) dL_law_132 (by decide) ?_
            refine G_lv C (lv' := [(0, va_rf (some x0)), (1, va_rf v1), (2, va_rf v2), (3, va_rf v3), (4, va_rf v4), (6, Value.int v6), (7, Value.int v7), (9, Value.int (v7 / 46))]) [2, 3, 4, 5, 6, 7, 8, 0] rfl ?_
            exact J141 _ _ _ _ _ _ _ _ _ _ _ _ _ _ h
      intro c0 n0 S v1 v2 v3 v4 v5 v6 h
      rw [w_L_law_l57] at h
      obtain ⟨hc00, hn00, h⟩ := h
      refine G_iload C (x := v6) 6 dL_law_57 rfl ?_
      refine G_sipush C (v := 130) dL_law_59 (by decide) ?_
      refine G_icmp_ge C (tgt := 535) dL_law_62 (by decide) (fun hc => ?_) (fun hc => ?_)
      · have h := h.1 hc
        refine G_lv C (lv' := [(5, Value.int v5)]) [5] rfl ?_
        exact J535 _ _ _ _ h
      · have h := h.2 hc
        refine G_iload C (x := v5) 5 dL_law_65 rfl ?_
        refine G_if_eq C (tgt := 535) dL_law_67 (by decide) (fun hc => ?_) (fun hc => ?_)
        · have h := h.1 hc
          refine G_lv C (lv' := [(5, Value.int v5)]) [5] rfl ?_
          exact J535 _ _ _ _ h
        · have h := h.2 hc
          refine G_aload_n C (x := (some x0)) 0 dL_law_70 rfl rfl ?_
          refine G_iload C (x := v6) 6 dL_law_71 rfl ?_
          obtain ⟨hd137, h⟩ := h
          refine G_dice C hZ hX hbl hbA tw_2_30 tw_2_31 tw_1_0 tw_2_32 hy_L_dice ⟨Nat.le_of_ble_eq_true rfl, Nat.le_of_ble_eq_true rfl⟩ (As := [va_rf (some x0), Value.int v6]) (rest := []) (c_L_dice l D cy x0 L xs hL v6 hd137) rfl rfl (by simp [va_cat, vi_cat, vl_cat]) dL_law_73 ⟨hc00, hn00⟩ (fun r138 _ e => ?_)
          have h := h r138 e
          refine G_istore C (i := 7) (lv' := [(7, Value.int r138), (0, va_rf (some x0)), (1, va_rf v1), (2, va_rf v2), (3, va_rf v3), (4, va_rf v4), (5, Value.int v5), (6, Value.int v6)]) dL_law_76 (by decide) (by first | rfl | simp [va_cat, vi_cat, vl_cat]) ?_
          refine G_iload C (x := v6) 7 dL_law_78 rfl ?_
          refine G_iconst C (v := 2) dL_law_80 (by decide) ?_
          refine G_icmp_ge C (tgt := 88) dL_law_81 (by decide) (fun hc => ?_) (fun hc => ?_)
          · have h := h.1 hc
            refine G_iload C (x := v6) 7 dL_law_88 rfl ?_
            refine G_iconst C (v := 5) dL_law_90 (by decide) ?_
            refine G_icmp_ge C (tgt := 99) dL_law_91 (by decide) (fun hc => ?_) (fun hc => ?_)
            · have h := h.1 hc
              refine G_iload C (x := r138) 0 dL_law_99 rfl ?_
              refine G_bipush C (v := 46) dL_law_101 (by decide) ?_
              refine G_irem C dL_law_103 (by decide) ?_
              refine G_lv C (lv' := [(0, va_rf (some x0)), (1, va_rf v1), (2, va_rf v2), (3, va_rf v3), (4, va_rf v4), (6, Value.int v6), (7, Value.int r138)]) [1, 2, 3, 4, 5, 7, 0] rfl ?_
              exact J104 _ _ _ _ _ _ _ _ _ _ h
            · have h := h.2 hc
              refine G_bipush C (v := 8) dL_law_94 (by decide) ?_
              refine G_goto C (tgt := 104) dL_law_96 (by decide) ?_
              refine G_lv C (lv' := [(0, va_rf (some x0)), (1, va_rf v1), (2, va_rf v2), (3, va_rf v3), (4, va_rf v4), (6, Value.int v6), (7, Value.int r138)]) [1, 2, 3, 4, 5, 7, 0] rfl ?_
              exact J104 _ _ _ _ _ _ _ _ _ _ h
          · have h := h.2 hc
            refine G_iconst C (v := 0) dL_law_84 (by decide) ?_
            refine G_goto C (tgt := 104) dL_law_85 (by decide) ?_
            refine G_lv C (lv' := [(0, va_rf (some x0)), (1, va_rf v1), (2, va_rf v2), (3, va_rf v3), (4, va_rf v4), (6, Value.int v6), (7, Value.int r138)]) [1, 2, 3, 4, 5, 7, 0] rfl ?_
            exact J104 _ _ _ _ _ _ _ _ _ _ h
  have J52 : ∀ (c0 n0 : Nat) (S : PT) (v1 : Option Nat) (v2 : Option Nat) (v3 : Option Nat) (v4 : Option Nat) (s0 : Int32), w_L_law_b52 e0 m0 L xs x0 mc ms post c0 n0 S v1 v2 v3 v4 s0 → G p l e { frames := room_1.frames, cells := mc, slots := ms, locals := room_1.locals } s m #[va_rf (some x0)] below meth c D cy (fun q => s.heap.size ≤ q) s.heap 16 (lw_Z below #[Value.ref x0] s) S c0 n0 52 [(0, va_rf (some x0)), (1, va_rf v1), (2, va_rf v2), (3, va_rf v3), (4, va_rf v4)] [Value.int s0] := by
    intro c0 n0 S v1 v2 v3 v4 s0 h
    unfold w_L_law_b52 at h
    obtain ⟨hc00, hn00, h⟩ := h
    refine G_istore C (i := 5) (lv' := [(5, Value.int s0), (0, va_rf (some x0)), (1, va_rf v1), (2, va_rf v2), (3, va_rf v3), (4, va_rf v4)]) dL_law_52 (by decide) (by first | rfl | simp [va_cat, vi_cat, vl_cat]) ?_
    refine G_iconst C (v := 0) dL_law_54 (by decide) ?_
    refine G_istore C (i := 6) (lv' := [(6, Value.int 0), (5, Value.int s0), (0, va_rf (some x0)), (1, va_rf v1), (2, va_rf v2), (3, va_rf v3), (4, va_rf v4)]) dL_law_55 (by decide) (by first | rfl | simp [va_cat, vi_cat, vl_cat]) ?_
    refine G_lv C (lv' := [(0, va_rf (some x0)), (1, va_rf v1), (2, va_rf v2), (3, va_rf v3), (4, va_rf v4), (5, Value.int s0), (6, Value.int 0)]) [2, 3, 4, 5, 6, 1, 0] rfl ?_
    obtain ⟨n9, h⟩ := h
    exact J57 n9 _ _ _ _ _ _ _ _ _ h
  have J51 : ∀ (c0 n0 : Nat) (S : PT) (v1 : Option Nat) (v2 : Option Nat) (v3 : Option Nat) (v4 : Option Nat), w_L_law_b51 e0 m0 L xs x0 mc ms post c0 n0 S v1 v2 v3 v4 → G p l e { frames := room_1.frames, cells := mc, slots := ms, locals := room_1.locals } s m #[va_rf (some x0)] below meth c D cy (fun q => s.heap.size ≤ q) s.heap 16 (lw_Z below #[Value.ref x0] s) S c0 n0 51 [(0, va_rf (some x0)), (1, va_rf v1), (2, va_rf v2), (3, va_rf v3), (4, va_rf v4)] [] := by
    intro c0 n0 S v1 v2 v3 v4 h
    unfold w_L_law_b51 at h
    obtain ⟨hc00, hn00, h⟩ := h
    refine G_iconst C (v := 0) dL_law_51 (by decide) ?_
    refine G_lv C (lv' := [(0, va_rf (some x0)), (1, va_rf v1), (2, va_rf v2), (3, va_rf v3), (4, va_rf v4)]) [0, 1, 2, 3, 4] rfl ?_
    exact J52 _ _ _ _ _ _ _ _ h
  unfold w_L_law at h
  obtain ⟨hc143, hs144, h⟩ := h
  refine G_new C (CC := RX8) (Tf := TX8) (N := 10) (k := 9) (fs := [Value.null, Value.int 0, Value.null, Value.int 0, Value.null, Value.int 0, Value.null, Value.null, Value.null, Value.int 0]) (by decide) rfl (fin fwX8) tyX8_ok (im tw_1_25) (im tw_1_26) (im tw_1_1) rfl dv_X8 hc143 hs144 dL_law_0 (fun q139 hq142 => ?_)
  generalize e141 : nO S q139 9 = S140
  have h := h q139 S140 hq142 e141.symm
  refine G_dup C dL_law_3 (va_cat _) ?_
  obtain ⟨m147, m148, hc149, hs150, h⟩ := h
  refine G_callIv C hZ tw_1_27 tw_1_28 tw_1_1 rfl tw_1_29 hy_X8_init ⟨Nat.le_of_ble_eq_true rfl, Nat.le_of_ble_eq_true rfl⟩ (As := []) (rest := [va_rf (some q139)]) (c_X8_init l D cy e0 m0 he hm q139 S140 m147 m148 _ h) rfl rfl (by simp [va_cat, vi_cat, vl_cat]) dL_law_4 ⟨hc149, hs150⟩ (fun S145 h => ?_)
  refine G_astore_n C (i := 1) (lv' := [(1, va_rf (some q139)), (0, va_rf (some x0))]) dL_law_7 rfl (by decide) (by first | rfl | simp [va_cat, vi_cat, vl_cat]) ?_
  refine G_iconst C (v := 4) dL_law_8 (by decide) ?_
  obtain ⟨hc155, hs156, h⟩ := h
  refine G_newI C (i := 4)  (im tw_1_54) (by decide) (n := 4) (by decide) (by decide) hc155 hs156 dL_law_9 (fun q151 hq154 => ?_)
  generalize e153 : nA S145 q151 12 4 = S152
  have h := h q151 S152 hq154 e153.symm
  refine G_astore_n C (i := 2) (lv' := [(2, va_rf (some q151)), (1, va_rf (some q139)), (0, va_rf (some x0))]) dL_law_11 rfl (by decide) (by first | rfl | simp [va_cat, vi_cat, vl_cat]) ?_
  refine G_bipush C (v := 18) dL_law_12 (by decide) ?_
  obtain ⟨hc161, hs162, h⟩ := h
  refine G_newI C (i := 18)  (im tw_1_54) (by decide) (n := 18) (by decide) (by decide) hc161 hs162 dL_law_14 (fun q157 hq160 => ?_)
  generalize e159 : nA S152 q157 12 18 = S158
  have h := h q157 S158 hq160 e159.symm
  refine G_astore_n C (i := 3) (lv' := [(3, va_rf (some q157)), (2, va_rf (some q151)), (1, va_rf (some q139)), (0, va_rf (some x0))]) dL_law_16 rfl (by decide) (by first | rfl | simp [va_cat, vi_cat, vl_cat]) ?_
  refine G_bipush C (v := 64) dL_law_17 (by decide) ?_
  obtain ⟨hc167, hs168, h⟩ := h
  refine G_newI C (i := 64)  (im tw_1_54) (by decide) (n := 64) (by decide) (by decide) hc167 hs168 dL_law_19 (fun q163 hq166 => ?_)
  generalize e165 : nA S158 q163 12 64 = S164
  have h := h q163 S164 hq166 e165.symm
  refine G_astore C (i := 4) (lv' := [(4, va_rf (some q163)), (3, va_rf (some q157)), (2, va_rf (some q151)), (1, va_rf (some q139)), (0, va_rf (some x0))]) dL_law_21 (by decide) (by first | rfl | simp [va_cat, vi_cat, vl_cat]) ?_
  refine G_aload_n C (x := (some q139)) 3 dL_law_23 rfl rfl ?_
  refine G_aload_n C (x := (some q151)) 2 dL_law_24 rfl rfl ?_
  refine G_aload_n C (x := (some q157)) 1 dL_law_25 rfl rfl ?_
  refine G_aload C (x := (some q163)) 0 dL_law_26 rfl ?_
  refine G_iconst C (v := 0) dL_law_28 (by decide) ?_
  obtain ⟨m171, m172, hc173, hs174, h⟩ := h
  refine G_callSi C hZ tw_4_177 tw_4_178 tw_1_0 tw_4_179 hy_L_isRefused ⟨Nat.le_of_ble_eq_true rfl, Nat.le_of_ble_eq_true rfl⟩ (As := [va_rf (some q139), va_rf (some q151), va_rf (some q157), va_rf (some q163), Value.int 0]) (rest := []) (c_L_isRefused l hl D cy e0 m0 he hm (some q139) (some q151) (some q157) (some q163) 0 S164 m171 m172 _ h) rfl rfl (by simp [va_cat, vi_cat, vl_cat]) dL_law_29 ⟨hc173, hs174⟩ (fun r170 S169 h => ?_)
  obtain ⟨hb175, h⟩ := h
  refine G_if_eq C (tgt := 51) dL_law_32 (by decide) (fun hc => ?_) (fun hc => ?_)
  · have h := h.1 hc
    refine G_lv C (lv' := [(0, va_rf (some x0)), (1, va_rf (some q139)), (2, va_rf (some q151)), (3, va_rf (some q157)), (4, va_rf (some q163))]) [4, 3, 2, 1, 0] rfl ?_
    exact J51 _ _ _ _ _ _ _ h
  · have h := h.2 hc
    refine G_aload_n C (x := (some q139)) 3 dL_law_35 rfl rfl ?_
    refine G_aload_n C (x := (some q151)) 2 dL_law_36 rfl rfl ?_
    refine G_aload_n C (x := (some q157)) 1 dL_law_37 rfl rfl ?_
    refine G_aload C (x := (some q163)) 0 dL_law_38 rfl ?_
    refine G_iconst C (v := 1) dL_law_40 (by decide) ?_
    obtain ⟨m178, m179, hc180, hs181, h⟩ := h
    refine G_callSi C hZ tw_4_177 tw_4_178 tw_1_0 tw_4_179 hy_L_isRefused ⟨Nat.le_of_ble_eq_true rfl, Nat.le_of_ble_eq_true rfl⟩ (As := [va_rf (some q139), va_rf (some q151), va_rf (some q157), va_rf (some q163), Value.int 1]) (rest := []) (c_L_isRefused l hl D cy e0 m0 he hm (some q139) (some q151) (some q157) (some q163) 1 S169 m178 m179 _ h) rfl rfl (by simp [va_cat, vi_cat, vl_cat]) dL_law_41 ⟨hc180, hs181⟩ (fun r177 S176 h => ?_)
    obtain ⟨hb182, h⟩ := h
    refine G_if_eq C (tgt := 51) dL_law_44 (by decide) (fun hc => ?_) (fun hc => ?_)
    · have h := h.1 hc
      refine G_lv C (lv' := [(0, va_rf (some x0)), (1, va_rf (some q139)), (2, va_rf (some q151)), (3, va_rf (some q157)), (4, va_rf (some q163))]) [4, 3, 2, 1, 0] rfl ?_
      exact J51 _ _ _ _ _ _ _ h
    · have h := h.2 hc
      refine G_iconst C (v := 1) dL_law_47 (by decide) ?_
      refine G_goto C (tgt := 52) dL_law_48 (by decide) ?_
      refine G_lv C (lv' := [(0, va_rf (some x0)), (1, va_rf (some q139)), (2, va_rf (some q151)), (3, va_rf (some q157)), (4, va_rf (some q163))]) [4, 3, 2, 1, 0] rfl ?_
      exact J52 _ _ _ _ _ _ _ _ h
