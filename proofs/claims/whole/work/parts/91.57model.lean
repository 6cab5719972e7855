set_option maxHeartbeats 4000000 in
set_option maxRecDepth 100000 in
theorem c_X9_init (l : Launch) (D : va_G) (cy : Nat → Nat) (x0 : Nat) (S : PT) (mc ms : Nat) (post : PT → Prop) (h : w_X9_init x0 S mc ms post) : Mv l yX9_init (Wm yX9_init prog_11_method_1_code 2 (Option.none : Option Jvm.ClassFile.FieldType)) 1 16 D cy [va_rf (some x0)] S mc ms post := by
  refine Mv_of (own := "TrenchboardModel") (by decide) rfl (by first | decide | simp [lg_sl, va_cat, vi_cat, vl_cat]) (fun p e s m below meth c A C hZ hr hin9 => ?_)
  have J386 : ∀ (n : Nat) (c0 n0 : Nat) (S : PT) (v1 : Int32), w_X9_init_l386 x0 mc ms post n c0 n0 S v1 → G p l e { frames := 1, cells := mc, slots := ms, locals := 16 } s m [va_rf (some x0)].toArray below meth c D cy A s.heap 2 (QMv below D cy A [va_rf (some x0)] s mc ms post) S c0 n0 386 [(0, va_rf (some x0)), (1, Value.int v1)] [] := by
    intro n386
    induction n386 with
    | zero => intro c0 n0 S v1 h; rw [w_X9_init_l386] at h; exact False.elim h
    | succ n386 K386 =>
      intro c0 n0 S v1 h
      rw [w_X9_init_l386] at h
      obtain ⟨hc00, hn00, h⟩ := h
      refine G_iload_n C (x := v1) 1 dX9_init_386 rfl rfl ?_
      refine G_bipush C (v := 6) dX9_init_387 (by decide) ?_
      refine G_icmp_ge C (tgt := 412) dX9_init_389 (by decide) (fun hc => ?_) (fun hc => ?_)
      · have h := h.1 hc
        exact G_vret C (mc := mc) (ms := ms) (post := post) hr hc00 hn00 dX9_init_412 h
      · have h := h.2 hc
        refine G_aload_n C (x := (some x0)) 0 dX9_init_392 rfl rfl ?_
        obtain ⟨hk1, h⟩ := h
        refine G_get C (CC := RX9) (Tf := TX9) (N := 50) (k := 10) (i := 8) (v := va_rf (gP S 1008 x0)) hk1 (by decide) rfl (fin fwX9) (by decide) (im tw_5_136) rfl rfl dX9_init_393 ?_
        refine G_iload_n C (x := v1) 1 dX9_init_396 rfl rfl ?_
        refine G_iconst C (v := (-1)) dX9_init_397 (by decide) ?_
        obtain ⟨a2, ha3, h⟩ := h
        refine G_rf2 ha3 ?_
        obtain ⟨hk4, h⟩ := h
        obtain ⟨hi5, h⟩ := h
        refine G_iast C hk4 hi5 dX9_init_398 ?_
        generalize e7 : sA S a2 ((v1).toNatClampNeg) (-1) = S6
        have h := h S6 e7.symm
        refine G_aload_n C (x := (some x0)) 0 dX9_init_399 rfl rfl ?_
        refine G_get C (CC := RX9) (Tf := TX9) (N := 50) (k := 10) (i := 6) (v := va_rf (gP S6 1006 x0)) (ksA e7.symm hk1) (by decide) rfl (fin fwX9) (by decide) (im tw_5_134) rfl rfl dX9_init_400 ?_
        refine G_iload_n C (x := v1) 1 dX9_init_403 rfl rfl ?_
        refine G_iconst C (v := (-1)) dX9_init_404 (by decide) ?_
        obtain ⟨a8, ha9, h⟩ := h
        refine G_rf2 ha9 ?_
        obtain ⟨hk10, h⟩ := h
        obtain ⟨hi11, h⟩ := h
        refine G_iast C hk10 hi11 dX9_init_405 ?_
        generalize e13 : sA S6 a8 ((v1).toNatClampNeg) (-1) = S12
        have h := h S12 e13.symm
        refine G_iinc C (v := (v1 + 1)) (lv' := [(1, Value.int (v1 + 1)), (0, va_rf (some x0))]) 1 dX9_init_406 rfl rfl (by decide) (by first | rfl | simp [va_cat, vi_cat, vl_cat]) ?_
        refine G_goto C (tgt := 386) dX9_init_409 (by decide) ?_
        refine G_lv C (lv' := [(0, va_rf (some x0)), (1, Value.int (v1 + 1))]) [1, 0] rfl ?_
        exact K386 _ _ _ _ h
  have J364 : ∀ (n : Nat) (c0 n0 : Nat) (S : PT) (v1 : Int32), w_X9_init_l364 x0 mc ms post n c0 n0 S v1 → G p l e { frames := 1, cells := mc, slots := ms, locals := 16 } s m [va_rf (some x0)].toArray below meth c D cy A s.heap 2 (QMv below D cy A [va_rf (some x0)] s mc ms post) S c0 n0 364 [(0, va_rf (some x0)), (1, Value.int v1)] [] := by
    intro n364
    induction n364 with
    | zero => intro c0 n0 S v1 h; rw [w_X9_init_l364] at h; exact False.elim h
    | succ n364 K364 =>
      intro c0 n0 S v1 h
      rw [w_X9_init_l364] at h
      obtain ⟨hc00, hn00, h⟩ := h
      refine G_iload_n C (x := v1) 1 dX9_init_364 rfl rfl ?_
      refine G_sipush C (v := 240) dX9_init_365 (by decide) ?_
      refine G_icmp_ge C (tgt := 384) dX9_init_368 (by decide) (fun hc => ?_) (fun hc => ?_)
      · have h := h.1 hc
        refine G_iconst C (v := 0) dX9_init_384 (by decide) ?_
        refine G_istore_n C (i := 1) (lv' := [(1, Value.int 0), (0, va_rf (some x0))]) dX9_init_385 rfl (by decide) (by first | rfl | simp [va_cat, vi_cat, vl_cat]) ?_
        refine G_lv C (lv' := [(0, va_rf (some x0)), (1, Value.int 0)]) [1, 0] rfl ?_
        obtain ⟨n9, h⟩ := h
        exact J386 n9 _ _ _ _ h
      · have h := h.2 hc
        refine G_aload_n C (x := (some x0)) 0 dX9_init_371 rfl rfl ?_
        obtain ⟨hk14, h⟩ := h
        refine G_get C (CC := RX9) (Tf := TX9) (N := 50) (k := 10) (i := 13) (v := va_rf (gP S 1013 x0)) hk14 (by decide) rfl (fin fwX9) (by decide) (im tw_5_141) rfl rfl dX9_init_372 ?_
        refine G_iload_n C (x := v1) 1 dX9_init_375 rfl rfl ?_
        refine G_iconst C (v := (-1)) dX9_init_376 (by decide) ?_
        obtain ⟨a15, ha16, h⟩ := h
        refine G_rf2 ha16 ?_
        obtain ⟨hk17, h⟩ := h
        obtain ⟨hi18, h⟩ := h
        refine G_iast C hk17 hi18 dX9_init_377 ?_
        generalize e20 : sA S a15 ((v1).toNatClampNeg) (-1) = S19
        have h := h S19 e20.symm
        refine G_iinc C (v := (v1 + 1)) (lv' := [(1, Value.int (v1 + 1)), (0, va_rf (some x0))]) 1 dX9_init_378 rfl rfl (by decide) (by first | rfl | simp [va_cat, vi_cat, vl_cat]) ?_
        refine G_goto C (tgt := 364) dX9_init_381 (by decide) ?_
        refine G_lv C (lv' := [(0, va_rf (some x0)), (1, Value.int (v1 + 1))]) [1, 0] rfl ?_
        exact K364 _ _ _ _ h
  refine G_lv C (lv' := [(0, va_rf (some x0))]) [0] (by first | rfl | simp [lv_pick, lv_args, va_cat, vi_cat, vl_cat]) ?_
  unfold w_X9_init at h
  refine G_aload_n C (x := (some x0)) 0 dX9_init_0 rfl rfl ?_
  refine G_objInit C (im tw_5_127) (im tw_1_32) (im tw_1_33) dX9_init_1 (Nat.le_of_ble_eq_true rfl) (by simp [va_cat, vi_cat, vl_cat]) ?_
  refine G_aload_n C (x := (some x0)) 0 dX9_init_4 rfl rfl ?_
  refine G_bipush C (v := 6) dX9_init_5 (by decide) ?_
  obtain ⟨hc25, hs26, h⟩ := h
  refine G_newI C (i := 6)  (im tw_1_55) (by decide) (n := 6) (by decide) (by decide) hc25 hs26 dX9_init_7 (fun q21 hq24 => ?_)
  generalize e23 : nA S q21 12 6 = S22
  have h := h q21 S22 hq24 e23.symm
  obtain ⟨hk27, h⟩ := h
  refine G_putPF C (CC := RX9) (Tf := TX9) (N := 50) (k := 10) (i := 2) (f := 1002) (x := (some q21)) (ty0 := tyX9) (ty := (.array .int)) hk27 (by decide) rfl (fin fwX9) tyX9_ok nmX9 (by decide) (im tw_5_130) rfl rfl (hin9 rfl) rfl rfl rfl rfl rfl rfl dX9_init_9 ?_
  generalize e29 : sP S22 1002 x0 (some q21) = S28
  have h := h S28 e29.symm
  refine G_aload_n C (x := (some x0)) 0 dX9_init_12 rfl rfl ?_
  refine G_bipush C (v := 6) dX9_init_13 (by decide) ?_
  obtain ⟨hc34, hs35, h⟩ := h
  refine G_newI C (i := 6)  (im tw_1_55) (by decide) (n := 6) (by decide) (by decide) hc34 hs35 dX9_init_15 (fun q30 hq33 => ?_)
  generalize e32 : nA S28 q30 12 6 = S31
  have h := h q30 S31 hq33 e32.symm
  refine G_putPF C (CC := RX9) (Tf := TX9) (N := 50) (k := 10) (i := 3) (f := 1003) (x := (some q30)) (ty0 := tyX9) (ty := (.array .int)) (ka0 e32.symm hq33 (by decide) (ksP e29.symm hk27)) (by decide) rfl (fin fwX9) tyX9_ok nmX9 (by decide) (im tw_5_131) rfl rfl (hin9 rfl) rfl rfl rfl rfl rfl rfl dX9_init_17 ?_
  generalize e37 : sP S31 1003 x0 (some q30) = S36
  have h := h S36 e37.symm
  refine G_aload_n C (x := (some x0)) 0 dX9_init_20 rfl rfl ?_
  refine G_bipush C (v := 6) dX9_init_21 (by decide) ?_
  obtain ⟨hc42, hs43, h⟩ := h
  refine G_newI C (i := 6)  (im tw_1_55) (by decide) (n := 6) (by decide) (by decide) hc42 hs43 dX9_init_23 (fun q38 hq41 => ?_)
  generalize e40 : nA S36 q38 12 6 = S39
  have h := h q38 S39 hq41 e40.symm
  refine G_putPF C (CC := RX9) (Tf := TX9) (N := 50) (k := 10) (i := 4) (f := 1004) (x := (some q38)) (ty0 := tyX9) (ty := (.array .int)) (ka0 e40.symm hq41 (by decide) (ksP e37.symm (ka0 e32.symm hq33 (by decide) (ksP e29.symm hk27)))) (by decide) rfl (fin fwX9) tyX9_ok nmX9 (by decide) (im tw_5_132) rfl rfl (hin9 rfl) rfl rfl rfl rfl rfl rfl dX9_init_25 ?_
  generalize e45 : sP S39 1004 x0 (some q38) = S44
  have h := h S44 e45.symm
  refine G_aload_n C (x := (some x0)) 0 dX9_init_28 rfl rfl ?_
  refine G_bipush C (v := 6) dX9_init_29 (by decide) ?_
  obtain ⟨hc50, hs51, h⟩ := h
  refine G_newI C (i := 6)  (im tw_1_55) (by decide) (n := 6) (by decide) (by decide) hc50 hs51 dX9_init_31 (fun q46 hq49 => ?_)
  generalize e48 : nA S44 q46 12 6 = S47
  have h := h q46 S47 hq49 e48.symm
  refine G_putPF C (CC := RX9) (Tf := TX9) (N := 50) (k := 10) (i := 5) (f := 1005) (x := (some q46)) (ty0 := tyX9) (ty := (.array .int)) (ka0 e48.symm hq49 (by decide) (ksP e45.symm (ka0 e40.symm hq41 (by decide) (ksP e37.symm (ka0 e32.symm hq33 (by decide) (ksP e29.symm hk27)))))) (by decide) rfl (fin fwX9) tyX9_ok nmX9 (by decide) (im tw_5_133) rfl rfl (hin9 rfl) rfl rfl rfl rfl rfl rfl dX9_init_33 ?_
  generalize e53 : sP S47 1005 x0 (some q46) = S52
  have h := h S52 e53.symm
  refine G_aload_n C (x := (some x0)) 0 dX9_init_36 rfl rfl ?_
  refine G_bipush C (v := 6) dX9_init_37 (by decide) ?_
  obtain ⟨hc58, hs59, h⟩ := h
  refine G_newI C (i := 6)  (im tw_1_55) (by decide) (n := 6) (by decide) (by decide) hc58 hs59 dX9_init_39 (fun q54 hq57 => ?_)
  generalize e56 : nA S52 q54 12 6 = S55
  have h := h q54 S55 hq57 e56.symm
  refine G_putPF C (CC := RX9) (Tf := TX9) (N := 50) (k := 10) (i := 6) (f := 1006) (x := (some q54)) (ty0 := tyX9) (ty := (.array .int)) (ka0 e56.symm hq57 (by decide) (ksP e53.symm (ka0 e48.symm hq49 (by decide) (ksP e45.symm (ka0 e40.symm hq41 (by decide) (ksP e37.symm (ka0 e32.symm hq33 (by decide) (ksP e29.symm hk27)))))))) (by decide) rfl (fin fwX9) tyX9_ok nmX9 (by decide) (im tw_5_134) rfl rfl (hin9 rfl) rfl rfl rfl rfl rfl rfl dX9_init_41 ?_
  generalize e61 : sP S55 1006 x0 (some q54) = S60
  have h := h S60 e61.symm
  refine G_aload_n C (x := (some x0)) 0 dX9_init_44 rfl rfl ?_
  refine G_bipush C (v := 6) dX9_init_45 (by decide) ?_
  obtain ⟨hc66, hs67, h⟩ := h
  refine G_newI C (i := 6)  (im tw_1_55) (by decide) (n := 6) (by decide) (by decide) hc66 hs67 dX9_init_47 (fun q62 hq65 => ?_)
  generalize e64 : nA S60 q62 12 6 = S63
  have h := h q62 S63 hq65 e64.symm
  refine G_putPF C (CC := RX9) (Tf := TX9) (N := 50) (k := 10) (i := 7) (f := 1007) (x := (some q62)) (ty0 := tyX9) (ty := (.array .int)) (ka0 e64.symm hq65 (by decide) (ksP e61.symm (ka0 e56.symm hq57 (by decide) (ksP e53.symm (ka0 e48.symm hq49 (by decide) (ksP e45.symm (ka0 e40.symm hq41 (by decide) (ksP e37.symm (ka0 e32.symm hq33 (by decide) (ksP e29.symm hk27)))))))))) (by decide) rfl (fin fwX9) tyX9_ok nmX9 (by decide) (im tw_5_135) rfl rfl (hin9 rfl) rfl rfl rfl rfl rfl rfl dX9_init_49 ?_
  generalize e69 : sP S63 1007 x0 (some q62) = S68
  have h := h S68 e69.symm
  refine G_aload_n C (x := (some x0)) 0 dX9_init_52 rfl rfl ?_
  refine G_bipush C (v := 6) dX9_init_53 (by decide) ?_
  obtain ⟨hc74, hs75, h⟩ := h
  refine G_newI C (i := 6)  (im tw_1_55) (by decide) (n := 6) (by decide) (by decide) hc74 hs75 dX9_init_55 (fun q70 hq73 => ?_)
  generalize e72 : nA S68 q70 12 6 = S71
  have h := h q70 S71 hq73 e72.symm
  refine G_putPF C (CC := RX9) (Tf := TX9) (N := 50) (k := 10) (i := 8) (f := 1008) (x := (some q70)) (ty0 := tyX9) (ty := (.array .int)) (ka0 e72.symm hq73 (by decide) (ksP e69.symm (ka0 e64.symm hq65 (by decide) (ksP e61.symm (ka0 e56.symm hq57 (by decide) (ksP e53.symm (ka0 e48.symm hq49 (by decide) (ksP e45.symm (ka0 e40.symm hq41 (by decide) (ksP e37.symm (ka0 e32.symm hq33 (by decide) (ksP e29.symm hk27)))))))))))) (by decide) rfl (fin fwX9) tyX9_ok nmX9 (by decide) (im tw_5_136) rfl rfl (hin9 rfl) rfl rfl rfl rfl rfl rfl dX9_init_57 ?_
  generalize e77 : sP S71 1008 x0 (some q70) = S76
  have h := h S76 e77.symm
  refine G_aload_n C (x := (some x0)) 0 dX9_init_60 rfl rfl ?_
  refine G_bipush C (v := 6) dX9_init_61 (by decide) ?_
  obtain ⟨hc82, hs83, h⟩ := h
  refine G_newI C (i := 6)  (im tw_1_55) (by decide) (n := 6) (by decide) (by decide) hc82 hs83 dX9_init_63 (fun q78 hq81 => ?_)
  generalize e80 : nA S76 q78 12 6 = S79
  have h := h q78 S79 hq81 e80.symm
  refine G_putPF C (CC := RX9) (Tf := TX9) (N := 50) (k := 10) (i := 9) (f := 1009) (x := (some q78)) (ty0 := tyX9) (ty := (.array .int)) (ka0 e80.symm hq81 (by decide) (ksP e77.symm (ka0 e72.symm hq73 (by decide) (ksP e69.symm (ka0 e64.symm hq65 (by decide) (ksP e61.symm (ka0 e56.symm hq57 (by decide) (ksP e53.symm (ka0 e48.symm hq49 (by decide) (ksP e45.symm (ka0 e40.symm hq41 (by decide) (ksP e37.symm (ka0 e32.symm hq33 (by decide) (ksP e29.symm hk27)))))))))))))) (by decide) rfl (fin fwX9) tyX9_ok nmX9 (by decide) (im tw_5_137) rfl rfl (hin9 rfl) rfl rfl rfl rfl rfl rfl dX9_init_65 ?_
  generalize e85 : sP S79 1009 x0 (some q78) = S84
  have h := h S84 e85.symm
  refine G_aload_n C (x := (some x0)) 0 dX9_init_68 rfl rfl ?_
  refine G_bipush C (v := 6) dX9_init_69 (by decide) ?_
  obtain ⟨hc90, hs91, h⟩ := h
  refine G_newI C (i := 6)  (im tw_1_55) (by decide) (n := 6) (by decide) (by decide) hc90 hs91 dX9_init_71 (fun q86 hq89 => ?_)
  generalize e88 : nA S84 q86 12 6 = S87
  have h := h q86 S87 hq89 e88.symm
  refine G_putPF C (CC := RX9) (Tf := TX9) (N := 50) (k := 10) (i := 10) (f := 1010) (x := (some q86)) (ty0 := tyX9) (ty := (.array .int)) (ka0 e88.symm hq89 (by decide) (ksP e85.symm (ka0 e80.symm hq81 (by decide) (ksP e77.symm (ka0 e72.symm hq73 (by decide) (ksP e69.symm (ka0 e64.symm hq65 (by decide) (ksP e61.symm (ka0 e56.symm hq57 (by decide) (ksP e53.symm (ka0 e48.symm hq49 (by decide) (ksP e45.symm (ka0 e40.symm hq41 (by decide) (ksP e37.symm (ka0 e32.symm hq33 (by decide) (ksP e29.symm hk27)))))))))))))))) (by decide) rfl (fin fwX9) tyX9_ok nmX9 (by decide) (im tw_5_138) rfl rfl (hin9 rfl) rfl rfl rfl rfl rfl rfl dX9_init_73 ?_
  generalize e93 : sP S87 1010 x0 (some q86) = S92
  have h := h S92 e93.symm
  refine G_aload_n C (x := (some x0)) 0 dX9_init_76 rfl rfl ?_
  refine G_bipush C (v := 6) dX9_init_77 (by decide) ?_
  obtain ⟨hc98, hs99, h⟩ := h
  refine G_newI C (i := 6)  (im tw_1_55) (by decide) (n := 6) (by decide) (by decide) hc98 hs99 dX9_init_79 (fun q94 hq97 => ?_)
  generalize e96 : nA S92 q94 12 6 = S95
  have h := h q94 S95 hq97 e96.symm
  refine G_putPF C (CC := RX9) (Tf := TX9) (N := 50) (k := 10) (i := 11) (f := 1011) (x := (some q94)) (ty0 := tyX9) (ty := (.array .int)) (ka0 e96.symm hq97 (by decide) (ksP e93.symm (ka0 e88.symm hq89 (by decide) (ksP e85.symm (ka0 e80.symm hq81 (by decide) (ksP e77.symm (ka0 e72.symm hq73 (by decide) (ksP e69.symm (ka0 e64.symm hq65 (by decide) (ksP e61.symm (ka0 e56.symm hq57 (by decide) (ksP e53.symm (ka0 e48.symm hq49 (by decide) (ksP e45.symm (ka0 e40.symm hq41 (by decide) (ksP e37.symm (ka0 e32.symm hq33 (by decide) (ksP e29.symm hk27)))))))))))))))))) (by decide) rfl (fin fwX9) tyX9_ok nmX9 (by decide) (im tw_5_139) rfl rfl (hin9 rfl) rfl rfl rfl rfl rfl rfl dX9_init_81 ?_
  generalize e101 : sP S95 1011 x0 (some q94) = S100
  have h := h S100 e101.symm
  refine G_aload_n C (x := (some x0)) 0 dX9_init_84 rfl rfl ?_
  refine G_sipush C (v := 240) dX9_init_85 (by decide) ?_
  obtain ⟨hc106, hs107, h⟩ := h
  refine G_newZ C (i := 240)  (im tw_6_39) (by decide) (n := 240) (by decide) (by decide) hc106 hs107 dX9_init_88 (fun q102 hq105 => ?_)
  generalize e104 : nA S100 q102 14 240 = S103
  have h := h q102 S103 hq105 e104.symm
  refine G_putPF C (CC := RX9) (Tf := TX9) (N := 50) (k := 10) (i := 12) (f := 1012) (x := (some q102)) (ty0 := tyX9) (ty := (.array .boolean)) (ka0 e104.symm hq105 (by decide) (ksP e101.symm (ka0 e96.symm hq97 (by decide) (ksP e93.symm (ka0 e88.symm hq89 (by decide) (ksP e85.symm (ka0 e80.symm hq81 (by decide) (ksP e77.symm (ka0 e72.symm hq73 (by decide) (ksP e69.symm (ka0 e64.symm hq65 (by decide) (ksP e61.symm (ka0 e56.symm hq57 (by decide) (ksP e53.symm (ka0 e48.symm hq49 (by decide) (ksP e45.symm (ka0 e40.symm hq41 (by decide) (ksP e37.symm (ka0 e32.symm hq33 (by decide) (ksP e29.symm hk27)))))))))))))))))))) (by decide) rfl (fin fwX9) tyX9_ok nmX9 (by decide) (im tw_5_140) rfl rfl (hin9 rfl) rfl rfl rfl rfl rfl rfl dX9_init_90 ?_
  generalize e109 : sP S103 1012 x0 (some q102) = S108
  have h := h S108 e109.symm
  refine G_aload_n C (x := (some x0)) 0 dX9_init_93 rfl rfl ?_
  refine G_sipush C (v := 240) dX9_init_94 (by decide) ?_
  obtain ⟨hc114, hs115, h⟩ := h
  refine G_newI C (i := 240)  (im tw_1_55) (by decide) (n := 240) (by decide) (by decide) hc114 hs115 dX9_init_97 (fun q110 hq113 => ?_)
  generalize e112 : nA S108 q110 12 240 = S111
  have h := h q110 S111 hq113 e112.symm
  refine G_putPF C (CC := RX9) (Tf := TX9) (N := 50) (k := 10) (i := 13) (f := 1013) (x := (some q110)) (ty0 := tyX9) (ty := (.array .int)) (ka0 e112.symm hq113 (by decide) (ksP e109.symm (ka0 e104.symm hq105 (by decide) (ksP e101.symm (ka0 e96.symm hq97 (by decide) (ksP e93.symm (ka0 e88.symm hq89 (by decide) (ksP e85.symm (ka0 e80.symm hq81 (by decide) (ksP e77.symm (ka0 e72.symm hq73 (by decide) (ksP e69.symm (ka0 e64.symm hq65 (by decide) (ksP e61.symm (ka0 e56.symm hq57 (by decide) (ksP e53.symm (ka0 e48.symm hq49 (by decide) (ksP e45.symm (ka0 e40.symm hq41 (by decide) (ksP e37.symm (ka0 e32.symm hq33 (by decide) (ksP e29.symm hk27)))))))))))))))))))))) (by decide) rfl (fin fwX9) tyX9_ok nmX9 (by decide) (im tw_5_141) rfl rfl (hin9 rfl) rfl rfl rfl rfl rfl rfl dX9_init_99 ?_
  generalize e117 : sP S111 1013 x0 (some q110) = S116
  have h := h S116 e117.symm
  refine G_aload_n C (x := (some x0)) 0 dX9_init_102 rfl rfl ?_
  refine G_bipush C (v := 30) dX9_init_103 (by decide) ?_
  obtain ⟨hc122, hs123, h⟩ := h
  refine G_newI C (i := 30)  (im tw_1_55) (by decide) (n := 30) (by decide) (by decide) hc122 hs123 dX9_init_105 (fun q118 hq121 => ?_)
  generalize e120 : nA S116 q118 12 30 = S119
  have h := h q118 S119 hq121 e120.symm
  refine G_putPF C (CC := RX9) (Tf := TX9) (N := 50) (k := 10) (i := 15) (f := 1015) (x := (some q118)) (ty0 := tyX9) (ty := (.array .int)) (ka0 e120.symm hq121 (by decide) (ksP e117.symm (ka0 e112.symm hq113 (by decide) (ksP e109.symm (ka0 e104.symm hq105 (by decide) (ksP e101.symm (ka0 e96.symm hq97 (by decide) (ksP e93.symm (ka0 e88.symm hq89 (by decide) (ksP e85.symm (ka0 e80.symm hq81 (by decide) (ksP e77.symm (ka0 e72.symm hq73 (by decide) (ksP e69.symm (ka0 e64.symm hq65 (by decide) (ksP e61.symm (ka0 e56.symm hq57 (by decide) (ksP e53.symm (ka0 e48.symm hq49 (by decide) (ksP e45.symm (ka0 e40.symm hq41 (by decide) (ksP e37.symm (ka0 e32.symm hq33 (by decide) (ksP e29.symm hk27)))))))))))))))))))))))) (by decide) rfl (fin fwX9) tyX9_ok nmX9 (by decide) (im tw_5_143) rfl rfl (hin9 rfl) rfl rfl rfl rfl rfl rfl dX9_init_107 ?_
  generalize e125 : sP S119 1015 x0 (some q118) = S124
  have h := h S124 e125.symm
  refine G_aload_n C (x := (some x0)) 0 dX9_init_110 rfl rfl ?_
  refine G_bipush C (v := 30) dX9_init_111 (by decide) ?_
  obtain ⟨hc130, hs131, h⟩ := h
  refine G_newI C (i := 30)  (im tw_1_55) (by decide) (n := 30) (by decide) (by decide) hc130 hs131 dX9_init_113 (fun q126 hq129 => ?_)
  generalize e128 : nA S124 q126 12 30 = S127
  have h := h q126 S127 hq129 e128.symm
  refine G_putPF C (CC := RX9) (Tf := TX9) (N := 50) (k := 10) (i := 16) (f := 1016) (x := (some q126)) (ty0 := tyX9) (ty := (.array .int)) (ka0 e128.symm hq129 (by decide) (ksP e125.symm (ka0 e120.symm hq121 (by decide) (ksP e117.symm (ka0 e112.symm hq113 (by decide) (ksP e109.symm (ka0 e104.symm hq105 (by decide) (ksP e101.symm (ka0 e96.symm hq97 (by decide) (ksP e93.symm (ka0 e88.symm hq89 (by decide) (ksP e85.symm (ka0 e80.symm hq81 (by decide) (ksP e77.symm (ka0 e72.symm hq73 (by decide) (ksP e69.symm (ka0 e64.symm hq65 (by decide) (ksP e61.symm (ka0 e56.symm hq57 (by decide) (ksP e53.symm (ka0 e48.symm hq49 (by decide) (ksP e45.symm (ka0 e40.symm hq41 (by decide) (ksP e37.symm (ka0 e32.symm hq33 (by decide) (ksP e29.symm hk27)))))))))))))))))))))))))) (by decide) rfl (fin fwX9) tyX9_ok nmX9 (by decide) (im tw_5_144) rfl rfl (hin9 rfl) rfl rfl rfl rfl rfl rfl dX9_init_115 ?_
  generalize e133 : sP S127 1016 x0 (some q126) = S132
  have h := h S132 e133.symm
  refine G_aload_n C (x := (some x0)) 0 dX9_init_118 rfl rfl ?_
  refine G_bipush C (v := 30) dX9_init_119 (by decide) ?_
  obtain ⟨hc138, hs139, h⟩ := h
  refine G_newI C (i := 30)  (im tw_1_55) (by decide) (n := 30) (by decide) (by decide) hc138 hs139 dX9_init_121 (fun q134 hq137 => ?_)
  generalize e136 : nA S132 q134 12 30 = S135
  have h := h q134 S135 hq137 e136.symm
  refine G_putPF C (CC := RX9) (Tf := TX9) (N := 50) (k := 10) (i := 17) (f := 1017) (x := (some q134)) (ty0 := tyX9) (ty := (.array .int)) (ka0 e136.symm hq137 (by decide) (ksP e133.symm (ka0 e128.symm hq129 (by decide) (ksP e125.symm (ka0 e120.symm hq121 (by decide) (ksP e117.symm (ka0 e112.symm hq113 (by decide) (ksP e109.symm (ka0 e104.symm hq105 (by decide) (ksP e101.symm (ka0 e96.symm hq97 (by decide) (ksP e93.symm (ka0 e88.symm hq89 (by decide) (ksP e85.symm (ka0 e80.symm hq81 (by decide) (ksP e77.symm (ka0 e72.symm hq73 (by decide) (ksP e69.symm (ka0 e64.symm hq65 (by decide) (ksP e61.symm (ka0 e56.symm hq57 (by decide) (ksP e53.symm (ka0 e48.symm hq49 (by decide) (ksP e45.symm (ka0 e40.symm hq41 (by decide) (ksP e37.symm (ka0 e32.symm hq33 (by decide) (ksP e29.symm hk27)))))))))))))))))))))))))))) (by decide) rfl (fin fwX9) tyX9_ok nmX9 (by decide) (im tw_5_145) rfl rfl (hin9 rfl) rfl rfl rfl rfl rfl rfl dX9_init_123 ?_
  generalize e141 : sP S135 1017 x0 (some q134) = S140
  have h := h S140 e141.symm
  refine G_aload_n C (x := (some x0)) 0 dX9_init_126 rfl rfl ?_
  refine G_bipush C (v := 30) dX9_init_127 (by decide) ?_
  obtain ⟨hc146, hs147, h⟩ := h
  refine G_newI C (i := 30)  (im tw_1_55) (by decide) (n := 30) (by decide) (by decide) hc146 hs147 dX9_init_129 (fun q142 hq145 => ?_)
  generalize e144 : nA S140 q142 12 30 = S143
  have h := h q142 S143 hq145 e144.symm
  refine G_putPF C (CC := RX9) (Tf := TX9) (N := 50) (k := 10) (i := 18) (f := 1018) (x := (some q142)) (ty0 := tyX9) (ty := (.array .int)) (ka0 e144.symm hq145 (by decide) (ksP e141.symm (ka0 e136.symm hq137 (by decide) (ksP e133.symm (ka0 e128.symm hq129 (by decide) (ksP e125.symm (ka0 e120.symm hq121 (by decide) (ksP e117.symm (ka0 e112.symm hq113 (by decide) (ksP e109.symm (ka0 e104.symm hq105 (by decide) (ksP e101.symm (ka0 e96.symm hq97 (by decide) (ksP e93.symm (ka0 e88.symm hq89 (by decide) (ksP e85.symm (ka0 e80.symm hq81 (by decide) (ksP e77.symm (ka0 e72.symm hq73 (by decide) (ksP e69.symm (ka0 e64.symm hq65 (by decide) (ksP e61.symm (ka0 e56.symm hq57 (by decide) (ksP e53.symm (ka0 e48.symm hq49 (by decide) (ksP e45.symm (ka0 e40.symm hq41 (by decide) (ksP e37.symm (ka0 e32.symm hq33 (by decide) (ksP e29.symm hk27)))))))))))))))))))))))))))))) (by decide) rfl (fin fwX9) tyX9_ok nmX9 (by decide) (im tw_5_146) rfl rfl (hin9 rfl) rfl rfl rfl rfl rfl rfl dX9_init_131 ?_
  generalize e149 : sP S143 1018 x0 (some q142) = S148
  have h := h S148 e149.symm
  refine G_aload_n C (x := (some x0)) 0 dX9_init_134 rfl rfl ?_
  refine G_bipush C (v := 30) dX9_init_135 (by decide) ?_
  obtain ⟨hc154, hs155, h⟩ := h
  refine G_newI C (i := 30)  (im tw_1_55) (by decide) (n := 30) (by decide) (by decide) hc154 hs155 dX9_init_137 (fun q150 hq153 => ?_)
  generalize e152 : nA S148 q150 12 30 = S151
  have h := h q150 S151 hq153 e152.symm
  refine G_putPF C (CC := RX9) (Tf := TX9) (N := 50) (k := 10) (i := 19) (f := 1019) (x := (some q150)) (ty0 := tyX9) (ty := (.array .int)) (ka0 e152.symm hq153 (by decide) (ksP e149.symm (ka0 e144.symm hq145 (by decide) (ksP e141.symm (ka0 e136.symm hq137 (by decide) (ksP e133.symm (ka0 e128.symm hq129 (by decide) (ksP e125.symm (ka0 e120.symm hq121 (by decide) (ksP e117.symm (ka0 e112.symm hq113 (by decide) (ksP e109.symm (ka0 e104.symm hq105 (by decide) (ksP e101.symm (ka0 e96.symm hq97 (by decide) (ksP e93.symm (ka0 e88.symm hq89 (by decide) (ksP e85.symm (ka0 e80.symm hq81 (by decide) (ksP e77.symm (ka0 e72.symm hq73 (by decide) (ksP e69.symm (ka0 e64.symm hq65 (by decide) (ksP e61.symm (ka0 e56.symm hq57 (by decide) (ksP e53.symm (ka0 e48.symm hq49 (by decide) (ksP e45.symm (ka0 e40.symm hq41 (by decide) (ksP e37.symm (ka0 e32.symm hq33 (by decide) (ksP e29.symm hk27)))))))))))))))))))))))))))))))) (by decide) rfl (fin fwX9) tyX9_ok nmX9 (by decide) (im tw_5_147) rfl rfl (hin9 rfl) rfl rfl rfl rfl rfl rfl dX9_init_139 ?_
  generalize e157 : sP S151 1019 x0 (some q150) = S156
  have h := h S156 e157.symm
  refine G_aload_n C (x := (some x0)) 0 dX9_init_142 rfl rfl ?_
  refine G_bipush C (v := 30) dX9_init_143 (by decide) ?_
  obtain ⟨hc162, hs163, h⟩ := h
  refine G_newZ C (i := 30)  (im tw_6_39) (by decide) (n := 30) (by decide) (by decide) hc162 hs163 dX9_init_145 (fun q158 hq161 => ?_)
  generalize e160 : nA S156 q158 14 30 = S159
  have h := h q158 S159 hq161 e160.symm
  refine G_putPF C (CC := RX9) (Tf := TX9) (N := 50) (k := 10) (i := 20) (f := 1020) (x := (some q158)) (ty0 := tyX9) (ty := (.array .boolean)) (ka0 e160.symm hq161 (by decide) (ksP e157.symm (ka0 e152.symm hq153 (by decide) (ksP e149.symm (ka0 e144.symm hq145 (by decide) (ksP e141.symm (ka0 e136.symm hq137 (by decide) (ksP e133.symm (ka0 e128.symm hq129 (by decide) (ksP e125.symm (ka0 e120.symm hq121 (by decide) (ksP e117.symm (ka0 e112.symm hq113 (by decide) (ksP e109.symm (ka0 e104.symm hq105 (by decide) (ksP e101.symm (ka0 e96.symm hq97 (by decide) (ksP e93.symm (ka0 e88.symm hq89 (by decide) (ksP e85.symm (ka0 e80.symm hq81 (by decide) (ksP e77.symm (ka0 e72.symm hq73 (by decide) (ksP e69.symm (ka0 e64.symm hq65 (by decide) (ksP e61.symm (ka0 e56.symm hq57 (by decide) (ksP e53.symm (ka0 e48.symm hq49 (by decide) (ksP e45.symm (ka0 e40.symm hq41 (by decide) (ksP e37.symm (ka0 e32.symm hq33 (by decide) (ksP e29.symm hk27)))))))))))))))))))))))))))))))))) (by decide) rfl (fin fwX9) tyX9_ok nmX9 (by decide) (im tw_5_148) rfl rfl (hin9 rfl) rfl rfl rfl rfl rfl rfl dX9_init_147 ?_
  generalize e165 : sP S159 1020 x0 (some q158) = S164
  have h := h S164 e165.symm
  refine G_aload_n C (x := (some x0)) 0 dX9_init_150 rfl rfl ?_
  refine G_bipush C (v := 30) dX9_init_151 (by decide) ?_
  obtain ⟨hc170, hs171, h⟩ := h
  refine G_newI C (i := 30)  (im tw_1_55) (by decide) (n := 30) (by decide) (by decide) hc170 hs171 dX9_init_153 (fun q166 hq169 => ?_)
  generalize e168 : nA S164 q166 12 30 = S167
  have h := h q166 S167 hq169 e168.symm
  refine G_putPF C (CC := RX9) (Tf := TX9) (N := 50) (k := 10) (i := 21) (f := 1021) (x := (some q166)) (ty0 := tyX9) (ty := (.array .int)) (ka0 e168.symm hq169 (by decide) (ksP e165.symm (ka0 e160.symm hq161 (by decide) (ksP e157.symm (ka0 e152.symm hq153 (by decide) (ksP e149.symm (ka0 e144.symm hq145 (by decide) (ksP e141.symm (ka0 e136.symm hq137 (by decide) (ksP e133.symm (ka0 e128.symm hq129 (by decide) (ksP e125.symm (ka0 e120.symm hq121 (by decide) (ksP e117.symm (ka0 e112.symm hq113 (by decide) (ksP e109.symm (ka0 e104.symm hq105 (by decide) (ksP e101.symm (ka0 e96.symm hq97 (by decide) (ksP e93.symm (ka0 e88.symm hq89 (by decide) (ksP e85.symm (ka0 e80.symm hq81 (by decide) (ksP e77.symm (ka0 e72.symm hq73 (by decide) (ksP e69.symm (ka0 e64.symm hq65 (by decide) (ksP e61.symm (ka0 e56.symm hq57 (by decide) (ksP e53.symm (ka0 e48.symm hq49 (by decide) (ksP e45.symm (ka0 e40.symm hq41 (by decide) (ksP e37.symm (ka0 e32.symm hq33 (by decide) (ksP e29.symm hk27)))))))))))))))))))))))))))))))))))) (by decide) rfl (fin fwX9) tyX9_ok nmX9 (by decide) (im tw_5_149) rfl rfl (hin9 rfl) rfl rfl rfl rfl rfl rfl dX9_init_155 ?_
  generalize e173 : sP S167 1021 x0 (some q166) = S172
  have h := h S172 e173.symm
  refine G_aload_n C (x := (some x0)) 0 dX9_init_158 rfl rfl ?_
  refine G_bipush C (v := 30) dX9_init_159 (by decide) ?_
  obtain ⟨hc178, hs179, h⟩ := h
  refine G_newI C (i := 30)  (im tw_1_55) (by decide) (n := 30) (by decide) (by decide) hc178 hs179 dX9_init_161 (fun q174 hq177 => ?_)
  generalize e176 : nA S172 q174 12 30 = S175
  have h := h q174 S175 hq177 e176.symm
  refine G_putPF C (CC := RX9) (Tf := TX9) (N := 50) (k := 10) (i := 22) (f := 1022) (x := (some q174)) (ty0 := tyX9) (ty := (.array .int)) (ka0 e176.symm hq177 (by decide) (ksP e173.symm (ka0 e168.symm hq169 (by decide) (ksP e165.symm (ka0 e160.symm hq161 (by decide) (ksP e157.symm (ka0 e152.symm hq153 (by decide) (ksP e149.symm (ka0 e144.symm hq145 (by decide) (ksP e141.symm (ka0 e136.symm hq137 (by decide) (ksP e133.symm (ka0 e128.symm hq129 (by decide) (ksP e125.symm (ka0 e120.symm hq121 (by decide) (ksP e117.symm (ka0 e112.symm hq113 (by decide) (ksP e109.symm (ka0 e104.symm hq105 (by decide) (ksP e101.symm (ka0 e96.symm hq97 (by decide) (ksP e93.symm (ka0 e88.symm hq89 (by decide) (ksP e85.symm (ka0 e80.symm hq81 (by decide) (ksP e77.symm (ka0 e72.symm hq73 (by decide) (ksP e69.symm (ka0 e64.symm hq65 (by decide) (ksP e61.symm (ka0 e56.symm hq57 (by decide) (ksP e53.symm (ka0 e48.symm hq49 (by decide) (ksP e45.symm (ka0 e40.symm hq41 (by decide) (ksP e37.symm (ka0 e32.symm hq33 (by decide) (ksP e29.symm hk27)))))))))))))))))))))))))))))))))))))) (by decide) rfl (fin fwX9) tyX9_ok nmX9 (by decide) (im tw_5_150) rfl rfl (hin9 rfl) rfl rfl rfl rfl rfl rfl dX9_init_163 ?_
  generalize e181 : sP S175 1022 x0 (some q174) = S180
  have h := h S180 e181.symm
  refine G_aload_n C (x := (some x0)) 0 dX9_init_166 rfl rfl ?_
  refine G_bipush C (v := 24) dX9_init_167 (by decide) ?_
  obtain ⟨hc186, hs187, h⟩ := h
  refine G_newI C (i := 24)  (im tw_1_55) (by decide) (n := 24) (by decide) (by decide) hc186 hs187 dX9_init_169 (fun q182 hq185 => ?_)
  generalize e184 : nA S180 q182 12 24 = S183
  have h := h q182 S183 hq185 e184.symm
  refine G_putPF C (CC := RX9) (Tf := TX9) (N := 50) (k := 10) (i := 24) (f := 1024) (x := (some q182)) (ty0 := tyX9) (ty := (.array .int)) (ka0 e184.symm hq185 (by decide) (ksP e181.symm (ka0 e176.symm hq177 (by decide) (ksP e173.symm (ka0 e168.symm hq169 (by decide) (ksP e165.symm (ka0 e160.symm hq161 (by decide) (ksP e157.symm (ka0 e152.symm hq153 (by decide) (ksP e149.symm (ka0 e144.symm hq145 (by decide) (ksP e141.symm (ka0 e136.symm hq137 (by decide) (ksP e133.symm (ka0 e128.symm hq129 (by decide) (ksP e125.symm (ka0 e120.symm hq121 (by decide) (ksP e117.symm (ka0 e112.symm hq113 (by decide) (ksP e109.symm (ka0 e104.symm hq105 (by decide) (ksP e101.symm (ka0 e96.symm hq97 (by decide) (ksP e93.symm (ka0 e88.symm hq89 (by decide) (ksP e85.symm (ka0 e80.symm hq81 (by decide) (ksP e77.symm (ka0 e72.symm hq73 (by decide) (ksP e69.symm (ka0 e64.symm hq65 (by decide) (ksP e61.symm (ka0 e56.symm hq57 (by decide) (ksP e53.symm (ka0 e48.symm hq49 (by decide) (ksP e45.symm (ka0 e40.symm hq41 (by decide) (ksP e37.symm (ka0 e32.symm hq33 (by decide) (ksP e29.symm hk27)))))))))))))))))))))))))))))))))))))))) (by decide) rfl (fin fwX9) tyX9_ok nmX9 (by decide) (im tw_5_152) rfl rfl (hin9 rfl) rfl rfl rfl rfl rfl rfl dX9_init_171 ?_
  generalize e189 : sP S183 1024 x0 (some q182) = S188
  have h := h S188 e189.symm
  refine G_aload_n C (x := (some x0)) 0 dX9_init_174 rfl rfl ?_
  refine G_bipush C (v := 24) dX9_init_175 (by decide) ?_
  obtain ⟨hc194, hs195, h⟩ := h
  refine G_newI C (i := 24)  (im tw_1_55) (by decide) (n := 24) (by decide) (by decide) hc194 hs195 dX9_init_177 (fun q190 hq193 => ?_)
  generalize e192 : nA S188 q190 12 24 = S191
  have h := h q190 S191 hq193 e192.symm
  refine G_putPF C (CC := RX9) (Tf := TX9) (N := 50) (k := 10) (i := 25) (f := 1025) (x := (some q190)) (ty0 := tyX9) (ty := (.array .int)) (ka0 e192.symm hq193 (by decide) (ksP e189.symm (ka0 e184.symm hq185 (by decide) (ksP e181.symm (ka0 e176.symm hq177 (by decide) (ksP e173.symm (ka0 e168.symm hq169 (by decide) (ksP e165.symm (ka0 e160.symm hq161 (by decide) (ksP e157.symm (ka0 e152.symm hq153 (by decide) (ksP e149.symm (ka0 e144.symm hq145 (by decide) (ksP e141.symm (ka0 e136.symm hq137 (by decide) (ksP e133.symm (ka0 e128.symm hq129 (by decide) (ksP e125.symm (ka0 e120.symm hq121 (by decide) (ksP e117.symm (ka0 e112.symm hq113 (by decide) (ksP e109.symm (ka0 e104.symm hq105 (by decide) (ksP e101.symm (ka0 e96.symm hq97 (by decide) (ksP e93.symm (ka0 e88.symm hq89 (by decide) (ksP e85.symm (ka0 e80.symm hq81 (by decide) (ksP e77.symm (ka0 e72.symm hq73 (by decide) (ksP e69.symm (ka0 e64.symm hq65 (by decide) (ksP e61.symm (ka0 e56.symm hq57 (by decide) (ksP e53.symm (ka0 e48.symm hq49 (by decide) (ksP e45.symm (ka0 e40.symm hq41 (by decide) (ksP e37.symm (ka0 e32.symm hq33 (by decide) (ksP e29.symm hk27)))))))))))))))))))))))))))))))))))))))))) (by decide) rfl (fin fwX9) tyX9_ok nmX9 (by decide) (im tw_5_153) rfl rfl (hin9 rfl) rfl rfl rfl rfl rfl rfl dX9_init_179 ?_
  generalize e197 : sP S191 1025 x0 (some q190) = S196
  have h := h S196 e197.symm
  refine G_aload_n C (x := (some x0)) 0 dX9_init_182 rfl rfl ?_
  refine G_bipush C (v := 24) dX9_init_183 (by decide) ?_
  obtain ⟨hc202, hs203, h⟩ := h
  refine G_newI C (i := 24)  (im tw_1_55) (by decide) (n := 24) (by decide) (by decide) hc202 hs203 dX9_init_185 (fun q198 hq201 => ?_)
  generalize e200 : nA S196 q198 12 24 = S199
  have h := h q198 S199 hq201 e200.symm
  refine G_putPF C (CC := RX9) (Tf := TX9) (N := 50) (k := 10) (i := 26) (f := 1026) (x := (some q198)) (ty0 := tyX9) (ty := (.array .int)) (ka0 e200.symm hq201 (by decide) (ksP e197.symm (ka0 e192.symm hq193 (by decide) (ksP e189.symm (ka0 e184.symm hq185 (by decide) (ksP e181.symm (ka0 e176.symm hq177 (by decide) (ksP e173.symm (ka0 e168.symm hq169 (by decide) (ksP e165.symm (ka0 e160.symm hq161 (by decide) (ksP e157.symm (ka0 e152.symm hq153 (by decide) (ksP e149.symm (ka0 e144.symm hq145 (by decide) (ksP e141.symm (ka0 e136.symm hq137 (by decide) (ksP e133.symm (ka0 e128.symm hq129 (by decide) (ksP e125.symm (ka0 e120.symm hq121 (by decide) (ksP e117.symm (ka0 e112.symm hq113 (by decide) (ksP e109.symm (ka0 e104.symm hq105 (by decide) (ksP e101.symm (ka0 e96.symm hq97 (by decide) (ksP e93.symm (ka0 e88.symm hq89 (by decide) (ksP e85.symm (ka0 e80.symm hq81 (by decide) (ksP e77.symm (ka0 e72.symm hq73 (by decide) (ksP e69.symm (ka0 e64.symm hq65 (by decide) (ksP e61.symm (ka0 e56.symm hq57 (by decide) (ksP e53.symm (ka0 e48.symm hq49 (by decide) (ksP e45.symm (ka0 e40.symm hq41 (by decide) (ksP e37.symm (ka0 e32.symm hq33 (by decide) (ksP e29.symm hk27)))))))))))))))))))))))))))))))))))))))))))) (by decide) rfl (fin fwX9) tyX9_ok nmX9 (by decide) (im tw_5_154) rfl rfl (hin9 rfl) rfl rfl rfl rfl rfl rfl dX9_init_187 ?_
  generalize e205 : sP S199 1026 x0 (some q198) = S204
  have h := h S204 e205.symm
  refine G_aload_n C (x := (some x0)) 0 dX9_init_190 rfl rfl ?_
  refine G_bipush C (v := 24) dX9_init_191 (by decide) ?_
  obtain ⟨hc210, hs211, h⟩ := h
  refine G_newI C (i := 24)  (im tw_1_55) (by decide) (n := 24) (by decide) (by decide) hc210 hs211 dX9_init_193 (fun q206 hq209 => ?_)
  generalize e208 : nA S204 q206 12 24 = S207
  have h := h q206 S207 hq209 e208.symm
  refine G_putPF C (CC := RX9) (Tf := TX9) (N := 50) (k := 10) (i := 27) (f := 1027) (x := (some q206)) (ty0 := tyX9) (ty := (.array .int)) (ka0 e208.symm hq209 (by decide) (ksP e205.symm (ka0 e200.symm hq201 (by decide) (ksP e197.symm (ka0 e192.symm hq193 (by decide) (ksP e189.symm (ka0 e184.symm hq185 (by decide) (ksP e181.symm (ka0 e176.symm hq177 (by decide) (ksP e173.symm (ka0 e168.symm hq169 (by decide) (ksP e165.symm (ka0 e160.symm hq161 (by decide) (ksP e157.symm (ka0 e152.symm hq153 (by decide) (ksP e149.symm (ka0 e144.symm hq145 (by decide) (ksP e141.symm (ka0 e136.symm hq137 (by decide) (ksP e133.symm (ka0 e128.symm hq129 (by decide) (ksP e125.symm (ka0 e120.symm hq121 (by decide) (ksP e117.symm (ka0 e112.symm hq113 (by decide) (ksP e109.symm (ka0 e104.symm hq105 (by decide) (ksP e101.symm (ka0 e96.symm hq97 (by decide) (ksP e93.symm (ka0 e88.symm hq89 (by decide) (ksP e85.symm (ka0 e80.symm hq81 (by decide) (ksP e77.symm (ka0 e72.symm hq73 (by decide) (ksP e69.symm (ka0 e64.symm hq65 (by decide) (ksP e61.symm (ka0 e56.symm hq57 (by decide) (ksP e53.symm (ka0 e48.symm hq49 (by decide) (ksP e45.symm (ka0 e40.symm hq41 (by decide) (ksP e37.symm (ka0 e32.symm hq33 (by decide) (ksP e29.symm hk27)))))))))))))))))))))))))))))))))))))))))))))) (by decide) rfl (fin fwX9) tyX9_ok nmX9 (by decide) (im tw_5_155) rfl rfl (hin9 rfl) rfl rfl rfl rfl rfl rfl dX9_init_195 ?_
  generalize e213 : sP S207 1027 x0 (some q206) = S212
  have h := h S212 e213.symm
  refine G_aload_n C (x := (some x0)) 0 dX9_init_198 rfl rfl ?_
  refine G_bipush C (v := 24) dX9_init_199 (by decide) ?_
  obtain ⟨hc218, hs219, h⟩ := h
  refine G_newI C (i := 24)  (im tw_1_55) (by decide) (n := 24) (by decide) (by decide) hc218 hs219 dX9_init_201 (fun q214 hq217 => ?_)
  generalize e216 : nA S212 q214 12 24 = S215
  have h := h q214 S215 hq217 e216.symm
  refine G_putPF C (CC := RX9) (Tf := TX9) (N := 50) (k := 10) (i := 28) (f := 1028) (x := (some q214)) (ty0 := tyX9) (ty := (.array .int)) (ka0 e216.symm hq217 (by decide) (ksP e213.symm (ka0 e208.symm hq209 (by decide) (ksP e205.symm (ka0 e200.symm hq201 (by decide) (ksP e197.symm (ka0 e192.symm hq193 (by decide) (ksP e189.symm (ka0 e184.symm hq185 (by decide) (ksP e181.symm (ka0 e176.symm hq177 (by decide) (ksP e173.symm (ka0 e168.symm hq169 (by decide) (ksP e165.symm (ka0 e160.symm hq161 (by decide) (ksP e157.symm (ka0 e152.symm hq153 (by decide) (ksP e149.symm (ka0 e144.symm hq145 (by decide) (ksP e141.symm (ka0 e136.symm hq137 (by decide) (ksP e133.symm (ka0 e128.symm hq129 (by decide) (ksP e125.symm (ka0 e120.symm hq121 (by decide) (ksP e117.symm (ka0 e112.symm hq113 (by decide) (ksP e109.symm (ka0 e104.symm hq105 (by decide) (ksP e101.symm (ka0 e96.symm hq97 (by decide) (ksP e93.symm (ka0 e88.symm hq89 (by decide) (ksP e85.symm (ka0 e80.symm hq81 (by decide) (ksP e77.symm (ka0 e72.symm hq73 (by decide) (ksP e69.symm (ka0 e64.symm hq65 (by decide) (ksP e61.symm (ka0 e56.symm hq57 (by decide) (ksP e53.symm (ka0 e48.symm hq49 (by decide) (ksP e45.symm (ka0 e40.symm hq41 (by decide) (ksP e37.symm (ka0 e32.symm hq33 (by decide) (ksP e29.symm hk27)))))))))))))))))))))))))))))))))))))))))))))))) (by decide) rfl (fin fwX9) tyX9_ok nmX9 (by decide) (im tw_5_156) rfl rfl (hin9 rfl) rfl rfl rfl rfl rfl rfl dX9_init_203 ?_
  generalize e221 : sP S215 1028 x0 (some q214) = S220
  have h := h S220 e221.symm
  refine G_aload_n C (x := (some x0)) 0 dX9_init_206 rfl rfl ?_
  refine G_bipush C (v := 24) dX9_init_207 (by decide) ?_
  obtain ⟨hc226, hs227, h⟩ := h
  refine G_newI C (i := 24)  (im tw_1_55) (by decide) (n := 24) (by decide) (by decide) hc226 hs227 dX9_init_209 (fun q222 hq225 => ?_)
  generalize e224 : nA S220 q222 12 24 = S223
  have h := h q222 S223 hq225 e224.symm
  refine G_putPF C (CC := RX9) (Tf := TX9) (N := 50) (k := 10) (i := 29) (f := 1029) (x := (some q222)) (ty0 := tyX9) (ty := (.array .int)) (ka0 e224.symm hq225 (by decide) (ksP e221.symm (ka0 e216.symm hq217 (by decide) (ksP e213.symm (ka0 e208.symm hq209 (by decide) (ksP e205.symm (ka0 e200.symm hq201 (by decide) (ksP e197.symm (ka0 e192.symm hq193 (by decide) (ksP e189.symm (ka0 e184.symm hq185 (by decide) (ksP e181.symm (ka0 e176.symm hq177 (by decide) (ksP e173.symm (ka0 e168.symm hq169 (by decide) (ksP e165.symm (ka0 e160.symm hq161 (by decide) (ksP e157.symm (ka0 e152.symm hq153 (by decide) (ksP e149.symm (ka0 e144.symm hq145 (by decide) (ksP e141.symm (ka0 e136.symm hq137 (by decide) (ksP e133.symm (ka0 e128.symm hq129 (by decide) (ksP e125.symm (ka0 e120.symm hq121 (by decide) (ksP e117.symm (ka0 e112.symm hq113 (by decide) (ksP e109.symm (ka0 e104.symm hq105 (by decide) (ksP e101.symm (ka0 e96.symm hq97 (by decide) (ksP e93.symm (ka0 e88.symm hq89 (by decide) (ksP e85.symm (ka0 e80.symm hq81 (by decide) (ksP e77.symm (ka0 e72.symm hq73 (by decide) (ksP e69.symm (ka0 e64.symm hq65 (by decide) (ksP e61.symm (ka0 e56.symm hq57 (by decide) (ksP e53.symm (ka0 e48.symm hq49 (by decide) (ksP e45.symm (ka0 e40.symm hq41 (by decide) (ksP e37.symm (ka0 e32.symm hq33 (by decide) (ksP e29.symm hk27)))))))))))))))))))))))))))))))))))))))))))))))))) (by decide) rfl (fin fwX9) tyX9_ok nmX9 (by decide) (im tw_5_157) rfl rfl (hin9 rfl) rfl rfl rfl rfl rfl rfl dX9_init_211 ?_
  generalize e229 : sP S223 1029 x0 (some q222) = S228
  have h := h S228 e229.symm
  refine G_aload_n C (x := (some x0)) 0 dX9_init_214 rfl rfl ?_
  refine G_bipush C (v := 24) dX9_init_215 (by decide) ?_
  obtain ⟨hc234, hs235, h⟩ := h
  refine G_newI C (i := 24)  (im tw_1_55) (by decide) (n := 24) (by decide) (by decide) hc234 hs235 dX9_init_217 (fun q230 hq233 => ?_)
  generalize e232 : nA S228 q230 12 24 = S231
  have h := h q230 S231 hq233 e232.symm
  refine G_putPF C (CC := RX9) (Tf := TX9) (N := 50) (k := 10) (i := 30) (f := 1030) (x := (some q230)) (ty0 := tyX9) (ty := (.array .int)) (ka0 e232.symm hq233 (by decide) (ksP e229.symm (ka0 e224.symm hq225 (by decide) (ksP e221.symm (ka0 e216.symm hq217 (by decide) (ksP e213.symm (ka0 e208.symm hq209 (by decide) (ksP e205.symm (ka0 e200.symm hq201 (by decide) (ksP e197.symm (ka0 e192.symm hq193 (by decide) (ksP e189.symm (ka0 e184.symm hq185 (by decide) (ksP e181.symm (ka0 e176.symm hq177 (by decide) (ksP e173.symm (ka0 e168.symm hq169 (by decide) (ksP e165.symm (ka0 e160.symm hq161 (by decide) (ksP e157.symm (ka0 e152.symm hq153 (by decide) (ksP e149.symm (ka0 e144.symm hq145 (by decide) (ksP e141.symm (ka0 e136.symm hq137 (by decide) (ksP e133.symm (ka0 e128.symm hq129 (by decide) (ksP e125.symm (ka0 e120.symm hq121 (by decide) (ksP e117.symm (ka0 e112.symm hq113 (by decide) (ksP e109.symm (ka0 e104.symm hq105 (by decide) (ksP e101.symm (ka0 e96.symm hq97 (by decide) (ksP e93.symm (ka0 e88.symm hq89 (by decide) (ksP e85.symm (ka0 e80.symm hq81 (by decide) (ksP e77.symm (ka0 e72.symm hq73 (by decide) (ksP e69.symm (ka0 e64.symm hq65 (by decide) (ksP e61.symm (ka0 e56.symm hq57 (by decide) (ksP e53.symm (ka0 e48.symm hq49 (by decide) (ksP e45.symm (ka0 e40.symm hq41 (by decide) (ksP e37.symm (ka0 e32.symm hq33 (by decide) (ksP e29.symm hk27)))))))))))))))))))))))))))))))))))))))))))))))))))) (by decide) rfl (fin fwX9) tyX9_ok nmX9 (by decide) (im tw_5_158) rfl rfl (hin9 rfl) rfl rfl rfl rfl rfl rfl dX9_init_219 ?_
  generalize e237 : sP S231 1030 x0 (some q230) = S236
  have h := h S236 e237.symm
  refine G_aload_n C (x := (some x0)) 0 dX9_init_222 rfl rfl ?_
  refine G_bipush C (v := 24) dX9_init_223 (by decide) ?_
  obtain ⟨hc242, hs243, h⟩ := h
  refine G_newI C (i := 24)  (im tw_1_55) (by decide) (n := 24) (by decide) (by decide) hc242 hs243 dX9_init_225 (fun q238 hq241 => ?_)
  generalize e240 : nA S236 q238 12 24 = S239
  have h := h q238 S239 hq241 e240.symm
  refine G_putPF C (CC := RX9) (Tf := TX9) (N := 50) (k := 10) (i := 31) (f := 1031) (x := (some q238)) (ty0 := tyX9) (ty := (.array .int)) (ka0 e240.symm hq241 (by decide) (ksP e237.symm (ka0 e232.symm hq233 (by decide) (ksP e229.symm (ka0 e224.symm hq225 (by decide) (ksP e221.symm (ka0 e216.symm hq217 (by decide) (ksP e213.symm (ka0 e208.symm hq209 (by decide) (ksP e205.symm (ka0 e200.symm hq201 (by decide) (ksP e197.symm (ka0 e192.symm hq193 (by decide) (ksP e189.symm (ka0 e184.symm hq185 (by decide) (ksP e181.symm (ka0 e176.symm hq177 (by decide) (ksP e173.symm (ka0 e168.symm hq169 (by decide) (ksP e165.symm (ka0 e160.symm hq161 (by decide) (ksP e157.symm (ka0 e152.symm hq153 (by decide) (ksP e149.symm (ka0 e144.symm hq145 (by decide) (ksP e141.symm (ka0 e136.symm hq137 (by decide) (ksP e133.symm (ka0 e128.symm hq129 (by decide) (ksP e125.symm (ka0 e120.symm hq121 (by decide) (ksP e117.symm (ka0 e112.symm hq113 (by decide) (ksP e109.symm (ka0 e104.symm hq105 (by decide) (ksP e101.symm (ka0 e96.symm hq97 (by decide) (ksP e93.symm (ka0 e88.symm hq89 (by decide) (ksP e85.symm (ka0 e80.symm hq81 (by decide) (ksP e77.symm (ka0 e72.symm hq73 (by decide) (ksP e69.symm (ka0 e64.symm hq65 (by decide) (ksP e61.symm (ka0 e56.symm hq57 (by decide) (ksP e53.symm (ka0 e48.symm hq49 (by decide) (ksP e45.symm (ka0 e40.symm hq41 (by decide) (ksP e37.symm (ka0 e32.symm hq33 (by decide) (ksP e29.symm hk27)))))))))))))))))))))))))))))))))))))))))))))))))))))) (by decide) rfl (fin fwX9) tyX9_ok nmX9 (by decide) (im tw_5_159) rfl rfl (hin9 rfl) rfl rfl rfl rfl rfl rfl dX9_init_227 ?_
  generalize e245 : sP S239 1031 x0 (some q238) = S244
  have h := h S244 e245.symm
  refine G_aload_n C (x := (some x0)) 0 dX9_init_230 rfl rfl ?_
  refine G_bipush C (v := 24) dX9_init_231 (by decide) ?_
  obtain ⟨hc250, hs251, h⟩ := h
  refine G_newI C (i := 24)  (im tw_1_55) (by decide) (n := 24) (by decide) (by decide) hc250 hs251 dX9_init_233 (fun q246 hq249 => ?_)
  generalize e248 : nA S244 q246 12 24 = S247
  have h := h q246 S247 hq249 e248.symm
  refine G_putPF C (CC := RX9) (Tf := TX9) (N := 50) (k := 10) (i := 32) (f := 1032) (x := (some q246)) (ty0 := tyX9) (ty := (.array .int)) (ka0 e248.symm hq249 (by decide) (ksP e245.symm (ka0 e240.symm hq241 (by decide) (ksP e237.symm (ka0 e232.symm hq233 (by decide) (ksP e229.symm (ka0 e224.symm hq225 (by decide) (ksP e221.symm (ka0 e216.symm hq217 (by decide) (ksP e213.symm (ka0 e208.symm hq209 (by decide) (ksP e205.symm (ka0 e200.symm hq201 (by decide) (ksP e197.symm (ka0 e192.symm hq193 (by decide) (ksP e189.symm (ka0 e184.symm hq185 (by decide) (ksP e181.symm (ka0 e176.symm hq177 (by decide) (ksP e173.symm (ka0 e168.symm hq169 (by decide) (ksP e165.symm (ka0 e160.symm hq161 (by decide) (ksP e157.symm (ka0 e152.symm hq153 (by decide) (ksP e149.symm (ka0 e144.symm hq145 (by decide) (ksP e141.symm (ka0 e136.symm hq137 (by decide) (ksP e133.symm (ka0 e128.symm hq129 (by decide) (ksP e125.symm (ka0 e120.symm hq121 (by decide) (ksP e117.symm (ka0 e112.symm hq113 (by decide) (ksP e109.symm (ka0 e104.symm hq105 (by decide) (ksP e101.symm (ka0 e96.symm hq97 (by decide) (ksP e93.symm (ka0 e88.symm hq89 (by decide) (ksP e85.symm (ka0 e80.symm hq81 (by decide) (ksP e77.symm (ka0 e72.symm hq73 (by decide) (ksP e69.symm (ka0 e64.symm hq65 (by decide) (ksP e61.symm (ka0 e56.symm hq57 (by decide) (ksP e53.symm (ka0 e48.symm hq49 (by decide) (ksP e45.symm (ka0 e40.symm hq41 (by decide) (ksP e37.symm (ka0 e32.symm hq33 (by decide) (ksP e29.symm hk27)))))))))))))))))))))))))))))))))))))))))))))))))))))))) (by decide) rfl (fin fwX9) tyX9_ok nmX9 (by decide) (im tw_5_160) rfl rfl (hin9 rfl) rfl rfl rfl rfl rfl rfl dX9_init_235 ?_
  generalize e253 : sP S247 1032 x0 (some q246) = S252
  have h := h S252 e253.symm
  refine G_aload_n C (x := (some x0)) 0 dX9_init_238 rfl rfl ?_
  refine G_bipush C (v := 24) dX9_init_239 (by decide) ?_
  obtain ⟨hc258, hs259, h⟩ := h
  refine G_newI C (i := 24)  (im tw_1_55) (by decide) (n := 24) (by decide) (by decide) hc258 hs259 dX9_init_241 (fun q254 hq257 => ?_)
  generalize e256 : nA S252 q254 12 24 = S255
  have h := h q254 S255 hq257 e256.symm
  refine G_putPF C (CC := RX9) (Tf := TX9) (N := 50) (k := 10) (i := 33) (f := 1033) (x := (some q254)) (ty0 := tyX9) (ty := (.array .int)) (ka0 e256.symm hq257 (by decide) (ksP e253.symm (ka0 e248.symm hq249 (by decide) (ksP e245.symm (ka0 e240.symm hq241 (by decide) (ksP e237.symm (ka0 e232.symm hq233 (by decide) (ksP e229.symm (ka0 e224.symm hq225 (by decide) (ksP e221.symm (ka0 e216.symm hq217 (by decide) (ksP e213.symm (ka0 e208.symm hq209 (by decide) (ksP e205.symm (ka0 e200.symm hq201 (by decide) (ksP e197.symm (ka0 e192.symm hq193 (by decide) (ksP e189.symm (ka0 e184.symm hq185 (by decide) (ksP e181.symm (ka0 e176.symm hq177 (by decide) (ksP e173.symm (ka0 e168.symm hq169 (by decide) (ksP e165.symm (ka0 e160.symm hq161 (by decide) (ksP e157.symm (ka0 e152.symm hq153 (by decide) (ksP e149.symm (ka0 e144.symm hq145 (by decide) (ksP e141.symm (ka0 e136.symm hq137 (by decide) (ksP e133.symm (ka0 e128.symm hq129 (by decide) (ksP e125.symm (ka0 e120.symm hq121 (by decide) (ksP e117.symm (ka0 e112.symm hq113 (by decide) (ksP e109.symm (ka0 e104.symm hq105 (by decide) (ksP e101.symm (ka0 e96.symm hq97 (by decide) (ksP e93.symm (ka0 e88.symm hq89 (by decide) (ksP e85.symm (ka0 e80.symm hq81 (by decide) (ksP e77.symm (ka0 e72.symm hq73 (by decide) (ksP e69.symm (ka0 e64.symm hq65 (by decide) (ksP e61.symm (ka0 e56.symm hq57 (by decide) (ksP e53.symm (ka0 e48.symm hq49 (by decide) (ksP e45.symm (ka0 e40.symm hq41 (by decide) (ksP e37.symm (ka0 e32.symm hq33 (by decide) (ksP e29.symm hk27)))))))))))))))))))))))))))))))))))))))))))))))))))))))))) (by decide) rfl (fin fwX9) tyX9_ok nmX9 (by decide) (im tw_5_161) rfl rfl (hin9 rfl) rfl rfl rfl rfl rfl rfl dX9_init_243 ?_
  generalize e261 : sP S255 1033 x0 (some q254) = S260
  have h := h S260 e261.symm
  refine G_aload_n C (x := (some x0)) 0 dX9_init_246 rfl rfl ?_
  refine G_bipush C (v := 24) dX9_init_247 (by decide) ?_
  obtain ⟨hc266, hs267, h⟩ := h
  refine G_newI C (i := 24)  (im tw_1_55) (by decide) (n := 24) (by decide) (by decide) hc266 hs267 dX9_init_249 (fun q262 hq265 => ?_)
  generalize e264 : nA S260 q262 12 24 = S263
  have h := h q262 S263 hq265 e264.symm
  refine G_putPF C (CC := RX9) (Tf := TX9) (N := 50) (k := 10) (i := 34) (f := 1034) (x := (some q262)) (ty0 := tyX9) (ty := (.array .int)) (ka0 e264.symm hq265 (by decide) (ksP e261.symm (ka0 e256.symm hq257 (by decide) (ksP e253.symm (ka0 e248.symm hq249 (by decide) (ksP e245.symm (ka0 e240.symm hq241 (by decide) (ksP e237.symm (ka0 e232.symm hq233 (by decide) (ksP e229.symm (ka0 e224.symm hq225 (by decide) (ksP e221.symm (ka0 e216.symm hq217 (by decide) (ksP e213.symm (ka0 e208.symm hq209 (by decide) (ksP e205.symm (ka0 e200.symm hq201 (by decide) (ksP e197.symm (ka0 e192.symm hq193 (by decide) (ksP e189.symm (ka0 e184.symm hq185 (by decide) (ksP e181.symm (ka0 e176.symm hq177 (by decide) (ksP e173.symm (ka0 e168.symm hq169 (by decide) (ksP e165.symm (ka0 e160.symm hq161 (by decide) (ksP e157.symm (ka0 e152.symm hq153 (by decide) (ksP e149.symm (ka0 e144.symm hq145 (by decide) (ksP e141.symm (ka0 e136.symm hq137 (by decide) (ksP e133.symm (ka0 e128.symm hq129 (by decide) (ksP e125.symm (ka0 e120.symm hq121 (by decide) (ksP e117.symm (ka0 e112.symm hq113 (by decide) (ksP e109.symm (ka0 e104.symm hq105 (by decide) (ksP e101.symm (ka0 e96.symm hq97 (by decide) (ksP e93.symm (ka0 e88.symm hq89 (by decide) (ksP e85.symm (ka0 e80.symm hq81 (by decide) (ksP e77.symm (ka0 e72.symm hq73 (by decide) (ksP e69.symm (ka0 e64.symm hq65 (by decide) (ksP e61.symm (ka0 e56.symm hq57 (by decide) (ksP e53.symm (ka0 e48.symm hq49 (by decide) (ksP e45.symm (ka0 e40.symm hq41 (by decide) (ksP e37.symm (ka0 e32.symm hq33 (by decide) (ksP e29.symm hk27)))))))))))))))))))))))))))))))))))))))))))))))))))))))))))) (by decide) rfl (fin fwX9) tyX9_ok nmX9 (by decide) (im tw_5_162) rfl rfl (hin9 rfl) rfl rfl rfl rfl rfl rfl dX9_init_251 ?_
  generalize e269 : sP S263 1034 x0 (some q262) = S268
  have h := h S268 e269.symm
  refine G_aload_n C (x := (some x0)) 0 dX9_init_254 rfl rfl ?_
  refine G_bipush C (v := 24) dX9_init_255 (by decide) ?_
  obtain ⟨hc274, hs275, h⟩ := h
  refine G_newI C (i := 24)  (im tw_1_55) (by decide) (n := 24) (by decide) (by decide) hc274 hs275 dX9_init_257 (fun q270 hq273 => ?_)
  generalize e272 : nA S268 q270 12 24 = S271
  have h := h q270 S271 hq273 e272.symm
  refine G_putPF C (CC := RX9) (Tf := TX9) (N := 50) (k := 10) (i := 35) (f := 1035) (x := (some q270)) (ty0 := tyX9) (ty := (.array .int)) (ka0 e272.symm hq273 (by decide) (ksP e269.symm (ka0 e264.symm hq265 (by decide) (ksP e261.symm (ka0 e256.symm hq257 (by decide) (ksP e253.symm (ka0 e248.symm hq249 (by decide) (ksP e245.symm (ka0 e240.symm hq241 (by decide) (ksP e237.symm (ka0 e232.symm hq233 (by decide) (ksP e229.symm (ka0 e224.symm hq225 (by decide) (ksP e221.symm (ka0 e216.symm hq217 (by decide) (ksP e213.symm (ka0 e208.symm hq209 (by decide) (ksP e205.symm (ka0 e200.symm hq201 (by decide) (ksP e197.symm (ka0 e192.symm hq193 (by decide) (ksP e189.symm (ka0 e184.symm hq185 (by decide) (ksP e181.symm (ka0 e176.symm hq177 (by decide) (ksP e173.symm (ka0 e168.symm hq169 (by decide) (ksP e165.symm (ka0 e160.symm hq161 (by decide) (ksP e157.symm (ka0 e152.symm hq153 (by decide) (ksP e149.symm (ka0 e144.symm hq145 (by decide) (ksP e141.symm (ka0 e136.symm hq137 (by decide) (ksP e133.symm (ka0 e128.symm hq129 (by decide) (ksP e125.symm (ka0 e120.symm hq121 (by decide) (ksP e117.symm (ka0 e112.symm hq113 (by decide) (ksP e109.symm (ka0 e104.symm hq105 (by decide) (ksP e101.symm (ka0 e96.symm hq97 (by decide) (ksP e93.symm (ka0 e88.symm hq89 (by decide) (ksP e85.symm (ka0 e80.symm hq81 (by decide) (ksP e77.symm (ka0 e72.symm hq73 (by decide) (ksP e69.symm (ka0 e64.symm hq65 (by decide) (ksP e61.symm (ka0 e56.symm hq57 (by decide) (ksP e53.symm (ka0 e48.symm hq49 (by decide) (ksP e45.symm (ka0 e40.symm hq41 (by decide) (ksP e37.symm (ka0 e32.symm hq33 (by decide) (ksP e29.symm hk27)))))))))))))))))))))))))))))))))))))))))))))))))))))))))))))) (by decide) rfl (fin fwX9) tyX9_ok nmX9 (by decide) (im tw_5_163) rfl rfl (hin9 rfl) rfl rfl rfl rfl rfl rfl dX9_init_259 ?_
  generalize e277 : sP S271 1035 x0 (some q270) = S276
  have h := h S276 e277.symm
  refine G_aload_n C (x := (some x0)) 0 dX9_init_262 rfl rfl ?_
  refine G_bipush C (v := 24) dX9_init_263 (by decide) ?_
  obtain ⟨hc282, hs283, h⟩ := h
  refine G_newI C (i := 24)  (im tw_1_55) (by decide) (n := 24) (by decide) (by decide) hc282 hs283 dX9_init_265 (fun q278 hq281 => ?_)
  generalize e280 : nA S276 q278 12 24 = S279
  have h := h q278 S279 hq281 e280.symm
  refine G_putPF C (CC := RX9) (Tf := TX9) (N := 50) (k := 10) (i := 36) (f := 1036) (x := (some q278)) (ty0 := tyX9) (ty := (.array .int)) (ka0 e280.symm hq281 (by decide) (ksP e277.symm (ka0 e272.symm hq273 (by decide) (ksP e269.symm (ka0 e264.symm hq265 (by decide) (ksP e261.symm (ka0 e256.symm hq257 (by decide) (ksP e253.symm (ka0 e248.symm hq249 (by decide) (ksP e245.symm (ka0 e240.symm hq241 (by decide) (ksP e237.symm (ka0 e232.symm hq233 (by decide) (ksP e229.symm (ka0 e224.symm hq225 (by decide) (ksP e221.symm (ka0 e216.symm hq217 (by decide) (ksP e213.symm (ka0 e208.symm hq209 (by decide) (ksP e205.symm (ka0 e200.symm hq201 (by decide) (ksP e197.symm (ka0 e192.symm hq193 (by decide) (ksP e189.symm (ka0 e184.symm hq185 (by decide) (ksP e181.symm (ka0 e176.symm hq177 (by decide) (ksP e173.symm (ka0 e168.symm hq169 (by decide) (ksP e165.symm (ka0 e160.symm hq161 (by decide) (ksP e157.symm (ka0 e152.symm hq153 (by decide) (ksP e149.symm (ka0 e144.symm hq145 (by decide) (ksP e141.symm (ka0 e136.symm hq137 (by decide) (ksP e133.symm (ka0 e128.symm hq129 (by decide) (ksP e125.symm (ka0 e120.symm hq121 (by decide) (ksP e117.symm (ka0 e112.symm hq113 (by decide) (ksP e109.symm (ka0 e104.symm hq105 (by decide) (ksP e101.symm (ka0 e96.symm hq97 (by decide) (ksP e93.symm (ka0 e88.symm hq89 (by decide) (ksP e85.symm (ka0 e80.symm hq81 (by decide) (ksP e77.symm (ka0 e72.symm hq73 (by decide) (ksP e69.symm (ka0 e64.symm hq65 (by decide) (ksP e61.symm (ka0 e56.symm hq57 (by decide) (ksP e53.symm (ka0 e48.symm hq49 (by decide) (ksP e45.symm (ka0 e40.symm hq41 (by decide) (ksP e37.symm (ka0 e32.symm hq33 (by decide) (ksP e29.symm hk27)))))))))))))))))))))))))))))))))))))))))))))))))))))))))))))))) (by decide) rfl (fin fwX9) tyX9_ok nmX9 (by decide) (im tw_5_164) rfl rfl (hin9 rfl) rfl rfl rfl rfl rfl rfl dX9_init_267 ?_
  generalize e285 : sP S279 1036 x0 (some q278) = S284
  have h := h S284 e285.symm
  refine G_aload_n C (x := (some x0)) 0 dX9_init_270 rfl rfl ?_
  refine G_bipush C (v := 24) dX9_init_271 (by decide) ?_
  obtain ⟨hc290, hs291, h⟩ := h
  refine G_newZ C (i := 24)  (im tw_6_39) (by decide) (n := 24) (by decide) (by decide) hc290 hs291 dX9_init_273 (fun q286 hq289 => ?_)
  generalize e288 : nA S284 q286 14 24 = S287
  have h := h q286 S287 hq289 e288.symm
  refine G_putPF C (CC := RX9) (Tf := TX9) (N := 50) (k := 10) (i := 37) (f := 1037) (x := (some q286)) (ty0 := tyX9) (ty := (.array .boolean)) (ka0 e288.symm hq289 (by decide) (ksP e285.symm (ka0 e280.symm hq281 (by decide) (ksP e277.symm (ka0 e272.symm hq273 (by decide) (ksP e269.symm (ka0 e264.symm hq265 (by decide) (ksP e261.symm (ka0 e256.symm hq257 (by decide) (ksP e253.symm (ka0 e248.symm hq249 (by decide) (ksP e245.symm (ka0 e240.symm hq241 (by decide) (ksP e237.symm (ka0 e232.symm hq233 (by decide) (ksP e229.symm (ka0 e224.symm hq225 (by decide) (ksP e221.symm (ka0 e216.symm hq217 (by decide) (ksP e213.symm (ka0 e208.symm hq209 (by decide) (ksP e205.symm (ka0 e200.symm hq201 (by decide) (ksP e197.symm (ka0 e192.symm hq193 (by decide) (ksP e189.symm (ka0 e184.symm hq185 (by decide) (ksP e181.symm (ka0 e176.symm hq177 (by decide) (ksP e173.symm (ka0 e168.symm hq169 (by decide) (ksP e165.symm (ka0 e160.symm hq161 (by decide) (ksP e157.symm (ka0 e152.symm hq153 (by decide) (ksP e149.symm (ka0 e144.symm hq145 (by decide) (ksP e141.symm (ka0 e136.symm hq137 (by decide) (ksP e133.symm (ka0 e128.symm hq129 (by decide) (ksP e125.symm (ka0 e120.symm hq121 (by decide) (ksP e117.symm (ka0 e112.symm hq113 (by decide) (ksP e109.symm (ka0 e104.symm hq105 (by decide) (ksP e101.symm (ka0 e96.symm hq97 (by decide) (ksP e93.symm (ka0 e88.symm hq89 (by decide) (ksP e85.symm (ka0 e80.symm hq81 (by decide) (ksP e77.symm (ka0 e72.symm hq73 (by decide) (ksP e69.symm (ka0 e64.symm hq65 (by decide) (ksP e61.symm (ka0 e56.symm hq57 (by decide) (ksP e53.symm (ka0 e48.symm hq49 (by decide) (ksP e45.symm (ka0 e40.symm hq41 (by decide) (ksP e37.symm (ka0 e32.symm hq33 (by decide) (ksP e29.symm hk27)))))))))))))))))))))))))))))))))))))))))))))))))))))))))))))))))) (by decide) rfl (fin fwX9) tyX9_ok nmX9 (by decide) (im tw_5_165) rfl rfl (hin9 rfl) rfl rfl rfl rfl rfl rfl dX9_init_275 ?_
  generalize e293 : sP S287 1037 x0 (some q286) = S292
  have h := h S292 e293.symm
  refine G_aload_n C (x := (some x0)) 0 dX9_init_278 rfl rfl ?_
  refine G_bipush C (v := 24) dX9_init_279 (by decide) ?_
  obtain ⟨hc298, hs299, h⟩ := h
  refine G_newZ C (i := 24)  (im tw_6_39) (by decide) (n := 24) (by decide) (by decide) hc298 hs299 dX9_init_281 (fun q294 hq297 => ?_)
  generalize e296 : nA S292 q294 14 24 = S295
  have h := h q294 S295 hq297 e296.symm
  refine G_putPF C (CC := RX9) (Tf := TX9) (N := 50) (k := 10) (i := 38) (f := 1038) (x := (some q294)) (ty0 := tyX9) (ty := (.array .boolean)) (ka0 e296.symm hq297 (by decide) (ksP e293.symm (ka0 e288.symm hq289 (by decide) (ksP e285.symm (ka0 e280.symm hq281 (by decide) (ksP e277.symm (ka0 e272.symm hq273 (by decide) (ksP e269.symm (ka0 e264.symm hq265 (by decide) (ksP e261.symm (ka0 e256.symm hq257 (by decide) (ksP e253.symm (ka0 e248.symm hq249 (by decide) (ksP e245.symm (ka0 e240.symm hq241 (by decide) (ksP e237.symm (ka0 e232.symm hq233 (by decide) (ksP e229.symm (ka0 e224.symm hq225 (by decide) (ksP e221.symm (ka0 e216.symm hq217 (by decide) (ksP e213.symm (ka0 e208.symm hq209 (by decide) (ksP e205.symm (ka0 e200.symm hq201 (by decide) (ksP e197.symm (ka0 e192.symm hq193 (by decide) (ksP e189.symm (ka0 e184.symm hq185 (by decide) (ksP e181.symm (ka0 e176.symm hq177 (by decide) (ksP e173.symm (ka0 e168.symm hq169 (by decide) (ksP e165.symm (ka0 e160.symm hq161 (by decide) (ksP e157.symm (ka0 e152.symm hq153 (by decide) (ksP e149.symm (ka0 e144.symm hq145 (by decide) (ksP e141.symm (ka0 e136.symm hq137 (by decide) (ksP e133.symm (ka0 e128.symm hq129 (by decide) (ksP e125.symm (ka0 e120.symm hq121 (by decide) (ksP e117.symm (ka0 e112.symm hq113 (by decide) (ksP e109.symm (ka0 e104.symm hq105 (by decide) (ksP e101.symm (ka0 e96.symm hq97 (by decide) (ksP e93.symm (ka0 e88.symm hq89 (by decide) (ksP e85.symm (ka0 e80.symm hq81 (by decide) (ksP e77.symm (ka0 e72.symm hq73 (by decide) (ksP e69.symm (ka0 e64.symm hq65 (by decide) (ksP e61.symm (ka0 e56.symm hq57 (by decide) (ksP e53.symm (ka0 e48.symm hq49 (by decide) (ksP e45.symm (ka0 e40.symm hq41 (by decide) (ksP e37.symm (ka0 e32.symm hq33 (by decide) (ksP e29.symm hk27)))))))))))))))))))))))))))))))))))))))))))))))))))))))))))))))))))) (by decide) rfl (fin fwX9) tyX9_ok nmX9 (by decide) (im tw_5_166) rfl rfl (hin9 rfl) rfl rfl rfl rfl rfl rfl dX9_init_283 ?_
  generalize e301 : sP S295 1038 x0 (some q294) = S300
  have h := h S300 e301.symm
  refine G_aload_n C (x := (some x0)) 0 dX9_init_286 rfl rfl ?_
  refine G_sipush C (v := 576) dX9_init_287 (by decide) ?_
  obtain ⟨hc306, hs307, h⟩ := h
  refine G_newZ C (i := 576)  (im tw_6_39) (by decide) (n := 576) (by decide) (by decide) hc306 hs307 dX9_init_290 (fun q302 hq305 => ?_)
  generalize e304 : nA S300 q302 14 576 = S303
  have h := h q302 S303 hq305 e304.symm
  refine G_putPF C (CC := RX9) (Tf := TX9) (N := 50) (k := 10) (i := 39) (f := 1039) (x := (some q302)) (ty0 := tyX9) (ty := (.array .boolean)) (ka0 e304.symm hq305 (by decide) (ksP e301.symm (ka0 e296.symm hq297 (by decide) (ksP e293.symm (ka0 e288.symm hq289 (by decide) (ksP e285.symm (ka0 e280.symm hq281 (by decide) (ksP e277.symm (ka0 e272.symm hq273 (by decide) (ksP e269.symm (ka0 e264.symm hq265 (by decide) (ksP e261.symm (ka0 e256.symm hq257 (by decide) (ksP e253.symm (ka0 e248.symm hq249 (by decide) (ksP e245.symm (ka0 e240.symm hq241 (by decide) (ksP e237.symm (ka0 e232.symm hq233 (by decide) (ksP e229.symm (ka0 e224.symm hq225 (by decide) (ksP e221.symm (ka0 e216.symm hq217 (by decide) (ksP e213.symm (ka0 e208.symm hq209 (by decide) (ksP e205.symm (ka0 e200.symm hq201 (by decide) (ksP e197.symm (ka0 e192.symm hq193 (by decide) (ksP e189.symm (ka0 e184.symm hq185 (by decide) (ksP e181.symm (ka0 e176.symm hq177 (by decide) (ksP e173.symm (ka0 e168.symm hq169 (by decide) (ksP e165.symm (ka0 e160.symm hq161 (by decide) (ksP e157.symm (ka0 e152.symm hq153 (by decide) (ksP e149.symm (ka0 e144.symm hq145 (by decide) (ksP e141.symm (ka0 e136.symm hq137 (by decide) (ksP e133.symm (ka0 e128.symm hq129 (by decide) (ksP e125.symm (ka0 e120.symm hq121 (by decide) (ksP e117.symm (ka0 e112.symm hq113 (by decide) (ksP e109.symm (ka0 e104.symm hq105 (by decide) (ksP e101.symm (ka0 e96.symm hq97 (by decide) (ksP e93.symm (ka0 e88.symm hq89 (by decide) (ksP e85.symm (ka0 e80.symm hq81 (by decide) (ksP e77.symm (ka0 e72.symm hq73 (by decide) (ksP e69.symm (ka0 e64.symm hq65 (by decide) (ksP e61.symm (ka0 e56.symm hq57 (by decide) (ksP e53.symm (ka0 e48.symm hq49 (by decide) (ksP e45.symm (ka0 e40.symm hq41 (by decide) (ksP e37.symm (ka0 e32.symm hq33 (by decide) (ksP e29.symm hk27)))))))))))))))))))))))))))))))))))))))))))))))))))))))))))))))))))))) (by decide) rfl (fin fwX9) tyX9_ok nmX9 (by decide) (im tw_5_167) rfl rfl (hin9 rfl) rfl rfl rfl rfl rfl rfl dX9_init_292 ?_
  generalize e309 : sP S303 1039 x0 (some q302) = S308
  have h := h S308 e309.symm
  refine G_aload_n C (x := (some x0)) 0 dX9_init_295 rfl rfl ?_
  refine G_sipush C (v := 1024) dX9_init_296 (by decide) ?_
  obtain ⟨hc314, hs315, h⟩ := h
  refine G_newI C (i := 1024)  (im tw_1_55) (by decide) (n := 1024) (by decide) (by decide) hc314 hs315 dX9_init_299 (fun q310 hq313 => ?_)
  generalize e312 : nA S308 q310 12 1024 = S311
  have h := h q310 S311 hq313 e312.symm
  refine G_putPF C (CC := RX9) (Tf := TX9) (N := 50) (k := 10) (i := 41) (f := 1041) (x := (some q310)) (ty0 := tyX9) (ty := (.array .int)) (ka0 e312.symm hq313 (by decide) (ksP e309.symm (ka0 e304.symm hq305 (by decide) (ksP e301.symm (ka0 e296.symm hq297 (by decide) (ksP e293.symm (ka0 e288.symm hq289 (by decide) (ksP e285.symm (ka0 e280.symm hq281 (by decide) (ksP e277.symm (ka0 e272.symm hq273 (by decide) (ksP e269.symm (ka0 e264.symm hq265 (by decide) (ksP e261.symm (ka0 e256.symm hq257 (by decide) (ksP e253.symm (ka0 e248.symm hq249 (by decide) (ksP e245.symm (ka0 e240.symm hq241 (by decide) (ksP e237.symm (ka0 e232.symm hq233 (by decide) (ksP e229.symm (ka0 e224.symm hq225 (by decide) (ksP e221.symm (ka0 e216.symm hq217 (by decide) (ksP e213.symm (ka0 e208.symm hq209 (by decide) (ksP e205.symm (ka0 e200.symm hq201 (by decide) (ksP e197.symm (ka0 e192.symm hq193 (by decide) (ksP e189.symm (ka0 e184.symm hq185 (by decide) (ksP e181.symm (ka0 e176.symm hq177 (by decide) (ksP e173.symm (ka0 e168.symm hq169 (by decide) (ksP e165.symm (ka0 e160.symm hq161 (by decide) (ksP e157.symm (ka0 e152.symm hq153 (by decide) (ksP e149.symm (ka0 e144.symm hq145 (by decide) (ksP e141.symm (ka0 e136.symm hq137 (by decide) (ksP e133.symm (ka0 e128.symm hq129 (by decide) (ksP e125.symm (ka0 e120.symm hq121 (by decide) (ksP e117.symm (ka0 e112.symm hq113 (by decide) (ksP e109.symm (ka0 e104.symm hq105 (by decide) (ksP e101.symm (ka0 e96.symm hq97 (by decide) (ksP e93.symm (ka0 e88.symm hq89 (by decide) (ksP e85.symm (ka0 e80.symm hq81 (by decide) (ksP e77.symm (ka0 e72.symm hq73 (by decide) (ksP e69.symm (ka0 e64.symm hq65 (by decide) (ksP e61.symm (ka0 e56.symm hq57 (by decide) (ksP e53.symm (ka0 e48.symm hq49 (by decide) (ksP e45.symm (ka0 e40.symm hq41 (by decide) (ksP e37.symm (ka0 e32.symm hq33 (by decide) (ksP e29.symm hk27)))))))))))))))))))))))))))))))))))))))))))))))))))))))))))))))))))))))) (by decide) rfl (fin fwX9) tyX9_ok nmX9 (by decide) (im tw_5_169) rfl rfl (hin9 rfl) rfl rfl rfl rfl rfl rfl dX9_init_301 ?_
  generalize e317 : sP S311 1041 x0 (some q310) = S316
  have h := h S316 e317.symm
  refine G_aload_n C (x := (some x0)) 0 dX9_init_304 rfl rfl ?_
  refine G_sipush C (v := 1024) dX9_init_305 (by decide) ?_
  obtain ⟨hc322, hs323, h⟩ := h
  refine G_newI C (i := 1024)  (im tw_1_55) (by decide) (n := 1024) (by decide) (by decide) hc322 hs323 dX9_init_308 (fun q318 hq321 => ?_)
  generalize e320 : nA S316 q318 12 1024 = S319
  have h := h q318 S319 hq321 e320.symm
  refine G_putPF C (CC := RX9) (Tf := TX9) (N := 50) (k := 10) (i := 42) (f := 1042) (x := (some q318)) (ty0 := tyX9) (ty := (.array .int)) (ka0 e320.symm hq321 (by decide) (ksP e317.symm (ka0 e312.symm hq313 (by decide) (ksP e309.symm (ka0 e304.symm hq305 (by decide) (ksP e301.symm (ka0 e296.symm hq297 (by decide) (ksP e293.symm (ka0 e288.symm hq289 (by decide) (ksP e285.symm (ka0 e280.symm hq281 (by decide) (ksP e277.symm (ka0 e272.symm hq273 (by decide) (ksP e269.symm (ka0 e264.symm hq265 (by decide) (ksP e261.symm (ka0 e256.symm hq257 (by decide) (ksP e253.symm (ka0 e248.symm hq249 (by decide) (ksP e245.symm (ka0 e240.symm hq241 (by decide) (ksP e237.symm (ka0 e232.symm hq233 (by decide) (ksP e229.symm (ka0 e224.symm hq225 (by decide) (ksP e221.symm (ka0 e216.symm hq217 (by decide) (ksP e213.symm (ka0 e208.symm hq209 (by decide) (ksP e205.symm (ka0 e200.symm hq201 (by decide) (ksP e197.symm (ka0 e192.symm hq193 (by decide) (ksP e189.symm (ka0 e184.symm hq185 (by decide) (ksP e181.symm (ka0 e176.symm hq177 (by decide) (ksP e173.symm (ka0 e168.symm hq169 (by decide) (ksP e165.symm (ka0 e160.symm hq161 (by decide) (ksP e157.symm (ka0 e152.symm hq153 (by decide) (ksP e149.symm (ka0 e144.symm hq145 (by decide) (ksP e141.symm (ka0 e136.symm hq137 (by decide) (ksP e133.symm (ka0 e128.symm hq129 (by decide) (ksP e125.symm (ka0 e120.symm hq121 (by decide) (ksP e117.symm (ka0 e112.symm hq113 (by decide) (ksP e109.symm (ka0 e104.symm hq105 (by decide) (ksP e101.symm (ka0 e96.symm hq97 (by decide) (ksP e93.symm (ka0 e88.symm hq89 (by decide) (ksP e85.symm (ka0 e80.symm hq81 (by decide) (ksP e77.symm (ka0 e72.symm hq73 (by decide) (ksP e69.symm (ka0 e64.symm hq65 (by decide) (ksP e61.symm (ka0 e56.symm hq57 (by decide) (ksP e53.symm (ka0 e48.symm hq49 (by decide) (ksP e45.symm (ka0 e40.symm hq41 (by decide) (ksP e37.symm (ka0 e32.symm hq33 (by decide) (ksP e29.symm hk27)))))))))))))))))))))))))))))))))))))))))))))))))))))))))))))))))))))))))) (by decide) rfl (fin fwX9) tyX9_ok nmX9 (by decide) (im tw_5_170) rfl rfl (hin9 rfl) rfl rfl rfl rfl rfl rfl dX9_init_310 ?_
  generalize e325 : sP S319 1042 x0 (some q318) = S324
  have h := h S324 e325.symm
  refine G_aload_n C (x := (some x0)) 0 dX9_init_313 rfl rfl ?_
  refine G_sipush C (v := 1024) dX9_init_314 (by decide) ?_
  obtain ⟨hc330, hs331, h⟩ := h
  refine G_newI C (i := 1024)  (im tw_1_55) (by decide) (n := 1024) (by decide) (by decide) hc330 hs331 dX9_init_317 (fun q326 hq329 => ?_)
  generalize e328 : nA S324 q326 12 1024 = S327
  have h := h q326 S327 hq329 e328.symm
  refine G_putPF C (CC := RX9) (Tf := TX9) (N := 50) (k := 10) (i := 43) (f := 1043) (x := (some q326)) (ty0 := tyX9) (ty := (.array .int)) (ka0 e328.symm hq329 (by decide) (ksP e325.symm (ka0 e320.symm hq321 (by decide) (ksP e317.symm (ka0 e312.symm hq313 (by decide) (ksP e309.symm (ka0 e304.symm hq305 (by decide) (ksP e301.symm (ka0 e296.symm hq297 (by decide) (ksP e293.symm (ka0 e288.symm hq289 (by decide) (ksP e285.symm (ka0 e280.symm hq281 (by decide) (ksP e277.symm (ka0 e272.symm hq273 (by decide) (ksP e269.symm (ka0 e264.symm hq265 (by decide) (ksP e261.symm (ka0 e256.symm hq257 (by decide) (ksP e253.symm (ka0 e248.symm hq249 (by decide) (ksP e245.symm (ka0 e240.symm hq241 (by decide) (ksP e237.symm (ka0 e232.symm hq233 (by decide) (ksP e229.symm (ka0 e224.symm hq225 (by decide) (ksP e221.symm (ka0 e216.symm hq217 (by decide) (ksP e213.symm (ka0 e208.symm hq209 (by decide) (ksP e205.symm (ka0 e200.symm hq201 (by decide) (ksP e197.symm (ka0 e192.symm hq193 (by decide) (ksP e189.symm (ka0 e184.symm hq185 (by decide) (ksP e181.symm (ka0 e176.symm hq177 (by decide) (ksP e173.symm (ka0 e168.symm hq169 (by decide) (ksP e165.symm (ka0 e160.symm hq161 (by decide) (ksP e157.symm (ka0 e152.symm hq153 (by decide) (ksP e149.symm (ka0 e144.symm hq145 (by decide) (ksP e141.symm (ka0 e136.symm hq137 (by decide) (ksP e133.symm (ka0 e128.symm hq129 (by decide) (ksP e125.symm (ka0 e120.symm hq121 (by decide) (ksP e117.symm (ka0 e112.symm hq113 (by decide) (ksP e109.symm (ka0 e104.symm hq105 (by decide) (ksP e101.symm (ka0 e96.symm hq97 (by decide) (ksP e93.symm (ka0 e88.symm hq89 (by decide) (ksP e85.symm (ka0 e80.symm hq81 (by decide) (ksP e77.symm (ka0 e72.symm hq73 (by decide) (ksP e69.symm (ka0 e64.symm hq65 (by decide) (ksP e61.symm (ka0 e56.symm hq57 (by decide) (ksP e53.symm (ka0 e48.symm hq49 (by decide) (ksP e45.symm (ka0 e40.symm hq41 (by decide) (ksP e37.symm (ka0 e32.symm hq33 (by decide) (ksP e29.symm hk27)))))))))))))))))))))))))))))))))))))))))))))))))))))))))))))))))))))))))))) (by decide) rfl (fin fwX9) tyX9_ok nmX9 (by decide) (im tw_5_171) rfl rfl (hin9 rfl) rfl rfl rfl rfl rfl rfl dX9_init_319 ?_
  generalize e333 : sP S327 1043 x0 (some q326) = S332
  have h := h S332 e333.symm
  refine G_aload_n C (x := (some x0)) 0 dX9_init_322 rfl rfl ?_
  refine G_sipush C (v := 1024) dX9_init_323 (by decide) ?_
  obtain ⟨hc338, hs339, h⟩ := h
  refine G_newI C (i := 1024)  (im tw_1_55) (by decide) (n := 1024) (by decide) (by decide) hc338 hs339 dX9_init_326 (fun q334 hq337 => ?_)
  generalize e336 : nA S332 q334 12 1024 = S335
  have h := h q334 S335 hq337 e336.symm
  refine G_putPF C (CC := RX9) (Tf := TX9) (N := 50) (k := 10) (i := 44) (f := 1044) (x := (some q334)) (ty0 := tyX9) (ty := (.array .int)) (ka0 e336.symm hq337 (by decide) (ksP e333.symm (ka0 e328.symm hq329 (by decide) (ksP e325.symm (ka0 e320.symm hq321 (by decide) (ksP e317.symm (ka0 e312.symm hq313 (by decide) (ksP e309.symm (ka0 e304.symm hq305 (by decide) (ksP e301.symm (ka0 e296.symm hq297 (by decide) (ksP e293.symm (ka0 e288.symm hq289 (by decide) (ksP e285.symm (ka0 e280.symm hq281 (by decide) (ksP e277.symm (ka0 e272.symm hq273 (by decide) (ksP e269.symm (ka0 e264.symm hq265 (by decide) (ksP e261.symm (ka0 e256.symm hq257 (by decide) (ksP e253.symm (ka0 e248.symm hq249 (by decide) (ksP e245.symm (ka0 e240.symm hq241 (by decide) (ksP e237.symm (ka0 e232.symm hq233 (by decide) (ksP e229.symm (ka0 e224.symm hq225 (by decide) (ksP e221.symm (ka0 e216.symm hq217 (by decide) (ksP e213.symm (ka0 e208.symm hq209 (by decide) (ksP e205.symm (ka0 e200.symm hq201 (by decide) (ksP e197.symm (ka0 e192.symm hq193 (by decide) (ksP e189.symm (ka0 e184.symm hq185 (by decide) (ksP e181.symm (ka0 e176.symm hq177 (by decide) (ksP e173.symm (ka0 e168.symm hq169 (by decide) (ksP e165.symm (ka0 e160.symm hq161 (by decide) (ksP e157.symm (ka0 e152.symm hq153 (by decide) (ksP e149.symm (ka0 e144.symm hq145 (by decide) (ksP e141.symm (ka0 e136.symm hq137 (by decide) (ksP e133.symm (ka0 e128.symm hq129 (by decide) (ksP e125.symm (ka0 e120.symm hq121 (by decide) (ksP e117.symm (ka0 e112.symm hq113 (by decide) (ksP e109.symm (ka0 e104.symm hq105 (by decide) (ksP e101.symm (ka0 e96.symm hq97 (by decide) (ksP e93.symm (ka0 e88.symm hq89 (by decide) (ksP e85.symm (ka0 e80.symm hq81 (by decide) (ksP e77.symm (ka0 e72.symm hq73 (by decide) (ksP e69.symm (ka0 e64.symm hq65 (by decide) (ksP e61.symm (ka0 e56.symm hq57 (by decide) (ksP e53.symm (ka0 e48.symm hq49 (by decide) (ksP e45.symm (ka0 e40.symm hq41 (by decide) (ksP e37.symm (ka0 e32.symm hq33 (by decide) (ksP e29.symm hk27)))))))))))))))))))))))))))))))))))))))))))))))))))))))))))))))))))))))))))))) (by decide) rfl (fin fwX9) tyX9_ok nmX9 (by decide) (im tw_5_172) rfl rfl (hin9 rfl) rfl rfl rfl rfl rfl rfl dX9_init_328 ?_
  generalize e341 : sP S335 1044 x0 (some q334) = S340
  have h := h S340 e341.symm
  refine G_aload_n C (x := (some x0)) 0 dX9_init_331 rfl rfl ?_
  refine G_sipush C (v := 1024) dX9_init_332 (by decide) ?_
  obtain ⟨hc346, hs347, h⟩ := h
  refine G_newZ C (i := 1024)  (im tw_6_39) (by decide) (n := 1024) (by decide) (by decide) hc346 hs347 dX9_init_335 (fun q342 hq345 => ?_)
  generalize e344 : nA S340 q342 14 1024 = S343
  have h := h q342 S343 hq345 e344.symm
  refine G_putPF C (CC := RX9) (Tf := TX9) (N := 50) (k := 10) (i := 45) (f := 1045) (x := (some q342)) (ty0 := tyX9) (ty := (.array .boolean)) (ka0 e344.symm hq345 (by decide) (ksP e341.symm (ka0 e336.symm hq337 (by decide) (ksP e333.symm (ka0 e328.symm hq329 (by decide) (ksP e325.symm (ka0 e320.symm hq321 (by decide) (ksP e317.symm (ka0 e312.symm hq313 (by decide) (ksP e309.symm (ka0 e304.symm hq305 (by decide) (ksP e301.symm (ka0 e296.symm hq297 (by decide) (ksP e293.symm (ka0 e288.symm hq289 (by decide) (ksP e285.symm (ka0 e280.symm hq281 (by decide) (ksP e277.symm (ka0 e272.symm hq273 (by decide) (ksP e269.symm (ka0 e264.symm hq265 (by decide) (ksP e261.symm (ka0 e256.symm hq257 (by decide) (ksP e253.symm (ka0 e248.symm hq249 (by decide) (ksP e245.symm (ka0 e240.symm hq241 (by decide) (ksP e237.symm (ka0 e232.symm hq233 (by decide) (ksP e229.symm (ka0 e224.symm hq225 (by decide) (ksP e221.symm (ka0 e216.symm hq217 (by decide) (ksP e213.symm (ka0 e208.symm hq209 (by decide) (ksP e205.symm (ka0 e200.symm hq201 (by decide) (ksP e197.symm (ka0 e192.symm hq193 (by decide) (ksP e189.symm (ka0 e184.symm hq185 (by decide) (ksP e181.symm (ka0 e176.symm hq177 (by decide) (ksP e173.symm (ka0 e168.symm hq169 (by decide) (ksP e165.symm (ka0 e160.symm hq161 (by decide) (ksP e157.symm (ka0 e152.symm hq153 (by decide) (ksP e149.symm (ka0 e144.symm hq145 (by decide) (ksP e141.symm (ka0 e136.symm hq137 (by decide) (ksP e133.symm (ka0 e128.symm hq129 (by decide) (ksP e125.symm (ka0 e120.symm hq121 (by decide) (ksP e117.symm (ka0 e112.symm hq113 (by decide) (ksP e109.symm (ka0 e104.symm hq105 (by decide) (ksP e101.symm (ka0 e96.symm hq97 (by decide) (ksP e93.symm (ka0 e88.symm hq89 (by decide) (ksP e85.symm (ka0 e80.symm hq81 (by decide) (ksP e77.symm (ka0 e72.symm hq73 (by decide) (ksP e69.symm (ka0 e64.symm hq65 (by decide) (ksP e61.symm (ka0 e56.symm hq57 (by decide) (ksP e53.symm (ka0 e48.symm hq49 (by decide) (ksP e45.symm (ka0 e40.symm hq41 (by decide) (ksP e37.symm (ka0 e32.symm hq33 (by decide) (ksP e29.symm hk27)))))))))))))))))))))))))))))))))))))))))))))))))))))))))))))))))))))))))))))))) (by decide) rfl (fin fwX9) tyX9_ok nmX9 (by decide) (im tw_5_173) rfl rfl (hin9 rfl) rfl rfl rfl rfl rfl rfl dX9_init_337 ?_
  generalize e349 : sP S343 1045 x0 (some q342) = S348
  have h := h S348 e349.symm
  refine G_aload_n C (x := (some x0)) 0 dX9_init_340 rfl rfl ?_
  refine G_iconst C (v := 5) dX9_init_341 (by decide) ?_
  obtain ⟨hc354, hs355, h⟩ := h
  refine G_newI C (i := 5)  (im tw_1_55) (by decide) (n := 5) (by decide) (by decide) hc354 hs355 dX9_init_342 (fun q350 hq353 => ?_)
  generalize e352 : nA S348 q350 12 5 = S351
  have h := h q350 S351 hq353 e352.symm
  refine G_putPF C (CC := RX9) (Tf := TX9) (N := 50) (k := 10) (i := 46) (f := 1046) (x := (some q350)) (ty0 := tyX9) (ty := (.array .int)) (ka0 e352.symm hq353 (by decide) (ksP e349.symm (ka0 e344.symm hq345 (by decide) (ksP e341.symm (ka0 e336.symm hq337 (by decide) (ksP e333.symm (ka0 e328.symm hq329 (by decide) (ksP e325.symm (ka0 e320.symm hq321 (by decide) (ksP e317.symm (ka0 e312.symm hq313 (by decide) (ksP e309.symm (ka0 e304.symm hq305 (by decide) (ksP e301.symm (ka0 e296.symm hq297 (by decide) (ksP e293.symm (ka0 e288.symm hq289 (by decide) (ksP e285.symm (ka0 e280.symm hq281 (by decide) (ksP e277.symm (ka0 e272.symm hq273 (by decide) (ksP e269.symm (ka0 e264.symm hq265 (by decide) (ksP e261.symm (ka0 e256.symm hq257 (by decide) (ksP e253.symm (ka0 e248.symm hq249 (by decide) (ksP e245.symm (ka0 e240.symm hq241 (by decide) (ksP e237.symm (ka0 e232.symm hq233 (by decide) (ksP e229.symm (ka0 e224.symm hq225 (by decide) (ksP e221.symm (ka0 e216.symm hq217 (by decide) (ksP e213.symm (ka0 e208.symm hq209 (by decide) (ksP e205.symm (ka0 e200.symm hq201 (by decide) (ksP e197.symm (ka0 e192.symm hq193 (by decide) (ksP e189.symm (ka0 e184.symm hq185 (by decide) (ksP e181.symm (ka0 e176.symm hq177 (by decide) (ksP e173.symm (ka0 e168.symm hq169 (by decide) (ksP e165.symm (ka0 e160.symm hq161 (by decide) (ksP e157.symm (ka0 e152.symm hq153 (by decide) (ksP e149.symm (ka0 e144.symm hq145 (by decide) (ksP e141.symm (ka0 e136.symm hq137 (by decide) (ksP e133.symm (ka0 e128.symm hq129 (by decide) (ksP e125.symm (ka0 e120.symm hq121 (by decide) (ksP e117.symm (ka0 e112.symm hq113 (by decide) (ksP e109.symm (ka0 e104.symm hq105 (by decide) (ksP e101.symm (ka0 e96.symm hq97 (by decide) (ksP e93.symm (ka0 e88.symm hq89 (by decide) (ksP e85.symm (ka0 e80.symm hq81 (by decide) (ksP e77.symm (ka0 e72.symm hq73 (by decide) (ksP e69.symm (ka0 e64.symm hq65 (by decide) (ksP e61.symm (ka0 e56.symm hq57 (by decide) (ksP e53.symm (ka0 e48.symm hq49 (by decide) (ksP e45.symm (ka0 e40.symm hq41 (by decide) (ksP e37.symm (ka0 e32.symm hq33 (by decide) (ksP e29.symm hk27)))))))))))))))))))))))))))))))))))))))))))))))))))))))))))))))))))))))))))))))))) (by decide) rfl (fin fwX9) tyX9_ok nmX9 (by decide) (im tw_5_174) rfl rfl (hin9 rfl) rfl rfl rfl rfl rfl rfl dX9_init_344 ?_
  generalize e357 : sP S351 1046 x0 (some q350) = S356
  have h := h S356 e357.symm
  refine G_aload_n C (x := (some x0)) 0 dX9_init_347 rfl rfl ?_
  refine G_iconst C (v := 5) dX9_init_348 (by decide) ?_
  obtain ⟨hc362, hs363, h⟩ := h
  refine G_newI C (i := 5)  (im tw_1_55) (by decide) (n := 5) (by decide) (by decide) hc362 hs363 dX9_init_349 (fun q358 hq361 => ?_)
  generalize e360 : nA S356 q358 12 5 = S359
  have h := h q358 S359 hq361 e360.symm
  refine G_putPF C (CC := RX9) (Tf := TX9) (N := 50) (k := 10) (i := 47) (f := 1047) (x := (some q358)) (ty0 := tyX9) (ty := (.array .int)) (ka0 e360.symm hq361 (by decide) (ksP e357.symm (ka0 e352.symm hq353 (by decide) (ksP e349.symm (ka0 e344.symm hq345 (by decide) (ksP e341.symm (ka0 e336.symm hq337 (by decide) (ksP e333.symm (ka0 e328.symm hq329 (by decide) (ksP e325.symm (ka0 e320.symm hq321 (by decide) (ksP e317.symm (ka0 e312.symm hq313 (by decide) (ksP e309.symm (ka0 e304.symm hq305 (by decide) (ksP e301.symm (ka0 e296.symm hq297 (by decide) (ksP e293.symm (ka0 e288.symm hq289 (by decide) (ksP e285.symm (ka0 e280.symm hq281 (by decide) (ksP e277.symm (ka0 e272.symm hq273 (by decide) (ksP e269.symm (ka0 e264.symm hq265 (by decide) (ksP e261.symm (ka0 e256.symm hq257 (by decide) (ksP e253.symm (ka0 e248.symm hq249 (by decide) (ksP e245.symm (ka0 e240.symm hq241 (by decide) (ksP e237.symm (ka0 e232.symm hq233 (by decide) (ksP e229.symm (ka0 e224.symm hq225 (by decide) (ksP e221.symm (ka0 e216.symm hq217 (by decide) (ksP e213.symm (ka0 e208.symm hq209 (by decide) (ksP e205.symm (ka0 e200.symm hq201 (by decide) (ksP e197.symm (ka0 e192.symm hq193 (by decide) (ksP e189.symm (ka0 e184.symm hq185 (by decide) (ksP e181.symm (ka0 e176.symm hq177 (by decide) (ksP e173.symm (ka0 e168.symm hq169 (by decide) (ksP e165.symm (ka0 e160.symm hq161 (by decide) (ksP e157.symm (ka0 e152.symm hq153 (by decide) (ksP e149.symm (ka0 e144.symm hq145 (by decide) (ksP e141.symm (ka0 e136.symm hq137 (by decide) (ksP e133.symm (ka0 e128.symm hq129 (by decide) (ksP e125.symm (ka0 e120.symm hq121 (by decide) (ksP e117.symm (ka0 e112.symm hq113 (by decide) (ksP e109.symm (ka0 e104.symm hq105 (by decide) (ksP e101.symm (ka0 e96.symm hq97 (by decide) (ksP e93.symm (ka0 e88.symm hq89 (by decide) (ksP e85.symm (ka0 e80.symm hq81 (by decide) (ksP e77.symm (ka0 e72.symm hq73 (by decide) (ksP e69.symm (ka0 e64.symm hq65 (by decide) (ksP e61.symm (ka0 e56.symm hq57 (by decide) (ksP e53.symm (ka0 e48.symm hq49 (by decide) (ksP e45.symm (ka0 e40.symm hq41 (by decide) (ksP e37.symm (ka0 e32.symm hq33 (by decide) (ksP e29.symm hk27)))))))))))))))))))))))))))))))))))))))))))))))))))))))))))))))))))))))))))))))))))) (by decide) rfl (fin fwX9) tyX9_ok nmX9 (by decide) (im tw_5_175) rfl rfl (hin9 rfl) rfl rfl rfl rfl rfl rfl dX9_init_351 ?_
  generalize e365 : sP S359 1047 x0 (some q358) = S364
  have h := h S364 e365.symm
  refine G_aload_n C (x := (some x0)) 0 dX9_init_354 rfl rfl ?_
  refine G_bipush C (v := 6) dX9_init_355 (by decide) ?_
  obtain ⟨hc370, hs371, h⟩ := h
  refine G_newJ C (i := 6)  (im tw_6_40) (by decide) (n := 6) (by decide) (by decide) hc370 hs371 dX9_init_357 (fun q366 hq369 => ?_)
  generalize e368 : nA S364 q366 13 6 = S367
  have h := h q366 S367 hq369 e368.symm
  refine G_putPF C (CC := RX9) (Tf := TX9) (N := 50) (k := 10) (i := 48) (f := 1048) (x := (some q366)) (ty0 := tyX9) (ty := (.array .long)) (ka0 e368.symm hq369 (by decide) (ksP e365.symm (ka0 e360.symm hq361 (by decide) (ksP e357.symm (ka0 e352.symm hq353 (by decide) (ksP e349.symm (ka0 e344.symm hq345 (by decide) (ksP e341.symm (ka0 e336.symm hq337 (by decide) (ksP e333.symm (ka0 e328.symm hq329 (by decide) (ksP e325.symm (ka0 e320.symm hq321 (by decide) (ksP e317.symm (ka0 e312.symm hq313 (by decide) (ksP e309.symm (ka0 e304.symm hq305 (by decide) (ksP e301.symm (ka0 e296.symm hq297 (by decide) (ksP e293.symm (ka0 e288.symm hq289 (by decide) (ksP e285.symm (ka0 e280.symm hq281 (by decide) (ksP e277.symm (ka0 e272.symm hq273 (by decide) (ksP e269.symm (ka0 e264.symm hq265 (by decide) (ksP e261.symm (ka0 e256.symm hq257 (by decide) (ksP e253.symm (ka0 e248.symm hq249 (by decide) (ksP e245.symm (ka0 e240.symm hq241 (by decide) (ksP e237.symm (ka0 e232.symm hq233 (by decide) (ksP e229.symm (ka0 e224.symm hq225 (by decide) (ksP e221.symm (ka0 e216.symm hq217 (by decide) (ksP e213.symm (ka0 e208.symm hq209 (by decide) (ksP e205.symm (ka0 e200.symm hq201 (by decide) (ksP e197.symm (ka0 e192.symm hq193 (by decide) (ksP e189.symm (ka0 e184.symm hq185 (by decide) (ksP e181.symm (ka0 e176.symm hq177 (by decide) (ksP e173.symm (ka0 e168.symm hq169 (by decide) (ksP e165.symm (ka0 e160.symm hq161 (by decide) (ksP e157.symm (ka0 e152.symm hq153 (by decide) (ksP e149.symm (ka0 e144.symm hq145 (by decide) (ksP e141.symm (ka0 e136.symm hq137 (by decide) (ksP e133.symm (ka0 e128.symm hq129 (by decide) (ksP e125.symm (ka0 e120.symm hq121 (by decide) (ksP e117.symm (ka0 e112.symm hq113 (by decide) (ksP e109.symm (ka0 e104.symm hq105 (by decide) (ksP e101.symm (ka0 e96.symm hq97 (by decide) (ksP e93.symm (ka0 e88.symm hq89 (by decide) (ksP e85.symm (ka0 e80.symm hq81 (by decide) (ksP e77.symm (ka0 e72.symm hq73 (by decide) (ksP e69.symm (ka0 e64.symm hq65 (by decide) (ksP e61.symm (ka0 e56.symm hq57 (by decide) (ksP e53.symm (ka0 e48.symm hq49 (by decide) (ksP e45.symm (ka0 e40.symm hq41 (by decide) (ksP e37.symm (ka0 e32.symm hq33 (by decide) (ksP e29.symm hk27)))))))))))))))))))))))))))))))))))))))))))))))))))))))))))))))))))))))))))))))))))))) (by decide) rfl (fin fwX9) tyX9_ok nmX9 (by decide) (im tw_5_176) rfl rfl (hin9 rfl) rfl rfl rfl rfl rfl rfl dX9_init_359 ?_
  generalize e373 : sP S367 1048 x0 (some q366) = S372
  have h := h S372 e373.symm
  refine G_iconst C (v := 0) dX9_init_362 (by decide) ?_
  refine G_istore_n C (i := 1) (lv' := [(1, Value.int 0), (0, va_rf (some x0))]) dX9_init_363 rfl (by decide) (by first | rfl | simp [va_cat, vi_cat, vl_cat]) ?_
  refine G_lv C (lv' := [(0, va_rf (some x0)), (1, Value.int 0)]) [1, 0] rfl ?_
  obtain ⟨n9, h⟩ := h
  exact J364 n9 _ _ _ _ h
set_option maxHeartbeats 4000000 in
set_option maxRecDepth 100000 in
theorem c_X9_thrown (l : Launch) (D : va_G) (cy : Nat → Nat) (x0 : Nat) (S : PT) (post : Int32 → PT → Prop) (h : w_X9_thrown x0 S post) : Mi l yX9_thrown (Wm yX9_thrown prog_11_method_2_code 1 (Option.some Jvm.ClassFile.FieldType.int)) 0 0 D cy [va_rf (some x0)] S 0 0 post := by
  refine Mi_of (own := "TrenchboardModel") (by decide) rfl (by first | decide | simp [lg_sl, va_cat, vi_cat, vl_cat]) (fun p e s m below meth c A C hZ hr hin9 => ?_)
  refine G_lv C (lv' := [(0, va_rf (some x0))]) [0] (by first | rfl | simp [lv_pick, lv_args, va_cat, vi_cat, vl_cat]) ?_
  unfold w_X9_thrown at h
  refine G_aload_n C (x := (some x0)) 0 dX9_thrown_0 rfl rfl ?_
  obtain ⟨hk1, h⟩ := h
  refine G_get C (CC := RX9) (Tf := TX9) (N := 50) (k := 10) (i := 49) (v := Value.int (gI S 1049 x0)) hk1 (by decide) rfl (fin fwX9) (by decide) (im tw_5_177) rfl rfl dX9_thrown_1 ?_
  exact G_iret C (mc := 0) (ms := 0) (post := post) hr (Nat.le_of_ble_eq_true rfl) (Nat.le_of_ble_eq_true rfl) dX9_thrown_4 h
set_option maxHeartbeats 4000000 in
set_option maxRecDepth 100000 in
theorem c_X9_goes (l : Launch) (D : va_G) (cy : Nat → Nat) (x0 : Nat) (x1 : Int32) (S : PT) (post : Int32 → PT → Prop) (h : w_X9_goes x0 x1 S post) : Mi l yX9_goes (Wm yX9_goes prog_11_method_3_code 2 (Option.some Jvm.ClassFile.FieldType.boolean)) 0 0 D cy [va_rf (some x0), Value.int x1] S 0 0 (fun r S => bo r ∧ post r S) := by
  refine Mi_of (own := "TrenchboardModel") (by decide) rfl (by first | decide | simp [lg_sl, va_cat, vi_cat, vl_cat]) (fun p e s m below meth c A C hZ hr hin9 => ?_)
  have J14 : ∀ (S : PT) (s0 : Int32), w_X9_goes_b14 x0 x1 post S s0 → G p l e { frames := 0, cells := 0, slots := 0, locals := 0 } s m [va_rf (some x0), Value.int x1].toArray below meth c D cy A s.heap 2 (QMi below D cy A [va_rf (some x0), Value.int x1] s 0 0 (fun r S => bo r ∧ post r S)) S 0 0 14 [] [Value.int s0] := by
    intro S s0 h
    unfold w_X9_goes_b14 at h
    obtain ⟨hb1, h⟩ := h
    exact G_zret C (mc := 0) (ms := 0) (post := (fun r S => bo r ∧ post r S)) (bo_nar hb1) hr (Nat.le_of_ble_eq_true rfl) (Nat.le_of_ble_eq_true rfl) dX9_goes_14 ⟨hb1, h⟩
  refine G_lv C (lv' := [(0, va_rf (some x0)), (1, Value.int x1)]) [0, 1] (by first | rfl | simp [lv_pick, lv_args, va_cat, vi_cat, vl_cat]) ?_
  unfold w_X9_goes at h
  refine G_aload_n C (x := (some x0)) 0 dX9_goes_0 rfl rfl ?_
  refine G_iload_n C (x := x1) 1 dX9_goes_1 rfl rfl ?_
  obtain ⟨hk2, h⟩ := h
  refine G_putI C (CC := RX9) (Tf := TX9) (N := 50) (k := 10) (i := 49) (f := 1049) (x := x1) (ty0 := tyX9) (ty := .int) hk2 (by decide) rfl (fin fwX9) tyX9_ok nmX9 (by decide) (im tw_5_177) rfl rfl rfl rfl rfl rfl rfl dX9_goes_2 ?_
  generalize e4 : sI S 1049 x0 x1 = S3
  have h := h S3 e4.symm
  refine G_iload_n C (x := x1) 1 dX9_goes_5 rfl rfl ?_
  refine G_if_ne C (tgt := 13) dX9_goes_6 (by decide) (fun hc => ?_) (fun hc => ?_)
  · have h := h.1 hc
    refine G_iconst C (v := 0) dX9_goes_13 (by decide) ?_
    refine G_lv C (lv' := []) [] rfl ?_
    exact J14 _ _ h
  · have h := h.2 hc
    refine G_iconst C (v := 1) dX9_goes_9 (by decide) ?_
    refine G_goto C (tgt := 14) dX9_goes_10 (by decide) ?_
    refine G_lv C (lv' := []) [] rfl ?_
    exact J14 _ _ h
set_option maxHeartbeats 4000000 in
set_option maxRecDepth 100000 in
theorem c_X9_isIn (l : Launch) (D : va_G) (cy : Nat → Nat) (x0 : Int32) (x1 : Int32) (x2 : Int32) (S : PT) (post : Int32 → PT → Prop) (h : w_X9_isIn x0 x1 x2 S post) : Mi l yX9_isIn (Wm yX9_isIn prog_11_method_4_code 3 (Option.some Jvm.ClassFile.FieldType.boolean)) 0 0 D cy [Value.int x0, Value.int x1, Value.int x2] S 0 0 (fun r S => bo r ∧ post r S) := by
  refine Mi_of (own := "TrenchboardModel") (by decide) rfl (by first | decide | simp [lg_sl, va_cat, vi_cat, vl_cat]) (fun p e s m below meth c A C hZ hr hin9 => ?_)
  have J15 : ∀ (S : PT) (s0 : Int32), w_X9_isIn_b15 x0 x1 x2 post S s0 → G p l e { frames := 0, cells := 0, slots := 0, locals := 0 } s m [Value.int x0, Value.int x1, Value.int x2].toArray below meth c D cy A s.heap 3 (QMi below D cy A [Value.int x0, Value.int x1, Value.int x2] s 0 0 (fun r S => bo r ∧ post r S)) S 0 0 15 [] [Value.int s0] := by
    intro S s0 h
    unfold w_X9_isIn_b15 at h
    obtain ⟨hb1, h⟩ := h
    exact G_zret C (mc := 0) (ms := 0) (post := (fun r S => bo r ∧ post r S)) (bo_nar hb1) hr (Nat.le_of_ble_eq_true rfl) (Nat.le_of_ble_eq_true rfl) dX9_isIn_15 ⟨hb1, h⟩
  have J14 : ∀ (S : PT), w_X9_isIn_b14 x0 x1 x2 post S → G p l e { frames := 0, cells := 0, slots := 0, locals := 0 } s m [Value.int x0, Value.int x1, Value.int x2].toArray below meth c D cy A s.heap 3 (QMi below D cy A [Value.int x0, Value.int x1, Value.int x2] s 0 0 (fun r S => bo r ∧ post r S)) S 0 0 14 [] [] := by
    intro S h
    unfold w_X9_isIn_b14 at h
    refine G_iconst C (v := 0) dX9_isIn_14 (by decide) ?_
    refine G_lv C (lv' := []) [] rfl ?_
    exact J15 _ _ h
  refine G_lv C (lv' := [(0, Value.int x0), (1, Value.int x1), (2, Value.int x2)]) [0, 1, 2] (by first | rfl | simp [lv_pick, lv_args, va_cat, vi_cat, vl_cat]) ?_
  unfold w_X9_isIn at h
  refine G_iload_n C (x := x0) 0 dX9_isIn_0 rfl rfl ?_
  refine G_iload_n C (x := x1) 1 dX9_isIn_1 rfl rfl ?_
  refine G_icmp_lt C (tgt := 14) dX9_isIn_2 (by decide) (fun hc => ?_) (fun hc => ?_)
  · have h := h.1 hc
    refine G_lv C (lv' := []) [] rfl ?_
    exact J14 _ h
  · have h := h.2 hc
    refine G_iload_n C (x := x0) 0 dX9_isIn_5 rfl rfl ?_
    refine G_iload_n C (x := x2) 2 dX9_isIn_6 rfl rfl ?_
    refine G_icmp_gt C (tgt := 14) dX9_isIn_7 (by decide) (fun hc => ?_) (fun hc => ?_)
    · have h := h.1 hc
      refine G_lv C (lv' := []) [] rfl ?_
      exact J14 _ h
    · have h := h.2 hc
      refine G_iconst C (v := 1) dX9_isIn_10 (by decide) ?_
      refine G_goto C (tgt := 15) dX9_isIn_11 (by decide) ?_
      refine G_lv C (lv' := []) [] rfl ?_
      exact J15 _ _ h
set_option maxHeartbeats 4000000 in
set_option maxRecDepth 100000 in
theorem c_X9_isStreet (l : Launch) (D : va_G) (cy : Nat → Nat) (x0 : Nat) (x1 : Int32) (S : PT) (post : Int32 → PT → Prop) (h : w_X9_isStreet x0 x1 S post) : Mi l yX9_isStreet (Wm yX9_isStreet prog_11_method_5_code 2 (Option.some Jvm.ClassFile.FieldType.boolean)) 1 22 D cy [va_rf (some x0), Value.int x1] S 0 0 (fun r S => bo r ∧ post r S) := by
  refine Mi_of (own := "TrenchboardModel") (by decide) rfl (by first | decide | simp [lg_sl, va_cat, vi_cat, vl_cat]) (fun p e s m below meth c A C hZ hr hin9 => ?_)
  refine G_lv C (lv' := [(0, va_rf (some x0)), (1, Value.int x1)]) [0, 1] (by first | rfl | simp [lv_pick, lv_args, va_cat, vi_cat, vl_cat]) ?_
  unfold w_X9_isStreet at h
  refine G_iload_n C (x := x1) 1 dX9_isStreet_0 rfl rfl ?_
  refine G_iconst C (v := 0) dX9_isStreet_1 (by decide) ?_
  refine G_aload_n C (x := (some x0)) 0 dX9_isStreet_2 rfl rfl ?_
  obtain ⟨hk1, h⟩ := h
  refine G_get C (CC := RX9) (Tf := TX9) (N := 50) (k := 10) (i := 1) (v := Value.int (gI S 1001 x0)) hk1 (by decide) rfl (fin fwX9) (by decide) (im tw_5_129) rfl rfl dX9_isStreet_3 ?_
  refine G_iconst C (v := 1) dX9_isStreet_6 (by decide) ?_
  refine G_isub C dX9_isStreet_7 ?_
  refine G_callSi C hZ tw_6_49 tw_6_50 tw_1_7 tw_6_51 hy_X9_isIn ⟨Nat.le_of_ble_eq_true rfl, Nat.le_of_ble_eq_true rfl⟩ (As := [Value.int x1, Value.int 0, Value.int ((gI S 1001 x0) - 1)]) (rest := []) (c_X9_isIn l D cy x1 0 ((gI S 1001 x0) - 1) S _ h) rfl rfl (by simp [va_cat, vi_cat, vl_cat]) dX9_isStreet_8 ⟨Nat.le_of_ble_eq_true rfl, Nat.le_of_ble_eq_true rfl⟩ (fun r3 S2 h => ?_)
  obtain ⟨hb4, h⟩ := h
  exact G_zret C (mc := 0) (ms := 0) (post := (fun r S => bo r ∧ post r S)) (bo_nar hb4) hr (Nat.le_of_ble_eq_true rfl) (Nat.le_of_ble_eq_true rfl) dX9_isStreet_11 ⟨hb4, h⟩
set_option maxHeartbeats 4000000 in
set_option maxRecDepth 100000 in
theorem c_X9_isMetre (l : Launch) (D : va_G) (cy : Nat → Nat) (x0 : Nat) (x1 : Int32) (x2 : Int32) (S : PT) (post : Int32 → PT → Prop) (h : w_X9_isMetre x0 x1 x2 S post) : Mi l yX9_isMetre (Wm yX9_isMetre prog_11_method_6_code 3 (Option.some Jvm.ClassFile.FieldType.boolean)) 2 43 D cy [va_rf (some x0), Value.int x1, Value.int x2] S 0 0 (fun r S => bo r ∧ post r S) := by
  refine Mi_of (own := "TrenchboardModel") (by decide) rfl (by first | decide | simp [lg_sl, va_cat, vi_cat, vl_cat]) (fun p e s m below meth c A C hZ hr hin9 => ?_)
  have J29 : ∀ (S : PT) (s0 : Int32), w_X9_isMetre_b29 x0 x1 x2 post S s0 → G p l e { frames := 2, cells := 0, slots := 0, locals := 43 } s m [va_rf (some x0), Value.int x1, Value.int x2].toArray below meth c D cy A s.heap 3 (QMi below D cy A [va_rf (some x0), Value.int x1, Value.int x2] s 0 0 (fun r S => bo r ∧ post r S)) S 0 0 29 [] [Value.int s0] := by
    intro S s0 h
    unfold w_X9_isMetre_b29 at h
    obtain ⟨hb1, h⟩ := h
    exact G_zret C (mc := 0) (ms := 0) (post := (fun r S => bo r ∧ post r S)) (bo_nar hb1) hr (Nat.le_of_ble_eq_true rfl) (Nat.le_of_ble_eq_true rfl) dX9_isMetre_29 ⟨hb1, h⟩
  have J28 : ∀ (S : PT), w_X9_isMetre_b28 x0 x1 x2 post S → G p l e { frames := 2, cells := 0, slots := 0, locals := 43 } s m [va_rf (some x0), Value.int x1, Value.int x2].toArray below meth c D cy A s.heap 3 (QMi below D cy A [va_rf (some x0), Value.int x1, Value.int x2] s 0 0 (fun r S => bo r ∧ post r S)) S 0 0 28 [] [] := by
    intro S h
    unfold w_X9_isMetre_b28 at h
    refine G_iconst C (v := 0) dX9_isMetre_28 (by decide) ?_
    refine G_lv C (lv' := []) [] rfl ?_
    exact J29 _ _ h
  refine G_lv C (lv' := [(0, va_rf (some x0)), (1, Value.int x1), (2, Value.int x2)]) [0, 1, 2] (by first | rfl | simp [lv_pick, lv_args, va_cat, vi_cat, vl_cat]) ?_
  unfold w_X9_isMetre at h
  refine G_aload_n C (x := (some x0)) 0 dX9_isMetre_0 rfl rfl ?_
  refine G_iload_n C (x := x1) 1 dX9_isMetre_1 rfl rfl ?_
  obtain ⟨hk2, h⟩ := h
  refine G_callVi C hZ (Tf := TX9) (N := 50) hk2 (by decide) rfl tw_6_52 tw_6_54 tw_0_28 tw_1_7 tw_6_55 hy_X9_isStreet ⟨Nat.le_of_ble_eq_true rfl, Nat.le_of_ble_eq_true rfl⟩ (As := [Value.int x1]) (rest := []) (c_X9_isStreet l D cy x0 x1 S _ h) rfl rfl (by simp [va_cat, vi_cat, vl_cat]) dX9_isMetre_2 ⟨Nat.le_of_ble_eq_true rfl, Nat.le_of_ble_eq_true rfl⟩ (fun r4 S3 h => ?_)
  obtain ⟨hb5, h⟩ := h
  refine G_if_eq C (tgt := 28) dX9_isMetre_5 (by decide) (fun hc => ?_) (fun hc => ?_)
  · have h := h.1 hc
    refine G_lv C (lv' := []) [] rfl ?_
    exact J28 _ h
  · have h := h.2 hc
    refine G_iload_n C (x := x2) 2 dX9_isMetre_8 rfl rfl ?_
    refine G_iconst C (v := 0) dX9_isMetre_9 (by decide) ?_
    refine G_aload_n C (x := (some x0)) 0 dX9_isMetre_10 rfl rfl ?_
    obtain ⟨hk6, h⟩ := h
    refine G_get C (CC := RX9) (Tf := TX9) (N := 50) (k := 10) (i := 2) (v := va_rf (gP S3 1002 x0)) hk6 (by decide) rfl (fin fwX9) (by decide) (im tw_5_130) rfl rfl dX9_isMetre_11 ?_
    refine G_iload_n C (x := x1) 1 dX9_isMetre_14 rfl rfl ?_
    obtain ⟨a7, ha8, h⟩ := h
    refine G_rf1 ha8 ?_
    obtain ⟨hk9, h⟩ := h
    obtain ⟨hi10, h⟩ := h
    refine G_iald C hk9 hi10 dX9_isMetre_15 ?_
    refine G_iconst C (v := 1) dX9_isMetre_16 (by decide) ?_
    refine G_isub C dX9_isMetre_17 ?_
    refine G_callSi C hZ tw_6_49 tw_6_50 tw_1_7 tw_6_51 hy_X9_isIn ⟨Nat.le_of_ble_eq_true rfl, Nat.le_of_ble_eq_true rfl⟩ (As := [Value.int x2, Value.int 0, Value.int ((gA S3 a7 x1.toNatClampNeg) - 1)]) (rest := []) (c_X9_isIn l D cy x2 0 ((gA S3 a7 x1.toNatClampNeg) - 1) S3 _ h) rfl rfl (by simp [va_cat, vi_cat, vl_cat]) dX9_isMetre_18 ⟨Nat.le_of_ble_eq_true rfl, Nat.le_of_ble_eq_true rfl⟩ (fun r12 S11 h => ?_)
    obtain ⟨hb13, h⟩ := h
    refine G_if_eq C (tgt := 28) dX9_isMetre_21 (by decide) (fun hc => ?_) (fun hc => ?_)
    · have h := h.1 hc
      refine G_lv C (lv' := []) [] rfl ?_
      exact J28 _ h
    · have h := h.2 hc
      refine G_iconst C (v := 1) dX9_isMetre_24 (by decide) ?_
      refine G_goto C (tgt := 29) dX9_isMetre_25 (by decide) ?_
      refine G_lv C (lv' := []) [] rfl ?_
      exact J29 _ _ h
set_option maxHeartbeats 4000000 in
set_option maxRecDepth 100000 in
theorem c_X9_isThing (l : Launch) (D : va_G) (cy : Nat → Nat) (x0 : Nat) (x1 : Int32) (S : PT) (post : Int32 → PT → Prop) (h : w_X9_isThing x0 x1 S post) : Mi l yX9_isThing (Wm yX9_isThing prog_11_method_7_code 2 (Option.some Jvm.ClassFile.FieldType.boolean)) 1 22 D cy [va_rf (some x0), Value.int x1] S 0 0 (fun r S => bo r ∧ post r S) := by
  refine Mi_of (own := "TrenchboardModel") (by decide) rfl (by first | decide | simp [lg_sl, va_cat, vi_cat, vl_cat]) (fun p e s m below meth c A C hZ hr hin9 => ?_)
  refine G_lv C (lv' := [(0, va_rf (some x0)), (1, Value.int x1)]) [0, 1] (by first | rfl | simp [lv_pick, lv_args, va_cat, vi_cat, vl_cat]) ?_
  unfold w_X9_isThing at h
  refine G_iload_n C (x := x1) 1 dX9_isThing_0 rfl rfl ?_
  refine G_iconst C (v := 0) dX9_isThing_1 (by decide) ?_
  refine G_aload_n C (x := (some x0)) 0 dX9_isThing_2 rfl rfl ?_
  obtain ⟨hk1, h⟩ := h
  refine G_get C (CC := RX9) (Tf := TX9) (N := 50) (k := 10) (i := 14) (v := Value.int (gI S 1014 x0)) hk1 (by decide) rfl (fin fwX9) (by decide) (im tw_5_142) rfl rfl dX9_isThing_3 ?_
  refine G_iconst C (v := 1) dX9_isThing_6 (by decide) ?_
  refine G_isub C dX9_isThing_7 ?_
  refine G_callSi C hZ tw_6_49 tw_6_50 tw_1_7 tw_6_51 hy_X9_isIn ⟨Nat.le_of_ble_eq_true rfl, Nat.le_of_ble_eq_true rfl⟩ (As := [Value.int x1, Value.int 0, Value.int ((gI S 1014 x0) - 1)]) (rest := []) (c_X9_isIn l D cy x1 0 ((gI S 1014 x0) - 1) S _ h) rfl rfl (by simp [va_cat, vi_cat, vl_cat]) dX9_isThing_8 ⟨Nat.le_of_ble_eq_true rfl, Nat.le_of_ble_eq_true rfl⟩ (fun r3 S2 h => ?_)
  obtain ⟨hb4, h⟩ := h
  exact G_zret C (mc := 0) (ms := 0) (post := (fun r S => bo r ∧ post r S)) (bo_nar hb4) hr (Nat.le_of_ble_eq_true rfl) (Nat.le_of_ble_eq_true rfl) dX9_isThing_11 ⟨hb4, h⟩
set_option maxHeartbeats 4000000 in
set_option maxRecDepth 100000 in
theorem c_X9_areWorks (l : Launch) (D : va_G) (cy : Nat → Nat) (x0 : Nat) (x1 : Int32) (S : PT) (post : Int32 → PT → Prop) (h : w_X9_areWorks x0 x1 S post) : Mi l yX9_areWorks (Wm yX9_areWorks prog_11_method_8_code 2 (Option.some Jvm.ClassFile.FieldType.boolean)) 1 22 D cy [va_rf (some x0), Value.int x1] S 0 0 (fun r S => bo r ∧ post r S) := by
  refine Mi_of (own := "TrenchboardModel") (by decide) rfl (by first | decide | simp [lg_sl, va_cat, vi_cat, vl_cat]) (fun p e s m below meth c A C hZ hr hin9 => ?_)
  refine G_lv C (lv' := [(0, va_rf (some x0)), (1, Value.int x1)]) [0, 1] (by first | rfl | simp [lv_pick, lv_args, va_cat, vi_cat, vl_cat]) ?_
  unfold w_X9_areWorks at h
  refine G_iload_n C (x := x1) 1 dX9_areWorks_0 rfl rfl ?_
  refine G_iconst C (v := 0) dX9_areWorks_1 (by decide) ?_
  refine G_aload_n C (x := (some x0)) 0 dX9_areWorks_2 rfl rfl ?_
  obtain ⟨hk1, h⟩ := h
  refine G_get C (CC := RX9) (Tf := TX9) (N := 50) (k := 10) (i := 23) (v := Value.int (gI S 1023 x0)) hk1 (by decide) rfl (fin fwX9) (by decide) (im tw_5_151) rfl rfl dX9_areWorks_3 ?_
  refine G_iconst C (v := 1) dX9_areWorks_6 (by decide) ?_
  refine G_isub C dX9_areWorks_7 ?_
  refine G_callSi C hZ tw_6_49 tw_6_50 tw_1_7 tw_6_51 hy_X9_isIn ⟨Nat.le_of_ble_eq_true rfl, Nat.le_of_ble_eq_true rfl⟩ (As := [Value.int x1, Value.int 0, Value.int ((gI S 1023 x0) - 1)]) (rest := []) (c_X9_isIn l D cy x1 0 ((gI S 1023 x0) - 1) S _ h) rfl rfl (by simp [va_cat, vi_cat, vl_cat]) dX9_areWorks_8 ⟨Nat.le_of_ble_eq_true rfl, Nat.le_of_ble_eq_true rfl⟩ (fun r3 S2 h => ?_)
  obtain ⟨hb4, h⟩ := h
  exact G_zret C (mc := 0) (ms := 0) (post := (fun r S => bo r ∧ post r S)) (bo_nar hb4) hr (Nat.le_of_ble_eq_true rfl) (Nat.le_of_ble_eq_true rfl) dX9_areWorks_11 ⟨hb4, h⟩
set_option maxHeartbeats 4000000 in
set_option maxRecDepth 100000 in
theorem c_X9_isPromoter (l : Launch) (D : va_G) (cy : Nat → Nat) (x0 : Int32) (S : PT) (post : Int32 → PT → Prop) (h : w_X9_isPromoter x0 S post) : Mi l yX9_isPromoter (Wm yX9_isPromoter prog_11_method_9_code 1 (Option.some Jvm.ClassFile.FieldType.boolean)) 1 22 D cy [Value.int x0] S 0 0 (fun r S => bo r ∧ post r S) := by
  refine Mi_of (own := "TrenchboardModel") (by decide) rfl (by first | decide | simp [lg_sl, va_cat, vi_cat, vl_cat]) (fun p e s m below meth c A C hZ hr hin9 => ?_)
  refine G_lv C (lv' := [(0, Value.int x0)]) [0] (by first | rfl | simp [lv_pick, lv_args, va_cat, vi_cat, vl_cat]) ?_
  unfold w_X9_isPromoter at h
  refine G_iload_n C (x := x0) 0 dX9_isPromoter_0 rfl rfl ?_
  refine G_iconst C (v := 0) dX9_isPromoter_1 (by decide) ?_
  refine G_iconst C (v := 4) dX9_isPromoter_2 (by decide) ?_
  refine G_callSi C hZ tw_6_49 tw_6_50 tw_1_7 tw_6_51 hy_X9_isIn ⟨Nat.le_of_ble_eq_true rfl, Nat.le_of_ble_eq_true rfl⟩ (As := [Value.int x0, Value.int 0, Value.int 4]) (rest := []) (c_X9_isIn l D cy x0 0 4 S _ h) rfl rfl (by simp [va_cat, vi_cat, vl_cat]) dX9_isPromoter_3 ⟨Nat.le_of_ble_eq_true rfl, Nat.le_of_ble_eq_true rfl⟩ (fun r2 S1 h => ?_)
  obtain ⟨hb3, h⟩ := h
  exact G_zret C (mc := 0) (ms := 0) (post := (fun r S => bo r ∧ post r S)) (bo_nar hb3) hr (Nat.le_of_ble_eq_true rfl) (Nat.le_of_ble_eq_true rfl) dX9_isPromoter_6 ⟨hb3, h⟩
set_option maxHeartbeats 4000000 in
set_option maxRecDepth 100000 in
theorem c_X9_today (l : Launch) (D : va_G) (cy : Nat → Nat) (x0 : Nat) (S : PT) (post : Int32 → PT → Prop) (h : w_X9_today x0 S post) : Mi l yX9_today (Wm yX9_today prog_11_method_10_code 1 (Option.some Jvm.ClassFile.FieldType.int)) 0 0 D cy [va_rf (some x0)] S 0 0 post := by
  refine Mi_of (own := "TrenchboardModel") (by decide) rfl (by first | decide | simp [lg_sl, va_cat, vi_cat, vl_cat]) (fun p e s m below meth c A C hZ hr hin9 => ?_)
  refine G_lv C (lv' := [(0, va_rf (some x0))]) [0] (by first | rfl | simp [lv_pick, lv_args, va_cat, vi_cat, vl_cat]) ?_
  unfold w_X9_today at h
  refine G_aload_n C (x := (some x0)) 0 dX9_today_0 rfl rfl ?_
  obtain ⟨hk1, h⟩ := h
  refine G_get C (CC := RX9) (Tf := TX9) (N := 50) (k := 10) (i := 0) (v := Value.int (gI S 1000 x0)) hk1 (by decide) rfl (fin fwX9) (by decide) (im tw_5_128) rfl rfl dX9_today_1 ?_
  refine G_bipush C (v := 24) dX9_today_4 (by decide) ?_
  refine G_idiv C dX9_today_6 (by decide) ?_
  exact G_iret C (mc := 0) (ms := 0) (post := post) hr (Nat.le_of_ble_eq_true rfl) (Nat.le_of_ble_eq_true rfl) dX9_today_7 h
set_option maxHeartbeats 4000000 in
set_option maxRecDepth 100000 in
theorem c_X9_isBusy (l : Launch) (D : va_G) (cy : Nat → Nat) (x0 : Nat) (S : PT) (post : Int32 → PT → Prop) (h : w_X9_isBusy x0 S post) : Mi l yX9_isBusy (Wm yX9_isBusy prog_11_method_11_code 1 (Option.some Jvm.ClassFile.FieldType.boolean)) 1 22 D cy [va_rf (some x0)] S 0 0 (fun r S => bo r ∧ post r S) := by
  refine Mi_of (own := "TrenchboardModel") (by decide) rfl (by first | decide | simp [lg_sl, va_cat, vi_cat, vl_cat]) (fun p e s m below meth c A C hZ hr hin9 => ?_)
  have J39 : ∀ (S : PT) (s0 : Int32), w_X9_isBusy_b39 x0 post S s0 → G p l e { frames := 1, cells := 0, slots := 0, locals := 22 } s m [va_rf (some x0)].toArray below meth c D cy A s.heap 1 (QMi below D cy A [va_rf (some x0)] s 0 0 (fun r S => bo r ∧ post r S)) S 0 0 39 [] [Value.int s0] := by
    intro S s0 h
    unfold w_X9_isBusy_b39 at h
    obtain ⟨hb1, h⟩ := h
    exact G_zret C (mc := 0) (ms := 0) (post := (fun r S => bo r ∧ post r S)) (bo_nar hb1) hr (Nat.le_of_ble_eq_true rfl) (Nat.le_of_ble_eq_true rfl) dX9_isBusy_39 ⟨hb1, h⟩
  have J34 : ∀ (S : PT), w_X9_isBusy_b34 x0 post S → G p l e { frames := 1, cells := 0, slots := 0, locals := 22 } s m [va_rf (some x0)].toArray below meth c D cy A s.heap 1 (QMi below D cy A [va_rf (some x0)] s 0 0 (fun r S => bo r ∧ post r S)) S 0 0 34 [] [] := by
    intro S h
    unfold w_X9_isBusy_b34 at h
    refine G_iconst C (v := 1) dX9_isBusy_34 (by decide) ?_
    refine G_goto C (tgt := 39) dX9_isBusy_35 (by decide) ?_
    refine G_lv C (lv' := []) [] rfl ?_
    exact J39 _ _ h
  refine G_lv C (lv' := [(0, va_rf (some x0))]) [0] (by first | rfl | simp [lv_pick, lv_args, va_cat, vi_cat, vl_cat]) ?_
  unfold w_X9_isBusy at h
  refine G_aload_n C (x := (some x0)) 0 dX9_isBusy_0 rfl rfl ?_
  obtain ⟨hk2, h⟩ := h
  refine G_get C (CC := RX9) (Tf := TX9) (N := 50) (k := 10) (i := 0) (v := Value.int (gI S 1000 x0)) hk2 (by decide) rfl (fin fwX9) (by decide) (im tw_5_128) rfl rfl dX9_isBusy_1 ?_
  refine G_bipush C (v := 24) dX9_isBusy_4 (by decide) ?_
  refine G_irem C dX9_isBusy_6 (by decide) ?_
  refine G_bipush C (v := 7) dX9_isBusy_7 (by decide) ?_
  refine G_bipush C (v := 9) dX9_isBusy_9 (by decide) ?_
  refine G_callSi C hZ tw_6_49 tw_6_50 tw_1_7 tw_6_51 hy_X9_isIn ⟨Nat.le_of_ble_eq_true rfl, Nat.le_of_ble_eq_true rfl⟩ (As := [Value.int ((gI S 1000 x0) - (gI S 1000 x0) / 24 * 24), Value.int 7, Value.int 9]) (rest := []) (c_X9_isIn l D cy ((gI S 1000 x0) - (gI S 1000 x0) / 24 * 24) 7 9 S _ h) rfl rfl (by simp [va_cat, vi_cat, vl_cat]) dX9_isBusy_11 ⟨Nat.le_of_ble_eq_true rfl, Nat.le_of_ble_eq_true rfl⟩ (fun r4 S3 h => ?_)
  obtain ⟨hb5, h⟩ := h
  refine G_if_ne C (tgt := 34) dX9_isBusy_14 (by decide) (fun hc => ?_) (fun hc => ?_)
  · have h := h.1 hc
    refine G_lv C (lv' := []) [] rfl ?_
    exact J34 _ h
  · have h := h.2 hc
    refine G_aload_n C (x := (some x0)) 0 dX9_isBusy_17 rfl rfl ?_
    obtain ⟨hk6, h⟩ := h
    refine G_get C (CC := RX9) (Tf := TX9) (N := 50) (k := 10) (i := 0) (v := Value.int (gI S3 1000 x0)) hk6 (by decide) rfl (fin fwX9) (by decide) (im tw_5_128) rfl rfl dX9_isBusy_18 ?_
    refine G_bipush C (v := 24) dX9_isBusy_21 (by decide) ?_
    refine G_irem C dX9_isBusy_23 (by decide) ?_
    refine G_bipush C (v := 16) dX9_isBusy_24 (by decide) ?_
    refine G_bipush C (v := 18) dX9_isBusy_26 (by decide) ?_
    refine G_callSi C hZ tw_6_49 tw_6_50 tw_1_7 tw_6_51 hy_X9_isIn ⟨Nat.le_of_ble_eq_true rfl, Nat.le_of_ble_eq_true rfl⟩ (As := [Value.int ((gI S3 1000 x0) - (gI S3 1000 x0) / 24 * 24), Value.int 16, Value.int 18]) (rest := []) (c_X9_isIn l D cy ((gI S3 1000 x0) - (gI S3 1000 x0) / 24 * 24) 16 18 S3 _ h) rfl rfl (by simp [va_cat, vi_cat, vl_cat]) dX9_isBusy_28 ⟨Nat.le_of_ble_eq_true rfl, Nat.le_of_ble_eq_true rfl⟩ (fun r8 S7 h => ?_)
    obtain ⟨hb9, h⟩ := h
    refine G_if_eq C (tgt := 38) dX9_isBusy_31 (by decide) (fun hc => ?_) (fun hc => ?_)
    · have h := h.1 hc
      refine G_iconst C (v := 0) dX9_isBusy_38 (by decide) ?_
      refine G_lv C (lv' := []) [] rfl ?_
      exact J39 _ _ h
    · have h := h.2 hc
      refine G_lv C (lv' := []) [] rfl ?_
      exact J34 _ h
set_option maxHeartbeats 4000000 in
set_option maxRecDepth 100000 in
theorem c_X9_pays (l : Launch) (D : va_G) (cy : Nat → Nat) (x0 : Nat) (x1 : Int32) (x2 : Int32) (x3 : Int32) (S : PT) (post : PT → Prop) (h : w_X9_pays x0 x1 x2 x3 S post) : Mv l yX9_pays (Wm yX9_pays prog_11_method_12_code 4 (Option.none : Option Jvm.ClassFile.FieldType)) 0 0 D cy [va_rf (some x0), Value.int x1, Value.int x2, Value.int x3] S 0 0 post := by
  refine Mv_of (own := "TrenchboardModel") (by decide) rfl (by first | decide | simp [lg_sl, va_cat, vi_cat, vl_cat]) (fun p e s m below meth c A C hZ hr hin9 => ?_)
  refine G_lv C (lv' := [(0, va_rf (some x0)), (1, Value.int x1), (2, Value.int x2), (3, Value.int x3)]) [0, 1, 2, 3] (by first | rfl | simp [lv_pick, lv_args, va_cat, vi_cat, vl_cat]) ?_
  unfold w_X9_pays at h
  refine G_aload_n C (x := (some x0)) 0 dX9_pays_0 rfl rfl ?_
  obtain ⟨hk1, h⟩ := h
  refine G_get C (CC := RX9) (Tf := TX9) (N := 50) (k := 10) (i := 48) (v := va_rf (gP S 1048 x0)) hk1 (by decide) rfl (fin fwX9) (by decide) (im tw_5_176) rfl rfl dX9_pays_1 ?_
  refine G_iload_n C (x := x1) 1 dX9_pays_4 rfl rfl ?_
  refine G_dup2 C dX9_pays_5 rfl (va_cat _) ?_
  obtain ⟨a2, ha3, h⟩ := h
  refine G_rf1 ha3 ?_
  obtain ⟨hk4, h⟩ := h
  obtain ⟨hi5, h⟩ := h
  refine G_lald C hk4 hi5 dX9_pays_6 ?_
  refine G_iload_n C (x := x3) 3 dX9_pays_7 rfl rfl ?_
  refine G_i2l C dX9_pays_8 ?_
  refine G_lsub C dX9_pays_9 ?_
  refine G_rf2 ha3 ?_
  obtain ⟨hi6, h⟩ := h
  refine G_last C hk4 hi6 dX9_pays_10 ?_
  generalize e8 : sB S a2 ((x1).toNatClampNeg) ((gB S a2 x1.toNatClampNeg) - x3.toInt64) = S7
  have h := h S7 e8.symm
  refine G_aload_n C (x := (some x0)) 0 dX9_pays_11 rfl rfl ?_
  refine G_get C (CC := RX9) (Tf := TX9) (N := 50) (k := 10) (i := 48) (v := va_rf (gP S7 1048 x0)) (ksB e8.symm hk1) (by decide) rfl (fin fwX9) (by decide) (im tw_5_176) rfl rfl dX9_pays_12 ?_
  refine G_iload_n C (x := x2) 2 dX9_pays_15 rfl rfl ?_
  refine G_dup2 C dX9_pays_16 rfl (va_cat _) ?_
  obtain ⟨a9, ha10, h⟩ := h
  refine G_rf1 ha10 ?_
  obtain ⟨hk11, h⟩ := h
  obtain ⟨hi12, h⟩ := h
  refine G_lald C hk11 hi12 dX9_pays_17 ?_
  refine G_iload_n C (x := x3) 3 dX9_pays_18 rfl rfl ?_
  refine G_i2l C dX9_pays_19 ?_
  refine G_ladd C dX9_pays_20 ?_
  refine G_rf2 ha10 ?_
  obtain ⟨hi13, h⟩ := h
  refine G_last C hk11 hi13 dX9_pays_21 ?_
  generalize e15 : sB S7 a9 ((x2).toNatClampNeg) ((gB S7 a9 x2.toNatClampNeg) + x3.toInt64) = S14
  have h := h S14 e15.symm
  exact G_vret C (mc := 0) (ms := 0) (post := post) hr (Nat.le_of_ble_eq_true rfl) (Nat.le_of_ble_eq_true rfl) dX9_pays_22 h
set_option maxHeartbeats 4000000 in
set_option maxRecDepth 100000 in
theorem c_X9_street (l : Launch) (D : va_G) (cy : Nat → Nat) (x0 : Nat) (x1 : Int32) (x2 : Int32) (x3 : Int32) (x4 : Int32) (S : PT) (post : Int32 → PT → Prop) (h : w_X9_street x0 x1 x2 x3 x4 S post) : Mi l yX9_street (Wm yX9_street prog_11_method_13_code 6 (Option.some Jvm.ClassFile.FieldType.int)) 2 43 D cy [va_rf (some x0), Value.int x1, Value.int x2, Value.int x3, Value.int x4] S 0 0 post := by
  refine Mi_of (own := "TrenchboardModel") (by decide) rfl (by first | decide | simp [lg_sl, va_cat, vi_cat, vl_cat]) (fun p e s m below meth c A C hZ hr hin9 => ?_)
  have J80 : ∀ (S : PT) (s0 : Option Nat) (s1 : Int32), w_X9_street_b80 x0 x1 x2 x3 x4 post S s0 s1 → G p l e { frames := 2, cells := 0, slots := 0, locals := 43 } s m [va_rf (some x0), Value.int x1, Value.int x2, Value.int x3, Value.int x4].toArray below meth c D cy A s.heap 6 (QMi below D cy A [va_rf (some x0), Value.int x1, Value.int x2, Value.int x3, Value.int x4] s 0 0 post) S 0 0 80 [(0, va_rf (some x0)), (1, Value.int x1), (2, Value.int x2), (3, Value.int x3), (4, Value.int x4)] [Value.int s1, va_rf s0] := by
    intro S s0 s1 h
    unfold w_X9_street_b80 at h
    obtain ⟨a1, ha2, h⟩ := h
    obtain ⟨hk3, h⟩ := h
    refine G_callVi C hZ (Tf := TX9) (N := 50) hk3 (by decide) rfl tw_6_56 tw_6_58 tw_0_29 tw_1_7 tw_6_59 hy_X9_goes ⟨Nat.le_of_ble_eq_true rfl, Nat.le_of_ble_eq_true rfl⟩ (As := [Value.int s1]) (rest := []) (c_X9_goes l D cy a1 s1 S _ h) rfl (by first | rfl | (simp only [ha2]; rfl) | simp only [ha2]) (by simp [va_cat, vi_cat, vl_cat]) dX9_street_80 ⟨Nat.le_of_ble_eq_true rfl, Nat.le_of_ble_eq_true rfl⟩ (fun r5 S4 h => ?_)
    obtain ⟨hb6, h⟩ := h
    refine G_if_ne C (tgt := 88) dX9_street_83 (by decide) (fun hc => ?_) (fun hc => ?_)
    · have h := h.1 hc
      refine G_aload_n C (x := (some x0)) 0 dX9_street_88 rfl rfl ?_
      obtain ⟨hk7, h⟩ := h
      refine G_get C (CC := RX9) (Tf := TX9) (N := 50) (k := 10) (i := 2) (v := va_rf (gP S4 1002 x0)) hk7 (by decide) rfl (fin fwX9) (by decide) (im tw_5_130) rfl rfl dX9_street_89 ?_
      refine G_aload_n C (x := (some x0)) 0 dX9_street_92 rfl rfl ?_
      refine G_get C (CC := RX9) (Tf := TX9) (N := 50) (k := 10) (i := 1) (v := Value.int (gI S4 1001 x0)) hk7 (by decide) rfl (fin fwX9) (by decide) (im tw_5_129) rfl rfl dX9_street_93 ?_
      refine G_iload_n C (x := x1) 1 dX9_street_96 rfl rfl ?_
      obtain ⟨a8, ha9, h⟩ := h
      refine G_rf2 ha9 ?_
      obtain ⟨hk10, h⟩ := h
      obtain ⟨hi11, h⟩ := h
      refine G_iast C hk10 hi11 dX9_street_97 ?_
      generalize e13 : sA S4 a8 (((gI S4 1001 x0)).toNatClampNeg) x1 = S12
      have h := h S12 e13.symm
      refine G_aload_n C (x := (some x0)) 0 dX9_street_98 rfl rfl ?_
      refine G_get C (CC := RX9) (Tf := TX9) (N := 50) (k := 10) (i := 3) (v := va_rf (gP S12 1003 x0)) (ksA e13.symm hk7) (by decide) rfl (fin fwX9) (by decide) (im tw_5_131) rfl rfl dX9_street_99 ?_
      refine G_aload_n C (x := (some x0)) 0 dX9_street_102 rfl rfl ?_
      refine G_get C (CC := RX9) (Tf := TX9) (N := 50) (k := 10) (i := 1) (v := Value.int (gI S12 1001 x0)) (ksA e13.symm hk7) (by decide) rfl (fin fwX9) (by decide) (im tw_5_129) rfl rfl dX9_street_103 ?_
      refine G_iload_n C (x := x2) 2 dX9_street_106 rfl rfl ?_
      obtain ⟨a14, ha15, h⟩ := h
      refine G_rf2 ha15 ?_
      obtain ⟨hk16, h⟩ := h
      obtain ⟨hi17, h⟩ := h
      refine G_iast C hk16 hi17 dX9_street_107 ?_
      generalize e19 : sA S12 a14 (((gI S12 1001 x0)).toNatClampNeg) x2 = S18
      have h := h S18 e19.symm
      refine G_aload_n C (x := (some x0)) 0 dX9_street_108 rfl rfl ?_
      refine G_get C (CC := RX9) (Tf := TX9) (N := 50) (k := 10) (i := 4) (v := va_rf (gP S18 1004 x0)) (ksA e19.symm (ksA e13.symm hk7)) (by decide) rfl (fin fwX9) (by decide) (im tw_5_132) rfl rfl dX9_street_109 ?_
      refine G_aload_n C (x := (some x0)) 0 dX9_street_112 rfl rfl ?_
      refine G_get C (CC := RX9) (Tf := TX9) (N := 50) (k := 10) (i := 1) (v := Value.int (gI S18 1001 x0)) (ksA e19.symm (ksA e13.symm hk7)) (by decide) rfl (fin fwX9) (by decide) (im tw_5_129) rfl rfl dX9_street_113 ?_
      refine G_iload_n C (x := x3) 3 dX9_street_116 rfl rfl ?_
      obtain ⟨a20, ha21, h⟩ := h
      refine G_rf2 ha21 ?_
      obtain ⟨hk22, h⟩ := h
      obtain ⟨hi23, h⟩ := h
      refine G_iast C hk22 hi23 dX9_street_117 ?_
      generalize e25 : sA S18 a20 (((gI S18 1001 x0)).toNatClampNeg) x3 = S24
      have h := h S24 e25.symm
      refine G_aload_n C (x := (some x0)) 0 dX9_street_118 rfl rfl ?_
      refine G_get C (CC := RX9) (Tf := TX9) (N := 50) (k := 10) (i := 5) (v := va_rf (gP S24 1005 x0)) (ksA e25.symm (ksA e19.symm (ksA e13.symm hk7))) (by decide) rfl (fin fwX9) (by decide) (im tw_5_133) rfl rfl dX9_street_119 ?_
      refine G_aload_n C (x := (some x0)) 0 dX9_street_122 rfl rfl ?_
      refine G_get C (CC := RX9) (Tf := TX9) (N := 50) (k := 10) (i := 1) (v := Value.int (gI S24 1001 x0)) (ksA e25.symm (ksA e19.symm (ksA e13.symm hk7))) (by decide) rfl (fin fwX9) (by decide) (im tw_5_129) rfl rfl dX9_street_123 ?_
      refine G_iload C (x := x4) 4 dX9_street_126 rfl ?_
      obtain ⟨a26, ha27, h⟩ := h
      refine G_rf2 ha27 ?_
      obtain ⟨hk28, h⟩ := h
      obtain ⟨hi29, h⟩ := h
      refine G_iast C hk28 hi29 dX9_street_128 ?_
      generalize e31 : sA S24 a26 (((gI S24 1001 x0)).toNatClampNeg) x4 = S30
      have h := h S30 e31.symm
      refine G_aload_n C (x := (some x0)) 0 dX9_street_129 rfl rfl ?_
      refine G_dup C dX9_street_130 (va_cat _) ?_
      refine G_get C (CC := RX9) (Tf := TX9) (N := 50) (k := 10) (i := 1) (v := Value.int (gI S30 1001 x0)) (ksA e31.symm (ksA e25.symm (ksA e19.symm (ksA e13.symm hk7)))) (by decide) rfl (fin fwX9) (by decide) (im tw_5_129) rfl rfl dX9_street_131 ?_
      refine G_iconst C (v := 1) dX9_street_134 (by decide) ?_
      refine G_iadd C dX9_street_135 ?_
      refine G_putI C (CC := RX9) (Tf := TX9) (N := 50) (k := 10) (i := 1) (f := 1001) (x := ((gI S30 1001 x0) + 1)) (ty0 := tyX9) (ty := .int) (ksA e31.symm (ksA e25.symm (ksA e19.symm (ksA e13.symm hk7)))) (by decide) rfl (fin fwX9) tyX9_ok nmX9 (by decide) (im tw_5_129) rfl rfl rfl rfl rfl rfl rfl dX9_street_136 ?_
      generalize e33 : sI S30 1001 x0 ((gI S30 1001 x0) + 1) = S32
      have h := h S32 e33.symm
      refine G_aload_n C (x := (some x0)) 0 dX9_street_139 rfl rfl ?_
      refine G_get C (CC := RX9) (Tf := TX9) (N := 50) (k := 10) (i := 1) (v := Value.int (gI S32 1001 x0)) (ksI e33.symm (ksA e31.symm (ksA e25.symm (ksA e19.symm (ksA e13.symm hk7))))) (by decide) rfl (fin fwX9) (by decide) (im tw_5_129) rfl rfl dX9_street_140 ?_
      refine G_iconst C (v := 1) dX9_street_143 (by decide) ?_
      refine G_isub C dX9_street_144 ?_
      exact G_iret C (mc := 0) (ms := 0) (post := post) hr (Nat.le_of_ble_eq_true rfl) (Nat.le_of_ble_eq_true rfl) dX9_street_145 h
    · have h := h.2 hc
      refine G_iconst C (v := 0) dX9_street_86 (by decide) ?_
      exact G_iret C (mc := 0) (ms := 0) (post := post) hr (Nat.le_of_ble_eq_true rfl) (Nat.le_of_ble_eq_true rfl) dX9_street_87 h
  have J57 : ∀ (S : PT) (v5 : Int32) (s0 : Option Nat), w_X9_street_b57 x0 x1 x2 x3 x4 post S v5 s0 → G p l e { frames := 2, cells := 0, slots := 0, locals := 43 } s m [va_rf (some x0), Value.int x1, Value.int x2, Value.int x3, Value.int x4].toArray below meth c D cy A s.heap 6 (QMi below D cy A [va_rf (some x0), Value.int x1, Value.int x2, Value.int x3, Value.int x4] s 0 0 post) S 0 0 57 [(0, va_rf (some x0)), (1, Value.int x1), (2, Value.int x2), (3, Value.int x3), (4, Value.int x4), (5, Value.int v5)] [va_rf s0] := by
    intro S v5 s0 h
    unfold w_X9_street_b57 at h
    refine G_iload C (x := v5) 5 dX9_street_57 rfl ?_
    refine G_if_ne C (tgt := 66) dX9_street_59 (by decide) (fun hc => ?_) (fun hc => ?_)
    · have h := h.1 hc
      refine G_aload_n C (x := (some x0)) 0 dX9_street_66 rfl rfl ?_
      obtain ⟨hk34, h⟩ := h
      refine G_get C (CC := RX9) (Tf := TX9) (N := 50) (k := 10) (i := 1) (v := Value.int (gI S 1001 x0)) hk34 (by decide) rfl (fin fwX9) (by decide) (im tw_5_129) rfl rfl dX9_street_67 ?_
      refine G_bipush C (v := 6) dX9_street_70 (by decide) ?_
      refine G_icmp_ne C (tgt := 79) dX9_street_72 (by decide) (fun hc => ?_) (fun hc => ?_)
      · have h := h.1 hc
        refine G_iconst C (v := 0) dX9_street_79 (by decide) ?_
        refine G_lv C (lv' := [(0, va_rf (some x0)), (1, Value.int x1), (2, Value.int x2), (3, Value.int x3), (4, Value.int x4)]) [0, 1, 2, 3, 4] rfl ?_
        exact J80 _ _ _ h
      · have h := h.2 hc
        refine G_iconst C (v := 3) dX9_street_75 (by decide) ?_
        refine G_goto C (tgt := 80) dX9_street_76 (by decide) ?_
        refine G_lv C (lv' := [(0, va_rf (some x0)), (1, Value.int x1), (2, Value.int x2), (3, Value.int x3), (4, Value.int x4)]) [0, 1, 2, 3, 4] rfl ?_
        exact J80 _ _ _ h
    · have h := h.2 hc
      refine G_iconst C (v := 2) dX9_street_62 (by decide) ?_
      refine G_goto C (tgt := 80) dX9_street_63 (by decide) ?_
      refine G_lv C (lv' := [(0, va_rf (some x0)), (1, Value.int x1), (2, Value.int x2), (3, Value.int x3), (4, Value.int x4)]) [0, 1, 2, 3, 4] rfl ?_
      exact J80 _ _ _ h
  have J35 : ∀ (S : PT) (s0 : Int32), w_X9_street_b35 x0 x1 x2 x3 x4 post S s0 → G p l e { frames := 2, cells := 0, slots := 0, locals := 43 } s m [va_rf (some x0), Value.int x1, Value.int x2, Value.int x3, Value.int x4].toArray below meth c D cy A s.heap 6 (QMi below D cy A [va_rf (some x0), Value.int x1, Value.int x2, Value.int x3, Value.int x4] s 0 0 post) S 0 0 35 [(0, va_rf (some x0)), (1, Value.int x1), (2, Value.int x2), (3, Value.int x3), (4, Value.int x4)] [Value.int s0] := by
    intro S s0 h
    unfold w_X9_street_b35 at h
    refine G_istore C (i := 5) (lv' := [(5, Value.int s0), (0, va_rf (some x0)), (1, Value.int x1), (2, Value.int x2), (3, Value.int x3), (4, Value.int x4)]) dX9_street_35 (by decide) (by first | rfl | simp [va_cat, vi_cat, vl_cat]) ?_
    refine G_aload_n C (x := (some x0)) 1 dX9_street_37 rfl rfl ?_
    refine G_iload C (x := x4) 5 dX9_street_38 rfl ?_
    refine G_iconst C (v := (-1)) dX9_street_40 (by decide) ?_
    refine G_icmp_eq C (tgt := 57) dX9_street_41 (by decide) (fun hc => ?_) (fun hc => ?_)
    · have h := h.1 hc
      refine G_lv C (lv' := [(0, va_rf (some x0)), (1, Value.int x1), (2, Value.int x2), (3, Value.int x3), (4, Value.int x4), (5, Value.int s0)]) [1, 2, 3, 4, 5, 0] rfl ?_
      exact J57 _ _ _ h
    · have h := h.2 hc
      refine G_aload_n C (x := (some x0)) 1 dX9_street_44 rfl rfl ?_
      refine G_iload C (x := x4) 5 dX9_street_45 rfl ?_
      obtain ⟨hk35, h⟩ := h
      refine G_callVi C hZ (Tf := TX9) (N := 50) hk35 (by decide) rfl tw_6_52 tw_6_54 tw_0_28 tw_1_7 tw_6_55 hy_X9_isStreet ⟨Nat.le_of_ble_eq_true rfl, Nat.le_of_ble_eq_true rfl⟩ (As := [Value.int x4]) (rest := [va_rf (some x0)]) (c_X9_isStreet l D cy x0 x4 S _ h) rfl rfl (by simp [va_cat, vi_cat, vl_cat]) dX9_street_47 ⟨Nat.le_of_ble_eq_true rfl, Nat.le_of_ble_eq_true rfl⟩ (fun r37 S36 h => ?_)
      obtain ⟨hb38, h⟩ := h
      refine G_if_ne C (tgt := 57) dX9_street_50 (by decide) (fun hc => ?_) (fun hc => ?_)
      · have h := h.1 hc
        refine G_lv C (lv' := [(0, va_rf (some x0)), (1, Value.int x1), (2, Value.int x2), (3, Value.int x3), (4, Value.int x4), (5, Value.int s0)]) [1, 2, 3, 4, 5, 0] rfl ?_
        exact J57 _ _ _ h
      · have h := h.2 hc
        refine G_iconst C (v := 1) dX9_street_53 (by decide) ?_
        refine G_goto C (tgt := 80) dX9_street_54 (by decide) ?_
        refine G_lv C (lv' := [(0, va_rf (some x0)), (1, Value.int x1), (2, Value.int x2), (3, Value.int x3), (4, Value.int x4)]) [1, 2, 3, 4, 5] rfl ?_
        exact J80 _ _ _ h
  have J34 : ∀ (S : PT), w_X9_street_b34 x0 x1 x2 x3 x4 post S → G p l e { frames := 2, cells := 0, slots := 0, locals := 43 } s m [va_rf (some x0), Value.int x1, Value.int x2, Value.int x3, Value.int x4].toArray below meth c D cy A s.heap 6 (QMi below D cy A [va_rf (some x0), Value.int x1, Value.int x2, Value.int x3, Value.int x4] s 0 0 post) S 0 0 34 [(0, va_rf (some x0)), (1, Value.int x1), (2, Value.int x2), (3, Value.int x3), (4, Value.int x4)] [] := by
    intro S h
    unfold w_X9_street_b34 at h
    refine G_iconst C (v := 0) dX9_street_34 (by decide) ?_
    refine G_lv C (lv' := [(0, va_rf (some x0)), (1, Value.int x1), (2, Value.int x2), (3, Value.int x3), (4, Value.int x4)]) [0, 1, 2, 3, 4] rfl ?_
    exact J35 _ _ h
  refine G_lv C (lv' := [(0, va_rf (some x0)), (1, Value.int x1), (2, Value.int x2), (3, Value.int x3), (4, Value.int x4)]) [0, 1, 2, 3, 4] (by first | rfl | simp [lv_pick, lv_args, va_cat, vi_cat, vl_cat]) ?_
  unfold w_X9_street at h
  refine G_iload_n C (x := x1) 1 dX9_street_0 rfl rfl ?_
  refine G_iconst C (v := 1) dX9_street_1 (by decide) ?_
  refine G_bipush C (v := 40) dX9_street_2 (by decide) ?_
  refine G_callSi C hZ tw_6_49 tw_6_50 tw_1_7 tw_6_51 hy_X9_isIn ⟨Nat.le_of_ble_eq_true rfl, Nat.le_of_ble_eq_true rfl⟩ (As := [Value.int x1, Value.int 1, Value.int 40]) (rest := []) (c_X9_isIn l D cy x1 1 40 S _ h) rfl rfl (by simp [va_cat, vi_cat, vl_cat]) dX9_street_4 ⟨Nat.le_of_ble_eq_true rfl, Nat.le_of_ble_eq_true rfl⟩ (fun r40 S39 h => ?_)
  obtain ⟨hb41, h⟩ := h
  refine G_if_eq C (tgt := 34) dX9_street_7 (by decide) (fun hc => ?_) (fun hc => ?_)
  · have h := h.1 hc
    refine G_lv C (lv' := [(0, va_rf (some x0)), (1, Value.int x1), (2, Value.int x2), (3, Value.int x3), (4, Value.int x4)]) [0, 1, 2, 3, 4] rfl ?_
    exact J34 _ h
  · have h := h.2 hc
    refine G_iload_n C (x := x2) 2 dX9_street_10 rfl rfl ?_
    refine G_iconst C (v := 0) dX9_street_11 (by decide) ?_
    refine G_iconst C (v := 3) dX9_street_12 (by decide) ?_
    refine G_callSi C hZ tw_6_49 tw_6_50 tw_1_7 tw_6_51 hy_X9_isIn ⟨Nat.le_of_ble_eq_true rfl, Nat.le_of_ble_eq_true rfl⟩ (As := [Value.int x2, Value.int 0, Value.int 3]) (rest := []) (c_X9_isIn l D cy x2 0 3 S39 _ h) rfl rfl (by simp [va_cat, vi_cat, vl_cat]) dX9_street_13 ⟨Nat.le_of_ble_eq_true rfl, Nat.le_of_ble_eq_true rfl⟩ (fun r43 S42 h => ?_)
    obtain ⟨hb44, h⟩ := h
    refine G_if_eq C (tgt := 34) dX9_street_16 (by decide) (fun hc => ?_) (fun hc => ?_)
    · have h := h.1 hc
      refine G_lv C (lv' := [(0, va_rf (some x0)), (1, Value.int x1), (2, Value.int x2), (3, Value.int x3), (4, Value.int x4)]) [0, 1, 2, 3, 4] rfl ?_
      exact J34 _ h
    · have h := h.2 hc
      refine G_iload_n C (x := x3) 3 dX9_street_19 rfl rfl ?_
      refine G_iconst C (v := 0) dX9_street_20 (by decide) ?_
      refine G_sipush C (v := 999) dX9_street_21 (by decide) ?_
      refine G_callSi C hZ tw_6_49 tw_6_50 tw_1_7 tw_6_51 hy_X9_isIn ⟨Nat.le_of_ble_eq_true rfl, Nat.le_of_ble_eq_true rfl⟩ (As := [Value.int x3, Value.int 0, Value.int 999]) (rest := []) (c_X9_isIn l D cy x3 0 999 S42 _ h) rfl rfl (by simp [va_cat, vi_cat, vl_cat]) dX9_street_24 ⟨Nat.le_of_ble_eq_true rfl, Nat.le_of_ble_eq_true rfl⟩ (fun r46 S45 h => ?_)
      obtain ⟨hb47, h⟩ := h
      refine G_if_eq C (tgt := 34) dX9_street_27 (by decide) (fun hc => ?_) (fun hc => ?_)
      · have h := h.1 hc
        refine G_lv C (lv' := [(0, va_rf (some x0)), (1, Value.int x1), (2, Value.int x2), (3, Value.int x3), (4, Value.int x4)]) [0, 1, 2, 3, 4] rfl ?_
        exact J34 _ h
      · have h := h.2 hc
        refine G_iconst C (v := 1) dX9_street_30 (by decide) ?_
        refine G_goto C (tgt := 35) dX9_street_31 (by decide) ?_
        refine G_lv C (lv' := [(0, va_rf (some x0)), (1, Value.int x1), (2, Value.int x2), (3, Value.int x3), (4, Value.int x4)]) [0, 1, 2, 3, 4] rfl ?_
        exact J35 _ _ h
set_option maxHeartbeats 4000000 in
set_option maxRecDepth 100000 in
theorem c_X9_openIn (l : Launch) (D : va_G) (cy : Nat → Nat) (x0 : Nat) (x1 : Int32) (S : PT) (post : Int32 → PT → Prop) (h : w_X9_openIn x0 x1 S post) : Mi l yX9_openIn (Wm yX9_openIn prog_11_method_14_code 4 (Option.some Jvm.ClassFile.FieldType.int)) 0 0 D cy [va_rf (some x0), Value.int x1] S 0 0 post := by
  refine Mi_of (own := "TrenchboardModel") (by decide) rfl (by first | decide | simp [lg_sl, va_cat, vi_cat, vl_cat]) (fun p e s m below meth c A C hZ hr hin9 => ?_)
  have J7 : ∀ (n : Nat) (S : PT) (v2 : Int32) (v3 : Int32), w_X9_openIn_l7 x0 x1 post n S v2 v3 → G p l e { frames := 0, cells := 0, slots := 0, locals := 0 } s m [va_rf (some x0), Value.int x1].toArray below meth c D cy A s.heap 4 (QMi below D cy A [va_rf (some x0), Value.int x1] s 0 0 post) S 0 0 7 [(0, va_rf (some x0)), (1, Value.int x1), (2, Value.int v2), (3, Value.int v3)] [] := by
    intro n7
    induction n7 with
    | zero => intro S v2 v3 h; rw [w_X9_openIn_l7] at h; exact False.elim h
    | succ n7 K7 =>
      have J34 : ∀ (S : PT) (v3 : Int32) (s0 : Int32) (s1 : Int32), w_X9_openIn_b34 x0 x1 post (w_X9_openIn_l7 x0 x1 post n7) S v3 s0 s1 → G p l e { frames := 0, cells := 0, slots := 0, locals := 0 } s m [va_rf (some x0), Value.int x1].toArray below meth c D cy A s.heap 4 (QMi below D cy A [va_rf (some x0), Value.int x1] s 0 0 post) S 0 0 34 [(0, va_rf (some x0)), (1, Value.int x1), (3, Value.int v3)] [Value.int s1, Value.int s0] := by
        intro S v3 s0 s1 h
        unfold w_X9_openIn_b34 at h
        refine G_iadd C dX9_openIn_34 ?_
        refine G_istore_n C (i := 2) (lv' := [(2, Value.int (s0 + s1)), (0, va_rf (some x0)), (1, Value.int x1), (3, Value.int v3)]) dX9_openIn_35 rfl (by decide) (by first | rfl | simp [va_cat, vi_cat, vl_cat]) ?_
        refine G_iinc C (v := (v3 + 1)) (lv' := [(3, Value.int (v3 + 1)), (2, Value.int (s0 + s1)), (0, va_rf (some x0)), (1, Value.int x1)]) 3 dX9_openIn_36 rfl rfl (by decide) (by first | rfl | simp [va_cat, vi_cat, vl_cat]) ?_
        refine G_goto C (tgt := 7) dX9_openIn_39 (by decide) ?_
        refine G_lv C (lv' := [(0, va_rf (some x0)), (1, Value.int x1), (2, Value.int (s0 + s1)), (3, Value.int (v3 + 1))]) [2, 3, 1, 0] rfl ?_
        exact K7 _ _ _ h
      intro S v2 v3 h
      rw [w_X9_openIn_l7] at h
      refine G_iload_n C (x := v3) 3 dX9_openIn_7 rfl rfl ?_
      refine G_bipush C (v := 40) dX9_openIn_8 (by decide) ?_
      refine G_iload_n C (x := x1) 1 dX9_openIn_10 rfl rfl ?_
      refine G_imul C dX9_openIn_11 ?_
      refine G_bipush C (v := 40) dX9_openIn_12 (by decide) ?_
      refine G_iadd C dX9_openIn_14 ?_
      refine G_icmp_ge C (tgt := 42) dX9_openIn_15 (by decide) (fun hc => ?_) (fun hc => ?_)
      · have h := h.1 hc
        refine G_iload_n C (x := v2) 2 dX9_openIn_42 rfl rfl ?_
        exact G_iret C (mc := 0) (ms := 0) (post := post) hr (Nat.le_of_ble_eq_true rfl) (Nat.le_of_ble_eq_true rfl) dX9_openIn_43 h
      · have h := h.2 hc
        refine G_iload_n C (x := v2) 2 dX9_openIn_18 rfl rfl ?_
        refine G_aload_n C (x := (some x0)) 0 dX9_openIn_19 rfl rfl ?_
        obtain ⟨hk1, h⟩ := h
        refine G_get C (CC := RX9) (Tf := TX9) (N := 50) (k := 10) (i := 13) (v := va_rf (gP S 1013 x0)) hk1 (by decide) rfl (fin fwX9) (by decide) (im tw_5_141) rfl rfl dX9_openIn_20 ?_
        refine G_iload_n C (x := v3) 3 dX9_openIn_23 rfl rfl ?_
        obtain ⟨a2, ha3, h⟩ := h
        refine G_rf1 ha3 ?_
        obtain ⟨hk4, h⟩ := h
        obtain ⟨hi5, h⟩ := h
        refine G_iald C hk4 hi5 dX9_openIn_24 ?_
        refine G_iconst C (v := (-1)) dX9_openIn_25 (by decide) ?_
        refine G_icmp_ne C (tgt := 33) dX9_openIn_26 (by decide) (fun hc => ?_) (fun hc => ?_)
        · have h := h.1 hc
          refine G_iconst C (v := 1) dX9_openIn_33 (by decide) ?_
          refine G_lv C (lv' := [(0, va_rf (some x0)), (1, Value.int x1), (3, Value.int v3)]) [0, 1, 3] rfl ?_
          exact J34 _ _ _ _ h
        · have h := h.2 hc
          refine G_iconst C (v := 0) dX9_openIn_29 (by decide) ?_
          refine G_goto C (tgt := 34) dX9_openIn_30 (by decide) ?_
          refine G_lv C (lv' := [(0, va_rf (some x0)), (1, Value.int x1), (3, Value.int v3)]) [0, 1, 3] rfl ?_
          exact J34 _ _ _ _ h
  refine G_lv C (lv' := [(0, va_rf (some x0)), (1, Value.int x1)]) [0, 1] (by first | rfl | simp [lv_pick, lv_args, va_cat, vi_cat, vl_cat]) ?_
  unfold w_X9_openIn at h
  refine G_iconst C (v := 0) dX9_openIn_0 (by decide) ?_
  refine G_istore_n C (i := 2) (lv' := [(2, Value.int 0), (0, va_rf (some x0)), (1, Value.int x1)]) dX9_openIn_1 rfl (by decide) (by first | rfl | simp [va_cat, vi_cat, vl_cat]) ?_
  refine G_bipush C (v := 40) dX9_openIn_2 (by decide) ?_
  refine G_iload_n C (x := x1) 2 dX9_openIn_4 rfl rfl ?_
  refine G_imul C dX9_openIn_5 ?_
  refine G_istore_n C (i := 3) (lv' := [(3, Value.int (40 * x1)), (2, Value.int 0), (0, va_rf (some x0)), (1, Value.int x1)]) dX9_openIn_6 rfl (by decide) (by first | rfl | simp [va_cat, vi_cat, vl_cat]) ?_
  refine G_lv C (lv' := [(0, va_rf (some x0)), (1, Value.int x1), (2, Value.int 0), (3, Value.int (40 * x1))]) [2, 3, 1, 0] rfl ?_
  obtain ⟨n9, h⟩ := h
  exact J7 n9 _ _ _ h
set_option maxHeartbeats 4000000 in
set_option maxRecDepth 100000 in
theorem c_X9_surface (l : Launch) (D : va_G) (cy : Nat → Nat) (x0 : Nat) (x1 : Int32) (S : PT) (post : Int32 → PT → Prop) (h : w_X9_surface x0 x1 S post) : Mi l yX9_surface (Wm yX9_surface prog_11_method_15_code 3 (Option.some Jvm.ClassFile.FieldType.int)) 2 43 D cy [va_rf (some x0), Value.int x1] S 0 0 post := by
  refine Mi_of (own := "TrenchboardModel") (by decide) rfl (by first | decide | simp [lg_sl, va_cat, vi_cat, vl_cat]) (fun p e s m below meth c A C hZ hr hin9 => ?_)
  have J28 : ∀ (S : PT) (s0 : Option Nat) (s1 : Int32), w_X9_surface_b28 x0 x1 post S s0 s1 → G p l e { frames := 2, cells := 0, slots := 0, locals := 43 } s m [va_rf (some x0), Value.int x1].toArray below meth c D cy A s.heap 3 (QMi below D cy A [va_rf (some x0), Value.int x1] s 0 0 post) S 0 0 28 [(0, va_rf (some x0)), (1, Value.int x1)] [Value.int s1, va_rf s0] := by
    intro S s0 s1 h
    unfold w_X9_surface_b28 at h
    obtain ⟨a1, ha2, h⟩ := h
    obtain ⟨hk3, h⟩ := h
    refine G_callVi C hZ (Tf := TX9) (N := 50) hk3 (by decide) rfl tw_6_56 tw_6_58 tw_0_29 tw_1_7 tw_6_59 hy_X9_goes ⟨Nat.le_of_ble_eq_true rfl, Nat.le_of_ble_eq_true rfl⟩ (As := [Value.int s1]) (rest := []) (c_X9_goes l D cy a1 s1 S _ h) rfl (by first | rfl | (simp only [ha2]; rfl) | simp only [ha2]) (by simp [va_cat, vi_cat, vl_cat]) dX9_surface_28 ⟨Nat.le_of_ble_eq_true rfl, Nat.le_of_ble_eq_true rfl⟩ (fun r5 S4 h => ?_)
    obtain ⟨hb6, h⟩ := h
    refine G_if_ne C (tgt := 36) dX9_surface_31 (by decide) (fun hc => ?_) (fun hc => ?_)
    · have h := h.1 hc
      refine G_aload_n C (x := (some x0)) 0 dX9_surface_36 rfl rfl ?_
      obtain ⟨hk7, h⟩ := h
      refine G_get C (CC := RX9) (Tf := TX9) (N := 50) (k := 10) (i := 6) (v := va_rf (gP S4 1006 x0)) hk7 (by decide) rfl (fin fwX9) (by decide) (im tw_5_134) rfl rfl dX9_surface_37 ?_
      refine G_iload_n C (x := x1) 1 dX9_surface_40 rfl rfl ?_
      refine G_aload_n C (x := (some x0)) 0 dX9_surface_41 rfl rfl ?_
      refine G_callVi C hZ (Tf := TX9) (N := 50) hk7 (by decide) rfl tw_6_68 tw_6_70 tw_0_31 tw_1_7 tw_6_71 hy_X9_today ⟨Nat.le_of_ble_eq_true rfl, Nat.le_of_ble_eq_true rfl⟩ (As := []) (rest := [Value.int x1, va_rf (gP S4 1006 x0)]) (c_X9_today l D cy x0 S4 _ h) rfl rfl (by simp [va_cat, vi_cat, vl_cat]) dX9_surface_42 ⟨Nat.le_of_ble_eq_true rfl, Nat.le_of_ble_eq_true rfl⟩ (fun r9 S8 h => ?_)
      obtain ⟨a10, ha11, h⟩ := h
      refine G_rf2 ha11 ?_
      obtain ⟨hk12, h⟩ := h
      obtain ⟨hi13, h⟩ := h
      refine G_iast C hk12 hi13 dX9_surface_45 ?_
      generalize e15 : sA S8 a10 ((x1).toNatClampNeg) r9 = S14
      have h := h S14 e15.symm
      refine G_aload_n C (x := (some x0)) 0 dX9_surface_46 rfl rfl ?_
      obtain ⟨hk16, h⟩ := h
      refine G_get C (CC := RX9) (Tf := TX9) (N := 50) (k := 10) (i := 7) (v := va_rf (gP S14 1007 x0)) hk16 (by decide) rfl (fin fwX9) (by decide) (im tw_5_135) rfl rfl dX9_surface_47 ?_
      refine G_iload_n C (x := x1) 1 dX9_surface_50 rfl rfl ?_
      refine G_aload_n C (x := (some x0)) 0 dX9_surface_51 rfl rfl ?_
      refine G_get C (CC := RX9) (Tf := TX9) (N := 50) (k := 10) (i := 40) (v := Value.int (gI S14 1040 x0)) hk16 (by decide) rfl (fin fwX9) (by decide) (im tw_5_168) rfl rfl dX9_surface_52 ?_
      obtain ⟨a17, ha18, h⟩ := h
      refine G_rf2 ha18 ?_
      obtain ⟨hk19, h⟩ := h
      obtain ⟨hi20, h⟩ := h
      refine G_iast C hk19 hi20 dX9_surface_55 ?_
      generalize e22 : sA S14 a17 ((x1).toNatClampNeg) (gI S14 1040 x0) = S21
      have h := h S21 e22.symm
      refine G_aload_n C (x := (some x0)) 0 dX9_surface_56 rfl rfl ?_
      refine G_callVi C hZ (Tf := TX9) (N := 50) (ksA e22.symm hk16) (by decide) rfl tw_6_68 tw_6_70 tw_0_31 tw_1_7 tw_6_71 hy_X9_today ⟨Nat.le_of_ble_eq_true rfl, Nat.le_of_ble_eq_true rfl⟩ (As := []) (rest := []) (c_X9_today l D cy x0 S21 _ h) rfl rfl (by simp [va_cat, vi_cat, vl_cat]) dX9_surface_57 ⟨Nat.le_of_ble_eq_true rfl, Nat.le_of_ble_eq_true rfl⟩ (fun r24 S23 h => ?_)
      refine G_bipush C (v := 99) dX9_surface_60 (by decide) ?_
      refine G_iadd C dX9_surface_62 ?_
      exact G_iret C (mc := 0) (ms := 0) (post := post) hr (Nat.le_of_ble_eq_true rfl) (Nat.le_of_ble_eq_true rfl) dX9_surface_63 h
    · have h := h.2 hc
      refine G_iconst C (v := 0) dX9_surface_34 (by decide) ?_
      exact G_iret C (mc := 0) (ms := 0) (post := post) hr (Nat.le_of_ble_eq_true rfl) (Nat.le_of_ble_eq_true rfl) dX9_surface_35 h
  refine G_lv C (lv' := [(0, va_rf (some x0)), (1, Value.int x1)]) [0, 1] (by first | rfl | simp [lv_pick, lv_args, va_cat, vi_cat, vl_cat]) ?_
  unfold w_X9_surface at h
  refine G_aload_n C (x := (some x0)) 0 dX9_surface_0 rfl rfl ?_
  refine G_iload_n C (x := x1) 1 dX9_surface_1 rfl rfl ?_
  obtain ⟨hk25, h⟩ := h
  refine G_callVi C hZ (Tf := TX9) (N := 50) hk25 (by decide) rfl tw_6_52 tw_6_54 tw_0_28 tw_1_7 tw_6_55 hy_X9_isStreet ⟨Nat.le_of_ble_eq_true rfl, Nat.le_of_ble_eq_true rfl⟩ (As := [Value.int x1]) (rest := []) (c_X9_isStreet l D cy x0 x1 S _ h) rfl rfl (by simp [va_cat, vi_cat, vl_cat]) dX9_surface_2 ⟨Nat.le_of_ble_eq_true rfl, Nat.le_of_ble_eq_true rfl⟩ (fun r27 S26 h => ?_)
  obtain ⟨hb28, h⟩ := h
  refine G_istore_n C (i := 2) (lv' := [(2, Value.int r27), (0, va_rf (some x0)), (1, Value.int x1)]) dX9_surface_5 rfl (by decide) (by first | rfl | simp [va_cat, vi_cat, vl_cat]) ?_
  refine G_aload_n C (x := (some x0)) 1 dX9_surface_6 rfl rfl ?_
  refine G_iload_n C (x := r27) 0 dX9_surface_7 rfl rfl ?_
  refine G_if_ne C (tgt := 15) dX9_surface_8 (by decide) (fun hc => ?_) (fun hc => ?_)
  · have h := h.1 hc
    refine G_aload_n C (x := (some x0)) 1 dX9_surface_15 rfl rfl ?_
    refine G_iload_n C (x := x1) 2 dX9_surface_16 rfl rfl ?_
    obtain ⟨hk29, h⟩ := h
    refine G_callVi C hZ (Tf := TX9) (N := 50) hk29 (by decide) rfl tw_6_64 tw_6_66 tw_0_30 tw_1_7 tw_6_67 hy_X9_openIn ⟨Nat.le_of_ble_eq_true rfl, Nat.le_of_ble_eq_true rfl⟩ (As := [Value.int x1]) (rest := [va_rf (some x0)]) (c_X9_openIn l D cy x0 x1 S26 _ h) rfl rfl (by simp [va_cat, vi_cat, vl_cat]) dX9_surface_17 ⟨Nat.le_of_ble_eq_true rfl, Nat.le_of_ble_eq_true rfl⟩ (fun r31 S30 h => ?_)
    refine G_if_le C (tgt := 27) dX9_surface_20 (by decide) (fun hc => ?_) (fun hc => ?_)
    · have h := h.1 hc
      refine G_iconst C (v := 0) dX9_surface_27 (by decide) ?_
      refine G_lv C (lv' := [(0, va_rf (some x0)), (1, Value.int x1)]) [1, 2] rfl ?_
      exact J28 _ _ _ h
    · have h := h.2 hc
      refine G_iconst C (v := 2) dX9_surface_23 (by decide) ?_
      refine G_goto C (tgt := 28) dX9_surface_24 (by decide) ?_
      refine G_lv C (lv' := [(0, va_rf (some x0)), (1, Value.int x1)]) [1, 2] rfl ?_
      exact J28 _ _ _ h
  · have h := h.2 hc
    refine G_iconst C (v := 1) dX9_surface_11 (by decide) ?_
    refine G_goto C (tgt := 28) dX9_surface_12 (by decide) ?_
    refine G_lv C (lv' := [(0, va_rf (some x0)), (1, Value.int x1)]) [1, 2] rfl ?_
    exact J28 _ _ _ h
set_option maxHeartbeats 4000000 in
set_option maxRecDepth 100000 in
theorem c_X9_lastDay (l : Launch) (D : va_G) (cy : Nat → Nat) (x0 : Nat) (x1 : Int32) (S : PT) (post : Int32 → PT → Prop) (h : w_X9_lastDay x0 x1 S post) : Mi l yX9_lastDay (Wm yX9_lastDay prog_11_method_26_code 2 (Option.some Jvm.ClassFile.FieldType.int)) 0 0 D cy [va_rf (some x0), Value.int x1] S 0 0 post := by
  refine Mi_of (own := "TrenchboardModel") (by decide) rfl (by first | decide | simp [lg_sl, va_cat, vi_cat, vl_cat]) (fun p e s m below meth c A C hZ hr hin9 => ?_)
  refine G_lv C (lv' := [(0, va_rf (some x0)), (1, Value.int x1)]) [0, 1] (by first | rfl | simp [lv_pick, lv_args, va_cat, vi_cat, vl_cat]) ?_
  unfold w_X9_lastDay at h
  refine G_aload_n C (x := (some x0)) 0 dX9_lastDay_0 rfl rfl ?_
  obtain ⟨hk1, h⟩ := h
  refine G_get C (CC := RX9) (Tf := TX9) (N := 50) (k := 10) (i := 30) (v := va_rf (gP S 1030 x0)) hk1 (by decide) rfl (fin fwX9) (by decide) (im tw_5_158) rfl rfl dX9_lastDay_1 ?_
  refine G_iload_n C (x := x1) 1 dX9_lastDay_4 rfl rfl ?_
  obtain ⟨a2, ha3, h⟩ := h
  refine G_rf1 ha3 ?_
  obtain ⟨hk4, h⟩ := h
  obtain ⟨hi5, h⟩ := h
  refine G_iald C hk4 hi5 dX9_lastDay_5 ?_
  refine G_aload_n C (x := (some x0)) 0 dX9_lastDay_6 rfl rfl ?_
  refine G_get C (CC := RX9) (Tf := TX9) (N := 50) (k := 10) (i := 31) (v := va_rf (gP S 1031 x0)) hk1 (by decide) rfl (fin fwX9) (by decide) (im tw_5_159) rfl rfl dX9_lastDay_7 ?_
  refine G_iload_n C (x := x1) 1 dX9_lastDay_10 rfl rfl ?_
  obtain ⟨a6, ha7, h⟩ := h
  refine G_rf1 ha7 ?_
  obtain ⟨hk8, h⟩ := h
  obtain ⟨hi9, h⟩ := h
  refine G_iald C hk8 hi9 dX9_lastDay_11 ?_
  refine G_iadd C dX9_lastDay_12 ?_
  refine G_iconst C (v := 1) dX9_lastDay_13 (by decide) ?_
  refine G_isub C dX9_lastDay_14 ?_
  exact G_iret C (mc := 0) (ms := 0) (post := post) hr (Nat.le_of_ble_eq_true rfl) (Nat.le_of_ble_eq_true rfl) dX9_lastDay_15 h
set_option maxHeartbeats 4000000 in
set_option maxRecDepth 100000 in
theorem c_X9_lastOf (l : Launch) (D : va_G) (cy : Nat → Nat) (x0 : Nat) (x1 : Int32) (S : PT) (post : Int32 → PT → Prop) (h : w_X9_lastOf x0 x1 S post) : Mi l yX9_lastOf (Wm yX9_lastOf prog_11_method_27_code 3 (Option.some Jvm.ClassFile.FieldType.int)) 1 21 D cy [va_rf (some x0), Value.int x1] S 0 0 post := by
  refine Mi_of (own := "TrenchboardModel") (by decide) rfl (by first | decide | simp [lg_sl, va_cat, vi_cat, vl_cat]) (fun p e s m below meth c A C hZ hr hin9 => ?_)
  have J44 : ∀ (S : PT) (s0 : Int32), w_X9_lastOf_b44 x0 x1 post S s0 → G p l e { frames := 1, cells := 0, slots := 0, locals := 21 } s m [va_rf (some x0), Value.int x1].toArray below meth c D cy A s.heap 3 (QMi below D cy A [va_rf (some x0), Value.int x1] s 0 0 post) S 0 0 44 [] [Value.int s0] := by
    intro S s0 h
    unfold w_X9_lastOf_b44 at h
    exact G_iret C (mc := 0) (ms := 0) (post := post) hr (Nat.le_of_ble_eq_true rfl) (Nat.le_of_ble_eq_true rfl) dX9_lastOf_44 h
  have J27 : ∀ (S : PT) (s0 : Int32), w_X9_lastOf_b27 x0 x1 post S s0 → G p l e { frames := 1, cells := 0, slots := 0, locals := 21 } s m [va_rf (some x0), Value.int x1].toArray below meth c D cy A s.heap 3 (QMi below D cy A [va_rf (some x0), Value.int x1] s 0 0 post) S 0 0 27 [(0, va_rf (some x0)), (1, Value.int x1)] [Value.int s0] := by
    intro S s0 h
    unfold w_X9_lastOf_b27 at h
    refine G_istore_n C (i := 2) (lv' := [(2, Value.int s0), (0, va_rf (some x0)), (1, Value.int x1)]) dX9_lastOf_27 rfl (by decide) (by first | rfl | simp [va_cat, vi_cat, vl_cat]) ?_
    refine G_iload_n C (x := s0) 0 dX9_lastOf_28 rfl rfl ?_
    refine G_if_eq C (tgt := 39) dX9_lastOf_29 (by decide) (fun hc => ?_) (fun hc => ?_)
    · have h := h.1 hc
      refine G_aload_n C (x := (some x0)) 1 dX9_lastOf_39 rfl rfl ?_
      refine G_iload_n C (x := x1) 2 dX9_lastOf_40 rfl rfl ?_
      obtain ⟨hk1, h⟩ := h
      refine G_callVi C hZ (Tf := TX9) (N := 50) hk1 (by decide) rfl tw_6_84 tw_6_86 tw_0_34 tw_1_7 tw_6_87 hy_X9_lastDay ⟨Nat.le_of_ble_eq_true rfl, Nat.le_of_ble_eq_true rfl⟩ (As := [Value.int x1]) (rest := []) (c_X9_lastDay l D cy x0 x1 S _ h) rfl rfl (by simp [va_cat, vi_cat, vl_cat]) dX9_lastOf_41 ⟨Nat.le_of_ble_eq_true rfl, Nat.le_of_ble_eq_true rfl⟩ (fun r3 S2 h => ?_)
      refine G_lv C (lv' := []) [] rfl ?_
      exact J44 _ _ h
    · have h := h.2 hc
      refine G_aload_n C (x := (some x0)) 1 dX9_lastOf_32 rfl rfl ?_
      obtain ⟨hk4, h⟩ := h
      refine G_callVi C hZ (Tf := TX9) (N := 50) hk4 (by decide) rfl tw_6_68 tw_6_70 tw_0_31 tw_1_7 tw_6_71 hy_X9_today ⟨Nat.le_of_ble_eq_true rfl, Nat.le_of_ble_eq_true rfl⟩ (As := []) (rest := []) (c_X9_today l D cy x0 S _ h) rfl rfl (by simp [va_cat, vi_cat, vl_cat]) dX9_lastOf_33 ⟨Nat.le_of_ble_eq_true rfl, Nat.le_of_ble_eq_true rfl⟩ (fun r6 S5 h => ?_)
      refine G_goto C (tgt := 44) dX9_lastOf_36 (by decide) ?_
      refine G_lv C (lv' := []) [] rfl ?_
      exact J44 _ _ h
  have J26 : ∀ (S : PT), w_X9_lastOf_b26 x0 x1 post S → G p l e { frames := 1, cells := 0, slots := 0, locals := 21 } s m [va_rf (some x0), Value.int x1].toArray below meth c D cy A s.heap 3 (QMi below D cy A [va_rf (some x0), Value.int x1] s 0 0 post) S 0 0 26 [(0, va_rf (some x0)), (1, Value.int x1)] [] := by
    intro S h
    unfold w_X9_lastOf_b26 at h
    refine G_iconst C (v := 0) dX9_lastOf_26 (by decide) ?_
    refine G_lv C (lv' := [(0, va_rf (some x0)), (1, Value.int x1)]) [0, 1] rfl ?_
    exact J27 _ _ h
  refine G_lv C (lv' := [(0, va_rf (some x0)), (1, Value.int x1)]) [0, 1] (by first | rfl | simp [lv_pick, lv_args, va_cat, vi_cat, vl_cat]) ?_
  unfold w_X9_lastOf at h
  refine G_aload_n C (x := (some x0)) 0 dX9_lastOf_0 rfl rfl ?_
  obtain ⟨hk7, h⟩ := h
  refine G_get C (CC := RX9) (Tf := TX9) (N := 50) (k := 10) (i := 33) (v := va_rf (gP S 1033 x0)) hk7 (by decide) rfl (fin fwX9) (by decide) (im tw_5_161) rfl rfl dX9_lastOf_1 ?_
  refine G_iload_n C (x := x1) 1 dX9_lastOf_4 rfl rfl ?_
  obtain ⟨a8, ha9, h⟩ := h
  refine G_rf1 ha9 ?_
  obtain ⟨hk10, h⟩ := h
  obtain ⟨hi11, h⟩ := h
  refine G_iald C hk10 hi11 dX9_lastOf_5 ?_
  refine G_iconst C (v := 3) dX9_lastOf_6 (by decide) ?_
  refine G_icmp_ne C (tgt := 26) dX9_lastOf_7 (by decide) (fun hc => ?_) (fun hc => ?_)
  · have h := h.1 hc
    refine G_lv C (lv' := [(0, va_rf (some x0)), (1, Value.int x1)]) [0, 1] rfl ?_
    exact J26 _ h
  · have h := h.2 hc
    refine G_aload_n C (x := (some x0)) 0 dX9_lastOf_10 rfl rfl ?_
    refine G_iload_n C (x := x1) 1 dX9_lastOf_11 rfl rfl ?_
    refine G_callVi C hZ (Tf := TX9) (N := 50) hk7 (by decide) rfl tw_6_84 tw_6_86 tw_0_34 tw_1_7 tw_6_87 hy_X9_lastDay ⟨Nat.le_of_ble_eq_true rfl, Nat.le_of_ble_eq_true rfl⟩ (As := [Value.int x1]) (rest := []) (c_X9_lastDay l D cy x0 x1 S _ h) rfl rfl (by simp [va_cat, vi_cat, vl_cat]) dX9_lastOf_12 ⟨Nat.le_of_ble_eq_true rfl, Nat.le_of_ble_eq_true rfl⟩ (fun r13 S12 h => ?_)
    refine G_aload_n C (x := (some x0)) 0 dX9_lastOf_15 rfl rfl ?_
    obtain ⟨hk14, h⟩ := h
    refine G_callVi C hZ (Tf := TX9) (N := 50) hk14 (by decide) rfl tw_6_68 tw_6_70 tw_0_31 tw_1_7 tw_6_71 hy_X9_today ⟨Nat.le_of_ble_eq_true rfl, Nat.le_of_ble_eq_true rfl⟩ (As := []) (rest := [Value.int r13]) (c_X9_today l D cy x0 S12 _ h) rfl rfl (by simp [va_cat, vi_cat, vl_cat]) dX9_lastOf_16 ⟨Nat.le_of_ble_eq_true rfl, Nat.le_of_ble_eq_true rfl⟩ (fun r16 S15 h => ?_)
    refine G_icmp_ge C (tgt := 26) dX9_lastOf_19 (by decide) (fun hc => ?_) (fun hc => ?_)
    · have h := h.1 hc
      refine G_lv C (lv' := [(0, va_rf (some x0)), (1, Value.int x1)]) [0, 1] rfl ?_
      exact J26 _ h
    · have h := h.2 hc
      refine G_iconst C (v := 1) dX9_lastOf_22 (by decide) ?_
      refine G_goto C (tgt := 27) dX9_lastOf_23 (by decide) ?_
      refine G_lv C (lv' := [(0, va_rf (some x0)), (1, Value.int x1)]) [0, 1] rfl ?_
      exact J27 _ _ h
set_option maxHeartbeats 4000000 in
set_option maxRecDepth 100000 in
theorem c_X9_hasDay (l : Launch) (D : va_G) (cy : Nat → Nat) (x0 : Nat) (x1 : Int32) (x2 : Int32) (x3 : Int32) (S : PT) (post : Int32 → PT → Prop) (h : w_X9_hasDay x0 x1 x2 x3 S post) : Mi l yX9_hasDay (Wm yX9_hasDay prog_11_method_28_code 4 (Option.some Jvm.ClassFile.FieldType.boolean)) 2 43 D cy [va_rf (some x0), Value.int x1, Value.int x2, Value.int x3] S 0 0 (fun r S => bo r ∧ post r S) := by
  refine Mi_of (own := "TrenchboardModel") (by decide) rfl (by first | decide | simp [lg_sl, va_cat, vi_cat, vl_cat]) (fun p e s m below meth c A C hZ hr hin9 => ?_)
  have J24 : ∀ (S : PT) (s0 : Int32), w_X9_hasDay_b24 x0 x1 x2 x3 post S s0 → G p l e { frames := 2, cells := 0, slots := 0, locals := 43 } s m [va_rf (some x0), Value.int x1, Value.int x2, Value.int x3].toArray below meth c D cy A s.heap 4 (QMi below D cy A [va_rf (some x0), Value.int x1, Value.int x2, Value.int x3] s 0 0 (fun r S => bo r ∧ post r S)) S 0 0 24 [] [Value.int s0] := by
    intro S s0 h
    unfold w_X9_hasDay_b24 at h
    obtain ⟨hb1, h⟩ := h
    exact G_zret C (mc := 0) (ms := 0) (post := (fun r S => bo r ∧ post r S)) (bo_nar hb1) hr (Nat.le_of_ble_eq_true rfl) (Nat.le_of_ble_eq_true rfl) dX9_hasDay_24 ⟨hb1, h⟩
  have J23 : ∀ (S : PT), w_X9_hasDay_b23 x0 x1 x2 x3 post S → G p l e { frames := 2, cells := 0, slots := 0, locals := 43 } s m [va_rf (some x0), Value.int x1, Value.int x2, Value.int x3].toArray below meth c D cy A s.heap 4 (QMi below D cy A [va_rf (some x0), Value.int x1, Value.int x2, Value.int x3] s 0 0 (fun r S => bo r ∧ post r S)) S 0 0 23 [] [] := by
    intro S h
    unfold w_X9_hasDay_b23 at h
    refine G_iconst C (v := 0) dX9_hasDay_23 (by decide) ?_
    refine G_lv C (lv' := []) [] rfl ?_
    exact J24 _ _ h
  refine G_lv C (lv' := [(0, va_rf (some x0)), (1, Value.int x1), (2, Value.int x2), (3, Value.int x3)]) [0, 1, 2, 3] (by first | rfl | simp [lv_pick, lv_args, va_cat, vi_cat, vl_cat]) ?_
  unfold w_X9_hasDay at h
  refine G_aload_n C (x := (some x0)) 0 dX9_hasDay_0 rfl rfl ?_
  obtain ⟨hk2, h⟩ := h
  refine G_get C (CC := RX9) (Tf := TX9) (N := 50) (k := 10) (i := 30) (v := va_rf (gP S 1030 x0)) hk2 (by decide) rfl (fin fwX9) (by decide) (im tw_5_158) rfl rfl dX9_hasDay_1 ?_
  refine G_iload_n C (x := x1) 1 dX9_hasDay_4 rfl rfl ?_
  obtain ⟨a3, ha4, h⟩ := h
  refine G_rf1 ha4 ?_
  obtain ⟨hk5, h⟩ := h
  obtain ⟨hi6, h⟩ := h
  refine G_iald C hk5 hi6 dX9_hasDay_5 ?_
  refine G_iload_n C (x := x3) 3 dX9_hasDay_6 rfl rfl ?_
  refine G_icmp_gt C (tgt := 23) dX9_hasDay_7 (by decide) (fun hc => ?_) (fun hc => ?_)
  · have h := h.1 hc
    refine G_lv C (lv' := []) [] rfl ?_
    exact J23 _ h
  · have h := h.2 hc
    refine G_iload_n C (x := x2) 2 dX9_hasDay_10 rfl rfl ?_
    refine G_aload_n C (x := (some x0)) 0 dX9_hasDay_11 rfl rfl ?_
    refine G_iload_n C (x := x1) 1 dX9_hasDay_12 rfl rfl ?_
    refine G_callVi C hZ (Tf := TX9) (N := 50) hk2 (by decide) rfl tw_6_80 tw_6_82 tw_0_33 tw_1_7 tw_6_83 hy_X9_lastOf ⟨Nat.le_of_ble_eq_true rfl, Nat.le_of_ble_eq_true rfl⟩ (As := [Value.int x1]) (rest := [Value.int x2]) (c_X9_lastOf l D cy x0 x1 S _ h) rfl rfl (by simp [va_cat, vi_cat, vl_cat]) dX9_hasDay_13 ⟨Nat.le_of_ble_eq_true rfl, Nat.le_of_ble_eq_true rfl⟩ (fun r8 S7 h => ?_)
    refine G_icmp_gt C (tgt := 23) dX9_hasDay_16 (by decide) (fun hc => ?_) (fun hc => ?_)
    · have h := h.1 hc
      refine G_lv C (lv' := []) [] rfl ?_
      exact J23 _ h
    · have h := h.2 hc
      refine G_iconst C (v := 1) dX9_hasDay_19 (by decide) ?_
      refine G_goto C (tgt := 24) dX9_hasDay_20 (by decide) ?_
      refine G_lv C (lv' := []) [] rfl ?_
      exact J24 _ _ h
set_option maxHeartbeats 4000000 in
set_option maxRecDepth 100000 in
theorem c_X9_embargo (l : Launch) (D : va_G) (cy : Nat → Nat) (x0 : Nat) (x1 : Int32) (x2 : Int32) (x3 : Int32) (S : PT) (post : Int32 → PT → Prop) (h : w_X9_embargo x0 x1 x2 x3 S post) : Mi l yX9_embargo (Wm yX9_embargo prog_11_method_16_code 7 (Option.some Jvm.ClassFile.FieldType.int)) 3 66 D cy [va_rf (some x0), Value.int x1, Value.int x2, Value.int x3] S 0 0 post := by
  refine Mi_of (own := "TrenchboardModel") (by decide) rfl (by first | decide | simp [lg_sl, va_cat, vi_cat, vl_cat]) (fun p e s m below meth c A C hZ hr hin9 => ?_)
  have J80 : ∀ (n : Nat) (S : PT) (v5 : Int32) (v6 : Int32), w_X9_embargo_l80 x0 x1 x2 x3 post n S v5 v6 → G p l e { frames := 3, cells := 0, slots := 0, locals := 66 } s m [va_rf (some x0), Value.int x1, Value.int x2, Value.int x3].toArray below meth c D cy A s.heap 7 (QMi below D cy A [va_rf (some x0), Value.int x1, Value.int x2, Value.int x3] s 0 0 post) S 0 0 80 [(0, va_rf (some x0)), (1, Value.int x1), (2, Value.int x2), (3, Value.int x3), (5, Value.int v5), (6, Value.int v6)] [] := by
    intro n80
    induction n80 with
    | zero => intro S v5 v6 h; rw [w_X9_embargo_l80] at h; exact False.elim h
    | succ n80 K80 =>
      have J129 : ∀ (S : PT) (v6 : Int32) (s0 : Int32) (s1 : Int32), w_X9_embargo_b129 x0 x1 x2 x3 post (w_X9_embargo_l80 x0 x1 x2 x3 post n80) S v6 s0 s1 → G p l e { frames := 3, cells := 0, slots := 0, locals := 66 } s m [va_rf (some x0), Value.int x1, Value.int x2, Value.int x3].toArray below meth c D cy A s.heap 7 (QMi below D cy A [va_rf (some x0), Value.int x1, Value.int x2, Value.int x3] s 0 0 post) S 0 0 129 [(0, va_rf (some x0)), (1, Value.int x1), (2, Value.int x2), (3, Value.int x3), (6, Value.int v6)] [Value.int s1, Value.int s0] := by
        intro S v6 s0 s1 h
        unfold w_X9_embargo_b129 at h
        refine G_iadd C dX9_embargo_129 ?_
        refine G_istore C (i := 5) (lv' := [(5, Value.int (s0 + s1)), (0, va_rf (some x0)), (1, Value.int x1), (2, Value.int x2), (3, Value.int x3), (6, Value.int v6)]) dX9_embargo_130 (by decide) (by first | rfl | simp [va_cat, vi_cat, vl_cat]) ?_
        refine G_iinc C (v := (v6 + 1)) (lv' := [(6, Value.int (v6 + 1)), (5, Value.int (s0 + s1)), (0, va_rf (some x0)), (1, Value.int x1), (2, Value.int x2), (3, Value.int x3)]) 5 dX9_embargo_132 rfl rfl (by decide) (by first | rfl | simp [va_cat, vi_cat, vl_cat]) ?_
        refine G_goto C (tgt := 80) dX9_embargo_135 (by decide) ?_
        refine G_lv C (lv' := [(0, va_rf (some x0)), (1, Value.int x1), (2, Value.int x2), (3, Value.int x3), (5, Value.int (s0 + s1)), (6, Value.int (v6 + 1))]) [2, 3, 4, 5, 1, 0] rfl ?_
        exact K80 _ _ _ h
      have J128 : ∀ (S : PT) (v6 : Int32) (s0 : Int32), w_X9_embargo_b128 x0 x1 x2 x3 post (w_X9_embargo_l80 x0 x1 x2 x3 post n80) S v6 s0 → G p l e { frames := 3, cells := 0, slots := 0, locals := 66 } s m [va_rf (some x0), Value.int x1, Value.int x2, Value.int x3].toArray below meth c D cy A s.heap 7 (QMi below D cy A [va_rf (some x0), Value.int x1, Value.int x2, Value.int x3] s 0 0 post) S 0 0 128 [(0, va_rf (some x0)), (1, Value.int x1), (2, Value.int x2), (3, Value.int x3), (6, Value.int v6)] [Value.int s0] := by
        intro S v6 s0 h
        unfold w_X9_embargo_b128 at h
        refine G_iconst C (v := 0) dX9_embargo_128 (by decide) ?_
        refine G_lv C (lv' := [(0, va_rf (some x0)), (1, Value.int x1), (2, Value.int x2), (3, Value.int x3), (6, Value.int v6)]) [0, 1, 2, 3, 4] rfl ?_
        exact J129 _ _ _ _ h
      intro S v5 v6 h
      rw [w_X9_embargo_l80] at h
      refine G_iload C (x := v6) 5 dX9_embargo_80 rfl ?_
      refine G_aload_n C (x := (some x0)) 0 dX9_embargo_82 rfl rfl ?_
      obtain ⟨hk1, h⟩ := h
      refine G_get C (CC := RX9) (Tf := TX9) (N := 50) (k := 10) (i := 23) (v := Value.int (gI S 1023 x0)) hk1 (by decide) rfl (fin fwX9) (by decide) (im tw_5_151) rfl rfl dX9_embargo_83 ?_
      refine G_icmp_ge C (tgt := 138) dX9_embargo_86 (by decide) (fun hc => ?_) (fun hc => ?_)
      · have h := h.1 hc
        refine G_iload C (x := v5) 4 dX9_embargo_138 rfl ?_
        exact G_iret C (mc := 0) (ms := 0) (post := post) hr (Nat.le_of_ble_eq_true rfl) (Nat.le_of_ble_eq_true rfl) dX9_embargo_140 h
      · have h := h.2 hc
        refine G_iload C (x := v5) 4 dX9_embargo_89 rfl ?_
        refine G_aload_n C (x := (some x0)) 0 dX9_embargo_91 rfl rfl ?_
        refine G_get C (CC := RX9) (Tf := TX9) (N := 50) (k := 10) (i := 25) (v := va_rf (gP S 1025 x0)) hk1 (by decide) rfl (fin fwX9) (by decide) (im tw_5_153) rfl rfl dX9_embargo_92 ?_
        refine G_iload C (x := v6) 5 dX9_embargo_95 rfl ?_
        obtain ⟨a2, ha3, h⟩ := h
        refine G_rf1 ha3 ?_
        obtain ⟨hk4, h⟩ := h
        obtain ⟨hi5, h⟩ := h
        refine G_iald C hk4 hi5 dX9_embargo_97 ?_
        refine G_iload_n C (x := x1) 1 dX9_embargo_98 rfl rfl ?_
        refine G_icmp_ne C (tgt := 128) dX9_embargo_99 (by decide) (fun hc => ?_) (fun hc => ?_)
        · have h := h.1 hc
          refine G_lv C (lv' := [(0, va_rf (some x0)), (1, Value.int x1), (2, Value.int x2), (3, Value.int x3), (6, Value.int v6)]) [0, 1, 2, 3, 5] rfl ?_
          exact J128 _ _ _ h
        · have h := h.2 hc
          refine G_aload_n C (x := (some x0)) 0 dX9_embargo_102 rfl rfl ?_
          refine G_get C (CC := RX9) (Tf := TX9) (N := 50) (k := 10) (i := 33) (v := va_rf (gP S 1033 x0)) hk1 (by decide) rfl (fin fwX9) (by decide) (im tw_5_161) rfl rfl dX9_embargo_103 ?_
          refine G_iload C (x := v6) 5 dX9_embargo_106 rfl ?_
          obtain ⟨a6, ha7, h⟩ := h
          refine G_rf1 ha7 ?_
          obtain ⟨hk8, h⟩ := h
          obtain ⟨hi9, h⟩ := h
          refine G_iald C hk8 hi9 dX9_embargo_108 ?_
          refine G_iconst C (v := 1) dX9_embargo_109 (by decide) ?_
          refine G_icmp_ne C (tgt := 128) dX9_embargo_110 (by decide) (fun hc => ?_) (fun hc => ?_)
          · have h := h.1 hc
            refine G_lv C (lv' := [(0, va_rf (some x0)), (1, Value.int x1), (2, Value.int x2), (3, Value.int x3), (6, Value.int v6)]) [0, 1, 2, 3, 5] rfl ?_
            exact J128 _ _ _ h
          · have h := h.2 hc
            refine G_aload_n C (x := (some x0)) 0 dX9_embargo_113 rfl rfl ?_
            refine G_iload C (x := v6) 5 dX9_embargo_114 rfl ?_
            refine G_iload_n C (x := x2) 2 dX9_embargo_116 rfl rfl ?_
            refine G_iload_n C (x := x3) 3 dX9_embargo_117 rfl rfl ?_
            refine G_callVi C hZ (Tf := TX9) (N := 50) hk1 (by decide) rfl tw_6_76 tw_6_78 tw_0_32 tw_1_7 tw_6_79 hy_X9_hasDay ⟨Nat.le_of_ble_eq_true rfl, Nat.le_of_ble_eq_true rfl⟩ (As := [Value.int v6, Value.int x2, Value.int x3]) (rest := [Value.int v5]) (c_X9_hasDay l D cy x0 v6 x2 x3 S _ h) rfl rfl (by simp [va_cat, vi_cat, vl_cat]) dX9_embargo_118 ⟨Nat.le_of_ble_eq_true rfl, Nat.le_of_ble_eq_true rfl⟩ (fun r11 S10 h => ?_)
            obtain ⟨hb12, h⟩ := h
            refine G_if_eq C (tgt := 128) dX9_embargo_121 (by decide) (fun hc => ?_) (fun hc => ?_)
            · have h := h.1 hc
              refine G_lv C (lv' := [(0, va_rf (some x0)), (1, Value.int x1), (2, Value.int x2), (3, Value.int x3), (6, Value.int v6)]) [0, 1, 2, 3, 5] rfl ?_
              exact J128 _ _ _ h
            · have h := h.2 hc
              refine G_iconst C (v := 1) dX9_embargo_124 (by decide) ?_
              refine G_goto C (tgt := 129) dX9_embargo_125 (by decide) ?_
              refine G_lv C (lv' := [(0, va_rf (some x0)), (1, Value.int x1), (2, Value.int x2), (3, Value.int x3), (6, Value.int v6)]) [0, 1, 2, 3, 5] rfl ?_
              exact J129 _ _ _ _ h
  have J52 : ∀ (S : PT) (s0 : Option Nat) (s1 : Int32), w_X9_embargo_b52 x0 x1 x2 x3 post S s0 s1 → G p l e { frames := 3, cells := 0, slots := 0, locals := 66 } s m [va_rf (some x0), Value.int x1, Value.int x2, Value.int x3].toArray below meth c D cy A s.heap 7 (QMi below D cy A [va_rf (some x0), Value.int x1, Value.int x2, Value.int x3] s 0 0 post) S 0 0 52 [(0, va_rf (some x0)), (1, Value.int x1), (2, Value.int x2), (3, Value.int x3)] [Value.int s1, va_rf s0] := by
    intro S s0 s1 h
    unfold w_X9_embargo_b52 at h
    obtain ⟨a13, ha14, h⟩ := h
    obtain ⟨hk15, h⟩ := h
    refine G_callVi C hZ (Tf := TX9) (N := 50) hk15 (by decide) rfl tw_6_56 tw_6_58 tw_0_29 tw_1_7 tw_6_59 hy_X9_goes ⟨Nat.le_of_ble_eq_true rfl, Nat.le_of_ble_eq_true rfl⟩ (As := [Value.int s1]) (rest := []) (c_X9_goes l D cy a13 s1 S _ h) rfl (by first | rfl | (simp only [ha14]; rfl) | simp only [ha14]) (by simp [va_cat, vi_cat, vl_cat]) dX9_embargo_52 ⟨Nat.le_of_ble_eq_true rfl, Nat.le_of_ble_eq_true rfl⟩ (fun r17 S16 h => ?_)
    obtain ⟨hb18, h⟩ := h
    refine G_if_ne C (tgt := 60) dX9_embargo_55 (by decide) (fun hc => ?_) (fun hc => ?_)
    · have h := h.1 hc
      refine G_aload_n C (x := (some x0)) 0 dX9_embargo_60 rfl rfl ?_
      obtain ⟨hk19, h⟩ := h
      refine G_get C (CC := RX9) (Tf := TX9) (N := 50) (k := 10) (i := 8) (v := va_rf (gP S16 1008 x0)) hk19 (by decide) rfl (fin fwX9) (by decide) (im tw_5_136) rfl rfl dX9_embargo_61 ?_
      refine G_iload_n C (x := x1) 1 dX9_embargo_64 rfl rfl ?_
      refine G_iload_n C (x := x2) 2 dX9_embargo_65 rfl rfl ?_
      obtain ⟨a20, ha21, h⟩ := h
      refine G_rf2 ha21 ?_
      obtain ⟨hk22, h⟩ := h
      obtain ⟨hi23, h⟩ := h
      refine G_iast C hk22 hi23 dX9_embargo_66 ?_
      generalize e25 : sA S16 a20 ((x1).toNatClampNeg) x2 = S24
      have h := h S24 e25.symm
      refine G_aload_n C (x := (some x0)) 0 dX9_embargo_67 rfl rfl ?_
      refine G_get C (CC := RX9) (Tf := TX9) (N := 50) (k := 10) (i := 9) (v := va_rf (gP S24 1009 x0)) (ksA e25.symm hk19) (by decide) rfl (fin fwX9) (by decide) (im tw_5_137) rfl rfl dX9_embargo_68 ?_
      refine G_iload_n C (x := x1) 1 dX9_embargo_71 rfl rfl ?_
      refine G_iload_n C (x := x3) 3 dX9_embargo_72 rfl rfl ?_
      obtain ⟨a26, ha27, h⟩ := h
      refine G_rf2 ha27 ?_
      obtain ⟨hk28, h⟩ := h
      obtain ⟨hi29, h⟩ := h
      refine G_iast C hk28 hi29 dX9_embargo_73 ?_
      generalize e31 : sA S24 a26 ((x1).toNatClampNeg) x3 = S30
      have h := h S30 e31.symm
      refine G_iconst C (v := 0) dX9_embargo_74 (by decide) ?_
      refine G_istore C (i := 5) (lv' := [(5, Value.int 0), (0, va_rf (some x0)), (1, Value.int x1), (2, Value.int x2), (3, Value.int x3)]) dX9_embargo_75 (by decide) (by first | rfl | simp [va_cat, vi_cat, vl_cat]) ?_
      refine G_iconst C (v := 0) dX9_embargo_77 (by decide) ?_
      refine G_istore C (i := 6) (lv' := [(6, Value.int 0), (5, Value.int 0), (0, va_rf (some x0)), (1, Value.int x1), (2, Value.int x2), (3, Value.int x3)]) dX9_embargo_78 (by decide) (by first | rfl | simp [va_cat, vi_cat, vl_cat]) ?_
      refine G_lv C (lv' := [(0, va_rf (some x0)), (1, Value.int x1), (2, Value.int x2), (3, Value.int x3), (5, Value.int 0), (6, Value.int 0)]) [2, 3, 4, 5, 1, 0] rfl ?_
      obtain ⟨n9, h⟩ := h
      exact J80 n9 _ _ _ h
    · have h := h.2 hc
      refine G_iconst C (v := 0) dX9_embargo_58 (by decide) ?_
      exact G_iret C (mc := 0) (ms := 0) (post := post) hr (Nat.le_of_ble_eq_true rfl) (Nat.le_of_ble_eq_true rfl) dX9_embargo_59 h
  have J27 : ∀ (S : PT) (s0 : Int32), w_X9_embargo_b27 x0 x1 x2 x3 post S s0 → G p l e { frames := 3, cells := 0, slots := 0, locals := 66 } s m [va_rf (some x0), Value.int x1, Value.int x2, Value.int x3].toArray below meth c D cy A s.heap 7 (QMi below D cy A [va_rf (some x0), Value.int x1, Value.int x2, Value.int x3] s 0 0 post) S 0 0 27 [(0, va_rf (some x0)), (1, Value.int x1), (2, Value.int x2), (3, Value.int x3)] [Value.int s0] := by
    intro S s0 h
    unfold w_X9_embargo_b27 at h
    refine G_istore C (i := 4) (lv' := [(4, Value.int s0), (0, va_rf (some x0)), (1, Value.int x1), (2, Value.int x2), (3, Value.int x3)]) dX9_embargo_27 (by decide) (by first | rfl | simp [va_cat, vi_cat, vl_cat]) ?_
    refine G_aload_n C (x := (some x0)) 1 dX9_embargo_29 rfl rfl ?_
    refine G_aload_n C (x := (some x0)) 1 dX9_embargo_30 rfl rfl ?_
    refine G_iload_n C (x := x1) 2 dX9_embargo_31 rfl rfl ?_
    obtain ⟨hk32, h⟩ := h
    refine G_callVi C hZ (Tf := TX9) (N := 50) hk32 (by decide) rfl tw_6_52 tw_6_54 tw_0_28 tw_1_7 tw_6_55 hy_X9_isStreet ⟨Nat.le_of_ble_eq_true rfl, Nat.le_of_ble_eq_true rfl⟩ (As := [Value.int x1]) (rest := [va_rf (some x0)]) (c_X9_isStreet l D cy x0 x1 S _ h) rfl rfl (by simp [va_cat, vi_cat, vl_cat]) dX9_embargo_32 ⟨Nat.le_of_ble_eq_true rfl, Nat.le_of_ble_eq_true rfl⟩ (fun r34 S33 h => ?_)
    obtain ⟨hb35, h⟩ := h
    refine G_if_ne C (tgt := 42) dX9_embargo_35 (by decide) (fun hc => ?_) (fun hc => ?_)
    · have h := h.1 hc
      refine G_iload C (x := s0) 0 dX9_embargo_42 rfl ?_
      refine G_if_eq C (tgt := 51) dX9_embargo_44 (by decide) (fun hc => ?_) (fun hc => ?_)
      · have h := h.1 hc
        refine G_iconst C (v := 2) dX9_embargo_51 (by decide) ?_
        refine G_lv C (lv' := [(0, va_rf (some x0)), (1, Value.int x1), (2, Value.int x2), (3, Value.int x3)]) [1, 2, 3, 4] rfl ?_
        exact J52 _ _ _ h
      · have h := h.2 hc
        refine G_iconst C (v := 0) dX9_embargo_47 (by decide) ?_
        refine G_goto C (tgt := 52) dX9_embargo_48 (by decide) ?_
        refine G_lv C (lv' := [(0, va_rf (some x0)), (1, Value.int x1), (2, Value.int x2), (3, Value.int x3)]) [1, 2, 3, 4] rfl ?_
        exact J52 _ _ _ h
    · have h := h.2 hc
      refine G_iconst C (v := 1) dX9_embargo_38 (by decide) ?_
      refine G_goto C (tgt := 52) dX9_embargo_39 (by decide) ?_
      refine G_lv C (lv' := [(0, va_rf (some x0)), (1, Value.int x1), (2, Value.int x2), (3, Value.int x3)]) [1, 2, 3, 4] rfl ?_
      exact J52 _ _ _ h
  have J26 : ∀ (S : PT), w_X9_embargo_b26 x0 x1 x2 x3 post S → G p l e { frames := 3, cells := 0, slots := 0, locals := 66 } s m [va_rf (some x0), Value.int x1, Value.int x2, Value.int x3].toArray below meth c D cy A s.heap 7 (QMi below D cy A [va_rf (some x0), Value.int x1, Value.int x2, Value.int x3] s 0 0 post) S 0 0 26 [(0, va_rf (some x0)), (1, Value.int x1), (2, Value.int x2), (3, Value.int x3)] [] := by
    intro S h
    unfold w_X9_embargo_b26 at h
    refine G_iconst C (v := 0) dX9_embargo_26 (by decide) ?_
    refine G_lv C (lv' := [(0, va_rf (some x0)), (1, Value.int x1), (2, Value.int x2), (3, Value.int x3)]) [0, 1, 2, 3] rfl ?_
    exact J27 _ _ h
  refine G_lv C (lv' := [(0, va_rf (some x0)), (1, Value.int x1), (2, Value.int x2), (3, Value.int x3)]) [0, 1, 2, 3] (by first | rfl | simp [lv_pick, lv_args, va_cat, vi_cat, vl_cat]) ?_
  unfold w_X9_embargo at h
  refine G_iload_n C (x := x2) 2 dX9_embargo_0 rfl rfl ?_
  refine G_iconst C (v := 0) dX9_embargo_1 (by decide) ?_
  refine G_sipush C (v := 999) dX9_embargo_2 (by decide) ?_
  refine G_callSi C hZ tw_6_49 tw_6_50 tw_1_7 tw_6_51 hy_X9_isIn ⟨Nat.le_of_ble_eq_true rfl, Nat.le_of_ble_eq_true rfl⟩ (As := [Value.int x2, Value.int 0, Value.int 999]) (rest := []) (c_X9_isIn l D cy x2 0 999 S _ h) rfl rfl (by simp [va_cat, vi_cat, vl_cat]) dX9_embargo_5 ⟨Nat.le_of_ble_eq_true rfl, Nat.le_of_ble_eq_true rfl⟩ (fun r37 S36 h => ?_)
  obtain ⟨hb38, h⟩ := h
  refine G_if_eq C (tgt := 26) dX9_embargo_8 (by decide) (fun hc => ?_) (fun hc => ?_)
  · have h := h.1 hc
    refine G_lv C (lv' := [(0, va_rf (some x0)), (1, Value.int x1), (2, Value.int x2), (3, Value.int x3)]) [0, 1, 2, 3] rfl ?_
    exact J26 _ h
  · have h := h.2 hc
    refine G_iload_n C (x := x3) 3 dX9_embargo_11 rfl rfl ?_
    refine G_iload_n C (x := x2) 2 dX9_embargo_12 rfl rfl ?_
    refine G_sipush C (v := 999) dX9_embargo_13 (by decide) ?_
    refine G_callSi C hZ tw_6_49 tw_6_50 tw_1_7 tw_6_51 hy_X9_isIn ⟨Nat.le_of_ble_eq_true rfl, Nat.le_of_ble_eq_true rfl⟩ (As := [Value.int x3, Value.int x2, Value.int 999]) (rest := []) (c_X9_isIn l D cy x3 x2 999 S36 _ h) rfl rfl (by simp [va_cat, vi_cat, vl_cat]) dX9_embargo_16 ⟨Nat.le_of_ble_eq_true rfl, Nat.le_of_ble_eq_true rfl⟩ (fun r40 S39 h => ?_)
    obtain ⟨hb41, h⟩ := h
    refine G_if_eq C (tgt := 26) dX9_embargo_19 (by decide) (fun hc => ?_) (fun hc => ?_)
    · have h := h.1 hc
      refine G_lv C (lv' := [(0, va_rf (some x0)), (1, Value.int x1), (2, Value.int x2), (3, Value.int x3)]) [0, 1, 2, 3] rfl ?_
      exact J26 _ h
    · have h := h.2 hc
      refine G_iconst C (v := 1) dX9_embargo_22 (by decide) ?_
      refine G_goto C (tgt := 27) dX9_embargo_23 (by decide) ?_
      refine G_lv C (lv' := [(0, va_rf (some x0)), (1, Value.int x1), (2, Value.int x2), (3, Value.int x3)]) [0, 1, 2, 3] rfl ?_
      exact J27 _ _ h
set_option maxHeartbeats 4000000 in
set_option maxRecDepth 100000 in
theorem c_X9_thing (l : Launch) (D : va_G) (cy : Nat → Nat) (x0 : Nat) (x1 : Int32) (x2 : Int32) (x3 : Int32) (x4 : Int32) (x5 : Int32) (S : PT) (post : Int32 → PT → Prop) (h : w_X9_thing x0 x1 x2 x3 x4 x5 S post) : Mi l yX9_thing (Wm yX9_thing prog_11_method_17_code 9 (Option.some Jvm.ClassFile.FieldType.int)) 3 65 D cy [va_rf (some x0), Value.int x1, Value.int x2, Value.int x3, Value.int x4, Value.int x5] S 0 0 post := by
  refine Mi_of (own := "TrenchboardModel") (by decide) rfl (by first | decide | simp [lg_sl, va_cat, vi_cat, vl_cat]) (fun p e s m below meth c A C hZ hr hin9 => ?_)
  have J155 : ∀ (n : Nat) (S : PT) (v8 : Int32), w_X9_thing_l155 x0 x1 x2 x3 x4 x5 post n S v8 → G p l e { frames := 3, cells := 0, slots := 0, locals := 65 } s m [va_rf (some x0), Value.int x1, Value.int x2, Value.int x3, Value.int x4, Value.int x5].toArray below meth c D cy A s.heap 9 (QMi below D cy A [va_rf (some x0), Value.int x1, Value.int x2, Value.int x3, Value.int x4, Value.int x5] s 0 0 post) S 0 0 155 [(0, va_rf (some x0)), (2, Value.int x2), (4, Value.int x4), (8, Value.int v8)] [] := by
    intro n155
    induction n155 with
    | zero => intro S v8 h; rw [w_X9_thing_l155] at h; exact False.elim h
    | succ n155 K155 =>
      intro S v8 h
      rw [w_X9_thing_l155] at h
      refine G_iload C (x := v8) 3 dX9_thing_155 rfl ?_
      refine G_iload C (x := x4) 2 dX9_thing_157 rfl ?_
      refine G_icmp_gt C (tgt := 181) dX9_thing_159 (by decide) (fun hc => ?_) (fun hc => ?_)
      · have h := h.1 hc
        refine G_aload_n C (x := (some x0)) 0 dX9_thing_181 rfl rfl ?_
        refine G_dup C dX9_thing_182 (va_cat _) ?_
        obtain ⟨hk1, h⟩ := h
        refine G_get C (CC := RX9) (Tf := TX9) (N := 50) (k := 10) (i := 14) (v := Value.int (gI S 1014 x0)) hk1 (by decide) rfl (fin fwX9) (by decide) (im tw_5_142) rfl rfl dX9_thing_183 ?_
        refine G_iconst C (v := 1) dX9_thing_186 (by decide) ?_
        refine G_iadd C dX9_thing_187 ?_
        refine G_putI C (CC := RX9) (Tf := TX9) (N := 50) (k := 10) (i := 14) (f := 1014) (x := ((gI S 1014 x0) + 1)) (ty0 := tyX9) (ty := .int) hk1 (by decide) rfl (fin fwX9) tyX9_ok nmX9 (by decide) (im tw_5_142) rfl rfl rfl rfl rfl rfl rfl dX9_thing_188 ?_
        generalize e3 : sI S 1014 x0 ((gI S 1014 x0) + 1) = S2
        have h := h S2 e3.symm
        refine G_aload_n C (x := (some x0)) 0 dX9_thing_191 rfl rfl ?_
        refine G_get C (CC := RX9) (Tf := TX9) (N := 50) (k := 10) (i := 14) (v := Value.int (gI S2 1014 x0)) (ksI e3.symm hk1) (by decide) rfl (fin fwX9) (by decide) (im tw_5_142) rfl rfl dX9_thing_192 ?_
        refine G_iconst C (v := 1) dX9_thing_195 (by decide) ?_
        refine G_isub C dX9_thing_196 ?_
        exact G_iret C (mc := 0) (ms := 0) (post := post) hr (Nat.le_of_ble_eq_true rfl) (Nat.le_of_ble_eq_true rfl) dX9_thing_197 h
      · have h := h.2 hc
        refine G_aload_n C (x := (some x0)) 0 dX9_thing_162 rfl rfl ?_
        obtain ⟨hk4, h⟩ := h
        refine G_get C (CC := RX9) (Tf := TX9) (N := 50) (k := 10) (i := 12) (v := va_rf (gP S 1012 x0)) hk4 (by decide) rfl (fin fwX9) (by decide) (im tw_5_140) rfl rfl dX9_thing_163 ?_
        refine G_bipush C (v := 40) dX9_thing_166 (by decide) ?_
        refine G_iload_n C (x := x2) 1 dX9_thing_168 rfl rfl ?_
        refine G_imul C dX9_thing_169 ?_
        refine G_iload C (x := v8) 3 dX9_thing_170 rfl ?_
        refine G_iadd C dX9_thing_172 ?_
        refine G_iconst C (v := 0) dX9_thing_173 (by decide) ?_
        obtain ⟨a5, ha6, h⟩ := h
        refine G_rf2 ha6 ?_
        obtain ⟨hk7, h⟩ := h
        obtain ⟨hi8, h⟩ := h
        refine G_zast C hk7 bo_0 hi8 dX9_thing_174 ?_
        generalize e10 : sA S a5 ((((40 * x2) + v8)).toNatClampNeg) 0 = S9
        have h := h S9 e10.symm
        refine G_iinc C (v := (v8 + 1)) (lv' := [(8, Value.int (v8 + 1)), (0, va_rf (some x0)), (2, Value.int x2), (4, Value.int x4)]) 3 dX9_thing_175 rfl rfl (by decide) (by first | rfl | simp [va_cat, vi_cat, vl_cat]) ?_
        refine G_goto C (tgt := 155) dX9_thing_178 (by decide) ?_
        refine G_lv C (lv' := [(0, va_rf (some x0)), (2, Value.int x2), (4, Value.int x4), (8, Value.int (v8 + 1))]) [1, 2, 3, 0] rfl ?_
        exact K155 _ _ h
  have J92 : ∀ (S : PT) (s0 : Option Nat) (s1 : Int32), w_X9_thing_b92 x0 x1 x2 x3 x4 x5 post S s0 s1 → G p l e { frames := 3, cells := 0, slots := 0, locals := 65 } s m [va_rf (some x0), Value.int x1, Value.int x2, Value.int x3, Value.int x4, Value.int x5].toArray below meth c D cy A s.heap 9 (QMi below D cy A [va_rf (some x0), Value.int x1, Value.int x2, Value.int x3, Value.int x4, Value.int x5] s 0 0 post) S 0 0 92 [(0, va_rf (some x0)), (1, Value.int x1), (2, Value.int x2), (3, Value.int x3), (4, Value.int x4), (5, Value.int x5)] [Value.int s1, va_rf s0] := by
    intro S s0 s1 h
    unfold w_X9_thing_b92 at h
    obtain ⟨a11, ha12, h⟩ := h
    obtain ⟨hk13, h⟩ := h
    refine G_callVi C hZ (Tf := TX9) (N := 50) hk13 (by decide) rfl tw_6_56 tw_6_58 tw_0_29 tw_1_7 tw_6_59 hy_X9_goes ⟨Nat.le_of_ble_eq_true rfl, Nat.le_of_ble_eq_true rfl⟩ (As := [Value.int s1]) (rest := []) (c_X9_goes l D cy a11 s1 S _ h) rfl (by first | rfl | (simp only [ha12]; rfl) | simp only [ha12]) (by simp [va_cat, vi_cat, vl_cat]) dX9_thing_92 ⟨Nat.le_of_ble_eq_true rfl, Nat.le_of_ble_eq_true rfl⟩ (fun r15 S14 h => ?_)
    obtain ⟨hb16, h⟩ := h
    refine G_if_ne C (tgt := 100) dX9_thing_95 (by decide) (fun hc => ?_) (fun hc => ?_)
    · have h := h.1 hc
      refine G_aload_n C (x := (some x0)) 0 dX9_thing_100 rfl rfl ?_
      obtain ⟨hk17, h⟩ := h
      refine G_get C (CC := RX9) (Tf := TX9) (N := 50) (k := 10) (i := 15) (v := va_rf (gP S14 1015 x0)) hk17 (by decide) rfl (fin fwX9) (by decide) (im tw_5_143) rfl rfl dX9_thing_101 ?_
      refine G_aload_n C (x := (some x0)) 0 dX9_thing_104 rfl rfl ?_
      refine G_get C (CC := RX9) (Tf := TX9) (N := 50) (k := 10) (i := 14) (v := Value.int (gI S14 1014 x0)) hk17 (by decide) rfl (fin fwX9) (by decide) (im tw_5_142) rfl rfl dX9_thing_105 ?_
      refine G_iload_n C (x := x1) 1 dX9_thing_108 rfl rfl ?_
      obtain ⟨a18, ha19, h⟩ := h
      refine G_rf2 ha19 ?_
      obtain ⟨hk20, h⟩ := h
      obtain ⟨hi21, h⟩ := h
      refine G_iast C hk20 hi21 dX9_thing_109 ?_
      generalize e23 : sA S14 a18 (((gI S14 1014 x0)).toNatClampNeg) x1 = S22
      have h := h S22 e23.symm
      refine G_aload_n C (x := (some x0)) 0 dX9_thing_110 rfl rfl ?_
      refine G_get C (CC := RX9) (Tf := TX9) (N := 50) (k := 10) (i := 16) (v := va_rf (gP S22 1016 x0)) (ksA e23.symm hk17) (by decide) rfl (fin fwX9) (by decide) (im tw_5_144) rfl rfl dX9_thing_111 ?_
      refine G_aload_n C (x := (some x0)) 0 dX9_thing_114 rfl rfl ?_
      refine G_get C (CC := RX9) (Tf := TX9) (N := 50) (k := 10) (i := 14) (v := Value.int (gI S22 1014 x0)) (ksA e23.symm hk17) (by decide) rfl (fin fwX9) (by decide) (im tw_5_142) rfl rfl dX9_thing_115 ?_
      refine G_iload_n C (x := x2) 2 dX9_thing_118 rfl rfl ?_
      obtain ⟨a24, ha25, h⟩ := h
      refine G_rf2 ha25 ?_
      obtain ⟨hk26, h⟩ := h
      obtain ⟨hi27, h⟩ := h
      refine G_iast C hk26 hi27 dX9_thing_119 ?_
      generalize e29 : sA S22 a24 (((gI S22 1014 x0)).toNatClampNeg) x2 = S28
      have h := h S28 e29.symm
      refine G_aload_n C (x := (some x0)) 0 dX9_thing_120 rfl rfl ?_
      refine G_get C (CC := RX9) (Tf := TX9) (N := 50) (k := 10) (i := 17) (v := va_rf (gP S28 1017 x0)) (ksA e29.symm (ksA e23.symm hk17)) (by decide) rfl (fin fwX9) (by decide) (im tw_5_145) rfl rfl dX9_thing_121 ?_
      refine G_aload_n C (x := (some x0)) 0 dX9_thing_124 rfl rfl ?_
      refine G_get C (CC := RX9) (Tf := TX9) (N := 50) (k := 10) (i := 14) (v := Value.int (gI S28 1014 x0)) (ksA e29.symm (ksA e23.symm hk17)) (by decide) rfl (fin fwX9) (by decide) (im tw_5_142) rfl rfl dX9_thing_125 ?_
      refine G_iload_n C (x := x3) 3 dX9_thing_128 rfl rfl ?_
      obtain ⟨a30, ha31, h⟩ := h
      refine G_rf2 ha31 ?_
      obtain ⟨hk32, h⟩ := h
      obtain ⟨hi33, h⟩ := h
      refine G_iast C hk32 hi33 dX9_thing_129 ?_
      generalize e35 : sA S28 a30 (((gI S28 1014 x0)).toNatClampNeg) x3 = S34
      have h := h S34 e35.symm
      refine G_aload_n C (x := (some x0)) 0 dX9_thing_130 rfl rfl ?_
      refine G_get C (CC := RX9) (Tf := TX9) (N := 50) (k := 10) (i := 18) (v := va_rf (gP S34 1018 x0)) (ksA e35.symm (ksA e29.symm (ksA e23.symm hk17))) (by decide) rfl (fin fwX9) (by decide) (im tw_5_146) rfl rfl dX9_thing_131 ?_
      refine G_aload_n C (x := (some x0)) 0 dX9_thing_134 rfl rfl ?_
      refine G_get C (CC := RX9) (Tf := TX9) (N := 50) (k := 10) (i := 14) (v := Value.int (gI S34 1014 x0)) (ksA e35.symm (ksA e29.symm (ksA e23.symm hk17))) (by decide) rfl (fin fwX9) (by decide) (im tw_5_142) rfl rfl dX9_thing_135 ?_
      refine G_iload C (x := x4) 4 dX9_thing_138 rfl ?_
      obtain ⟨a36, ha37, h⟩ := h
      refine G_rf2 ha37 ?_
      obtain ⟨hk38, h⟩ := h
      obtain ⟨hi39, h⟩ := h
      refine G_iast C hk38 hi39 dX9_thing_140 ?_
      generalize e41 : sA S34 a36 (((gI S34 1014 x0)).toNatClampNeg) x4 = S40
      have h := h S40 e41.symm
      refine G_aload_n C (x := (some x0)) 0 dX9_thing_141 rfl rfl ?_
      refine G_get C (CC := RX9) (Tf := TX9) (N := 50) (k := 10) (i := 19) (v := va_rf (gP S40 1019 x0)) (ksA e41.symm (ksA e35.symm (ksA e29.symm (ksA e23.symm hk17)))) (by decide) rfl (fin fwX9) (by decide) (im tw_5_147) rfl rfl dX9_thing_142 ?_
      refine G_aload_n C (x := (some x0)) 0 dX9_thing_145 rfl rfl ?_
      refine G_get C (CC := RX9) (Tf := TX9) (N := 50) (k := 10) (i := 14) (v := Value.int (gI S40 1014 x0)) (ksA e41.symm (ksA e35.symm (ksA e29.symm (ksA e23.symm hk17)))) (by decide) rfl (fin fwX9) (by decide) (im tw_5_142) rfl rfl dX9_thing_146 ?_
      refine G_iload C (x := x5) 5 dX9_thing_149 rfl ?_
      obtain ⟨a42, ha43, h⟩ := h
      refine G_rf2 ha43 ?_
      obtain ⟨hk44, h⟩ := h
      obtain ⟨hi45, h⟩ := h
      refine G_iast C hk44 hi45 dX9_thing_151 ?_
      generalize e47 : sA S40 a42 (((gI S40 1014 x0)).toNatClampNeg) x5 = S46
      have h := h S46 e47.symm
      refine G_iload_n C (x := x3) 3 dX9_thing_152 rfl rfl ?_
      refine G_istore C (i := 8) (lv' := [(8, Value.int x3), (0, va_rf (some x0)), (1, Value.int x1), (2, Value.int x2), (3, Value.int x3), (4, Value.int x4), (5, Value.int x5)]) dX9_thing_153 (by decide) (by first | rfl | simp [va_cat, vi_cat, vl_cat]) ?_
      refine G_lv C (lv' := [(0, va_rf (some x0)), (2, Value.int x2), (4, Value.int x4), (8, Value.int x3)]) [1, 3, 5, 0] rfl ?_
      obtain ⟨n9, h⟩ := h
      exact J155 n9 _ _ h
    · have h := h.2 hc
      refine G_iconst C (v := 0) dX9_thing_98 (by decide) ?_
      exact G_iret C (mc := 0) (ms := 0) (post := post) hr (Nat.le_of_ble_eq_true rfl) (Nat.le_of_ble_eq_true rfl) dX9_thing_99 h
  have J57 : ∀ (S : PT) (v6 : Int32) (s0 : Int32), w_X9_thing_b57 x0 x1 x2 x3 x4 x5 post S v6 s0 → G p l e { frames := 3, cells := 0, slots := 0, locals := 65 } s m [va_rf (some x0), Value.int x1, Value.int x2, Value.int x3, Value.int x4, Value.int x5].toArray below meth c D cy A s.heap 9 (QMi below D cy A [va_rf (some x0), Value.int x1, Value.int x2, Value.int x3, Value.int x4, Value.int x5] s 0 0 post) S 0 0 57 [(0, va_rf (some x0)), (1, Value.int x1), (2, Value.int x2), (3, Value.int x3), (4, Value.int x4), (5, Value.int x5), (6, Value.int v6)] [Value.int s0] := by
    intro S v6 s0 h
    unfold w_X9_thing_b57 at h
    refine G_istore C (i := 7) (lv' := [(7, Value.int s0), (0, va_rf (some x0)), (1, Value.int x1), (2, Value.int x2), (3, Value.int x3), (4, Value.int x4), (5, Value.int x5), (6, Value.int v6)]) dX9_thing_57 (by decide) (by first | rfl | simp [va_cat, vi_cat, vl_cat]) ?_
    refine G_aload_n C (x := (some x0)) 1 dX9_thing_59 rfl rfl ?_
    refine G_iload C (x := v6) 7 dX9_thing_60 rfl ?_
    refine G_if_ne C (tgt := 69) dX9_thing_62 (by decide) (fun hc => ?_) (fun hc => ?_)
    · have h := h.1 hc
      refine G_iload C (x := s0) 0 dX9_thing_69 rfl ?_
      refine G_if_ne C (tgt := 78) dX9_thing_71 (by decide) (fun hc => ?_) (fun hc => ?_)
      · have h := h.1 hc
        refine G_aload_n C (x := (some x0)) 1 dX9_thing_78 rfl rfl ?_
        obtain ⟨hk48, h⟩ := h
        refine G_get C (CC := RX9) (Tf := TX9) (N := 50) (k := 10) (i := 14) (v := Value.int (gI S 1014 x0)) hk48 (by decide) rfl (fin fwX9) (by decide) (im tw_5_142) rfl rfl dX9_thing_79 ?_
        refine G_bipush C (v := 30) dX9_thing_82 (by decide) ?_
        refine G_icmp_ne C (tgt := 91) dX9_thing_84 (by decide) (fun hc => ?_) (fun hc => ?_)
        · have h := h.1 hc
          refine G_iconst C (v := 0) dX9_thing_91 (by decide) ?_
          refine G_lv C (lv' := [(0, va_rf (some x0)), (1, Value.int x1), (2, Value.int x2), (3, Value.int x3), (4, Value.int x4), (5, Value.int x5)]) [1, 2, 3, 4, 5, 6] rfl ?_
          exact J92 _ _ _ h
        · have h := h.2 hc
          refine G_iconst C (v := 3) dX9_thing_87 (by decide) ?_
          refine G_goto C (tgt := 92) dX9_thing_88 (by decide) ?_
          refine G_lv C (lv' := [(0, va_rf (some x0)), (1, Value.int x1), (2, Value.int x2), (3, Value.int x3), (4, Value.int x4), (5, Value.int x5)]) [1, 2, 3, 4, 5, 6] rfl ?_
          exact J92 _ _ _ h
      · have h := h.2 hc
        refine G_iconst C (v := 2) dX9_thing_74 (by decide) ?_
        refine G_goto C (tgt := 92) dX9_thing_75 (by decide) ?_
        refine G_lv C (lv' := [(0, va_rf (some x0)), (1, Value.int x1), (2, Value.int x2), (3, Value.int x3), (4, Value.int x4), (5, Value.int x5)]) [1, 2, 3, 4, 5, 6] rfl ?_
        exact J92 _ _ _ h
    · have h := h.2 hc
      refine G_iconst C (v := 1) dX9_thing_65 (by decide) ?_
      refine G_goto C (tgt := 92) dX9_thing_66 (by decide) ?_
      refine G_lv C (lv' := [(0, va_rf (some x0)), (1, Value.int x1), (2, Value.int x2), (3, Value.int x3), (4, Value.int x4), (5, Value.int x5)]) [1, 2, 3, 4, 5, 6] rfl ?_
      exact J92 _ _ _ h
  have J56 : ∀ (S : PT) (v6 : Int32), w_X9_thing_b56 x0 x1 x2 x3 x4 x5 post S v6 → G p l e { frames := 3, cells := 0, slots := 0, locals := 65 } s m [va_rf (some x0), Value.int x1, Value.int x2, Value.int x3, Value.int x4, Value.int x5].toArray below meth c D cy A s.heap 9 (QMi below D cy A [va_rf (some x0), Value.int x1, Value.int x2, Value.int x3, Value.int x4, Value.int x5] s 0 0 post) S 0 0 56 [(0, va_rf (some x0)), (1, Value.int x1), (2, Value.int x2), (3, Value.int x3), (4, Value.int x4), (5, Value.int x5), (6, Value.int v6)] [] := by
    intro S v6 h
    unfold w_X9_thing_b56 at h
    refine G_iconst C (v := 0) dX9_thing_56 (by decide) ?_
    refine G_lv C (lv' := [(0, va_rf (some x0)), (1, Value.int x1), (2, Value.int x2), (3, Value.int x3), (4, Value.int x4), (5, Value.int x5), (6, Value.int v6)]) [0, 1, 2, 3, 4, 5, 6] rfl ?_
    exact J57 _ _ _ h
  have J31 : ∀ (S : PT) (s0 : Int32), w_X9_thing_b31 x0 x1 x2 x3 x4 x5 post S s0 → G p l e { frames := 3, cells := 0, slots := 0, locals := 65 } s m [va_rf (some x0), Value.int x1, Value.int x2, Value.int x3, Value.int x4, Value.int x5].toArray below meth c D cy A s.heap 9 (QMi below D cy A [va_rf (some x0), Value.int x1, Value.int x2, Value.int x3, Value.int x4, Value.int x5] s 0 0 post) S 0 0 31 [(0, va_rf (some x0)), (1, Value.int x1), (2, Value.int x2), (3, Value.int x3), (4, Value.int x4), (5, Value.int x5)] [Value.int s0] := by
    intro S s0 h
    unfold w_X9_thing_b31 at h
    refine G_istore C (i := 6) (lv' := [(6, Value.int s0), (0, va_rf (some x0)), (1, Value.int x1), (2, Value.int x2), (3, Value.int x3), (4, Value.int x4), (5, Value.int x5)]) dX9_thing_31 (by decide) (by first | rfl | simp [va_cat, vi_cat, vl_cat]) ?_
    refine G_iload C (x := x4) 5 dX9_thing_33 rfl ?_
    refine G_iload_n C (x := x3) 4 dX9_thing_35 rfl rfl ?_
    refine G_icmp_lt C (tgt := 56) dX9_thing_36 (by decide) (fun hc => ?_) (fun hc => ?_)
    · have h := h.1 hc
      refine G_lv C (lv' := [(0, va_rf (some x0)), (1, Value.int x1), (2, Value.int x2), (3, Value.int x3), (4, Value.int x4), (5, Value.int x5), (6, Value.int s0)]) [1, 2, 3, 4, 5, 6, 0] rfl ?_
      exact J56 _ _ h
    · have h := h.2 hc
      refine G_iload C (x := x5) 6 dX9_thing_39 rfl ?_
      refine G_bipush C (v := 10) dX9_thing_41 (by decide) ?_
      refine G_sipush C (v := 300) dX9_thing_43 (by decide) ?_
      refine G_callSi C hZ tw_6_49 tw_6_50 tw_1_7 tw_6_51 hy_X9_isIn ⟨Nat.le_of_ble_eq_true rfl, Nat.le_of_ble_eq_true rfl⟩ (As := [Value.int x5, Value.int 10, Value.int 300]) (rest := []) (c_X9_isIn l D cy x5 10 300 S _ h) rfl rfl (by simp [va_cat, vi_cat, vl_cat]) dX9_thing_46 ⟨Nat.le_of_ble_eq_true rfl, Nat.le_of_ble_eq_true rfl⟩ (fun r50 S49 h => ?_)
      obtain ⟨hb51, h⟩ := h
      refine G_if_eq C (tgt := 56) dX9_thing_49 (by decide) (fun hc => ?_) (fun hc => ?_)
      · have h := h.1 hc
        refine G_lv C (lv' := [(0, va_rf (some x0)), (1, Value.int x1), (2, Value.int x2), (3, Value.int x3), (4, Value.int x4), (5, Value.int x5), (6, Value.int s0)]) [1, 2, 3, 4, 5, 6, 0] rfl ?_
        exact J56 _ _ h
      · have h := h.2 hc
        refine G_iconst C (v := 1) dX9_thing_52 (by decide) ?_
        refine G_goto C (tgt := 57) dX9_thing_53 (by decide) ?_
        refine G_lv C (lv' := [(0, va_rf (some x0)), (1, Value.int x1), (2, Value.int x2), (3, Value.int x3), (4, Value.int x4), (5, Value.int x5), (6, Value.int s0)]) [1, 2, 3, 4, 5, 6, 0] rfl ?_
        exact J57 _ _ _ h
  have J30 : ∀ (S : PT), w_X9_thing_b30 x0 x1 x2 x3 x4 x5 post S → G p l e { frames := 3, cells := 0, slots := 0, locals := 65 } s m [va_rf (some x0), Value.int x1, Value.int x2, Value.int x3, Value.int x4, Value.int x5].toArray below meth c D cy A s.heap 9 (QMi below D cy A [va_rf (some x0), Value.int x1, Value.int x2, Value.int x3, Value.int x4, Value.int x5] s 0 0 post) S 0 0 30 [(0, va_rf (some x0)), (1, Value.int x1), (2, Value.int x2), (3, Value.int x3), (4, Value.int x4), (5, Value.int x5)] [] := by
    intro S h
    unfold w_X9_thing_b30 at h
    refine G_iconst C (v := 0) dX9_thing_30 (by decide) ?_
    refine G_lv C (lv' := [(0, va_rf (some x0)), (1, Value.int x1), (2, Value.int x2), (3, Value.int x3), (4, Value.int x4), (5, Value.int x5)]) [0, 1, 2, 3, 4, 5] rfl ?_
    exact J31 _ _ h
  refine G_lv C (lv' := [(0, va_rf (some x0)), (1, Value.int x1), (2, Value.int x2), (3, Value.int x3), (4, Value.int x4), (5, Value.int x5)]) [0, 1, 2, 3, 4, 5] (by first | rfl | simp [lv_pick, lv_args, va_cat, vi_cat, vl_cat]) ?_
  unfold w_X9_thing at h
  refine G_iload_n C (x := x1) 1 dX9_thing_0 rfl rfl ?_
  refine G_callSi C hZ tw_6_92 tw_6_93 tw_1_7 tw_6_94 hy_X9_isPromoter ⟨Nat.le_of_ble_eq_true rfl, Nat.le_of_ble_eq_true rfl⟩ (As := [Value.int x1]) (rest := []) (c_X9_isPromoter l D cy x1 S _ h) rfl rfl (by simp [va_cat, vi_cat, vl_cat]) dX9_thing_1 ⟨Nat.le_of_ble_eq_true rfl, Nat.le_of_ble_eq_true rfl⟩ (fun r53 S52 h => ?_)
  obtain ⟨hb54, h⟩ := h
  refine G_if_eq C (tgt := 30) dX9_thing_4 (by decide) (fun hc => ?_) (fun hc => ?_)
  · have h := h.1 hc
    refine G_lv C (lv' := [(0, va_rf (some x0)), (1, Value.int x1), (2, Value.int x2), (3, Value.int x3), (4, Value.int x4), (5, Value.int x5)]) [0, 1, 2, 3, 4, 5] rfl ?_
    exact J30 _ h
  · have h := h.2 hc
    refine G_aload_n C (x := (some x0)) 0 dX9_thing_7 rfl rfl ?_
    refine G_iload_n C (x := x2) 2 dX9_thing_8 rfl rfl ?_
    refine G_iload_n C (x := x3) 3 dX9_thing_9 rfl rfl ?_
    obtain ⟨hk55, h⟩ := h
    refine G_callVi C hZ (Tf := TX9) (N := 50) hk55 (by decide) rfl tw_6_95 tw_6_97 tw_0_35 tw_1_7 tw_6_98 hy_X9_isMetre ⟨Nat.le_of_ble_eq_true rfl, Nat.le_of_ble_eq_true rfl⟩ (As := [Value.int x2, Value.int x3]) (rest := []) (c_X9_isMetre l D cy x0 x2 x3 S52 _ h) rfl rfl (by simp [va_cat, vi_cat, vl_cat]) dX9_thing_10 ⟨Nat.le_of_ble_eq_true rfl, Nat.le_of_ble_eq_true rfl⟩ (fun r57 S56 h => ?_)
    obtain ⟨hb58, h⟩ := h
    refine G_if_eq C (tgt := 30) dX9_thing_13 (by decide) (fun hc => ?_) (fun hc => ?_)
    · have h := h.1 hc
      refine G_lv C (lv' := [(0, va_rf (some x0)), (1, Value.int x1), (2, Value.int x2), (3, Value.int x3), (4, Value.int x4), (5, Value.int x5)]) [0, 1, 2, 3, 4, 5] rfl ?_
      exact J30 _ h
    · have h := h.2 hc
      refine G_aload_n C (x := (some x0)) 0 dX9_thing_16 rfl rfl ?_
      refine G_iload_n C (x := x2) 2 dX9_thing_17 rfl rfl ?_
      refine G_iload C (x := x4) 4 dX9_thing_18 rfl ?_
      obtain ⟨hk59, h⟩ := h
      refine G_callVi C hZ (Tf := TX9) (N := 50) hk59 (by decide) rfl tw_6_95 tw_6_97 tw_0_35 tw_1_7 tw_6_98 hy_X9_isMetre ⟨Nat.le_of_ble_eq_true rfl, Nat.le_of_ble_eq_true rfl⟩ (As := [Value.int x2, Value.int x4]) (rest := []) (c_X9_isMetre l D cy x0 x2 x4 S56 _ h) rfl rfl (by simp [va_cat, vi_cat, vl_cat]) dX9_thing_20 ⟨Nat.le_of_ble_eq_true rfl, Nat.le_of_ble_eq_true rfl⟩ (fun r61 S60 h => ?_)
      obtain ⟨hb62, h⟩ := h
      refine G_if_eq C (tgt := 30) dX9_thing_23 (by decide) (fun hc => ?_) (fun hc => ?_)
      · have h := h.1 hc
        refine G_lv C (lv' := [(0, va_rf (some x0)), (1, Value.int x1), (2, Value.int x2), (3, Value.int x3), (4, Value.int x4), (5, Value.int x5)]) [0, 1, 2, 3, 4, 5] rfl ?_
        exact J30 _ h
      · have h := h.2 hc
        refine G_iconst C (v := 1) dX9_thing_26 (by decide) ?_
        refine G_goto C (tgt := 31) dX9_thing_27 (by decide) ?_
        refine G_lv C (lv' := [(0, va_rf (some x0)), (1, Value.int x1), (2, Value.int x2), (3, Value.int x3), (4, Value.int x4), (5, Value.int x5)]) [0, 1, 2, 3, 4, 5] rfl ?_
        exact J31 _ _ h
set_option maxHeartbeats 4000000 in
set_option maxRecDepth 100000 in
theorem c_X9_isSuspectBy (l : Launch) (D : va_G) (cy : Nat → Nat) (x0 : Nat) (x1 : Int32) (x2 : Int32) (x3 : Int32) (S : PT) (post : Int32 → PT → Prop) (h : w_X9_isSuspectBy x0 x1 x2 x3 S post) : Mi l yX9_isSuspectBy (Wm yX9_isSuspectBy prog_11_method_18_code 4 (Option.some Jvm.ClassFile.FieldType.boolean)) 1 22 D cy [va_rf (some x0), Value.int x1, Value.int x2, Value.int x3] S 0 0 (fun r S => bo r ∧ post r S) := by
  refine Mi_of (own := "TrenchboardModel") (by decide) rfl (by first | decide | simp [lg_sl, va_cat, vi_cat, vl_cat]) (fun p e s m below meth c A C hZ hr hin9 => ?_)
  have J43 : ∀ (S : PT) (s0 : Int32), w_X9_isSuspectBy_b43 x0 x1 x2 x3 post S s0 → G p l e { frames := 1, cells := 0, slots := 0, locals := 22 } s m [va_rf (some x0), Value.int x1, Value.int x2, Value.int x3].toArray below meth c D cy A s.heap 4 (QMi below D cy A [va_rf (some x0), Value.int x1, Value.int x2, Value.int x3] s 0 0 (fun r S => bo r ∧ post r S)) S 0 0 43 [] [Value.int s0] := by
    intro S s0 h
    unfold w_X9_isSuspectBy_b43 at h
    obtain ⟨hb1, h⟩ := h
    exact G_zret C (mc := 0) (ms := 0) (post := (fun r S => bo r ∧ post r S)) (bo_nar hb1) hr (Nat.le_of_ble_eq_true rfl) (Nat.le_of_ble_eq_true rfl) dX9_isSuspectBy_43 ⟨hb1, h⟩
  have J42 : ∀ (S : PT), w_X9_isSuspectBy_b42 x0 x1 x2 x3 post S → G p l e { frames := 1, cells := 0, slots := 0, locals := 22 } s m [va_rf (some x0), Value.int x1, Value.int x2, Value.int x3].toArray below meth c D cy A s.heap 4 (QMi below D cy A [va_rf (some x0), Value.int x1, Value.int x2, Value.int x3] s 0 0 (fun r S => bo r ∧ post r S)) S 0 0 42 [] [] := by
    intro S h
    unfold w_X9_isSuspectBy_b42 at h
    refine G_iconst C (v := 0) dX9_isSuspectBy_42 (by decide) ?_
    refine G_lv C (lv' := []) [] rfl ?_
    exact J43 _ _ h
  refine G_lv C (lv' := [(0, va_rf (some x0)), (1, Value.int x1), (2, Value.int x2), (3, Value.int x3)]) [0, 1, 2, 3] (by first | rfl | simp [lv_pick, lv_args, va_cat, vi_cat, vl_cat]) ?_
  unfold w_X9_isSuspectBy at h
  refine G_aload_n C (x := (some x0)) 0 dX9_isSuspectBy_0 rfl rfl ?_
  obtain ⟨hk2, h⟩ := h
  refine G_get C (CC := RX9) (Tf := TX9) (N := 50) (k := 10) (i := 20) (v := va_rf (gP S 1020 x0)) hk2 (by decide) rfl (fin fwX9) (by decide) (im tw_5_148) rfl rfl dX9_isSuspectBy_1 ?_
  refine G_iload_n C (x := x1) 1 dX9_isSuspectBy_4 rfl rfl ?_
  obtain ⟨a3, ha4, h⟩ := h
  refine G_rf1 ha4 ?_
  obtain ⟨hk5, h⟩ := h
  obtain ⟨hi6, h⟩ := h
  refine G_zald C hk5 hi6 dX9_isSuspectBy_5 ?_
  refine G_if_eq C (tgt := 42) dX9_isSuspectBy_6 (by decide) (fun hc => ?_) (fun hc => ?_)
  · have h := h.1 hc
    refine G_lv C (lv' := []) [] rfl ?_
    exact J42 _ h
  · have h := h.2 hc
    refine G_aload_n C (x := (some x0)) 0 dX9_isSuspectBy_9 rfl rfl ?_
    refine G_get C (CC := RX9) (Tf := TX9) (N := 50) (k := 10) (i := 16) (v := va_rf (gP S 1016 x0)) hk2 (by decide) rfl (fin fwX9) (by decide) (im tw_5_144) rfl rfl dX9_isSuspectBy_10 ?_
    refine G_iload_n C (x := x1) 1 dX9_isSuspectBy_13 rfl rfl ?_
    obtain ⟨a7, ha8, h⟩ := h
    refine G_rf1 ha8 ?_
    obtain ⟨hk9, h⟩ := h
    obtain ⟨hi10, h⟩ := h
    refine G_iald C hk9 hi10 dX9_isSuspectBy_14 ?_
    refine G_iload_n C (x := x2) 2 dX9_isSuspectBy_15 rfl rfl ?_
    refine G_icmp_ne C (tgt := 42) dX9_isSuspectBy_16 (by decide) (fun hc => ?_) (fun hc => ?_)
    · have h := h.1 hc
      refine G_lv C (lv' := []) [] rfl ?_
      exact J42 _ h
    · have h := h.2 hc
      refine G_iload_n C (x := x3) 3 dX9_isSuspectBy_19 rfl rfl ?_
      refine G_aload_n C (x := (some x0)) 0 dX9_isSuspectBy_20 rfl rfl ?_
      refine G_get C (CC := RX9) (Tf := TX9) (N := 50) (k := 10) (i := 21) (v := va_rf (gP S 1021 x0)) hk2 (by decide) rfl (fin fwX9) (by decide) (im tw_5_149) rfl rfl dX9_isSuspectBy_21 ?_
      refine G_iload_n C (x := x1) 1 dX9_isSuspectBy_24 rfl rfl ?_
      obtain ⟨a11, ha12, h⟩ := h
      refine G_rf1 ha12 ?_
      obtain ⟨hk13, h⟩ := h
      obtain ⟨hi14, h⟩ := h
      refine G_iald C hk13 hi14 dX9_isSuspectBy_25 ?_
      refine G_aload_n C (x := (some x0)) 0 dX9_isSuspectBy_26 rfl rfl ?_
      refine G_get C (CC := RX9) (Tf := TX9) (N := 50) (k := 10) (i := 22) (v := va_rf (gP S 1022 x0)) hk2 (by decide) rfl (fin fwX9) (by decide) (im tw_5_150) rfl rfl dX9_isSuspectBy_27 ?_
      refine G_iload_n C (x := x1) 1 dX9_isSuspectBy_30 rfl rfl ?_
      obtain ⟨a15, ha16, h⟩ := h
      refine G_rf1 ha16 ?_
      obtain ⟨hk17, h⟩ := h
      obtain ⟨hi18, h⟩ := h
      refine G_iald C hk17 hi18 dX9_isSuspectBy_31 ?_
      refine G_callSi C hZ tw_6_49 tw_6_50 tw_1_7 tw_6_51 hy_X9_isIn ⟨Nat.le_of_ble_eq_true rfl, Nat.le_of_ble_eq_true rfl⟩ (As := [Value.int x3, Value.int (gA S a11 x1.toNatClampNeg), Value.int (gA S a15 x1.toNatClampNeg)]) (rest := []) (c_X9_isIn l D cy x3 (gA S a11 x1.toNatClampNeg) (gA S a15 x1.toNatClampNeg) S _ h) rfl rfl (by simp [va_cat, vi_cat, vl_cat]) dX9_isSuspectBy_32 ⟨Nat.le_of_ble_eq_true rfl, Nat.le_of_ble_eq_true rfl⟩ (fun r20 S19 h => ?_)
      obtain ⟨hb21, h⟩ := h
      refine G_if_eq C (tgt := 42) dX9_isSuspectBy_35 (by decide) (fun hc => ?_) (fun hc => ?_)
      · have h := h.1 hc
        refine G_lv C (lv' := []) [] rfl ?_
        exact J42 _ h
      · have h := h.2 hc
        refine G_iconst C (v := 1) dX9_isSuspectBy_38 (by decide) ?_
        refine G_goto C (tgt := 43) dX9_isSuspectBy_39 (by decide) ?_
        refine G_lv C (lv' := []) [] rfl ?_
        exact J43 _ _ h
set_option maxHeartbeats 4000000 in
set_option maxRecDepth 100000 in
theorem c_X9_suspects (l : Launch) (D : va_G) (cy : Nat → Nat) (x0 : Nat) (x1 : Int32) (S : PT) (post : Int32 → PT → Prop) (h : w_X9_suspects x0 x1 S post) : Mi l yX9_suspects (Wm yX9_suspects prog_11_method_19_code 4 (Option.some Jvm.ClassFile.FieldType.int)) 2 45 D cy [va_rf (some x0), Value.int x1] S 0 0 post := by
  refine Mi_of (own := "TrenchboardModel") (by decide) rfl (by first | decide | simp [lg_sl, va_cat, vi_cat, vl_cat]) (fun p e s m below meth c A C hZ hr hin9 => ?_)
  have J4 : ∀ (n : Nat) (S : PT) (v2 : Int32) (v3 : Int32), w_X9_suspects_l4 x0 x1 post n S v2 v3 → G p l e { frames := 2, cells := 0, slots := 0, locals := 45 } s m [va_rf (some x0), Value.int x1].toArray below meth c D cy A s.heap 4 (QMi below D cy A [va_rf (some x0), Value.int x1] s 0 0 post) S 0 0 4 [(0, va_rf (some x0)), (1, Value.int x1), (2, Value.int v2), (3, Value.int v3)] [] := by
    intro n4
    induction n4 with
    | zero => intro S v2 v3 h; rw [w_X9_suspects_l4] at h; exact False.elim h
    | succ n4 K4 =>
      have J40 : ∀ (S : PT) (v3 : Int32) (s0 : Int32) (s1 : Int32), w_X9_suspects_b40 x0 x1 post (w_X9_suspects_l4 x0 x1 post n4) S v3 s0 s1 → G p l e { frames := 2, cells := 0, slots := 0, locals := 45 } s m [va_rf (some x0), Value.int x1].toArray below meth c D cy A s.heap 4 (QMi below D cy A [va_rf (some x0), Value.int x1] s 0 0 post) S 0 0 40 [(0, va_rf (some x0)), (1, Value.int x1), (3, Value.int v3)] [Value.int s1, Value.int s0] := by
        intro S v3 s0 s1 h
        unfold w_X9_suspects_b40 at h
        refine G_iadd C dX9_suspects_40 ?_
        refine G_istore_n C (i := 2) (lv' := [(2, Value.int (s0 + s1)), (0, va_rf (some x0)), (1, Value.int x1), (3, Value.int v3)]) dX9_suspects_41 rfl (by decide) (by first | rfl | simp [va_cat, vi_cat, vl_cat]) ?_
        refine G_iinc C (v := (v3 + 1)) (lv' := [(3, Value.int (v3 + 1)), (2, Value.int (s0 + s1)), (0, va_rf (some x0)), (1, Value.int x1)]) 3 dX9_suspects_42 rfl rfl (by decide) (by first | rfl | simp [va_cat, vi_cat, vl_cat]) ?_
        refine G_goto C (tgt := 4) dX9_suspects_45 (by decide) ?_
        refine G_lv C (lv' := [(0, va_rf (some x0)), (1, Value.int x1), (2, Value.int (s0 + s1)), (3, Value.int (v3 + 1))]) [2, 3, 1, 0] rfl ?_
        exact K4 _ _ _ h
      intro S v2 v3 h
      rw [w_X9_suspects_l4] at h
      refine G_iload_n C (x := v3) 3 dX9_suspects_4 rfl rfl ?_
      refine G_aload_n C (x := (some x0)) 0 dX9_suspects_5 rfl rfl ?_
      obtain ⟨hk1, h⟩ := h
      refine G_get C (CC := RX9) (Tf := TX9) (N := 50) (k := 10) (i := 2) (v := va_rf (gP S 1002 x0)) hk1 (by decide) rfl (fin fwX9) (by decide) (im tw_5_130) rfl rfl dX9_suspects_6 ?_
      refine G_aload_n C (x := (some x0)) 0 dX9_suspects_9 rfl rfl ?_
      refine G_get C (CC := RX9) (Tf := TX9) (N := 50) (k := 10) (i := 16) (v := va_rf (gP S 1016 x0)) hk1 (by decide) rfl (fin fwX9) (by decide) (im tw_5_144) rfl rfl dX9_suspects_10 ?_
      refine G_iload_n C (x := x1) 1 dX9_suspects_13 rfl rfl ?_
      obtain ⟨a2, ha3, h⟩ := h
      refine G_rf1 ha3 ?_
      obtain ⟨hk4, h⟩ := h
      obtain ⟨hi5, h⟩ := h
      refine G_iald C hk4 hi5 dX9_suspects_14 ?_
      obtain ⟨a6, ha7, h⟩ := h
      refine G_rf1 ha7 ?_
      obtain ⟨hk8, h⟩ := h
      obtain ⟨hi9, h⟩ := h
      refine G_iald C hk8 hi9 dX9_suspects_15 ?_
      refine G_icmp_ge C (tgt := 48) dX9_suspects_16 (by decide) (fun hc => ?_) (fun hc => ?_)
      · have h := h.1 hc
        refine G_iload_n C (x := v2) 2 dX9_suspects_48 rfl rfl ?_
        exact G_iret C (mc := 0) (ms := 0) (post := post) hr (Nat.le_of_ble_eq_true rfl) (Nat.le_of_ble_eq_true rfl) dX9_suspects_49 h
      · have h := h.2 hc
        refine G_iload_n C (x := v2) 2 dX9_suspects_19 rfl rfl ?_
        refine G_aload_n C (x := (some x0)) 0 dX9_suspects_20 rfl rfl ?_
        refine G_iload_n C (x := x1) 1 dX9_suspects_21 rfl rfl ?_
        refine G_aload_n C (x := (some x0)) 0 dX9_suspects_22 rfl rfl ?_
        refine G_get C (CC := RX9) (Tf := TX9) (N := 50) (k := 10) (i := 16) (v := va_rf (gP S 1016 x0)) hk1 (by decide) rfl (fin fwX9) (by decide) (im tw_5_144) rfl rfl dX9_suspects_23 ?_
        refine G_iload_n C (x := x1) 1 dX9_suspects_26 rfl rfl ?_
        refine G_rf1 ha3 ?_
        obtain ⟨hi10, h⟩ := h
        refine G_iald C hk4 hi10 dX9_suspects_27 ?_
        refine G_iload_n C (x := v3) 3 dX9_suspects_28 rfl rfl ?_
        refine G_callVi C hZ (Tf := TX9) (N := 50) hk1 (by decide) rfl tw_6_115 tw_6_117 tw_0_39 tw_1_7 tw_6_118 hy_X9_isSuspectBy ⟨Nat.le_of_ble_eq_true rfl, Nat.le_of_ble_eq_true rfl⟩ (As := [Value.int x1, Value.int (gA S a2 x1.toNatClampNeg), Value.int v3]) (rest := [Value.int v2]) (c_X9_isSuspectBy l D cy x0 x1 (gA S a2 x1.toNatClampNeg) v3 S _ h) rfl rfl (by simp [va_cat, vi_cat, vl_cat]) dX9_suspects_29 ⟨Nat.le_of_ble_eq_true rfl, Nat.le_of_ble_eq_true rfl⟩ (fun r12 S11 h => ?_)
        obtain ⟨hb13, h⟩ := h
        refine G_if_eq C (tgt := 39) dX9_suspects_32 (by decide) (fun hc => ?_) (fun hc => ?_)
        · have h := h.1 hc
          refine G_iconst C (v := 0) dX9_suspects_39 (by decide) ?_
          refine G_lv C (lv' := [(0, va_rf (some x0)), (1, Value.int x1), (3, Value.int v3)]) [0, 1, 3] rfl ?_
          exact J40 _ _ _ _ h
        · have h := h.2 hc
          refine G_iconst C (v := 1) dX9_suspects_35 (by decide) ?_
          refine G_goto C (tgt := 40) dX9_suspects_36 (by decide) ?_
          refine G_lv C (lv' := [(0, va_rf (some x0)), (1, Value.int x1), (3, Value.int v3)]) [0, 1, 3] rfl ?_
          exact J40 _ _ _ _ h
  refine G_lv C (lv' := [(0, va_rf (some x0)), (1, Value.int x1)]) [0, 1] (by first | rfl | simp [lv_pick, lv_args, va_cat, vi_cat, vl_cat]) ?_
  unfold w_X9_suspects at h
  refine G_iconst C (v := 0) dX9_suspects_0 (by decide) ?_
  refine G_istore_n C (i := 2) (lv' := [(2, Value.int 0), (0, va_rf (some x0)), (1, Value.int x1)]) dX9_suspects_1 rfl (by decide) (by first | rfl | simp [va_cat, vi_cat, vl_cat]) ?_
  refine G_iconst C (v := 0) dX9_suspects_2 (by decide) ?_
  refine G_istore_n C (i := 3) (lv' := [(3, Value.int 0), (2, Value.int 0), (0, va_rf (some x0)), (1, Value.int x1)]) dX9_suspects_3 rfl (by decide) (by first | rfl | simp [va_cat, vi_cat, vl_cat]) ?_
  refine G_lv C (lv' := [(0, va_rf (some x0)), (1, Value.int x1), (2, Value.int 0), (3, Value.int 0)]) [2, 3, 1, 0] rfl ?_
  obtain ⟨n9, h⟩ := h
  exact J4 n9 _ _ _ h
set_option maxHeartbeats 4000000 in
set_option maxRecDepth 100000 in
theorem c_X9_records (l : Launch) (D : va_G) (cy : Nat → Nat) (x0 : Nat) (x1 : Int32) (x2 : Int32) (x3 : Int32) (x4 : Int32) (S : PT) (post : PT → Prop) (h : w_X9_records x0 x1 x2 x3 x4 S post) : Mv l yX9_records (Wm yX9_records prog_11_method_20_code 5 (Option.none : Option Jvm.ClassFile.FieldType)) 0 0 D cy [va_rf (some x0), Value.int x1, Value.int x2, Value.int x3, Value.int x4] S 0 0 post := by
  refine Mv_of (own := "TrenchboardModel") (by decide) rfl (by first | decide | simp [lg_sl, va_cat, vi_cat, vl_cat]) (fun p e s m below meth c A C hZ hr hin9 => ?_)
  refine G_lv C (lv' := [(0, va_rf (some x0)), (1, Value.int x1), (2, Value.int x2), (3, Value.int x3), (4, Value.int x4)]) [0, 1, 2, 3, 4] (by first | rfl | simp [lv_pick, lv_args, va_cat, vi_cat, vl_cat]) ?_
  unfold w_X9_records at h
  refine G_aload_n C (x := (some x0)) 0 dX9_records_0 rfl rfl ?_
  obtain ⟨hk1, h⟩ := h
  refine G_get C (CC := RX9) (Tf := TX9) (N := 50) (k := 10) (i := 20) (v := va_rf (gP S 1020 x0)) hk1 (by decide) rfl (fin fwX9) (by decide) (im tw_5_148) rfl rfl dX9_records_1 ?_
  refine G_iload_n C (x := x1) 1 dX9_records_4 rfl rfl ?_
  refine G_iconst C (v := 1) dX9_records_5 (by decide) ?_
  obtain ⟨a2, ha3, h⟩ := h
  refine G_rf2 ha3 ?_
  obtain ⟨hk4, h⟩ := h
  obtain ⟨hi5, h⟩ := h
  refine G_zast C hk4 bo_1 hi5 dX9_records_6 ?_
  generalize e7 : sA S a2 ((x1).toNatClampNeg) 1 = S6
  have h := h S6 e7.symm
  refine G_aload_n C (x := (some x0)) 0 dX9_records_7 rfl rfl ?_
  refine G_get C (CC := RX9) (Tf := TX9) (N := 50) (k := 10) (i := 21) (v := va_rf (gP S6 1021 x0)) (ksA e7.symm hk1) (by decide) rfl (fin fwX9) (by decide) (im tw_5_149) rfl rfl dX9_records_8 ?_
  refine G_iload_n C (x := x1) 1 dX9_records_11 rfl rfl ?_
  refine G_iload_n C (x := x2) 2 dX9_records_12 rfl rfl ?_
  refine G_iload C (x := x4) 4 dX9_records_13 rfl ?_
  refine G_isub C dX9_records_15 ?_
  obtain ⟨a8, ha9, h⟩ := h
  refine G_rf2 ha9 ?_
  obtain ⟨hk10, h⟩ := h
  obtain ⟨hi11, h⟩ := h
  refine G_iast C hk10 hi11 dX9_records_16 ?_
  generalize e13 : sA S6 a8 ((x1).toNatClampNeg) (x2 - x4) = S12
  have h := h S12 e13.symm
  refine G_aload_n C (x := (some x0)) 0 dX9_records_17 rfl rfl ?_
  refine G_get C (CC := RX9) (Tf := TX9) (N := 50) (k := 10) (i := 22) (v := va_rf (gP S12 1022 x0)) (ksA e13.symm (ksA e7.symm hk1)) (by decide) rfl (fin fwX9) (by decide) (im tw_5_150) rfl rfl dX9_records_18 ?_
  refine G_iload_n C (x := x1) 1 dX9_records_21 rfl rfl ?_
  refine G_iload_n C (x := x3) 3 dX9_records_22 rfl rfl ?_
  refine G_iload C (x := x4) 4 dX9_records_23 rfl ?_
  refine G_iadd C dX9_records_25 ?_
  obtain ⟨a14, ha15, h⟩ := h
  refine G_rf2 ha15 ?_
  obtain ⟨hk16, h⟩ := h
  obtain ⟨hi17, h⟩ := h
  refine G_iast C hk16 hi17 dX9_records_26 ?_
  generalize e19 : sA S12 a14 ((x1).toNatClampNeg) (x3 + x4) = S18
  have h := h S18 e19.symm
  exact G_vret C (mc := 0) (ms := 0) (post := post) hr (Nat.le_of_ble_eq_true rfl) (Nat.le_of_ble_eq_true rfl) dX9_records_27 h
set_option maxHeartbeats 4000000 in
set_option maxRecDepth 100000 in
theorem c_X9_record (l : Launch) (D : va_G) (cy : Nat → Nat) (x0 : Nat) (x1 : Int32) (x2 : Int32) (x3 : Int32) (x4 : Int32) (S : PT) (post : Int32 → PT → Prop) (h : w_X9_record x0 x1 x2 x3 x4 S post) : Mi l yX9_record (Wm yX9_record prog_11_method_21_code 7 (Option.some Jvm.ClassFile.FieldType.int)) 3 68 D cy [va_rf (some x0), Value.int x1, Value.int x2, Value.int x3, Value.int x4] S 0 0 post := by
  refine Mi_of (own := "TrenchboardModel") (by decide) rfl (by first | decide | simp [lg_sl, va_cat, vi_cat, vl_cat]) (fun p e s m below meth c A C hZ hr hin9 => ?_)
  have J77 : ∀ (S : PT) (s0 : Option Nat) (s1 : Int32), w_X9_record_b77 x0 x1 x2 x3 x4 post S s0 s1 → G p l e { frames := 3, cells := 0, slots := 0, locals := 68 } s m [va_rf (some x0), Value.int x1, Value.int x2, Value.int x3, Value.int x4].toArray below meth c D cy A s.heap 7 (QMi below D cy A [va_rf (some x0), Value.int x1, Value.int x2, Value.int x3, Value.int x4] s 0 0 post) S 0 0 77 [(0, va_rf (some x0)), (1, Value.int x1), (2, Value.int x2), (3, Value.int x3), (4, Value.int x4)] [Value.int s1, va_rf s0] := by
    intro S s0 s1 h
    unfold w_X9_record_b77 at h
    obtain ⟨a1, ha2, h⟩ := h
    obtain ⟨hk3, h⟩ := h
    refine G_callVi C hZ (Tf := TX9) (N := 50) hk3 (by decide) rfl tw_6_56 tw_6_58 tw_0_29 tw_1_7 tw_6_59 hy_X9_goes ⟨Nat.le_of_ble_eq_true rfl, Nat.le_of_ble_eq_true rfl⟩ (As := [Value.int s1]) (rest := []) (c_X9_goes l D cy a1 s1 S _ h) rfl (by first | rfl | (simp only [ha2]; rfl) | simp only [ha2]) (by simp [va_cat, vi_cat, vl_cat]) dX9_record_77 ⟨Nat.le_of_ble_eq_true rfl, Nat.le_of_ble_eq_true rfl⟩ (fun r5 S4 h => ?_)
    obtain ⟨hb6, h⟩ := h
    refine G_if_ne C (tgt := 85) dX9_record_80 (by decide) (fun hc => ?_) (fun hc => ?_)
    · have h := h.1 hc
      refine G_aload_n C (x := (some x0)) 0 dX9_record_85 rfl rfl ?_
      refine G_iload_n C (x := x1) 1 dX9_record_86 rfl rfl ?_
      refine G_iload_n C (x := x2) 2 dX9_record_87 rfl rfl ?_
      refine G_iload_n C (x := x3) 3 dX9_record_88 rfl rfl ?_
      refine G_iload C (x := x4) 4 dX9_record_89 rfl ?_
      obtain ⟨hk7, h⟩ := h
      refine G_callVv C hZ (Tf := TX9) (N := 50) hk7 (by decide) rfl tw_6_107 tw_6_109 tw_0_37 tw_1_7 tw_6_110 hy_X9_records ⟨Nat.le_of_ble_eq_true rfl, Nat.le_of_ble_eq_true rfl⟩ (As := [Value.int x1, Value.int x2, Value.int x3, Value.int x4]) (rest := []) (c_X9_records l D cy x0 x1 x2 x3 x4 S4 _ h) rfl rfl (by simp [va_cat, vi_cat, vl_cat]) dX9_record_91 ⟨Nat.le_of_ble_eq_true rfl, Nat.le_of_ble_eq_true rfl⟩ (fun S8 h => ?_)
      refine G_aload_n C (x := (some x0)) 0 dX9_record_94 rfl rfl ?_
      refine G_iload_n C (x := x1) 1 dX9_record_95 rfl rfl ?_
      obtain ⟨hk10, h⟩ := h
      refine G_callVi C hZ (Tf := TX9) (N := 50) hk10 (by decide) rfl tw_6_111 tw_6_113 tw_0_38 tw_1_7 tw_6_114 hy_X9_suspects ⟨Nat.le_of_ble_eq_true rfl, Nat.le_of_ble_eq_true rfl⟩ (As := [Value.int x1]) (rest := []) (c_X9_suspects l D cy x0 x1 S8 _ h) rfl rfl (by simp [va_cat, vi_cat, vl_cat]) dX9_record_96 ⟨Nat.le_of_ble_eq_true rfl, Nat.le_of_ble_eq_true rfl⟩ (fun r12 S11 h => ?_)
      exact G_iret C (mc := 0) (ms := 0) (post := post) hr (Nat.le_of_ble_eq_true rfl) (Nat.le_of_ble_eq_true rfl) dX9_record_99 h
    · have h := h.2 hc
      refine G_iconst C (v := 0) dX9_record_83 (by decide) ?_
      exact G_iret C (mc := 0) (ms := 0) (post := post) hr (Nat.le_of_ble_eq_true rfl) (Nat.le_of_ble_eq_true rfl) dX9_record_84 h
  have J72 : ∀ (S : PT) (s0 : Option Nat), w_X9_record_b72 x0 x1 x2 x3 x4 post S s0 → G p l e { frames := 3, cells := 0, slots := 0, locals := 68 } s m [va_rf (some x0), Value.int x1, Value.int x2, Value.int x3, Value.int x4].toArray below meth c D cy A s.heap 7 (QMi below D cy A [va_rf (some x0), Value.int x1, Value.int x2, Value.int x3, Value.int x4] s 0 0 post) S 0 0 72 [(0, va_rf (some x0)), (1, Value.int x1), (2, Value.int x2), (3, Value.int x3), (4, Value.int x4)] [va_rf s0] := by
    intro S s0 h
    unfold w_X9_record_b72 at h
    refine G_iconst C (v := 2) dX9_record_72 (by decide) ?_
    refine G_goto C (tgt := 77) dX9_record_73 (by decide) ?_
    refine G_lv C (lv' := [(0, va_rf (some x0)), (1, Value.int x1), (2, Value.int x2), (3, Value.int x3), (4, Value.int x4)]) [0, 1, 2, 3, 4] rfl ?_
    exact J77 _ _ _ h
  have J45 : ∀ (S : PT) (s0 : Int32), w_X9_record_b45 x0 x1 x2 x3 x4 post S s0 → G p l e { frames := 3, cells := 0, slots := 0, locals := 68 } s m [va_rf (some x0), Value.int x1, Value.int x2, Value.int x3, Value.int x4].toArray below meth c D cy A s.heap 7 (QMi below D cy A [va_rf (some x0), Value.int x1, Value.int x2, Value.int x3, Value.int x4] s 0 0 post) S 0 0 45 [(0, va_rf (some x0)), (1, Value.int x1), (2, Value.int x2), (3, Value.int x3), (4, Value.int x4)] [Value.int s0] := by
    intro S s0 h
    unfold w_X9_record_b45 at h
    refine G_istore C (i := 6) (lv' := [(6, Value.int s0), (0, va_rf (some x0)), (1, Value.int x1), (2, Value.int x2), (3, Value.int x3), (4, Value.int x4)]) dX9_record_45 (by decide) (by first | rfl | simp [va_cat, vi_cat, vl_cat]) ?_
    refine G_aload_n C (x := (some x0)) 1 dX9_record_47 rfl rfl ?_
    refine G_iload C (x := s0) 0 dX9_record_48 rfl ?_
    refine G_if_ne C (tgt := 57) dX9_record_50 (by decide) (fun hc => ?_) (fun hc => ?_)
    · have h := h.1 hc
      refine G_iload_n C (x := x3) 4 dX9_record_57 rfl rfl ?_
      refine G_iload_n C (x := x2) 3 dX9_record_58 rfl rfl ?_
      refine G_icmp_lt C (tgt := 72) dX9_record_59 (by decide) (fun hc => ?_) (fun hc => ?_)
      · have h := h.1 hc
        refine G_lv C (lv' := [(0, va_rf (some x0)), (1, Value.int x1), (2, Value.int x2), (3, Value.int x3), (4, Value.int x4)]) [1, 2, 3, 4, 5] rfl ?_
        exact J72 _ _ h
      · have h := h.2 hc
        refine G_iload C (x := x4) 5 dX9_record_62 rfl ?_
        refine G_iconst C (v := 0) dX9_record_64 (by decide) ?_
        refine G_iconst C (v := 3) dX9_record_65 (by decide) ?_
        refine G_callSi C hZ tw_6_49 tw_6_50 tw_1_7 tw_6_51 hy_X9_isIn ⟨Nat.le_of_ble_eq_true rfl, Nat.le_of_ble_eq_true rfl⟩ (As := [Value.int x4, Value.int 0, Value.int 3]) (rest := [va_rf (some x0)]) (c_X9_isIn l D cy x4 0 3 S _ h) rfl rfl (by simp [va_cat, vi_cat, vl_cat]) dX9_record_66 ⟨Nat.le_of_ble_eq_true rfl, Nat.le_of_ble_eq_true rfl⟩ (fun r14 S13 h => ?_)
        obtain ⟨hb15, h⟩ := h
        refine G_if_ne C (tgt := 76) dX9_record_69 (by decide) (fun hc => ?_) (fun hc => ?_)
        · have h := h.1 hc
          refine G_iconst C (v := 0) dX9_record_76 (by decide) ?_
          refine G_lv C (lv' := [(0, va_rf (some x0)), (1, Value.int x1), (2, Value.int x2), (3, Value.int x3), (4, Value.int x4)]) [1, 2, 3, 4, 5] rfl ?_
          exact J77 _ _ _ h
        · have h := h.2 hc
          refine G_lv C (lv' := [(0, va_rf (some x0)), (1, Value.int x1), (2, Value.int x2), (3, Value.int x3), (4, Value.int x4)]) [1, 2, 3, 4, 5] rfl ?_
          exact J72 _ _ h
    · have h := h.2 hc
      refine G_iconst C (v := 1) dX9_record_53 (by decide) ?_
      refine G_goto C (tgt := 77) dX9_record_54 (by decide) ?_
      refine G_lv C (lv' := [(0, va_rf (some x0)), (1, Value.int x1), (2, Value.int x2), (3, Value.int x3), (4, Value.int x4)]) [1, 2, 3, 4, 5] rfl ?_
      exact J77 _ _ _ h
  have J44 : ∀ (S : PT), w_X9_record_b44 x0 x1 x2 x3 x4 post S → G p l e { frames := 3, cells := 0, slots := 0, locals := 68 } s m [va_rf (some x0), Value.int x1, Value.int x2, Value.int x3, Value.int x4].toArray below meth c D cy A s.heap 7 (QMi below D cy A [va_rf (some x0), Value.int x1, Value.int x2, Value.int x3, Value.int x4] s 0 0 post) S 0 0 44 [(0, va_rf (some x0)), (1, Value.int x1), (2, Value.int x2), (3, Value.int x3), (4, Value.int x4)] [] := by
    intro S h
    unfold w_X9_record_b44 at h
    refine G_iconst C (v := 0) dX9_record_44 (by decide) ?_
    refine G_lv C (lv' := [(0, va_rf (some x0)), (1, Value.int x1), (2, Value.int x2), (3, Value.int x3), (4, Value.int x4)]) [0, 1, 2, 3, 4] rfl ?_
    exact J45 _ _ h
  refine G_lv C (lv' := [(0, va_rf (some x0)), (1, Value.int x1), (2, Value.int x2), (3, Value.int x3), (4, Value.int x4)]) [0, 1, 2, 3, 4] (by first | rfl | simp [lv_pick, lv_args, va_cat, vi_cat, vl_cat]) ?_
  unfold w_X9_record at h
  refine G_aload_n C (x := (some x0)) 0 dX9_record_0 rfl rfl ?_
  refine G_iload_n C (x := x1) 1 dX9_record_1 rfl rfl ?_
  obtain ⟨hk16, h⟩ := h
  refine G_callVi C hZ (Tf := TX9) (N := 50) hk16 (by decide) rfl tw_6_103 tw_6_105 tw_0_36 tw_1_7 tw_6_106 hy_X9_isThing ⟨Nat.le_of_ble_eq_true rfl, Nat.le_of_ble_eq_true rfl⟩ (As := [Value.int x1]) (rest := []) (c_X9_isThing l D cy x0 x1 S _ h) rfl rfl (by simp [va_cat, vi_cat, vl_cat]) dX9_record_2 ⟨Nat.le_of_ble_eq_true rfl, Nat.le_of_ble_eq_true rfl⟩ (fun r18 S17 h => ?_)
  obtain ⟨hb19, h⟩ := h
  refine G_istore C (i := 5) (lv' := [(5, Value.int r18), (0, va_rf (some x0)), (1, Value.int x1), (2, Value.int x2), (3, Value.int x3), (4, Value.int x4)]) dX9_record_5 (by decide) (by first | rfl | simp [va_cat, vi_cat, vl_cat]) ?_
  refine G_iload C (x := r18) 0 dX9_record_7 rfl ?_
  refine G_if_eq C (tgt := 44) dX9_record_9 (by decide) (fun hc => ?_) (fun hc => ?_)
  · have h := h.1 hc
    refine G_lv C (lv' := [(0, va_rf (some x0)), (1, Value.int x1), (2, Value.int x2), (3, Value.int x3), (4, Value.int x4)]) [1, 2, 3, 4, 5] rfl ?_
    exact J44 _ h
  · have h := h.2 hc
    refine G_aload_n C (x := (some x0)) 1 dX9_record_12 rfl rfl ?_
    refine G_aload_n C (x := (some x0)) 1 dX9_record_13 rfl rfl ?_
    obtain ⟨hk20, h⟩ := h
    refine G_get C (CC := RX9) (Tf := TX9) (N := 50) (k := 10) (i := 16) (v := va_rf (gP S17 1016 x0)) hk20 (by decide) rfl (fin fwX9) (by decide) (im tw_5_144) rfl rfl dX9_record_14 ?_
    refine G_iload_n C (x := x1) 2 dX9_record_17 rfl rfl ?_
    obtain ⟨a21, ha22, h⟩ := h
    refine G_rf1 ha22 ?_
    obtain ⟨hk23, h⟩ := h
    obtain ⟨hi24, h⟩ := h
    refine G_iald C hk23 hi24 dX9_record_18 ?_
    refine G_iload_n C (x := x2) 3 dX9_record_19 rfl rfl ?_
    refine G_callVi C hZ (Tf := TX9) (N := 50) hk20 (by decide) rfl tw_6_95 tw_6_97 tw_0_35 tw_1_7 tw_6_98 hy_X9_isMetre ⟨Nat.le_of_ble_eq_true rfl, Nat.le_of_ble_eq_true rfl⟩ (As := [Value.int (gA S17 a21 x1.toNatClampNeg), Value.int x2]) (rest := []) (c_X9_isMetre l D cy x0 (gA S17 a21 x1.toNatClampNeg) x2 S17 _ h) rfl rfl (by simp [va_cat, vi_cat, vl_cat]) dX9_record_20 ⟨Nat.le_of_ble_eq_true rfl, Nat.le_of_ble_eq_true rfl⟩ (fun r26 S25 h => ?_)
    obtain ⟨hb27, h⟩ := h
    refine G_if_eq C (tgt := 44) dX9_record_23 (by decide) (fun hc => ?_) (fun hc => ?_)
    · have h := h.1 hc
      refine G_lv C (lv' := [(0, va_rf (some x0)), (1, Value.int x1), (2, Value.int x2), (3, Value.int x3), (4, Value.int x4)]) [1, 2, 3, 4, 5] rfl ?_
      exact J44 _ h
    · have h := h.2 hc
      refine G_aload_n C (x := (some x0)) 1 dX9_record_26 rfl rfl ?_
      refine G_aload_n C (x := (some x0)) 1 dX9_record_27 rfl rfl ?_
      obtain ⟨hk28, h⟩ := h
      refine G_get C (CC := RX9) (Tf := TX9) (N := 50) (k := 10) (i := 16) (v := va_rf (gP S25 1016 x0)) hk28 (by decide) rfl (fin fwX9) (by decide) (im tw_5_144) rfl rfl dX9_record_28 ?_
      refine G_iload_n C (x := x1) 2 dX9_record_31 rfl rfl ?_
      obtain ⟨a29, ha30, h⟩ := h
      refine G_rf1 ha30 ?_
      obtain ⟨hk31, h⟩ := h
      obtain ⟨hi32, h⟩ := h
      refine G_iald C hk31 hi32 dX9_record_32 ?_
      refine G_iload_n C (x := x3) 4 dX9_record_33 rfl rfl ?_
      refine G_callVi C hZ (Tf := TX9) (N := 50) hk28 (by decide) rfl tw_6_95 tw_6_97 tw_0_35 tw_1_7 tw_6_98 hy_X9_isMetre ⟨Nat.le_of_ble_eq_true rfl, Nat.le_of_ble_eq_true rfl⟩ (As := [Value.int (gA S25 a29 x1.toNatClampNeg), Value.int x3]) (rest := []) (c_X9_isMetre l D cy x0 (gA S25 a29 x1.toNatClampNeg) x3 S25 _ h) rfl rfl (by simp [va_cat, vi_cat, vl_cat]) dX9_record_34 ⟨Nat.le_of_ble_eq_true rfl, Nat.le_of_ble_eq_true rfl⟩ (fun r34 S33 h => ?_)
      obtain ⟨hb35, h⟩ := h
      refine G_if_eq C (tgt := 44) dX9_record_37 (by decide) (fun hc => ?_) (fun hc => ?_)
      · have h := h.1 hc
        refine G_lv C (lv' := [(0, va_rf (some x0)), (1, Value.int x1), (2, Value.int x2), (3, Value.int x3), (4, Value.int x4)]) [1, 2, 3, 4, 5] rfl ?_
        exact J44 _ h
      · have h := h.2 hc
        refine G_iconst C (v := 1) dX9_record_40 (by decide) ?_
        refine G_goto C (tgt := 45) dX9_record_41 (by decide) ?_
        refine G_lv C (lv' := [(0, va_rf (some x0)), (1, Value.int x1), (2, Value.int x2), (3, Value.int x3), (4, Value.int x4)]) [1, 2, 3, 4, 5] rfl ?_
        exact J45 _ _ h
set_option maxHeartbeats 4000000 in
set_option maxRecDepth 100000 in
theorem c_X9_lose (l : Launch) (D : va_G) (cy : Nat → Nat) (x0 : Nat) (x1 : Int32) (S : PT) (post : Int32 → PT → Prop) (h : w_X9_lose x0 x1 S post) : Mi l yX9_lose (Wm yX9_lose prog_11_method_22_code 3 (Option.some Jvm.ClassFile.FieldType.boolean)) 2 43 D cy [va_rf (some x0), Value.int x1] S 0 0 (fun r S => bo r ∧ post r S) := by
  refine Mi_of (own := "TrenchboardModel") (by decide) rfl (by first | decide | simp [lg_sl, va_cat, vi_cat, vl_cat]) (fun p e s m below meth c A C hZ hr hin9 => ?_)
  have J14 : ∀ (S : PT) (s0 : Option Nat) (s1 : Int32), w_X9_lose_b14 x0 x1 post S s0 s1 → G p l e { frames := 2, cells := 0, slots := 0, locals := 43 } s m [va_rf (some x0), Value.int x1].toArray below meth c D cy A s.heap 3 (QMi below D cy A [va_rf (some x0), Value.int x1] s 0 0 (fun r S => bo r ∧ post r S)) S 0 0 14 [(0, va_rf (some x0)), (1, Value.int x1)] [Value.int s1, va_rf s0] := by
    intro S s0 s1 h
    unfold w_X9_lose_b14 at h
    obtain ⟨a1, ha2, h⟩ := h
    obtain ⟨hk3, h⟩ := h
    refine G_callVi C hZ (Tf := TX9) (N := 50) hk3 (by decide) rfl tw_6_56 tw_6_58 tw_0_29 tw_1_7 tw_6_59 hy_X9_goes ⟨Nat.le_of_ble_eq_true rfl, Nat.le_of_ble_eq_true rfl⟩ (As := [Value.int s1]) (rest := []) (c_X9_goes l D cy a1 s1 S _ h) rfl (by first | rfl | (simp only [ha2]; rfl) | simp only [ha2]) (by simp [va_cat, vi_cat, vl_cat]) dX9_lose_14 ⟨Nat.le_of_ble_eq_true rfl, Nat.le_of_ble_eq_true rfl⟩ (fun r5 S4 h => ?_)
    obtain ⟨hb6, h⟩ := h
    refine G_if_ne C (tgt := 22) dX9_lose_17 (by decide) (fun hc => ?_) (fun hc => ?_)
    · have h := h.1 hc
      refine G_aload_n C (x := (some x0)) 0 dX9_lose_22 rfl rfl ?_
      obtain ⟨hk7, h⟩ := h
      refine G_get C (CC := RX9) (Tf := TX9) (N := 50) (k := 10) (i := 20) (v := va_rf (gP S4 1020 x0)) hk7 (by decide) rfl (fin fwX9) (by decide) (im tw_5_148) rfl rfl dX9_lose_23 ?_
      refine G_iload_n C (x := x1) 1 dX9_lose_26 rfl rfl ?_
      obtain ⟨a8, ha9, h⟩ := h
      refine G_rf1 ha9 ?_
      obtain ⟨hk10, h⟩ := h
      obtain ⟨hi11, h⟩ := h
      refine G_zald C hk10 hi11 dX9_lose_27 ?_
      refine G_istore_n C (i := 2) (lv' := [(2, Value.int (gA S4 a8 x1.toNatClampNeg)), (0, va_rf (some x0)), (1, Value.int x1)]) dX9_lose_28 rfl (by decide) (by first | rfl | simp [va_cat, vi_cat, vl_cat]) ?_
      refine G_aload_n C (x := (some x0)) 1 dX9_lose_29 rfl rfl ?_
      refine G_get C (CC := RX9) (Tf := TX9) (N := 50) (k := 10) (i := 20) (v := va_rf (gP S4 1020 x0)) hk7 (by decide) rfl (fin fwX9) (by decide) (im tw_5_148) rfl rfl dX9_lose_30 ?_
      refine G_iload_n C (x := x1) 2 dX9_lose_33 rfl rfl ?_
      refine G_iconst C (v := 0) dX9_lose_34 (by decide) ?_
      refine G_rf2 ha9 ?_
      obtain ⟨hi12, h⟩ := h
      refine G_zast C hk10 bo_0 hi12 dX9_lose_35 ?_
      generalize e14 : sA S4 a8 ((x1).toNatClampNeg) 0 = S13
      have h := h S13 e14.symm
      refine G_iload_n C (x := (gA S4 a8 x1.toNatClampNeg)) 0 dX9_lose_36 rfl rfl ?_
      obtain ⟨hb15, h⟩ := h
      exact G_zret C (mc := 0) (ms := 0) (post := (fun r S => bo r ∧ post r S)) (bo_nar hb15) hr (Nat.le_of_ble_eq_true rfl) (Nat.le_of_ble_eq_true rfl) dX9_lose_37 ⟨hb15, h⟩
    · have h := h.2 hc
      refine G_iconst C (v := 0) dX9_lose_20 (by decide) ?_
      exact G_zret C (mc := 0) (ms := 0) (post := (fun r S => bo r ∧ post r S)) (bo_nar bo_0) hr (Nat.le_of_ble_eq_true rfl) (Nat.le_of_ble_eq_true rfl) dX9_lose_21 ⟨bo_0, h⟩
  refine G_lv C (lv' := [(0, va_rf (some x0)), (1, Value.int x1)]) [0, 1] (by first | rfl | simp [lv_pick, lv_args, va_cat, vi_cat, vl_cat]) ?_
  unfold w_X9_lose at h
  refine G_aload_n C (x := (some x0)) 0 dX9_lose_0 rfl rfl ?_
  refine G_aload_n C (x := (some x0)) 0 dX9_lose_1 rfl rfl ?_
  refine G_iload_n C (x := x1) 1 dX9_lose_2 rfl rfl ?_
  obtain ⟨hk16, h⟩ := h
  refine G_callVi C hZ (Tf := TX9) (N := 50) hk16 (by decide) rfl tw_6_103 tw_6_105 tw_0_36 tw_1_7 tw_6_106 hy_X9_isThing ⟨Nat.le_of_ble_eq_true rfl, Nat.le_of_ble_eq_true rfl⟩ (As := [Value.int x1]) (rest := [va_rf (some x0)]) (c_X9_isThing l D cy x0 x1 S _ h) rfl rfl (by simp [va_cat, vi_cat, vl_cat]) dX9_lose_3 ⟨Nat.le_of_ble_eq_true rfl, Nat.le_of_ble_eq_true rfl⟩ (fun r18 S17 h => ?_)
  obtain ⟨hb19, h⟩ := h
  refine G_if_eq C (tgt := 13) dX9_lose_6 (by decide) (fun hc => ?_) (fun hc => ?_)
  · have h := h.1 hc
    refine G_iconst C (v := 1) dX9_lose_13 (by decide) ?_
    refine G_lv C (lv' := [(0, va_rf (some x0)), (1, Value.int x1)]) [0, 1] rfl ?_
    exact J14 _ _ _ h
  · have h := h.2 hc
    refine G_iconst C (v := 0) dX9_lose_9 (by decide) ?_
    refine G_goto C (tgt := 14) dX9_lose_10 (by decide) ?_
    refine G_lv C (lv' := [(0, va_rf (some x0)), (1, Value.int x1)]) [0, 1] rfl ?_
    exact J14 _ _ _ h
set_option maxHeartbeats 4000000 in
set_option maxRecDepth 100000 in
theorem c_X9_survey (l : Launch) (D : va_G) (cy : Nat → Nat) (x0 : Nat) (x1 : Int32) (S : PT) (post : Int32 → PT → Prop) (h : w_X9_survey x0 x1 S post) : Mi l yX9_survey (Wm yX9_survey prog_11_method_23_code 5 (Option.some Jvm.ClassFile.FieldType.int)) 3 68 D cy [va_rf (some x0), Value.int x1] S 0 0 post := by
  refine Mi_of (own := "TrenchboardModel") (by decide) rfl (by first | decide | simp [lg_sl, va_cat, vi_cat, vl_cat]) (fun p e s m below meth c A C hZ hr hin9 => ?_)
  have J96 : ∀ (S : PT) (s0 : Option Nat) (s1 : Int32), w_X9_survey_b96 x0 x1 post S s0 s1 → G p l e { frames := 3, cells := 0, slots := 0, locals := 68 } s m [va_rf (some x0), Value.int x1].toArray below meth c D cy A s.heap 5 (QMi below D cy A [va_rf (some x0), Value.int x1] s 0 0 post) S 0 0 96 [(0, va_rf (some x0)), (1, Value.int x1)] [Value.int s1, va_rf s0] := by
    intro S s0 s1 h
    unfold w_X9_survey_b96 at h
    obtain ⟨a1, ha2, h⟩ := h
    obtain ⟨hk3, h⟩ := h
    refine G_callVi C hZ (Tf := TX9) (N := 50) hk3 (by decide) rfl tw_6_56 tw_6_58 tw_0_29 tw_1_7 tw_6_59 hy_X9_goes ⟨Nat.le_of_ble_eq_true rfl, Nat.le_of_ble_eq_true rfl⟩ (As := [Value.int s1]) (rest := []) (c_X9_goes l D cy a1 s1 S _ h) rfl (by first | rfl | (simp only [ha2]; rfl) | simp only [ha2]) (by simp [va_cat, vi_cat, vl_cat]) dX9_survey_96 ⟨Nat.le_of_ble_eq_true rfl, Nat.le_of_ble_eq_true rfl⟩ (fun r5 S4 h => ?_)
    obtain ⟨hb6, h⟩ := h
    refine G_if_ne C (tgt := 104) dX9_survey_99 (by decide) (fun hc => ?_) (fun hc => ?_)
    · have h := h.1 hc
      refine G_aload_n C (x := (some x0)) 0 dX9_survey_104 rfl rfl ?_
      refine G_iload_n C (x := x1) 1 dX9_survey_105 rfl rfl ?_
      obtain ⟨hk7, h⟩ := h
      refine G_callVi C hZ (Tf := TX9) (N := 50) hk7 (by decide) rfl tw_6_111 tw_6_113 tw_0_38 tw_1_7 tw_6_114 hy_X9_suspects ⟨Nat.le_of_ble_eq_true rfl, Nat.le_of_ble_eq_true rfl⟩ (As := [Value.int x1]) (rest := []) (c_X9_suspects l D cy x0 x1 S4 _ h) rfl rfl (by simp [va_cat, vi_cat, vl_cat]) dX9_survey_106 ⟨Nat.le_of_ble_eq_true rfl, Nat.le_of_ble_eq_true rfl⟩ (fun r9 S8 h => ?_)
      refine G_istore C (i := 4) (lv' := [(4, Value.int r9), (0, va_rf (some x0)), (1, Value.int x1)]) dX9_survey_109 (by decide) (by first | rfl | simp [va_cat, vi_cat, vl_cat]) ?_
      refine G_aload_n C (x := (some x0)) 1 dX9_survey_111 rfl rfl ?_
      refine G_iload_n C (x := x1) 2 dX9_survey_112 rfl rfl ?_
      refine G_aload_n C (x := (some x0)) 1 dX9_survey_113 rfl rfl ?_
      obtain ⟨hk10, h⟩ := h
      refine G_get C (CC := RX9) (Tf := TX9) (N := 50) (k := 10) (i := 17) (v := va_rf (gP S8 1017 x0)) hk10 (by decide) rfl (fin fwX9) (by decide) (im tw_5_145) rfl rfl dX9_survey_114 ?_
      refine G_iload_n C (x := x1) 2 dX9_survey_117 rfl rfl ?_
      obtain ⟨a11, ha12, h⟩ := h
      refine G_rf1 ha12 ?_
      obtain ⟨hk13, h⟩ := h
      obtain ⟨hi14, h⟩ := h
      refine G_iald C hk13 hi14 dX9_survey_118 ?_
      refine G_aload_n C (x := (some x0)) 1 dX9_survey_119 rfl rfl ?_
      refine G_get C (CC := RX9) (Tf := TX9) (N := 50) (k := 10) (i := 18) (v := va_rf (gP S8 1018 x0)) hk10 (by decide) rfl (fin fwX9) (by decide) (im tw_5_146) rfl rfl dX9_survey_120 ?_
      refine G_iload_n C (x := x1) 2 dX9_survey_123 rfl rfl ?_
      obtain ⟨a15, ha16, h⟩ := h
      refine G_rf1 ha16 ?_
      obtain ⟨hk17, h⟩ := h
      obtain ⟨hi18, h⟩ := h
      refine G_iald C hk17 hi18 dX9_survey_124 ?_
      refine G_iconst C (v := 0) dX9_survey_125 (by decide) ?_
      refine G_callVv C hZ (Tf := TX9) (N := 50) hk10 (by decide) rfl tw_6_107 tw_6_109 tw_0_37 tw_1_7 tw_6_110 hy_X9_records ⟨Nat.le_of_ble_eq_true rfl, Nat.le_of_ble_eq_true rfl⟩ (As := [Value.int x1, Value.int (gA S8 a11 x1.toNatClampNeg), Value.int (gA S8 a15 x1.toNatClampNeg), Value.int 0]) (rest := []) (c_X9_records l D cy x0 x1 (gA S8 a11 x1.toNatClampNeg) (gA S8 a15 x1.toNatClampNeg) 0 S8 _ h) rfl rfl (by simp [va_cat, vi_cat, vl_cat]) dX9_survey_126 ⟨Nat.le_of_ble_eq_true rfl, Nat.le_of_ble_eq_true rfl⟩ (fun S19 h => ?_)
      refine G_iload C (x := r9) 0 dX9_survey_129 rfl ?_
      exact G_iret C (mc := 0) (ms := 0) (post := post) hr (Nat.le_of_ble_eq_true rfl) (Nat.le_of_ble_eq_true rfl) dX9_survey_131 h
    · have h := h.2 hc
      refine G_iconst C (v := 0) dX9_survey_102 (by decide) ?_
      exact G_iret C (mc := 0) (ms := 0) (post := post) hr (Nat.le_of_ble_eq_true rfl) (Nat.le_of_ble_eq_true rfl) dX9_survey_103 h
  have J78 : ∀ (S : PT) (v2 : Int32) (v3 : Int32), w_X9_survey_b78 x0 x1 post S v2 v3 → G p l e { frames := 3, cells := 0, slots := 0, locals := 68 } s m [va_rf (some x0), Value.int x1].toArray below meth c D cy A s.heap 5 (QMi below D cy A [va_rf (some x0), Value.int x1] s 0 0 post) S 0 0 78 [(0, va_rf (some x0)), (1, Value.int x1), (2, Value.int v2), (3, Value.int v3)] [] := by
    intro S v2 v3 h
    unfold w_X9_survey_b78 at h
    refine G_aload_n C (x := (some x0)) 0 dX9_survey_78 rfl rfl ?_
    refine G_iload_n C (x := v2) 2 dX9_survey_79 rfl rfl ?_
    refine G_if_ne C (tgt := 87) dX9_survey_80 (by decide) (fun hc => ?_) (fun hc => ?_)
    · have h := h.1 hc
      refine G_iload_n C (x := v3) 3 dX9_survey_87 rfl rfl ?_
      refine G_if_eq C (tgt := 95) dX9_survey_88 (by decide) (fun hc => ?_) (fun hc => ?_)
      · have h := h.1 hc
        refine G_iconst C (v := 2) dX9_survey_95 (by decide) ?_
        refine G_lv C (lv' := [(0, va_rf (some x0)), (1, Value.int x1)]) [0, 1] rfl ?_
        exact J96 _ _ _ h
      · have h := h.2 hc
        refine G_iconst C (v := 0) dX9_survey_91 (by decide) ?_
        refine G_goto C (tgt := 96) dX9_survey_92 (by decide) ?_
        refine G_lv C (lv' := [(0, va_rf (some x0)), (1, Value.int x1)]) [0, 1] rfl ?_
        exact J96 _ _ _ h
    · have h := h.2 hc
      refine G_iconst C (v := 1) dX9_survey_83 (by decide) ?_
      refine G_goto C (tgt := 96) dX9_survey_84 (by decide) ?_
      refine G_lv C (lv' := [(0, va_rf (some x0)), (1, Value.int x1)]) [0, 1] rfl ?_
      exact J96 _ _ _ h
  have J11 : ∀ (n : Nat) (S : PT) (v2 : Int32) (v3 : Int32) (v4 : Int32), w_X9_survey_l11 x0 x1 post n S v2 v3 v4 → G p l e { frames := 3, cells := 0, slots := 0, locals := 68 } s m [va_rf (some x0), Value.int x1].toArray below meth c D cy A s.heap 5 (QMi below D cy A [va_rf (some x0), Value.int x1] s 0 0 post) S 0 0 11 [(0, va_rf (some x0)), (1, Value.int x1), (2, Value.int v2), (3, Value.int v3), (4, Value.int v4)] [] := by
    intro n11
    induction n11 with
    | zero => intro S v2 v3 v4 h; rw [w_X9_survey_l11] at h; exact False.elim h
    | succ n11 K11 =>
      have J71 : ∀ (S : PT) (v2 : Int32) (v4 : Int32) (s0 : Int32), w_X9_survey_b71 x0 x1 post (w_X9_survey_l11 x0 x1 post n11) S v2 v4 s0 → G p l e { frames := 3, cells := 0, slots := 0, locals := 68 } s m [va_rf (some x0), Value.int x1].toArray below meth c D cy A s.heap 5 (QMi below D cy A [va_rf (some x0), Value.int x1] s 0 0 post) S 0 0 71 [(0, va_rf (some x0)), (1, Value.int x1), (2, Value.int v2), (4, Value.int v4)] [Value.int s0] := by
        intro S v2 v4 s0 h
        unfold w_X9_survey_b71 at h
        refine G_istore_n C (i := 3) (lv' := [(3, Value.int s0), (0, va_rf (some x0)), (1, Value.int x1), (2, Value.int v2), (4, Value.int v4)]) dX9_survey_71 rfl (by decide) (by first | rfl | simp [va_cat, vi_cat, vl_cat]) ?_
        refine G_iinc C (v := (v4 + 1)) (lv' := [(4, Value.int (v4 + 1)), (3, Value.int s0), (0, va_rf (some x0)), (1, Value.int x1), (2, Value.int v2)]) 4 dX9_survey_72 rfl rfl (by decide) (by first | rfl | simp [va_cat, vi_cat, vl_cat]) ?_
        refine G_goto C (tgt := 11) dX9_survey_75 (by decide) ?_
        refine G_lv C (lv' := [(0, va_rf (some x0)), (1, Value.int x1), (2, Value.int v2), (3, Value.int s0), (4, Value.int (v4 + 1))]) [2, 3, 4, 1, 0] rfl ?_
        exact K11 _ _ _ _ h
      have J66 : ∀ (S : PT) (v2 : Int32) (v4 : Int32), w_X9_survey_b66 x0 x1 post (w_X9_survey_l11 x0 x1 post n11) S v2 v4 → G p l e { frames := 3, cells := 0, slots := 0, locals := 68 } s m [va_rf (some x0), Value.int x1].toArray below meth c D cy A s.heap 5 (QMi below D cy A [va_rf (some x0), Value.int x1] s 0 0 post) S 0 0 66 [(0, va_rf (some x0)), (1, Value.int x1), (2, Value.int v2), (4, Value.int v4)] [] := by
        intro S v2 v4 h
        unfold w_X9_survey_b66 at h
        refine G_iconst C (v := 1) dX9_survey_66 (by decide) ?_
        refine G_goto C (tgt := 71) dX9_survey_67 (by decide) ?_
        refine G_lv C (lv' := [(0, va_rf (some x0)), (1, Value.int x1), (2, Value.int v2), (4, Value.int v4)]) [0, 1, 2, 3] rfl ?_
        exact J71 _ _ _ _ h
      have J70 : ∀ (S : PT) (v2 : Int32) (v4 : Int32), w_X9_survey_b70 x0 x1 post (w_X9_survey_l11 x0 x1 post n11) S v2 v4 → G p l e { frames := 3, cells := 0, slots := 0, locals := 68 } s m [va_rf (some x0), Value.int x1].toArray below meth c D cy A s.heap 5 (QMi below D cy A [va_rf (some x0), Value.int x1] s 0 0 post) S 0 0 70 [(0, va_rf (some x0)), (1, Value.int x1), (2, Value.int v2), (4, Value.int v4)] [] := by
        intro S v2 v4 h
        unfold w_X9_survey_b70 at h
        refine G_iconst C (v := 0) dX9_survey_70 (by decide) ?_
        refine G_lv C (lv' := [(0, va_rf (some x0)), (1, Value.int x1), (2, Value.int v2), (4, Value.int v4)]) [0, 1, 2, 3] rfl ?_
        exact J71 _ _ _ _ h
      intro S v2 v3 v4 h
      rw [w_X9_survey_l11] at h
      refine G_iload C (x := v4) 4 dX9_survey_11 rfl ?_
      refine G_bipush C (v := 40) dX9_survey_13 (by decide) ?_
      refine G_icmp_ge C (tgt := 78) dX9_survey_15 (by decide) (fun hc => ?_) (fun hc => ?_)
      · have h := h.1 hc
        refine G_lv C (lv' := [(0, va_rf (some x0)), (1, Value.int x1), (2, Value.int v2), (3, Value.int v3)]) [0, 1, 2, 3] rfl ?_
        exact J78 _ _ _ h
      · have h := h.2 hc
        refine G_iload_n C (x := v2) 2 dX9_survey_18 rfl rfl ?_
        refine G_if_eq C (tgt := 78) dX9_survey_19 (by decide) (fun hc => ?_) (fun hc => ?_)
        · have h := h.1 hc
          refine G_lv C (lv' := [(0, va_rf (some x0)), (1, Value.int x1), (2, Value.int v2), (3, Value.int v3)]) [0, 1, 2, 3] rfl ?_
          exact J78 _ _ _ h
        · have h := h.2 hc
          refine G_iload_n C (x := v3) 3 dX9_survey_22 rfl rfl ?_
          refine G_if_ne C (tgt := 66) dX9_survey_23 (by decide) (fun hc => ?_) (fun hc => ?_)
          · have h := h.1 hc
            refine G_lv C (lv' := [(0, va_rf (some x0)), (1, Value.int x1), (2, Value.int v2), (4, Value.int v4)]) [0, 1, 2, 4] rfl ?_
            exact J66 _ _ _ h
          · have h := h.2 hc
            refine G_iload C (x := v4) 4 dX9_survey_26 rfl ?_
            refine G_aload_n C (x := (some x0)) 0 dX9_survey_28 rfl rfl ?_
            obtain ⟨hk21, h⟩ := h
            refine G_get C (CC := RX9) (Tf := TX9) (N := 50) (k := 10) (i := 17) (v := va_rf (gP S 1017 x0)) hk21 (by decide) rfl (fin fwX9) (by decide) (im tw_5_145) rfl rfl dX9_survey_29 ?_
            refine G_iload_n C (x := x1) 1 dX9_survey_32 rfl rfl ?_
            obtain ⟨a22, ha23, h⟩ := h
            refine G_rf1 ha23 ?_
            obtain ⟨hk24, h⟩ := h
            obtain ⟨hi25, h⟩ := h
            refine G_iald C hk24 hi25 dX9_survey_33 ?_
            refine G_aload_n C (x := (some x0)) 0 dX9_survey_34 rfl rfl ?_
            refine G_get C (CC := RX9) (Tf := TX9) (N := 50) (k := 10) (i := 18) (v := va_rf (gP S 1018 x0)) hk21 (by decide) rfl (fin fwX9) (by decide) (im tw_5_146) rfl rfl dX9_survey_35 ?_
            refine G_iload_n C (x := x1) 1 dX9_survey_38 rfl rfl ?_
            obtain ⟨a26, ha27, h⟩ := h
            refine G_rf1 ha27 ?_
            obtain ⟨hk28, h⟩ := h
            obtain ⟨hi29, h⟩ := h
            refine G_iald C hk28 hi29 dX9_survey_39 ?_
            refine G_callSi C hZ tw_6_49 tw_6_50 tw_1_7 tw_6_51 hy_X9_isIn ⟨Nat.le_of_ble_eq_true rfl, Nat.le_of_ble_eq_true rfl⟩ (As := [Value.int v4, Value.int (gA S a22 x1.toNatClampNeg), Value.int (gA S a26 x1.toNatClampNeg)]) (rest := []) (c_X9_isIn l D cy v4 (gA S a22 x1.toNatClampNeg) (gA S a26 x1.toNatClampNeg) S _ h) rfl rfl (by simp [va_cat, vi_cat, vl_cat]) dX9_survey_40 ⟨Nat.le_of_ble_eq_true rfl, Nat.le_of_ble_eq_true rfl⟩ (fun r31 S30 h => ?_)
            obtain ⟨hb32, h⟩ := h
            refine G_if_eq C (tgt := 70) dX9_survey_43 (by decide) (fun hc => ?_) (fun hc => ?_)
            · have h := h.1 hc
              refine G_lv C (lv' := [(0, va_rf (some x0)), (1, Value.int x1), (2, Value.int v2), (4, Value.int v4)]) [0, 1, 2, 4] rfl ?_
              exact J70 _ _ _ h
            · have h := h.2 hc
              refine G_aload_n C (x := (some x0)) 0 dX9_survey_46 rfl rfl ?_
              obtain ⟨hk33, h⟩ := h
              refine G_get C (CC := RX9) (Tf := TX9) (N := 50) (k := 10) (i := 12) (v := va_rf (gP S30 1012 x0)) hk33 (by decide) rfl (fin fwX9) (by decide) (im tw_5_140) rfl rfl dX9_survey_47 ?_
              refine G_bipush C (v := 40) dX9_survey_50 (by decide) ?_
              refine G_aload_n C (x := (some x0)) 0 dX9_survey_52 rfl rfl ?_
              refine G_get C (CC := RX9) (Tf := TX9) (N := 50) (k := 10) (i := 16) (v := va_rf (gP S30 1016 x0)) hk33 (by decide) rfl (fin fwX9) (by decide) (im tw_5_144) rfl rfl dX9_survey_53 ?_
              refine G_iload_n C (x := x1) 1 dX9_survey_56 rfl rfl ?_
              obtain ⟨a34, ha35, h⟩ := h
              refine G_rf1 ha35 ?_
              obtain ⟨hk36, h⟩ := h
              obtain ⟨hi37, h⟩ := h
              refine G_iald C hk36 hi37 dX9_survey_57 ?_
              refine G_imul C dX9_survey_58 ?_
              refine G_iload C (x := v4) 4 dX9_survey_59 rfl ?_
              refine G_iadd C dX9_survey_61 ?_
              obtain ⟨a38, ha39, h⟩ := h
              refine G_rf1 ha39 ?_
              obtain ⟨hk40, h⟩ := h
              obtain ⟨hi41, h⟩ := h
              refine G_zald C hk40 hi41 dX9_survey_62 ?_
              refine G_if_eq C (tgt := 70) dX9_survey_63 (by decide) (fun hc => ?_) (fun hc => ?_)
              · have h := h.1 hc
                refine G_lv C (lv' := [(0, va_rf (some x0)), (1, Value.int x1), (2, Value.int v2), (4, Value.int v4)]) [0, 1, 2, 4] rfl ?_
                exact J70 _ _ _ h
              · have h := h.2 hc
                refine G_lv C (lv' := [(0, va_rf (some x0)), (1, Value.int x1), (2, Value.int v2), (4, Value.int v4)]) [0, 1, 2, 4] rfl ?_
                exact J66 _ _ _ h
  refine G_lv C (lv' := [(0, va_rf (some x0)), (1, Value.int x1)]) [0, 1] (by first | rfl | simp [lv_pick, lv_args, va_cat, vi_cat, vl_cat]) ?_
  unfold w_X9_survey at h
  refine G_aload_n C (x := (some x0)) 0 dX9_survey_0 rfl rfl ?_
  refine G_iload_n C (x := x1) 1 dX9_survey_1 rfl rfl ?_
  obtain ⟨hk42, h⟩ := h
  refine G_callVi C hZ (Tf := TX9) (N := 50) hk42 (by decide) rfl tw_6_103 tw_6_105 tw_0_36 tw_1_7 tw_6_106 hy_X9_isThing ⟨Nat.le_of_ble_eq_true rfl, Nat.le_of_ble_eq_true rfl⟩ (As := [Value.int x1]) (rest := []) (c_X9_isThing l D cy x0 x1 S _ h) rfl rfl (by simp [va_cat, vi_cat, vl_cat]) dX9_survey_2 ⟨Nat.le_of_ble_eq_true rfl, Nat.le_of_ble_eq_true rfl⟩ (fun r44 S43 h => ?_)
  obtain ⟨hb45, h⟩ := h
  refine G_istore_n C (i := 2) (lv' := [(2, Value.int r44), (0, va_rf (some x0)), (1, Value.int x1)]) dX9_survey_5 rfl (by decide) (by first | rfl | simp [va_cat, vi_cat, vl_cat]) ?_
  refine G_iconst C (v := 0) dX9_survey_6 (by decide) ?_
  refine G_istore_n C (i := 3) (lv' := [(3, Value.int 0), (2, Value.int r44), (0, va_rf (some x0)), (1, Value.int x1)]) dX9_survey_7 rfl (by decide) (by first | rfl | simp [va_cat, vi_cat, vl_cat]) ?_
  refine G_iconst C (v := 0) dX9_survey_8 (by decide) ?_
  refine G_istore C (i := 4) (lv' := [(4, Value.int 0), (3, Value.int 0), (2, Value.int r44), (0, va_rf (some x0)), (1, Value.int x1)]) dX9_survey_9 (by decide) (by first | rfl | simp [va_cat, vi_cat, vl_cat]) ?_
  refine G_lv C (lv' := [(0, va_rf (some x0)), (1, Value.int x1), (2, Value.int r44), (3, Value.int 0), (4, Value.int 0)]) [3, 4, 2, 1, 0] rfl ?_
  obtain ⟨n9, h⟩ := h
  exact J11 n9 _ _ _ _ h
set_option maxHeartbeats 4000000 in
set_option maxRecDepth 100000 in
theorem c_X9_lies (l : Launch) (D : va_G) (cy : Nat → Nat) (x0 : Nat) (x1 : Int32) (x2 : Int32) (x3 : Int32) (S : PT) (post : Int32 → PT → Prop) (h : w_X9_lies x0 x1 x2 x3 S post) : Mi l yX9_lies (Wm yX9_lies prog_11_method_24_code 4 (Option.some Jvm.ClassFile.FieldType.boolean)) 1 22 D cy [va_rf (some x0), Value.int x1, Value.int x2, Value.int x3] S 0 0 (fun r S => bo r ∧ post r S) := by
  refine Mi_of (own := "TrenchboardModel") (by decide) rfl (by first | decide | simp [lg_sl, va_cat, vi_cat, vl_cat]) (fun p e s m below meth c A C hZ hr hin9 => ?_)
  have J34 : ∀ (S : PT) (s0 : Int32), w_X9_lies_b34 x0 x1 x2 x3 post S s0 → G p l e { frames := 1, cells := 0, slots := 0, locals := 22 } s m [va_rf (some x0), Value.int x1, Value.int x2, Value.int x3].toArray below meth c D cy A s.heap 4 (QMi below D cy A [va_rf (some x0), Value.int x1, Value.int x2, Value.int x3] s 0 0 (fun r S => bo r ∧ post r S)) S 0 0 34 [] [Value.int s0] := by
    intro S s0 h
    unfold w_X9_lies_b34 at h
    obtain ⟨hb1, h⟩ := h
    exact G_zret C (mc := 0) (ms := 0) (post := (fun r S => bo r ∧ post r S)) (bo_nar hb1) hr (Nat.le_of_ble_eq_true rfl) (Nat.le_of_ble_eq_true rfl) dX9_lies_34 ⟨hb1, h⟩
  have J33 : ∀ (S : PT), w_X9_lies_b33 x0 x1 x2 x3 post S → G p l e { frames := 1, cells := 0, slots := 0, locals := 22 } s m [va_rf (some x0), Value.int x1, Value.int x2, Value.int x3].toArray below meth c D cy A s.heap 4 (QMi below D cy A [va_rf (some x0), Value.int x1, Value.int x2, Value.int x3] s 0 0 (fun r S => bo r ∧ post r S)) S 0 0 33 [] [] := by
    intro S h
    unfold w_X9_lies_b33 at h
    refine G_iconst C (v := 0) dX9_lies_33 (by decide) ?_
    refine G_lv C (lv' := []) [] rfl ?_
    exact J34 _ _ h
  refine G_lv C (lv' := [(0, va_rf (some x0)), (1, Value.int x1), (2, Value.int x2), (3, Value.int x3)]) [0, 1, 2, 3] (by first | rfl | simp [lv_pick, lv_args, va_cat, vi_cat, vl_cat]) ?_
  unfold w_X9_lies at h
  refine G_aload_n C (x := (some x0)) 0 dX9_lies_0 rfl rfl ?_
  obtain ⟨hk2, h⟩ := h
  refine G_get C (CC := RX9) (Tf := TX9) (N := 50) (k := 10) (i := 16) (v := va_rf (gP S 1016 x0)) hk2 (by decide) rfl (fin fwX9) (by decide) (im tw_5_144) rfl rfl dX9_lies_1 ?_
  refine G_iload_n C (x := x1) 1 dX9_lies_4 rfl rfl ?_
  obtain ⟨a3, ha4, h⟩ := h
  refine G_rf1 ha4 ?_
  obtain ⟨hk5, h⟩ := h
  obtain ⟨hi6, h⟩ := h
  refine G_iald C hk5 hi6 dX9_lies_5 ?_
  refine G_iload_n C (x := x2) 2 dX9_lies_6 rfl rfl ?_
  refine G_icmp_ne C (tgt := 33) dX9_lies_7 (by decide) (fun hc => ?_) (fun hc => ?_)
  · have h := h.1 hc
    refine G_lv C (lv' := []) [] rfl ?_
    exact J33 _ h
  · have h := h.2 hc
    refine G_iload_n C (x := x3) 3 dX9_lies_10 rfl rfl ?_
    refine G_aload_n C (x := (some x0)) 0 dX9_lies_11 rfl rfl ?_
    refine G_get C (CC := RX9) (Tf := TX9) (N := 50) (k := 10) (i := 17) (v := va_rf (gP S 1017 x0)) hk2 (by decide) rfl (fin fwX9) (by decide) (im tw_5_145) rfl rfl dX9_lies_12 ?_
    refine G_iload_n C (x := x1) 1 dX9_lies_15 rfl rfl ?_
    obtain ⟨a7, ha8, h⟩ := h
    refine G_rf1 ha8 ?_
    obtain ⟨hk9, h⟩ := h
    obtain ⟨hi10, h⟩ := h
    refine G_iald C hk9 hi10 dX9_lies_16 ?_
    refine G_aload_n C (x := (some x0)) 0 dX9_lies_17 rfl rfl ?_
    refine G_get C (CC := RX9) (Tf := TX9) (N := 50) (k := 10) (i := 18) (v := va_rf (gP S 1018 x0)) hk2 (by decide) rfl (fin fwX9) (by decide) (im tw_5_146) rfl rfl dX9_lies_18 ?_
    refine G_iload_n C (x := x1) 1 dX9_lies_21 rfl rfl ?_
    obtain ⟨a11, ha12, h⟩ := h
    refine G_rf1 ha12 ?_
    obtain ⟨hk13, h⟩ := h
    obtain ⟨hi14, h⟩ := h
    refine G_iald C hk13 hi14 dX9_lies_22 ?_
    refine G_callSi C hZ tw_6_49 tw_6_50 tw_1_7 tw_6_51 hy_X9_isIn ⟨Nat.le_of_ble_eq_true rfl, Nat.le_of_ble_eq_true rfl⟩ (As := [Value.int x3, Value.int (gA S a7 x1.toNatClampNeg), Value.int (gA S a11 x1.toNatClampNeg)]) (rest := []) (c_X9_isIn l D cy x3 (gA S a7 x1.toNatClampNeg) (gA S a11 x1.toNatClampNeg) S _ h) rfl rfl (by simp [va_cat, vi_cat, vl_cat]) dX9_lies_23 ⟨Nat.le_of_ble_eq_true rfl, Nat.le_of_ble_eq_true rfl⟩ (fun r16 S15 h => ?_)
    obtain ⟨hb17, h⟩ := h
    refine G_if_eq C (tgt := 33) dX9_lies_26 (by decide) (fun hc => ?_) (fun hc => ?_)
    · have h := h.1 hc
      refine G_lv C (lv' := []) [] rfl ?_
      exact J33 _ h
    · have h := h.2 hc
      refine G_iconst C (v := 1) dX9_lies_29 (by decide) ?_
      refine G_goto C (tgt := 34) dX9_lies_30 (by decide) ?_
      refine G_lv C (lv' := []) [] rfl ?_
      exact J34 _ _ h
set_option maxHeartbeats 4000000 in
set_option maxRecDepth 100000 in
theorem c_X9_trial (l : Launch) (D : va_G) (cy : Nat → Nat) (x0 : Nat) (x1 : Int32) (x2 : Int32) (S : PT) (post : Int32 → PT → Prop) (h : w_X9_trial x0 x1 x2 S post) : Mi l yX9_trial (Wm yX9_trial prog_11_method_25_code 5 (Option.some Jvm.ClassFile.FieldType.int)) 3 65 D cy [va_rf (some x0), Value.int x1, Value.int x2] S 0 0 post := by
  refine Mi_of (own := "TrenchboardModel") (by decide) rfl (by first | decide | simp [lg_sl, va_cat, vi_cat, vl_cat]) (fun p e s m below meth c A C hZ hr hin9 => ?_)
  have J40 : ∀ (n : Nat) (S : PT) (v3 : Int32) (v4 : Int32), w_X9_trial_l40 x0 x1 x2 post n S v3 v4 → G p l e { frames := 3, cells := 0, slots := 0, locals := 65 } s m [va_rf (some x0), Value.int x1, Value.int x2].toArray below meth c D cy A s.heap 5 (QMi below D cy A [va_rf (some x0), Value.int x1, Value.int x2] s 0 0 post) S 0 0 40 [(0, va_rf (some x0)), (1, Value.int x1), (2, Value.int x2), (3, Value.int v3), (4, Value.int v4)] [] := by
    intro n40
    induction n40 with
    | zero => intro S v3 v4 h; rw [w_X9_trial_l40] at h; exact False.elim h
    | succ n40 K40 =>
      have J66 : ∀ (S : PT) (v4 : Int32) (s0 : Int32) (s1 : Int32), w_X9_trial_b66 x0 x1 x2 post (w_X9_trial_l40 x0 x1 x2 post n40) S v4 s0 s1 → G p l e { frames := 3, cells := 0, slots := 0, locals := 65 } s m [va_rf (some x0), Value.int x1, Value.int x2].toArray below meth c D cy A s.heap 5 (QMi below D cy A [va_rf (some x0), Value.int x1, Value.int x2] s 0 0 post) S 0 0 66 [(0, va_rf (some x0)), (1, Value.int x1), (2, Value.int x2), (4, Value.int v4)] [Value.int s1, Value.int s0] := by
        intro S v4 s0 s1 h
        unfold w_X9_trial_b66 at h
        refine G_iadd C dX9_trial_66 ?_
        refine G_istore_n C (i := 3) (lv' := [(3, Value.int (s0 + s1)), (0, va_rf (some x0)), (1, Value.int x1), (2, Value.int x2), (4, Value.int v4)]) dX9_trial_67 rfl (by decide) (by first | rfl | simp [va_cat, vi_cat, vl_cat]) ?_
        refine G_iinc C (v := (v4 + 1)) (lv' := [(4, Value.int (v4 + 1)), (3, Value.int (s0 + s1)), (0, va_rf (some x0)), (1, Value.int x1), (2, Value.int x2)]) 4 dX9_trial_68 rfl rfl (by decide) (by first | rfl | simp [va_cat, vi_cat, vl_cat]) ?_
        refine G_goto C (tgt := 40) dX9_trial_71 (by decide) ?_
        refine G_lv C (lv' := [(0, va_rf (some x0)), (1, Value.int x1), (2, Value.int x2), (3, Value.int (s0 + s1)), (4, Value.int (v4 + 1))]) [2, 3, 4, 1, 0] rfl ?_
        exact K40 _ _ _ h
      intro S v3 v4 h
      rw [w_X9_trial_l40] at h
      refine G_iload C (x := v4) 4 dX9_trial_40 rfl ?_
      refine G_aload_n C (x := (some x0)) 0 dX9_trial_42 rfl rfl ?_
      obtain ⟨hk1, h⟩ := h
      refine G_get C (CC := RX9) (Tf := TX9) (N := 50) (k := 10) (i := 14) (v := Value.int (gI S 1014 x0)) hk1 (by decide) rfl (fin fwX9) (by decide) (im tw_5_142) rfl rfl dX9_trial_43 ?_
      refine G_icmp_ge C (tgt := 74) dX9_trial_46 (by decide) (fun hc => ?_) (fun hc => ?_)
      · have h := h.1 hc
        refine G_iload_n C (x := v3) 3 dX9_trial_74 rfl rfl ?_
        exact G_iret C (mc := 0) (ms := 0) (post := post) hr (Nat.le_of_ble_eq_true rfl) (Nat.le_of_ble_eq_true rfl) dX9_trial_75 h
      · have h := h.2 hc
        refine G_iload_n C (x := v3) 3 dX9_trial_49 rfl rfl ?_
        refine G_aload_n C (x := (some x0)) 0 dX9_trial_50 rfl rfl ?_
        refine G_iload C (x := v4) 4 dX9_trial_51 rfl ?_
        refine G_iload_n C (x := x1) 1 dX9_trial_53 rfl rfl ?_
        refine G_iload_n C (x := x2) 2 dX9_trial_54 rfl rfl ?_
        refine G_callVi C hZ (Tf := TX9) (N := 50) hk1 (by decide) rfl tw_6_131 tw_6_133 tw_0_40 tw_1_7 tw_6_134 hy_X9_lies ⟨Nat.le_of_ble_eq_true rfl, Nat.le_of_ble_eq_true rfl⟩ (As := [Value.int v4, Value.int x1, Value.int x2]) (rest := [Value.int v3]) (c_X9_lies l D cy x0 v4 x1 x2 S _ h) rfl rfl (by simp [va_cat, vi_cat, vl_cat]) dX9_trial_55 ⟨Nat.le_of_ble_eq_true rfl, Nat.le_of_ble_eq_true rfl⟩ (fun r3 S2 h => ?_)
        obtain ⟨hb4, h⟩ := h
        refine G_if_eq C (tgt := 65) dX9_trial_58 (by decide) (fun hc => ?_) (fun hc => ?_)
        · have h := h.1 hc
          refine G_iconst C (v := 0) dX9_trial_65 (by decide) ?_
          refine G_lv C (lv' := [(0, va_rf (some x0)), (1, Value.int x1), (2, Value.int x2), (4, Value.int v4)]) [0, 1, 2, 4] rfl ?_
          exact J66 _ _ _ _ h
        · have h := h.2 hc
          refine G_iconst C (v := 1) dX9_trial_61 (by decide) ?_
          refine G_goto C (tgt := 66) dX9_trial_62 (by decide) ?_
          refine G_lv C (lv' := [(0, va_rf (some x0)), (1, Value.int x1), (2, Value.int x2), (4, Value.int v4)]) [0, 1, 2, 4] rfl ?_
          exact J66 _ _ _ _ h
  have J15 : ∀ (S : PT) (s0 : Option Nat) (s1 : Int32), w_X9_trial_b15 x0 x1 x2 post S s0 s1 → G p l e { frames := 3, cells := 0, slots := 0, locals := 65 } s m [va_rf (some x0), Value.int x1, Value.int x2].toArray below meth c D cy A s.heap 5 (QMi below D cy A [va_rf (some x0), Value.int x1, Value.int x2] s 0 0 post) S 0 0 15 [(0, va_rf (some x0)), (1, Value.int x1), (2, Value.int x2)] [Value.int s1, va_rf s0] := by
    intro S s0 s1 h
    unfold w_X9_trial_b15 at h
    obtain ⟨a5, ha6, h⟩ := h
    obtain ⟨hk7, h⟩ := h
    refine G_callVi C hZ (Tf := TX9) (N := 50) hk7 (by decide) rfl tw_6_56 tw_6_58 tw_0_29 tw_1_7 tw_6_59 hy_X9_goes ⟨Nat.le_of_ble_eq_true rfl, Nat.le_of_ble_eq_true rfl⟩ (As := [Value.int s1]) (rest := []) (c_X9_goes l D cy a5 s1 S _ h) rfl (by first | rfl | (simp only [ha6]; rfl) | simp only [ha6]) (by simp [va_cat, vi_cat, vl_cat]) dX9_trial_15 ⟨Nat.le_of_ble_eq_true rfl, Nat.le_of_ble_eq_true rfl⟩ (fun r9 S8 h => ?_)
    obtain ⟨hb10, h⟩ := h
    refine G_if_ne C (tgt := 23) dX9_trial_18 (by decide) (fun hc => ?_) (fun hc => ?_)
    · have h := h.1 hc
      refine G_aload_n C (x := (some x0)) 0 dX9_trial_23 rfl rfl ?_
      obtain ⟨hk11, h⟩ := h
      refine G_get C (CC := RX9) (Tf := TX9) (N := 50) (k := 10) (i := 12) (v := va_rf (gP S8 1012 x0)) hk11 (by decide) rfl (fin fwX9) (by decide) (im tw_5_140) rfl rfl dX9_trial_24 ?_
      refine G_bipush C (v := 40) dX9_trial_27 (by decide) ?_
      refine G_iload_n C (x := x1) 1 dX9_trial_29 rfl rfl ?_
      refine G_imul C dX9_trial_30 ?_
      refine G_iload_n C (x := x2) 2 dX9_trial_31 rfl rfl ?_
      refine G_iadd C dX9_trial_32 ?_
      refine G_iconst C (v := 1) dX9_trial_33 (by decide) ?_
      obtain ⟨a12, ha13, h⟩ := h
      refine G_rf2 ha13 ?_
      obtain ⟨hk14, h⟩ := h
      obtain ⟨hi15, h⟩ := h
      refine G_zast C hk14 bo_1 hi15 dX9_trial_34 ?_
      generalize e17 : sA S8 a12 ((((40 * x1) + x2)).toNatClampNeg) 1 = S16
      have h := h S16 e17.symm
      refine G_iconst C (v := 0) dX9_trial_35 (by decide) ?_
      refine G_istore_n C (i := 3) (lv' := [(3, Value.int 0), (0, va_rf (some x0)), (1, Value.int x1), (2, Value.int x2)]) dX9_trial_36 rfl (by decide) (by first | rfl | simp [va_cat, vi_cat, vl_cat]) ?_
      refine G_iconst C (v := 0) dX9_trial_37 (by decide) ?_
      refine G_istore C (i := 4) (lv' := [(4, Value.int 0), (3, Value.int 0), (0, va_rf (some x0)), (1, Value.int x1), (2, Value.int x2)]) dX9_trial_38 (by decide) (by first | rfl | simp [va_cat, vi_cat, vl_cat]) ?_
      refine G_lv C (lv' := [(0, va_rf (some x0)), (1, Value.int x1), (2, Value.int x2), (3, Value.int 0), (4, Value.int 0)]) [2, 3, 4, 1, 0] rfl ?_
      obtain ⟨n9, h⟩ := h
      exact J40 n9 _ _ _ h
    · have h := h.2 hc
      refine G_iconst C (v := 0) dX9_trial_21 (by decide) ?_
      exact G_iret C (mc := 0) (ms := 0) (post := post) hr (Nat.le_of_ble_eq_true rfl) (Nat.le_of_ble_eq_true rfl) dX9_trial_22 h
  refine G_lv C (lv' := [(0, va_rf (some x0)), (1, Value.int x1), (2, Value.int x2)]) [0, 1, 2] (by first | rfl | simp [lv_pick, lv_args, va_cat, vi_cat, vl_cat]) ?_
  unfold w_X9_trial at h
  refine G_aload_n C (x := (some x0)) 0 dX9_trial_0 rfl rfl ?_
  refine G_aload_n C (x := (some x0)) 0 dX9_trial_1 rfl rfl ?_
  refine G_iload_n C (x := x1) 1 dX9_trial_2 rfl rfl ?_
  refine G_iload_n C (x := x2) 2 dX9_trial_3 rfl rfl ?_
  obtain ⟨hk18, h⟩ := h
  refine G_callVi C hZ (Tf := TX9) (N := 50) hk18 (by decide) rfl tw_6_95 tw_6_97 tw_0_35 tw_1_7 tw_6_98 hy_X9_isMetre ⟨Nat.le_of_ble_eq_true rfl, Nat.le_of_ble_eq_true rfl⟩ (As := [Value.int x1, Value.int x2]) (rest := [va_rf (some x0)]) (c_X9_isMetre l D cy x0 x1 x2 S _ h) rfl rfl (by simp [va_cat, vi_cat, vl_cat]) dX9_trial_4 ⟨Nat.le_of_ble_eq_true rfl, Nat.le_of_ble_eq_true rfl⟩ (fun r20 S19 h => ?_)
  obtain ⟨hb21, h⟩ := h
  refine G_if_eq C (tgt := 14) dX9_trial_7 (by decide) (fun hc => ?_) (fun hc => ?_)
  · have h := h.1 hc
    refine G_iconst C (v := 1) dX9_trial_14 (by decide) ?_
    refine G_lv C (lv' := [(0, va_rf (some x0)), (1, Value.int x1), (2, Value.int x2)]) [0, 1, 2] rfl ?_
    exact J15 _ _ _ h
  · have h := h.2 hc
    refine G_iconst C (v := 0) dX9_trial_10 (by decide) ?_
    refine G_goto C (tgt := 15) dX9_trial_11 (by decide) ?_
    refine G_lv C (lv' := [(0, va_rf (some x0)), (1, Value.int x1), (2, Value.int x2)]) [0, 1, 2] rfl ?_
    exact J15 _ _ _ h
set_option maxHeartbeats 4000000 in
set_option maxRecDepth 100000 in
theorem c_X9_isOn (l : Launch) (D : va_G) (cy : Nat → Nat) (x0 : Nat) (x1 : Int32) (S : PT) (post : Int32 → PT → Prop) (h : w_X9_isOn x0 x1 S post) : Mi l yX9_isOn (Wm yX9_isOn prog_11_method_29_code 2 (Option.some Jvm.ClassFile.FieldType.boolean)) 0 0 D cy [va_rf (some x0), Value.int x1] S 0 0 (fun r S => bo r ∧ post r S) := by
  refine Mi_of (own := "TrenchboardModel") (by decide) rfl (by first | decide | simp [lg_sl, va_cat, vi_cat, vl_cat]) (fun p e s m below meth c A C hZ hr hin9 => ?_)
  have J25 : ∀ (S : PT) (s0 : Int32), w_X9_isOn_b25 x0 x1 post S s0 → G p l e { frames := 0, cells := 0, slots := 0, locals := 0 } s m [va_rf (some x0), Value.int x1].toArray below meth c D cy A s.heap 2 (QMi below D cy A [va_rf (some x0), Value.int x1] s 0 0 (fun r S => bo r ∧ post r S)) S 0 0 25 [] [Value.int s0] := by
    intro S s0 h
    unfold w_X9_isOn_b25 at h
    obtain ⟨hb1, h⟩ := h
    exact G_zret C (mc := 0) (ms := 0) (post := (fun r S => bo r ∧ post r S)) (bo_nar hb1) hr (Nat.le_of_ble_eq_true rfl) (Nat.le_of_ble_eq_true rfl) dX9_isOn_25 ⟨hb1, h⟩
  have J20 : ∀ (S : PT), w_X9_isOn_b20 x0 x1 post S → G p l e { frames := 0, cells := 0, slots := 0, locals := 0 } s m [va_rf (some x0), Value.int x1].toArray below meth c D cy A s.heap 2 (QMi below D cy A [va_rf (some x0), Value.int x1] s 0 0 (fun r S => bo r ∧ post r S)) S 0 0 20 [] [] := by
    intro S h
    unfold w_X9_isOn_b20 at h
    refine G_iconst C (v := 1) dX9_isOn_20 (by decide) ?_
    refine G_goto C (tgt := 25) dX9_isOn_21 (by decide) ?_
    refine G_lv C (lv' := []) [] rfl ?_
    exact J25 _ _ h
  refine G_lv C (lv' := [(0, va_rf (some x0)), (1, Value.int x1)]) [0, 1] (by first | rfl | simp [lv_pick, lv_args, va_cat, vi_cat, vl_cat]) ?_
  unfold w_X9_isOn at h
  refine G_aload_n C (x := (some x0)) 0 dX9_isOn_0 rfl rfl ?_
  obtain ⟨hk2, h⟩ := h
  refine G_get C (CC := RX9) (Tf := TX9) (N := 50) (k := 10) (i := 33) (v := va_rf (gP S 1033 x0)) hk2 (by decide) rfl (fin fwX9) (by decide) (im tw_5_161) rfl rfl dX9_isOn_1 ?_
  refine G_iload_n C (x := x1) 1 dX9_isOn_4 rfl rfl ?_
  obtain ⟨a3, ha4, h⟩ := h
  refine G_rf1 ha4 ?_
  obtain ⟨hk5, h⟩ := h
  obtain ⟨hi6, h⟩ := h
  refine G_iald C hk5 hi6 dX9_isOn_5 ?_
  refine G_iconst C (v := 1) dX9_isOn_6 (by decide) ?_
  refine G_icmp_eq C (tgt := 20) dX9_isOn_7 (by decide) (fun hc => ?_) (fun hc => ?_)
  · have h := h.1 hc
    refine G_lv C (lv' := []) [] rfl ?_
    exact J20 _ h
  · have h := h.2 hc
    refine G_aload_n C (x := (some x0)) 0 dX9_isOn_10 rfl rfl ?_
    refine G_get C (CC := RX9) (Tf := TX9) (N := 50) (k := 10) (i := 33) (v := va_rf (gP S 1033 x0)) hk2 (by decide) rfl (fin fwX9) (by decide) (im tw_5_161) rfl rfl dX9_isOn_11 ?_
    refine G_iload_n C (x := x1) 1 dX9_isOn_14 rfl rfl ?_
    refine G_rf1 ha4 ?_
    obtain ⟨hi7, h⟩ := h
    refine G_iald C hk5 hi7 dX9_isOn_15 ?_
    refine G_iconst C (v := 3) dX9_isOn_16 (by decide) ?_
    refine G_icmp_ne C (tgt := 24) dX9_isOn_17 (by decide) (fun hc => ?_) (fun hc => ?_)
    · have h := h.1 hc
      refine G_iconst C (v := 0) dX9_isOn_24 (by decide) ?_
      refine G_lv C (lv' := []) [] rfl ?_
      exact J25 _ _ h
    · have h := h.2 hc
      refine G_lv C (lv' := []) [] rfl ?_
      exact J20 _ h
set_option maxHeartbeats 4000000 in
set_option maxRecDepth 100000 in
theorem c_X9_areNear (l : Launch) (D : va_G) (cy : Nat → Nat) (x0 : Nat) (x1 : Int32) (x2 : Int32) (S : PT) (post : Int32 → PT → Prop) (h : w_X9_areNear x0 x1 x2 S post) : Mi l yX9_areNear (Wm yX9_areNear prog_11_method_30_code 6 (Option.some Jvm.ClassFile.FieldType.boolean)) 0 0 D cy [va_rf (some x0), Value.int x1, Value.int x2] S 0 0 (fun r S => bo r ∧ post r S) := by
  refine Mi_of (own := "TrenchboardModel") (by decide) rfl (by first | decide | simp [lg_sl, va_cat, vi_cat, vl_cat]) (fun p e s m below meth c A C hZ hr hin9 => ?_)
  have J94 : ∀ (S : PT) (s0 : Int32), w_X9_areNear_b94 x0 x1 x2 post S s0 → G p l e { frames := 0, cells := 0, slots := 0, locals := 0 } s m [va_rf (some x0), Value.int x1, Value.int x2].toArray below meth c D cy A s.heap 6 (QMi below D cy A [va_rf (some x0), Value.int x1, Value.int x2] s 0 0 (fun r S => bo r ∧ post r S)) S 0 0 94 [] [Value.int s0] := by
    intro S s0 h
    unfold w_X9_areNear_b94 at h
    obtain ⟨hb1, h⟩ := h
    exact G_zret C (mc := 0) (ms := 0) (post := (fun r S => bo r ∧ post r S)) (bo_nar hb1) hr (Nat.le_of_ble_eq_true rfl) (Nat.le_of_ble_eq_true rfl) dX9_areNear_94 ⟨hb1, h⟩
  have J89 : ∀ (S : PT), w_X9_areNear_b89 x0 x1 x2 post S → G p l e { frames := 0, cells := 0, slots := 0, locals := 0 } s m [va_rf (some x0), Value.int x1, Value.int x2].toArray below meth c D cy A s.heap 6 (QMi below D cy A [va_rf (some x0), Value.int x1, Value.int x2] s 0 0 (fun r S => bo r ∧ post r S)) S 0 0 89 [] [] := by
    intro S h
    unfold w_X9_areNear_b89 at h
    refine G_iconst C (v := 1) dX9_areNear_89 (by decide) ?_
    refine G_goto C (tgt := 94) dX9_areNear_90 (by decide) ?_
    refine G_lv C (lv' := []) [] rfl ?_
    exact J94 _ _ h
  have J54 : ∀ (S : PT) (v3 : Int32) (v4 : Int32) (s0 : Int32), w_X9_areNear_b54 x0 x1 x2 post S v3 v4 s0 → G p l e { frames := 0, cells := 0, slots := 0, locals := 0 } s m [va_rf (some x0), Value.int x1, Value.int x2].toArray below meth c D cy A s.heap 6 (QMi below D cy A [va_rf (some x0), Value.int x1, Value.int x2] s 0 0 (fun r S => bo r ∧ post r S)) S 0 0 54 [(0, va_rf (some x0)), (3, Value.int v3), (4, Value.int v4)] [Value.int s0] := by
    intro S v3 v4 s0 h
    unfold w_X9_areNear_b54 at h
    refine G_istore C (i := 5) (lv' := [(5, Value.int s0), (0, va_rf (some x0)), (3, Value.int v3), (4, Value.int v4)]) dX9_areNear_54 (by decide) (by first | rfl | simp [va_cat, vi_cat, vl_cat]) ?_
    refine G_iload_n C (x := v3) 2 dX9_areNear_56 rfl rfl ?_
    refine G_iload C (x := v4) 3 dX9_areNear_57 rfl ?_
    refine G_icmp_ne C (tgt := 67) dX9_areNear_59 (by decide) (fun hc => ?_) (fun hc => ?_)
    · have h := h.1 hc
      refine G_aload_n C (x := (some x0)) 1 dX9_areNear_67 rfl rfl ?_
      obtain ⟨hk2, h⟩ := h
      refine G_get C (CC := RX9) (Tf := TX9) (N := 50) (k := 10) (i := 5) (v := va_rf (gP S 1005 x0)) hk2 (by decide) rfl (fin fwX9) (by decide) (im tw_5_133) rfl rfl dX9_areNear_68 ?_
      refine G_iload_n C (x := v3) 2 dX9_areNear_71 rfl rfl ?_
      obtain ⟨a3, ha4, h⟩ := h
      refine G_rf1 ha4 ?_
      obtain ⟨hk5, h⟩ := h
      obtain ⟨hi6, h⟩ := h
      refine G_iald C hk5 hi6 dX9_areNear_72 ?_
      refine G_iload C (x := v4) 3 dX9_areNear_73 rfl ?_
      refine G_icmp_eq C (tgt := 89) dX9_areNear_75 (by decide) (fun hc => ?_) (fun hc => ?_)
      · have h := h.1 hc
        refine G_lv C (lv' := []) [] rfl ?_
        exact J89 _ h
      · have h := h.2 hc
        refine G_aload_n C (x := (some x0)) 1 dX9_areNear_78 rfl rfl ?_
        refine G_get C (CC := RX9) (Tf := TX9) (N := 50) (k := 10) (i := 5) (v := va_rf (gP S 1005 x0)) hk2 (by decide) rfl (fin fwX9) (by decide) (im tw_5_133) rfl rfl dX9_areNear_79 ?_
        refine G_iload C (x := v4) 3 dX9_areNear_82 rfl ?_
        refine G_rf1 ha4 ?_
        obtain ⟨hi7, h⟩ := h
        refine G_iald C hk5 hi7 dX9_areNear_84 ?_
        refine G_iload_n C (x := v3) 2 dX9_areNear_85 rfl rfl ?_
        refine G_icmp_ne C (tgt := 93) dX9_areNear_86 (by decide) (fun hc => ?_) (fun hc => ?_)
        · have h := h.1 hc
          refine G_iconst C (v := 0) dX9_areNear_93 (by decide) ?_
          refine G_lv C (lv' := []) [] rfl ?_
          exact J94 _ _ h
        · have h := h.2 hc
          refine G_lv C (lv' := []) [] rfl ?_
          exact J89 _ h
    · have h := h.2 hc
      refine G_iload C (x := s0) 0 dX9_areNear_62 rfl ?_
      refine G_goto C (tgt := 94) dX9_areNear_64 (by decide) ?_
      refine G_lv C (lv' := []) [] rfl ?_
      exact J94 _ _ h
  have J53 : ∀ (S : PT) (v3 : Int32) (v4 : Int32), w_X9_areNear_b53 x0 x1 x2 post S v3 v4 → G p l e { frames := 0, cells := 0, slots := 0, locals := 0 } s m [va_rf (some x0), Value.int x1, Value.int x2].toArray below meth c D cy A s.heap 6 (QMi below D cy A [va_rf (some x0), Value.int x1, Value.int x2] s 0 0 (fun r S => bo r ∧ post r S)) S 0 0 53 [(0, va_rf (some x0)), (3, Value.int v3), (4, Value.int v4)] [] := by
    intro S v3 v4 h
    unfold w_X9_areNear_b53 at h
    refine G_iconst C (v := 0) dX9_areNear_53 (by decide) ?_
    refine G_lv C (lv' := [(0, va_rf (some x0)), (3, Value.int v3), (4, Value.int v4)]) [0, 1, 2] rfl ?_
    exact J54 _ _ _ _ h
  refine G_lv C (lv' := [(0, va_rf (some x0)), (1, Value.int x1), (2, Value.int x2)]) [0, 1, 2] (by first | rfl | simp [lv_pick, lv_args, va_cat, vi_cat, vl_cat]) ?_
  unfold w_X9_areNear at h
  refine G_aload_n C (x := (some x0)) 0 dX9_areNear_0 rfl rfl ?_
  obtain ⟨hk8, h⟩ := h
  refine G_get C (CC := RX9) (Tf := TX9) (N := 50) (k := 10) (i := 25) (v := va_rf (gP S 1025 x0)) hk8 (by decide) rfl (fin fwX9) (by decide) (im tw_5_153) rfl rfl dX9_areNear_1 ?_
  refine G_iload_n C (x := x1) 1 dX9_areNear_4 rfl rfl ?_
  obtain ⟨a9, ha10, h⟩ := h
  refine G_rf1 ha10 ?_
  obtain ⟨hk11, h⟩ := h
  obtain ⟨hi12, h⟩ := h
  refine G_iald C hk11 hi12 dX9_areNear_5 ?_
  refine G_istore_n C (i := 3) (lv' := [(3, Value.int (gA S a9 x1.toNatClampNeg)), (0, va_rf (some x0)), (1, Value.int x1), (2, Value.int x2)]) dX9_areNear_6 rfl (by decide) (by first | rfl | simp [va_cat, vi_cat, vl_cat]) ?_
  refine G_aload_n C (x := (some x0)) 1 dX9_areNear_7 rfl rfl ?_
  refine G_get C (CC := RX9) (Tf := TX9) (N := 50) (k := 10) (i := 25) (v := va_rf (gP S 1025 x0)) hk8 (by decide) rfl (fin fwX9) (by decide) (im tw_5_153) rfl rfl dX9_areNear_8 ?_
  refine G_iload_n C (x := x2) 3 dX9_areNear_11 rfl rfl ?_
  refine G_rf1 ha10 ?_
  obtain ⟨hi13, h⟩ := h
  refine G_iald C hk11 hi13 dX9_areNear_12 ?_
  refine G_istore C (i := 4) (lv' := [(4, Value.int (gA S a9 x2.toNatClampNeg)), (3, Value.int (gA S a9 x1.toNatClampNeg)), (0, va_rf (some x0)), (1, Value.int x1), (2, Value.int x2)]) dX9_areNear_13 (by decide) (by first | rfl | simp [va_cat, vi_cat, vl_cat]) ?_
  refine G_aload_n C (x := (some x0)) 2 dX9_areNear_15 rfl rfl ?_
  refine G_get C (CC := RX9) (Tf := TX9) (N := 50) (k := 10) (i := 26) (v := va_rf (gP S 1026 x0)) hk8 (by decide) rfl (fin fwX9) (by decide) (im tw_5_154) rfl rfl dX9_areNear_16 ?_
  refine G_iload_n C (x := x1) 3 dX9_areNear_19 rfl rfl ?_
  obtain ⟨a14, ha15, h⟩ := h
  refine G_rf1 ha15 ?_
  obtain ⟨hk16, h⟩ := h
  obtain ⟨hi17, h⟩ := h
  refine G_iald C hk16 hi17 dX9_areNear_20 ?_
  refine G_aload_n C (x := (some x0)) 2 dX9_areNear_21 rfl rfl ?_
  refine G_get C (CC := RX9) (Tf := TX9) (N := 50) (k := 10) (i := 27) (v := va_rf (gP S 1027 x0)) hk8 (by decide) rfl (fin fwX9) (by decide) (im tw_5_155) rfl rfl dX9_areNear_22 ?_
  refine G_iload_n C (x := x2) 4 dX9_areNear_25 rfl rfl ?_
  obtain ⟨a18, ha19, h⟩ := h
  refine G_rf1 ha19 ?_
  obtain ⟨hk20, h⟩ := h
  obtain ⟨hi21, h⟩ := h
  refine G_iald C hk20 hi21 dX9_areNear_26 ?_
  refine G_isub C dX9_areNear_27 ?_
  refine G_iconst C (v := 3) dX9_areNear_28 (by decide) ?_
  refine G_icmp_gt C (tgt := 53) dX9_areNear_29 (by decide) (fun hc => ?_) (fun hc => ?_)
  · have h := h.1 hc
    refine G_lv C (lv' := [(0, va_rf (some x0)), (3, Value.int (gA S a9 x1.toNatClampNeg)), (4, Value.int (gA S a9 x2.toNatClampNeg))]) [2, 1, 0] rfl ?_
    exact J53 _ _ _ h
  · have h := h.2 hc
    refine G_aload_n C (x := (some x0)) 2 dX9_areNear_32 rfl rfl ?_
    refine G_get C (CC := RX9) (Tf := TX9) (N := 50) (k := 10) (i := 26) (v := va_rf (gP S 1026 x0)) hk8 (by decide) rfl (fin fwX9) (by decide) (im tw_5_154) rfl rfl dX9_areNear_33 ?_
    refine G_iload_n C (x := x2) 4 dX9_areNear_36 rfl rfl ?_
    refine G_rf1 ha15 ?_
    obtain ⟨hi22, h⟩ := h
    refine G_iald C hk16 hi22 dX9_areNear_37 ?_
    refine G_aload_n C (x := (some x0)) 2 dX9_areNear_38 rfl rfl ?_
    refine G_get C (CC := RX9) (Tf := TX9) (N := 50) (k := 10) (i := 27) (v := va_rf (gP S 1027 x0)) hk8 (by decide) rfl (fin fwX9) (by decide) (im tw_5_155) rfl rfl dX9_areNear_39 ?_
    refine G_iload_n C (x := x1) 3 dX9_areNear_42 rfl rfl ?_
    refine G_rf1 ha19 ?_
    obtain ⟨hi23, h⟩ := h
    refine G_iald C hk20 hi23 dX9_areNear_43 ?_
    refine G_isub C dX9_areNear_44 ?_
    refine G_iconst C (v := 3) dX9_areNear_45 (by decide) ?_
    refine G_icmp_gt C (tgt := 53) dX9_areNear_46 (by decide) (fun hc => ?_) (fun hc => ?_)
    · have h := h.1 hc
      refine G_lv C (lv' := [(0, va_rf (some x0)), (3, Value.int (gA S a9 x1.toNatClampNeg)), (4, Value.int (gA S a9 x2.toNatClampNeg))]) [2, 1, 0] rfl ?_
      exact J53 _ _ _ h
    · have h := h.2 hc
      refine G_iconst C (v := 1) dX9_areNear_49 (by decide) ?_
      refine G_goto C (tgt := 54) dX9_areNear_50 (by decide) ?_
      refine G_lv C (lv' := [(0, va_rf (some x0)), (3, Value.int (gA S a9 x1.toNatClampNeg)), (4, Value.int (gA S a9 x2.toNatClampNeg))]) [2, 1, 0] rfl ?_
      exact J54 _ _ _ _ h
set_option maxHeartbeats 4000000 in
set_option maxRecDepth 100000 in
theorem c_X9_doMeet (l : Launch) (D : va_G) (cy : Nat → Nat) (x0 : Nat) (x1 : Int32) (x2 : Int32) (S : PT) (post : Int32 → PT → Prop) (h : w_X9_doMeet x0 x1 x2 S post) : Mi l yX9_doMeet (Wm yX9_doMeet prog_11_method_31_code 4 (Option.some Jvm.ClassFile.FieldType.boolean)) 3 66 D cy [va_rf (some x0), Value.int x1, Value.int x2] S 0 0 (fun r S => bo r ∧ post r S) := by
  refine Mi_of (own := "TrenchboardModel") (by decide) rfl (by first | decide | simp [lg_sl, va_cat, vi_cat, vl_cat]) (fun p e s m below meth c A C hZ hr hin9 => ?_)
  have J104 : ∀ (S : PT) (s0 : Int32), w_X9_doMeet_b104 x0 x1 x2 post S s0 → G p l e { frames := 3, cells := 0, slots := 0, locals := 66 } s m [va_rf (some x0), Value.int x1, Value.int x2].toArray below meth c D cy A s.heap 4 (QMi below D cy A [va_rf (some x0), Value.int x1, Value.int x2] s 0 0 (fun r S => bo r ∧ post r S)) S 0 0 104 [] [Value.int s0] := by
    intro S s0 h
    unfold w_X9_doMeet_b104 at h
    obtain ⟨hb1, h⟩ := h
    exact G_zret C (mc := 0) (ms := 0) (post := (fun r S => bo r ∧ post r S)) (bo_nar hb1) hr (Nat.le_of_ble_eq_true rfl) (Nat.le_of_ble_eq_true rfl) dX9_doMeet_104 ⟨hb1, h⟩
  have J103 : ∀ (S : PT), w_X9_doMeet_b103 x0 x1 x2 post S → G p l e { frames := 3, cells := 0, slots := 0, locals := 66 } s m [va_rf (some x0), Value.int x1, Value.int x2].toArray below meth c D cy A s.heap 4 (QMi below D cy A [va_rf (some x0), Value.int x1, Value.int x2] s 0 0 (fun r S => bo r ∧ post r S)) S 0 0 103 [] [] := by
    intro S h
    unfold w_X9_doMeet_b103 at h
    refine G_iconst C (v := 0) dX9_doMeet_103 (by decide) ?_
    refine G_lv C (lv' := []) [] rfl ?_
    exact J104 _ _ h
  have J47 : ∀ (S : PT) (s0 : Int32), w_X9_doMeet_b47 x0 x1 x2 post S s0 → G p l e { frames := 3, cells := 0, slots := 0, locals := 66 } s m [va_rf (some x0), Value.int x1, Value.int x2].toArray below meth c D cy A s.heap 4 (QMi below D cy A [va_rf (some x0), Value.int x1, Value.int x2] s 0 0 (fun r S => bo r ∧ post r S)) S 0 0 47 [(0, va_rf (some x0)), (1, Value.int x1), (2, Value.int x2)] [Value.int s0] := by
    intro S s0 h
    unfold w_X9_doMeet_b47 at h
    refine G_istore_n C (i := 3) (lv' := [(3, Value.int s0), (0, va_rf (some x0)), (1, Value.int x1), (2, Value.int x2)]) dX9_doMeet_47 rfl (by decide) (by first | rfl | simp [va_cat, vi_cat, vl_cat]) ?_
    refine G_iload_n C (x := x1) 2 dX9_doMeet_48 rfl rfl ?_
    refine G_iload_n C (x := x2) 3 dX9_doMeet_49 rfl rfl ?_
    refine G_icmp_eq C (tgt := 103) dX9_doMeet_50 (by decide) (fun hc => ?_) (fun hc => ?_)
    · have h := h.1 hc
      refine G_lv C (lv' := []) [] rfl ?_
      exact J103 _ h
    · have h := h.2 hc
      refine G_iload_n C (x := s0) 0 dX9_doMeet_53 rfl rfl ?_
      refine G_if_eq C (tgt := 103) dX9_doMeet_54 (by decide) (fun hc => ?_) (fun hc => ?_)
      · have h := h.1 hc
        refine G_lv C (lv' := []) [] rfl ?_
        exact J103 _ h
      · have h := h.2 hc
        refine G_aload_n C (x := (some x0)) 1 dX9_doMeet_57 rfl rfl ?_
        refine G_iload_n C (x := x1) 2 dX9_doMeet_58 rfl rfl ?_
        refine G_aload_n C (x := (some x0)) 1 dX9_doMeet_59 rfl rfl ?_
        obtain ⟨hk2, h⟩ := h
        refine G_get C (CC := RX9) (Tf := TX9) (N := 50) (k := 10) (i := 30) (v := va_rf (gP S 1030 x0)) hk2 (by decide) rfl (fin fwX9) (by decide) (im tw_5_158) rfl rfl dX9_doMeet_60 ?_
        refine G_iload_n C (x := x2) 3 dX9_doMeet_63 rfl rfl ?_
        obtain ⟨a3, ha4, h⟩ := h
        refine G_rf1 ha4 ?_
        obtain ⟨hk5, h⟩ := h
        obtain ⟨hi6, h⟩ := h
        refine G_iald C hk5 hi6 dX9_doMeet_64 ?_
        refine G_aload_n C (x := (some x0)) 1 dX9_doMeet_65 rfl rfl ?_
        refine G_iload_n C (x := x2) 3 dX9_doMeet_66 rfl rfl ?_
        refine G_callVi C hZ (Tf := TX9) (N := 50) hk2 (by decide) rfl tw_6_80 tw_6_82 tw_0_33 tw_1_7 tw_6_83 hy_X9_lastOf ⟨Nat.le_of_ble_eq_true rfl, Nat.le_of_ble_eq_true rfl⟩ (As := [Value.int x2]) (rest := [Value.int (gA S a3 x2.toNatClampNeg), Value.int x1, va_rf (some x0)]) (c_X9_lastOf l D cy x0 x2 S _ h) rfl rfl (by simp [va_cat, vi_cat, vl_cat]) dX9_doMeet_67 ⟨Nat.le_of_ble_eq_true rfl, Nat.le_of_ble_eq_true rfl⟩ (fun r8 S7 h => ?_)
        obtain ⟨hk9, h⟩ := h
        refine G_callVi C hZ (Tf := TX9) (N := 50) hk9 (by decide) rfl tw_6_76 tw_6_78 tw_0_32 tw_1_7 tw_6_79 hy_X9_hasDay ⟨Nat.le_of_ble_eq_true rfl, Nat.le_of_ble_eq_true rfl⟩ (As := [Value.int x1, Value.int (gA S a3 x2.toNatClampNeg), Value.int r8]) (rest := []) (c_X9_hasDay l D cy x0 x1 (gA S a3 x2.toNatClampNeg) r8 S7 _ h) rfl rfl (by simp [va_cat, vi_cat, vl_cat]) dX9_doMeet_70 ⟨Nat.le_of_ble_eq_true rfl, Nat.le_of_ble_eq_true rfl⟩ (fun r11 S10 h => ?_)
        obtain ⟨hb12, h⟩ := h
        refine G_if_eq C (tgt := 103) dX9_doMeet_73 (by decide) (fun hc => ?_) (fun hc => ?_)
        · have h := h.1 hc
          refine G_lv C (lv' := []) [] rfl ?_
          exact J103 _ h
        · have h := h.2 hc
          refine G_aload_n C (x := (some x0)) 1 dX9_doMeet_76 rfl rfl ?_
          obtain ⟨hk13, h⟩ := h
          refine G_get C (CC := RX9) (Tf := TX9) (N := 50) (k := 10) (i := 39) (v := va_rf (gP S10 1039 x0)) hk13 (by decide) rfl (fin fwX9) (by decide) (im tw_5_167) rfl rfl dX9_doMeet_77 ?_
          refine G_bipush C (v := 24) dX9_doMeet_80 (by decide) ?_
          refine G_iload_n C (x := x1) 2 dX9_doMeet_82 rfl rfl ?_
          refine G_imul C dX9_doMeet_83 ?_
          refine G_iload_n C (x := x2) 3 dX9_doMeet_84 rfl rfl ?_
          refine G_iadd C dX9_doMeet_85 ?_
          obtain ⟨a14, ha15, h⟩ := h
          refine G_rf1 ha15 ?_
          obtain ⟨hk16, h⟩ := h
          obtain ⟨hi17, h⟩ := h
          refine G_zald C hk16 hi17 dX9_doMeet_86 ?_
          refine G_if_ne C (tgt := 103) dX9_doMeet_87 (by decide) (fun hc => ?_) (fun hc => ?_)
          · have h := h.1 hc
            refine G_lv C (lv' := []) [] rfl ?_
            exact J103 _ h
          · have h := h.2 hc
            refine G_aload_n C (x := (some x0)) 1 dX9_doMeet_90 rfl rfl ?_
            refine G_iload_n C (x := x1) 2 dX9_doMeet_91 rfl rfl ?_
            refine G_iload_n C (x := x2) 3 dX9_doMeet_92 rfl rfl ?_
            refine G_callVi C hZ (Tf := TX9) (N := 50) hk13 (by decide) rfl tw_6_166 tw_6_168 tw_0_46 tw_1_7 tw_6_169 hy_X9_areNear ⟨Nat.le_of_ble_eq_true rfl, Nat.le_of_ble_eq_true rfl⟩ (As := [Value.int x1, Value.int x2]) (rest := []) (c_X9_areNear l D cy x0 x1 x2 S10 _ h) rfl rfl (by simp [va_cat, vi_cat, vl_cat]) dX9_doMeet_93 ⟨Nat.le_of_ble_eq_true rfl, Nat.le_of_ble_eq_true rfl⟩ (fun r19 S18 h => ?_)
            obtain ⟨hb20, h⟩ := h
            refine G_if_eq C (tgt := 103) dX9_doMeet_96 (by decide) (fun hc => ?_) (fun hc => ?_)
            · have h := h.1 hc
              refine G_lv C (lv' := []) [] rfl ?_
              exact J103 _ h
            · have h := h.2 hc
              refine G_iconst C (v := 1) dX9_doMeet_99 (by decide) ?_
              refine G_goto C (tgt := 104) dX9_doMeet_100 (by decide) ?_
              refine G_lv C (lv' := []) [] rfl ?_
              exact J104 _ _ h
  have J46 : ∀ (S : PT), w_X9_doMeet_b46 x0 x1 x2 post S → G p l e { frames := 3, cells := 0, slots := 0, locals := 66 } s m [va_rf (some x0), Value.int x1, Value.int x2].toArray below meth c D cy A s.heap 4 (QMi below D cy A [va_rf (some x0), Value.int x1, Value.int x2] s 0 0 (fun r S => bo r ∧ post r S)) S 0 0 46 [(0, va_rf (some x0)), (1, Value.int x1), (2, Value.int x2)] [] := by
    intro S h
    unfold w_X9_doMeet_b46 at h
    refine G_iconst C (v := 0) dX9_doMeet_46 (by decide) ?_
    refine G_lv C (lv' := [(0, va_rf (some x0)), (1, Value.int x1), (2, Value.int x2)]) [0, 1, 2] rfl ?_
    exact J47 _ _ h
  have J42 : ∀ (S : PT), w_X9_doMeet_b42 x0 x1 x2 post S → G p l e { frames := 3, cells := 0, slots := 0, locals := 66 } s m [va_rf (some x0), Value.int x1, Value.int x2].toArray below meth c D cy A s.heap 4 (QMi below D cy A [va_rf (some x0), Value.int x1, Value.int x2] s 0 0 (fun r S => bo r ∧ post r S)) S 0 0 42 [(0, va_rf (some x0)), (1, Value.int x1), (2, Value.int x2)] [] := by
    intro S h
    unfold w_X9_doMeet_b42 at h
    refine G_iconst C (v := 1) dX9_doMeet_42 (by decide) ?_
    refine G_goto C (tgt := 47) dX9_doMeet_43 (by decide) ?_
    refine G_lv C (lv' := [(0, va_rf (some x0)), (1, Value.int x1), (2, Value.int x2)]) [0, 1, 2] rfl ?_
    exact J47 _ _ h
  have J25 : ∀ (S : PT), w_X9_doMeet_b25 x0 x1 x2 post S → G p l e { frames := 3, cells := 0, slots := 0, locals := 66 } s m [va_rf (some x0), Value.int x1, Value.int x2].toArray below meth c D cy A s.heap 4 (QMi below D cy A [va_rf (some x0), Value.int x1, Value.int x2] s 0 0 (fun r S => bo r ∧ post r S)) S 0 0 25 [(0, va_rf (some x0)), (1, Value.int x1), (2, Value.int x2)] [] := by
    intro S h
    unfold w_X9_doMeet_b25 at h
    refine G_aload_n C (x := (some x0)) 0 dX9_doMeet_25 rfl rfl ?_
    refine G_iload_n C (x := x2) 2 dX9_doMeet_26 rfl rfl ?_
    obtain ⟨hk21, h⟩ := h
    refine G_callVi C hZ (Tf := TX9) (N := 50) hk21 (by decide) rfl tw_6_158 tw_6_160 tw_0_44 tw_1_7 tw_6_161 hy_X9_isOn ⟨Nat.le_of_ble_eq_true rfl, Nat.le_of_ble_eq_true rfl⟩ (As := [Value.int x2]) (rest := []) (c_X9_isOn l D cy x0 x2 S _ h) rfl rfl (by simp [va_cat, vi_cat, vl_cat]) dX9_doMeet_27 ⟨Nat.le_of_ble_eq_true rfl, Nat.le_of_ble_eq_true rfl⟩ (fun r23 S22 h => ?_)
    obtain ⟨hb24, h⟩ := h
    refine G_if_eq C (tgt := 46) dX9_doMeet_30 (by decide) (fun hc => ?_) (fun hc => ?_)
    · have h := h.1 hc
      refine G_lv C (lv' := [(0, va_rf (some x0)), (1, Value.int x1), (2, Value.int x2)]) [0, 1, 2] rfl ?_
      exact J46 _ h
    · have h := h.2 hc
      refine G_aload_n C (x := (some x0)) 0 dX9_doMeet_33 rfl rfl ?_
      obtain ⟨hk25, h⟩ := h
      refine G_get C (CC := RX9) (Tf := TX9) (N := 50) (k := 10) (i := 33) (v := va_rf (gP S22 1033 x0)) hk25 (by decide) rfl (fin fwX9) (by decide) (im tw_5_161) rfl rfl dX9_doMeet_34 ?_
      refine G_iload_n C (x := x1) 1 dX9_doMeet_37 rfl rfl ?_
      obtain ⟨a26, ha27, h⟩ := h
      refine G_rf1 ha27 ?_
      obtain ⟨hk28, h⟩ := h
      obtain ⟨hi29, h⟩ := h
      refine G_iald C hk28 hi29 dX9_doMeet_38 ?_
      refine G_if_ne C (tgt := 46) dX9_doMeet_39 (by decide) (fun hc => ?_) (fun hc => ?_)
      · have h := h.1 hc
        refine G_lv C (lv' := [(0, va_rf (some x0)), (1, Value.int x1), (2, Value.int x2)]) [0, 1, 2] rfl ?_
        exact J46 _ h
      · have h := h.2 hc
        refine G_lv C (lv' := [(0, va_rf (some x0)), (1, Value.int x1), (2, Value.int x2)]) [0, 1, 2] rfl ?_
        exact J42 _ h
  refine G_lv C (lv' := [(0, va_rf (some x0)), (1, Value.int x1), (2, Value.int x2)]) [0, 1, 2] (by first | rfl | simp [lv_pick, lv_args, va_cat, vi_cat, vl_cat]) ?_
  unfold w_X9_doMeet at h
  refine G_aload_n C (x := (some x0)) 0 dX9_doMeet_0 rfl rfl ?_
  refine G_iload_n C (x := x1) 1 dX9_doMeet_1 rfl rfl ?_
  obtain ⟨hk30, h⟩ := h
  refine G_callVi C hZ (Tf := TX9) (N := 50) hk30 (by decide) rfl tw_6_158 tw_6_160 tw_0_44 tw_1_7 tw_6_161 hy_X9_isOn ⟨Nat.le_of_ble_eq_true rfl, Nat.le_of_ble_eq_true rfl⟩ (As := [Value.int x1]) (rest := []) (c_X9_isOn l D cy x0 x1 S _ h) rfl rfl (by simp [va_cat, vi_cat, vl_cat]) dX9_doMeet_2 ⟨Nat.le_of_ble_eq_true rfl, Nat.le_of_ble_eq_true rfl⟩ (fun r32 S31 h => ?_)
  obtain ⟨hb33, h⟩ := h
  refine G_if_eq C (tgt := 25) dX9_doMeet_5 (by decide) (fun hc => ?_) (fun hc => ?_)
  · have h := h.1 hc
    refine G_lv C (lv' := [(0, va_rf (some x0)), (1, Value.int x1), (2, Value.int x2)]) [0, 1, 2] rfl ?_
    exact J25 _ h
  · have h := h.2 hc
    refine G_aload_n C (x := (some x0)) 0 dX9_doMeet_8 rfl rfl ?_
    refine G_iload_n C (x := x2) 2 dX9_doMeet_9 rfl rfl ?_
    obtain ⟨hk34, h⟩ := h
    refine G_callVi C hZ (Tf := TX9) (N := 50) hk34 (by decide) rfl tw_6_158 tw_6_160 tw_0_44 tw_1_7 tw_6_161 hy_X9_isOn ⟨Nat.le_of_ble_eq_true rfl, Nat.le_of_ble_eq_true rfl⟩ (As := [Value.int x2]) (rest := []) (c_X9_isOn l D cy x0 x2 S31 _ h) rfl rfl (by simp [va_cat, vi_cat, vl_cat]) dX9_doMeet_10 ⟨Nat.le_of_ble_eq_true rfl, Nat.le_of_ble_eq_true rfl⟩ (fun r36 S35 h => ?_)
    obtain ⟨hb37, h⟩ := h
    refine G_if_ne C (tgt := 42) dX9_doMeet_13 (by decide) (fun hc => ?_) (fun hc => ?_)
    · have h := h.1 hc
      refine G_lv C (lv' := [(0, va_rf (some x0)), (1, Value.int x1), (2, Value.int x2)]) [0, 1, 2] rfl ?_
      exact J42 _ h
    · have h := h.2 hc
      refine G_aload_n C (x := (some x0)) 0 dX9_doMeet_16 rfl rfl ?_
      obtain ⟨hk38, h⟩ := h
      refine G_get C (CC := RX9) (Tf := TX9) (N := 50) (k := 10) (i := 33) (v := va_rf (gP S35 1033 x0)) hk38 (by decide) rfl (fin fwX9) (by decide) (im tw_5_161) rfl rfl dX9_doMeet_17 ?_
      refine G_iload_n C (x := x2) 2 dX9_doMeet_20 rfl rfl ?_
      obtain ⟨a39, ha40, h⟩ := h
      refine G_rf1 ha40 ?_
      obtain ⟨hk41, h⟩ := h
      obtain ⟨hi42, h⟩ := h
      refine G_iald C hk41 hi42 dX9_doMeet_21 ?_
      refine G_if_eq C (tgt := 42) dX9_doMeet_22 (by decide) (fun hc => ?_) (fun hc => ?_)
      · have h := h.1 hc
        refine G_lv C (lv' := [(0, va_rf (some x0)), (1, Value.int x1), (2, Value.int x2)]) [0, 1, 2] rfl ?_
        exact J42 _ h
      · have h := h.2 hc
        refine G_lv C (lv' := [(0, va_rf (some x0)), (1, Value.int x1), (2, Value.int x2)]) [0, 1, 2] rfl ?_
        exact J25 _ h
set_option maxHeartbeats 4000000 in
set_option maxRecDepth 100000 in
theorem c_X9_meetsOn (l : Launch) (D : va_G) (cy : Nat → Nat) (x0 : Nat) (x1 : Int32) (S : PT) (post : Int32 → PT → Prop) (h : w_X9_meetsOn x0 x1 S post) : Mi l yX9_meetsOn (Wm yX9_meetsOn prog_11_method_32_code 4 (Option.some Jvm.ClassFile.FieldType.boolean)) 4 89 D cy [va_rf (some x0), Value.int x1] S 0 0 (fun r S => bo r ∧ post r S) := by
  refine Mi_of (own := "TrenchboardModel") (by decide) rfl (by first | decide | simp [lg_sl, va_cat, vi_cat, vl_cat]) (fun p e s m below meth c A C hZ hr hin9 => ?_)
  have J4 : ∀ (n : Nat) (S : PT) (v2 : Int32) (v3 : Int32), w_X9_meetsOn_l4 x0 x1 post n S v2 v3 → G p l e { frames := 4, cells := 0, slots := 0, locals := 89 } s m [va_rf (some x0), Value.int x1].toArray below meth c D cy A s.heap 4 (QMi below D cy A [va_rf (some x0), Value.int x1] s 0 0 (fun r S => bo r ∧ post r S)) S 0 0 4 [(0, va_rf (some x0)), (1, Value.int x1), (2, Value.int v2), (3, Value.int v3)] [] := by
    intro n4
    induction n4 with
    | zero => intro S v2 v3 h; rw [w_X9_meetsOn_l4] at h; exact False.elim h
    | succ n4 K4 =>
      have J38 : ∀ (S : PT) (v3 : Int32) (s0 : Int32), w_X9_meetsOn_b38 x0 x1 post (w_X9_meetsOn_l4 x0 x1 post n4) S v3 s0 → G p l e { frames := 4, cells := 0, slots := 0, locals := 89 } s m [va_rf (some x0), Value.int x1].toArray below meth c D cy A s.heap 4 (QMi below D cy A [va_rf (some x0), Value.int x1] s 0 0 (fun r S => bo r ∧ post r S)) S 0 0 38 [(0, va_rf (some x0)), (1, Value.int x1), (3, Value.int v3)] [Value.int s0] := by
        intro S v3 s0 h
        unfold w_X9_meetsOn_b38 at h
        refine G_istore_n C (i := 2) (lv' := [(2, Value.int s0), (0, va_rf (some x0)), (1, Value.int x1), (3, Value.int v3)]) dX9_meetsOn_38 rfl (by decide) (by first | rfl | simp [va_cat, vi_cat, vl_cat]) ?_
        refine G_iinc C (v := (v3 + 1)) (lv' := [(3, Value.int (v3 + 1)), (2, Value.int s0), (0, va_rf (some x0)), (1, Value.int x1)]) 3 dX9_meetsOn_39 rfl rfl (by decide) (by first | rfl | simp [va_cat, vi_cat, vl_cat]) ?_
        refine G_goto C (tgt := 4) dX9_meetsOn_42 (by decide) ?_
        refine G_lv C (lv' := [(0, va_rf (some x0)), (1, Value.int x1), (2, Value.int s0), (3, Value.int (v3 + 1))]) [2, 3, 1, 0] rfl ?_
        exact K4 _ _ _ h
      have J33 : ∀ (S : PT) (v3 : Int32), w_X9_meetsOn_b33 x0 x1 post (w_X9_meetsOn_l4 x0 x1 post n4) S v3 → G p l e { frames := 4, cells := 0, slots := 0, locals := 89 } s m [va_rf (some x0), Value.int x1].toArray below meth c D cy A s.heap 4 (QMi below D cy A [va_rf (some x0), Value.int x1] s 0 0 (fun r S => bo r ∧ post r S)) S 0 0 33 [(0, va_rf (some x0)), (1, Value.int x1), (3, Value.int v3)] [] := by
        intro S v3 h
        unfold w_X9_meetsOn_b33 at h
        refine G_iconst C (v := 1) dX9_meetsOn_33 (by decide) ?_
        refine G_goto C (tgt := 38) dX9_meetsOn_34 (by decide) ?_
        refine G_lv C (lv' := [(0, va_rf (some x0)), (1, Value.int x1), (3, Value.int v3)]) [0, 1, 2] rfl ?_
        exact J38 _ _ _ h
      have J37 : ∀ (S : PT) (v3 : Int32), w_X9_meetsOn_b37 x0 x1 post (w_X9_meetsOn_l4 x0 x1 post n4) S v3 → G p l e { frames := 4, cells := 0, slots := 0, locals := 89 } s m [va_rf (some x0), Value.int x1].toArray below meth c D cy A s.heap 4 (QMi below D cy A [va_rf (some x0), Value.int x1] s 0 0 (fun r S => bo r ∧ post r S)) S 0 0 37 [(0, va_rf (some x0)), (1, Value.int x1), (3, Value.int v3)] [] := by
        intro S v3 h
        unfold w_X9_meetsOn_b37 at h
        refine G_iconst C (v := 0) dX9_meetsOn_37 (by decide) ?_
        refine G_lv C (lv' := [(0, va_rf (some x0)), (1, Value.int x1), (3, Value.int v3)]) [0, 1, 2] rfl ?_
        exact J38 _ _ _ h
      intro S v2 v3 h
      rw [w_X9_meetsOn_l4] at h
      refine G_iload_n C (x := v3) 3 dX9_meetsOn_4 rfl rfl ?_
      refine G_aload_n C (x := (some x0)) 0 dX9_meetsOn_5 rfl rfl ?_
      obtain ⟨hk1, h⟩ := h
      refine G_get C (CC := RX9) (Tf := TX9) (N := 50) (k := 10) (i := 23) (v := Value.int (gI S 1023 x0)) hk1 (by decide) rfl (fin fwX9) (by decide) (im tw_5_151) rfl rfl dX9_meetsOn_6 ?_
      refine G_icmp_ge C (tgt := 45) dX9_meetsOn_9 (by decide) (fun hc => ?_) (fun hc => ?_)
      · have h := h.1 hc
        refine G_iload_n C (x := v2) 2 dX9_meetsOn_45 rfl rfl ?_
        obtain ⟨hb2, h⟩ := h
        exact G_zret C (mc := 0) (ms := 0) (post := (fun r S => bo r ∧ post r S)) (bo_nar hb2) hr (Nat.le_of_ble_eq_true rfl) (Nat.le_of_ble_eq_true rfl) dX9_meetsOn_46 ⟨hb2, h⟩
      · have h := h.2 hc
        refine G_iload_n C (x := v2) 2 dX9_meetsOn_12 rfl rfl ?_
        refine G_if_ne C (tgt := 33) dX9_meetsOn_13 (by decide) (fun hc => ?_) (fun hc => ?_)
        · have h := h.1 hc
          refine G_lv C (lv' := [(0, va_rf (some x0)), (1, Value.int x1), (3, Value.int v3)]) [0, 1, 3] rfl ?_
          exact J33 _ _ h
        · have h := h.2 hc
          refine G_aload_n C (x := (some x0)) 0 dX9_meetsOn_16 rfl rfl ?_
          refine G_iload_n C (x := v3) 3 dX9_meetsOn_17 rfl rfl ?_
          refine G_callVi C hZ (Tf := TX9) (N := 50) hk1 (by decide) rfl tw_6_158 tw_6_160 tw_0_44 tw_1_7 tw_6_161 hy_X9_isOn ⟨Nat.le_of_ble_eq_true rfl, Nat.le_of_ble_eq_true rfl⟩ (As := [Value.int v3]) (rest := []) (c_X9_isOn l D cy x0 v3 S _ h) rfl rfl (by simp [va_cat, vi_cat, vl_cat]) dX9_meetsOn_18 ⟨Nat.le_of_ble_eq_true rfl, Nat.le_of_ble_eq_true rfl⟩ (fun r4 S3 h => ?_)
          obtain ⟨hb5, h⟩ := h
          refine G_if_eq C (tgt := 37) dX9_meetsOn_21 (by decide) (fun hc => ?_) (fun hc => ?_)
          · have h := h.1 hc
            refine G_lv C (lv' := [(0, va_rf (some x0)), (1, Value.int x1), (3, Value.int v3)]) [0, 1, 3] rfl ?_
            exact J37 _ _ h
          · have h := h.2 hc
            refine G_aload_n C (x := (some x0)) 0 dX9_meetsOn_24 rfl rfl ?_
            refine G_iload_n C (x := x1) 1 dX9_meetsOn_25 rfl rfl ?_
            refine G_iload_n C (x := v3) 3 dX9_meetsOn_26 rfl rfl ?_
            obtain ⟨hk6, h⟩ := h
            refine G_callVi C hZ (Tf := TX9) (N := 50) hk6 (by decide) rfl tw_6_162 tw_6_164 tw_0_45 tw_1_7 tw_6_165 hy_X9_doMeet ⟨Nat.le_of_ble_eq_true rfl, Nat.le_of_ble_eq_true rfl⟩ (As := [Value.int x1, Value.int v3]) (rest := []) (c_X9_doMeet l D cy x0 x1 v3 S3 _ h) rfl rfl (by simp [va_cat, vi_cat, vl_cat]) dX9_meetsOn_27 ⟨Nat.le_of_ble_eq_true rfl, Nat.le_of_ble_eq_true rfl⟩ (fun r8 S7 h => ?_)
            obtain ⟨hb9, h⟩ := h
            refine G_if_eq C (tgt := 37) dX9_meetsOn_30 (by decide) (fun hc => ?_) (fun hc => ?_)
            · have h := h.1 hc
              refine G_lv C (lv' := [(0, va_rf (some x0)), (1, Value.int x1), (3, Value.int v3)]) [0, 1, 3] rfl ?_
              exact J37 _ _ h
            · have h := h.2 hc
              refine G_lv C (lv' := [(0, va_rf (some x0)), (1, Value.int x1), (3, Value.int v3)]) [0, 1, 3] rfl ?_
              exact J33 _ _ h
  refine G_lv C (lv' := [(0, va_rf (some x0)), (1, Value.int x1)]) [0, 1] (by first | rfl | simp [lv_pick, lv_args, va_cat, vi_cat, vl_cat]) ?_
  unfold w_X9_meetsOn at h
  refine G_iconst C (v := 0) dX9_meetsOn_0 (by decide) ?_
  refine G_istore_n C (i := 2) (lv' := [(2, Value.int 0), (0, va_rf (some x0)), (1, Value.int x1)]) dX9_meetsOn_1 rfl (by decide) (by first | rfl | simp [va_cat, vi_cat, vl_cat]) ?_
  refine G_iconst C (v := 0) dX9_meetsOn_2 (by decide) ?_
  refine G_istore_n C (i := 3) (lv' := [(3, Value.int 0), (2, Value.int 0), (0, va_rf (some x0)), (1, Value.int x1)]) dX9_meetsOn_3 rfl (by decide) (by first | rfl | simp [va_cat, vi_cat, vl_cat]) ?_
  refine G_lv C (lv' := [(0, va_rf (some x0)), (1, Value.int x1), (2, Value.int 0), (3, Value.int 0)]) [2, 3, 1, 0] rfl ?_
  obtain ⟨n9, h⟩ := h
  exact J4 n9 _ _ _ h
set_option maxHeartbeats 4000000 in
set_option maxRecDepth 100000 in
theorem c_X9_barsOf (l : Launch) (D : va_G) (cy : Nat → Nat) (x0 : Nat) (x1 : Int32) (S : PT) (post : Int32 → PT → Prop) (h : w_X9_barsOf x0 x1 S post) : Mi l yX9_barsOf (Wm yX9_barsOf prog_11_method_33_code 5 (Option.some Jvm.ClassFile.FieldType.int)) 5 112 D cy [va_rf (some x0), Value.int x1] S 0 0 post := by
  refine Mi_of (own := "TrenchboardModel") (by decide) rfl (by first | decide | simp [lg_sl, va_cat, vi_cat, vl_cat]) (fun p e s m below meth c A C hZ hr hin9 => ?_)
  have J134 : ∀ (S : PT) (s0 : Int32), w_X9_barsOf_b134 x0 x1 post S s0 → G p l e { frames := 5, cells := 0, slots := 0, locals := 112 } s m [va_rf (some x0), Value.int x1].toArray below meth c D cy A s.heap 5 (QMi below D cy A [va_rf (some x0), Value.int x1] s 0 0 post) S 0 0 134 [] [Value.int s0] := by
    intro S s0 h
    unfold w_X9_barsOf_b134 at h
    exact G_iret C (mc := 0) (ms := 0) (post := post) hr (Nat.le_of_ble_eq_true rfl) (Nat.le_of_ble_eq_true rfl) dX9_barsOf_134 h
  have J102 : ∀ (S : PT) (v3 : Int32) (s0 : Int32), w_X9_barsOf_b102 x0 x1 post S v3 s0 → G p l e { frames := 5, cells := 0, slots := 0, locals := 112 } s m [va_rf (some x0), Value.int x1].toArray below meth c D cy A s.heap 5 (QMi below D cy A [va_rf (some x0), Value.int x1] s 0 0 post) S 0 0 102 [(0, va_rf (some x0)), (1, Value.int x1), (3, Value.int v3)] [Value.int s0] := by
    intro S v3 s0 h
    unfold w_X9_barsOf_b102 at h
    refine G_istore C (i := 4) (lv' := [(4, Value.int s0), (0, va_rf (some x0)), (1, Value.int x1), (3, Value.int v3)]) dX9_barsOf_102 (by decide) (by first | rfl | simp [va_cat, vi_cat, vl_cat]) ?_
    refine G_iload_n C (x := v3) 3 dX9_barsOf_104 rfl rfl ?_
    refine G_if_eq C (tgt := 112) dX9_barsOf_105 (by decide) (fun hc => ?_) (fun hc => ?_)
    · have h := h.1 hc
      refine G_iload C (x := s0) 0 dX9_barsOf_112 rfl ?_
      refine G_if_eq C (tgt := 121) dX9_barsOf_114 (by decide) (fun hc => ?_) (fun hc => ?_)
      · have h := h.1 hc
        refine G_aload_n C (x := (some x0)) 1 dX9_barsOf_121 rfl rfl ?_
        refine G_iload_n C (x := x1) 2 dX9_barsOf_122 rfl rfl ?_
        obtain ⟨hk1, h⟩ := h
        refine G_callVi C hZ (Tf := TX9) (N := 50) hk1 (by decide) rfl tw_6_154 tw_6_156 tw_0_43 tw_1_7 tw_6_157 hy_X9_meetsOn ⟨Nat.le_of_ble_eq_true rfl, Nat.le_of_ble_eq_true rfl⟩ (As := [Value.int x1]) (rest := []) (c_X9_meetsOn l D cy x0 x1 S _ h) rfl rfl (by simp [va_cat, vi_cat, vl_cat]) dX9_barsOf_123 ⟨Nat.le_of_ble_eq_true rfl, Nat.le_of_ble_eq_true rfl⟩ (fun r3 S2 h => ?_)
        obtain ⟨hb4, h⟩ := h
        refine G_if_eq C (tgt := 133) dX9_barsOf_126 (by decide) (fun hc => ?_) (fun hc => ?_)
        · have h := h.1 hc
          refine G_iconst C (v := 0) dX9_barsOf_133 (by decide) ?_
          refine G_lv C (lv' := []) [] rfl ?_
          exact J134 _ _ h
        · have h := h.2 hc
          refine G_iconst C (v := 3) dX9_barsOf_129 (by decide) ?_
          refine G_goto C (tgt := 134) dX9_barsOf_130 (by decide) ?_
          refine G_lv C (lv' := []) [] rfl ?_
          exact J134 _ _ h
      · have h := h.2 hc
        refine G_iconst C (v := 2) dX9_barsOf_117 (by decide) ?_
        refine G_goto C (tgt := 134) dX9_barsOf_118 (by decide) ?_
        refine G_lv C (lv' := []) [] rfl ?_
        exact J134 _ _ h
    · have h := h.2 hc
      refine G_iconst C (v := 1) dX9_barsOf_108 (by decide) ?_
      refine G_goto C (tgt := 134) dX9_barsOf_109 (by decide) ?_
      refine G_lv C (lv' := []) [] rfl ?_
      exact J134 _ _ h
  have J101 : ∀ (S : PT) (v3 : Int32), w_X9_barsOf_b101 x0 x1 post S v3 → G p l e { frames := 5, cells := 0, slots := 0, locals := 112 } s m [va_rf (some x0), Value.int x1].toArray below meth c D cy A s.heap 5 (QMi below D cy A [va_rf (some x0), Value.int x1] s 0 0 post) S 0 0 101 [(0, va_rf (some x0)), (1, Value.int x1), (3, Value.int v3)] [] := by
    intro S v3 h
    unfold w_X9_barsOf_b101 at h
    refine G_iconst C (v := 0) dX9_barsOf_101 (by decide) ?_
    refine G_lv C (lv' := [(0, va_rf (some x0)), (1, Value.int x1), (3, Value.int v3)]) [0, 1, 2] rfl ?_
    exact J102 _ _ _ h
  have J54 : ∀ (S : PT) (v2 : Int32) (s0 : Int32), w_X9_barsOf_b54 x0 x1 post S v2 s0 → G p l e { frames := 5, cells := 0, slots := 0, locals := 112 } s m [va_rf (some x0), Value.int x1].toArray below meth c D cy A s.heap 5 (QMi below D cy A [va_rf (some x0), Value.int x1] s 0 0 post) S 0 0 54 [(0, va_rf (some x0)), (1, Value.int x1), (2, Value.int v2)] [Value.int s0] := by
    intro S v2 s0 h
    unfold w_X9_barsOf_b54 at h
    refine G_istore_n C (i := 3) (lv' := [(3, Value.int s0), (0, va_rf (some x0)), (1, Value.int x1), (2, Value.int v2)]) dX9_barsOf_54 rfl (by decide) (by first | rfl | simp [va_cat, vi_cat, vl_cat]) ?_
    refine G_aload_n C (x := (some x0)) 1 dX9_barsOf_55 rfl rfl ?_
    obtain ⟨hk5, h⟩ := h
    refine G_get C (CC := RX9) (Tf := TX9) (N := 50) (k := 10) (i := 6) (v := va_rf (gP S 1006 x0)) hk5 (by decide) rfl (fin fwX9) (by decide) (im tw_5_134) rfl rfl dX9_barsOf_56 ?_
    refine G_iload_n C (x := v2) 3 dX9_barsOf_59 rfl rfl ?_
    obtain ⟨a6, ha7, h⟩ := h
    refine G_rf1 ha7 ?_
    obtain ⟨hk8, h⟩ := h
    obtain ⟨hi9, h⟩ := h
    refine G_iald C hk8 hi9 dX9_barsOf_60 ?_
    refine G_iconst C (v := (-1)) dX9_barsOf_61 (by decide) ?_
    refine G_icmp_eq C (tgt := 101) dX9_barsOf_62 (by decide) (fun hc => ?_) (fun hc => ?_)
    · have h := h.1 hc
      refine G_lv C (lv' := [(0, va_rf (some x0)), (1, Value.int x1), (3, Value.int s0)]) [1, 2, 0] rfl ?_
      exact J101 _ _ h
    · have h := h.2 hc
      refine G_aload_n C (x := (some x0)) 1 dX9_barsOf_65 rfl rfl ?_
      refine G_get C (CC := RX9) (Tf := TX9) (N := 50) (k := 10) (i := 38) (v := va_rf (gP S 1038 x0)) hk5 (by decide) rfl (fin fwX9) (by decide) (im tw_5_166) rfl rfl dX9_barsOf_66 ?_
      refine G_iload_n C (x := x1) 2 dX9_barsOf_69 rfl rfl ?_
      obtain ⟨a10, ha11, h⟩ := h
      refine G_rf1 ha11 ?_
      obtain ⟨hk12, h⟩ := h
      obtain ⟨hi13, h⟩ := h
      refine G_zald C hk12 hi13 dX9_barsOf_70 ?_
      refine G_if_ne C (tgt := 101) dX9_barsOf_71 (by decide) (fun hc => ?_) (fun hc => ?_)
      · have h := h.1 hc
        refine G_lv C (lv' := [(0, va_rf (some x0)), (1, Value.int x1), (3, Value.int s0)]) [1, 2, 0] rfl ?_
        exact J101 _ _ h
      · have h := h.2 hc
        refine G_aload_n C (x := (some x0)) 1 dX9_barsOf_74 rfl rfl ?_
        refine G_iload_n C (x := x1) 2 dX9_barsOf_75 rfl rfl ?_
        refine G_aload_n C (x := (some x0)) 1 dX9_barsOf_76 rfl rfl ?_
        refine G_get C (CC := RX9) (Tf := TX9) (N := 50) (k := 10) (i := 6) (v := va_rf (gP S 1006 x0)) hk5 (by decide) rfl (fin fwX9) (by decide) (im tw_5_134) rfl rfl dX9_barsOf_77 ?_
        refine G_iload_n C (x := v2) 3 dX9_barsOf_80 rfl rfl ?_
        refine G_rf1 ha7 ?_
        obtain ⟨hi14, h⟩ := h
        refine G_iald C hk8 hi14 dX9_barsOf_81 ?_
        refine G_aload_n C (x := (some x0)) 1 dX9_barsOf_82 rfl rfl ?_
        refine G_get C (CC := RX9) (Tf := TX9) (N := 50) (k := 10) (i := 6) (v := va_rf (gP S 1006 x0)) hk5 (by decide) rfl (fin fwX9) (by decide) (im tw_5_134) rfl rfl dX9_barsOf_83 ?_
        refine G_iload_n C (x := v2) 3 dX9_barsOf_86 rfl rfl ?_
        refine G_rf1 ha7 ?_
        obtain ⟨hi15, h⟩ := h
        refine G_iald C hk8 hi15 dX9_barsOf_87 ?_
        refine G_bipush C (v := 99) dX9_barsOf_88 (by decide) ?_
        refine G_iadd C dX9_barsOf_90 ?_
        refine G_callVi C hZ (Tf := TX9) (N := 50) hk5 (by decide) rfl tw_6_76 tw_6_78 tw_0_32 tw_1_7 tw_6_79 hy_X9_hasDay ⟨Nat.le_of_ble_eq_true rfl, Nat.le_of_ble_eq_true rfl⟩ (As := [Value.int x1, Value.int (gA S a6 v2.toNatClampNeg), Value.int ((gA S a6 v2.toNatClampNeg) + 99)]) (rest := []) (c_X9_hasDay l D cy x0 x1 (gA S a6 v2.toNatClampNeg) ((gA S a6 v2.toNatClampNeg) + 99) S _ h) rfl rfl (by simp [va_cat, vi_cat, vl_cat]) dX9_barsOf_91 ⟨Nat.le_of_ble_eq_true rfl, Nat.le_of_ble_eq_true rfl⟩ (fun r17 S16 h => ?_)
        obtain ⟨hb18, h⟩ := h
        refine G_if_eq C (tgt := 101) dX9_barsOf_94 (by decide) (fun hc => ?_) (fun hc => ?_)
        · have h := h.1 hc
          refine G_lv C (lv' := [(0, va_rf (some x0)), (1, Value.int x1), (3, Value.int s0)]) [1, 2, 0] rfl ?_
          exact J101 _ _ h
        · have h := h.2 hc
          refine G_iconst C (v := 1) dX9_barsOf_97 (by decide) ?_
          refine G_goto C (tgt := 102) dX9_barsOf_98 (by decide) ?_
          refine G_lv C (lv' := [(0, va_rf (some x0)), (1, Value.int x1), (3, Value.int s0)]) [1, 2, 0] rfl ?_
          exact J102 _ _ _ h
  have J53 : ∀ (S : PT) (v2 : Int32), w_X9_barsOf_b53 x0 x1 post S v2 → G p l e { frames := 5, cells := 0, slots := 0, locals := 112 } s m [va_rf (some x0), Value.int x1].toArray below meth c D cy A s.heap 5 (QMi below D cy A [va_rf (some x0), Value.int x1] s 0 0 post) S 0 0 53 [(0, va_rf (some x0)), (1, Value.int x1), (2, Value.int v2)] [] := by
    intro S v2 h
    unfold w_X9_barsOf_b53 at h
    refine G_iconst C (v := 0) dX9_barsOf_53 (by decide) ?_
    refine G_lv C (lv' := [(0, va_rf (some x0)), (1, Value.int x1), (2, Value.int v2)]) [0, 1, 2] rfl ?_
    exact J54 _ _ _ h
  refine G_lv C (lv' := [(0, va_rf (some x0)), (1, Value.int x1)]) [0, 1] (by first | rfl | simp [lv_pick, lv_args, va_cat, vi_cat, vl_cat]) ?_
  unfold w_X9_barsOf at h
  refine G_aload_n C (x := (some x0)) 0 dX9_barsOf_0 rfl rfl ?_
  obtain ⟨hk19, h⟩ := h
  refine G_get C (CC := RX9) (Tf := TX9) (N := 50) (k := 10) (i := 25) (v := va_rf (gP S 1025 x0)) hk19 (by decide) rfl (fin fwX9) (by decide) (im tw_5_153) rfl rfl dX9_barsOf_1 ?_
  refine G_iload_n C (x := x1) 1 dX9_barsOf_4 rfl rfl ?_
  obtain ⟨a20, ha21, h⟩ := h
  refine G_rf1 ha21 ?_
  obtain ⟨hk22, h⟩ := h
  obtain ⟨hi23, h⟩ := h
  refine G_iald C hk22 hi23 dX9_barsOf_5 ?_
  refine G_istore_n C (i := 2) (lv' := [(2, Value.int (gA S a20 x1.toNatClampNeg)), (0, va_rf (some x0)), (1, Value.int x1)]) dX9_barsOf_6 rfl (by decide) (by first | rfl | simp [va_cat, vi_cat, vl_cat]) ?_
  refine G_aload_n C (x := (some x0)) 1 dX9_barsOf_7 rfl rfl ?_
  refine G_get C (CC := RX9) (Tf := TX9) (N := 50) (k := 10) (i := 29) (v := va_rf (gP S 1029 x0)) hk19 (by decide) rfl (fin fwX9) (by decide) (im tw_5_157) rfl rfl dX9_barsOf_8 ?_
  refine G_iload_n C (x := x1) 2 dX9_barsOf_11 rfl rfl ?_
  obtain ⟨a24, ha25, h⟩ := h
  refine G_rf1 ha25 ?_
  obtain ⟨hk26, h⟩ := h
  obtain ⟨hi27, h⟩ := h
  refine G_iald C hk26 hi27 dX9_barsOf_12 ?_
  refine G_iconst C (v := 3) dX9_barsOf_13 (by decide) ?_
  refine G_icmp_ne C (tgt := 19) dX9_barsOf_14 (by decide) (fun hc => ?_) (fun hc => ?_)
  · have h := h.1 hc
    refine G_aload_n C (x := (some x0)) 1 dX9_barsOf_19 rfl rfl ?_
    refine G_get C (CC := RX9) (Tf := TX9) (N := 50) (k := 10) (i := 8) (v := va_rf (gP S 1008 x0)) hk19 (by decide) rfl (fin fwX9) (by decide) (im tw_5_136) rfl rfl dX9_barsOf_20 ?_
    refine G_iload_n C (x := (gA S a20 x1.toNatClampNeg)) 0 dX9_barsOf_23 rfl rfl ?_
    obtain ⟨a28, ha29, h⟩ := h
    refine G_rf1 ha29 ?_
    obtain ⟨hk30, h⟩ := h
    obtain ⟨hi31, h⟩ := h
    refine G_iald C hk30 hi31 dX9_barsOf_24 ?_
    refine G_iconst C (v := (-1)) dX9_barsOf_25 (by decide) ?_
    refine G_icmp_eq C (tgt := 53) dX9_barsOf_26 (by decide) (fun hc => ?_) (fun hc => ?_)
    · have h := h.1 hc
      refine G_lv C (lv' := [(0, va_rf (some x0)), (1, Value.int x1), (2, Value.int (gA S a20 x1.toNatClampNeg))]) [1, 2, 0] rfl ?_
      exact J53 _ _ h
    · have h := h.2 hc
      refine G_aload_n C (x := (some x0)) 1 dX9_barsOf_29 rfl rfl ?_
      refine G_iload_n C (x := x1) 2 dX9_barsOf_30 rfl rfl ?_
      refine G_aload_n C (x := (some x0)) 1 dX9_barsOf_31 rfl rfl ?_
      refine G_get C (CC := RX9) (Tf := TX9) (N := 50) (k := 10) (i := 8) (v := va_rf (gP S 1008 x0)) hk19 (by decide) rfl (fin fwX9) (by decide) (im tw_5_136) rfl rfl dX9_barsOf_32 ?_
      refine G_iload_n C (x := (gA S a20 x1.toNatClampNeg)) 0 dX9_barsOf_35 rfl rfl ?_
      refine G_rf1 ha29 ?_
      obtain ⟨hi32, h⟩ := h
      refine G_iald C hk30 hi32 dX9_barsOf_36 ?_
      refine G_aload_n C (x := (some x0)) 1 dX9_barsOf_37 rfl rfl ?_
      refine G_get C (CC := RX9) (Tf := TX9) (N := 50) (k := 10) (i := 9) (v := va_rf (gP S 1009 x0)) hk19 (by decide) rfl (fin fwX9) (by decide) (im tw_5_137) rfl rfl dX9_barsOf_38 ?_
      refine G_iload_n C (x := (gA S a20 x1.toNatClampNeg)) 0 dX9_barsOf_41 rfl rfl ?_
      obtain ⟨a33, ha34, h⟩ := h
      refine G_rf1 ha34 ?_
      obtain ⟨hk35, h⟩ := h
      obtain ⟨hi36, h⟩ := h
      refine G_iald C hk35 hi36 dX9_barsOf_42 ?_
      refine G_callVi C hZ (Tf := TX9) (N := 50) hk19 (by decide) rfl tw_6_76 tw_6_78 tw_0_32 tw_1_7 tw_6_79 hy_X9_hasDay ⟨Nat.le_of_ble_eq_true rfl, Nat.le_of_ble_eq_true rfl⟩ (As := [Value.int x1, Value.int (gA S a28 (((gA S a20 x1.toNatClampNeg)).toNatClampNeg)), Value.int (gA S a33 (((gA S a20 x1.toNatClampNeg)).toNatClampNeg))]) (rest := []) (c_X9_hasDay l D cy x0 x1 (gA S a28 (((gA S a20 x1.toNatClampNeg)).toNatClampNeg)) (gA S a33 (((gA S a20 x1.toNatClampNeg)).toNatClampNeg)) S _ h) rfl rfl (by simp [va_cat, vi_cat, vl_cat]) dX9_barsOf_43 ⟨Nat.le_of_ble_eq_true rfl, Nat.le_of_ble_eq_true rfl⟩ (fun r38 S37 h => ?_)
      obtain ⟨hb39, h⟩ := h
      refine G_if_eq C (tgt := 53) dX9_barsOf_46 (by decide) (fun hc => ?_) (fun hc => ?_)
      · have h := h.1 hc
        refine G_lv C (lv' := [(0, va_rf (some x0)), (1, Value.int x1), (2, Value.int (gA S a20 x1.toNatClampNeg))]) [1, 2, 0] rfl ?_
        exact J53 _ _ h
      · have h := h.2 hc
        refine G_iconst C (v := 1) dX9_barsOf_49 (by decide) ?_
        refine G_goto C (tgt := 54) dX9_barsOf_50 (by decide) ?_
        refine G_lv C (lv' := [(0, va_rf (some x0)), (1, Value.int x1), (2, Value.int (gA S a20 x1.toNatClampNeg))]) [1, 2, 0] rfl ?_
        exact J54 _ _ _ h
  · have h := h.2 hc
    refine G_iconst C (v := 0) dX9_barsOf_17 (by decide) ?_
    exact G_iret C (mc := 0) (ms := 0) (post := post) hr (Nat.le_of_ble_eq_true rfl) (Nat.le_of_ble_eq_true rfl) dX9_barsOf_18 h
set_option maxHeartbeats 4000000 in
set_option maxRecDepth 100000 in
theorem c_X9_notice (l : Launch) (D : va_G) (cy : Nat → Nat) (x0 : Int32) (x1 : Int32) (S : PT) (post : Int32 → PT → Prop) (h : w_X9_notice x0 x1 S post) : Mi l yX9_notice (Wm yX9_notice prog_11_method_34_code 3 (Option.some Jvm.ClassFile.FieldType.int)) 0 0 D cy [Value.int x0, Value.int x1] S 0 0 post := by
  refine Mi_of (own := "TrenchboardModel") (by decide) rfl (by first | decide | simp [lg_sl, va_cat, vi_cat, vl_cat]) (fun p e s m below meth c A C hZ hr hin9 => ?_)
  have J42 : ∀ (S : PT) (s0 : Int32), w_X9_notice_b42 x0 x1 post S s0 → G p l e { frames := 0, cells := 0, slots := 0, locals := 0 } s m [Value.int x0, Value.int x1].toArray below meth c D cy A s.heap 3 (QMi below D cy A [Value.int x0, Value.int x1] s 0 0 post) S 0 0 42 [] [Value.int s0] := by
    intro S s0 h
    unfold w_X9_notice_b42 at h
    exact G_iret C (mc := 0) (ms := 0) (post := post) hr (Nat.le_of_ble_eq_true rfl) (Nat.le_of_ble_eq_true rfl) dX9_notice_42 h
  have J29 : ∀ (S : PT) (s0 : Int32), w_X9_notice_b29 x0 x1 post S s0 → G p l e { frames := 0, cells := 0, slots := 0, locals := 0 } s m [Value.int x0, Value.int x1].toArray below meth c D cy A s.heap 3 (QMi below D cy A [Value.int x0, Value.int x1] s 0 0 post) S 0 0 29 [(1, Value.int x1)] [Value.int s0] := by
    intro S s0 h
    unfold w_X9_notice_b29 at h
    refine G_istore_n C (i := 2) (lv' := [(2, Value.int s0), (1, Value.int x1)]) dX9_notice_29 rfl (by decide) (by first | rfl | simp [va_cat, vi_cat, vl_cat]) ?_
    refine G_iload_n C (x := x1) 1 dX9_notice_30 rfl rfl ?_
    refine G_iconst C (v := 2) dX9_notice_31 (by decide) ?_
    refine G_icmp_ge C (tgt := 41) dX9_notice_32 (by decide) (fun hc => ?_) (fun hc => ?_)
    · have h := h.1 hc
      refine G_iload_n C (x := s0) 0 dX9_notice_41 rfl rfl ?_
      refine G_lv C (lv' := []) [] rfl ?_
      exact J42 _ _ h
    · have h := h.2 hc
      refine G_iconst C (v := 2) dX9_notice_35 (by decide) ?_
      refine G_iload_n C (x := s0) 0 dX9_notice_36 rfl rfl ?_
      refine G_imul C dX9_notice_37 ?_
      refine G_goto C (tgt := 42) dX9_notice_38 (by decide) ?_
      refine G_lv C (lv' := []) [] rfl ?_
      exact J42 _ _ h
  refine G_lv C (lv' := [(0, Value.int x0), (1, Value.int x1)]) [0, 1] (by first | rfl | simp [lv_pick, lv_args, va_cat, vi_cat, vl_cat]) ?_
  unfold w_X9_notice at h
  refine G_iload_n C (x := x0) 0 dX9_notice_0 rfl rfl ?_
  refine G_if_ne C (tgt := 9) dX9_notice_1 (by decide) (fun hc => ?_) (fun hc => ?_)
  · have h := h.1 hc
    refine G_iload_n C (x := x0) 0 dX9_notice_9 rfl rfl ?_
    refine G_iconst C (v := 1) dX9_notice_10 (by decide) ?_
    refine G_icmp_ne C (tgt := 19) dX9_notice_11 (by decide) (fun hc => ?_) (fun hc => ?_)
    · have h := h.1 hc
      refine G_iload_n C (x := x0) 0 dX9_notice_19 rfl rfl ?_
      refine G_iconst C (v := 2) dX9_notice_20 (by decide) ?_
      refine G_icmp_ne C (tgt := 28) dX9_notice_21 (by decide) (fun hc => ?_) (fun hc => ?_)
      · have h := h.1 hc
        refine G_iconst C (v := 0) dX9_notice_28 (by decide) ?_
        refine G_lv C (lv' := [(1, Value.int x1)]) [1] rfl ?_
        exact J29 _ _ h
      · have h := h.2 hc
        refine G_iconst C (v := 3) dX9_notice_24 (by decide) ?_
        refine G_goto C (tgt := 29) dX9_notice_25 (by decide) ?_
        refine G_lv C (lv' := [(1, Value.int x1)]) [1] rfl ?_
        exact J29 _ _ h
    · have h := h.2 hc
      refine G_bipush C (v := 8) dX9_notice_14 (by decide) ?_
      refine G_goto C (tgt := 29) dX9_notice_16 (by decide) ?_
      refine G_lv C (lv' := [(1, Value.int x1)]) [1] rfl ?_
      exact J29 _ _ h
  · have h := h.2 hc
    refine G_bipush C (v := 20) dX9_notice_4 (by decide) ?_
    refine G_goto C (tgt := 29) dX9_notice_6 (by decide) ?_
    refine G_lv C (lv' := [(1, Value.int x1)]) [1] rfl ?_
    exact J29 _ _ h
set_option maxHeartbeats 4000000 in
set_option maxRecDepth 100000 in
theorem c_X9_ask (l : Launch) (D : va_G) (cy : Nat → Nat) (x0 : Nat) (x1 : Int32) (x2 : Int32) (x3 : Int32) (x4 : Int32) (x5 : Int32) (x6 : Int32) (x7 : Int32) (x8 : Int32) (S : PT) (post : Int32 → PT → Prop) (h : w_X9_ask x0 x1 x2 x3 x4 x5 x6 x7 x8 S post) : Mi l yX9_ask (Wm yX9_ask prog_11_method_35_code 11 (Option.some Jvm.ClassFile.FieldType.int)) 3 65 D cy [va_rf (some x0), Value.int x1, Value.int x2, Value.int x3, Value.int x4, Value.int x5, Value.int x6, Value.int x7, Value.int x8] S 0 0 post := by
  refine Mi_of (own := "TrenchboardModel") (by decide) rfl (by first | decide | simp [lg_sl, va_cat, vi_cat, vl_cat]) (fun p e s m below meth c A C hZ hr hin9 => ?_)
  have J265 : ∀ (S : PT) (s0 : Option Nat) (s1 : Int32) (s2 : Int32), w_X9_ask_b265 x0 x1 x2 x3 x4 x5 x6 x7 x8 post S s0 s1 s2 → G p l e { frames := 3, cells := 0, slots := 0, locals := 65 } s m [va_rf (some x0), Value.int x1, Value.int x2, Value.int x3, Value.int x4, Value.int x5, Value.int x6, Value.int x7, Value.int x8].toArray below meth c D cy A s.heap 11 (QMi below D cy A [va_rf (some x0), Value.int x1, Value.int x2, Value.int x3, Value.int x4, Value.int x5, Value.int x6, Value.int x7, Value.int x8] s 0 0 post) S 0 0 265 [(0, va_rf (some x0))] [Value.int s2, Value.int s1, va_rf s0] := by
    intro S s0 s1 s2 h
    unfold w_X9_ask_b265 at h
    obtain ⟨a1, ha2, h⟩ := h
    refine G_rf2 ha2 ?_
    obtain ⟨hk3, h⟩ := h
    obtain ⟨hi4, h⟩ := h
    refine G_iast C hk3 hi4 dX9_ask_265 ?_
    generalize e6 : sA S a1 ((s1).toNatClampNeg) s2 = S5
    have h := h S5 e6.symm
    refine G_aload_n C (x := (some x0)) 0 dX9_ask_266 rfl rfl ?_
    refine G_dup C dX9_ask_267 (va_cat _) ?_
    obtain ⟨hk7, h⟩ := h
    refine G_get C (CC := RX9) (Tf := TX9) (N := 50) (k := 10) (i := 23) (v := Value.int (gI S5 1023 x0)) hk7 (by decide) rfl (fin fwX9) (by decide) (im tw_5_151) rfl rfl dX9_ask_268 ?_
    refine G_iconst C (v := 1) dX9_ask_271 (by decide) ?_
    refine G_iadd C dX9_ask_272 ?_
    refine G_putI C (CC := RX9) (Tf := TX9) (N := 50) (k := 10) (i := 23) (f := 1023) (x := ((gI S5 1023 x0) + 1)) (ty0 := tyX9) (ty := .int) hk7 (by decide) rfl (fin fwX9) tyX9_ok nmX9 (by decide) (im tw_5_151) rfl rfl rfl rfl rfl rfl rfl dX9_ask_273 ?_
    generalize e9 : sI S5 1023 x0 ((gI S5 1023 x0) + 1) = S8
    have h := h S8 e9.symm
    refine G_aload_n C (x := (some x0)) 0 dX9_ask_276 rfl rfl ?_
    refine G_get C (CC := RX9) (Tf := TX9) (N := 50) (k := 10) (i := 23) (v := Value.int (gI S8 1023 x0)) (ksI e9.symm hk7) (by decide) rfl (fin fwX9) (by decide) (im tw_5_151) rfl rfl dX9_ask_277 ?_
    refine G_iconst C (v := 1) dX9_ask_280 (by decide) ?_
    refine G_isub C dX9_ask_281 ?_
    exact G_iret C (mc := 0) (ms := 0) (post := post) hr (Nat.le_of_ble_eq_true rfl) (Nat.le_of_ble_eq_true rfl) dX9_ask_282 h
  have J140 : ∀ (S : PT) (s0 : Option Nat) (s1 : Int32), w_X9_ask_b140 x0 x1 x2 x3 x4 x5 x6 x7 x8 post S s0 s1 → G p l e { frames := 3, cells := 0, slots := 0, locals := 65 } s m [va_rf (some x0), Value.int x1, Value.int x2, Value.int x3, Value.int x4, Value.int x5, Value.int x6, Value.int x7, Value.int x8].toArray below meth c D cy A s.heap 11 (QMi below D cy A [va_rf (some x0), Value.int x1, Value.int x2, Value.int x3, Value.int x4, Value.int x5, Value.int x6, Value.int x7, Value.int x8] s 0 0 post) S 0 0 140 [(0, va_rf (some x0)), (1, Value.int x1), (2, Value.int x2), (3, Value.int x3), (4, Value.int x4), (5, Value.int x5), (6, Value.int x6), (7, Value.int x7), (8, Value.int x8)] [Value.int s1, va_rf s0] := by
    intro S s0 s1 h
    unfold w_X9_ask_b140 at h
    obtain ⟨a10, ha11, h⟩ := h
    obtain ⟨hk12, h⟩ := h
    refine G_callVi C hZ (Tf := TX9) (N := 50) hk12 (by decide) rfl tw_6_56 tw_6_58 tw_0_29 tw_1_7 tw_6_59 hy_X9_goes ⟨Nat.le_of_ble_eq_true rfl, Nat.le_of_ble_eq_true rfl⟩ (As := [Value.int s1]) (rest := []) (c_X9_goes l D cy a10 s1 S _ h) rfl (by first | rfl | (simp only [ha11]; rfl) | simp only [ha11]) (by simp [va_cat, vi_cat, vl_cat]) dX9_ask_140 ⟨Nat.le_of_ble_eq_true rfl, Nat.le_of_ble_eq_true rfl⟩ (fun r14 S13 h => ?_)
    obtain ⟨hb15, h⟩ := h
    refine G_if_ne C (tgt := 148) dX9_ask_143 (by decide) (fun hc => ?_) (fun hc => ?_)
    · have h := h.1 hc
      refine G_aload_n C (x := (some x0)) 0 dX9_ask_148 rfl rfl ?_
      obtain ⟨hk16, h⟩ := h
      refine G_get C (CC := RX9) (Tf := TX9) (N := 50) (k := 10) (i := 24) (v := va_rf (gP S13 1024 x0)) hk16 (by decide) rfl (fin fwX9) (by decide) (im tw_5_152) rfl rfl dX9_ask_149 ?_
      refine G_aload_n C (x := (some x0)) 0 dX9_ask_152 rfl rfl ?_
      refine G_get C (CC := RX9) (Tf := TX9) (N := 50) (k := 10) (i := 23) (v := Value.int (gI S13 1023 x0)) hk16 (by decide) rfl (fin fwX9) (by decide) (im tw_5_151) rfl rfl dX9_ask_153 ?_
      refine G_iload_n C (x := x1) 1 dX9_ask_156 rfl rfl ?_
      obtain ⟨a17, ha18, h⟩ := h
      refine G_rf2 ha18 ?_
      obtain ⟨hk19, h⟩ := h
      obtain ⟨hi20, h⟩ := h
      refine G_iast C hk19 hi20 dX9_ask_157 ?_
      generalize e22 : sA S13 a17 (((gI S13 1023 x0)).toNatClampNeg) x1 = S21
      have h := h S21 e22.symm
      refine G_aload_n C (x := (some x0)) 0 dX9_ask_158 rfl rfl ?_
      refine G_get C (CC := RX9) (Tf := TX9) (N := 50) (k := 10) (i := 25) (v := va_rf (gP S21 1025 x0)) (ksA e22.symm hk16) (by decide) rfl (fin fwX9) (by decide) (im tw_5_153) rfl rfl dX9_ask_159 ?_
      refine G_aload_n C (x := (some x0)) 0 dX9_ask_162 rfl rfl ?_
      refine G_get C (CC := RX9) (Tf := TX9) (N := 50) (k := 10) (i := 23) (v := Value.int (gI S21 1023 x0)) (ksA e22.symm hk16) (by decide) rfl (fin fwX9) (by decide) (im tw_5_151) rfl rfl dX9_ask_163 ?_
      refine G_iload_n C (x := x2) 2 dX9_ask_166 rfl rfl ?_
      obtain ⟨a23, ha24, h⟩ := h
      refine G_rf2 ha24 ?_
      obtain ⟨hk25, h⟩ := h
      obtain ⟨hi26, h⟩ := h
      refine G_iast C hk25 hi26 dX9_ask_167 ?_
      generalize e28 : sA S21 a23 (((gI S21 1023 x0)).toNatClampNeg) x2 = S27
      have h := h S27 e28.symm
      refine G_aload_n C (x := (some x0)) 0 dX9_ask_168 rfl rfl ?_
      refine G_get C (CC := RX9) (Tf := TX9) (N := 50) (k := 10) (i := 26) (v := va_rf (gP S27 1026 x0)) (ksA e28.symm (ksA e22.symm hk16)) (by decide) rfl (fin fwX9) (by decide) (im tw_5_154) rfl rfl dX9_ask_169 ?_
      refine G_aload_n C (x := (some x0)) 0 dX9_ask_172 rfl rfl ?_
      refine G_get C (CC := RX9) (Tf := TX9) (N := 50) (k := 10) (i := 23) (v := Value.int (gI S27 1023 x0)) (ksA e28.symm (ksA e22.symm hk16)) (by decide) rfl (fin fwX9) (by decide) (im tw_5_151) rfl rfl dX9_ask_173 ?_
      refine G_iload_n C (x := x3) 3 dX9_ask_176 rfl rfl ?_
      obtain ⟨a29, ha30, h⟩ := h
      refine G_rf2 ha30 ?_
      obtain ⟨hk31, h⟩ := h
      obtain ⟨hi32, h⟩ := h
      refine G_iast C hk31 hi32 dX9_ask_177 ?_
      generalize e34 : sA S27 a29 (((gI S27 1023 x0)).toNatClampNeg) x3 = S33
      have h := h S33 e34.symm
      refine G_aload_n C (x := (some x0)) 0 dX9_ask_178 rfl rfl ?_
      refine G_get C (CC := RX9) (Tf := TX9) (N := 50) (k := 10) (i := 27) (v := va_rf (gP S33 1027 x0)) (ksA e34.symm (ksA e28.symm (ksA e22.symm hk16))) (by decide) rfl (fin fwX9) (by decide) (im tw_5_155) rfl rfl dX9_ask_179 ?_
      refine G_aload_n C (x := (some x0)) 0 dX9_ask_182 rfl rfl ?_
      refine G_get C (CC := RX9) (Tf := TX9) (N := 50) (k := 10) (i := 23) (v := Value.int (gI S33 1023 x0)) (ksA e34.symm (ksA e28.symm (ksA e22.symm hk16))) (by decide) rfl (fin fwX9) (by decide) (im tw_5_151) rfl rfl dX9_ask_183 ?_
      refine G_iload C (x := x4) 4 dX9_ask_186 rfl ?_
      obtain ⟨a35, ha36, h⟩ := h
      refine G_rf2 ha36 ?_
      obtain ⟨hk37, h⟩ := h
      obtain ⟨hi38, h⟩ := h
      refine G_iast C hk37 hi38 dX9_ask_188 ?_
      generalize e40 : sA S33 a35 (((gI S33 1023 x0)).toNatClampNeg) x4 = S39
      have h := h S39 e40.symm
      refine G_aload_n C (x := (some x0)) 0 dX9_ask_189 rfl rfl ?_
      refine G_get C (CC := RX9) (Tf := TX9) (N := 50) (k := 10) (i := 28) (v := va_rf (gP S39 1028 x0)) (ksA e40.symm (ksA e34.symm (ksA e28.symm (ksA e22.symm hk16)))) (by decide) rfl (fin fwX9) (by decide) (im tw_5_156) rfl rfl dX9_ask_190 ?_
      refine G_aload_n C (x := (some x0)) 0 dX9_ask_193 rfl rfl ?_
      refine G_get C (CC := RX9) (Tf := TX9) (N := 50) (k := 10) (i := 23) (v := Value.int (gI S39 1023 x0)) (ksA e40.symm (ksA e34.symm (ksA e28.symm (ksA e22.symm hk16)))) (by decide) rfl (fin fwX9) (by decide) (im tw_5_151) rfl rfl dX9_ask_194 ?_
      refine G_iload C (x := x5) 5 dX9_ask_197 rfl ?_
      obtain ⟨a41, ha42, h⟩ := h
      refine G_rf2 ha42 ?_
      obtain ⟨hk43, h⟩ := h
      obtain ⟨hi44, h⟩ := h
      refine G_iast C hk43 hi44 dX9_ask_199 ?_
      generalize e46 : sA S39 a41 (((gI S39 1023 x0)).toNatClampNeg) x5 = S45
      have h := h S45 e46.symm
      refine G_aload_n C (x := (some x0)) 0 dX9_ask_200 rfl rfl ?_
      refine G_get C (CC := RX9) (Tf := TX9) (N := 50) (k := 10) (i := 29) (v := va_rf (gP S45 1029 x0)) (ksA e46.symm (ksA e40.symm (ksA e34.symm (ksA e28.symm (ksA e22.symm hk16))))) (by decide) rfl (fin fwX9) (by decide) (im tw_5_157) rfl rfl dX9_ask_201 ?_
      refine G_aload_n C (x := (some x0)) 0 dX9_ask_204 rfl rfl ?_
      refine G_get C (CC := RX9) (Tf := TX9) (N := 50) (k := 10) (i := 23) (v := Value.int (gI S45 1023 x0)) (ksA e46.symm (ksA e40.symm (ksA e34.symm (ksA e28.symm (ksA e22.symm hk16))))) (by decide) rfl (fin fwX9) (by decide) (im tw_5_151) rfl rfl dX9_ask_205 ?_
      refine G_iload C (x := x6) 6 dX9_ask_208 rfl ?_
      obtain ⟨a47, ha48, h⟩ := h
      refine G_rf2 ha48 ?_
      obtain ⟨hk49, h⟩ := h
      obtain ⟨hi50, h⟩ := h
      refine G_iast C hk49 hi50 dX9_ask_210 ?_
      generalize e52 : sA S45 a47 (((gI S45 1023 x0)).toNatClampNeg) x6 = S51
      have h := h S51 e52.symm
      refine G_aload_n C (x := (some x0)) 0 dX9_ask_211 rfl rfl ?_
      refine G_get C (CC := RX9) (Tf := TX9) (N := 50) (k := 10) (i := 30) (v := va_rf (gP S51 1030 x0)) (ksA e52.symm (ksA e46.symm (ksA e40.symm (ksA e34.symm (ksA e28.symm (ksA e22.symm hk16)))))) (by decide) rfl (fin fwX9) (by decide) (im tw_5_158) rfl rfl dX9_ask_212 ?_
      refine G_aload_n C (x := (some x0)) 0 dX9_ask_215 rfl rfl ?_
      refine G_get C (CC := RX9) (Tf := TX9) (N := 50) (k := 10) (i := 23) (v := Value.int (gI S51 1023 x0)) (ksA e52.symm (ksA e46.symm (ksA e40.symm (ksA e34.symm (ksA e28.symm (ksA e22.symm hk16)))))) (by decide) rfl (fin fwX9) (by decide) (im tw_5_151) rfl rfl dX9_ask_216 ?_
      refine G_iload C (x := x7) 7 dX9_ask_219 rfl ?_
      obtain ⟨a53, ha54, h⟩ := h
      refine G_rf2 ha54 ?_
      obtain ⟨hk55, h⟩ := h
      obtain ⟨hi56, h⟩ := h
      refine G_iast C hk55 hi56 dX9_ask_221 ?_
      generalize e58 : sA S51 a53 (((gI S51 1023 x0)).toNatClampNeg) x7 = S57
      have h := h S57 e58.symm
      refine G_aload_n C (x := (some x0)) 0 dX9_ask_222 rfl rfl ?_
      refine G_get C (CC := RX9) (Tf := TX9) (N := 50) (k := 10) (i := 31) (v := va_rf (gP S57 1031 x0)) (ksA e58.symm (ksA e52.symm (ksA e46.symm (ksA e40.symm (ksA e34.symm (ksA e28.symm (ksA e22.symm hk16))))))) (by decide) rfl (fin fwX9) (by decide) (im tw_5_159) rfl rfl dX9_ask_223 ?_
      refine G_aload_n C (x := (some x0)) 0 dX9_ask_226 rfl rfl ?_
      refine G_get C (CC := RX9) (Tf := TX9) (N := 50) (k := 10) (i := 23) (v := Value.int (gI S57 1023 x0)) (ksA e58.symm (ksA e52.symm (ksA e46.symm (ksA e40.symm (ksA e34.symm (ksA e28.symm (ksA e22.symm hk16))))))) (by decide) rfl (fin fwX9) (by decide) (im tw_5_151) rfl rfl dX9_ask_227 ?_
      refine G_iload C (x := x8) 8 dX9_ask_230 rfl ?_
      obtain ⟨a59, ha60, h⟩ := h
      refine G_rf2 ha60 ?_
      obtain ⟨hk61, h⟩ := h
      obtain ⟨hi62, h⟩ := h
      refine G_iast C hk61 hi62 dX9_ask_232 ?_
      generalize e64 : sA S57 a59 (((gI S57 1023 x0)).toNatClampNeg) x8 = S63
      have h := h S63 e64.symm
      refine G_aload_n C (x := (some x0)) 0 dX9_ask_233 rfl rfl ?_
      refine G_get C (CC := RX9) (Tf := TX9) (N := 50) (k := 10) (i := 32) (v := va_rf (gP S63 1032 x0)) (ksA e64.symm (ksA e58.symm (ksA e52.symm (ksA e46.symm (ksA e40.symm (ksA e34.symm (ksA e28.symm (ksA e22.symm hk16)))))))) (by decide) rfl (fin fwX9) (by decide) (im tw_5_160) rfl rfl dX9_ask_234 ?_
      refine G_aload_n C (x := (some x0)) 0 dX9_ask_237 rfl rfl ?_
      refine G_get C (CC := RX9) (Tf := TX9) (N := 50) (k := 10) (i := 23) (v := Value.int (gI S63 1023 x0)) (ksA e64.symm (ksA e58.symm (ksA e52.symm (ksA e46.symm (ksA e40.symm (ksA e34.symm (ksA e28.symm (ksA e22.symm hk16)))))))) (by decide) rfl (fin fwX9) (by decide) (im tw_5_151) rfl rfl dX9_ask_238 ?_
      refine G_aload_n C (x := (some x0)) 0 dX9_ask_241 rfl rfl ?_
      refine G_callVi C hZ (Tf := TX9) (N := 50) (ksA e64.symm (ksA e58.symm (ksA e52.symm (ksA e46.symm (ksA e40.symm (ksA e34.symm (ksA e28.symm (ksA e22.symm hk16)))))))) (by decide) rfl tw_6_68 tw_6_70 tw_0_31 tw_1_7 tw_6_71 hy_X9_today ⟨Nat.le_of_ble_eq_true rfl, Nat.le_of_ble_eq_true rfl⟩ (As := []) (rest := [Value.int (gI S63 1023 x0), va_rf (gP S63 1032 x0)]) (c_X9_today l D cy x0 S63 _ h) rfl rfl (by simp [va_cat, vi_cat, vl_cat]) dX9_ask_242 ⟨Nat.le_of_ble_eq_true rfl, Nat.le_of_ble_eq_true rfl⟩ (fun r66 S65 h => ?_)
      obtain ⟨a67, ha68, h⟩ := h
      refine G_rf2 ha68 ?_
      obtain ⟨hk69, h⟩ := h
      obtain ⟨hi70, h⟩ := h
      refine G_iast C hk69 hi70 dX9_ask_245 ?_
      generalize e72 : sA S65 a67 (((gI S63 1023 x0)).toNatClampNeg) r66 = S71
      have h := h S71 e72.symm
      refine G_aload_n C (x := (some x0)) 0 dX9_ask_246 rfl rfl ?_
      obtain ⟨hk73, h⟩ := h
      refine G_get C (CC := RX9) (Tf := TX9) (N := 50) (k := 10) (i := 33) (v := va_rf (gP S71 1033 x0)) hk73 (by decide) rfl (fin fwX9) (by decide) (im tw_5_161) rfl rfl dX9_ask_247 ?_
      refine G_aload_n C (x := (some x0)) 0 dX9_ask_250 rfl rfl ?_
      refine G_get C (CC := RX9) (Tf := TX9) (N := 50) (k := 10) (i := 23) (v := Value.int (gI S71 1023 x0)) hk73 (by decide) rfl (fin fwX9) (by decide) (im tw_5_151) rfl rfl dX9_ask_251 ?_
      refine G_iload C (x := x6) 6 dX9_ask_254 rfl ?_
      refine G_iconst C (v := 3) dX9_ask_256 (by decide) ?_
      refine G_icmp_ne C (tgt := 264) dX9_ask_257 (by decide) (fun hc => ?_) (fun hc => ?_)
      · have h := h.1 hc
        refine G_iconst C (v := 0) dX9_ask_264 (by decide) ?_
        refine G_lv C (lv' := [(0, va_rf (some x0))]) [0] rfl ?_
        exact J265 _ _ _ _ h
      · have h := h.2 hc
        refine G_iconst C (v := 1) dX9_ask_260 (by decide) ?_
        refine G_goto C (tgt := 265) dX9_ask_261 (by decide) ?_
        refine G_lv C (lv' := [(0, va_rf (some x0))]) [0] rfl ?_
        exact J265 _ _ _ _ h
    · have h := h.2 hc
      refine G_iconst C (v := 0) dX9_ask_146 (by decide) ?_
      exact G_iret C (mc := 0) (ms := 0) (post := post) hr (Nat.le_of_ble_eq_true rfl) (Nat.le_of_ble_eq_true rfl) dX9_ask_147 h
  have J122 : ∀ (S : PT) (s0 : Option Nat), w_X9_ask_b122 x0 x1 x2 x3 x4 x5 x6 x7 x8 post S s0 → G p l e { frames := 3, cells := 0, slots := 0, locals := 65 } s m [va_rf (some x0), Value.int x1, Value.int x2, Value.int x3, Value.int x4, Value.int x5, Value.int x6, Value.int x7, Value.int x8].toArray below meth c D cy A s.heap 11 (QMi below D cy A [va_rf (some x0), Value.int x1, Value.int x2, Value.int x3, Value.int x4, Value.int x5, Value.int x6, Value.int x7, Value.int x8] s 0 0 post) S 0 0 122 [(0, va_rf (some x0)), (1, Value.int x1), (2, Value.int x2), (3, Value.int x3), (4, Value.int x4), (5, Value.int x5), (6, Value.int x6), (7, Value.int x7), (8, Value.int x8)] [va_rf s0] := by
    intro S s0 h
    unfold w_X9_ask_b122 at h
    refine G_iconst C (v := 2) dX9_ask_122 (by decide) ?_
    refine G_goto C (tgt := 140) dX9_ask_123 (by decide) ?_
    refine G_lv C (lv' := [(0, va_rf (some x0)), (1, Value.int x1), (2, Value.int x2), (3, Value.int x3), (4, Value.int x4), (5, Value.int x5), (6, Value.int x6), (7, Value.int x7), (8, Value.int x8)]) [0, 1, 2, 3, 4, 5, 6, 7, 8] rfl ?_
    exact J140 _ _ _ h
  have J78 : ∀ (S : PT) (v9 : Int32) (s0 : Int32), w_X9_ask_b78 x0 x1 x2 x3 x4 x5 x6 x7 x8 post S v9 s0 → G p l e { frames := 3, cells := 0, slots := 0, locals := 65 } s m [va_rf (some x0), Value.int x1, Value.int x2, Value.int x3, Value.int x4, Value.int x5, Value.int x6, Value.int x7, Value.int x8].toArray below meth c D cy A s.heap 11 (QMi below D cy A [va_rf (some x0), Value.int x1, Value.int x2, Value.int x3, Value.int x4, Value.int x5, Value.int x6, Value.int x7, Value.int x8] s 0 0 post) S 0 0 78 [(0, va_rf (some x0)), (1, Value.int x1), (2, Value.int x2), (3, Value.int x3), (4, Value.int x4), (5, Value.int x5), (6, Value.int x6), (7, Value.int x7), (8, Value.int x8), (9, Value.int v9)] [Value.int s0] := by
    intro S v9 s0 h
    unfold w_X9_ask_b78 at h
    refine G_istore C (i := 10) (lv' := [(10, Value.int s0), (0, va_rf (some x0)), (1, Value.int x1), (2, Value.int x2), (3, Value.int x3), (4, Value.int x4), (5, Value.int x5), (6, Value.int x6), (7, Value.int x7), (8, Value.int x8), (9, Value.int v9)]) dX9_ask_78 (by decide) (by first | rfl | simp [va_cat, vi_cat, vl_cat]) ?_
    refine G_aload_n C (x := (some x0)) 1 dX9_ask_80 rfl rfl ?_
    refine G_iload C (x := v9) 10 dX9_ask_81 rfl ?_
    refine G_if_ne C (tgt := 90) dX9_ask_83 (by decide) (fun hc => ?_) (fun hc => ?_)
    · have h := h.1 hc
      refine G_iload C (x := s0) 0 dX9_ask_90 rfl ?_
      refine G_if_eq C (tgt := 122) dX9_ask_92 (by decide) (fun hc => ?_) (fun hc => ?_)
      · have h := h.1 hc
        refine G_lv C (lv' := [(0, va_rf (some x0)), (1, Value.int x1), (2, Value.int x2), (3, Value.int x3), (4, Value.int x4), (5, Value.int x5), (6, Value.int x6), (7, Value.int x7), (8, Value.int x8)]) [1, 2, 3, 4, 5, 6, 7, 8, 9] rfl ?_
        exact J122 _ _ h
      · have h := h.2 hc
        refine G_iload C (x := x7) 8 dX9_ask_95 rfl ?_
        refine G_aload_n C (x := (some x0)) 1 dX9_ask_97 rfl rfl ?_
        obtain ⟨hk74, h⟩ := h
        refine G_callVi C hZ (Tf := TX9) (N := 50) hk74 (by decide) rfl tw_6_68 tw_6_70 tw_0_31 tw_1_7 tw_6_71 hy_X9_today ⟨Nat.le_of_ble_eq_true rfl, Nat.le_of_ble_eq_true rfl⟩ (As := []) (rest := [Value.int x7, va_rf (some x0)]) (c_X9_today l D cy x0 S _ h) rfl rfl (by simp [va_cat, vi_cat, vl_cat]) dX9_ask_98 ⟨Nat.le_of_ble_eq_true rfl, Nat.le_of_ble_eq_true rfl⟩ (fun r76 S75 h => ?_)
        refine G_iload C (x := x6) 7 dX9_ask_101 rfl ?_
        refine G_aload_n C (x := (some x0)) 1 dX9_ask_103 rfl rfl ?_
        obtain ⟨hk77, h⟩ := h
        refine G_get C (CC := RX9) (Tf := TX9) (N := 50) (k := 10) (i := 3) (v := va_rf (gP S75 1003 x0)) hk77 (by decide) rfl (fin fwX9) (by decide) (im tw_5_131) rfl rfl dX9_ask_104 ?_
        refine G_iload_n C (x := x2) 3 dX9_ask_107 rfl rfl ?_
        obtain ⟨a78, ha79, h⟩ := h
        refine G_rf1 ha79 ?_
        obtain ⟨hk80, h⟩ := h
        obtain ⟨hi81, h⟩ := h
        refine G_iald C hk80 hi81 dX9_ask_108 ?_
        refine G_callSi C hZ tw_6_139 tw_6_140 tw_1_7 tw_6_141 hy_X9_notice ⟨Nat.le_of_ble_eq_true rfl, Nat.le_of_ble_eq_true rfl⟩ (As := [Value.int x6, Value.int (gA S75 a78 x2.toNatClampNeg)]) (rest := [Value.int r76, Value.int x7, va_rf (some x0)]) (c_X9_notice l D cy x6 (gA S75 a78 x2.toNatClampNeg) S75 _ h) rfl rfl (by simp [va_cat, vi_cat, vl_cat]) dX9_ask_109 ⟨Nat.le_of_ble_eq_true rfl, Nat.le_of_ble_eq_true rfl⟩ (fun r83 S82 h => ?_)
        refine G_iadd C dX9_ask_112 ?_
        refine G_sipush C (v := 999) dX9_ask_113 (by decide) ?_
        refine G_callSi C hZ tw_6_49 tw_6_50 tw_1_7 tw_6_51 hy_X9_isIn ⟨Nat.le_of_ble_eq_true rfl, Nat.le_of_ble_eq_true rfl⟩ (As := [Value.int x7, Value.int (r76 + r83), Value.int 999]) (rest := [va_rf (some x0)]) (c_X9_isIn l D cy x7 (r76 + r83) 999 S82 _ h) rfl rfl (by simp [va_cat, vi_cat, vl_cat]) dX9_ask_116 ⟨Nat.le_of_ble_eq_true rfl, Nat.le_of_ble_eq_true rfl⟩ (fun r85 S84 h => ?_)
        obtain ⟨hb86, h⟩ := h
        refine G_if_ne C (tgt := 126) dX9_ask_119 (by decide) (fun hc => ?_) (fun hc => ?_)
        · have h := h.1 hc
          refine G_aload_n C (x := (some x0)) 1 dX9_ask_126 rfl rfl ?_
          obtain ⟨hk87, h⟩ := h
          refine G_get C (CC := RX9) (Tf := TX9) (N := 50) (k := 10) (i := 23) (v := Value.int (gI S84 1023 x0)) hk87 (by decide) rfl (fin fwX9) (by decide) (im tw_5_151) rfl rfl dX9_ask_127 ?_
          refine G_bipush C (v := 24) dX9_ask_130 (by decide) ?_
          refine G_icmp_ne C (tgt := 139) dX9_ask_132 (by decide) (fun hc => ?_) (fun hc => ?_)
          · have h := h.1 hc
            refine G_iconst C (v := 0) dX9_ask_139 (by decide) ?_
            refine G_lv C (lv' := [(0, va_rf (some x0)), (1, Value.int x1), (2, Value.int x2), (3, Value.int x3), (4, Value.int x4), (5, Value.int x5), (6, Value.int x6), (7, Value.int x7), (8, Value.int x8)]) [1, 2, 3, 4, 5, 6, 7, 8, 9] rfl ?_
            exact J140 _ _ _ h
          · have h := h.2 hc
            refine G_iconst C (v := 3) dX9_ask_135 (by decide) ?_
            refine G_goto C (tgt := 140) dX9_ask_136 (by decide) ?_
            refine G_lv C (lv' := [(0, va_rf (some x0)), (1, Value.int x1), (2, Value.int x2), (3, Value.int x3), (4, Value.int x4), (5, Value.int x5), (6, Value.int x6), (7, Value.int x7), (8, Value.int x8)]) [1, 2, 3, 4, 5, 6, 7, 8, 9] rfl ?_
            exact J140 _ _ _ h
        · have h := h.2 hc
          refine G_lv C (lv' := [(0, va_rf (some x0)), (1, Value.int x1), (2, Value.int x2), (3, Value.int x3), (4, Value.int x4), (5, Value.int x5), (6, Value.int x6), (7, Value.int x7), (8, Value.int x8)]) [1, 2, 3, 4, 5, 6, 7, 8, 9] rfl ?_
          exact J122 _ _ h
    · have h := h.2 hc
      refine G_iconst C (v := 1) dX9_ask_86 (by decide) ?_
      refine G_goto C (tgt := 140) dX9_ask_87 (by decide) ?_
      refine G_lv C (lv' := [(0, va_rf (some x0)), (1, Value.int x1), (2, Value.int x2), (3, Value.int x3), (4, Value.int x4), (5, Value.int x5), (6, Value.int x6), (7, Value.int x7), (8, Value.int x8)]) [1, 2, 3, 4, 5, 6, 7, 8, 9] rfl ?_
      exact J140 _ _ _ h
  have J77 : ∀ (S : PT) (v9 : Int32), w_X9_ask_b77 x0 x1 x2 x3 x4 x5 x6 x7 x8 post S v9 → G p l e { frames := 3, cells := 0, slots := 0, locals := 65 } s m [va_rf (some x0), Value.int x1, Value.int x2, Value.int x3, Value.int x4, Value.int x5, Value.int x6, Value.int x7, Value.int x8].toArray below meth c D cy A s.heap 11 (QMi below D cy A [va_rf (some x0), Value.int x1, Value.int x2, Value.int x3, Value.int x4, Value.int x5, Value.int x6, Value.int x7, Value.int x8] s 0 0 post) S 0 0 77 [(0, va_rf (some x0)), (1, Value.int x1), (2, Value.int x2), (3, Value.int x3), (4, Value.int x4), (5, Value.int x5), (6, Value.int x6), (7, Value.int x7), (8, Value.int x8), (9, Value.int v9)] [] := by
    intro S v9 h
    unfold w_X9_ask_b77 at h
    refine G_iconst C (v := 0) dX9_ask_77 (by decide) ?_
    refine G_lv C (lv' := [(0, va_rf (some x0)), (1, Value.int x1), (2, Value.int x2), (3, Value.int x3), (4, Value.int x4), (5, Value.int x5), (6, Value.int x6), (7, Value.int x7), (8, Value.int x8), (9, Value.int v9)]) [0, 1, 2, 3, 4, 5, 6, 7, 8, 9] rfl ?_
    exact J78 _ _ _ h
  have J31 : ∀ (S : PT) (s0 : Int32), w_X9_ask_b31 x0 x1 x2 x3 x4 x5 x6 x7 x8 post S s0 → G p l e { frames := 3, cells := 0, slots := 0, locals := 65 } s m [va_rf (some x0), Value.int x1, Value.int x2, Value.int x3, Value.int x4, Value.int x5, Value.int x6, Value.int x7, Value.int x8].toArray below meth c D cy A s.heap 11 (QMi below D cy A [va_rf (some x0), Value.int x1, Value.int x2, Value.int x3, Value.int x4, Value.int x5, Value.int x6, Value.int x7, Value.int x8] s 0 0 post) S 0 0 31 [(0, va_rf (some x0)), (1, Value.int x1), (2, Value.int x2), (3, Value.int x3), (4, Value.int x4), (5, Value.int x5), (6, Value.int x6), (7, Value.int x7), (8, Value.int x8)] [Value.int s0] := by
    intro S s0 h
    unfold w_X9_ask_b31 at h
    refine G_istore C (i := 9) (lv' := [(9, Value.int s0), (0, va_rf (some x0)), (1, Value.int x1), (2, Value.int x2), (3, Value.int x3), (4, Value.int x4), (5, Value.int x5), (6, Value.int x6), (7, Value.int x7), (8, Value.int x8)]) dX9_ask_31 (by decide) (by first | rfl | simp [va_cat, vi_cat, vl_cat]) ?_
    refine G_iload C (x := x4) 5 dX9_ask_33 rfl ?_
    refine G_iload_n C (x := x3) 4 dX9_ask_35 rfl rfl ?_
    refine G_icmp_lt C (tgt := 77) dX9_ask_36 (by decide) (fun hc => ?_) (fun hc => ?_)
    · have h := h.1 hc
      refine G_lv C (lv' := [(0, va_rf (some x0)), (1, Value.int x1), (2, Value.int x2), (3, Value.int x3), (4, Value.int x4), (5, Value.int x5), (6, Value.int x6), (7, Value.int x7), (8, Value.int x8), (9, Value.int s0)]) [1, 2, 3, 4, 5, 6, 7, 8, 9, 0] rfl ?_
      exact J77 _ _ h
    · have h := h.2 hc
      refine G_iload C (x := x5) 6 dX9_ask_39 rfl ?_
      refine G_bipush C (v := 10) dX9_ask_41 (by decide) ?_
      refine G_sipush C (v := 300) dX9_ask_43 (by decide) ?_
      refine G_callSi C hZ tw_6_49 tw_6_50 tw_1_7 tw_6_51 hy_X9_isIn ⟨Nat.le_of_ble_eq_true rfl, Nat.le_of_ble_eq_true rfl⟩ (As := [Value.int x5, Value.int 10, Value.int 300]) (rest := []) (c_X9_isIn l D cy x5 10 300 S _ h) rfl rfl (by simp [va_cat, vi_cat, vl_cat]) dX9_ask_46 ⟨Nat.le_of_ble_eq_true rfl, Nat.le_of_ble_eq_true rfl⟩ (fun r89 S88 h => ?_)
      obtain ⟨hb90, h⟩ := h
      refine G_if_eq C (tgt := 77) dX9_ask_49 (by decide) (fun hc => ?_) (fun hc => ?_)
      · have h := h.1 hc
        refine G_lv C (lv' := [(0, va_rf (some x0)), (1, Value.int x1), (2, Value.int x2), (3, Value.int x3), (4, Value.int x4), (5, Value.int x5), (6, Value.int x6), (7, Value.int x7), (8, Value.int x8), (9, Value.int s0)]) [1, 2, 3, 4, 5, 6, 7, 8, 9, 0] rfl ?_
        exact J77 _ _ h
      · have h := h.2 hc
        refine G_iload C (x := x6) 7 dX9_ask_52 rfl ?_
        refine G_iconst C (v := 0) dX9_ask_54 (by decide) ?_
        refine G_iconst C (v := 3) dX9_ask_55 (by decide) ?_
        refine G_callSi C hZ tw_6_49 tw_6_50 tw_1_7 tw_6_51 hy_X9_isIn ⟨Nat.le_of_ble_eq_true rfl, Nat.le_of_ble_eq_true rfl⟩ (As := [Value.int x6, Value.int 0, Value.int 3]) (rest := []) (c_X9_isIn l D cy x6 0 3 S88 _ h) rfl rfl (by simp [va_cat, vi_cat, vl_cat]) dX9_ask_56 ⟨Nat.le_of_ble_eq_true rfl, Nat.le_of_ble_eq_true rfl⟩ (fun r92 S91 h => ?_)
        obtain ⟨hb93, h⟩ := h
        refine G_if_eq C (tgt := 77) dX9_ask_59 (by decide) (fun hc => ?_) (fun hc => ?_)
        · have h := h.1 hc
          refine G_lv C (lv' := [(0, va_rf (some x0)), (1, Value.int x1), (2, Value.int x2), (3, Value.int x3), (4, Value.int x4), (5, Value.int x5), (6, Value.int x6), (7, Value.int x7), (8, Value.int x8), (9, Value.int s0)]) [1, 2, 3, 4, 5, 6, 7, 8, 9, 0] rfl ?_
          exact J77 _ _ h
        · have h := h.2 hc
          refine G_iload C (x := x8) 9 dX9_ask_62 rfl ?_
          refine G_iconst C (v := 1) dX9_ask_64 (by decide) ?_
          refine G_bipush C (v := 60) dX9_ask_65 (by decide) ?_
          refine G_callSi C hZ tw_6_49 tw_6_50 tw_1_7 tw_6_51 hy_X9_isIn ⟨Nat.le_of_ble_eq_true rfl, Nat.le_of_ble_eq_true rfl⟩ (As := [Value.int x8, Value.int 1, Value.int 60]) (rest := []) (c_X9_isIn l D cy x8 1 60 S91 _ h) rfl rfl (by simp [va_cat, vi_cat, vl_cat]) dX9_ask_67 ⟨Nat.le_of_ble_eq_true rfl, Nat.le_of_ble_eq_true rfl⟩ (fun r95 S94 h => ?_)
          obtain ⟨hb96, h⟩ := h
          refine G_if_eq C (tgt := 77) dX9_ask_70 (by decide) (fun hc => ?_) (fun hc => ?_)
          · have h := h.1 hc
            refine G_lv C (lv' := [(0, va_rf (some x0)), (1, Value.int x1), (2, Value.int x2), (3, Value.int x3), (4, Value.int x4), (5, Value.int x5), (6, Value.int x6), (7, Value.int x7), (8, Value.int x8), (9, Value.int s0)]) [1, 2, 3, 4, 5, 6, 7, 8, 9, 0] rfl ?_
            exact J77 _ _ h
          · have h := h.2 hc
            refine G_iconst C (v := 1) dX9_ask_73 (by decide) ?_
            refine G_goto C (tgt := 78) dX9_ask_74 (by decide) ?_
            refine G_lv C (lv' := [(0, va_rf (some x0)), (1, Value.int x1), (2, Value.int x2), (3, Value.int x3), (4, Value.int x4), (5, Value.int x5), (6, Value.int x6), (7, Value.int x7), (8, Value.int x8), (9, Value.int s0)]) [1, 2, 3, 4, 5, 6, 7, 8, 9, 0] rfl ?_
            exact J78 _ _ _ h
  have J30 : ∀ (S : PT), w_X9_ask_b30 x0 x1 x2 x3 x4 x5 x6 x7 x8 post S → G p l e { frames := 3, cells := 0, slots := 0, locals := 65 } s m [va_rf (some x0), Value.int x1, Value.int x2, Value.int x3, Value.int x4, Value.int x5, Value.int x6, Value.int x7, Value.int x8].toArray below meth c D cy A s.heap 11 (QMi below D cy A [va_rf (some x0), Value.int x1, Value.int x2, Value.int x3, Value.int x4, Value.int x5, Value.int x6, Value.int x7, Value.int x8] s 0 0 post) S 0 0 30 [(0, va_rf (some x0)), (1, Value.int x1), (2, Value.int x2), (3, Value.int x3), (4, Value.int x4), (5, Value.int x5), (6, Value.int x6), (7, Value.int x7), (8, Value.int x8)] [] := by
    intro S h
    unfold w_X9_ask_b30 at h
    refine G_iconst C (v := 0) dX9_ask_30 (by decide) ?_
    refine G_lv C (lv' := [(0, va_rf (some x0)), (1, Value.int x1), (2, Value.int x2), (3, Value.int x3), (4, Value.int x4), (5, Value.int x5), (6, Value.int x6), (7, Value.int x7), (8, Value.int x8)]) [0, 1, 2, 3, 4, 5, 6, 7, 8] rfl ?_
    exact J31 _ _ h
  refine G_lv C (lv' := [(0, va_rf (some x0)), (1, Value.int x1), (2, Value.int x2), (3, Value.int x3), (4, Value.int x4), (5, Value.int x5), (6, Value.int x6), (7, Value.int x7), (8, Value.int x8)]) [0, 1, 2, 3, 4, 5, 6, 7, 8] (by first | rfl | simp [lv_pick, lv_args, va_cat, vi_cat, vl_cat]) ?_
  unfold w_X9_ask at h
  refine G_iload_n C (x := x1) 1 dX9_ask_0 rfl rfl ?_
  refine G_callSi C hZ tw_6_92 tw_6_93 tw_1_7 tw_6_94 hy_X9_isPromoter ⟨Nat.le_of_ble_eq_true rfl, Nat.le_of_ble_eq_true rfl⟩ (As := [Value.int x1]) (rest := []) (c_X9_isPromoter l D cy x1 S _ h) rfl rfl (by simp [va_cat, vi_cat, vl_cat]) dX9_ask_1 ⟨Nat.le_of_ble_eq_true rfl, Nat.le_of_ble_eq_true rfl⟩ (fun r98 S97 h => ?_)
  obtain ⟨hb99, h⟩ := h
  refine G_if_eq C (tgt := 30) dX9_ask_4 (by decide) (fun hc => ?_) (fun hc => ?_)
  · have h := h.1 hc
    refine G_lv C (lv' := [(0, va_rf (some x0)), (1, Value.int x1), (2, Value.int x2), (3, Value.int x3), (4, Value.int x4), (5, Value.int x5), (6, Value.int x6), (7, Value.int x7), (8, Value.int x8)]) [0, 1, 2, 3, 4, 5, 6, 7, 8] rfl ?_
    exact J30 _ h
  · have h := h.2 hc
    refine G_aload_n C (x := (some x0)) 0 dX9_ask_7 rfl rfl ?_
    refine G_iload_n C (x := x2) 2 dX9_ask_8 rfl rfl ?_
    refine G_iload_n C (x := x3) 3 dX9_ask_9 rfl rfl ?_
    obtain ⟨hk100, h⟩ := h
    refine G_callVi C hZ (Tf := TX9) (N := 50) hk100 (by decide) rfl tw_6_95 tw_6_97 tw_0_35 tw_1_7 tw_6_98 hy_X9_isMetre ⟨Nat.le_of_ble_eq_true rfl, Nat.le_of_ble_eq_true rfl⟩ (As := [Value.int x2, Value.int x3]) (rest := []) (c_X9_isMetre l D cy x0 x2 x3 S97 _ h) rfl rfl (by simp [va_cat, vi_cat, vl_cat]) dX9_ask_10 ⟨Nat.le_of_ble_eq_true rfl, Nat.le_of_ble_eq_true rfl⟩ (fun r102 S101 h => ?_)
    obtain ⟨hb103, h⟩ := h
    refine G_if_eq C (tgt := 30) dX9_ask_13 (by decide) (fun hc => ?_) (fun hc => ?_)
    · have h := h.1 hc
      refine G_lv C (lv' := [(0, va_rf (some x0)), (1, Value.int x1), (2, Value.int x2), (3, Value.int x3), (4, Value.int x4), (5, Value.int x5), (6, Value.int x6), (7, Value.int x7), (8, Value.int x8)]) [0, 1, 2, 3, 4, 5, 6, 7, 8] rfl ?_
      exact J30 _ h
    · have h := h.2 hc
      refine G_aload_n C (x := (some x0)) 0 dX9_ask_16 rfl rfl ?_
      refine G_iload_n C (x := x2) 2 dX9_ask_17 rfl rfl ?_
      refine G_iload C (x := x4) 4 dX9_ask_18 rfl ?_
      obtain ⟨hk104, h⟩ := h
      refine G_callVi C hZ (Tf := TX9) (N := 50) hk104 (by decide) rfl tw_6_95 tw_6_97 tw_0_35 tw_1_7 tw_6_98 hy_X9_isMetre ⟨Nat.le_of_ble_eq_true rfl, Nat.le_of_ble_eq_true rfl⟩ (As := [Value.int x2, Value.int x4]) (rest := []) (c_X9_isMetre l D cy x0 x2 x4 S101 _ h) rfl rfl (by simp [va_cat, vi_cat, vl_cat]) dX9_ask_20 ⟨Nat.le_of_ble_eq_true rfl, Nat.le_of_ble_eq_true rfl⟩ (fun r106 S105 h => ?_)
      obtain ⟨hb107, h⟩ := h
      refine G_if_eq C (tgt := 30) dX9_ask_23 (by decide) (fun hc => ?_) (fun hc => ?_)
      · have h := h.1 hc
        refine G_lv C (lv' := [(0, va_rf (some x0)), (1, Value.int x1), (2, Value.int x2), (3, Value.int x3), (4, Value.int x4), (5, Value.int x5), (6, Value.int x6), (7, Value.int x7), (8, Value.int x8)]) [0, 1, 2, 3, 4, 5, 6, 7, 8] rfl ?_
        exact J30 _ h
      · have h := h.2 hc
        refine G_iconst C (v := 1) dX9_ask_26 (by decide) ?_
        refine G_goto C (tgt := 31) dX9_ask_27 (by decide) ?_
        refine G_lv C (lv' := [(0, va_rf (some x0)), (1, Value.int x1), (2, Value.int x2), (3, Value.int x3), (4, Value.int x4), (5, Value.int x5), (6, Value.int x6), (7, Value.int x7), (8, Value.int x8)]) [0, 1, 2, 3, 4, 5, 6, 7, 8] rfl ?_
        exact J31 _ _ h
set_option maxHeartbeats 4000000 in
set_option maxRecDepth 100000 in
theorem c_X9_grants (l : Launch) (D : va_G) (cy : Nat → Nat) (x0 : Nat) (x1 : Int32) (x2 : Int32) (S : PT) (post : Int32 → PT → Prop) (h : w_X9_grants x0 x1 x2 S post) : Mi l yX9_grants (Wm yX9_grants prog_11_method_36_code 5 (Option.some Jvm.ClassFile.FieldType.int)) 1 23 D cy [va_rf (some x0), Value.int x1, Value.int x2] S 0 0 post := by
  refine Mi_of (own := "TrenchboardModel") (by decide) rfl (by first | decide | simp [lg_sl, va_cat, vi_cat, vl_cat]) (fun p e s m below meth c A C hZ hr hin9 => ?_)
  have J59 : ∀ (S : PT) (v3 : Int32) (s0 : Int32), w_X9_grants_b59 x0 x1 x2 post S v3 s0 → G p l e { frames := 1, cells := 0, slots := 0, locals := 23 } s m [va_rf (some x0), Value.int x1, Value.int x2].toArray below meth c D cy A s.heap 5 (QMi below D cy A [va_rf (some x0), Value.int x1, Value.int x2] s 0 0 post) S 0 0 59 [(0, va_rf (some x0)), (1, Value.int x1), (2, Value.int x2), (3, Value.int v3)] [Value.int s0] := by
    intro S v3 s0 h
    unfold w_X9_grants_b59 at h
    refine G_iload_n C (x := v3) 3 dX9_grants_59 rfl rfl ?_
    refine G_imul C dX9_grants_60 ?_
    refine G_istore C (i := 4) (lv' := [(4, Value.int (s0 * v3)), (0, va_rf (some x0)), (1, Value.int x1), (2, Value.int x2), (3, Value.int v3)]) dX9_grants_61 (by decide) (by first | rfl | simp [va_cat, vi_cat, vl_cat]) ?_
    refine G_aload_n C (x := (some x0)) 1 dX9_grants_63 rfl rfl ?_
    obtain ⟨hk1, h⟩ := h
    refine G_get C (CC := RX9) (Tf := TX9) (N := 50) (k := 10) (i := 33) (v := va_rf (gP S 1033 x0)) hk1 (by decide) rfl (fin fwX9) (by decide) (im tw_5_161) rfl rfl dX9_grants_64 ?_
    refine G_iload_n C (x := x1) 2 dX9_grants_67 rfl rfl ?_
    refine G_iconst C (v := 1) dX9_grants_68 (by decide) ?_
    obtain ⟨a2, ha3, h⟩ := h
    refine G_rf2 ha3 ?_
    obtain ⟨hk4, h⟩ := h
    obtain ⟨hi5, h⟩ := h
    refine G_iast C hk4 hi5 dX9_grants_69 ?_
    generalize e7 : sA S a2 ((x1).toNatClampNeg) 1 = S6
    have h := h S6 e7.symm
    refine G_aload_n C (x := (some x0)) 1 dX9_grants_70 rfl rfl ?_
    refine G_get C (CC := RX9) (Tf := TX9) (N := 50) (k := 10) (i := 34) (v := va_rf (gP S6 1034 x0)) (ksA e7.symm hk1) (by decide) rfl (fin fwX9) (by decide) (im tw_5_162) rfl rfl dX9_grants_71 ?_
    refine G_iload_n C (x := x1) 2 dX9_grants_74 rfl rfl ?_
    refine G_iload_n C (x := x2) 3 dX9_grants_75 rfl rfl ?_
    obtain ⟨a8, ha9, h⟩ := h
    refine G_rf2 ha9 ?_
    obtain ⟨hk10, h⟩ := h
    obtain ⟨hi11, h⟩ := h
    refine G_iast C hk10 hi11 dX9_grants_76 ?_
    generalize e13 : sA S6 a8 ((x1).toNatClampNeg) x2 = S12
    have h := h S12 e13.symm
    refine G_aload_n C (x := (some x0)) 1 dX9_grants_77 rfl rfl ?_
    refine G_aload_n C (x := (some x0)) 1 dX9_grants_78 rfl rfl ?_
    refine G_get C (CC := RX9) (Tf := TX9) (N := 50) (k := 10) (i := 24) (v := va_rf (gP S12 1024 x0)) (ksA e13.symm (ksA e7.symm hk1)) (by decide) rfl (fin fwX9) (by decide) (im tw_5_152) rfl rfl dX9_grants_79 ?_
    refine G_iload_n C (x := x1) 2 dX9_grants_82 rfl rfl ?_
    obtain ⟨a14, ha15, h⟩ := h
    refine G_rf1 ha15 ?_
    obtain ⟨hk16, h⟩ := h
    obtain ⟨hi17, h⟩ := h
    refine G_iald C hk16 hi17 dX9_grants_83 ?_
    refine G_iconst C (v := 5) dX9_grants_84 (by decide) ?_
    refine G_iload C (x := (s0 * v3)) 0 dX9_grants_85 rfl ?_
    refine G_callVv C hZ (Tf := TX9) (N := 50) (ksA e13.symm (ksA e7.symm hk1)) (by decide) rfl tw_6_174 tw_6_176 tw_0_48 tw_1_7 tw_6_177 hy_X9_pays ⟨Nat.le_of_ble_eq_true rfl, Nat.le_of_ble_eq_true rfl⟩ (As := [Value.int (gA S12 a14 x1.toNatClampNeg), Value.int 5, Value.int (s0 * v3)]) (rest := []) (c_X9_pays l D cy x0 (gA S12 a14 x1.toNatClampNeg) 5 (s0 * v3) S12 _ h) rfl rfl (by simp [va_cat, vi_cat, vl_cat]) dX9_grants_87 ⟨Nat.le_of_ble_eq_true rfl, Nat.le_of_ble_eq_true rfl⟩ (fun S18 h => ?_)
    refine G_iload C (x := (s0 * v3)) 0 dX9_grants_90 rfl ?_
    exact G_iret C (mc := 0) (ms := 0) (post := post) hr (Nat.le_of_ble_eq_true rfl) (Nat.le_of_ble_eq_true rfl) dX9_grants_92 h
  refine G_lv C (lv' := [(0, va_rf (some x0)), (1, Value.int x1), (2, Value.int x2)]) [0, 1, 2] (by first | rfl | simp [lv_pick, lv_args, va_cat, vi_cat, vl_cat]) ?_
  unfold w_X9_grants at h
  refine G_iconst C (v := 4) dX9_grants_0 (by decide) ?_
  refine G_aload_n C (x := (some x0)) 0 dX9_grants_1 rfl rfl ?_
  obtain ⟨hk20, h⟩ := h
  refine G_get C (CC := RX9) (Tf := TX9) (N := 50) (k := 10) (i := 3) (v := va_rf (gP S 1003 x0)) hk20 (by decide) rfl (fin fwX9) (by decide) (im tw_5_131) rfl rfl dX9_grants_2 ?_
  refine G_aload_n C (x := (some x0)) 0 dX9_grants_5 rfl rfl ?_
  refine G_get C (CC := RX9) (Tf := TX9) (N := 50) (k := 10) (i := 25) (v := va_rf (gP S 1025 x0)) hk20 (by decide) rfl (fin fwX9) (by decide) (im tw_5_153) rfl rfl dX9_grants_6 ?_
  refine G_iload_n C (x := x1) 1 dX9_grants_9 rfl rfl ?_
  obtain ⟨a21, ha22, h⟩ := h
  refine G_rf1 ha22 ?_
  obtain ⟨hk23, h⟩ := h
  obtain ⟨hi24, h⟩ := h
  refine G_iald C hk23 hi24 dX9_grants_10 ?_
  obtain ⟨a25, ha26, h⟩ := h
  refine G_rf1 ha26 ?_
  obtain ⟨hk27, h⟩ := h
  obtain ⟨hi28, h⟩ := h
  refine G_iald C hk27 hi28 dX9_grants_11 ?_
  refine G_isub C dX9_grants_12 ?_
  refine G_istore_n C (i := 3) (lv' := [(3, Value.int (4 - (gA S a25 (((gA S a21 x1.toNatClampNeg)).toNatClampNeg)))), (0, va_rf (some x0)), (1, Value.int x1), (2, Value.int x2)]) dX9_grants_13 rfl (by decide) (by first | rfl | simp [va_cat, vi_cat, vl_cat]) ?_
  refine G_aload_n C (x := (some x0)) 1 dX9_grants_14 rfl rfl ?_
  refine G_get C (CC := RX9) (Tf := TX9) (N := 50) (k := 10) (i := 29) (v := va_rf (gP S 1029 x0)) hk20 (by decide) rfl (fin fwX9) (by decide) (im tw_5_157) rfl rfl dX9_grants_15 ?_
  refine G_iload_n C (x := x1) 2 dX9_grants_18 rfl rfl ?_
  obtain ⟨a29, ha30, h⟩ := h
  refine G_rf1 ha30 ?_
  obtain ⟨hk31, h⟩ := h
  obtain ⟨hi32, h⟩ := h
  refine G_iald C hk31 hi32 dX9_grants_19 ?_
  refine G_if_ne C (tgt := 28) dX9_grants_20 (by decide) (fun hc => ?_) (fun hc => ?_)
  · have h := h.1 hc
    refine G_aload_n C (x := (some x0)) 1 dX9_grants_28 rfl rfl ?_
    refine G_get C (CC := RX9) (Tf := TX9) (N := 50) (k := 10) (i := 29) (v := va_rf (gP S 1029 x0)) hk20 (by decide) rfl (fin fwX9) (by decide) (im tw_5_157) rfl rfl dX9_grants_29 ?_
    refine G_iload_n C (x := x1) 2 dX9_grants_32 rfl rfl ?_
    refine G_rf1 ha30 ?_
    obtain ⟨hi33, h⟩ := h
    refine G_iald C hk31 hi33 dX9_grants_33 ?_
    refine G_iconst C (v := 1) dX9_grants_34 (by decide) ?_
    refine G_icmp_ne C (tgt := 43) dX9_grants_35 (by decide) (fun hc => ?_) (fun hc => ?_)
    · have h := h.1 hc
      refine G_aload_n C (x := (some x0)) 1 dX9_grants_43 rfl rfl ?_
      refine G_get C (CC := RX9) (Tf := TX9) (N := 50) (k := 10) (i := 29) (v := va_rf (gP S 1029 x0)) hk20 (by decide) rfl (fin fwX9) (by decide) (im tw_5_157) rfl rfl dX9_grants_44 ?_
      refine G_iload_n C (x := x1) 2 dX9_grants_47 rfl rfl ?_
      refine G_rf1 ha30 ?_
      obtain ⟨hi34, h⟩ := h
      refine G_iald C hk31 hi34 dX9_grants_48 ?_
      refine G_iconst C (v := 2) dX9_grants_49 (by decide) ?_
      refine G_icmp_ne C (tgt := 58) dX9_grants_50 (by decide) (fun hc => ?_) (fun hc => ?_)
      · have h := h.1 hc
        refine G_iconst C (v := 0) dX9_grants_58 (by decide) ?_
        refine G_lv C (lv' := [(0, va_rf (some x0)), (1, Value.int x1), (2, Value.int x2), (3, Value.int (4 - (gA S a25 (((gA S a21 x1.toNatClampNeg)).toNatClampNeg))))]) [1, 2, 3, 0] rfl ?_
        exact J59 _ _ _ h
      · have h := h.2 hc
        refine G_bipush C (v := 20) dX9_grants_53 (by decide) ?_
        refine G_goto C (tgt := 59) dX9_grants_55 (by decide) ?_
        refine G_lv C (lv' := [(0, va_rf (some x0)), (1, Value.int x1), (2, Value.int x2), (3, Value.int (4 - (gA S a25 (((gA S a21 x1.toNatClampNeg)).toNatClampNeg))))]) [1, 2, 3, 0] rfl ?_
        exact J59 _ _ _ h
    · have h := h.2 hc
      refine G_bipush C (v := 40) dX9_grants_38 (by decide) ?_
      refine G_goto C (tgt := 59) dX9_grants_40 (by decide) ?_
      refine G_lv C (lv' := [(0, va_rf (some x0)), (1, Value.int x1), (2, Value.int x2), (3, Value.int (4 - (gA S a25 (((gA S a21 x1.toNatClampNeg)).toNatClampNeg))))]) [1, 2, 3, 0] rfl ?_
      exact J59 _ _ _ h
  · have h := h.2 hc
    refine G_bipush C (v := 60) dX9_grants_23 (by decide) ?_
    refine G_goto C (tgt := 59) dX9_grants_25 (by decide) ?_
    refine G_lv C (lv' := [(0, va_rf (some x0)), (1, Value.int x1), (2, Value.int x2), (3, Value.int (4 - (gA S a25 (((gA S a21 x1.toNatClampNeg)).toNatClampNeg))))]) [1, 2, 3, 0] rfl ?_
    exact J59 _ _ _ h
set_option maxHeartbeats 4000000 in
set_option maxRecDepth 100000 in
theorem c_X9_grant (l : Launch) (D : va_G) (cy : Nat → Nat) (x0 : Nat) (x1 : Int32) (x2 : Int32) (S : PT) (post : Int32 → PT → Prop) (h : w_X9_grant x0 x1 x2 S post) : Mi l yX9_grant (Wm yX9_grant prog_11_method_37_code 4 (Option.some Jvm.ClassFile.FieldType.int)) 6 136 D cy [va_rf (some x0), Value.int x1, Value.int x2] S 0 0 post := by
  refine Mi_of (own := "TrenchboardModel") (by decide) rfl (by first | decide | simp [lg_sl, va_cat, vi_cat, vl_cat]) (fun p e s m below meth c A C hZ hr hin9 => ?_)
  have J50 : ∀ (S : PT) (s0 : Option Nat) (s1 : Int32), w_X9_grant_b50 x0 x1 x2 post S s0 s1 → G p l e { frames := 6, cells := 0, slots := 0, locals := 136 } s m [va_rf (some x0), Value.int x1, Value.int x2].toArray below meth c D cy A s.heap 4 (QMi below D cy A [va_rf (some x0), Value.int x1, Value.int x2] s 0 0 post) S 0 0 50 [(0, va_rf (some x0)), (1, Value.int x1), (2, Value.int x2)] [Value.int s1, va_rf s0] := by
    intro S s0 s1 h
    unfold w_X9_grant_b50 at h
    obtain ⟨a1, ha2, h⟩ := h
    obtain ⟨hk3, h⟩ := h
    refine G_callVi C hZ (Tf := TX9) (N := 50) hk3 (by decide) rfl tw_6_56 tw_6_58 tw_0_29 tw_1_7 tw_6_59 hy_X9_goes ⟨Nat.le_of_ble_eq_true rfl, Nat.le_of_ble_eq_true rfl⟩ (As := [Value.int s1]) (rest := []) (c_X9_goes l D cy a1 s1 S _ h) rfl (by first | rfl | (simp only [ha2]; rfl) | simp only [ha2]) (by simp [va_cat, vi_cat, vl_cat]) dX9_grant_50 ⟨Nat.le_of_ble_eq_true rfl, Nat.le_of_ble_eq_true rfl⟩ (fun r5 S4 h => ?_)
    obtain ⟨hb6, h⟩ := h
    refine G_if_ne C (tgt := 58) dX9_grant_53 (by decide) (fun hc => ?_) (fun hc => ?_)
    · have h := h.1 hc
      refine G_aload_n C (x := (some x0)) 0 dX9_grant_58 rfl rfl ?_
      refine G_iload_n C (x := x1) 1 dX9_grant_59 rfl rfl ?_
      refine G_iload_n C (x := x2) 2 dX9_grant_60 rfl rfl ?_
      obtain ⟨hk7, h⟩ := h
      refine G_callVi C hZ (Tf := TX9) (N := 50) hk7 (by decide) rfl tw_6_170 tw_6_172 tw_0_47 tw_1_7 tw_6_173 hy_X9_grants ⟨Nat.le_of_ble_eq_true rfl, Nat.le_of_ble_eq_true rfl⟩ (As := [Value.int x1, Value.int x2]) (rest := []) (c_X9_grants l D cy x0 x1 x2 S4 _ h) rfl rfl (by simp [va_cat, vi_cat, vl_cat]) dX9_grant_61 ⟨Nat.le_of_ble_eq_true rfl, Nat.le_of_ble_eq_true rfl⟩ (fun r9 S8 h => ?_)
      exact G_iret C (mc := 0) (ms := 0) (post := post) hr (Nat.le_of_ble_eq_true rfl) (Nat.le_of_ble_eq_true rfl) dX9_grant_64 h
    · have h := h.2 hc
      refine G_iconst C (v := 0) dX9_grant_56 (by decide) ?_
      exact G_iret C (mc := 0) (ms := 0) (post := post) hr (Nat.le_of_ble_eq_true rfl) (Nat.le_of_ble_eq_true rfl) dX9_grant_57 h
  have J45 : ∀ (S : PT) (s0 : Option Nat), w_X9_grant_b45 x0 x1 x2 post S s0 → G p l e { frames := 6, cells := 0, slots := 0, locals := 136 } s m [va_rf (some x0), Value.int x1, Value.int x2].toArray below meth c D cy A s.heap 4 (QMi below D cy A [va_rf (some x0), Value.int x1, Value.int x2] s 0 0 post) S 0 0 45 [(0, va_rf (some x0)), (1, Value.int x1), (2, Value.int x2)] [va_rf s0] := by
    intro S s0 h
    unfold w_X9_grant_b45 at h
    refine G_iconst C (v := 3) dX9_grant_45 (by decide) ?_
    refine G_goto C (tgt := 50) dX9_grant_46 (by decide) ?_
    refine G_lv C (lv' := [(0, va_rf (some x0)), (1, Value.int x1), (2, Value.int x2)]) [0, 1, 2] rfl ?_
    exact J50 _ _ _ h
  refine G_lv C (lv' := [(0, va_rf (some x0)), (1, Value.int x1), (2, Value.int x2)]) [0, 1, 2] (by first | rfl | simp [lv_pick, lv_args, va_cat, vi_cat, vl_cat]) ?_
  unfold w_X9_grant at h
  refine G_aload_n C (x := (some x0)) 0 dX9_grant_0 rfl rfl ?_
  refine G_iload_n C (x := x1) 1 dX9_grant_1 rfl rfl ?_
  obtain ⟨hk10, h⟩ := h
  refine G_callVi C hZ (Tf := TX9) (N := 50) hk10 (by decide) rfl tw_6_146 tw_6_148 tw_0_41 tw_1_7 tw_6_149 hy_X9_areWorks ⟨Nat.le_of_ble_eq_true rfl, Nat.le_of_ble_eq_true rfl⟩ (As := [Value.int x1]) (rest := []) (c_X9_areWorks l D cy x0 x1 S _ h) rfl rfl (by simp [va_cat, vi_cat, vl_cat]) dX9_grant_2 ⟨Nat.le_of_ble_eq_true rfl, Nat.le_of_ble_eq_true rfl⟩ (fun r12 S11 h => ?_)
  obtain ⟨hb13, h⟩ := h
  refine G_istore_n C (i := 3) (lv' := [(3, Value.int r12), (0, va_rf (some x0)), (1, Value.int x1), (2, Value.int x2)]) dX9_grant_5 rfl (by decide) (by first | rfl | simp [va_cat, vi_cat, vl_cat]) ?_
  refine G_aload_n C (x := (some x0)) 1 dX9_grant_6 rfl rfl ?_
  refine G_iload_n C (x := r12) 0 dX9_grant_7 rfl rfl ?_
  refine G_if_ne C (tgt := 15) dX9_grant_8 (by decide) (fun hc => ?_) (fun hc => ?_)
  · have h := h.1 hc
    refine G_iload_n C (x := x2) 3 dX9_grant_15 rfl rfl ?_
    refine G_iconst C (v := 0) dX9_grant_16 (by decide) ?_
    refine G_iconst C (v := 3) dX9_grant_17 (by decide) ?_
    refine G_callSi C hZ tw_6_49 tw_6_50 tw_1_7 tw_6_51 hy_X9_isIn ⟨Nat.le_of_ble_eq_true rfl, Nat.le_of_ble_eq_true rfl⟩ (As := [Value.int x2, Value.int 0, Value.int 3]) (rest := [va_rf (some x0)]) (c_X9_isIn l D cy x2 0 3 S11 _ h) rfl rfl (by simp [va_cat, vi_cat, vl_cat]) dX9_grant_18 ⟨Nat.le_of_ble_eq_true rfl, Nat.le_of_ble_eq_true rfl⟩ (fun r15 S14 h => ?_)
    obtain ⟨hb16, h⟩ := h
    refine G_if_ne C (tgt := 28) dX9_grant_21 (by decide) (fun hc => ?_) (fun hc => ?_)
    · have h := h.1 hc
      refine G_aload_n C (x := (some x0)) 1 dX9_grant_28 rfl rfl ?_
      obtain ⟨hk17, h⟩ := h
      refine G_get C (CC := RX9) (Tf := TX9) (N := 50) (k := 10) (i := 33) (v := va_rf (gP S14 1033 x0)) hk17 (by decide) rfl (fin fwX9) (by decide) (im tw_5_161) rfl rfl dX9_grant_29 ?_
      refine G_iload_n C (x := x1) 2 dX9_grant_32 rfl rfl ?_
      obtain ⟨a18, ha19, h⟩ := h
      refine G_rf1 ha19 ?_
      obtain ⟨hk20, h⟩ := h
      obtain ⟨hi21, h⟩ := h
      refine G_iald C hk20 hi21 dX9_grant_33 ?_
      refine G_if_ne C (tgt := 45) dX9_grant_34 (by decide) (fun hc => ?_) (fun hc => ?_)
      · have h := h.1 hc
        refine G_lv C (lv' := [(0, va_rf (some x0)), (1, Value.int x1), (2, Value.int x2)]) [1, 2, 3] rfl ?_
        exact J45 _ _ h
      · have h := h.2 hc
        refine G_aload_n C (x := (some x0)) 1 dX9_grant_37 rfl rfl ?_
        refine G_iload_n C (x := x1) 2 dX9_grant_38 rfl rfl ?_
        refine G_callVi C hZ (Tf := TX9) (N := 50) hk17 (by decide) rfl tw_6_150 tw_6_152 tw_0_42 tw_1_7 tw_6_153 hy_X9_barsOf ⟨Nat.le_of_ble_eq_true rfl, Nat.le_of_ble_eq_true rfl⟩ (As := [Value.int x1]) (rest := [va_rf (some x0)]) (c_X9_barsOf l D cy x0 x1 S14 _ h) rfl rfl (by simp [va_cat, vi_cat, vl_cat]) dX9_grant_39 ⟨Nat.le_of_ble_eq_true rfl, Nat.le_of_ble_eq_true rfl⟩ (fun r23 S22 h => ?_)
        refine G_if_le C (tgt := 49) dX9_grant_42 (by decide) (fun hc => ?_) (fun hc => ?_)
        · have h := h.1 hc
          refine G_iconst C (v := 0) dX9_grant_49 (by decide) ?_
          refine G_lv C (lv' := [(0, va_rf (some x0)), (1, Value.int x1), (2, Value.int x2)]) [1, 2, 3] rfl ?_
          exact J50 _ _ _ h
        · have h := h.2 hc
          refine G_lv C (lv' := [(0, va_rf (some x0)), (1, Value.int x1), (2, Value.int x2)]) [1, 2, 3] rfl ?_
          exact J45 _ _ h
    · have h := h.2 hc
      refine G_iconst C (v := 2) dX9_grant_24 (by decide) ?_
      refine G_goto C (tgt := 50) dX9_grant_25 (by decide) ?_
      refine G_lv C (lv' := [(0, va_rf (some x0)), (1, Value.int x1), (2, Value.int x2)]) [1, 2, 3] rfl ?_
      exact J50 _ _ _ h
  · have h := h.2 hc
    refine G_iconst C (v := 1) dX9_grant_11 (by decide) ?_
    refine G_goto C (tgt := 50) dX9_grant_12 (by decide) ?_
    refine G_lv C (lv' := [(0, va_rf (some x0)), (1, Value.int x1), (2, Value.int x2)]) [1, 2, 3] rfl ?_
    exact J50 _ _ _ h
set_option maxHeartbeats 4000000 in
set_option maxRecDepth 100000 in
theorem c_X9_refuse (l : Launch) (D : va_G) (cy : Nat → Nat) (x0 : Nat) (x1 : Int32) (S : PT) (post : Int32 → PT → Prop) (h : w_X9_refuse x0 x1 S post) : Mi l yX9_refuse (Wm yX9_refuse prog_11_method_38_code 4 (Option.some Jvm.ClassFile.FieldType.int)) 2 43 D cy [va_rf (some x0), Value.int x1] S 0 0 post := by
  refine Mi_of (own := "TrenchboardModel") (by decide) rfl (by first | decide | simp [lg_sl, va_cat, vi_cat, vl_cat]) (fun p e s m below meth c A C hZ hr hin9 => ?_)
  have J39 : ∀ (S : PT) (s0 : Option Nat) (s1 : Int32), w_X9_refuse_b39 x0 x1 post S s0 s1 → G p l e { frames := 2, cells := 0, slots := 0, locals := 43 } s m [va_rf (some x0), Value.int x1].toArray below meth c D cy A s.heap 4 (QMi below D cy A [va_rf (some x0), Value.int x1] s 0 0 post) S 0 0 39 [(0, va_rf (some x0)), (1, Value.int x1)] [Value.int s1, va_rf s0] := by
    intro S s0 s1 h
    unfold w_X9_refuse_b39 at h
    obtain ⟨a1, ha2, h⟩ := h
    obtain ⟨hk3, h⟩ := h
    refine G_callVi C hZ (Tf := TX9) (N := 50) hk3 (by decide) rfl tw_6_56 tw_6_58 tw_0_29 tw_1_7 tw_6_59 hy_X9_goes ⟨Nat.le_of_ble_eq_true rfl, Nat.le_of_ble_eq_true rfl⟩ (As := [Value.int s1]) (rest := []) (c_X9_goes l D cy a1 s1 S _ h) rfl (by first | rfl | (simp only [ha2]; rfl) | simp only [ha2]) (by simp [va_cat, vi_cat, vl_cat]) dX9_refuse_39 ⟨Nat.le_of_ble_eq_true rfl, Nat.le_of_ble_eq_true rfl⟩ (fun r5 S4 h => ?_)
    obtain ⟨hb6, h⟩ := h
    refine G_if_ne C (tgt := 47) dX9_refuse_42 (by decide) (fun hc => ?_) (fun hc => ?_)
    · have h := h.1 hc
      refine G_aload_n C (x := (some x0)) 0 dX9_refuse_47 rfl rfl ?_
      obtain ⟨hk7, h⟩ := h
      refine G_get C (CC := RX9) (Tf := TX9) (N := 50) (k := 10) (i := 33) (v := va_rf (gP S4 1033 x0)) hk7 (by decide) rfl (fin fwX9) (by decide) (im tw_5_161) rfl rfl dX9_refuse_48 ?_
      refine G_iload_n C (x := x1) 1 dX9_refuse_51 rfl rfl ?_
      obtain ⟨a8, ha9, h⟩ := h
      refine G_rf1 ha9 ?_
      obtain ⟨hk10, h⟩ := h
      obtain ⟨hi11, h⟩ := h
      refine G_iald C hk10 hi11 dX9_refuse_52 ?_
      refine G_istore_n C (i := 3) (lv' := [(3, Value.int (gA S4 a8 x1.toNatClampNeg)), (0, va_rf (some x0)), (1, Value.int x1)]) dX9_refuse_53 rfl (by decide) (by first | rfl | simp [va_cat, vi_cat, vl_cat]) ?_
      refine G_aload_n C (x := (some x0)) 1 dX9_refuse_54 rfl rfl ?_
      refine G_get C (CC := RX9) (Tf := TX9) (N := 50) (k := 10) (i := 33) (v := va_rf (gP S4 1033 x0)) hk7 (by decide) rfl (fin fwX9) (by decide) (im tw_5_161) rfl rfl dX9_refuse_55 ?_
      refine G_iload_n C (x := x1) 2 dX9_refuse_58 rfl rfl ?_
      refine G_iconst C (v := 2) dX9_refuse_59 (by decide) ?_
      refine G_rf2 ha9 ?_
      obtain ⟨hi12, h⟩ := h
      refine G_iast C hk10 hi12 dX9_refuse_60 ?_
      generalize e14 : sA S4 a8 ((x1).toNatClampNeg) 2 = S13
      have h := h S13 e14.symm
      refine G_iload_n C (x := (gA S4 a8 x1.toNatClampNeg)) 0 dX9_refuse_61 rfl rfl ?_
      exact G_iret C (mc := 0) (ms := 0) (post := post) hr (Nat.le_of_ble_eq_true rfl) (Nat.le_of_ble_eq_true rfl) dX9_refuse_62 h
    · have h := h.2 hc
      refine G_iconst C (v := 0) dX9_refuse_45 (by decide) ?_
      exact G_iret C (mc := 0) (ms := 0) (post := post) hr (Nat.le_of_ble_eq_true rfl) (Nat.le_of_ble_eq_true rfl) dX9_refuse_46 h
  have J38 : ∀ (S : PT) (s0 : Option Nat), w_X9_refuse_b38 x0 x1 post S s0 → G p l e { frames := 2, cells := 0, slots := 0, locals := 43 } s m [va_rf (some x0), Value.int x1].toArray below meth c D cy A s.heap 4 (QMi below D cy A [va_rf (some x0), Value.int x1] s 0 0 post) S 0 0 38 [(0, va_rf (some x0)), (1, Value.int x1)] [va_rf s0] := by
    intro S s0 h
    unfold w_X9_refuse_b38 at h
    refine G_iconst C (v := 0) dX9_refuse_38 (by decide) ?_
    refine G_lv C (lv' := [(0, va_rf (some x0)), (1, Value.int x1)]) [0, 1] rfl ?_
    exact J39 _ _ _ h
  refine G_lv C (lv' := [(0, va_rf (some x0)), (1, Value.int x1)]) [0, 1] (by first | rfl | simp [lv_pick, lv_args, va_cat, vi_cat, vl_cat]) ?_
  unfold w_X9_refuse at h
  refine G_aload_n C (x := (some x0)) 0 dX9_refuse_0 rfl rfl ?_
  refine G_iload_n C (x := x1) 1 dX9_refuse_1 rfl rfl ?_
  obtain ⟨hk15, h⟩ := h
  refine G_callVi C hZ (Tf := TX9) (N := 50) hk15 (by decide) rfl tw_6_146 tw_6_148 tw_0_41 tw_1_7 tw_6_149 hy_X9_areWorks ⟨Nat.le_of_ble_eq_true rfl, Nat.le_of_ble_eq_true rfl⟩ (As := [Value.int x1]) (rest := []) (c_X9_areWorks l D cy x0 x1 S _ h) rfl rfl (by simp [va_cat, vi_cat, vl_cat]) dX9_refuse_2 ⟨Nat.le_of_ble_eq_true rfl, Nat.le_of_ble_eq_true rfl⟩ (fun r17 S16 h => ?_)
  obtain ⟨hb18, h⟩ := h
  refine G_istore_n C (i := 2) (lv' := [(2, Value.int r17), (0, va_rf (some x0)), (1, Value.int x1)]) dX9_refuse_5 rfl (by decide) (by first | rfl | simp [va_cat, vi_cat, vl_cat]) ?_
  refine G_aload_n C (x := (some x0)) 1 dX9_refuse_6 rfl rfl ?_
  refine G_iload_n C (x := r17) 0 dX9_refuse_7 rfl rfl ?_
  refine G_if_ne C (tgt := 15) dX9_refuse_8 (by decide) (fun hc => ?_) (fun hc => ?_)
  · have h := h.1 hc
    refine G_aload_n C (x := (some x0)) 1 dX9_refuse_15 rfl rfl ?_
    obtain ⟨hk19, h⟩ := h
    refine G_get C (CC := RX9) (Tf := TX9) (N := 50) (k := 10) (i := 33) (v := va_rf (gP S16 1033 x0)) hk19 (by decide) rfl (fin fwX9) (by decide) (im tw_5_161) rfl rfl dX9_refuse_16 ?_
    refine G_iload_n C (x := x1) 2 dX9_refuse_19 rfl rfl ?_
    obtain ⟨a20, ha21, h⟩ := h
    refine G_rf1 ha21 ?_
    obtain ⟨hk22, h⟩ := h
    obtain ⟨hi23, h⟩ := h
    refine G_iald C hk22 hi23 dX9_refuse_20 ?_
    refine G_if_eq C (tgt := 38) dX9_refuse_21 (by decide) (fun hc => ?_) (fun hc => ?_)
    · have h := h.1 hc
      refine G_lv C (lv' := [(0, va_rf (some x0)), (1, Value.int x1)]) [1, 2] rfl ?_
      exact J38 _ _ h
    · have h := h.2 hc
      refine G_aload_n C (x := (some x0)) 1 dX9_refuse_24 rfl rfl ?_
      refine G_get C (CC := RX9) (Tf := TX9) (N := 50) (k := 10) (i := 33) (v := va_rf (gP S16 1033 x0)) hk19 (by decide) rfl (fin fwX9) (by decide) (im tw_5_161) rfl rfl dX9_refuse_25 ?_
      refine G_iload_n C (x := x1) 2 dX9_refuse_28 rfl rfl ?_
      refine G_rf1 ha21 ?_
      obtain ⟨hi24, h⟩ := h
      refine G_iald C hk22 hi24 dX9_refuse_29 ?_
      refine G_iconst C (v := 1) dX9_refuse_30 (by decide) ?_
      refine G_icmp_eq C (tgt := 38) dX9_refuse_31 (by decide) (fun hc => ?_) (fun hc => ?_)
      · have h := h.1 hc
        refine G_lv C (lv' := [(0, va_rf (some x0)), (1, Value.int x1)]) [1, 2] rfl ?_
        exact J38 _ _ h
      · have h := h.2 hc
        refine G_iconst C (v := 2) dX9_refuse_34 (by decide) ?_
        refine G_goto C (tgt := 39) dX9_refuse_35 (by decide) ?_
        refine G_lv C (lv' := [(0, va_rf (some x0)), (1, Value.int x1)]) [1, 2] rfl ?_
        exact J39 _ _ _ h
  · have h := h.2 hc
    refine G_iconst C (v := 1) dX9_refuse_11 (by decide) ?_
    refine G_goto C (tgt := 39) dX9_refuse_12 (by decide) ?_
    refine G_lv C (lv' := [(0, va_rf (some x0)), (1, Value.int x1)]) [1, 2] rfl ?_
    exact J39 _ _ _ h
set_option maxHeartbeats 4000000 in
set_option maxRecDepth 100000 in
theorem c_X9_vary (l : Launch) (D : va_G) (cy : Nat → Nat) (x0 : Nat) (x1 : Int32) (x2 : Int32) (S : PT) (post : Int32 → PT → Prop) (h : w_X9_vary x0 x1 x2 S post) : Mi l yX9_vary (Wm yX9_vary prog_11_method_39_code 4 (Option.some Jvm.ClassFile.FieldType.int)) 2 43 D cy [va_rf (some x0), Value.int x1, Value.int x2] S 0 0 post := by
  refine Mi_of (own := "TrenchboardModel") (by decide) rfl (by first | decide | simp [lg_sl, va_cat, vi_cat, vl_cat]) (fun p e s m below meth c A C hZ hr hin9 => ?_)
  have J41 : ∀ (S : PT) (s0 : Option Nat) (s1 : Int32), w_X9_vary_b41 x0 x1 x2 post S s0 s1 → G p l e { frames := 2, cells := 0, slots := 0, locals := 43 } s m [va_rf (some x0), Value.int x1, Value.int x2].toArray below meth c D cy A s.heap 4 (QMi below D cy A [va_rf (some x0), Value.int x1, Value.int x2] s 0 0 post) S 0 0 41 [(0, va_rf (some x0)), (1, Value.int x1), (2, Value.int x2)] [Value.int s1, va_rf s0] := by
    intro S s0 s1 h
    unfold w_X9_vary_b41 at h
    obtain ⟨a1, ha2, h⟩ := h
    obtain ⟨hk3, h⟩ := h
    refine G_callVi C hZ (Tf := TX9) (N := 50) hk3 (by decide) rfl tw_6_56 tw_6_58 tw_0_29 tw_1_7 tw_6_59 hy_X9_goes ⟨Nat.le_of_ble_eq_true rfl, Nat.le_of_ble_eq_true rfl⟩ (As := [Value.int s1]) (rest := []) (c_X9_goes l D cy a1 s1 S _ h) rfl (by first | rfl | (simp only [ha2]; rfl) | simp only [ha2]) (by simp [va_cat, vi_cat, vl_cat]) dX9_vary_41 ⟨Nat.le_of_ble_eq_true rfl, Nat.le_of_ble_eq_true rfl⟩ (fun r5 S4 h => ?_)
    obtain ⟨hb6, h⟩ := h
    refine G_if_ne C (tgt := 49) dX9_vary_44 (by decide) (fun hc => ?_) (fun hc => ?_)
    · have h := h.1 hc
      refine G_aload_n C (x := (some x0)) 0 dX9_vary_49 rfl rfl ?_
      obtain ⟨hk7, h⟩ := h
      refine G_get C (CC := RX9) (Tf := TX9) (N := 50) (k := 10) (i := 34) (v := va_rf (gP S4 1034 x0)) hk7 (by decide) rfl (fin fwX9) (by decide) (im tw_5_162) rfl rfl dX9_vary_50 ?_
      refine G_iload_n C (x := x1) 1 dX9_vary_53 rfl rfl ?_
      refine G_iload_n C (x := x2) 2 dX9_vary_54 rfl rfl ?_
      obtain ⟨a8, ha9, h⟩ := h
      refine G_rf2 ha9 ?_
      obtain ⟨hk10, h⟩ := h
      obtain ⟨hi11, h⟩ := h
      refine G_iast C hk10 hi11 dX9_vary_55 ?_
      generalize e13 : sA S4 a8 ((x1).toNatClampNeg) x2 = S12
      have h := h S12 e13.symm
      refine G_aload_n C (x := (some x0)) 0 dX9_vary_56 rfl rfl ?_
      refine G_get C (CC := RX9) (Tf := TX9) (N := 50) (k := 10) (i := 35) (v := va_rf (gP S12 1035 x0)) (ksA e13.symm hk7) (by decide) rfl (fin fwX9) (by decide) (im tw_5_163) rfl rfl dX9_vary_57 ?_
      refine G_iload_n C (x := x1) 1 dX9_vary_60 rfl rfl ?_
      refine G_dup2 C dX9_vary_61 rfl (va_cat _) ?_
      obtain ⟨a14, ha15, h⟩ := h
      refine G_rf1 ha15 ?_
      obtain ⟨hk16, h⟩ := h
      obtain ⟨hi17, h⟩ := h
      refine G_iald C hk16 hi17 dX9_vary_62 ?_
      refine G_iconst C (v := 1) dX9_vary_63 (by decide) ?_
      refine G_iadd C dX9_vary_64 ?_
      refine G_rf2 ha15 ?_
      obtain ⟨hi18, h⟩ := h
      refine G_iast C hk16 hi18 dX9_vary_65 ?_
      generalize e20 : sA S12 a14 ((x1).toNatClampNeg) ((gA S12 a14 x1.toNatClampNeg) + 1) = S19
      have h := h S19 e20.symm
      refine G_aload_n C (x := (some x0)) 0 dX9_vary_66 rfl rfl ?_
      refine G_get C (CC := RX9) (Tf := TX9) (N := 50) (k := 10) (i := 35) (v := va_rf (gP S19 1035 x0)) (ksA e20.symm (ksA e13.symm hk7)) (by decide) rfl (fin fwX9) (by decide) (im tw_5_163) rfl rfl dX9_vary_67 ?_
      refine G_iload_n C (x := x1) 1 dX9_vary_70 rfl rfl ?_
      obtain ⟨a21, ha22, h⟩ := h
      refine G_rf1 ha22 ?_
      obtain ⟨hk23, h⟩ := h
      obtain ⟨hi24, h⟩ := h
      refine G_iald C hk23 hi24 dX9_vary_71 ?_
      exact G_iret C (mc := 0) (ms := 0) (post := post) hr (Nat.le_of_ble_eq_true rfl) (Nat.le_of_ble_eq_true rfl) dX9_vary_72 h
    · have h := h.2 hc
      refine G_iconst C (v := 0) dX9_vary_47 (by decide) ?_
      exact G_iret C (mc := 0) (ms := 0) (post := post) hr (Nat.le_of_ble_eq_true rfl) (Nat.le_of_ble_eq_true rfl) dX9_vary_48 h
  refine G_lv C (lv' := [(0, va_rf (some x0)), (1, Value.int x1), (2, Value.int x2)]) [0, 1, 2] (by first | rfl | simp [lv_pick, lv_args, va_cat, vi_cat, vl_cat]) ?_
  unfold w_X9_vary at h
  refine G_aload_n C (x := (some x0)) 0 dX9_vary_0 rfl rfl ?_
  refine G_iload_n C (x := x1) 1 dX9_vary_1 rfl rfl ?_
  obtain ⟨hk25, h⟩ := h
  refine G_callVi C hZ (Tf := TX9) (N := 50) hk25 (by decide) rfl tw_6_146 tw_6_148 tw_0_41 tw_1_7 tw_6_149 hy_X9_areWorks ⟨Nat.le_of_ble_eq_true rfl, Nat.le_of_ble_eq_true rfl⟩ (As := [Value.int x1]) (rest := []) (c_X9_areWorks l D cy x0 x1 S _ h) rfl rfl (by simp [va_cat, vi_cat, vl_cat]) dX9_vary_2 ⟨Nat.le_of_ble_eq_true rfl, Nat.le_of_ble_eq_true rfl⟩ (fun r27 S26 h => ?_)
  obtain ⟨hb28, h⟩ := h
  refine G_istore_n C (i := 3) (lv' := [(3, Value.int r27), (0, va_rf (some x0)), (1, Value.int x1), (2, Value.int x2)]) dX9_vary_5 rfl (by decide) (by first | rfl | simp [va_cat, vi_cat, vl_cat]) ?_
  refine G_aload_n C (x := (some x0)) 1 dX9_vary_6 rfl rfl ?_
  refine G_iload_n C (x := r27) 0 dX9_vary_7 rfl rfl ?_
  refine G_if_ne C (tgt := 15) dX9_vary_8 (by decide) (fun hc => ?_) (fun hc => ?_)
  · have h := h.1 hc
    refine G_iload_n C (x := x2) 3 dX9_vary_15 rfl rfl ?_
    refine G_iconst C (v := 0) dX9_vary_16 (by decide) ?_
    refine G_iconst C (v := 3) dX9_vary_17 (by decide) ?_
    refine G_callSi C hZ tw_6_49 tw_6_50 tw_1_7 tw_6_51 hy_X9_isIn ⟨Nat.le_of_ble_eq_true rfl, Nat.le_of_ble_eq_true rfl⟩ (As := [Value.int x2, Value.int 0, Value.int 3]) (rest := [va_rf (some x0)]) (c_X9_isIn l D cy x2 0 3 S26 _ h) rfl rfl (by simp [va_cat, vi_cat, vl_cat]) dX9_vary_18 ⟨Nat.le_of_ble_eq_true rfl, Nat.le_of_ble_eq_true rfl⟩ (fun r30 S29 h => ?_)
    obtain ⟨hb31, h⟩ := h
    refine G_if_ne C (tgt := 28) dX9_vary_21 (by decide) (fun hc => ?_) (fun hc => ?_)
    · have h := h.1 hc
      refine G_aload_n C (x := (some x0)) 1 dX9_vary_28 rfl rfl ?_
      refine G_iload_n C (x := x1) 2 dX9_vary_29 rfl rfl ?_
      obtain ⟨hk32, h⟩ := h
      refine G_callVi C hZ (Tf := TX9) (N := 50) hk32 (by decide) rfl tw_6_158 tw_6_160 tw_0_44 tw_1_7 tw_6_161 hy_X9_isOn ⟨Nat.le_of_ble_eq_true rfl, Nat.le_of_ble_eq_true rfl⟩ (As := [Value.int x1]) (rest := [va_rf (some x0)]) (c_X9_isOn l D cy x0 x1 S29 _ h) rfl rfl (by simp [va_cat, vi_cat, vl_cat]) dX9_vary_30 ⟨Nat.le_of_ble_eq_true rfl, Nat.le_of_ble_eq_true rfl⟩ (fun r34 S33 h => ?_)
      obtain ⟨hb35, h⟩ := h
      refine G_if_eq C (tgt := 40) dX9_vary_33 (by decide) (fun hc => ?_) (fun hc => ?_)
      · have h := h.1 hc
        refine G_iconst C (v := 3) dX9_vary_40 (by decide) ?_
        refine G_lv C (lv' := [(0, va_rf (some x0)), (1, Value.int x1), (2, Value.int x2)]) [1, 2, 3] rfl ?_
        exact J41 _ _ _ h
      · have h := h.2 hc
        refine G_iconst C (v := 0) dX9_vary_36 (by decide) ?_
        refine G_goto C (tgt := 41) dX9_vary_37 (by decide) ?_
        refine G_lv C (lv' := [(0, va_rf (some x0)), (1, Value.int x1), (2, Value.int x2)]) [1, 2, 3] rfl ?_
        exact J41 _ _ _ h
    · have h := h.2 hc
      refine G_iconst C (v := 2) dX9_vary_24 (by decide) ?_
      refine G_goto C (tgt := 41) dX9_vary_25 (by decide) ?_
      refine G_lv C (lv' := [(0, va_rf (some x0)), (1, Value.int x1), (2, Value.int x2)]) [1, 2, 3] rfl ?_
      exact J41 _ _ _ h
  · have h := h.2 hc
    refine G_iconst C (v := 1) dX9_vary_11 (by decide) ?_
    refine G_goto C (tgt := 41) dX9_vary_12 (by decide) ?_
    refine G_lv C (lv' := [(0, va_rf (some x0)), (1, Value.int x1), (2, Value.int x2)]) [1, 2, 3] rfl ?_
    exact J41 _ _ _ h
set_option maxHeartbeats 4000000 in
set_option maxRecDepth 100000 in
theorem c_X9_exempt (l : Launch) (D : va_G) (cy : Nat → Nat) (x0 : Nat) (x1 : Int32) (S : PT) (post : Int32 → PT → Prop) (h : w_X9_exempt x0 x1 S post) : Mi l yX9_exempt (Wm yX9_exempt prog_11_method_40_code 2 (Option.some Jvm.ClassFile.FieldType.boolean)) 2 43 D cy [va_rf (some x0), Value.int x1] S 0 0 (fun r S => bo r ∧ post r S) := by
  refine Mi_of (own := "TrenchboardModel") (by decide) rfl (by first | decide | simp [lg_sl, va_cat, vi_cat, vl_cat]) (fun p e s m below meth c A C hZ hr hin9 => ?_)
  have J41 : ∀ (S : PT) (s0 : Option Nat) (s1 : Int32) (s2 : Int32), w_X9_exempt_b41 x0 x1 post S s0 s1 s2 → G p l e { frames := 2, cells := 0, slots := 0, locals := 43 } s m [va_rf (some x0), Value.int x1].toArray below meth c D cy A s.heap 2 (QMi below D cy A [va_rf (some x0), Value.int x1] s 0 0 (fun r S => bo r ∧ post r S)) S 0 0 41 [(0, va_rf (some x0)), (1, Value.int x1)] [Value.int s2, Value.int s1, va_rf s0] := by
    intro S s0 s1 s2 h
    unfold w_X9_exempt_b41 at h
    obtain ⟨a1, ha2, h⟩ := h
    refine G_rf2 ha2 ?_
    obtain ⟨hk3, h⟩ := h
    obtain ⟨hb4, h⟩ := h
    obtain ⟨hi5, h⟩ := h
    refine G_zast C hk3 hb4 hi5 dX9_exempt_41 ?_
    generalize e7 : sA S a1 ((s1).toNatClampNeg) s2 = S6
    have h := h S6 e7.symm
    refine G_aload_n C (x := (some x0)) 0 dX9_exempt_42 rfl rfl ?_
    obtain ⟨hk8, h⟩ := h
    refine G_get C (CC := RX9) (Tf := TX9) (N := 50) (k := 10) (i := 38) (v := va_rf (gP S6 1038 x0)) hk8 (by decide) rfl (fin fwX9) (by decide) (im tw_5_166) rfl rfl dX9_exempt_43 ?_
    refine G_iload_n C (x := x1) 1 dX9_exempt_46 rfl rfl ?_
    obtain ⟨a9, ha10, h⟩ := h
    refine G_rf1 ha10 ?_
    obtain ⟨hk11, h⟩ := h
    obtain ⟨hi12, h⟩ := h
    refine G_zald C hk11 hi12 dX9_exempt_47 ?_
    obtain ⟨hb13, h⟩ := h
    exact G_zret C (mc := 0) (ms := 0) (post := (fun r S => bo r ∧ post r S)) (bo_nar hb13) hr (Nat.le_of_ble_eq_true rfl) (Nat.le_of_ble_eq_true rfl) dX9_exempt_48 ⟨hb13, h⟩
  have J14 : ∀ (S : PT) (s0 : Option Nat) (s1 : Int32), w_X9_exempt_b14 x0 x1 post S s0 s1 → G p l e { frames := 2, cells := 0, slots := 0, locals := 43 } s m [va_rf (some x0), Value.int x1].toArray below meth c D cy A s.heap 2 (QMi below D cy A [va_rf (some x0), Value.int x1] s 0 0 (fun r S => bo r ∧ post r S)) S 0 0 14 [(0, va_rf (some x0)), (1, Value.int x1)] [Value.int s1, va_rf s0] := by
    intro S s0 s1 h
    unfold w_X9_exempt_b14 at h
    obtain ⟨a14, ha15, h⟩ := h
    obtain ⟨hk16, h⟩ := h
    refine G_callVi C hZ (Tf := TX9) (N := 50) hk16 (by decide) rfl tw_6_56 tw_6_58 tw_0_29 tw_1_7 tw_6_59 hy_X9_goes ⟨Nat.le_of_ble_eq_true rfl, Nat.le_of_ble_eq_true rfl⟩ (As := [Value.int s1]) (rest := []) (c_X9_goes l D cy a14 s1 S _ h) rfl (by first | rfl | (simp only [ha15]; rfl) | simp only [ha15]) (by simp [va_cat, vi_cat, vl_cat]) dX9_exempt_14 ⟨Nat.le_of_ble_eq_true rfl, Nat.le_of_ble_eq_true rfl⟩ (fun r18 S17 h => ?_)
    obtain ⟨hb19, h⟩ := h
    refine G_if_ne C (tgt := 22) dX9_exempt_17 (by decide) (fun hc => ?_) (fun hc => ?_)
    · have h := h.1 hc
      refine G_aload_n C (x := (some x0)) 0 dX9_exempt_22 rfl rfl ?_
      obtain ⟨hk20, h⟩ := h
      refine G_get C (CC := RX9) (Tf := TX9) (N := 50) (k := 10) (i := 38) (v := va_rf (gP S17 1038 x0)) hk20 (by decide) rfl (fin fwX9) (by decide) (im tw_5_166) rfl rfl dX9_exempt_23 ?_
      refine G_iload_n C (x := x1) 1 dX9_exempt_26 rfl rfl ?_
      refine G_aload_n C (x := (some x0)) 0 dX9_exempt_27 rfl rfl ?_
      refine G_get C (CC := RX9) (Tf := TX9) (N := 50) (k := 10) (i := 38) (v := va_rf (gP S17 1038 x0)) hk20 (by decide) rfl (fin fwX9) (by decide) (im tw_5_166) rfl rfl dX9_exempt_28 ?_
      refine G_iload_n C (x := x1) 1 dX9_exempt_31 rfl rfl ?_
      obtain ⟨a21, ha22, h⟩ := h
      refine G_rf1 ha22 ?_
      obtain ⟨hk23, h⟩ := h
      obtain ⟨hi24, h⟩ := h
      refine G_zald C hk23 hi24 dX9_exempt_32 ?_
      refine G_if_ne C (tgt := 40) dX9_exempt_33 (by decide) (fun hc => ?_) (fun hc => ?_)
      · have h := h.1 hc
        refine G_iconst C (v := 0) dX9_exempt_40 (by decide) ?_
        refine G_lv C (lv' := [(0, va_rf (some x0)), (1, Value.int x1)]) [0, 1] rfl ?_
        exact J41 _ _ _ _ h
      · have h := h.2 hc
        refine G_iconst C (v := 1) dX9_exempt_36 (by decide) ?_
        refine G_goto C (tgt := 41) dX9_exempt_37 (by decide) ?_
        refine G_lv C (lv' := [(0, va_rf (some x0)), (1, Value.int x1)]) [0, 1] rfl ?_
        exact J41 _ _ _ _ h
    · have h := h.2 hc
      refine G_iconst C (v := 0) dX9_exempt_20 (by decide) ?_
      exact G_zret C (mc := 0) (ms := 0) (post := (fun r S => bo r ∧ post r S)) (bo_nar bo_0) hr (Nat.le_of_ble_eq_true rfl) (Nat.le_of_ble_eq_true rfl) dX9_exempt_21 ⟨bo_0, h⟩
  refine G_lv C (lv' := [(0, va_rf (some x0)), (1, Value.int x1)]) [0, 1] (by first | rfl | simp [lv_pick, lv_args, va_cat, vi_cat, vl_cat]) ?_
  unfold w_X9_exempt at h
  refine G_aload_n C (x := (some x0)) 0 dX9_exempt_0 rfl rfl ?_
  refine G_aload_n C (x := (some x0)) 0 dX9_exempt_1 rfl rfl ?_
  refine G_iload_n C (x := x1) 1 dX9_exempt_2 rfl rfl ?_
  obtain ⟨hk25, h⟩ := h
  refine G_callVi C hZ (Tf := TX9) (N := 50) hk25 (by decide) rfl tw_6_146 tw_6_148 tw_0_41 tw_1_7 tw_6_149 hy_X9_areWorks ⟨Nat.le_of_ble_eq_true rfl, Nat.le_of_ble_eq_true rfl⟩ (As := [Value.int x1]) (rest := [va_rf (some x0)]) (c_X9_areWorks l D cy x0 x1 S _ h) rfl rfl (by simp [va_cat, vi_cat, vl_cat]) dX9_exempt_3 ⟨Nat.le_of_ble_eq_true rfl, Nat.le_of_ble_eq_true rfl⟩ (fun r27 S26 h => ?_)
  obtain ⟨hb28, h⟩ := h
  refine G_if_eq C (tgt := 13) dX9_exempt_6 (by decide) (fun hc => ?_) (fun hc => ?_)
  · have h := h.1 hc
    refine G_iconst C (v := 1) dX9_exempt_13 (by decide) ?_
    refine G_lv C (lv' := [(0, va_rf (some x0)), (1, Value.int x1)]) [0, 1] rfl ?_
    exact J14 _ _ _ h
  · have h := h.2 hc
    refine G_iconst C (v := 0) dX9_exempt_9 (by decide) ?_
    refine G_goto C (tgt := 14) dX9_exempt_10 (by decide) ?_
    refine G_lv C (lv' := [(0, va_rf (some x0)), (1, Value.int x1)]) [0, 1] rfl ?_
    exact J14 _ _ _ h
set_option maxHeartbeats 4000000 in
set_option maxRecDepth 100000 in
theorem c_X9_agree (l : Launch) (D : va_G) (cy : Nat → Nat) (x0 : Nat) (x1 : Int32) (x2 : Int32) (S : PT) (post : Int32 → PT → Prop) (h : w_X9_agree x0 x1 x2 S post) : Mi l yX9_agree (Wm yX9_agree prog_11_method_41_code 4 (Option.some Jvm.ClassFile.FieldType.boolean)) 2 43 D cy [va_rf (some x0), Value.int x1, Value.int x2] S 0 0 (fun r S => bo r ∧ post r S) := by
  refine Mi_of (own := "TrenchboardModel") (by decide) rfl (by first | decide | simp [lg_sl, va_cat, vi_cat, vl_cat]) (fun p e s m below meth c A C hZ hr hin9 => ?_)
  have J58 : ∀ (S : PT) (s0 : Int32), w_X9_agree_b58 x0 x1 x2 post S s0 → G p l e { frames := 2, cells := 0, slots := 0, locals := 43 } s m [va_rf (some x0), Value.int x1, Value.int x2].toArray below meth c D cy A s.heap 4 (QMi below D cy A [va_rf (some x0), Value.int x1, Value.int x2] s 0 0 (fun r S => bo r ∧ post r S)) S 0 0 58 [(0, va_rf (some x0)), (1, Value.int x1), (2, Value.int x2)] [Value.int s0] := by
    intro S s0 h
    unfold w_X9_agree_b58 at h
    refine G_istore_n C (i := 3) (lv' := [(3, Value.int s0), (0, va_rf (some x0)), (1, Value.int x1), (2, Value.int x2)]) dX9_agree_58 rfl (by decide) (by first | rfl | simp [va_cat, vi_cat, vl_cat]) ?_
    refine G_aload_n C (x := (some x0)) 1 dX9_agree_59 rfl rfl ?_
    obtain ⟨hk1, h⟩ := h
    refine G_get C (CC := RX9) (Tf := TX9) (N := 50) (k := 10) (i := 39) (v := va_rf (gP S 1039 x0)) hk1 (by decide) rfl (fin fwX9) (by decide) (im tw_5_167) rfl rfl dX9_agree_60 ?_
    refine G_bipush C (v := 24) dX9_agree_63 (by decide) ?_
    refine G_iload_n C (x := x1) 2 dX9_agree_65 rfl rfl ?_
    refine G_imul C dX9_agree_66 ?_
    refine G_iload_n C (x := x2) 3 dX9_agree_67 rfl rfl ?_
    refine G_iadd C dX9_agree_68 ?_
    refine G_iload_n C (x := s0) 0 dX9_agree_69 rfl rfl ?_
    obtain ⟨a2, ha3, h⟩ := h
    refine G_rf2 ha3 ?_
    obtain ⟨hk4, h⟩ := h
    obtain ⟨hb5, h⟩ := h
    obtain ⟨hi6, h⟩ := h
    refine G_zast C hk4 hb5 hi6 dX9_agree_70 ?_
    generalize e8 : sA S a2 ((((24 * x1) + x2)).toNatClampNeg) s0 = S7
    have h := h S7 e8.symm
    refine G_aload_n C (x := (some x0)) 1 dX9_agree_71 rfl rfl ?_
    refine G_get C (CC := RX9) (Tf := TX9) (N := 50) (k := 10) (i := 39) (v := va_rf (gP S7 1039 x0)) (ksA e8.symm hk1) (by decide) rfl (fin fwX9) (by decide) (im tw_5_167) rfl rfl dX9_agree_72 ?_
    refine G_bipush C (v := 24) dX9_agree_75 (by decide) ?_
    refine G_iload_n C (x := x2) 3 dX9_agree_77 rfl rfl ?_
    refine G_imul C dX9_agree_78 ?_
    refine G_iload_n C (x := x1) 2 dX9_agree_79 rfl rfl ?_
    refine G_iadd C dX9_agree_80 ?_
    refine G_iload_n C (x := s0) 0 dX9_agree_81 rfl rfl ?_
    obtain ⟨a9, ha10, h⟩ := h
    refine G_rf2 ha10 ?_
    obtain ⟨hk11, h⟩ := h
    obtain ⟨hi12, h⟩ := h
    refine G_zast C hk11 hb5 hi12 dX9_agree_82 ?_
    generalize e14 : sA S7 a9 ((((24 * x2) + x1)).toNatClampNeg) s0 = S13
    have h := h S13 e14.symm
    refine G_iload_n C (x := s0) 0 dX9_agree_83 rfl rfl ?_
    exact G_zret C (mc := 0) (ms := 0) (post := (fun r S => bo r ∧ post r S)) (bo_nar hb5) hr (Nat.le_of_ble_eq_true rfl) (Nat.le_of_ble_eq_true rfl) dX9_agree_84 ⟨hb5, h⟩
  have J31 : ∀ (S : PT) (s0 : Option Nat) (s1 : Int32), w_X9_agree_b31 x0 x1 x2 post S s0 s1 → G p l e { frames := 2, cells := 0, slots := 0, locals := 43 } s m [va_rf (some x0), Value.int x1, Value.int x2].toArray below meth c D cy A s.heap 4 (QMi below D cy A [va_rf (some x0), Value.int x1, Value.int x2] s 0 0 (fun r S => bo r ∧ post r S)) S 0 0 31 [(0, va_rf (some x0)), (1, Value.int x1), (2, Value.int x2)] [Value.int s1, va_rf s0] := by
    intro S s0 s1 h
    unfold w_X9_agree_b31 at h
    obtain ⟨a15, ha16, h⟩ := h
    obtain ⟨hk17, h⟩ := h
    refine G_callVi C hZ (Tf := TX9) (N := 50) hk17 (by decide) rfl tw_6_56 tw_6_58 tw_0_29 tw_1_7 tw_6_59 hy_X9_goes ⟨Nat.le_of_ble_eq_true rfl, Nat.le_of_ble_eq_true rfl⟩ (As := [Value.int s1]) (rest := []) (c_X9_goes l D cy a15 s1 S _ h) rfl (by first | rfl | (simp only [ha16]; rfl) | simp only [ha16]) (by simp [va_cat, vi_cat, vl_cat]) dX9_agree_31 ⟨Nat.le_of_ble_eq_true rfl, Nat.le_of_ble_eq_true rfl⟩ (fun r19 S18 h => ?_)
    obtain ⟨hb20, h⟩ := h
    refine G_if_ne C (tgt := 39) dX9_agree_34 (by decide) (fun hc => ?_) (fun hc => ?_)
    · have h := h.1 hc
      refine G_aload_n C (x := (some x0)) 0 dX9_agree_39 rfl rfl ?_
      obtain ⟨hk21, h⟩ := h
      refine G_get C (CC := RX9) (Tf := TX9) (N := 50) (k := 10) (i := 39) (v := va_rf (gP S18 1039 x0)) hk21 (by decide) rfl (fin fwX9) (by decide) (im tw_5_167) rfl rfl dX9_agree_40 ?_
      refine G_bipush C (v := 24) dX9_agree_43 (by decide) ?_
      refine G_iload_n C (x := x1) 1 dX9_agree_45 rfl rfl ?_
      refine G_imul C dX9_agree_46 ?_
      refine G_iload_n C (x := x2) 2 dX9_agree_47 rfl rfl ?_
      refine G_iadd C dX9_agree_48 ?_
      obtain ⟨a22, ha23, h⟩ := h
      refine G_rf1 ha23 ?_
      obtain ⟨hk24, h⟩ := h
      obtain ⟨hi25, h⟩ := h
      refine G_zald C hk24 hi25 dX9_agree_49 ?_
      refine G_if_ne C (tgt := 57) dX9_agree_50 (by decide) (fun hc => ?_) (fun hc => ?_)
      · have h := h.1 hc
        refine G_iconst C (v := 0) dX9_agree_57 (by decide) ?_
        refine G_lv C (lv' := [(0, va_rf (some x0)), (1, Value.int x1), (2, Value.int x2)]) [0, 1, 2] rfl ?_
        exact J58 _ _ h
      · have h := h.2 hc
        refine G_iconst C (v := 1) dX9_agree_53 (by decide) ?_
        refine G_goto C (tgt := 58) dX9_agree_54 (by decide) ?_
        refine G_lv C (lv' := [(0, va_rf (some x0)), (1, Value.int x1), (2, Value.int x2)]) [0, 1, 2] rfl ?_
        exact J58 _ _ h
    · have h := h.2 hc
      refine G_iconst C (v := 0) dX9_agree_37 (by decide) ?_
      exact G_zret C (mc := 0) (ms := 0) (post := (fun r S => bo r ∧ post r S)) (bo_nar bo_0) hr (Nat.le_of_ble_eq_true rfl) (Nat.le_of_ble_eq_true rfl) dX9_agree_38 ⟨bo_0, h⟩
  have J17 : ∀ (S : PT) (s0 : Option Nat), w_X9_agree_b17 x0 x1 x2 post S s0 → G p l e { frames := 2, cells := 0, slots := 0, locals := 43 } s m [va_rf (some x0), Value.int x1, Value.int x2].toArray below meth c D cy A s.heap 4 (QMi below D cy A [va_rf (some x0), Value.int x1, Value.int x2] s 0 0 (fun r S => bo r ∧ post r S)) S 0 0 17 [(0, va_rf (some x0)), (1, Value.int x1), (2, Value.int x2)] [va_rf s0] := by
    intro S s0 h
    unfold w_X9_agree_b17 at h
    refine G_iconst C (v := 1) dX9_agree_17 (by decide) ?_
    refine G_goto C (tgt := 31) dX9_agree_18 (by decide) ?_
    refine G_lv C (lv' := [(0, va_rf (some x0)), (1, Value.int x1), (2, Value.int x2)]) [0, 1, 2] rfl ?_
    exact J31 _ _ _ h
  refine G_lv C (lv' := [(0, va_rf (some x0)), (1, Value.int x1), (2, Value.int x2)]) [0, 1, 2] (by first | rfl | simp [lv_pick, lv_args, va_cat, vi_cat, vl_cat]) ?_
  unfold w_X9_agree at h
  refine G_aload_n C (x := (some x0)) 0 dX9_agree_0 rfl rfl ?_
  refine G_aload_n C (x := (some x0)) 0 dX9_agree_1 rfl rfl ?_
  refine G_iload_n C (x := x1) 1 dX9_agree_2 rfl rfl ?_
  obtain ⟨hk26, h⟩ := h
  refine G_callVi C hZ (Tf := TX9) (N := 50) hk26 (by decide) rfl tw_6_146 tw_6_148 tw_0_41 tw_1_7 tw_6_149 hy_X9_areWorks ⟨Nat.le_of_ble_eq_true rfl, Nat.le_of_ble_eq_true rfl⟩ (As := [Value.int x1]) (rest := [va_rf (some x0)]) (c_X9_areWorks l D cy x0 x1 S _ h) rfl rfl (by simp [va_cat, vi_cat, vl_cat]) dX9_agree_3 ⟨Nat.le_of_ble_eq_true rfl, Nat.le_of_ble_eq_true rfl⟩ (fun r28 S27 h => ?_)
  obtain ⟨hb29, h⟩ := h
  refine G_if_eq C (tgt := 17) dX9_agree_6 (by decide) (fun hc => ?_) (fun hc => ?_)
  · have h := h.1 hc
    refine G_lv C (lv' := [(0, va_rf (some x0)), (1, Value.int x1), (2, Value.int x2)]) [0, 1, 2] rfl ?_
    exact J17 _ _ h
  · have h := h.2 hc
    refine G_aload_n C (x := (some x0)) 0 dX9_agree_9 rfl rfl ?_
    refine G_iload_n C (x := x2) 2 dX9_agree_10 rfl rfl ?_
    obtain ⟨hk30, h⟩ := h
    refine G_callVi C hZ (Tf := TX9) (N := 50) hk30 (by decide) rfl tw_6_146 tw_6_148 tw_0_41 tw_1_7 tw_6_149 hy_X9_areWorks ⟨Nat.le_of_ble_eq_true rfl, Nat.le_of_ble_eq_true rfl⟩ (As := [Value.int x2]) (rest := [va_rf (some x0)]) (c_X9_areWorks l D cy x0 x2 S27 _ h) rfl rfl (by simp [va_cat, vi_cat, vl_cat]) dX9_agree_11 ⟨Nat.le_of_ble_eq_true rfl, Nat.le_of_ble_eq_true rfl⟩ (fun r32 S31 h => ?_)
    obtain ⟨hb33, h⟩ := h
    refine G_if_ne C (tgt := 21) dX9_agree_14 (by decide) (fun hc => ?_) (fun hc => ?_)
    · have h := h.1 hc
      refine G_iload_n C (x := x1) 1 dX9_agree_21 rfl rfl ?_
      refine G_iload_n C (x := x2) 2 dX9_agree_22 rfl rfl ?_
      refine G_icmp_ne C (tgt := 30) dX9_agree_23 (by decide) (fun hc => ?_) (fun hc => ?_)
      · have h := h.1 hc
        refine G_iconst C (v := 0) dX9_agree_30 (by decide) ?_
        refine G_lv C (lv' := [(0, va_rf (some x0)), (1, Value.int x1), (2, Value.int x2)]) [0, 1, 2] rfl ?_
        exact J31 _ _ _ h
      · have h := h.2 hc
        refine G_iconst C (v := 2) dX9_agree_26 (by decide) ?_
        refine G_goto C (tgt := 31) dX9_agree_27 (by decide) ?_
        refine G_lv C (lv' := [(0, va_rf (some x0)), (1, Value.int x1), (2, Value.int x2)]) [0, 1, 2] rfl ?_
        exact J31 _ _ _ h
    · have h := h.2 hc
      refine G_lv C (lv' := [(0, va_rf (some x0)), (1, Value.int x1), (2, Value.int x2)]) [0, 1, 2] rfl ?_
      exact J17 _ _ h
set_option maxHeartbeats 4000000 in
set_option maxRecDepth 100000 in
theorem c_X9_start (l : Launch) (D : va_G) (cy : Nat → Nat) (x0 : Nat) (x1 : Int32) (S : PT) (post : Int32 → PT → Prop) (h : w_X9_start x0 x1 S post) : Mi l yX9_start (Wm yX9_start prog_11_method_42_code 3 (Option.some Jvm.ClassFile.FieldType.int)) 2 43 D cy [va_rf (some x0), Value.int x1] S 0 0 post := by
  refine Mi_of (own := "TrenchboardModel") (by decide) rfl (by first | decide | simp [lg_sl, va_cat, vi_cat, vl_cat]) (fun p e s m below meth c A C hZ hr hin9 => ?_)
  have J51 : ∀ (S : PT) (s0 : Option Nat) (s1 : Int32), w_X9_start_b51 x0 x1 post S s0 s1 → G p l e { frames := 2, cells := 0, slots := 0, locals := 43 } s m [va_rf (some x0), Value.int x1].toArray below meth c D cy A s.heap 3 (QMi below D cy A [va_rf (some x0), Value.int x1] s 0 0 post) S 0 0 51 [(0, va_rf (some x0)), (1, Value.int x1)] [Value.int s1, va_rf s0] := by
    intro S s0 s1 h
    unfold w_X9_start_b51 at h
    obtain ⟨a1, ha2, h⟩ := h
    obtain ⟨hk3, h⟩ := h
    refine G_callVi C hZ (Tf := TX9) (N := 50) hk3 (by decide) rfl tw_6_56 tw_6_58 tw_0_29 tw_1_7 tw_6_59 hy_X9_goes ⟨Nat.le_of_ble_eq_true rfl, Nat.le_of_ble_eq_true rfl⟩ (As := [Value.int s1]) (rest := []) (c_X9_goes l D cy a1 s1 S _ h) rfl (by first | rfl | (simp only [ha2]; rfl) | simp only [ha2]) (by simp [va_cat, vi_cat, vl_cat]) dX9_start_51 ⟨Nat.le_of_ble_eq_true rfl, Nat.le_of_ble_eq_true rfl⟩ (fun r5 S4 h => ?_)
    obtain ⟨hb6, h⟩ := h
    refine G_if_ne C (tgt := 59) dX9_start_54 (by decide) (fun hc => ?_) (fun hc => ?_)
    · have h := h.1 hc
      refine G_aload_n C (x := (some x0)) 0 dX9_start_59 rfl rfl ?_
      obtain ⟨hk7, h⟩ := h
      refine G_get C (CC := RX9) (Tf := TX9) (N := 50) (k := 10) (i := 33) (v := va_rf (gP S4 1033 x0)) hk7 (by decide) rfl (fin fwX9) (by decide) (im tw_5_161) rfl rfl dX9_start_60 ?_
      refine G_iload_n C (x := x1) 1 dX9_start_63 rfl rfl ?_
      refine G_iconst C (v := 3) dX9_start_64 (by decide) ?_
      obtain ⟨a8, ha9, h⟩ := h
      refine G_rf2 ha9 ?_
      obtain ⟨hk10, h⟩ := h
      obtain ⟨hi11, h⟩ := h
      refine G_iast C hk10 hi11 dX9_start_65 ?_
      generalize e13 : sA S4 a8 ((x1).toNatClampNeg) 3 = S12
      have h := h S12 e13.symm
      refine G_aload_n C (x := (some x0)) 0 dX9_start_66 rfl rfl ?_
      refine G_iload_n C (x := x1) 1 dX9_start_67 rfl rfl ?_
      refine G_callVi C hZ (Tf := TX9) (N := 50) (ksA e13.symm hk7) (by decide) rfl tw_6_84 tw_6_86 tw_0_34 tw_1_7 tw_6_87 hy_X9_lastDay ⟨Nat.le_of_ble_eq_true rfl, Nat.le_of_ble_eq_true rfl⟩ (As := [Value.int x1]) (rest := []) (c_X9_lastDay l D cy x0 x1 S12 _ h) rfl rfl (by simp [va_cat, vi_cat, vl_cat]) dX9_start_68 ⟨Nat.le_of_ble_eq_true rfl, Nat.le_of_ble_eq_true rfl⟩ (fun r15 S14 h => ?_)
      exact G_iret C (mc := 0) (ms := 0) (post := post) hr (Nat.le_of_ble_eq_true rfl) (Nat.le_of_ble_eq_true rfl) dX9_start_71 h
    · have h := h.2 hc
      refine G_iconst C (v := 0) dX9_start_57 (by decide) ?_
      exact G_iret C (mc := 0) (ms := 0) (post := post) hr (Nat.le_of_ble_eq_true rfl) (Nat.le_of_ble_eq_true rfl) dX9_start_58 h
  have J46 : ∀ (S : PT) (s0 : Option Nat), w_X9_start_b46 x0 x1 post S s0 → G p l e { frames := 2, cells := 0, slots := 0, locals := 43 } s m [va_rf (some x0), Value.int x1].toArray below meth c D cy A s.heap 3 (QMi below D cy A [va_rf (some x0), Value.int x1] s 0 0 post) S 0 0 46 [(0, va_rf (some x0)), (1, Value.int x1)] [va_rf s0] := by
    intro S s0 h
    unfold w_X9_start_b46 at h
    refine G_iconst C (v := 2) dX9_start_46 (by decide) ?_
    refine G_goto C (tgt := 51) dX9_start_47 (by decide) ?_
    refine G_lv C (lv' := [(0, va_rf (some x0)), (1, Value.int x1)]) [0, 1] rfl ?_
    exact J51 _ _ _ h
  refine G_lv C (lv' := [(0, va_rf (some x0)), (1, Value.int x1)]) [0, 1] (by first | rfl | simp [lv_pick, lv_args, va_cat, vi_cat, vl_cat]) ?_
  unfold w_X9_start at h
  refine G_aload_n C (x := (some x0)) 0 dX9_start_0 rfl rfl ?_
  refine G_iload_n C (x := x1) 1 dX9_start_1 rfl rfl ?_
  obtain ⟨hk16, h⟩ := h
  refine G_callVi C hZ (Tf := TX9) (N := 50) hk16 (by decide) rfl tw_6_146 tw_6_148 tw_0_41 tw_1_7 tw_6_149 hy_X9_areWorks ⟨Nat.le_of_ble_eq_true rfl, Nat.le_of_ble_eq_true rfl⟩ (As := [Value.int x1]) (rest := []) (c_X9_areWorks l D cy x0 x1 S _ h) rfl rfl (by simp [va_cat, vi_cat, vl_cat]) dX9_start_2 ⟨Nat.le_of_ble_eq_true rfl, Nat.le_of_ble_eq_true rfl⟩ (fun r18 S17 h => ?_)
  obtain ⟨hb19, h⟩ := h
  refine G_istore_n C (i := 2) (lv' := [(2, Value.int r18), (0, va_rf (some x0)), (1, Value.int x1)]) dX9_start_5 rfl (by decide) (by first | rfl | simp [va_cat, vi_cat, vl_cat]) ?_
  refine G_aload_n C (x := (some x0)) 1 dX9_start_6 rfl rfl ?_
  refine G_iload_n C (x := r18) 0 dX9_start_7 rfl rfl ?_
  refine G_if_ne C (tgt := 15) dX9_start_8 (by decide) (fun hc => ?_) (fun hc => ?_)
  · have h := h.1 hc
    refine G_aload_n C (x := (some x0)) 1 dX9_start_15 rfl rfl ?_
    obtain ⟨hk20, h⟩ := h
    refine G_get C (CC := RX9) (Tf := TX9) (N := 50) (k := 10) (i := 33) (v := va_rf (gP S17 1033 x0)) hk20 (by decide) rfl (fin fwX9) (by decide) (im tw_5_161) rfl rfl dX9_start_16 ?_
    refine G_iload_n C (x := x1) 2 dX9_start_19 rfl rfl ?_
    obtain ⟨a21, ha22, h⟩ := h
    refine G_rf1 ha22 ?_
    obtain ⟨hk23, h⟩ := h
    obtain ⟨hi24, h⟩ := h
    refine G_iald C hk23 hi24 dX9_start_20 ?_
    refine G_iconst C (v := 1) dX9_start_21 (by decide) ?_
    refine G_icmp_ne C (tgt := 46) dX9_start_22 (by decide) (fun hc => ?_) (fun hc => ?_)
    · have h := h.1 hc
      refine G_lv C (lv' := [(0, va_rf (some x0)), (1, Value.int x1)]) [1, 2] rfl ?_
      exact J46 _ _ h
    · have h := h.2 hc
      refine G_aload_n C (x := (some x0)) 1 dX9_start_25 rfl rfl ?_
      refine G_callVi C hZ (Tf := TX9) (N := 50) hk20 (by decide) rfl tw_6_68 tw_6_70 tw_0_31 tw_1_7 tw_6_71 hy_X9_today ⟨Nat.le_of_ble_eq_true rfl, Nat.le_of_ble_eq_true rfl⟩ (As := []) (rest := [va_rf (some x0)]) (c_X9_today l D cy x0 S17 _ h) rfl rfl (by simp [va_cat, vi_cat, vl_cat]) dX9_start_26 ⟨Nat.le_of_ble_eq_true rfl, Nat.le_of_ble_eq_true rfl⟩ (fun r26 S25 h => ?_)
      refine G_aload_n C (x := (some x0)) 1 dX9_start_29 rfl rfl ?_
      obtain ⟨hk27, h⟩ := h
      refine G_get C (CC := RX9) (Tf := TX9) (N := 50) (k := 10) (i := 30) (v := va_rf (gP S25 1030 x0)) hk27 (by decide) rfl (fin fwX9) (by decide) (im tw_5_158) rfl rfl dX9_start_30 ?_
      refine G_iload_n C (x := x1) 2 dX9_start_33 rfl rfl ?_
      obtain ⟨a28, ha29, h⟩ := h
      refine G_rf1 ha29 ?_
      obtain ⟨hk30, h⟩ := h
      obtain ⟨hi31, h⟩ := h
      refine G_iald C hk30 hi31 dX9_start_34 ?_
      refine G_aload_n C (x := (some x0)) 1 dX9_start_35 rfl rfl ?_
      refine G_iload_n C (x := x1) 2 dX9_start_36 rfl rfl ?_
      refine G_callVi C hZ (Tf := TX9) (N := 50) hk27 (by decide) rfl tw_6_84 tw_6_86 tw_0_34 tw_1_7 tw_6_87 hy_X9_lastDay ⟨Nat.le_of_ble_eq_true rfl, Nat.le_of_ble_eq_true rfl⟩ (As := [Value.int x1]) (rest := [Value.int (gA S25 a28 x1.toNatClampNeg), Value.int r26, va_rf (some x0)]) (c_X9_lastDay l D cy x0 x1 S25 _ h) rfl rfl (by simp [va_cat, vi_cat, vl_cat]) dX9_start_37 ⟨Nat.le_of_ble_eq_true rfl, Nat.le_of_ble_eq_true rfl⟩ (fun r33 S32 h => ?_)
      refine G_callSi C hZ tw_6_49 tw_6_50 tw_1_7 tw_6_51 hy_X9_isIn ⟨Nat.le_of_ble_eq_true rfl, Nat.le_of_ble_eq_true rfl⟩ (As := [Value.int r26, Value.int (gA S25 a28 x1.toNatClampNeg), Value.int r33]) (rest := [va_rf (some x0)]) (c_X9_isIn l D cy r26 (gA S25 a28 x1.toNatClampNeg) r33 S32 _ h) rfl rfl (by simp [va_cat, vi_cat, vl_cat]) dX9_start_40 ⟨Nat.le_of_ble_eq_true rfl, Nat.le_of_ble_eq_true rfl⟩ (fun r35 S34 h => ?_)
      obtain ⟨hb36, h⟩ := h
      refine G_if_ne C (tgt := 50) dX9_start_43 (by decide) (fun hc => ?_) (fun hc => ?_)
      · have h := h.1 hc
        refine G_iconst C (v := 0) dX9_start_50 (by decide) ?_
        refine G_lv C (lv' := [(0, va_rf (some x0)), (1, Value.int x1)]) [1, 2] rfl ?_
        exact J51 _ _ _ h
      · have h := h.2 hc
        refine G_lv C (lv' := [(0, va_rf (some x0)), (1, Value.int x1)]) [1, 2] rfl ?_
        exact J46 _ _ h
  · have h := h.2 hc
    refine G_iconst C (v := 1) dX9_start_11 (by decide) ?_
    refine G_goto C (tgt := 51) dX9_start_12 (by decide) ?_
    refine G_lv C (lv' := [(0, va_rf (some x0)), (1, Value.int x1)]) [1, 2] rfl ?_
    exact J51 _ _ _ h
set_option maxHeartbeats 4000000 in
set_option maxRecDepth 100000 in
theorem c_X9_isSuspect (l : Launch) (D : va_G) (cy : Nat → Nat) (x0 : Nat) (x1 : Int32) (x2 : Int32) (S : PT) (post : Int32 → PT → Prop) (h : w_X9_isSuspect x0 x1 x2 S post) : Mi l yX9_isSuspect (Wm yX9_isSuspect prog_11_method_43_code 5 (Option.some Jvm.ClassFile.FieldType.boolean)) 2 45 D cy [va_rf (some x0), Value.int x1, Value.int x2] S 0 0 (fun r S => bo r ∧ post r S) := by
  refine Mi_of (own := "TrenchboardModel") (by decide) rfl (by first | decide | simp [lg_sl, va_cat, vi_cat, vl_cat]) (fun p e s m below meth c A C hZ hr hin9 => ?_)
  have J5 : ∀ (n : Nat) (S : PT) (v3 : Int32) (v4 : Int32), w_X9_isSuspect_l5 x0 x1 x2 post n S v3 v4 → G p l e { frames := 2, cells := 0, slots := 0, locals := 45 } s m [va_rf (some x0), Value.int x1, Value.int x2].toArray below meth c D cy A s.heap 5 (QMi below D cy A [va_rf (some x0), Value.int x1, Value.int x2] s 0 0 (fun r S => bo r ∧ post r S)) S 0 0 5 [(0, va_rf (some x0)), (1, Value.int x1), (2, Value.int x2), (3, Value.int v3), (4, Value.int v4)] [] := by
    intro n5
    induction n5 with
    | zero => intro S v3 v4 h; rw [w_X9_isSuspect_l5] at h; exact False.elim h
    | succ n5 K5 =>
      have J34 : ∀ (S : PT) (v4 : Int32) (s0 : Int32), w_X9_isSuspect_b34 x0 x1 x2 post (w_X9_isSuspect_l5 x0 x1 x2 post n5) S v4 s0 → G p l e { frames := 2, cells := 0, slots := 0, locals := 45 } s m [va_rf (some x0), Value.int x1, Value.int x2].toArray below meth c D cy A s.heap 5 (QMi below D cy A [va_rf (some x0), Value.int x1, Value.int x2] s 0 0 (fun r S => bo r ∧ post r S)) S 0 0 34 [(0, va_rf (some x0)), (1, Value.int x1), (2, Value.int x2), (4, Value.int v4)] [Value.int s0] := by
        intro S v4 s0 h
        unfold w_X9_isSuspect_b34 at h
        refine G_istore_n C (i := 3) (lv' := [(3, Value.int s0), (0, va_rf (some x0)), (1, Value.int x1), (2, Value.int x2), (4, Value.int v4)]) dX9_isSuspect_34 rfl (by decide) (by first | rfl | simp [va_cat, vi_cat, vl_cat]) ?_
        refine G_iinc C (v := (v4 + 1)) (lv' := [(4, Value.int (v4 + 1)), (3, Value.int s0), (0, va_rf (some x0)), (1, Value.int x1), (2, Value.int x2)]) 4 dX9_isSuspect_35 rfl rfl (by decide) (by first | rfl | simp [va_cat, vi_cat, vl_cat]) ?_
        refine G_goto C (tgt := 5) dX9_isSuspect_38 (by decide) ?_
        refine G_lv C (lv' := [(0, va_rf (some x0)), (1, Value.int x1), (2, Value.int x2), (3, Value.int s0), (4, Value.int (v4 + 1))]) [2, 3, 4, 1, 0] rfl ?_
        exact K5 _ _ _ h
      have J29 : ∀ (S : PT) (v4 : Int32), w_X9_isSuspect_b29 x0 x1 x2 post (w_X9_isSuspect_l5 x0 x1 x2 post n5) S v4 → G p l e { frames := 2, cells := 0, slots := 0, locals := 45 } s m [va_rf (some x0), Value.int x1, Value.int x2].toArray below meth c D cy A s.heap 5 (QMi below D cy A [va_rf (some x0), Value.int x1, Value.int x2] s 0 0 (fun r S => bo r ∧ post r S)) S 0 0 29 [(0, va_rf (some x0)), (1, Value.int x1), (2, Value.int x2), (4, Value.int v4)] [] := by
        intro S v4 h
        unfold w_X9_isSuspect_b29 at h
        refine G_iconst C (v := 1) dX9_isSuspect_29 (by decide) ?_
        refine G_goto C (tgt := 34) dX9_isSuspect_30 (by decide) ?_
        refine G_lv C (lv' := [(0, va_rf (some x0)), (1, Value.int x1), (2, Value.int x2), (4, Value.int v4)]) [0, 1, 2, 3] rfl ?_
        exact J34 _ _ _ h
      intro S v3 v4 h
      rw [w_X9_isSuspect_l5] at h
      refine G_iload C (x := v4) 4 dX9_isSuspect_5 rfl ?_
      refine G_aload_n C (x := (some x0)) 0 dX9_isSuspect_7 rfl rfl ?_
      obtain ⟨hk1, h⟩ := h
      refine G_get C (CC := RX9) (Tf := TX9) (N := 50) (k := 10) (i := 14) (v := Value.int (gI S 1014 x0)) hk1 (by decide) rfl (fin fwX9) (by decide) (im tw_5_142) rfl rfl dX9_isSuspect_8 ?_
      refine G_icmp_ge C (tgt := 41) dX9_isSuspect_11 (by decide) (fun hc => ?_) (fun hc => ?_)
      · have h := h.1 hc
        refine G_iload_n C (x := v3) 3 dX9_isSuspect_41 rfl rfl ?_
        obtain ⟨hb2, h⟩ := h
        exact G_zret C (mc := 0) (ms := 0) (post := (fun r S => bo r ∧ post r S)) (bo_nar hb2) hr (Nat.le_of_ble_eq_true rfl) (Nat.le_of_ble_eq_true rfl) dX9_isSuspect_42 ⟨hb2, h⟩
      · have h := h.2 hc
        refine G_iload_n C (x := v3) 3 dX9_isSuspect_14 rfl rfl ?_
        refine G_if_ne C (tgt := 29) dX9_isSuspect_15 (by decide) (fun hc => ?_) (fun hc => ?_)
        · have h := h.1 hc
          refine G_lv C (lv' := [(0, va_rf (some x0)), (1, Value.int x1), (2, Value.int x2), (4, Value.int v4)]) [0, 1, 2, 4] rfl ?_
          exact J29 _ _ h
        · have h := h.2 hc
          refine G_aload_n C (x := (some x0)) 0 dX9_isSuspect_18 rfl rfl ?_
          refine G_iload C (x := v4) 4 dX9_isSuspect_19 rfl ?_
          refine G_iload_n C (x := x1) 1 dX9_isSuspect_21 rfl rfl ?_
          refine G_iload_n C (x := x2) 2 dX9_isSuspect_22 rfl rfl ?_
          refine G_callVi C hZ (Tf := TX9) (N := 50) hk1 (by decide) rfl tw_6_115 tw_6_117 tw_0_39 tw_1_7 tw_6_118 hy_X9_isSuspectBy ⟨Nat.le_of_ble_eq_true rfl, Nat.le_of_ble_eq_true rfl⟩ (As := [Value.int v4, Value.int x1, Value.int x2]) (rest := []) (c_X9_isSuspectBy l D cy x0 v4 x1 x2 S _ h) rfl rfl (by simp [va_cat, vi_cat, vl_cat]) dX9_isSuspect_23 ⟨Nat.le_of_ble_eq_true rfl, Nat.le_of_ble_eq_true rfl⟩ (fun r4 S3 h => ?_)
          obtain ⟨hb5, h⟩ := h
          refine G_if_eq C (tgt := 33) dX9_isSuspect_26 (by decide) (fun hc => ?_) (fun hc => ?_)
          · have h := h.1 hc
            refine G_iconst C (v := 0) dX9_isSuspect_33 (by decide) ?_
            refine G_lv C (lv' := [(0, va_rf (some x0)), (1, Value.int x1), (2, Value.int x2), (4, Value.int v4)]) [0, 1, 2, 4] rfl ?_
            exact J34 _ _ _ h
          · have h := h.2 hc
            refine G_lv C (lv' := [(0, va_rf (some x0)), (1, Value.int x1), (2, Value.int x2), (4, Value.int v4)]) [0, 1, 2, 4] rfl ?_
            exact J29 _ _ h
  refine G_lv C (lv' := [(0, va_rf (some x0)), (1, Value.int x1), (2, Value.int x2)]) [0, 1, 2] (by first | rfl | simp [lv_pick, lv_args, va_cat, vi_cat, vl_cat]) ?_
  unfold w_X9_isSuspect at h
  refine G_iconst C (v := 0) dX9_isSuspect_0 (by decide) ?_
  refine G_istore_n C (i := 3) (lv' := [(3, Value.int 0), (0, va_rf (some x0)), (1, Value.int x1), (2, Value.int x2)]) dX9_isSuspect_1 rfl (by decide) (by first | rfl | simp [va_cat, vi_cat, vl_cat]) ?_
  refine G_iconst C (v := 0) dX9_isSuspect_2 (by decide) ?_
  refine G_istore C (i := 4) (lv' := [(4, Value.int 0), (3, Value.int 0), (0, va_rf (some x0)), (1, Value.int x1), (2, Value.int x2)]) dX9_isSuspect_3 (by decide) (by first | rfl | simp [va_cat, vi_cat, vl_cat]) ?_
  refine G_lv C (lv' := [(0, va_rf (some x0)), (1, Value.int x1), (2, Value.int x2), (3, Value.int 0), (4, Value.int 0)]) [2, 3, 4, 1, 0] rfl ?_
  obtain ⟨n9, h⟩ := h
  exact J5 n9 _ _ _ h
set_option maxHeartbeats 4000000 in
set_option maxRecDepth 100000 in
theorem c_X9_isOff (l : Launch) (D : va_G) (cy : Nat → Nat) (x0 : Nat) (x1 : Int32) (x2 : Int32) (S : PT) (post : Int32 → PT → Prop) (h : w_X9_isOff x0 x1 x2 S post) : Mi l yX9_isOff (Wm yX9_isOff prog_11_method_44_code 5 (Option.some Jvm.ClassFile.FieldType.boolean)) 3 69 D cy [va_rf (some x0), Value.int x1, Value.int x2] S 0 0 (fun r S => bo r ∧ post r S) := by
  refine Mi_of (own := "TrenchboardModel") (by decide) rfl (by first | decide | simp [lg_sl, va_cat, vi_cat, vl_cat]) (fun p e s m below meth c A C hZ hr hin9 => ?_)
  have J99 : ∀ (S : PT) (s0 : Int32), w_X9_isOff_b99 x0 x1 x2 post S s0 → G p l e { frames := 3, cells := 0, slots := 0, locals := 69 } s m [va_rf (some x0), Value.int x1, Value.int x2].toArray below meth c D cy A s.heap 5 (QMi below D cy A [va_rf (some x0), Value.int x1, Value.int x2] s 0 0 (fun r S => bo r ∧ post r S)) S 0 0 99 [] [Value.int s0] := by
    intro S s0 h
    unfold w_X9_isOff_b99 at h
    obtain ⟨hb1, h⟩ := h
    exact G_zret C (mc := 0) (ms := 0) (post := (fun r S => bo r ∧ post r S)) (bo_nar hb1) hr (Nat.le_of_ble_eq_true rfl) (Nat.le_of_ble_eq_true rfl) dX9_isOff_99 ⟨hb1, h⟩
  have J94 : ∀ (S : PT), w_X9_isOff_b94 x0 x1 x2 post S → G p l e { frames := 3, cells := 0, slots := 0, locals := 69 } s m [va_rf (some x0), Value.int x1, Value.int x2].toArray below meth c D cy A s.heap 5 (QMi below D cy A [va_rf (some x0), Value.int x1, Value.int x2] s 0 0 (fun r S => bo r ∧ post r S)) S 0 0 94 [] [] := by
    intro S h
    unfold w_X9_isOff_b94 at h
    refine G_iconst C (v := 1) dX9_isOff_94 (by decide) ?_
    refine G_goto C (tgt := 99) dX9_isOff_95 (by decide) ?_
    refine G_lv C (lv' := []) [] rfl ?_
    exact J99 _ _ h
  have J98 : ∀ (S : PT), w_X9_isOff_b98 x0 x1 x2 post S → G p l e { frames := 3, cells := 0, slots := 0, locals := 69 } s m [va_rf (some x0), Value.int x1, Value.int x2].toArray below meth c D cy A s.heap 5 (QMi below D cy A [va_rf (some x0), Value.int x1, Value.int x2] s 0 0 (fun r S => bo r ∧ post r S)) S 0 0 98 [] [] := by
    intro S h
    unfold w_X9_isOff_b98 at h
    refine G_iconst C (v := 0) dX9_isOff_98 (by decide) ?_
    refine G_lv C (lv' := []) [] rfl ?_
    exact J99 _ _ h
  have J35 : ∀ (S : PT) (v3 : Int32) (s0 : Int32), w_X9_isOff_b35 x0 x1 x2 post S v3 s0 → G p l e { frames := 3, cells := 0, slots := 0, locals := 69 } s m [va_rf (some x0), Value.int x1, Value.int x2].toArray below meth c D cy A s.heap 5 (QMi below D cy A [va_rf (some x0), Value.int x1, Value.int x2] s 0 0 (fun r S => bo r ∧ post r S)) S 0 0 35 [(0, va_rf (some x0)), (1, Value.int x1), (2, Value.int x2), (3, Value.int v3)] [Value.int s0] := by
    intro S v3 s0 h
    unfold w_X9_isOff_b35 at h
    refine G_istore C (i := 4) (lv' := [(4, Value.int s0), (0, va_rf (some x0)), (1, Value.int x1), (2, Value.int x2), (3, Value.int v3)]) dX9_isOff_35 (by decide) (by first | rfl | simp [va_cat, vi_cat, vl_cat]) ?_
    refine G_aload_n C (x := (some x0)) 1 dX9_isOff_37 rfl rfl ?_
    obtain ⟨hk2, h⟩ := h
    refine G_get C (CC := RX9) (Tf := TX9) (N := 50) (k := 10) (i := 33) (v := va_rf (gP S 1033 x0)) hk2 (by decide) rfl (fin fwX9) (by decide) (im tw_5_161) rfl rfl dX9_isOff_38 ?_
    refine G_iload_n C (x := x1) 2 dX9_isOff_41 rfl rfl ?_
    obtain ⟨a3, ha4, h⟩ := h
    refine G_rf1 ha4 ?_
    obtain ⟨hk5, h⟩ := h
    obtain ⟨hi6, h⟩ := h
    refine G_iald C hk5 hi6 dX9_isOff_42 ?_
    refine G_iconst C (v := 3) dX9_isOff_43 (by decide) ?_
    refine G_icmp_ne C (tgt := 94) dX9_isOff_44 (by decide) (fun hc => ?_) (fun hc => ?_)
    · have h := h.1 hc
      refine G_lv C (lv' := []) [] rfl ?_
      exact J94 _ h
    · have h := h.2 hc
      refine G_aload_n C (x := (some x0)) 1 dX9_isOff_47 rfl rfl ?_
      refine G_get C (CC := RX9) (Tf := TX9) (N := 50) (k := 10) (i := 37) (v := va_rf (gP S 1037 x0)) hk2 (by decide) rfl (fin fwX9) (by decide) (im tw_5_165) rfl rfl dX9_isOff_48 ?_
      refine G_iload_n C (x := x1) 2 dX9_isOff_51 rfl rfl ?_
      obtain ⟨a7, ha8, h⟩ := h
      refine G_rf1 ha8 ?_
      obtain ⟨hk9, h⟩ := h
      obtain ⟨hi10, h⟩ := h
      refine G_zald C hk9 hi10 dX9_isOff_52 ?_
      refine G_if_ne C (tgt := 94) dX9_isOff_53 (by decide) (fun hc => ?_) (fun hc => ?_)
      · have h := h.1 hc
        refine G_lv C (lv' := []) [] rfl ?_
        exact J94 _ h
      · have h := h.2 hc
        refine G_iload C (x := s0) 0 dX9_isOff_56 rfl ?_
        refine G_if_ne C (tgt := 94) dX9_isOff_58 (by decide) (fun hc => ?_) (fun hc => ?_)
        · have h := h.1 hc
          refine G_lv C (lv' := []) [] rfl ?_
          exact J94 _ h
        · have h := h.2 hc
          refine G_aload_n C (x := (some x0)) 1 dX9_isOff_61 rfl rfl ?_
          refine G_get C (CC := RX9) (Tf := TX9) (N := 50) (k := 10) (i := 13) (v := va_rf (gP S 1013 x0)) hk2 (by decide) rfl (fin fwX9) (by decide) (im tw_5_141) rfl rfl dX9_isOff_62 ?_
          refine G_iload_n C (x := v3) 4 dX9_isOff_65 rfl rfl ?_
          obtain ⟨a11, ha12, h⟩ := h
          refine G_rf1 ha12 ?_
          obtain ⟨hk13, h⟩ := h
          obtain ⟨hi14, h⟩ := h
          refine G_iald C hk13 hi14 dX9_isOff_66 ?_
          refine G_iconst C (v := (-1)) dX9_isOff_67 (by decide) ?_
          refine G_icmp_ne C (tgt := 94) dX9_isOff_68 (by decide) (fun hc => ?_) (fun hc => ?_)
          · have h := h.1 hc
            refine G_lv C (lv' := []) [] rfl ?_
            exact J94 _ h
          · have h := h.2 hc
            refine G_aload_n C (x := (some x0)) 1 dX9_isOff_71 rfl rfl ?_
            refine G_get C (CC := RX9) (Tf := TX9) (N := 50) (k := 10) (i := 12) (v := va_rf (gP S 1012 x0)) hk2 (by decide) rfl (fin fwX9) (by decide) (im tw_5_140) rfl rfl dX9_isOff_72 ?_
            refine G_iload_n C (x := v3) 4 dX9_isOff_75 rfl rfl ?_
            obtain ⟨a15, ha16, h⟩ := h
            refine G_rf1 ha16 ?_
            obtain ⟨hk17, h⟩ := h
            obtain ⟨hi18, h⟩ := h
            refine G_zald C hk17 hi18 dX9_isOff_76 ?_
            refine G_if_ne C (tgt := 98) dX9_isOff_77 (by decide) (fun hc => ?_) (fun hc => ?_)
            · have h := h.1 hc
              refine G_lv C (lv' := []) [] rfl ?_
              exact J98 _ h
            · have h := h.2 hc
              refine G_aload_n C (x := (some x0)) 1 dX9_isOff_80 rfl rfl ?_
              refine G_aload_n C (x := (some x0)) 1 dX9_isOff_81 rfl rfl ?_
              refine G_get C (CC := RX9) (Tf := TX9) (N := 50) (k := 10) (i := 25) (v := va_rf (gP S 1025 x0)) hk2 (by decide) rfl (fin fwX9) (by decide) (im tw_5_153) rfl rfl dX9_isOff_82 ?_
              refine G_iload_n C (x := x1) 2 dX9_isOff_85 rfl rfl ?_
              obtain ⟨a19, ha20, h⟩ := h
              refine G_rf1 ha20 ?_
              obtain ⟨hk21, h⟩ := h
              obtain ⟨hi22, h⟩ := h
              refine G_iald C hk21 hi22 dX9_isOff_86 ?_
              refine G_iload_n C (x := x2) 3 dX9_isOff_87 rfl rfl ?_
              refine G_callVi C hZ (Tf := TX9) (N := 50) hk2 (by decide) rfl tw_6_214 tw_6_216 tw_0_52 tw_1_7 tw_6_217 hy_X9_isSuspect ⟨Nat.le_of_ble_eq_true rfl, Nat.le_of_ble_eq_true rfl⟩ (As := [Value.int (gA S a19 x1.toNatClampNeg), Value.int x2]) (rest := []) (c_X9_isSuspect l D cy x0 (gA S a19 x1.toNatClampNeg) x2 S _ h) rfl rfl (by simp [va_cat, vi_cat, vl_cat]) dX9_isOff_88 ⟨Nat.le_of_ble_eq_true rfl, Nat.le_of_ble_eq_true rfl⟩ (fun r24 S23 h => ?_)
              obtain ⟨hb25, h⟩ := h
              refine G_if_eq C (tgt := 98) dX9_isOff_91 (by decide) (fun hc => ?_) (fun hc => ?_)
              · have h := h.1 hc
                refine G_lv C (lv' := []) [] rfl ?_
                exact J98 _ h
              · have h := h.2 hc
                refine G_lv C (lv' := []) [] rfl ?_
                exact J94 _ h
  have J34 : ∀ (S : PT) (v3 : Int32), w_X9_isOff_b34 x0 x1 x2 post S v3 → G p l e { frames := 3, cells := 0, slots := 0, locals := 69 } s m [va_rf (some x0), Value.int x1, Value.int x2].toArray below meth c D cy A s.heap 5 (QMi below D cy A [va_rf (some x0), Value.int x1, Value.int x2] s 0 0 (fun r S => bo r ∧ post r S)) S 0 0 34 [(0, va_rf (some x0)), (1, Value.int x1), (2, Value.int x2), (3, Value.int v3)] [] := by
    intro S v3 h
    unfold w_X9_isOff_b34 at h
    refine G_iconst C (v := 0) dX9_isOff_34 (by decide) ?_
    refine G_lv C (lv' := [(0, va_rf (some x0)), (1, Value.int x1), (2, Value.int x2), (3, Value.int v3)]) [0, 1, 2, 3] rfl ?_
    exact J35 _ _ _ h
  refine G_lv C (lv' := [(0, va_rf (some x0)), (1, Value.int x1), (2, Value.int x2)]) [0, 1, 2] (by first | rfl | simp [lv_pick, lv_args, va_cat, vi_cat, vl_cat]) ?_
  unfold w_X9_isOff at h
  refine G_bipush C (v := 40) dX9_isOff_0 (by decide) ?_
  refine G_aload_n C (x := (some x0)) 0 dX9_isOff_2 rfl rfl ?_
  obtain ⟨hk26, h⟩ := h
  refine G_get C (CC := RX9) (Tf := TX9) (N := 50) (k := 10) (i := 25) (v := va_rf (gP S 1025 x0)) hk26 (by decide) rfl (fin fwX9) (by decide) (im tw_5_153) rfl rfl dX9_isOff_3 ?_
  refine G_iload_n C (x := x1) 1 dX9_isOff_6 rfl rfl ?_
  obtain ⟨a27, ha28, h⟩ := h
  refine G_rf1 ha28 ?_
  obtain ⟨hk29, h⟩ := h
  obtain ⟨hi30, h⟩ := h
  refine G_iald C hk29 hi30 dX9_isOff_7 ?_
  refine G_imul C dX9_isOff_8 ?_
  refine G_iload_n C (x := x2) 2 dX9_isOff_9 rfl rfl ?_
  refine G_iadd C dX9_isOff_10 ?_
  refine G_istore_n C (i := 3) (lv' := [(3, Value.int ((40 * (gA S a27 x1.toNatClampNeg)) + x2)), (0, va_rf (some x0)), (1, Value.int x1), (2, Value.int x2)]) dX9_isOff_11 rfl (by decide) (by first | rfl | simp [va_cat, vi_cat, vl_cat]) ?_
  refine G_aload_n C (x := (some x0)) 1 dX9_isOff_12 rfl rfl ?_
  refine G_get C (CC := RX9) (Tf := TX9) (N := 50) (k := 10) (i := 34) (v := va_rf (gP S 1034 x0)) hk26 (by decide) rfl (fin fwX9) (by decide) (im tw_5_162) rfl rfl dX9_isOff_13 ?_
  refine G_iload_n C (x := x1) 2 dX9_isOff_16 rfl rfl ?_
  obtain ⟨a31, ha32, h⟩ := h
  refine G_rf1 ha32 ?_
  obtain ⟨hk33, h⟩ := h
  obtain ⟨hi34, h⟩ := h
  refine G_iald C hk33 hi34 dX9_isOff_17 ?_
  refine G_iconst C (v := 1) dX9_isOff_18 (by decide) ?_
  refine G_iand C dX9_isOff_19 ?_
  refine G_if_eq C (tgt := 34) dX9_isOff_20 (by decide) (fun hc => ?_) (fun hc => ?_)
  · have h := h.1 hc
    refine G_lv C (lv' := [(0, va_rf (some x0)), (1, Value.int x1), (2, Value.int x2), (3, Value.int ((40 * (gA S a27 x1.toNatClampNeg)) + x2))]) [1, 2, 3, 0] rfl ?_
    exact J34 _ _ h
  · have h := h.2 hc
    refine G_aload_n C (x := (some x0)) 1 dX9_isOff_23 rfl rfl ?_
    refine G_callVi C hZ (Tf := TX9) (N := 50) hk26 (by decide) rfl tw_6_210 tw_6_212 tw_0_51 tw_1_7 tw_6_213 hy_X9_isBusy ⟨Nat.le_of_ble_eq_true rfl, Nat.le_of_ble_eq_true rfl⟩ (As := []) (rest := []) (c_X9_isBusy l D cy x0 S _ h) rfl rfl (by simp [va_cat, vi_cat, vl_cat]) dX9_isOff_24 ⟨Nat.le_of_ble_eq_true rfl, Nat.le_of_ble_eq_true rfl⟩ (fun r36 S35 h => ?_)
    obtain ⟨hb37, h⟩ := h
    refine G_if_eq C (tgt := 34) dX9_isOff_27 (by decide) (fun hc => ?_) (fun hc => ?_)
    · have h := h.1 hc
      refine G_lv C (lv' := [(0, va_rf (some x0)), (1, Value.int x1), (2, Value.int x2), (3, Value.int ((40 * (gA S a27 x1.toNatClampNeg)) + x2))]) [1, 2, 3, 0] rfl ?_
      exact J34 _ _ h
    · have h := h.2 hc
      refine G_iconst C (v := 1) dX9_isOff_30 (by decide) ?_
      refine G_goto C (tgt := 35) dX9_isOff_31 (by decide) ?_
      refine G_lv C (lv' := [(0, va_rf (some x0)), (1, Value.int x1), (2, Value.int x2), (3, Value.int ((40 * (gA S a27 x1.toNatClampNeg)) + x2))]) [1, 2, 3, 0] rfl ?_
      exact J35 _ _ _ h
set_option maxHeartbeats 4000000 in
set_option maxRecDepth 100000 in
theorem c_X9_isOf (l : Launch) (D : va_G) (cy : Nat → Nat) (x0 : Nat) (x1 : Int32) (x2 : Int32) (S : PT) (post : Int32 → PT → Prop) (h : w_X9_isOf x0 x1 x2 S post) : Mi l yX9_isOf (Wm yX9_isOf prog_11_method_45_code 3 (Option.some Jvm.ClassFile.FieldType.boolean)) 2 43 D cy [va_rf (some x0), Value.int x1, Value.int x2] S 0 0 (fun r S => bo r ∧ post r S) := by
  refine Mi_of (own := "TrenchboardModel") (by decide) rfl (by first | decide | simp [lg_sl, va_cat, vi_cat, vl_cat]) (fun p e s m below meth c A C hZ hr hin9 => ?_)
  have J32 : ∀ (S : PT) (s0 : Int32), w_X9_isOf_b32 x0 x1 x2 post S s0 → G p l e { frames := 2, cells := 0, slots := 0, locals := 43 } s m [va_rf (some x0), Value.int x1, Value.int x2].toArray below meth c D cy A s.heap 3 (QMi below D cy A [va_rf (some x0), Value.int x1, Value.int x2] s 0 0 (fun r S => bo r ∧ post r S)) S 0 0 32 [] [Value.int s0] := by
    intro S s0 h
    unfold w_X9_isOf_b32 at h
    obtain ⟨hb1, h⟩ := h
    exact G_zret C (mc := 0) (ms := 0) (post := (fun r S => bo r ∧ post r S)) (bo_nar hb1) hr (Nat.le_of_ble_eq_true rfl) (Nat.le_of_ble_eq_true rfl) dX9_isOf_32 ⟨hb1, h⟩
  have J31 : ∀ (S : PT), w_X9_isOf_b31 x0 x1 x2 post S → G p l e { frames := 2, cells := 0, slots := 0, locals := 43 } s m [va_rf (some x0), Value.int x1, Value.int x2].toArray below meth c D cy A s.heap 3 (QMi below D cy A [va_rf (some x0), Value.int x1, Value.int x2] s 0 0 (fun r S => bo r ∧ post r S)) S 0 0 31 [] [] := by
    intro S h
    unfold w_X9_isOf_b31 at h
    refine G_iconst C (v := 0) dX9_isOf_31 (by decide) ?_
    refine G_lv C (lv' := []) [] rfl ?_
    exact J32 _ _ h
  refine G_lv C (lv' := [(0, va_rf (some x0)), (1, Value.int x1), (2, Value.int x2)]) [0, 1, 2] (by first | rfl | simp [lv_pick, lv_args, va_cat, vi_cat, vl_cat]) ?_
  unfold w_X9_isOf at h
  refine G_aload_n C (x := (some x0)) 0 dX9_isOf_0 rfl rfl ?_
  refine G_iload_n C (x := x1) 1 dX9_isOf_1 rfl rfl ?_
  obtain ⟨hk2, h⟩ := h
  refine G_callVi C hZ (Tf := TX9) (N := 50) hk2 (by decide) rfl tw_6_146 tw_6_148 tw_0_41 tw_1_7 tw_6_149 hy_X9_areWorks ⟨Nat.le_of_ble_eq_true rfl, Nat.le_of_ble_eq_true rfl⟩ (As := [Value.int x1]) (rest := []) (c_X9_areWorks l D cy x0 x1 S _ h) rfl rfl (by simp [va_cat, vi_cat, vl_cat]) dX9_isOf_2 ⟨Nat.le_of_ble_eq_true rfl, Nat.le_of_ble_eq_true rfl⟩ (fun r4 S3 h => ?_)
  obtain ⟨hb5, h⟩ := h
  refine G_if_eq C (tgt := 31) dX9_isOf_5 (by decide) (fun hc => ?_) (fun hc => ?_)
  · have h := h.1 hc
    refine G_lv C (lv' := []) [] rfl ?_
    exact J31 _ h
  · have h := h.2 hc
    refine G_iload_n C (x := x2) 2 dX9_isOf_8 rfl rfl ?_
    refine G_aload_n C (x := (some x0)) 0 dX9_isOf_9 rfl rfl ?_
    obtain ⟨hk6, h⟩ := h
    refine G_get C (CC := RX9) (Tf := TX9) (N := 50) (k := 10) (i := 26) (v := va_rf (gP S3 1026 x0)) hk6 (by decide) rfl (fin fwX9) (by decide) (im tw_5_154) rfl rfl dX9_isOf_10 ?_
    refine G_iload_n C (x := x1) 1 dX9_isOf_13 rfl rfl ?_
    obtain ⟨a7, ha8, h⟩ := h
    refine G_rf1 ha8 ?_
    obtain ⟨hk9, h⟩ := h
    obtain ⟨hi10, h⟩ := h
    refine G_iald C hk9 hi10 dX9_isOf_14 ?_
    refine G_aload_n C (x := (some x0)) 0 dX9_isOf_15 rfl rfl ?_
    refine G_get C (CC := RX9) (Tf := TX9) (N := 50) (k := 10) (i := 27) (v := va_rf (gP S3 1027 x0)) hk6 (by decide) rfl (fin fwX9) (by decide) (im tw_5_155) rfl rfl dX9_isOf_16 ?_
    refine G_iload_n C (x := x1) 1 dX9_isOf_19 rfl rfl ?_
    obtain ⟨a11, ha12, h⟩ := h
    refine G_rf1 ha12 ?_
    obtain ⟨hk13, h⟩ := h
    obtain ⟨hi14, h⟩ := h
    refine G_iald C hk13 hi14 dX9_isOf_20 ?_
    refine G_callSi C hZ tw_6_49 tw_6_50 tw_1_7 tw_6_51 hy_X9_isIn ⟨Nat.le_of_ble_eq_true rfl, Nat.le_of_ble_eq_true rfl⟩ (As := [Value.int x2, Value.int (gA S3 a7 x1.toNatClampNeg), Value.int (gA S3 a11 x1.toNatClampNeg)]) (rest := []) (c_X9_isIn l D cy x2 (gA S3 a7 x1.toNatClampNeg) (gA S3 a11 x1.toNatClampNeg) S3 _ h) rfl rfl (by simp [va_cat, vi_cat, vl_cat]) dX9_isOf_21 ⟨Nat.le_of_ble_eq_true rfl, Nat.le_of_ble_eq_true rfl⟩ (fun r16 S15 h => ?_)
    obtain ⟨hb17, h⟩ := h
    refine G_if_eq C (tgt := 31) dX9_isOf_24 (by decide) (fun hc => ?_) (fun hc => ?_)
    · have h := h.1 hc
      refine G_lv C (lv' := []) [] rfl ?_
      exact J31 _ h
    · have h := h.2 hc
      refine G_iconst C (v := 1) dX9_isOf_27 (by decide) ?_
      refine G_goto C (tgt := 32) dX9_isOf_28 (by decide) ?_
      refine G_lv C (lv' := []) [] rfl ?_
      exact J32 _ _ h
set_option maxHeartbeats 4000000 in
set_option maxRecDepth 100000 in
theorem c_X9_open (l : Launch) (D : va_G) (cy : Nat → Nat) (x0 : Nat) (x1 : Int32) (x2 : Int32) (S : PT) (post : Int32 → PT → Prop) (h : w_X9_open x0 x1 x2 S post) : Mi l yX9_open (Wm yX9_open prog_11_method_46_code 7 (Option.some Jvm.ClassFile.FieldType.int)) 4 93 D cy [va_rf (some x0), Value.int x1, Value.int x2] S 0 0 post := by
  refine Mi_of (own := "TrenchboardModel") (by decide) rfl (by first | decide | simp [lg_sl, va_cat, vi_cat, vl_cat]) (fun p e s m below meth c A C hZ hr hin9 => ?_)
  have J137 : ∀ (S : PT) (v4 : Int32) (v5 : Int32), w_X9_open_b137 x0 x1 x2 post S v4 v5 → G p l e { frames := 4, cells := 0, slots := 0, locals := 93 } s m [va_rf (some x0), Value.int x1, Value.int x2].toArray below meth c D cy A s.heap 7 (QMi below D cy A [va_rf (some x0), Value.int x1, Value.int x2] s 0 0 post) S 0 0 137 [(0, va_rf (some x0)), (1, Value.int x1), (4, Value.int v4), (5, Value.int v5)] [] := by
    intro S v4 v5 h
    unfold w_X9_open_b137 at h
    refine G_aload_n C (x := (some x0)) 0 dX9_open_137 rfl rfl ?_
    obtain ⟨hk1, h⟩ := h
    refine G_get C (CC := RX9) (Tf := TX9) (N := 50) (k := 10) (i := 36) (v := va_rf (gP S 1036 x0)) hk1 (by decide) rfl (fin fwX9) (by decide) (im tw_5_164) rfl rfl dX9_open_138 ?_
    refine G_iload_n C (x := x1) 1 dX9_open_141 rfl rfl ?_
    refine G_dup2 C dX9_open_142 rfl (va_cat _) ?_
    obtain ⟨a2, ha3, h⟩ := h
    refine G_rf1 ha3 ?_
    obtain ⟨hk4, h⟩ := h
    obtain ⟨hi5, h⟩ := h
    refine G_iald C hk4 hi5 dX9_open_143 ?_
    refine G_iload C (x := v5) 3 dX9_open_144 rfl ?_
    refine G_iadd C dX9_open_146 ?_
    refine G_rf2 ha3 ?_
    obtain ⟨hi6, h⟩ := h
    refine G_iast C hk4 hi6 dX9_open_147 ?_
    generalize e8 : sA S a2 ((x1).toNatClampNeg) ((gA S a2 x1.toNatClampNeg) + v5) = S7
    have h := h S7 e8.symm
    refine G_aload_n C (x := (some x0)) 0 dX9_open_148 rfl rfl ?_
    refine G_get C (CC := RX9) (Tf := TX9) (N := 50) (k := 10) (i := 12) (v := va_rf (gP S7 1012 x0)) (ksA e8.symm hk1) (by decide) rfl (fin fwX9) (by decide) (im tw_5_140) rfl rfl dX9_open_149 ?_
    refine G_iload C (x := v4) 2 dX9_open_152 rfl ?_
    refine G_iconst C (v := 1) dX9_open_154 (by decide) ?_
    obtain ⟨a9, ha10, h⟩ := h
    refine G_rf2 ha10 ?_
    obtain ⟨hk11, h⟩ := h
    obtain ⟨hi12, h⟩ := h
    refine G_zast C hk11 bo_1 hi12 dX9_open_155 ?_
    generalize e14 : sA S7 a9 ((v4).toNatClampNeg) 1 = S13
    have h := h S13 e14.symm
    refine G_aload_n C (x := (some x0)) 0 dX9_open_156 rfl rfl ?_
    refine G_get C (CC := RX9) (Tf := TX9) (N := 50) (k := 10) (i := 13) (v := va_rf (gP S13 1013 x0)) (ksA e14.symm (ksA e8.symm hk1)) (by decide) rfl (fin fwX9) (by decide) (im tw_5_141) rfl rfl dX9_open_157 ?_
    refine G_iload C (x := v4) 2 dX9_open_160 rfl ?_
    refine G_iload_n C (x := x1) 1 dX9_open_162 rfl rfl ?_
    obtain ⟨a15, ha16, h⟩ := h
    refine G_rf2 ha16 ?_
    obtain ⟨hk17, h⟩ := h
    obtain ⟨hi18, h⟩ := h
    refine G_iast C hk17 hi18 dX9_open_163 ?_
    generalize e20 : sA S13 a15 ((v4).toNatClampNeg) x1 = S19
    have h := h S19 e20.symm
    refine G_iload C (x := v5) 3 dX9_open_164 rfl ?_
    exact G_iret C (mc := 0) (ms := 0) (post := post) hr (Nat.le_of_ble_eq_true rfl) (Nat.le_of_ble_eq_true rfl) dX9_open_166 h
  have J57 : ∀ (n : Nat) (S : PT) (v4 : Int32) (v5 : Int32) (v6 : Int32), w_X9_open_l57 x0 x1 x2 post n S v4 v5 v6 → G p l e { frames := 4, cells := 0, slots := 0, locals := 93 } s m [va_rf (some x0), Value.int x1, Value.int x2].toArray below meth c D cy A s.heap 7 (QMi below D cy A [va_rf (some x0), Value.int x1, Value.int x2] s 0 0 post) S 0 0 57 [(0, va_rf (some x0)), (1, Value.int x1), (2, Value.int x2), (4, Value.int v4), (5, Value.int v5), (6, Value.int v6)] [] := by
    intro n57
    induction n57 with
    | zero => intro S v4 v5 v6 h; rw [w_X9_open_l57] at h; exact False.elim h
    | succ n57 K57 =>
      have J131 : ∀ (S : PT) (v4 : Int32) (v5 : Int32) (v6 : Int32), w_X9_open_b131 x0 x1 x2 post (w_X9_open_l57 x0 x1 x2 post n57) S v4 v5 v6 → G p l e { frames := 4, cells := 0, slots := 0, locals := 93 } s m [va_rf (some x0), Value.int x1, Value.int x2].toArray below meth c D cy A s.heap 7 (QMi below D cy A [va_rf (some x0), Value.int x1, Value.int x2] s 0 0 post) S 0 0 131 [(0, va_rf (some x0)), (1, Value.int x1), (2, Value.int x2), (4, Value.int v4), (5, Value.int v5), (6, Value.int v6)] [] := by
        intro S v4 v5 v6 h
        unfold w_X9_open_b131 at h
        refine G_iinc C (v := (v6 + 1)) (lv' := [(6, Value.int (v6 + 1)), (0, va_rf (some x0)), (1, Value.int x1), (2, Value.int x2), (4, Value.int v4), (5, Value.int v5)]) 5 dX9_open_131 rfl rfl (by decide) (by first | rfl | simp [va_cat, vi_cat, vl_cat]) ?_
        refine G_goto C (tgt := 57) dX9_open_134 (by decide) ?_
        refine G_lv C (lv' := [(0, va_rf (some x0)), (1, Value.int x1), (2, Value.int x2), (4, Value.int v4), (5, Value.int v5), (6, Value.int (v6 + 1))]) [1, 2, 3, 4, 5, 0] rfl ?_
        exact K57 _ _ _ _ h
      intro S v4 v5 v6 h
      rw [w_X9_open_l57] at h
      refine G_iload C (x := v6) 5 dX9_open_57 rfl ?_
      refine G_aload_n C (x := (some x0)) 0 dX9_open_59 rfl rfl ?_
      obtain ⟨hk21, h⟩ := h
      refine G_get C (CC := RX9) (Tf := TX9) (N := 50) (k := 10) (i := 14) (v := Value.int (gI S 1014 x0)) hk21 (by decide) rfl (fin fwX9) (by decide) (im tw_5_142) rfl rfl dX9_open_60 ?_
      refine G_icmp_ge C (tgt := 137) dX9_open_63 (by decide) (fun hc => ?_) (fun hc => ?_)
      · have h := h.1 hc
        refine G_lv C (lv' := [(0, va_rf (some x0)), (1, Value.int x1), (4, Value.int v4), (5, Value.int v5)]) [0, 1, 3, 4] rfl ?_
        exact J137 _ _ _ h
      · have h := h.2 hc
        refine G_aload_n C (x := (some x0)) 0 dX9_open_66 rfl rfl ?_
        refine G_get C (CC := RX9) (Tf := TX9) (N := 50) (k := 10) (i := 12) (v := va_rf (gP S 1012 x0)) hk21 (by decide) rfl (fin fwX9) (by decide) (im tw_5_140) rfl rfl dX9_open_67 ?_
        refine G_iload C (x := v4) 3 dX9_open_70 rfl ?_
        obtain ⟨a22, ha23, h⟩ := h
        refine G_rf1 ha23 ?_
        obtain ⟨hk24, h⟩ := h
        obtain ⟨hi25, h⟩ := h
        refine G_zald C hk24 hi25 dX9_open_72 ?_
        refine G_if_ne C (tgt := 137) dX9_open_73 (by decide) (fun hc => ?_) (fun hc => ?_)
        · have h := h.1 hc
          refine G_lv C (lv' := [(0, va_rf (some x0)), (1, Value.int x1), (4, Value.int v4), (5, Value.int v5)]) [0, 1, 3, 4] rfl ?_
          exact J137 _ _ _ h
        · have h := h.2 hc
          refine G_aload_n C (x := (some x0)) 0 dX9_open_76 rfl rfl ?_
          refine G_iload C (x := v6) 5 dX9_open_77 rfl ?_
          refine G_aload_n C (x := (some x0)) 0 dX9_open_79 rfl rfl ?_
          refine G_get C (CC := RX9) (Tf := TX9) (N := 50) (k := 10) (i := 25) (v := va_rf (gP S 1025 x0)) hk21 (by decide) rfl (fin fwX9) (by decide) (im tw_5_153) rfl rfl dX9_open_80 ?_
          refine G_iload_n C (x := x1) 1 dX9_open_83 rfl rfl ?_
          obtain ⟨a26, ha27, h⟩ := h
          refine G_rf1 ha27 ?_
          obtain ⟨hk28, h⟩ := h
          obtain ⟨hi29, h⟩ := h
          refine G_iald C hk28 hi29 dX9_open_84 ?_
          refine G_iload_n C (x := x2) 2 dX9_open_85 rfl rfl ?_
          refine G_callVi C hZ (Tf := TX9) (N := 50) hk21 (by decide) rfl tw_6_131 tw_6_133 tw_0_40 tw_1_7 tw_6_134 hy_X9_lies ⟨Nat.le_of_ble_eq_true rfl, Nat.le_of_ble_eq_true rfl⟩ (As := [Value.int v6, Value.int (gA S a26 x1.toNatClampNeg), Value.int x2]) (rest := []) (c_X9_lies l D cy x0 v6 (gA S a26 x1.toNatClampNeg) x2 S _ h) rfl rfl (by simp [va_cat, vi_cat, vl_cat]) dX9_open_86 ⟨Nat.le_of_ble_eq_true rfl, Nat.le_of_ble_eq_true rfl⟩ (fun r31 S30 h => ?_)
          obtain ⟨hb32, h⟩ := h
          refine G_if_eq C (tgt := 131) dX9_open_89 (by decide) (fun hc => ?_) (fun hc => ?_)
          · have h := h.1 hc
            refine G_lv C (lv' := [(0, va_rf (some x0)), (1, Value.int x1), (2, Value.int x2), (4, Value.int v4), (5, Value.int v5), (6, Value.int v6)]) [0, 1, 2, 3, 4, 5] rfl ?_
            exact J131 _ _ _ _ h
          · have h := h.2 hc
            refine G_aload_n C (x := (some x0)) 0 dX9_open_92 rfl rfl ?_
            obtain ⟨hk33, h⟩ := h
            refine G_get C (CC := RX9) (Tf := TX9) (N := 50) (k := 10) (i := 19) (v := va_rf (gP S30 1019 x0)) hk33 (by decide) rfl (fin fwX9) (by decide) (im tw_5_147) rfl rfl dX9_open_93 ?_
            refine G_iload C (x := v6) 5 dX9_open_96 rfl ?_
            obtain ⟨a34, ha35, h⟩ := h
            refine G_rf1 ha35 ?_
            obtain ⟨hk36, h⟩ := h
            obtain ⟨hi37, h⟩ := h
            refine G_iald C hk36 hi37 dX9_open_98 ?_
            refine G_aload_n C (x := (some x0)) 0 dX9_open_99 rfl rfl ?_
            refine G_get C (CC := RX9) (Tf := TX9) (N := 50) (k := 10) (i := 28) (v := va_rf (gP S30 1028 x0)) hk33 (by decide) rfl (fin fwX9) (by decide) (im tw_5_156) rfl rfl dX9_open_100 ?_
            refine G_iload_n C (x := x1) 1 dX9_open_103 rfl rfl ?_
            obtain ⟨a38, ha39, h⟩ := h
            refine G_rf1 ha39 ?_
            obtain ⟨hk40, h⟩ := h
            obtain ⟨hi41, h⟩ := h
            refine G_iald C hk40 hi41 dX9_open_104 ?_
            refine G_icmp_gt C (tgt := 131) dX9_open_105 (by decide) (fun hc => ?_) (fun hc => ?_)
            · have h := h.1 hc
              refine G_lv C (lv' := [(0, va_rf (some x0)), (1, Value.int x1), (2, Value.int x2), (4, Value.int v4), (5, Value.int v5), (6, Value.int v6)]) [0, 1, 2, 3, 4, 5] rfl ?_
              exact J131 _ _ _ _ h
            · have h := h.2 hc
              refine G_aload_n C (x := (some x0)) 0 dX9_open_108 rfl rfl ?_
              refine G_aload_n C (x := (some x0)) 0 dX9_open_109 rfl rfl ?_
              refine G_get C (CC := RX9) (Tf := TX9) (N := 50) (k := 10) (i := 24) (v := va_rf (gP S30 1024 x0)) hk33 (by decide) rfl (fin fwX9) (by decide) (im tw_5_152) rfl rfl dX9_open_110 ?_
              refine G_iload_n C (x := x1) 1 dX9_open_113 rfl rfl ?_
              obtain ⟨a42, ha43, h⟩ := h
              refine G_rf1 ha43 ?_
              obtain ⟨hk44, h⟩ := h
              obtain ⟨hi45, h⟩ := h
              refine G_iald C hk44 hi45 dX9_open_114 ?_
              refine G_aload_n C (x := (some x0)) 0 dX9_open_115 rfl rfl ?_
              refine G_get C (CC := RX9) (Tf := TX9) (N := 50) (k := 10) (i := 15) (v := va_rf (gP S30 1015 x0)) hk33 (by decide) rfl (fin fwX9) (by decide) (im tw_5_143) rfl rfl dX9_open_116 ?_
              refine G_iload C (x := v6) 5 dX9_open_119 rfl ?_
              obtain ⟨a46, ha47, h⟩ := h
              refine G_rf1 ha47 ?_
              obtain ⟨hk48, h⟩ := h
              obtain ⟨hi49, h⟩ := h
              refine G_iald C hk48 hi49 dX9_open_121 ?_
              refine G_sipush C (v := 1000) dX9_open_122 (by decide) ?_
              refine G_callVv C hZ (Tf := TX9) (N := 50) hk33 (by decide) rfl tw_6_174 tw_6_176 tw_0_48 tw_1_7 tw_6_177 hy_X9_pays ⟨Nat.le_of_ble_eq_true rfl, Nat.le_of_ble_eq_true rfl⟩ (As := [Value.int (gA S30 a42 x1.toNatClampNeg), Value.int (gA S30 a46 v6.toNatClampNeg), Value.int 1000]) (rest := []) (c_X9_pays l D cy x0 (gA S30 a42 x1.toNatClampNeg) (gA S30 a46 v6.toNatClampNeg) 1000 S30 _ h) rfl rfl (by simp [va_cat, vi_cat, vl_cat]) dX9_open_125 ⟨Nat.le_of_ble_eq_true rfl, Nat.le_of_ble_eq_true rfl⟩ (fun S50 h => ?_)
              refine G_iinc C (v := (v5 + 1)) (lv' := [(5, Value.int (v5 + 1)), (0, va_rf (some x0)), (1, Value.int x1), (2, Value.int x2), (4, Value.int v4), (6, Value.int v6)]) 4 dX9_open_128 rfl rfl (by decide) (by first | rfl | simp [va_cat, vi_cat, vl_cat]) ?_
              refine G_lv C (lv' := [(0, va_rf (some x0)), (1, Value.int x1), (2, Value.int x2), (4, Value.int v4), (5, Value.int (v5 + 1)), (6, Value.int v6)]) [1, 2, 3, 4, 0, 5] rfl ?_
              exact J131 _ _ _ _ h
  have J30 : ∀ (S : PT) (s0 : Option Nat) (s1 : Int32), w_X9_open_b30 x0 x1 x2 post S s0 s1 → G p l e { frames := 4, cells := 0, slots := 0, locals := 93 } s m [va_rf (some x0), Value.int x1, Value.int x2].toArray below meth c D cy A s.heap 7 (QMi below D cy A [va_rf (some x0), Value.int x1, Value.int x2] s 0 0 post) S 0 0 30 [(0, va_rf (some x0)), (1, Value.int x1), (2, Value.int x2)] [Value.int s1, va_rf s0] := by
    intro S s0 s1 h
    unfold w_X9_open_b30 at h
    obtain ⟨a52, ha53, h⟩ := h
    obtain ⟨hk54, h⟩ := h
    refine G_callVi C hZ (Tf := TX9) (N := 50) hk54 (by decide) rfl tw_6_56 tw_6_58 tw_0_29 tw_1_7 tw_6_59 hy_X9_goes ⟨Nat.le_of_ble_eq_true rfl, Nat.le_of_ble_eq_true rfl⟩ (As := [Value.int s1]) (rest := []) (c_X9_goes l D cy a52 s1 S _ h) rfl (by first | rfl | (simp only [ha53]; rfl) | simp only [ha53]) (by simp [va_cat, vi_cat, vl_cat]) dX9_open_30 ⟨Nat.le_of_ble_eq_true rfl, Nat.le_of_ble_eq_true rfl⟩ (fun r56 S55 h => ?_)
    obtain ⟨hb57, h⟩ := h
    refine G_if_ne C (tgt := 38) dX9_open_33 (by decide) (fun hc => ?_) (fun hc => ?_)
    · have h := h.1 hc
      refine G_bipush C (v := 40) dX9_open_38 (by decide) ?_
      refine G_aload_n C (x := (some x0)) 0 dX9_open_40 rfl rfl ?_
      obtain ⟨hk58, h⟩ := h
      refine G_get C (CC := RX9) (Tf := TX9) (N := 50) (k := 10) (i := 25) (v := va_rf (gP S55 1025 x0)) hk58 (by decide) rfl (fin fwX9) (by decide) (im tw_5_153) rfl rfl dX9_open_41 ?_
      refine G_iload_n C (x := x1) 1 dX9_open_44 rfl rfl ?_
      obtain ⟨a59, ha60, h⟩ := h
      refine G_rf1 ha60 ?_
      obtain ⟨hk61, h⟩ := h
      obtain ⟨hi62, h⟩ := h
      refine G_iald C hk61 hi62 dX9_open_45 ?_
      refine G_imul C dX9_open_46 ?_
      refine G_iload_n C (x := x2) 2 dX9_open_47 rfl rfl ?_
      refine G_iadd C dX9_open_48 ?_
      refine G_istore C (i := 4) (lv' := [(4, Value.int ((40 * (gA S55 a59 x1.toNatClampNeg)) + x2)), (0, va_rf (some x0)), (1, Value.int x1), (2, Value.int x2)]) dX9_open_49 (by decide) (by first | rfl | simp [va_cat, vi_cat, vl_cat]) ?_
      refine G_iconst C (v := 0) dX9_open_51 (by decide) ?_
      refine G_istore C (i := 5) (lv' := [(5, Value.int 0), (4, Value.int ((40 * (gA S55 a59 x1.toNatClampNeg)) + x2)), (0, va_rf (some x0)), (1, Value.int x1), (2, Value.int x2)]) dX9_open_52 (by decide) (by first | rfl | simp [va_cat, vi_cat, vl_cat]) ?_
      refine G_iconst C (v := 0) dX9_open_54 (by decide) ?_
      refine G_istore C (i := 6) (lv' := [(6, Value.int 0), (5, Value.int 0), (4, Value.int ((40 * (gA S55 a59 x1.toNatClampNeg)) + x2)), (0, va_rf (some x0)), (1, Value.int x1), (2, Value.int x2)]) dX9_open_55 (by decide) (by first | rfl | simp [va_cat, vi_cat, vl_cat]) ?_
      refine G_lv C (lv' := [(0, va_rf (some x0)), (1, Value.int x1), (2, Value.int x2), (4, Value.int ((40 * (gA S55 a59 x1.toNatClampNeg)) + x2)), (5, Value.int 0), (6, Value.int 0)]) [3, 4, 5, 2, 1, 0] rfl ?_
      obtain ⟨n9, h⟩ := h
      exact J57 n9 _ _ _ _ h
    · have h := h.2 hc
      refine G_iconst C (v := 0) dX9_open_36 (by decide) ?_
      exact G_iret C (mc := 0) (ms := 0) (post := post) hr (Nat.le_of_ble_eq_true rfl) (Nat.le_of_ble_eq_true rfl) dX9_open_37 h
  refine G_lv C (lv' := [(0, va_rf (some x0)), (1, Value.int x1), (2, Value.int x2)]) [0, 1, 2] (by first | rfl | simp [lv_pick, lv_args, va_cat, vi_cat, vl_cat]) ?_
  unfold w_X9_open at h
  refine G_aload_n C (x := (some x0)) 0 dX9_open_0 rfl rfl ?_
  refine G_iload_n C (x := x1) 1 dX9_open_1 rfl rfl ?_
  refine G_iload_n C (x := x2) 2 dX9_open_2 rfl rfl ?_
  obtain ⟨hk63, h⟩ := h
  refine G_callVi C hZ (Tf := TX9) (N := 50) hk63 (by decide) rfl tw_6_202 tw_6_204 tw_0_49 tw_1_7 tw_6_205 hy_X9_isOf ⟨Nat.le_of_ble_eq_true rfl, Nat.le_of_ble_eq_true rfl⟩ (As := [Value.int x1, Value.int x2]) (rest := []) (c_X9_isOf l D cy x0 x1 x2 S _ h) rfl rfl (by simp [va_cat, vi_cat, vl_cat]) dX9_open_3 ⟨Nat.le_of_ble_eq_true rfl, Nat.le_of_ble_eq_true rfl⟩ (fun r65 S64 h => ?_)
  obtain ⟨hb66, h⟩ := h
  refine G_istore_n C (i := 3) (lv' := [(3, Value.int r65), (0, va_rf (some x0)), (1, Value.int x1), (2, Value.int x2)]) dX9_open_6 rfl (by decide) (by first | rfl | simp [va_cat, vi_cat, vl_cat]) ?_
  refine G_aload_n C (x := (some x0)) 1 dX9_open_7 rfl rfl ?_
  refine G_iload_n C (x := r65) 0 dX9_open_8 rfl rfl ?_
  refine G_if_ne C (tgt := 16) dX9_open_9 (by decide) (fun hc => ?_) (fun hc => ?_)
  · have h := h.1 hc
    refine G_aload_n C (x := (some x0)) 1 dX9_open_16 rfl rfl ?_
    refine G_iload_n C (x := x1) 2 dX9_open_17 rfl rfl ?_
    refine G_iload_n C (x := x2) 3 dX9_open_18 rfl rfl ?_
    obtain ⟨hk67, h⟩ := h
    refine G_callVi C hZ (Tf := TX9) (N := 50) hk67 (by decide) rfl tw_6_206 tw_6_208 tw_0_50 tw_1_7 tw_6_209 hy_X9_isOff ⟨Nat.le_of_ble_eq_true rfl, Nat.le_of_ble_eq_true rfl⟩ (As := [Value.int x1, Value.int x2]) (rest := [va_rf (some x0)]) (c_X9_isOff l D cy x0 x1 x2 S64 _ h) rfl rfl (by simp [va_cat, vi_cat, vl_cat]) dX9_open_19 ⟨Nat.le_of_ble_eq_true rfl, Nat.le_of_ble_eq_true rfl⟩ (fun r69 S68 h => ?_)
    obtain ⟨hb70, h⟩ := h
    refine G_if_eq C (tgt := 29) dX9_open_22 (by decide) (fun hc => ?_) (fun hc => ?_)
    · have h := h.1 hc
      refine G_iconst C (v := 0) dX9_open_29 (by decide) ?_
      refine G_lv C (lv' := [(0, va_rf (some x0)), (1, Value.int x1), (2, Value.int x2)]) [1, 2, 3] rfl ?_
      exact J30 _ _ _ h
    · have h := h.2 hc
      refine G_iconst C (v := 2) dX9_open_25 (by decide) ?_
      refine G_goto C (tgt := 30) dX9_open_26 (by decide) ?_
      refine G_lv C (lv' := [(0, va_rf (some x0)), (1, Value.int x1), (2, Value.int x2)]) [1, 2, 3] rfl ?_
      exact J30 _ _ _ h
  · have h := h.2 hc
    refine G_iconst C (v := 1) dX9_open_12 (by decide) ?_
    refine G_goto C (tgt := 30) dX9_open_13 (by decide) ?_
    refine G_lv C (lv' := [(0, va_rf (some x0)), (1, Value.int x1), (2, Value.int x2)]) [1, 2, 3] rfl ?_
    exact J30 _ _ _ h
set_option maxHeartbeats 4000000 in
set_option maxRecDepth 100000 in
theorem c_X9_fillsOf (l : Launch) (D : va_G) (cy : Nat → Nat) (x0 : Nat) (x1 : Int32) (S : PT) (post : Int32 → PT → Prop) (h : w_X9_fillsOf x0 x1 S post) : Mi l yX9_fillsOf (Wm yX9_fillsOf prog_11_method_47_code 4 (Option.some Jvm.ClassFile.FieldType.int)) 0 0 D cy [va_rf (some x0), Value.int x1] S 0 0 post := by
  refine Mi_of (own := "TrenchboardModel") (by decide) rfl (by first | decide | simp [lg_sl, va_cat, vi_cat, vl_cat]) (fun p e s m below meth c A C hZ hr hin9 => ?_)
  have J4 : ∀ (n : Nat) (S : PT) (v2 : Int32) (v3 : Int32), w_X9_fillsOf_l4 x0 x1 post n S v2 v3 → G p l e { frames := 0, cells := 0, slots := 0, locals := 0 } s m [va_rf (some x0), Value.int x1].toArray below meth c D cy A s.heap 4 (QMi below D cy A [va_rf (some x0), Value.int x1] s 0 0 post) S 0 0 4 [(0, va_rf (some x0)), (1, Value.int x1), (2, Value.int v2), (3, Value.int v3)] [] := by
    intro n4
    induction n4 with
    | zero => intro S v2 v3 h; rw [w_X9_fillsOf_l4] at h; exact False.elim h
    | succ n4 K4 =>
      have J28 : ∀ (S : PT) (v3 : Int32) (s0 : Int32) (s1 : Int32), w_X9_fillsOf_b28 x0 x1 post (w_X9_fillsOf_l4 x0 x1 post n4) S v3 s0 s1 → G p l e { frames := 0, cells := 0, slots := 0, locals := 0 } s m [va_rf (some x0), Value.int x1].toArray below meth c D cy A s.heap 4 (QMi below D cy A [va_rf (some x0), Value.int x1] s 0 0 post) S 0 0 28 [(0, va_rf (some x0)), (1, Value.int x1), (3, Value.int v3)] [Value.int s1, Value.int s0] := by
        intro S v3 s0 s1 h
        unfold w_X9_fillsOf_b28 at h
        refine G_iadd C dX9_fillsOf_28 ?_
        refine G_istore_n C (i := 2) (lv' := [(2, Value.int (s0 + s1)), (0, va_rf (some x0)), (1, Value.int x1), (3, Value.int v3)]) dX9_fillsOf_29 rfl (by decide) (by first | rfl | simp [va_cat, vi_cat, vl_cat]) ?_
        refine G_iinc C (v := (v3 + 1)) (lv' := [(3, Value.int (v3 + 1)), (2, Value.int (s0 + s1)), (0, va_rf (some x0)), (1, Value.int x1)]) 3 dX9_fillsOf_30 rfl rfl (by decide) (by first | rfl | simp [va_cat, vi_cat, vl_cat]) ?_
        refine G_goto C (tgt := 4) dX9_fillsOf_33 (by decide) ?_
        refine G_lv C (lv' := [(0, va_rf (some x0)), (1, Value.int x1), (2, Value.int (s0 + s1)), (3, Value.int (v3 + 1))]) [2, 3, 1, 0] rfl ?_
        exact K4 _ _ _ h
      intro S v2 v3 h
      rw [w_X9_fillsOf_l4] at h
      refine G_iload_n C (x := v3) 3 dX9_fillsOf_4 rfl rfl ?_
      refine G_aload_n C (x := (some x0)) 0 dX9_fillsOf_5 rfl rfl ?_
      obtain ⟨hk1, h⟩ := h
      refine G_get C (CC := RX9) (Tf := TX9) (N := 50) (k := 10) (i := 40) (v := Value.int (gI S 1040 x0)) hk1 (by decide) rfl (fin fwX9) (by decide) (im tw_5_168) rfl rfl dX9_fillsOf_6 ?_
      refine G_icmp_ge C (tgt := 36) dX9_fillsOf_9 (by decide) (fun hc => ?_) (fun hc => ?_)
      · have h := h.1 hc
        refine G_iload_n C (x := v2) 2 dX9_fillsOf_36 rfl rfl ?_
        exact G_iret C (mc := 0) (ms := 0) (post := post) hr (Nat.le_of_ble_eq_true rfl) (Nat.le_of_ble_eq_true rfl) dX9_fillsOf_37 h
      · have h := h.2 hc
        refine G_iload_n C (x := v2) 2 dX9_fillsOf_12 rfl rfl ?_
        refine G_aload_n C (x := (some x0)) 0 dX9_fillsOf_13 rfl rfl ?_
        refine G_get C (CC := RX9) (Tf := TX9) (N := 50) (k := 10) (i := 41) (v := va_rf (gP S 1041 x0)) hk1 (by decide) rfl (fin fwX9) (by decide) (im tw_5_169) rfl rfl dX9_fillsOf_14 ?_
        refine G_iload_n C (x := v3) 3 dX9_fillsOf_17 rfl rfl ?_
        obtain ⟨a2, ha3, h⟩ := h
        refine G_rf1 ha3 ?_
        obtain ⟨hk4, h⟩ := h
        obtain ⟨hi5, h⟩ := h
        refine G_iald C hk4 hi5 dX9_fillsOf_18 ?_
        refine G_iload_n C (x := x1) 1 dX9_fillsOf_19 rfl rfl ?_
        refine G_icmp_ne C (tgt := 27) dX9_fillsOf_20 (by decide) (fun hc => ?_) (fun hc => ?_)
        · have h := h.1 hc
          refine G_iconst C (v := 0) dX9_fillsOf_27 (by decide) ?_
          refine G_lv C (lv' := [(0, va_rf (some x0)), (1, Value.int x1), (3, Value.int v3)]) [0, 1, 3] rfl ?_
          exact J28 _ _ _ _ h
        · have h := h.2 hc
          refine G_iconst C (v := 1) dX9_fillsOf_23 (by decide) ?_
          refine G_goto C (tgt := 28) dX9_fillsOf_24 (by decide) ?_
          refine G_lv C (lv' := [(0, va_rf (some x0)), (1, Value.int x1), (3, Value.int v3)]) [0, 1, 3] rfl ?_
          exact J28 _ _ _ _ h
  refine G_lv C (lv' := [(0, va_rf (some x0)), (1, Value.int x1)]) [0, 1] (by first | rfl | simp [lv_pick, lv_args, va_cat, vi_cat, vl_cat]) ?_
  unfold w_X9_fillsOf at h
  refine G_iconst C (v := 0) dX9_fillsOf_0 (by decide) ?_
  refine G_istore_n C (i := 2) (lv' := [(2, Value.int 0), (0, va_rf (some x0)), (1, Value.int x1)]) dX9_fillsOf_1 rfl (by decide) (by first | rfl | simp [va_cat, vi_cat, vl_cat]) ?_
  refine G_iconst C (v := 0) dX9_fillsOf_2 (by decide) ?_
  refine G_istore_n C (i := 3) (lv' := [(3, Value.int 0), (2, Value.int 0), (0, va_rf (some x0)), (1, Value.int x1)]) dX9_fillsOf_3 rfl (by decide) (by first | rfl | simp [va_cat, vi_cat, vl_cat]) ?_
  refine G_lv C (lv' := [(0, va_rf (some x0)), (1, Value.int x1), (2, Value.int 0), (3, Value.int 0)]) [2, 3, 1, 0] rfl ?_
  obtain ⟨n9, h⟩ := h
  exact J4 n9 _ _ _ h
set_option maxHeartbeats 4000000 in
set_option maxRecDepth 100000 in
theorem c_X9_fill (l : Launch) (D : va_G) (cy : Nat → Nat) (x0 : Nat) (x1 : Int32) (x2 : Int32) (x3 : Int32) (S : PT) (post : Int32 → PT → Prop) (h : w_X9_fill x0 x1 x2 x3 S post) : Mi l yX9_fill (Wm yX9_fill prog_11_method_48_code 6 (Option.some Jvm.ClassFile.FieldType.int)) 3 65 D cy [va_rf (some x0), Value.int x1, Value.int x2, Value.int x3] S 0 0 post := by
  refine Mi_of (own := "TrenchboardModel") (by decide) rfl (by first | decide | simp [lg_sl, va_cat, vi_cat, vl_cat]) (fun p e s m below meth c A C hZ hr hin9 => ?_)
  have J70 : ∀ (S : PT) (v5 : Int32) (s0 : Option Nat) (s1 : Int32), w_X9_fill_b70 x0 x1 x2 x3 post S v5 s0 s1 → G p l e { frames := 3, cells := 0, slots := 0, locals := 65 } s m [va_rf (some x0), Value.int x1, Value.int x2, Value.int x3].toArray below meth c D cy A s.heap 6 (QMi below D cy A [va_rf (some x0), Value.int x1, Value.int x2, Value.int x3] s 0 0 post) S 0 0 70 [(0, va_rf (some x0)), (1, Value.int x1), (3, Value.int x3), (5, Value.int v5)] [Value.int s1, va_rf s0] := by
    intro S v5 s0 s1 h
    unfold w_X9_fill_b70 at h
    obtain ⟨a1, ha2, h⟩ := h
    obtain ⟨hk3, h⟩ := h
    refine G_callVi C hZ (Tf := TX9) (N := 50) hk3 (by decide) rfl tw_6_56 tw_6_58 tw_0_29 tw_1_7 tw_6_59 hy_X9_goes ⟨Nat.le_of_ble_eq_true rfl, Nat.le_of_ble_eq_true rfl⟩ (As := [Value.int s1]) (rest := []) (c_X9_goes l D cy a1 s1 S _ h) rfl (by first | rfl | (simp only [ha2]; rfl) | simp only [ha2]) (by simp [va_cat, vi_cat, vl_cat]) dX9_fill_70 ⟨Nat.le_of_ble_eq_true rfl, Nat.le_of_ble_eq_true rfl⟩ (fun r5 S4 h => ?_)
    obtain ⟨hb6, h⟩ := h
    refine G_if_ne C (tgt := 78) dX9_fill_73 (by decide) (fun hc => ?_) (fun hc => ?_)
    · have h := h.1 hc
      refine G_aload_n C (x := (some x0)) 0 dX9_fill_78 rfl rfl ?_
      obtain ⟨hk7, h⟩ := h
      refine G_get C (CC := RX9) (Tf := TX9) (N := 50) (k := 10) (i := 13) (v := va_rf (gP S4 1013 x0)) hk7 (by decide) rfl (fin fwX9) (by decide) (im tw_5_141) rfl rfl dX9_fill_79 ?_
      refine G_iload C (x := v5) 3 dX9_fill_82 rfl ?_
      refine G_iconst C (v := (-1)) dX9_fill_84 (by decide) ?_
      obtain ⟨a8, ha9, h⟩ := h
      refine G_rf2 ha9 ?_
      obtain ⟨hk10, h⟩ := h
      obtain ⟨hi11, h⟩ := h
      refine G_iast C hk10 hi11 dX9_fill_85 ?_
      generalize e13 : sA S4 a8 ((v5).toNatClampNeg) (-1) = S12
      have h := h S12 e13.symm
      refine G_aload_n C (x := (some x0)) 0 dX9_fill_86 rfl rfl ?_
      refine G_get C (CC := RX9) (Tf := TX9) (N := 50) (k := 10) (i := 41) (v := va_rf (gP S12 1041 x0)) (ksA e13.symm hk7) (by decide) rfl (fin fwX9) (by decide) (im tw_5_169) rfl rfl dX9_fill_87 ?_
      refine G_aload_n C (x := (some x0)) 0 dX9_fill_90 rfl rfl ?_
      refine G_get C (CC := RX9) (Tf := TX9) (N := 50) (k := 10) (i := 40) (v := Value.int (gI S12 1040 x0)) (ksA e13.symm hk7) (by decide) rfl (fin fwX9) (by decide) (im tw_5_168) rfl rfl dX9_fill_91 ?_
      refine G_iload C (x := v5) 3 dX9_fill_94 rfl ?_
      obtain ⟨a14, ha15, h⟩ := h
      refine G_rf2 ha15 ?_
      obtain ⟨hk16, h⟩ := h
      obtain ⟨hi17, h⟩ := h
      refine G_iast C hk16 hi17 dX9_fill_96 ?_
      generalize e19 : sA S12 a14 (((gI S12 1040 x0)).toNatClampNeg) v5 = S18
      have h := h S18 e19.symm
      refine G_aload_n C (x := (some x0)) 0 dX9_fill_97 rfl rfl ?_
      refine G_get C (CC := RX9) (Tf := TX9) (N := 50) (k := 10) (i := 42) (v := va_rf (gP S18 1042 x0)) (ksA e19.symm (ksA e13.symm hk7)) (by decide) rfl (fin fwX9) (by decide) (im tw_5_170) rfl rfl dX9_fill_98 ?_
      refine G_aload_n C (x := (some x0)) 0 dX9_fill_101 rfl rfl ?_
      refine G_get C (CC := RX9) (Tf := TX9) (N := 50) (k := 10) (i := 40) (v := Value.int (gI S18 1040 x0)) (ksA e19.symm (ksA e13.symm hk7)) (by decide) rfl (fin fwX9) (by decide) (im tw_5_168) rfl rfl dX9_fill_102 ?_
      refine G_iload_n C (x := x1) 1 dX9_fill_105 rfl rfl ?_
      obtain ⟨a20, ha21, h⟩ := h
      refine G_rf2 ha21 ?_
      obtain ⟨hk22, h⟩ := h
      obtain ⟨hi23, h⟩ := h
      refine G_iast C hk22 hi23 dX9_fill_106 ?_
      generalize e25 : sA S18 a20 (((gI S18 1040 x0)).toNatClampNeg) x1 = S24
      have h := h S24 e25.symm
      refine G_aload_n C (x := (some x0)) 0 dX9_fill_107 rfl rfl ?_
      refine G_get C (CC := RX9) (Tf := TX9) (N := 50) (k := 10) (i := 43) (v := va_rf (gP S24 1043 x0)) (ksA e25.symm (ksA e19.symm (ksA e13.symm hk7))) (by decide) rfl (fin fwX9) (by decide) (im tw_5_171) rfl rfl dX9_fill_108 ?_
      refine G_aload_n C (x := (some x0)) 0 dX9_fill_111 rfl rfl ?_
      refine G_get C (CC := RX9) (Tf := TX9) (N := 50) (k := 10) (i := 40) (v := Value.int (gI S24 1040 x0)) (ksA e25.symm (ksA e19.symm (ksA e13.symm hk7))) (by decide) rfl (fin fwX9) (by decide) (im tw_5_168) rfl rfl dX9_fill_112 ?_
      refine G_aload_n C (x := (some x0)) 0 dX9_fill_115 rfl rfl ?_
      refine G_callVi C hZ (Tf := TX9) (N := 50) (ksA e25.symm (ksA e19.symm (ksA e13.symm hk7))) (by decide) rfl tw_6_68 tw_6_70 tw_0_31 tw_1_7 tw_6_71 hy_X9_today ⟨Nat.le_of_ble_eq_true rfl, Nat.le_of_ble_eq_true rfl⟩ (As := []) (rest := [Value.int (gI S24 1040 x0), va_rf (gP S24 1043 x0)]) (c_X9_today l D cy x0 S24 _ h) rfl rfl (by simp [va_cat, vi_cat, vl_cat]) dX9_fill_116 ⟨Nat.le_of_ble_eq_true rfl, Nat.le_of_ble_eq_true rfl⟩ (fun r27 S26 h => ?_)
      obtain ⟨a28, ha29, h⟩ := h
      refine G_rf2 ha29 ?_
      obtain ⟨hk30, h⟩ := h
      obtain ⟨hi31, h⟩ := h
      refine G_iast C hk30 hi31 dX9_fill_119 ?_
      generalize e33 : sA S26 a28 (((gI S24 1040 x0)).toNatClampNeg) r27 = S32
      have h := h S32 e33.symm
      refine G_aload_n C (x := (some x0)) 0 dX9_fill_120 rfl rfl ?_
      obtain ⟨hk34, h⟩ := h
      refine G_get C (CC := RX9) (Tf := TX9) (N := 50) (k := 10) (i := 44) (v := va_rf (gP S32 1044 x0)) hk34 (by decide) rfl (fin fwX9) (by decide) (im tw_5_172) rfl rfl dX9_fill_121 ?_
      refine G_aload_n C (x := (some x0)) 0 dX9_fill_124 rfl rfl ?_
      refine G_get C (CC := RX9) (Tf := TX9) (N := 50) (k := 10) (i := 40) (v := Value.int (gI S32 1040 x0)) hk34 (by decide) rfl (fin fwX9) (by decide) (im tw_5_168) rfl rfl dX9_fill_125 ?_
      refine G_iload_n C (x := x3) 2 dX9_fill_128 rfl rfl ?_
      obtain ⟨a35, ha36, h⟩ := h
      refine G_rf2 ha36 ?_
      obtain ⟨hk37, h⟩ := h
      obtain ⟨hi38, h⟩ := h
      refine G_iast C hk37 hi38 dX9_fill_129 ?_
      generalize e40 : sA S32 a35 (((gI S32 1040 x0)).toNatClampNeg) x3 = S39
      have h := h S39 e40.symm
      refine G_aload_n C (x := (some x0)) 0 dX9_fill_130 rfl rfl ?_
      refine G_dup C dX9_fill_131 (va_cat _) ?_
      refine G_get C (CC := RX9) (Tf := TX9) (N := 50) (k := 10) (i := 40) (v := Value.int (gI S39 1040 x0)) (ksA e40.symm hk34) (by decide) rfl (fin fwX9) (by decide) (im tw_5_168) rfl rfl dX9_fill_132 ?_
      refine G_iconst C (v := 1) dX9_fill_135 (by decide) ?_
      refine G_iadd C dX9_fill_136 ?_
      refine G_putI C (CC := RX9) (Tf := TX9) (N := 50) (k := 10) (i := 40) (f := 1040) (x := ((gI S39 1040 x0) + 1)) (ty0 := tyX9) (ty := .int) (ksA e40.symm hk34) (by decide) rfl (fin fwX9) tyX9_ok nmX9 (by decide) (im tw_5_168) rfl rfl rfl rfl rfl rfl rfl dX9_fill_137 ?_
      generalize e42 : sI S39 1040 x0 ((gI S39 1040 x0) + 1) = S41
      have h := h S41 e42.symm
      refine G_aload_n C (x := (some x0)) 0 dX9_fill_140 rfl rfl ?_
      refine G_iload C (x := v5) 3 dX9_fill_141 rfl ?_
      refine G_callVi C hZ (Tf := TX9) (N := 50) (ksI e42.symm (ksA e40.symm hk34)) (by decide) rfl tw_6_222 tw_6_224 tw_0_53 tw_1_7 tw_6_225 hy_X9_fillsOf ⟨Nat.le_of_ble_eq_true rfl, Nat.le_of_ble_eq_true rfl⟩ (As := [Value.int v5]) (rest := []) (c_X9_fillsOf l D cy x0 v5 S41 _ h) rfl rfl (by simp [va_cat, vi_cat, vl_cat]) dX9_fill_143 ⟨Nat.le_of_ble_eq_true rfl, Nat.le_of_ble_eq_true rfl⟩ (fun r44 S43 h => ?_)
      exact G_iret C (mc := 0) (ms := 0) (post := post) hr (Nat.le_of_ble_eq_true rfl) (Nat.le_of_ble_eq_true rfl) dX9_fill_146 h
    · have h := h.2 hc
      refine G_iconst C (v := 0) dX9_fill_76 (by decide) ?_
      exact G_iret C (mc := 0) (ms := 0) (post := post) hr (Nat.le_of_ble_eq_true rfl) (Nat.le_of_ble_eq_true rfl) dX9_fill_77 h
  have J28 : ∀ (S : PT) (v4 : Int32) (s0 : Int32), w_X9_fill_b28 x0 x1 x2 x3 post S v4 s0 → G p l e { frames := 3, cells := 0, slots := 0, locals := 65 } s m [va_rf (some x0), Value.int x1, Value.int x2, Value.int x3].toArray below meth c D cy A s.heap 6 (QMi below D cy A [va_rf (some x0), Value.int x1, Value.int x2, Value.int x3] s 0 0 post) S 0 0 28 [(0, va_rf (some x0)), (1, Value.int x1), (3, Value.int x3), (4, Value.int v4)] [Value.int s0] := by
    intro S v4 s0 h
    unfold w_X9_fill_b28 at h
    refine G_istore C (i := 5) (lv' := [(5, Value.int s0), (0, va_rf (some x0)), (1, Value.int x1), (3, Value.int x3), (4, Value.int v4)]) dX9_fill_28 (by decide) (by first | rfl | simp [va_cat, vi_cat, vl_cat]) ?_
    refine G_aload_n C (x := (some x0)) 1 dX9_fill_30 rfl rfl ?_
    refine G_iload C (x := v4) 4 dX9_fill_31 rfl ?_
    refine G_if_ne C (tgt := 40) dX9_fill_33 (by decide) (fun hc => ?_) (fun hc => ?_)
    · have h := h.1 hc
      refine G_iload_n C (x := x3) 3 dX9_fill_40 rfl rfl ?_
      refine G_iconst C (v := 0) dX9_fill_41 (by decide) ?_
      refine G_bipush C (v := 100) dX9_fill_42 (by decide) ?_
      refine G_callSi C hZ tw_6_49 tw_6_50 tw_1_7 tw_6_51 hy_X9_isIn ⟨Nat.le_of_ble_eq_true rfl, Nat.le_of_ble_eq_true rfl⟩ (As := [Value.int x3, Value.int 0, Value.int 100]) (rest := [va_rf (some x0)]) (c_X9_isIn l D cy x3 0 100 S _ h) rfl rfl (by simp [va_cat, vi_cat, vl_cat]) dX9_fill_44 ⟨Nat.le_of_ble_eq_true rfl, Nat.le_of_ble_eq_true rfl⟩ (fun r46 S45 h => ?_)
      obtain ⟨hb47, h⟩ := h
      refine G_if_ne C (tgt := 54) dX9_fill_47 (by decide) (fun hc => ?_) (fun hc => ?_)
      · have h := h.1 hc
        refine G_aload_n C (x := (some x0)) 1 dX9_fill_54 rfl rfl ?_
        obtain ⟨hk48, h⟩ := h
        refine G_get C (CC := RX9) (Tf := TX9) (N := 50) (k := 10) (i := 13) (v := va_rf (gP S45 1013 x0)) hk48 (by decide) rfl (fin fwX9) (by decide) (im tw_5_141) rfl rfl dX9_fill_55 ?_
        refine G_iload C (x := s0) 0 dX9_fill_58 rfl ?_
        obtain ⟨a49, ha50, h⟩ := h
        refine G_rf1 ha50 ?_
        obtain ⟨hk51, h⟩ := h
        obtain ⟨hi52, h⟩ := h
        refine G_iald C hk51 hi52 dX9_fill_60 ?_
        refine G_iload_n C (x := x1) 2 dX9_fill_61 rfl rfl ?_
        refine G_icmp_eq C (tgt := 69) dX9_fill_62 (by decide) (fun hc => ?_) (fun hc => ?_)
        · have h := h.1 hc
          refine G_iconst C (v := 0) dX9_fill_69 (by decide) ?_
          refine G_lv C (lv' := [(0, va_rf (some x0)), (1, Value.int x1), (3, Value.int x3), (5, Value.int s0)]) [1, 2, 3, 0] rfl ?_
          exact J70 _ _ _ _ h
        · have h := h.2 hc
          refine G_iconst C (v := 3) dX9_fill_65 (by decide) ?_
          refine G_goto C (tgt := 70) dX9_fill_66 (by decide) ?_
          refine G_lv C (lv' := [(0, va_rf (some x0)), (1, Value.int x1), (3, Value.int x3), (5, Value.int s0)]) [1, 2, 3, 0] rfl ?_
          exact J70 _ _ _ _ h
      · have h := h.2 hc
        refine G_iconst C (v := 2) dX9_fill_50 (by decide) ?_
        refine G_goto C (tgt := 70) dX9_fill_51 (by decide) ?_
        refine G_lv C (lv' := [(0, va_rf (some x0)), (1, Value.int x1), (3, Value.int x3), (5, Value.int s0)]) [1, 2, 3, 0] rfl ?_
        exact J70 _ _ _ _ h
    · have h := h.2 hc
      refine G_iconst C (v := 1) dX9_fill_36 (by decide) ?_
      refine G_goto C (tgt := 70) dX9_fill_37 (by decide) ?_
      refine G_lv C (lv' := [(0, va_rf (some x0)), (1, Value.int x1), (3, Value.int x3), (5, Value.int s0)]) [1, 2, 3, 0] rfl ?_
      exact J70 _ _ _ _ h
  refine G_lv C (lv' := [(0, va_rf (some x0)), (1, Value.int x1), (2, Value.int x2), (3, Value.int x3)]) [0, 1, 2, 3] (by first | rfl | simp [lv_pick, lv_args, va_cat, vi_cat, vl_cat]) ?_
  unfold w_X9_fill at h
  refine G_aload_n C (x := (some x0)) 0 dX9_fill_0 rfl rfl ?_
  refine G_iload_n C (x := x1) 1 dX9_fill_1 rfl rfl ?_
  refine G_iload_n C (x := x2) 2 dX9_fill_2 rfl rfl ?_
  obtain ⟨hk53, h⟩ := h
  refine G_callVi C hZ (Tf := TX9) (N := 50) hk53 (by decide) rfl tw_6_202 tw_6_204 tw_0_49 tw_1_7 tw_6_205 hy_X9_isOf ⟨Nat.le_of_ble_eq_true rfl, Nat.le_of_ble_eq_true rfl⟩ (As := [Value.int x1, Value.int x2]) (rest := []) (c_X9_isOf l D cy x0 x1 x2 S _ h) rfl rfl (by simp [va_cat, vi_cat, vl_cat]) dX9_fill_3 ⟨Nat.le_of_ble_eq_true rfl, Nat.le_of_ble_eq_true rfl⟩ (fun r55 S54 h => ?_)
  obtain ⟨hb56, h⟩ := h
  refine G_istore C (i := 4) (lv' := [(4, Value.int r55), (0, va_rf (some x0)), (1, Value.int x1), (2, Value.int x2), (3, Value.int x3)]) dX9_fill_6 (by decide) (by first | rfl | simp [va_cat, vi_cat, vl_cat]) ?_
  refine G_iload C (x := r55) 0 dX9_fill_8 rfl ?_
  refine G_if_eq C (tgt := 27) dX9_fill_10 (by decide) (fun hc => ?_) (fun hc => ?_)
  · have h := h.1 hc
    refine G_iconst C (v := 0) dX9_fill_27 (by decide) ?_
    refine G_lv C (lv' := [(0, va_rf (some x0)), (1, Value.int x1), (3, Value.int x3), (4, Value.int r55)]) [1, 2, 4, 0] rfl ?_
    exact J28 _ _ _ h
  · have h := h.2 hc
    refine G_bipush C (v := 40) dX9_fill_13 (by decide) ?_
    refine G_aload_n C (x := (some x0)) 1 dX9_fill_15 rfl rfl ?_
    obtain ⟨hk57, h⟩ := h
    refine G_get C (CC := RX9) (Tf := TX9) (N := 50) (k := 10) (i := 25) (v := va_rf (gP S54 1025 x0)) hk57 (by decide) rfl (fin fwX9) (by decide) (im tw_5_153) rfl rfl dX9_fill_16 ?_
    refine G_iload_n C (x := x1) 2 dX9_fill_19 rfl rfl ?_
    obtain ⟨a58, ha59, h⟩ := h
    refine G_rf1 ha59 ?_
    obtain ⟨hk60, h⟩ := h
    obtain ⟨hi61, h⟩ := h
    refine G_iald C hk60 hi61 dX9_fill_20 ?_
    refine G_imul C dX9_fill_21 ?_
    refine G_iload_n C (x := x2) 3 dX9_fill_22 rfl rfl ?_
    refine G_iadd C dX9_fill_23 ?_
    refine G_goto C (tgt := 28) dX9_fill_24 (by decide) ?_
    refine G_lv C (lv' := [(0, va_rf (some x0)), (1, Value.int x1), (3, Value.int x3), (4, Value.int r55)]) [1, 2, 4, 0] rfl ?_
    exact J28 _ _ _ h
set_option maxHeartbeats 4000000 in
set_option maxRecDepth 100000 in
theorem c_X9_plate (l : Launch) (D : va_G) (cy : Nat → Nat) (x0 : Nat) (x1 : Int32) (S : PT) (post : Int32 → PT → Prop) (h : w_X9_plate x0 x1 S post) : Mi l yX9_plate (Wm yX9_plate prog_11_method_49_code 3 (Option.some Jvm.ClassFile.FieldType.boolean)) 2 43 D cy [va_rf (some x0), Value.int x1] S 0 0 (fun r S => bo r ∧ post r S) := by
  refine Mi_of (own := "TrenchboardModel") (by decide) rfl (by first | decide | simp [lg_sl, va_cat, vi_cat, vl_cat]) (fun p e s m below meth c A C hZ hr hin9 => ?_)
  have J57 : ∀ (S : PT) (s0 : Option Nat) (s1 : Int32) (s2 : Int32), w_X9_plate_b57 x0 x1 post S s0 s1 s2 → G p l e { frames := 2, cells := 0, slots := 0, locals := 43 } s m [va_rf (some x0), Value.int x1].toArray below meth c D cy A s.heap 3 (QMi below D cy A [va_rf (some x0), Value.int x1] s 0 0 (fun r S => bo r ∧ post r S)) S 0 0 57 [(0, va_rf (some x0)), (1, Value.int x1)] [Value.int s2, Value.int s1, va_rf s0] := by
    intro S s0 s1 s2 h
    unfold w_X9_plate_b57 at h
    obtain ⟨a1, ha2, h⟩ := h
    refine G_rf2 ha2 ?_
    obtain ⟨hk3, h⟩ := h
    obtain ⟨hb4, h⟩ := h
    obtain ⟨hi5, h⟩ := h
    refine G_zast C hk3 hb4 hi5 dX9_plate_57 ?_
    generalize e7 : sA S a1 ((s1).toNatClampNeg) s2 = S6
    have h := h S6 e7.symm
    refine G_aload_n C (x := (some x0)) 0 dX9_plate_58 rfl rfl ?_
    obtain ⟨hk8, h⟩ := h
    refine G_get C (CC := RX9) (Tf := TX9) (N := 50) (k := 10) (i := 37) (v := va_rf (gP S6 1037 x0)) hk8 (by decide) rfl (fin fwX9) (by decide) (im tw_5_165) rfl rfl dX9_plate_59 ?_
    refine G_iload_n C (x := x1) 1 dX9_plate_62 rfl rfl ?_
    obtain ⟨a9, ha10, h⟩ := h
    refine G_rf1 ha10 ?_
    obtain ⟨hk11, h⟩ := h
    obtain ⟨hi12, h⟩ := h
    refine G_zald C hk11 hi12 dX9_plate_63 ?_
    obtain ⟨hb13, h⟩ := h
    exact G_zret C (mc := 0) (ms := 0) (post := (fun r S => bo r ∧ post r S)) (bo_nar hb13) hr (Nat.le_of_ble_eq_true rfl) (Nat.le_of_ble_eq_true rfl) dX9_plate_64 ⟨hb13, h⟩
  have J30 : ∀ (S : PT) (s0 : Option Nat) (s1 : Int32), w_X9_plate_b30 x0 x1 post S s0 s1 → G p l e { frames := 2, cells := 0, slots := 0, locals := 43 } s m [va_rf (some x0), Value.int x1].toArray below meth c D cy A s.heap 3 (QMi below D cy A [va_rf (some x0), Value.int x1] s 0 0 (fun r S => bo r ∧ post r S)) S 0 0 30 [(0, va_rf (some x0)), (1, Value.int x1)] [Value.int s1, va_rf s0] := by
    intro S s0 s1 h
    unfold w_X9_plate_b30 at h
    obtain ⟨a14, ha15, h⟩ := h
    obtain ⟨hk16, h⟩ := h
    refine G_callVi C hZ (Tf := TX9) (N := 50) hk16 (by decide) rfl tw_6_56 tw_6_58 tw_0_29 tw_1_7 tw_6_59 hy_X9_goes ⟨Nat.le_of_ble_eq_true rfl, Nat.le_of_ble_eq_true rfl⟩ (As := [Value.int s1]) (rest := []) (c_X9_goes l D cy a14 s1 S _ h) rfl (by first | rfl | (simp only [ha15]; rfl) | simp only [ha15]) (by simp [va_cat, vi_cat, vl_cat]) dX9_plate_30 ⟨Nat.le_of_ble_eq_true rfl, Nat.le_of_ble_eq_true rfl⟩ (fun r18 S17 h => ?_)
    obtain ⟨hb19, h⟩ := h
    refine G_if_ne C (tgt := 38) dX9_plate_33 (by decide) (fun hc => ?_) (fun hc => ?_)
    · have h := h.1 hc
      refine G_aload_n C (x := (some x0)) 0 dX9_plate_38 rfl rfl ?_
      obtain ⟨hk20, h⟩ := h
      refine G_get C (CC := RX9) (Tf := TX9) (N := 50) (k := 10) (i := 37) (v := va_rf (gP S17 1037 x0)) hk20 (by decide) rfl (fin fwX9) (by decide) (im tw_5_165) rfl rfl dX9_plate_39 ?_
      refine G_iload_n C (x := x1) 1 dX9_plate_42 rfl rfl ?_
      refine G_aload_n C (x := (some x0)) 0 dX9_plate_43 rfl rfl ?_
      refine G_get C (CC := RX9) (Tf := TX9) (N := 50) (k := 10) (i := 37) (v := va_rf (gP S17 1037 x0)) hk20 (by decide) rfl (fin fwX9) (by decide) (im tw_5_165) rfl rfl dX9_plate_44 ?_
      refine G_iload_n C (x := x1) 1 dX9_plate_47 rfl rfl ?_
      obtain ⟨a21, ha22, h⟩ := h
      refine G_rf1 ha22 ?_
      obtain ⟨hk23, h⟩ := h
      obtain ⟨hi24, h⟩ := h
      refine G_zald C hk23 hi24 dX9_plate_48 ?_
      refine G_if_ne C (tgt := 56) dX9_plate_49 (by decide) (fun hc => ?_) (fun hc => ?_)
      · have h := h.1 hc
        refine G_iconst C (v := 0) dX9_plate_56 (by decide) ?_
        refine G_lv C (lv' := [(0, va_rf (some x0)), (1, Value.int x1)]) [0, 1] rfl ?_
        exact J57 _ _ _ _ h
      · have h := h.2 hc
        refine G_iconst C (v := 1) dX9_plate_52 (by decide) ?_
        refine G_goto C (tgt := 57) dX9_plate_53 (by decide) ?_
        refine G_lv C (lv' := [(0, va_rf (some x0)), (1, Value.int x1)]) [0, 1] rfl ?_
        exact J57 _ _ _ _ h
    · have h := h.2 hc
      refine G_iconst C (v := 0) dX9_plate_36 (by decide) ?_
      exact G_zret C (mc := 0) (ms := 0) (post := (fun r S => bo r ∧ post r S)) (bo_nar bo_0) hr (Nat.le_of_ble_eq_true rfl) (Nat.le_of_ble_eq_true rfl) dX9_plate_37 ⟨bo_0, h⟩
  refine G_lv C (lv' := [(0, va_rf (some x0)), (1, Value.int x1)]) [0, 1] (by first | rfl | simp [lv_pick, lv_args, va_cat, vi_cat, vl_cat]) ?_
  unfold w_X9_plate at h
  refine G_aload_n C (x := (some x0)) 0 dX9_plate_0 rfl rfl ?_
  refine G_iload_n C (x := x1) 1 dX9_plate_1 rfl rfl ?_
  obtain ⟨hk25, h⟩ := h
  refine G_callVi C hZ (Tf := TX9) (N := 50) hk25 (by decide) rfl tw_6_146 tw_6_148 tw_0_41 tw_1_7 tw_6_149 hy_X9_areWorks ⟨Nat.le_of_ble_eq_true rfl, Nat.le_of_ble_eq_true rfl⟩ (As := [Value.int x1]) (rest := []) (c_X9_areWorks l D cy x0 x1 S _ h) rfl rfl (by simp [va_cat, vi_cat, vl_cat]) dX9_plate_2 ⟨Nat.le_of_ble_eq_true rfl, Nat.le_of_ble_eq_true rfl⟩ (fun r27 S26 h => ?_)
  obtain ⟨hb28, h⟩ := h
  refine G_istore_n C (i := 2) (lv' := [(2, Value.int r27), (0, va_rf (some x0)), (1, Value.int x1)]) dX9_plate_5 rfl (by decide) (by first | rfl | simp [va_cat, vi_cat, vl_cat]) ?_
  refine G_aload_n C (x := (some x0)) 1 dX9_plate_6 rfl rfl ?_
  refine G_iload_n C (x := r27) 0 dX9_plate_7 rfl rfl ?_
  refine G_if_ne C (tgt := 15) dX9_plate_8 (by decide) (fun hc => ?_) (fun hc => ?_)
  · have h := h.1 hc
    refine G_aload_n C (x := (some x0)) 1 dX9_plate_15 rfl rfl ?_
    obtain ⟨hk29, h⟩ := h
    refine G_get C (CC := RX9) (Tf := TX9) (N := 50) (k := 10) (i := 33) (v := va_rf (gP S26 1033 x0)) hk29 (by decide) rfl (fin fwX9) (by decide) (im tw_5_161) rfl rfl dX9_plate_16 ?_
    refine G_iload_n C (x := x1) 2 dX9_plate_19 rfl rfl ?_
    obtain ⟨a30, ha31, h⟩ := h
    refine G_rf1 ha31 ?_
    obtain ⟨hk32, h⟩ := h
    obtain ⟨hi33, h⟩ := h
    refine G_iald C hk32 hi33 dX9_plate_20 ?_
    refine G_iconst C (v := 3) dX9_plate_21 (by decide) ?_
    refine G_icmp_ne C (tgt := 29) dX9_plate_22 (by decide) (fun hc => ?_) (fun hc => ?_)
    · have h := h.1 hc
      refine G_iconst C (v := 2) dX9_plate_29 (by decide) ?_
      refine G_lv C (lv' := [(0, va_rf (some x0)), (1, Value.int x1)]) [1, 2] rfl ?_
      exact J30 _ _ _ h
    · have h := h.2 hc
      refine G_iconst C (v := 0) dX9_plate_25 (by decide) ?_
      refine G_goto C (tgt := 30) dX9_plate_26 (by decide) ?_
      refine G_lv C (lv' := [(0, va_rf (some x0)), (1, Value.int x1)]) [1, 2] rfl ?_
      exact J30 _ _ _ h
  · have h := h.2 hc
    refine G_iconst C (v := 1) dX9_plate_11 (by decide) ?_
    refine G_goto C (tgt := 30) dX9_plate_12 (by decide) ?_
    refine G_lv C (lv' := [(0, va_rf (some x0)), (1, Value.int x1)]) [1, 2] rfl ?_
    exact J30 _ _ _ h
set_option maxHeartbeats 4000000 in
set_option maxRecDepth 100000 in
theorem c_X9_extend (l : Launch) (D : va_G) (cy : Nat → Nat) (x0 : Nat) (x1 : Int32) (S : PT) (post : Int32 → PT → Prop) (h : w_X9_extend x0 x1 S post) : Mi l yX9_extend (Wm yX9_extend prog_11_method_50_code 5 (Option.some Jvm.ClassFile.FieldType.int)) 5 112 D cy [va_rf (some x0), Value.int x1] S 0 0 post := by
  refine Mi_of (own := "TrenchboardModel") (by decide) rfl (by first | decide | simp [lg_sl, va_cat, vi_cat, vl_cat]) (fun p e s m below meth c A C hZ hr hin9 => ?_)
  have J106 : ∀ (S : PT) (s0 : Option Nat) (s1 : Int32), w_X9_extend_b106 x0 x1 post S s0 s1 → G p l e { frames := 5, cells := 0, slots := 0, locals := 112 } s m [va_rf (some x0), Value.int x1].toArray below meth c D cy A s.heap 5 (QMi below D cy A [va_rf (some x0), Value.int x1] s 0 0 post) S 0 0 106 [(0, va_rf (some x0)), (1, Value.int x1)] [Value.int s1, va_rf s0] := by
    intro S s0 s1 h
    unfold w_X9_extend_b106 at h
    obtain ⟨a1, ha2, h⟩ := h
    obtain ⟨hk3, h⟩ := h
    refine G_callVi C hZ (Tf := TX9) (N := 50) hk3 (by decide) rfl tw_6_56 tw_6_58 tw_0_29 tw_1_7 tw_6_59 hy_X9_goes ⟨Nat.le_of_ble_eq_true rfl, Nat.le_of_ble_eq_true rfl⟩ (As := [Value.int s1]) (rest := []) (c_X9_goes l D cy a1 s1 S _ h) rfl (by first | rfl | (simp only [ha2]; rfl) | simp only [ha2]) (by simp [va_cat, vi_cat, vl_cat]) dX9_extend_106 ⟨Nat.le_of_ble_eq_true rfl, Nat.le_of_ble_eq_true rfl⟩ (fun r5 S4 h => ?_)
    obtain ⟨hb6, h⟩ := h
    refine G_if_ne C (tgt := 114) dX9_extend_109 (by decide) (fun hc => ?_) (fun hc => ?_)
    · have h := h.1 hc
      refine G_aload_n C (x := (some x0)) 0 dX9_extend_114 rfl rfl ?_
      obtain ⟨hk7, h⟩ := h
      refine G_get C (CC := RX9) (Tf := TX9) (N := 50) (k := 10) (i := 36) (v := va_rf (gP S4 1036 x0)) hk7 (by decide) rfl (fin fwX9) (by decide) (im tw_5_164) rfl rfl dX9_extend_115 ?_
      refine G_iload_n C (x := x1) 1 dX9_extend_118 rfl rfl ?_
      refine G_dup2 C dX9_extend_119 rfl (va_cat _) ?_
      obtain ⟨a8, ha9, h⟩ := h
      refine G_rf1 ha9 ?_
      obtain ⟨hk10, h⟩ := h
      obtain ⟨hi11, h⟩ := h
      refine G_iald C hk10 hi11 dX9_extend_120 ?_
      refine G_iconst C (v := 1) dX9_extend_121 (by decide) ?_
      refine G_isub C dX9_extend_122 ?_
      refine G_rf2 ha9 ?_
      obtain ⟨hi12, h⟩ := h
      refine G_iast C hk10 hi12 dX9_extend_123 ?_
      generalize e14 : sA S4 a8 ((x1).toNatClampNeg) ((gA S4 a8 x1.toNatClampNeg) - 1) = S13
      have h := h S13 e14.symm
      refine G_aload_n C (x := (some x0)) 0 dX9_extend_124 rfl rfl ?_
      refine G_iload_n C (x := x1) 1 dX9_extend_125 rfl rfl ?_
      refine G_callVi C hZ (Tf := TX9) (N := 50) (ksA e14.symm hk7) (by decide) rfl tw_6_84 tw_6_86 tw_0_34 tw_1_7 tw_6_87 hy_X9_lastDay ⟨Nat.le_of_ble_eq_true rfl, Nat.le_of_ble_eq_true rfl⟩ (As := [Value.int x1]) (rest := []) (c_X9_lastDay l D cy x0 x1 S13 _ h) rfl rfl (by simp [va_cat, vi_cat, vl_cat]) dX9_extend_126 ⟨Nat.le_of_ble_eq_true rfl, Nat.le_of_ble_eq_true rfl⟩ (fun r16 S15 h => ?_)
      exact G_iret C (mc := 0) (ms := 0) (post := post) hr (Nat.le_of_ble_eq_true rfl) (Nat.le_of_ble_eq_true rfl) dX9_extend_129 h
    · have h := h.2 hc
      refine G_iconst C (v := 0) dX9_extend_112 (by decide) ?_
      exact G_iret C (mc := 0) (ms := 0) (post := post) hr (Nat.le_of_ble_eq_true rfl) (Nat.le_of_ble_eq_true rfl) dX9_extend_113 h
  have J101 : ∀ (S : PT) (s0 : Option Nat), w_X9_extend_b101 x0 x1 post S s0 → G p l e { frames := 5, cells := 0, slots := 0, locals := 112 } s m [va_rf (some x0), Value.int x1].toArray below meth c D cy A s.heap 5 (QMi below D cy A [va_rf (some x0), Value.int x1] s 0 0 post) S 0 0 101 [(0, va_rf (some x0)), (1, Value.int x1)] [va_rf s0] := by
    intro S s0 h
    unfold w_X9_extend_b101 at h
    refine G_iconst C (v := 2) dX9_extend_101 (by decide) ?_
    refine G_goto C (tgt := 106) dX9_extend_102 (by decide) ?_
    refine G_lv C (lv' := [(0, va_rf (some x0)), (1, Value.int x1)]) [0, 1] rfl ?_
    exact J106 _ _ _ h
  have J83 : ∀ (S : PT) (v2 : Int32) (v3 : Int32) (v4 : Int32), w_X9_extend_b83 x0 x1 post S v2 v3 v4 → G p l e { frames := 5, cells := 0, slots := 0, locals := 112 } s m [va_rf (some x0), Value.int x1].toArray below meth c D cy A s.heap 5 (QMi below D cy A [va_rf (some x0), Value.int x1] s 0 0 post) S 0 0 83 [(0, va_rf (some x0)), (1, Value.int x1), (2, Value.int v2), (3, Value.int v3), (4, Value.int v4)] [] := by
    intro S v2 v3 v4 h
    unfold w_X9_extend_b83 at h
    refine G_aload_n C (x := (some x0)) 0 dX9_extend_83 rfl rfl ?_
    refine G_iload_n C (x := v2) 2 dX9_extend_84 rfl rfl ?_
    refine G_if_ne C (tgt := 92) dX9_extend_85 (by decide) (fun hc => ?_) (fun hc => ?_)
    · have h := h.1 hc
      refine G_iload_n C (x := v3) 3 dX9_extend_92 rfl rfl ?_
      refine G_if_eq C (tgt := 101) dX9_extend_93 (by decide) (fun hc => ?_) (fun hc => ?_)
      · have h := h.1 hc
        refine G_lv C (lv' := [(0, va_rf (some x0)), (1, Value.int x1)]) [0, 1] rfl ?_
        exact J101 _ _ h
      · have h := h.2 hc
        refine G_iload C (x := v4) 4 dX9_extend_96 rfl ?_
        refine G_if_eq C (tgt := 105) dX9_extend_98 (by decide) (fun hc => ?_) (fun hc => ?_)
        · have h := h.1 hc
          refine G_iconst C (v := 0) dX9_extend_105 (by decide) ?_
          refine G_lv C (lv' := [(0, va_rf (some x0)), (1, Value.int x1)]) [0, 1] rfl ?_
          exact J106 _ _ _ h
        · have h := h.2 hc
          refine G_lv C (lv' := [(0, va_rf (some x0)), (1, Value.int x1)]) [0, 1] rfl ?_
          exact J101 _ _ h
    · have h := h.2 hc
      refine G_iconst C (v := 1) dX9_extend_88 (by decide) ?_
      refine G_goto C (tgt := 106) dX9_extend_89 (by decide) ?_
      refine G_lv C (lv' := [(0, va_rf (some x0)), (1, Value.int x1)]) [0, 1] rfl ?_
      exact J106 _ _ _ h
  have J66 : ∀ (S : PT) (v2 : Int32) (v3 : Int32) (s0 : Int32), w_X9_extend_b66 x0 x1 post S v2 v3 s0 → G p l e { frames := 5, cells := 0, slots := 0, locals := 112 } s m [va_rf (some x0), Value.int x1].toArray below meth c D cy A s.heap 5 (QMi below D cy A [va_rf (some x0), Value.int x1] s 0 0 post) S 0 0 66 [(0, va_rf (some x0)), (1, Value.int x1), (2, Value.int v2), (3, Value.int v3)] [Value.int s0] := by
    intro S v2 v3 s0 h
    unfold w_X9_extend_b66 at h
    refine G_istore C (i := 4) (lv' := [(4, Value.int s0), (0, va_rf (some x0)), (1, Value.int x1), (2, Value.int v2), (3, Value.int v3)]) dX9_extend_66 (by decide) (by first | rfl | simp [va_cat, vi_cat, vl_cat]) ?_
    refine G_iload C (x := s0) 0 dX9_extend_68 rfl ?_
    refine G_if_eq C (tgt := 83) dX9_extend_70 (by decide) (fun hc => ?_) (fun hc => ?_)
    · have h := h.1 hc
      refine G_lv C (lv' := [(0, va_rf (some x0)), (1, Value.int x1), (2, Value.int v2), (3, Value.int v3), (4, Value.int s0)]) [1, 2, 3, 4, 0] rfl ?_
      exact J83 _ _ _ _ h
    · have h := h.2 hc
      refine G_aload_n C (x := (some x0)) 1 dX9_extend_73 rfl rfl ?_
      obtain ⟨hk17, h⟩ := h
      refine G_get C (CC := RX9) (Tf := TX9) (N := 50) (k := 10) (i := 31) (v := va_rf (gP S 1031 x0)) hk17 (by decide) rfl (fin fwX9) (by decide) (im tw_5_159) rfl rfl dX9_extend_74 ?_
      refine G_iload_n C (x := x1) 2 dX9_extend_77 rfl rfl ?_
      refine G_dup2 C dX9_extend_78 rfl (va_cat _) ?_
      obtain ⟨a18, ha19, h⟩ := h
      refine G_rf1 ha19 ?_
      obtain ⟨hk20, h⟩ := h
      obtain ⟨hi21, h⟩ := h
      refine G_iald C hk20 hi21 dX9_extend_79 ?_
      refine G_iconst C (v := 2) dX9_extend_80 (by decide) ?_
      refine G_isub C dX9_extend_81 ?_
      refine G_rf2 ha19 ?_
      obtain ⟨hi22, h⟩ := h
      refine G_iast C hk20 hi22 dX9_extend_82 ?_
      generalize e24 : sA S a18 ((x1).toNatClampNeg) ((gA S a18 x1.toNatClampNeg) - 2) = S23
      have h := h S23 e24.symm
      refine G_lv C (lv' := [(0, va_rf (some x0)), (1, Value.int x1), (2, Value.int v2), (3, Value.int v3), (4, Value.int s0)]) [1, 2, 3, 4, 0] rfl ?_
      exact J83 _ _ _ _ h
  have J65 : ∀ (S : PT) (v2 : Int32) (v3 : Int32), w_X9_extend_b65 x0 x1 post S v2 v3 → G p l e { frames := 5, cells := 0, slots := 0, locals := 112 } s m [va_rf (some x0), Value.int x1].toArray below meth c D cy A s.heap 5 (QMi below D cy A [va_rf (some x0), Value.int x1] s 0 0 post) S 0 0 65 [(0, va_rf (some x0)), (1, Value.int x1), (2, Value.int v2), (3, Value.int v3)] [] := by
    intro S v2 v3 h
    unfold w_X9_extend_b65 at h
    refine G_iconst C (v := 0) dX9_extend_65 (by decide) ?_
    refine G_lv C (lv' := [(0, va_rf (some x0)), (1, Value.int x1), (2, Value.int v2), (3, Value.int v3)]) [0, 1, 2, 3] rfl ?_
    exact J66 _ _ _ _ h
  have J49 : ∀ (S : PT) (v2 : Int32) (v3 : Int32), w_X9_extend_b49 x0 x1 post S v2 v3 → G p l e { frames := 5, cells := 0, slots := 0, locals := 112 } s m [va_rf (some x0), Value.int x1].toArray below meth c D cy A s.heap 5 (QMi below D cy A [va_rf (some x0), Value.int x1] s 0 0 post) S 0 0 49 [(0, va_rf (some x0)), (1, Value.int x1), (2, Value.int v2), (3, Value.int v3)] [] := by
    intro S v2 v3 h
    unfold w_X9_extend_b49 at h
    refine G_iload_n C (x := v3) 3 dX9_extend_49 rfl rfl ?_
    refine G_if_eq C (tgt := 65) dX9_extend_50 (by decide) (fun hc => ?_) (fun hc => ?_)
    · have h := h.1 hc
      refine G_lv C (lv' := [(0, va_rf (some x0)), (1, Value.int x1), (2, Value.int v2), (3, Value.int v3)]) [0, 1, 2, 3] rfl ?_
      exact J65 _ _ _ h
    · have h := h.2 hc
      refine G_aload_n C (x := (some x0)) 0 dX9_extend_53 rfl rfl ?_
      refine G_iload_n C (x := x1) 1 dX9_extend_54 rfl rfl ?_
      obtain ⟨hk25, h⟩ := h
      refine G_callVi C hZ (Tf := TX9) (N := 50) hk25 (by decide) rfl tw_6_154 tw_6_156 tw_0_43 tw_1_7 tw_6_157 hy_X9_meetsOn ⟨Nat.le_of_ble_eq_true rfl, Nat.le_of_ble_eq_true rfl⟩ (As := [Value.int x1]) (rest := []) (c_X9_meetsOn l D cy x0 x1 S _ h) rfl rfl (by simp [va_cat, vi_cat, vl_cat]) dX9_extend_55 ⟨Nat.le_of_ble_eq_true rfl, Nat.le_of_ble_eq_true rfl⟩ (fun r27 S26 h => ?_)
      obtain ⟨hb28, h⟩ := h
      refine G_if_eq C (tgt := 65) dX9_extend_58 (by decide) (fun hc => ?_) (fun hc => ?_)
      · have h := h.1 hc
        refine G_lv C (lv' := [(0, va_rf (some x0)), (1, Value.int x1), (2, Value.int v2), (3, Value.int v3)]) [0, 1, 2, 3] rfl ?_
        exact J65 _ _ _ h
      · have h := h.2 hc
        refine G_iconst C (v := 1) dX9_extend_61 (by decide) ?_
        refine G_goto C (tgt := 66) dX9_extend_62 (by decide) ?_
        refine G_lv C (lv' := [(0, va_rf (some x0)), (1, Value.int x1), (2, Value.int v2), (3, Value.int v3)]) [0, 1, 2, 3] rfl ?_
        exact J66 _ _ _ _ h
  have J34 : ∀ (S : PT) (v2 : Int32) (s0 : Int32), w_X9_extend_b34 x0 x1 post S v2 s0 → G p l e { frames := 5, cells := 0, slots := 0, locals := 112 } s m [va_rf (some x0), Value.int x1].toArray below meth c D cy A s.heap 5 (QMi below D cy A [va_rf (some x0), Value.int x1] s 0 0 post) S 0 0 34 [(0, va_rf (some x0)), (1, Value.int x1), (2, Value.int v2)] [Value.int s0] := by
    intro S v2 s0 h
    unfold w_X9_extend_b34 at h
    refine G_istore_n C (i := 3) (lv' := [(3, Value.int s0), (0, va_rf (some x0)), (1, Value.int x1), (2, Value.int v2)]) dX9_extend_34 rfl (by decide) (by first | rfl | simp [va_cat, vi_cat, vl_cat]) ?_
    refine G_iload_n C (x := s0) 0 dX9_extend_35 rfl rfl ?_
    refine G_if_eq C (tgt := 49) dX9_extend_36 (by decide) (fun hc => ?_) (fun hc => ?_)
    · have h := h.1 hc
      refine G_lv C (lv' := [(0, va_rf (some x0)), (1, Value.int x1), (2, Value.int v2), (3, Value.int s0)]) [1, 2, 3, 0] rfl ?_
      exact J49 _ _ _ h
    · have h := h.2 hc
      refine G_aload_n C (x := (some x0)) 1 dX9_extend_39 rfl rfl ?_
      obtain ⟨hk29, h⟩ := h
      refine G_get C (CC := RX9) (Tf := TX9) (N := 50) (k := 10) (i := 31) (v := va_rf (gP S 1031 x0)) hk29 (by decide) rfl (fin fwX9) (by decide) (im tw_5_159) rfl rfl dX9_extend_40 ?_
      refine G_iload_n C (x := x1) 2 dX9_extend_43 rfl rfl ?_
      refine G_dup2 C dX9_extend_44 rfl (va_cat _) ?_
      obtain ⟨a30, ha31, h⟩ := h
      refine G_rf1 ha31 ?_
      obtain ⟨hk32, h⟩ := h
      obtain ⟨hi33, h⟩ := h
      refine G_iald C hk32 hi33 dX9_extend_45 ?_
      refine G_iconst C (v := 2) dX9_extend_46 (by decide) ?_
      refine G_iadd C dX9_extend_47 ?_
      refine G_rf2 ha31 ?_
      obtain ⟨hi34, h⟩ := h
      refine G_iast C hk32 hi34 dX9_extend_48 ?_
      generalize e36 : sA S a30 ((x1).toNatClampNeg) ((gA S a30 x1.toNatClampNeg) + 2) = S35
      have h := h S35 e36.symm
      refine G_lv C (lv' := [(0, va_rf (some x0)), (1, Value.int x1), (2, Value.int v2), (3, Value.int s0)]) [1, 2, 3, 0] rfl ?_
      exact J49 _ _ _ h
  have J33 : ∀ (S : PT) (v2 : Int32), w_X9_extend_b33 x0 x1 post S v2 → G p l e { frames := 5, cells := 0, slots := 0, locals := 112 } s m [va_rf (some x0), Value.int x1].toArray below meth c D cy A s.heap 5 (QMi below D cy A [va_rf (some x0), Value.int x1] s 0 0 post) S 0 0 33 [(0, va_rf (some x0)), (1, Value.int x1), (2, Value.int v2)] [] := by
    intro S v2 h
    unfold w_X9_extend_b33 at h
    refine G_iconst C (v := 0) dX9_extend_33 (by decide) ?_
    refine G_lv C (lv' := [(0, va_rf (some x0)), (1, Value.int x1), (2, Value.int v2)]) [0, 1, 2] rfl ?_
    exact J34 _ _ _ h
  refine G_lv C (lv' := [(0, va_rf (some x0)), (1, Value.int x1)]) [0, 1] (by first | rfl | simp [lv_pick, lv_args, va_cat, vi_cat, vl_cat]) ?_
  unfold w_X9_extend at h
  refine G_aload_n C (x := (some x0)) 0 dX9_extend_0 rfl rfl ?_
  refine G_iload_n C (x := x1) 1 dX9_extend_1 rfl rfl ?_
  obtain ⟨hk37, h⟩ := h
  refine G_callVi C hZ (Tf := TX9) (N := 50) hk37 (by decide) rfl tw_6_146 tw_6_148 tw_0_41 tw_1_7 tw_6_149 hy_X9_areWorks ⟨Nat.le_of_ble_eq_true rfl, Nat.le_of_ble_eq_true rfl⟩ (As := [Value.int x1]) (rest := []) (c_X9_areWorks l D cy x0 x1 S _ h) rfl rfl (by simp [va_cat, vi_cat, vl_cat]) dX9_extend_2 ⟨Nat.le_of_ble_eq_true rfl, Nat.le_of_ble_eq_true rfl⟩ (fun r39 S38 h => ?_)
  obtain ⟨hb40, h⟩ := h
  refine G_istore_n C (i := 2) (lv' := [(2, Value.int r39), (0, va_rf (some x0)), (1, Value.int x1)]) dX9_extend_5 rfl (by decide) (by first | rfl | simp [va_cat, vi_cat, vl_cat]) ?_
  refine G_iload_n C (x := r39) 0 dX9_extend_6 rfl rfl ?_
  refine G_if_eq C (tgt := 33) dX9_extend_7 (by decide) (fun hc => ?_) (fun hc => ?_)
  · have h := h.1 hc
    refine G_lv C (lv' := [(0, va_rf (some x0)), (1, Value.int x1), (2, Value.int r39)]) [1, 2, 0] rfl ?_
    exact J33 _ _ h
  · have h := h.2 hc
    refine G_aload_n C (x := (some x0)) 1 dX9_extend_10 rfl rfl ?_
    obtain ⟨hk41, h⟩ := h
    refine G_get C (CC := RX9) (Tf := TX9) (N := 50) (k := 10) (i := 33) (v := va_rf (gP S38 1033 x0)) hk41 (by decide) rfl (fin fwX9) (by decide) (im tw_5_161) rfl rfl dX9_extend_11 ?_
    refine G_iload_n C (x := x1) 2 dX9_extend_14 rfl rfl ?_
    obtain ⟨a42, ha43, h⟩ := h
    refine G_rf1 ha43 ?_
    obtain ⟨hk44, h⟩ := h
    obtain ⟨hi45, h⟩ := h
    refine G_iald C hk44 hi45 dX9_extend_15 ?_
    refine G_iconst C (v := 3) dX9_extend_16 (by decide) ?_
    refine G_icmp_ne C (tgt := 33) dX9_extend_17 (by decide) (fun hc => ?_) (fun hc => ?_)
    · have h := h.1 hc
      refine G_lv C (lv' := [(0, va_rf (some x0)), (1, Value.int x1), (2, Value.int r39)]) [1, 2, 0] rfl ?_
      exact J33 _ _ h
    · have h := h.2 hc
      refine G_aload_n C (x := (some x0)) 1 dX9_extend_20 rfl rfl ?_
      refine G_get C (CC := RX9) (Tf := TX9) (N := 50) (k := 10) (i := 36) (v := va_rf (gP S38 1036 x0)) hk41 (by decide) rfl (fin fwX9) (by decide) (im tw_5_164) rfl rfl dX9_extend_21 ?_
      refine G_iload_n C (x := x1) 2 dX9_extend_24 rfl rfl ?_
      obtain ⟨a46, ha47, h⟩ := h
      refine G_rf1 ha47 ?_
      obtain ⟨hk48, h⟩ := h
      obtain ⟨hi49, h⟩ := h
      refine G_iald C hk48 hi49 dX9_extend_25 ?_
      refine G_if_le C (tgt := 33) dX9_extend_26 (by decide) (fun hc => ?_) (fun hc => ?_)
      · have h := h.1 hc
        refine G_lv C (lv' := [(0, va_rf (some x0)), (1, Value.int x1), (2, Value.int r39)]) [1, 2, 0] rfl ?_
        exact J33 _ _ h
      · have h := h.2 hc
        refine G_iconst C (v := 1) dX9_extend_29 (by decide) ?_
        refine G_goto C (tgt := 34) dX9_extend_30 (by decide) ?_
        refine G_lv C (lv' := [(0, va_rf (some x0)), (1, Value.int x1), (2, Value.int r39)]) [1, 2, 0] rfl ?_
        exact J34 _ _ _ h
set_option maxHeartbeats 4000000 in
set_option maxRecDepth 100000 in
theorem c_X9_openOf (l : Launch) (D : va_G) (cy : Nat → Nat) (x0 : Nat) (x1 : Int32) (S : PT) (post : Int32 → PT → Prop) (h : w_X9_openOf x0 x1 S post) : Mi l yX9_openOf (Wm yX9_openOf prog_11_method_51_code 4 (Option.some Jvm.ClassFile.FieldType.int)) 0 0 D cy [va_rf (some x0), Value.int x1] S 0 0 post := by
  refine Mi_of (own := "TrenchboardModel") (by decide) rfl (by first | decide | simp [lg_sl, va_cat, vi_cat, vl_cat]) (fun p e s m below meth c A C hZ hr hin9 => ?_)
  have J4 : ∀ (n : Nat) (S : PT) (v2 : Int32) (v3 : Int32), w_X9_openOf_l4 x0 x1 post n S v2 v3 → G p l e { frames := 0, cells := 0, slots := 0, locals := 0 } s m [va_rf (some x0), Value.int x1].toArray below meth c D cy A s.heap 4 (QMi below D cy A [va_rf (some x0), Value.int x1] s 0 0 post) S 0 0 4 [(0, va_rf (some x0)), (1, Value.int x1), (2, Value.int v2), (3, Value.int v3)] [] := by
    intro n4
    induction n4 with
    | zero => intro S v2 v3 h; rw [w_X9_openOf_l4] at h; exact False.elim h
    | succ n4 K4 =>
      have J27 : ∀ (S : PT) (v3 : Int32) (s0 : Int32) (s1 : Int32), w_X9_openOf_b27 x0 x1 post (w_X9_openOf_l4 x0 x1 post n4) S v3 s0 s1 → G p l e { frames := 0, cells := 0, slots := 0, locals := 0 } s m [va_rf (some x0), Value.int x1].toArray below meth c D cy A s.heap 4 (QMi below D cy A [va_rf (some x0), Value.int x1] s 0 0 post) S 0 0 27 [(0, va_rf (some x0)), (1, Value.int x1), (3, Value.int v3)] [Value.int s1, Value.int s0] := by
        intro S v3 s0 s1 h
        unfold w_X9_openOf_b27 at h
        refine G_iadd C dX9_openOf_27 ?_
        refine G_istore_n C (i := 2) (lv' := [(2, Value.int (s0 + s1)), (0, va_rf (some x0)), (1, Value.int x1), (3, Value.int v3)]) dX9_openOf_28 rfl (by decide) (by first | rfl | simp [va_cat, vi_cat, vl_cat]) ?_
        refine G_iinc C (v := (v3 + 1)) (lv' := [(3, Value.int (v3 + 1)), (2, Value.int (s0 + s1)), (0, va_rf (some x0)), (1, Value.int x1)]) 3 dX9_openOf_29 rfl rfl (by decide) (by first | rfl | simp [va_cat, vi_cat, vl_cat]) ?_
        refine G_goto C (tgt := 4) dX9_openOf_32 (by decide) ?_
        refine G_lv C (lv' := [(0, va_rf (some x0)), (1, Value.int x1), (2, Value.int (s0 + s1)), (3, Value.int (v3 + 1))]) [2, 3, 1, 0] rfl ?_
        exact K4 _ _ _ h
      intro S v2 v3 h
      rw [w_X9_openOf_l4] at h
      refine G_iload_n C (x := v3) 3 dX9_openOf_4 rfl rfl ?_
      refine G_sipush C (v := 240) dX9_openOf_5 (by decide) ?_
      refine G_icmp_ge C (tgt := 35) dX9_openOf_8 (by decide) (fun hc => ?_) (fun hc => ?_)
      · have h := h.1 hc
        refine G_iload_n C (x := v2) 2 dX9_openOf_35 rfl rfl ?_
        exact G_iret C (mc := 0) (ms := 0) (post := post) hr (Nat.le_of_ble_eq_true rfl) (Nat.le_of_ble_eq_true rfl) dX9_openOf_36 h
      · have h := h.2 hc
        refine G_iload_n C (x := v2) 2 dX9_openOf_11 rfl rfl ?_
        refine G_aload_n C (x := (some x0)) 0 dX9_openOf_12 rfl rfl ?_
        obtain ⟨hk1, h⟩ := h
        refine G_get C (CC := RX9) (Tf := TX9) (N := 50) (k := 10) (i := 13) (v := va_rf (gP S 1013 x0)) hk1 (by decide) rfl (fin fwX9) (by decide) (im tw_5_141) rfl rfl dX9_openOf_13 ?_
        refine G_iload_n C (x := v3) 3 dX9_openOf_16 rfl rfl ?_
        obtain ⟨a2, ha3, h⟩ := h
        refine G_rf1 ha3 ?_
        obtain ⟨hk4, h⟩ := h
        obtain ⟨hi5, h⟩ := h
        refine G_iald C hk4 hi5 dX9_openOf_17 ?_
        refine G_iload_n C (x := x1) 1 dX9_openOf_18 rfl rfl ?_
        refine G_icmp_ne C (tgt := 26) dX9_openOf_19 (by decide) (fun hc => ?_) (fun hc => ?_)
        · have h := h.1 hc
          refine G_iconst C (v := 0) dX9_openOf_26 (by decide) ?_
          refine G_lv C (lv' := [(0, va_rf (some x0)), (1, Value.int x1), (3, Value.int v3)]) [0, 1, 3] rfl ?_
          exact J27 _ _ _ _ h
        · have h := h.2 hc
          refine G_iconst C (v := 1) dX9_openOf_22 (by decide) ?_
          refine G_goto C (tgt := 27) dX9_openOf_23 (by decide) ?_
          refine G_lv C (lv' := [(0, va_rf (some x0)), (1, Value.int x1), (3, Value.int v3)]) [0, 1, 3] rfl ?_
          exact J27 _ _ _ _ h
  refine G_lv C (lv' := [(0, va_rf (some x0)), (1, Value.int x1)]) [0, 1] (by first | rfl | simp [lv_pick, lv_args, va_cat, vi_cat, vl_cat]) ?_
  unfold w_X9_openOf at h
  refine G_iconst C (v := 0) dX9_openOf_0 (by decide) ?_
  refine G_istore_n C (i := 2) (lv' := [(2, Value.int 0), (0, va_rf (some x0)), (1, Value.int x1)]) dX9_openOf_1 rfl (by decide) (by first | rfl | simp [va_cat, vi_cat, vl_cat]) ?_
  refine G_iconst C (v := 0) dX9_openOf_2 (by decide) ?_
  refine G_istore_n C (i := 3) (lv' := [(3, Value.int 0), (2, Value.int 0), (0, va_rf (some x0)), (1, Value.int x1)]) dX9_openOf_3 rfl (by decide) (by first | rfl | simp [va_cat, vi_cat, vl_cat]) ?_
  refine G_lv C (lv' := [(0, va_rf (some x0)), (1, Value.int x1), (2, Value.int 0), (3, Value.int 0)]) [2, 3, 1, 0] rfl ?_
  obtain ⟨n9, h⟩ := h
  exact J4 n9 _ _ _ h
set_option maxHeartbeats 4000000 in
set_option maxRecDepth 100000 in
theorem c_X9_stop (l : Launch) (D : va_G) (cy : Nat → Nat) (x0 : Nat) (x1 : Int32) (S : PT) (post : Int32 → PT → Prop) (h : w_X9_stop x0 x1 S post) : Mi l yX9_stop (Wm yX9_stop prog_11_method_52_code 4 (Option.some Jvm.ClassFile.FieldType.int)) 2 43 D cy [va_rf (some x0), Value.int x1] S 0 0 post := by
  refine Mi_of (own := "TrenchboardModel") (by decide) rfl (by first | decide | simp [lg_sl, va_cat, vi_cat, vl_cat]) (fun p e s m below meth c A C hZ hr hin9 => ?_)
  have J38 : ∀ (S : PT) (s0 : Option Nat) (s1 : Int32), w_X9_stop_b38 x0 x1 post S s0 s1 → G p l e { frames := 2, cells := 0, slots := 0, locals := 43 } s m [va_rf (some x0), Value.int x1].toArray below meth c D cy A s.heap 4 (QMi below D cy A [va_rf (some x0), Value.int x1] s 0 0 post) S 0 0 38 [(0, va_rf (some x0)), (1, Value.int x1)] [Value.int s1, va_rf s0] := by
    intro S s0 s1 h
    unfold w_X9_stop_b38 at h
    obtain ⟨a1, ha2, h⟩ := h
    obtain ⟨hk3, h⟩ := h
    refine G_callVi C hZ (Tf := TX9) (N := 50) hk3 (by decide) rfl tw_6_56 tw_6_58 tw_0_29 tw_1_7 tw_6_59 hy_X9_goes ⟨Nat.le_of_ble_eq_true rfl, Nat.le_of_ble_eq_true rfl⟩ (As := [Value.int s1]) (rest := []) (c_X9_goes l D cy a1 s1 S _ h) rfl (by first | rfl | (simp only [ha2]; rfl) | simp only [ha2]) (by simp [va_cat, vi_cat, vl_cat]) dX9_stop_38 ⟨Nat.le_of_ble_eq_true rfl, Nat.le_of_ble_eq_true rfl⟩ (fun r5 S4 h => ?_)
    obtain ⟨hb6, h⟩ := h
    refine G_if_ne C (tgt := 46) dX9_stop_41 (by decide) (fun hc => ?_) (fun hc => ?_)
    · have h := h.1 hc
      refine G_aload_n C (x := (some x0)) 0 dX9_stop_46 rfl rfl ?_
      refine G_iload_n C (x := x1) 1 dX9_stop_47 rfl rfl ?_
      obtain ⟨hk7, h⟩ := h
      refine G_callVi C hZ (Tf := TX9) (N := 50) hk7 (by decide) rfl tw_6_80 tw_6_82 tw_0_33 tw_1_7 tw_6_83 hy_X9_lastOf ⟨Nat.le_of_ble_eq_true rfl, Nat.le_of_ble_eq_true rfl⟩ (As := [Value.int x1]) (rest := []) (c_X9_lastOf l D cy x0 x1 S4 _ h) rfl rfl (by simp [va_cat, vi_cat, vl_cat]) dX9_stop_48 ⟨Nat.le_of_ble_eq_true rfl, Nat.le_of_ble_eq_true rfl⟩ (fun r9 S8 h => ?_)
      refine G_aload_n C (x := (some x0)) 0 dX9_stop_51 rfl rfl ?_
      refine G_iload_n C (x := x1) 1 dX9_stop_52 rfl rfl ?_
      obtain ⟨hk10, h⟩ := h
      refine G_callVi C hZ (Tf := TX9) (N := 50) hk10 (by decide) rfl tw_6_84 tw_6_86 tw_0_34 tw_1_7 tw_6_87 hy_X9_lastDay ⟨Nat.le_of_ble_eq_true rfl, Nat.le_of_ble_eq_true rfl⟩ (As := [Value.int x1]) (rest := [Value.int r9]) (c_X9_lastDay l D cy x0 x1 S8 _ h) rfl rfl (by simp [va_cat, vi_cat, vl_cat]) dX9_stop_53 ⟨Nat.le_of_ble_eq_true rfl, Nat.le_of_ble_eq_true rfl⟩ (fun r12 S11 h => ?_)
      refine G_isub C dX9_stop_56 ?_
      refine G_istore_n C (i := 3) (lv' := [(3, Value.int (r9 - r12)), (0, va_rf (some x0)), (1, Value.int x1)]) dX9_stop_57 rfl (by decide) (by first | rfl | simp [va_cat, vi_cat, vl_cat]) ?_
      refine G_aload_n C (x := (some x0)) 1 dX9_stop_58 rfl rfl ?_
      obtain ⟨hk13, h⟩ := h
      refine G_get C (CC := RX9) (Tf := TX9) (N := 50) (k := 10) (i := 33) (v := va_rf (gP S11 1033 x0)) hk13 (by decide) rfl (fin fwX9) (by decide) (im tw_5_161) rfl rfl dX9_stop_59 ?_
      refine G_iload_n C (x := x1) 2 dX9_stop_62 rfl rfl ?_
      refine G_iconst C (v := 4) dX9_stop_63 (by decide) ?_
      obtain ⟨a14, ha15, h⟩ := h
      refine G_rf2 ha15 ?_
      obtain ⟨hk16, h⟩ := h
      obtain ⟨hi17, h⟩ := h
      refine G_iast C hk16 hi17 dX9_stop_64 ?_
      generalize e19 : sA S11 a14 ((x1).toNatClampNeg) 4 = S18
      have h := h S18 e19.symm
      refine G_aload_n C (x := (some x0)) 1 dX9_stop_65 rfl rfl ?_
      refine G_get C (CC := RX9) (Tf := TX9) (N := 50) (k := 10) (i := 37) (v := va_rf (gP S18 1037 x0)) (ksA e19.symm hk13) (by decide) rfl (fin fwX9) (by decide) (im tw_5_165) rfl rfl dX9_stop_66 ?_
      refine G_iload_n C (x := x1) 2 dX9_stop_69 rfl rfl ?_
      refine G_iconst C (v := 0) dX9_stop_70 (by decide) ?_
      obtain ⟨a20, ha21, h⟩ := h
      refine G_rf2 ha21 ?_
      obtain ⟨hk22, h⟩ := h
      obtain ⟨hi23, h⟩ := h
      refine G_zast C hk22 bo_0 hi23 dX9_stop_71 ?_
      generalize e25 : sA S18 a20 ((x1).toNatClampNeg) 0 = S24
      have h := h S24 e25.symm
      refine G_iload_n C (x := (r9 - r12)) 0 dX9_stop_72 rfl rfl ?_
      exact G_iret C (mc := 0) (ms := 0) (post := post) hr (Nat.le_of_ble_eq_true rfl) (Nat.le_of_ble_eq_true rfl) dX9_stop_73 h
    · have h := h.2 hc
      refine G_iconst C (v := 0) dX9_stop_44 (by decide) ?_
      exact G_iret C (mc := 0) (ms := 0) (post := post) hr (Nat.le_of_ble_eq_true rfl) (Nat.le_of_ble_eq_true rfl) dX9_stop_45 h
  have J33 : ∀ (S : PT) (s0 : Option Nat), w_X9_stop_b33 x0 x1 post S s0 → G p l e { frames := 2, cells := 0, slots := 0, locals := 43 } s m [va_rf (some x0), Value.int x1].toArray below meth c D cy A s.heap 4 (QMi below D cy A [va_rf (some x0), Value.int x1] s 0 0 post) S 0 0 33 [(0, va_rf (some x0)), (1, Value.int x1)] [va_rf s0] := by
    intro S s0 h
    unfold w_X9_stop_b33 at h
    refine G_iconst C (v := 2) dX9_stop_33 (by decide) ?_
    refine G_goto C (tgt := 38) dX9_stop_34 (by decide) ?_
    refine G_lv C (lv' := [(0, va_rf (some x0)), (1, Value.int x1)]) [0, 1] rfl ?_
    exact J38 _ _ _ h
  refine G_lv C (lv' := [(0, va_rf (some x0)), (1, Value.int x1)]) [0, 1] (by first | rfl | simp [lv_pick, lv_args, va_cat, vi_cat, vl_cat]) ?_
  unfold w_X9_stop at h
  refine G_aload_n C (x := (some x0)) 0 dX9_stop_0 rfl rfl ?_
  refine G_iload_n C (x := x1) 1 dX9_stop_1 rfl rfl ?_
  obtain ⟨hk26, h⟩ := h
  refine G_callVi C hZ (Tf := TX9) (N := 50) hk26 (by decide) rfl tw_6_146 tw_6_148 tw_0_41 tw_1_7 tw_6_149 hy_X9_areWorks ⟨Nat.le_of_ble_eq_true rfl, Nat.le_of_ble_eq_true rfl⟩ (As := [Value.int x1]) (rest := []) (c_X9_areWorks l D cy x0 x1 S _ h) rfl rfl (by simp [va_cat, vi_cat, vl_cat]) dX9_stop_2 ⟨Nat.le_of_ble_eq_true rfl, Nat.le_of_ble_eq_true rfl⟩ (fun r28 S27 h => ?_)
  obtain ⟨hb29, h⟩ := h
  refine G_istore_n C (i := 2) (lv' := [(2, Value.int r28), (0, va_rf (some x0)), (1, Value.int x1)]) dX9_stop_5 rfl (by decide) (by first | rfl | simp [va_cat, vi_cat, vl_cat]) ?_
  refine G_aload_n C (x := (some x0)) 1 dX9_stop_6 rfl rfl ?_
  refine G_iload_n C (x := r28) 0 dX9_stop_7 rfl rfl ?_
  refine G_if_ne C (tgt := 15) dX9_stop_8 (by decide) (fun hc => ?_) (fun hc => ?_)
  · have h := h.1 hc
    refine G_aload_n C (x := (some x0)) 1 dX9_stop_15 rfl rfl ?_
    obtain ⟨hk30, h⟩ := h
    refine G_get C (CC := RX9) (Tf := TX9) (N := 50) (k := 10) (i := 33) (v := va_rf (gP S27 1033 x0)) hk30 (by decide) rfl (fin fwX9) (by decide) (im tw_5_161) rfl rfl dX9_stop_16 ?_
    refine G_iload_n C (x := x1) 2 dX9_stop_19 rfl rfl ?_
    obtain ⟨a31, ha32, h⟩ := h
    refine G_rf1 ha32 ?_
    obtain ⟨hk33, h⟩ := h
    obtain ⟨hi34, h⟩ := h
    refine G_iald C hk33 hi34 dX9_stop_20 ?_
    refine G_iconst C (v := 3) dX9_stop_21 (by decide) ?_
    refine G_icmp_ne C (tgt := 33) dX9_stop_22 (by decide) (fun hc => ?_) (fun hc => ?_)
    · have h := h.1 hc
      refine G_lv C (lv' := [(0, va_rf (some x0)), (1, Value.int x1)]) [1, 2] rfl ?_
      exact J33 _ _ h
    · have h := h.2 hc
      refine G_aload_n C (x := (some x0)) 1 dX9_stop_25 rfl rfl ?_
      refine G_iload_n C (x := x1) 2 dX9_stop_26 rfl rfl ?_
      refine G_callVi C hZ (Tf := TX9) (N := 50) hk30 (by decide) rfl tw_6_238 tw_7_0 tw_0_54 tw_1_7 tw_7_1 hy_X9_openOf ⟨Nat.le_of_ble_eq_true rfl, Nat.le_of_ble_eq_true rfl⟩ (As := [Value.int x1]) (rest := [va_rf (some x0)]) (c_X9_openOf l D cy x0 x1 S27 _ h) rfl rfl (by simp [va_cat, vi_cat, vl_cat]) dX9_stop_27 ⟨Nat.le_of_ble_eq_true rfl, Nat.le_of_ble_eq_true rfl⟩ (fun r36 S35 h => ?_)
      refine G_if_le C (tgt := 37) dX9_stop_30 (by decide) (fun hc => ?_) (fun hc => ?_)
      · have h := h.1 hc
        refine G_iconst C (v := 0) dX9_stop_37 (by decide) ?_
        refine G_lv C (lv' := [(0, va_rf (some x0)), (1, Value.int x1)]) [1, 2] rfl ?_
        exact J38 _ _ _ h
      · have h := h.2 hc
        refine G_lv C (lv' := [(0, va_rf (some x0)), (1, Value.int x1)]) [1, 2] rfl ?_
        exact J33 _ _ h
  · have h := h.2 hc
    refine G_iconst C (v := 1) dX9_stop_11 (by decide) ?_
    refine G_goto C (tgt := 38) dX9_stop_12 (by decide) ?_
    refine G_lv C (lv' := [(0, va_rf (some x0)), (1, Value.int x1)]) [1, 2] rfl ?_
    exact J38 _ _ _ h
set_option maxHeartbeats 4000000 in
set_option maxRecDepth 100000 in
theorem c_X9_settles (l : Launch) (D : va_G) (cy : Nat → Nat) (x0 : Nat) (S : PT) (post : PT → Prop) (h : w_X9_settles x0 S post) : Mv l yX9_settles (Wm yX9_settles prog_11_method_53_code 3 (Option.none : Option Jvm.ClassFile.FieldType)) 6 136 D cy [va_rf (some x0)] S 0 0 post := by
  refine Mv_of (own := "TrenchboardModel") (by decide) rfl (by first | decide | simp [lg_sl, va_cat, vi_cat, vl_cat]) (fun p e s m below meth c A C hZ hr hin9 => ?_)
  have J2 : ∀ (n : Nat) (S : PT) (v1 : Int32), w_X9_settles_l2 x0 post n S v1 → G p l e { frames := 6, cells := 0, slots := 0, locals := 136 } s m [va_rf (some x0)].toArray below meth c D cy A s.heap 3 (QMv below D cy A [va_rf (some x0)] s 0 0 post) S 0 0 2 [(0, va_rf (some x0)), (1, Value.int v1)] [] := by
    intro n2
    induction n2 with
    | zero => intro S v1 h; rw [w_X9_settles_l2] at h; exact False.elim h
    | succ n2 K2 =>
      have J73 : ∀ (S : PT) (v1 : Int32), w_X9_settles_b73 x0 post (w_X9_settles_l2 x0 post n2) S v1 → G p l e { frames := 6, cells := 0, slots := 0, locals := 136 } s m [va_rf (some x0)].toArray below meth c D cy A s.heap 3 (QMv below D cy A [va_rf (some x0)] s 0 0 post) S 0 0 73 [(0, va_rf (some x0)), (1, Value.int v1)] [] := by
        intro S v1 h
        unfold w_X9_settles_b73 at h
        refine G_iinc C (v := (v1 + 1)) (lv' := [(1, Value.int (v1 + 1)), (0, va_rf (some x0))]) 1 dX9_settles_73 rfl rfl (by decide) (by first | rfl | simp [va_cat, vi_cat, vl_cat]) ?_
        refine G_goto C (tgt := 2) dX9_settles_76 (by decide) ?_
        refine G_lv C (lv' := [(0, va_rf (some x0)), (1, Value.int (v1 + 1))]) [1, 0] rfl ?_
        exact K2 _ _ h
      have J44 : ∀ (S : PT) (v1 : Int32) (s0 : Int32) (s1 : Int32) (s2 : Int32), w_X9_settles_b44 x0 post (w_X9_settles_l2 x0 post n2) S v1 s0 s1 s2 → G p l e { frames := 6, cells := 0, slots := 0, locals := 136 } s m [va_rf (some x0)].toArray below meth c D cy A s.heap 3 (QMv below D cy A [va_rf (some x0)] s 0 0 post) S 0 0 44 [(0, va_rf (some x0)), (1, Value.int v1)] [Value.int s2, Value.int s1, Value.int s0] := by
        intro S v1 s0 s1 s2 h
        unfold w_X9_settles_b44 at h
        refine G_iadd C dX9_settles_44 ?_
        refine G_icmp_ne C (tgt := 73) dX9_settles_45 (by decide) (fun hc => ?_) (fun hc => ?_)
        · have h := h.1 hc
          refine G_lv C (lv' := [(0, va_rf (some x0)), (1, Value.int v1)]) [0, 1] rfl ?_
          exact J73 _ _ h
        · have h := h.2 hc
          refine G_aload_n C (x := (some x0)) 0 dX9_settles_48 rfl rfl ?_
          refine G_iload_n C (x := v1) 1 dX9_settles_49 rfl rfl ?_
          obtain ⟨hk1, h⟩ := h
          refine G_callVi C hZ (Tf := TX9) (N := 50) hk1 (by decide) rfl tw_6_150 tw_6_152 tw_0_42 tw_1_7 tw_6_153 hy_X9_barsOf ⟨Nat.le_of_ble_eq_true rfl, Nat.le_of_ble_eq_true rfl⟩ (As := [Value.int v1]) (rest := []) (c_X9_barsOf l D cy x0 v1 S _ h) rfl rfl (by simp [va_cat, vi_cat, vl_cat]) dX9_settles_50 ⟨Nat.le_of_ble_eq_true rfl, Nat.le_of_ble_eq_true rfl⟩ (fun r3 S2 h => ?_)
          refine G_if_le C (tgt := 66) dX9_settles_53 (by decide) (fun hc => ?_) (fun hc => ?_)
          · have h := h.1 hc
            refine G_aload_n C (x := (some x0)) 0 dX9_settles_66 rfl rfl ?_
            refine G_iload_n C (x := v1) 1 dX9_settles_67 rfl rfl ?_
            refine G_iconst C (v := 0) dX9_settles_68 (by decide) ?_
            obtain ⟨hk4, h⟩ := h
            refine G_callVi C hZ (Tf := TX9) (N := 50) hk4 (by decide) rfl tw_6_170 tw_6_172 tw_0_47 tw_1_7 tw_6_173 hy_X9_grants ⟨Nat.le_of_ble_eq_true rfl, Nat.le_of_ble_eq_true rfl⟩ (As := [Value.int v1, Value.int 0]) (rest := []) (c_X9_grants l D cy x0 v1 0 S2 _ h) rfl rfl (by simp [va_cat, vi_cat, vl_cat]) dX9_settles_69 ⟨Nat.le_of_ble_eq_true rfl, Nat.le_of_ble_eq_true rfl⟩ (fun r6 S5 h => ?_)
            refine G_istore_n C (i := 2) (lv' := [(2, Value.int r6), (0, va_rf (some x0)), (1, Value.int v1)]) dX9_settles_72 rfl (by decide) (by first | rfl | simp [va_cat, vi_cat, vl_cat]) ?_
            refine G_lv C (lv' := [(0, va_rf (some x0)), (1, Value.int v1)]) [1, 2] rfl ?_
            exact J73 _ _ h
          · have h := h.2 hc
            refine G_aload_n C (x := (some x0)) 0 dX9_settles_56 rfl rfl ?_
            obtain ⟨hk7, h⟩ := h
            refine G_get C (CC := RX9) (Tf := TX9) (N := 50) (k := 10) (i := 33) (v := va_rf (gP S2 1033 x0)) hk7 (by decide) rfl (fin fwX9) (by decide) (im tw_5_161) rfl rfl dX9_settles_57 ?_
            refine G_iload_n C (x := v1) 1 dX9_settles_60 rfl rfl ?_
            refine G_iconst C (v := 2) dX9_settles_61 (by decide) ?_
            obtain ⟨a8, ha9, h⟩ := h
            refine G_rf2 ha9 ?_
            obtain ⟨hk10, h⟩ := h
            obtain ⟨hi11, h⟩ := h
            refine G_iast C hk10 hi11 dX9_settles_62 ?_
            generalize e13 : sA S2 a8 ((v1).toNatClampNeg) 2 = S12
            have h := h S12 e13.symm
            refine G_goto C (tgt := 73) dX9_settles_63 (by decide) ?_
            refine G_lv C (lv' := [(0, va_rf (some x0)), (1, Value.int v1)]) [0, 1] rfl ?_
            exact J73 _ _ h
      intro S v1 h
      rw [w_X9_settles_l2] at h
      refine G_iload_n C (x := v1) 1 dX9_settles_2 rfl rfl ?_
      refine G_aload_n C (x := (some x0)) 0 dX9_settles_3 rfl rfl ?_
      obtain ⟨hk14, h⟩ := h
      refine G_get C (CC := RX9) (Tf := TX9) (N := 50) (k := 10) (i := 23) (v := Value.int (gI S 1023 x0)) hk14 (by decide) rfl (fin fwX9) (by decide) (im tw_5_151) rfl rfl dX9_settles_4 ?_
      refine G_icmp_ge C (tgt := 79) dX9_settles_7 (by decide) (fun hc => ?_) (fun hc => ?_)
      · have h := h.1 hc
        exact G_vret C (mc := 0) (ms := 0) (post := post) hr (Nat.le_of_ble_eq_true rfl) (Nat.le_of_ble_eq_true rfl) dX9_settles_79 h
      · have h := h.2 hc
        refine G_aload_n C (x := (some x0)) 0 dX9_settles_10 rfl rfl ?_
        refine G_get C (CC := RX9) (Tf := TX9) (N := 50) (k := 10) (i := 33) (v := va_rf (gP S 1033 x0)) hk14 (by decide) rfl (fin fwX9) (by decide) (im tw_5_161) rfl rfl dX9_settles_11 ?_
        refine G_iload_n C (x := v1) 1 dX9_settles_14 rfl rfl ?_
        obtain ⟨a15, ha16, h⟩ := h
        refine G_rf1 ha16 ?_
        obtain ⟨hk17, h⟩ := h
        obtain ⟨hi18, h⟩ := h
        refine G_iald C hk17 hi18 dX9_settles_15 ?_
        refine G_if_ne C (tgt := 73) dX9_settles_16 (by decide) (fun hc => ?_) (fun hc => ?_)
        · have h := h.1 hc
          refine G_lv C (lv' := [(0, va_rf (some x0)), (1, Value.int v1)]) [0, 1] rfl ?_
          exact J73 _ _ h
        · have h := h.2 hc
          refine G_aload_n C (x := (some x0)) 0 dX9_settles_19 rfl rfl ?_
          refine G_callVi C hZ (Tf := TX9) (N := 50) hk14 (by decide) rfl tw_6_68 tw_6_70 tw_0_31 tw_1_7 tw_6_71 hy_X9_today ⟨Nat.le_of_ble_eq_true rfl, Nat.le_of_ble_eq_true rfl⟩ (As := []) (rest := []) (c_X9_today l D cy x0 S _ h) rfl rfl (by simp [va_cat, vi_cat, vl_cat]) dX9_settles_20 ⟨Nat.le_of_ble_eq_true rfl, Nat.le_of_ble_eq_true rfl⟩ (fun r20 S19 h => ?_)
          refine G_aload_n C (x := (some x0)) 0 dX9_settles_23 rfl rfl ?_
          obtain ⟨hk21, h⟩ := h
          refine G_get C (CC := RX9) (Tf := TX9) (N := 50) (k := 10) (i := 32) (v := va_rf (gP S19 1032 x0)) hk21 (by decide) rfl (fin fwX9) (by decide) (im tw_5_160) rfl rfl dX9_settles_24 ?_
          refine G_iload_n C (x := v1) 1 dX9_settles_27 rfl rfl ?_
          obtain ⟨a22, ha23, h⟩ := h
          refine G_rf1 ha23 ?_
          obtain ⟨hk24, h⟩ := h
          obtain ⟨hi25, h⟩ := h
          refine G_iald C hk24 hi25 dX9_settles_28 ?_
          refine G_aload_n C (x := (some x0)) 0 dX9_settles_29 rfl rfl ?_
          refine G_get C (CC := RX9) (Tf := TX9) (N := 50) (k := 10) (i := 29) (v := va_rf (gP S19 1029 x0)) hk21 (by decide) rfl (fin fwX9) (by decide) (im tw_5_157) rfl rfl dX9_settles_30 ?_
          refine G_iload_n C (x := v1) 1 dX9_settles_33 rfl rfl ?_
          obtain ⟨a26, ha27, h⟩ := h
          refine G_rf1 ha27 ?_
          obtain ⟨hk28, h⟩ := h
          obtain ⟨hi29, h⟩ := h
          refine G_iald C hk28 hi29 dX9_settles_34 ?_
          refine G_iconst C (v := 2) dX9_settles_35 (by decide) ?_
          refine G_icmp_ne C (tgt := 43) dX9_settles_36 (by decide) (fun hc => ?_) (fun hc => ?_)
          · have h := h.1 hc
            refine G_iconst C (v := 5) dX9_settles_43 (by decide) ?_
            refine G_lv C (lv' := [(0, va_rf (some x0)), (1, Value.int v1)]) [0, 1] rfl ?_
            exact J44 _ _ _ _ _ h
          · have h := h.2 hc
            refine G_iconst C (v := 2) dX9_settles_39 (by decide) ?_
            refine G_goto C (tgt := 44) dX9_settles_40 (by decide) ?_
            refine G_lv C (lv' := [(0, va_rf (some x0)), (1, Value.int v1)]) [0, 1] rfl ?_
            exact J44 _ _ _ _ _ h
  refine G_lv C (lv' := [(0, va_rf (some x0))]) [0] (by first | rfl | simp [lv_pick, lv_args, va_cat, vi_cat, vl_cat]) ?_
  unfold w_X9_settles at h
  refine G_iconst C (v := 0) dX9_settles_0 (by decide) ?_
  refine G_istore_n C (i := 1) (lv' := [(1, Value.int 0), (0, va_rf (some x0))]) dX9_settles_1 rfl (by decide) (by first | rfl | simp [va_cat, vi_cat, vl_cat]) ?_
  refine G_lv C (lv' := [(0, va_rf (some x0)), (1, Value.int 0)]) [1, 0] rfl ?_
  obtain ⟨n9, h⟩ := h
  exact J2 n9 _ _ h
set_option maxHeartbeats 4000000 in
set_option maxRecDepth 100000 in
theorem c_X9_grade (l : Launch) (D : va_G) (cy : Nat → Nat) (x0 : Nat) (x1 : Int32) (S : PT) (post : Int32 → PT → Prop) (h : w_X9_grade x0 x1 S post) : Mi l yX9_grade (Wm yX9_grade prog_11_method_54_code 2 (Option.some Jvm.ClassFile.FieldType.int)) 0 0 D cy [va_rf (some x0), Value.int x1] S 0 0 post := by
  refine Mi_of (own := "TrenchboardModel") (by decide) rfl (by first | decide | simp [lg_sl, va_cat, vi_cat, vl_cat]) (fun p e s m below meth c A C hZ hr hin9 => ?_)
  refine G_lv C (lv' := [(0, va_rf (some x0)), (1, Value.int x1)]) [0, 1] (by first | rfl | simp [lv_pick, lv_args, va_cat, vi_cat, vl_cat]) ?_
  unfold w_X9_grade at h
  refine G_iconst C (v := 4) dX9_grade_0 (by decide) ?_
  refine G_aload_n C (x := (some x0)) 0 dX9_grade_1 rfl rfl ?_
  obtain ⟨hk1, h⟩ := h
  refine G_get C (CC := RX9) (Tf := TX9) (N := 50) (k := 10) (i := 3) (v := va_rf (gP S 1003 x0)) hk1 (by decide) rfl (fin fwX9) (by decide) (im tw_5_131) rfl rfl dX9_grade_2 ?_
  refine G_aload_n C (x := (some x0)) 0 dX9_grade_5 rfl rfl ?_
  refine G_get C (CC := RX9) (Tf := TX9) (N := 50) (k := 10) (i := 25) (v := va_rf (gP S 1025 x0)) hk1 (by decide) rfl (fin fwX9) (by decide) (im tw_5_153) rfl rfl dX9_grade_6 ?_
  refine G_iload_n C (x := x1) 1 dX9_grade_9 rfl rfl ?_
  obtain ⟨a2, ha3, h⟩ := h
  refine G_rf1 ha3 ?_
  obtain ⟨hk4, h⟩ := h
  obtain ⟨hi5, h⟩ := h
  refine G_iald C hk4 hi5 dX9_grade_10 ?_
  obtain ⟨a6, ha7, h⟩ := h
  refine G_rf1 ha7 ?_
  obtain ⟨hk8, h⟩ := h
  obtain ⟨hi9, h⟩ := h
  refine G_iald C hk8 hi9 dX9_grade_11 ?_
  refine G_isub C dX9_grade_12 ?_
  exact G_iret C (mc := 0) (ms := 0) (post := post) hr (Nat.le_of_ble_eq_true rfl) (Nat.le_of_ble_eq_true rfl) dX9_grade_13 h
set_option maxHeartbeats 4000000 in
set_option maxRecDepth 100000 in
theorem c_X9_takes (l : Launch) (D : va_G) (cy : Nat → Nat) (x0 : Nat) (x1 : Int32) (S : PT) (post : Int32 → PT → Prop) (h : w_X9_takes x0 x1 S post) : Mi l yX9_takes (Wm yX9_takes prog_11_method_55_code 2 (Option.some Jvm.ClassFile.FieldType.boolean)) 1 23 D cy [va_rf (some x0), Value.int x1] S 0 0 (fun r S => bo r ∧ post r S) := by
  refine Mi_of (own := "TrenchboardModel") (by decide) rfl (by first | decide | simp [lg_sl, va_cat, vi_cat, vl_cat]) (fun p e s m below meth c A C hZ hr hin9 => ?_)
  have J32 : ∀ (S : PT) (s0 : Int32), w_X9_takes_b32 x0 x1 post S s0 → G p l e { frames := 1, cells := 0, slots := 0, locals := 23 } s m [va_rf (some x0), Value.int x1].toArray below meth c D cy A s.heap 2 (QMi below D cy A [va_rf (some x0), Value.int x1] s 0 0 (fun r S => bo r ∧ post r S)) S 0 0 32 [] [Value.int s0] := by
    intro S s0 h
    unfold w_X9_takes_b32 at h
    obtain ⟨hb1, h⟩ := h
    exact G_zret C (mc := 0) (ms := 0) (post := (fun r S => bo r ∧ post r S)) (bo_nar hb1) hr (Nat.le_of_ble_eq_true rfl) (Nat.le_of_ble_eq_true rfl) dX9_takes_32 ⟨hb1, h⟩
  have J31 : ∀ (S : PT), w_X9_takes_b31 x0 x1 post S → G p l e { frames := 1, cells := 0, slots := 0, locals := 23 } s m [va_rf (some x0), Value.int x1].toArray below meth c D cy A s.heap 2 (QMi below D cy A [va_rf (some x0), Value.int x1] s 0 0 (fun r S => bo r ∧ post r S)) S 0 0 31 [] [] := by
    intro S h
    unfold w_X9_takes_b31 at h
    refine G_iconst C (v := 0) dX9_takes_31 (by decide) ?_
    refine G_lv C (lv' := []) [] rfl ?_
    exact J32 _ _ h
  refine G_lv C (lv' := [(0, va_rf (some x0)), (1, Value.int x1)]) [0, 1] (by first | rfl | simp [lv_pick, lv_args, va_cat, vi_cat, vl_cat]) ?_
  unfold w_X9_takes at h
  refine G_aload_n C (x := (some x0)) 0 dX9_takes_0 rfl rfl ?_
  obtain ⟨hk2, h⟩ := h
  refine G_get C (CC := RX9) (Tf := TX9) (N := 50) (k := 10) (i := 33) (v := va_rf (gP S 1033 x0)) hk2 (by decide) rfl (fin fwX9) (by decide) (im tw_5_161) rfl rfl dX9_takes_1 ?_
  refine G_iload_n C (x := x1) 1 dX9_takes_4 rfl rfl ?_
  obtain ⟨a3, ha4, h⟩ := h
  refine G_rf1 ha4 ?_
  obtain ⟨hk5, h⟩ := h
  obtain ⟨hi6, h⟩ := h
  refine G_iald C hk5 hi6 dX9_takes_5 ?_
  refine G_iconst C (v := 3) dX9_takes_6 (by decide) ?_
  refine G_icmp_ne C (tgt := 31) dX9_takes_7 (by decide) (fun hc => ?_) (fun hc => ?_)
  · have h := h.1 hc
    refine G_lv C (lv' := []) [] rfl ?_
    exact J31 _ h
  · have h := h.2 hc
    refine G_aload_n C (x := (some x0)) 0 dX9_takes_10 rfl rfl ?_
    refine G_get C (CC := RX9) (Tf := TX9) (N := 50) (k := 10) (i := 37) (v := va_rf (gP S 1037 x0)) hk2 (by decide) rfl (fin fwX9) (by decide) (im tw_5_165) rfl rfl dX9_takes_11 ?_
    refine G_iload_n C (x := x1) 1 dX9_takes_14 rfl rfl ?_
    obtain ⟨a7, ha8, h⟩ := h
    refine G_rf1 ha8 ?_
    obtain ⟨hk9, h⟩ := h
    obtain ⟨hi10, h⟩ := h
    refine G_zald C hk9 hi10 dX9_takes_15 ?_
    refine G_if_ne C (tgt := 31) dX9_takes_16 (by decide) (fun hc => ?_) (fun hc => ?_)
    · have h := h.1 hc
      refine G_lv C (lv' := []) [] rfl ?_
      exact J31 _ h
    · have h := h.2 hc
      refine G_aload_n C (x := (some x0)) 0 dX9_takes_19 rfl rfl ?_
      refine G_iload_n C (x := x1) 1 dX9_takes_20 rfl rfl ?_
      refine G_callVi C hZ (Tf := TX9) (N := 50) hk2 (by decide) rfl tw_6_238 tw_7_0 tw_0_54 tw_1_7 tw_7_1 hy_X9_openOf ⟨Nat.le_of_ble_eq_true rfl, Nat.le_of_ble_eq_true rfl⟩ (As := [Value.int x1]) (rest := []) (c_X9_openOf l D cy x0 x1 S _ h) rfl rfl (by simp [va_cat, vi_cat, vl_cat]) dX9_takes_21 ⟨Nat.le_of_ble_eq_true rfl, Nat.le_of_ble_eq_true rfl⟩ (fun r12 S11 h => ?_)
      refine G_if_le C (tgt := 31) dX9_takes_24 (by decide) (fun hc => ?_) (fun hc => ?_)
      · have h := h.1 hc
        refine G_lv C (lv' := []) [] rfl ?_
        exact J31 _ h
      · have h := h.2 hc
        refine G_iconst C (v := 1) dX9_takes_27 (by decide) ?_
        refine G_goto C (tgt := 32) dX9_takes_28 (by decide) ?_
        refine G_lv C (lv' := []) [] rfl ?_
        exact J32 _ _ h
set_option maxHeartbeats 4000000 in
set_option maxRecDepth 100000 in
theorem c_X9_isTaken (l : Launch) (D : va_G) (cy : Nat → Nat) (x0 : Nat) (x1 : Int32) (S : PT) (post : Int32 → PT → Prop) (h : w_X9_isTaken x0 x1 S post) : Mi l yX9_isTaken (Wm yX9_isTaken prog_11_method_56_code 4 (Option.some Jvm.ClassFile.FieldType.boolean)) 2 44 D cy [va_rf (some x0), Value.int x1] S 0 0 (fun r S => bo r ∧ post r S) := by
  refine Mi_of (own := "TrenchboardModel") (by decide) rfl (by first | decide | simp [lg_sl, va_cat, vi_cat, vl_cat]) (fun p e s m below meth c A C hZ hr hin9 => ?_)
  have J4 : ∀ (n : Nat) (S : PT) (v2 : Int32) (v3 : Int32), w_X9_isTaken_l4 x0 x1 post n S v2 v3 → G p l e { frames := 2, cells := 0, slots := 0, locals := 44 } s m [va_rf (some x0), Value.int x1].toArray below meth c D cy A s.heap 4 (QMi below D cy A [va_rf (some x0), Value.int x1] s 0 0 (fun r S => bo r ∧ post r S)) S 0 0 4 [(0, va_rf (some x0)), (1, Value.int x1), (2, Value.int v2), (3, Value.int v3)] [] := by
    intro n4
    induction n4 with
    | zero => intro S v2 v3 h; rw [w_X9_isTaken_l4] at h; exact False.elim h
    | succ n4 K4 =>
      have J39 : ∀ (S : PT) (v3 : Int32) (s0 : Int32), w_X9_isTaken_b39 x0 x1 post (w_X9_isTaken_l4 x0 x1 post n4) S v3 s0 → G p l e { frames := 2, cells := 0, slots := 0, locals := 44 } s m [va_rf (some x0), Value.int x1].toArray below meth c D cy A s.heap 4 (QMi below D cy A [va_rf (some x0), Value.int x1] s 0 0 (fun r S => bo r ∧ post r S)) S 0 0 39 [(0, va_rf (some x0)), (1, Value.int x1), (3, Value.int v3)] [Value.int s0] := by
        intro S v3 s0 h
        unfold w_X9_isTaken_b39 at h
        refine G_istore_n C (i := 2) (lv' := [(2, Value.int s0), (0, va_rf (some x0)), (1, Value.int x1), (3, Value.int v3)]) dX9_isTaken_39 rfl (by decide) (by first | rfl | simp [va_cat, vi_cat, vl_cat]) ?_
        refine G_iinc C (v := (v3 + 1)) (lv' := [(3, Value.int (v3 + 1)), (2, Value.int s0), (0, va_rf (some x0)), (1, Value.int x1)]) 3 dX9_isTaken_40 rfl rfl (by decide) (by first | rfl | simp [va_cat, vi_cat, vl_cat]) ?_
        refine G_goto C (tgt := 4) dX9_isTaken_43 (by decide) ?_
        refine G_lv C (lv' := [(0, va_rf (some x0)), (1, Value.int x1), (2, Value.int s0), (3, Value.int (v3 + 1))]) [2, 3, 1, 0] rfl ?_
        exact K4 _ _ _ h
      have J34 : ∀ (S : PT) (v3 : Int32), w_X9_isTaken_b34 x0 x1 post (w_X9_isTaken_l4 x0 x1 post n4) S v3 → G p l e { frames := 2, cells := 0, slots := 0, locals := 44 } s m [va_rf (some x0), Value.int x1].toArray below meth c D cy A s.heap 4 (QMi below D cy A [va_rf (some x0), Value.int x1] s 0 0 (fun r S => bo r ∧ post r S)) S 0 0 34 [(0, va_rf (some x0)), (1, Value.int x1), (3, Value.int v3)] [] := by
        intro S v3 h
        unfold w_X9_isTaken_b34 at h
        refine G_iconst C (v := 1) dX9_isTaken_34 (by decide) ?_
        refine G_goto C (tgt := 39) dX9_isTaken_35 (by decide) ?_
        refine G_lv C (lv' := [(0, va_rf (some x0)), (1, Value.int x1), (3, Value.int v3)]) [0, 1, 2] rfl ?_
        exact J39 _ _ _ h
      have J38 : ∀ (S : PT) (v3 : Int32), w_X9_isTaken_b38 x0 x1 post (w_X9_isTaken_l4 x0 x1 post n4) S v3 → G p l e { frames := 2, cells := 0, slots := 0, locals := 44 } s m [va_rf (some x0), Value.int x1].toArray below meth c D cy A s.heap 4 (QMi below D cy A [va_rf (some x0), Value.int x1] s 0 0 (fun r S => bo r ∧ post r S)) S 0 0 38 [(0, va_rf (some x0)), (1, Value.int x1), (3, Value.int v3)] [] := by
        intro S v3 h
        unfold w_X9_isTaken_b38 at h
        refine G_iconst C (v := 0) dX9_isTaken_38 (by decide) ?_
        refine G_lv C (lv' := [(0, va_rf (some x0)), (1, Value.int x1), (3, Value.int v3)]) [0, 1, 2] rfl ?_
        exact J39 _ _ _ h
      intro S v2 v3 h
      rw [w_X9_isTaken_l4] at h
      refine G_iload_n C (x := v3) 3 dX9_isTaken_4 rfl rfl ?_
      refine G_aload_n C (x := (some x0)) 0 dX9_isTaken_5 rfl rfl ?_
      obtain ⟨hk1, h⟩ := h
      refine G_get C (CC := RX9) (Tf := TX9) (N := 50) (k := 10) (i := 23) (v := Value.int (gI S 1023 x0)) hk1 (by decide) rfl (fin fwX9) (by decide) (im tw_5_151) rfl rfl dX9_isTaken_6 ?_
      refine G_icmp_ge C (tgt := 46) dX9_isTaken_9 (by decide) (fun hc => ?_) (fun hc => ?_)
      · have h := h.1 hc
        refine G_iload_n C (x := v2) 2 dX9_isTaken_46 rfl rfl ?_
        obtain ⟨hb2, h⟩ := h
        exact G_zret C (mc := 0) (ms := 0) (post := (fun r S => bo r ∧ post r S)) (bo_nar hb2) hr (Nat.le_of_ble_eq_true rfl) (Nat.le_of_ble_eq_true rfl) dX9_isTaken_47 ⟨hb2, h⟩
      · have h := h.2 hc
        refine G_iload_n C (x := v2) 2 dX9_isTaken_12 rfl rfl ?_
        refine G_if_ne C (tgt := 34) dX9_isTaken_13 (by decide) (fun hc => ?_) (fun hc => ?_)
        · have h := h.1 hc
          refine G_lv C (lv' := [(0, va_rf (some x0)), (1, Value.int x1), (3, Value.int v3)]) [0, 1, 3] rfl ?_
          exact J34 _ _ h
        · have h := h.2 hc
          refine G_aload_n C (x := (some x0)) 0 dX9_isTaken_16 rfl rfl ?_
          refine G_get C (CC := RX9) (Tf := TX9) (N := 50) (k := 10) (i := 25) (v := va_rf (gP S 1025 x0)) hk1 (by decide) rfl (fin fwX9) (by decide) (im tw_5_153) rfl rfl dX9_isTaken_17 ?_
          refine G_iload_n C (x := v3) 3 dX9_isTaken_20 rfl rfl ?_
          obtain ⟨a3, ha4, h⟩ := h
          refine G_rf1 ha4 ?_
          obtain ⟨hk5, h⟩ := h
          obtain ⟨hi6, h⟩ := h
          refine G_iald C hk5 hi6 dX9_isTaken_21 ?_
          refine G_iload_n C (x := x1) 1 dX9_isTaken_22 rfl rfl ?_
          refine G_icmp_ne C (tgt := 38) dX9_isTaken_23 (by decide) (fun hc => ?_) (fun hc => ?_)
          · have h := h.1 hc
            refine G_lv C (lv' := [(0, va_rf (some x0)), (1, Value.int x1), (3, Value.int v3)]) [0, 1, 3] rfl ?_
            exact J38 _ _ h
          · have h := h.2 hc
            refine G_aload_n C (x := (some x0)) 0 dX9_isTaken_26 rfl rfl ?_
            refine G_iload_n C (x := v3) 3 dX9_isTaken_27 rfl rfl ?_
            refine G_callVi C hZ (Tf := TX9) (N := 50) hk1 (by decide) rfl tw_7_22 tw_7_24 tw_0_59 tw_1_7 tw_7_25 hy_X9_takes ⟨Nat.le_of_ble_eq_true rfl, Nat.le_of_ble_eq_true rfl⟩ (As := [Value.int v3]) (rest := []) (c_X9_takes l D cy x0 v3 S _ h) rfl rfl (by simp [va_cat, vi_cat, vl_cat]) dX9_isTaken_28 ⟨Nat.le_of_ble_eq_true rfl, Nat.le_of_ble_eq_true rfl⟩ (fun r8 S7 h => ?_)
            obtain ⟨hb9, h⟩ := h
            refine G_if_eq C (tgt := 38) dX9_isTaken_31 (by decide) (fun hc => ?_) (fun hc => ?_)
            · have h := h.1 hc
              refine G_lv C (lv' := [(0, va_rf (some x0)), (1, Value.int x1), (3, Value.int v3)]) [0, 1, 3] rfl ?_
              exact J38 _ _ h
            · have h := h.2 hc
              refine G_lv C (lv' := [(0, va_rf (some x0)), (1, Value.int x1), (3, Value.int v3)]) [0, 1, 3] rfl ?_
              exact J34 _ _ h
  refine G_lv C (lv' := [(0, va_rf (some x0)), (1, Value.int x1)]) [0, 1] (by first | rfl | simp [lv_pick, lv_args, va_cat, vi_cat, vl_cat]) ?_
  unfold w_X9_isTaken at h
  refine G_iconst C (v := 0) dX9_isTaken_0 (by decide) ?_
  refine G_istore_n C (i := 2) (lv' := [(2, Value.int 0), (0, va_rf (some x0)), (1, Value.int x1)]) dX9_isTaken_1 rfl (by decide) (by first | rfl | simp [va_cat, vi_cat, vl_cat]) ?_
  refine G_iconst C (v := 0) dX9_isTaken_2 (by decide) ?_
  refine G_istore_n C (i := 3) (lv' := [(3, Value.int 0), (2, Value.int 0), (0, va_rf (some x0)), (1, Value.int x1)]) dX9_isTaken_3 rfl (by decide) (by first | rfl | simp [va_cat, vi_cat, vl_cat]) ?_
  refine G_lv C (lv' := [(0, va_rf (some x0)), (1, Value.int x1), (2, Value.int 0), (3, Value.int 0)]) [2, 3, 1, 0] rfl ?_
  obtain ⟨n9, h⟩ := h
  exact J4 n9 _ _ _ h
set_option maxHeartbeats 4000000 in
set_option maxRecDepth 100000 in
theorem c_X9_shares (l : Launch) (D : va_G) (cy : Nat → Nat) (x0 : Nat) (x1 : Int32) (S : PT) (post : Int32 → PT → Prop) (h : w_X9_shares x0 x1 S post) : Mi l yX9_shares (Wm yX9_shares prog_11_method_57_code 4 (Option.some Jvm.ClassFile.FieldType.boolean)) 2 44 D cy [va_rf (some x0), Value.int x1] S 0 0 (fun r S => bo r ∧ post r S) := by
  refine Mi_of (own := "TrenchboardModel") (by decide) rfl (by first | decide | simp [lg_sl, va_cat, vi_cat, vl_cat]) (fun p e s m below meth c A C hZ hr hin9 => ?_)
  have J4 : ∀ (n : Nat) (S : PT) (v2 : Int32) (v3 : Int32), w_X9_shares_l4 x0 x1 post n S v2 v3 → G p l e { frames := 2, cells := 0, slots := 0, locals := 44 } s m [va_rf (some x0), Value.int x1].toArray below meth c D cy A s.heap 4 (QMi below D cy A [va_rf (some x0), Value.int x1] s 0 0 (fun r S => bo r ∧ post r S)) S 0 0 4 [(0, va_rf (some x0)), (1, Value.int x1), (2, Value.int v2), (3, Value.int v3)] [] := by
    intro n4
    induction n4 with
    | zero => intro S v2 v3 h; rw [w_X9_shares_l4] at h; exact False.elim h
    | succ n4 K4 =>
      have J58 : ∀ (S : PT) (v3 : Int32) (s0 : Int32), w_X9_shares_b58 x0 x1 post (w_X9_shares_l4 x0 x1 post n4) S v3 s0 → G p l e { frames := 2, cells := 0, slots := 0, locals := 44 } s m [va_rf (some x0), Value.int x1].toArray below meth c D cy A s.heap 4 (QMi below D cy A [va_rf (some x0), Value.int x1] s 0 0 (fun r S => bo r ∧ post r S)) S 0 0 58 [(0, va_rf (some x0)), (1, Value.int x1), (3, Value.int v3)] [Value.int s0] := by
        intro S v3 s0 h
        unfold w_X9_shares_b58 at h
        refine G_istore_n C (i := 2) (lv' := [(2, Value.int s0), (0, va_rf (some x0)), (1, Value.int x1), (3, Value.int v3)]) dX9_shares_58 rfl (by decide) (by first | rfl | simp [va_cat, vi_cat, vl_cat]) ?_
        refine G_iinc C (v := (v3 + 1)) (lv' := [(3, Value.int (v3 + 1)), (2, Value.int s0), (0, va_rf (some x0)), (1, Value.int x1)]) 3 dX9_shares_59 rfl rfl (by decide) (by first | rfl | simp [va_cat, vi_cat, vl_cat]) ?_
        refine G_goto C (tgt := 4) dX9_shares_62 (by decide) ?_
        refine G_lv C (lv' := [(0, va_rf (some x0)), (1, Value.int x1), (2, Value.int s0), (3, Value.int (v3 + 1))]) [2, 3, 1, 0] rfl ?_
        exact K4 _ _ _ h
      have J53 : ∀ (S : PT) (v3 : Int32), w_X9_shares_b53 x0 x1 post (w_X9_shares_l4 x0 x1 post n4) S v3 → G p l e { frames := 2, cells := 0, slots := 0, locals := 44 } s m [va_rf (some x0), Value.int x1].toArray below meth c D cy A s.heap 4 (QMi below D cy A [va_rf (some x0), Value.int x1] s 0 0 (fun r S => bo r ∧ post r S)) S 0 0 53 [(0, va_rf (some x0)), (1, Value.int x1), (3, Value.int v3)] [] := by
        intro S v3 h
        unfold w_X9_shares_b53 at h
        refine G_iconst C (v := 1) dX9_shares_53 (by decide) ?_
        refine G_goto C (tgt := 58) dX9_shares_54 (by decide) ?_
        refine G_lv C (lv' := [(0, va_rf (some x0)), (1, Value.int x1), (3, Value.int v3)]) [0, 1, 2] rfl ?_
        exact J58 _ _ _ h
      have J57 : ∀ (S : PT) (v3 : Int32), w_X9_shares_b57 x0 x1 post (w_X9_shares_l4 x0 x1 post n4) S v3 → G p l e { frames := 2, cells := 0, slots := 0, locals := 44 } s m [va_rf (some x0), Value.int x1].toArray below meth c D cy A s.heap 4 (QMi below D cy A [va_rf (some x0), Value.int x1] s 0 0 (fun r S => bo r ∧ post r S)) S 0 0 57 [(0, va_rf (some x0)), (1, Value.int x1), (3, Value.int v3)] [] := by
        intro S v3 h
        unfold w_X9_shares_b57 at h
        refine G_iconst C (v := 0) dX9_shares_57 (by decide) ?_
        refine G_lv C (lv' := [(0, va_rf (some x0)), (1, Value.int x1), (3, Value.int v3)]) [0, 1, 2] rfl ?_
        exact J58 _ _ _ h
      intro S v2 v3 h
      rw [w_X9_shares_l4] at h
      refine G_iload_n C (x := v3) 3 dX9_shares_4 rfl rfl ?_
      refine G_aload_n C (x := (some x0)) 0 dX9_shares_5 rfl rfl ?_
      obtain ⟨hk1, h⟩ := h
      refine G_get C (CC := RX9) (Tf := TX9) (N := 50) (k := 10) (i := 23) (v := Value.int (gI S 1023 x0)) hk1 (by decide) rfl (fin fwX9) (by decide) (im tw_5_151) rfl rfl dX9_shares_6 ?_
      refine G_icmp_ge C (tgt := 65) dX9_shares_9 (by decide) (fun hc => ?_) (fun hc => ?_)
      · have h := h.1 hc
        refine G_iload_n C (x := v2) 2 dX9_shares_65 rfl rfl ?_
        obtain ⟨hb2, h⟩ := h
        exact G_zret C (mc := 0) (ms := 0) (post := (fun r S => bo r ∧ post r S)) (bo_nar hb2) hr (Nat.le_of_ble_eq_true rfl) (Nat.le_of_ble_eq_true rfl) dX9_shares_66 ⟨hb2, h⟩
      · have h := h.2 hc
        refine G_iload_n C (x := v2) 2 dX9_shares_12 rfl rfl ?_
        refine G_if_ne C (tgt := 53) dX9_shares_13 (by decide) (fun hc => ?_) (fun hc => ?_)
        · have h := h.1 hc
          refine G_lv C (lv' := [(0, va_rf (some x0)), (1, Value.int x1), (3, Value.int v3)]) [0, 1, 3] rfl ?_
          exact J53 _ _ h
        · have h := h.2 hc
          refine G_aload_n C (x := (some x0)) 0 dX9_shares_16 rfl rfl ?_
          refine G_get C (CC := RX9) (Tf := TX9) (N := 50) (k := 10) (i := 39) (v := va_rf (gP S 1039 x0)) hk1 (by decide) rfl (fin fwX9) (by decide) (im tw_5_167) rfl rfl dX9_shares_17 ?_
          refine G_bipush C (v := 24) dX9_shares_20 (by decide) ?_
          refine G_iload_n C (x := x1) 1 dX9_shares_22 rfl rfl ?_
          refine G_imul C dX9_shares_23 ?_
          refine G_iload_n C (x := v3) 3 dX9_shares_24 rfl rfl ?_
          refine G_iadd C dX9_shares_25 ?_
          obtain ⟨a3, ha4, h⟩ := h
          refine G_rf1 ha4 ?_
          obtain ⟨hk5, h⟩ := h
          obtain ⟨hi6, h⟩ := h
          refine G_zald C hk5 hi6 dX9_shares_26 ?_
          refine G_if_eq C (tgt := 57) dX9_shares_27 (by decide) (fun hc => ?_) (fun hc => ?_)
          · have h := h.1 hc
            refine G_lv C (lv' := [(0, va_rf (some x0)), (1, Value.int x1), (3, Value.int v3)]) [0, 1, 3] rfl ?_
            exact J57 _ _ h
          · have h := h.2 hc
            refine G_aload_n C (x := (some x0)) 0 dX9_shares_30 rfl rfl ?_
            refine G_get C (CC := RX9) (Tf := TX9) (N := 50) (k := 10) (i := 25) (v := va_rf (gP S 1025 x0)) hk1 (by decide) rfl (fin fwX9) (by decide) (im tw_5_153) rfl rfl dX9_shares_31 ?_
            refine G_iload_n C (x := v3) 3 dX9_shares_34 rfl rfl ?_
            obtain ⟨a7, ha8, h⟩ := h
            refine G_rf1 ha8 ?_
            obtain ⟨hk9, h⟩ := h
            obtain ⟨hi10, h⟩ := h
            refine G_iald C hk9 hi10 dX9_shares_35 ?_
            refine G_aload_n C (x := (some x0)) 0 dX9_shares_36 rfl rfl ?_
            refine G_get C (CC := RX9) (Tf := TX9) (N := 50) (k := 10) (i := 25) (v := va_rf (gP S 1025 x0)) hk1 (by decide) rfl (fin fwX9) (by decide) (im tw_5_153) rfl rfl dX9_shares_37 ?_
            refine G_iload_n C (x := x1) 1 dX9_shares_40 rfl rfl ?_
            refine G_rf1 ha8 ?_
            obtain ⟨hi11, h⟩ := h
            refine G_iald C hk9 hi11 dX9_shares_41 ?_
            refine G_icmp_ne C (tgt := 57) dX9_shares_42 (by decide) (fun hc => ?_) (fun hc => ?_)
            · have h := h.1 hc
              refine G_lv C (lv' := [(0, va_rf (some x0)), (1, Value.int x1), (3, Value.int v3)]) [0, 1, 3] rfl ?_
              exact J57 _ _ h
            · have h := h.2 hc
              refine G_aload_n C (x := (some x0)) 0 dX9_shares_45 rfl rfl ?_
              refine G_iload_n C (x := v3) 3 dX9_shares_46 rfl rfl ?_
              refine G_callVi C hZ (Tf := TX9) (N := 50) hk1 (by decide) rfl tw_7_22 tw_7_24 tw_0_59 tw_1_7 tw_7_25 hy_X9_takes ⟨Nat.le_of_ble_eq_true rfl, Nat.le_of_ble_eq_true rfl⟩ (As := [Value.int v3]) (rest := []) (c_X9_takes l D cy x0 v3 S _ h) rfl rfl (by simp [va_cat, vi_cat, vl_cat]) dX9_shares_47 ⟨Nat.le_of_ble_eq_true rfl, Nat.le_of_ble_eq_true rfl⟩ (fun r13 S12 h => ?_)
              obtain ⟨hb14, h⟩ := h
              refine G_if_eq C (tgt := 57) dX9_shares_50 (by decide) (fun hc => ?_) (fun hc => ?_)
              · have h := h.1 hc
                refine G_lv C (lv' := [(0, va_rf (some x0)), (1, Value.int x1), (3, Value.int v3)]) [0, 1, 3] rfl ?_
                exact J57 _ _ h
              · have h := h.2 hc
                refine G_lv C (lv' := [(0, va_rf (some x0)), (1, Value.int x1), (3, Value.int v3)]) [0, 1, 3] rfl ?_
                exact J53 _ _ h
  refine G_lv C (lv' := [(0, va_rf (some x0)), (1, Value.int x1)]) [0, 1] (by first | rfl | simp [lv_pick, lv_args, va_cat, vi_cat, vl_cat]) ?_
  unfold w_X9_shares at h
  refine G_iconst C (v := 0) dX9_shares_0 (by decide) ?_
  refine G_istore_n C (i := 2) (lv' := [(2, Value.int 0), (0, va_rf (some x0)), (1, Value.int x1)]) dX9_shares_1 rfl (by decide) (by first | rfl | simp [va_cat, vi_cat, vl_cat]) ?_
  refine G_iconst C (v := 0) dX9_shares_2 (by decide) ?_
  refine G_istore_n C (i := 3) (lv' := [(3, Value.int 0), (2, Value.int 0), (0, va_rf (some x0)), (1, Value.int x1)]) dX9_shares_3 rfl (by decide) (by first | rfl | simp [va_cat, vi_cat, vl_cat]) ?_
  refine G_lv C (lv' := [(0, va_rf (some x0)), (1, Value.int x1), (2, Value.int 0), (3, Value.int 0)]) [2, 3, 1, 0] rfl ?_
  obtain ⟨n9, h⟩ := h
  exact J4 n9 _ _ _ h
set_option maxHeartbeats 4000000 in
set_option maxRecDepth 100000 in
theorem c_X9_rents (l : Launch) (D : va_G) (cy : Nat → Nat) (x0 : Nat) (S : PT) (post : PT → Prop) (h : w_X9_rents x0 S post) : Mv l yX9_rents (Wm yX9_rents prog_11_method_58_code 3 (Option.none : Option Jvm.ClassFile.FieldType)) 3 67 D cy [va_rf (some x0)] S 0 0 post := by
  refine Mv_of (own := "TrenchboardModel") (by decide) rfl (by first | decide | simp [lg_sl, va_cat, vi_cat, vl_cat]) (fun p e s m below meth c A C hZ hr hin9 => ?_)
  have J2 : ∀ (n : Nat) (S : PT) (v1 : Int32), w_X9_rents_l2 x0 post n S v1 → G p l e { frames := 3, cells := 0, slots := 0, locals := 67 } s m [va_rf (some x0)].toArray below meth c D cy A s.heap 3 (QMv below D cy A [va_rf (some x0)] s 0 0 post) S 0 0 2 [(0, va_rf (some x0)), (1, Value.int v1)] [] := by
    intro n2
    induction n2 with
    | zero => intro S v1 h; rw [w_X9_rents_l2] at h; exact False.elim h
    | succ n2 K2 =>
      have J82 : ∀ (S : PT) (v1 : Int32), w_X9_rents_b82 x0 post (w_X9_rents_l2 x0 post n2) S v1 → G p l e { frames := 3, cells := 0, slots := 0, locals := 67 } s m [va_rf (some x0)].toArray below meth c D cy A s.heap 3 (QMv below D cy A [va_rf (some x0)] s 0 0 post) S 0 0 82 [(0, va_rf (some x0)), (1, Value.int v1)] [] := by
        intro S v1 h
        unfold w_X9_rents_b82 at h
        refine G_iinc C (v := (v1 + 1)) (lv' := [(1, Value.int (v1 + 1)), (0, va_rf (some x0))]) 1 dX9_rents_82 rfl rfl (by decide) (by first | rfl | simp [va_cat, vi_cat, vl_cat]) ?_
        refine G_goto C (tgt := 2) dX9_rents_85 (by decide) ?_
        refine G_lv C (lv' := [(0, va_rf (some x0)), (1, Value.int (v1 + 1))]) [1, 0] rfl ?_
        exact K2 _ _ h
      have J79 : ∀ (S : PT) (v1 : Int32) (s0 : Option Nat) (s1 : Int32) (s2 : Int32) (s3 : Int32), w_X9_rents_b79 x0 post (w_X9_rents_l2 x0 post n2) S v1 s0 s1 s2 s3 → G p l e { frames := 3, cells := 0, slots := 0, locals := 67 } s m [va_rf (some x0)].toArray below meth c D cy A s.heap 3 (QMv below D cy A [va_rf (some x0)] s 0 0 post) S 0 0 79 [(0, va_rf (some x0)), (1, Value.int v1)] [Value.int s3, Value.int s2, Value.int s1, va_rf s0] := by
        intro S v1 s0 s1 s2 s3 h
        unfold w_X9_rents_b79 at h
        obtain ⟨a1, ha2, h⟩ := h
        obtain ⟨hk3, h⟩ := h
        refine G_callVv C hZ (Tf := TX9) (N := 50) hk3 (by decide) rfl tw_6_174 tw_6_176 tw_0_48 tw_1_7 tw_6_177 hy_X9_pays ⟨Nat.le_of_ble_eq_true rfl, Nat.le_of_ble_eq_true rfl⟩ (As := [Value.int s1, Value.int s2, Value.int s3]) (rest := []) (c_X9_pays l D cy a1 s1 s2 s3 S _ h) rfl (by first | rfl | (simp only [ha2]; rfl) | simp only [ha2]) (by simp [va_cat, vi_cat, vl_cat]) dX9_rents_79 ⟨Nat.le_of_ble_eq_true rfl, Nat.le_of_ble_eq_true rfl⟩ (fun S4 h => ?_)
        refine G_lv C (lv' := [(0, va_rf (some x0)), (1, Value.int v1)]) [0, 1] rfl ?_
        exact J82 _ _ h
      have J50 : ∀ (S : PT) (v1 : Int32) (s0 : Option Nat) (s1 : Int32) (s2 : Int32) (s3 : Int32), w_X9_rents_b50 x0 post (w_X9_rents_l2 x0 post n2) S v1 s0 s1 s2 s3 → G p l e { frames := 3, cells := 0, slots := 0, locals := 67 } s m [va_rf (some x0)].toArray below meth c D cy A s.heap 3 (QMv below D cy A [va_rf (some x0)] s 0 0 post) S 0 0 50 [(0, va_rf (some x0)), (1, Value.int v1)] [Value.int s3, Value.int s2, Value.int s1, va_rf s0] := by
        intro S v1 s0 s1 s2 s3 h
        unfold w_X9_rents_b50 at h
        obtain ⟨a6, ha7, h⟩ := h
        obtain ⟨hk8, h⟩ := h
        refine G_callVv C hZ (Tf := TX9) (N := 50) hk8 (by decide) rfl tw_6_174 tw_6_176 tw_0_48 tw_1_7 tw_6_177 hy_X9_pays ⟨Nat.le_of_ble_eq_true rfl, Nat.le_of_ble_eq_true rfl⟩ (As := [Value.int s1, Value.int s2, Value.int s3]) (rest := []) (c_X9_pays l D cy a6 s1 s2 s3 S _ h) rfl (by first | rfl | (simp only [ha7]; rfl) | simp only [ha7]) (by simp [va_cat, vi_cat, vl_cat]) dX9_rents_50 ⟨Nat.le_of_ble_eq_true rfl, Nat.le_of_ble_eq_true rfl⟩ (fun S9 h => ?_)
        refine G_aload_n C (x := (some x0)) 0 dX9_rents_53 rfl rfl ?_
        refine G_aload_n C (x := (some x0)) 0 dX9_rents_54 rfl rfl ?_
        obtain ⟨hk11, h⟩ := h
        refine G_get C (CC := RX9) (Tf := TX9) (N := 50) (k := 10) (i := 24) (v := va_rf (gP S9 1024 x0)) hk11 (by decide) rfl (fin fwX9) (by decide) (im tw_5_152) rfl rfl dX9_rents_55 ?_
        refine G_iload_n C (x := v1) 1 dX9_rents_58 rfl rfl ?_
        obtain ⟨a12, ha13, h⟩ := h
        refine G_rf1 ha13 ?_
        obtain ⟨hk14, h⟩ := h
        obtain ⟨hi15, h⟩ := h
        refine G_iald C hk14 hi15 dX9_rents_59 ?_
        refine G_iconst C (v := 5) dX9_rents_60 (by decide) ?_
        refine G_aload_n C (x := (some x0)) 0 dX9_rents_61 rfl rfl ?_
        refine G_get C (CC := RX9) (Tf := TX9) (N := 50) (k := 10) (i := 34) (v := va_rf (gP S9 1034 x0)) hk11 (by decide) rfl (fin fwX9) (by decide) (im tw_5_162) rfl rfl dX9_rents_62 ?_
        refine G_iload_n C (x := v1) 1 dX9_rents_65 rfl rfl ?_
        obtain ⟨a16, ha17, h⟩ := h
        refine G_rf1 ha17 ?_
        obtain ⟨hk18, h⟩ := h
        obtain ⟨hi19, h⟩ := h
        refine G_iald C hk18 hi19 dX9_rents_66 ?_
        refine G_iconst C (v := 2) dX9_rents_67 (by decide) ?_
        refine G_iand C dX9_rents_68 ?_
        refine G_if_eq C (tgt := 78) dX9_rents_69 (by decide) (fun hc => ?_) (fun hc => ?_)
        · have h := h.1 hc
          refine G_iconst C (v := 0) dX9_rents_78 (by decide) ?_
          refine G_lv C (lv' := [(0, va_rf (some x0)), (1, Value.int v1)]) [0, 1] rfl ?_
          exact J79 _ _ _ _ _ _ h
        · have h := h.2 hc
          refine G_sipush C (v := 200) dX9_rents_72 (by decide) ?_
          refine G_goto C (tgt := 79) dX9_rents_75 (by decide) ?_
          refine G_lv C (lv' := [(0, va_rf (some x0)), (1, Value.int v1)]) [0, 1] rfl ?_
          exact J79 _ _ _ _ _ _ h
      intro S v1 h
      rw [w_X9_rents_l2] at h
      refine G_iload_n C (x := v1) 1 dX9_rents_2 rfl rfl ?_
      refine G_aload_n C (x := (some x0)) 0 dX9_rents_3 rfl rfl ?_
      obtain ⟨hk20, h⟩ := h
      refine G_get C (CC := RX9) (Tf := TX9) (N := 50) (k := 10) (i := 23) (v := Value.int (gI S 1023 x0)) hk20 (by decide) rfl (fin fwX9) (by decide) (im tw_5_151) rfl rfl dX9_rents_4 ?_
      refine G_icmp_ge C (tgt := 88) dX9_rents_7 (by decide) (fun hc => ?_) (fun hc => ?_)
      · have h := h.1 hc
        exact G_vret C (mc := 0) (ms := 0) (post := post) hr (Nat.le_of_ble_eq_true rfl) (Nat.le_of_ble_eq_true rfl) dX9_rents_88 h
      · have h := h.2 hc
        refine G_aload_n C (x := (some x0)) 0 dX9_rents_10 rfl rfl ?_
        refine G_iload_n C (x := v1) 1 dX9_rents_11 rfl rfl ?_
        refine G_callVi C hZ (Tf := TX9) (N := 50) hk20 (by decide) rfl tw_7_22 tw_7_24 tw_0_59 tw_1_7 tw_7_25 hy_X9_takes ⟨Nat.le_of_ble_eq_true rfl, Nat.le_of_ble_eq_true rfl⟩ (As := [Value.int v1]) (rest := []) (c_X9_takes l D cy x0 v1 S _ h) rfl rfl (by simp [va_cat, vi_cat, vl_cat]) dX9_rents_12 ⟨Nat.le_of_ble_eq_true rfl, Nat.le_of_ble_eq_true rfl⟩ (fun r22 S21 h => ?_)
        obtain ⟨hb23, h⟩ := h
        refine G_if_eq C (tgt := 82) dX9_rents_15 (by decide) (fun hc => ?_) (fun hc => ?_)
        · have h := h.1 hc
          refine G_lv C (lv' := [(0, va_rf (some x0)), (1, Value.int v1)]) [0, 1] rfl ?_
          exact J82 _ _ h
        · have h := h.2 hc
          refine G_bipush C (v := 50) dX9_rents_18 (by decide) ?_
          refine G_aload_n C (x := (some x0)) 0 dX9_rents_20 rfl rfl ?_
          refine G_iload_n C (x := v1) 1 dX9_rents_21 rfl rfl ?_
          obtain ⟨hk24, h⟩ := h
          refine G_callVi C hZ (Tf := TX9) (N := 50) hk24 (by decide) rfl tw_7_14 tw_7_16 tw_0_57 tw_1_7 tw_7_17 hy_X9_grade ⟨Nat.le_of_ble_eq_true rfl, Nat.le_of_ble_eq_true rfl⟩ (As := [Value.int v1]) (rest := [Value.int 50]) (c_X9_grade l D cy x0 v1 S21 _ h) rfl rfl (by simp [va_cat, vi_cat, vl_cat]) dX9_rents_22 ⟨Nat.le_of_ble_eq_true rfl, Nat.le_of_ble_eq_true rfl⟩ (fun r26 S25 h => ?_)
          refine G_imul C dX9_rents_25 ?_
          refine G_istore_n C (i := 2) (lv' := [(2, Value.int (50 * r26)), (0, va_rf (some x0)), (1, Value.int v1)]) dX9_rents_26 rfl (by decide) (by first | rfl | simp [va_cat, vi_cat, vl_cat]) ?_
          refine G_aload_n C (x := (some x0)) 1 dX9_rents_27 rfl rfl ?_
          refine G_aload_n C (x := (some x0)) 1 dX9_rents_28 rfl rfl ?_
          obtain ⟨hk27, h⟩ := h
          refine G_get C (CC := RX9) (Tf := TX9) (N := 50) (k := 10) (i := 24) (v := va_rf (gP S25 1024 x0)) hk27 (by decide) rfl (fin fwX9) (by decide) (im tw_5_152) rfl rfl dX9_rents_29 ?_
          refine G_iload_n C (x := v1) 2 dX9_rents_32 rfl rfl ?_
          obtain ⟨a28, ha29, h⟩ := h
          refine G_rf1 ha29 ?_
          obtain ⟨hk30, h⟩ := h
          obtain ⟨hi31, h⟩ := h
          refine G_iald C hk30 hi31 dX9_rents_33 ?_
          refine G_iconst C (v := 5) dX9_rents_34 (by decide) ?_
          refine G_aload_n C (x := (some x0)) 1 dX9_rents_35 rfl rfl ?_
          refine G_iload_n C (x := v1) 2 dX9_rents_36 rfl rfl ?_
          refine G_callVi C hZ (Tf := TX9) (N := 50) hk27 (by decide) rfl tw_7_26 tw_7_28 tw_0_60 tw_1_7 tw_7_29 hy_X9_shares ⟨Nat.le_of_ble_eq_true rfl, Nat.le_of_ble_eq_true rfl⟩ (As := [Value.int v1]) (rest := [Value.int 5, Value.int (gA S25 a28 v1.toNatClampNeg), va_rf (some x0)]) (c_X9_shares l D cy x0 v1 S25 _ h) rfl rfl (by simp [va_cat, vi_cat, vl_cat]) dX9_rents_37 ⟨Nat.le_of_ble_eq_true rfl, Nat.le_of_ble_eq_true rfl⟩ (fun r33 S32 h => ?_)
          obtain ⟨hb34, h⟩ := h
          refine G_if_eq C (tgt := 49) dX9_rents_40 (by decide) (fun hc => ?_) (fun hc => ?_)
          · have h := h.1 hc
            refine G_iload_n C (x := (50 * r26)) 0 dX9_rents_49 rfl rfl ?_
            refine G_lv C (lv' := [(0, va_rf (some x0)), (1, Value.int v1)]) [1, 2] rfl ?_
            exact J50 _ _ _ _ _ _ h
          · have h := h.2 hc
            refine G_iload_n C (x := (50 * r26)) 0 dX9_rents_43 rfl rfl ?_
            refine G_iconst C (v := 2) dX9_rents_44 (by decide) ?_
            refine G_idiv C dX9_rents_45 (by decide) ?_
            refine G_goto C (tgt := 50) dX9_rents_46 (by decide) ?_
            refine G_lv C (lv' := [(0, va_rf (some x0)), (1, Value.int v1)]) [1, 2] rfl ?_
            exact J50 _ _ _ _ _ _ h
  refine G_lv C (lv' := [(0, va_rf (some x0))]) [0] (by first | rfl | simp [lv_pick, lv_args, va_cat, vi_cat, vl_cat]) ?_
  unfold w_X9_rents at h
  refine G_iconst C (v := 0) dX9_rents_0 (by decide) ?_
  refine G_istore_n C (i := 1) (lv' := [(1, Value.int 0), (0, va_rf (some x0))]) dX9_rents_1 rfl (by decide) (by first | rfl | simp [va_cat, vi_cat, vl_cat]) ?_
  refine G_lv C (lv' := [(0, va_rf (some x0)), (1, Value.int 0)]) [1, 0] rfl ?_
  obtain ⟨n9, h⟩ := h
  exact J2 n9 _ _ h
set_option maxHeartbeats 4000000 in
set_option maxRecDepth 100000 in
theorem c_X9_waits (l : Launch) (D : va_G) (cy : Nat → Nat) (x0 : Nat) (S : PT) (post : PT → Prop) (h : w_X9_waits x0 S post) : Mv l yX9_waits (Wm yX9_waits prog_11_method_59_code 4 (Option.none : Option Jvm.ClassFile.FieldType)) 3 67 D cy [va_rf (some x0)] S 0 0 post := by
  refine Mv_of (own := "TrenchboardModel") (by decide) rfl (by first | decide | simp [lg_sl, va_cat, vi_cat, vl_cat]) (fun p e s m below meth c A C hZ hr hin9 => ?_)
  have J108 : ∀ (n : Nat) (S : PT) (v1 : Int32), w_X9_waits_l108 x0 post n S v1 → G p l e { frames := 3, cells := 0, slots := 0, locals := 67 } s m [va_rf (some x0)].toArray below meth c D cy A s.heap 4 (QMv below D cy A [va_rf (some x0)] s 0 0 post) S 0 0 108 [(0, va_rf (some x0)), (1, Value.int v1)] [] := by
    intro n108
    induction n108 with
    | zero => intro S v1 h; rw [w_X9_waits_l108] at h; exact False.elim h
    | succ n108 K108 =>
      have J177 : ∀ (S : PT) (v1 : Int32) (s0 : Option Nat) (s1 : Int32) (s2 : Int32), w_X9_waits_b177 x0 post (w_X9_waits_l108 x0 post n108) S v1 s0 s1 s2 → G p l e { frames := 3, cells := 0, slots := 0, locals := 67 } s m [va_rf (some x0)].toArray below meth c D cy A s.heap 4 (QMv below D cy A [va_rf (some x0)] s 0 0 post) S 0 0 177 [(0, va_rf (some x0)), (1, Value.int v1)] [Value.int s2, Value.int s1, va_rf s0] := by
        intro S v1 s0 s1 s2 h
        unfold w_X9_waits_b177 at h
        obtain ⟨a1, ha2, h⟩ := h
        refine G_rf2 ha2 ?_
        obtain ⟨hk3, h⟩ := h
        obtain ⟨hi4, h⟩ := h
        refine G_iast C hk3 hi4 dX9_waits_177 ?_
        generalize e6 : sA S a1 ((s1).toNatClampNeg) s2 = S5
        have h := h S5 e6.symm
        refine G_iinc C (v := (v1 + 1)) (lv' := [(1, Value.int (v1 + 1)), (0, va_rf (some x0))]) 1 dX9_waits_178 rfl rfl (by decide) (by first | rfl | simp [va_cat, vi_cat, vl_cat]) ?_
        refine G_goto C (tgt := 108) dX9_waits_181 (by decide) ?_
        refine G_lv C (lv' := [(0, va_rf (some x0)), (1, Value.int (v1 + 1))]) [1, 0] rfl ?_
        exact K108 _ _ h
      have J146 : ∀ (S : PT) (v1 : Int32) (s0 : Int32), w_X9_waits_b146 x0 post (w_X9_waits_l108 x0 post n108) S v1 s0 → G p l e { frames := 3, cells := 0, slots := 0, locals := 67 } s m [va_rf (some x0)].toArray below meth c D cy A s.heap 4 (QMv below D cy A [va_rf (some x0)] s 0 0 post) S 0 0 146 [(0, va_rf (some x0)), (1, Value.int v1)] [Value.int s0] := by
        intro S v1 s0 h
        unfold w_X9_waits_b146 at h
        refine G_istore_n C (i := 2) (lv' := [(2, Value.int s0), (0, va_rf (some x0)), (1, Value.int v1)]) dX9_waits_146 rfl (by decide) (by first | rfl | simp [va_cat, vi_cat, vl_cat]) ?_
        refine G_aload_n C (x := (some x0)) 1 dX9_waits_147 rfl rfl ?_
        obtain ⟨hk7, h⟩ := h
        refine G_get C (CC := RX9) (Tf := TX9) (N := 50) (k := 10) (i := 10) (v := va_rf (gP S 1010 x0)) hk7 (by decide) rfl (fin fwX9) (by decide) (im tw_5_138) rfl rfl dX9_waits_148 ?_
        refine G_iload_n C (x := v1) 2 dX9_waits_151 rfl rfl ?_
        obtain ⟨a8, ha9, h⟩ := h
        refine G_rf1 ha9 ?_
        obtain ⟨hk10, h⟩ := h
        obtain ⟨hi11, h⟩ := h
        refine G_iald C hk10 hi11 dX9_waits_152 ?_
        refine G_aload_n C (x := (some x0)) 1 dX9_waits_153 rfl rfl ?_
        refine G_get C (CC := RX9) (Tf := TX9) (N := 50) (k := 10) (i := 11) (v := va_rf (gP S 1011 x0)) hk7 (by decide) rfl (fin fwX9) (by decide) (im tw_5_139) rfl rfl dX9_waits_154 ?_
        refine G_iload_n C (x := v1) 2 dX9_waits_157 rfl rfl ?_
        obtain ⟨a12, ha13, h⟩ := h
        refine G_rf1 ha13 ?_
        obtain ⟨hk14, h⟩ := h
        obtain ⟨hi15, h⟩ := h
        refine G_iald C hk14 hi15 dX9_waits_158 ?_
        refine G_iadd C dX9_waits_159 ?_
        refine G_iload_n C (x := s0) 0 dX9_waits_160 rfl rfl ?_
        refine G_isub C dX9_waits_161 ?_
        refine G_istore_n C (i := 3) (lv' := [(3, Value.int (((gA S a8 v1.toNatClampNeg) + (gA S a12 v1.toNatClampNeg)) - s0)), (2, Value.int s0), (0, va_rf (some x0)), (1, Value.int v1)]) dX9_waits_162 rfl (by decide) (by first | rfl | simp [va_cat, vi_cat, vl_cat]) ?_
        refine G_aload_n C (x := (some x0)) 2 dX9_waits_163 rfl rfl ?_
        refine G_get C (CC := RX9) (Tf := TX9) (N := 50) (k := 10) (i := 10) (v := va_rf (gP S 1010 x0)) hk7 (by decide) rfl (fin fwX9) (by decide) (im tw_5_138) rfl rfl dX9_waits_164 ?_
        refine G_iload_n C (x := v1) 3 dX9_waits_167 rfl rfl ?_
        refine G_iload_n C (x := (((gA S a8 v1.toNatClampNeg) + (gA S a12 v1.toNatClampNeg)) - s0)) 0 dX9_waits_168 rfl rfl ?_
        refine G_if_ge C (tgt := 176) dX9_waits_169 (by decide) (fun hc => ?_) (fun hc => ?_)
        · have h := h.1 hc
          refine G_iload_n C (x := (((gA S a8 v1.toNatClampNeg) + (gA S a12 v1.toNatClampNeg)) - s0)) 0 dX9_waits_176 rfl rfl ?_
          refine G_lv C (lv' := [(0, va_rf (some x0)), (1, Value.int v1)]) [2, 3] rfl ?_
          exact J177 _ _ _ _ _ h
        · have h := h.2 hc
          refine G_iconst C (v := 0) dX9_waits_172 (by decide) ?_
          refine G_goto C (tgt := 177) dX9_waits_173 (by decide) ?_
          refine G_lv C (lv' := [(0, va_rf (some x0)), (1, Value.int v1)]) [2, 3] rfl ?_
          exact J177 _ _ _ _ _ h
      intro S v1 h
      rw [w_X9_waits_l108] at h
      refine G_iload_n C (x := v1) 1 dX9_waits_108 rfl rfl ?_
      refine G_aload_n C (x := (some x0)) 0 dX9_waits_109 rfl rfl ?_
      obtain ⟨hk16, h⟩ := h
      refine G_get C (CC := RX9) (Tf := TX9) (N := 50) (k := 10) (i := 1) (v := Value.int (gI S 1001 x0)) hk16 (by decide) rfl (fin fwX9) (by decide) (im tw_5_129) rfl rfl dX9_waits_110 ?_
      refine G_icmp_ge C (tgt := 184) dX9_waits_113 (by decide) (fun hc => ?_) (fun hc => ?_)
      · have h := h.1 hc
        exact G_vret C (mc := 0) (ms := 0) (post := post) hr (Nat.le_of_ble_eq_true rfl) (Nat.le_of_ble_eq_true rfl) dX9_waits_184 h
      · have h := h.2 hc
        refine G_bipush C (v := 100) dX9_waits_116 (by decide) ?_
        refine G_bipush C (v := 40) dX9_waits_118 (by decide) ?_
        refine G_iconst C (v := 3) dX9_waits_120 (by decide) ?_
        refine G_aload_n C (x := (some x0)) 0 dX9_waits_121 rfl rfl ?_
        refine G_get C (CC := RX9) (Tf := TX9) (N := 50) (k := 10) (i := 3) (v := va_rf (gP S 1003 x0)) hk16 (by decide) rfl (fin fwX9) (by decide) (im tw_5_131) rfl rfl dX9_waits_122 ?_
        refine G_iload_n C (x := v1) 1 dX9_waits_125 rfl rfl ?_
        obtain ⟨a17, ha18, h⟩ := h
        refine G_rf1 ha18 ?_
        obtain ⟨hk19, h⟩ := h
        obtain ⟨hi20, h⟩ := h
        refine G_iald C hk19 hi20 dX9_waits_126 ?_
        refine G_isub C dX9_waits_127 ?_
        refine G_imul C dX9_waits_128 ?_
        refine G_iadd C dX9_waits_129 ?_
        refine G_istore_n C (i := 2) (lv' := [(2, Value.int (100 + (40 * (3 - (gA S a17 v1.toNatClampNeg))))), (0, va_rf (some x0)), (1, Value.int v1)]) dX9_waits_130 rfl (by decide) (by first | rfl | simp [va_cat, vi_cat, vl_cat]) ?_
        refine G_aload_n C (x := (some x0)) 1 dX9_waits_131 rfl rfl ?_
        refine G_iload_n C (x := v1) 2 dX9_waits_132 rfl rfl ?_
        refine G_callVi C hZ (Tf := TX9) (N := 50) hk16 (by decide) rfl tw_7_34 tw_7_36 tw_0_62 tw_1_7 tw_7_37 hy_X9_isTaken ⟨Nat.le_of_ble_eq_true rfl, Nat.le_of_ble_eq_true rfl⟩ (As := [Value.int v1]) (rest := []) (c_X9_isTaken l D cy x0 v1 S _ h) rfl rfl (by simp [va_cat, vi_cat, vl_cat]) dX9_waits_133 ⟨Nat.le_of_ble_eq_true rfl, Nat.le_of_ble_eq_true rfl⟩ (fun r22 S21 h => ?_)
        obtain ⟨hb23, h⟩ := h
        refine G_if_eq C (tgt := 145) dX9_waits_136 (by decide) (fun hc => ?_) (fun hc => ?_)
        · have h := h.1 hc
          refine G_iload_n C (x := (100 + (40 * (3 - (gA S a17 v1.toNatClampNeg))))) 0 dX9_waits_145 rfl rfl ?_
          refine G_lv C (lv' := [(0, va_rf (some x0)), (1, Value.int v1)]) [1, 2] rfl ?_
          exact J146 _ _ _ h
        · have h := h.2 hc
          refine G_iload_n C (x := (100 + (40 * (3 - (gA S a17 v1.toNatClampNeg))))) 0 dX9_waits_139 rfl rfl ?_
          refine G_iconst C (v := 2) dX9_waits_140 (by decide) ?_
          refine G_idiv C dX9_waits_141 (by decide) ?_
          refine G_goto C (tgt := 146) dX9_waits_142 (by decide) ?_
          refine G_lv C (lv' := [(0, va_rf (some x0)), (1, Value.int v1)]) [1, 2] rfl ?_
          exact J146 _ _ _ h
  have J25 : ∀ (n : Nat) (S : PT) (v1 : Int32), w_X9_waits_l25 x0 post n S v1 → G p l e { frames := 3, cells := 0, slots := 0, locals := 67 } s m [va_rf (some x0)].toArray below meth c D cy A s.heap 4 (QMv below D cy A [va_rf (some x0)] s 0 0 post) S 0 0 25 [(0, va_rf (some x0)), (1, Value.int v1)] [] := by
    intro n25
    induction n25 with
    | zero => intro S v1 h; rw [w_X9_waits_l25] at h; exact False.elim h
    | succ n25 K25 =>
      have J100 : ∀ (S : PT) (v1 : Int32), w_X9_waits_b100 x0 post (w_X9_waits_l25 x0 post n25) S v1 → G p l e { frames := 3, cells := 0, slots := 0, locals := 67 } s m [va_rf (some x0)].toArray below meth c D cy A s.heap 4 (QMv below D cy A [va_rf (some x0)] s 0 0 post) S 0 0 100 [(0, va_rf (some x0)), (1, Value.int v1)] [] := by
        intro S v1 h
        unfold w_X9_waits_b100 at h
        refine G_iinc C (v := (v1 + 1)) (lv' := [(1, Value.int (v1 + 1)), (0, va_rf (some x0))]) 1 dX9_waits_100 rfl rfl (by decide) (by first | rfl | simp [va_cat, vi_cat, vl_cat]) ?_
        refine G_goto C (tgt := 25) dX9_waits_103 (by decide) ?_
        refine G_lv C (lv' := [(0, va_rf (some x0)), (1, Value.int (v1 + 1))]) [1, 0] rfl ?_
        exact K25 _ _ h
      have J63 : ∀ (S : PT) (v1 : Int32) (s0 : Int32), w_X9_waits_b63 x0 post (w_X9_waits_l25 x0 post n25) S v1 s0 → G p l e { frames := 3, cells := 0, slots := 0, locals := 67 } s m [va_rf (some x0)].toArray below meth c D cy A s.heap 4 (QMv below D cy A [va_rf (some x0)] s 0 0 post) S 0 0 63 [(0, va_rf (some x0)), (1, Value.int v1)] [Value.int s0] := by
        intro S v1 s0 h
        unfold w_X9_waits_b63 at h
        refine G_istore_n C (i := 2) (lv' := [(2, Value.int s0), (0, va_rf (some x0)), (1, Value.int v1)]) dX9_waits_63 rfl (by decide) (by first | rfl | simp [va_cat, vi_cat, vl_cat]) ?_
        refine G_aload_n C (x := (some x0)) 1 dX9_waits_64 rfl rfl ?_
        obtain ⟨hk24, h⟩ := h
        refine G_get C (CC := RX9) (Tf := TX9) (N := 50) (k := 10) (i := 11) (v := va_rf (gP S 1011 x0)) hk24 (by decide) rfl (fin fwX9) (by decide) (im tw_5_139) rfl rfl dX9_waits_65 ?_
        refine G_iload_n C (x := v1) 2 dX9_waits_68 rfl rfl ?_
        refine G_dup2 C dX9_waits_69 rfl (va_cat _) ?_
        obtain ⟨a25, ha26, h⟩ := h
        refine G_rf1 ha26 ?_
        obtain ⟨hk27, h⟩ := h
        obtain ⟨hi28, h⟩ := h
        refine G_iald C hk27 hi28 dX9_waits_70 ?_
        refine G_aload_n C (x := (some x0)) 1 dX9_waits_71 rfl rfl ?_
        refine G_get C (CC := RX9) (Tf := TX9) (N := 50) (k := 10) (i := 4) (v := va_rf (gP S 1004 x0)) hk24 (by decide) rfl (fin fwX9) (by decide) (im tw_5_132) rfl rfl dX9_waits_72 ?_
        refine G_iload_n C (x := v1) 2 dX9_waits_75 rfl rfl ?_
        obtain ⟨a29, ha30, h⟩ := h
        refine G_rf1 ha30 ?_
        obtain ⟨hk31, h⟩ := h
        obtain ⟨hi32, h⟩ := h
        refine G_iald C hk31 hi32 dX9_waits_76 ?_
        refine G_iload_n C (x := s0) 0 dX9_waits_77 rfl rfl ?_
        refine G_isub C dX9_waits_78 ?_
        refine G_iadd C dX9_waits_79 ?_
        refine G_rf2 ha26 ?_
        obtain ⟨hi33, h⟩ := h
        refine G_iast C hk27 hi33 dX9_waits_80 ?_
        generalize e35 : sA S a25 ((v1).toNatClampNeg) ((gA S a25 v1.toNatClampNeg) + ((gA S a29 v1.toNatClampNeg) - s0)) = S34
        have h := h S34 e35.symm
        refine G_iload_n C (x := s0) 0 dX9_waits_81 rfl rfl ?_
        refine G_if_le C (tgt := 100) dX9_waits_82 (by decide) (fun hc => ?_) (fun hc => ?_)
        · have h := h.1 hc
          refine G_lv C (lv' := [(0, va_rf (some x0)), (1, Value.int v1)]) [1, 2] rfl ?_
          exact J100 _ _ h
        · have h := h.2 hc
          refine G_aload_n C (x := (some x0)) 1 dX9_waits_85 rfl rfl ?_
          refine G_get C (CC := RX9) (Tf := TX9) (N := 50) (k := 10) (i := 11) (v := va_rf (gP S34 1011 x0)) (ksA e35.symm hk24) (by decide) rfl (fin fwX9) (by decide) (im tw_5_139) rfl rfl dX9_waits_86 ?_
          refine G_aload_n C (x := (some x0)) 1 dX9_waits_89 rfl rfl ?_
          refine G_get C (CC := RX9) (Tf := TX9) (N := 50) (k := 10) (i := 5) (v := va_rf (gP S34 1005 x0)) (ksA e35.symm hk24) (by decide) rfl (fin fwX9) (by decide) (im tw_5_133) rfl rfl dX9_waits_90 ?_
          refine G_iload_n C (x := v1) 2 dX9_waits_93 rfl rfl ?_
          obtain ⟨a36, ha37, h⟩ := h
          refine G_rf1 ha37 ?_
          obtain ⟨hk38, h⟩ := h
          obtain ⟨hi39, h⟩ := h
          refine G_iald C hk38 hi39 dX9_waits_94 ?_
          refine G_dup2 C dX9_waits_95 rfl (va_cat _) ?_
          obtain ⟨a40, ha41, h⟩ := h
          refine G_rf1 ha41 ?_
          obtain ⟨hk42, h⟩ := h
          obtain ⟨hi43, h⟩ := h
          refine G_iald C hk42 hi43 dX9_waits_96 ?_
          refine G_iload_n C (x := s0) 0 dX9_waits_97 rfl rfl ?_
          refine G_iadd C dX9_waits_98 ?_
          refine G_rf2 ha41 ?_
          obtain ⟨hi44, h⟩ := h
          refine G_iast C hk42 hi44 dX9_waits_99 ?_
          generalize e46 : sA S34 a40 (((gA S34 a36 v1.toNatClampNeg)).toNatClampNeg) ((gA S34 a40 (((gA S34 a36 v1.toNatClampNeg)).toNatClampNeg)) + s0) = S45
          have h := h S45 e46.symm
          refine G_lv C (lv' := [(0, va_rf (some x0)), (1, Value.int v1)]) [1, 2] rfl ?_
          exact J100 _ _ h
      have J62 : ∀ (S : PT) (v1 : Int32), w_X9_waits_b62 x0 post (w_X9_waits_l25 x0 post n25) S v1 → G p l e { frames := 3, cells := 0, slots := 0, locals := 67 } s m [va_rf (some x0)].toArray below meth c D cy A s.heap 4 (QMv below D cy A [va_rf (some x0)] s 0 0 post) S 0 0 62 [(0, va_rf (some x0)), (1, Value.int v1)] [] := by
        intro S v1 h
        unfold w_X9_waits_b62 at h
        refine G_iconst C (v := 0) dX9_waits_62 (by decide) ?_
        refine G_lv C (lv' := [(0, va_rf (some x0)), (1, Value.int v1)]) [0, 1] rfl ?_
        exact J63 _ _ _ h
      intro S v1 h
      rw [w_X9_waits_l25] at h
      refine G_iload_n C (x := v1) 1 dX9_waits_25 rfl rfl ?_
      refine G_aload_n C (x := (some x0)) 0 dX9_waits_26 rfl rfl ?_
      obtain ⟨hk47, h⟩ := h
      refine G_get C (CC := RX9) (Tf := TX9) (N := 50) (k := 10) (i := 1) (v := Value.int (gI S 1001 x0)) hk47 (by decide) rfl (fin fwX9) (by decide) (im tw_5_129) rfl rfl dX9_waits_27 ?_
      refine G_icmp_ge C (tgt := 106) dX9_waits_30 (by decide) (fun hc => ?_) (fun hc => ?_)
      · have h := h.1 hc
        refine G_iconst C (v := 0) dX9_waits_106 (by decide) ?_
        refine G_istore_n C (i := 1) (lv' := [(1, Value.int 0), (0, va_rf (some x0))]) dX9_waits_107 rfl (by decide) (by first | rfl | simp [va_cat, vi_cat, vl_cat]) ?_
        refine G_lv C (lv' := [(0, va_rf (some x0)), (1, Value.int 0)]) [1, 0] rfl ?_
        obtain ⟨n9, h⟩ := h
        exact J108 n9 _ _ h
      · have h := h.2 hc
        refine G_aload_n C (x := (some x0)) 0 dX9_waits_33 rfl rfl ?_
        refine G_iload_n C (x := v1) 1 dX9_waits_34 rfl rfl ?_
        refine G_callVi C hZ (Tf := TX9) (N := 50) hk47 (by decide) rfl tw_7_34 tw_7_36 tw_0_62 tw_1_7 tw_7_37 hy_X9_isTaken ⟨Nat.le_of_ble_eq_true rfl, Nat.le_of_ble_eq_true rfl⟩ (As := [Value.int v1]) (rest := []) (c_X9_isTaken l D cy x0 v1 S _ h) rfl rfl (by simp [va_cat, vi_cat, vl_cat]) dX9_waits_35 ⟨Nat.le_of_ble_eq_true rfl, Nat.le_of_ble_eq_true rfl⟩ (fun r49 S48 h => ?_)
        obtain ⟨hb50, h⟩ := h
        refine G_if_eq C (tgt := 62) dX9_waits_38 (by decide) (fun hc => ?_) (fun hc => ?_)
        · have h := h.1 hc
          refine G_lv C (lv' := [(0, va_rf (some x0)), (1, Value.int v1)]) [0, 1] rfl ?_
          exact J62 _ _ h
        · have h := h.2 hc
          refine G_aload_n C (x := (some x0)) 0 dX9_waits_41 rfl rfl ?_
          obtain ⟨hk51, h⟩ := h
          refine G_get C (CC := RX9) (Tf := TX9) (N := 50) (k := 10) (i := 5) (v := va_rf (gP S48 1005 x0)) hk51 (by decide) rfl (fin fwX9) (by decide) (im tw_5_133) rfl rfl dX9_waits_42 ?_
          refine G_iload_n C (x := v1) 1 dX9_waits_45 rfl rfl ?_
          obtain ⟨a52, ha53, h⟩ := h
          refine G_rf1 ha53 ?_
          obtain ⟨hk54, h⟩ := h
          obtain ⟨hi55, h⟩ := h
          refine G_iald C hk54 hi55 dX9_waits_46 ?_
          refine G_iconst C (v := (-1)) dX9_waits_47 (by decide) ?_
          refine G_icmp_eq C (tgt := 62) dX9_waits_48 (by decide) (fun hc => ?_) (fun hc => ?_)
          · have h := h.1 hc
            refine G_lv C (lv' := [(0, va_rf (some x0)), (1, Value.int v1)]) [0, 1] rfl ?_
            exact J62 _ _ h
          · have h := h.2 hc
            refine G_aload_n C (x := (some x0)) 0 dX9_waits_51 rfl rfl ?_
            refine G_get C (CC := RX9) (Tf := TX9) (N := 50) (k := 10) (i := 4) (v := va_rf (gP S48 1004 x0)) hk51 (by decide) rfl (fin fwX9) (by decide) (im tw_5_132) rfl rfl dX9_waits_52 ?_
            refine G_iload_n C (x := v1) 1 dX9_waits_55 rfl rfl ?_
            obtain ⟨a56, ha57, h⟩ := h
            refine G_rf1 ha57 ?_
            obtain ⟨hk58, h⟩ := h
            obtain ⟨hi59, h⟩ := h
            refine G_iald C hk58 hi59 dX9_waits_56 ?_
            refine G_iconst C (v := 2) dX9_waits_57 (by decide) ?_
            refine G_idiv C dX9_waits_58 (by decide) ?_
            refine G_goto C (tgt := 63) dX9_waits_59 (by decide) ?_
            refine G_lv C (lv' := [(0, va_rf (some x0)), (1, Value.int v1)]) [0, 1] rfl ?_
            exact J63 _ _ _ h
  have J2 : ∀ (n : Nat) (S : PT) (v1 : Int32), w_X9_waits_l2 x0 post n S v1 → G p l e { frames := 3, cells := 0, slots := 0, locals := 67 } s m [va_rf (some x0)].toArray below meth c D cy A s.heap 4 (QMv below D cy A [va_rf (some x0)] s 0 0 post) S 0 0 2 [(0, va_rf (some x0)), (1, Value.int v1)] [] := by
    intro n2
    induction n2 with
    | zero => intro S v1 h; rw [w_X9_waits_l2] at h; exact False.elim h
    | succ n2 K2 =>
      intro S v1 h
      rw [w_X9_waits_l2] at h
      refine G_iload_n C (x := v1) 1 dX9_waits_2 rfl rfl ?_
      refine G_aload_n C (x := (some x0)) 0 dX9_waits_3 rfl rfl ?_
      obtain ⟨hk60, h⟩ := h
      refine G_get C (CC := RX9) (Tf := TX9) (N := 50) (k := 10) (i := 1) (v := Value.int (gI S 1001 x0)) hk60 (by decide) rfl (fin fwX9) (by decide) (im tw_5_129) rfl rfl dX9_waits_4 ?_
      refine G_icmp_ge C (tgt := 23) dX9_waits_7 (by decide) (fun hc => ?_) (fun hc => ?_)
      · have h := h.1 hc
        refine G_iconst C (v := 0) dX9_waits_23 (by decide) ?_
        refine G_istore_n C (i := 1) (lv' := [(1, Value.int 0), (0, va_rf (some x0))]) dX9_waits_24 rfl (by decide) (by first | rfl | simp [va_cat, vi_cat, vl_cat]) ?_
        refine G_lv C (lv' := [(0, va_rf (some x0)), (1, Value.int 0)]) [1, 0] rfl ?_
        obtain ⟨n9, h⟩ := h
        exact J25 n9 _ _ h
      · have h := h.2 hc
        refine G_aload_n C (x := (some x0)) 0 dX9_waits_10 rfl rfl ?_
        refine G_get C (CC := RX9) (Tf := TX9) (N := 50) (k := 10) (i := 11) (v := va_rf (gP S 1011 x0)) hk60 (by decide) rfl (fin fwX9) (by decide) (im tw_5_139) rfl rfl dX9_waits_11 ?_
        refine G_iload_n C (x := v1) 1 dX9_waits_14 rfl rfl ?_
        refine G_iconst C (v := 0) dX9_waits_15 (by decide) ?_
        obtain ⟨a61, ha62, h⟩ := h
        refine G_rf2 ha62 ?_
        obtain ⟨hk63, h⟩ := h
        obtain ⟨hi64, h⟩ := h
        refine G_iast C hk63 hi64 dX9_waits_16 ?_
        generalize e66 : sA S a61 ((v1).toNatClampNeg) 0 = S65
        have h := h S65 e66.symm
        refine G_iinc C (v := (v1 + 1)) (lv' := [(1, Value.int (v1 + 1)), (0, va_rf (some x0))]) 1 dX9_waits_17 rfl rfl (by decide) (by first | rfl | simp [va_cat, vi_cat, vl_cat]) ?_
        refine G_goto C (tgt := 2) dX9_waits_20 (by decide) ?_
        refine G_lv C (lv' := [(0, va_rf (some x0)), (1, Value.int (v1 + 1))]) [1, 0] rfl ?_
        exact K2 _ _ h
  refine G_lv C (lv' := [(0, va_rf (some x0))]) [0] (by first | rfl | simp [lv_pick, lv_args, va_cat, vi_cat, vl_cat]) ?_
  unfold w_X9_waits at h
  refine G_iconst C (v := 0) dX9_waits_0 (by decide) ?_
  refine G_istore_n C (i := 1) (lv' := [(1, Value.int 0), (0, va_rf (some x0))]) dX9_waits_1 rfl (by decide) (by first | rfl | simp [va_cat, vi_cat, vl_cat]) ?_
  refine G_lv C (lv' := [(0, va_rf (some x0)), (1, Value.int 0)]) [1, 0] rfl ?_
  obtain ⟨n9, h⟩ := h
  exact J2 n9 _ _ h
set_option maxHeartbeats 4000000 in
set_option maxRecDepth 100000 in
theorem c_X9_goesBy (l : Launch) (D : va_G) (cy : Nat → Nat) (x0 : Nat) (S : PT) (post : PT → Prop) (h : w_X9_goesBy x0 S post) : Mv l yX9_goesBy (Wm yX9_goesBy prog_11_method_60_code 2 (Option.none : Option Jvm.ClassFile.FieldType)) 7 158 D cy [va_rf (some x0)] S 0 0 post := by
  refine Mv_of (own := "TrenchboardModel") (by decide) rfl (by first | decide | simp [lg_sl, va_cat, vi_cat, vl_cat]) (fun p e s m below meth c A C hZ hr hin9 => ?_)
  have J93 : ∀ (S : PT), w_X9_goesBy_b93 x0 post S → G p l e { frames := 7, cells := 0, slots := 0, locals := 158 } s m [va_rf (some x0)].toArray below meth c D cy A s.heap 2 (QMv below D cy A [va_rf (some x0)] s 0 0 post) S 0 0 93 [(0, va_rf (some x0))] [] := by
    intro S h
    unfold w_X9_goesBy_b93 at h
    refine G_aload_n C (x := (some x0)) 0 dX9_goesBy_93 rfl rfl ?_
    obtain ⟨hk1, h⟩ := h
    refine G_callVv C hZ (Tf := TX9) (N := 50) hk1 (by decide) rfl tw_7_30 tw_7_32 tw_0_61 tw_1_7 tw_7_33 hy_X9_waits ⟨Nat.le_of_ble_eq_true rfl, Nat.le_of_ble_eq_true rfl⟩ (As := []) (rest := []) (c_X9_waits l D cy x0 S _ h) rfl rfl (by simp [va_cat, vi_cat, vl_cat]) dX9_goesBy_94 ⟨Nat.le_of_ble_eq_true rfl, Nat.le_of_ble_eq_true rfl⟩ (fun S2 h => ?_)
    exact G_vret C (mc := 0) (ms := 0) (post := post) hr (Nat.le_of_ble_eq_true rfl) (Nat.le_of_ble_eq_true rfl) dX9_goesBy_97 h
  have J82 : ∀ (S : PT), w_X9_goesBy_b82 x0 post S → G p l e { frames := 7, cells := 0, slots := 0, locals := 158 } s m [va_rf (some x0)].toArray below meth c D cy A s.heap 2 (QMv below D cy A [va_rf (some x0)] s 0 0 post) S 0 0 82 [(0, va_rf (some x0))] [] := by
    intro S h
    unfold w_X9_goesBy_b82 at h
    refine G_aload_n C (x := (some x0)) 0 dX9_goesBy_82 rfl rfl ?_
    obtain ⟨hk4, h⟩ := h
    refine G_callVi C hZ (Tf := TX9) (N := 50) hk4 (by decide) rfl tw_6_210 tw_6_212 tw_0_51 tw_1_7 tw_6_213 hy_X9_isBusy ⟨Nat.le_of_ble_eq_true rfl, Nat.le_of_ble_eq_true rfl⟩ (As := []) (rest := []) (c_X9_isBusy l D cy x0 S _ h) rfl rfl (by simp [va_cat, vi_cat, vl_cat]) dX9_goesBy_83 ⟨Nat.le_of_ble_eq_true rfl, Nat.le_of_ble_eq_true rfl⟩ (fun r6 S5 h => ?_)
    obtain ⟨hb7, h⟩ := h
    refine G_if_eq C (tgt := 93) dX9_goesBy_86 (by decide) (fun hc => ?_) (fun hc => ?_)
    · have h := h.1 hc
      refine G_lv C (lv' := [(0, va_rf (some x0))]) [0] rfl ?_
      exact J93 _ h
    · have h := h.2 hc
      refine G_aload_n C (x := (some x0)) 0 dX9_goesBy_89 rfl rfl ?_
      obtain ⟨hk8, h⟩ := h
      refine G_callVv C hZ (Tf := TX9) (N := 50) hk8 (by decide) rfl tw_7_18 tw_7_20 tw_0_58 tw_1_7 tw_7_21 hy_X9_rents ⟨Nat.le_of_ble_eq_true rfl, Nat.le_of_ble_eq_true rfl⟩ (As := []) (rest := []) (c_X9_rents l D cy x0 S5 _ h) rfl rfl (by simp [va_cat, vi_cat, vl_cat]) dX9_goesBy_90 ⟨Nat.le_of_ble_eq_true rfl, Nat.le_of_ble_eq_true rfl⟩ (fun S9 h => ?_)
      refine G_lv C (lv' := [(0, va_rf (some x0))]) [0] rfl ?_
      exact J93 _ h
  have J26 : ∀ (n : Nat) (S : PT) (v1 : Int32), w_X9_goesBy_l26 x0 post n S v1 → G p l e { frames := 7, cells := 0, slots := 0, locals := 158 } s m [va_rf (some x0)].toArray below meth c D cy A s.heap 2 (QMv below D cy A [va_rf (some x0)] s 0 0 post) S 0 0 26 [(0, va_rf (some x0)), (1, Value.int v1)] [] := by
    intro n26
    induction n26 with
    | zero => intro S v1 h; rw [w_X9_goesBy_l26] at h; exact False.elim h
    | succ n26 K26 =>
      have J76 : ∀ (S : PT) (v1 : Int32), w_X9_goesBy_b76 x0 post (w_X9_goesBy_l26 x0 post n26) S v1 → G p l e { frames := 7, cells := 0, slots := 0, locals := 158 } s m [va_rf (some x0)].toArray below meth c D cy A s.heap 2 (QMv below D cy A [va_rf (some x0)] s 0 0 post) S 0 0 76 [(0, va_rf (some x0)), (1, Value.int v1)] [] := by
        intro S v1 h
        unfold w_X9_goesBy_b76 at h
        refine G_iinc C (v := (v1 + 1)) (lv' := [(1, Value.int (v1 + 1)), (0, va_rf (some x0))]) 1 dX9_goesBy_76 rfl rfl (by decide) (by first | rfl | simp [va_cat, vi_cat, vl_cat]) ?_
        refine G_goto C (tgt := 26) dX9_goesBy_79 (by decide) ?_
        refine G_lv C (lv' := [(0, va_rf (some x0)), (1, Value.int (v1 + 1))]) [1, 0] rfl ?_
        exact K26 _ _ h
      intro S v1 h
      rw [w_X9_goesBy_l26] at h
      refine G_iload_n C (x := v1) 1 dX9_goesBy_26 rfl rfl ?_
      refine G_aload_n C (x := (some x0)) 0 dX9_goesBy_27 rfl rfl ?_
      obtain ⟨hk11, h⟩ := h
      refine G_get C (CC := RX9) (Tf := TX9) (N := 50) (k := 10) (i := 23) (v := Value.int (gI S 1023 x0)) hk11 (by decide) rfl (fin fwX9) (by decide) (im tw_5_151) rfl rfl dX9_goesBy_28 ?_
      refine G_icmp_ge C (tgt := 82) dX9_goesBy_31 (by decide) (fun hc => ?_) (fun hc => ?_)
      · have h := h.1 hc
        refine G_lv C (lv' := [(0, va_rf (some x0))]) [0] rfl ?_
        exact J82 _ h
      · have h := h.2 hc
        refine G_aload_n C (x := (some x0)) 0 dX9_goesBy_34 rfl rfl ?_
        refine G_get C (CC := RX9) (Tf := TX9) (N := 50) (k := 10) (i := 33) (v := va_rf (gP S 1033 x0)) hk11 (by decide) rfl (fin fwX9) (by decide) (im tw_5_161) rfl rfl dX9_goesBy_35 ?_
        refine G_iload_n C (x := v1) 1 dX9_goesBy_38 rfl rfl ?_
        obtain ⟨a12, ha13, h⟩ := h
        refine G_rf1 ha13 ?_
        obtain ⟨hk14, h⟩ := h
        obtain ⟨hi15, h⟩ := h
        refine G_iald C hk14 hi15 dX9_goesBy_39 ?_
        refine G_iconst C (v := 3) dX9_goesBy_40 (by decide) ?_
        refine G_icmp_ne C (tgt := 76) dX9_goesBy_41 (by decide) (fun hc => ?_) (fun hc => ?_)
        · have h := h.1 hc
          refine G_lv C (lv' := [(0, va_rf (some x0)), (1, Value.int v1)]) [0, 1] rfl ?_
          exact J76 _ _ h
        · have h := h.2 hc
          refine G_aload_n C (x := (some x0)) 0 dX9_goesBy_44 rfl rfl ?_
          refine G_iload_n C (x := v1) 1 dX9_goesBy_45 rfl rfl ?_
          refine G_callVi C hZ (Tf := TX9) (N := 50) hk11 (by decide) rfl tw_6_84 tw_6_86 tw_0_34 tw_1_7 tw_6_87 hy_X9_lastDay ⟨Nat.le_of_ble_eq_true rfl, Nat.le_of_ble_eq_true rfl⟩ (As := [Value.int v1]) (rest := []) (c_X9_lastDay l D cy x0 v1 S _ h) rfl rfl (by simp [va_cat, vi_cat, vl_cat]) dX9_goesBy_46 ⟨Nat.le_of_ble_eq_true rfl, Nat.le_of_ble_eq_true rfl⟩ (fun r17 S16 h => ?_)
          refine G_aload_n C (x := (some x0)) 0 dX9_goesBy_49 rfl rfl ?_
          obtain ⟨hk18, h⟩ := h
          refine G_callVi C hZ (Tf := TX9) (N := 50) hk18 (by decide) rfl tw_6_68 tw_6_70 tw_0_31 tw_1_7 tw_6_71 hy_X9_today ⟨Nat.le_of_ble_eq_true rfl, Nat.le_of_ble_eq_true rfl⟩ (As := []) (rest := [Value.int r17]) (c_X9_today l D cy x0 S16 _ h) rfl rfl (by simp [va_cat, vi_cat, vl_cat]) dX9_goesBy_50 ⟨Nat.le_of_ble_eq_true rfl, Nat.le_of_ble_eq_true rfl⟩ (fun r20 S19 h => ?_)
          refine G_icmp_ge C (tgt := 76) dX9_goesBy_53 (by decide) (fun hc => ?_) (fun hc => ?_)
          · have h := h.1 hc
            refine G_lv C (lv' := [(0, va_rf (some x0)), (1, Value.int v1)]) [0, 1] rfl ?_
            exact J76 _ _ h
          · have h := h.2 hc
            refine G_aload_n C (x := (some x0)) 0 dX9_goesBy_56 rfl rfl ?_
            refine G_aload_n C (x := (some x0)) 0 dX9_goesBy_57 rfl rfl ?_
            obtain ⟨hk21, h⟩ := h
            refine G_get C (CC := RX9) (Tf := TX9) (N := 50) (k := 10) (i := 24) (v := va_rf (gP S19 1024 x0)) hk21 (by decide) rfl (fin fwX9) (by decide) (im tw_5_152) rfl rfl dX9_goesBy_58 ?_
            refine G_iload_n C (x := v1) 1 dX9_goesBy_61 rfl rfl ?_
            obtain ⟨a22, ha23, h⟩ := h
            refine G_rf1 ha23 ?_
            obtain ⟨hk24, h⟩ := h
            obtain ⟨hi25, h⟩ := h
            refine G_iald C hk24 hi25 dX9_goesBy_62 ?_
            refine G_iconst C (v := 5) dX9_goesBy_63 (by decide) ?_
            refine G_sipush C (v := 500) dX9_goesBy_64 (by decide) ?_
            refine G_aload_n C (x := (some x0)) 0 dX9_goesBy_67 rfl rfl ?_
            refine G_iload_n C (x := v1) 1 dX9_goesBy_68 rfl rfl ?_
            refine G_callVi C hZ (Tf := TX9) (N := 50) hk21 (by decide) rfl tw_7_14 tw_7_16 tw_0_57 tw_1_7 tw_7_17 hy_X9_grade ⟨Nat.le_of_ble_eq_true rfl, Nat.le_of_ble_eq_true rfl⟩ (As := [Value.int v1]) (rest := [Value.int 500, Value.int 5, Value.int (gA S19 a22 v1.toNatClampNeg), va_rf (some x0)]) (c_X9_grade l D cy x0 v1 S19 _ h) rfl rfl (by simp [va_cat, vi_cat, vl_cat]) dX9_goesBy_69 ⟨Nat.le_of_ble_eq_true rfl, Nat.le_of_ble_eq_true rfl⟩ (fun r27 S26 h => ?_)
            refine G_imul C dX9_goesBy_72 ?_
            obtain ⟨hk28, h⟩ := h
            refine G_callVv C hZ (Tf := TX9) (N := 50) hk28 (by decide) rfl tw_6_174 tw_6_176 tw_0_48 tw_1_7 tw_6_177 hy_X9_pays ⟨Nat.le_of_ble_eq_true rfl, Nat.le_of_ble_eq_true rfl⟩ (As := [Value.int (gA S19 a22 v1.toNatClampNeg), Value.int 5, Value.int (500 * r27)]) (rest := []) (c_X9_pays l D cy x0 (gA S19 a22 v1.toNatClampNeg) 5 (500 * r27) S26 _ h) rfl rfl (by simp [va_cat, vi_cat, vl_cat]) dX9_goesBy_73 ⟨Nat.le_of_ble_eq_true rfl, Nat.le_of_ble_eq_true rfl⟩ (fun S29 h => ?_)
            refine G_lv C (lv' := [(0, va_rf (some x0)), (1, Value.int v1)]) [0, 1] rfl ?_
            exact J76 _ _ h
  refine G_lv C (lv' := [(0, va_rf (some x0))]) [0] (by first | rfl | simp [lv_pick, lv_args, va_cat, vi_cat, vl_cat]) ?_
  unfold w_X9_goesBy at h
  refine G_aload_n C (x := (some x0)) 0 dX9_goesBy_0 rfl rfl ?_
  refine G_dup C dX9_goesBy_1 (va_cat _) ?_
  obtain ⟨hk31, h⟩ := h
  refine G_get C (CC := RX9) (Tf := TX9) (N := 50) (k := 10) (i := 0) (v := Value.int (gI S 1000 x0)) hk31 (by decide) rfl (fin fwX9) (by decide) (im tw_5_128) rfl rfl dX9_goesBy_2 ?_
  refine G_iconst C (v := 1) dX9_goesBy_5 (by decide) ?_
  refine G_iadd C dX9_goesBy_6 ?_
  refine G_putI C (CC := RX9) (Tf := TX9) (N := 50) (k := 10) (i := 0) (f := 1000) (x := ((gI S 1000 x0) + 1)) (ty0 := tyX9) (ty := .int) hk31 (by decide) rfl (fin fwX9) tyX9_ok nmX9 (by decide) (im tw_5_128) rfl rfl rfl rfl rfl rfl rfl dX9_goesBy_7 ?_
  generalize e33 : sI S 1000 x0 ((gI S 1000 x0) + 1) = S32
  have h := h S32 e33.symm
  refine G_aload_n C (x := (some x0)) 0 dX9_goesBy_10 rfl rfl ?_
  refine G_get C (CC := RX9) (Tf := TX9) (N := 50) (k := 10) (i := 0) (v := Value.int (gI S32 1000 x0)) (ksI e33.symm hk31) (by decide) rfl (fin fwX9) (by decide) (im tw_5_128) rfl rfl dX9_goesBy_11 ?_
  refine G_bipush C (v := 24) dX9_goesBy_14 (by decide) ?_
  refine G_irem C dX9_goesBy_16 (by decide) ?_
  refine G_if_ne C (tgt := 82) dX9_goesBy_17 (by decide) (fun hc => ?_) (fun hc => ?_)
  · have h := h.1 hc
    refine G_lv C (lv' := [(0, va_rf (some x0))]) [0] rfl ?_
    exact J82 _ h
  · have h := h.2 hc
    refine G_aload_n C (x := (some x0)) 0 dX9_goesBy_20 rfl rfl ?_
    refine G_callVv C hZ (Tf := TX9) (N := 50) (ksI e33.symm hk31) (by decide) rfl tw_7_10 tw_7_12 tw_0_56 tw_1_7 tw_7_13 hy_X9_settles ⟨Nat.le_of_ble_eq_true rfl, Nat.le_of_ble_eq_true rfl⟩ (As := []) (rest := []) (c_X9_settles l D cy x0 S32 _ h) rfl rfl (by simp [va_cat, vi_cat, vl_cat]) dX9_goesBy_21 ⟨Nat.le_of_ble_eq_true rfl, Nat.le_of_ble_eq_true rfl⟩ (fun S34 h => ?_)
    refine G_iconst C (v := 0) dX9_goesBy_24 (by decide) ?_
    refine G_istore_n C (i := 1) (lv' := [(1, Value.int 0), (0, va_rf (some x0))]) dX9_goesBy_25 rfl (by decide) (by first | rfl | simp [va_cat, vi_cat, vl_cat]) ?_
    refine G_lv C (lv' := [(0, va_rf (some x0)), (1, Value.int 0)]) [1, 0] rfl ?_
    obtain ⟨n9, h⟩ := h
    exact J26 n9 _ _ h
set_option maxHeartbeats 4000000 in
set_option maxRecDepth 100000 in
theorem c_X9_pass (l : Launch) (D : va_G) (cy : Nat → Nat) (x0 : Nat) (x1 : Int32) (S : PT) (post : Int32 → PT → Prop) (h : w_X9_pass x0 x1 S post) : Mi l yX9_pass (Wm yX9_pass prog_11_method_61_code 4 (Option.some Jvm.ClassFile.FieldType.int)) 8 179 D cy [va_rf (some x0), Value.int x1] S 0 0 post := by
  refine Mi_of (own := "TrenchboardModel") (by decide) rfl (by first | decide | simp [lg_sl, va_cat, vi_cat, vl_cat]) (fun p e s m below meth c A C hZ hr hin9 => ?_)
  have J45 : ∀ (n : Nat) (S : PT) (v3 : Int32), w_X9_pass_l45 x0 x1 post n S v3 → G p l e { frames := 8, cells := 0, slots := 0, locals := 179 } s m [va_rf (some x0), Value.int x1].toArray below meth c D cy A s.heap 4 (QMi below D cy A [va_rf (some x0), Value.int x1] s 0 0 post) S 0 0 45 [(0, va_rf (some x0)), (1, Value.int x1), (3, Value.int v3)] [] := by
    intro n45
    induction n45 with
    | zero => intro S v3 h; rw [w_X9_pass_l45] at h; exact False.elim h
    | succ n45 K45 =>
      intro S v3 h
      rw [w_X9_pass_l45] at h
      refine G_iload_n C (x := v3) 2 dX9_pass_45 rfl rfl ?_
      refine G_iload_n C (x := x1) 1 dX9_pass_46 rfl rfl ?_
      refine G_icmp_ge C (tgt := 60) dX9_pass_47 (by decide) (fun hc => ?_) (fun hc => ?_)
      · have h := h.1 hc
        refine G_aload_n C (x := (some x0)) 0 dX9_pass_60 rfl rfl ?_
        obtain ⟨hk1, h⟩ := h
        refine G_get C (CC := RX9) (Tf := TX9) (N := 50) (k := 10) (i := 0) (v := Value.int (gI S 1000 x0)) hk1 (by decide) rfl (fin fwX9) (by decide) (im tw_5_128) rfl rfl dX9_pass_61 ?_
        exact G_iret C (mc := 0) (ms := 0) (post := post) hr (Nat.le_of_ble_eq_true rfl) (Nat.le_of_ble_eq_true rfl) dX9_pass_64 h
      · have h := h.2 hc
        refine G_aload_n C (x := (some x0)) 0 dX9_pass_50 rfl rfl ?_
        obtain ⟨hk2, h⟩ := h
        refine G_callVv C hZ (Tf := TX9) (N := 50) hk2 (by decide) rfl tw_7_6 tw_7_8 tw_0_55 tw_1_7 tw_7_9 hy_X9_goesBy ⟨Nat.le_of_ble_eq_true rfl, Nat.le_of_ble_eq_true rfl⟩ (As := []) (rest := []) (c_X9_goesBy l D cy x0 S _ h) rfl rfl (by simp [va_cat, vi_cat, vl_cat]) dX9_pass_51 ⟨Nat.le_of_ble_eq_true rfl, Nat.le_of_ble_eq_true rfl⟩ (fun S3 h => ?_)
        refine G_iinc C (v := (v3 + 1)) (lv' := [(3, Value.int (v3 + 1)), (0, va_rf (some x0)), (1, Value.int x1)]) 2 dX9_pass_54 rfl rfl (by decide) (by first | rfl | simp [va_cat, vi_cat, vl_cat]) ?_
        refine G_goto C (tgt := 45) dX9_pass_57 (by decide) ?_
        refine G_lv C (lv' := [(0, va_rf (some x0)), (1, Value.int x1), (3, Value.int (v3 + 1))]) [1, 2, 0] rfl ?_
        exact K45 _ _ h
  have J35 : ∀ (S : PT) (s0 : Option Nat) (s1 : Int32), w_X9_pass_b35 x0 x1 post S s0 s1 → G p l e { frames := 8, cells := 0, slots := 0, locals := 179 } s m [va_rf (some x0), Value.int x1].toArray below meth c D cy A s.heap 4 (QMi below D cy A [va_rf (some x0), Value.int x1] s 0 0 post) S 0 0 35 [(0, va_rf (some x0)), (1, Value.int x1)] [Value.int s1, va_rf s0] := by
    intro S s0 s1 h
    unfold w_X9_pass_b35 at h
    obtain ⟨a5, ha6, h⟩ := h
    obtain ⟨hk7, h⟩ := h
    refine G_callVi C hZ (Tf := TX9) (N := 50) hk7 (by decide) rfl tw_6_56 tw_6_58 tw_0_29 tw_1_7 tw_6_59 hy_X9_goes ⟨Nat.le_of_ble_eq_true rfl, Nat.le_of_ble_eq_true rfl⟩ (As := [Value.int s1]) (rest := []) (c_X9_goes l D cy a5 s1 S _ h) rfl (by first | rfl | (simp only [ha6]; rfl) | simp only [ha6]) (by simp [va_cat, vi_cat, vl_cat]) dX9_pass_35 ⟨Nat.le_of_ble_eq_true rfl, Nat.le_of_ble_eq_true rfl⟩ (fun r9 S8 h => ?_)
    obtain ⟨hb10, h⟩ := h
    refine G_if_ne C (tgt := 43) dX9_pass_38 (by decide) (fun hc => ?_) (fun hc => ?_)
    · have h := h.1 hc
      refine G_iconst C (v := 0) dX9_pass_43 (by decide) ?_
      refine G_istore_n C (i := 3) (lv' := [(3, Value.int 0), (0, va_rf (some x0)), (1, Value.int x1)]) dX9_pass_44 rfl (by decide) (by first | rfl | simp [va_cat, vi_cat, vl_cat]) ?_
      refine G_lv C (lv' := [(0, va_rf (some x0)), (1, Value.int x1), (3, Value.int 0)]) [1, 2, 0] rfl ?_
      obtain ⟨n9, h⟩ := h
      exact J45 n9 _ _ h
    · have h := h.2 hc
      refine G_iconst C (v := 0) dX9_pass_41 (by decide) ?_
      exact G_iret C (mc := 0) (ms := 0) (post := post) hr (Nat.le_of_ble_eq_true rfl) (Nat.le_of_ble_eq_true rfl) dX9_pass_42 h
  refine G_lv C (lv' := [(0, va_rf (some x0)), (1, Value.int x1)]) [0, 1] (by first | rfl | simp [lv_pick, lv_args, va_cat, vi_cat, vl_cat]) ?_
  unfold w_X9_pass at h
  refine G_iload_n C (x := x1) 1 dX9_pass_0 rfl rfl ?_
  refine G_iconst C (v := 1) dX9_pass_1 (by decide) ?_
  refine G_sipush C (v := 200) dX9_pass_2 (by decide) ?_
  refine G_callSi C hZ tw_6_49 tw_6_50 tw_1_7 tw_6_51 hy_X9_isIn ⟨Nat.le_of_ble_eq_true rfl, Nat.le_of_ble_eq_true rfl⟩ (As := [Value.int x1, Value.int 1, Value.int 200]) (rest := []) (c_X9_isIn l D cy x1 1 200 S _ h) rfl rfl (by simp [va_cat, vi_cat, vl_cat]) dX9_pass_5 ⟨Nat.le_of_ble_eq_true rfl, Nat.le_of_ble_eq_true rfl⟩ (fun r12 S11 h => ?_)
  obtain ⟨hb13, h⟩ := h
  refine G_istore_n C (i := 2) (lv' := [(2, Value.int r12), (0, va_rf (some x0)), (1, Value.int x1)]) dX9_pass_8 rfl (by decide) (by first | rfl | simp [va_cat, vi_cat, vl_cat]) ?_
  refine G_aload_n C (x := (some x0)) 1 dX9_pass_9 rfl rfl ?_
  refine G_iload_n C (x := r12) 0 dX9_pass_10 rfl rfl ?_
  refine G_if_ne C (tgt := 18) dX9_pass_11 (by decide) (fun hc => ?_) (fun hc => ?_)
  · have h := h.1 hc
    refine G_aload_n C (x := (some x0)) 1 dX9_pass_18 rfl rfl ?_
    obtain ⟨hk14, h⟩ := h
    refine G_get C (CC := RX9) (Tf := TX9) (N := 50) (k := 10) (i := 0) (v := Value.int (gI S11 1000 x0)) hk14 (by decide) rfl (fin fwX9) (by decide) (im tw_5_128) rfl rfl dX9_pass_19 ?_
    refine G_iload_n C (x := x1) 2 dX9_pass_22 rfl rfl ?_
    refine G_iadd C dX9_pass_23 ?_
    refine G_sipush C (v := 9999) dX9_pass_24 (by decide) ?_
    refine G_icmp_le C (tgt := 34) dX9_pass_27 (by decide) (fun hc => ?_) (fun hc => ?_)
    · have h := h.1 hc
      refine G_iconst C (v := 0) dX9_pass_34 (by decide) ?_
      refine G_lv C (lv' := [(0, va_rf (some x0)), (1, Value.int x1)]) [1, 2] rfl ?_
      exact J35 _ _ _ h
    · have h := h.2 hc
      refine G_iconst C (v := 2) dX9_pass_30 (by decide) ?_
      refine G_goto C (tgt := 35) dX9_pass_31 (by decide) ?_
      refine G_lv C (lv' := [(0, va_rf (some x0)), (1, Value.int x1)]) [1, 2] rfl ?_
      exact J35 _ _ _ h
  · have h := h.2 hc
    refine G_iconst C (v := 1) dX9_pass_14 (by decide) ?_
    refine G_goto C (tgt := 35) dX9_pass_15 (by decide) ?_
    refine G_lv C (lv' := [(0, va_rf (some x0)), (1, Value.int x1)]) [1, 2] rfl ?_
    exact J35 _ _ _ h
set_option maxHeartbeats 4000000 in
set_option maxRecDepth 100000 in
theorem c_X9_liableFor (l : Launch) (D : va_G) (cy : Nat → Nat) (x0 : Nat) (x1 : Int32) (x2 : Int32) (x3 : Int32) (S : PT) (post : Int32 → PT → Prop) (h : w_X9_liableFor x0 x1 x2 x3 S post) : Mi l yX9_liableFor (Wm yX9_liableFor prog_11_method_62_code 8 (Option.some Jvm.ClassFile.FieldType.int)) 1 20 D cy [va_rf (some x0), Value.int x1, Value.int x2, Value.int x3] S 0 0 post := by
  refine Mi_of (own := "TrenchboardModel") (by decide) rfl (by first | decide | simp [lg_sl, va_cat, vi_cat, vl_cat]) (fun p e s m below meth c A C hZ hr hin9 => ?_)
  have J162 : ∀ (S : PT) (s0 : Int32), w_X9_liableFor_b162 x0 x1 x2 x3 post S s0 → G p l e { frames := 1, cells := 0, slots := 0, locals := 20 } s m [va_rf (some x0), Value.int x1, Value.int x2, Value.int x3].toArray below meth c D cy A s.heap 8 (QMi below D cy A [va_rf (some x0), Value.int x1, Value.int x2, Value.int x3] s 0 0 post) S 0 0 162 [] [Value.int s0] := by
    intro S s0 h
    unfold w_X9_liableFor_b162 at h
    exact G_iret C (mc := 0) (ms := 0) (post := post) hr (Nat.le_of_ble_eq_true rfl) (Nat.le_of_ble_eq_true rfl) dX9_liableFor_162 h
  have J156 : ∀ (S : PT), w_X9_liableFor_b156 x0 x1 x2 x3 post S → G p l e { frames := 1, cells := 0, slots := 0, locals := 20 } s m [va_rf (some x0), Value.int x1, Value.int x2, Value.int x3].toArray below meth c D cy A s.heap 8 (QMi below D cy A [va_rf (some x0), Value.int x1, Value.int x2, Value.int x3] s 0 0 post) S 0 0 156 [] [] := by
    intro S h
    unfold w_X9_liableFor_b156 at h
    refine G_iconst C (v := (-1)) dX9_liableFor_156 (by decide) ?_
    refine G_goto C (tgt := 162) dX9_liableFor_157 (by decide) ?_
    refine G_lv C (lv' := []) [] rfl ?_
    exact J162 _ _ h
  have J144 : ∀ (S : PT) (v5 : Int32) (v6 : Int32) (s0 : Int32), w_X9_liableFor_b144 x0 x1 x2 x3 post S v5 v6 s0 → G p l e { frames := 1, cells := 0, slots := 0, locals := 20 } s m [va_rf (some x0), Value.int x1, Value.int x2, Value.int x3].toArray below meth c D cy A s.heap 8 (QMi below D cy A [va_rf (some x0), Value.int x1, Value.int x2, Value.int x3] s 0 0 post) S 0 0 144 [(5, Value.int v5), (6, Value.int v6)] [Value.int s0] := by
    intro S v5 v6 s0 h
    unfold w_X9_liableFor_b144 at h
    refine G_istore C (i := 7) (lv' := [(7, Value.int s0), (5, Value.int v5), (6, Value.int v6)]) dX9_liableFor_144 (by decide) (by first | rfl | simp [va_cat, vi_cat, vl_cat]) ?_
    refine G_iload C (x := v6) 2 dX9_liableFor_146 rfl ?_
    refine G_if_ne C (tgt := 156) dX9_liableFor_148 (by decide) (fun hc => ?_) (fun hc => ?_)
    · have h := h.1 hc
      refine G_lv C (lv' := []) [] rfl ?_
      exact J156 _ h
    · have h := h.2 hc
      refine G_iload C (x := s0) 0 dX9_liableFor_151 rfl ?_
      refine G_if_eq C (tgt := 160) dX9_liableFor_153 (by decide) (fun hc => ?_) (fun hc => ?_)
      · have h := h.1 hc
        refine G_iload C (x := v5) 1 dX9_liableFor_160 rfl ?_
        refine G_lv C (lv' := []) [] rfl ?_
        exact J162 _ _ h
      · have h := h.2 hc
        refine G_lv C (lv' := []) [] rfl ?_
        exact J156 _ h
  have J143 : ∀ (S : PT) (v5 : Int32) (v6 : Int32), w_X9_liableFor_b143 x0 x1 x2 x3 post S v5 v6 → G p l e { frames := 1, cells := 0, slots := 0, locals := 20 } s m [va_rf (some x0), Value.int x1, Value.int x2, Value.int x3].toArray below meth c D cy A s.heap 8 (QMi below D cy A [va_rf (some x0), Value.int x1, Value.int x2, Value.int x3] s 0 0 post) S 0 0 143 [(5, Value.int v5), (6, Value.int v6)] [] := by
    intro S v5 v6 h
    unfold w_X9_liableFor_b143 at h
    refine G_iconst C (v := 0) dX9_liableFor_143 (by decide) ?_
    refine G_lv C (lv' := [(5, Value.int v5), (6, Value.int v6)]) [0, 1] rfl ?_
    exact J144 _ _ _ _ h
  have J120 : ∀ (S : PT) (v4 : Int32) (v5 : Int32) (s0 : Int32), w_X9_liableFor_b120 x0 x1 x2 x3 post S v4 v5 s0 → G p l e { frames := 1, cells := 0, slots := 0, locals := 20 } s m [va_rf (some x0), Value.int x1, Value.int x2, Value.int x3].toArray below meth c D cy A s.heap 8 (QMi below D cy A [va_rf (some x0), Value.int x1, Value.int x2, Value.int x3] s 0 0 post) S 0 0 120 [(0, va_rf (some x0)), (1, Value.int x1), (3, Value.int x3), (4, Value.int v4), (5, Value.int v5)] [Value.int s0] := by
    intro S v4 v5 s0 h
    unfold w_X9_liableFor_b120 at h
    refine G_istore C (i := 6) (lv' := [(6, Value.int s0), (0, va_rf (some x0)), (1, Value.int x1), (3, Value.int x3), (4, Value.int v4), (5, Value.int v5)]) dX9_liableFor_120 (by decide) (by first | rfl | simp [va_cat, vi_cat, vl_cat]) ?_
    refine G_iload_n C (x := x3) 3 dX9_liableFor_122 rfl rfl ?_
    refine G_bipush C (v := 10) dX9_liableFor_123 (by decide) ?_
    refine G_icmp_ge C (tgt := 143) dX9_liableFor_125 (by decide) (fun hc => ?_) (fun hc => ?_)
    · have h := h.1 hc
      refine G_lv C (lv' := [(5, Value.int v5), (6, Value.int s0)]) [5, 0] rfl ?_
      exact J143 _ _ _ h
    · have h := h.2 hc
      refine G_iload C (x := v4) 4 dX9_liableFor_128 rfl ?_
      refine G_aload_n C (x := (some x0)) 1 dX9_liableFor_130 rfl rfl ?_
      obtain ⟨hk1, h⟩ := h
      refine G_get C (CC := RX9) (Tf := TX9) (N := 50) (k := 10) (i := 7) (v := va_rf (gP S 1007 x0)) hk1 (by decide) rfl (fin fwX9) (by decide) (im tw_5_135) rfl rfl dX9_liableFor_131 ?_
      refine G_iload_n C (x := x1) 2 dX9_liableFor_134 rfl rfl ?_
      obtain ⟨a2, ha3, h⟩ := h
      refine G_rf1 ha3 ?_
      obtain ⟨hk4, h⟩ := h
      obtain ⟨hi5, h⟩ := h
      refine G_iald C hk4 hi5 dX9_liableFor_135 ?_
      refine G_icmp_ge C (tgt := 143) dX9_liableFor_136 (by decide) (fun hc => ?_) (fun hc => ?_)
      · have h := h.1 hc
        refine G_lv C (lv' := [(5, Value.int v5), (6, Value.int s0)]) [5, 0] rfl ?_
        exact J143 _ _ _ h
      · have h := h.2 hc
        refine G_iconst C (v := 1) dX9_liableFor_139 (by decide) ?_
        refine G_goto C (tgt := 144) dX9_liableFor_140 (by decide) ?_
        refine G_lv C (lv' := [(5, Value.int v5), (6, Value.int s0)]) [5, 0] rfl ?_
        exact J144 _ _ _ _ h
  have J112 : ∀ (S : PT) (v4 : Int32) (v5 : Int32) (s0 : Int32) (s1 : Int32), w_X9_liableFor_b112 x0 x1 x2 x3 post S v4 v5 s0 s1 → G p l e { frames := 1, cells := 0, slots := 0, locals := 20 } s m [va_rf (some x0), Value.int x1, Value.int x2, Value.int x3].toArray below meth c D cy A s.heap 8 (QMi below D cy A [va_rf (some x0), Value.int x1, Value.int x2, Value.int x3] s 0 0 post) S 0 0 112 [(0, va_rf (some x0)), (1, Value.int x1), (3, Value.int x3), (4, Value.int v4), (5, Value.int v5)] [Value.int s1, Value.int s0] := by
    intro S v4 v5 s0 s1 h
    unfold w_X9_liableFor_b112 at h
    refine G_icmp_le C (tgt := 119) dX9_liableFor_112 (by decide) (fun hc => ?_) (fun hc => ?_)
    · have h := h.1 hc
      refine G_iconst C (v := 0) dX9_liableFor_119 (by decide) ?_
      refine G_lv C (lv' := [(0, va_rf (some x0)), (1, Value.int x1), (3, Value.int x3), (4, Value.int v4), (5, Value.int v5)]) [0, 1, 2, 3, 4] rfl ?_
      exact J120 _ _ _ _ h
    · have h := h.2 hc
      refine G_iconst C (v := 1) dX9_liableFor_115 (by decide) ?_
      refine G_goto C (tgt := 120) dX9_liableFor_116 (by decide) ?_
      refine G_lv C (lv' := [(0, va_rf (some x0)), (1, Value.int x1), (3, Value.int x3), (4, Value.int v4), (5, Value.int v5)]) [0, 1, 2, 3, 4] rfl ?_
      exact J120 _ _ _ _ h
  have J6 : ∀ (n : Nat) (S : PT) (v4 : Int32) (v5 : Int32), w_X9_liableFor_l6 x0 x1 x2 x3 post n S v4 v5 → G p l e { frames := 1, cells := 0, slots := 0, locals := 20 } s m [va_rf (some x0), Value.int x1, Value.int x2, Value.int x3].toArray below meth c D cy A s.heap 8 (QMi below D cy A [va_rf (some x0), Value.int x1, Value.int x2, Value.int x3] s 0 0 post) S 0 0 6 [(0, va_rf (some x0)), (1, Value.int x1), (2, Value.int x2), (3, Value.int x3), (4, Value.int v4), (5, Value.int v5)] [] := by
    intro n6
    induction n6 with
    | zero => intro S v4 v5 h; rw [w_X9_liableFor_l6] at h; exact False.elim h
    | succ n6 K6 =>
      have J54 : ∀ (S : PT) (v5 : Int32) (s0 : Int32), w_X9_liableFor_b54 x0 x1 x2 x3 post (w_X9_liableFor_l6 x0 x1 x2 x3 post n6) S v5 s0 → G p l e { frames := 1, cells := 0, slots := 0, locals := 20 } s m [va_rf (some x0), Value.int x1, Value.int x2, Value.int x3].toArray below meth c D cy A s.heap 8 (QMi below D cy A [va_rf (some x0), Value.int x1, Value.int x2, Value.int x3] s 0 0 post) S 0 0 54 [(0, va_rf (some x0)), (1, Value.int x1), (2, Value.int x2), (3, Value.int x3), (5, Value.int v5)] [Value.int s0] := by
        intro S v5 s0 h
        unfold w_X9_liableFor_b54 at h
        refine G_istore C (i := 4) (lv' := [(4, Value.int s0), (0, va_rf (some x0)), (1, Value.int x1), (2, Value.int x2), (3, Value.int x3), (5, Value.int v5)]) dX9_liableFor_54 (by decide) (by first | rfl | simp [va_cat, vi_cat, vl_cat]) ?_
        refine G_iinc C (v := (v5 + 1)) (lv' := [(5, Value.int (v5 + 1)), (4, Value.int s0), (0, va_rf (some x0)), (1, Value.int x1), (2, Value.int x2), (3, Value.int x3)]) 5 dX9_liableFor_56 rfl rfl (by decide) (by first | rfl | simp [va_cat, vi_cat, vl_cat]) ?_
        refine G_goto C (tgt := 6) dX9_liableFor_59 (by decide) ?_
        refine G_lv C (lv' := [(0, va_rf (some x0)), (1, Value.int x1), (2, Value.int x2), (3, Value.int x3), (4, Value.int s0), (5, Value.int (v5 + 1))]) [2, 3, 4, 5, 1, 0] rfl ?_
        exact K6 _ _ _ h
      have J52 : ∀ (S : PT) (v4 : Int32) (v5 : Int32), w_X9_liableFor_b52 x0 x1 x2 x3 post (w_X9_liableFor_l6 x0 x1 x2 x3 post n6) S v4 v5 → G p l e { frames := 1, cells := 0, slots := 0, locals := 20 } s m [va_rf (some x0), Value.int x1, Value.int x2, Value.int x3].toArray below meth c D cy A s.heap 8 (QMi below D cy A [va_rf (some x0), Value.int x1, Value.int x2, Value.int x3] s 0 0 post) S 0 0 52 [(0, va_rf (some x0)), (1, Value.int x1), (2, Value.int x2), (3, Value.int x3), (4, Value.int v4), (5, Value.int v5)] [] := by
        intro S v4 v5 h
        unfold w_X9_liableFor_b52 at h
        refine G_iload C (x := v4) 4 dX9_liableFor_52 rfl ?_
        refine G_lv C (lv' := [(0, va_rf (some x0)), (1, Value.int x1), (2, Value.int x2), (3, Value.int x3), (5, Value.int v5)]) [0, 1, 2, 3, 5] rfl ?_
        exact J54 _ _ _ h
      intro S v4 v5 h
      rw [w_X9_liableFor_l6] at h
      refine G_iload C (x := v5) 5 dX9_liableFor_6 rfl ?_
      refine G_aload_n C (x := (some x0)) 0 dX9_liableFor_8 rfl rfl ?_
      obtain ⟨hk6, h⟩ := h
      refine G_get C (CC := RX9) (Tf := TX9) (N := 50) (k := 10) (i := 40) (v := Value.int (gI S 1040 x0)) hk6 (by decide) rfl (fin fwX9) (by decide) (im tw_5_168) rfl rfl dX9_liableFor_9 ?_
      refine G_icmp_ge C (tgt := 62) dX9_liableFor_12 (by decide) (fun hc => ?_) (fun hc => ?_)
      · have h := h.1 hc
        refine G_iload C (x := v4) 4 dX9_liableFor_62 rfl ?_
        refine G_iconst C (v := (-1)) dX9_liableFor_64 (by decide) ?_
        refine G_icmp_ne C (tgt := 70) dX9_liableFor_65 (by decide) (fun hc => ?_) (fun hc => ?_)
        · have h := h.1 hc
          refine G_aload_n C (x := (some x0)) 0 dX9_liableFor_70 rfl rfl ?_
          refine G_get C (CC := RX9) (Tf := TX9) (N := 50) (k := 10) (i := 42) (v := va_rf (gP S 1042 x0)) hk6 (by decide) rfl (fin fwX9) (by decide) (im tw_5_170) rfl rfl dX9_liableFor_71 ?_
          refine G_iload C (x := v4) 4 dX9_liableFor_74 rfl ?_
          obtain ⟨a7, ha8, h⟩ := h
          refine G_rf1 ha8 ?_
          obtain ⟨hk9, h⟩ := h
          obtain ⟨hi10, h⟩ := h
          refine G_iald C hk9 hi10 dX9_liableFor_76 ?_
          refine G_istore C (i := 5) (lv' := [(5, Value.int (gA S a7 v4.toNatClampNeg)), (0, va_rf (some x0)), (1, Value.int x1), (2, Value.int x2), (3, Value.int x3), (4, Value.int v4)]) dX9_liableFor_77 (by decide) (by first | rfl | simp [va_cat, vi_cat, vl_cat]) ?_
          refine G_aload_n C (x := (some x0)) 1 dX9_liableFor_79 rfl rfl ?_
          refine G_callVi C hZ (Tf := TX9) (N := 50) hk6 (by decide) rfl tw_6_68 tw_6_70 tw_0_31 tw_1_7 tw_6_71 hy_X9_today ⟨Nat.le_of_ble_eq_true rfl, Nat.le_of_ble_eq_true rfl⟩ (As := []) (rest := []) (c_X9_today l D cy x0 S _ h) rfl rfl (by simp [va_cat, vi_cat, vl_cat]) dX9_liableFor_80 ⟨Nat.le_of_ble_eq_true rfl, Nat.le_of_ble_eq_true rfl⟩ (fun r12 S11 h => ?_)
          refine G_aload_n C (x := (some x0)) 1 dX9_liableFor_83 rfl rfl ?_
          obtain ⟨hk13, h⟩ := h
          refine G_get C (CC := RX9) (Tf := TX9) (N := 50) (k := 10) (i := 43) (v := va_rf (gP S11 1043 x0)) hk13 (by decide) rfl (fin fwX9) (by decide) (im tw_5_171) rfl rfl dX9_liableFor_84 ?_
          refine G_iload C (x := v4) 5 dX9_liableFor_87 rfl ?_
          obtain ⟨a14, ha15, h⟩ := h
          refine G_rf1 ha15 ?_
          obtain ⟨hk16, h⟩ := h
          obtain ⟨hi17, h⟩ := h
          refine G_iald C hk16 hi17 dX9_liableFor_89 ?_
          refine G_isub C dX9_liableFor_90 ?_
          refine G_aload_n C (x := (some x0)) 1 dX9_liableFor_91 rfl rfl ?_
          refine G_get C (CC := RX9) (Tf := TX9) (N := 50) (k := 10) (i := 28) (v := va_rf (gP S11 1028 x0)) hk13 (by decide) rfl (fin fwX9) (by decide) (im tw_5_156) rfl rfl dX9_liableFor_92 ?_
          refine G_iload C (x := (gA S a7 v4.toNatClampNeg)) 0 dX9_liableFor_95 rfl ?_
          obtain ⟨a18, ha19, h⟩ := h
          refine G_rf1 ha19 ?_
          obtain ⟨hk20, h⟩ := h
          obtain ⟨hi21, h⟩ := h
          refine G_iald C hk20 hi21 dX9_liableFor_97 ?_
          refine G_bipush C (v := 120) dX9_liableFor_98 (by decide) ?_
          refine G_icmp_lt C (tgt := 109) dX9_liableFor_100 (by decide) (fun hc => ?_) (fun hc => ?_)
          · have h := h.1 hc
            refine G_sipush C (v := 200) dX9_liableFor_109 (by decide) ?_
            refine G_lv C (lv' := [(0, va_rf (some x0)), (1, Value.int x1), (3, Value.int x3), (4, Value.int v4), (5, Value.int (gA S a7 v4.toNatClampNeg))]) [1, 2, 4, 5, 0] rfl ?_
            exact J112 _ _ _ _ _ h
          · have h := h.2 hc
            refine G_sipush C (v := 300) dX9_liableFor_103 (by decide) ?_
            refine G_goto C (tgt := 112) dX9_liableFor_106 (by decide) ?_
            refine G_lv C (lv' := [(0, va_rf (some x0)), (1, Value.int x1), (3, Value.int x3), (4, Value.int v4), (5, Value.int (gA S a7 v4.toNatClampNeg))]) [1, 2, 4, 5, 0] rfl ?_
            exact J112 _ _ _ _ _ h
        · have h := h.2 hc
          refine G_iconst C (v := (-1)) dX9_liableFor_68 (by decide) ?_
          exact G_iret C (mc := 0) (ms := 0) (post := post) hr (Nat.le_of_ble_eq_true rfl) (Nat.le_of_ble_eq_true rfl) dX9_liableFor_69 h
      · have h := h.2 hc
        refine G_aload_n C (x := (some x0)) 0 dX9_liableFor_15 rfl rfl ?_
        refine G_get C (CC := RX9) (Tf := TX9) (N := 50) (k := 10) (i := 41) (v := va_rf (gP S 1041 x0)) hk6 (by decide) rfl (fin fwX9) (by decide) (im tw_5_169) rfl rfl dX9_liableFor_16 ?_
        refine G_iload C (x := v5) 5 dX9_liableFor_19 rfl ?_
        obtain ⟨a22, ha23, h⟩ := h
        refine G_rf1 ha23 ?_
        obtain ⟨hk24, h⟩ := h
        obtain ⟨hi25, h⟩ := h
        refine G_iald C hk24 hi25 dX9_liableFor_21 ?_
        refine G_bipush C (v := 40) dX9_liableFor_22 (by decide) ?_
        refine G_iload_n C (x := x1) 1 dX9_liableFor_24 rfl rfl ?_
        refine G_imul C dX9_liableFor_25 ?_
        refine G_iload_n C (x := x2) 2 dX9_liableFor_26 rfl rfl ?_
        refine G_iadd C dX9_liableFor_27 ?_
        refine G_icmp_ne C (tgt := 52) dX9_liableFor_28 (by decide) (fun hc => ?_) (fun hc => ?_)
        · have h := h.1 hc
          refine G_lv C (lv' := [(0, va_rf (some x0)), (1, Value.int x1), (2, Value.int x2), (3, Value.int x3), (4, Value.int v4), (5, Value.int v5)]) [0, 1, 2, 3, 4, 5] rfl ?_
          exact J52 _ _ _ h
        · have h := h.2 hc
          refine G_aload_n C (x := (some x0)) 0 dX9_liableFor_31 rfl rfl ?_
          refine G_get C (CC := RX9) (Tf := TX9) (N := 50) (k := 10) (i := 28) (v := va_rf (gP S 1028 x0)) hk6 (by decide) rfl (fin fwX9) (by decide) (im tw_5_156) rfl rfl dX9_liableFor_32 ?_
          refine G_aload_n C (x := (some x0)) 0 dX9_liableFor_35 rfl rfl ?_
          refine G_get C (CC := RX9) (Tf := TX9) (N := 50) (k := 10) (i := 42) (v := va_rf (gP S 1042 x0)) hk6 (by decide) rfl (fin fwX9) (by decide) (im tw_5_170) rfl rfl dX9_liableFor_36 ?_
          refine G_iload C (x := v5) 5 dX9_liableFor_39 rfl ?_
          obtain ⟨a26, ha27, h⟩ := h
          refine G_rf1 ha27 ?_
          obtain ⟨hk28, h⟩ := h
          obtain ⟨hi29, h⟩ := h
          refine G_iald C hk28 hi29 dX9_liableFor_41 ?_
          obtain ⟨a30, ha31, h⟩ := h
          refine G_rf1 ha31 ?_
          obtain ⟨hk32, h⟩ := h
          obtain ⟨hi33, h⟩ := h
          refine G_iald C hk32 hi33 dX9_liableFor_42 ?_
          refine G_iload_n C (x := x3) 3 dX9_liableFor_43 rfl rfl ?_
          refine G_icmp_lt C (tgt := 52) dX9_liableFor_44 (by decide) (fun hc => ?_) (fun hc => ?_)
          · have h := h.1 hc
            refine G_lv C (lv' := [(0, va_rf (some x0)), (1, Value.int x1), (2, Value.int x2), (3, Value.int x3), (4, Value.int v4), (5, Value.int v5)]) [0, 1, 2, 3, 4, 5] rfl ?_
            exact J52 _ _ _ h
          · have h := h.2 hc
            refine G_iload C (x := v5) 5 dX9_liableFor_47 rfl ?_
            refine G_goto C (tgt := 54) dX9_liableFor_49 (by decide) ?_
            refine G_lv C (lv' := [(0, va_rf (some x0)), (1, Value.int x1), (2, Value.int x2), (3, Value.int x3), (5, Value.int v5)]) [0, 1, 2, 3, 5] rfl ?_
            exact J54 _ _ _ h
  refine G_lv C (lv' := [(0, va_rf (some x0)), (1, Value.int x1), (2, Value.int x2), (3, Value.int x3)]) [0, 1, 2, 3] (by first | rfl | simp [lv_pick, lv_args, va_cat, vi_cat, vl_cat]) ?_
  unfold w_X9_liableFor at h
  refine G_iconst C (v := (-1)) dX9_liableFor_0 (by decide) ?_
  refine G_istore C (i := 4) (lv' := [(4, Value.int (-1)), (0, va_rf (some x0)), (1, Value.int x1), (2, Value.int x2), (3, Value.int x3)]) dX9_liableFor_1 (by decide) (by first | rfl | simp [va_cat, vi_cat, vl_cat]) ?_
  refine G_iconst C (v := 0) dX9_liableFor_3 (by decide) ?_
  refine G_istore C (i := 5) (lv' := [(5, Value.int 0), (4, Value.int (-1)), (0, va_rf (some x0)), (1, Value.int x1), (2, Value.int x2), (3, Value.int x3)]) dX9_liableFor_4 (by decide) (by first | rfl | simp [va_cat, vi_cat, vl_cat]) ?_
  refine G_lv C (lv' := [(0, va_rf (some x0)), (1, Value.int x1), (2, Value.int x2), (3, Value.int x3), (4, Value.int (-1)), (5, Value.int 0)]) [2, 3, 4, 5, 1, 0] rfl ?_
  obtain ⟨n9, h⟩ := h
  exact J6 n9 _ _ _ h
set_option maxHeartbeats 4000000 in
set_option maxRecDepth 100000 in
theorem c_X9_asksMetre (l : Launch) (D : va_G) (cy : Nat → Nat) (x0 : Nat) (x1 : Int32) (x2 : Int32) (x3 : Int32) (S : PT) (post : Int32 → PT → Prop) (h : w_X9_asksMetre x0 x1 x2 x3 S post) : Mi l yX9_asksMetre (Wm yX9_asksMetre prog_11_method_63_code 4 (Option.some Jvm.ClassFile.FieldType.boolean)) 3 65 D cy [va_rf (some x0), Value.int x1, Value.int x2, Value.int x3] S 0 0 (fun r S => bo r ∧ post r S) := by
  refine Mi_of (own := "TrenchboardModel") (by decide) rfl (by first | decide | simp [lg_sl, va_cat, vi_cat, vl_cat]) (fun p e s m below meth c A C hZ hr hin9 => ?_)
  have J30 : ∀ (S : PT) (s0 : Option Nat) (s1 : Int32), w_X9_asksMetre_b30 x0 x1 x2 x3 post S s0 s1 → G p l e { frames := 3, cells := 0, slots := 0, locals := 65 } s m [va_rf (some x0), Value.int x1, Value.int x2, Value.int x3].toArray below meth c D cy A s.heap 4 (QMi below D cy A [va_rf (some x0), Value.int x1, Value.int x2, Value.int x3] s 0 0 (fun r S => bo r ∧ post r S)) S 0 0 30 [] [Value.int s1, va_rf s0] := by
    intro S s0 s1 h
    unfold w_X9_asksMetre_b30 at h
    obtain ⟨a1, ha2, h⟩ := h
    obtain ⟨hk3, h⟩ := h
    refine G_callVi C hZ (Tf := TX9) (N := 50) hk3 (by decide) rfl tw_6_56 tw_6_58 tw_0_29 tw_1_7 tw_6_59 hy_X9_goes ⟨Nat.le_of_ble_eq_true rfl, Nat.le_of_ble_eq_true rfl⟩ (As := [Value.int s1]) (rest := []) (c_X9_goes l D cy a1 s1 S _ h) rfl (by first | rfl | (simp only [ha2]; rfl) | simp only [ha2]) (by simp [va_cat, vi_cat, vl_cat]) dX9_asksMetre_30 ⟨Nat.le_of_ble_eq_true rfl, Nat.le_of_ble_eq_true rfl⟩ (fun r5 S4 h => ?_)
    obtain ⟨hb6, h⟩ := h
    exact G_zret C (mc := 0) (ms := 0) (post := (fun r S => bo r ∧ post r S)) (bo_nar hb6) hr (Nat.le_of_ble_eq_true rfl) (Nat.le_of_ble_eq_true rfl) dX9_asksMetre_33 ⟨hb6, h⟩
  refine G_lv C (lv' := [(0, va_rf (some x0)), (1, Value.int x1), (2, Value.int x2), (3, Value.int x3)]) [0, 1, 2, 3] (by first | rfl | simp [lv_pick, lv_args, va_cat, vi_cat, vl_cat]) ?_
  unfold w_X9_asksMetre at h
  refine G_aload_n C (x := (some x0)) 0 dX9_asksMetre_0 rfl rfl ?_
  refine G_aload_n C (x := (some x0)) 0 dX9_asksMetre_1 rfl rfl ?_
  refine G_iload_n C (x := x1) 1 dX9_asksMetre_2 rfl rfl ?_
  refine G_iload_n C (x := x2) 2 dX9_asksMetre_3 rfl rfl ?_
  obtain ⟨hk7, h⟩ := h
  refine G_callVi C hZ (Tf := TX9) (N := 50) hk7 (by decide) rfl tw_6_95 tw_6_97 tw_0_35 tw_1_7 tw_6_98 hy_X9_isMetre ⟨Nat.le_of_ble_eq_true rfl, Nat.le_of_ble_eq_true rfl⟩ (As := [Value.int x1, Value.int x2]) (rest := [va_rf (some x0)]) (c_X9_isMetre l D cy x0 x1 x2 S _ h) rfl rfl (by simp [va_cat, vi_cat, vl_cat]) dX9_asksMetre_4 ⟨Nat.le_of_ble_eq_true rfl, Nat.le_of_ble_eq_true rfl⟩ (fun r9 S8 h => ?_)
  obtain ⟨hb10, h⟩ := h
  refine G_if_ne C (tgt := 14) dX9_asksMetre_7 (by decide) (fun hc => ?_) (fun hc => ?_)
  · have h := h.1 hc
    refine G_iload_n C (x := x3) 3 dX9_asksMetre_14 rfl rfl ?_
    refine G_iconst C (v := 0) dX9_asksMetre_15 (by decide) ?_
    refine G_sipush C (v := 300) dX9_asksMetre_16 (by decide) ?_
    refine G_callSi C hZ tw_6_49 tw_6_50 tw_1_7 tw_6_51 hy_X9_isIn ⟨Nat.le_of_ble_eq_true rfl, Nat.le_of_ble_eq_true rfl⟩ (As := [Value.int x3, Value.int 0, Value.int 300]) (rest := [va_rf (some x0)]) (c_X9_isIn l D cy x3 0 300 S8 _ h) rfl rfl (by simp [va_cat, vi_cat, vl_cat]) dX9_asksMetre_19 ⟨Nat.le_of_ble_eq_true rfl, Nat.le_of_ble_eq_true rfl⟩ (fun r12 S11 h => ?_)
    obtain ⟨hb13, h⟩ := h
    refine G_if_eq C (tgt := 29) dX9_asksMetre_22 (by decide) (fun hc => ?_) (fun hc => ?_)
    · have h := h.1 hc
      refine G_iconst C (v := 2) dX9_asksMetre_29 (by decide) ?_
      refine G_lv C (lv' := []) [] rfl ?_
      exact J30 _ _ _ h
    · have h := h.2 hc
      refine G_iconst C (v := 0) dX9_asksMetre_25 (by decide) ?_
      refine G_goto C (tgt := 30) dX9_asksMetre_26 (by decide) ?_
      refine G_lv C (lv' := []) [] rfl ?_
      exact J30 _ _ _ h
  · have h := h.2 hc
    refine G_iconst C (v := 1) dX9_asksMetre_10 (by decide) ?_
    refine G_goto C (tgt := 30) dX9_asksMetre_11 (by decide) ?_
    refine G_lv C (lv' := []) [] rfl ?_
    exact J30 _ _ _ h
set_option maxHeartbeats 4000000 in
set_option maxRecDepth 100000 in
theorem c_X9_defect (l : Launch) (D : va_G) (cy : Nat → Nat) (x0 : Nat) (x1 : Int32) (x2 : Int32) (x3 : Int32) (S : PT) (post : Int32 → PT → Prop) (h : w_X9_defect x0 x1 x2 x3 S post) : Mi l yX9_defect (Wm yX9_defect prog_11_method_64_code 5 (Option.some Jvm.ClassFile.FieldType.int)) 4 88 D cy [va_rf (some x0), Value.int x1, Value.int x2, Value.int x3] S 0 0 post := by
  refine Mi_of (own := "TrenchboardModel") (by decide) rfl (by first | decide | simp [lg_sl, va_cat, vi_cat, vl_cat]) (fun p e s m below meth c A C hZ hr hin9 => ?_)
  have J58 : ∀ (S : PT) (v4 : Int32), w_X9_defect_b58 x0 x1 x2 x3 post S v4 → G p l e { frames := 4, cells := 0, slots := 0, locals := 88 } s m [va_rf (some x0), Value.int x1, Value.int x2, Value.int x3].toArray below meth c D cy A s.heap 5 (QMi below D cy A [va_rf (some x0), Value.int x1, Value.int x2, Value.int x3] s 0 0 post) S 0 0 58 [(4, Value.int v4)] [] := by
    intro S v4 h
    unfold w_X9_defect_b58 at h
    refine G_iload C (x := v4) 0 dX9_defect_58 rfl ?_
    exact G_iret C (mc := 0) (ms := 0) (post := post) hr (Nat.le_of_ble_eq_true rfl) (Nat.le_of_ble_eq_true rfl) dX9_defect_60 h
  refine G_lv C (lv' := [(0, va_rf (some x0)), (1, Value.int x1), (2, Value.int x2), (3, Value.int x3)]) [0, 1, 2, 3] (by first | rfl | simp [lv_pick, lv_args, va_cat, vi_cat, vl_cat]) ?_
  unfold w_X9_defect at h
  refine G_aload_n C (x := (some x0)) 0 dX9_defect_0 rfl rfl ?_
  refine G_iload_n C (x := x1) 1 dX9_defect_1 rfl rfl ?_
  refine G_iload_n C (x := x2) 2 dX9_defect_2 rfl rfl ?_
  refine G_iload_n C (x := x3) 3 dX9_defect_3 rfl rfl ?_
  obtain ⟨hk1, h⟩ := h
  refine G_callVi C hZ (Tf := TX9) (N := 50) hk1 (by decide) rfl tw_7_42 tw_7_44 tw_0_63 tw_1_7 tw_7_45 hy_X9_asksMetre ⟨Nat.le_of_ble_eq_true rfl, Nat.le_of_ble_eq_true rfl⟩ (As := [Value.int x1, Value.int x2, Value.int x3]) (rest := []) (c_X9_asksMetre l D cy x0 x1 x2 x3 S _ h) rfl rfl (by simp [va_cat, vi_cat, vl_cat]) dX9_defect_4 ⟨Nat.le_of_ble_eq_true rfl, Nat.le_of_ble_eq_true rfl⟩ (fun r3 S2 h => ?_)
  obtain ⟨hb4, h⟩ := h
  refine G_if_ne C (tgt := 12) dX9_defect_7 (by decide) (fun hc => ?_) (fun hc => ?_)
  · have h := h.1 hc
    refine G_aload_n C (x := (some x0)) 0 dX9_defect_12 rfl rfl ?_
    refine G_iload_n C (x := x1) 1 dX9_defect_13 rfl rfl ?_
    refine G_iload_n C (x := x2) 2 dX9_defect_14 rfl rfl ?_
    refine G_iload_n C (x := x3) 3 dX9_defect_15 rfl rfl ?_
    obtain ⟨hk5, h⟩ := h
    refine G_callVi C hZ (Tf := TX9) (N := 50) hk5 (by decide) rfl tw_7_46 tw_7_48 tw_0_64 tw_1_7 tw_7_49 hy_X9_liableFor ⟨Nat.le_of_ble_eq_true rfl, Nat.le_of_ble_eq_true rfl⟩ (As := [Value.int x1, Value.int x2, Value.int x3]) (rest := []) (c_X9_liableFor l D cy x0 x1 x2 x3 S2 _ h) rfl rfl (by simp [va_cat, vi_cat, vl_cat]) dX9_defect_16 ⟨Nat.le_of_ble_eq_true rfl, Nat.le_of_ble_eq_true rfl⟩ (fun r7 S6 h => ?_)
    refine G_istore C (i := 4) (lv' := [(4, Value.int r7), (0, va_rf (some x0)), (1, Value.int x1), (2, Value.int x2), (3, Value.int x3)]) dX9_defect_19 (by decide) (by first | rfl | simp [va_cat, vi_cat, vl_cat]) ?_
    refine G_iload C (x := r7) 0 dX9_defect_21 rfl ?_
    refine G_iconst C (v := (-1)) dX9_defect_23 (by decide) ?_
    refine G_icmp_eq C (tgt := 58) dX9_defect_24 (by decide) (fun hc => ?_) (fun hc => ?_)
    · have h := h.1 hc
      refine G_lv C (lv' := [(4, Value.int r7)]) [0] rfl ?_
      exact J58 _ _ h
    · have h := h.2 hc
      refine G_aload_n C (x := (some x0)) 1 dX9_defect_27 rfl rfl ?_
      refine G_aload_n C (x := (some x0)) 1 dX9_defect_28 rfl rfl ?_
      obtain ⟨hk8, h⟩ := h
      refine G_get C (CC := RX9) (Tf := TX9) (N := 50) (k := 10) (i := 24) (v := va_rf (gP S6 1024 x0)) hk8 (by decide) rfl (fin fwX9) (by decide) (im tw_5_152) rfl rfl dX9_defect_29 ?_
      refine G_iload C (x := r7) 0 dX9_defect_32 rfl ?_
      obtain ⟨a9, ha10, h⟩ := h
      refine G_rf1 ha10 ?_
      obtain ⟨hk11, h⟩ := h
      obtain ⟨hi12, h⟩ := h
      refine G_iald C hk11 hi12 dX9_defect_34 ?_
      refine G_iconst C (v := 5) dX9_defect_35 (by decide) ?_
      refine G_sipush C (v := 300) dX9_defect_36 (by decide) ?_
      refine G_callVv C hZ (Tf := TX9) (N := 50) hk8 (by decide) rfl tw_6_174 tw_6_176 tw_0_48 tw_1_7 tw_6_177 hy_X9_pays ⟨Nat.le_of_ble_eq_true rfl, Nat.le_of_ble_eq_true rfl⟩ (As := [Value.int (gA S6 a9 r7.toNatClampNeg), Value.int 5, Value.int 300]) (rest := []) (c_X9_pays l D cy x0 (gA S6 a9 r7.toNatClampNeg) 5 300 S6 _ h) rfl rfl (by simp [va_cat, vi_cat, vl_cat]) dX9_defect_39 ⟨Nat.le_of_ble_eq_true rfl, Nat.le_of_ble_eq_true rfl⟩ (fun S13 h => ?_)
      refine G_aload_n C (x := (some x0)) 1 dX9_defect_42 rfl rfl ?_
      obtain ⟨hk15, h⟩ := h
      refine G_get C (CC := RX9) (Tf := TX9) (N := 50) (k := 10) (i := 46) (v := va_rf (gP S13 1046 x0)) hk15 (by decide) rfl (fin fwX9) (by decide) (im tw_5_174) rfl rfl dX9_defect_43 ?_
      refine G_aload_n C (x := (some x0)) 1 dX9_defect_46 rfl rfl ?_
      refine G_get C (CC := RX9) (Tf := TX9) (N := 50) (k := 10) (i := 24) (v := va_rf (gP S13 1024 x0)) hk15 (by decide) rfl (fin fwX9) (by decide) (im tw_5_152) rfl rfl dX9_defect_47 ?_
      refine G_iload C (x := r7) 0 dX9_defect_50 rfl ?_
      obtain ⟨a16, ha17, h⟩ := h
      refine G_rf1 ha17 ?_
      obtain ⟨hk18, h⟩ := h
      obtain ⟨hi19, h⟩ := h
      refine G_iald C hk18 hi19 dX9_defect_52 ?_
      refine G_dup2 C dX9_defect_53 rfl (va_cat _) ?_
      obtain ⟨a20, ha21, h⟩ := h
      refine G_rf1 ha21 ?_
      obtain ⟨hk22, h⟩ := h
      obtain ⟨hi23, h⟩ := h
      refine G_iald C hk22 hi23 dX9_defect_54 ?_
      refine G_iconst C (v := 1) dX9_defect_55 (by decide) ?_
      refine G_iadd C dX9_defect_56 ?_
      refine G_rf2 ha21 ?_
      obtain ⟨hi24, h⟩ := h
      refine G_iast C hk22 hi24 dX9_defect_57 ?_
      generalize e26 : sA S13 a20 (((gA S13 a16 r7.toNatClampNeg)).toNatClampNeg) ((gA S13 a20 (((gA S13 a16 r7.toNatClampNeg)).toNatClampNeg)) + 1) = S25
      have h := h S25 e26.symm
      refine G_lv C (lv' := [(4, Value.int r7)]) [0] rfl ?_
      exact J58 _ _ h
  · have h := h.2 hc
    refine G_iconst C (v := 0) dX9_defect_10 (by decide) ?_
    exact G_iret C (mc := 0) (ms := 0) (post := post) hr (Nat.le_of_ble_eq_true rfl) (Nat.le_of_ble_eq_true rfl) dX9_defect_11 h
set_option maxHeartbeats 4000000 in
set_option maxRecDepth 100000 in
theorem c_X9_latest (l : Launch) (D : va_G) (cy : Nat → Nat) (x0 : Nat) (x1 : Int32) (S : PT) (post : Int32 → PT → Prop) (h : w_X9_latest x0 x1 S post) : Mi l yX9_latest (Wm yX9_latest prog_11_method_65_code 4 (Option.some Jvm.ClassFile.FieldType.int)) 0 0 D cy [va_rf (some x0), Value.int x1] S 0 0 post := by
  refine Mi_of (own := "TrenchboardModel") (by decide) rfl (by first | decide | simp [lg_sl, va_cat, vi_cat, vl_cat]) (fun p e s m below meth c A C hZ hr hin9 => ?_)
  have J4 : ∀ (n : Nat) (S : PT) (v2 : Int32) (v3 : Int32), w_X9_latest_l4 x0 x1 post n S v2 v3 → G p l e { frames := 0, cells := 0, slots := 0, locals := 0 } s m [va_rf (some x0), Value.int x1].toArray below meth c D cy A s.heap 4 (QMi below D cy A [va_rf (some x0), Value.int x1] s 0 0 post) S 0 0 4 [(0, va_rf (some x0)), (1, Value.int x1), (2, Value.int v2), (3, Value.int v3)] [] := by
    intro n4
    induction n4 with
    | zero => intro S v2 v3 h; rw [w_X9_latest_l4] at h; exact False.elim h
    | succ n4 K4 =>
      have J27 : ∀ (S : PT) (v3 : Int32) (s0 : Int32), w_X9_latest_b27 x0 x1 post (w_X9_latest_l4 x0 x1 post n4) S v3 s0 → G p l e { frames := 0, cells := 0, slots := 0, locals := 0 } s m [va_rf (some x0), Value.int x1].toArray below meth c D cy A s.heap 4 (QMi below D cy A [va_rf (some x0), Value.int x1] s 0 0 post) S 0 0 27 [(0, va_rf (some x0)), (1, Value.int x1), (3, Value.int v3)] [Value.int s0] := by
        intro S v3 s0 h
        unfold w_X9_latest_b27 at h
        refine G_istore_n C (i := 2) (lv' := [(2, Value.int s0), (0, va_rf (some x0)), (1, Value.int x1), (3, Value.int v3)]) dX9_latest_27 rfl (by decide) (by first | rfl | simp [va_cat, vi_cat, vl_cat]) ?_
        refine G_iinc C (v := (v3 + 1)) (lv' := [(3, Value.int (v3 + 1)), (2, Value.int s0), (0, va_rf (some x0)), (1, Value.int x1)]) 3 dX9_latest_28 rfl rfl (by decide) (by first | rfl | simp [va_cat, vi_cat, vl_cat]) ?_
        refine G_goto C (tgt := 4) dX9_latest_31 (by decide) ?_
        refine G_lv C (lv' := [(0, va_rf (some x0)), (1, Value.int x1), (2, Value.int s0), (3, Value.int (v3 + 1))]) [2, 3, 1, 0] rfl ?_
        exact K4 _ _ _ h
      intro S v2 v3 h
      rw [w_X9_latest_l4] at h
      refine G_iload_n C (x := v3) 3 dX9_latest_4 rfl rfl ?_
      refine G_aload_n C (x := (some x0)) 0 dX9_latest_5 rfl rfl ?_
      obtain ⟨hk1, h⟩ := h
      refine G_get C (CC := RX9) (Tf := TX9) (N := 50) (k := 10) (i := 40) (v := Value.int (gI S 1040 x0)) hk1 (by decide) rfl (fin fwX9) (by decide) (im tw_5_168) rfl rfl dX9_latest_6 ?_
      refine G_icmp_ge C (tgt := 34) dX9_latest_9 (by decide) (fun hc => ?_) (fun hc => ?_)
      · have h := h.1 hc
        refine G_iload_n C (x := v2) 2 dX9_latest_34 rfl rfl ?_
        exact G_iret C (mc := 0) (ms := 0) (post := post) hr (Nat.le_of_ble_eq_true rfl) (Nat.le_of_ble_eq_true rfl) dX9_latest_35 h
      · have h := h.2 hc
        refine G_aload_n C (x := (some x0)) 0 dX9_latest_12 rfl rfl ?_
        refine G_get C (CC := RX9) (Tf := TX9) (N := 50) (k := 10) (i := 41) (v := va_rf (gP S 1041 x0)) hk1 (by decide) rfl (fin fwX9) (by decide) (im tw_5_169) rfl rfl dX9_latest_13 ?_
        refine G_iload_n C (x := v3) 3 dX9_latest_16 rfl rfl ?_
        obtain ⟨a2, ha3, h⟩ := h
        refine G_rf1 ha3 ?_
        obtain ⟨hk4, h⟩ := h
        obtain ⟨hi5, h⟩ := h
        refine G_iald C hk4 hi5 dX9_latest_17 ?_
        refine G_iload_n C (x := x1) 1 dX9_latest_18 rfl rfl ?_
        refine G_icmp_ne C (tgt := 26) dX9_latest_19 (by decide) (fun hc => ?_) (fun hc => ?_)
        · have h := h.1 hc
          refine G_iload_n C (x := v2) 2 dX9_latest_26 rfl rfl ?_
          refine G_lv C (lv' := [(0, va_rf (some x0)), (1, Value.int x1), (3, Value.int v3)]) [0, 1, 3] rfl ?_
          exact J27 _ _ _ h
        · have h := h.2 hc
          refine G_iload_n C (x := v3) 3 dX9_latest_22 rfl rfl ?_
          refine G_goto C (tgt := 27) dX9_latest_23 (by decide) ?_
          refine G_lv C (lv' := [(0, va_rf (some x0)), (1, Value.int x1), (3, Value.int v3)]) [0, 1, 3] rfl ?_
          exact J27 _ _ _ h
  refine G_lv C (lv' := [(0, va_rf (some x0)), (1, Value.int x1)]) [0, 1] (by first | rfl | simp [lv_pick, lv_args, va_cat, vi_cat, vl_cat]) ?_
  unfold w_X9_latest at h
  refine G_iconst C (v := (-1)) dX9_latest_0 (by decide) ?_
  refine G_istore_n C (i := 2) (lv' := [(2, Value.int (-1)), (0, va_rf (some x0)), (1, Value.int x1)]) dX9_latest_1 rfl (by decide) (by first | rfl | simp [va_cat, vi_cat, vl_cat]) ?_
  refine G_iconst C (v := 0) dX9_latest_2 (by decide) ?_
  refine G_istore_n C (i := 3) (lv' := [(3, Value.int 0), (2, Value.int (-1)), (0, va_rf (some x0)), (1, Value.int x1)]) dX9_latest_3 rfl (by decide) (by first | rfl | simp [va_cat, vi_cat, vl_cat]) ?_
  refine G_lv C (lv' := [(0, va_rf (some x0)), (1, Value.int x1), (2, Value.int (-1)), (3, Value.int 0)]) [2, 3, 1, 0] rfl ?_
  obtain ⟨n9, h⟩ := h
  exact J4 n9 _ _ _ h
set_option maxHeartbeats 4000000 in
set_option maxRecDepth 100000 in
theorem c_X9_core (l : Launch) (D : va_G) (cy : Nat → Nat) (x0 : Nat) (x1 : Int32) (x2 : Int32) (S : PT) (post : Int32 → PT → Prop) (h : w_X9_core x0 x1 x2 S post) : Mi l yX9_core (Wm yX9_core prog_11_method_66_code 6 (Option.some Jvm.ClassFile.FieldType.int)) 3 65 D cy [va_rf (some x0), Value.int x1, Value.int x2] S 0 0 post := by
  refine Mi_of (own := "TrenchboardModel") (by decide) rfl (by first | decide | simp [lg_sl, va_cat, vi_cat, vl_cat]) (fun p e s m below meth c A C hZ hr hin9 => ?_)
  have J123 : ∀ (S : PT) (v4 : Int32) (s0 : Option Nat) (s1 : Int32) (s2 : Int32) (s3 : Int32), w_X9_core_b123 x0 x1 x2 post S v4 s0 s1 s2 s3 → G p l e { frames := 3, cells := 0, slots := 0, locals := 65 } s m [va_rf (some x0), Value.int x1, Value.int x2].toArray below meth c D cy A s.heap 6 (QMi below D cy A [va_rf (some x0), Value.int x1, Value.int x2] s 0 0 post) S 0 0 123 [(0, va_rf (some x0)), (4, Value.int v4)] [Value.int s3, Value.int s2, Value.int s1, va_rf s0] := by
    intro S v4 s0 s1 s2 s3 h
    unfold w_X9_core_b123 at h
    refine G_iadd C dX9_core_123 ?_
    obtain ⟨a1, ha2, h⟩ := h
    refine G_rf2 ha2 ?_
    obtain ⟨hk3, h⟩ := h
    obtain ⟨hi4, h⟩ := h
    refine G_iast C hk3 hi4 dX9_core_124 ?_
    generalize e6 : sA S a1 ((s1).toNatClampNeg) (s2 + s3) = S5
    have h := h S5 e6.symm
    refine G_aload_n C (x := (some x0)) 0 dX9_core_125 rfl rfl ?_
    obtain ⟨hk7, h⟩ := h
    refine G_get C (CC := RX9) (Tf := TX9) (N := 50) (k := 10) (i := 44) (v := va_rf (gP S5 1044 x0)) hk7 (by decide) rfl (fin fwX9) (by decide) (im tw_5_172) rfl rfl dX9_core_126 ?_
    refine G_iload C (x := v4) 1 dX9_core_129 rfl ?_
    obtain ⟨a8, ha9, h⟩ := h
    refine G_rf1 ha9 ?_
    obtain ⟨hk10, h⟩ := h
    obtain ⟨hi11, h⟩ := h
    refine G_iald C hk10 hi11 dX9_core_131 ?_
    exact G_iret C (mc := 0) (ms := 0) (post := post) hr (Nat.le_of_ble_eq_true rfl) (Nat.le_of_ble_eq_true rfl) dX9_core_132 h
  have J57 : ∀ (S : PT) (v4 : Int32) (s0 : Option Nat) (s1 : Int32), w_X9_core_b57 x0 x1 x2 post S v4 s0 s1 → G p l e { frames := 3, cells := 0, slots := 0, locals := 65 } s m [va_rf (some x0), Value.int x1, Value.int x2].toArray below meth c D cy A s.heap 6 (QMi below D cy A [va_rf (some x0), Value.int x1, Value.int x2] s 0 0 post) S 0 0 57 [(0, va_rf (some x0)), (4, Value.int v4)] [Value.int s1, va_rf s0] := by
    intro S v4 s0 s1 h
    unfold w_X9_core_b57 at h
    obtain ⟨a12, ha13, h⟩ := h
    obtain ⟨hk14, h⟩ := h
    refine G_callVi C hZ (Tf := TX9) (N := 50) hk14 (by decide) rfl tw_6_56 tw_6_58 tw_0_29 tw_1_7 tw_6_59 hy_X9_goes ⟨Nat.le_of_ble_eq_true rfl, Nat.le_of_ble_eq_true rfl⟩ (As := [Value.int s1]) (rest := []) (c_X9_goes l D cy a12 s1 S _ h) rfl (by first | rfl | (simp only [ha13]; rfl) | simp only [ha13]) (by simp [va_cat, vi_cat, vl_cat]) dX9_core_57 ⟨Nat.le_of_ble_eq_true rfl, Nat.le_of_ble_eq_true rfl⟩ (fun r16 S15 h => ?_)
    obtain ⟨hb17, h⟩ := h
    refine G_if_ne C (tgt := 65) dX9_core_60 (by decide) (fun hc => ?_) (fun hc => ?_)
    · have h := h.1 hc
      refine G_aload_n C (x := (some x0)) 0 dX9_core_65 rfl rfl ?_
      obtain ⟨hk18, h⟩ := h
      refine G_get C (CC := RX9) (Tf := TX9) (N := 50) (k := 10) (i := 45) (v := va_rf (gP S15 1045 x0)) hk18 (by decide) rfl (fin fwX9) (by decide) (im tw_5_173) rfl rfl dX9_core_66 ?_
      refine G_iload C (x := v4) 1 dX9_core_69 rfl ?_
      refine G_iconst C (v := 1) dX9_core_71 (by decide) ?_
      obtain ⟨a19, ha20, h⟩ := h
      refine G_rf2 ha20 ?_
      obtain ⟨hk21, h⟩ := h
      obtain ⟨hi22, h⟩ := h
      refine G_zast C hk21 bo_1 hi22 dX9_core_72 ?_
      generalize e24 : sA S15 a19 ((v4).toNatClampNeg) 1 = S23
      have h := h S23 e24.symm
      refine G_aload_n C (x := (some x0)) 0 dX9_core_73 rfl rfl ?_
      refine G_get C (CC := RX9) (Tf := TX9) (N := 50) (k := 10) (i := 24) (v := va_rf (gP S23 1024 x0)) (ksA e24.symm hk18) (by decide) rfl (fin fwX9) (by decide) (im tw_5_152) rfl rfl dX9_core_74 ?_
      refine G_aload_n C (x := (some x0)) 0 dX9_core_77 rfl rfl ?_
      refine G_get C (CC := RX9) (Tf := TX9) (N := 50) (k := 10) (i := 42) (v := va_rf (gP S23 1042 x0)) (ksA e24.symm hk18) (by decide) rfl (fin fwX9) (by decide) (im tw_5_170) rfl rfl dX9_core_78 ?_
      refine G_iload C (x := v4) 1 dX9_core_81 rfl ?_
      obtain ⟨a25, ha26, h⟩ := h
      refine G_rf1 ha26 ?_
      obtain ⟨hk27, h⟩ := h
      obtain ⟨hi28, h⟩ := h
      refine G_iald C hk27 hi28 dX9_core_83 ?_
      obtain ⟨a29, ha30, h⟩ := h
      refine G_rf1 ha30 ?_
      obtain ⟨hk31, h⟩ := h
      obtain ⟨hi32, h⟩ := h
      refine G_iald C hk31 hi32 dX9_core_84 ?_
      refine G_istore C (i := 5) (lv' := [(5, Value.int (gA S23 a29 (((gA S23 a25 v4.toNatClampNeg)).toNatClampNeg))), (0, va_rf (some x0)), (4, Value.int v4)]) dX9_core_85 (by decide) (by first | rfl | simp [va_cat, vi_cat, vl_cat]) ?_
      refine G_aload_n C (x := (some x0)) 1 dX9_core_87 rfl rfl ?_
      refine G_get C (CC := RX9) (Tf := TX9) (N := 50) (k := 10) (i := 47) (v := va_rf (gP S23 1047 x0)) (ksA e24.symm hk18) (by decide) rfl (fin fwX9) (by decide) (im tw_5_175) rfl rfl dX9_core_88 ?_
      refine G_iload C (x := (gA S23 a29 (((gA S23 a25 v4.toNatClampNeg)).toNatClampNeg))) 0 dX9_core_91 rfl ?_
      refine G_dup2 C dX9_core_93 rfl (va_cat _) ?_
      obtain ⟨a33, ha34, h⟩ := h
      refine G_rf1 ha34 ?_
      obtain ⟨hk35, h⟩ := h
      obtain ⟨hi36, h⟩ := h
      refine G_iald C hk35 hi36 dX9_core_94 ?_
      refine G_iconst C (v := 1) dX9_core_95 (by decide) ?_
      refine G_iadd C dX9_core_96 ?_
      refine G_rf2 ha34 ?_
      obtain ⟨hi37, h⟩ := h
      refine G_iast C hk35 hi37 dX9_core_97 ?_
      generalize e39 : sA S23 a33 (((gA S23 a29 (((gA S23 a25 v4.toNatClampNeg)).toNatClampNeg))).toNatClampNeg) ((gA S23 a33 (((gA S23 a29 (((gA S23 a25 v4.toNatClampNeg)).toNatClampNeg))).toNatClampNeg)) + 1) = S38
      have h := h S38 e39.symm
      refine G_aload_n C (x := (some x0)) 1 dX9_core_98 rfl rfl ?_
      refine G_get C (CC := RX9) (Tf := TX9) (N := 50) (k := 10) (i := 46) (v := va_rf (gP S38 1046 x0)) (ksA e39.symm (ksA e24.symm hk18)) (by decide) rfl (fin fwX9) (by decide) (im tw_5_174) rfl rfl dX9_core_99 ?_
      refine G_iload C (x := (gA S23 a29 (((gA S23 a25 v4.toNatClampNeg)).toNatClampNeg))) 0 dX9_core_102 rfl ?_
      refine G_dup2 C dX9_core_104 rfl (va_cat _) ?_
      obtain ⟨a40, ha41, h⟩ := h
      refine G_rf1 ha41 ?_
      obtain ⟨hk42, h⟩ := h
      obtain ⟨hi43, h⟩ := h
      refine G_iald C hk42 hi43 dX9_core_105 ?_
      refine G_aload_n C (x := (some x0)) 1 dX9_core_106 rfl rfl ?_
      refine G_get C (CC := RX9) (Tf := TX9) (N := 50) (k := 10) (i := 44) (v := va_rf (gP S38 1044 x0)) (ksA e39.symm (ksA e24.symm hk18)) (by decide) rfl (fin fwX9) (by decide) (im tw_5_172) rfl rfl dX9_core_107 ?_
      refine G_iload C (x := v4) 2 dX9_core_110 rfl ?_
      obtain ⟨a44, ha45, h⟩ := h
      refine G_rf1 ha45 ?_
      obtain ⟨hk46, h⟩ := h
      obtain ⟨hi47, h⟩ := h
      refine G_iald C hk46 hi47 dX9_core_112 ?_
      refine G_bipush C (v := 80) dX9_core_113 (by decide) ?_
      refine G_icmp_ge C (tgt := 122) dX9_core_115 (by decide) (fun hc => ?_) (fun hc => ?_)
      · have h := h.1 hc
        refine G_iconst C (v := 0) dX9_core_122 (by decide) ?_
        refine G_lv C (lv' := [(0, va_rf (some x0)), (4, Value.int v4)]) [1, 2] rfl ?_
        exact J123 _ _ _ _ _ _ h
      · have h := h.2 hc
        refine G_iconst C (v := 1) dX9_core_118 (by decide) ?_
        refine G_goto C (tgt := 123) dX9_core_119 (by decide) ?_
        refine G_lv C (lv' := [(0, va_rf (some x0)), (4, Value.int v4)]) [1, 2] rfl ?_
        exact J123 _ _ _ _ _ _ h
    · have h := h.2 hc
      refine G_iconst C (v := 0) dX9_core_63 (by decide) ?_
      exact G_iret C (mc := 0) (ms := 0) (post := post) hr (Nat.le_of_ble_eq_true rfl) (Nat.le_of_ble_eq_true rfl) dX9_core_64 h
  have J52 : ∀ (S : PT) (v4 : Int32) (s0 : Option Nat), w_X9_core_b52 x0 x1 x2 post S v4 s0 → G p l e { frames := 3, cells := 0, slots := 0, locals := 65 } s m [va_rf (some x0), Value.int x1, Value.int x2].toArray below meth c D cy A s.heap 6 (QMi below D cy A [va_rf (some x0), Value.int x1, Value.int x2] s 0 0 post) S 0 0 52 [(0, va_rf (some x0)), (4, Value.int v4)] [va_rf s0] := by
    intro S v4 s0 h
    unfold w_X9_core_b52 at h
    refine G_iconst C (v := 2) dX9_core_52 (by decide) ?_
    refine G_goto C (tgt := 57) dX9_core_53 (by decide) ?_
    refine G_lv C (lv' := [(0, va_rf (some x0)), (4, Value.int v4)]) [0, 1] rfl ?_
    exact J57 _ _ _ _ h
  have J25 : ∀ (S : PT) (v3 : Int32) (s0 : Int32), w_X9_core_b25 x0 x1 x2 post S v3 s0 → G p l e { frames := 3, cells := 0, slots := 0, locals := 65 } s m [va_rf (some x0), Value.int x1, Value.int x2].toArray below meth c D cy A s.heap 6 (QMi below D cy A [va_rf (some x0), Value.int x1, Value.int x2] s 0 0 post) S 0 0 25 [(0, va_rf (some x0)), (3, Value.int v3)] [Value.int s0] := by
    intro S v3 s0 h
    unfold w_X9_core_b25 at h
    refine G_istore C (i := 4) (lv' := [(4, Value.int s0), (0, va_rf (some x0)), (3, Value.int v3)]) dX9_core_25 (by decide) (by first | rfl | simp [va_cat, vi_cat, vl_cat]) ?_
    refine G_aload_n C (x := (some x0)) 1 dX9_core_27 rfl rfl ?_
    refine G_iload_n C (x := v3) 2 dX9_core_28 rfl rfl ?_
    refine G_if_ne C (tgt := 36) dX9_core_29 (by decide) (fun hc => ?_) (fun hc => ?_)
    · have h := h.1 hc
      refine G_iload C (x := s0) 0 dX9_core_36 rfl ?_
      refine G_iconst C (v := (-1)) dX9_core_38 (by decide) ?_
      refine G_icmp_eq C (tgt := 52) dX9_core_39 (by decide) (fun hc => ?_) (fun hc => ?_)
      · have h := h.1 hc
        refine G_lv C (lv' := [(0, va_rf (some x0)), (4, Value.int s0)]) [1, 0] rfl ?_
        exact J52 _ _ _ h
      · have h := h.2 hc
        refine G_aload_n C (x := (some x0)) 1 dX9_core_42 rfl rfl ?_
        obtain ⟨hk48, h⟩ := h
        refine G_get C (CC := RX9) (Tf := TX9) (N := 50) (k := 10) (i := 45) (v := va_rf (gP S 1045 x0)) hk48 (by decide) rfl (fin fwX9) (by decide) (im tw_5_173) rfl rfl dX9_core_43 ?_
        refine G_iload C (x := s0) 0 dX9_core_46 rfl ?_
        obtain ⟨a49, ha50, h⟩ := h
        refine G_rf1 ha50 ?_
        obtain ⟨hk51, h⟩ := h
        obtain ⟨hi52, h⟩ := h
        refine G_zald C hk51 hi52 dX9_core_48 ?_
        refine G_if_eq C (tgt := 56) dX9_core_49 (by decide) (fun hc => ?_) (fun hc => ?_)
        · have h := h.1 hc
          refine G_iconst C (v := 0) dX9_core_56 (by decide) ?_
          refine G_lv C (lv' := [(0, va_rf (some x0)), (4, Value.int s0)]) [1, 0] rfl ?_
          exact J57 _ _ _ _ h
        · have h := h.2 hc
          refine G_lv C (lv' := [(0, va_rf (some x0)), (4, Value.int s0)]) [1, 0] rfl ?_
          exact J52 _ _ _ h
    · have h := h.2 hc
      refine G_iconst C (v := 1) dX9_core_32 (by decide) ?_
      refine G_goto C (tgt := 57) dX9_core_33 (by decide) ?_
      refine G_lv C (lv' := [(0, va_rf (some x0)), (4, Value.int s0)]) [1, 0] rfl ?_
      exact J57 _ _ _ _ h
  refine G_lv C (lv' := [(0, va_rf (some x0)), (1, Value.int x1), (2, Value.int x2)]) [0, 1, 2] (by first | rfl | simp [lv_pick, lv_args, va_cat, vi_cat, vl_cat]) ?_
  unfold w_X9_core at h
  refine G_aload_n C (x := (some x0)) 0 dX9_core_0 rfl rfl ?_
  refine G_iload_n C (x := x1) 1 dX9_core_1 rfl rfl ?_
  refine G_iload_n C (x := x2) 2 dX9_core_2 rfl rfl ?_
  obtain ⟨hk53, h⟩ := h
  refine G_callVi C hZ (Tf := TX9) (N := 50) hk53 (by decide) rfl tw_6_95 tw_6_97 tw_0_35 tw_1_7 tw_6_98 hy_X9_isMetre ⟨Nat.le_of_ble_eq_true rfl, Nat.le_of_ble_eq_true rfl⟩ (As := [Value.int x1, Value.int x2]) (rest := []) (c_X9_isMetre l D cy x0 x1 x2 S _ h) rfl rfl (by simp [va_cat, vi_cat, vl_cat]) dX9_core_3 ⟨Nat.le_of_ble_eq_true rfl, Nat.le_of_ble_eq_true rfl⟩ (fun r55 S54 h => ?_)
  obtain ⟨hb56, h⟩ := h
  refine G_istore_n C (i := 3) (lv' := [(3, Value.int r55), (0, va_rf (some x0)), (1, Value.int x1), (2, Value.int x2)]) dX9_core_6 rfl (by decide) (by first | rfl | simp [va_cat, vi_cat, vl_cat]) ?_
  refine G_iload_n C (x := r55) 0 dX9_core_7 rfl rfl ?_
  refine G_if_eq C (tgt := 24) dX9_core_8 (by decide) (fun hc => ?_) (fun hc => ?_)
  · have h := h.1 hc
    refine G_iconst C (v := (-1)) dX9_core_24 (by decide) ?_
    refine G_lv C (lv' := [(0, va_rf (some x0)), (3, Value.int r55)]) [1, 0] rfl ?_
    exact J25 _ _ _ h
  · have h := h.2 hc
    refine G_aload_n C (x := (some x0)) 1 dX9_core_11 rfl rfl ?_
    refine G_bipush C (v := 40) dX9_core_12 (by decide) ?_
    refine G_iload_n C (x := x1) 2 dX9_core_14 rfl rfl ?_
    refine G_imul C dX9_core_15 ?_
    refine G_iload_n C (x := x2) 3 dX9_core_16 rfl rfl ?_
    refine G_iadd C dX9_core_17 ?_
    obtain ⟨hk57, h⟩ := h
    refine G_callVi C hZ (Tf := TX9) (N := 50) hk57 (by decide) rfl tw_7_54 tw_7_56 tw_0_65 tw_1_7 tw_7_57 hy_X9_latest ⟨Nat.le_of_ble_eq_true rfl, Nat.le_of_ble_eq_true rfl⟩ (As := [Value.int ((40 * x1) + x2)]) (rest := []) (c_X9_latest l D cy x0 ((40 * x1) + x2) S54 _ h) rfl rfl (by simp [va_cat, vi_cat, vl_cat]) dX9_core_18 ⟨Nat.le_of_ble_eq_true rfl, Nat.le_of_ble_eq_true rfl⟩ (fun r59 S58 h => ?_)
    refine G_goto C (tgt := 25) dX9_core_21 (by decide) ?_
    refine G_lv C (lv' := [(0, va_rf (some x0)), (3, Value.int r55)]) [1, 0] rfl ?_
    exact J25 _ _ _ h
set_option maxHeartbeats 4000000 in
set_option maxRecDepth 100000 in
theorem c_X9_liable (l : Launch) (D : va_G) (cy : Nat → Nat) (x0 : Nat) (x1 : Int32) (x2 : Int32) (x3 : Int32) (S : PT) (post : Int32 → PT → Prop) (h : w_X9_liable x0 x1 x2 x3 S post) : Mi l yX9_liable (Wm yX9_liable prog_11_method_67_code 4 (Option.some Jvm.ClassFile.FieldType.int)) 4 88 D cy [va_rf (some x0), Value.int x1, Value.int x2, Value.int x3] S 0 0 post := by
  refine Mi_of (own := "TrenchboardModel") (by decide) rfl (by first | decide | simp [lg_sl, va_cat, vi_cat, vl_cat]) (fun p e s m below meth c A C hZ hr hin9 => ?_)
  have J21 : ∀ (S : PT) (s0 : Int32), w_X9_liable_b21 x0 x1 x2 x3 post S s0 → G p l e { frames := 4, cells := 0, slots := 0, locals := 88 } s m [va_rf (some x0), Value.int x1, Value.int x2, Value.int x3].toArray below meth c D cy A s.heap 4 (QMi below D cy A [va_rf (some x0), Value.int x1, Value.int x2, Value.int x3] s 0 0 post) S 0 0 21 [] [Value.int s0] := by
    intro S s0 h
    unfold w_X9_liable_b21 at h
    exact G_iret C (mc := 0) (ms := 0) (post := post) hr (Nat.le_of_ble_eq_true rfl) (Nat.le_of_ble_eq_true rfl) dX9_liable_21 h
  refine G_lv C (lv' := [(0, va_rf (some x0)), (1, Value.int x1), (2, Value.int x2), (3, Value.int x3)]) [0, 1, 2, 3] (by first | rfl | simp [lv_pick, lv_args, va_cat, vi_cat, vl_cat]) ?_
  unfold w_X9_liable at h
  refine G_aload_n C (x := (some x0)) 0 dX9_liable_0 rfl rfl ?_
  refine G_iload_n C (x := x1) 1 dX9_liable_1 rfl rfl ?_
  refine G_iload_n C (x := x2) 2 dX9_liable_2 rfl rfl ?_
  refine G_iload_n C (x := x3) 3 dX9_liable_3 rfl rfl ?_
  obtain ⟨hk1, h⟩ := h
  refine G_callVi C hZ (Tf := TX9) (N := 50) hk1 (by decide) rfl tw_7_42 tw_7_44 tw_0_63 tw_1_7 tw_7_45 hy_X9_asksMetre ⟨Nat.le_of_ble_eq_true rfl, Nat.le_of_ble_eq_true rfl⟩ (As := [Value.int x1, Value.int x2, Value.int x3]) (rest := []) (c_X9_asksMetre l D cy x0 x1 x2 x3 S _ h) rfl rfl (by simp [va_cat, vi_cat, vl_cat]) dX9_liable_4 ⟨Nat.le_of_ble_eq_true rfl, Nat.le_of_ble_eq_true rfl⟩ (fun r3 S2 h => ?_)
  obtain ⟨hb4, h⟩ := h
  refine G_if_eq C (tgt := 20) dX9_liable_7 (by decide) (fun hc => ?_) (fun hc => ?_)
  · have h := h.1 hc
    refine G_iconst C (v := 0) dX9_liable_20 (by decide) ?_
    refine G_lv C (lv' := []) [] rfl ?_
    exact J21 _ _ h
  · have h := h.2 hc
    refine G_aload_n C (x := (some x0)) 0 dX9_liable_10 rfl rfl ?_
    refine G_iload_n C (x := x1) 1 dX9_liable_11 rfl rfl ?_
    refine G_iload_n C (x := x2) 2 dX9_liable_12 rfl rfl ?_
    refine G_iload_n C (x := x3) 3 dX9_liable_13 rfl rfl ?_
    obtain ⟨hk5, h⟩ := h
    refine G_callVi C hZ (Tf := TX9) (N := 50) hk5 (by decide) rfl tw_7_46 tw_7_48 tw_0_64 tw_1_7 tw_7_49 hy_X9_liableFor ⟨Nat.le_of_ble_eq_true rfl, Nat.le_of_ble_eq_true rfl⟩ (As := [Value.int x1, Value.int x2, Value.int x3]) (rest := []) (c_X9_liableFor l D cy x0 x1 x2 x3 S2 _ h) rfl rfl (by simp [va_cat, vi_cat, vl_cat]) dX9_liable_14 ⟨Nat.le_of_ble_eq_true rfl, Nat.le_of_ble_eq_true rfl⟩ (fun r7 S6 h => ?_)
    refine G_goto C (tgt := 21) dX9_liable_17 (by decide) ?_
    refine G_lv C (lv' := []) [] rfl ?_
    exact J21 _ _ h
set_option maxHeartbeats 4000000 in
set_option maxRecDepth 100000 in
theorem c_X9_liableAnew (l : Launch) (D : va_G) (cy : Nat → Nat) (x0 : Nat) (x1 : Int32) (x2 : Int32) (x3 : Int32) (S : PT) (post : Int32 → PT → Prop) (h : w_X9_liableAnew x0 x1 x2 x3 S post) : Mi l yX9_liableAnew (Wm yX9_liableAnew prog_11_method_68_code 4 (Option.some Jvm.ClassFile.FieldType.int)) 4 88 D cy [va_rf (some x0), Value.int x1, Value.int x2, Value.int x3] S 0 0 post := by
  refine Mi_of (own := "TrenchboardModel") (by decide) rfl (by first | decide | simp [lg_sl, va_cat, vi_cat, vl_cat]) (fun p e s m below meth c A C hZ hr hin9 => ?_)
  have J21 : ∀ (S : PT) (s0 : Int32), w_X9_liableAnew_b21 x0 x1 x2 x3 post S s0 → G p l e { frames := 4, cells := 0, slots := 0, locals := 88 } s m [va_rf (some x0), Value.int x1, Value.int x2, Value.int x3].toArray below meth c D cy A s.heap 4 (QMi below D cy A [va_rf (some x0), Value.int x1, Value.int x2, Value.int x3] s 0 0 post) S 0 0 21 [] [Value.int s0] := by
    intro S s0 h
    unfold w_X9_liableAnew_b21 at h
    exact G_iret C (mc := 0) (ms := 0) (post := post) hr (Nat.le_of_ble_eq_true rfl) (Nat.le_of_ble_eq_true rfl) dX9_liableAnew_21 h
  refine G_lv C (lv' := [(0, va_rf (some x0)), (1, Value.int x1), (2, Value.int x2), (3, Value.int x3)]) [0, 1, 2, 3] (by first | rfl | simp [lv_pick, lv_args, va_cat, vi_cat, vl_cat]) ?_
  unfold w_X9_liableAnew at h
  refine G_aload_n C (x := (some x0)) 0 dX9_liableAnew_0 rfl rfl ?_
  refine G_iload_n C (x := x1) 1 dX9_liableAnew_1 rfl rfl ?_
  refine G_iload_n C (x := x2) 2 dX9_liableAnew_2 rfl rfl ?_
  refine G_iload_n C (x := x3) 3 dX9_liableAnew_3 rfl rfl ?_
  obtain ⟨hk1, h⟩ := h
  refine G_callVi C hZ (Tf := TX9) (N := 50) hk1 (by decide) rfl tw_7_42 tw_7_44 tw_0_63 tw_1_7 tw_7_45 hy_X9_asksMetre ⟨Nat.le_of_ble_eq_true rfl, Nat.le_of_ble_eq_true rfl⟩ (As := [Value.int x1, Value.int x2, Value.int x3]) (rest := []) (c_X9_asksMetre l D cy x0 x1 x2 x3 S _ h) rfl rfl (by simp [va_cat, vi_cat, vl_cat]) dX9_liableAnew_4 ⟨Nat.le_of_ble_eq_true rfl, Nat.le_of_ble_eq_true rfl⟩ (fun r3 S2 h => ?_)
  obtain ⟨hb4, h⟩ := h
  refine G_if_eq C (tgt := 20) dX9_liableAnew_7 (by decide) (fun hc => ?_) (fun hc => ?_)
  · have h := h.1 hc
    refine G_iconst C (v := 0) dX9_liableAnew_20 (by decide) ?_
    refine G_lv C (lv' := []) [] rfl ?_
    exact J21 _ _ h
  · have h := h.2 hc
    refine G_aload_n C (x := (some x0)) 0 dX9_liableAnew_10 rfl rfl ?_
    refine G_iload_n C (x := x1) 1 dX9_liableAnew_11 rfl rfl ?_
    refine G_iload_n C (x := x2) 2 dX9_liableAnew_12 rfl rfl ?_
    refine G_iload_n C (x := x3) 3 dX9_liableAnew_13 rfl rfl ?_
    obtain ⟨hk5, h⟩ := h
    refine G_callVi C hZ (Tf := TX9) (N := 50) hk5 (by decide) rfl tw_7_46 tw_7_48 tw_0_64 tw_1_7 tw_7_49 hy_X9_liableFor ⟨Nat.le_of_ble_eq_true rfl, Nat.le_of_ble_eq_true rfl⟩ (As := [Value.int x1, Value.int x2, Value.int x3]) (rest := []) (c_X9_liableFor l D cy x0 x1 x2 x3 S2 _ h) rfl rfl (by simp [va_cat, vi_cat, vl_cat]) dX9_liableAnew_14 ⟨Nat.le_of_ble_eq_true rfl, Nat.le_of_ble_eq_true rfl⟩ (fun r7 S6 h => ?_)
    refine G_goto C (tgt := 21) dX9_liableAnew_17 (by decide) ?_
    refine G_lv C (lv' := []) [] rfl ?_
    exact J21 _ _ h
set_option maxHeartbeats 4000000 in
set_option maxRecDepth 100000 in
theorem c_X9_bars (l : Launch) (D : va_G) (cy : Nat → Nat) (x0 : Nat) (x1 : Int32) (S : PT) (post : Int32 → PT → Prop) (h : w_X9_bars x0 x1 S post) : Mi l yX9_bars (Wm yX9_bars prog_11_method_69_code 2 (Option.some Jvm.ClassFile.FieldType.int)) 6 136 D cy [va_rf (some x0), Value.int x1] S 0 0 post := by
  refine Mi_of (own := "TrenchboardModel") (by decide) rfl (by first | decide | simp [lg_sl, va_cat, vi_cat, vl_cat]) (fun p e s m below meth c A C hZ hr hin9 => ?_)
  have J29 : ∀ (S : PT) (s0 : Int32), w_X9_bars_b29 x0 x1 post S s0 → G p l e { frames := 6, cells := 0, slots := 0, locals := 136 } s m [va_rf (some x0), Value.int x1].toArray below meth c D cy A s.heap 2 (QMi below D cy A [va_rf (some x0), Value.int x1] s 0 0 post) S 0 0 29 [] [Value.int s0] := by
    intro S s0 h
    unfold w_X9_bars_b29 at h
    exact G_iret C (mc := 0) (ms := 0) (post := post) hr (Nat.le_of_ble_eq_true rfl) (Nat.le_of_ble_eq_true rfl) dX9_bars_29 h
  have J14 : ∀ (S : PT) (s0 : Option Nat) (s1 : Int32), w_X9_bars_b14 x0 x1 post S s0 s1 → G p l e { frames := 6, cells := 0, slots := 0, locals := 136 } s m [va_rf (some x0), Value.int x1].toArray below meth c D cy A s.heap 2 (QMi below D cy A [va_rf (some x0), Value.int x1] s 0 0 post) S 0 0 14 [(0, va_rf (some x0)), (1, Value.int x1)] [Value.int s1, va_rf s0] := by
    intro S s0 s1 h
    unfold w_X9_bars_b14 at h
    obtain ⟨a1, ha2, h⟩ := h
    obtain ⟨hk3, h⟩ := h
    refine G_callVi C hZ (Tf := TX9) (N := 50) hk3 (by decide) rfl tw_6_56 tw_6_58 tw_0_29 tw_1_7 tw_6_59 hy_X9_goes ⟨Nat.le_of_ble_eq_true rfl, Nat.le_of_ble_eq_true rfl⟩ (As := [Value.int s1]) (rest := []) (c_X9_goes l D cy a1 s1 S _ h) rfl (by first | rfl | (simp only [ha2]; rfl) | simp only [ha2]) (by simp [va_cat, vi_cat, vl_cat]) dX9_bars_14 ⟨Nat.le_of_ble_eq_true rfl, Nat.le_of_ble_eq_true rfl⟩ (fun r5 S4 h => ?_)
    obtain ⟨hb6, h⟩ := h
    refine G_if_eq C (tgt := 28) dX9_bars_17 (by decide) (fun hc => ?_) (fun hc => ?_)
    · have h := h.1 hc
      refine G_iconst C (v := 0) dX9_bars_28 (by decide) ?_
      refine G_lv C (lv' := []) [] rfl ?_
      exact J29 _ _ h
    · have h := h.2 hc
      refine G_aload_n C (x := (some x0)) 0 dX9_bars_20 rfl rfl ?_
      refine G_iload_n C (x := x1) 1 dX9_bars_21 rfl rfl ?_
      obtain ⟨hk7, h⟩ := h
      refine G_callVi C hZ (Tf := TX9) (N := 50) hk7 (by decide) rfl tw_6_150 tw_6_152 tw_0_42 tw_1_7 tw_6_153 hy_X9_barsOf ⟨Nat.le_of_ble_eq_true rfl, Nat.le_of_ble_eq_true rfl⟩ (As := [Value.int x1]) (rest := []) (c_X9_barsOf l D cy x0 x1 S4 _ h) rfl rfl (by simp [va_cat, vi_cat, vl_cat]) dX9_bars_22 ⟨Nat.le_of_ble_eq_true rfl, Nat.le_of_ble_eq_true rfl⟩ (fun r9 S8 h => ?_)
      refine G_goto C (tgt := 29) dX9_bars_25 (by decide) ?_
      refine G_lv C (lv' := []) [] rfl ?_
      exact J29 _ _ h
  refine G_lv C (lv' := [(0, va_rf (some x0)), (1, Value.int x1)]) [0, 1] (by first | rfl | simp [lv_pick, lv_args, va_cat, vi_cat, vl_cat]) ?_
  unfold w_X9_bars at h
  refine G_aload_n C (x := (some x0)) 0 dX9_bars_0 rfl rfl ?_
  refine G_aload_n C (x := (some x0)) 0 dX9_bars_1 rfl rfl ?_
  refine G_iload_n C (x := x1) 1 dX9_bars_2 rfl rfl ?_
  obtain ⟨hk10, h⟩ := h
  refine G_callVi C hZ (Tf := TX9) (N := 50) hk10 (by decide) rfl tw_6_146 tw_6_148 tw_0_41 tw_1_7 tw_6_149 hy_X9_areWorks ⟨Nat.le_of_ble_eq_true rfl, Nat.le_of_ble_eq_true rfl⟩ (As := [Value.int x1]) (rest := [va_rf (some x0)]) (c_X9_areWorks l D cy x0 x1 S _ h) rfl rfl (by simp [va_cat, vi_cat, vl_cat]) dX9_bars_3 ⟨Nat.le_of_ble_eq_true rfl, Nat.le_of_ble_eq_true rfl⟩ (fun r12 S11 h => ?_)
  obtain ⟨hb13, h⟩ := h
  refine G_if_eq C (tgt := 13) dX9_bars_6 (by decide) (fun hc => ?_) (fun hc => ?_)
  · have h := h.1 hc
    refine G_iconst C (v := 1) dX9_bars_13 (by decide) ?_
    refine G_lv C (lv' := [(0, va_rf (some x0)), (1, Value.int x1)]) [0, 1] rfl ?_
    exact J14 _ _ _ h
  · have h := h.2 hc
    refine G_iconst C (v := 0) dX9_bars_9 (by decide) ?_
    refine G_goto C (tgt := 14) dX9_bars_10 (by decide) ?_
    refine G_lv C (lv' := [(0, va_rf (some x0)), (1, Value.int x1)]) [0, 1] rfl ?_
    exact J14 _ _ _ h
set_option maxHeartbeats 4000000 in
set_option maxRecDepth 100000 in
theorem c_X9_meets (l : Launch) (D : va_G) (cy : Nat → Nat) (x0 : Nat) (x1 : Int32) (x2 : Int32) (S : PT) (post : Int32 → PT → Prop) (h : w_X9_meets x0 x1 x2 S post) : Mi l yX9_meets (Wm yX9_meets prog_11_method_70_code 4 (Option.some Jvm.ClassFile.FieldType.int)) 4 89 D cy [va_rf (some x0), Value.int x1, Value.int x2] S 0 0 post := by
  refine Mi_of (own := "TrenchboardModel") (by decide) rfl (by first | decide | simp [lg_sl, va_cat, vi_cat, vl_cat]) (fun p e s m below meth c A C hZ hr hin9 => ?_)
  have J32 : ∀ (n : Nat) (S : PT) (v3 : Int32), w_X9_meets_l32 x0 x1 x2 post n S v3 → G p l e { frames := 4, cells := 0, slots := 0, locals := 89 } s m [va_rf (some x0), Value.int x1, Value.int x2].toArray below meth c D cy A s.heap 4 (QMi below D cy A [va_rf (some x0), Value.int x1, Value.int x2] s 0 0 post) S 0 0 32 [(0, va_rf (some x0)), (1, Value.int x1), (3, Value.int v3)] [] := by
    intro n32
    induction n32 with
    | zero => intro S v3 h; rw [w_X9_meets_l32] at h; exact False.elim h
    | succ n32 K32 =>
      intro S v3 h
      rw [w_X9_meets_l32] at h
      refine G_iload_n C (x := v3) 2 dX9_meets_32 rfl rfl ?_
      refine G_aload_n C (x := (some x0)) 0 dX9_meets_33 rfl rfl ?_
      obtain ⟨hk1, h⟩ := h
      refine G_get C (CC := RX9) (Tf := TX9) (N := 50) (k := 10) (i := 23) (v := Value.int (gI S 1023 x0)) hk1 (by decide) rfl (fin fwX9) (by decide) (im tw_5_151) rfl rfl dX9_meets_34 ?_
      refine G_icmp_ge C (tgt := 57) dX9_meets_37 (by decide) (fun hc => ?_) (fun hc => ?_)
      · have h := h.1 hc
        refine G_iconst C (v := (-1)) dX9_meets_57 (by decide) ?_
        exact G_iret C (mc := 0) (ms := 0) (post := post) hr (Nat.le_of_ble_eq_true rfl) (Nat.le_of_ble_eq_true rfl) dX9_meets_58 h
      · have h := h.2 hc
        refine G_aload_n C (x := (some x0)) 0 dX9_meets_40 rfl rfl ?_
        refine G_iload_n C (x := x1) 1 dX9_meets_41 rfl rfl ?_
        refine G_iload_n C (x := v3) 2 dX9_meets_42 rfl rfl ?_
        refine G_callVi C hZ (Tf := TX9) (N := 50) hk1 (by decide) rfl tw_6_162 tw_6_164 tw_0_45 tw_1_7 tw_6_165 hy_X9_doMeet ⟨Nat.le_of_ble_eq_true rfl, Nat.le_of_ble_eq_true rfl⟩ (As := [Value.int x1, Value.int v3]) (rest := []) (c_X9_doMeet l D cy x0 x1 v3 S _ h) rfl rfl (by simp [va_cat, vi_cat, vl_cat]) dX9_meets_43 ⟨Nat.le_of_ble_eq_true rfl, Nat.le_of_ble_eq_true rfl⟩ (fun r3 S2 h => ?_)
        obtain ⟨hb4, h⟩ := h
        refine G_if_eq C (tgt := 51) dX9_meets_46 (by decide) (fun hc => ?_) (fun hc => ?_)
        · have h := h.1 hc
          refine G_iinc C (v := (v3 + 1)) (lv' := [(3, Value.int (v3 + 1)), (0, va_rf (some x0)), (1, Value.int x1)]) 2 dX9_meets_51 rfl rfl (by decide) (by first | rfl | simp [va_cat, vi_cat, vl_cat]) ?_
          refine G_goto C (tgt := 32) dX9_meets_54 (by decide) ?_
          refine G_lv C (lv' := [(0, va_rf (some x0)), (1, Value.int x1), (3, Value.int (v3 + 1))]) [1, 2, 0] rfl ?_
          exact K32 _ _ h
        · have h := h.2 hc
          refine G_iload_n C (x := v3) 2 dX9_meets_49 rfl rfl ?_
          exact G_iret C (mc := 0) (ms := 0) (post := post) hr (Nat.le_of_ble_eq_true rfl) (Nat.le_of_ble_eq_true rfl) dX9_meets_50 h
  have J22 : ∀ (S : PT) (s0 : Option Nat) (s1 : Int32), w_X9_meets_b22 x0 x1 x2 post S s0 s1 → G p l e { frames := 4, cells := 0, slots := 0, locals := 89 } s m [va_rf (some x0), Value.int x1, Value.int x2].toArray below meth c D cy A s.heap 4 (QMi below D cy A [va_rf (some x0), Value.int x1, Value.int x2] s 0 0 post) S 0 0 22 [(0, va_rf (some x0)), (1, Value.int x1), (2, Value.int x2)] [Value.int s1, va_rf s0] := by
    intro S s0 s1 h
    unfold w_X9_meets_b22 at h
    obtain ⟨a5, ha6, h⟩ := h
    obtain ⟨hk7, h⟩ := h
    refine G_callVi C hZ (Tf := TX9) (N := 50) hk7 (by decide) rfl tw_6_56 tw_6_58 tw_0_29 tw_1_7 tw_6_59 hy_X9_goes ⟨Nat.le_of_ble_eq_true rfl, Nat.le_of_ble_eq_true rfl⟩ (As := [Value.int s1]) (rest := []) (c_X9_goes l D cy a5 s1 S _ h) rfl (by first | rfl | (simp only [ha6]; rfl) | simp only [ha6]) (by simp [va_cat, vi_cat, vl_cat]) dX9_meets_22 ⟨Nat.le_of_ble_eq_true rfl, Nat.le_of_ble_eq_true rfl⟩ (fun r9 S8 h => ?_)
    obtain ⟨hb10, h⟩ := h
    refine G_if_ne C (tgt := 30) dX9_meets_25 (by decide) (fun hc => ?_) (fun hc => ?_)
    · have h := h.1 hc
      refine G_iload_n C (x := x2) 2 dX9_meets_30 rfl rfl ?_
      refine G_istore_n C (i := 3) (lv' := [(3, Value.int x2), (0, va_rf (some x0)), (1, Value.int x1), (2, Value.int x2)]) dX9_meets_31 rfl (by decide) (by first | rfl | simp [va_cat, vi_cat, vl_cat]) ?_
      refine G_lv C (lv' := [(0, va_rf (some x0)), (1, Value.int x1), (3, Value.int x2)]) [1, 2, 0] rfl ?_
      obtain ⟨n9, h⟩ := h
      exact J32 n9 _ _ h
    · have h := h.2 hc
      refine G_iconst C (v := 0) dX9_meets_28 (by decide) ?_
      exact G_iret C (mc := 0) (ms := 0) (post := post) hr (Nat.le_of_ble_eq_true rfl) (Nat.le_of_ble_eq_true rfl) dX9_meets_29 h
  refine G_lv C (lv' := [(0, va_rf (some x0)), (1, Value.int x1), (2, Value.int x2)]) [0, 1, 2] (by first | rfl | simp [lv_pick, lv_args, va_cat, vi_cat, vl_cat]) ?_
  unfold w_X9_meets at h
  refine G_aload_n C (x := (some x0)) 0 dX9_meets_0 rfl rfl ?_
  refine G_aload_n C (x := (some x0)) 0 dX9_meets_1 rfl rfl ?_
  refine G_iload_n C (x := x1) 1 dX9_meets_2 rfl rfl ?_
  obtain ⟨hk11, h⟩ := h
  refine G_callVi C hZ (Tf := TX9) (N := 50) hk11 (by decide) rfl tw_6_146 tw_6_148 tw_0_41 tw_1_7 tw_6_149 hy_X9_areWorks ⟨Nat.le_of_ble_eq_true rfl, Nat.le_of_ble_eq_true rfl⟩ (As := [Value.int x1]) (rest := [va_rf (some x0)]) (c_X9_areWorks l D cy x0 x1 S _ h) rfl rfl (by simp [va_cat, vi_cat, vl_cat]) dX9_meets_3 ⟨Nat.le_of_ble_eq_true rfl, Nat.le_of_ble_eq_true rfl⟩ (fun r13 S12 h => ?_)
  obtain ⟨hb14, h⟩ := h
  refine G_if_ne C (tgt := 13) dX9_meets_6 (by decide) (fun hc => ?_) (fun hc => ?_)
  · have h := h.1 hc
    refine G_iload_n C (x := x2) 2 dX9_meets_13 rfl rfl ?_
    refine G_if_ge C (tgt := 21) dX9_meets_14 (by decide) (fun hc => ?_) (fun hc => ?_)
    · have h := h.1 hc
      refine G_iconst C (v := 0) dX9_meets_21 (by decide) ?_
      refine G_lv C (lv' := [(0, va_rf (some x0)), (1, Value.int x1), (2, Value.int x2)]) [0, 1, 2] rfl ?_
      exact J22 _ _ _ h
    · have h := h.2 hc
      refine G_iconst C (v := 2) dX9_meets_17 (by decide) ?_
      refine G_goto C (tgt := 22) dX9_meets_18 (by decide) ?_
      refine G_lv C (lv' := [(0, va_rf (some x0)), (1, Value.int x1), (2, Value.int x2)]) [0, 1, 2] rfl ?_
      exact J22 _ _ _ h
  · have h := h.2 hc
    refine G_iconst C (v := 1) dX9_meets_9 (by decide) ?_
    refine G_goto C (tgt := 22) dX9_meets_10 (by decide) ?_
    refine G_lv C (lv' := [(0, va_rf (some x0)), (1, Value.int x1), (2, Value.int x2)]) [0, 1, 2] rfl ?_
    exact J22 _ _ _ h
set_option maxHeartbeats 4000000 in
set_option maxRecDepth 100000 in
theorem c_X9_of (l : Launch) (D : va_G) (cy : Nat → Nat) (x0 : Nat) (x1 : Int32) (x2 : Int32) (S : PT) (post : Int32 → PT → Prop) (h : w_X9_of x0 x1 x2 S post) : Mi l yX9_of (Wm yX9_of prog_11_method_71_code 3 (Option.some Jvm.ClassFile.FieldType.int)) 2 43 D cy [va_rf (some x0), Value.int x1, Value.int x2] S 0 0 post := by
  refine Mi_of (own := "TrenchboardModel") (by decide) rfl (by first | decide | simp [lg_sl, va_cat, vi_cat, vl_cat]) (fun p e s m below meth c A C hZ hr hin9 => ?_)
  have J149 : ∀ (S : PT) (s0 : Int32), w_X9_of_b149 x0 x1 x2 post S s0 → G p l e { frames := 2, cells := 0, slots := 0, locals := 43 } s m [va_rf (some x0), Value.int x1, Value.int x2].toArray below meth c D cy A s.heap 3 (QMi below D cy A [va_rf (some x0), Value.int x1, Value.int x2] s 0 0 post) S 0 0 149 [] [Value.int s0] := by
    intro S s0 h
    unfold w_X9_of_b149 at h
    exact G_iret C (mc := 0) (ms := 0) (post := post) hr (Nat.le_of_ble_eq_true rfl) (Nat.le_of_ble_eq_true rfl) dX9_of_149 h
  have J134 : ∀ (S : PT) (s0 : Int32), w_X9_of_b134 x0 x1 x2 post S s0 → G p l e { frames := 2, cells := 0, slots := 0, locals := 43 } s m [va_rf (some x0), Value.int x1, Value.int x2].toArray below meth c D cy A s.heap 3 (QMi below D cy A [va_rf (some x0), Value.int x1, Value.int x2] s 0 0 post) S 0 0 134 [] [Value.int s0] := by
    intro S s0 h
    unfold w_X9_of_b134 at h
    exact G_iret C (mc := 0) (ms := 0) (post := post) hr (Nat.le_of_ble_eq_true rfl) (Nat.le_of_ble_eq_true rfl) dX9_of_134 h
  have J28 : ∀ (S : PT) (s0 : Option Nat) (s1 : Int32), w_X9_of_b28 x0 x1 x2 post S s0 s1 → G p l e { frames := 2, cells := 0, slots := 0, locals := 43 } s m [va_rf (some x0), Value.int x1, Value.int x2].toArray below meth c D cy A s.heap 3 (QMi below D cy A [va_rf (some x0), Value.int x1, Value.int x2] s 0 0 post) S 0 0 28 [(0, va_rf (some x0)), (1, Value.int x1), (2, Value.int x2)] [Value.int s1, va_rf s0] := by
    intro S s0 s1 h
    unfold w_X9_of_b28 at h
    obtain ⟨a1, ha2, h⟩ := h
    obtain ⟨hk3, h⟩ := h
    refine G_callVi C hZ (Tf := TX9) (N := 50) hk3 (by decide) rfl tw_6_56 tw_6_58 tw_0_29 tw_1_7 tw_6_59 hy_X9_goes ⟨Nat.le_of_ble_eq_true rfl, Nat.le_of_ble_eq_true rfl⟩ (As := [Value.int s1]) (rest := []) (c_X9_goes l D cy a1 s1 S _ h) rfl (by first | rfl | (simp only [ha2]; rfl) | simp only [ha2]) (by simp [va_cat, vi_cat, vl_cat]) dX9_of_28 ⟨Nat.le_of_ble_eq_true rfl, Nat.le_of_ble_eq_true rfl⟩ (fun r5 S4 h => ?_)
    obtain ⟨hb6, h⟩ := h
    refine G_if_ne C (tgt := 36) dX9_of_31 (by decide) (fun hc => ?_) (fun hc => ?_)
    · have h := h.1 hc
      refine G_iload_n C (x := x2) 2 dX9_of_36 rfl rfl ?_
      by_cases hc : x2.toInt < 0 ∨ 6 < x2.toInt
      · have h := h.1 hc
        refine G_tableOut C (tgt := 135) dX9_of_37 hc (by decide) ?_
        refine G_aload_n C (x := (some x0)) 0 dX9_of_135 rfl rfl ?_
        obtain ⟨hk7, h⟩ := h
        refine G_get C (CC := RX9) (Tf := TX9) (N := 50) (k := 10) (i := 38) (v := va_rf (gP S4 1038 x0)) hk7 (by decide) rfl (fin fwX9) (by decide) (im tw_5_166) rfl rfl dX9_of_136 ?_
        refine G_iload_n C (x := x1) 1 dX9_of_139 rfl rfl ?_
        obtain ⟨a8, ha9, h⟩ := h
        refine G_rf1 ha9 ?_
        obtain ⟨hk10, h⟩ := h
        obtain ⟨hi11, h⟩ := h
        refine G_zald C hk10 hi11 dX9_of_140 ?_
        refine G_if_eq C (tgt := 148) dX9_of_141 (by decide) (fun hc => ?_) (fun hc => ?_)
        · have h := h.1 hc
          refine G_iconst C (v := 0) dX9_of_148 (by decide) ?_
          refine G_lv C (lv' := []) [] rfl ?_
          exact J149 _ _ h
        · have h := h.2 hc
          refine G_iconst C (v := 1) dX9_of_144 (by decide) ?_
          refine G_goto C (tgt := 149) dX9_of_145 (by decide) ?_
          refine G_lv C (lv' := []) [] rfl ?_
          exact J149 _ _ h
      · rcases (show x2.toInt = 0 ∨ x2.toInt = 1 ∨ x2.toInt = 2 ∨ x2.toInt = 3 ∨ x2.toInt = 4 ∨ x2.toInt = 5 ∨ x2.toInt = 6 by omega) with hx | hx | hx | hx | hx | hx | hx
        · have h := h.2.1 hx
          refine G_tableIn C (tgt := 80) dX9_of_37 (by omega) (by omega) (by rw [hx]; rfl) (by decide) ?_
          refine G_aload_n C (x := (some x0)) 0 dX9_of_80 rfl rfl ?_
          obtain ⟨hk12, h⟩ := h
          refine G_get C (CC := RX9) (Tf := TX9) (N := 50) (k := 10) (i := 33) (v := va_rf (gP S4 1033 x0)) hk12 (by decide) rfl (fin fwX9) (by decide) (im tw_5_161) rfl rfl dX9_of_81 ?_
          refine G_iload_n C (x := x1) 1 dX9_of_84 rfl rfl ?_
          obtain ⟨a13, ha14, h⟩ := h
          refine G_rf1 ha14 ?_
          obtain ⟨hk15, h⟩ := h
          obtain ⟨hi16, h⟩ := h
          refine G_iald C hk15 hi16 dX9_of_85 ?_
          exact G_iret C (mc := 0) (ms := 0) (post := post) hr (Nat.le_of_ble_eq_true rfl) (Nat.le_of_ble_eq_true rfl) dX9_of_86 h
        · have h := h.2.2.1 hx
          refine G_tableIn C (tgt := 87) dX9_of_37 (by omega) (by omega) (by rw [hx]; rfl) (by decide) ?_
          refine G_aload_n C (x := (some x0)) 0 dX9_of_87 rfl rfl ?_
          refine G_iload_n C (x := x1) 1 dX9_of_88 rfl rfl ?_
          obtain ⟨hk17, h⟩ := h
          refine G_callVi C hZ (Tf := TX9) (N := 50) hk17 (by decide) rfl tw_6_84 tw_6_86 tw_0_34 tw_1_7 tw_6_87 hy_X9_lastDay ⟨Nat.le_of_ble_eq_true rfl, Nat.le_of_ble_eq_true rfl⟩ (As := [Value.int x1]) (rest := []) (c_X9_lastDay l D cy x0 x1 S4 _ h) rfl rfl (by simp [va_cat, vi_cat, vl_cat]) dX9_of_89 ⟨Nat.le_of_ble_eq_true rfl, Nat.le_of_ble_eq_true rfl⟩ (fun r19 S18 h => ?_)
          exact G_iret C (mc := 0) (ms := 0) (post := post) hr (Nat.le_of_ble_eq_true rfl) (Nat.le_of_ble_eq_true rfl) dX9_of_92 h
        · have h := h.2.2.2.1 hx
          refine G_tableIn C (tgt := 93) dX9_of_37 (by omega) (by omega) (by rw [hx]; rfl) (by decide) ?_
          refine G_aload_n C (x := (some x0)) 0 dX9_of_93 rfl rfl ?_
          obtain ⟨hk20, h⟩ := h
          refine G_get C (CC := RX9) (Tf := TX9) (N := 50) (k := 10) (i := 34) (v := va_rf (gP S4 1034 x0)) hk20 (by decide) rfl (fin fwX9) (by decide) (im tw_5_162) rfl rfl dX9_of_94 ?_
          refine G_iload_n C (x := x1) 1 dX9_of_97 rfl rfl ?_
          obtain ⟨a21, ha22, h⟩ := h
          refine G_rf1 ha22 ?_
          obtain ⟨hk23, h⟩ := h
          obtain ⟨hi24, h⟩ := h
          refine G_iald C hk23 hi24 dX9_of_98 ?_
          exact G_iret C (mc := 0) (ms := 0) (post := post) hr (Nat.le_of_ble_eq_true rfl) (Nat.le_of_ble_eq_true rfl) dX9_of_99 h
        · have h := h.2.2.2.2.1 hx
          refine G_tableIn C (tgt := 100) dX9_of_37 (by omega) (by omega) (by rw [hx]; rfl) (by decide) ?_
          refine G_aload_n C (x := (some x0)) 0 dX9_of_100 rfl rfl ?_
          obtain ⟨hk25, h⟩ := h
          refine G_get C (CC := RX9) (Tf := TX9) (N := 50) (k := 10) (i := 35) (v := va_rf (gP S4 1035 x0)) hk25 (by decide) rfl (fin fwX9) (by decide) (im tw_5_163) rfl rfl dX9_of_101 ?_
          refine G_iload_n C (x := x1) 1 dX9_of_104 rfl rfl ?_
          obtain ⟨a26, ha27, h⟩ := h
          refine G_rf1 ha27 ?_
          obtain ⟨hk28, h⟩ := h
          obtain ⟨hi29, h⟩ := h
          refine G_iald C hk28 hi29 dX9_of_105 ?_
          exact G_iret C (mc := 0) (ms := 0) (post := post) hr (Nat.le_of_ble_eq_true rfl) (Nat.le_of_ble_eq_true rfl) dX9_of_106 h
        · have h := h.2.2.2.2.2.1 hx
          refine G_tableIn C (tgt := 107) dX9_of_37 (by omega) (by omega) (by rw [hx]; rfl) (by decide) ?_
          refine G_aload_n C (x := (some x0)) 0 dX9_of_107 rfl rfl ?_
          obtain ⟨hk30, h⟩ := h
          refine G_get C (CC := RX9) (Tf := TX9) (N := 50) (k := 10) (i := 36) (v := va_rf (gP S4 1036 x0)) hk30 (by decide) rfl (fin fwX9) (by decide) (im tw_5_164) rfl rfl dX9_of_108 ?_
          refine G_iload_n C (x := x1) 1 dX9_of_111 rfl rfl ?_
          obtain ⟨a31, ha32, h⟩ := h
          refine G_rf1 ha32 ?_
          obtain ⟨hk33, h⟩ := h
          obtain ⟨hi34, h⟩ := h
          refine G_iald C hk33 hi34 dX9_of_112 ?_
          exact G_iret C (mc := 0) (ms := 0) (post := post) hr (Nat.le_of_ble_eq_true rfl) (Nat.le_of_ble_eq_true rfl) dX9_of_113 h
        · have h := h.2.2.2.2.2.2.1 hx
          refine G_tableIn C (tgt := 114) dX9_of_37 (by omega) (by omega) (by rw [hx]; rfl) (by decide) ?_
          refine G_aload_n C (x := (some x0)) 0 dX9_of_114 rfl rfl ?_
          refine G_iload_n C (x := x1) 1 dX9_of_115 rfl rfl ?_
          obtain ⟨hk35, h⟩ := h
          refine G_callVi C hZ (Tf := TX9) (N := 50) hk35 (by decide) rfl tw_6_238 tw_7_0 tw_0_54 tw_1_7 tw_7_1 hy_X9_openOf ⟨Nat.le_of_ble_eq_true rfl, Nat.le_of_ble_eq_true rfl⟩ (As := [Value.int x1]) (rest := []) (c_X9_openOf l D cy x0 x1 S4 _ h) rfl rfl (by simp [va_cat, vi_cat, vl_cat]) dX9_of_116 ⟨Nat.le_of_ble_eq_true rfl, Nat.le_of_ble_eq_true rfl⟩ (fun r37 S36 h => ?_)
          exact G_iret C (mc := 0) (ms := 0) (post := post) hr (Nat.le_of_ble_eq_true rfl) (Nat.le_of_ble_eq_true rfl) dX9_of_119 h
        · have h := h.2.2.2.2.2.2.2 hx
          refine G_tableIn C (tgt := 120) dX9_of_37 (by omega) (by omega) (by rw [hx]; rfl) (by decide) ?_
          refine G_aload_n C (x := (some x0)) 0 dX9_of_120 rfl rfl ?_
          obtain ⟨hk38, h⟩ := h
          refine G_get C (CC := RX9) (Tf := TX9) (N := 50) (k := 10) (i := 37) (v := va_rf (gP S4 1037 x0)) hk38 (by decide) rfl (fin fwX9) (by decide) (im tw_5_165) rfl rfl dX9_of_121 ?_
          refine G_iload_n C (x := x1) 1 dX9_of_124 rfl rfl ?_
          obtain ⟨a39, ha40, h⟩ := h
          refine G_rf1 ha40 ?_
          obtain ⟨hk41, h⟩ := h
          obtain ⟨hi42, h⟩ := h
          refine G_zald C hk41 hi42 dX9_of_125 ?_
          refine G_if_eq C (tgt := 133) dX9_of_126 (by decide) (fun hc => ?_) (fun hc => ?_)
          · have h := h.1 hc
            refine G_iconst C (v := 0) dX9_of_133 (by decide) ?_
            refine G_lv C (lv' := []) [] rfl ?_
            exact J134 _ _ h
          · have h := h.2 hc
            refine G_iconst C (v := 1) dX9_of_129 (by decide) ?_
            refine G_goto C (tgt := 134) dX9_of_130 (by decide) ?_
            refine G_lv C (lv' := []) [] rfl ?_
            exact J134 _ _ h
    · have h := h.2 hc
      refine G_iconst C (v := 0) dX9_of_34 (by decide) ?_
      exact G_iret C (mc := 0) (ms := 0) (post := post) hr (Nat.le_of_ble_eq_true rfl) (Nat.le_of_ble_eq_true rfl) dX9_of_35 h
  refine G_lv C (lv' := [(0, va_rf (some x0)), (1, Value.int x1), (2, Value.int x2)]) [0, 1, 2] (by first | rfl | simp [lv_pick, lv_args, va_cat, vi_cat, vl_cat]) ?_
  unfold w_X9_of at h
  refine G_aload_n C (x := (some x0)) 0 dX9_of_0 rfl rfl ?_
  refine G_aload_n C (x := (some x0)) 0 dX9_of_1 rfl rfl ?_
  refine G_iload_n C (x := x1) 1 dX9_of_2 rfl rfl ?_
  obtain ⟨hk43, h⟩ := h
  refine G_callVi C hZ (Tf := TX9) (N := 50) hk43 (by decide) rfl tw_6_146 tw_6_148 tw_0_41 tw_1_7 tw_6_149 hy_X9_areWorks ⟨Nat.le_of_ble_eq_true rfl, Nat.le_of_ble_eq_true rfl⟩ (As := [Value.int x1]) (rest := [va_rf (some x0)]) (c_X9_areWorks l D cy x0 x1 S _ h) rfl rfl (by simp [va_cat, vi_cat, vl_cat]) dX9_of_3 ⟨Nat.le_of_ble_eq_true rfl, Nat.le_of_ble_eq_true rfl⟩ (fun r45 S44 h => ?_)
  obtain ⟨hb46, h⟩ := h
  refine G_if_ne C (tgt := 13) dX9_of_6 (by decide) (fun hc => ?_) (fun hc => ?_)
  · have h := h.1 hc
    refine G_iload_n C (x := x2) 2 dX9_of_13 rfl rfl ?_
    refine G_iconst C (v := 0) dX9_of_14 (by decide) ?_
    refine G_bipush C (v := 7) dX9_of_15 (by decide) ?_
    refine G_callSi C hZ tw_6_49 tw_6_50 tw_1_7 tw_6_51 hy_X9_isIn ⟨Nat.le_of_ble_eq_true rfl, Nat.le_of_ble_eq_true rfl⟩ (As := [Value.int x2, Value.int 0, Value.int 7]) (rest := [va_rf (some x0)]) (c_X9_isIn l D cy x2 0 7 S44 _ h) rfl rfl (by simp [va_cat, vi_cat, vl_cat]) dX9_of_17 ⟨Nat.le_of_ble_eq_true rfl, Nat.le_of_ble_eq_true rfl⟩ (fun r48 S47 h => ?_)
    obtain ⟨hb49, h⟩ := h
    refine G_if_eq C (tgt := 27) dX9_of_20 (by decide) (fun hc => ?_) (fun hc => ?_)
    · have h := h.1 hc
      refine G_iconst C (v := 2) dX9_of_27 (by decide) ?_
      refine G_lv C (lv' := [(0, va_rf (some x0)), (1, Value.int x1), (2, Value.int x2)]) [0, 1, 2] rfl ?_
      exact J28 _ _ _ h
    · have h := h.2 hc
      refine G_iconst C (v := 0) dX9_of_23 (by decide) ?_
      refine G_goto C (tgt := 28) dX9_of_24 (by decide) ?_
      refine G_lv C (lv' := [(0, va_rf (some x0)), (1, Value.int x1), (2, Value.int x2)]) [0, 1, 2] rfl ?_
      exact J28 _ _ _ h
  · have h := h.2 hc
    refine G_iconst C (v := 1) dX9_of_9 (by decide) ?_
    refine G_goto C (tgt := 28) dX9_of_10 (by decide) ?_
    refine G_lv C (lv' := [(0, va_rf (some x0)), (1, Value.int x1), (2, Value.int x2)]) [0, 1, 2] rfl ?_
    exact J28 _ _ _ h
set_option maxHeartbeats 4000000 in
set_option maxRecDepth 100000 in
theorem c_X9_metre (l : Launch) (D : va_G) (cy : Nat → Nat) (x0 : Nat) (x1 : Int32) (x2 : Int32) (x3 : Int32) (S : PT) (post : Int32 → PT → Prop) (h : w_X9_metre x0 x1 x2 x3 S post) : Mi l yX9_metre (Wm yX9_metre prog_11_method_72_code 5 (Option.some Jvm.ClassFile.FieldType.int)) 3 69 D cy [va_rf (some x0), Value.int x1, Value.int x2, Value.int x3] S 0 0 post := by
  refine Mi_of (own := "TrenchboardModel") (by decide) rfl (by first | decide | simp [lg_sl, va_cat, vi_cat, vl_cat]) (fun p e s m below meth c A C hZ hr hin9 => ?_)
  have J109 : ∀ (S : PT) (s0 : Int32), w_X9_metre_b109 x0 x1 x2 x3 post S s0 → G p l e { frames := 3, cells := 0, slots := 0, locals := 69 } s m [va_rf (some x0), Value.int x1, Value.int x2, Value.int x3].toArray below meth c D cy A s.heap 5 (QMi below D cy A [va_rf (some x0), Value.int x1, Value.int x2, Value.int x3] s 0 0 post) S 0 0 109 [] [Value.int s0] := by
    intro S s0 h
    unfold w_X9_metre_b109 at h
    exact G_iret C (mc := 0) (ms := 0) (post := post) hr (Nat.le_of_ble_eq_true rfl) (Nat.le_of_ble_eq_true rfl) dX9_metre_109 h
  have J28 : ∀ (S : PT) (s0 : Option Nat) (s1 : Int32), w_X9_metre_b28 x0 x1 x2 x3 post S s0 s1 → G p l e { frames := 3, cells := 0, slots := 0, locals := 69 } s m [va_rf (some x0), Value.int x1, Value.int x2, Value.int x3].toArray below meth c D cy A s.heap 5 (QMi below D cy A [va_rf (some x0), Value.int x1, Value.int x2, Value.int x3] s 0 0 post) S 0 0 28 [(0, va_rf (some x0)), (1, Value.int x1), (2, Value.int x2), (3, Value.int x3)] [Value.int s1, va_rf s0] := by
    intro S s0 s1 h
    unfold w_X9_metre_b28 at h
    obtain ⟨a1, ha2, h⟩ := h
    obtain ⟨hk3, h⟩ := h
    refine G_callVi C hZ (Tf := TX9) (N := 50) hk3 (by decide) rfl tw_6_56 tw_6_58 tw_0_29 tw_1_7 tw_6_59 hy_X9_goes ⟨Nat.le_of_ble_eq_true rfl, Nat.le_of_ble_eq_true rfl⟩ (As := [Value.int s1]) (rest := []) (c_X9_goes l D cy a1 s1 S _ h) rfl (by first | rfl | (simp only [ha2]; rfl) | simp only [ha2]) (by simp [va_cat, vi_cat, vl_cat]) dX9_metre_28 ⟨Nat.le_of_ble_eq_true rfl, Nat.le_of_ble_eq_true rfl⟩ (fun r5 S4 h => ?_)
    obtain ⟨hb6, h⟩ := h
    refine G_if_ne C (tgt := 36) dX9_metre_31 (by decide) (fun hc => ?_) (fun hc => ?_)
    · have h := h.1 hc
      refine G_bipush C (v := 40) dX9_metre_36 (by decide) ?_
      refine G_iload_n C (x := x1) 1 dX9_metre_38 rfl rfl ?_
      refine G_imul C dX9_metre_39 ?_
      refine G_iload_n C (x := x2) 2 dX9_metre_40 rfl rfl ?_
      refine G_iadd C dX9_metre_41 ?_
      refine G_istore C (i := 4) (lv' := [(4, Value.int ((40 * x1) + x2)), (0, va_rf (some x0)), (1, Value.int x1), (2, Value.int x2), (3, Value.int x3)]) dX9_metre_42 (by decide) (by first | rfl | simp [va_cat, vi_cat, vl_cat]) ?_
      refine G_iload_n C (x := x3) 4 dX9_metre_44 rfl rfl ?_
      refine G_if_ne C (tgt := 65) dX9_metre_45 (by decide) (fun hc => ?_) (fun hc => ?_)
      · have h := h.1 hc
        refine G_iload_n C (x := x3) 4 dX9_metre_65 rfl rfl ?_
        refine G_iconst C (v := 1) dX9_metre_66 (by decide) ?_
        refine G_icmp_ne C (tgt := 88) dX9_metre_67 (by decide) (fun hc => ?_) (fun hc => ?_)
        · have h := h.1 hc
          refine G_iload_n C (x := x3) 4 dX9_metre_88 rfl rfl ?_
          refine G_iconst C (v := 2) dX9_metre_89 (by decide) ?_
          refine G_icmp_ne C (tgt := 103) dX9_metre_90 (by decide) (fun hc => ?_) (fun hc => ?_)
          · have h := h.1 hc
            refine G_aload_n C (x := (some x0)) 1 dX9_metre_103 rfl rfl ?_
            refine G_iload C (x := ((40 * x1) + x2)) 0 dX9_metre_104 rfl ?_
            obtain ⟨hk7, h⟩ := h
            refine G_callVi C hZ (Tf := TX9) (N := 50) hk7 (by decide) rfl tw_6_222 tw_6_224 tw_0_53 tw_1_7 tw_6_225 hy_X9_fillsOf ⟨Nat.le_of_ble_eq_true rfl, Nat.le_of_ble_eq_true rfl⟩ (As := [Value.int ((40 * x1) + x2)]) (rest := []) (c_X9_fillsOf l D cy x0 ((40 * x1) + x2) S4 _ h) rfl rfl (by simp [va_cat, vi_cat, vl_cat]) dX9_metre_106 ⟨Nat.le_of_ble_eq_true rfl, Nat.le_of_ble_eq_true rfl⟩ (fun r9 S8 h => ?_)
            refine G_lv C (lv' := []) [] rfl ?_
            exact J109 _ _ h
          · have h := h.2 hc
            refine G_aload_n C (x := (some x0)) 1 dX9_metre_93 rfl rfl ?_
            obtain ⟨hk10, h⟩ := h
            refine G_get C (CC := RX9) (Tf := TX9) (N := 50) (k := 10) (i := 13) (v := va_rf (gP S4 1013 x0)) hk10 (by decide) rfl (fin fwX9) (by decide) (im tw_5_141) rfl rfl dX9_metre_94 ?_
            refine G_iload C (x := ((40 * x1) + x2)) 0 dX9_metre_97 rfl ?_
            obtain ⟨a11, ha12, h⟩ := h
            refine G_rf1 ha12 ?_
            obtain ⟨hk13, h⟩ := h
            obtain ⟨hi14, h⟩ := h
            refine G_iald C hk13 hi14 dX9_metre_99 ?_
            refine G_goto C (tgt := 109) dX9_metre_100 (by decide) ?_
            refine G_lv C (lv' := []) [] rfl ?_
            exact J109 _ _ h
        · have h := h.2 hc
          refine G_aload_n C (x := (some x0)) 1 dX9_metre_70 rfl rfl ?_
          obtain ⟨hk15, h⟩ := h
          refine G_get C (CC := RX9) (Tf := TX9) (N := 50) (k := 10) (i := 12) (v := va_rf (gP S4 1012 x0)) hk15 (by decide) rfl (fin fwX9) (by decide) (im tw_5_140) rfl rfl dX9_metre_71 ?_
          refine G_iload C (x := ((40 * x1) + x2)) 0 dX9_metre_74 rfl ?_
          obtain ⟨a16, ha17, h⟩ := h
          refine G_rf1 ha17 ?_
          obtain ⟨hk18, h⟩ := h
          obtain ⟨hi19, h⟩ := h
          refine G_zald C hk18 hi19 dX9_metre_76 ?_
          refine G_if_eq C (tgt := 84) dX9_metre_77 (by decide) (fun hc => ?_) (fun hc => ?_)
          · have h := h.1 hc
            refine G_iconst C (v := 0) dX9_metre_84 (by decide) ?_
            refine G_goto C (tgt := 109) dX9_metre_85 (by decide) ?_
            refine G_lv C (lv' := []) [] rfl ?_
            exact J109 _ _ h
          · have h := h.2 hc
            refine G_iconst C (v := 1) dX9_metre_80 (by decide) ?_
            refine G_goto C (tgt := 109) dX9_metre_81 (by decide) ?_
            refine G_lv C (lv' := []) [] rfl ?_
            exact J109 _ _ h
      · have h := h.2 hc
        refine G_aload_n C (x := (some x0)) 1 dX9_metre_48 rfl rfl ?_
        refine G_iload_n C (x := x1) 2 dX9_metre_49 rfl rfl ?_
        refine G_iload_n C (x := x2) 3 dX9_metre_50 rfl rfl ?_
        obtain ⟨hk20, h⟩ := h
        refine G_callVi C hZ (Tf := TX9) (N := 50) hk20 (by decide) rfl tw_6_214 tw_6_216 tw_0_52 tw_1_7 tw_6_217 hy_X9_isSuspect ⟨Nat.le_of_ble_eq_true rfl, Nat.le_of_ble_eq_true rfl⟩ (As := [Value.int x1, Value.int x2]) (rest := []) (c_X9_isSuspect l D cy x0 x1 x2 S4 _ h) rfl rfl (by simp [va_cat, vi_cat, vl_cat]) dX9_metre_51 ⟨Nat.le_of_ble_eq_true rfl, Nat.le_of_ble_eq_true rfl⟩ (fun r22 S21 h => ?_)
        obtain ⟨hb23, h⟩ := h
        refine G_if_eq C (tgt := 61) dX9_metre_54 (by decide) (fun hc => ?_) (fun hc => ?_)
        · have h := h.1 hc
          refine G_iconst C (v := 0) dX9_metre_61 (by decide) ?_
          refine G_goto C (tgt := 109) dX9_metre_62 (by decide) ?_
          refine G_lv C (lv' := []) [] rfl ?_
          exact J109 _ _ h
        · have h := h.2 hc
          refine G_iconst C (v := 1) dX9_metre_57 (by decide) ?_
          refine G_goto C (tgt := 109) dX9_metre_58 (by decide) ?_
          refine G_lv C (lv' := []) [] rfl ?_
          exact J109 _ _ h
    · have h := h.2 hc
      refine G_iconst C (v := 0) dX9_metre_34 (by decide) ?_
      exact G_iret C (mc := 0) (ms := 0) (post := post) hr (Nat.le_of_ble_eq_true rfl) (Nat.le_of_ble_eq_true rfl) dX9_metre_35 h
  refine G_lv C (lv' := [(0, va_rf (some x0)), (1, Value.int x1), (2, Value.int x2), (3, Value.int x3)]) [0, 1, 2, 3] (by first | rfl | simp [lv_pick, lv_args, va_cat, vi_cat, vl_cat]) ?_
  unfold w_X9_metre at h
  refine G_aload_n C (x := (some x0)) 0 dX9_metre_0 rfl rfl ?_
  refine G_aload_n C (x := (some x0)) 0 dX9_metre_1 rfl rfl ?_
  refine G_iload_n C (x := x1) 1 dX9_metre_2 rfl rfl ?_
  refine G_iload_n C (x := x2) 2 dX9_metre_3 rfl rfl ?_
  obtain ⟨hk24, h⟩ := h
  refine G_callVi C hZ (Tf := TX9) (N := 50) hk24 (by decide) rfl tw_6_95 tw_6_97 tw_0_35 tw_1_7 tw_6_98 hy_X9_isMetre ⟨Nat.le_of_ble_eq_true rfl, Nat.le_of_ble_eq_true rfl⟩ (As := [Value.int x1, Value.int x2]) (rest := [va_rf (some x0)]) (c_X9_isMetre l D cy x0 x1 x2 S _ h) rfl rfl (by simp [va_cat, vi_cat, vl_cat]) dX9_metre_4 ⟨Nat.le_of_ble_eq_true rfl, Nat.le_of_ble_eq_true rfl⟩ (fun r26 S25 h => ?_)
  obtain ⟨hb27, h⟩ := h
  refine G_if_ne C (tgt := 14) dX9_metre_7 (by decide) (fun hc => ?_) (fun hc => ?_)
  · have h := h.1 hc
    refine G_iload_n C (x := x3) 3 dX9_metre_14 rfl rfl ?_
    refine G_iconst C (v := 0) dX9_metre_15 (by decide) ?_
    refine G_iconst C (v := 3) dX9_metre_16 (by decide) ?_
    refine G_callSi C hZ tw_6_49 tw_6_50 tw_1_7 tw_6_51 hy_X9_isIn ⟨Nat.le_of_ble_eq_true rfl, Nat.le_of_ble_eq_true rfl⟩ (As := [Value.int x3, Value.int 0, Value.int 3]) (rest := [va_rf (some x0)]) (c_X9_isIn l D cy x3 0 3 S25 _ h) rfl rfl (by simp [va_cat, vi_cat, vl_cat]) dX9_metre_17 ⟨Nat.le_of_ble_eq_true rfl, Nat.le_of_ble_eq_true rfl⟩ (fun r29 S28 h => ?_)
    obtain ⟨hb30, h⟩ := h
    refine G_if_eq C (tgt := 27) dX9_metre_20 (by decide) (fun hc => ?_) (fun hc => ?_)
    · have h := h.1 hc
      refine G_iconst C (v := 2) dX9_metre_27 (by decide) ?_
      refine G_lv C (lv' := [(0, va_rf (some x0)), (1, Value.int x1), (2, Value.int x2), (3, Value.int x3)]) [0, 1, 2, 3] rfl ?_
      exact J28 _ _ _ h
    · have h := h.2 hc
      refine G_iconst C (v := 0) dX9_metre_23 (by decide) ?_
      refine G_goto C (tgt := 28) dX9_metre_24 (by decide) ?_
      refine G_lv C (lv' := [(0, va_rf (some x0)), (1, Value.int x1), (2, Value.int x2), (3, Value.int x3)]) [0, 1, 2, 3] rfl ?_
      exact J28 _ _ _ h
  · have h := h.2 hc
    refine G_iconst C (v := 1) dX9_metre_10 (by decide) ?_
    refine G_goto C (tgt := 28) dX9_metre_11 (by decide) ?_
    refine G_lv C (lv' := [(0, va_rf (some x0)), (1, Value.int x1), (2, Value.int x2), (3, Value.int x3)]) [0, 1, 2, 3] rfl ?_
    exact J28 _ _ _ h
set_option maxHeartbeats 4000000 in
set_option maxRecDepth 100000 in
theorem c_X9_search (l : Launch) (D : va_G) (cy : Nat → Nat) (x0 : Nat) (x1 : Int32) (x2 : Int32) (x3 : Int32) (S : PT) (post : Int32 → PT → Prop) (h : w_X9_search x0 x1 x2 x3 S post) : Mi l yX9_search (Wm yX9_search prog_11_method_73_code 8 (Option.some Jvm.ClassFile.FieldType.int)) 3 65 D cy [va_rf (some x0), Value.int x1, Value.int x2, Value.int x3] S 0 0 post := by
  refine Mi_of (own := "TrenchboardModel") (by decide) rfl (by first | decide | simp [lg_sl, va_cat, vi_cat, vl_cat]) (fun p e s m below meth c A C hZ hr hin9 => ?_)
  have J59 : ∀ (n : Nat) (S : PT) (v5 : Int32) (v6 : Int32), w_X9_search_l59 x0 x1 x2 x3 post n S v5 v6 → G p l e { frames := 3, cells := 0, slots := 0, locals := 65 } s m [va_rf (some x0), Value.int x1, Value.int x2, Value.int x3].toArray below meth c D cy A s.heap 8 (QMi below D cy A [va_rf (some x0), Value.int x1, Value.int x2, Value.int x3] s 0 0 post) S 0 0 59 [(0, va_rf (some x0)), (1, Value.int x1), (2, Value.int x2), (3, Value.int x3), (5, Value.int v5), (6, Value.int v6)] [] := by
    intro n59
    induction n59 with
    | zero => intro S v5 v6 h; rw [w_X9_search_l59] at h; exact False.elim h
    | succ n59 K59 =>
      have J133 : ∀ (S : PT) (v6 : Int32) (s0 : Int32) (s1 : Int32), w_X9_search_b133 x0 x1 x2 x3 post (w_X9_search_l59 x0 x1 x2 x3 post n59) S v6 s0 s1 → G p l e { frames := 3, cells := 0, slots := 0, locals := 65 } s m [va_rf (some x0), Value.int x1, Value.int x2, Value.int x3].toArray below meth c D cy A s.heap 8 (QMi below D cy A [va_rf (some x0), Value.int x1, Value.int x2, Value.int x3] s 0 0 post) S 0 0 133 [(0, va_rf (some x0)), (1, Value.int x1), (2, Value.int x2), (3, Value.int x3), (6, Value.int v6)] [Value.int s1, Value.int s0] := by
        intro S v6 s0 s1 h
        unfold w_X9_search_b133 at h
        refine G_ior C dX9_search_133 ?_
        refine G_istore C (i := 5) (lv' := [(5, Value.int (s0 ||| s1)), (0, va_rf (some x0)), (1, Value.int x1), (2, Value.int x2), (3, Value.int x3), (6, Value.int v6)]) dX9_search_134 (by decide) (by first | rfl | simp [va_cat, vi_cat, vl_cat]) ?_
        refine G_iinc C (v := (v6 + 1)) (lv' := [(6, Value.int (v6 + 1)), (5, Value.int (s0 ||| s1)), (0, va_rf (some x0)), (1, Value.int x1), (2, Value.int x2), (3, Value.int x3)]) 5 dX9_search_136 rfl rfl (by decide) (by first | rfl | simp [va_cat, vi_cat, vl_cat]) ?_
        refine G_goto C (tgt := 59) dX9_search_139 (by decide) ?_
        refine G_lv C (lv' := [(0, va_rf (some x0)), (1, Value.int x1), (2, Value.int x2), (3, Value.int x3), (5, Value.int (s0 ||| s1)), (6, Value.int (v6 + 1))]) [2, 3, 4, 5, 1, 0] rfl ?_
        exact K59 _ _ _ h
      have J116 : ∀ (S : PT) (v5 : Int32) (v6 : Int32) (s0 : Int32), w_X9_search_b116 x0 x1 x2 x3 post (w_X9_search_l59 x0 x1 x2 x3 post n59) S v5 v6 s0 → G p l e { frames := 3, cells := 0, slots := 0, locals := 65 } s m [va_rf (some x0), Value.int x1, Value.int x2, Value.int x3].toArray below meth c D cy A s.heap 8 (QMi below D cy A [va_rf (some x0), Value.int x1, Value.int x2, Value.int x3] s 0 0 post) S 0 0 116 [(0, va_rf (some x0)), (1, Value.int x1), (2, Value.int x2), (3, Value.int x3), (5, Value.int v5), (6, Value.int v6)] [Value.int s0] := by
        intro S v5 v6 s0 h
        unfold w_X9_search_b116 at h
        refine G_istore C (i := 7) (lv' := [(7, Value.int s0), (0, va_rf (some x0)), (1, Value.int x1), (2, Value.int x2), (3, Value.int x3), (5, Value.int v5), (6, Value.int v6)]) dX9_search_116 (by decide) (by first | rfl | simp [va_cat, vi_cat, vl_cat]) ?_
        refine G_iload C (x := v5) 5 dX9_search_118 rfl ?_
        refine G_iload C (x := s0) 0 dX9_search_120 rfl ?_
        refine G_if_eq C (tgt := 132) dX9_search_122 (by decide) (fun hc => ?_) (fun hc => ?_)
        · have h := h.1 hc
          refine G_iconst C (v := 0) dX9_search_132 (by decide) ?_
          refine G_lv C (lv' := [(0, va_rf (some x0)), (1, Value.int x1), (2, Value.int x2), (3, Value.int x3), (6, Value.int v6)]) [1, 2, 3, 4, 6] rfl ?_
          exact J133 _ _ _ _ h
        · have h := h.2 hc
          refine G_iconst C (v := 1) dX9_search_125 (by decide) ?_
          refine G_iload C (x := v6) 6 dX9_search_126 rfl ?_
          refine G_ishl C dX9_search_128 ?_
          refine G_goto C (tgt := 133) dX9_search_129 (by decide) ?_
          refine G_lv C (lv' := [(0, va_rf (some x0)), (1, Value.int x1), (2, Value.int x2), (3, Value.int x3), (6, Value.int v6)]) [1, 2, 3, 4, 6] rfl ?_
          exact J133 _ _ _ _ h
      have J115 : ∀ (S : PT) (v5 : Int32) (v6 : Int32), w_X9_search_b115 x0 x1 x2 x3 post (w_X9_search_l59 x0 x1 x2 x3 post n59) S v5 v6 → G p l e { frames := 3, cells := 0, slots := 0, locals := 65 } s m [va_rf (some x0), Value.int x1, Value.int x2, Value.int x3].toArray below meth c D cy A s.heap 8 (QMi below D cy A [va_rf (some x0), Value.int x1, Value.int x2, Value.int x3] s 0 0 post) S 0 0 115 [(0, va_rf (some x0)), (1, Value.int x1), (2, Value.int x2), (3, Value.int x3), (5, Value.int v5), (6, Value.int v6)] [] := by
        intro S v5 v6 h
        unfold w_X9_search_b115 at h
        refine G_iconst C (v := 0) dX9_search_115 (by decide) ?_
        refine G_lv C (lv' := [(0, va_rf (some x0)), (1, Value.int x1), (2, Value.int x2), (3, Value.int x3), (5, Value.int v5), (6, Value.int v6)]) [0, 1, 2, 3, 4, 5] rfl ?_
        exact J116 _ _ _ _ h
      intro S v5 v6 h
      rw [w_X9_search_l59] at h
      refine G_iload C (x := v6) 5 dX9_search_59 rfl ?_
      refine G_aload_n C (x := (some x0)) 0 dX9_search_61 rfl rfl ?_
      obtain ⟨hk1, h⟩ := h
      refine G_get C (CC := RX9) (Tf := TX9) (N := 50) (k := 10) (i := 14) (v := Value.int (gI S 1014 x0)) hk1 (by decide) rfl (fin fwX9) (by decide) (im tw_5_142) rfl rfl dX9_search_62 ?_
      refine G_icmp_ge C (tgt := 142) dX9_search_65 (by decide) (fun hc => ?_) (fun hc => ?_)
      · have h := h.1 hc
        refine G_iload C (x := v5) 4 dX9_search_142 rfl ?_
        exact G_iret C (mc := 0) (ms := 0) (post := post) hr (Nat.le_of_ble_eq_true rfl) (Nat.le_of_ble_eq_true rfl) dX9_search_144 h
      · have h := h.2 hc
        refine G_aload_n C (x := (some x0)) 0 dX9_search_68 rfl rfl ?_
        refine G_get C (CC := RX9) (Tf := TX9) (N := 50) (k := 10) (i := 20) (v := va_rf (gP S 1020 x0)) hk1 (by decide) rfl (fin fwX9) (by decide) (im tw_5_148) rfl rfl dX9_search_69 ?_
        refine G_iload C (x := v6) 5 dX9_search_72 rfl ?_
        obtain ⟨a2, ha3, h⟩ := h
        refine G_rf1 ha3 ?_
        obtain ⟨hk4, h⟩ := h
        obtain ⟨hi5, h⟩ := h
        refine G_zald C hk4 hi5 dX9_search_74 ?_
        refine G_if_eq C (tgt := 115) dX9_search_75 (by decide) (fun hc => ?_) (fun hc => ?_)
        · have h := h.1 hc
          refine G_lv C (lv' := [(0, va_rf (some x0)), (1, Value.int x1), (2, Value.int x2), (3, Value.int x3), (5, Value.int v5), (6, Value.int v6)]) [0, 1, 2, 3, 4, 5] rfl ?_
          exact J115 _ _ _ h
        · have h := h.2 hc
          refine G_aload_n C (x := (some x0)) 0 dX9_search_78 rfl rfl ?_
          refine G_get C (CC := RX9) (Tf := TX9) (N := 50) (k := 10) (i := 16) (v := va_rf (gP S 1016 x0)) hk1 (by decide) rfl (fin fwX9) (by decide) (im tw_5_144) rfl rfl dX9_search_79 ?_
          refine G_iload C (x := v6) 5 dX9_search_82 rfl ?_
          obtain ⟨a6, ha7, h⟩ := h
          refine G_rf1 ha7 ?_
          obtain ⟨hk8, h⟩ := h
          obtain ⟨hi9, h⟩ := h
          refine G_iald C hk8 hi9 dX9_search_84 ?_
          refine G_iload_n C (x := x1) 1 dX9_search_85 rfl rfl ?_
          refine G_icmp_ne C (tgt := 115) dX9_search_86 (by decide) (fun hc => ?_) (fun hc => ?_)
          · have h := h.1 hc
            refine G_lv C (lv' := [(0, va_rf (some x0)), (1, Value.int x1), (2, Value.int x2), (3, Value.int x3), (5, Value.int v5), (6, Value.int v6)]) [0, 1, 2, 3, 4, 5] rfl ?_
            exact J115 _ _ _ h
          · have h := h.2 hc
            refine G_aload_n C (x := (some x0)) 0 dX9_search_89 rfl rfl ?_
            refine G_get C (CC := RX9) (Tf := TX9) (N := 50) (k := 10) (i := 21) (v := va_rf (gP S 1021 x0)) hk1 (by decide) rfl (fin fwX9) (by decide) (im tw_5_149) rfl rfl dX9_search_90 ?_
            refine G_iload C (x := v6) 5 dX9_search_93 rfl ?_
            obtain ⟨a10, ha11, h⟩ := h
            refine G_rf1 ha11 ?_
            obtain ⟨hk12, h⟩ := h
            obtain ⟨hi13, h⟩ := h
            refine G_iald C hk12 hi13 dX9_search_95 ?_
            refine G_iload_n C (x := x3) 3 dX9_search_96 rfl rfl ?_
            refine G_icmp_gt C (tgt := 115) dX9_search_97 (by decide) (fun hc => ?_) (fun hc => ?_)
            · have h := h.1 hc
              refine G_lv C (lv' := [(0, va_rf (some x0)), (1, Value.int x1), (2, Value.int x2), (3, Value.int x3), (5, Value.int v5), (6, Value.int v6)]) [0, 1, 2, 3, 4, 5] rfl ?_
              exact J115 _ _ _ h
            · have h := h.2 hc
              refine G_iload_n C (x := x2) 2 dX9_search_100 rfl rfl ?_
              refine G_aload_n C (x := (some x0)) 0 dX9_search_101 rfl rfl ?_
              refine G_get C (CC := RX9) (Tf := TX9) (N := 50) (k := 10) (i := 22) (v := va_rf (gP S 1022 x0)) hk1 (by decide) rfl (fin fwX9) (by decide) (im tw_5_150) rfl rfl dX9_search_102 ?_
              refine G_iload C (x := v6) 5 dX9_search_105 rfl ?_
              obtain ⟨a14, ha15, h⟩ := h
              refine G_rf1 ha15 ?_
              obtain ⟨hk16, h⟩ := h
              obtain ⟨hi17, h⟩ := h
              refine G_iald C hk16 hi17 dX9_search_107 ?_
              refine G_icmp_gt C (tgt := 115) dX9_search_108 (by decide) (fun hc => ?_) (fun hc => ?_)
              · have h := h.1 hc
                refine G_lv C (lv' := [(0, va_rf (some x0)), (1, Value.int x1), (2, Value.int x2), (3, Value.int x3), (5, Value.int v5), (6, Value.int v6)]) [0, 1, 2, 3, 4, 5] rfl ?_
                exact J115 _ _ _ h
              · have h := h.2 hc
                refine G_iconst C (v := 1) dX9_search_111 (by decide) ?_
                refine G_goto C (tgt := 116) dX9_search_112 (by decide) ?_
                refine G_lv C (lv' := [(0, va_rf (some x0)), (1, Value.int x1), (2, Value.int x2), (3, Value.int x3), (5, Value.int v5), (6, Value.int v6)]) [0, 1, 2, 3, 4, 5] rfl ?_
                exact J116 _ _ _ _ h
  have J45 : ∀ (S : PT) (s0 : Option Nat) (s1 : Int32), w_X9_search_b45 x0 x1 x2 x3 post S s0 s1 → G p l e { frames := 3, cells := 0, slots := 0, locals := 65 } s m [va_rf (some x0), Value.int x1, Value.int x2, Value.int x3].toArray below meth c D cy A s.heap 8 (QMi below D cy A [va_rf (some x0), Value.int x1, Value.int x2, Value.int x3] s 0 0 post) S 0 0 45 [(0, va_rf (some x0)), (1, Value.int x1), (2, Value.int x2), (3, Value.int x3)] [Value.int s1, va_rf s0] := by
    intro S s0 s1 h
    unfold w_X9_search_b45 at h
    obtain ⟨a18, ha19, h⟩ := h
    obtain ⟨hk20, h⟩ := h
    refine G_callVi C hZ (Tf := TX9) (N := 50) hk20 (by decide) rfl tw_6_56 tw_6_58 tw_0_29 tw_1_7 tw_6_59 hy_X9_goes ⟨Nat.le_of_ble_eq_true rfl, Nat.le_of_ble_eq_true rfl⟩ (As := [Value.int s1]) (rest := []) (c_X9_goes l D cy a18 s1 S _ h) rfl (by first | rfl | (simp only [ha19]; rfl) | simp only [ha19]) (by simp [va_cat, vi_cat, vl_cat]) dX9_search_45 ⟨Nat.le_of_ble_eq_true rfl, Nat.le_of_ble_eq_true rfl⟩ (fun r22 S21 h => ?_)
    obtain ⟨hb23, h⟩ := h
    refine G_if_ne C (tgt := 53) dX9_search_48 (by decide) (fun hc => ?_) (fun hc => ?_)
    · have h := h.1 hc
      refine G_iconst C (v := 0) dX9_search_53 (by decide) ?_
      refine G_istore C (i := 5) (lv' := [(5, Value.int 0), (0, va_rf (some x0)), (1, Value.int x1), (2, Value.int x2), (3, Value.int x3)]) dX9_search_54 (by decide) (by first | rfl | simp [va_cat, vi_cat, vl_cat]) ?_
      refine G_iconst C (v := 0) dX9_search_56 (by decide) ?_
      refine G_istore C (i := 6) (lv' := [(6, Value.int 0), (5, Value.int 0), (0, va_rf (some x0)), (1, Value.int x1), (2, Value.int x2), (3, Value.int x3)]) dX9_search_57 (by decide) (by first | rfl | simp [va_cat, vi_cat, vl_cat]) ?_
      refine G_lv C (lv' := [(0, va_rf (some x0)), (1, Value.int x1), (2, Value.int x2), (3, Value.int x3), (5, Value.int 0), (6, Value.int 0)]) [2, 3, 4, 5, 1, 0] rfl ?_
      obtain ⟨n9, h⟩ := h
      exact J59 n9 _ _ _ h
    · have h := h.2 hc
      refine G_iconst C (v := 0) dX9_search_51 (by decide) ?_
      exact G_iret C (mc := 0) (ms := 0) (post := post) hr (Nat.le_of_ble_eq_true rfl) (Nat.le_of_ble_eq_true rfl) dX9_search_52 h
  have J23 : ∀ (S : PT) (s0 : Int32), w_X9_search_b23 x0 x1 x2 x3 post S s0 → G p l e { frames := 3, cells := 0, slots := 0, locals := 65 } s m [va_rf (some x0), Value.int x1, Value.int x2, Value.int x3].toArray below meth c D cy A s.heap 8 (QMi below D cy A [va_rf (some x0), Value.int x1, Value.int x2, Value.int x3] s 0 0 post) S 0 0 23 [(0, va_rf (some x0)), (1, Value.int x1), (2, Value.int x2), (3, Value.int x3)] [Value.int s0] := by
    intro S s0 h
    unfold w_X9_search_b23 at h
    refine G_istore C (i := 4) (lv' := [(4, Value.int s0), (0, va_rf (some x0)), (1, Value.int x1), (2, Value.int x2), (3, Value.int x3)]) dX9_search_23 (by decide) (by first | rfl | simp [va_cat, vi_cat, vl_cat]) ?_
    refine G_aload_n C (x := (some x0)) 1 dX9_search_25 rfl rfl ?_
    refine G_iload C (x := s0) 0 dX9_search_26 rfl ?_
    refine G_if_ne C (tgt := 35) dX9_search_28 (by decide) (fun hc => ?_) (fun hc => ?_)
    · have h := h.1 hc
      refine G_iload_n C (x := x3) 4 dX9_search_35 rfl rfl ?_
      refine G_iload_n C (x := x2) 3 dX9_search_36 rfl rfl ?_
      refine G_icmp_ge C (tgt := 44) dX9_search_37 (by decide) (fun hc => ?_) (fun hc => ?_)
      · have h := h.1 hc
        refine G_iconst C (v := 0) dX9_search_44 (by decide) ?_
        refine G_lv C (lv' := [(0, va_rf (some x0)), (1, Value.int x1), (2, Value.int x2), (3, Value.int x3)]) [1, 2, 3, 4] rfl ?_
        exact J45 _ _ _ h
      · have h := h.2 hc
        refine G_iconst C (v := 2) dX9_search_40 (by decide) ?_
        refine G_goto C (tgt := 45) dX9_search_41 (by decide) ?_
        refine G_lv C (lv' := [(0, va_rf (some x0)), (1, Value.int x1), (2, Value.int x2), (3, Value.int x3)]) [1, 2, 3, 4] rfl ?_
        exact J45 _ _ _ h
    · have h := h.2 hc
      refine G_iconst C (v := 1) dX9_search_31 (by decide) ?_
      refine G_goto C (tgt := 45) dX9_search_32 (by decide) ?_
      refine G_lv C (lv' := [(0, va_rf (some x0)), (1, Value.int x1), (2, Value.int x2), (3, Value.int x3)]) [1, 2, 3, 4] rfl ?_
      exact J45 _ _ _ h
  have J22 : ∀ (S : PT), w_X9_search_b22 x0 x1 x2 x3 post S → G p l e { frames := 3, cells := 0, slots := 0, locals := 65 } s m [va_rf (some x0), Value.int x1, Value.int x2, Value.int x3].toArray below meth c D cy A s.heap 8 (QMi below D cy A [va_rf (some x0), Value.int x1, Value.int x2, Value.int x3] s 0 0 post) S 0 0 22 [(0, va_rf (some x0)), (1, Value.int x1), (2, Value.int x2), (3, Value.int x3)] [] := by
    intro S h
    unfold w_X9_search_b22 at h
    refine G_iconst C (v := 0) dX9_search_22 (by decide) ?_
    refine G_lv C (lv' := [(0, va_rf (some x0)), (1, Value.int x1), (2, Value.int x2), (3, Value.int x3)]) [0, 1, 2, 3] rfl ?_
    exact J23 _ _ h
  refine G_lv C (lv' := [(0, va_rf (some x0)), (1, Value.int x1), (2, Value.int x2), (3, Value.int x3)]) [0, 1, 2, 3] (by first | rfl | simp [lv_pick, lv_args, va_cat, vi_cat, vl_cat]) ?_
  unfold w_X9_search at h
  refine G_aload_n C (x := (some x0)) 0 dX9_search_0 rfl rfl ?_
  refine G_iload_n C (x := x1) 1 dX9_search_1 rfl rfl ?_
  refine G_iload_n C (x := x2) 2 dX9_search_2 rfl rfl ?_
  obtain ⟨hk24, h⟩ := h
  refine G_callVi C hZ (Tf := TX9) (N := 50) hk24 (by decide) rfl tw_6_95 tw_6_97 tw_0_35 tw_1_7 tw_6_98 hy_X9_isMetre ⟨Nat.le_of_ble_eq_true rfl, Nat.le_of_ble_eq_true rfl⟩ (As := [Value.int x1, Value.int x2]) (rest := []) (c_X9_isMetre l D cy x0 x1 x2 S _ h) rfl rfl (by simp [va_cat, vi_cat, vl_cat]) dX9_search_3 ⟨Nat.le_of_ble_eq_true rfl, Nat.le_of_ble_eq_true rfl⟩ (fun r26 S25 h => ?_)
  obtain ⟨hb27, h⟩ := h
  refine G_if_eq C (tgt := 22) dX9_search_6 (by decide) (fun hc => ?_) (fun hc => ?_)
  · have h := h.1 hc
    refine G_lv C (lv' := [(0, va_rf (some x0)), (1, Value.int x1), (2, Value.int x2), (3, Value.int x3)]) [0, 1, 2, 3] rfl ?_
    exact J22 _ h
  · have h := h.2 hc
    refine G_aload_n C (x := (some x0)) 0 dX9_search_9 rfl rfl ?_
    refine G_iload_n C (x := x1) 1 dX9_search_10 rfl rfl ?_
    refine G_iload_n C (x := x3) 3 dX9_search_11 rfl rfl ?_
    obtain ⟨hk28, h⟩ := h
    refine G_callVi C hZ (Tf := TX9) (N := 50) hk28 (by decide) rfl tw_6_95 tw_6_97 tw_0_35 tw_1_7 tw_6_98 hy_X9_isMetre ⟨Nat.le_of_ble_eq_true rfl, Nat.le_of_ble_eq_true rfl⟩ (As := [Value.int x1, Value.int x3]) (rest := []) (c_X9_isMetre l D cy x0 x1 x3 S25 _ h) rfl rfl (by simp [va_cat, vi_cat, vl_cat]) dX9_search_12 ⟨Nat.le_of_ble_eq_true rfl, Nat.le_of_ble_eq_true rfl⟩ (fun r30 S29 h => ?_)
    obtain ⟨hb31, h⟩ := h
    refine G_if_eq C (tgt := 22) dX9_search_15 (by decide) (fun hc => ?_) (fun hc => ?_)
    · have h := h.1 hc
      refine G_lv C (lv' := [(0, va_rf (some x0)), (1, Value.int x1), (2, Value.int x2), (3, Value.int x3)]) [0, 1, 2, 3] rfl ?_
      exact J22 _ h
    · have h := h.2 hc
      refine G_iconst C (v := 1) dX9_search_18 (by decide) ?_
      refine G_goto C (tgt := 23) dX9_search_19 (by decide) ?_
      refine G_lv C (lv' := [(0, va_rf (some x0)), (1, Value.int x1), (2, Value.int x2), (3, Value.int x3)]) [0, 1, 2, 3] rfl ?_
      exact J23 _ _ h
set_option maxHeartbeats 4000000 in
set_option maxRecDepth 100000 in
theorem c_X9_queue (l : Launch) (D : va_G) (cy : Nat → Nat) (x0 : Nat) (x1 : Int32) (S : PT) (post : Int32 → PT → Prop) (h : w_X9_queue x0 x1 S post) : Mi l yX9_queue (Wm yX9_queue prog_11_method_74_code 2 (Option.some Jvm.ClassFile.FieldType.int)) 2 43 D cy [va_rf (some x0), Value.int x1] S 0 0 post := by
  refine Mi_of (own := "TrenchboardModel") (by decide) rfl (by first | decide | simp [lg_sl, va_cat, vi_cat, vl_cat]) (fun p e s m below meth c A C hZ hr hin9 => ?_)
  have J30 : ∀ (S : PT) (s0 : Int32), w_X9_queue_b30 x0 x1 post S s0 → G p l e { frames := 2, cells := 0, slots := 0, locals := 43 } s m [va_rf (some x0), Value.int x1].toArray below meth c D cy A s.heap 2 (QMi below D cy A [va_rf (some x0), Value.int x1] s 0 0 post) S 0 0 30 [] [Value.int s0] := by
    intro S s0 h
    unfold w_X9_queue_b30 at h
    exact G_iret C (mc := 0) (ms := 0) (post := post) hr (Nat.le_of_ble_eq_true rfl) (Nat.le_of_ble_eq_true rfl) dX9_queue_30 h
  have J14 : ∀ (S : PT) (s0 : Option Nat) (s1 : Int32), w_X9_queue_b14 x0 x1 post S s0 s1 → G p l e { frames := 2, cells := 0, slots := 0, locals := 43 } s m [va_rf (some x0), Value.int x1].toArray below meth c D cy A s.heap 2 (QMi below D cy A [va_rf (some x0), Value.int x1] s 0 0 post) S 0 0 14 [(0, va_rf (some x0)), (1, Value.int x1)] [Value.int s1, va_rf s0] := by
    intro S s0 s1 h
    unfold w_X9_queue_b14 at h
    obtain ⟨a1, ha2, h⟩ := h
    obtain ⟨hk3, h⟩ := h
    refine G_callVi C hZ (Tf := TX9) (N := 50) hk3 (by decide) rfl tw_6_56 tw_6_58 tw_0_29 tw_1_7 tw_6_59 hy_X9_goes ⟨Nat.le_of_ble_eq_true rfl, Nat.le_of_ble_eq_true rfl⟩ (As := [Value.int s1]) (rest := []) (c_X9_goes l D cy a1 s1 S _ h) rfl (by first | rfl | (simp only [ha2]; rfl) | simp only [ha2]) (by simp [va_cat, vi_cat, vl_cat]) dX9_queue_14 ⟨Nat.le_of_ble_eq_true rfl, Nat.le_of_ble_eq_true rfl⟩ (fun r5 S4 h => ?_)
    obtain ⟨hb6, h⟩ := h
    refine G_if_eq C (tgt := 29) dX9_queue_17 (by decide) (fun hc => ?_) (fun hc => ?_)
    · have h := h.1 hc
      refine G_iconst C (v := 0) dX9_queue_29 (by decide) ?_
      refine G_lv C (lv' := []) [] rfl ?_
      exact J30 _ _ h
    · have h := h.2 hc
      refine G_aload_n C (x := (some x0)) 0 dX9_queue_20 rfl rfl ?_
      obtain ⟨hk7, h⟩ := h
      refine G_get C (CC := RX9) (Tf := TX9) (N := 50) (k := 10) (i := 10) (v := va_rf (gP S4 1010 x0)) hk7 (by decide) rfl (fin fwX9) (by decide) (im tw_5_138) rfl rfl dX9_queue_21 ?_
      refine G_iload_n C (x := x1) 1 dX9_queue_24 rfl rfl ?_
      obtain ⟨a8, ha9, h⟩ := h
      refine G_rf1 ha9 ?_
      obtain ⟨hk10, h⟩ := h
      obtain ⟨hi11, h⟩ := h
      refine G_iald C hk10 hi11 dX9_queue_25 ?_
      refine G_goto C (tgt := 30) dX9_queue_26 (by decide) ?_
      refine G_lv C (lv' := []) [] rfl ?_
      exact J30 _ _ h
  refine G_lv C (lv' := [(0, va_rf (some x0)), (1, Value.int x1)]) [0, 1] (by first | rfl | simp [lv_pick, lv_args, va_cat, vi_cat, vl_cat]) ?_
  unfold w_X9_queue at h
  refine G_aload_n C (x := (some x0)) 0 dX9_queue_0 rfl rfl ?_
  refine G_aload_n C (x := (some x0)) 0 dX9_queue_1 rfl rfl ?_
  refine G_iload_n C (x := x1) 1 dX9_queue_2 rfl rfl ?_
  obtain ⟨hk12, h⟩ := h
  refine G_callVi C hZ (Tf := TX9) (N := 50) hk12 (by decide) rfl tw_6_52 tw_6_54 tw_0_28 tw_1_7 tw_6_55 hy_X9_isStreet ⟨Nat.le_of_ble_eq_true rfl, Nat.le_of_ble_eq_true rfl⟩ (As := [Value.int x1]) (rest := [va_rf (some x0)]) (c_X9_isStreet l D cy x0 x1 S _ h) rfl rfl (by simp [va_cat, vi_cat, vl_cat]) dX9_queue_3 ⟨Nat.le_of_ble_eq_true rfl, Nat.le_of_ble_eq_true rfl⟩ (fun r14 S13 h => ?_)
  obtain ⟨hb15, h⟩ := h
  refine G_if_eq C (tgt := 13) dX9_queue_6 (by decide) (fun hc => ?_) (fun hc => ?_)
  · have h := h.1 hc
    refine G_iconst C (v := 1) dX9_queue_13 (by decide) ?_
    refine G_lv C (lv' := [(0, va_rf (some x0)), (1, Value.int x1)]) [0, 1] rfl ?_
    exact J14 _ _ _ h
  · have h := h.2 hc
    refine G_iconst C (v := 0) dX9_queue_9 (by decide) ?_
    refine G_goto C (tgt := 14) dX9_queue_10 (by decide) ?_
    refine G_lv C (lv' := [(0, va_rf (some x0)), (1, Value.int x1)]) [0, 1] rfl ?_
    exact J14 _ _ _ h
set_option maxHeartbeats 4000000 in
set_option maxRecDepth 100000 in
theorem c_X9_due (l : Launch) (D : va_G) (cy : Nat → Nat) (x0 : Nat) (x1 : Int32) (S : PT) (post : Int32 → PT → Prop) (h : w_X9_due x0 x1 S post) : Mi l yX9_due (Wm yX9_due prog_11_method_75_code 5 (Option.some Jvm.ClassFile.FieldType.int)) 2 42 D cy [va_rf (some x0), Value.int x1] S 0 0 post := by
  refine Mi_of (own := "TrenchboardModel") (by decide) rfl (by first | decide | simp [lg_sl, va_cat, vi_cat, vl_cat]) (fun p e s m below meth c A C hZ hr hin9 => ?_)
  have J115 : ∀ (S : PT) (s0 : Int32), w_X9_due_b115 x0 x1 post S s0 → G p l e { frames := 2, cells := 0, slots := 0, locals := 42 } s m [va_rf (some x0), Value.int x1].toArray below meth c D cy A s.heap 5 (QMi below D cy A [va_rf (some x0), Value.int x1] s 0 0 post) S 0 0 115 [] [Value.int s0] := by
    intro S s0 h
    unfold w_X9_due_b115 at h
    exact G_iret C (mc := 0) (ms := 0) (post := post) hr (Nat.le_of_ble_eq_true rfl) (Nat.le_of_ble_eq_true rfl) dX9_due_115 h
  have J85 : ∀ (S : PT) (v2 : Int32) (s0 : Int32), w_X9_due_b85 x0 x1 post S v2 s0 → G p l e { frames := 2, cells := 0, slots := 0, locals := 42 } s m [va_rf (some x0), Value.int x1].toArray below meth c D cy A s.heap 5 (QMi below D cy A [va_rf (some x0), Value.int x1] s 0 0 post) S 0 0 85 [(0, va_rf (some x0)), (1, Value.int x1), (2, Value.int v2)] [Value.int s0] := by
    intro S v2 s0 h
    unfold w_X9_due_b85 at h
    refine G_istore_n C (i := 3) (lv' := [(3, Value.int s0), (0, va_rf (some x0)), (1, Value.int x1), (2, Value.int v2)]) dX9_due_85 rfl (by decide) (by first | rfl | simp [va_cat, vi_cat, vl_cat]) ?_
    refine G_iload_n C (x := v2) 3 dX9_due_86 rfl rfl ?_
    refine G_iload_n C (x := s0) 0 dX9_due_87 rfl rfl ?_
    refine G_imul C dX9_due_88 ?_
    refine G_bipush C (v := 99) dX9_due_89 (by decide) ?_
    refine G_iadd C dX9_due_91 ?_
    refine G_bipush C (v := 100) dX9_due_92 (by decide) ?_
    refine G_idiv C dX9_due_94 (by decide) ?_
    refine G_aload_n C (x := (some x0)) 1 dX9_due_95 rfl rfl ?_
    obtain ⟨hk1, h⟩ := h
    refine G_get C (CC := RX9) (Tf := TX9) (N := 50) (k := 10) (i := 47) (v := va_rf (gP S 1047 x0)) hk1 (by decide) rfl (fin fwX9) (by decide) (im tw_5_175) rfl rfl dX9_due_96 ?_
    refine G_iload_n C (x := x1) 2 dX9_due_99 rfl rfl ?_
    obtain ⟨a2, ha3, h⟩ := h
    refine G_rf1 ha3 ?_
    obtain ⟨hk4, h⟩ := h
    obtain ⟨hi5, h⟩ := h
    refine G_iald C hk4 hi5 dX9_due_100 ?_
    refine G_isub C dX9_due_101 ?_
    refine G_istore C (i := 4) (lv' := [(4, Value.int ((((v2 * s0) + 99) / 100) - (gA S a2 x1.toNatClampNeg))), (3, Value.int s0), (0, va_rf (some x0)), (1, Value.int x1), (2, Value.int v2)]) dX9_due_102 (by decide) (by first | rfl | simp [va_cat, vi_cat, vl_cat]) ?_
    refine G_iload C (x := ((((v2 * s0) + 99) / 100) - (gA S a2 x1.toNatClampNeg))) 0 dX9_due_104 rfl ?_
    refine G_if_ge C (tgt := 113) dX9_due_106 (by decide) (fun hc => ?_) (fun hc => ?_)
    · have h := h.1 hc
      refine G_iload C (x := ((((v2 * s0) + 99) / 100) - (gA S a2 x1.toNatClampNeg))) 0 dX9_due_113 rfl ?_
      refine G_lv C (lv' := []) [] rfl ?_
      exact J115 _ _ h
    · have h := h.2 hc
      refine G_iconst C (v := 0) dX9_due_109 (by decide) ?_
      refine G_goto C (tgt := 115) dX9_due_110 (by decide) ?_
      refine G_lv C (lv' := []) [] rfl ?_
      exact J115 _ _ h
  have J25 : ∀ (n : Nat) (S : PT) (v2 : Int32) (v3 : Int32), w_X9_due_l25 x0 x1 post n S v2 v3 → G p l e { frames := 2, cells := 0, slots := 0, locals := 42 } s m [va_rf (some x0), Value.int x1].toArray below meth c D cy A s.heap 5 (QMi below D cy A [va_rf (some x0), Value.int x1] s 0 0 post) S 0 0 25 [(0, va_rf (some x0)), (1, Value.int x1), (2, Value.int v2), (3, Value.int v3)] [] := by
    intro n25
    induction n25 with
    | zero => intro S v2 v3 h; rw [w_X9_due_l25] at h; exact False.elim h
    | succ n25 K25 =>
      have J54 : ∀ (S : PT) (v3 : Int32) (s0 : Int32) (s1 : Int32), w_X9_due_b54 x0 x1 post (w_X9_due_l25 x0 x1 post n25) S v3 s0 s1 → G p l e { frames := 2, cells := 0, slots := 0, locals := 42 } s m [va_rf (some x0), Value.int x1].toArray below meth c D cy A s.heap 5 (QMi below D cy A [va_rf (some x0), Value.int x1] s 0 0 post) S 0 0 54 [(0, va_rf (some x0)), (1, Value.int x1), (3, Value.int v3)] [Value.int s1, Value.int s0] := by
        intro S v3 s0 s1 h
        unfold w_X9_due_b54 at h
        refine G_iadd C dX9_due_54 ?_
        refine G_istore_n C (i := 2) (lv' := [(2, Value.int (s0 + s1)), (0, va_rf (some x0)), (1, Value.int x1), (3, Value.int v3)]) dX9_due_55 rfl (by decide) (by first | rfl | simp [va_cat, vi_cat, vl_cat]) ?_
        refine G_iinc C (v := (v3 + 1)) (lv' := [(3, Value.int (v3 + 1)), (2, Value.int (s0 + s1)), (0, va_rf (some x0)), (1, Value.int x1)]) 3 dX9_due_56 rfl rfl (by decide) (by first | rfl | simp [va_cat, vi_cat, vl_cat]) ?_
        refine G_goto C (tgt := 25) dX9_due_59 (by decide) ?_
        refine G_lv C (lv' := [(0, va_rf (some x0)), (1, Value.int x1), (2, Value.int (s0 + s1)), (3, Value.int (v3 + 1))]) [2, 3, 1, 0] rfl ?_
        exact K25 _ _ _ h
      intro S v2 v3 h
      rw [w_X9_due_l25] at h
      refine G_iload_n C (x := v3) 3 dX9_due_25 rfl rfl ?_
      refine G_aload_n C (x := (some x0)) 0 dX9_due_26 rfl rfl ?_
      obtain ⟨hk6, h⟩ := h
      refine G_get C (CC := RX9) (Tf := TX9) (N := 50) (k := 10) (i := 40) (v := Value.int (gI S 1040 x0)) hk6 (by decide) rfl (fin fwX9) (by decide) (im tw_5_168) rfl rfl dX9_due_27 ?_
      refine G_icmp_ge C (tgt := 62) dX9_due_30 (by decide) (fun hc => ?_) (fun hc => ?_)
      · have h := h.1 hc
        refine G_iconst C (v := 5) dX9_due_62 (by decide) ?_
        refine G_iconst C (v := 5) dX9_due_63 (by decide) ?_
        refine G_aload_n C (x := (some x0)) 0 dX9_due_64 rfl rfl ?_
        refine G_get C (CC := RX9) (Tf := TX9) (N := 50) (k := 10) (i := 46) (v := va_rf (gP S 1046 x0)) hk6 (by decide) rfl (fin fwX9) (by decide) (im tw_5_174) rfl rfl dX9_due_65 ?_
        refine G_iload_n C (x := x1) 1 dX9_due_68 rfl rfl ?_
        obtain ⟨a7, ha8, h⟩ := h
        refine G_rf1 ha8 ?_
        obtain ⟨hk9, h⟩ := h
        obtain ⟨hi10, h⟩ := h
        refine G_iald C hk9 hi10 dX9_due_69 ?_
        refine G_imul C dX9_due_70 ?_
        refine G_iadd C dX9_due_71 ?_
        refine G_istore_n C (i := 3) (lv' := [(3, Value.int (5 + (5 * (gA S a7 x1.toNatClampNeg)))), (0, va_rf (some x0)), (1, Value.int x1), (2, Value.int v2)]) dX9_due_72 rfl (by decide) (by first | rfl | simp [va_cat, vi_cat, vl_cat]) ?_
        refine G_iload_n C (x := (5 + (5 * (gA S a7 x1.toNatClampNeg)))) 0 dX9_due_73 rfl rfl ?_
        refine G_bipush C (v := 50) dX9_due_74 (by decide) ?_
        refine G_icmp_le C (tgt := 84) dX9_due_76 (by decide) (fun hc => ?_) (fun hc => ?_)
        · have h := h.1 hc
          refine G_iload_n C (x := (5 + (5 * (gA S a7 x1.toNatClampNeg)))) 0 dX9_due_84 rfl rfl ?_
          refine G_lv C (lv' := [(0, va_rf (some x0)), (1, Value.int x1), (2, Value.int v2)]) [1, 2, 3] rfl ?_
          exact J85 _ _ _ h
        · have h := h.2 hc
          refine G_bipush C (v := 50) dX9_due_79 (by decide) ?_
          refine G_goto C (tgt := 85) dX9_due_81 (by decide) ?_
          refine G_lv C (lv' := [(0, va_rf (some x0)), (1, Value.int x1), (2, Value.int v2)]) [1, 2, 3] rfl ?_
          exact J85 _ _ _ h
      · have h := h.2 hc
        refine G_iload_n C (x := v2) 2 dX9_due_33 rfl rfl ?_
        refine G_aload_n C (x := (some x0)) 0 dX9_due_34 rfl rfl ?_
        refine G_get C (CC := RX9) (Tf := TX9) (N := 50) (k := 10) (i := 24) (v := va_rf (gP S 1024 x0)) hk6 (by decide) rfl (fin fwX9) (by decide) (im tw_5_152) rfl rfl dX9_due_35 ?_
        refine G_aload_n C (x := (some x0)) 0 dX9_due_38 rfl rfl ?_
        refine G_get C (CC := RX9) (Tf := TX9) (N := 50) (k := 10) (i := 42) (v := va_rf (gP S 1042 x0)) hk6 (by decide) rfl (fin fwX9) (by decide) (im tw_5_170) rfl rfl dX9_due_39 ?_
        refine G_iload_n C (x := v3) 3 dX9_due_42 rfl rfl ?_
        obtain ⟨a11, ha12, h⟩ := h
        refine G_rf1 ha12 ?_
        obtain ⟨hk13, h⟩ := h
        obtain ⟨hi14, h⟩ := h
        refine G_iald C hk13 hi14 dX9_due_43 ?_
        obtain ⟨a15, ha16, h⟩ := h
        refine G_rf1 ha16 ?_
        obtain ⟨hk17, h⟩ := h
        obtain ⟨hi18, h⟩ := h
        refine G_iald C hk17 hi18 dX9_due_44 ?_
        refine G_iload_n C (x := x1) 1 dX9_due_45 rfl rfl ?_
        refine G_icmp_ne C (tgt := 53) dX9_due_46 (by decide) (fun hc => ?_) (fun hc => ?_)
        · have h := h.1 hc
          refine G_iconst C (v := 0) dX9_due_53 (by decide) ?_
          refine G_lv C (lv' := [(0, va_rf (some x0)), (1, Value.int x1), (3, Value.int v3)]) [0, 1, 3] rfl ?_
          exact J54 _ _ _ _ h
        · have h := h.2 hc
          refine G_iconst C (v := 1) dX9_due_49 (by decide) ?_
          refine G_goto C (tgt := 54) dX9_due_50 (by decide) ?_
          refine G_lv C (lv' := [(0, va_rf (some x0)), (1, Value.int x1), (3, Value.int v3)]) [0, 1, 3] rfl ?_
          exact J54 _ _ _ _ h
  have J13 : ∀ (S : PT) (s0 : Option Nat) (s1 : Int32), w_X9_due_b13 x0 x1 post S s0 s1 → G p l e { frames := 2, cells := 0, slots := 0, locals := 42 } s m [va_rf (some x0), Value.int x1].toArray below meth c D cy A s.heap 5 (QMi below D cy A [va_rf (some x0), Value.int x1] s 0 0 post) S 0 0 13 [(0, va_rf (some x0)), (1, Value.int x1)] [Value.int s1, va_rf s0] := by
    intro S s0 s1 h
    unfold w_X9_due_b13 at h
    obtain ⟨a19, ha20, h⟩ := h
    obtain ⟨hk21, h⟩ := h
    refine G_callVi C hZ (Tf := TX9) (N := 50) hk21 (by decide) rfl tw_6_56 tw_6_58 tw_0_29 tw_1_7 tw_6_59 hy_X9_goes ⟨Nat.le_of_ble_eq_true rfl, Nat.le_of_ble_eq_true rfl⟩ (As := [Value.int s1]) (rest := []) (c_X9_goes l D cy a19 s1 S _ h) rfl (by first | rfl | (simp only [ha20]; rfl) | simp only [ha20]) (by simp [va_cat, vi_cat, vl_cat]) dX9_due_13 ⟨Nat.le_of_ble_eq_true rfl, Nat.le_of_ble_eq_true rfl⟩ (fun r23 S22 h => ?_)
    obtain ⟨hb24, h⟩ := h
    refine G_if_ne C (tgt := 21) dX9_due_16 (by decide) (fun hc => ?_) (fun hc => ?_)
    · have h := h.1 hc
      refine G_iconst C (v := 0) dX9_due_21 (by decide) ?_
      refine G_istore_n C (i := 2) (lv' := [(2, Value.int 0), (0, va_rf (some x0)), (1, Value.int x1)]) dX9_due_22 rfl (by decide) (by first | rfl | simp [va_cat, vi_cat, vl_cat]) ?_
      refine G_iconst C (v := 0) dX9_due_23 (by decide) ?_
      refine G_istore_n C (i := 3) (lv' := [(3, Value.int 0), (2, Value.int 0), (0, va_rf (some x0)), (1, Value.int x1)]) dX9_due_24 rfl (by decide) (by first | rfl | simp [va_cat, vi_cat, vl_cat]) ?_
      refine G_lv C (lv' := [(0, va_rf (some x0)), (1, Value.int x1), (2, Value.int 0), (3, Value.int 0)]) [2, 3, 1, 0] rfl ?_
      obtain ⟨n9, h⟩ := h
      exact J25 n9 _ _ _ h
    · have h := h.2 hc
      refine G_iconst C (v := 0) dX9_due_19 (by decide) ?_
      exact G_iret C (mc := 0) (ms := 0) (post := post) hr (Nat.le_of_ble_eq_true rfl) (Nat.le_of_ble_eq_true rfl) dX9_due_20 h
  refine G_lv C (lv' := [(0, va_rf (some x0)), (1, Value.int x1)]) [0, 1] (by first | rfl | simp [lv_pick, lv_args, va_cat, vi_cat, vl_cat]) ?_
  unfold w_X9_due at h
  refine G_aload_n C (x := (some x0)) 0 dX9_due_0 rfl rfl ?_
  refine G_iload_n C (x := x1) 1 dX9_due_1 rfl rfl ?_
  refine G_callSi C hZ tw_6_92 tw_6_93 tw_1_7 tw_6_94 hy_X9_isPromoter ⟨Nat.le_of_ble_eq_true rfl, Nat.le_of_ble_eq_true rfl⟩ (As := [Value.int x1]) (rest := [va_rf (some x0)]) (c_X9_isPromoter l D cy x1 S _ h) rfl rfl (by simp [va_cat, vi_cat, vl_cat]) dX9_due_2 ⟨Nat.le_of_ble_eq_true rfl, Nat.le_of_ble_eq_true rfl⟩ (fun r26 S25 h => ?_)
  obtain ⟨hb27, h⟩ := h
  refine G_if_eq C (tgt := 12) dX9_due_5 (by decide) (fun hc => ?_) (fun hc => ?_)
  · have h := h.1 hc
    refine G_iconst C (v := 1) dX9_due_12 (by decide) ?_
    refine G_lv C (lv' := [(0, va_rf (some x0)), (1, Value.int x1)]) [0, 1] rfl ?_
    exact J13 _ _ _ h
  · have h := h.2 hc
    refine G_iconst C (v := 0) dX9_due_8 (by decide) ?_
    refine G_goto C (tgt := 13) dX9_due_9 (by decide) ?_
    refine G_lv C (lv' := [(0, va_rf (some x0)), (1, Value.int x1)]) [0, 1] rfl ?_
    exact J13 _ _ _ h
set_option maxHeartbeats 4000000 in
set_option maxRecDepth 100000 in
theorem c_X9_money (l : Launch) (D : va_G) (cy : Nat → Nat) (x0 : Nat) (x1 : Int32) (S : PT) (post : Int64 → PT → Prop) (h : w_X9_money x0 x1 S post) : Ml l yX9_money (Wm yX9_money prog_11_method_76_code 2 (Option.some Jvm.ClassFile.FieldType.long)) 1 22 D cy [va_rf (some x0), Value.int x1] S 0 0 post := by
  refine Ml_of (own := "TrenchboardModel") (by decide) rfl (by first | decide | simp [lg_sl, va_cat, vi_cat, vl_cat]) (fun p e s m below meth c A C hZ hr hin9 => ?_)
  have J31 : ∀ (S : PT) (s0 : Int64), w_X9_money_b31 x0 x1 post S s0 → G p l e { frames := 1, cells := 0, slots := 0, locals := 22 } s m [va_rf (some x0), Value.int x1].toArray below meth c D cy A s.heap 2 (QMl below D cy A [va_rf (some x0), Value.int x1] s 0 0 post) S 0 0 31 [] [Value.long s0] := by
    intro S s0 h
    unfold w_X9_money_b31 at h
    exact G_lret C (mc := 0) (ms := 0) (post := post) hr (Nat.le_of_ble_eq_true rfl) (Nat.le_of_ble_eq_true rfl) dX9_money_31 h
  have J15 : ∀ (S : PT) (s0 : Option Nat) (s1 : Int32), w_X9_money_b15 x0 x1 post S s0 s1 → G p l e { frames := 1, cells := 0, slots := 0, locals := 22 } s m [va_rf (some x0), Value.int x1].toArray below meth c D cy A s.heap 2 (QMl below D cy A [va_rf (some x0), Value.int x1] s 0 0 post) S 0 0 15 [(0, va_rf (some x0)), (1, Value.int x1)] [Value.int s1, va_rf s0] := by
    intro S s0 s1 h
    unfold w_X9_money_b15 at h
    obtain ⟨a1, ha2, h⟩ := h
    obtain ⟨hk3, h⟩ := h
    refine G_callVi C hZ (Tf := TX9) (N := 50) hk3 (by decide) rfl tw_6_56 tw_6_58 tw_0_29 tw_1_7 tw_6_59 hy_X9_goes ⟨Nat.le_of_ble_eq_true rfl, Nat.le_of_ble_eq_true rfl⟩ (As := [Value.int s1]) (rest := []) (c_X9_goes l D cy a1 s1 S _ h) rfl (by first | rfl | (simp only [ha2]; rfl) | simp only [ha2]) (by simp [va_cat, vi_cat, vl_cat]) dX9_money_15 ⟨Nat.le_of_ble_eq_true rfl, Nat.le_of_ble_eq_true rfl⟩ (fun r5 S4 h => ?_)
    obtain ⟨hb6, h⟩ := h
    refine G_if_eq C (tgt := 30) dX9_money_18 (by decide) (fun hc => ?_) (fun hc => ?_)
    · have h := h.1 hc
      refine G_lconst C (v := 0) dX9_money_30 (by decide) ?_
      refine G_lv C (lv' := []) [] rfl ?_
      exact J31 _ _ h
    · have h := h.2 hc
      refine G_aload_n C (x := (some x0)) 0 dX9_money_21 rfl rfl ?_
      obtain ⟨hk7, h⟩ := h
      refine G_get C (CC := RX9) (Tf := TX9) (N := 50) (k := 10) (i := 48) (v := va_rf (gP S4 1048 x0)) hk7 (by decide) rfl (fin fwX9) (by decide) (im tw_5_176) rfl rfl dX9_money_22 ?_
      refine G_iload_n C (x := x1) 1 dX9_money_25 rfl rfl ?_
      obtain ⟨a8, ha9, h⟩ := h
      refine G_rf1 ha9 ?_
      obtain ⟨hk10, h⟩ := h
      obtain ⟨hi11, h⟩ := h
      refine G_lald C hk10 hi11 dX9_money_26 ?_
      refine G_goto C (tgt := 31) dX9_money_27 (by decide) ?_
      refine G_lv C (lv' := []) [] rfl ?_
      exact J31 _ _ h
  refine G_lv C (lv' := [(0, va_rf (some x0)), (1, Value.int x1)]) [0, 1] (by first | rfl | simp [lv_pick, lv_args, va_cat, vi_cat, vl_cat]) ?_
  unfold w_X9_money at h
  refine G_aload_n C (x := (some x0)) 0 dX9_money_0 rfl rfl ?_
  refine G_iload_n C (x := x1) 1 dX9_money_1 rfl rfl ?_
  refine G_iconst C (v := 0) dX9_money_2 (by decide) ?_
  refine G_iconst C (v := 5) dX9_money_3 (by decide) ?_
  refine G_callSi C hZ tw_6_49 tw_6_50 tw_1_7 tw_6_51 hy_X9_isIn ⟨Nat.le_of_ble_eq_true rfl, Nat.le_of_ble_eq_true rfl⟩ (As := [Value.int x1, Value.int 0, Value.int 5]) (rest := [va_rf (some x0)]) (c_X9_isIn l D cy x1 0 5 S _ h) rfl rfl (by simp [va_cat, vi_cat, vl_cat]) dX9_money_4 ⟨Nat.le_of_ble_eq_true rfl, Nat.le_of_ble_eq_true rfl⟩ (fun r13 S12 h => ?_)
  obtain ⟨hb14, h⟩ := h
  refine G_if_eq C (tgt := 14) dX9_money_7 (by decide) (fun hc => ?_) (fun hc => ?_)
  · have h := h.1 hc
    refine G_iconst C (v := 1) dX9_money_14 (by decide) ?_
    refine G_lv C (lv' := [(0, va_rf (some x0)), (1, Value.int x1)]) [0, 1] rfl ?_
    exact J15 _ _ _ h
  · have h := h.2 hc
    refine G_iconst C (v := 0) dX9_money_10 (by decide) ?_
    refine G_goto C (tgt := 15) dX9_money_11 (by decide) ?_
    refine G_lv C (lv' := [(0, va_rf (some x0)), (1, Value.int x1)]) [0, 1] rfl ?_
    exact J15 _ _ _ h
set_option maxHeartbeats 4000000 in
set_option maxRecDepth 100000 in
theorem c_X9_moneyAnew (l : Launch) (D : va_G) (cy : Nat → Nat) (x0 : Nat) (x1 : Int32) (S : PT) (post : Int64 → PT → Prop) (h : w_X9_moneyAnew x0 x1 S post) : Ml l yX9_moneyAnew (Wm yX9_moneyAnew prog_11_method_77_code 2 (Option.some Jvm.ClassFile.FieldType.long)) 1 22 D cy [va_rf (some x0), Value.int x1] S 0 0 post := by
  refine Ml_of (own := "TrenchboardModel") (by decide) rfl (by first | decide | simp [lg_sl, va_cat, vi_cat, vl_cat]) (fun p e s m below meth c A C hZ hr hin9 => ?_)
  have J31 : ∀ (S : PT) (s0 : Int64), w_X9_moneyAnew_b31 x0 x1 post S s0 → G p l e { frames := 1, cells := 0, slots := 0, locals := 22 } s m [va_rf (some x0), Value.int x1].toArray below meth c D cy A s.heap 2 (QMl below D cy A [va_rf (some x0), Value.int x1] s 0 0 post) S 0 0 31 [] [Value.long s0] := by
    intro S s0 h
    unfold w_X9_moneyAnew_b31 at h
    exact G_lret C (mc := 0) (ms := 0) (post := post) hr (Nat.le_of_ble_eq_true rfl) (Nat.le_of_ble_eq_true rfl) dX9_moneyAnew_31 h
  have J15 : ∀ (S : PT) (s0 : Option Nat) (s1 : Int32), w_X9_moneyAnew_b15 x0 x1 post S s0 s1 → G p l e { frames := 1, cells := 0, slots := 0, locals := 22 } s m [va_rf (some x0), Value.int x1].toArray below meth c D cy A s.heap 2 (QMl below D cy A [va_rf (some x0), Value.int x1] s 0 0 post) S 0 0 15 [(0, va_rf (some x0)), (1, Value.int x1)] [Value.int s1, va_rf s0] := by
    intro S s0 s1 h
    unfold w_X9_moneyAnew_b15 at h
    obtain ⟨a1, ha2, h⟩ := h
    obtain ⟨hk3, h⟩ := h
    refine G_callVi C hZ (Tf := TX9) (N := 50) hk3 (by decide) rfl tw_6_56 tw_6_58 tw_0_29 tw_1_7 tw_6_59 hy_X9_goes ⟨Nat.le_of_ble_eq_true rfl, Nat.le_of_ble_eq_true rfl⟩ (As := [Value.int s1]) (rest := []) (c_X9_goes l D cy a1 s1 S _ h) rfl (by first | rfl | (simp only [ha2]; rfl) | simp only [ha2]) (by simp [va_cat, vi_cat, vl_cat]) dX9_moneyAnew_15 ⟨Nat.le_of_ble_eq_true rfl, Nat.le_of_ble_eq_true rfl⟩ (fun r5 S4 h => ?_)
    obtain ⟨hb6, h⟩ := h
    refine G_if_eq C (tgt := 30) dX9_moneyAnew_18 (by decide) (fun hc => ?_) (fun hc => ?_)
    · have h := h.1 hc
      refine G_lconst C (v := 0) dX9_moneyAnew_30 (by decide) ?_
      refine G_lv C (lv' := []) [] rfl ?_
      exact J31 _ _ h
    · have h := h.2 hc
      refine G_aload_n C (x := (some x0)) 0 dX9_moneyAnew_21 rfl rfl ?_
      obtain ⟨hk7, h⟩ := h
      refine G_get C (CC := RX9) (Tf := TX9) (N := 50) (k := 10) (i := 48) (v := va_rf (gP S4 1048 x0)) hk7 (by decide) rfl (fin fwX9) (by decide) (im tw_5_176) rfl rfl dX9_moneyAnew_22 ?_
      refine G_iload_n C (x := x1) 1 dX9_moneyAnew_25 rfl rfl ?_
      obtain ⟨a8, ha9, h⟩ := h
      refine G_rf1 ha9 ?_
      obtain ⟨hk10, h⟩ := h
      obtain ⟨hi11, h⟩ := h
      refine G_lald C hk10 hi11 dX9_moneyAnew_26 ?_
      refine G_goto C (tgt := 31) dX9_moneyAnew_27 (by decide) ?_
      refine G_lv C (lv' := []) [] rfl ?_
      exact J31 _ _ h
  refine G_lv C (lv' := [(0, va_rf (some x0)), (1, Value.int x1)]) [0, 1] (by first | rfl | simp [lv_pick, lv_args, va_cat, vi_cat, vl_cat]) ?_
  unfold w_X9_moneyAnew at h
  refine G_aload_n C (x := (some x0)) 0 dX9_moneyAnew_0 rfl rfl ?_
  refine G_iload_n C (x := x1) 1 dX9_moneyAnew_1 rfl rfl ?_
  refine G_iconst C (v := 0) dX9_moneyAnew_2 (by decide) ?_
  refine G_iconst C (v := 5) dX9_moneyAnew_3 (by decide) ?_
  refine G_callSi C hZ tw_6_49 tw_6_50 tw_1_7 tw_6_51 hy_X9_isIn ⟨Nat.le_of_ble_eq_true rfl, Nat.le_of_ble_eq_true rfl⟩ (As := [Value.int x1, Value.int 0, Value.int 5]) (rest := [va_rf (some x0)]) (c_X9_isIn l D cy x1 0 5 S _ h) rfl rfl (by simp [va_cat, vi_cat, vl_cat]) dX9_moneyAnew_4 ⟨Nat.le_of_ble_eq_true rfl, Nat.le_of_ble_eq_true rfl⟩ (fun r13 S12 h => ?_)
  obtain ⟨hb14, h⟩ := h
  refine G_if_eq C (tgt := 14) dX9_moneyAnew_7 (by decide) (fun hc => ?_) (fun hc => ?_)
  · have h := h.1 hc
    refine G_iconst C (v := 1) dX9_moneyAnew_14 (by decide) ?_
    refine G_lv C (lv' := [(0, va_rf (some x0)), (1, Value.int x1)]) [0, 1] rfl ?_
    exact J15 _ _ _ h
  · have h := h.2 hc
    refine G_iconst C (v := 0) dX9_moneyAnew_10 (by decide) ?_
    refine G_goto C (tgt := 15) dX9_moneyAnew_11 (by decide) ?_
    refine G_lv C (lv' := [(0, va_rf (some x0)), (1, Value.int x1)]) [0, 1] rfl ?_
    exact J15 _ _ _ h
