theorem dz_in {L : Nat} {k : Int32} (hL : L ≤ 260) (h0 : 0 ≤ k) (h : k < nI L) : vp_in k L := by
  rw [ile, I0] at h0
  rw [ilt, nI_toInt (by omega)] at h
  obtain ⟨j, hj, rfl, hj2⟩ := ex_nI (x := k) (n := L) (by rw [ilt, I0]; omega) h
  exact vin_nI hj (by omega)
theorem c_L_dice (l : Launch) (D : va_G) (cy : Nat → Nat) (b L : Nat) (xs : Nat → Int32) (hL : L ≤ 260) (k : Int32) (h0 : 0 ≤ k) : MX l yL_dice (Wm yL_dice method_2_code 2 (Option.some Jvm.ClassFile.FieldType.int)) 0 0 D cy [va_rf (some b), Value.int k] b L xs (fun r _ => r = dz L xs k) := by
  refine MX_of (own := "TrenchboardLaw") (by decide) rfl (by first | decide | simp [lg_sl, va_cat, vi_cat, vl_cat]) (fun p e s m below meth c A C hX hbl hbA hr => ?_)
  refine G_lv C (lv' := [(0, va_rf (some b)), (1, Value.int k)]) [0, 1] (by first | rfl | simp [lv_pick, lv_args, va_cat, vi_cat, vl_cat]) ?_
  refine G_iload_n C (x := k) 1 dL_dice_0 rfl rfl ?_
  refine G_aload_n C (x := some b) 0 dL_dice_1 rfl rfl ?_
  refine G_slen C hX hbl hbA dL_dice_2 ?_
  refine G_icmp_ge C (tgt := 12) dL_dice_3 (by decide) (fun hc => ?_) (fun hc => ?_)
  · have hn : ¬ k < nI L := by rw [ile] at hc; rw [ilt]; omega
    refine G_ldc C (v := 2142645277) (im tw_2_33) dL_dice_12 ?_
    refine G_iload_n C (x := k) 1 dL_dice_14 rfl rfl ?_
    refine G_sipush C (v := 647) dL_dice_15 (by decide) ?_
    refine G_iadd C dL_dice_18 ?_
    refine G_imul C dL_dice_19 ?_
    refine G_sipush C (v := 971) dL_dice_20 (by decide) ?_
    refine G_iload_n C (x := k) 1 dL_dice_23 rfl rfl ?_
    refine G_imul C dL_dice_24 ?_
    refine G_iload_n C (x := k) 1 dL_dice_25 rfl rfl ?_
    refine G_imul C dL_dice_26 ?_
    refine G_iadd C dL_dice_27 ?_
    refine G_sipush C (v := 503) dL_dice_28 (by decide) ?_
    refine G_iadd C dL_dice_31 ?_
    refine G_ldc C (v := 2147483647) (im tw_2_34) dL_dice_32 ?_
    refine G_iand C dL_dice_34 ?_
    exact G_iret C (mc := 0) (ms := 0) (post := fun r _ => r = dz L xs k) hr (Nat.le_refl _) (Nat.le_refl _) dL_dice_35 (by show _ = dz L xs k; unfold dz; rw [if_neg hn])
  · have hn : k < nI L := by rw [ile] at hc; rw [ilt]; omega
    refine G_aload_n C (x := some b) 0 dL_dice_6 rfl rfl ?_
    refine G_iload_n C (x := k) 1 dL_dice_7 rfl rfl ?_
    refine G_sld C hX hbl hbA (dz_in hL h0 hn) dL_dice_8 ?_
    refine G_goto C (tgt := 32) dL_dice_9 (by decide) ?_
    refine G_ldc C (v := 2147483647) (im tw_2_34) dL_dice_32 ?_
    refine G_iand C dL_dice_34 ?_
    exact G_iret C (mc := 0) (ms := 0) (post := fun r _ => r = dz L xs k) hr (Nat.le_refl _) (Nat.le_refl _) dL_dice_35 (by show _ = dz L xs k; unfold dz; rw [if_pos hn])
