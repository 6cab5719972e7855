/-! what the Statement gives of the start -/
theorem b_l {a b : Cond} {args : Array Value} {s : State} (h : (Cond.and a b).before args s = true) : a.before args s = true := by
  rw [Cond.before_and, Bool.and_eq_true] at h
  exact h.1
theorem b_r {a b : Cond} {args : Array Value} {s : State} (h : (Cond.and a b).before args s = true) : b.before args s = true := by
  rw [Cond.before_and, Bool.and_eq_true] at h
  exact h.2
theorem st_s {args : Array Value} {s : State} {own tx : String} {k : Nat} (h1 : (Cond.stringRef own k tx).before args s = true) (h2 : (Cond.exactly (Term.string own k) "java/lang/String").before args s = true) : ∃ sa, vk_R own k tx sa s := by
  obtain ⟨a, c, cell, kk, q1, -⟩ := Cond.exactly_spec h2
  exact ⟨a, vk_R.of h1 q1⟩
theorem sx_54 {args : Array Value} {s : State} (h : narrow_1_1.before args s = true) : (Cond.exactly (Term.string "Trenchboard" 54) "java/lang/String").before args s = true := b_r (b_r (b_l (b_r (b_r (b_l (b_l (b_l (b_r h))))))))
theorem sx_61 {args : Array Value} {s : State} (h : narrow_1_1.before args s = true) : (Cond.exactly (Term.string "Trenchboard" 61) "java/lang/String").before args s = true := b_r (b_r (b_r (b_l (b_r (b_r (b_l (b_l (b_r h))))))))
theorem sx_70 {args : Array Value} {s : State} (h : narrow_1_1.before args s = true) : (Cond.exactly (Term.string "Trenchboard" 70) "java/lang/String").before args s = true := b_r (b_r (b_r (b_l (b_l (b_r (b_r (b_l (b_r h))))))))
theorem sx_76 {args : Array Value} {s : State} (h : narrow_1_1.before args s = true) : (Cond.exactly (Term.string "Trenchboard" 76) "java/lang/String").before args s = true := b_r (b_r (b_r (b_r (b_r (b_r (b_r (b_l (b_r h))))))))
theorem sx_82 {args : Array Value} {s : State} (h : narrow_1_1.before args s = true) : (Cond.exactly (Term.string "Trenchboard" 82) "java/lang/String").before args s = true := b_r (b_r (b_r (b_l (b_r (b_l (b_l (b_r (b_r h))))))))
theorem sx_106 {args : Array Value} {s : State} (h : narrow_1_1.before args s = true) : (Cond.exactly (Term.string "Trenchboard" 106) "java/lang/String").before args s = true := b_r (b_r (b_r (b_r (b_l (b_r (b_l (b_r (b_r h))))))))
theorem sx_139 {args : Array Value} {s : State} (h : narrow_1_1.before args s = true) : (Cond.exactly (Term.string "Trenchboard" 139) "java/lang/String").before args s = true := b_l (b_r (b_l (b_r (b_l (b_l (b_r (b_r (b_r h))))))))
theorem sx_141 {args : Array Value} {s : State} (h : narrow_1_1.before args s = true) : (Cond.exactly (Term.string "Trenchboard" 141) "java/lang/String").before args s = true := b_l (b_r (b_l (b_r (b_r (b_r (b_r (b_r (b_r h))))))))
theorem sx_146 {args : Array Value} {s : State} (h : narrow_1_2.before args s = true) : (Cond.exactly (Term.string "Trenchboard" 146) "java/lang/String").before args s = true := b_r (b_l (b_r (b_r (b_r (b_r (b_l (b_l (b_l h))))))))
theorem sx_162 {args : Array Value} {s : State} (h : narrow_1_2.before args s = true) : (Cond.exactly (Term.string "Trenchboard" 162) "java/lang/String").before args s = true := b_l (b_r (b_l (b_r (b_l (b_r (b_l (b_l h)))))))
theorem sx_164 {args : Array Value} {s : State} (h : narrow_1_2.before args s = true) : (Cond.exactly (Term.string "Trenchboard" 164) "java/lang/String").before args s = true := b_l (b_r (b_r (b_l (b_r (b_r (b_r (b_l (b_l h))))))))
theorem sx_173 {args : Array Value} {s : State} (h : narrow_1_2.before args s = true) : (Cond.exactly (Term.string "Trenchboard" 173) "java/lang/String").before args s = true := b_r (b_r (b_r (b_l (b_r (b_r (b_l (b_r (b_l h))))))))
theorem sx_181 {args : Array Value} {s : State} (h : narrow_1_2.before args s = true) : (Cond.exactly (Term.string "Trenchboard" 181) "java/lang/String").before args s = true := b_l (b_r (b_r (b_l (b_l (b_r (b_r (b_l h)))))))
theorem sx_189 {args : Array Value} {s : State} (h : narrow_1_1.before args s = true) : (Cond.exactly (Term.string "Trenchboard" 189) "java/lang/String").before args s = true := b_l (b_r (b_l (b_r (b_l (b_l (b_r (b_l h)))))))
theorem sx_195 {args : Array Value} {s : State} (h : narrow_1_3.before args s = true) : (Cond.exactly (Term.string "Trenchboard" 195) "java/lang/String").before args s = true := b_l (b_l (b_l (b_r (b_l (b_r (b_r (b_r h)))))))
theorem sx_201 {args : Array Value} {s : State} (h : narrow_1_4.before args s = true) : (Cond.exactly (Term.string "Trenchboard" 201) "java/lang/String").before args s = true := b_l (b_l (b_r (b_l (b_r (b_l h)))))
theorem sx_206 {args : Array Value} {s : State} (h : narrow_1_4.before args s = true) : (Cond.exactly (Term.string "Trenchboard" 206) "java/lang/String").before args s = true := b_l (b_l (b_l (b_l (b_r (b_r h)))))
theorem sx_225 {args : Array Value} {s : State} (h : narrow_1_2.before args s = true) : (Cond.exactly (Term.string "Trenchboard" 225) "java/lang/String").before args s = true := b_l (b_r (b_r (b_r (b_l (b_r (b_r (b_r (b_l h))))))))
theorem sx_227 {args : Array Value} {s : State} (h : narrow_1_2.before args s = true) : (Cond.exactly (Term.string "Trenchboard" 227) "java/lang/String").before args s = true := b_r (b_r (b_l (b_l (b_l (b_l (b_l (b_l (b_r h))))))))
theorem sx_233 {args : Array Value} {s : State} (h : narrow_1_2.before args s = true) : (Cond.exactly (Term.string "Trenchboard" 233) "java/lang/String").before args s = true := b_l (b_r (b_r (b_l (b_l (b_r (b_l (b_l (b_r h))))))))
theorem sx_242 {args : Array Value} {s : State} (h : narrow_1_2.before args s = true) : (Cond.exactly (Term.string "Trenchboard" 242) "java/lang/String").before args s = true := b_l (b_r (b_l (b_l (b_l (b_r (b_l (b_r h)))))))
theorem sx_247 {args : Array Value} {s : State} (h : narrow_1_2.before args s = true) : (Cond.exactly (Term.string "Trenchboard" 247) "java/lang/String").before args s = true := b_l (b_r (b_l (b_r (b_l (b_r (b_r (b_l (b_r h))))))))
theorem sx_258 {args : Array Value} {s : State} (h : narrow_1_2.before args s = true) : (Cond.exactly (Term.string "Trenchboard" 258) "java/lang/String").before args s = true := b_l (b_r (b_r (b_l (b_l (b_l (b_r (b_r h)))))))
theorem sx_270 {args : Array Value} {s : State} (h : narrow_1_2.before args s = true) : (Cond.exactly (Term.string "Trenchboard" 270) "java/lang/String").before args s = true := b_r (b_r (b_l (b_r (b_l (b_r (b_l (b_r (b_r h))))))))
theorem sx_275 {args : Array Value} {s : State} (h : narrow_1_2.before args s = true) : (Cond.exactly (Term.string "Trenchboard" 275) "java/lang/String").before args s = true := b_r (b_r (b_r (b_r (b_r (b_l (b_r (b_r (b_r h))))))))
theorem sx_286 {args : Array Value} {s : State} (h : narrow_1_3.before args s = true) : (Cond.exactly (Term.string "Trenchboard" 286) "java/lang/String").before args s = true := b_r (b_r (b_l (b_l (b_r (b_l (b_l (b_l (b_l h))))))))
theorem sx_294 {args : Array Value} {s : State} (h : narrow_1_3.before args s = true) : (Cond.exactly (Term.string "Trenchboard" 294) "java/lang/String").before args s = true := b_r (b_r (b_r (b_r (b_r (b_r (b_l (b_l (b_l h))))))))
theorem sx_303 {args : Array Value} {s : State} (h : narrow_1_3.before args s = true) : (Cond.exactly (Term.string "Trenchboard" 303) "java/lang/String").before args s = true := b_l (b_r (b_l (b_r (b_l (b_r (b_r (b_l (b_l h))))))))
theorem sx_305 {args : Array Value} {s : State} (h : narrow_1_3.before args s = true) : (Cond.exactly (Term.string "Trenchboard" 305) "java/lang/String").before args s = true := b_l (b_l (b_r (b_l (b_l (b_l (b_r (b_l h)))))))
theorem sx_326 {args : Array Value} {s : State} (h : narrow_1_3.before args s = true) : (Cond.exactly (Term.string "Trenchboard" 326) "java/lang/String").before args s = true := b_r (b_r (b_l (b_r (b_l (b_r (b_l (b_r (b_l h))))))))
theorem sx_331 {args : Array Value} {s : State} (h : narrow_1_3.before args s = true) : (Cond.exactly (Term.string "Trenchboard" 331) "java/lang/String").before args s = true := b_l (b_r (b_l (b_r (b_r (b_r (b_l (b_r (b_l h))))))))
theorem sx_343 {args : Array Value} {s : State} (h : narrow_1_3.before args s = true) : (Cond.exactly (Term.string "Trenchboard" 343) "java/lang/String").before args s = true := b_r (b_r (b_r (b_r (b_r (b_l (b_r (b_r (b_l h))))))))
theorem sx_345 {args : Array Value} {s : State} (h : narrow_1_3.before args s = true) : (Cond.exactly (Term.string "Trenchboard" 345) "java/lang/String").before args s = true := b_r (b_r (b_l (b_r (b_r (b_r (b_r (b_r (b_l h))))))))
theorem sx_350 {args : Array Value} {s : State} (h : narrow_1_3.before args s = true) : (Cond.exactly (Term.string "Trenchboard" 350) "java/lang/String").before args s = true := b_l (b_r (b_l (b_l (b_l (b_r (b_l (b_l (b_r h))))))))
theorem sx_355 {args : Array Value} {s : State} (h : narrow_1_3.before args s = true) : (Cond.exactly (Term.string "Trenchboard" 355) "java/lang/String").before args s = true := b_l (b_r (b_r (b_r (b_r (b_r (b_l (b_l (b_r h))))))))
theorem sx_360 {args : Array Value} {s : State} (h : narrow_1_1.before args s = true) : (Cond.exactly (Term.string "Trenchboard" 360) "java/lang/String").before args s = true := b_r (b_r (b_r (b_l (b_r (b_r (b_l (b_r (b_l h))))))))
theorem sx_375 {args : Array Value} {s : State} (h : narrow_1_3.before args s = true) : (Cond.exactly (Term.string "Trenchboard" 375) "java/lang/String").before args s = true := b_l (b_l (b_r (b_r (b_l (b_r (b_l (b_r h)))))))
theorem sx_411 {args : Array Value} {s : State} (h : narrow_1_3.before args s = true) : (Cond.exactly (Term.string "Trenchboard" 411) "java/lang/String").before args s = true := b_l (b_l (b_r (b_r (b_r (b_r (b_r (b_l (b_r h))))))))
theorem sx_413 {args : Array Value} {s : State} (h : narrow_1_1.before args s = true) : (Cond.exactly (Term.string "Trenchboard" 413) "java/lang/String").before args s = true := b_r (b_r (b_l (b_l (b_r (b_l (b_r (b_r (b_l h))))))))
theorem sx_415 {args : Array Value} {s : State} (h : narrow_1_3.before args s = true) : (Cond.exactly (Term.string "Trenchboard" 415) "java/lang/String").before args s = true := b_l (b_l (b_l (b_r (b_l (b_l (b_r (b_r h)))))))
theorem sx_428 {args : Array Value} {s : State} (h : narrow_1_3.before args s = true) : (Cond.exactly (Term.string "Trenchboard" 428) "java/lang/String").before args s = true := b_r (b_r (b_r (b_l (b_r (b_r (b_l (b_r (b_r h))))))))
theorem sx_440 {args : Array Value} {s : State} (h : narrow_1_1.before args s = true) : (Cond.exactly (Term.string "Trenchboard" 440) "java/lang/String").before args s = true := b_l (b_r (b_r (b_r (b_l (b_r (b_r (b_r (b_l h))))))))
theorem st_strs {args : Array Value} {s : State} (hts : ∀ w ∈ lw_tbl, w.before args s = true) (n1 : narrow_1_1.before args s = true) (n2 : narrow_1_2.before args s = true) (n3 : narrow_1_3.before args s = true) (n4 : narrow_1_4.before args s = true) : ∀ x ∈ STRS, ∃ sa, vk_R x.1 x.2.1 x.2.2 sa s := by
  unfold STRS
  refine List.forall_mem_cons.mpr ⟨st_s (hts _ tw_2_45) (sx_54 n1), ?_⟩
  refine List.forall_mem_cons.mpr ⟨st_s (hts _ tw_2_46) (sx_61 n1), ?_⟩
  refine List.forall_mem_cons.mpr ⟨st_s (hts _ tw_2_56) (sx_70 n1), ?_⟩
  refine List.forall_mem_cons.mpr ⟨st_s (hts _ tw_2_144) (sx_76 n1), ?_⟩
  refine List.forall_mem_cons.mpr ⟨st_s (hts _ tw_2_149) (sx_82 n1), ?_⟩
  refine List.forall_mem_cons.mpr ⟨st_s (hts _ tw_3_1) (sx_106 n1), ?_⟩
  refine List.forall_mem_cons.mpr ⟨st_s (hts _ tw_3_14) (sx_139 n1), ?_⟩
  refine List.forall_mem_cons.mpr ⟨st_s (hts _ tw_3_15) (sx_141 n1), ?_⟩
  refine List.forall_mem_cons.mpr ⟨st_s (hts _ tw_3_16) (sx_146 n2), ?_⟩
  refine List.forall_mem_cons.mpr ⟨st_s (hts _ tw_3_63) (sx_162 n2), ?_⟩
  refine List.forall_mem_cons.mpr ⟨st_s (hts _ tw_3_64) (sx_164 n2), ?_⟩
  refine List.forall_mem_cons.mpr ⟨st_s (hts _ tw_3_79) (sx_173 n2), ?_⟩
  refine List.forall_mem_cons.mpr ⟨st_s (hts _ tw_3_89) (sx_181 n2), ?_⟩
  refine List.forall_mem_cons.mpr ⟨st_s (hts _ tw_1_183) (sx_189 n1), ?_⟩
  refine List.forall_mem_cons.mpr ⟨st_s (hts _ tw_4_199) (sx_195 n3), ?_⟩
  refine List.forall_mem_cons.mpr ⟨st_s (hts _ tw_4_204) (sx_201 n4), ?_⟩
  refine List.forall_mem_cons.mpr ⟨st_s (hts _ tw_4_205) (sx_206 n4), ?_⟩
  refine List.forall_mem_cons.mpr ⟨st_s (hts _ tw_3_106) (sx_225 n2), ?_⟩
  refine List.forall_mem_cons.mpr ⟨st_s (hts _ tw_3_107) (sx_227 n2), ?_⟩
  refine List.forall_mem_cons.mpr ⟨st_s (hts _ tw_3_149) (sx_233 n2), ?_⟩
  refine List.forall_mem_cons.mpr ⟨st_s (hts _ tw_3_185) (sx_242 n2), ?_⟩
  refine List.forall_mem_cons.mpr ⟨st_s (hts _ tw_3_190) (sx_247 n2), ?_⟩
  refine List.forall_mem_cons.mpr ⟨st_s (hts _ tw_3_199) (sx_258 n2), ?_⟩
  refine List.forall_mem_cons.mpr ⟨st_s (hts _ tw_3_205) (sx_270 n2), ?_⟩
  refine List.forall_mem_cons.mpr ⟨st_s (hts _ tw_3_215) (sx_275 n2), ?_⟩
  refine List.forall_mem_cons.mpr ⟨st_s (hts _ tw_3_224) (sx_286 n3), ?_⟩
  refine List.forall_mem_cons.mpr ⟨st_s (hts _ tw_3_225) (sx_294 n3), ?_⟩
  refine List.forall_mem_cons.mpr ⟨st_s (hts _ tw_3_234) (sx_303 n3), ?_⟩
  refine List.forall_mem_cons.mpr ⟨st_s (hts _ tw_3_235) (sx_305 n3), ?_⟩
  refine List.forall_mem_cons.mpr ⟨st_s (hts _ tw_4_35) (sx_326 n3), ?_⟩
  refine List.forall_mem_cons.mpr ⟨st_s (hts _ tw_4_40) (sx_331 n3), ?_⟩
  refine List.forall_mem_cons.mpr ⟨st_s (hts _ tw_4_42) (sx_343 n3), ?_⟩
  refine List.forall_mem_cons.mpr ⟨st_s (hts _ tw_4_47) (sx_345 n3), ?_⟩
  refine List.forall_mem_cons.mpr ⟨st_s (hts _ tw_4_52) (sx_350 n3), ?_⟩
  refine List.forall_mem_cons.mpr ⟨st_s (hts _ tw_4_53) (sx_355 n3), ?_⟩
  refine List.forall_mem_cons.mpr ⟨st_s (hts _ tw_1_219) (sx_360 n1), ?_⟩
  refine List.forall_mem_cons.mpr ⟨st_s (hts _ tw_4_107) (sx_375 n3), ?_⟩
  refine List.forall_mem_cons.mpr ⟨st_s (hts _ tw_4_146) (sx_411 n3), ?_⟩
  refine List.forall_mem_cons.mpr ⟨st_s (hts _ tw_2_20) (sx_413 n1), ?_⟩
  refine List.forall_mem_cons.mpr ⟨st_s (hts _ tw_4_155) (sx_415 n3), ?_⟩
  refine List.forall_mem_cons.mpr ⟨st_s (hts _ tw_4_164) (sx_428 n3), ?_⟩
  refine List.forall_mem_cons.mpr ⟨st_s (hts _ tw_2_29) (sx_440 n1), ?_⟩
  exact fun x hx => absurd hx (List.not_mem_nil)
theorem sy_arr {args : Array Value} {s : State} (h : narrow_1_1.before args s = true) : (Jvm.Cond.arrayOf (Jvm.Term.static "java/util/ArrayList" "DEFAULTCAPACITY_EMPTY_ELEMENTDATA" "[Ljava/lang/Object;") (Jvm.ClassFile.FieldType.object "java/lang/Object")).before args s = true := b_l (b_r (b_l (b_l (b_l (b_l (b_l (b_l h)))))))
theorem sy_exa {args : Array Value} {s : State} (h : narrow_1_1.before args s = true) : (Jvm.Cond.exactly (Jvm.Term.static "java/util/ArrayList" "DEFAULTCAPACITY_EMPTY_ELEMENTDATA" "[Ljava/lang/Object;") "[Ljava/lang/Object;").before args s = true := b_l (b_r (b_r (b_l (b_l (b_l (b_l (b_l (b_l h))))))))
theorem sy_len {args : Array Value} {s : State} (h : narrow_1_1.before args s = true) : (Jvm.Cond.eq (Jvm.Term.length (Jvm.Term.static "java/util/ArrayList" "DEFAULTCAPACITY_EMPTY_ELEMENTDATA" "[Ljava/lang/Object;")) (Jvm.Term.int (0 : Int32))).before args s = true := b_r (b_r (b_r (b_l (b_l (b_l (b_l (b_l (b_l h))))))))
theorem sy_una {args : Array Value} {s : State} (h : narrow_1_1.before args s = true) : (Jvm.Cond.isRef (Jvm.Term.static "java/lang/Throwable" "UNASSIGNED_STACK" "[Ljava/lang/StackTraceElement;")).before args s = true := b_l (b_l (b_r (b_l (b_l (b_l (b_l (b_l h)))))))
theorem sy_sup {args : Array Value} {s : State} (h : narrow_1_1.before args s = true) : (Jvm.Cond.isRef (Jvm.Term.static "java/lang/Throwable" "SUPPRESSED_SENTINEL" "Ljava/util/List;")).before args s = true := b_l (b_r (b_l (b_r (b_l (b_l (b_l (b_l (b_l h))))))))
theorem sy_mir {args : Array Value} {s : State} (h : narrow_1_1.before args s = true) : (Jvm.Cond.isRef (Jvm.Term.mirror "[Ljava/lang/Object;")).before args s = true := b_r (b_r (b_l (b_l (b_r (b_l (b_l (b_r (b_l h))))))))
theorem sy_nc1 {args : Array Value} {s : State} (h : narrow_1_1.before args s = true) : (Jvm.Cond.not (Jvm.Cond.castable "java/lang/IllegalArgumentException" "java/lang/IndexOutOfBoundsException")).before args s = true := b_l (b_l (b_l (b_r (b_l (b_l (b_l (b_l h)))))))
theorem sy_nc2 {args : Array Value} {s : State} (h : narrow_1_1.before args s = true) : (Jvm.Cond.not (Jvm.Cond.castable "java/lang/IllegalStateException" "java/lang/IndexOutOfBoundsException")).before args s = true := b_l (b_r (b_l (b_l (b_r (b_l (b_l (b_l (b_l h))))))))
theorem sy_nc3 {args : Array Value} {s : State} (h : narrow_1_1.before args s = true) : (Jvm.Cond.not (Jvm.Cond.castable "java/lang/IllegalStateException" "java/lang/IllegalArgumentException")).before args s = true := b_l (b_l (b_l (b_l (b_r (b_l (b_l (b_l h)))))))
