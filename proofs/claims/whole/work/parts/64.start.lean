theorem st_arr {args : Array Value} {s : State} {ty : FieldType} (h : (Cond.arrayClass ty).before args s = true) : ∃ cA : ClassId, ArrOfT s cA ty ∧ s.vm.findClass ("[" ++ ty.toString) = some cA := by
  obtain ⟨c, k, comp, h1, h2, h3⟩ := Cond.arrayClass_spec h
  exact ⟨c, fun n z => ⟨(fun q hq => by cases hq), k, h2, comp, h3⟩, h1⟩
theorem st_arr2 {args : Array Value} {s : State} {ty : FieldType} (h : (Cond.arrayOver (.array ty)).before args s = true) : ∃ cA : ClassId, ArrOfT s cA (.array ty) ∧ s.vm.findClass ("[" ++ (FieldType.array ty).toString) = some cA := by
  obtain ⟨comp, c, k, h1, h2, h3, h4⟩ := Cond.arrayOver_specA h
  exact ⟨c, fun n z => ⟨(fun q hq => by cases hq), k, h2, comp, h3⟩, h4⟩
theorem st_str {args : Array Value} {s : State} {own tx : String} {k : Nat} (h1 : (Cond.stringRef own k tx).before args s = true) (h2 : (Cond.exactly (.string own k) "java/lang/String").before args s = true) : ∃ a, vk_R own k tx a s := by
  obtain ⟨a, -, -, -, h3, -⟩ := Cond.exactly_spec h2
  exact ⟨a, vk_R.of h1 h3⟩
set_option maxHeartbeats 4000000 in
set_option maxRecDepth 100000 in
theorem st_zI {b : Nat} {s : State} (hts : ∀ w ∈ lw_tbl, w.before #[Value.ref b] s = true) : zI s :=
  ⟨⟨va_Nw.of rfl (hts (.methodLinkNest RX0 21 yX2_discriminantOf "FormRing") (by decide +kernel)), va_Nw.of rfl (hts (.methodLinkNest RX0 28 yX2_wholeRoot "FormRing") (by decide +kernel))⟩, va_AOA.of (hts (.arrayOver (.array .int)) (by decide +kernel)), va_Nw.of rfl (hts (.methodLinkNest RX2 9 yX0_init "FormRing") (by decide +kernel))⟩
set_option maxHeartbeats 4000000 in
set_option maxRecDepth 100000 in
theorem st_zX {b : Nat} {s : State} (hts : ∀ w ∈ lw_tbl, w.before #[Value.ref b] s = true) (hgv : (Jvm.Cond.and given_1 narrow_1).before #[Value.ref b] s = true) : zX (fun q : Nat => s.heap.size ≤ q) s s.heap ∧ va_Nc "java/lang/IllegalArgumentException" "java/lang/IndexOutOfBoundsException" s := by
  have hg := flat_of_before _ hgv
  have hA : ∀ a : Nat, a < s.heap.size → ¬ (fun q : Nat => s.heap.size ≤ q) a := fun a h => Nat.not_le.mpr h
  refine ⟨⟨(st_zI hts).1, ⟨?_, ?_, ?_, ?_, ?_⟩, ⟨?_, ?_, ?_, ?_, ?_, ?_, ?_⟩, ⟨?_, ?_⟩⟩, va_Nc.of (hg (.not (.castable "java/lang/IllegalArgumentException" "java/lang/IndexOutOfBoundsException")) (by decide +kernel))⟩
  · exact va_Nw.of rfl (hts (.castable "java/lang/IllegalArgumentException" "java/lang/IllegalArgumentException") (by decide +kernel))
  · exact va_Nw.of rfl (hts (.castable "java/lang/IndexOutOfBoundsException" "java/lang/IndexOutOfBoundsException") (by decide +kernel))
  · exact va_Nw.of rfl (hts (.declares (Bundle.initS "java/lang/RuntimeException")) (by decide +kernel))
  · exact va_Nw.of rfl (hts (.declares (Bundle.initS "java/lang/Exception")) (by decide +kernel))
  · exact va_Nw.of rfl (hts (.declares (Bundle.initS Bundle.tN)) (by decide +kernel))
  · exact st_str (hts (.stringRef RX2 45 "this form can't be taken") (by decide +kernel)) (hg (.exactly (.string RX2 45) "java/lang/String") (by decide +kernel))
  · exact st_str (hts (.stringRef RX2 60 "which and what are 0 to 2") (by decide +kernel)) (hg (.exactly (.string RX2 60) "java/lang/String") (by decide +kernel))
  · exact st_str (hts (.stringRef RX2 84 "k is not in the ring, or what not 0 to 2") (by decide +kernel)) (hg (.exactly (.string RX2 84) "java/lang/String") (by decide +kernel))
  · exact st_str (hts (.stringRef RX2 94 "this form couldn't be taken") (by decide +kernel)) (hg (.exactly (.string RX2 94) "java/lang/String") (by decide +kernel))
  · exact st_str (hts (.stringRef RX2 106 "i is 0 to 3") (by decide +kernel)) (hg (.exactly (.string RX2 106) "java/lang/String") (by decide +kernel))
  · exact st_str (hts (.stringRef RX2 117 "i is 0 to 3, k 0 to 511") (by decide +kernel)) (hg (.exactly (.string RX2 117) "java/lang/String") (by decide +kernel))
  · exact st_str (hts (.stringRef RX2 123 "m is above 0") (by decide +kernel)) (hg (.exactly (.string RX2 123) "java/lang/String") (by decide +kernel))
  · exact vx_Zqof (hts (.laysStatic Bundle.tN "UNASSIGNED_STACK" Bundle.steD) (by decide +kernel)) (hts (.initialized Bundle.tN) (by decide +kernel)) (hg (.isRef (.static Bundle.tN "UNASSIGNED_STACK" Bundle.steD)) (by decide +kernel)) hA
  · exact vx_Zqof (hts (.laysStatic Bundle.tN "SUPPRESSED_SENTINEL" Bundle.listD) (by decide +kernel)) (hts (.initialized Bundle.tN) (by decide +kernel)) (hg (.isRef (.static Bundle.tN "SUPPRESSED_SENTINEL" Bundle.listD)) (by decide +kernel)) hA
