theorem x_atoms_0 {args : Array Value} {s : State} {A : Nat → Prop} (hts : ∀ w ∈ AW, w.before args s = true) (hZ : zz A s s.heap) (hN : nn s) : ∀ w ∈ Bundle.ownAtoms0 R_TB 306 "java/lang/IllegalStateException" ["java/lang/RuntimeException", "java/lang/Exception"], w.before args s = true := by
  intro w hw
  by_cases hg : goodWord w = true
  · exact hts w (List.mem_append_right _ (List.mem_append_left _ (List.mem_filter.mpr ⟨hw, hg⟩)))
  · have h1 : w ∈ (Bundle.ownAtoms0 R_TB 306 "java/lang/IllegalStateException" ["java/lang/RuntimeException", "java/lang/Exception"]).filter (fun w => !goodWord w) := List.mem_filter.mpr ⟨hw, by simpa using hg⟩
    have h2 : w ∈ ([.castable "java/lang/IllegalStateException" "java/lang/IllegalStateException", .declares ⟨"java/lang/RuntimeException", "<init>", "()V"⟩, .declares ⟨"java/lang/Exception", "<init>", "()V"⟩, .declares ⟨"java/lang/Throwable", "<init>", "()V"⟩, .isRef (.static "java/lang/Throwable" "UNASSIGNED_STACK" "[Ljava/lang/StackTraceElement;"), .isRef (.static "java/lang/Throwable" "SUPPRESSED_SENTINEL" "Ljava/util/List;"), .laysStatic "java/lang/Throwable" "UNASSIGNED_STACK" "[Ljava/lang/StackTraceElement;", .laysStatic "java/lang/Throwable" "SUPPRESSED_SENTINEL" "Ljava/util/List;"] : List Cond) := (by decide +kernel : ∀ w ∈ (Bundle.ownAtoms0 R_TB 306 "java/lang/IllegalStateException" ["java/lang/RuntimeException", "java/lang/Exception"]).filter (fun w => !goodWord w), w ∈ ([.castable "java/lang/IllegalStateException" "java/lang/IllegalStateException", .declares ⟨"java/lang/RuntimeException", "<init>", "()V"⟩, .declares ⟨"java/lang/Exception", "<init>", "()V"⟩, .declares ⟨"java/lang/Throwable", "<init>", "()V"⟩, .isRef (.static "java/lang/Throwable" "UNASSIGNED_STACK" "[Ljava/lang/StackTraceElement;"), .isRef (.static "java/lang/Throwable" "SUPPRESSED_SENTINEL" "Ljava/util/List;"), .laysStatic "java/lang/Throwable" "UNASSIGNED_STACK" "[Ljava/lang/StackTraceElement;", .laysStatic "java/lang/Throwable" "SUPPRESSED_SENTINEL" "Ljava/util/List;"] : List Cond)) w h1
    simp only [List.mem_cons, List.not_mem_nil, or_false] at h2
    rcases h2 with rfl | rfl | rfl | rfl | rfl | rfl | rfl | rfl
    · exact va_Nw.use rfl hN.1
    · exact va_Nw.use rfl hN.2.2.1
    · exact va_Nw.use rfl hN.2.2.2.1
    · exact va_Nw.use rfl hN.2.2.2.2.1
    · exact hZ.1.isref
    · exact hZ.2.1.isref
    · exact hZ.1.lays
    · exact hZ.2.1.lays
theorem x_atoms_1 {args : Array Value} {s : State} {A : Nat → Prop} (hts : ∀ w ∈ AW, w.before args s = true) (hZ : zz A s s.heap) (hN : nn s) : ∀ w ∈ Bundle.ownAtoms0 R_TB 101 "java/lang/IllegalArgumentException" ["java/lang/RuntimeException", "java/lang/Exception"], w.before args s = true := by
  intro w hw
  by_cases hg : goodWord w = true
  · exact hts w (List.mem_append_right _ (List.mem_append_right _ (List.mem_filter.mpr ⟨hw, hg⟩)))
  · have h1 : w ∈ (Bundle.ownAtoms0 R_TB 101 "java/lang/IllegalArgumentException" ["java/lang/RuntimeException", "java/lang/Exception"]).filter (fun w => !goodWord w) := List.mem_filter.mpr ⟨hw, by simpa using hg⟩
    have h2 : w ∈ ([.castable "java/lang/IllegalArgumentException" "java/lang/IllegalArgumentException", .declares ⟨"java/lang/RuntimeException", "<init>", "()V"⟩, .declares ⟨"java/lang/Exception", "<init>", "()V"⟩, .declares ⟨"java/lang/Throwable", "<init>", "()V"⟩, .isRef (.static "java/lang/Throwable" "UNASSIGNED_STACK" "[Ljava/lang/StackTraceElement;"), .isRef (.static "java/lang/Throwable" "SUPPRESSED_SENTINEL" "Ljava/util/List;"), .laysStatic "java/lang/Throwable" "UNASSIGNED_STACK" "[Ljava/lang/StackTraceElement;", .laysStatic "java/lang/Throwable" "SUPPRESSED_SENTINEL" "Ljava/util/List;"] : List Cond) := (by decide +kernel : ∀ w ∈ (Bundle.ownAtoms0 R_TB 101 "java/lang/IllegalArgumentException" ["java/lang/RuntimeException", "java/lang/Exception"]).filter (fun w => !goodWord w), w ∈ ([.castable "java/lang/IllegalArgumentException" "java/lang/IllegalArgumentException", .declares ⟨"java/lang/RuntimeException", "<init>", "()V"⟩, .declares ⟨"java/lang/Exception", "<init>", "()V"⟩, .declares ⟨"java/lang/Throwable", "<init>", "()V"⟩, .isRef (.static "java/lang/Throwable" "UNASSIGNED_STACK" "[Ljava/lang/StackTraceElement;"), .isRef (.static "java/lang/Throwable" "SUPPRESSED_SENTINEL" "Ljava/util/List;"), .laysStatic "java/lang/Throwable" "UNASSIGNED_STACK" "[Ljava/lang/StackTraceElement;", .laysStatic "java/lang/Throwable" "SUPPRESSED_SENTINEL" "Ljava/util/List;"] : List Cond)) w h1
    simp only [List.mem_cons, List.not_mem_nil, or_false] at h2
    rcases h2 with rfl | rfl | rfl | rfl | rfl | rfl | rfl | rfl
    · exact va_Nw.use rfl hN.2.1
    · exact va_Nw.use rfl hN.2.2.1
    · exact va_Nw.use rfl hN.2.2.2.1
    · exact va_Nw.use rfl hN.2.2.2.2.1
    · exact hZ.1.isref
    · exact hZ.2.1.isref
    · exact hZ.1.lays
    · exact hZ.2.1.lays
