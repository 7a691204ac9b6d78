theorem law_strM {p : Program} {s : State} {m : MethodId} {meth : Method} {c : Code} {b L : Nat} {xs : Nat → Int32} (C0 : lw_At p s m meth c b L xs) : ∃ sa, vk_R "RunProverModel" 231 "width" sa s := by
  have h : (Cond.stringRef "RunProverModel" 231 "width").before #[Value.ref b] s = true := C0.2.2.2.2.2.1 _ (List.mem_of_getElem? (i := 2062) (by decide +kernel))
  have hi : (Cond.instantiable "RunProverModel" 56).before #[Value.ref b] s = true := C0.2.2.2.2.2.1 _ (wa_in _ (wbm28 7 rfl))
  obtain ⟨cur, k0, hcur, -⟩ := Cond.instantiable_spec hi
  obtain ⟨k, cf, i, a, -, -, -, -, -, hev⟩ := Cond.stringRef_spec hcur h
  exact ⟨a, vk_R.of h hev⟩
theorem law_castM {p : Program} {s : State} {m : MethodId} {meth : Method} {c : Code} {b L : Nat} {xs : Nat → Int32} (C0 : lw_At p s m meth c b L xs) : (Cond.castable "RunProverModel$Wrong" "RunProverModel$Wrong").before #[Value.ref b] s = true := C0.2.2.2.2.2.1 _ (List.mem_of_getElem? (i := 2076) (by decide +kernel))
theorem law_six {p : Program} {s : State} {m : MethodId} {meth : Method} {c : Code} {b L : Nat} {xs : Nat → Int32} (C0 : lw_At p s m meth c b L xs) : ∀ w ∈ tx_six, w.before #[Value.ref b] s = true := by
  have hN := flat_of_before _ C0.2.2.2.2.2.2.2.2.2
  have h1 : (Cond.isRef (.static "java/lang/Throwable" "UNASSIGNED_STACK" "[Ljava/lang/StackTraceElement;")).before #[Value.ref b] s = true := hN _ (by decide +kernel)
  have h2 : (Cond.isRef (.static "java/lang/Throwable" "SUPPRESSED_SENTINEL" "Ljava/util/List;")).before #[Value.ref b] s = true := hN _ (by decide +kernel)
  have h3 : (Cond.laysStatic "java/lang/Throwable" "UNASSIGNED_STACK" "[Ljava/lang/StackTraceElement;").before #[Value.ref b] s = true := C0.2.2.2.2.2.1 _ (List.mem_of_getElem? (i := 1040) (by decide +kernel))
  have h4 : (Cond.laysStatic "java/lang/Throwable" "SUPPRESSED_SENTINEL" "Ljava/util/List;").before #[Value.ref b] s = true := C0.2.2.2.2.2.1 _ (List.mem_of_getElem? (i := 1042) (by decide +kernel))
  have h5 : (Cond.initialized "java/lang/Throwable").before #[Value.ref b] s = true := C0.2.2.2.2.2.1 _ (wa_in _ (wbm40 34 rfl))
  intro w hw
  unfold tx_six at hw
  simp only [List.mem_cons, List.not_mem_nil, or_false] at hw
  rcases hw with rfl | rfl | rfl | rfl | rfl <;> assumption
