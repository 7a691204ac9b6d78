set_option maxHeartbeats 4000000 in
set_option maxRecDepth 100000 in
theorem t_Rp_end (l : Launch) (hl9 : l.stackTraces = false) (dC : Nat → ClassId) (dI : Nat → Nat → Nat) (s0 : State) (a0 : Array Value) (sa : Nat) (hw0 : ∀ w ∈ Bundle.ownAtoms "RunProver" 98 "java/lang/IllegalArgumentException" ["java/lang/RuntimeException", "java/lang/Exception"], w.before a0 s0 = true) (hi0 : (Cond.initialized "java/lang/IllegalArgumentException").before a0 s0 = true) (hst0 : vk_R "RunProver" 96 "not 0 .. the length of the tape" sa s0) (sz : Nat) (h0 : Nat) (v0 : Int32) (h1 : Nat) (h2 : Nat) (h3 : Nat) (h4 : Nat) (h5 : Nat) (h6 : Nat) (h7 : Nat) (h8 : Nat) (h9 : Nat) (h10 : Nat) (e0 : v0 < 0) : tx_Met l yRp_end wsRp_end ({ frames := 6, cells := 1, slots := 6, locals := 82 }) (va_Pc [.ref h0, .int v0] (fun U => U.heap.size = sz ∧ va_P (dC, dI) vwCl [(h0, .inr (0, [.ref h1, .ref h2, .ref h3, .ref h4, .ref h5, .ref h6, .ref h7, .ref h8, .ref h9, .ref h10, .int 0, .int 0, .int 0, .int 0, .int 0, .int 0]))] U.heap ∧ va_K (dC, dI) vwCl [] U ∧ va_D (fun _ => True) [(h0, .inr (0, [.ref h1, .ref h2, .ref h3, .ref h4, .ref h5, .ref h6, .ref h7, .ref h8, .ref h9, .ref h10, .int 0, .int 0, .int 0, .int 0, .int 0, .int 0]))] ∧ tx_At s0 U)) "java/lang/IllegalArgumentException" (va_A [(h0, .inr (0, [.ref h1, .ref h2, .ref h3, .ref h4, .ref h5, .ref h6, .ref h7, .ref h8, .ref h9, .ref h10, .int 0, .int 0, .int 0, .int 0, .int 0, .int 0]))] sz) 1 6 (va_A [(h0, .inr (0, [.ref h1, .ref h2, .ref h3, .ref h4, .ref h5, .ref h6, .ref h7, .ref h8, .ref h9, .ref h10, .int 0, .int 0, .int 0, .int 0, .int 0, .int 0]))] sz) := by
  refine tx_ofW (cc := cRp_end) (maxL := 2) (ret := (some .int)) (by decide) rfl ?_
  intro p e s m args below meth c s₁ B hml hnoex hv
  obtain ⟨rfl, hsz, hP, hK, hD0, hAt⟩ := hv
  have hx := B.exec
  have hb := B.bytes
  have hr := B.returns
  have hts := atoms_spec (ws := wsRp_end) B.pre
  have hown : s.vm.findClass "RunProver" = some m.cls := findClass_of_methodNamed B.named
  have hlocks := B.notSynchronized
  subst hsz
  have hD := hD0.self (sz := s.heap.size)
  generalize hAe : va_A [(h0, .inr (0, [.ref h1, .ref h2, .ref h3, .ref h4, .ref h5, .ref h6, .ref h7, .ref h8, .ref h9, .ref h10, .int 0, .int 0, .int 0, .int 0, .int 0, .int 0]))] s.heap.size = A at hD ⊢
  have hA : ∀ q : Nat, s.heap.size ≤ q → A q := fun q h => by rw [← hAe]; exact Or.inr h
  have hS : va_S A s.heap s.heap [] := va_S.rf
  have hP : va_P (dC, dI) vwCl [(h0, .inr (0, [.ref h1, .ref h2, .ref h3, .ref h4, .ref h5, .ref h6, .ref h7, .ref h8, .ref h9, .ref h10, .int 0, .int 0, .int 0, .int 0, .int 0, .int 0]))] s.heap := hP
  have hK0 := hK
  have hP0 := hP
  have hl := lv_entry ([.ref h0, .int v0]) (n := 2) (Nat.le_of_ble_eq_true rfl)
  rw [lg_entry_eq]
  generalize (lg_sl ([.ref h0, .int v0]) ++ List.replicate (2 - (lg_sl ([.ref h0, .int v0])).length) Slot.unset).toArray = ls at hl ⊢
  have hl : lv_has ls 2 [(0, .ref h0), (1, .int v0)] := hl
  refine lv_iload_n hx hb dRp_end_0 rfl (lv_at hl 1 rfl) ?_
  refine lv_if_lt (tgt := 12) hx hb dRp_end_1 (by decide) (fun _ => ?_) (fun h9 => absurd e0 h9)
  exact tx_throwS (own := "RunProver") (cls := "java/lang/IllegalArgumentException") (text := "not 0 .. the length of the tape") (names := ["java/lang/RuntimeException", "java/lang/Exception"]) (sa := sa) hx hb hl9 hown (by decide +kernel) (by decide +kernel) (hts (.classLink "RunProver" 94 "java/lang/IllegalArgumentException") (wam26 28 rfl)) (tx_good hAt rfl hi0) (vk_R.warm hAt.1 hst0) (tx_all hAt hw0 (by decide +kernel)) (tx_locs hK0 hP0 (fun z hz => by rw [hAe]; exact hS.2.2 z hz)) hS.1 (fun z hz => hS.2.2 z hz) (fun z hz => hS.2.2 z hz) (hl.1.trans hml.symm) dRp_end_12 dRp_end_15 dRp_end_16 dRp_end_18 dRp_end_21 hnoex (Nat.le_of_ble_eq_true rfl) (Nat.le_of_ble_eq_true rfl) (Nat.le_of_ble_eq_true rfl) (Nat.le_of_ble_eq_true rfl) hlocks
set_option maxHeartbeats 4000000 in
set_option maxRecDepth 100000 in
theorem t_Rp_end_1 (l : Launch) (hl9 : l.stackTraces = false) (dC : Nat → ClassId) (dI : Nat → Nat → Nat) (s0 : State) (a0 : Array Value) (sa : Nat) (hw0 : ∀ w ∈ Bundle.ownAtoms "RunProver" 98 "java/lang/IllegalArgumentException" ["java/lang/RuntimeException", "java/lang/Exception"], w.before a0 s0 = true) (hi0 : (Cond.initialized "java/lang/IllegalArgumentException").before a0 s0 = true) (hst0 : vk_R "RunProver" 96 "not 0 .. the length of the tape" sa s0) (sz : Nat) (h0 : Nat) (v0 : Int32) (h1 : Nat) (h2 : Nat) (h3 : Nat) (h4 : Nat) (h5 : Nat) (h6 : Nat) (h7 : Nat) (h8 : Nat) (h9 : Nat) (h10 : Nat) (e0 : ¬ v0 < 0) (e1 : 0 < v0) : tx_Met l yRp_end wsRp_end ({ frames := 6, cells := 1, slots := 6, locals := 82 }) (va_Pc [.ref h0, .int v0] (fun U => U.heap.size = sz ∧ va_P (dC, dI) vwCl [(h0, .inr (0, [.ref h1, .ref h2, .ref h3, .ref h4, .ref h5, .ref h6, .ref h7, .ref h8, .ref h9, .ref h10, .int 0, .int 0, .int 0, .int 0, .int 0, .int 0]))] U.heap ∧ va_K (dC, dI) vwCl [] U ∧ va_D (fun _ => True) [(h0, .inr (0, [.ref h1, .ref h2, .ref h3, .ref h4, .ref h5, .ref h6, .ref h7, .ref h8, .ref h9, .ref h10, .int 0, .int 0, .int 0, .int 0, .int 0, .int 0]))] ∧ tx_At s0 U)) "java/lang/IllegalArgumentException" (va_A [(h0, .inr (0, [.ref h1, .ref h2, .ref h3, .ref h4, .ref h5, .ref h6, .ref h7, .ref h8, .ref h9, .ref h10, .int 0, .int 0, .int 0, .int 0, .int 0, .int 0]))] sz) 1 6 (va_A [(h0, .inr (0, [.ref h1, .ref h2, .ref h3, .ref h4, .ref h5, .ref h6, .ref h7, .ref h8, .ref h9, .ref h10, .int 0, .int 0, .int 0, .int 0, .int 0, .int 0]))] sz) := by
  refine tx_ofW (cc := cRp_end) (maxL := 2) (ret := (some .int)) (by decide) rfl ?_
  intro p e s m args below meth c s₁ B hml hnoex hv
  obtain ⟨rfl, hsz, hP, hK, hD0, hAt⟩ := hv
  have hx := B.exec
  have hb := B.bytes
  have hr := B.returns
  have hts := atoms_spec (ws := wsRp_end) B.pre
  have hown : s.vm.findClass "RunProver" = some m.cls := findClass_of_methodNamed B.named
  have hlocks := B.notSynchronized
  subst hsz
  have hD := hD0.self (sz := s.heap.size)
  generalize hAe : va_A [(h0, .inr (0, [.ref h1, .ref h2, .ref h3, .ref h4, .ref h5, .ref h6, .ref h7, .ref h8, .ref h9, .ref h10, .int 0, .int 0, .int 0, .int 0, .int 0, .int 0]))] s.heap.size = A at hD ⊢
  have hA : ∀ q : Nat, s.heap.size ≤ q → A q := fun q h => by rw [← hAe]; exact Or.inr h
  have hS : va_S A s.heap s.heap [] := va_S.rf
  have hP : va_P (dC, dI) vwCl [(h0, .inr (0, [.ref h1, .ref h2, .ref h3, .ref h4, .ref h5, .ref h6, .ref h7, .ref h8, .ref h9, .ref h10, .int 0, .int 0, .int 0, .int 0, .int 0, .int 0]))] s.heap := hP
  have hK0 := hK
  have hP0 := hP
  have hl := lv_entry ([.ref h0, .int v0]) (n := 2) (Nat.le_of_ble_eq_true rfl)
  rw [lg_entry_eq]
  generalize (lg_sl ([.ref h0, .int v0]) ++ List.replicate (2 - (lg_sl ([.ref h0, .int v0])).length) Slot.unset).toArray = ls at hl ⊢
  have hl : lv_has ls 2 [(0, .ref h0), (1, .int v0)] := hl
  refine lv_iload_n hx hb dRp_end_0 rfl (lv_at hl 1 rfl) ?_
  refine lv_if_lt (tgt := 12) hx hb dRp_end_1 (by decide) (fun h9 => absurd h9 e0) (fun _ => ?_)
  refine lv_iload_n hx hb dRp_end_4 rfl (lv_at hl 1 rfl) ?_
  refine lv_aload_n hx hb dRp_end_5 rfl (lv_at hl 0 rfl) ?_
  refine va_get (D := (dC, dI)) (ci := 0) (v := .int 0) (C := "RunProver") (T := TRp) (N := 16) hx hb hts (inRp _) hown hK hP 0 rfl rfl 11 (by decide) (hts (.fieldLink "RunProver" 78 "RunProver" "tapeLength" "I") (wam9 35 rfl)) (fun _ h9 => h9) rfl dRp_end_6 ?_
  refine lv_icmp_le (tgt := 22) hx hb dRp_end_9 (by decide) (fun h9 => absurd e1 (Int32.not_lt.mpr h9)) (fun _ => ?_)
  exact tx_throwS (own := "RunProver") (cls := "java/lang/IllegalArgumentException") (text := "not 0 .. the length of the tape") (names := ["java/lang/RuntimeException", "java/lang/Exception"]) (sa := sa) hx hb hl9 hown (by decide +kernel) (by decide +kernel) (hts (.classLink "RunProver" 94 "java/lang/IllegalArgumentException") (wam26 28 rfl)) (tx_good hAt rfl hi0) (vk_R.warm hAt.1 hst0) (tx_all hAt hw0 (by decide +kernel)) (tx_locs hK0 hP0 (fun z hz => by rw [hAe]; exact hS.2.2 z hz)) hS.1 (fun z hz => hS.2.2 z hz) (fun z hz => hS.2.2 z hz) (hl.1.trans hml.symm) dRp_end_12 dRp_end_15 dRp_end_16 dRp_end_18 dRp_end_21 hnoex (Nat.le_of_ble_eq_true rfl) (Nat.le_of_ble_eq_true rfl) (Nat.le_of_ble_eq_true rfl) (Nat.le_of_ble_eq_true rfl) hlocks
set_option maxHeartbeats 4000000 in
set_option maxRecDepth 100000 in
theorem t_Rp_breaks (l : Launch) (hl9 : l.stackTraces = false) (dC : Nat → ClassId) (dI : Nat → Nat → Nat) (s0 : State) (a0 : Array Value) (sa : Nat) (hw0 : ∀ w ∈ tx_nse "RunProver" 166, w.before a0 s0 = true) (hi0 : (Cond.initialized "java/util/NoSuchElementException").before a0 s0 = true) (hst0 : vk_R "RunProver" 164 "no such check" sa s0) (sz : Nat) (h0 : Nat) (v0 : Int32) (h1 : Nat) (h2 : Nat) (h3 : Nat) (h4 : Nat) (h5 : Nat) (h6 : Nat) (h7 : Nat) (h8 : Nat) (h9 : Nat) (h10 : Nat) (e0 : v0 < 0) : tx_Met l yRp_breaks wsRp_breaks ({ frames := 6, cells := 1, slots := 6, locals := 82 }) (va_Pc [.ref h0, .int v0] (fun U => U.heap.size = sz ∧ va_P (dC, dI) vwCl [(h0, .inr (0, [.ref h1, .ref h2, .ref h3, .ref h4, .ref h5, .ref h6, .ref h7, .ref h8, .ref h9, .ref h10, .int 0, .int 0, .int 0, .int 0, .int 0, .int 0]))] U.heap ∧ va_K (dC, dI) vwCl [] U ∧ va_D (fun _ => True) [(h0, .inr (0, [.ref h1, .ref h2, .ref h3, .ref h4, .ref h5, .ref h6, .ref h7, .ref h8, .ref h9, .ref h10, .int 0, .int 0, .int 0, .int 0, .int 0, .int 0]))] ∧ tx_At s0 U)) "java/util/NoSuchElementException" (va_A [(h0, .inr (0, [.ref h1, .ref h2, .ref h3, .ref h4, .ref h5, .ref h6, .ref h7, .ref h8, .ref h9, .ref h10, .int 0, .int 0, .int 0, .int 0, .int 0, .int 0]))] sz) 1 6 (va_A [(h0, .inr (0, [.ref h1, .ref h2, .ref h3, .ref h4, .ref h5, .ref h6, .ref h7, .ref h8, .ref h9, .ref h10, .int 0, .int 0, .int 0, .int 0, .int 0, .int 0]))] sz) := by
  refine tx_ofW (cc := cRp_breaks) (maxL := 2) (ret := (some .int)) (by decide) rfl ?_
  intro p e s m args below meth c s₁ B hml hnoex hv
  obtain ⟨rfl, hsz, hP, hK, hD0, hAt⟩ := hv
  have hx := B.exec
  have hb := B.bytes
  have hr := B.returns
  have hts := atoms_spec (ws := wsRp_breaks) B.pre
  have hown : s.vm.findClass "RunProver" = some m.cls := findClass_of_methodNamed B.named
  have hlocks := B.notSynchronized
  subst hsz
  have hD := hD0.self (sz := s.heap.size)
  generalize hAe : va_A [(h0, .inr (0, [.ref h1, .ref h2, .ref h3, .ref h4, .ref h5, .ref h6, .ref h7, .ref h8, .ref h9, .ref h10, .int 0, .int 0, .int 0, .int 0, .int 0, .int 0]))] s.heap.size = A at hD ⊢
  have hA : ∀ q : Nat, s.heap.size ≤ q → A q := fun q h => by rw [← hAe]; exact Or.inr h
  have hS : va_S A s.heap s.heap [] := va_S.rf
  have hP : va_P (dC, dI) vwCl [(h0, .inr (0, [.ref h1, .ref h2, .ref h3, .ref h4, .ref h5, .ref h6, .ref h7, .ref h8, .ref h9, .ref h10, .int 0, .int 0, .int 0, .int 0, .int 0, .int 0]))] s.heap := hP
  have hK0 := hK
  have hP0 := hP
  have hl := lv_entry ([.ref h0, .int v0]) (n := 2) (Nat.le_of_ble_eq_true rfl)
  rw [lg_entry_eq]
  generalize (lg_sl ([.ref h0, .int v0]) ++ List.replicate (2 - (lg_sl ([.ref h0, .int v0])).length) Slot.unset).toArray = ls at hl ⊢
  have hl : lv_has ls 2 [(0, .ref h0), (1, .int v0)] := hl
  refine lv_iload_n hx hb dRp_breaks_0 rfl (lv_at hl 1 rfl) ?_
  refine lv_if_lt (tgt := 15) hx hb dRp_breaks_1 (by decide) (fun _ => ?_) (fun h9 => absurd e0 h9)
  exact tx_throwN (own := "RunProver") (text := "no such check") (sa := sa) hx hb hl9 hown (hts (.classLink "RunProver" 162 "java/util/NoSuchElementException") (wam26 38 rfl)) (tx_good hAt rfl hi0) (vk_R.warm hAt.1 hst0) (tx_all hAt hw0 (by decide +kernel)) (tx_locs hK0 hP0 (fun z hz => by rw [hAe]; exact hS.2.2 z hz)) hS.1 (fun z hz => hS.2.2 z hz) (fun z hz => hS.2.2 z hz) (hl.1.trans hml.symm) dRp_breaks_15 dRp_breaks_18 dRp_breaks_19 dRp_breaks_21 dRp_breaks_24 hnoex (Nat.le_of_ble_eq_true rfl) (Nat.le_of_ble_eq_true rfl) (Nat.le_of_ble_eq_true rfl) (Nat.le_of_ble_eq_true rfl) hlocks
set_option maxHeartbeats 4000000 in
set_option maxRecDepth 100000 in
theorem t_Rp_breaks_1 (l : Launch) (hl9 : l.stackTraces = false) (dC : Nat → ClassId) (dI : Nat → Nat → Nat) (s0 : State) (a0 : Array Value) (sa : Nat) (hw0 : ∀ w ∈ tx_nse "RunProver" 166, w.before a0 s0 = true) (hi0 : (Cond.initialized "java/util/NoSuchElementException").before a0 s0 = true) (hst0 : vk_R "RunProver" 164 "no such check" sa s0) (sz : Nat) (h0 : Nat) (v0 : Int32) (h1 : Nat) (h2 : Nat) (h3 : Nat) (h4 : Nat) (h5 : Nat) (h6 : Nat) (h7 : Nat) (h8 : Nat) (h9 : Nat) (h10 : Nat) (h11 : Nat) (h12 : Nat) (h13 : Nat) (h14 : Nat) (h15 : Nat) (h16 : Nat) (h17 : Nat) (h18 : Nat) (e0 : ¬ v0 < 0) : tx_Met l yRp_breaks wsRp_breaks ({ frames := 6, cells := 1, slots := 6, locals := 82 }) (va_Pc [.ref h0, .int v0] (fun U => U.heap.size = sz ∧ va_P (dC, dI) vwCl [(h0, .inr (0, [.ref h1, .ref h2, .ref h3, .ref h4, .ref h5, .ref h6, .ref h7, .ref h8, .ref h9, .ref h10, .int 0, .int 0, .int 0, .int 0, .int 0, .int 0])), (h2, .inr (1, [.ref h11, .ref h12, .ref h13, .ref h14, .ref h15, .ref h16, .ref h17, .ref h18, .int 0, .int 0, .int 0, .int 0, .int 0, .int 0, .int 0, .int 0, .int (-1)]))] U.heap ∧ va_K (dC, dI) vwCl [] U ∧ va_D (fun _ => True) [(h0, .inr (0, [.ref h1, .ref h2, .ref h3, .ref h4, .ref h5, .ref h6, .ref h7, .ref h8, .ref h9, .ref h10, .int 0, .int 0, .int 0, .int 0, .int 0, .int 0])), (h2, .inr (1, [.ref h11, .ref h12, .ref h13, .ref h14, .ref h15, .ref h16, .ref h17, .ref h18, .int 0, .int 0, .int 0, .int 0, .int 0, .int 0, .int 0, .int 0, .int (-1)]))] ∧ tx_At s0 U)) "java/util/NoSuchElementException" (va_A [(h0, .inr (0, [.ref h1, .ref h2, .ref h3, .ref h4, .ref h5, .ref h6, .ref h7, .ref h8, .ref h9, .ref h10, .int 0, .int 0, .int 0, .int 0, .int 0, .int 0])), (h2, .inr (1, [.ref h11, .ref h12, .ref h13, .ref h14, .ref h15, .ref h16, .ref h17, .ref h18, .int 0, .int 0, .int 0, .int 0, .int 0, .int 0, .int 0, .int 0, .int (-1)]))] sz) 1 6 (va_A [(h0, .inr (0, [.ref h1, .ref h2, .ref h3, .ref h4, .ref h5, .ref h6, .ref h7, .ref h8, .ref h9, .ref h10, .int 0, .int 0, .int 0, .int 0, .int 0, .int 0])), (h2, .inr (1, [.ref h11, .ref h12, .ref h13, .ref h14, .ref h15, .ref h16, .ref h17, .ref h18, .int 0, .int 0, .int 0, .int 0, .int 0, .int 0, .int 0, .int 0, .int (-1)]))] sz) := by
  refine tx_ofW (cc := cRp_breaks) (maxL := 2) (ret := (some .int)) (by decide) rfl ?_
  intro p e s m args below meth c s₁ B hml hnoex hv
  obtain ⟨rfl, hsz, hP, hK, hD0, hAt⟩ := hv
  have hx := B.exec
  have hb := B.bytes
  have hr := B.returns
  have hts := atoms_spec (ws := wsRp_breaks) B.pre
  have hown : s.vm.findClass "RunProver" = some m.cls := findClass_of_methodNamed B.named
  have hlocks := B.notSynchronized
  subst hsz
  have hD := hD0.self (sz := s.heap.size)
  generalize hAe : va_A [(h0, .inr (0, [.ref h1, .ref h2, .ref h3, .ref h4, .ref h5, .ref h6, .ref h7, .ref h8, .ref h9, .ref h10, .int 0, .int 0, .int 0, .int 0, .int 0, .int 0])), (h2, .inr (1, [.ref h11, .ref h12, .ref h13, .ref h14, .ref h15, .ref h16, .ref h17, .ref h18, .int 0, .int 0, .int 0, .int 0, .int 0, .int 0, .int 0, .int 0, .int (-1)]))] s.heap.size = A at hD ⊢
  have hA : ∀ q : Nat, s.heap.size ≤ q → A q := fun q h => by rw [← hAe]; exact Or.inr h
  have hS : va_S A s.heap s.heap [] := va_S.rf
  have hP : va_P (dC, dI) vwCl [(h0, .inr (0, [.ref h1, .ref h2, .ref h3, .ref h4, .ref h5, .ref h6, .ref h7, .ref h8, .ref h9, .ref h10, .int 0, .int 0, .int 0, .int 0, .int 0, .int 0])), (h2, .inr (1, [.ref h11, .ref h12, .ref h13, .ref h14, .ref h15, .ref h16, .ref h17, .ref h18, .int 0, .int 0, .int 0, .int 0, .int 0, .int 0, .int 0, .int 0, .int (-1)]))] s.heap := hP
  have hK0 := hK
  have hP0 := hP
  have hl := lv_entry ([.ref h0, .int v0]) (n := 2) (Nat.le_of_ble_eq_true rfl)
  rw [lg_entry_eq]
  generalize (lg_sl ([.ref h0, .int v0]) ++ List.replicate (2 - (lg_sl ([.ref h0, .int v0])).length) Slot.unset).toArray = ls at hl ⊢
  have hl : lv_has ls 2 [(0, .ref h0), (1, .int v0)] := hl
  refine lv_iload_n hx hb dRp_breaks_0 rfl (lv_at hl 1 rfl) ?_
  refine lv_if_lt (tgt := 15) hx hb dRp_breaks_1 (by decide) (fun h9 => absurd h9 e0) (fun _ => ?_)
  refine lv_iload_n hx hb dRp_breaks_4 rfl (lv_at hl 1 rfl) ?_
  refine lv_aload_n hx hb dRp_breaks_5 rfl (lv_at hl 0 rfl) ?_
  refine va_get (D := (dC, dI)) (ci := 0) (v := .ref h2) (C := "RunProver") (T := TRp) (N := 16) hx hb hts (inRp _) hown hK hP 0 rfl rfl 1 (by decide) (hts (.fieldLink "RunProver" 17 "RunProver" "program" "LRunProver$Program;") (wam9 25 rfl)) (fun _ h9 => h9) rfl dRp_breaks_6 ?_
  refine va_get (D := (dC, dI)) (ci := 1) (v := .int 0) (C := "RunProver$Program") (T := TPg) (N := 17) hx hb hts (inPg _) hown hK hP 1 rfl rfl 13 (by decide) (hts (.fieldLink "RunProver" 142 "RunProver$Program" "checks" "I") (wam1 20 rfl)) (fun _ h9 => h9) rfl dRp_breaks_9 ?_
  refine lv_icmp_lt (tgt := 25) hx hb dRp_breaks_12 (by decide) (fun h9 => absurd h9 e0) (fun _ => ?_)
  exact tx_throwN (own := "RunProver") (text := "no such check") (sa := sa) hx hb hl9 hown (hts (.classLink "RunProver" 162 "java/util/NoSuchElementException") (wam26 38 rfl)) (tx_good hAt rfl hi0) (vk_R.warm hAt.1 hst0) (tx_all hAt hw0 (by decide +kernel)) (tx_locs hK0 hP0 (fun z hz => by rw [hAe]; exact hS.2.2 z hz)) hS.1 (fun z hz => hS.2.2 z hz) (fun z hz => hS.2.2 z hz) (hl.1.trans hml.symm) dRp_breaks_15 dRp_breaks_18 dRp_breaks_19 dRp_breaks_21 dRp_breaks_24 hnoex (Nat.le_of_ble_eq_true rfl) (Nat.le_of_ble_eq_true rfl) (Nat.le_of_ble_eq_true rfl) (Nat.le_of_ble_eq_true rfl) hlocks
set_option maxHeartbeats 4000000 in
set_option maxRecDepth 100000 in
theorem t_Rp_reaches (l : Launch) (hl9 : l.stackTraces = false) (dC : Nat → ClassId) (dI : Nat → Nat → Nat) (s0 : State) (a0 : Array Value) (sa : Nat) (hw0 : ∀ w ∈ tx_nse "RunProver" 166, w.before a0 s0 = true) (hi0 : (Cond.initialized "java/util/NoSuchElementException").before a0 s0 = true) (hst0 : vk_R "RunProver" 164 "no such check" sa s0) (sz : Nat) (h0 : Nat) (v0 : Int32) (h1 : Nat) (h2 : Nat) (h3 : Nat) (h4 : Nat) (h5 : Nat) (h6 : Nat) (h7 : Nat) (h8 : Nat) (h9 : Nat) (h10 : Nat) (e0 : v0 < 0) : tx_Met l yRp_reaches wsRp_reaches ({ frames := 6, cells := 1, slots := 6, locals := 82 }) (va_Pc [.ref h0, .int v0] (fun U => U.heap.size = sz ∧ va_P (dC, dI) vwCl [(h0, .inr (0, [.ref h1, .ref h2, .ref h3, .ref h4, .ref h5, .ref h6, .ref h7, .ref h8, .ref h9, .ref h10, .int 0, .int 0, .int 0, .int 0, .int 0, .int 0]))] U.heap ∧ va_K (dC, dI) vwCl [] U ∧ va_D (fun _ => True) [(h0, .inr (0, [.ref h1, .ref h2, .ref h3, .ref h4, .ref h5, .ref h6, .ref h7, .ref h8, .ref h9, .ref h10, .int 0, .int 0, .int 0, .int 0, .int 0, .int 0]))] ∧ tx_At s0 U)) "java/util/NoSuchElementException" (va_A [(h0, .inr (0, [.ref h1, .ref h2, .ref h3, .ref h4, .ref h5, .ref h6, .ref h7, .ref h8, .ref h9, .ref h10, .int 0, .int 0, .int 0, .int 0, .int 0, .int 0]))] sz) 1 6 (va_A [(h0, .inr (0, [.ref h1, .ref h2, .ref h3, .ref h4, .ref h5, .ref h6, .ref h7, .ref h8, .ref h9, .ref h10, .int 0, .int 0, .int 0, .int 0, .int 0, .int 0]))] sz) := by
  refine tx_ofW (cc := cRp_reaches) (maxL := 2) (ret := (some .int)) (by decide) rfl ?_
  intro p e s m args below meth c s₁ B hml hnoex hv
  obtain ⟨rfl, hsz, hP, hK, hD0, hAt⟩ := hv
  have hx := B.exec
  have hb := B.bytes
  have hr := B.returns
  have hts := atoms_spec (ws := wsRp_reaches) B.pre
  have hown : s.vm.findClass "RunProver" = some m.cls := findClass_of_methodNamed B.named
  have hlocks := B.notSynchronized
  subst hsz
  have hD := hD0.self (sz := s.heap.size)
  generalize hAe : va_A [(h0, .inr (0, [.ref h1, .ref h2, .ref h3, .ref h4, .ref h5, .ref h6, .ref h7, .ref h8, .ref h9, .ref h10, .int 0, .int 0, .int 0, .int 0, .int 0, .int 0]))] s.heap.size = A at hD ⊢
  have hA : ∀ q : Nat, s.heap.size ≤ q → A q := fun q h => by rw [← hAe]; exact Or.inr h
  have hS : va_S A s.heap s.heap [] := va_S.rf
  have hP : va_P (dC, dI) vwCl [(h0, .inr (0, [.ref h1, .ref h2, .ref h3, .ref h4, .ref h5, .ref h6, .ref h7, .ref h8, .ref h9, .ref h10, .int 0, .int 0, .int 0, .int 0, .int 0, .int 0]))] s.heap := hP
  have hK0 := hK
  have hP0 := hP
  have hl := lv_entry ([.ref h0, .int v0]) (n := 2) (Nat.le_of_ble_eq_true rfl)
  rw [lg_entry_eq]
  generalize (lg_sl ([.ref h0, .int v0]) ++ List.replicate (2 - (lg_sl ([.ref h0, .int v0])).length) Slot.unset).toArray = ls at hl ⊢
  have hl : lv_has ls 2 [(0, .ref h0), (1, .int v0)] := hl
  refine lv_iload_n hx hb dRp_reaches_0 rfl (lv_at hl 1 rfl) ?_
  refine lv_if_lt (tgt := 15) hx hb dRp_reaches_1 (by decide) (fun _ => ?_) (fun h9 => absurd e0 h9)
  exact tx_throwN (own := "RunProver") (text := "no such check") (sa := sa) hx hb hl9 hown (hts (.classLink "RunProver" 162 "java/util/NoSuchElementException") (wam26 38 rfl)) (tx_good hAt rfl hi0) (vk_R.warm hAt.1 hst0) (tx_all hAt hw0 (by decide +kernel)) (tx_locs hK0 hP0 (fun z hz => by rw [hAe]; exact hS.2.2 z hz)) hS.1 (fun z hz => hS.2.2 z hz) (fun z hz => hS.2.2 z hz) (hl.1.trans hml.symm) dRp_reaches_15 dRp_reaches_18 dRp_reaches_19 dRp_reaches_21 dRp_reaches_24 hnoex (Nat.le_of_ble_eq_true rfl) (Nat.le_of_ble_eq_true rfl) (Nat.le_of_ble_eq_true rfl) (Nat.le_of_ble_eq_true rfl) hlocks
set_option maxHeartbeats 4000000 in
set_option maxRecDepth 100000 in
theorem t_Rp_reaches_1 (l : Launch) (hl9 : l.stackTraces = false) (dC : Nat → ClassId) (dI : Nat → Nat → Nat) (s0 : State) (a0 : Array Value) (sa : Nat) (hw0 : ∀ w ∈ tx_nse "RunProver" 166, w.before a0 s0 = true) (hi0 : (Cond.initialized "java/util/NoSuchElementException").before a0 s0 = true) (hst0 : vk_R "RunProver" 164 "no such check" sa s0) (sz : Nat) (h0 : Nat) (v0 : Int32) (h1 : Nat) (h2 : Nat) (h3 : Nat) (h4 : Nat) (h5 : Nat) (h6 : Nat) (h7 : Nat) (h8 : Nat) (h9 : Nat) (h10 : Nat) (h11 : Nat) (h12 : Nat) (h13 : Nat) (h14 : Nat) (h15 : Nat) (h16 : Nat) (h17 : Nat) (h18 : Nat) (e0 : ¬ v0 < 0) : tx_Met l yRp_reaches wsRp_reaches ({ frames := 6, cells := 1, slots := 6, locals := 82 }) (va_Pc [.ref h0, .int v0] (fun U => U.heap.size = sz ∧ va_P (dC, dI) vwCl [(h0, .inr (0, [.ref h1, .ref h2, .ref h3, .ref h4, .ref h5, .ref h6, .ref h7, .ref h8, .ref h9, .ref h10, .int 0, .int 0, .int 0, .int 0, .int 0, .int 0])), (h2, .inr (1, [.ref h11, .ref h12, .ref h13, .ref h14, .ref h15, .ref h16, .ref h17, .ref h18, .int 0, .int 0, .int 0, .int 0, .int 0, .int 0, .int 0, .int 0, .int (-1)]))] U.heap ∧ va_K (dC, dI) vwCl [] U ∧ va_D (fun _ => True) [(h0, .inr (0, [.ref h1, .ref h2, .ref h3, .ref h4, .ref h5, .ref h6, .ref h7, .ref h8, .ref h9, .ref h10, .int 0, .int 0, .int 0, .int 0, .int 0, .int 0])), (h2, .inr (1, [.ref h11, .ref h12, .ref h13, .ref h14, .ref h15, .ref h16, .ref h17, .ref h18, .int 0, .int 0, .int 0, .int 0, .int 0, .int 0, .int 0, .int 0, .int (-1)]))] ∧ tx_At s0 U)) "java/util/NoSuchElementException" (va_A [(h0, .inr (0, [.ref h1, .ref h2, .ref h3, .ref h4, .ref h5, .ref h6, .ref h7, .ref h8, .ref h9, .ref h10, .int 0, .int 0, .int 0, .int 0, .int 0, .int 0])), (h2, .inr (1, [.ref h11, .ref h12, .ref h13, .ref h14, .ref h15, .ref h16, .ref h17, .ref h18, .int 0, .int 0, .int 0, .int 0, .int 0, .int 0, .int 0, .int 0, .int (-1)]))] sz) 1 6 (va_A [(h0, .inr (0, [.ref h1, .ref h2, .ref h3, .ref h4, .ref h5, .ref h6, .ref h7, .ref h8, .ref h9, .ref h10, .int 0, .int 0, .int 0, .int 0, .int 0, .int 0])), (h2, .inr (1, [.ref h11, .ref h12, .ref h13, .ref h14, .ref h15, .ref h16, .ref h17, .ref h18, .int 0, .int 0, .int 0, .int 0, .int 0, .int 0, .int 0, .int 0, .int (-1)]))] sz) := by
  refine tx_ofW (cc := cRp_reaches) (maxL := 2) (ret := (some .int)) (by decide) rfl ?_
  intro p e s m args below meth c s₁ B hml hnoex hv
  obtain ⟨rfl, hsz, hP, hK, hD0, hAt⟩ := hv
  have hx := B.exec
  have hb := B.bytes
  have hr := B.returns
  have hts := atoms_spec (ws := wsRp_reaches) B.pre
  have hown : s.vm.findClass "RunProver" = some m.cls := findClass_of_methodNamed B.named
  have hlocks := B.notSynchronized
  subst hsz
  have hD := hD0.self (sz := s.heap.size)
  generalize hAe : va_A [(h0, .inr (0, [.ref h1, .ref h2, .ref h3, .ref h4, .ref h5, .ref h6, .ref h7, .ref h8, .ref h9, .ref h10, .int 0, .int 0, .int 0, .int 0, .int 0, .int 0])), (h2, .inr (1, [.ref h11, .ref h12, .ref h13, .ref h14, .ref h15, .ref h16, .ref h17, .ref h18, .int 0, .int 0, .int 0, .int 0, .int 0, .int 0, .int 0, .int 0, .int (-1)]))] s.heap.size = A at hD ⊢
  have hA : ∀ q : Nat, s.heap.size ≤ q → A q := fun q h => by rw [← hAe]; exact Or.inr h
  have hS : va_S A s.heap s.heap [] := va_S.rf
  have hP : va_P (dC, dI) vwCl [(h0, .inr (0, [.ref h1, .ref h2, .ref h3, .ref h4, .ref h5, .ref h6, .ref h7, .ref h8, .ref h9, .ref h10, .int 0, .int 0, .int 0, .int 0, .int 0, .int 0])), (h2, .inr (1, [.ref h11, .ref h12, .ref h13, .ref h14, .ref h15, .ref h16, .ref h17, .ref h18, .int 0, .int 0, .int 0, .int 0, .int 0, .int 0, .int 0, .int 0, .int (-1)]))] s.heap := hP
  have hK0 := hK
  have hP0 := hP
  have hl := lv_entry ([.ref h0, .int v0]) (n := 2) (Nat.le_of_ble_eq_true rfl)
  rw [lg_entry_eq]
  generalize (lg_sl ([.ref h0, .int v0]) ++ List.replicate (2 - (lg_sl ([.ref h0, .int v0])).length) Slot.unset).toArray = ls at hl ⊢
  have hl : lv_has ls 2 [(0, .ref h0), (1, .int v0)] := hl
  refine lv_iload_n hx hb dRp_reaches_0 rfl (lv_at hl 1 rfl) ?_
  refine lv_if_lt (tgt := 15) hx hb dRp_reaches_1 (by decide) (fun h9 => absurd h9 e0) (fun _ => ?_)
  refine lv_iload_n hx hb dRp_reaches_4 rfl (lv_at hl 1 rfl) ?_
  refine lv_aload_n hx hb dRp_reaches_5 rfl (lv_at hl 0 rfl) ?_
  refine va_get (D := (dC, dI)) (ci := 0) (v := .ref h2) (C := "RunProver") (T := TRp) (N := 16) hx hb hts (inRp _) hown hK hP 0 rfl rfl 1 (by decide) (hts (.fieldLink "RunProver" 17 "RunProver" "program" "LRunProver$Program;") (wam9 25 rfl)) (fun _ h9 => h9) rfl dRp_reaches_6 ?_
  refine va_get (D := (dC, dI)) (ci := 1) (v := .int 0) (C := "RunProver$Program") (T := TPg) (N := 17) hx hb hts (inPg _) hown hK hP 1 rfl rfl 13 (by decide) (hts (.fieldLink "RunProver" 142 "RunProver$Program" "checks" "I") (wam1 20 rfl)) (fun _ h9 => h9) rfl dRp_reaches_9 ?_
  refine lv_icmp_lt (tgt := 25) hx hb dRp_reaches_12 (by decide) (fun h9 => absurd h9 e0) (fun _ => ?_)
  exact tx_throwN (own := "RunProver") (text := "no such check") (sa := sa) hx hb hl9 hown (hts (.classLink "RunProver" 162 "java/util/NoSuchElementException") (wam26 38 rfl)) (tx_good hAt rfl hi0) (vk_R.warm hAt.1 hst0) (tx_all hAt hw0 (by decide +kernel)) (tx_locs hK0 hP0 (fun z hz => by rw [hAe]; exact hS.2.2 z hz)) hS.1 (fun z hz => hS.2.2 z hz) (fun z hz => hS.2.2 z hz) (hl.1.trans hml.symm) dRp_reaches_15 dRp_reaches_18 dRp_reaches_19 dRp_reaches_21 dRp_reaches_24 hnoex (Nat.le_of_ble_eq_true rfl) (Nat.le_of_ble_eq_true rfl) (Nat.le_of_ble_eq_true rfl) (Nat.le_of_ble_eq_true rfl) hlocks
set_option maxHeartbeats 4000000 in
set_option maxRecDepth 100000 in
theorem t_Rp_ends (l : Launch) (hl9 : l.stackTraces = false) (dC : Nat → ClassId) (dI : Nat → Nat → Nat) (s0 : State) (a0 : Array Value) (sa : Nat) (hw0 : ∀ w ∈ tx_nse "RunProver" 166, w.before a0 s0 = true) (hi0 : (Cond.initialized "java/util/NoSuchElementException").before a0 s0 = true) (hst0 : vk_R "RunProver" 177 "no such element or value" sa s0) (sz : Nat) (h0 : Nat) (v0 : Int32) (v1 : Int32) (v2 : Int32) (h1 : Nat) (h2 : Nat) (h3 : Nat) (h4 : Nat) (h5 : Nat) (h6 : Nat) (h7 : Nat) (h8 : Nat) (h9 : Nat) (h10 : Nat) (h11 : Nat) (h12 : Nat) (h13 : Nat) (h14 : Nat) (h15 : Nat) (h16 : Nat) (h17 : Nat) (h18 : Nat) (e0 : v0 < 0) : tx_Met l yRp_ends wsRp_ends ({ frames := 6, cells := 1, slots := 6, locals := 82 }) (va_Pc [.ref h0, .int v0, .int v1, .int v2] (fun U => U.heap.size = sz ∧ va_P (dC, dI) vwCl [(h0, .inr (0, [.ref h1, .ref h2, .ref h3, .ref h4, .ref h5, .ref h6, .ref h7, .ref h8, .ref h9, .ref h10, .int 0, .int 0, .int 0, .int 0, .int 0, .int 0])), (h2, .inr (1, [.ref h11, .ref h12, .ref h13, .ref h14, .ref h15, .ref h16, .ref h17, .ref h18, .int 0, .int 0, .int 0, .int 0, .int 0, .int 0, .int 0, .int 0, .int (-1)]))] U.heap ∧ va_K (dC, dI) vwCl [] U ∧ va_D (fun _ => True) [(h0, .inr (0, [.ref h1, .ref h2, .ref h3, .ref h4, .ref h5, .ref h6, .ref h7, .ref h8, .ref h9, .ref h10, .int 0, .int 0, .int 0, .int 0, .int 0, .int 0])), (h2, .inr (1, [.ref h11, .ref h12, .ref h13, .ref h14, .ref h15, .ref h16, .ref h17, .ref h18, .int 0, .int 0, .int 0, .int 0, .int 0, .int 0, .int 0, .int 0, .int (-1)]))] ∧ tx_At s0 U)) "java/util/NoSuchElementException" (va_A [(h0, .inr (0, [.ref h1, .ref h2, .ref h3, .ref h4, .ref h5, .ref h6, .ref h7, .ref h8, .ref h9, .ref h10, .int 0, .int 0, .int 0, .int 0, .int 0, .int 0])), (h2, .inr (1, [.ref h11, .ref h12, .ref h13, .ref h14, .ref h15, .ref h16, .ref h17, .ref h18, .int 0, .int 0, .int 0, .int 0, .int 0, .int 0, .int 0, .int 0, .int (-1)]))] sz) 1 6 (va_A [(h0, .inr (0, [.ref h1, .ref h2, .ref h3, .ref h4, .ref h5, .ref h6, .ref h7, .ref h8, .ref h9, .ref h10, .int 0, .int 0, .int 0, .int 0, .int 0, .int 0])), (h2, .inr (1, [.ref h11, .ref h12, .ref h13, .ref h14, .ref h15, .ref h16, .ref h17, .ref h18, .int 0, .int 0, .int 0, .int 0, .int 0, .int 0, .int 0, .int 0, .int (-1)]))] sz) := by
  refine tx_ofW (cc := cRp_ends) (maxL := 7) (ret := (some .int)) (by decide) rfl ?_
  intro p e s m args below meth c s₁ B hml hnoex hv
  obtain ⟨rfl, hsz, hP, hK, hD0, hAt⟩ := hv
  have hx := B.exec
  have hb := B.bytes
  have hr := B.returns
  have hts := atoms_spec (ws := wsRp_ends) B.pre
  have hown : s.vm.findClass "RunProver" = some m.cls := findClass_of_methodNamed B.named
  have hlocks := B.notSynchronized
  subst hsz
  have hD := hD0.self (sz := s.heap.size)
  generalize hAe : va_A [(h0, .inr (0, [.ref h1, .ref h2, .ref h3, .ref h4, .ref h5, .ref h6, .ref h7, .ref h8, .ref h9, .ref h10, .int 0, .int 0, .int 0, .int 0, .int 0, .int 0])), (h2, .inr (1, [.ref h11, .ref h12, .ref h13, .ref h14, .ref h15, .ref h16, .ref h17, .ref h18, .int 0, .int 0, .int 0, .int 0, .int 0, .int 0, .int 0, .int 0, .int (-1)]))] s.heap.size = A at hD ⊢
  have hA : ∀ q : Nat, s.heap.size ≤ q → A q := fun q h => by rw [← hAe]; exact Or.inr h
  have hS : va_S A s.heap s.heap [] := va_S.rf
  have hP : va_P (dC, dI) vwCl [(h0, .inr (0, [.ref h1, .ref h2, .ref h3, .ref h4, .ref h5, .ref h6, .ref h7, .ref h8, .ref h9, .ref h10, .int 0, .int 0, .int 0, .int 0, .int 0, .int 0])), (h2, .inr (1, [.ref h11, .ref h12, .ref h13, .ref h14, .ref h15, .ref h16, .ref h17, .ref h18, .int 0, .int 0, .int 0, .int 0, .int 0, .int 0, .int 0, .int 0, .int (-1)]))] s.heap := hP
  have hK0 := hK
  have hP0 := hP
  have hl := lv_entry ([.ref h0, .int v0, .int v1, .int v2]) (n := 7) (Nat.le_of_ble_eq_true rfl)
  rw [lg_entry_eq]
  generalize (lg_sl ([.ref h0, .int v0, .int v1, .int v2]) ++ List.replicate (7 - (lg_sl ([.ref h0, .int v0, .int v1, .int v2])).length) Slot.unset).toArray = ls at hl ⊢
  have hl : lv_has ls 7 [(0, .ref h0), (1, .int v0), (2, .int v1), (3, .int v2)] := hl
  refine lv_aload_n hx hb dRp_ends_0 rfl (lv_at hl 0 rfl) ?_
  refine va_get (D := (dC, dI)) (ci := 0) (v := .ref h2) (C := "RunProver") (T := TRp) (N := 16) hx hb hts (inRp _) hown hK hP 0 rfl rfl 1 (by decide) (hts (.fieldLink "RunProver" 17 "RunProver" "program" "LRunProver$Program;") (wam9 25 rfl)) (fun _ h9 => h9) rfl dRp_ends_1 ?_
  refine lv_iload_n hx hb dRp_ends_4 rfl (lv_at hl 1 rfl) ?_
  refine lv_iload_n hx hb dRp_ends_5 rfl (lv_at hl 2 rfl) ?_
  have hPc := hP.sub (ws' := [(h2, .inr (1, [.ref h11, .ref h12, .ref h13, .ref h14, .ref h15, .ref h16, .ref h17, .ref h18, .int 0, .int 0, .int 0, .int 0, .int 0, .int 0, .int 0, .int 0, .int (-1)]))]) [1] rfl
  have hDc := hD.sub (ws' := [(h2, .inr (1, [.ref h11, .ref h12, .ref h13, .ref h14, .ref h15, .ref h16, .ref h17, .ref h18, .int 0, .int 0, .int 0, .int 0, .int 0, .int 0, .int 0, .int 0, .int (-1)]))]) [1] (by decide) rfl
  have hKc := hK.sub (tys' := []) [] rfl
  have hFc := va_free (wc := [(h2, .inr (1, [.ref h11, .ref h12, .ref h13, .ref h14, .ref h15, .ref h16, .ref h17, .ref h18, .int 0, .int 0, .int 0, .int 0, .int 0, .int 0, .int 0, .int 0, .int (-1)]))]) hD hS hA [1] rfl
  refine va_calli (va_runV (As := [.int v0, .int v1]) (rest := []) ⟨hx, hb, hml, hown, hts⟩ (c_Pg_hasElement l dC dI s.heap.size h2 v0 v1 h11 h12 h13 h14 h15 h16 h17 h18 e0) (cwV 2 hts (gV (wbm27 14 rfl) (wbm27 15 rfl) (wbm27 16 rfl) (wbm0 2 rfl) (wbm27 17 rfl)) rfl rfl rfl (by decide +kernel) ⟨Nat.le_of_ble_eq_true rfl, Nat.le_of_ble_eq_true rfl⟩) ⟨fun a U g mk q => by obtain ⟨q0, q1, qP, qK, qD⟩ := q; exact ⟨q0, q1, qP, va_K.moved (u := U) (U := U.calling g mk a) (Vm.Alike.refl U.vm) qK, qD⟩, va_recv hKc hPc (ci := 1) (q0 := 0) rfl rfl, fun U hU hW => ⟨rfl, by rw [hU], by rw [hU]; exact hPc, va_K.moved hW.alike hKc, hDc.weaken (fun _ _ _ _ => trivial)⟩⟩ rfl rfl hl.1 rfl (lv_room (Nat.le_of_ble_eq_true rfl)) dRp_ends_6 ⟨Nat.le_of_ble_eq_true rfl, Nat.le_of_ble_eq_true rfl⟩) hS (fun q _ h => hFc q h) hFc (fun r_1 u t H1 locs ht hvm hw hB hz1 hk1 hS => ?_)
  obtain ⟨hP1, hK1, hD1⟩ := hB
  rw [ht] at hP1
  have hK1 := va_K.moved hvm.symm hK1
  try dsimp only at hw
  obtain ⟨hP, hD⟩ := va_join (wr := [(h0, .inr (0, [.ref h1, .ref h2, .ref h3, .ref h4, .ref h5, .ref h6, .ref h7, .ref h8, .ref h9, .ref h10, .int 0, .int 0, .int 0, .int 0, .int 0, .int 0]))]) (w1 := [(h2, .inr (1, [.ref h11, .ref h12, .ref h13, .ref h14, .ref h15, .ref h16, .ref h17, .ref h18, .int 0, .int 0, .int 0, .int 0, .int 0, .int 0, .int 0, .int 0, .int (-1)]))]) hP hD [1] [0] rfl rfl (by decide) (by decide) hk1 hFc hP1 hD1
  have hK := (hK.sub (tys' := []) [] rfl).app hK1
  generalize H1 = H at hP hS ⊢
  have hP : va_P (dC, dI) vwCl [(h0, .inr (0, [.ref h1, .ref h2, .ref h3, .ref h4, .ref h5, .ref h6, .ref h7, .ref h8, .ref h9, .ref h10, .int 0, .int 0, .int 0, .int 0, .int 0, .int 0])), (h2, .inr (1, [.ref h11, .ref h12, .ref h13, .ref h14, .ref h15, .ref h16, .ref h17, .ref h18, .int 0, .int 0, .int 0, .int 0, .int 0, .int 0, .int 0, .int 0, .int (-1)]))] H := hP
  have hD : va_D A [(h0, .inr (0, [.ref h1, .ref h2, .ref h3, .ref h4, .ref h5, .ref h6, .ref h7, .ref h8, .ref h9, .ref h10, .int 0, .int 0, .int 0, .int 0, .int 0, .int 0])), (h2, .inr (1, [.ref h11, .ref h12, .ref h13, .ref h14, .ref h15, .ref h16, .ref h17, .ref h18, .int 0, .int 0, .int 0, .int 0, .int 0, .int 0, .int 0, .int 0, .int (-1)]))] := hD
  have hK : va_K (dC, dI) vwCl [] s := hK
  obtain rfl : r_1 = (0 : Int32) := hw
  refine lv_if_eq (tgt := 29) hx hb dRp_ends_9 (by decide) (fun _ => ?_) (fun h9 => absurd h9 (by decide))
  exact tx_throwN (own := "RunProver") (text := "no such element or value") (sa := sa) hx hb hl9 hown (hts (.classLink "RunProver" 162 "java/util/NoSuchElementException") (wam26 38 rfl)) (tx_good hAt rfl hi0) (vk_R.warm hAt.1 hst0) (tx_all hAt hw0 (by decide +kernel)) (tx_locs hK0 hP0 (fun z hz => by rw [hAe]; exact hS.2.2 z hz)) hS.1 (fun z hz => hS.2.2 z hz) (fun z hz => hS.2.2 z hz) (hl.1.trans hml.symm) dRp_ends_29 dRp_ends_32 dRp_ends_33 dRp_ends_35 dRp_ends_38 hnoex (Nat.le_of_ble_eq_true rfl) (Nat.le_of_ble_eq_true rfl) (Nat.le_of_ble_eq_true rfl) (Nat.le_of_ble_eq_true rfl) hlocks
set_option maxHeartbeats 4000000 in
set_option maxRecDepth 100000 in
theorem t_Rp_ends_1 (l : Launch) (hl9 : l.stackTraces = false) (dC : Nat → ClassId) (dI : Nat → Nat → Nat) (s0 : State) (a0 : Array Value) (sa : Nat) (hw0 : ∀ w ∈ tx_nse "RunProver" 166, w.before a0 s0 = true) (hi0 : (Cond.initialized "java/util/NoSuchElementException").before a0 s0 = true) (hst0 : vk_R "RunProver" 177 "no such element or value" sa s0) (sz : Nat) (h0 : Nat) (v0 : Int32) (v1 : Int32) (v2 : Int32) (h1 : Nat) (h2 : Nat) (h3 : Nat) (h4 : Nat) (h5 : Nat) (h6 : Nat) (h7 : Nat) (h8 : Nat) (h9 : Nat) (h10 : Nat) (h11 : Nat) (h12 : Nat) (h13 : Nat) (h14 : Nat) (h15 : Nat) (h16 : Nat) (h17 : Nat) (h18 : Nat) (e0 : ¬ v0 < 0) : tx_Met l yRp_ends wsRp_ends ({ frames := 6, cells := 1, slots := 6, locals := 82 }) (va_Pc [.ref h0, .int v0, .int v1, .int v2] (fun U => U.heap.size = sz ∧ va_P (dC, dI) vwCl [(h0, .inr (0, [.ref h1, .ref h2, .ref h3, .ref h4, .ref h5, .ref h6, .ref h7, .ref h8, .ref h9, .ref h10, .int 0, .int 0, .int 0, .int 0, .int 0, .int 0])), (h2, .inr (1, [.ref h11, .ref h12, .ref h13, .ref h14, .ref h15, .ref h16, .ref h17, .ref h18, .int 0, .int 0, .int 0, .int 0, .int 0, .int 0, .int 0, .int 0, .int (-1)]))] U.heap ∧ va_K (dC, dI) vwCl [] U ∧ va_D (fun _ => True) [(h0, .inr (0, [.ref h1, .ref h2, .ref h3, .ref h4, .ref h5, .ref h6, .ref h7, .ref h8, .ref h9, .ref h10, .int 0, .int 0, .int 0, .int 0, .int 0, .int 0])), (h2, .inr (1, [.ref h11, .ref h12, .ref h13, .ref h14, .ref h15, .ref h16, .ref h17, .ref h18, .int 0, .int 0, .int 0, .int 0, .int 0, .int 0, .int 0, .int 0, .int (-1)]))] ∧ tx_At s0 U)) "java/util/NoSuchElementException" (va_A [(h0, .inr (0, [.ref h1, .ref h2, .ref h3, .ref h4, .ref h5, .ref h6, .ref h7, .ref h8, .ref h9, .ref h10, .int 0, .int 0, .int 0, .int 0, .int 0, .int 0])), (h2, .inr (1, [.ref h11, .ref h12, .ref h13, .ref h14, .ref h15, .ref h16, .ref h17, .ref h18, .int 0, .int 0, .int 0, .int 0, .int 0, .int 0, .int 0, .int 0, .int (-1)]))] sz) 1 6 (va_A [(h0, .inr (0, [.ref h1, .ref h2, .ref h3, .ref h4, .ref h5, .ref h6, .ref h7, .ref h8, .ref h9, .ref h10, .int 0, .int 0, .int 0, .int 0, .int 0, .int 0])), (h2, .inr (1, [.ref h11, .ref h12, .ref h13, .ref h14, .ref h15, .ref h16, .ref h17, .ref h18, .int 0, .int 0, .int 0, .int 0, .int 0, .int 0, .int 0, .int 0, .int (-1)]))] sz) := by
  refine tx_ofW (cc := cRp_ends) (maxL := 7) (ret := (some .int)) (by decide) rfl ?_
  intro p e s m args below meth c s₁ B hml hnoex hv
  obtain ⟨rfl, hsz, hP, hK, hD0, hAt⟩ := hv
  have hx := B.exec
  have hb := B.bytes
  have hr := B.returns
  have hts := atoms_spec (ws := wsRp_ends) B.pre
  have hown : s.vm.findClass "RunProver" = some m.cls := findClass_of_methodNamed B.named
  have hlocks := B.notSynchronized
  subst hsz
  have hD := hD0.self (sz := s.heap.size)
  generalize hAe : va_A [(h0, .inr (0, [.ref h1, .ref h2, .ref h3, .ref h4, .ref h5, .ref h6, .ref h7, .ref h8, .ref h9, .ref h10, .int 0, .int 0, .int 0, .int 0, .int 0, .int 0])), (h2, .inr (1, [.ref h11, .ref h12, .ref h13, .ref h14, .ref h15, .ref h16, .ref h17, .ref h18, .int 0, .int 0, .int 0, .int 0, .int 0, .int 0, .int 0, .int 0, .int (-1)]))] s.heap.size = A at hD ⊢
  have hA : ∀ q : Nat, s.heap.size ≤ q → A q := fun q h => by rw [← hAe]; exact Or.inr h
  have hS : va_S A s.heap s.heap [] := va_S.rf
  have hP : va_P (dC, dI) vwCl [(h0, .inr (0, [.ref h1, .ref h2, .ref h3, .ref h4, .ref h5, .ref h6, .ref h7, .ref h8, .ref h9, .ref h10, .int 0, .int 0, .int 0, .int 0, .int 0, .int 0])), (h2, .inr (1, [.ref h11, .ref h12, .ref h13, .ref h14, .ref h15, .ref h16, .ref h17, .ref h18, .int 0, .int 0, .int 0, .int 0, .int 0, .int 0, .int 0, .int 0, .int (-1)]))] s.heap := hP
  have hK0 := hK
  have hP0 := hP
  have hl := lv_entry ([.ref h0, .int v0, .int v1, .int v2]) (n := 7) (Nat.le_of_ble_eq_true rfl)
  rw [lg_entry_eq]
  generalize (lg_sl ([.ref h0, .int v0, .int v1, .int v2]) ++ List.replicate (7 - (lg_sl ([.ref h0, .int v0, .int v1, .int v2])).length) Slot.unset).toArray = ls at hl ⊢
  have hl : lv_has ls 7 [(0, .ref h0), (1, .int v0), (2, .int v1), (3, .int v2)] := hl
  refine lv_aload_n hx hb dRp_ends_0 rfl (lv_at hl 0 rfl) ?_
  refine va_get (D := (dC, dI)) (ci := 0) (v := .ref h2) (C := "RunProver") (T := TRp) (N := 16) hx hb hts (inRp _) hown hK hP 0 rfl rfl 1 (by decide) (hts (.fieldLink "RunProver" 17 "RunProver" "program" "LRunProver$Program;") (wam9 25 rfl)) (fun _ h9 => h9) rfl dRp_ends_1 ?_
  refine lv_iload_n hx hb dRp_ends_4 rfl (lv_at hl 1 rfl) ?_
  refine lv_iload_n hx hb dRp_ends_5 rfl (lv_at hl 2 rfl) ?_
  have hPc := hP.sub (ws' := [(h2, .inr (1, [.ref h11, .ref h12, .ref h13, .ref h14, .ref h15, .ref h16, .ref h17, .ref h18, .int 0, .int 0, .int 0, .int 0, .int 0, .int 0, .int 0, .int 0, .int (-1)]))]) [1] rfl
  have hDc := hD.sub (ws' := [(h2, .inr (1, [.ref h11, .ref h12, .ref h13, .ref h14, .ref h15, .ref h16, .ref h17, .ref h18, .int 0, .int 0, .int 0, .int 0, .int 0, .int 0, .int 0, .int 0, .int (-1)]))]) [1] (by decide) rfl
  have hKc := hK.sub (tys' := []) [] rfl
  have hFc := va_free (wc := [(h2, .inr (1, [.ref h11, .ref h12, .ref h13, .ref h14, .ref h15, .ref h16, .ref h17, .ref h18, .int 0, .int 0, .int 0, .int 0, .int 0, .int 0, .int 0, .int 0, .int (-1)]))]) hD hS hA [1] rfl
  refine va_calli (va_runV (As := [.int v0, .int v1]) (rest := []) ⟨hx, hb, hml, hown, hts⟩ (c_Pg_hasElement_1 l dC dI s.heap.size h2 v0 v1 h11 h12 h13 h14 h15 h16 h17 h18 e0) (cwV 2 hts (gV (wbm27 14 rfl) (wbm27 15 rfl) (wbm27 16 rfl) (wbm0 2 rfl) (wbm27 17 rfl)) rfl rfl rfl (by decide +kernel) ⟨Nat.le_of_ble_eq_true rfl, Nat.le_of_ble_eq_true rfl⟩) ⟨fun a U g mk q => by obtain ⟨q0, q1, qP, qK, qD⟩ := q; exact ⟨q0, q1, qP, va_K.moved (u := U) (U := U.calling g mk a) (Vm.Alike.refl U.vm) qK, qD⟩, va_recv hKc hPc (ci := 1) (q0 := 0) rfl rfl, fun U hU hW => ⟨rfl, by rw [hU], by rw [hU]; exact hPc, va_K.moved hW.alike hKc, hDc.weaken (fun _ _ _ _ => trivial)⟩⟩ rfl rfl hl.1 rfl (lv_room (Nat.le_of_ble_eq_true rfl)) dRp_ends_6 ⟨Nat.le_of_ble_eq_true rfl, Nat.le_of_ble_eq_true rfl⟩) hS (fun q _ h => hFc q h) hFc (fun r_1 u t H1 locs ht hvm hw hB hz1 hk1 hS => ?_)
  obtain ⟨hP1, hK1, hD1⟩ := hB
  rw [ht] at hP1
  have hK1 := va_K.moved hvm.symm hK1
  try dsimp only at hw
  obtain ⟨hP, hD⟩ := va_join (wr := [(h0, .inr (0, [.ref h1, .ref h2, .ref h3, .ref h4, .ref h5, .ref h6, .ref h7, .ref h8, .ref h9, .ref h10, .int 0, .int 0, .int 0, .int 0, .int 0, .int 0]))]) (w1 := [(h2, .inr (1, [.ref h11, .ref h12, .ref h13, .ref h14, .ref h15, .ref h16, .ref h17, .ref h18, .int 0, .int 0, .int 0, .int 0, .int 0, .int 0, .int 0, .int 0, .int (-1)]))]) hP hD [1] [0] rfl rfl (by decide) (by decide) hk1 hFc hP1 hD1
  have hK := (hK.sub (tys' := []) [] rfl).app hK1
  generalize H1 = H at hP hS ⊢
  have hP : va_P (dC, dI) vwCl [(h0, .inr (0, [.ref h1, .ref h2, .ref h3, .ref h4, .ref h5, .ref h6, .ref h7, .ref h8, .ref h9, .ref h10, .int 0, .int 0, .int 0, .int 0, .int 0, .int 0])), (h2, .inr (1, [.ref h11, .ref h12, .ref h13, .ref h14, .ref h15, .ref h16, .ref h17, .ref h18, .int 0, .int 0, .int 0, .int 0, .int 0, .int 0, .int 0, .int 0, .int (-1)]))] H := hP
  have hD : va_D A [(h0, .inr (0, [.ref h1, .ref h2, .ref h3, .ref h4, .ref h5, .ref h6, .ref h7, .ref h8, .ref h9, .ref h10, .int 0, .int 0, .int 0, .int 0, .int 0, .int 0])), (h2, .inr (1, [.ref h11, .ref h12, .ref h13, .ref h14, .ref h15, .ref h16, .ref h17, .ref h18, .int 0, .int 0, .int 0, .int 0, .int 0, .int 0, .int 0, .int 0, .int (-1)]))] := hD
  have hK : va_K (dC, dI) vwCl [] s := hK
  obtain rfl : r_1 = (0 : Int32) := hw
  refine lv_if_eq (tgt := 29) hx hb dRp_ends_9 (by decide) (fun _ => ?_) (fun h9 => absurd h9 (by decide))
  exact tx_throwN (own := "RunProver") (text := "no such element or value") (sa := sa) hx hb hl9 hown (hts (.classLink "RunProver" 162 "java/util/NoSuchElementException") (wam26 38 rfl)) (tx_good hAt rfl hi0) (vk_R.warm hAt.1 hst0) (tx_all hAt hw0 (by decide +kernel)) (tx_locs hK0 hP0 (fun z hz => by rw [hAe]; exact hS.2.2 z hz)) hS.1 (fun z hz => hS.2.2 z hz) (fun z hz => hS.2.2 z hz) (hl.1.trans hml.symm) dRp_ends_29 dRp_ends_32 dRp_ends_33 dRp_ends_35 dRp_ends_38 hnoex (Nat.le_of_ble_eq_true rfl) (Nat.le_of_ble_eq_true rfl) (Nat.le_of_ble_eq_true rfl) (Nat.le_of_ble_eq_true rfl) hlocks
set_option maxHeartbeats 4000000 in
set_option maxRecDepth 100000 in
theorem t_Rp_check (l : Launch) (hl9 : l.stackTraces = false) (dC : Nat → ClassId) (dI : Nat → Nat → Nat) (s0 : State) (a0 : Array Value) (sa : Nat) (hw0 : ∀ w ∈ tx_nse "RunProver" 166, w.before a0 s0 = true) (hi0 : (Cond.initialized "java/util/NoSuchElementException").before a0 s0 = true) (hst0 : vk_R "RunProver" 164 "no such check" sa s0) (sz : Nat) (h0 : Nat) (v0 : Int32) (v1 : Int32) (h1 : Nat) (h2 : Nat) (h3 : Nat) (h4 : Nat) (h5 : Nat) (h6 : Nat) (h7 : Nat) (h8 : Nat) (h9 : Nat) (h10 : Nat) (e0 : v0 < 0) : tx_Met l yRp_check wsRp_check ({ frames := 6, cells := 1, slots := 6, locals := 82 }) (va_Pc [.ref h0, .int v0, .int v1] (fun U => U.heap.size = sz ∧ va_P (dC, dI) vwCl [(h0, .inr (0, [.ref h1, .ref h2, .ref h3, .ref h4, .ref h5, .ref h6, .ref h7, .ref h8, .ref h9, .ref h10, .int 0, .int 0, .int 0, .int 0, .int 0, .int 0]))] U.heap ∧ va_K (dC, dI) vwCl [] U ∧ va_D (fun _ => True) [(h0, .inr (0, [.ref h1, .ref h2, .ref h3, .ref h4, .ref h5, .ref h6, .ref h7, .ref h8, .ref h9, .ref h10, .int 0, .int 0, .int 0, .int 0, .int 0, .int 0]))] ∧ tx_At s0 U)) "java/util/NoSuchElementException" (va_A [(h0, .inr (0, [.ref h1, .ref h2, .ref h3, .ref h4, .ref h5, .ref h6, .ref h7, .ref h8, .ref h9, .ref h10, .int 0, .int 0, .int 0, .int 0, .int 0, .int 0]))] sz) 1 6 (va_A [(h0, .inr (0, [.ref h1, .ref h2, .ref h3, .ref h4, .ref h5, .ref h6, .ref h7, .ref h8, .ref h9, .ref h10, .int 0, .int 0, .int 0, .int 0, .int 0, .int 0]))] sz) := by
  refine tx_ofW (cc := cRp_check) (maxL := 3) (ret := (some .int)) (by decide) rfl ?_
  intro p e s m args below meth c s₁ B hml hnoex hv
  obtain ⟨rfl, hsz, hP, hK, hD0, hAt⟩ := hv
  have hx := B.exec
  have hb := B.bytes
  have hr := B.returns
  have hts := atoms_spec (ws := wsRp_check) B.pre
  have hown : s.vm.findClass "RunProver" = some m.cls := findClass_of_methodNamed B.named
  have hlocks := B.notSynchronized
  subst hsz
  have hD := hD0.self (sz := s.heap.size)
  generalize hAe : va_A [(h0, .inr (0, [.ref h1, .ref h2, .ref h3, .ref h4, .ref h5, .ref h6, .ref h7, .ref h8, .ref h9, .ref h10, .int 0, .int 0, .int 0, .int 0, .int 0, .int 0]))] s.heap.size = A at hD ⊢
  have hA : ∀ q : Nat, s.heap.size ≤ q → A q := fun q h => by rw [← hAe]; exact Or.inr h
  have hS : va_S A s.heap s.heap [] := va_S.rf
  have hP : va_P (dC, dI) vwCl [(h0, .inr (0, [.ref h1, .ref h2, .ref h3, .ref h4, .ref h5, .ref h6, .ref h7, .ref h8, .ref h9, .ref h10, .int 0, .int 0, .int 0, .int 0, .int 0, .int 0]))] s.heap := hP
  have hK0 := hK
  have hP0 := hP
  have hl := lv_entry ([.ref h0, .int v0, .int v1]) (n := 3) (Nat.le_of_ble_eq_true rfl)
  rw [lg_entry_eq]
  generalize (lg_sl ([.ref h0, .int v0, .int v1]) ++ List.replicate (3 - (lg_sl ([.ref h0, .int v0, .int v1])).length) Slot.unset).toArray = ls at hl ⊢
  have hl : lv_has ls 3 [(0, .ref h0), (1, .int v0), (2, .int v1)] := hl
  refine lv_iload_n hx hb dRp_check_0 rfl (lv_at hl 1 rfl) ?_
  refine lv_if_lt (tgt := 15) hx hb dRp_check_1 (by decide) (fun _ => ?_) (fun h9 => absurd e0 h9)
  exact tx_throwN (own := "RunProver") (text := "no such check") (sa := sa) hx hb hl9 hown (hts (.classLink "RunProver" 162 "java/util/NoSuchElementException") (wam26 38 rfl)) (tx_good hAt rfl hi0) (vk_R.warm hAt.1 hst0) (tx_all hAt hw0 (by decide +kernel)) (tx_locs hK0 hP0 (fun z hz => by rw [hAe]; exact hS.2.2 z hz)) hS.1 (fun z hz => hS.2.2 z hz) (fun z hz => hS.2.2 z hz) (hl.1.trans hml.symm) dRp_check_15 dRp_check_18 dRp_check_19 dRp_check_21 dRp_check_24 hnoex (Nat.le_of_ble_eq_true rfl) (Nat.le_of_ble_eq_true rfl) (Nat.le_of_ble_eq_true rfl) (Nat.le_of_ble_eq_true rfl) hlocks
set_option maxHeartbeats 4000000 in
set_option maxRecDepth 100000 in
theorem t_Rp_check_1 (l : Launch) (hl9 : l.stackTraces = false) (dC : Nat → ClassId) (dI : Nat → Nat → Nat) (s0 : State) (a0 : Array Value) (sa : Nat) (hw0 : ∀ w ∈ tx_nse "RunProver" 166, w.before a0 s0 = true) (hi0 : (Cond.initialized "java/util/NoSuchElementException").before a0 s0 = true) (hst0 : vk_R "RunProver" 164 "no such check" sa s0) (sz : Nat) (h0 : Nat) (v0 : Int32) (v1 : Int32) (h1 : Nat) (h2 : Nat) (h3 : Nat) (h4 : Nat) (h5 : Nat) (h6 : Nat) (h7 : Nat) (h8 : Nat) (h9 : Nat) (h10 : Nat) (h11 : Nat) (h12 : Nat) (h13 : Nat) (h14 : Nat) (h15 : Nat) (h16 : Nat) (h17 : Nat) (h18 : Nat) (e0 : ¬ v0 < 0) : tx_Met l yRp_check wsRp_check ({ frames := 6, cells := 1, slots := 6, locals := 82 }) (va_Pc [.ref h0, .int v0, .int v1] (fun U => U.heap.size = sz ∧ va_P (dC, dI) vwCl [(h0, .inr (0, [.ref h1, .ref h2, .ref h3, .ref h4, .ref h5, .ref h6, .ref h7, .ref h8, .ref h9, .ref h10, .int 0, .int 0, .int 0, .int 0, .int 0, .int 0])), (h2, .inr (1, [.ref h11, .ref h12, .ref h13, .ref h14, .ref h15, .ref h16, .ref h17, .ref h18, .int 0, .int 0, .int 0, .int 0, .int 0, .int 0, .int 0, .int 0, .int (-1)]))] U.heap ∧ va_K (dC, dI) vwCl [] U ∧ va_D (fun _ => True) [(h0, .inr (0, [.ref h1, .ref h2, .ref h3, .ref h4, .ref h5, .ref h6, .ref h7, .ref h8, .ref h9, .ref h10, .int 0, .int 0, .int 0, .int 0, .int 0, .int 0])), (h2, .inr (1, [.ref h11, .ref h12, .ref h13, .ref h14, .ref h15, .ref h16, .ref h17, .ref h18, .int 0, .int 0, .int 0, .int 0, .int 0, .int 0, .int 0, .int 0, .int (-1)]))] ∧ tx_At s0 U)) "java/util/NoSuchElementException" (va_A [(h0, .inr (0, [.ref h1, .ref h2, .ref h3, .ref h4, .ref h5, .ref h6, .ref h7, .ref h8, .ref h9, .ref h10, .int 0, .int 0, .int 0, .int 0, .int 0, .int 0])), (h2, .inr (1, [.ref h11, .ref h12, .ref h13, .ref h14, .ref h15, .ref h16, .ref h17, .ref h18, .int 0, .int 0, .int 0, .int 0, .int 0, .int 0, .int 0, .int 0, .int (-1)]))] sz) 1 6 (va_A [(h0, .inr (0, [.ref h1, .ref h2, .ref h3, .ref h4, .ref h5, .ref h6, .ref h7, .ref h8, .ref h9, .ref h10, .int 0, .int 0, .int 0, .int 0, .int 0, .int 0])), (h2, .inr (1, [.ref h11, .ref h12, .ref h13, .ref h14, .ref h15, .ref h16, .ref h17, .ref h18, .int 0, .int 0, .int 0, .int 0, .int 0, .int 0, .int 0, .int 0, .int (-1)]))] sz) := by
  refine tx_ofW (cc := cRp_check) (maxL := 3) (ret := (some .int)) (by decide) rfl ?_
  intro p e s m args below meth c s₁ B hml hnoex hv
  obtain ⟨rfl, hsz, hP, hK, hD0, hAt⟩ := hv
  have hx := B.exec
  have hb := B.bytes
  have hr := B.returns
  have hts := atoms_spec (ws := wsRp_check) B.pre
  have hown : s.vm.findClass "RunProver" = some m.cls := findClass_of_methodNamed B.named
  have hlocks := B.notSynchronized
  subst hsz
  have hD := hD0.self (sz := s.heap.size)
  generalize hAe : va_A [(h0, .inr (0, [.ref h1, .ref h2, .ref h3, .ref h4, .ref h5, .ref h6, .ref h7, .ref h8, .ref h9, .ref h10, .int 0, .int 0, .int 0, .int 0, .int 0, .int 0])), (h2, .inr (1, [.ref h11, .ref h12, .ref h13, .ref h14, .ref h15, .ref h16, .ref h17, .ref h18, .int 0, .int 0, .int 0, .int 0, .int 0, .int 0, .int 0, .int 0, .int (-1)]))] s.heap.size = A at hD ⊢
  have hA : ∀ q : Nat, s.heap.size ≤ q → A q := fun q h => by rw [← hAe]; exact Or.inr h
  have hS : va_S A s.heap s.heap [] := va_S.rf
  have hP : va_P (dC, dI) vwCl [(h0, .inr (0, [.ref h1, .ref h2, .ref h3, .ref h4, .ref h5, .ref h6, .ref h7, .ref h8, .ref h9, .ref h10, .int 0, .int 0, .int 0, .int 0, .int 0, .int 0])), (h2, .inr (1, [.ref h11, .ref h12, .ref h13, .ref h14, .ref h15, .ref h16, .ref h17, .ref h18, .int 0, .int 0, .int 0, .int 0, .int 0, .int 0, .int 0, .int 0, .int (-1)]))] s.heap := hP
  have hK0 := hK
  have hP0 := hP
  have hl := lv_entry ([.ref h0, .int v0, .int v1]) (n := 3) (Nat.le_of_ble_eq_true rfl)
  rw [lg_entry_eq]
  generalize (lg_sl ([.ref h0, .int v0, .int v1]) ++ List.replicate (3 - (lg_sl ([.ref h0, .int v0, .int v1])).length) Slot.unset).toArray = ls at hl ⊢
  have hl : lv_has ls 3 [(0, .ref h0), (1, .int v0), (2, .int v1)] := hl
  refine lv_iload_n hx hb dRp_check_0 rfl (lv_at hl 1 rfl) ?_
  refine lv_if_lt (tgt := 15) hx hb dRp_check_1 (by decide) (fun h9 => absurd h9 e0) (fun _ => ?_)
  refine lv_iload_n hx hb dRp_check_4 rfl (lv_at hl 1 rfl) ?_
  refine lv_aload_n hx hb dRp_check_5 rfl (lv_at hl 0 rfl) ?_
  refine va_get (D := (dC, dI)) (ci := 0) (v := .ref h2) (C := "RunProver") (T := TRp) (N := 16) hx hb hts (inRp _) hown hK hP 0 rfl rfl 1 (by decide) (hts (.fieldLink "RunProver" 17 "RunProver" "program" "LRunProver$Program;") (wam9 25 rfl)) (fun _ h9 => h9) rfl dRp_check_6 ?_
  refine va_get (D := (dC, dI)) (ci := 1) (v := .int 0) (C := "RunProver$Program") (T := TPg) (N := 17) hx hb hts (inPg _) hown hK hP 1 rfl rfl 13 (by decide) (hts (.fieldLink "RunProver" 142 "RunProver$Program" "checks" "I") (wam1 20 rfl)) (fun _ h9 => h9) rfl dRp_check_9 ?_
  refine lv_icmp_lt (tgt := 25) hx hb dRp_check_12 (by decide) (fun h9 => absurd h9 e0) (fun _ => ?_)
  exact tx_throwN (own := "RunProver") (text := "no such check") (sa := sa) hx hb hl9 hown (hts (.classLink "RunProver" 162 "java/util/NoSuchElementException") (wam26 38 rfl)) (tx_good hAt rfl hi0) (vk_R.warm hAt.1 hst0) (tx_all hAt hw0 (by decide +kernel)) (tx_locs hK0 hP0 (fun z hz => by rw [hAe]; exact hS.2.2 z hz)) hS.1 (fun z hz => hS.2.2 z hz) (fun z hz => hS.2.2 z hz) (hl.1.trans hml.symm) dRp_check_15 dRp_check_18 dRp_check_19 dRp_check_21 dRp_check_24 hnoex (Nat.le_of_ble_eq_true rfl) (Nat.le_of_ble_eq_true rfl) (Nat.le_of_ble_eq_true rfl) (Nat.le_of_ble_eq_true rfl) hlocks
set_option maxHeartbeats 4000000 in
set_option maxRecDepth 100000 in
theorem t_Rp_input (l : Launch) (hl9 : l.stackTraces = false) (dC : Nat → ClassId) (dI : Nat → Nat → Nat) (s0 : State) (a0 : Array Value) (sa : Nat) (hw0 : ∀ w ∈ tx_nse "RunProver" 166, w.before a0 s0 = true) (hi0 : (Cond.initialized "java/util/NoSuchElementException").before a0 s0 = true) (hst0 : vk_R "RunProver" 201 "no such input" sa s0) (sz : Nat) (h0 : Nat) (v0 : Int32) (h1 : Nat) (h2 : Nat) (h3 : Nat) (h4 : Nat) (h5 : Nat) (h6 : Nat) (h7 : Nat) (h8 : Nat) (h9 : Nat) (h10 : Nat) (e0 : v0 < 0) : tx_Met l yRp_input wsRp_input ({ frames := 6, cells := 1, slots := 6, locals := 82 }) (va_Pc [.ref h0, .int v0] (fun U => U.heap.size = sz ∧ va_P (dC, dI) vwCl [(h0, .inr (0, [.ref h1, .ref h2, .ref h3, .ref h4, .ref h5, .ref h6, .ref h7, .ref h8, .ref h9, .ref h10, .int 0, .int 0, .int 0, .int 0, .int 0, .int 0]))] U.heap ∧ va_K (dC, dI) vwCl [] U ∧ va_D (fun _ => True) [(h0, .inr (0, [.ref h1, .ref h2, .ref h3, .ref h4, .ref h5, .ref h6, .ref h7, .ref h8, .ref h9, .ref h10, .int 0, .int 0, .int 0, .int 0, .int 0, .int 0]))] ∧ tx_At s0 U)) "java/util/NoSuchElementException" (va_A [(h0, .inr (0, [.ref h1, .ref h2, .ref h3, .ref h4, .ref h5, .ref h6, .ref h7, .ref h8, .ref h9, .ref h10, .int 0, .int 0, .int 0, .int 0, .int 0, .int 0]))] sz) 1 6 (va_A [(h0, .inr (0, [.ref h1, .ref h2, .ref h3, .ref h4, .ref h5, .ref h6, .ref h7, .ref h8, .ref h9, .ref h10, .int 0, .int 0, .int 0, .int 0, .int 0, .int 0]))] sz) := by
  refine tx_ofW (cc := cRp_input) (maxL := 2) (ret := (some .int)) (by decide) rfl ?_
  intro p e s m args below meth c s₁ B hml hnoex hv
  obtain ⟨rfl, hsz, hP, hK, hD0, hAt⟩ := hv
  have hx := B.exec
  have hb := B.bytes
  have hr := B.returns
  have hts := atoms_spec (ws := wsRp_input) B.pre
  have hown : s.vm.findClass "RunProver" = some m.cls := findClass_of_methodNamed B.named
  have hlocks := B.notSynchronized
  subst hsz
  have hD := hD0.self (sz := s.heap.size)
  generalize hAe : va_A [(h0, .inr (0, [.ref h1, .ref h2, .ref h3, .ref h4, .ref h5, .ref h6, .ref h7, .ref h8, .ref h9, .ref h10, .int 0, .int 0, .int 0, .int 0, .int 0, .int 0]))] s.heap.size = A at hD ⊢
  have hA : ∀ q : Nat, s.heap.size ≤ q → A q := fun q h => by rw [← hAe]; exact Or.inr h
  have hS : va_S A s.heap s.heap [] := va_S.rf
  have hP : va_P (dC, dI) vwCl [(h0, .inr (0, [.ref h1, .ref h2, .ref h3, .ref h4, .ref h5, .ref h6, .ref h7, .ref h8, .ref h9, .ref h10, .int 0, .int 0, .int 0, .int 0, .int 0, .int 0]))] s.heap := hP
  have hK0 := hK
  have hP0 := hP
  have hl := lv_entry ([.ref h0, .int v0]) (n := 2) (Nat.le_of_ble_eq_true rfl)
  rw [lg_entry_eq]
  generalize (lg_sl ([.ref h0, .int v0]) ++ List.replicate (2 - (lg_sl ([.ref h0, .int v0])).length) Slot.unset).toArray = ls at hl ⊢
  have hl : lv_has ls 2 [(0, .ref h0), (1, .int v0)] := hl
  refine lv_iload_n hx hb dRp_input_0 rfl (lv_at hl 1 rfl) ?_
  refine lv_if_lt (tgt := 15) hx hb dRp_input_1 (by decide) (fun _ => ?_) (fun h9 => absurd e0 h9)
  exact tx_throwN (own := "RunProver") (text := "no such input") (sa := sa) hx hb hl9 hown (hts (.classLink "RunProver" 162 "java/util/NoSuchElementException") (wam26 38 rfl)) (tx_good hAt rfl hi0) (vk_R.warm hAt.1 hst0) (tx_all hAt hw0 (by decide +kernel)) (tx_locs hK0 hP0 (fun z hz => by rw [hAe]; exact hS.2.2 z hz)) hS.1 (fun z hz => hS.2.2 z hz) (fun z hz => hS.2.2 z hz) (hl.1.trans hml.symm) dRp_input_15 dRp_input_18 dRp_input_19 dRp_input_21 dRp_input_24 hnoex (Nat.le_of_ble_eq_true rfl) (Nat.le_of_ble_eq_true rfl) (Nat.le_of_ble_eq_true rfl) (Nat.le_of_ble_eq_true rfl) hlocks
set_option maxHeartbeats 4000000 in
set_option maxRecDepth 100000 in
theorem t_Rp_input_1 (l : Launch) (hl9 : l.stackTraces = false) (dC : Nat → ClassId) (dI : Nat → Nat → Nat) (s0 : State) (a0 : Array Value) (sa : Nat) (hw0 : ∀ w ∈ tx_nse "RunProver" 166, w.before a0 s0 = true) (hi0 : (Cond.initialized "java/util/NoSuchElementException").before a0 s0 = true) (hst0 : vk_R "RunProver" 201 "no such input" sa s0) (sz : Nat) (h0 : Nat) (v0 : Int32) (h1 : Nat) (h2 : Nat) (h3 : Nat) (h4 : Nat) (h5 : Nat) (h6 : Nat) (h7 : Nat) (h8 : Nat) (h9 : Nat) (h10 : Nat) (h11 : Nat) (h12 : Nat) (h13 : Nat) (h14 : Nat) (h15 : Nat) (h16 : Nat) (h17 : Nat) (h18 : Nat) (h19 : Nat) (e0 : ¬ v0 < 0) : tx_Met l yRp_input wsRp_input ({ frames := 6, cells := 1, slots := 6, locals := 82 }) (va_Pc [.ref h0, .int v0] (fun U => U.heap.size = sz ∧ va_P (dC, dI) vwCl [(h0, .inr (0, [.ref h1, .ref h2, .ref h3, .ref h4, .ref h5, .ref h6, .ref h7, .ref h8, .ref h9, .ref h10, .int 0, .int 0, .int 0, .int 0, .int 0, .int 0])), (h5, .inr (7, [.ref h2, .ref h4, .ref h11, .ref h12, .ref h13, .ref h14, .ref h15, .int 0, .ref h16, .ref h17, .ref h18, .int 0, .ref h19, .int 0]))] U.heap ∧ va_K (dC, dI) vwCl [] U ∧ va_D (fun _ => True) [(h0, .inr (0, [.ref h1, .ref h2, .ref h3, .ref h4, .ref h5, .ref h6, .ref h7, .ref h8, .ref h9, .ref h10, .int 0, .int 0, .int 0, .int 0, .int 0, .int 0])), (h5, .inr (7, [.ref h2, .ref h4, .ref h11, .ref h12, .ref h13, .ref h14, .ref h15, .int 0, .ref h16, .ref h17, .ref h18, .int 0, .ref h19, .int 0]))] ∧ tx_At s0 U)) "java/util/NoSuchElementException" (va_A [(h0, .inr (0, [.ref h1, .ref h2, .ref h3, .ref h4, .ref h5, .ref h6, .ref h7, .ref h8, .ref h9, .ref h10, .int 0, .int 0, .int 0, .int 0, .int 0, .int 0])), (h5, .inr (7, [.ref h2, .ref h4, .ref h11, .ref h12, .ref h13, .ref h14, .ref h15, .int 0, .ref h16, .ref h17, .ref h18, .int 0, .ref h19, .int 0]))] sz) 1 6 (va_A [(h0, .inr (0, [.ref h1, .ref h2, .ref h3, .ref h4, .ref h5, .ref h6, .ref h7, .ref h8, .ref h9, .ref h10, .int 0, .int 0, .int 0, .int 0, .int 0, .int 0])), (h5, .inr (7, [.ref h2, .ref h4, .ref h11, .ref h12, .ref h13, .ref h14, .ref h15, .int 0, .ref h16, .ref h17, .ref h18, .int 0, .ref h19, .int 0]))] sz) := by
  refine tx_ofW (cc := cRp_input) (maxL := 2) (ret := (some .int)) (by decide) rfl ?_
  intro p e s m args below meth c s₁ B hml hnoex hv
  obtain ⟨rfl, hsz, hP, hK, hD0, hAt⟩ := hv
  have hx := B.exec
  have hb := B.bytes
  have hr := B.returns
  have hts := atoms_spec (ws := wsRp_input) B.pre
  have hown : s.vm.findClass "RunProver" = some m.cls := findClass_of_methodNamed B.named
  have hlocks := B.notSynchronized
  subst hsz
  have hD := hD0.self (sz := s.heap.size)
  generalize hAe : va_A [(h0, .inr (0, [.ref h1, .ref h2, .ref h3, .ref h4, .ref h5, .ref h6, .ref h7, .ref h8, .ref h9, .ref h10, .int 0, .int 0, .int 0, .int 0, .int 0, .int 0])), (h5, .inr (7, [.ref h2, .ref h4, .ref h11, .ref h12, .ref h13, .ref h14, .ref h15, .int 0, .ref h16, .ref h17, .ref h18, .int 0, .ref h19, .int 0]))] s.heap.size = A at hD ⊢
  have hA : ∀ q : Nat, s.heap.size ≤ q → A q := fun q h => by rw [← hAe]; exact Or.inr h
  have hS : va_S A s.heap s.heap [] := va_S.rf
  have hP : va_P (dC, dI) vwCl [(h0, .inr (0, [.ref h1, .ref h2, .ref h3, .ref h4, .ref h5, .ref h6, .ref h7, .ref h8, .ref h9, .ref h10, .int 0, .int 0, .int 0, .int 0, .int 0, .int 0])), (h5, .inr (7, [.ref h2, .ref h4, .ref h11, .ref h12, .ref h13, .ref h14, .ref h15, .int 0, .ref h16, .ref h17, .ref h18, .int 0, .ref h19, .int 0]))] s.heap := hP
  have hK0 := hK
  have hP0 := hP
  have hl := lv_entry ([.ref h0, .int v0]) (n := 2) (Nat.le_of_ble_eq_true rfl)
  rw [lg_entry_eq]
  generalize (lg_sl ([.ref h0, .int v0]) ++ List.replicate (2 - (lg_sl ([.ref h0, .int v0])).length) Slot.unset).toArray = ls at hl ⊢
  have hl : lv_has ls 2 [(0, .ref h0), (1, .int v0)] := hl
  refine lv_iload_n hx hb dRp_input_0 rfl (lv_at hl 1 rfl) ?_
  refine lv_if_lt (tgt := 15) hx hb dRp_input_1 (by decide) (fun h9 => absurd h9 e0) (fun _ => ?_)
  refine lv_iload_n hx hb dRp_input_4 rfl (lv_at hl 1 rfl) ?_
  refine lv_aload_n hx hb dRp_input_5 rfl (lv_at hl 0 rfl) ?_
  refine va_get (D := (dC, dI)) (ci := 0) (v := .ref h5) (C := "RunProver") (T := TRp) (N := 16) hx hb hts (inRp _) hown hK hP 0 rfl rfl 4 (by decide) (hts (.fieldLink "RunProver" 42 "RunProver" "unroller" "LRunProver$Unroller;") (wam9 28 rfl)) (fun _ h9 => h9) rfl dRp_input_6 ?_
  refine va_get (D := (dC, dI)) (ci := 7) (v := .int 0) (C := "RunProver$Unroller") (T := TUn) (N := 14) hx hb hts (inUn _) hown hK hP 1 rfl rfl 11 (by decide) (hts (.fieldLink "RunProver" 198 "RunProver$Unroller" "inputCount" "I") (wam6 30 rfl)) (fun _ h9 => h9) rfl dRp_input_9 ?_
  refine lv_icmp_lt (tgt := 25) hx hb dRp_input_12 (by decide) (fun h9 => absurd h9 e0) (fun _ => ?_)
  exact tx_throwN (own := "RunProver") (text := "no such input") (sa := sa) hx hb hl9 hown (hts (.classLink "RunProver" 162 "java/util/NoSuchElementException") (wam26 38 rfl)) (tx_good hAt rfl hi0) (vk_R.warm hAt.1 hst0) (tx_all hAt hw0 (by decide +kernel)) (tx_locs hK0 hP0 (fun z hz => by rw [hAe]; exact hS.2.2 z hz)) hS.1 (fun z hz => hS.2.2 z hz) (fun z hz => hS.2.2 z hz) (hl.1.trans hml.symm) dRp_input_15 dRp_input_18 dRp_input_19 dRp_input_21 dRp_input_24 hnoex (Nat.le_of_ble_eq_true rfl) (Nat.le_of_ble_eq_true rfl) (Nat.le_of_ble_eq_true rfl) (Nat.le_of_ble_eq_true rfl) hlocks
set_option maxHeartbeats 4000000 in
set_option maxRecDepth 100000 in
theorem t_Rp_put (l : Launch) (hl9 : l.stackTraces = false) (dC : Nat → ClassId) (dI : Nat → Nat → Nat) (s0 : State) (a0 : Array Value) (sa : Nat) (hw0 : ∀ w ∈ tx_nse "RunProver" 166, w.before a0 s0 = true) (hi0 : (Cond.initialized "java/util/NoSuchElementException").before a0 s0 = true) (hst0 : vk_R "RunProver" 201 "no such input" sa s0) (sz : Nat) (h0 : Nat) (v0 : Int32) (v1 : Int32) (h1 : Nat) (h2 : Nat) (h3 : Nat) (h4 : Nat) (h5 : Nat) (h6 : Nat) (h7 : Nat) (h8 : Nat) (h9 : Nat) (h10 : Nat) (e0 : v0 < 0) : tx_Met l yRp_put wsRp_put ({ frames := 6, cells := 1, slots := 6, locals := 82 }) (va_Pc [.ref h0, .int v0, .int v1] (fun U => U.heap.size = sz ∧ va_P (dC, dI) vwCl [(h0, .inr (0, [.ref h1, .ref h2, .ref h3, .ref h4, .ref h5, .ref h6, .ref h7, .ref h8, .ref h9, .ref h10, .int 0, .int 0, .int 0, .int 0, .int 0, .int 0]))] U.heap ∧ va_K (dC, dI) vwCl [] U ∧ va_D (fun _ => True) [(h0, .inr (0, [.ref h1, .ref h2, .ref h3, .ref h4, .ref h5, .ref h6, .ref h7, .ref h8, .ref h9, .ref h10, .int 0, .int 0, .int 0, .int 0, .int 0, .int 0]))] ∧ tx_At s0 U)) "java/util/NoSuchElementException" (va_A [(h0, .inr (0, [.ref h1, .ref h2, .ref h3, .ref h4, .ref h5, .ref h6, .ref h7, .ref h8, .ref h9, .ref h10, .int 0, .int 0, .int 0, .int 0, .int 0, .int 0]))] sz) 1 6 (va_A [(h0, .inr (0, [.ref h1, .ref h2, .ref h3, .ref h4, .ref h5, .ref h6, .ref h7, .ref h8, .ref h9, .ref h10, .int 0, .int 0, .int 0, .int 0, .int 0, .int 0]))] sz) := by
  refine tx_ofW (cc := cRp_put) (maxL := 4) (ret := (some .int)) (by decide) rfl ?_
  intro p e s m args below meth c s₁ B hml hnoex hv
  obtain ⟨rfl, hsz, hP, hK, hD0, hAt⟩ := hv
  have hx := B.exec
  have hb := B.bytes
  have hr := B.returns
  have hts := atoms_spec (ws := wsRp_put) B.pre
  have hown : s.vm.findClass "RunProver" = some m.cls := findClass_of_methodNamed B.named
  have hlocks := B.notSynchronized
  subst hsz
  have hD := hD0.self (sz := s.heap.size)
  generalize hAe : va_A [(h0, .inr (0, [.ref h1, .ref h2, .ref h3, .ref h4, .ref h5, .ref h6, .ref h7, .ref h8, .ref h9, .ref h10, .int 0, .int 0, .int 0, .int 0, .int 0, .int 0]))] s.heap.size = A at hD ⊢
  have hA : ∀ q : Nat, s.heap.size ≤ q → A q := fun q h => by rw [← hAe]; exact Or.inr h
  have hS : va_S A s.heap s.heap [] := va_S.rf
  have hP : va_P (dC, dI) vwCl [(h0, .inr (0, [.ref h1, .ref h2, .ref h3, .ref h4, .ref h5, .ref h6, .ref h7, .ref h8, .ref h9, .ref h10, .int 0, .int 0, .int 0, .int 0, .int 0, .int 0]))] s.heap := hP
  have hK0 := hK
  have hP0 := hP
  have hl := lv_entry ([.ref h0, .int v0, .int v1]) (n := 4) (Nat.le_of_ble_eq_true rfl)
  rw [lg_entry_eq]
  generalize (lg_sl ([.ref h0, .int v0, .int v1]) ++ List.replicate (4 - (lg_sl ([.ref h0, .int v0, .int v1])).length) Slot.unset).toArray = ls at hl ⊢
  have hl : lv_has ls 4 [(0, .ref h0), (1, .int v0), (2, .int v1)] := hl
  refine lv_iload_n hx hb dRp_put_0 rfl (lv_at hl 1 rfl) ?_
  refine lv_if_lt (tgt := 15) hx hb dRp_put_1 (by decide) (fun _ => ?_) (fun h9 => absurd e0 h9)
  exact tx_throwN (own := "RunProver") (text := "no such input") (sa := sa) hx hb hl9 hown (hts (.classLink "RunProver" 162 "java/util/NoSuchElementException") (wam26 38 rfl)) (tx_good hAt rfl hi0) (vk_R.warm hAt.1 hst0) (tx_all hAt hw0 (by decide +kernel)) (tx_locs hK0 hP0 (fun z hz => by rw [hAe]; exact hS.2.2 z hz)) hS.1 (fun z hz => hS.2.2 z hz) (fun z hz => hS.2.2 z hz) (hl.1.trans hml.symm) dRp_put_15 dRp_put_18 dRp_put_19 dRp_put_21 dRp_put_24 hnoex (Nat.le_of_ble_eq_true rfl) (Nat.le_of_ble_eq_true rfl) (Nat.le_of_ble_eq_true rfl) (Nat.le_of_ble_eq_true rfl) hlocks
set_option maxHeartbeats 4000000 in
set_option maxRecDepth 100000 in
theorem t_Rp_put_1 (l : Launch) (hl9 : l.stackTraces = false) (dC : Nat → ClassId) (dI : Nat → Nat → Nat) (s0 : State) (a0 : Array Value) (sa : Nat) (hw0 : ∀ w ∈ tx_nse "RunProver" 166, w.before a0 s0 = true) (hi0 : (Cond.initialized "java/util/NoSuchElementException").before a0 s0 = true) (hst0 : vk_R "RunProver" 201 "no such input" sa s0) (sz : Nat) (h0 : Nat) (v0 : Int32) (v1 : Int32) (h1 : Nat) (h2 : Nat) (h3 : Nat) (h4 : Nat) (h5 : Nat) (h6 : Nat) (h7 : Nat) (h8 : Nat) (h9 : Nat) (h10 : Nat) (h11 : Nat) (h12 : Nat) (h13 : Nat) (h14 : Nat) (h15 : Nat) (h16 : Nat) (h17 : Nat) (h18 : Nat) (h19 : Nat) (e0 : ¬ v0 < 0) : tx_Met l yRp_put wsRp_put ({ frames := 6, cells := 1, slots := 6, locals := 82 }) (va_Pc [.ref h0, .int v0, .int v1] (fun U => U.heap.size = sz ∧ va_P (dC, dI) vwCl [(h0, .inr (0, [.ref h1, .ref h2, .ref h3, .ref h4, .ref h5, .ref h6, .ref h7, .ref h8, .ref h9, .ref h10, .int 0, .int 0, .int 0, .int 0, .int 0, .int 0])), (h5, .inr (7, [.ref h2, .ref h4, .ref h11, .ref h12, .ref h13, .ref h14, .ref h15, .int 0, .ref h16, .ref h17, .ref h18, .int 0, .ref h19, .int 0]))] U.heap ∧ va_K (dC, dI) vwCl [] U ∧ va_D (fun _ => True) [(h0, .inr (0, [.ref h1, .ref h2, .ref h3, .ref h4, .ref h5, .ref h6, .ref h7, .ref h8, .ref h9, .ref h10, .int 0, .int 0, .int 0, .int 0, .int 0, .int 0])), (h5, .inr (7, [.ref h2, .ref h4, .ref h11, .ref h12, .ref h13, .ref h14, .ref h15, .int 0, .ref h16, .ref h17, .ref h18, .int 0, .ref h19, .int 0]))] ∧ tx_At s0 U)) "java/util/NoSuchElementException" (va_A [(h0, .inr (0, [.ref h1, .ref h2, .ref h3, .ref h4, .ref h5, .ref h6, .ref h7, .ref h8, .ref h9, .ref h10, .int 0, .int 0, .int 0, .int 0, .int 0, .int 0])), (h5, .inr (7, [.ref h2, .ref h4, .ref h11, .ref h12, .ref h13, .ref h14, .ref h15, .int 0, .ref h16, .ref h17, .ref h18, .int 0, .ref h19, .int 0]))] sz) 1 6 (va_A [(h0, .inr (0, [.ref h1, .ref h2, .ref h3, .ref h4, .ref h5, .ref h6, .ref h7, .ref h8, .ref h9, .ref h10, .int 0, .int 0, .int 0, .int 0, .int 0, .int 0])), (h5, .inr (7, [.ref h2, .ref h4, .ref h11, .ref h12, .ref h13, .ref h14, .ref h15, .int 0, .ref h16, .ref h17, .ref h18, .int 0, .ref h19, .int 0]))] sz) := by
  refine tx_ofW (cc := cRp_put) (maxL := 4) (ret := (some .int)) (by decide) rfl ?_
  intro p e s m args below meth c s₁ B hml hnoex hv
  obtain ⟨rfl, hsz, hP, hK, hD0, hAt⟩ := hv
  have hx := B.exec
  have hb := B.bytes
  have hr := B.returns
  have hts := atoms_spec (ws := wsRp_put) B.pre
  have hown : s.vm.findClass "RunProver" = some m.cls := findClass_of_methodNamed B.named
  have hlocks := B.notSynchronized
  subst hsz
  have hD := hD0.self (sz := s.heap.size)
  generalize hAe : va_A [(h0, .inr (0, [.ref h1, .ref h2, .ref h3, .ref h4, .ref h5, .ref h6, .ref h7, .ref h8, .ref h9, .ref h10, .int 0, .int 0, .int 0, .int 0, .int 0, .int 0])), (h5, .inr (7, [.ref h2, .ref h4, .ref h11, .ref h12, .ref h13, .ref h14, .ref h15, .int 0, .ref h16, .ref h17, .ref h18, .int 0, .ref h19, .int 0]))] s.heap.size = A at hD ⊢
  have hA : ∀ q : Nat, s.heap.size ≤ q → A q := fun q h => by rw [← hAe]; exact Or.inr h
  have hS : va_S A s.heap s.heap [] := va_S.rf
  have hP : va_P (dC, dI) vwCl [(h0, .inr (0, [.ref h1, .ref h2, .ref h3, .ref h4, .ref h5, .ref h6, .ref h7, .ref h8, .ref h9, .ref h10, .int 0, .int 0, .int 0, .int 0, .int 0, .int 0])), (h5, .inr (7, [.ref h2, .ref h4, .ref h11, .ref h12, .ref h13, .ref h14, .ref h15, .int 0, .ref h16, .ref h17, .ref h18, .int 0, .ref h19, .int 0]))] s.heap := hP
  have hK0 := hK
  have hP0 := hP
  have hl := lv_entry ([.ref h0, .int v0, .int v1]) (n := 4) (Nat.le_of_ble_eq_true rfl)
  rw [lg_entry_eq]
  generalize (lg_sl ([.ref h0, .int v0, .int v1]) ++ List.replicate (4 - (lg_sl ([.ref h0, .int v0, .int v1])).length) Slot.unset).toArray = ls at hl ⊢
  have hl : lv_has ls 4 [(0, .ref h0), (1, .int v0), (2, .int v1)] := hl
  refine lv_iload_n hx hb dRp_put_0 rfl (lv_at hl 1 rfl) ?_
  refine lv_if_lt (tgt := 15) hx hb dRp_put_1 (by decide) (fun h9 => absurd h9 e0) (fun _ => ?_)
  refine lv_iload_n hx hb dRp_put_4 rfl (lv_at hl 1 rfl) ?_
  refine lv_aload_n hx hb dRp_put_5 rfl (lv_at hl 0 rfl) ?_
  refine va_get (D := (dC, dI)) (ci := 0) (v := .ref h5) (C := "RunProver") (T := TRp) (N := 16) hx hb hts (inRp _) hown hK hP 0 rfl rfl 4 (by decide) (hts (.fieldLink "RunProver" 42 "RunProver" "unroller" "LRunProver$Unroller;") (wam9 28 rfl)) (fun _ h9 => h9) rfl dRp_put_6 ?_
  refine va_get (D := (dC, dI)) (ci := 7) (v := .int 0) (C := "RunProver$Unroller") (T := TUn) (N := 14) hx hb hts (inUn _) hown hK hP 1 rfl rfl 11 (by decide) (hts (.fieldLink "RunProver" 198 "RunProver$Unroller" "inputCount" "I") (wam6 30 rfl)) (fun _ h9 => h9) rfl dRp_put_9 ?_
  refine lv_icmp_lt (tgt := 25) hx hb dRp_put_12 (by decide) (fun h9 => absurd h9 e0) (fun _ => ?_)
  exact tx_throwN (own := "RunProver") (text := "no such input") (sa := sa) hx hb hl9 hown (hts (.classLink "RunProver" 162 "java/util/NoSuchElementException") (wam26 38 rfl)) (tx_good hAt rfl hi0) (vk_R.warm hAt.1 hst0) (tx_all hAt hw0 (by decide +kernel)) (tx_locs hK0 hP0 (fun z hz => by rw [hAe]; exact hS.2.2 z hz)) hS.1 (fun z hz => hS.2.2 z hz) (fun z hz => hS.2.2 z hz) (hl.1.trans hml.symm) dRp_put_15 dRp_put_18 dRp_put_19 dRp_put_21 dRp_put_24 hnoex (Nat.le_of_ble_eq_true rfl) (Nat.le_of_ble_eq_true rfl) (Nat.le_of_ble_eq_true rfl) (Nat.le_of_ble_eq_true rfl) hlocks
set_option maxHeartbeats 4000000 in
set_option maxRecDepth 100000 in
theorem t_Rp_value (l : Launch) (hl9 : l.stackTraces = false) (dC : Nat → ClassId) (dI : Nat → Nat → Nat) (s0 : State) (a0 : Array Value) (sa : Nat) (hw0 : ∀ w ∈ tx_nse "RunProver" 166, w.before a0 s0 = true) (hi0 : (Cond.initialized "java/util/NoSuchElementException").before a0 s0 = true) (hst0 : vk_R "RunProver" 212 "no such element" sa s0) (sz : Nat) (h0 : Nat) (v0 : Int32) (v1 : Int32) (h1 : Nat) (h2 : Nat) (h3 : Nat) (h4 : Nat) (h5 : Nat) (h6 : Nat) (h7 : Nat) (h8 : Nat) (h9 : Nat) (h10 : Nat) (h11 : Nat) (h12 : Nat) (h13 : Nat) (h14 : Nat) (h15 : Nat) (h16 : Nat) (h17 : Nat) (h18 : Nat) (e0 : v0 < 0) : tx_Met l yRp_value wsRp_value ({ frames := 6, cells := 1, slots := 6, locals := 82 }) (va_Pc [.ref h0, .int v0, .int v1] (fun U => U.heap.size = sz ∧ va_P (dC, dI) vwCl [(h0, .inr (0, [.ref h1, .ref h2, .ref h3, .ref h4, .ref h5, .ref h6, .ref h7, .ref h8, .ref h9, .ref h10, .int 0, .int 0, .int 0, .int 0, .int 0, .int 0])), (h2, .inr (1, [.ref h11, .ref h12, .ref h13, .ref h14, .ref h15, .ref h16, .ref h17, .ref h18, .int 0, .int 0, .int 0, .int 0, .int 0, .int 0, .int 0, .int 0, .int (-1)]))] U.heap ∧ va_K (dC, dI) vwCl [] U ∧ va_D (fun _ => True) [(h0, .inr (0, [.ref h1, .ref h2, .ref h3, .ref h4, .ref h5, .ref h6, .ref h7, .ref h8, .ref h9, .ref h10, .int 0, .int 0, .int 0, .int 0, .int 0, .int 0])), (h2, .inr (1, [.ref h11, .ref h12, .ref h13, .ref h14, .ref h15, .ref h16, .ref h17, .ref h18, .int 0, .int 0, .int 0, .int 0, .int 0, .int 0, .int 0, .int 0, .int (-1)]))] ∧ tx_At s0 U)) "java/util/NoSuchElementException" (va_A [(h0, .inr (0, [.ref h1, .ref h2, .ref h3, .ref h4, .ref h5, .ref h6, .ref h7, .ref h8, .ref h9, .ref h10, .int 0, .int 0, .int 0, .int 0, .int 0, .int 0])), (h2, .inr (1, [.ref h11, .ref h12, .ref h13, .ref h14, .ref h15, .ref h16, .ref h17, .ref h18, .int 0, .int 0, .int 0, .int 0, .int 0, .int 0, .int 0, .int 0, .int (-1)]))] sz) 1 6 (va_A [(h0, .inr (0, [.ref h1, .ref h2, .ref h3, .ref h4, .ref h5, .ref h6, .ref h7, .ref h8, .ref h9, .ref h10, .int 0, .int 0, .int 0, .int 0, .int 0, .int 0])), (h2, .inr (1, [.ref h11, .ref h12, .ref h13, .ref h14, .ref h15, .ref h16, .ref h17, .ref h18, .int 0, .int 0, .int 0, .int 0, .int 0, .int 0, .int 0, .int 0, .int (-1)]))] sz) := by
  refine tx_ofW (cc := cRp_value) (maxL := 6) (ret := (some .int)) (by decide) rfl ?_
  intro p e s m args below meth c s₁ B hml hnoex hv
  obtain ⟨rfl, hsz, hP, hK, hD0, hAt⟩ := hv
  have hx := B.exec
  have hb := B.bytes
  have hr := B.returns
  have hts := atoms_spec (ws := wsRp_value) B.pre
  have hown : s.vm.findClass "RunProver" = some m.cls := findClass_of_methodNamed B.named
  have hlocks := B.notSynchronized
  subst hsz
  have hD := hD0.self (sz := s.heap.size)
  generalize hAe : va_A [(h0, .inr (0, [.ref h1, .ref h2, .ref h3, .ref h4, .ref h5, .ref h6, .ref h7, .ref h8, .ref h9, .ref h10, .int 0, .int 0, .int 0, .int 0, .int 0, .int 0])), (h2, .inr (1, [.ref h11, .ref h12, .ref h13, .ref h14, .ref h15, .ref h16, .ref h17, .ref h18, .int 0, .int 0, .int 0, .int 0, .int 0, .int 0, .int 0, .int 0, .int (-1)]))] s.heap.size = A at hD ⊢
  have hA : ∀ q : Nat, s.heap.size ≤ q → A q := fun q h => by rw [← hAe]; exact Or.inr h
  have hS : va_S A s.heap s.heap [] := va_S.rf
  have hP : va_P (dC, dI) vwCl [(h0, .inr (0, [.ref h1, .ref h2, .ref h3, .ref h4, .ref h5, .ref h6, .ref h7, .ref h8, .ref h9, .ref h10, .int 0, .int 0, .int 0, .int 0, .int 0, .int 0])), (h2, .inr (1, [.ref h11, .ref h12, .ref h13, .ref h14, .ref h15, .ref h16, .ref h17, .ref h18, .int 0, .int 0, .int 0, .int 0, .int 0, .int 0, .int 0, .int 0, .int (-1)]))] s.heap := hP
  have hK0 := hK
  have hP0 := hP
  have hl := lv_entry ([.ref h0, .int v0, .int v1]) (n := 6) (Nat.le_of_ble_eq_true rfl)
  rw [lg_entry_eq]
  generalize (lg_sl ([.ref h0, .int v0, .int v1]) ++ List.replicate (6 - (lg_sl ([.ref h0, .int v0, .int v1])).length) Slot.unset).toArray = ls at hl ⊢
  have hl : lv_has ls 6 [(0, .ref h0), (1, .int v0), (2, .int v1)] := hl
  refine lv_aload_n hx hb dRp_value_0 rfl (lv_at hl 0 rfl) ?_
  refine va_get (D := (dC, dI)) (ci := 0) (v := .ref h2) (C := "RunProver") (T := TRp) (N := 16) hx hb hts (inRp _) hown hK hP 0 rfl rfl 1 (by decide) (hts (.fieldLink "RunProver" 17 "RunProver" "program" "LRunProver$Program;") (wam9 25 rfl)) (fun _ h9 => h9) rfl dRp_value_1 ?_
  refine lv_iload_n hx hb dRp_value_4 rfl (lv_at hl 1 rfl) ?_
  refine lv_iload_n hx hb dRp_value_5 rfl (lv_at hl 2 rfl) ?_
  have hPc := hP.sub (ws' := [(h2, .inr (1, [.ref h11, .ref h12, .ref h13, .ref h14, .ref h15, .ref h16, .ref h17, .ref h18, .int 0, .int 0, .int 0, .int 0, .int 0, .int 0, .int 0, .int 0, .int (-1)]))]) [1] rfl
  have hDc := hD.sub (ws' := [(h2, .inr (1, [.ref h11, .ref h12, .ref h13, .ref h14, .ref h15, .ref h16, .ref h17, .ref h18, .int 0, .int 0, .int 0, .int 0, .int 0, .int 0, .int 0, .int 0, .int (-1)]))]) [1] (by decide) rfl
  have hKc := hK.sub (tys' := []) [] rfl
  have hFc := va_free (wc := [(h2, .inr (1, [.ref h11, .ref h12, .ref h13, .ref h14, .ref h15, .ref h16, .ref h17, .ref h18, .int 0, .int 0, .int 0, .int 0, .int 0, .int 0, .int 0, .int 0, .int (-1)]))]) hD hS hA [1] rfl
  refine va_calli (va_runV (As := [.int v0, .int v1]) (rest := []) ⟨hx, hb, hml, hown, hts⟩ (c_Pg_hasElement l dC dI s.heap.size h2 v0 v1 h11 h12 h13 h14 h15 h16 h17 h18 e0) (cwV 2 hts (gV (wbm27 14 rfl) (wbm27 15 rfl) (wbm27 16 rfl) (wbm0 2 rfl) (wbm27 17 rfl)) rfl rfl rfl (by decide +kernel) ⟨Nat.le_of_ble_eq_true rfl, Nat.le_of_ble_eq_true rfl⟩) ⟨fun a U g mk q => by obtain ⟨q0, q1, qP, qK, qD⟩ := q; exact ⟨q0, q1, qP, va_K.moved (u := U) (U := U.calling g mk a) (Vm.Alike.refl U.vm) qK, qD⟩, va_recv hKc hPc (ci := 1) (q0 := 0) rfl rfl, fun U hU hW => ⟨rfl, by rw [hU], by rw [hU]; exact hPc, va_K.moved hW.alike hKc, hDc.weaken (fun _ _ _ _ => trivial)⟩⟩ rfl rfl hl.1 rfl (lv_room (Nat.le_of_ble_eq_true rfl)) dRp_value_6 ⟨Nat.le_of_ble_eq_true rfl, Nat.le_of_ble_eq_true rfl⟩) hS (fun q _ h => hFc q h) hFc (fun r_1 u t H1 locs ht hvm hw hB hz1 hk1 hS => ?_)
  obtain ⟨hP1, hK1, hD1⟩ := hB
  rw [ht] at hP1
  have hK1 := va_K.moved hvm.symm hK1
  try dsimp only at hw
  obtain ⟨hP, hD⟩ := va_join (wr := [(h0, .inr (0, [.ref h1, .ref h2, .ref h3, .ref h4, .ref h5, .ref h6, .ref h7, .ref h8, .ref h9, .ref h10, .int 0, .int 0, .int 0, .int 0, .int 0, .int 0]))]) (w1 := [(h2, .inr (1, [.ref h11, .ref h12, .ref h13, .ref h14, .ref h15, .ref h16, .ref h17, .ref h18, .int 0, .int 0, .int 0, .int 0, .int 0, .int 0, .int 0, .int 0, .int (-1)]))]) hP hD [1] [0] rfl rfl (by decide) (by decide) hk1 hFc hP1 hD1
  have hK := (hK.sub (tys' := []) [] rfl).app hK1
  generalize H1 = H at hP hS ⊢
  have hP : va_P (dC, dI) vwCl [(h0, .inr (0, [.ref h1, .ref h2, .ref h3, .ref h4, .ref h5, .ref h6, .ref h7, .ref h8, .ref h9, .ref h10, .int 0, .int 0, .int 0, .int 0, .int 0, .int 0])), (h2, .inr (1, [.ref h11, .ref h12, .ref h13, .ref h14, .ref h15, .ref h16, .ref h17, .ref h18, .int 0, .int 0, .int 0, .int 0, .int 0, .int 0, .int 0, .int 0, .int (-1)]))] H := hP
  have hD : va_D A [(h0, .inr (0, [.ref h1, .ref h2, .ref h3, .ref h4, .ref h5, .ref h6, .ref h7, .ref h8, .ref h9, .ref h10, .int 0, .int 0, .int 0, .int 0, .int 0, .int 0])), (h2, .inr (1, [.ref h11, .ref h12, .ref h13, .ref h14, .ref h15, .ref h16, .ref h17, .ref h18, .int 0, .int 0, .int 0, .int 0, .int 0, .int 0, .int 0, .int 0, .int (-1)]))] := hD
  have hK : va_K (dC, dI) vwCl [] s := hK
  obtain rfl : r_1 = (0 : Int32) := hw
  refine lv_if_ne (tgt := 22) hx hb dRp_value_9 (by decide) (fun h9 => absurd h9 (by decide)) (fun _ => ?_)
  exact tx_throwN (own := "RunProver") (text := "no such element") (sa := sa) hx hb hl9 hown (hts (.classLink "RunProver" 162 "java/util/NoSuchElementException") (wam26 38 rfl)) (tx_good hAt rfl hi0) (vk_R.warm hAt.1 hst0) (tx_all hAt hw0 (by decide +kernel)) (tx_locs hK0 hP0 (fun z hz => by rw [hAe]; exact hS.2.2 z hz)) hS.1 (fun z hz => hS.2.2 z hz) (fun z hz => hS.2.2 z hz) (hl.1.trans hml.symm) dRp_value_12 dRp_value_15 dRp_value_16 dRp_value_18 dRp_value_21 hnoex (Nat.le_of_ble_eq_true rfl) (Nat.le_of_ble_eq_true rfl) (Nat.le_of_ble_eq_true rfl) (Nat.le_of_ble_eq_true rfl) hlocks
set_option maxHeartbeats 4000000 in
set_option maxRecDepth 100000 in
theorem t_Rp_value_1 (l : Launch) (hl9 : l.stackTraces = false) (dC : Nat → ClassId) (dI : Nat → Nat → Nat) (s0 : State) (a0 : Array Value) (sa : Nat) (hw0 : ∀ w ∈ tx_nse "RunProver" 166, w.before a0 s0 = true) (hi0 : (Cond.initialized "java/util/NoSuchElementException").before a0 s0 = true) (hst0 : vk_R "RunProver" 212 "no such element" sa s0) (sz : Nat) (h0 : Nat) (v0 : Int32) (v1 : Int32) (h1 : Nat) (h2 : Nat) (h3 : Nat) (h4 : Nat) (h5 : Nat) (h6 : Nat) (h7 : Nat) (h8 : Nat) (h9 : Nat) (h10 : Nat) (h11 : Nat) (h12 : Nat) (h13 : Nat) (h14 : Nat) (h15 : Nat) (h16 : Nat) (h17 : Nat) (h18 : Nat) (e0 : ¬ v0 < 0) : tx_Met l yRp_value wsRp_value ({ frames := 6, cells := 1, slots := 6, locals := 82 }) (va_Pc [.ref h0, .int v0, .int v1] (fun U => U.heap.size = sz ∧ va_P (dC, dI) vwCl [(h0, .inr (0, [.ref h1, .ref h2, .ref h3, .ref h4, .ref h5, .ref h6, .ref h7, .ref h8, .ref h9, .ref h10, .int 0, .int 0, .int 0, .int 0, .int 0, .int 0])), (h2, .inr (1, [.ref h11, .ref h12, .ref h13, .ref h14, .ref h15, .ref h16, .ref h17, .ref h18, .int 0, .int 0, .int 0, .int 0, .int 0, .int 0, .int 0, .int 0, .int (-1)]))] U.heap ∧ va_K (dC, dI) vwCl [] U ∧ va_D (fun _ => True) [(h0, .inr (0, [.ref h1, .ref h2, .ref h3, .ref h4, .ref h5, .ref h6, .ref h7, .ref h8, .ref h9, .ref h10, .int 0, .int 0, .int 0, .int 0, .int 0, .int 0])), (h2, .inr (1, [.ref h11, .ref h12, .ref h13, .ref h14, .ref h15, .ref h16, .ref h17, .ref h18, .int 0, .int 0, .int 0, .int 0, .int 0, .int 0, .int 0, .int 0, .int (-1)]))] ∧ tx_At s0 U)) "java/util/NoSuchElementException" (va_A [(h0, .inr (0, [.ref h1, .ref h2, .ref h3, .ref h4, .ref h5, .ref h6, .ref h7, .ref h8, .ref h9, .ref h10, .int 0, .int 0, .int 0, .int 0, .int 0, .int 0])), (h2, .inr (1, [.ref h11, .ref h12, .ref h13, .ref h14, .ref h15, .ref h16, .ref h17, .ref h18, .int 0, .int 0, .int 0, .int 0, .int 0, .int 0, .int 0, .int 0, .int (-1)]))] sz) 1 6 (va_A [(h0, .inr (0, [.ref h1, .ref h2, .ref h3, .ref h4, .ref h5, .ref h6, .ref h7, .ref h8, .ref h9, .ref h10, .int 0, .int 0, .int 0, .int 0, .int 0, .int 0])), (h2, .inr (1, [.ref h11, .ref h12, .ref h13, .ref h14, .ref h15, .ref h16, .ref h17, .ref h18, .int 0, .int 0, .int 0, .int 0, .int 0, .int 0, .int 0, .int 0, .int (-1)]))] sz) := by
  refine tx_ofW (cc := cRp_value) (maxL := 6) (ret := (some .int)) (by decide) rfl ?_
  intro p e s m args below meth c s₁ B hml hnoex hv
  obtain ⟨rfl, hsz, hP, hK, hD0, hAt⟩ := hv
  have hx := B.exec
  have hb := B.bytes
  have hr := B.returns
  have hts := atoms_spec (ws := wsRp_value) B.pre
  have hown : s.vm.findClass "RunProver" = some m.cls := findClass_of_methodNamed B.named
  have hlocks := B.notSynchronized
  subst hsz
  have hD := hD0.self (sz := s.heap.size)
  generalize hAe : va_A [(h0, .inr (0, [.ref h1, .ref h2, .ref h3, .ref h4, .ref h5, .ref h6, .ref h7, .ref h8, .ref h9, .ref h10, .int 0, .int 0, .int 0, .int 0, .int 0, .int 0])), (h2, .inr (1, [.ref h11, .ref h12, .ref h13, .ref h14, .ref h15, .ref h16, .ref h17, .ref h18, .int 0, .int 0, .int 0, .int 0, .int 0, .int 0, .int 0, .int 0, .int (-1)]))] s.heap.size = A at hD ⊢
  have hA : ∀ q : Nat, s.heap.size ≤ q → A q := fun q h => by rw [← hAe]; exact Or.inr h
  have hS : va_S A s.heap s.heap [] := va_S.rf
  have hP : va_P (dC, dI) vwCl [(h0, .inr (0, [.ref h1, .ref h2, .ref h3, .ref h4, .ref h5, .ref h6, .ref h7, .ref h8, .ref h9, .ref h10, .int 0, .int 0, .int 0, .int 0, .int 0, .int 0])), (h2, .inr (1, [.ref h11, .ref h12, .ref h13, .ref h14, .ref h15, .ref h16, .ref h17, .ref h18, .int 0, .int 0, .int 0, .int 0, .int 0, .int 0, .int 0, .int 0, .int (-1)]))] s.heap := hP
  have hK0 := hK
  have hP0 := hP
  have hl := lv_entry ([.ref h0, .int v0, .int v1]) (n := 6) (Nat.le_of_ble_eq_true rfl)
  rw [lg_entry_eq]
  generalize (lg_sl ([.ref h0, .int v0, .int v1]) ++ List.replicate (6 - (lg_sl ([.ref h0, .int v0, .int v1])).length) Slot.unset).toArray = ls at hl ⊢
  have hl : lv_has ls 6 [(0, .ref h0), (1, .int v0), (2, .int v1)] := hl
  refine lv_aload_n hx hb dRp_value_0 rfl (lv_at hl 0 rfl) ?_
  refine va_get (D := (dC, dI)) (ci := 0) (v := .ref h2) (C := "RunProver") (T := TRp) (N := 16) hx hb hts (inRp _) hown hK hP 0 rfl rfl 1 (by decide) (hts (.fieldLink "RunProver" 17 "RunProver" "program" "LRunProver$Program;") (wam9 25 rfl)) (fun _ h9 => h9) rfl dRp_value_1 ?_
  refine lv_iload_n hx hb dRp_value_4 rfl (lv_at hl 1 rfl) ?_
  refine lv_iload_n hx hb dRp_value_5 rfl (lv_at hl 2 rfl) ?_
  have hPc := hP.sub (ws' := [(h2, .inr (1, [.ref h11, .ref h12, .ref h13, .ref h14, .ref h15, .ref h16, .ref h17, .ref h18, .int 0, .int 0, .int 0, .int 0, .int 0, .int 0, .int 0, .int 0, .int (-1)]))]) [1] rfl
  have hDc := hD.sub (ws' := [(h2, .inr (1, [.ref h11, .ref h12, .ref h13, .ref h14, .ref h15, .ref h16, .ref h17, .ref h18, .int 0, .int 0, .int 0, .int 0, .int 0, .int 0, .int 0, .int 0, .int (-1)]))]) [1] (by decide) rfl
  have hKc := hK.sub (tys' := []) [] rfl
  have hFc := va_free (wc := [(h2, .inr (1, [.ref h11, .ref h12, .ref h13, .ref h14, .ref h15, .ref h16, .ref h17, .ref h18, .int 0, .int 0, .int 0, .int 0, .int 0, .int 0, .int 0, .int 0, .int (-1)]))]) hD hS hA [1] rfl
  refine va_calli (va_runV (As := [.int v0, .int v1]) (rest := []) ⟨hx, hb, hml, hown, hts⟩ (c_Pg_hasElement_1 l dC dI s.heap.size h2 v0 v1 h11 h12 h13 h14 h15 h16 h17 h18 e0) (cwV 2 hts (gV (wbm27 14 rfl) (wbm27 15 rfl) (wbm27 16 rfl) (wbm0 2 rfl) (wbm27 17 rfl)) rfl rfl rfl (by decide +kernel) ⟨Nat.le_of_ble_eq_true rfl, Nat.le_of_ble_eq_true rfl⟩) ⟨fun a U g mk q => by obtain ⟨q0, q1, qP, qK, qD⟩ := q; exact ⟨q0, q1, qP, va_K.moved (u := U) (U := U.calling g mk a) (Vm.Alike.refl U.vm) qK, qD⟩, va_recv hKc hPc (ci := 1) (q0 := 0) rfl rfl, fun U hU hW => ⟨rfl, by rw [hU], by rw [hU]; exact hPc, va_K.moved hW.alike hKc, hDc.weaken (fun _ _ _ _ => trivial)⟩⟩ rfl rfl hl.1 rfl (lv_room (Nat.le_of_ble_eq_true rfl)) dRp_value_6 ⟨Nat.le_of_ble_eq_true rfl, Nat.le_of_ble_eq_true rfl⟩) hS (fun q _ h => hFc q h) hFc (fun r_1 u t H1 locs ht hvm hw hB hz1 hk1 hS => ?_)
  obtain ⟨hP1, hK1, hD1⟩ := hB
  rw [ht] at hP1
  have hK1 := va_K.moved hvm.symm hK1
  try dsimp only at hw
  obtain ⟨hP, hD⟩ := va_join (wr := [(h0, .inr (0, [.ref h1, .ref h2, .ref h3, .ref h4, .ref h5, .ref h6, .ref h7, .ref h8, .ref h9, .ref h10, .int 0, .int 0, .int 0, .int 0, .int 0, .int 0]))]) (w1 := [(h2, .inr (1, [.ref h11, .ref h12, .ref h13, .ref h14, .ref h15, .ref h16, .ref h17, .ref h18, .int 0, .int 0, .int 0, .int 0, .int 0, .int 0, .int 0, .int 0, .int (-1)]))]) hP hD [1] [0] rfl rfl (by decide) (by decide) hk1 hFc hP1 hD1
  have hK := (hK.sub (tys' := []) [] rfl).app hK1
  generalize H1 = H at hP hS ⊢
  have hP : va_P (dC, dI) vwCl [(h0, .inr (0, [.ref h1, .ref h2, .ref h3, .ref h4, .ref h5, .ref h6, .ref h7, .ref h8, .ref h9, .ref h10, .int 0, .int 0, .int 0, .int 0, .int 0, .int 0])), (h2, .inr (1, [.ref h11, .ref h12, .ref h13, .ref h14, .ref h15, .ref h16, .ref h17, .ref h18, .int 0, .int 0, .int 0, .int 0, .int 0, .int 0, .int 0, .int 0, .int (-1)]))] H := hP
  have hD : va_D A [(h0, .inr (0, [.ref h1, .ref h2, .ref h3, .ref h4, .ref h5, .ref h6, .ref h7, .ref h8, .ref h9, .ref h10, .int 0, .int 0, .int 0, .int 0, .int 0, .int 0])), (h2, .inr (1, [.ref h11, .ref h12, .ref h13, .ref h14, .ref h15, .ref h16, .ref h17, .ref h18, .int 0, .int 0, .int 0, .int 0, .int 0, .int 0, .int 0, .int 0, .int (-1)]))] := hD
  have hK : va_K (dC, dI) vwCl [] s := hK
  obtain rfl : r_1 = (0 : Int32) := hw
  refine lv_if_ne (tgt := 22) hx hb dRp_value_9 (by decide) (fun h9 => absurd h9 (by decide)) (fun _ => ?_)
  exact tx_throwN (own := "RunProver") (text := "no such element") (sa := sa) hx hb hl9 hown (hts (.classLink "RunProver" 162 "java/util/NoSuchElementException") (wam26 38 rfl)) (tx_good hAt rfl hi0) (vk_R.warm hAt.1 hst0) (tx_all hAt hw0 (by decide +kernel)) (tx_locs hK0 hP0 (fun z hz => by rw [hAe]; exact hS.2.2 z hz)) hS.1 (fun z hz => hS.2.2 z hz) (fun z hz => hS.2.2 z hz) (hl.1.trans hml.symm) dRp_value_12 dRp_value_15 dRp_value_16 dRp_value_18 dRp_value_21 hnoex (Nat.le_of_ble_eq_true rfl) (Nat.le_of_ble_eq_true rfl) (Nat.le_of_ble_eq_true rfl) (Nat.le_of_ble_eq_true rfl) hlocks
