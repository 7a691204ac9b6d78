theorem tx_next {s0 s U : State} (h : tx_At s0 s) (hU : U.heap = s.heap) (hW : s.WarmedH U.vm) : tx_At s0 U := ⟨State.WarmedH.trans h.1 hW, by rw [hU]; exact h.2.1, fun q hq => by rw [hU]; exact h.2.2 q hq⟩
set_option maxHeartbeats 4000000 in
set_option maxRecDepth 100000 in
theorem w_La_end (l : Launch) (hl9 : l.stackTraces = false) (dC : Nat → ClassId) (dI : Nat → Nat → Nat) (s0 : State) (a0 : Array Value) (sa : Nat) (hw0 : ∀ w ∈ Bundle.ownAtoms "RunProver" 98 "java/lang/IllegalArgumentException" ["java/lang/RuntimeException", "java/lang/Exception"], w.before a0 s0 = true) (hi0 : (Cond.initialized "java/lang/IllegalArgumentException").before a0 s0 = true) (hst0 : vk_R "RunProver" 96 "not 0 .. the length of the tape" sa s0) (sz : Nat) (h0 : Nat) (v0 : Int32) (h1 : Nat) (h2 : Nat) (h3 : Nat) (h4 : Nat) (h5 : Nat) (h6 : Nat) (h7 : Nat) (h8 : Nat) (h9 : Nat) (h10 : Nat) (h11 : Nat) (e0 : v0 < 0) : Met l yLa_end wsLa_end ({ frames := 7, cells := 1, slots := 6, locals := 103 }) (va_Pc [.ref h0, .int v0, .ref h1] (fun U => U.heap.size = sz ∧ va_P (dC, dI) vwCl [(h0, .inr (0, [.ref h2, .ref h3, .ref h4, .ref h5, .ref h6, .ref h7, .ref h8, .ref h9, .ref h10, .ref h11, .int 0, .int 0, .int 0, .int 0, .int 0, .int 0]))] U.heap ∧ va_K (dC, dI) vwCl [] U ∧ va_D (fun _ => True) [(h0, .inr (0, [.ref h2, .ref h3, .ref h4, .ref h5, .ref h6, .ref h7, .ref h8, .ref h9, .ref h10, .ref h11, .int 0, .int 0, .int 0, .int 0, .int 0, .int 0]))] ∧ tx_At s0 U)) (va_Qi (fun (r : Int32) (_ : Unit) => r = 1) (fun (_ : Unit) (t : State) => va_P (dC, dI) vwCl [] t.heap ∧ va_K (dC, dI) vwCl [] t ∧ va_D (va_A [(h0, .inr (0, [.ref h2, .ref h3, .ref h4, .ref h5, .ref h6, .ref h7, .ref h8, .ref h9, .ref h10, .ref h11, .int 0, .int 0, .int 0, .int 0, .int 0, .int 0]))] sz) []) (va_A [(h0, .inr (0, [.ref h2, .ref h3, .ref h4, .ref h5, .ref h6, .ref h7, .ref h8, .ref h9, .ref h10, .ref h11, .int 0, .int 0, .int 0, .int 0, .int 0, .int 0]))] sz)) 1 6 (va_A [(h0, .inr (0, [.ref h2, .ref h3, .ref h4, .ref h5, .ref h6, .ref h7, .ref h8, .ref h9, .ref h10, .ref h11, .int 0, .int 0, .int 0, .int 0, .int 0, .int 0]))] sz) := by
  refine va_MetW (cc := cLa_end) (maxL := 4) (ret := (some .int)) (by decide) rfl ?_
  intro p e s m args below meth c s₁ B hml hv
  obtain ⟨rfl, hsz, hP, hK, hD0, hAt⟩ := hv
  have hx := B.exec
  have hb := B.bytes
  have hr := B.returns
  have hts := atoms_spec (ws := wsLa_end) B.pre
  have hTab := tx_table B (hts _ List.mem_cons_self)
  have hown : s.vm.findClass "RunProverLaw" = some m.cls := findClass_of_methodNamed B.named
  have hlocks := B.notSynchronized
  subst hsz
  have hD := hD0.self (sz := s.heap.size)
  generalize hAe : va_A [(h0, .inr (0, [.ref h2, .ref h3, .ref h4, .ref h5, .ref h6, .ref h7, .ref h8, .ref h9, .ref h10, .ref h11, .int 0, .int 0, .int 0, .int 0, .int 0, .int 0]))] s.heap.size = A at hD ⊢
  have hA : ∀ q : Nat, s.heap.size ≤ q → A q := fun q h => by rw [← hAe]; exact Or.inr h
  have hS : va_S A s.heap s.heap [] := va_S.rf
  have hP : va_P (dC, dI) vwCl [(h0, .inr (0, [.ref h2, .ref h3, .ref h4, .ref h5, .ref h6, .ref h7, .ref h8, .ref h9, .ref h10, .ref h11, .int 0, .int 0, .int 0, .int 0, .int 0, .int 0]))] s.heap := hP
  have hl := lv_entry ([.ref h0, .int v0, .ref h1]) (n := 4) (Nat.le_of_ble_eq_true rfl)
  rw [lg_entry_eq]
  generalize (lg_sl ([.ref h0, .int v0, .ref h1]) ++ List.replicate (4 - (lg_sl ([.ref h0, .int v0, .ref h1])).length) Slot.unset).toArray = ls at hl ⊢
  have hl : lv_has ls 4 [(0, .ref h0), (1, .int v0), (2, .ref h1)] := hl
  refine lv_aload_n hx hb dLa_end_0 rfl (lv_at hl 2 rfl) ?_
  refine lv_iconst (v := 0) hx hb dLa_end_1 (by decide) ?_
  refine lv_aload_n hx hb dLa_end_2 rfl (lv_at hl 0 rfl) ?_
  refine lv_iload_n hx hb dLa_end_3 rfl (lv_at hl 1 rfl) ?_
  have hPc := hP.sub (ws' := [(h0, .inr (0, [.ref h2, .ref h3, .ref h4, .ref h5, .ref h6, .ref h7, .ref h8, .ref h9, .ref h10, .ref h11, .int 0, .int 0, .int 0, .int 0, .int 0, .int 0]))]) [0] rfl
  have hDc := hD.sub (ws' := [(h0, .inr (0, [.ref h2, .ref h3, .ref h4, .ref h5, .ref h6, .ref h7, .ref h8, .ref h9, .ref h10, .ref h11, .int 0, .int 0, .int 0, .int 0, .int 0, .int 0]))]) [0] (by decide) rfl
  have hKc := hK.sub (tys' := []) [] rfl
  have hFc := va_free (wc := [(h0, .inr (0, [.ref h2, .ref h3, .ref h4, .ref h5, .ref h6, .ref h7, .ref h8, .ref h9, .ref h10, .ref h11, .int 0, .int 0, .int 0, .int 0, .int 0, .int 0]))]) hD hS hA [0] rfl
  refine tx_catchV (As := [.int v0]) (rest := [.int 0, .ref h1]) ⟨hx, hb, hml, hown, hts⟩ (t_Rp_end l hl9 dC dI s0 a0 sa hw0 hi0 hst0 s.heap.size h0 v0 h2 h3 h4 h5 h6 h7 h8 h9 h10 h11 e0) (cwV 1 hts (gV (wbm26 24 rfl) (wbm26 25 rfl) (wbm26 26 rfl) (wbm0 1 rfl) (wbm26 27 rfl)) rfl rfl rfl (by decide +kernel) ⟨Nat.le_of_ble_eq_true rfl, Nat.le_of_ble_eq_true rfl⟩) ⟨fun a U g mk q => by obtain ⟨q0, q1, qP, qK, qD, qA⟩ := q; exact ⟨q0, q1, qP, va_K.moved (u := U) (U := U.calling g mk a) (Vm.Alike.refl U.vm) qK, qD, qA⟩, va_recv hKc hPc (ci := 0) (q0 := 0) rfl rfl, fun U hU hW => ⟨rfl, by rw [hU], by rw [hU]; exact hPc, va_K.moved hW.alike hKc, hDc.weaken (fun _ _ _ _ => trivial), tx_next hAt hU hW⟩⟩ rfl hl.1 rfl (Nat.le_of_ble_eq_true rfl) dLa_end_4 ⟨Nat.le_of_ble_eq_true rfl, Nat.le_of_ble_eq_true rfl⟩ hS (fun q _ h => hFc q h) hFc (name := "java/lang/IllegalArgumentException") ⟨0, 9, 12, 19⟩ [] (by rw [hTab]; rfl) (by decide) (by decide) (hts (.classLink "RunProverLaw" 19 "java/lang/IllegalArgumentException") (wam26 23 rfl)) (tx_cast hAt (hw0 _ (by simp [Bundle.ownAtoms]))) (fun q9 H locs hz1 hz2 hS => ?_)
  have hP : va_P (dC, dI) vwCl [] H := fun k q h => by simp at h
  have hD : va_D A [] := ⟨fun i j p q h => by simp at h, fun k q h => by simp at h⟩
  have hK : va_K (dC, dI) vwCl [] s := hK.sub (tys' := []) [] rfl
  refine W.widen (k := 1) (n := 6) (by omega) (by omega) ?_
  refine lv_astore_n (lv' := [(3, .ref q9), (0, .ref h0), (1, .int v0), (2, .ref h1)]) hx hb dLa_end_12 rfl hl (by decide) rfl (fun ls hl => ?_)
  refine lv_iconst (v := 1) hx hb dLa_end_13 (by decide) ?_
  have hP9 := hP.sub (ws' := []) [] rfl
  have hD9 := hD.sub (ws' := []) [] (by decide) rfl
  have hK9 := hK.sub (tys' := []) [] rfl
  exact W.iret (v := 1) hx hb hr (fun t ht hW => ⟨⟨1, (), rfl, rfl, by rw [ht]; exact hP9, va_K.moved hW.alike hK9, hD9⟩, hS.F ht⟩) hS.2.2 dLa_end_14
set_option maxHeartbeats 4000000 in
set_option maxRecDepth 100000 in
theorem w_La_end_1 (l : Launch) (hl9 : l.stackTraces = false) (dC : Nat → ClassId) (dI : Nat → Nat → Nat) (s0 : State) (a0 : Array Value) (sa : Nat) (hw0 : ∀ w ∈ Bundle.ownAtoms "RunProver" 98 "java/lang/IllegalArgumentException" ["java/lang/RuntimeException", "java/lang/Exception"], w.before a0 s0 = true) (hi0 : (Cond.initialized "java/lang/IllegalArgumentException").before a0 s0 = true) (hst0 : vk_R "RunProver" 96 "not 0 .. the length of the tape" sa s0) (sz : Nat) (h0 : Nat) (v0 : Int32) (h1 : Nat) (h2 : Nat) (h3 : Nat) (h4 : Nat) (h5 : Nat) (h6 : Nat) (h7 : Nat) (h8 : Nat) (h9 : Nat) (h10 : Nat) (h11 : Nat) (e0 : ¬ v0 < 0) (e1 : 0 < v0) : Met l yLa_end wsLa_end ({ frames := 7, cells := 1, slots := 6, locals := 103 }) (va_Pc [.ref h0, .int v0, .ref h1] (fun U => U.heap.size = sz ∧ va_P (dC, dI) vwCl [(h0, .inr (0, [.ref h2, .ref h3, .ref h4, .ref h5, .ref h6, .ref h7, .ref h8, .ref h9, .ref h10, .ref h11, .int 0, .int 0, .int 0, .int 0, .int 0, .int 0]))] U.heap ∧ va_K (dC, dI) vwCl [] U ∧ va_D (fun _ => True) [(h0, .inr (0, [.ref h2, .ref h3, .ref h4, .ref h5, .ref h6, .ref h7, .ref h8, .ref h9, .ref h10, .ref h11, .int 0, .int 0, .int 0, .int 0, .int 0, .int 0]))] ∧ tx_At s0 U)) (va_Qi (fun (r : Int32) (_ : Unit) => r = 1) (fun (_ : Unit) (t : State) => va_P (dC, dI) vwCl [] t.heap ∧ va_K (dC, dI) vwCl [] t ∧ va_D (va_A [(h0, .inr (0, [.ref h2, .ref h3, .ref h4, .ref h5, .ref h6, .ref h7, .ref h8, .ref h9, .ref h10, .ref h11, .int 0, .int 0, .int 0, .int 0, .int 0, .int 0]))] sz) []) (va_A [(h0, .inr (0, [.ref h2, .ref h3, .ref h4, .ref h5, .ref h6, .ref h7, .ref h8, .ref h9, .ref h10, .ref h11, .int 0, .int 0, .int 0, .int 0, .int 0, .int 0]))] sz)) 1 6 (va_A [(h0, .inr (0, [.ref h2, .ref h3, .ref h4, .ref h5, .ref h6, .ref h7, .ref h8, .ref h9, .ref h10, .ref h11, .int 0, .int 0, .int 0, .int 0, .int 0, .int 0]))] sz) := by
  refine va_MetW (cc := cLa_end) (maxL := 4) (ret := (some .int)) (by decide) rfl ?_
  intro p e s m args below meth c s₁ B hml hv
  obtain ⟨rfl, hsz, hP, hK, hD0, hAt⟩ := hv
  have hx := B.exec
  have hb := B.bytes
  have hr := B.returns
  have hts := atoms_spec (ws := wsLa_end) B.pre
  have hTab := tx_table B (hts _ List.mem_cons_self)
  have hown : s.vm.findClass "RunProverLaw" = some m.cls := findClass_of_methodNamed B.named
  have hlocks := B.notSynchronized
  subst hsz
  have hD := hD0.self (sz := s.heap.size)
  generalize hAe : va_A [(h0, .inr (0, [.ref h2, .ref h3, .ref h4, .ref h5, .ref h6, .ref h7, .ref h8, .ref h9, .ref h10, .ref h11, .int 0, .int 0, .int 0, .int 0, .int 0, .int 0]))] s.heap.size = A at hD ⊢
  have hA : ∀ q : Nat, s.heap.size ≤ q → A q := fun q h => by rw [← hAe]; exact Or.inr h
  have hS : va_S A s.heap s.heap [] := va_S.rf
  have hP : va_P (dC, dI) vwCl [(h0, .inr (0, [.ref h2, .ref h3, .ref h4, .ref h5, .ref h6, .ref h7, .ref h8, .ref h9, .ref h10, .ref h11, .int 0, .int 0, .int 0, .int 0, .int 0, .int 0]))] s.heap := hP
  have hl := lv_entry ([.ref h0, .int v0, .ref h1]) (n := 4) (Nat.le_of_ble_eq_true rfl)
  rw [lg_entry_eq]
  generalize (lg_sl ([.ref h0, .int v0, .ref h1]) ++ List.replicate (4 - (lg_sl ([.ref h0, .int v0, .ref h1])).length) Slot.unset).toArray = ls at hl ⊢
  have hl : lv_has ls 4 [(0, .ref h0), (1, .int v0), (2, .ref h1)] := hl
  refine lv_aload_n hx hb dLa_end_0 rfl (lv_at hl 2 rfl) ?_
  refine lv_iconst (v := 0) hx hb dLa_end_1 (by decide) ?_
  refine lv_aload_n hx hb dLa_end_2 rfl (lv_at hl 0 rfl) ?_
  refine lv_iload_n hx hb dLa_end_3 rfl (lv_at hl 1 rfl) ?_
  have hPc := hP.sub (ws' := [(h0, .inr (0, [.ref h2, .ref h3, .ref h4, .ref h5, .ref h6, .ref h7, .ref h8, .ref h9, .ref h10, .ref h11, .int 0, .int 0, .int 0, .int 0, .int 0, .int 0]))]) [0] rfl
  have hDc := hD.sub (ws' := [(h0, .inr (0, [.ref h2, .ref h3, .ref h4, .ref h5, .ref h6, .ref h7, .ref h8, .ref h9, .ref h10, .ref h11, .int 0, .int 0, .int 0, .int 0, .int 0, .int 0]))]) [0] (by decide) rfl
  have hKc := hK.sub (tys' := []) [] rfl
  have hFc := va_free (wc := [(h0, .inr (0, [.ref h2, .ref h3, .ref h4, .ref h5, .ref h6, .ref h7, .ref h8, .ref h9, .ref h10, .ref h11, .int 0, .int 0, .int 0, .int 0, .int 0, .int 0]))]) hD hS hA [0] rfl
  refine tx_catchV (As := [.int v0]) (rest := [.int 0, .ref h1]) ⟨hx, hb, hml, hown, hts⟩ (t_Rp_end_1 l hl9 dC dI s0 a0 sa hw0 hi0 hst0 s.heap.size h0 v0 h2 h3 h4 h5 h6 h7 h8 h9 h10 h11 e0 e1) (cwV 1 hts (gV (wbm26 24 rfl) (wbm26 25 rfl) (wbm26 26 rfl) (wbm0 1 rfl) (wbm26 27 rfl)) rfl rfl rfl (by decide +kernel) ⟨Nat.le_of_ble_eq_true rfl, Nat.le_of_ble_eq_true rfl⟩) ⟨fun a U g mk q => by obtain ⟨q0, q1, qP, qK, qD, qA⟩ := q; exact ⟨q0, q1, qP, va_K.moved (u := U) (U := U.calling g mk a) (Vm.Alike.refl U.vm) qK, qD, qA⟩, va_recv hKc hPc (ci := 0) (q0 := 0) rfl rfl, fun U hU hW => ⟨rfl, by rw [hU], by rw [hU]; exact hPc, va_K.moved hW.alike hKc, hDc.weaken (fun _ _ _ _ => trivial), tx_next hAt hU hW⟩⟩ rfl hl.1 rfl (Nat.le_of_ble_eq_true rfl) dLa_end_4 ⟨Nat.le_of_ble_eq_true rfl, Nat.le_of_ble_eq_true rfl⟩ hS (fun q _ h => hFc q h) hFc (name := "java/lang/IllegalArgumentException") ⟨0, 9, 12, 19⟩ [] (by rw [hTab]; rfl) (by decide) (by decide) (hts (.classLink "RunProverLaw" 19 "java/lang/IllegalArgumentException") (wam26 23 rfl)) (tx_cast hAt (hw0 _ (by simp [Bundle.ownAtoms]))) (fun q9 H locs hz1 hz2 hS => ?_)
  have hP : va_P (dC, dI) vwCl [] H := fun k q h => by simp at h
  have hD : va_D A [] := ⟨fun i j p q h => by simp at h, fun k q h => by simp at h⟩
  have hK : va_K (dC, dI) vwCl [] s := hK.sub (tys' := []) [] rfl
  refine W.widen (k := 1) (n := 6) (by omega) (by omega) ?_
  refine lv_astore_n (lv' := [(3, .ref q9), (0, .ref h0), (1, .int v0), (2, .ref h1)]) hx hb dLa_end_12 rfl hl (by decide) rfl (fun ls hl => ?_)
  refine lv_iconst (v := 1) hx hb dLa_end_13 (by decide) ?_
  have hP9 := hP.sub (ws' := []) [] rfl
  have hD9 := hD.sub (ws' := []) [] (by decide) rfl
  have hK9 := hK.sub (tys' := []) [] rfl
  exact W.iret (v := 1) hx hb hr (fun t ht hW => ⟨⟨1, (), rfl, rfl, by rw [ht]; exact hP9, va_K.moved hW.alike hK9, hD9⟩, hS.F ht⟩) hS.2.2 dLa_end_14
set_option maxHeartbeats 4000000 in
set_option maxRecDepth 100000 in
theorem w_La_breaks (l : Launch) (hl9 : l.stackTraces = false) (dC : Nat → ClassId) (dI : Nat → Nat → Nat) (s0 : State) (a0 : Array Value) (sa : Nat) (hw0 : ∀ w ∈ tx_nse "RunProver" 166, w.before a0 s0 = true) (hi0 : (Cond.initialized "java/util/NoSuchElementException").before a0 s0 = true) (hst0 : vk_R "RunProver" 164 "no such check" sa s0) (sz : Nat) (h0 : Nat) (v0 : Int32) (h1 : Nat) (h2 : Nat) (h3 : Nat) (h4 : Nat) (h5 : Nat) (h6 : Nat) (h7 : Nat) (h8 : Nat) (h9 : Nat) (h10 : Nat) (h11 : Nat) (e0 : v0 < 0) : Met l yLa_breaks wsLa_breaks ({ frames := 7, cells := 1, slots := 6, locals := 103 }) (va_Pc [.ref h0, .int v0, .ref h1] (fun U => U.heap.size = sz ∧ va_P (dC, dI) vwCl [(h0, .inr (0, [.ref h2, .ref h3, .ref h4, .ref h5, .ref h6, .ref h7, .ref h8, .ref h9, .ref h10, .ref h11, .int 0, .int 0, .int 0, .int 0, .int 0, .int 0]))] U.heap ∧ va_K (dC, dI) vwCl [] U ∧ va_D (fun _ => True) [(h0, .inr (0, [.ref h2, .ref h3, .ref h4, .ref h5, .ref h6, .ref h7, .ref h8, .ref h9, .ref h10, .ref h11, .int 0, .int 0, .int 0, .int 0, .int 0, .int 0]))] ∧ tx_At s0 U)) (va_Qi (fun (r : Int32) (_ : Unit) => r = 1) (fun (_ : Unit) (t : State) => va_P (dC, dI) vwCl [] t.heap ∧ va_K (dC, dI) vwCl [] t ∧ va_D (va_A [(h0, .inr (0, [.ref h2, .ref h3, .ref h4, .ref h5, .ref h6, .ref h7, .ref h8, .ref h9, .ref h10, .ref h11, .int 0, .int 0, .int 0, .int 0, .int 0, .int 0]))] sz) []) (va_A [(h0, .inr (0, [.ref h2, .ref h3, .ref h4, .ref h5, .ref h6, .ref h7, .ref h8, .ref h9, .ref h10, .ref h11, .int 0, .int 0, .int 0, .int 0, .int 0, .int 0]))] sz)) 1 6 (va_A [(h0, .inr (0, [.ref h2, .ref h3, .ref h4, .ref h5, .ref h6, .ref h7, .ref h8, .ref h9, .ref h10, .ref h11, .int 0, .int 0, .int 0, .int 0, .int 0, .int 0]))] sz) := by
  refine va_MetW (cc := cLa_breaks) (maxL := 4) (ret := (some .int)) (by decide) rfl ?_
  intro p e s m args below meth c s₁ B hml hv
  obtain ⟨rfl, hsz, hP, hK, hD0, hAt⟩ := hv
  have hx := B.exec
  have hb := B.bytes
  have hr := B.returns
  have hts := atoms_spec (ws := wsLa_breaks) B.pre
  have hTab := tx_table B (hts _ List.mem_cons_self)
  have hown : s.vm.findClass "RunProverLaw" = some m.cls := findClass_of_methodNamed B.named
  have hlocks := B.notSynchronized
  subst hsz
  have hD := hD0.self (sz := s.heap.size)
  generalize hAe : va_A [(h0, .inr (0, [.ref h2, .ref h3, .ref h4, .ref h5, .ref h6, .ref h7, .ref h8, .ref h9, .ref h10, .ref h11, .int 0, .int 0, .int 0, .int 0, .int 0, .int 0]))] s.heap.size = A at hD ⊢
  have hA : ∀ q : Nat, s.heap.size ≤ q → A q := fun q h => by rw [← hAe]; exact Or.inr h
  have hS : va_S A s.heap s.heap [] := va_S.rf
  have hP : va_P (dC, dI) vwCl [(h0, .inr (0, [.ref h2, .ref h3, .ref h4, .ref h5, .ref h6, .ref h7, .ref h8, .ref h9, .ref h10, .ref h11, .int 0, .int 0, .int 0, .int 0, .int 0, .int 0]))] s.heap := hP
  have hl := lv_entry ([.ref h0, .int v0, .ref h1]) (n := 4) (Nat.le_of_ble_eq_true rfl)
  rw [lg_entry_eq]
  generalize (lg_sl ([.ref h0, .int v0, .ref h1]) ++ List.replicate (4 - (lg_sl ([.ref h0, .int v0, .ref h1])).length) Slot.unset).toArray = ls at hl ⊢
  have hl : lv_has ls 4 [(0, .ref h0), (1, .int v0), (2, .ref h1)] := hl
  refine lv_aload_n hx hb dLa_breaks_0 rfl (lv_at hl 2 rfl) ?_
  refine lv_iconst (v := 0) hx hb dLa_breaks_1 (by decide) ?_
  refine lv_aload_n hx hb dLa_breaks_2 rfl (lv_at hl 0 rfl) ?_
  refine lv_iload_n hx hb dLa_breaks_3 rfl (lv_at hl 1 rfl) ?_
  have hPc := hP.sub (ws' := [(h0, .inr (0, [.ref h2, .ref h3, .ref h4, .ref h5, .ref h6, .ref h7, .ref h8, .ref h9, .ref h10, .ref h11, .int 0, .int 0, .int 0, .int 0, .int 0, .int 0]))]) [0] rfl
  have hDc := hD.sub (ws' := [(h0, .inr (0, [.ref h2, .ref h3, .ref h4, .ref h5, .ref h6, .ref h7, .ref h8, .ref h9, .ref h10, .ref h11, .int 0, .int 0, .int 0, .int 0, .int 0, .int 0]))]) [0] (by decide) rfl
  have hKc := hK.sub (tys' := []) [] rfl
  have hFc := va_free (wc := [(h0, .inr (0, [.ref h2, .ref h3, .ref h4, .ref h5, .ref h6, .ref h7, .ref h8, .ref h9, .ref h10, .ref h11, .int 0, .int 0, .int 0, .int 0, .int 0, .int 0]))]) hD hS hA [0] rfl
  refine tx_catchV (As := [.int v0]) (rest := [.int 0, .ref h1]) ⟨hx, hb, hml, hown, hts⟩ (t_Rp_breaks l hl9 dC dI s0 a0 sa hw0 hi0 hst0 s.heap.size h0 v0 h2 h3 h4 h5 h6 h7 h8 h9 h10 h11 e0) (cwV 1 hts (gV (wbm26 34 rfl) (wbm26 35 rfl) (wbm26 36 rfl) (wbm0 1 rfl) (wbm26 37 rfl)) rfl rfl rfl (by decide +kernel) ⟨Nat.le_of_ble_eq_true rfl, Nat.le_of_ble_eq_true rfl⟩) ⟨fun a U g mk q => by obtain ⟨q0, q1, qP, qK, qD, qA⟩ := q; exact ⟨q0, q1, qP, va_K.moved (u := U) (U := U.calling g mk a) (Vm.Alike.refl U.vm) qK, qD, qA⟩, va_recv hKc hPc (ci := 0) (q0 := 0) rfl rfl, fun U hU hW => ⟨rfl, by rw [hU], by rw [hU]; exact hPc, va_K.moved hW.alike hKc, hDc.weaken (fun _ _ _ _ => trivial), tx_next hAt hU hW⟩⟩ rfl hl.1 rfl (Nat.le_of_ble_eq_true rfl) dLa_breaks_4 ⟨Nat.le_of_ble_eq_true rfl, Nat.le_of_ble_eq_true rfl⟩ hS (fun q _ h => hFc q h) hFc (name := "java/util/NoSuchElementException") ⟨0, 9, 12, 24⟩ [] (by rw [hTab]; rfl) (by decide) (by decide) (hts (.classLink "RunProverLaw" 24 "java/util/NoSuchElementException") (wam26 33 rfl)) (tx_cast hAt (hw0 (.castable tx_nX tx_nX) (by simp [tx_nse]))) (fun q9 H locs hz1 hz2 hS => ?_)
  have hP : va_P (dC, dI) vwCl [] H := fun k q h => by simp at h
  have hD : va_D A [] := ⟨fun i j p q h => by simp at h, fun k q h => by simp at h⟩
  have hK : va_K (dC, dI) vwCl [] s := hK.sub (tys' := []) [] rfl
  refine W.widen (k := 1) (n := 6) (by omega) (by omega) ?_
  refine lv_astore_n (lv' := [(3, .ref q9), (0, .ref h0), (1, .int v0), (2, .ref h1)]) hx hb dLa_breaks_12 rfl hl (by decide) rfl (fun ls hl => ?_)
  refine lv_iconst (v := 1) hx hb dLa_breaks_13 (by decide) ?_
  have hP9 := hP.sub (ws' := []) [] rfl
  have hD9 := hD.sub (ws' := []) [] (by decide) rfl
  have hK9 := hK.sub (tys' := []) [] rfl
  exact W.iret (v := 1) hx hb hr (fun t ht hW => ⟨⟨1, (), rfl, rfl, by rw [ht]; exact hP9, va_K.moved hW.alike hK9, hD9⟩, hS.F ht⟩) hS.2.2 dLa_breaks_14
set_option maxHeartbeats 4000000 in
set_option maxRecDepth 100000 in
theorem w_La_breaks_1 (l : Launch) (hl9 : l.stackTraces = false) (dC : Nat → ClassId) (dI : Nat → Nat → Nat) (s0 : State) (a0 : Array Value) (sa : Nat) (hw0 : ∀ w ∈ tx_nse "RunProver" 166, w.before a0 s0 = true) (hi0 : (Cond.initialized "java/util/NoSuchElementException").before a0 s0 = true) (hst0 : vk_R "RunProver" 164 "no such check" sa s0) (sz : Nat) (h0 : Nat) (v0 : Int32) (h1 : Nat) (h2 : Nat) (h3 : Nat) (h4 : Nat) (h5 : Nat) (h6 : Nat) (h7 : Nat) (h8 : Nat) (h9 : Nat) (h10 : Nat) (h11 : Nat) (h12 : Nat) (h13 : Nat) (h14 : Nat) (h15 : Nat) (h16 : Nat) (h17 : Nat) (h18 : Nat) (h19 : Nat) (e0 : ¬ v0 < 0) : Met l yLa_breaks wsLa_breaks ({ frames := 7, cells := 1, slots := 6, locals := 103 }) (va_Pc [.ref h0, .int v0, .ref h1] (fun U => U.heap.size = sz ∧ va_P (dC, dI) vwCl [(h0, .inr (0, [.ref h2, .ref h3, .ref h4, .ref h5, .ref h6, .ref h7, .ref h8, .ref h9, .ref h10, .ref h11, .int 0, .int 0, .int 0, .int 0, .int 0, .int 0])), (h3, .inr (1, [.ref h12, .ref h13, .ref h14, .ref h15, .ref h16, .ref h17, .ref h18, .ref h19, .int 0, .int 0, .int 0, .int 0, .int 0, .int 0, .int 0, .int 0, .int (-1)]))] U.heap ∧ va_K (dC, dI) vwCl [] U ∧ va_D (fun _ => True) [(h0, .inr (0, [.ref h2, .ref h3, .ref h4, .ref h5, .ref h6, .ref h7, .ref h8, .ref h9, .ref h10, .ref h11, .int 0, .int 0, .int 0, .int 0, .int 0, .int 0])), (h3, .inr (1, [.ref h12, .ref h13, .ref h14, .ref h15, .ref h16, .ref h17, .ref h18, .ref h19, .int 0, .int 0, .int 0, .int 0, .int 0, .int 0, .int 0, .int 0, .int (-1)]))] ∧ tx_At s0 U)) (va_Qi (fun (r : Int32) (_ : Unit) => r = 1) (fun (_ : Unit) (t : State) => va_P (dC, dI) vwCl [] t.heap ∧ va_K (dC, dI) vwCl [] t ∧ va_D (va_A [(h0, .inr (0, [.ref h2, .ref h3, .ref h4, .ref h5, .ref h6, .ref h7, .ref h8, .ref h9, .ref h10, .ref h11, .int 0, .int 0, .int 0, .int 0, .int 0, .int 0])), (h3, .inr (1, [.ref h12, .ref h13, .ref h14, .ref h15, .ref h16, .ref h17, .ref h18, .ref h19, .int 0, .int 0, .int 0, .int 0, .int 0, .int 0, .int 0, .int 0, .int (-1)]))] sz) []) (va_A [(h0, .inr (0, [.ref h2, .ref h3, .ref h4, .ref h5, .ref h6, .ref h7, .ref h8, .ref h9, .ref h10, .ref h11, .int 0, .int 0, .int 0, .int 0, .int 0, .int 0])), (h3, .inr (1, [.ref h12, .ref h13, .ref h14, .ref h15, .ref h16, .ref h17, .ref h18, .ref h19, .int 0, .int 0, .int 0, .int 0, .int 0, .int 0, .int 0, .int 0, .int (-1)]))] sz)) 1 6 (va_A [(h0, .inr (0, [.ref h2, .ref h3, .ref h4, .ref h5, .ref h6, .ref h7, .ref h8, .ref h9, .ref h10, .ref h11, .int 0, .int 0, .int 0, .int 0, .int 0, .int 0])), (h3, .inr (1, [.ref h12, .ref h13, .ref h14, .ref h15, .ref h16, .ref h17, .ref h18, .ref h19, .int 0, .int 0, .int 0, .int 0, .int 0, .int 0, .int 0, .int 0, .int (-1)]))] sz) := by
  refine va_MetW (cc := cLa_breaks) (maxL := 4) (ret := (some .int)) (by decide) rfl ?_
  intro p e s m args below meth c s₁ B hml hv
  obtain ⟨rfl, hsz, hP, hK, hD0, hAt⟩ := hv
  have hx := B.exec
  have hb := B.bytes
  have hr := B.returns
  have hts := atoms_spec (ws := wsLa_breaks) B.pre
  have hTab := tx_table B (hts _ List.mem_cons_self)
  have hown : s.vm.findClass "RunProverLaw" = some m.cls := findClass_of_methodNamed B.named
  have hlocks := B.notSynchronized
  subst hsz
  have hD := hD0.self (sz := s.heap.size)
  generalize hAe : va_A [(h0, .inr (0, [.ref h2, .ref h3, .ref h4, .ref h5, .ref h6, .ref h7, .ref h8, .ref h9, .ref h10, .ref h11, .int 0, .int 0, .int 0, .int 0, .int 0, .int 0])), (h3, .inr (1, [.ref h12, .ref h13, .ref h14, .ref h15, .ref h16, .ref h17, .ref h18, .ref h19, .int 0, .int 0, .int 0, .int 0, .int 0, .int 0, .int 0, .int 0, .int (-1)]))] s.heap.size = A at hD ⊢
  have hA : ∀ q : Nat, s.heap.size ≤ q → A q := fun q h => by rw [← hAe]; exact Or.inr h
  have hS : va_S A s.heap s.heap [] := va_S.rf
  have hP : va_P (dC, dI) vwCl [(h0, .inr (0, [.ref h2, .ref h3, .ref h4, .ref h5, .ref h6, .ref h7, .ref h8, .ref h9, .ref h10, .ref h11, .int 0, .int 0, .int 0, .int 0, .int 0, .int 0])), (h3, .inr (1, [.ref h12, .ref h13, .ref h14, .ref h15, .ref h16, .ref h17, .ref h18, .ref h19, .int 0, .int 0, .int 0, .int 0, .int 0, .int 0, .int 0, .int 0, .int (-1)]))] s.heap := hP
  have hl := lv_entry ([.ref h0, .int v0, .ref h1]) (n := 4) (Nat.le_of_ble_eq_true rfl)
  rw [lg_entry_eq]
  generalize (lg_sl ([.ref h0, .int v0, .ref h1]) ++ List.replicate (4 - (lg_sl ([.ref h0, .int v0, .ref h1])).length) Slot.unset).toArray = ls at hl ⊢
  have hl : lv_has ls 4 [(0, .ref h0), (1, .int v0), (2, .ref h1)] := hl
  refine lv_aload_n hx hb dLa_breaks_0 rfl (lv_at hl 2 rfl) ?_
  refine lv_iconst (v := 0) hx hb dLa_breaks_1 (by decide) ?_
  refine lv_aload_n hx hb dLa_breaks_2 rfl (lv_at hl 0 rfl) ?_
  refine lv_iload_n hx hb dLa_breaks_3 rfl (lv_at hl 1 rfl) ?_
  have hPc := hP.sub (ws' := [(h0, .inr (0, [.ref h2, .ref h3, .ref h4, .ref h5, .ref h6, .ref h7, .ref h8, .ref h9, .ref h10, .ref h11, .int 0, .int 0, .int 0, .int 0, .int 0, .int 0])), (h3, .inr (1, [.ref h12, .ref h13, .ref h14, .ref h15, .ref h16, .ref h17, .ref h18, .ref h19, .int 0, .int 0, .int 0, .int 0, .int 0, .int 0, .int 0, .int 0, .int (-1)]))]) [0, 1] rfl
  have hDc := hD.sub (ws' := [(h0, .inr (0, [.ref h2, .ref h3, .ref h4, .ref h5, .ref h6, .ref h7, .ref h8, .ref h9, .ref h10, .ref h11, .int 0, .int 0, .int 0, .int 0, .int 0, .int 0])), (h3, .inr (1, [.ref h12, .ref h13, .ref h14, .ref h15, .ref h16, .ref h17, .ref h18, .ref h19, .int 0, .int 0, .int 0, .int 0, .int 0, .int 0, .int 0, .int 0, .int (-1)]))]) [0, 1] (by decide) rfl
  have hKc := hK.sub (tys' := []) [] rfl
  have hFc := va_free (wc := [(h0, .inr (0, [.ref h2, .ref h3, .ref h4, .ref h5, .ref h6, .ref h7, .ref h8, .ref h9, .ref h10, .ref h11, .int 0, .int 0, .int 0, .int 0, .int 0, .int 0])), (h3, .inr (1, [.ref h12, .ref h13, .ref h14, .ref h15, .ref h16, .ref h17, .ref h18, .ref h19, .int 0, .int 0, .int 0, .int 0, .int 0, .int 0, .int 0, .int 0, .int (-1)]))]) hD hS hA [0, 1] rfl
  refine tx_catchV (As := [.int v0]) (rest := [.int 0, .ref h1]) ⟨hx, hb, hml, hown, hts⟩ (t_Rp_breaks_1 l hl9 dC dI s0 a0 sa hw0 hi0 hst0 s.heap.size h0 v0 h2 h3 h4 h5 h6 h7 h8 h9 h10 h11 h12 h13 h14 h15 h16 h17 h18 h19 e0) (cwV 1 hts (gV (wbm26 34 rfl) (wbm26 35 rfl) (wbm26 36 rfl) (wbm0 1 rfl) (wbm26 37 rfl)) rfl rfl rfl (by decide +kernel) ⟨Nat.le_of_ble_eq_true rfl, Nat.le_of_ble_eq_true rfl⟩) ⟨fun a U g mk q => by obtain ⟨q0, q1, qP, qK, qD, qA⟩ := q; exact ⟨q0, q1, qP, va_K.moved (u := U) (U := U.calling g mk a) (Vm.Alike.refl U.vm) qK, qD, qA⟩, va_recv hKc hPc (ci := 0) (q0 := 0) rfl rfl, fun U hU hW => ⟨rfl, by rw [hU], by rw [hU]; exact hPc, va_K.moved hW.alike hKc, hDc.weaken (fun _ _ _ _ => trivial), tx_next hAt hU hW⟩⟩ rfl hl.1 rfl (Nat.le_of_ble_eq_true rfl) dLa_breaks_4 ⟨Nat.le_of_ble_eq_true rfl, Nat.le_of_ble_eq_true rfl⟩ hS (fun q _ h => hFc q h) hFc (name := "java/util/NoSuchElementException") ⟨0, 9, 12, 24⟩ [] (by rw [hTab]; rfl) (by decide) (by decide) (hts (.classLink "RunProverLaw" 24 "java/util/NoSuchElementException") (wam26 33 rfl)) (tx_cast hAt (hw0 (.castable tx_nX tx_nX) (by simp [tx_nse]))) (fun q9 H locs hz1 hz2 hS => ?_)
  have hP : va_P (dC, dI) vwCl [] H := fun k q h => by simp at h
  have hD : va_D A [] := ⟨fun i j p q h => by simp at h, fun k q h => by simp at h⟩
  have hK : va_K (dC, dI) vwCl [] s := hK.sub (tys' := []) [] rfl
  refine W.widen (k := 1) (n := 6) (by omega) (by omega) ?_
  refine lv_astore_n (lv' := [(3, .ref q9), (0, .ref h0), (1, .int v0), (2, .ref h1)]) hx hb dLa_breaks_12 rfl hl (by decide) rfl (fun ls hl => ?_)
  refine lv_iconst (v := 1) hx hb dLa_breaks_13 (by decide) ?_
  have hP9 := hP.sub (ws' := []) [] rfl
  have hD9 := hD.sub (ws' := []) [] (by decide) rfl
  have hK9 := hK.sub (tys' := []) [] rfl
  exact W.iret (v := 1) hx hb hr (fun t ht hW => ⟨⟨1, (), rfl, rfl, by rw [ht]; exact hP9, va_K.moved hW.alike hK9, hD9⟩, hS.F ht⟩) hS.2.2 dLa_breaks_14
set_option maxHeartbeats 4000000 in
set_option maxRecDepth 100000 in
theorem w_La_reaches (l : Launch) (hl9 : l.stackTraces = false) (dC : Nat → ClassId) (dI : Nat → Nat → Nat) (s0 : State) (a0 : Array Value) (sa : Nat) (hw0 : ∀ w ∈ tx_nse "RunProver" 166, w.before a0 s0 = true) (hi0 : (Cond.initialized "java/util/NoSuchElementException").before a0 s0 = true) (hst0 : vk_R "RunProver" 164 "no such check" sa s0) (sz : Nat) (h0 : Nat) (v0 : Int32) (h1 : Nat) (h2 : Nat) (h3 : Nat) (h4 : Nat) (h5 : Nat) (h6 : Nat) (h7 : Nat) (h8 : Nat) (h9 : Nat) (h10 : Nat) (h11 : Nat) (e0 : v0 < 0) : Met l yLa_reaches wsLa_reaches ({ frames := 7, cells := 1, slots := 6, locals := 103 }) (va_Pc [.ref h0, .int v0, .ref h1] (fun U => U.heap.size = sz ∧ va_P (dC, dI) vwCl [(h0, .inr (0, [.ref h2, .ref h3, .ref h4, .ref h5, .ref h6, .ref h7, .ref h8, .ref h9, .ref h10, .ref h11, .int 0, .int 0, .int 0, .int 0, .int 0, .int 0]))] U.heap ∧ va_K (dC, dI) vwCl [] U ∧ va_D (fun _ => True) [(h0, .inr (0, [.ref h2, .ref h3, .ref h4, .ref h5, .ref h6, .ref h7, .ref h8, .ref h9, .ref h10, .ref h11, .int 0, .int 0, .int 0, .int 0, .int 0, .int 0]))] ∧ tx_At s0 U)) (va_Qi (fun (r : Int32) (_ : Unit) => r = 1) (fun (_ : Unit) (t : State) => va_P (dC, dI) vwCl [] t.heap ∧ va_K (dC, dI) vwCl [] t ∧ va_D (va_A [(h0, .inr (0, [.ref h2, .ref h3, .ref h4, .ref h5, .ref h6, .ref h7, .ref h8, .ref h9, .ref h10, .ref h11, .int 0, .int 0, .int 0, .int 0, .int 0, .int 0]))] sz) []) (va_A [(h0, .inr (0, [.ref h2, .ref h3, .ref h4, .ref h5, .ref h6, .ref h7, .ref h8, .ref h9, .ref h10, .ref h11, .int 0, .int 0, .int 0, .int 0, .int 0, .int 0]))] sz)) 1 6 (va_A [(h0, .inr (0, [.ref h2, .ref h3, .ref h4, .ref h5, .ref h6, .ref h7, .ref h8, .ref h9, .ref h10, .ref h11, .int 0, .int 0, .int 0, .int 0, .int 0, .int 0]))] sz) := by
  refine va_MetW (cc := cLa_reaches) (maxL := 4) (ret := (some .int)) (by decide) rfl ?_
  intro p e s m args below meth c s₁ B hml hv
  obtain ⟨rfl, hsz, hP, hK, hD0, hAt⟩ := hv
  have hx := B.exec
  have hb := B.bytes
  have hr := B.returns
  have hts := atoms_spec (ws := wsLa_reaches) B.pre
  have hTab := tx_table B (hts _ List.mem_cons_self)
  have hown : s.vm.findClass "RunProverLaw" = some m.cls := findClass_of_methodNamed B.named
  have hlocks := B.notSynchronized
  subst hsz
  have hD := hD0.self (sz := s.heap.size)
  generalize hAe : va_A [(h0, .inr (0, [.ref h2, .ref h3, .ref h4, .ref h5, .ref h6, .ref h7, .ref h8, .ref h9, .ref h10, .ref h11, .int 0, .int 0, .int 0, .int 0, .int 0, .int 0]))] s.heap.size = A at hD ⊢
  have hA : ∀ q : Nat, s.heap.size ≤ q → A q := fun q h => by rw [← hAe]; exact Or.inr h
  have hS : va_S A s.heap s.heap [] := va_S.rf
  have hP : va_P (dC, dI) vwCl [(h0, .inr (0, [.ref h2, .ref h3, .ref h4, .ref h5, .ref h6, .ref h7, .ref h8, .ref h9, .ref h10, .ref h11, .int 0, .int 0, .int 0, .int 0, .int 0, .int 0]))] s.heap := hP
  have hl := lv_entry ([.ref h0, .int v0, .ref h1]) (n := 4) (Nat.le_of_ble_eq_true rfl)
  rw [lg_entry_eq]
  generalize (lg_sl ([.ref h0, .int v0, .ref h1]) ++ List.replicate (4 - (lg_sl ([.ref h0, .int v0, .ref h1])).length) Slot.unset).toArray = ls at hl ⊢
  have hl : lv_has ls 4 [(0, .ref h0), (1, .int v0), (2, .ref h1)] := hl
  refine lv_aload_n hx hb dLa_reaches_0 rfl (lv_at hl 2 rfl) ?_
  refine lv_iconst (v := 0) hx hb dLa_reaches_1 (by decide) ?_
  refine lv_aload_n hx hb dLa_reaches_2 rfl (lv_at hl 0 rfl) ?_
  refine lv_iload_n hx hb dLa_reaches_3 rfl (lv_at hl 1 rfl) ?_
  have hPc := hP.sub (ws' := [(h0, .inr (0, [.ref h2, .ref h3, .ref h4, .ref h5, .ref h6, .ref h7, .ref h8, .ref h9, .ref h10, .ref h11, .int 0, .int 0, .int 0, .int 0, .int 0, .int 0]))]) [0] rfl
  have hDc := hD.sub (ws' := [(h0, .inr (0, [.ref h2, .ref h3, .ref h4, .ref h5, .ref h6, .ref h7, .ref h8, .ref h9, .ref h10, .ref h11, .int 0, .int 0, .int 0, .int 0, .int 0, .int 0]))]) [0] (by decide) rfl
  have hKc := hK.sub (tys' := []) [] rfl
  have hFc := va_free (wc := [(h0, .inr (0, [.ref h2, .ref h3, .ref h4, .ref h5, .ref h6, .ref h7, .ref h8, .ref h9, .ref h10, .ref h11, .int 0, .int 0, .int 0, .int 0, .int 0, .int 0]))]) hD hS hA [0] rfl
  refine tx_catchV (As := [.int v0]) (rest := [.int 0, .ref h1]) ⟨hx, hb, hml, hown, hts⟩ (t_Rp_reaches l hl9 dC dI s0 a0 sa hw0 hi0 hst0 s.heap.size h0 v0 h2 h3 h4 h5 h6 h7 h8 h9 h10 h11 e0) (cwV 1 hts (gV (wbm27 3 rfl) (wbm27 4 rfl) (wbm27 5 rfl) (wbm0 1 rfl) (wbm27 6 rfl)) rfl rfl rfl (by decide +kernel) ⟨Nat.le_of_ble_eq_true rfl, Nat.le_of_ble_eq_true rfl⟩) ⟨fun a U g mk q => by obtain ⟨q0, q1, qP, qK, qD, qA⟩ := q; exact ⟨q0, q1, qP, va_K.moved (u := U) (U := U.calling g mk a) (Vm.Alike.refl U.vm) qK, qD, qA⟩, va_recv hKc hPc (ci := 0) (q0 := 0) rfl rfl, fun U hU hW => ⟨rfl, by rw [hU], by rw [hU]; exact hPc, va_K.moved hW.alike hKc, hDc.weaken (fun _ _ _ _ => trivial), tx_next hAt hU hW⟩⟩ rfl hl.1 rfl (Nat.le_of_ble_eq_true rfl) dLa_reaches_4 ⟨Nat.le_of_ble_eq_true rfl, Nat.le_of_ble_eq_true rfl⟩ hS (fun q _ h => hFc q h) hFc (name := "java/util/NoSuchElementException") ⟨0, 9, 12, 24⟩ [] (by rw [hTab]; rfl) (by decide) (by decide) (hts (.classLink "RunProverLaw" 24 "java/util/NoSuchElementException") (wam26 33 rfl)) (tx_cast hAt (hw0 (.castable tx_nX tx_nX) (by simp [tx_nse]))) (fun q9 H locs hz1 hz2 hS => ?_)
  have hP : va_P (dC, dI) vwCl [] H := fun k q h => by simp at h
  have hD : va_D A [] := ⟨fun i j p q h => by simp at h, fun k q h => by simp at h⟩
  have hK : va_K (dC, dI) vwCl [] s := hK.sub (tys' := []) [] rfl
  refine W.widen (k := 1) (n := 6) (by omega) (by omega) ?_
  refine lv_astore_n (lv' := [(3, .ref q9), (0, .ref h0), (1, .int v0), (2, .ref h1)]) hx hb dLa_reaches_12 rfl hl (by decide) rfl (fun ls hl => ?_)
  refine lv_iconst (v := 1) hx hb dLa_reaches_13 (by decide) ?_
  have hP9 := hP.sub (ws' := []) [] rfl
  have hD9 := hD.sub (ws' := []) [] (by decide) rfl
  have hK9 := hK.sub (tys' := []) [] rfl
  exact W.iret (v := 1) hx hb hr (fun t ht hW => ⟨⟨1, (), rfl, rfl, by rw [ht]; exact hP9, va_K.moved hW.alike hK9, hD9⟩, hS.F ht⟩) hS.2.2 dLa_reaches_14
set_option maxHeartbeats 4000000 in
set_option maxRecDepth 100000 in
theorem w_La_reaches_1 (l : Launch) (hl9 : l.stackTraces = false) (dC : Nat → ClassId) (dI : Nat → Nat → Nat) (s0 : State) (a0 : Array Value) (sa : Nat) (hw0 : ∀ w ∈ tx_nse "RunProver" 166, w.before a0 s0 = true) (hi0 : (Cond.initialized "java/util/NoSuchElementException").before a0 s0 = true) (hst0 : vk_R "RunProver" 164 "no such check" sa s0) (sz : Nat) (h0 : Nat) (v0 : Int32) (h1 : Nat) (h2 : Nat) (h3 : Nat) (h4 : Nat) (h5 : Nat) (h6 : Nat) (h7 : Nat) (h8 : Nat) (h9 : Nat) (h10 : Nat) (h11 : Nat) (h12 : Nat) (h13 : Nat) (h14 : Nat) (h15 : Nat) (h16 : Nat) (h17 : Nat) (h18 : Nat) (h19 : Nat) (e0 : ¬ v0 < 0) : Met l yLa_reaches wsLa_reaches ({ frames := 7, cells := 1, slots := 6, locals := 103 }) (va_Pc [.ref h0, .int v0, .ref h1] (fun U => U.heap.size = sz ∧ va_P (dC, dI) vwCl [(h0, .inr (0, [.ref h2, .ref h3, .ref h4, .ref h5, .ref h6, .ref h7, .ref h8, .ref h9, .ref h10, .ref h11, .int 0, .int 0, .int 0, .int 0, .int 0, .int 0])), (h3, .inr (1, [.ref h12, .ref h13, .ref h14, .ref h15, .ref h16, .ref h17, .ref h18, .ref h19, .int 0, .int 0, .int 0, .int 0, .int 0, .int 0, .int 0, .int 0, .int (-1)]))] U.heap ∧ va_K (dC, dI) vwCl [] U ∧ va_D (fun _ => True) [(h0, .inr (0, [.ref h2, .ref h3, .ref h4, .ref h5, .ref h6, .ref h7, .ref h8, .ref h9, .ref h10, .ref h11, .int 0, .int 0, .int 0, .int 0, .int 0, .int 0])), (h3, .inr (1, [.ref h12, .ref h13, .ref h14, .ref h15, .ref h16, .ref h17, .ref h18, .ref h19, .int 0, .int 0, .int 0, .int 0, .int 0, .int 0, .int 0, .int 0, .int (-1)]))] ∧ tx_At s0 U)) (va_Qi (fun (r : Int32) (_ : Unit) => r = 1) (fun (_ : Unit) (t : State) => va_P (dC, dI) vwCl [] t.heap ∧ va_K (dC, dI) vwCl [] t ∧ va_D (va_A [(h0, .inr (0, [.ref h2, .ref h3, .ref h4, .ref h5, .ref h6, .ref h7, .ref h8, .ref h9, .ref h10, .ref h11, .int 0, .int 0, .int 0, .int 0, .int 0, .int 0])), (h3, .inr (1, [.ref h12, .ref h13, .ref h14, .ref h15, .ref h16, .ref h17, .ref h18, .ref h19, .int 0, .int 0, .int 0, .int 0, .int 0, .int 0, .int 0, .int 0, .int (-1)]))] sz) []) (va_A [(h0, .inr (0, [.ref h2, .ref h3, .ref h4, .ref h5, .ref h6, .ref h7, .ref h8, .ref h9, .ref h10, .ref h11, .int 0, .int 0, .int 0, .int 0, .int 0, .int 0])), (h3, .inr (1, [.ref h12, .ref h13, .ref h14, .ref h15, .ref h16, .ref h17, .ref h18, .ref h19, .int 0, .int 0, .int 0, .int 0, .int 0, .int 0, .int 0, .int 0, .int (-1)]))] sz)) 1 6 (va_A [(h0, .inr (0, [.ref h2, .ref h3, .ref h4, .ref h5, .ref h6, .ref h7, .ref h8, .ref h9, .ref h10, .ref h11, .int 0, .int 0, .int 0, .int 0, .int 0, .int 0])), (h3, .inr (1, [.ref h12, .ref h13, .ref h14, .ref h15, .ref h16, .ref h17, .ref h18, .ref h19, .int 0, .int 0, .int 0, .int 0, .int 0, .int 0, .int 0, .int 0, .int (-1)]))] sz) := by
  refine va_MetW (cc := cLa_reaches) (maxL := 4) (ret := (some .int)) (by decide) rfl ?_
  intro p e s m args below meth c s₁ B hml hv
  obtain ⟨rfl, hsz, hP, hK, hD0, hAt⟩ := hv
  have hx := B.exec
  have hb := B.bytes
  have hr := B.returns
  have hts := atoms_spec (ws := wsLa_reaches) B.pre
  have hTab := tx_table B (hts _ List.mem_cons_self)
  have hown : s.vm.findClass "RunProverLaw" = some m.cls := findClass_of_methodNamed B.named
  have hlocks := B.notSynchronized
  subst hsz
  have hD := hD0.self (sz := s.heap.size)
  generalize hAe : va_A [(h0, .inr (0, [.ref h2, .ref h3, .ref h4, .ref h5, .ref h6, .ref h7, .ref h8, .ref h9, .ref h10, .ref h11, .int 0, .int 0, .int 0, .int 0, .int 0, .int 0])), (h3, .inr (1, [.ref h12, .ref h13, .ref h14, .ref h15, .ref h16, .ref h17, .ref h18, .ref h19, .int 0, .int 0, .int 0, .int 0, .int 0, .int 0, .int 0, .int 0, .int (-1)]))] s.heap.size = A at hD ⊢
  have hA : ∀ q : Nat, s.heap.size ≤ q → A q := fun q h => by rw [← hAe]; exact Or.inr h
  have hS : va_S A s.heap s.heap [] := va_S.rf
  have hP : va_P (dC, dI) vwCl [(h0, .inr (0, [.ref h2, .ref h3, .ref h4, .ref h5, .ref h6, .ref h7, .ref h8, .ref h9, .ref h10, .ref h11, .int 0, .int 0, .int 0, .int 0, .int 0, .int 0])), (h3, .inr (1, [.ref h12, .ref h13, .ref h14, .ref h15, .ref h16, .ref h17, .ref h18, .ref h19, .int 0, .int 0, .int 0, .int 0, .int 0, .int 0, .int 0, .int 0, .int (-1)]))] s.heap := hP
  have hl := lv_entry ([.ref h0, .int v0, .ref h1]) (n := 4) (Nat.le_of_ble_eq_true rfl)
  rw [lg_entry_eq]
  generalize (lg_sl ([.ref h0, .int v0, .ref h1]) ++ List.replicate (4 - (lg_sl ([.ref h0, .int v0, .ref h1])).length) Slot.unset).toArray = ls at hl ⊢
  have hl : lv_has ls 4 [(0, .ref h0), (1, .int v0), (2, .ref h1)] := hl
  refine lv_aload_n hx hb dLa_reaches_0 rfl (lv_at hl 2 rfl) ?_
  refine lv_iconst (v := 0) hx hb dLa_reaches_1 (by decide) ?_
  refine lv_aload_n hx hb dLa_reaches_2 rfl (lv_at hl 0 rfl) ?_
  refine lv_iload_n hx hb dLa_reaches_3 rfl (lv_at hl 1 rfl) ?_
  have hPc := hP.sub (ws' := [(h0, .inr (0, [.ref h2, .ref h3, .ref h4, .ref h5, .ref h6, .ref h7, .ref h8, .ref h9, .ref h10, .ref h11, .int 0, .int 0, .int 0, .int 0, .int 0, .int 0])), (h3, .inr (1, [.ref h12, .ref h13, .ref h14, .ref h15, .ref h16, .ref h17, .ref h18, .ref h19, .int 0, .int 0, .int 0, .int 0, .int 0, .int 0, .int 0, .int 0, .int (-1)]))]) [0, 1] rfl
  have hDc := hD.sub (ws' := [(h0, .inr (0, [.ref h2, .ref h3, .ref h4, .ref h5, .ref h6, .ref h7, .ref h8, .ref h9, .ref h10, .ref h11, .int 0, .int 0, .int 0, .int 0, .int 0, .int 0])), (h3, .inr (1, [.ref h12, .ref h13, .ref h14, .ref h15, .ref h16, .ref h17, .ref h18, .ref h19, .int 0, .int 0, .int 0, .int 0, .int 0, .int 0, .int 0, .int 0, .int (-1)]))]) [0, 1] (by decide) rfl
  have hKc := hK.sub (tys' := []) [] rfl
  have hFc := va_free (wc := [(h0, .inr (0, [.ref h2, .ref h3, .ref h4, .ref h5, .ref h6, .ref h7, .ref h8, .ref h9, .ref h10, .ref h11, .int 0, .int 0, .int 0, .int 0, .int 0, .int 0])), (h3, .inr (1, [.ref h12, .ref h13, .ref h14, .ref h15, .ref h16, .ref h17, .ref h18, .ref h19, .int 0, .int 0, .int 0, .int 0, .int 0, .int 0, .int 0, .int 0, .int (-1)]))]) hD hS hA [0, 1] rfl
  refine tx_catchV (As := [.int v0]) (rest := [.int 0, .ref h1]) ⟨hx, hb, hml, hown, hts⟩ (t_Rp_reaches_1 l hl9 dC dI s0 a0 sa hw0 hi0 hst0 s.heap.size h0 v0 h2 h3 h4 h5 h6 h7 h8 h9 h10 h11 h12 h13 h14 h15 h16 h17 h18 h19 e0) (cwV 1 hts (gV (wbm27 3 rfl) (wbm27 4 rfl) (wbm27 5 rfl) (wbm0 1 rfl) (wbm27 6 rfl)) rfl rfl rfl (by decide +kernel) ⟨Nat.le_of_ble_eq_true rfl, Nat.le_of_ble_eq_true rfl⟩) ⟨fun a U g mk q => by obtain ⟨q0, q1, qP, qK, qD, qA⟩ := q; exact ⟨q0, q1, qP, va_K.moved (u := U) (U := U.calling g mk a) (Vm.Alike.refl U.vm) qK, qD, qA⟩, va_recv hKc hPc (ci := 0) (q0 := 0) rfl rfl, fun U hU hW => ⟨rfl, by rw [hU], by rw [hU]; exact hPc, va_K.moved hW.alike hKc, hDc.weaken (fun _ _ _ _ => trivial), tx_next hAt hU hW⟩⟩ rfl hl.1 rfl (Nat.le_of_ble_eq_true rfl) dLa_reaches_4 ⟨Nat.le_of_ble_eq_true rfl, Nat.le_of_ble_eq_true rfl⟩ hS (fun q _ h => hFc q h) hFc (name := "java/util/NoSuchElementException") ⟨0, 9, 12, 24⟩ [] (by rw [hTab]; rfl) (by decide) (by decide) (hts (.classLink "RunProverLaw" 24 "java/util/NoSuchElementException") (wam26 33 rfl)) (tx_cast hAt (hw0 (.castable tx_nX tx_nX) (by simp [tx_nse]))) (fun q9 H locs hz1 hz2 hS => ?_)
  have hP : va_P (dC, dI) vwCl [] H := fun k q h => by simp at h
  have hD : va_D A [] := ⟨fun i j p q h => by simp at h, fun k q h => by simp at h⟩
  have hK : va_K (dC, dI) vwCl [] s := hK.sub (tys' := []) [] rfl
  refine W.widen (k := 1) (n := 6) (by omega) (by omega) ?_
  refine lv_astore_n (lv' := [(3, .ref q9), (0, .ref h0), (1, .int v0), (2, .ref h1)]) hx hb dLa_reaches_12 rfl hl (by decide) rfl (fun ls hl => ?_)
  refine lv_iconst (v := 1) hx hb dLa_reaches_13 (by decide) ?_
  have hP9 := hP.sub (ws' := []) [] rfl
  have hD9 := hD.sub (ws' := []) [] (by decide) rfl
  have hK9 := hK.sub (tys' := []) [] rfl
  exact W.iret (v := 1) hx hb hr (fun t ht hW => ⟨⟨1, (), rfl, rfl, by rw [ht]; exact hP9, va_K.moved hW.alike hK9, hD9⟩, hS.F ht⟩) hS.2.2 dLa_reaches_14
set_option maxHeartbeats 4000000 in
set_option maxRecDepth 100000 in
theorem w_La_ends (l : Launch) (hl9 : l.stackTraces = false) (dC : Nat → ClassId) (dI : Nat → Nat → Nat) (s0 : State) (a0 : Array Value) (sa : Nat) (hw0 : ∀ w ∈ tx_nse "RunProver" 166, w.before a0 s0 = true) (hi0 : (Cond.initialized "java/util/NoSuchElementException").before a0 s0 = true) (hst0 : vk_R "RunProver" 177 "no such element or value" sa s0) (sz : Nat) (h0 : Nat) (v0 : Int32) (v1 : Int32) (v2 : Int32) (h1 : Nat) (h2 : Nat) (h3 : Nat) (h4 : Nat) (h5 : Nat) (h6 : Nat) (h7 : Nat) (h8 : Nat) (h9 : Nat) (h10 : Nat) (h11 : Nat) (h12 : Nat) (h13 : Nat) (h14 : Nat) (h15 : Nat) (h16 : Nat) (h17 : Nat) (h18 : Nat) (h19 : Nat) (e0 : v0 < 0) : Met l yLa_ends wsLa_ends ({ frames := 7, cells := 1, slots := 6, locals := 108 }) (va_Pc [.ref h0, .int v0, .int v1, .int v2, .ref h1] (fun U => U.heap.size = sz ∧ va_P (dC, dI) vwCl [(h0, .inr (0, [.ref h2, .ref h3, .ref h4, .ref h5, .ref h6, .ref h7, .ref h8, .ref h9, .ref h10, .ref h11, .int 0, .int 0, .int 0, .int 0, .int 0, .int 0])), (h3, .inr (1, [.ref h12, .ref h13, .ref h14, .ref h15, .ref h16, .ref h17, .ref h18, .ref h19, .int 0, .int 0, .int 0, .int 0, .int 0, .int 0, .int 0, .int 0, .int (-1)]))] U.heap ∧ va_K (dC, dI) vwCl [] U ∧ va_D (fun _ => True) [(h0, .inr (0, [.ref h2, .ref h3, .ref h4, .ref h5, .ref h6, .ref h7, .ref h8, .ref h9, .ref h10, .ref h11, .int 0, .int 0, .int 0, .int 0, .int 0, .int 0])), (h3, .inr (1, [.ref h12, .ref h13, .ref h14, .ref h15, .ref h16, .ref h17, .ref h18, .ref h19, .int 0, .int 0, .int 0, .int 0, .int 0, .int 0, .int 0, .int 0, .int (-1)]))] ∧ tx_At s0 U)) (va_Qi (fun (r : Int32) (_ : Unit) => r = 1) (fun (_ : Unit) (t : State) => va_P (dC, dI) vwCl [] t.heap ∧ va_K (dC, dI) vwCl [] t ∧ va_D (va_A [(h0, .inr (0, [.ref h2, .ref h3, .ref h4, .ref h5, .ref h6, .ref h7, .ref h8, .ref h9, .ref h10, .ref h11, .int 0, .int 0, .int 0, .int 0, .int 0, .int 0])), (h3, .inr (1, [.ref h12, .ref h13, .ref h14, .ref h15, .ref h16, .ref h17, .ref h18, .ref h19, .int 0, .int 0, .int 0, .int 0, .int 0, .int 0, .int 0, .int 0, .int (-1)]))] sz) []) (va_A [(h0, .inr (0, [.ref h2, .ref h3, .ref h4, .ref h5, .ref h6, .ref h7, .ref h8, .ref h9, .ref h10, .ref h11, .int 0, .int 0, .int 0, .int 0, .int 0, .int 0])), (h3, .inr (1, [.ref h12, .ref h13, .ref h14, .ref h15, .ref h16, .ref h17, .ref h18, .ref h19, .int 0, .int 0, .int 0, .int 0, .int 0, .int 0, .int 0, .int 0, .int (-1)]))] sz)) 1 6 (va_A [(h0, .inr (0, [.ref h2, .ref h3, .ref h4, .ref h5, .ref h6, .ref h7, .ref h8, .ref h9, .ref h10, .ref h11, .int 0, .int 0, .int 0, .int 0, .int 0, .int 0])), (h3, .inr (1, [.ref h12, .ref h13, .ref h14, .ref h15, .ref h16, .ref h17, .ref h18, .ref h19, .int 0, .int 0, .int 0, .int 0, .int 0, .int 0, .int 0, .int 0, .int (-1)]))] sz) := by
  refine va_MetW (cc := cLa_ends) (maxL := 6) (ret := (some .int)) (by decide) rfl ?_
  intro p e s m args below meth c s₁ B hml hv
  obtain ⟨rfl, hsz, hP, hK, hD0, hAt⟩ := hv
  have hx := B.exec
  have hb := B.bytes
  have hr := B.returns
  have hts := atoms_spec (ws := wsLa_ends) B.pre
  have hTab := tx_table B (hts _ List.mem_cons_self)
  have hown : s.vm.findClass "RunProverLaw" = some m.cls := findClass_of_methodNamed B.named
  have hlocks := B.notSynchronized
  subst hsz
  have hD := hD0.self (sz := s.heap.size)
  generalize hAe : va_A [(h0, .inr (0, [.ref h2, .ref h3, .ref h4, .ref h5, .ref h6, .ref h7, .ref h8, .ref h9, .ref h10, .ref h11, .int 0, .int 0, .int 0, .int 0, .int 0, .int 0])), (h3, .inr (1, [.ref h12, .ref h13, .ref h14, .ref h15, .ref h16, .ref h17, .ref h18, .ref h19, .int 0, .int 0, .int 0, .int 0, .int 0, .int 0, .int 0, .int 0, .int (-1)]))] s.heap.size = A at hD ⊢
  have hA : ∀ q : Nat, s.heap.size ≤ q → A q := fun q h => by rw [← hAe]; exact Or.inr h
  have hS : va_S A s.heap s.heap [] := va_S.rf
  have hP : va_P (dC, dI) vwCl [(h0, .inr (0, [.ref h2, .ref h3, .ref h4, .ref h5, .ref h6, .ref h7, .ref h8, .ref h9, .ref h10, .ref h11, .int 0, .int 0, .int 0, .int 0, .int 0, .int 0])), (h3, .inr (1, [.ref h12, .ref h13, .ref h14, .ref h15, .ref h16, .ref h17, .ref h18, .ref h19, .int 0, .int 0, .int 0, .int 0, .int 0, .int 0, .int 0, .int 0, .int (-1)]))] s.heap := hP
  have hl := lv_entry ([.ref h0, .int v0, .int v1, .int v2, .ref h1]) (n := 6) (Nat.le_of_ble_eq_true rfl)
  rw [lg_entry_eq]
  generalize (lg_sl ([.ref h0, .int v0, .int v1, .int v2, .ref h1]) ++ List.replicate (6 - (lg_sl ([.ref h0, .int v0, .int v1, .int v2, .ref h1])).length) Slot.unset).toArray = ls at hl ⊢
  have hl : lv_has ls 6 [(0, .ref h0), (1, .int v0), (2, .int v1), (3, .int v2), (4, .ref h1)] := hl
  refine lv_aload hx hb dLa_ends_0 (lv_at hl 4 rfl) ?_
  refine lv_iconst (v := 0) hx hb dLa_ends_2 (by decide) ?_
  refine lv_aload_n hx hb dLa_ends_3 rfl (lv_at hl 0 rfl) ?_
  refine lv_iload_n hx hb dLa_ends_4 rfl (lv_at hl 1 rfl) ?_
  refine lv_iload_n hx hb dLa_ends_5 rfl (lv_at hl 2 rfl) ?_
  refine lv_iload_n hx hb dLa_ends_6 rfl (lv_at hl 3 rfl) ?_
  have hPc := hP.sub (ws' := [(h0, .inr (0, [.ref h2, .ref h3, .ref h4, .ref h5, .ref h6, .ref h7, .ref h8, .ref h9, .ref h10, .ref h11, .int 0, .int 0, .int 0, .int 0, .int 0, .int 0])), (h3, .inr (1, [.ref h12, .ref h13, .ref h14, .ref h15, .ref h16, .ref h17, .ref h18, .ref h19, .int 0, .int 0, .int 0, .int 0, .int 0, .int 0, .int 0, .int 0, .int (-1)]))]) [0, 1] rfl
  have hDc := hD.sub (ws' := [(h0, .inr (0, [.ref h2, .ref h3, .ref h4, .ref h5, .ref h6, .ref h7, .ref h8, .ref h9, .ref h10, .ref h11, .int 0, .int 0, .int 0, .int 0, .int 0, .int 0])), (h3, .inr (1, [.ref h12, .ref h13, .ref h14, .ref h15, .ref h16, .ref h17, .ref h18, .ref h19, .int 0, .int 0, .int 0, .int 0, .int 0, .int 0, .int 0, .int 0, .int (-1)]))]) [0, 1] (by decide) rfl
  have hKc := hK.sub (tys' := []) [] rfl
  have hFc := va_free (wc := [(h0, .inr (0, [.ref h2, .ref h3, .ref h4, .ref h5, .ref h6, .ref h7, .ref h8, .ref h9, .ref h10, .ref h11, .int 0, .int 0, .int 0, .int 0, .int 0, .int 0])), (h3, .inr (1, [.ref h12, .ref h13, .ref h14, .ref h15, .ref h16, .ref h17, .ref h18, .ref h19, .int 0, .int 0, .int 0, .int 0, .int 0, .int 0, .int 0, .int 0, .int (-1)]))]) hD hS hA [0, 1] rfl
  refine tx_catchV (As := [.int v0, .int v1, .int v2]) (rest := [.int 0, .ref h1]) ⟨hx, hb, hml, hown, hts⟩ (t_Rp_ends l hl9 dC dI s0 a0 sa hw0 hi0 hst0 s.heap.size h0 v0 v1 v2 h2 h3 h4 h5 h6 h7 h8 h9 h10 h11 h12 h13 h14 h15 h16 h17 h18 h19 e0) (cwV 3 hts (gV (wbm27 10 rfl) (wbm27 11 rfl) (wbm27 12 rfl) (wbm0 1 rfl) (wbm27 13 rfl)) rfl rfl rfl (by decide +kernel) ⟨Nat.le_of_ble_eq_true rfl, Nat.le_of_ble_eq_true rfl⟩) ⟨fun a U g mk q => by obtain ⟨q0, q1, qP, qK, qD, qA⟩ := q; exact ⟨q0, q1, qP, va_K.moved (u := U) (U := U.calling g mk a) (Vm.Alike.refl U.vm) qK, qD, qA⟩, va_recv hKc hPc (ci := 0) (q0 := 0) rfl rfl, fun U hU hW => ⟨rfl, by rw [hU], by rw [hU]; exact hPc, va_K.moved hW.alike hKc, hDc.weaken (fun _ _ _ _ => trivial), tx_next hAt hU hW⟩⟩ rfl hl.1 rfl (Nat.le_of_ble_eq_true rfl) dLa_ends_7 ⟨Nat.le_of_ble_eq_true rfl, Nat.le_of_ble_eq_true rfl⟩ hS (fun q _ h => hFc q h) hFc (name := "java/util/NoSuchElementException") ⟨0, 12, 15, 24⟩ [] (by rw [hTab]; rfl) (by decide) (by decide) (hts (.classLink "RunProverLaw" 24 "java/util/NoSuchElementException") (wam26 33 rfl)) (tx_cast hAt (hw0 (.castable tx_nX tx_nX) (by simp [tx_nse]))) (fun q9 H locs hz1 hz2 hS => ?_)
  have hP : va_P (dC, dI) vwCl [] H := fun k q h => by simp at h
  have hD : va_D A [] := ⟨fun i j p q h => by simp at h, fun k q h => by simp at h⟩
  have hK : va_K (dC, dI) vwCl [] s := hK.sub (tys' := []) [] rfl
  refine W.widen (k := 1) (n := 6) (by omega) (by omega) ?_
  refine lv_astore (lv' := [(5, .ref q9), (0, .ref h0), (1, .int v0), (2, .int v1), (3, .int v2), (4, .ref h1)]) hx hb dLa_ends_15 hl (by decide) rfl (fun ls hl => ?_)
  refine lv_iconst (v := 1) hx hb dLa_ends_17 (by decide) ?_
  have hP9 := hP.sub (ws' := []) [] rfl
  have hD9 := hD.sub (ws' := []) [] (by decide) rfl
  have hK9 := hK.sub (tys' := []) [] rfl
  exact W.iret (v := 1) hx hb hr (fun t ht hW => ⟨⟨1, (), rfl, rfl, by rw [ht]; exact hP9, va_K.moved hW.alike hK9, hD9⟩, hS.F ht⟩) hS.2.2 dLa_ends_18
set_option maxHeartbeats 4000000 in
set_option maxRecDepth 100000 in
theorem w_La_ends_1 (l : Launch) (hl9 : l.stackTraces = false) (dC : Nat → ClassId) (dI : Nat → Nat → Nat) (s0 : State) (a0 : Array Value) (sa : Nat) (hw0 : ∀ w ∈ tx_nse "RunProver" 166, w.before a0 s0 = true) (hi0 : (Cond.initialized "java/util/NoSuchElementException").before a0 s0 = true) (hst0 : vk_R "RunProver" 177 "no such element or value" sa s0) (sz : Nat) (h0 : Nat) (v0 : Int32) (v1 : Int32) (v2 : Int32) (h1 : Nat) (h2 : Nat) (h3 : Nat) (h4 : Nat) (h5 : Nat) (h6 : Nat) (h7 : Nat) (h8 : Nat) (h9 : Nat) (h10 : Nat) (h11 : Nat) (h12 : Nat) (h13 : Nat) (h14 : Nat) (h15 : Nat) (h16 : Nat) (h17 : Nat) (h18 : Nat) (h19 : Nat) (e0 : ¬ v0 < 0) : Met l yLa_ends wsLa_ends ({ frames := 7, cells := 1, slots := 6, locals := 108 }) (va_Pc [.ref h0, .int v0, .int v1, .int v2, .ref h1] (fun U => U.heap.size = sz ∧ va_P (dC, dI) vwCl [(h0, .inr (0, [.ref h2, .ref h3, .ref h4, .ref h5, .ref h6, .ref h7, .ref h8, .ref h9, .ref h10, .ref h11, .int 0, .int 0, .int 0, .int 0, .int 0, .int 0])), (h3, .inr (1, [.ref h12, .ref h13, .ref h14, .ref h15, .ref h16, .ref h17, .ref h18, .ref h19, .int 0, .int 0, .int 0, .int 0, .int 0, .int 0, .int 0, .int 0, .int (-1)]))] U.heap ∧ va_K (dC, dI) vwCl [] U ∧ va_D (fun _ => True) [(h0, .inr (0, [.ref h2, .ref h3, .ref h4, .ref h5, .ref h6, .ref h7, .ref h8, .ref h9, .ref h10, .ref h11, .int 0, .int 0, .int 0, .int 0, .int 0, .int 0])), (h3, .inr (1, [.ref h12, .ref h13, .ref h14, .ref h15, .ref h16, .ref h17, .ref h18, .ref h19, .int 0, .int 0, .int 0, .int 0, .int 0, .int 0, .int 0, .int 0, .int (-1)]))] ∧ tx_At s0 U)) (va_Qi (fun (r : Int32) (_ : Unit) => r = 1) (fun (_ : Unit) (t : State) => va_P (dC, dI) vwCl [] t.heap ∧ va_K (dC, dI) vwCl [] t ∧ va_D (va_A [(h0, .inr (0, [.ref h2, .ref h3, .ref h4, .ref h5, .ref h6, .ref h7, .ref h8, .ref h9, .ref h10, .ref h11, .int 0, .int 0, .int 0, .int 0, .int 0, .int 0])), (h3, .inr (1, [.ref h12, .ref h13, .ref h14, .ref h15, .ref h16, .ref h17, .ref h18, .ref h19, .int 0, .int 0, .int 0, .int 0, .int 0, .int 0, .int 0, .int 0, .int (-1)]))] sz) []) (va_A [(h0, .inr (0, [.ref h2, .ref h3, .ref h4, .ref h5, .ref h6, .ref h7, .ref h8, .ref h9, .ref h10, .ref h11, .int 0, .int 0, .int 0, .int 0, .int 0, .int 0])), (h3, .inr (1, [.ref h12, .ref h13, .ref h14, .ref h15, .ref h16, .ref h17, .ref h18, .ref h19, .int 0, .int 0, .int 0, .int 0, .int 0, .int 0, .int 0, .int 0, .int (-1)]))] sz)) 1 6 (va_A [(h0, .inr (0, [.ref h2, .ref h3, .ref h4, .ref h5, .ref h6, .ref h7, .ref h8, .ref h9, .ref h10, .ref h11, .int 0, .int 0, .int 0, .int 0, .int 0, .int 0])), (h3, .inr (1, [.ref h12, .ref h13, .ref h14, .ref h15, .ref h16, .ref h17, .ref h18, .ref h19, .int 0, .int 0, .int 0, .int 0, .int 0, .int 0, .int 0, .int 0, .int (-1)]))] sz) := by
  refine va_MetW (cc := cLa_ends) (maxL := 6) (ret := (some .int)) (by decide) rfl ?_
  intro p e s m args below meth c s₁ B hml hv
  obtain ⟨rfl, hsz, hP, hK, hD0, hAt⟩ := hv
  have hx := B.exec
  have hb := B.bytes
  have hr := B.returns
  have hts := atoms_spec (ws := wsLa_ends) B.pre
  have hTab := tx_table B (hts _ List.mem_cons_self)
  have hown : s.vm.findClass "RunProverLaw" = some m.cls := findClass_of_methodNamed B.named
  have hlocks := B.notSynchronized
  subst hsz
  have hD := hD0.self (sz := s.heap.size)
  generalize hAe : va_A [(h0, .inr (0, [.ref h2, .ref h3, .ref h4, .ref h5, .ref h6, .ref h7, .ref h8, .ref h9, .ref h10, .ref h11, .int 0, .int 0, .int 0, .int 0, .int 0, .int 0])), (h3, .inr (1, [.ref h12, .ref h13, .ref h14, .ref h15, .ref h16, .ref h17, .ref h18, .ref h19, .int 0, .int 0, .int 0, .int 0, .int 0, .int 0, .int 0, .int 0, .int (-1)]))] s.heap.size = A at hD ⊢
  have hA : ∀ q : Nat, s.heap.size ≤ q → A q := fun q h => by rw [← hAe]; exact Or.inr h
  have hS : va_S A s.heap s.heap [] := va_S.rf
  have hP : va_P (dC, dI) vwCl [(h0, .inr (0, [.ref h2, .ref h3, .ref h4, .ref h5, .ref h6, .ref h7, .ref h8, .ref h9, .ref h10, .ref h11, .int 0, .int 0, .int 0, .int 0, .int 0, .int 0])), (h3, .inr (1, [.ref h12, .ref h13, .ref h14, .ref h15, .ref h16, .ref h17, .ref h18, .ref h19, .int 0, .int 0, .int 0, .int 0, .int 0, .int 0, .int 0, .int 0, .int (-1)]))] s.heap := hP
  have hl := lv_entry ([.ref h0, .int v0, .int v1, .int v2, .ref h1]) (n := 6) (Nat.le_of_ble_eq_true rfl)
  rw [lg_entry_eq]
  generalize (lg_sl ([.ref h0, .int v0, .int v1, .int v2, .ref h1]) ++ List.replicate (6 - (lg_sl ([.ref h0, .int v0, .int v1, .int v2, .ref h1])).length) Slot.unset).toArray = ls at hl ⊢
  have hl : lv_has ls 6 [(0, .ref h0), (1, .int v0), (2, .int v1), (3, .int v2), (4, .ref h1)] := hl
  refine lv_aload hx hb dLa_ends_0 (lv_at hl 4 rfl) ?_
  refine lv_iconst (v := 0) hx hb dLa_ends_2 (by decide) ?_
  refine lv_aload_n hx hb dLa_ends_3 rfl (lv_at hl 0 rfl) ?_
  refine lv_iload_n hx hb dLa_ends_4 rfl (lv_at hl 1 rfl) ?_
  refine lv_iload_n hx hb dLa_ends_5 rfl (lv_at hl 2 rfl) ?_
  refine lv_iload_n hx hb dLa_ends_6 rfl (lv_at hl 3 rfl) ?_
  have hPc := hP.sub (ws' := [(h0, .inr (0, [.ref h2, .ref h3, .ref h4, .ref h5, .ref h6, .ref h7, .ref h8, .ref h9, .ref h10, .ref h11, .int 0, .int 0, .int 0, .int 0, .int 0, .int 0])), (h3, .inr (1, [.ref h12, .ref h13, .ref h14, .ref h15, .ref h16, .ref h17, .ref h18, .ref h19, .int 0, .int 0, .int 0, .int 0, .int 0, .int 0, .int 0, .int 0, .int (-1)]))]) [0, 1] rfl
  have hDc := hD.sub (ws' := [(h0, .inr (0, [.ref h2, .ref h3, .ref h4, .ref h5, .ref h6, .ref h7, .ref h8, .ref h9, .ref h10, .ref h11, .int 0, .int 0, .int 0, .int 0, .int 0, .int 0])), (h3, .inr (1, [.ref h12, .ref h13, .ref h14, .ref h15, .ref h16, .ref h17, .ref h18, .ref h19, .int 0, .int 0, .int 0, .int 0, .int 0, .int 0, .int 0, .int 0, .int (-1)]))]) [0, 1] (by decide) rfl
  have hKc := hK.sub (tys' := []) [] rfl
  have hFc := va_free (wc := [(h0, .inr (0, [.ref h2, .ref h3, .ref h4, .ref h5, .ref h6, .ref h7, .ref h8, .ref h9, .ref h10, .ref h11, .int 0, .int 0, .int 0, .int 0, .int 0, .int 0])), (h3, .inr (1, [.ref h12, .ref h13, .ref h14, .ref h15, .ref h16, .ref h17, .ref h18, .ref h19, .int 0, .int 0, .int 0, .int 0, .int 0, .int 0, .int 0, .int 0, .int (-1)]))]) hD hS hA [0, 1] rfl
  refine tx_catchV (As := [.int v0, .int v1, .int v2]) (rest := [.int 0, .ref h1]) ⟨hx, hb, hml, hown, hts⟩ (t_Rp_ends_1 l hl9 dC dI s0 a0 sa hw0 hi0 hst0 s.heap.size h0 v0 v1 v2 h2 h3 h4 h5 h6 h7 h8 h9 h10 h11 h12 h13 h14 h15 h16 h17 h18 h19 e0) (cwV 3 hts (gV (wbm27 10 rfl) (wbm27 11 rfl) (wbm27 12 rfl) (wbm0 1 rfl) (wbm27 13 rfl)) rfl rfl rfl (by decide +kernel) ⟨Nat.le_of_ble_eq_true rfl, Nat.le_of_ble_eq_true rfl⟩) ⟨fun a U g mk q => by obtain ⟨q0, q1, qP, qK, qD, qA⟩ := q; exact ⟨q0, q1, qP, va_K.moved (u := U) (U := U.calling g mk a) (Vm.Alike.refl U.vm) qK, qD, qA⟩, va_recv hKc hPc (ci := 0) (q0 := 0) rfl rfl, fun U hU hW => ⟨rfl, by rw [hU], by rw [hU]; exact hPc, va_K.moved hW.alike hKc, hDc.weaken (fun _ _ _ _ => trivial), tx_next hAt hU hW⟩⟩ rfl hl.1 rfl (Nat.le_of_ble_eq_true rfl) dLa_ends_7 ⟨Nat.le_of_ble_eq_true rfl, Nat.le_of_ble_eq_true rfl⟩ hS (fun q _ h => hFc q h) hFc (name := "java/util/NoSuchElementException") ⟨0, 12, 15, 24⟩ [] (by rw [hTab]; rfl) (by decide) (by decide) (hts (.classLink "RunProverLaw" 24 "java/util/NoSuchElementException") (wam26 33 rfl)) (tx_cast hAt (hw0 (.castable tx_nX tx_nX) (by simp [tx_nse]))) (fun q9 H locs hz1 hz2 hS => ?_)
  have hP : va_P (dC, dI) vwCl [] H := fun k q h => by simp at h
  have hD : va_D A [] := ⟨fun i j p q h => by simp at h, fun k q h => by simp at h⟩
  have hK : va_K (dC, dI) vwCl [] s := hK.sub (tys' := []) [] rfl
  refine W.widen (k := 1) (n := 6) (by omega) (by omega) ?_
  refine lv_astore (lv' := [(5, .ref q9), (0, .ref h0), (1, .int v0), (2, .int v1), (3, .int v2), (4, .ref h1)]) hx hb dLa_ends_15 hl (by decide) rfl (fun ls hl => ?_)
  refine lv_iconst (v := 1) hx hb dLa_ends_17 (by decide) ?_
  have hP9 := hP.sub (ws' := []) [] rfl
  have hD9 := hD.sub (ws' := []) [] (by decide) rfl
  have hK9 := hK.sub (tys' := []) [] rfl
  exact W.iret (v := 1) hx hb hr (fun t ht hW => ⟨⟨1, (), rfl, rfl, by rw [ht]; exact hP9, va_K.moved hW.alike hK9, hD9⟩, hS.F ht⟩) hS.2.2 dLa_ends_18
set_option maxHeartbeats 4000000 in
set_option maxRecDepth 100000 in
theorem w_La_check (l : Launch) (hl9 : l.stackTraces = false) (dC : Nat → ClassId) (dI : Nat → Nat → Nat) (s0 : State) (a0 : Array Value) (sa : Nat) (hw0 : ∀ w ∈ tx_nse "RunProver" 166, w.before a0 s0 = true) (hi0 : (Cond.initialized "java/util/NoSuchElementException").before a0 s0 = true) (hst0 : vk_R "RunProver" 164 "no such check" sa s0) (sz : Nat) (h0 : Nat) (v0 : Int32) (v1 : Int32) (h1 : Nat) (h2 : Nat) (h3 : Nat) (h4 : Nat) (h5 : Nat) (h6 : Nat) (h7 : Nat) (h8 : Nat) (h9 : Nat) (h10 : Nat) (h11 : Nat) (e0 : v0 < 0) : Met l yLa_check wsLa_check ({ frames := 7, cells := 1, slots := 6, locals := 104 }) (va_Pc [.ref h0, .int v0, .int v1, .ref h1] (fun U => U.heap.size = sz ∧ va_P (dC, dI) vwCl [(h0, .inr (0, [.ref h2, .ref h3, .ref h4, .ref h5, .ref h6, .ref h7, .ref h8, .ref h9, .ref h10, .ref h11, .int 0, .int 0, .int 0, .int 0, .int 0, .int 0]))] U.heap ∧ va_K (dC, dI) vwCl [] U ∧ va_D (fun _ => True) [(h0, .inr (0, [.ref h2, .ref h3, .ref h4, .ref h5, .ref h6, .ref h7, .ref h8, .ref h9, .ref h10, .ref h11, .int 0, .int 0, .int 0, .int 0, .int 0, .int 0]))] ∧ tx_At s0 U)) (va_Qi (fun (r : Int32) (_ : Unit) => r = 1) (fun (_ : Unit) (t : State) => va_P (dC, dI) vwCl [] t.heap ∧ va_K (dC, dI) vwCl [] t ∧ va_D (va_A [(h0, .inr (0, [.ref h2, .ref h3, .ref h4, .ref h5, .ref h6, .ref h7, .ref h8, .ref h9, .ref h10, .ref h11, .int 0, .int 0, .int 0, .int 0, .int 0, .int 0]))] sz) []) (va_A [(h0, .inr (0, [.ref h2, .ref h3, .ref h4, .ref h5, .ref h6, .ref h7, .ref h8, .ref h9, .ref h10, .ref h11, .int 0, .int 0, .int 0, .int 0, .int 0, .int 0]))] sz)) 1 6 (va_A [(h0, .inr (0, [.ref h2, .ref h3, .ref h4, .ref h5, .ref h6, .ref h7, .ref h8, .ref h9, .ref h10, .ref h11, .int 0, .int 0, .int 0, .int 0, .int 0, .int 0]))] sz) := by
  refine va_MetW (cc := cLa_check) (maxL := 5) (ret := (some .int)) (by decide) rfl ?_
  intro p e s m args below meth c s₁ B hml hv
  obtain ⟨rfl, hsz, hP, hK, hD0, hAt⟩ := hv
  have hx := B.exec
  have hb := B.bytes
  have hr := B.returns
  have hts := atoms_spec (ws := wsLa_check) B.pre
  have hTab := tx_table B (hts _ List.mem_cons_self)
  have hown : s.vm.findClass "RunProverLaw" = some m.cls := findClass_of_methodNamed B.named
  have hlocks := B.notSynchronized
  subst hsz
  have hD := hD0.self (sz := s.heap.size)
  generalize hAe : va_A [(h0, .inr (0, [.ref h2, .ref h3, .ref h4, .ref h5, .ref h6, .ref h7, .ref h8, .ref h9, .ref h10, .ref h11, .int 0, .int 0, .int 0, .int 0, .int 0, .int 0]))] s.heap.size = A at hD ⊢
  have hA : ∀ q : Nat, s.heap.size ≤ q → A q := fun q h => by rw [← hAe]; exact Or.inr h
  have hS : va_S A s.heap s.heap [] := va_S.rf
  have hP : va_P (dC, dI) vwCl [(h0, .inr (0, [.ref h2, .ref h3, .ref h4, .ref h5, .ref h6, .ref h7, .ref h8, .ref h9, .ref h10, .ref h11, .int 0, .int 0, .int 0, .int 0, .int 0, .int 0]))] s.heap := hP
  have hl := lv_entry ([.ref h0, .int v0, .int v1, .ref h1]) (n := 5) (Nat.le_of_ble_eq_true rfl)
  rw [lg_entry_eq]
  generalize (lg_sl ([.ref h0, .int v0, .int v1, .ref h1]) ++ List.replicate (5 - (lg_sl ([.ref h0, .int v0, .int v1, .ref h1])).length) Slot.unset).toArray = ls at hl ⊢
  have hl : lv_has ls 5 [(0, .ref h0), (1, .int v0), (2, .int v1), (3, .ref h1)] := hl
  refine lv_aload_n hx hb dLa_check_0 rfl (lv_at hl 3 rfl) ?_
  refine lv_iconst (v := 0) hx hb dLa_check_1 (by decide) ?_
  refine lv_aload_n hx hb dLa_check_2 rfl (lv_at hl 0 rfl) ?_
  refine lv_iload_n hx hb dLa_check_3 rfl (lv_at hl 1 rfl) ?_
  refine lv_iload_n hx hb dLa_check_4 rfl (lv_at hl 2 rfl) ?_
  have hPc := hP.sub (ws' := [(h0, .inr (0, [.ref h2, .ref h3, .ref h4, .ref h5, .ref h6, .ref h7, .ref h8, .ref h9, .ref h10, .ref h11, .int 0, .int 0, .int 0, .int 0, .int 0, .int 0]))]) [0] rfl
  have hDc := hD.sub (ws' := [(h0, .inr (0, [.ref h2, .ref h3, .ref h4, .ref h5, .ref h6, .ref h7, .ref h8, .ref h9, .ref h10, .ref h11, .int 0, .int 0, .int 0, .int 0, .int 0, .int 0]))]) [0] (by decide) rfl
  have hKc := hK.sub (tys' := []) [] rfl
  have hFc := va_free (wc := [(h0, .inr (0, [.ref h2, .ref h3, .ref h4, .ref h5, .ref h6, .ref h7, .ref h8, .ref h9, .ref h10, .ref h11, .int 0, .int 0, .int 0, .int 0, .int 0, .int 0]))]) hD hS hA [0] rfl
  refine tx_catchV (As := [.int v0, .int v1]) (rest := [.int 0, .ref h1]) ⟨hx, hb, hml, hown, hts⟩ (t_Rp_check l hl9 dC dI s0 a0 sa hw0 hi0 hst0 s.heap.size h0 v0 v1 h2 h3 h4 h5 h6 h7 h8 h9 h10 h11 e0) (cwV 2 hts (gV (wbm27 21 rfl) (wbm27 22 rfl) (wbm27 23 rfl) (wbm0 1 rfl) (wbm27 24 rfl)) rfl rfl rfl (by decide +kernel) ⟨Nat.le_of_ble_eq_true rfl, Nat.le_of_ble_eq_true rfl⟩) ⟨fun a U g mk q => by obtain ⟨q0, q1, qP, qK, qD, qA⟩ := q; exact ⟨q0, q1, qP, va_K.moved (u := U) (U := U.calling g mk a) (Vm.Alike.refl U.vm) qK, qD, qA⟩, va_recv hKc hPc (ci := 0) (q0 := 0) rfl rfl, fun U hU hW => ⟨rfl, by rw [hU], by rw [hU]; exact hPc, va_K.moved hW.alike hKc, hDc.weaken (fun _ _ _ _ => trivial), tx_next hAt hU hW⟩⟩ rfl hl.1 rfl (Nat.le_of_ble_eq_true rfl) dLa_check_5 ⟨Nat.le_of_ble_eq_true rfl, Nat.le_of_ble_eq_true rfl⟩ hS (fun q _ h => hFc q h) hFc (name := "java/util/NoSuchElementException") ⟨0, 10, 13, 24⟩ [⟨0, 10, 17, 19⟩] (by rw [hTab]; rfl) (by decide) (by decide) (hts (.classLink "RunProverLaw" 24 "java/util/NoSuchElementException") (wam26 33 rfl)) (tx_cast hAt (hw0 (.castable tx_nX tx_nX) (by simp [tx_nse]))) (fun q9 H locs hz1 hz2 hS => ?_)
  have hP : va_P (dC, dI) vwCl [] H := fun k q h => by simp at h
  have hD : va_D A [] := ⟨fun i j p q h => by simp at h, fun k q h => by simp at h⟩
  have hK : va_K (dC, dI) vwCl [] s := hK.sub (tys' := []) [] rfl
  refine W.widen (k := 1) (n := 6) (by omega) (by omega) ?_
  refine lv_astore (lv' := [(4, .ref q9), (0, .ref h0), (1, .int v0), (2, .int v1), (3, .ref h1)]) hx hb dLa_check_13 hl (by decide) rfl (fun ls hl => ?_)
  refine lv_iconst (v := 1) hx hb dLa_check_15 (by decide) ?_
  have hP9 := hP.sub (ws' := []) [] rfl
  have hD9 := hD.sub (ws' := []) [] (by decide) rfl
  have hK9 := hK.sub (tys' := []) [] rfl
  exact W.iret (v := 1) hx hb hr (fun t ht hW => ⟨⟨1, (), rfl, rfl, by rw [ht]; exact hP9, va_K.moved hW.alike hK9, hD9⟩, hS.F ht⟩) hS.2.2 dLa_check_16
set_option maxHeartbeats 4000000 in
set_option maxRecDepth 100000 in
theorem w_La_check_1 (l : Launch) (hl9 : l.stackTraces = false) (dC : Nat → ClassId) (dI : Nat → Nat → Nat) (s0 : State) (a0 : Array Value) (sa : Nat) (hw0 : ∀ w ∈ tx_nse "RunProver" 166, w.before a0 s0 = true) (hi0 : (Cond.initialized "java/util/NoSuchElementException").before a0 s0 = true) (hst0 : vk_R "RunProver" 164 "no such check" sa s0) (sz : Nat) (h0 : Nat) (v0 : Int32) (v1 : Int32) (h1 : Nat) (h2 : Nat) (h3 : Nat) (h4 : Nat) (h5 : Nat) (h6 : Nat) (h7 : Nat) (h8 : Nat) (h9 : Nat) (h10 : Nat) (h11 : Nat) (h12 : Nat) (h13 : Nat) (h14 : Nat) (h15 : Nat) (h16 : Nat) (h17 : Nat) (h18 : Nat) (h19 : Nat) (e0 : ¬ v0 < 0) : Met l yLa_check wsLa_check ({ frames := 7, cells := 1, slots := 6, locals := 104 }) (va_Pc [.ref h0, .int v0, .int v1, .ref h1] (fun U => U.heap.size = sz ∧ va_P (dC, dI) vwCl [(h0, .inr (0, [.ref h2, .ref h3, .ref h4, .ref h5, .ref h6, .ref h7, .ref h8, .ref h9, .ref h10, .ref h11, .int 0, .int 0, .int 0, .int 0, .int 0, .int 0])), (h3, .inr (1, [.ref h12, .ref h13, .ref h14, .ref h15, .ref h16, .ref h17, .ref h18, .ref h19, .int 0, .int 0, .int 0, .int 0, .int 0, .int 0, .int 0, .int 0, .int (-1)]))] U.heap ∧ va_K (dC, dI) vwCl [] U ∧ va_D (fun _ => True) [(h0, .inr (0, [.ref h2, .ref h3, .ref h4, .ref h5, .ref h6, .ref h7, .ref h8, .ref h9, .ref h10, .ref h11, .int 0, .int 0, .int 0, .int 0, .int 0, .int 0])), (h3, .inr (1, [.ref h12, .ref h13, .ref h14, .ref h15, .ref h16, .ref h17, .ref h18, .ref h19, .int 0, .int 0, .int 0, .int 0, .int 0, .int 0, .int 0, .int 0, .int (-1)]))] ∧ tx_At s0 U)) (va_Qi (fun (r : Int32) (_ : Unit) => r = 1) (fun (_ : Unit) (t : State) => va_P (dC, dI) vwCl [] t.heap ∧ va_K (dC, dI) vwCl [] t ∧ va_D (va_A [(h0, .inr (0, [.ref h2, .ref h3, .ref h4, .ref h5, .ref h6, .ref h7, .ref h8, .ref h9, .ref h10, .ref h11, .int 0, .int 0, .int 0, .int 0, .int 0, .int 0])), (h3, .inr (1, [.ref h12, .ref h13, .ref h14, .ref h15, .ref h16, .ref h17, .ref h18, .ref h19, .int 0, .int 0, .int 0, .int 0, .int 0, .int 0, .int 0, .int 0, .int (-1)]))] sz) []) (va_A [(h0, .inr (0, [.ref h2, .ref h3, .ref h4, .ref h5, .ref h6, .ref h7, .ref h8, .ref h9, .ref h10, .ref h11, .int 0, .int 0, .int 0, .int 0, .int 0, .int 0])), (h3, .inr (1, [.ref h12, .ref h13, .ref h14, .ref h15, .ref h16, .ref h17, .ref h18, .ref h19, .int 0, .int 0, .int 0, .int 0, .int 0, .int 0, .int 0, .int 0, .int (-1)]))] sz)) 1 6 (va_A [(h0, .inr (0, [.ref h2, .ref h3, .ref h4, .ref h5, .ref h6, .ref h7, .ref h8, .ref h9, .ref h10, .ref h11, .int 0, .int 0, .int 0, .int 0, .int 0, .int 0])), (h3, .inr (1, [.ref h12, .ref h13, .ref h14, .ref h15, .ref h16, .ref h17, .ref h18, .ref h19, .int 0, .int 0, .int 0, .int 0, .int 0, .int 0, .int 0, .int 0, .int (-1)]))] sz) := by
  refine va_MetW (cc := cLa_check) (maxL := 5) (ret := (some .int)) (by decide) rfl ?_
  intro p e s m args below meth c s₁ B hml hv
  obtain ⟨rfl, hsz, hP, hK, hD0, hAt⟩ := hv
  have hx := B.exec
  have hb := B.bytes
  have hr := B.returns
  have hts := atoms_spec (ws := wsLa_check) B.pre
  have hTab := tx_table B (hts _ List.mem_cons_self)
  have hown : s.vm.findClass "RunProverLaw" = some m.cls := findClass_of_methodNamed B.named
  have hlocks := B.notSynchronized
  subst hsz
  have hD := hD0.self (sz := s.heap.size)
  generalize hAe : va_A [(h0, .inr (0, [.ref h2, .ref h3, .ref h4, .ref h5, .ref h6, .ref h7, .ref h8, .ref h9, .ref h10, .ref h11, .int 0, .int 0, .int 0, .int 0, .int 0, .int 0])), (h3, .inr (1, [.ref h12, .ref h13, .ref h14, .ref h15, .ref h16, .ref h17, .ref h18, .ref h19, .int 0, .int 0, .int 0, .int 0, .int 0, .int 0, .int 0, .int 0, .int (-1)]))] s.heap.size = A at hD ⊢
  have hA : ∀ q : Nat, s.heap.size ≤ q → A q := fun q h => by rw [← hAe]; exact Or.inr h
  have hS : va_S A s.heap s.heap [] := va_S.rf
  have hP : va_P (dC, dI) vwCl [(h0, .inr (0, [.ref h2, .ref h3, .ref h4, .ref h5, .ref h6, .ref h7, .ref h8, .ref h9, .ref h10, .ref h11, .int 0, .int 0, .int 0, .int 0, .int 0, .int 0])), (h3, .inr (1, [.ref h12, .ref h13, .ref h14, .ref h15, .ref h16, .ref h17, .ref h18, .ref h19, .int 0, .int 0, .int 0, .int 0, .int 0, .int 0, .int 0, .int 0, .int (-1)]))] s.heap := hP
  have hl := lv_entry ([.ref h0, .int v0, .int v1, .ref h1]) (n := 5) (Nat.le_of_ble_eq_true rfl)
  rw [lg_entry_eq]
  generalize (lg_sl ([.ref h0, .int v0, .int v1, .ref h1]) ++ List.replicate (5 - (lg_sl ([.ref h0, .int v0, .int v1, .ref h1])).length) Slot.unset).toArray = ls at hl ⊢
  have hl : lv_has ls 5 [(0, .ref h0), (1, .int v0), (2, .int v1), (3, .ref h1)] := hl
  refine lv_aload_n hx hb dLa_check_0 rfl (lv_at hl 3 rfl) ?_
  refine lv_iconst (v := 0) hx hb dLa_check_1 (by decide) ?_
  refine lv_aload_n hx hb dLa_check_2 rfl (lv_at hl 0 rfl) ?_
  refine lv_iload_n hx hb dLa_check_3 rfl (lv_at hl 1 rfl) ?_
  refine lv_iload_n hx hb dLa_check_4 rfl (lv_at hl 2 rfl) ?_
  have hPc := hP.sub (ws' := [(h0, .inr (0, [.ref h2, .ref h3, .ref h4, .ref h5, .ref h6, .ref h7, .ref h8, .ref h9, .ref h10, .ref h11, .int 0, .int 0, .int 0, .int 0, .int 0, .int 0])), (h3, .inr (1, [.ref h12, .ref h13, .ref h14, .ref h15, .ref h16, .ref h17, .ref h18, .ref h19, .int 0, .int 0, .int 0, .int 0, .int 0, .int 0, .int 0, .int 0, .int (-1)]))]) [0, 1] rfl
  have hDc := hD.sub (ws' := [(h0, .inr (0, [.ref h2, .ref h3, .ref h4, .ref h5, .ref h6, .ref h7, .ref h8, .ref h9, .ref h10, .ref h11, .int 0, .int 0, .int 0, .int 0, .int 0, .int 0])), (h3, .inr (1, [.ref h12, .ref h13, .ref h14, .ref h15, .ref h16, .ref h17, .ref h18, .ref h19, .int 0, .int 0, .int 0, .int 0, .int 0, .int 0, .int 0, .int 0, .int (-1)]))]) [0, 1] (by decide) rfl
  have hKc := hK.sub (tys' := []) [] rfl
  have hFc := va_free (wc := [(h0, .inr (0, [.ref h2, .ref h3, .ref h4, .ref h5, .ref h6, .ref h7, .ref h8, .ref h9, .ref h10, .ref h11, .int 0, .int 0, .int 0, .int 0, .int 0, .int 0])), (h3, .inr (1, [.ref h12, .ref h13, .ref h14, .ref h15, .ref h16, .ref h17, .ref h18, .ref h19, .int 0, .int 0, .int 0, .int 0, .int 0, .int 0, .int 0, .int 0, .int (-1)]))]) hD hS hA [0, 1] rfl
  refine tx_catchV (As := [.int v0, .int v1]) (rest := [.int 0, .ref h1]) ⟨hx, hb, hml, hown, hts⟩ (t_Rp_check_1 l hl9 dC dI s0 a0 sa hw0 hi0 hst0 s.heap.size h0 v0 v1 h2 h3 h4 h5 h6 h7 h8 h9 h10 h11 h12 h13 h14 h15 h16 h17 h18 h19 e0) (cwV 2 hts (gV (wbm27 21 rfl) (wbm27 22 rfl) (wbm27 23 rfl) (wbm0 1 rfl) (wbm27 24 rfl)) rfl rfl rfl (by decide +kernel) ⟨Nat.le_of_ble_eq_true rfl, Nat.le_of_ble_eq_true rfl⟩) ⟨fun a U g mk q => by obtain ⟨q0, q1, qP, qK, qD, qA⟩ := q; exact ⟨q0, q1, qP, va_K.moved (u := U) (U := U.calling g mk a) (Vm.Alike.refl U.vm) qK, qD, qA⟩, va_recv hKc hPc (ci := 0) (q0 := 0) rfl rfl, fun U hU hW => ⟨rfl, by rw [hU], by rw [hU]; exact hPc, va_K.moved hW.alike hKc, hDc.weaken (fun _ _ _ _ => trivial), tx_next hAt hU hW⟩⟩ rfl hl.1 rfl (Nat.le_of_ble_eq_true rfl) dLa_check_5 ⟨Nat.le_of_ble_eq_true rfl, Nat.le_of_ble_eq_true rfl⟩ hS (fun q _ h => hFc q h) hFc (name := "java/util/NoSuchElementException") ⟨0, 10, 13, 24⟩ [⟨0, 10, 17, 19⟩] (by rw [hTab]; rfl) (by decide) (by decide) (hts (.classLink "RunProverLaw" 24 "java/util/NoSuchElementException") (wam26 33 rfl)) (tx_cast hAt (hw0 (.castable tx_nX tx_nX) (by simp [tx_nse]))) (fun q9 H locs hz1 hz2 hS => ?_)
  have hP : va_P (dC, dI) vwCl [] H := fun k q h => by simp at h
  have hD : va_D A [] := ⟨fun i j p q h => by simp at h, fun k q h => by simp at h⟩
  have hK : va_K (dC, dI) vwCl [] s := hK.sub (tys' := []) [] rfl
  refine W.widen (k := 1) (n := 6) (by omega) (by omega) ?_
  refine lv_astore (lv' := [(4, .ref q9), (0, .ref h0), (1, .int v0), (2, .int v1), (3, .ref h1)]) hx hb dLa_check_13 hl (by decide) rfl (fun ls hl => ?_)
  refine lv_iconst (v := 1) hx hb dLa_check_15 (by decide) ?_
  have hP9 := hP.sub (ws' := []) [] rfl
  have hD9 := hD.sub (ws' := []) [] (by decide) rfl
  have hK9 := hK.sub (tys' := []) [] rfl
  exact W.iret (v := 1) hx hb hr (fun t ht hW => ⟨⟨1, (), rfl, rfl, by rw [ht]; exact hP9, va_K.moved hW.alike hK9, hD9⟩, hS.F ht⟩) hS.2.2 dLa_check_16
set_option maxHeartbeats 4000000 in
set_option maxRecDepth 100000 in
theorem w_La_input (l : Launch) (hl9 : l.stackTraces = false) (dC : Nat → ClassId) (dI : Nat → Nat → Nat) (s0 : State) (a0 : Array Value) (sa : Nat) (hw0 : ∀ w ∈ tx_nse "RunProver" 166, w.before a0 s0 = true) (hi0 : (Cond.initialized "java/util/NoSuchElementException").before a0 s0 = true) (hst0 : vk_R "RunProver" 201 "no such input" sa s0) (sz : Nat) (h0 : Nat) (v0 : Int32) (h1 : Nat) (h2 : Nat) (h3 : Nat) (h4 : Nat) (h5 : Nat) (h6 : Nat) (h7 : Nat) (h8 : Nat) (h9 : Nat) (h10 : Nat) (h11 : Nat) (e0 : v0 < 0) : Met l yLa_input wsLa_input ({ frames := 7, cells := 1, slots := 6, locals := 103 }) (va_Pc [.ref h0, .int v0, .ref h1] (fun U => U.heap.size = sz ∧ va_P (dC, dI) vwCl [(h0, .inr (0, [.ref h2, .ref h3, .ref h4, .ref h5, .ref h6, .ref h7, .ref h8, .ref h9, .ref h10, .ref h11, .int 0, .int 0, .int 0, .int 0, .int 0, .int 0]))] U.heap ∧ va_K (dC, dI) vwCl [] U ∧ va_D (fun _ => True) [(h0, .inr (0, [.ref h2, .ref h3, .ref h4, .ref h5, .ref h6, .ref h7, .ref h8, .ref h9, .ref h10, .ref h11, .int 0, .int 0, .int 0, .int 0, .int 0, .int 0]))] ∧ tx_At s0 U)) (va_Qi (fun (r : Int32) (_ : Unit) => r = 1) (fun (_ : Unit) (t : State) => va_P (dC, dI) vwCl [] t.heap ∧ va_K (dC, dI) vwCl [] t ∧ va_D (va_A [(h0, .inr (0, [.ref h2, .ref h3, .ref h4, .ref h5, .ref h6, .ref h7, .ref h8, .ref h9, .ref h10, .ref h11, .int 0, .int 0, .int 0, .int 0, .int 0, .int 0]))] sz) []) (va_A [(h0, .inr (0, [.ref h2, .ref h3, .ref h4, .ref h5, .ref h6, .ref h7, .ref h8, .ref h9, .ref h10, .ref h11, .int 0, .int 0, .int 0, .int 0, .int 0, .int 0]))] sz)) 1 6 (va_A [(h0, .inr (0, [.ref h2, .ref h3, .ref h4, .ref h5, .ref h6, .ref h7, .ref h8, .ref h9, .ref h10, .ref h11, .int 0, .int 0, .int 0, .int 0, .int 0, .int 0]))] sz) := by
  refine va_MetW (cc := cLa_input) (maxL := 4) (ret := (some .int)) (by decide) rfl ?_
  intro p e s m args below meth c s₁ B hml hv
  obtain ⟨rfl, hsz, hP, hK, hD0, hAt⟩ := hv
  have hx := B.exec
  have hb := B.bytes
  have hr := B.returns
  have hts := atoms_spec (ws := wsLa_input) B.pre
  have hTab := tx_table B (hts _ List.mem_cons_self)
  have hown : s.vm.findClass "RunProverLaw" = some m.cls := findClass_of_methodNamed B.named
  have hlocks := B.notSynchronized
  subst hsz
  have hD := hD0.self (sz := s.heap.size)
  generalize hAe : va_A [(h0, .inr (0, [.ref h2, .ref h3, .ref h4, .ref h5, .ref h6, .ref h7, .ref h8, .ref h9, .ref h10, .ref h11, .int 0, .int 0, .int 0, .int 0, .int 0, .int 0]))] s.heap.size = A at hD ⊢
  have hA : ∀ q : Nat, s.heap.size ≤ q → A q := fun q h => by rw [← hAe]; exact Or.inr h
  have hS : va_S A s.heap s.heap [] := va_S.rf
  have hP : va_P (dC, dI) vwCl [(h0, .inr (0, [.ref h2, .ref h3, .ref h4, .ref h5, .ref h6, .ref h7, .ref h8, .ref h9, .ref h10, .ref h11, .int 0, .int 0, .int 0, .int 0, .int 0, .int 0]))] s.heap := hP
  have hl := lv_entry ([.ref h0, .int v0, .ref h1]) (n := 4) (Nat.le_of_ble_eq_true rfl)
  rw [lg_entry_eq]
  generalize (lg_sl ([.ref h0, .int v0, .ref h1]) ++ List.replicate (4 - (lg_sl ([.ref h0, .int v0, .ref h1])).length) Slot.unset).toArray = ls at hl ⊢
  have hl : lv_has ls 4 [(0, .ref h0), (1, .int v0), (2, .ref h1)] := hl
  refine lv_aload_n hx hb dLa_input_0 rfl (lv_at hl 2 rfl) ?_
  refine lv_iconst (v := 0) hx hb dLa_input_1 (by decide) ?_
  refine lv_aload_n hx hb dLa_input_2 rfl (lv_at hl 0 rfl) ?_
  refine lv_iload_n hx hb dLa_input_3 rfl (lv_at hl 1 rfl) ?_
  have hPc := hP.sub (ws' := [(h0, .inr (0, [.ref h2, .ref h3, .ref h4, .ref h5, .ref h6, .ref h7, .ref h8, .ref h9, .ref h10, .ref h11, .int 0, .int 0, .int 0, .int 0, .int 0, .int 0]))]) [0] rfl
  have hDc := hD.sub (ws' := [(h0, .inr (0, [.ref h2, .ref h3, .ref h4, .ref h5, .ref h6, .ref h7, .ref h8, .ref h9, .ref h10, .ref h11, .int 0, .int 0, .int 0, .int 0, .int 0, .int 0]))]) [0] (by decide) rfl
  have hKc := hK.sub (tys' := []) [] rfl
  have hFc := va_free (wc := [(h0, .inr (0, [.ref h2, .ref h3, .ref h4, .ref h5, .ref h6, .ref h7, .ref h8, .ref h9, .ref h10, .ref h11, .int 0, .int 0, .int 0, .int 0, .int 0, .int 0]))]) hD hS hA [0] rfl
  refine tx_catchV (As := [.int v0]) (rest := [.int 0, .ref h1]) ⟨hx, hb, hml, hown, hts⟩ (t_Rp_input l hl9 dC dI s0 a0 sa hw0 hi0 hst0 s.heap.size h0 v0 h2 h3 h4 h5 h6 h7 h8 h9 h10 h11 e0) (cwV 1 hts (gV (wbm27 28 rfl) (wbm27 29 rfl) (wbm27 30 rfl) (wbm0 1 rfl) (wbm27 31 rfl)) rfl rfl rfl (by decide +kernel) ⟨Nat.le_of_ble_eq_true rfl, Nat.le_of_ble_eq_true rfl⟩) ⟨fun a U g mk q => by obtain ⟨q0, q1, qP, qK, qD, qA⟩ := q; exact ⟨q0, q1, qP, va_K.moved (u := U) (U := U.calling g mk a) (Vm.Alike.refl U.vm) qK, qD, qA⟩, va_recv hKc hPc (ci := 0) (q0 := 0) rfl rfl, fun U hU hW => ⟨rfl, by rw [hU], by rw [hU]; exact hPc, va_K.moved hW.alike hKc, hDc.weaken (fun _ _ _ _ => trivial), tx_next hAt hU hW⟩⟩ rfl hl.1 rfl (Nat.le_of_ble_eq_true rfl) dLa_input_4 ⟨Nat.le_of_ble_eq_true rfl, Nat.le_of_ble_eq_true rfl⟩ hS (fun q _ h => hFc q h) hFc (name := "java/util/NoSuchElementException") ⟨0, 9, 12, 24⟩ [] (by rw [hTab]; rfl) (by decide) (by decide) (hts (.classLink "RunProverLaw" 24 "java/util/NoSuchElementException") (wam26 33 rfl)) (tx_cast hAt (hw0 (.castable tx_nX tx_nX) (by simp [tx_nse]))) (fun q9 H locs hz1 hz2 hS => ?_)
  have hP : va_P (dC, dI) vwCl [] H := fun k q h => by simp at h
  have hD : va_D A [] := ⟨fun i j p q h => by simp at h, fun k q h => by simp at h⟩
  have hK : va_K (dC, dI) vwCl [] s := hK.sub (tys' := []) [] rfl
  refine W.widen (k := 1) (n := 6) (by omega) (by omega) ?_
  refine lv_astore_n (lv' := [(3, .ref q9), (0, .ref h0), (1, .int v0), (2, .ref h1)]) hx hb dLa_input_12 rfl hl (by decide) rfl (fun ls hl => ?_)
  refine lv_iconst (v := 1) hx hb dLa_input_13 (by decide) ?_
  have hP9 := hP.sub (ws' := []) [] rfl
  have hD9 := hD.sub (ws' := []) [] (by decide) rfl
  have hK9 := hK.sub (tys' := []) [] rfl
  exact W.iret (v := 1) hx hb hr (fun t ht hW => ⟨⟨1, (), rfl, rfl, by rw [ht]; exact hP9, va_K.moved hW.alike hK9, hD9⟩, hS.F ht⟩) hS.2.2 dLa_input_14
set_option maxHeartbeats 4000000 in
set_option maxRecDepth 100000 in
theorem w_La_input_1 (l : Launch) (hl9 : l.stackTraces = false) (dC : Nat → ClassId) (dI : Nat → Nat → Nat) (s0 : State) (a0 : Array Value) (sa : Nat) (hw0 : ∀ w ∈ tx_nse "RunProver" 166, w.before a0 s0 = true) (hi0 : (Cond.initialized "java/util/NoSuchElementException").before a0 s0 = true) (hst0 : vk_R "RunProver" 201 "no such input" sa s0) (sz : Nat) (h0 : Nat) (v0 : Int32) (h1 : Nat) (h2 : Nat) (h3 : Nat) (h4 : Nat) (h5 : Nat) (h6 : Nat) (h7 : Nat) (h8 : Nat) (h9 : Nat) (h10 : Nat) (h11 : Nat) (h12 : Nat) (h13 : Nat) (h14 : Nat) (h15 : Nat) (h16 : Nat) (h17 : Nat) (h18 : Nat) (h19 : Nat) (h20 : Nat) (e0 : ¬ v0 < 0) : Met l yLa_input wsLa_input ({ frames := 7, cells := 1, slots := 6, locals := 103 }) (va_Pc [.ref h0, .int v0, .ref h1] (fun U => U.heap.size = sz ∧ va_P (dC, dI) vwCl [(h0, .inr (0, [.ref h2, .ref h3, .ref h4, .ref h5, .ref h6, .ref h7, .ref h8, .ref h9, .ref h10, .ref h11, .int 0, .int 0, .int 0, .int 0, .int 0, .int 0])), (h6, .inr (7, [.ref h3, .ref h5, .ref h12, .ref h13, .ref h14, .ref h15, .ref h16, .int 0, .ref h17, .ref h18, .ref h19, .int 0, .ref h20, .int 0]))] U.heap ∧ va_K (dC, dI) vwCl [] U ∧ va_D (fun _ => True) [(h0, .inr (0, [.ref h2, .ref h3, .ref h4, .ref h5, .ref h6, .ref h7, .ref h8, .ref h9, .ref h10, .ref h11, .int 0, .int 0, .int 0, .int 0, .int 0, .int 0])), (h6, .inr (7, [.ref h3, .ref h5, .ref h12, .ref h13, .ref h14, .ref h15, .ref h16, .int 0, .ref h17, .ref h18, .ref h19, .int 0, .ref h20, .int 0]))] ∧ tx_At s0 U)) (va_Qi (fun (r : Int32) (_ : Unit) => r = 1) (fun (_ : Unit) (t : State) => va_P (dC, dI) vwCl [] t.heap ∧ va_K (dC, dI) vwCl [] t ∧ va_D (va_A [(h0, .inr (0, [.ref h2, .ref h3, .ref h4, .ref h5, .ref h6, .ref h7, .ref h8, .ref h9, .ref h10, .ref h11, .int 0, .int 0, .int 0, .int 0, .int 0, .int 0])), (h6, .inr (7, [.ref h3, .ref h5, .ref h12, .ref h13, .ref h14, .ref h15, .ref h16, .int 0, .ref h17, .ref h18, .ref h19, .int 0, .ref h20, .int 0]))] sz) []) (va_A [(h0, .inr (0, [.ref h2, .ref h3, .ref h4, .ref h5, .ref h6, .ref h7, .ref h8, .ref h9, .ref h10, .ref h11, .int 0, .int 0, .int 0, .int 0, .int 0, .int 0])), (h6, .inr (7, [.ref h3, .ref h5, .ref h12, .ref h13, .ref h14, .ref h15, .ref h16, .int 0, .ref h17, .ref h18, .ref h19, .int 0, .ref h20, .int 0]))] sz)) 1 6 (va_A [(h0, .inr (0, [.ref h2, .ref h3, .ref h4, .ref h5, .ref h6, .ref h7, .ref h8, .ref h9, .ref h10, .ref h11, .int 0, .int 0, .int 0, .int 0, .int 0, .int 0])), (h6, .inr (7, [.ref h3, .ref h5, .ref h12, .ref h13, .ref h14, .ref h15, .ref h16, .int 0, .ref h17, .ref h18, .ref h19, .int 0, .ref h20, .int 0]))] sz) := by
  refine va_MetW (cc := cLa_input) (maxL := 4) (ret := (some .int)) (by decide) rfl ?_
  intro p e s m args below meth c s₁ B hml hv
  obtain ⟨rfl, hsz, hP, hK, hD0, hAt⟩ := hv
  have hx := B.exec
  have hb := B.bytes
  have hr := B.returns
  have hts := atoms_spec (ws := wsLa_input) B.pre
  have hTab := tx_table B (hts _ List.mem_cons_self)
  have hown : s.vm.findClass "RunProverLaw" = some m.cls := findClass_of_methodNamed B.named
  have hlocks := B.notSynchronized
  subst hsz
  have hD := hD0.self (sz := s.heap.size)
  generalize hAe : va_A [(h0, .inr (0, [.ref h2, .ref h3, .ref h4, .ref h5, .ref h6, .ref h7, .ref h8, .ref h9, .ref h10, .ref h11, .int 0, .int 0, .int 0, .int 0, .int 0, .int 0])), (h6, .inr (7, [.ref h3, .ref h5, .ref h12, .ref h13, .ref h14, .ref h15, .ref h16, .int 0, .ref h17, .ref h18, .ref h19, .int 0, .ref h20, .int 0]))] s.heap.size = A at hD ⊢
  have hA : ∀ q : Nat, s.heap.size ≤ q → A q := fun q h => by rw [← hAe]; exact Or.inr h
  have hS : va_S A s.heap s.heap [] := va_S.rf
  have hP : va_P (dC, dI) vwCl [(h0, .inr (0, [.ref h2, .ref h3, .ref h4, .ref h5, .ref h6, .ref h7, .ref h8, .ref h9, .ref h10, .ref h11, .int 0, .int 0, .int 0, .int 0, .int 0, .int 0])), (h6, .inr (7, [.ref h3, .ref h5, .ref h12, .ref h13, .ref h14, .ref h15, .ref h16, .int 0, .ref h17, .ref h18, .ref h19, .int 0, .ref h20, .int 0]))] s.heap := hP
  have hl := lv_entry ([.ref h0, .int v0, .ref h1]) (n := 4) (Nat.le_of_ble_eq_true rfl)
  rw [lg_entry_eq]
  generalize (lg_sl ([.ref h0, .int v0, .ref h1]) ++ List.replicate (4 - (lg_sl ([.ref h0, .int v0, .ref h1])).length) Slot.unset).toArray = ls at hl ⊢
  have hl : lv_has ls 4 [(0, .ref h0), (1, .int v0), (2, .ref h1)] := hl
  refine lv_aload_n hx hb dLa_input_0 rfl (lv_at hl 2 rfl) ?_
  refine lv_iconst (v := 0) hx hb dLa_input_1 (by decide) ?_
  refine lv_aload_n hx hb dLa_input_2 rfl (lv_at hl 0 rfl) ?_
  refine lv_iload_n hx hb dLa_input_3 rfl (lv_at hl 1 rfl) ?_
  have hPc := hP.sub (ws' := [(h0, .inr (0, [.ref h2, .ref h3, .ref h4, .ref h5, .ref h6, .ref h7, .ref h8, .ref h9, .ref h10, .ref h11, .int 0, .int 0, .int 0, .int 0, .int 0, .int 0])), (h6, .inr (7, [.ref h3, .ref h5, .ref h12, .ref h13, .ref h14, .ref h15, .ref h16, .int 0, .ref h17, .ref h18, .ref h19, .int 0, .ref h20, .int 0]))]) [0, 1] rfl
  have hDc := hD.sub (ws' := [(h0, .inr (0, [.ref h2, .ref h3, .ref h4, .ref h5, .ref h6, .ref h7, .ref h8, .ref h9, .ref h10, .ref h11, .int 0, .int 0, .int 0, .int 0, .int 0, .int 0])), (h6, .inr (7, [.ref h3, .ref h5, .ref h12, .ref h13, .ref h14, .ref h15, .ref h16, .int 0, .ref h17, .ref h18, .ref h19, .int 0, .ref h20, .int 0]))]) [0, 1] (by decide) rfl
  have hKc := hK.sub (tys' := []) [] rfl
  have hFc := va_free (wc := [(h0, .inr (0, [.ref h2, .ref h3, .ref h4, .ref h5, .ref h6, .ref h7, .ref h8, .ref h9, .ref h10, .ref h11, .int 0, .int 0, .int 0, .int 0, .int 0, .int 0])), (h6, .inr (7, [.ref h3, .ref h5, .ref h12, .ref h13, .ref h14, .ref h15, .ref h16, .int 0, .ref h17, .ref h18, .ref h19, .int 0, .ref h20, .int 0]))]) hD hS hA [0, 1] rfl
  refine tx_catchV (As := [.int v0]) (rest := [.int 0, .ref h1]) ⟨hx, hb, hml, hown, hts⟩ (t_Rp_input_1 l hl9 dC dI s0 a0 sa hw0 hi0 hst0 s.heap.size h0 v0 h2 h3 h4 h5 h6 h7 h8 h9 h10 h11 h12 h13 h14 h15 h16 h17 h18 h19 h20 e0) (cwV 1 hts (gV (wbm27 28 rfl) (wbm27 29 rfl) (wbm27 30 rfl) (wbm0 1 rfl) (wbm27 31 rfl)) rfl rfl rfl (by decide +kernel) ⟨Nat.le_of_ble_eq_true rfl, Nat.le_of_ble_eq_true rfl⟩) ⟨fun a U g mk q => by obtain ⟨q0, q1, qP, qK, qD, qA⟩ := q; exact ⟨q0, q1, qP, va_K.moved (u := U) (U := U.calling g mk a) (Vm.Alike.refl U.vm) qK, qD, qA⟩, va_recv hKc hPc (ci := 0) (q0 := 0) rfl rfl, fun U hU hW => ⟨rfl, by rw [hU], by rw [hU]; exact hPc, va_K.moved hW.alike hKc, hDc.weaken (fun _ _ _ _ => trivial), tx_next hAt hU hW⟩⟩ rfl hl.1 rfl (Nat.le_of_ble_eq_true rfl) dLa_input_4 ⟨Nat.le_of_ble_eq_true rfl, Nat.le_of_ble_eq_true rfl⟩ hS (fun q _ h => hFc q h) hFc (name := "java/util/NoSuchElementException") ⟨0, 9, 12, 24⟩ [] (by rw [hTab]; rfl) (by decide) (by decide) (hts (.classLink "RunProverLaw" 24 "java/util/NoSuchElementException") (wam26 33 rfl)) (tx_cast hAt (hw0 (.castable tx_nX tx_nX) (by simp [tx_nse]))) (fun q9 H locs hz1 hz2 hS => ?_)
  have hP : va_P (dC, dI) vwCl [] H := fun k q h => by simp at h
  have hD : va_D A [] := ⟨fun i j p q h => by simp at h, fun k q h => by simp at h⟩
  have hK : va_K (dC, dI) vwCl [] s := hK.sub (tys' := []) [] rfl
  refine W.widen (k := 1) (n := 6) (by omega) (by omega) ?_
  refine lv_astore_n (lv' := [(3, .ref q9), (0, .ref h0), (1, .int v0), (2, .ref h1)]) hx hb dLa_input_12 rfl hl (by decide) rfl (fun ls hl => ?_)
  refine lv_iconst (v := 1) hx hb dLa_input_13 (by decide) ?_
  have hP9 := hP.sub (ws' := []) [] rfl
  have hD9 := hD.sub (ws' := []) [] (by decide) rfl
  have hK9 := hK.sub (tys' := []) [] rfl
  exact W.iret (v := 1) hx hb hr (fun t ht hW => ⟨⟨1, (), rfl, rfl, by rw [ht]; exact hP9, va_K.moved hW.alike hK9, hD9⟩, hS.F ht⟩) hS.2.2 dLa_input_14
set_option maxHeartbeats 4000000 in
set_option maxRecDepth 100000 in
theorem w_La_put (l : Launch) (hl9 : l.stackTraces = false) (dC : Nat → ClassId) (dI : Nat → Nat → Nat) (s0 : State) (a0 : Array Value) (sa : Nat) (hw0 : ∀ w ∈ tx_nse "RunProver" 166, w.before a0 s0 = true) (hi0 : (Cond.initialized "java/util/NoSuchElementException").before a0 s0 = true) (hst0 : vk_R "RunProver" 201 "no such input" sa s0) (sz : Nat) (h0 : Nat) (v0 : Int32) (v1 : Int32) (h1 : Nat) (h2 : Nat) (h3 : Nat) (h4 : Nat) (h5 : Nat) (h6 : Nat) (h7 : Nat) (h8 : Nat) (h9 : Nat) (h10 : Nat) (h11 : Nat) (e0 : v0 < 0) : Met l yLa_put wsLa_put ({ frames := 7, cells := 1, slots := 6, locals := 105 }) (va_Pc [.ref h0, .int v0, .int v1, .ref h1] (fun U => U.heap.size = sz ∧ va_P (dC, dI) vwCl [(h0, .inr (0, [.ref h2, .ref h3, .ref h4, .ref h5, .ref h6, .ref h7, .ref h8, .ref h9, .ref h10, .ref h11, .int 0, .int 0, .int 0, .int 0, .int 0, .int 0]))] U.heap ∧ va_K (dC, dI) vwCl [] U ∧ va_D (fun _ => True) [(h0, .inr (0, [.ref h2, .ref h3, .ref h4, .ref h5, .ref h6, .ref h7, .ref h8, .ref h9, .ref h10, .ref h11, .int 0, .int 0, .int 0, .int 0, .int 0, .int 0]))] ∧ tx_At s0 U)) (va_Qi (fun (r : Int32) (_ : Unit) => r = 1) (fun (_ : Unit) (t : State) => va_P (dC, dI) vwCl [] t.heap ∧ va_K (dC, dI) vwCl [] t ∧ va_D (va_A [(h0, .inr (0, [.ref h2, .ref h3, .ref h4, .ref h5, .ref h6, .ref h7, .ref h8, .ref h9, .ref h10, .ref h11, .int 0, .int 0, .int 0, .int 0, .int 0, .int 0]))] sz) []) (va_A [(h0, .inr (0, [.ref h2, .ref h3, .ref h4, .ref h5, .ref h6, .ref h7, .ref h8, .ref h9, .ref h10, .ref h11, .int 0, .int 0, .int 0, .int 0, .int 0, .int 0]))] sz)) 1 6 (va_A [(h0, .inr (0, [.ref h2, .ref h3, .ref h4, .ref h5, .ref h6, .ref h7, .ref h8, .ref h9, .ref h10, .ref h11, .int 0, .int 0, .int 0, .int 0, .int 0, .int 0]))] sz) := by
  refine va_MetW (cc := cLa_put) (maxL := 5) (ret := (some .int)) (by decide) rfl ?_
  intro p e s m args below meth c s₁ B hml hv
  obtain ⟨rfl, hsz, hP, hK, hD0, hAt⟩ := hv
  have hx := B.exec
  have hb := B.bytes
  have hr := B.returns
  have hts := atoms_spec (ws := wsLa_put) B.pre
  have hTab := tx_table B (hts _ List.mem_cons_self)
  have hown : s.vm.findClass "RunProverLaw" = some m.cls := findClass_of_methodNamed B.named
  have hlocks := B.notSynchronized
  subst hsz
  have hD := hD0.self (sz := s.heap.size)
  generalize hAe : va_A [(h0, .inr (0, [.ref h2, .ref h3, .ref h4, .ref h5, .ref h6, .ref h7, .ref h8, .ref h9, .ref h10, .ref h11, .int 0, .int 0, .int 0, .int 0, .int 0, .int 0]))] s.heap.size = A at hD ⊢
  have hA : ∀ q : Nat, s.heap.size ≤ q → A q := fun q h => by rw [← hAe]; exact Or.inr h
  have hS : va_S A s.heap s.heap [] := va_S.rf
  have hP : va_P (dC, dI) vwCl [(h0, .inr (0, [.ref h2, .ref h3, .ref h4, .ref h5, .ref h6, .ref h7, .ref h8, .ref h9, .ref h10, .ref h11, .int 0, .int 0, .int 0, .int 0, .int 0, .int 0]))] s.heap := hP
  have hl := lv_entry ([.ref h0, .int v0, .int v1, .ref h1]) (n := 5) (Nat.le_of_ble_eq_true rfl)
  rw [lg_entry_eq]
  generalize (lg_sl ([.ref h0, .int v0, .int v1, .ref h1]) ++ List.replicate (5 - (lg_sl ([.ref h0, .int v0, .int v1, .ref h1])).length) Slot.unset).toArray = ls at hl ⊢
  have hl : lv_has ls 5 [(0, .ref h0), (1, .int v0), (2, .int v1), (3, .ref h1)] := hl
  refine lv_aload_n hx hb dLa_put_0 rfl (lv_at hl 3 rfl) ?_
  refine lv_iconst (v := 0) hx hb dLa_put_1 (by decide) ?_
  refine lv_aload_n hx hb dLa_put_2 rfl (lv_at hl 0 rfl) ?_
  refine lv_iload_n hx hb dLa_put_3 rfl (lv_at hl 1 rfl) ?_
  refine lv_iload_n hx hb dLa_put_4 rfl (lv_at hl 2 rfl) ?_
  have hPc := hP.sub (ws' := [(h0, .inr (0, [.ref h2, .ref h3, .ref h4, .ref h5, .ref h6, .ref h7, .ref h8, .ref h9, .ref h10, .ref h11, .int 0, .int 0, .int 0, .int 0, .int 0, .int 0]))]) [0] rfl
  have hDc := hD.sub (ws' := [(h0, .inr (0, [.ref h2, .ref h3, .ref h4, .ref h5, .ref h6, .ref h7, .ref h8, .ref h9, .ref h10, .ref h11, .int 0, .int 0, .int 0, .int 0, .int 0, .int 0]))]) [0] (by decide) rfl
  have hKc := hK.sub (tys' := []) [] rfl
  have hFc := va_free (wc := [(h0, .inr (0, [.ref h2, .ref h3, .ref h4, .ref h5, .ref h6, .ref h7, .ref h8, .ref h9, .ref h10, .ref h11, .int 0, .int 0, .int 0, .int 0, .int 0, .int 0]))]) hD hS hA [0] rfl
  refine tx_catchV (As := [.int v0, .int v1]) (rest := [.int 0, .ref h1]) ⟨hx, hb, hml, hown, hts⟩ (t_Rp_put l hl9 dC dI s0 a0 sa hw0 hi0 hst0 s.heap.size h0 v0 v1 h2 h3 h4 h5 h6 h7 h8 h9 h10 h11 e0) (cwV 2 hts (gV (wbm27 35 rfl) (wbm27 36 rfl) (wbm27 37 rfl) (wbm0 1 rfl) (wbm27 38 rfl)) rfl rfl rfl (by decide +kernel) ⟨Nat.le_of_ble_eq_true rfl, Nat.le_of_ble_eq_true rfl⟩) ⟨fun a U g mk q => by obtain ⟨q0, q1, qP, qK, qD, qA⟩ := q; exact ⟨q0, q1, qP, va_K.moved (u := U) (U := U.calling g mk a) (Vm.Alike.refl U.vm) qK, qD, qA⟩, va_recv hKc hPc (ci := 0) (q0 := 0) rfl rfl, fun U hU hW => ⟨rfl, by rw [hU], by rw [hU]; exact hPc, va_K.moved hW.alike hKc, hDc.weaken (fun _ _ _ _ => trivial), tx_next hAt hU hW⟩⟩ rfl hl.1 rfl (Nat.le_of_ble_eq_true rfl) dLa_put_5 ⟨Nat.le_of_ble_eq_true rfl, Nat.le_of_ble_eq_true rfl⟩ hS (fun q _ h => hFc q h) hFc (name := "java/util/NoSuchElementException") ⟨0, 10, 13, 24⟩ [⟨0, 10, 17, 19⟩] (by rw [hTab]; rfl) (by decide) (by decide) (hts (.classLink "RunProverLaw" 24 "java/util/NoSuchElementException") (wam26 33 rfl)) (tx_cast hAt (hw0 (.castable tx_nX tx_nX) (by simp [tx_nse]))) (fun q9 H locs hz1 hz2 hS => ?_)
  have hP : va_P (dC, dI) vwCl [] H := fun k q h => by simp at h
  have hD : va_D A [] := ⟨fun i j p q h => by simp at h, fun k q h => by simp at h⟩
  have hK : va_K (dC, dI) vwCl [] s := hK.sub (tys' := []) [] rfl
  refine W.widen (k := 1) (n := 6) (by omega) (by omega) ?_
  refine lv_astore (lv' := [(4, .ref q9), (0, .ref h0), (1, .int v0), (2, .int v1), (3, .ref h1)]) hx hb dLa_put_13 hl (by decide) rfl (fun ls hl => ?_)
  refine lv_iconst (v := 1) hx hb dLa_put_15 (by decide) ?_
  have hP9 := hP.sub (ws' := []) [] rfl
  have hD9 := hD.sub (ws' := []) [] (by decide) rfl
  have hK9 := hK.sub (tys' := []) [] rfl
  exact W.iret (v := 1) hx hb hr (fun t ht hW => ⟨⟨1, (), rfl, rfl, by rw [ht]; exact hP9, va_K.moved hW.alike hK9, hD9⟩, hS.F ht⟩) hS.2.2 dLa_put_16
set_option maxHeartbeats 4000000 in
set_option maxRecDepth 100000 in
theorem w_La_put_1 (l : Launch) (hl9 : l.stackTraces = false) (dC : Nat → ClassId) (dI : Nat → Nat → Nat) (s0 : State) (a0 : Array Value) (sa : Nat) (hw0 : ∀ w ∈ tx_nse "RunProver" 166, w.before a0 s0 = true) (hi0 : (Cond.initialized "java/util/NoSuchElementException").before a0 s0 = true) (hst0 : vk_R "RunProver" 201 "no such input" sa s0) (sz : Nat) (h0 : Nat) (v0 : Int32) (v1 : Int32) (h1 : Nat) (h2 : Nat) (h3 : Nat) (h4 : Nat) (h5 : Nat) (h6 : Nat) (h7 : Nat) (h8 : Nat) (h9 : Nat) (h10 : Nat) (h11 : Nat) (h12 : Nat) (h13 : Nat) (h14 : Nat) (h15 : Nat) (h16 : Nat) (h17 : Nat) (h18 : Nat) (h19 : Nat) (h20 : Nat) (e0 : ¬ v0 < 0) : Met l yLa_put wsLa_put ({ frames := 7, cells := 1, slots := 6, locals := 105 }) (va_Pc [.ref h0, .int v0, .int v1, .ref h1] (fun U => U.heap.size = sz ∧ va_P (dC, dI) vwCl [(h0, .inr (0, [.ref h2, .ref h3, .ref h4, .ref h5, .ref h6, .ref h7, .ref h8, .ref h9, .ref h10, .ref h11, .int 0, .int 0, .int 0, .int 0, .int 0, .int 0])), (h6, .inr (7, [.ref h3, .ref h5, .ref h12, .ref h13, .ref h14, .ref h15, .ref h16, .int 0, .ref h17, .ref h18, .ref h19, .int 0, .ref h20, .int 0]))] U.heap ∧ va_K (dC, dI) vwCl [] U ∧ va_D (fun _ => True) [(h0, .inr (0, [.ref h2, .ref h3, .ref h4, .ref h5, .ref h6, .ref h7, .ref h8, .ref h9, .ref h10, .ref h11, .int 0, .int 0, .int 0, .int 0, .int 0, .int 0])), (h6, .inr (7, [.ref h3, .ref h5, .ref h12, .ref h13, .ref h14, .ref h15, .ref h16, .int 0, .ref h17, .ref h18, .ref h19, .int 0, .ref h20, .int 0]))] ∧ tx_At s0 U)) (va_Qi (fun (r : Int32) (_ : Unit) => r = 1) (fun (_ : Unit) (t : State) => va_P (dC, dI) vwCl [] t.heap ∧ va_K (dC, dI) vwCl [] t ∧ va_D (va_A [(h0, .inr (0, [.ref h2, .ref h3, .ref h4, .ref h5, .ref h6, .ref h7, .ref h8, .ref h9, .ref h10, .ref h11, .int 0, .int 0, .int 0, .int 0, .int 0, .int 0])), (h6, .inr (7, [.ref h3, .ref h5, .ref h12, .ref h13, .ref h14, .ref h15, .ref h16, .int 0, .ref h17, .ref h18, .ref h19, .int 0, .ref h20, .int 0]))] sz) []) (va_A [(h0, .inr (0, [.ref h2, .ref h3, .ref h4, .ref h5, .ref h6, .ref h7, .ref h8, .ref h9, .ref h10, .ref h11, .int 0, .int 0, .int 0, .int 0, .int 0, .int 0])), (h6, .inr (7, [.ref h3, .ref h5, .ref h12, .ref h13, .ref h14, .ref h15, .ref h16, .int 0, .ref h17, .ref h18, .ref h19, .int 0, .ref h20, .int 0]))] sz)) 1 6 (va_A [(h0, .inr (0, [.ref h2, .ref h3, .ref h4, .ref h5, .ref h6, .ref h7, .ref h8, .ref h9, .ref h10, .ref h11, .int 0, .int 0, .int 0, .int 0, .int 0, .int 0])), (h6, .inr (7, [.ref h3, .ref h5, .ref h12, .ref h13, .ref h14, .ref h15, .ref h16, .int 0, .ref h17, .ref h18, .ref h19, .int 0, .ref h20, .int 0]))] sz) := by
  refine va_MetW (cc := cLa_put) (maxL := 5) (ret := (some .int)) (by decide) rfl ?_
  intro p e s m args below meth c s₁ B hml hv
  obtain ⟨rfl, hsz, hP, hK, hD0, hAt⟩ := hv
  have hx := B.exec
  have hb := B.bytes
  have hr := B.returns
  have hts := atoms_spec (ws := wsLa_put) B.pre
  have hTab := tx_table B (hts _ List.mem_cons_self)
  have hown : s.vm.findClass "RunProverLaw" = some m.cls := findClass_of_methodNamed B.named
  have hlocks := B.notSynchronized
  subst hsz
  have hD := hD0.self (sz := s.heap.size)
  generalize hAe : va_A [(h0, .inr (0, [.ref h2, .ref h3, .ref h4, .ref h5, .ref h6, .ref h7, .ref h8, .ref h9, .ref h10, .ref h11, .int 0, .int 0, .int 0, .int 0, .int 0, .int 0])), (h6, .inr (7, [.ref h3, .ref h5, .ref h12, .ref h13, .ref h14, .ref h15, .ref h16, .int 0, .ref h17, .ref h18, .ref h19, .int 0, .ref h20, .int 0]))] s.heap.size = A at hD ⊢
  have hA : ∀ q : Nat, s.heap.size ≤ q → A q := fun q h => by rw [← hAe]; exact Or.inr h
  have hS : va_S A s.heap s.heap [] := va_S.rf
  have hP : va_P (dC, dI) vwCl [(h0, .inr (0, [.ref h2, .ref h3, .ref h4, .ref h5, .ref h6, .ref h7, .ref h8, .ref h9, .ref h10, .ref h11, .int 0, .int 0, .int 0, .int 0, .int 0, .int 0])), (h6, .inr (7, [.ref h3, .ref h5, .ref h12, .ref h13, .ref h14, .ref h15, .ref h16, .int 0, .ref h17, .ref h18, .ref h19, .int 0, .ref h20, .int 0]))] s.heap := hP
  have hl := lv_entry ([.ref h0, .int v0, .int v1, .ref h1]) (n := 5) (Nat.le_of_ble_eq_true rfl)
  rw [lg_entry_eq]
  generalize (lg_sl ([.ref h0, .int v0, .int v1, .ref h1]) ++ List.replicate (5 - (lg_sl ([.ref h0, .int v0, .int v1, .ref h1])).length) Slot.unset).toArray = ls at hl ⊢
  have hl : lv_has ls 5 [(0, .ref h0), (1, .int v0), (2, .int v1), (3, .ref h1)] := hl
  refine lv_aload_n hx hb dLa_put_0 rfl (lv_at hl 3 rfl) ?_
  refine lv_iconst (v := 0) hx hb dLa_put_1 (by decide) ?_
  refine lv_aload_n hx hb dLa_put_2 rfl (lv_at hl 0 rfl) ?_
  refine lv_iload_n hx hb dLa_put_3 rfl (lv_at hl 1 rfl) ?_
  refine lv_iload_n hx hb dLa_put_4 rfl (lv_at hl 2 rfl) ?_
  have hPc := hP.sub (ws' := [(h0, .inr (0, [.ref h2, .ref h3, .ref h4, .ref h5, .ref h6, .ref h7, .ref h8, .ref h9, .ref h10, .ref h11, .int 0, .int 0, .int 0, .int 0, .int 0, .int 0])), (h6, .inr (7, [.ref h3, .ref h5, .ref h12, .ref h13, .ref h14, .ref h15, .ref h16, .int 0, .ref h17, .ref h18, .ref h19, .int 0, .ref h20, .int 0]))]) [0, 1] rfl
  have hDc := hD.sub (ws' := [(h0, .inr (0, [.ref h2, .ref h3, .ref h4, .ref h5, .ref h6, .ref h7, .ref h8, .ref h9, .ref h10, .ref h11, .int 0, .int 0, .int 0, .int 0, .int 0, .int 0])), (h6, .inr (7, [.ref h3, .ref h5, .ref h12, .ref h13, .ref h14, .ref h15, .ref h16, .int 0, .ref h17, .ref h18, .ref h19, .int 0, .ref h20, .int 0]))]) [0, 1] (by decide) rfl
  have hKc := hK.sub (tys' := []) [] rfl
  have hFc := va_free (wc := [(h0, .inr (0, [.ref h2, .ref h3, .ref h4, .ref h5, .ref h6, .ref h7, .ref h8, .ref h9, .ref h10, .ref h11, .int 0, .int 0, .int 0, .int 0, .int 0, .int 0])), (h6, .inr (7, [.ref h3, .ref h5, .ref h12, .ref h13, .ref h14, .ref h15, .ref h16, .int 0, .ref h17, .ref h18, .ref h19, .int 0, .ref h20, .int 0]))]) hD hS hA [0, 1] rfl
  refine tx_catchV (As := [.int v0, .int v1]) (rest := [.int 0, .ref h1]) ⟨hx, hb, hml, hown, hts⟩ (t_Rp_put_1 l hl9 dC dI s0 a0 sa hw0 hi0 hst0 s.heap.size h0 v0 v1 h2 h3 h4 h5 h6 h7 h8 h9 h10 h11 h12 h13 h14 h15 h16 h17 h18 h19 h20 e0) (cwV 2 hts (gV (wbm27 35 rfl) (wbm27 36 rfl) (wbm27 37 rfl) (wbm0 1 rfl) (wbm27 38 rfl)) rfl rfl rfl (by decide +kernel) ⟨Nat.le_of_ble_eq_true rfl, Nat.le_of_ble_eq_true rfl⟩) ⟨fun a U g mk q => by obtain ⟨q0, q1, qP, qK, qD, qA⟩ := q; exact ⟨q0, q1, qP, va_K.moved (u := U) (U := U.calling g mk a) (Vm.Alike.refl U.vm) qK, qD, qA⟩, va_recv hKc hPc (ci := 0) (q0 := 0) rfl rfl, fun U hU hW => ⟨rfl, by rw [hU], by rw [hU]; exact hPc, va_K.moved hW.alike hKc, hDc.weaken (fun _ _ _ _ => trivial), tx_next hAt hU hW⟩⟩ rfl hl.1 rfl (Nat.le_of_ble_eq_true rfl) dLa_put_5 ⟨Nat.le_of_ble_eq_true rfl, Nat.le_of_ble_eq_true rfl⟩ hS (fun q _ h => hFc q h) hFc (name := "java/util/NoSuchElementException") ⟨0, 10, 13, 24⟩ [⟨0, 10, 17, 19⟩] (by rw [hTab]; rfl) (by decide) (by decide) (hts (.classLink "RunProverLaw" 24 "java/util/NoSuchElementException") (wam26 33 rfl)) (tx_cast hAt (hw0 (.castable tx_nX tx_nX) (by simp [tx_nse]))) (fun q9 H locs hz1 hz2 hS => ?_)
  have hP : va_P (dC, dI) vwCl [] H := fun k q h => by simp at h
  have hD : va_D A [] := ⟨fun i j p q h => by simp at h, fun k q h => by simp at h⟩
  have hK : va_K (dC, dI) vwCl [] s := hK.sub (tys' := []) [] rfl
  refine W.widen (k := 1) (n := 6) (by omega) (by omega) ?_
  refine lv_astore (lv' := [(4, .ref q9), (0, .ref h0), (1, .int v0), (2, .int v1), (3, .ref h1)]) hx hb dLa_put_13 hl (by decide) rfl (fun ls hl => ?_)
  refine lv_iconst (v := 1) hx hb dLa_put_15 (by decide) ?_
  have hP9 := hP.sub (ws' := []) [] rfl
  have hD9 := hD.sub (ws' := []) [] (by decide) rfl
  have hK9 := hK.sub (tys' := []) [] rfl
  exact W.iret (v := 1) hx hb hr (fun t ht hW => ⟨⟨1, (), rfl, rfl, by rw [ht]; exact hP9, va_K.moved hW.alike hK9, hD9⟩, hS.F ht⟩) hS.2.2 dLa_put_16
set_option maxHeartbeats 4000000 in
set_option maxRecDepth 100000 in
theorem w_La_value (l : Launch) (hl9 : l.stackTraces = false) (dC : Nat → ClassId) (dI : Nat → Nat → Nat) (s0 : State) (a0 : Array Value) (sa : Nat) (hw0 : ∀ w ∈ tx_nse "RunProver" 166, w.before a0 s0 = true) (hi0 : (Cond.initialized "java/util/NoSuchElementException").before a0 s0 = true) (hst0 : vk_R "RunProver" 212 "no such element" sa s0) (sz : Nat) (h0 : Nat) (v0 : Int32) (v1 : Int32) (h1 : Nat) (h2 : Nat) (h3 : Nat) (h4 : Nat) (h5 : Nat) (h6 : Nat) (h7 : Nat) (h8 : Nat) (h9 : Nat) (h10 : Nat) (h11 : Nat) (h12 : Nat) (h13 : Nat) (h14 : Nat) (h15 : Nat) (h16 : Nat) (h17 : Nat) (h18 : Nat) (h19 : Nat) (e0 : v0 < 0) : Met l yLa_value wsLa_value ({ frames := 7, cells := 1, slots := 6, locals := 107 }) (va_Pc [.ref h0, .int v0, .int v1, .ref h1] (fun U => U.heap.size = sz ∧ va_P (dC, dI) vwCl [(h0, .inr (0, [.ref h2, .ref h3, .ref h4, .ref h5, .ref h6, .ref h7, .ref h8, .ref h9, .ref h10, .ref h11, .int 0, .int 0, .int 0, .int 0, .int 0, .int 0])), (h3, .inr (1, [.ref h12, .ref h13, .ref h14, .ref h15, .ref h16, .ref h17, .ref h18, .ref h19, .int 0, .int 0, .int 0, .int 0, .int 0, .int 0, .int 0, .int 0, .int (-1)]))] U.heap ∧ va_K (dC, dI) vwCl [] U ∧ va_D (fun _ => True) [(h0, .inr (0, [.ref h2, .ref h3, .ref h4, .ref h5, .ref h6, .ref h7, .ref h8, .ref h9, .ref h10, .ref h11, .int 0, .int 0, .int 0, .int 0, .int 0, .int 0])), (h3, .inr (1, [.ref h12, .ref h13, .ref h14, .ref h15, .ref h16, .ref h17, .ref h18, .ref h19, .int 0, .int 0, .int 0, .int 0, .int 0, .int 0, .int 0, .int 0, .int (-1)]))] ∧ tx_At s0 U)) (va_Qi (fun (r : Int32) (_ : Unit) => r = 1) (fun (_ : Unit) (t : State) => va_P (dC, dI) vwCl [] t.heap ∧ va_K (dC, dI) vwCl [] t ∧ va_D (va_A [(h0, .inr (0, [.ref h2, .ref h3, .ref h4, .ref h5, .ref h6, .ref h7, .ref h8, .ref h9, .ref h10, .ref h11, .int 0, .int 0, .int 0, .int 0, .int 0, .int 0])), (h3, .inr (1, [.ref h12, .ref h13, .ref h14, .ref h15, .ref h16, .ref h17, .ref h18, .ref h19, .int 0, .int 0, .int 0, .int 0, .int 0, .int 0, .int 0, .int 0, .int (-1)]))] sz) []) (va_A [(h0, .inr (0, [.ref h2, .ref h3, .ref h4, .ref h5, .ref h6, .ref h7, .ref h8, .ref h9, .ref h10, .ref h11, .int 0, .int 0, .int 0, .int 0, .int 0, .int 0])), (h3, .inr (1, [.ref h12, .ref h13, .ref h14, .ref h15, .ref h16, .ref h17, .ref h18, .ref h19, .int 0, .int 0, .int 0, .int 0, .int 0, .int 0, .int 0, .int 0, .int (-1)]))] sz)) 1 6 (va_A [(h0, .inr (0, [.ref h2, .ref h3, .ref h4, .ref h5, .ref h6, .ref h7, .ref h8, .ref h9, .ref h10, .ref h11, .int 0, .int 0, .int 0, .int 0, .int 0, .int 0])), (h3, .inr (1, [.ref h12, .ref h13, .ref h14, .ref h15, .ref h16, .ref h17, .ref h18, .ref h19, .int 0, .int 0, .int 0, .int 0, .int 0, .int 0, .int 0, .int 0, .int (-1)]))] sz) := by
  refine va_MetW (cc := cLa_value) (maxL := 5) (ret := (some .int)) (by decide) rfl ?_
  intro p e s m args below meth c s₁ B hml hv
  obtain ⟨rfl, hsz, hP, hK, hD0, hAt⟩ := hv
  have hx := B.exec
  have hb := B.bytes
  have hr := B.returns
  have hts := atoms_spec (ws := wsLa_value) B.pre
  have hTab := tx_table B (hts _ List.mem_cons_self)
  have hown : s.vm.findClass "RunProverLaw" = some m.cls := findClass_of_methodNamed B.named
  have hlocks := B.notSynchronized
  subst hsz
  have hD := hD0.self (sz := s.heap.size)
  generalize hAe : va_A [(h0, .inr (0, [.ref h2, .ref h3, .ref h4, .ref h5, .ref h6, .ref h7, .ref h8, .ref h9, .ref h10, .ref h11, .int 0, .int 0, .int 0, .int 0, .int 0, .int 0])), (h3, .inr (1, [.ref h12, .ref h13, .ref h14, .ref h15, .ref h16, .ref h17, .ref h18, .ref h19, .int 0, .int 0, .int 0, .int 0, .int 0, .int 0, .int 0, .int 0, .int (-1)]))] s.heap.size = A at hD ⊢
  have hA : ∀ q : Nat, s.heap.size ≤ q → A q := fun q h => by rw [← hAe]; exact Or.inr h
  have hS : va_S A s.heap s.heap [] := va_S.rf
  have hP : va_P (dC, dI) vwCl [(h0, .inr (0, [.ref h2, .ref h3, .ref h4, .ref h5, .ref h6, .ref h7, .ref h8, .ref h9, .ref h10, .ref h11, .int 0, .int 0, .int 0, .int 0, .int 0, .int 0])), (h3, .inr (1, [.ref h12, .ref h13, .ref h14, .ref h15, .ref h16, .ref h17, .ref h18, .ref h19, .int 0, .int 0, .int 0, .int 0, .int 0, .int 0, .int 0, .int 0, .int (-1)]))] s.heap := hP
  have hl := lv_entry ([.ref h0, .int v0, .int v1, .ref h1]) (n := 5) (Nat.le_of_ble_eq_true rfl)
  rw [lg_entry_eq]
  generalize (lg_sl ([.ref h0, .int v0, .int v1, .ref h1]) ++ List.replicate (5 - (lg_sl ([.ref h0, .int v0, .int v1, .ref h1])).length) Slot.unset).toArray = ls at hl ⊢
  have hl : lv_has ls 5 [(0, .ref h0), (1, .int v0), (2, .int v1), (3, .ref h1)] := hl
  refine lv_aload_n hx hb dLa_value_0 rfl (lv_at hl 3 rfl) ?_
  refine lv_iconst (v := 0) hx hb dLa_value_1 (by decide) ?_
  refine lv_aload_n hx hb dLa_value_2 rfl (lv_at hl 0 rfl) ?_
  refine lv_iload_n hx hb dLa_value_3 rfl (lv_at hl 1 rfl) ?_
  refine lv_iload_n hx hb dLa_value_4 rfl (lv_at hl 2 rfl) ?_
  have hPc := hP.sub (ws' := [(h0, .inr (0, [.ref h2, .ref h3, .ref h4, .ref h5, .ref h6, .ref h7, .ref h8, .ref h9, .ref h10, .ref h11, .int 0, .int 0, .int 0, .int 0, .int 0, .int 0])), (h3, .inr (1, [.ref h12, .ref h13, .ref h14, .ref h15, .ref h16, .ref h17, .ref h18, .ref h19, .int 0, .int 0, .int 0, .int 0, .int 0, .int 0, .int 0, .int 0, .int (-1)]))]) [0, 1] rfl
  have hDc := hD.sub (ws' := [(h0, .inr (0, [.ref h2, .ref h3, .ref h4, .ref h5, .ref h6, .ref h7, .ref h8, .ref h9, .ref h10, .ref h11, .int 0, .int 0, .int 0, .int 0, .int 0, .int 0])), (h3, .inr (1, [.ref h12, .ref h13, .ref h14, .ref h15, .ref h16, .ref h17, .ref h18, .ref h19, .int 0, .int 0, .int 0, .int 0, .int 0, .int 0, .int 0, .int 0, .int (-1)]))]) [0, 1] (by decide) rfl
  have hKc := hK.sub (tys' := []) [] rfl
  have hFc := va_free (wc := [(h0, .inr (0, [.ref h2, .ref h3, .ref h4, .ref h5, .ref h6, .ref h7, .ref h8, .ref h9, .ref h10, .ref h11, .int 0, .int 0, .int 0, .int 0, .int 0, .int 0])), (h3, .inr (1, [.ref h12, .ref h13, .ref h14, .ref h15, .ref h16, .ref h17, .ref h18, .ref h19, .int 0, .int 0, .int 0, .int 0, .int 0, .int 0, .int 0, .int 0, .int (-1)]))]) hD hS hA [0, 1] rfl
  refine tx_catchV (As := [.int v0, .int v1]) (rest := [.int 0, .ref h1]) ⟨hx, hb, hml, hown, hts⟩ (t_Rp_value l hl9 dC dI s0 a0 sa hw0 hi0 hst0 s.heap.size h0 v0 v1 h2 h3 h4 h5 h6 h7 h8 h9 h10 h11 h12 h13 h14 h15 h16 h17 h18 h19 e0) (cwV 2 hts (gV (wbm28 2 rfl) (wbm28 3 rfl) (wbm28 4 rfl) (wbm0 1 rfl) (wbm28 5 rfl)) rfl rfl rfl (by decide +kernel) ⟨Nat.le_of_ble_eq_true rfl, Nat.le_of_ble_eq_true rfl⟩) ⟨fun a U g mk q => by obtain ⟨q0, q1, qP, qK, qD, qA⟩ := q; exact ⟨q0, q1, qP, va_K.moved (u := U) (U := U.calling g mk a) (Vm.Alike.refl U.vm) qK, qD, qA⟩, va_recv hKc hPc (ci := 0) (q0 := 0) rfl rfl, fun U hU hW => ⟨rfl, by rw [hU], by rw [hU]; exact hPc, va_K.moved hW.alike hKc, hDc.weaken (fun _ _ _ _ => trivial), tx_next hAt hU hW⟩⟩ rfl hl.1 rfl (Nat.le_of_ble_eq_true rfl) dLa_value_5 ⟨Nat.le_of_ble_eq_true rfl, Nat.le_of_ble_eq_true rfl⟩ hS (fun q _ h => hFc q h) hFc (name := "java/util/NoSuchElementException") ⟨0, 10, 13, 24⟩ [] (by rw [hTab]; rfl) (by decide) (by decide) (hts (.classLink "RunProverLaw" 24 "java/util/NoSuchElementException") (wam26 33 rfl)) (tx_cast hAt (hw0 (.castable tx_nX tx_nX) (by simp [tx_nse]))) (fun q9 H locs hz1 hz2 hS => ?_)
  have hP : va_P (dC, dI) vwCl [] H := fun k q h => by simp at h
  have hD : va_D A [] := ⟨fun i j p q h => by simp at h, fun k q h => by simp at h⟩
  have hK : va_K (dC, dI) vwCl [] s := hK.sub (tys' := []) [] rfl
  refine W.widen (k := 1) (n := 6) (by omega) (by omega) ?_
  refine lv_astore (lv' := [(4, .ref q9), (0, .ref h0), (1, .int v0), (2, .int v1), (3, .ref h1)]) hx hb dLa_value_13 hl (by decide) rfl (fun ls hl => ?_)
  refine lv_iconst (v := 1) hx hb dLa_value_15 (by decide) ?_
  have hP9 := hP.sub (ws' := []) [] rfl
  have hD9 := hD.sub (ws' := []) [] (by decide) rfl
  have hK9 := hK.sub (tys' := []) [] rfl
  exact W.iret (v := 1) hx hb hr (fun t ht hW => ⟨⟨1, (), rfl, rfl, by rw [ht]; exact hP9, va_K.moved hW.alike hK9, hD9⟩, hS.F ht⟩) hS.2.2 dLa_value_16
set_option maxHeartbeats 4000000 in
set_option maxRecDepth 100000 in
theorem w_La_value_1 (l : Launch) (hl9 : l.stackTraces = false) (dC : Nat → ClassId) (dI : Nat → Nat → Nat) (s0 : State) (a0 : Array Value) (sa : Nat) (hw0 : ∀ w ∈ tx_nse "RunProver" 166, w.before a0 s0 = true) (hi0 : (Cond.initialized "java/util/NoSuchElementException").before a0 s0 = true) (hst0 : vk_R "RunProver" 212 "no such element" sa s0) (sz : Nat) (h0 : Nat) (v0 : Int32) (v1 : Int32) (h1 : Nat) (h2 : Nat) (h3 : Nat) (h4 : Nat) (h5 : Nat) (h6 : Nat) (h7 : Nat) (h8 : Nat) (h9 : Nat) (h10 : Nat) (h11 : Nat) (h12 : Nat) (h13 : Nat) (h14 : Nat) (h15 : Nat) (h16 : Nat) (h17 : Nat) (h18 : Nat) (h19 : Nat) (e0 : ¬ v0 < 0) : Met l yLa_value wsLa_value ({ frames := 7, cells := 1, slots := 6, locals := 107 }) (va_Pc [.ref h0, .int v0, .int v1, .ref h1] (fun U => U.heap.size = sz ∧ va_P (dC, dI) vwCl [(h0, .inr (0, [.ref h2, .ref h3, .ref h4, .ref h5, .ref h6, .ref h7, .ref h8, .ref h9, .ref h10, .ref h11, .int 0, .int 0, .int 0, .int 0, .int 0, .int 0])), (h3, .inr (1, [.ref h12, .ref h13, .ref h14, .ref h15, .ref h16, .ref h17, .ref h18, .ref h19, .int 0, .int 0, .int 0, .int 0, .int 0, .int 0, .int 0, .int 0, .int (-1)]))] U.heap ∧ va_K (dC, dI) vwCl [] U ∧ va_D (fun _ => True) [(h0, .inr (0, [.ref h2, .ref h3, .ref h4, .ref h5, .ref h6, .ref h7, .ref h8, .ref h9, .ref h10, .ref h11, .int 0, .int 0, .int 0, .int 0, .int 0, .int 0])), (h3, .inr (1, [.ref h12, .ref h13, .ref h14, .ref h15, .ref h16, .ref h17, .ref h18, .ref h19, .int 0, .int 0, .int 0, .int 0, .int 0, .int 0, .int 0, .int 0, .int (-1)]))] ∧ tx_At s0 U)) (va_Qi (fun (r : Int32) (_ : Unit) => r = 1) (fun (_ : Unit) (t : State) => va_P (dC, dI) vwCl [] t.heap ∧ va_K (dC, dI) vwCl [] t ∧ va_D (va_A [(h0, .inr (0, [.ref h2, .ref h3, .ref h4, .ref h5, .ref h6, .ref h7, .ref h8, .ref h9, .ref h10, .ref h11, .int 0, .int 0, .int 0, .int 0, .int 0, .int 0])), (h3, .inr (1, [.ref h12, .ref h13, .ref h14, .ref h15, .ref h16, .ref h17, .ref h18, .ref h19, .int 0, .int 0, .int 0, .int 0, .int 0, .int 0, .int 0, .int 0, .int (-1)]))] sz) []) (va_A [(h0, .inr (0, [.ref h2, .ref h3, .ref h4, .ref h5, .ref h6, .ref h7, .ref h8, .ref h9, .ref h10, .ref h11, .int 0, .int 0, .int 0, .int 0, .int 0, .int 0])), (h3, .inr (1, [.ref h12, .ref h13, .ref h14, .ref h15, .ref h16, .ref h17, .ref h18, .ref h19, .int 0, .int 0, .int 0, .int 0, .int 0, .int 0, .int 0, .int 0, .int (-1)]))] sz)) 1 6 (va_A [(h0, .inr (0, [.ref h2, .ref h3, .ref h4, .ref h5, .ref h6, .ref h7, .ref h8, .ref h9, .ref h10, .ref h11, .int 0, .int 0, .int 0, .int 0, .int 0, .int 0])), (h3, .inr (1, [.ref h12, .ref h13, .ref h14, .ref h15, .ref h16, .ref h17, .ref h18, .ref h19, .int 0, .int 0, .int 0, .int 0, .int 0, .int 0, .int 0, .int 0, .int (-1)]))] sz) := by
  refine va_MetW (cc := cLa_value) (maxL := 5) (ret := (some .int)) (by decide) rfl ?_
  intro p e s m args below meth c s₁ B hml hv
  obtain ⟨rfl, hsz, hP, hK, hD0, hAt⟩ := hv
  have hx := B.exec
  have hb := B.bytes
  have hr := B.returns
  have hts := atoms_spec (ws := wsLa_value) B.pre
  have hTab := tx_table B (hts _ List.mem_cons_self)
  have hown : s.vm.findClass "RunProverLaw" = some m.cls := findClass_of_methodNamed B.named
  have hlocks := B.notSynchronized
  subst hsz
  have hD := hD0.self (sz := s.heap.size)
  generalize hAe : va_A [(h0, .inr (0, [.ref h2, .ref h3, .ref h4, .ref h5, .ref h6, .ref h7, .ref h8, .ref h9, .ref h10, .ref h11, .int 0, .int 0, .int 0, .int 0, .int 0, .int 0])), (h3, .inr (1, [.ref h12, .ref h13, .ref h14, .ref h15, .ref h16, .ref h17, .ref h18, .ref h19, .int 0, .int 0, .int 0, .int 0, .int 0, .int 0, .int 0, .int 0, .int (-1)]))] s.heap.size = A at hD ⊢
  have hA : ∀ q : Nat, s.heap.size ≤ q → A q := fun q h => by rw [← hAe]; exact Or.inr h
  have hS : va_S A s.heap s.heap [] := va_S.rf
  have hP : va_P (dC, dI) vwCl [(h0, .inr (0, [.ref h2, .ref h3, .ref h4, .ref h5, .ref h6, .ref h7, .ref h8, .ref h9, .ref h10, .ref h11, .int 0, .int 0, .int 0, .int 0, .int 0, .int 0])), (h3, .inr (1, [.ref h12, .ref h13, .ref h14, .ref h15, .ref h16, .ref h17, .ref h18, .ref h19, .int 0, .int 0, .int 0, .int 0, .int 0, .int 0, .int 0, .int 0, .int (-1)]))] s.heap := hP
  have hl := lv_entry ([.ref h0, .int v0, .int v1, .ref h1]) (n := 5) (Nat.le_of_ble_eq_true rfl)
  rw [lg_entry_eq]
  generalize (lg_sl ([.ref h0, .int v0, .int v1, .ref h1]) ++ List.replicate (5 - (lg_sl ([.ref h0, .int v0, .int v1, .ref h1])).length) Slot.unset).toArray = ls at hl ⊢
  have hl : lv_has ls 5 [(0, .ref h0), (1, .int v0), (2, .int v1), (3, .ref h1)] := hl
  refine lv_aload_n hx hb dLa_value_0 rfl (lv_at hl 3 rfl) ?_
  refine lv_iconst (v := 0) hx hb dLa_value_1 (by decide) ?_
  refine lv_aload_n hx hb dLa_value_2 rfl (lv_at hl 0 rfl) ?_
  refine lv_iload_n hx hb dLa_value_3 rfl (lv_at hl 1 rfl) ?_
  refine lv_iload_n hx hb dLa_value_4 rfl (lv_at hl 2 rfl) ?_
  have hPc := hP.sub (ws' := [(h0, .inr (0, [.ref h2, .ref h3, .ref h4, .ref h5, .ref h6, .ref h7, .ref h8, .ref h9, .ref h10, .ref h11, .int 0, .int 0, .int 0, .int 0, .int 0, .int 0])), (h3, .inr (1, [.ref h12, .ref h13, .ref h14, .ref h15, .ref h16, .ref h17, .ref h18, .ref h19, .int 0, .int 0, .int 0, .int 0, .int 0, .int 0, .int 0, .int 0, .int (-1)]))]) [0, 1] rfl
  have hDc := hD.sub (ws' := [(h0, .inr (0, [.ref h2, .ref h3, .ref h4, .ref h5, .ref h6, .ref h7, .ref h8, .ref h9, .ref h10, .ref h11, .int 0, .int 0, .int 0, .int 0, .int 0, .int 0])), (h3, .inr (1, [.ref h12, .ref h13, .ref h14, .ref h15, .ref h16, .ref h17, .ref h18, .ref h19, .int 0, .int 0, .int 0, .int 0, .int 0, .int 0, .int 0, .int 0, .int (-1)]))]) [0, 1] (by decide) rfl
  have hKc := hK.sub (tys' := []) [] rfl
  have hFc := va_free (wc := [(h0, .inr (0, [.ref h2, .ref h3, .ref h4, .ref h5, .ref h6, .ref h7, .ref h8, .ref h9, .ref h10, .ref h11, .int 0, .int 0, .int 0, .int 0, .int 0, .int 0])), (h3, .inr (1, [.ref h12, .ref h13, .ref h14, .ref h15, .ref h16, .ref h17, .ref h18, .ref h19, .int 0, .int 0, .int 0, .int 0, .int 0, .int 0, .int 0, .int 0, .int (-1)]))]) hD hS hA [0, 1] rfl
  refine tx_catchV (As := [.int v0, .int v1]) (rest := [.int 0, .ref h1]) ⟨hx, hb, hml, hown, hts⟩ (t_Rp_value_1 l hl9 dC dI s0 a0 sa hw0 hi0 hst0 s.heap.size h0 v0 v1 h2 h3 h4 h5 h6 h7 h8 h9 h10 h11 h12 h13 h14 h15 h16 h17 h18 h19 e0) (cwV 2 hts (gV (wbm28 2 rfl) (wbm28 3 rfl) (wbm28 4 rfl) (wbm0 1 rfl) (wbm28 5 rfl)) rfl rfl rfl (by decide +kernel) ⟨Nat.le_of_ble_eq_true rfl, Nat.le_of_ble_eq_true rfl⟩) ⟨fun a U g mk q => by obtain ⟨q0, q1, qP, qK, qD, qA⟩ := q; exact ⟨q0, q1, qP, va_K.moved (u := U) (U := U.calling g mk a) (Vm.Alike.refl U.vm) qK, qD, qA⟩, va_recv hKc hPc (ci := 0) (q0 := 0) rfl rfl, fun U hU hW => ⟨rfl, by rw [hU], by rw [hU]; exact hPc, va_K.moved hW.alike hKc, hDc.weaken (fun _ _ _ _ => trivial), tx_next hAt hU hW⟩⟩ rfl hl.1 rfl (Nat.le_of_ble_eq_true rfl) dLa_value_5 ⟨Nat.le_of_ble_eq_true rfl, Nat.le_of_ble_eq_true rfl⟩ hS (fun q _ h => hFc q h) hFc (name := "java/util/NoSuchElementException") ⟨0, 10, 13, 24⟩ [] (by rw [hTab]; rfl) (by decide) (by decide) (hts (.classLink "RunProverLaw" 24 "java/util/NoSuchElementException") (wam26 33 rfl)) (tx_cast hAt (hw0 (.castable tx_nX tx_nX) (by simp [tx_nse]))) (fun q9 H locs hz1 hz2 hS => ?_)
  have hP : va_P (dC, dI) vwCl [] H := fun k q h => by simp at h
  have hD : va_D A [] := ⟨fun i j p q h => by simp at h, fun k q h => by simp at h⟩
  have hK : va_K (dC, dI) vwCl [] s := hK.sub (tys' := []) [] rfl
  refine W.widen (k := 1) (n := 6) (by omega) (by omega) ?_
  refine lv_astore (lv' := [(4, .ref q9), (0, .ref h0), (1, .int v0), (2, .int v1), (3, .ref h1)]) hx hb dLa_value_13 hl (by decide) rfl (fun ls hl => ?_)
  refine lv_iconst (v := 1) hx hb dLa_value_15 (by decide) ?_
  have hP9 := hP.sub (ws' := []) [] rfl
  have hD9 := hD.sub (ws' := []) [] (by decide) rfl
  have hK9 := hK.sub (tys' := []) [] rfl
  exact W.iret (v := 1) hx hb hr (fun t ht hW => ⟨⟨1, (), rfl, rfl, by rw [ht]; exact hP9, va_K.moved hW.alike hK9, hD9⟩, hS.F ht⟩) hS.2.2 dLa_value_16
set_option maxHeartbeats 4000000 in
set_option maxRecDepth 100000 in
theorem c_La_feed (l : Launch) (dC : Nat → ClassId) (dI : Nat → Nat → Nat) (sz : Nat) (h0 : Nat) (v0 : Int32) (v1 : Int32) (v2 : Int32) (v3 : Int32) (v4 : Int32) (h1 : Nat) (h2 : Nat) (h3 : Nat) (h4 : Nat) (h5 : Nat) (h6 : Nat) (h7 : Nat) (h8 : Nat) (h9 : Nat) (h10 : Nat) (h11 : Nat) (k0 : ClassId) (k1 : ClassId) : Met l yLa_feed wsLa_feed ({ frames := 2, cells := 0, slots := 0, locals := 47 }) (va_Pc [.ref h0, .int v0, .int v1, .int v2, .int v3, .int v4, .ref h1] (fun U => U.heap.size = sz ∧ va_P (dC, dI) vwCl [(h0, .inr (0, [.ref h2, .ref h3, .ref h4, .ref h5, .ref h6, .ref h7, .ref h8, .ref h9, .ref h10, .ref h11, .int 0, .int 0, .int 0, .int 0, .int 0, .int 0])), (h2, .inl (k0, 65536, .inl (fun _ => 0))), (h1, .inl (k1, 1, .inr (.inl (fun _ => 0))))] U.heap ∧ va_K (dC, dI) vwCl [(k0, .byte), (k1, .long)] U ∧ va_D (fun _ => True) [(h0, .inr (0, [.ref h2, .ref h3, .ref h4, .ref h5, .ref h6, .ref h7, .ref h8, .ref h9, .ref h10, .ref h11, .int 0, .int 0, .int 0, .int 0, .int 0, .int 0])), (h2, .inl (k0, 65536, .inl (fun _ => 0))), (h1, .inl (k1, 1, .inr (.inl (fun _ => 0))))])) (va_Qi (fun (r : Int32) (_ : Unit) => r = 0) (fun (_ : Unit) (t : State) => ∃ (f_1 : Nat → Int32), va_P (dC, dI) vwCl [(h1, .inl (k1, 1, .inr (.inl (vp_updL (fun _ => 0) (0 : Int32).toNatClampNeg 20)))), (h0, .inr (0, [.ref h2, .ref h3, .ref h4, .ref h5, .ref h6, .ref h7, .ref h8, .ref h9, .ref h10, .ref h11, .int 0, .int 20, .int 0, .int 0, .int 0, .int 0])), (h2, .inl (k0, 65536, .inl f_1))] t.heap ∧ va_K (dC, dI) vwCl [(k1, .long), (k0, .byte)] t ∧ va_D (va_A [(h0, .inr (0, [.ref h2, .ref h3, .ref h4, .ref h5, .ref h6, .ref h7, .ref h8, .ref h9, .ref h10, .ref h11, .int 0, .int 0, .int 0, .int 0, .int 0, .int 0])), (h2, .inl (k0, 65536, .inl (fun _ => 0))), (h1, .inl (k1, 1, .inr (.inl (fun _ => 0))))] sz) [(h1, .inl (k1, 1, .inr (.inl (vp_updL (fun _ => 0) (0 : Int32).toNatClampNeg 20)))), (h0, .inr (0, [.ref h2, .ref h3, .ref h4, .ref h5, .ref h6, .ref h7, .ref h8, .ref h9, .ref h10, .ref h11, .int 0, .int 20, .int 0, .int 0, .int 0, .int 0])), (h2, .inl (k0, 65536, .inl f_1))]) (va_A [(h0, .inr (0, [.ref h2, .ref h3, .ref h4, .ref h5, .ref h6, .ref h7, .ref h8, .ref h9, .ref h10, .ref h11, .int 0, .int 0, .int 0, .int 0, .int 0, .int 0])), (h2, .inl (k0, 65536, .inl (fun _ => 0))), (h1, .inl (k1, 1, .inr (.inl (fun _ => 0))))] sz)) 0 0 (va_A [(h0, .inr (0, [.ref h2, .ref h3, .ref h4, .ref h5, .ref h6, .ref h7, .ref h8, .ref h9, .ref h10, .ref h11, .int 0, .int 0, .int 0, .int 0, .int 0, .int 0])), (h2, .inl (k0, 65536, .inl (fun _ => 0))), (h1, .inl (k1, 1, .inr (.inl (fun _ => 0))))] sz) := by
  refine va_MetW (cc := cLa_feed) (maxL := 8) (ret := (some .int)) (by decide) rfl ?_
  intro p e s m args below meth c s₁ B hml hv
  obtain ⟨rfl, hsz, hP, hK, hD0⟩ := hv
  have hx := B.exec
  have hb := B.bytes
  have hr := B.returns
  have hts := atoms_spec (ws := wsLa_feed) B.pre
  have hown : s.vm.findClass "RunProverLaw" = some m.cls := findClass_of_methodNamed B.named
  have hlocks := B.notSynchronized
  subst hsz
  have hD := hD0.self (sz := s.heap.size)
  generalize hAe : va_A [(h0, .inr (0, [.ref h2, .ref h3, .ref h4, .ref h5, .ref h6, .ref h7, .ref h8, .ref h9, .ref h10, .ref h11, .int 0, .int 0, .int 0, .int 0, .int 0, .int 0])), (h2, .inl (k0, 65536, .inl (fun _ => 0))), (h1, .inl (k1, 1, .inr (.inl (fun _ => 0))))] s.heap.size = A at hD ⊢
  have hA : ∀ q : Nat, s.heap.size ≤ q → A q := fun q h => by rw [← hAe]; exact Or.inr h
  have hS : va_S A s.heap s.heap [] := va_S.rf
  have hP : va_P (dC, dI) vwCl [(h0, .inr (0, [.ref h2, .ref h3, .ref h4, .ref h5, .ref h6, .ref h7, .ref h8, .ref h9, .ref h10, .ref h11, .int 0, .int 0, .int 0, .int 0, .int 0, .int 0])), (h2, .inl (k0, 65536, .inl (fun _ => 0))), (h1, .inl (k1, 1, .inr (.inl (fun _ => 0))))] s.heap := hP
  have hl := lv_entry ([.ref h0, .int v0, .int v1, .int v2, .int v3, .int v4, .ref h1]) (n := 8) (Nat.le_of_ble_eq_true rfl)
  rw [lg_entry_eq]
  generalize (lg_sl ([.ref h0, .int v0, .int v1, .int v2, .int v3, .int v4, .ref h1]) ++ List.replicate (8 - (lg_sl ([.ref h0, .int v0, .int v1, .int v2, .int v3, .int v4, .ref h1])).length) Slot.unset).toArray = ls at hl ⊢
  have hl : lv_has ls 8 [(0, .ref h0), (1, .int v0), (2, .int v1), (3, .int v2), (4, .int v3), (5, .int v4), (6, .ref h1)] := hl
  refine lv_aload hx hb dLa_feed_0 (lv_at hl 6 rfl) ?_
  refine lv_iconst (v := 0) hx hb dLa_feed_2 (by decide) ?_
  refine lv_aload_n hx hb dLa_feed_3 rfl (lv_at hl 0 rfl) ?_
  refine lv_iload_n hx hb dLa_feed_4 rfl (lv_at hl 1 rfl) ?_
  refine lv_iload_n hx hb dLa_feed_5 rfl (lv_at hl 2 rfl) ?_
  refine lv_iload_n hx hb dLa_feed_6 rfl (lv_at hl 3 rfl) ?_
  refine lv_iload hx hb dLa_feed_7 (lv_at hl 4 rfl) ?_
  refine lv_iload hx hb dLa_feed_9 (lv_at hl 5 rfl) ?_
  have hPc := hP.sub (ws' := [(h0, .inr (0, [.ref h2, .ref h3, .ref h4, .ref h5, .ref h6, .ref h7, .ref h8, .ref h9, .ref h10, .ref h11, .int 0, .int 0, .int 0, .int 0, .int 0, .int 0])), (h2, .inl (k0, 65536, .inl (fun _ => 0)))]) [0, 1] rfl
  have hDc := hD.sub (ws' := [(h0, .inr (0, [.ref h2, .ref h3, .ref h4, .ref h5, .ref h6, .ref h7, .ref h8, .ref h9, .ref h10, .ref h11, .int 0, .int 0, .int 0, .int 0, .int 0, .int 0])), (h2, .inl (k0, 65536, .inl (fun _ => 0)))]) [0, 1] (by decide) rfl
  have hKc := hK.sub (tys' := [(k0, .byte)]) [0] rfl
  have hFc := va_free (wc := [(h0, .inr (0, [.ref h2, .ref h3, .ref h4, .ref h5, .ref h6, .ref h7, .ref h8, .ref h9, .ref h10, .ref h11, .int 0, .int 0, .int 0, .int 0, .int 0, .int 0])), (h2, .inl (k0, 65536, .inl (fun _ => 0)))]) hD hS hA [0, 1] rfl
  refine va_calli (va_runV (As := [.int v0, .int v1, .int v2, .int v3, .int v4]) (rest := [.int 0, .ref h1]) ⟨hx, hb, hml, hown, hts⟩ (c_Rp_feed l dC dI s.heap.size h0 v0 v1 v2 v3 v4 h2 h3 h4 h5 h6 h7 h8 h9 h10 h11 k0) (cwV 5 hts (gV (wbm26 10 rfl) (wbm26 11 rfl) (wbm26 12 rfl) (wbm0 1 rfl) (wbm26 13 rfl)) rfl rfl rfl (by decide +kernel) ⟨Nat.le_of_ble_eq_true rfl, Nat.le_of_ble_eq_true rfl⟩) ⟨fun a U g mk q => by obtain ⟨q0, q1, qP, qK, qD⟩ := q; exact ⟨q0, q1, qP, va_K.moved (u := U) (U := U.calling g mk a) (Vm.Alike.refl U.vm) qK, qD⟩, va_recv hKc hPc (ci := 0) (q0 := 0) rfl rfl, fun U hU hW => ⟨rfl, by rw [hU], by rw [hU]; exact hPc, va_K.moved hW.alike hKc, hDc.weaken (fun _ _ _ _ => trivial)⟩⟩ rfl rfl hl.1 rfl (lv_room (Nat.le_of_ble_eq_true rfl)) dLa_feed_11 ⟨Nat.le_of_ble_eq_true rfl, Nat.le_of_ble_eq_true rfl⟩) hS (fun q _ h => hFc q h) hFc (fun r_2 u t H1 locs ht hvm hw hB hz1 hk1 hS => ?_)
  obtain ⟨f_1, hP1, hK1, hD1⟩ := hB
  rw [ht] at hP1
  have hK1 := va_K.moved hvm.symm hK1
  try dsimp only at hw
  obtain ⟨hP, hD⟩ := va_join (wr := [(h1, .inl (k1, 1, .inr (.inl (fun _ => 0))))]) (w1 := [(h0, .inr (0, [.ref h2, .ref h3, .ref h4, .ref h5, .ref h6, .ref h7, .ref h8, .ref h9, .ref h10, .ref h11, .int 0, .int 20, .int 0, .int 0, .int 0, .int 0])), (h2, .inl (k0, 65536, .inl f_1))]) hP hD [0, 1] [2] rfl rfl (by decide) (by decide) hk1 hFc hP1 hD1
  have hK := (hK.sub (tys' := [(k1, .long)]) [1] rfl).app hK1
  generalize H1 = H at hP hS ⊢
  have hP : va_P (dC, dI) vwCl [(h1, .inl (k1, 1, .inr (.inl (fun _ => 0)))), (h0, .inr (0, [.ref h2, .ref h3, .ref h4, .ref h5, .ref h6, .ref h7, .ref h8, .ref h9, .ref h10, .ref h11, .int 0, .int 20, .int 0, .int 0, .int 0, .int 0])), (h2, .inl (k0, 65536, .inl f_1))] H := hP
  have hD : va_D A [(h1, .inl (k1, 1, .inr (.inl (fun _ => 0)))), (h0, .inr (0, [.ref h2, .ref h3, .ref h4, .ref h5, .ref h6, .ref h7, .ref h8, .ref h9, .ref h10, .ref h11, .int 0, .int 20, .int 0, .int 0, .int 0, .int 0])), (h2, .inl (k0, 65536, .inl f_1))] := hD
  have hK : va_K (dC, dI) vwCl [(k1, .long), (k0, .byte)] s := hK
  obtain rfl : r_2 = (20 : Int32) := hw
  refine lv_i2l (v := 20) hx hb dLa_feed_14 (by decide) ?_
  refine va_last hx hb hK hP hD hS 0 0 rfl rfl (show ¬ ((0 : Int32) < 0 ∨ 1 ≤ (0 : Int32).toNatClampNeg) by decide) dLa_feed_15 (fun H locs hP hD hS => ?_)
  have hP : va_P (dC, dI) vwCl [(h1, .inl (k1, 1, .inr (.inl (vp_updL (fun _ => 0) (0 : Int32).toNatClampNeg 20)))), (h0, .inr (0, [.ref h2, .ref h3, .ref h4, .ref h5, .ref h6, .ref h7, .ref h8, .ref h9, .ref h10, .ref h11, .int 0, .int 20, .int 0, .int 0, .int 0, .int 0])), (h2, .inl (k0, 65536, .inl f_1))] H := hP
  have hD : va_D A [(h1, .inl (k1, 1, .inr (.inl (vp_updL (fun _ => 0) (0 : Int32).toNatClampNeg 20)))), (h0, .inr (0, [.ref h2, .ref h3, .ref h4, .ref h5, .ref h6, .ref h7, .ref h8, .ref h9, .ref h10, .ref h11, .int 0, .int 20, .int 0, .int 0, .int 0, .int 0])), (h2, .inl (k0, 65536, .inl f_1))] := hD
  refine lv_goto (tgt := 23) hx hb dLa_feed_16 (by decide) ?_
  refine lv_iconst (v := 0) hx hb dLa_feed_23 (by decide) ?_
  have hP9 := hP.sub (ws' := [(h1, .inl (k1, 1, .inr (.inl (vp_updL (fun _ => 0) (0 : Int32).toNatClampNeg 20)))), (h0, .inr (0, [.ref h2, .ref h3, .ref h4, .ref h5, .ref h6, .ref h7, .ref h8, .ref h9, .ref h10, .ref h11, .int 0, .int 20, .int 0, .int 0, .int 0, .int 0])), (h2, .inl (k0, 65536, .inl f_1))]) [0, 1, 2] rfl
  have hD9 := hD.sub (ws' := [(h1, .inl (k1, 1, .inr (.inl (vp_updL (fun _ => 0) (0 : Int32).toNatClampNeg 20)))), (h0, .inr (0, [.ref h2, .ref h3, .ref h4, .ref h5, .ref h6, .ref h7, .ref h8, .ref h9, .ref h10, .ref h11, .int 0, .int 20, .int 0, .int 0, .int 0, .int 0])), (h2, .inl (k0, 65536, .inl f_1))]) [0, 1, 2] (by decide) rfl
  have hK9 := hK.sub (tys' := [(k1, .long), (k0, .byte)]) [0, 1] rfl
  exact W.iret (v := 0) hx hb hr (fun t ht hW => ⟨⟨0, (), rfl, rfl, f_1, by rw [ht]; exact hP9, va_K.moved hW.alike hK9, hD9⟩, hS.F ht⟩) hS.2.2 dLa_feed_24
set_option maxHeartbeats 4000000 in
set_option maxRecDepth 100000 in
theorem c_La_end (l : Launch) (dC : Nat → ClassId) (dI : Nat → Nat → Nat) (sz : Nat) (h0 : Nat) (h1 : Nat) (h2 : Nat) (h3 : Nat) (h4 : Nat) (h5 : Nat) (h6 : Nat) (h7 : Nat) (h8 : Nat) (h9 : Nat) (h10 : Nat) (h11 : Nat) (k0 : ClassId) : Met l yLa_end wsLa_end ({ frames := 1, cells := 0, slots := 0, locals := 21 }) (va_Pc [.ref h0, .int 0, .ref h1] (fun U => U.heap.size = sz ∧ va_P (dC, dI) vwCl [(h0, .inr (0, [.ref h2, .ref h3, .ref h4, .ref h5, .ref h6, .ref h7, .ref h8, .ref h9, .ref h10, .ref h11, .int 0, .int 0, .int 0, .int 0, .int 0, .int 0])), (h1, .inl (k0, 1, .inr (.inl (fun _ => 0))))] U.heap ∧ va_K (dC, dI) vwCl [(k0, .long)] U ∧ va_D (fun _ => True) [(h0, .inr (0, [.ref h2, .ref h3, .ref h4, .ref h5, .ref h6, .ref h7, .ref h8, .ref h9, .ref h10, .ref h11, .int 0, .int 0, .int 0, .int 0, .int 0, .int 0])), (h1, .inl (k0, 1, .inr (.inl (fun _ => 0))))])) (va_Qi (fun (r : Int32) (_ : Unit) => r = 0) (fun (_ : Unit) (t : State) => va_P (dC, dI) vwCl [(h1, .inl (k0, 1, .inr (.inl (vp_updL (fun _ => 0) (0 : Int32).toNatClampNeg 0)))), (h0, .inr (0, [.ref h2, .ref h3, .ref h4, .ref h5, .ref h6, .ref h7, .ref h8, .ref h9, .ref h10, .ref h11, .int 0, .int 0, .int 0, .int 0, .int 0, .int 0]))] t.heap ∧ va_K (dC, dI) vwCl [(k0, .long)] t ∧ va_D (va_A [(h0, .inr (0, [.ref h2, .ref h3, .ref h4, .ref h5, .ref h6, .ref h7, .ref h8, .ref h9, .ref h10, .ref h11, .int 0, .int 0, .int 0, .int 0, .int 0, .int 0])), (h1, .inl (k0, 1, .inr (.inl (fun _ => 0))))] sz) [(h1, .inl (k0, 1, .inr (.inl (vp_updL (fun _ => 0) (0 : Int32).toNatClampNeg 0)))), (h0, .inr (0, [.ref h2, .ref h3, .ref h4, .ref h5, .ref h6, .ref h7, .ref h8, .ref h9, .ref h10, .ref h11, .int 0, .int 0, .int 0, .int 0, .int 0, .int 0]))]) (va_A [(h0, .inr (0, [.ref h2, .ref h3, .ref h4, .ref h5, .ref h6, .ref h7, .ref h8, .ref h9, .ref h10, .ref h11, .int 0, .int 0, .int 0, .int 0, .int 0, .int 0])), (h1, .inl (k0, 1, .inr (.inl (fun _ => 0))))] sz)) 0 0 (va_A [(h0, .inr (0, [.ref h2, .ref h3, .ref h4, .ref h5, .ref h6, .ref h7, .ref h8, .ref h9, .ref h10, .ref h11, .int 0, .int 0, .int 0, .int 0, .int 0, .int 0])), (h1, .inl (k0, 1, .inr (.inl (fun _ => 0))))] sz) := by
  refine va_MetW (cc := cLa_end) (maxL := 4) (ret := (some .int)) (by decide) rfl ?_
  intro p e s m args below meth c s₁ B hml hv
  obtain ⟨rfl, hsz, hP, hK, hD0⟩ := hv
  have hx := B.exec
  have hb := B.bytes
  have hr := B.returns
  have hts := atoms_spec (ws := wsLa_end) B.pre
  have hown : s.vm.findClass "RunProverLaw" = some m.cls := findClass_of_methodNamed B.named
  have hlocks := B.notSynchronized
  subst hsz
  have hD := hD0.self (sz := s.heap.size)
  generalize hAe : va_A [(h0, .inr (0, [.ref h2, .ref h3, .ref h4, .ref h5, .ref h6, .ref h7, .ref h8, .ref h9, .ref h10, .ref h11, .int 0, .int 0, .int 0, .int 0, .int 0, .int 0])), (h1, .inl (k0, 1, .inr (.inl (fun _ => 0))))] s.heap.size = A at hD ⊢
  have hA : ∀ q : Nat, s.heap.size ≤ q → A q := fun q h => by rw [← hAe]; exact Or.inr h
  have hS : va_S A s.heap s.heap [] := va_S.rf
  have hP : va_P (dC, dI) vwCl [(h0, .inr (0, [.ref h2, .ref h3, .ref h4, .ref h5, .ref h6, .ref h7, .ref h8, .ref h9, .ref h10, .ref h11, .int 0, .int 0, .int 0, .int 0, .int 0, .int 0])), (h1, .inl (k0, 1, .inr (.inl (fun _ => 0))))] s.heap := hP
  have hl := lv_entry ([.ref h0, .int 0, .ref h1]) (n := 4) (Nat.le_of_ble_eq_true rfl)
  rw [lg_entry_eq]
  generalize (lg_sl ([.ref h0, .int 0, .ref h1]) ++ List.replicate (4 - (lg_sl ([.ref h0, .int 0, .ref h1])).length) Slot.unset).toArray = ls at hl ⊢
  have hl : lv_has ls 4 [(0, .ref h0), (1, .int 0), (2, .ref h1)] := hl
  refine lv_aload_n hx hb dLa_end_0 rfl (lv_at hl 2 rfl) ?_
  refine lv_iconst (v := 0) hx hb dLa_end_1 (by decide) ?_
  refine lv_aload_n hx hb dLa_end_2 rfl (lv_at hl 0 rfl) ?_
  refine lv_iload_n hx hb dLa_end_3 rfl (lv_at hl 1 rfl) ?_
  have hPc := hP.sub (ws' := [(h0, .inr (0, [.ref h2, .ref h3, .ref h4, .ref h5, .ref h6, .ref h7, .ref h8, .ref h9, .ref h10, .ref h11, .int 0, .int 0, .int 0, .int 0, .int 0, .int 0]))]) [0] rfl
  have hDc := hD.sub (ws' := [(h0, .inr (0, [.ref h2, .ref h3, .ref h4, .ref h5, .ref h6, .ref h7, .ref h8, .ref h9, .ref h10, .ref h11, .int 0, .int 0, .int 0, .int 0, .int 0, .int 0]))]) [0] (by decide) rfl
  have hKc := hK.sub (tys' := []) [] rfl
  have hFc := va_free (wc := [(h0, .inr (0, [.ref h2, .ref h3, .ref h4, .ref h5, .ref h6, .ref h7, .ref h8, .ref h9, .ref h10, .ref h11, .int 0, .int 0, .int 0, .int 0, .int 0, .int 0]))]) hD hS hA [0] rfl
  refine va_calli (va_runV (As := [.int 0]) (rest := [.int 0, .ref h1]) ⟨hx, hb, hml, hown, hts⟩ (c_Rp_end l dC dI s.heap.size h0 h2 h3 h4 h5 h6 h7 h8 h9 h10 h11) (cwV 1 hts (gV (wbm26 24 rfl) (wbm26 25 rfl) (wbm26 26 rfl) (wbm0 1 rfl) (wbm26 27 rfl)) rfl rfl rfl (by decide +kernel) ⟨Nat.le_of_ble_eq_true rfl, Nat.le_of_ble_eq_true rfl⟩) ⟨fun a U g mk q => by obtain ⟨q0, q1, qP, qK, qD⟩ := q; exact ⟨q0, q1, qP, va_K.moved (u := U) (U := U.calling g mk a) (Vm.Alike.refl U.vm) qK, qD⟩, va_recv hKc hPc (ci := 0) (q0 := 0) rfl rfl, fun U hU hW => ⟨rfl, by rw [hU], by rw [hU]; exact hPc, va_K.moved hW.alike hKc, hDc.weaken (fun _ _ _ _ => trivial)⟩⟩ rfl rfl hl.1 rfl (lv_room (Nat.le_of_ble_eq_true rfl)) dLa_end_4 ⟨Nat.le_of_ble_eq_true rfl, Nat.le_of_ble_eq_true rfl⟩) hS (fun q _ h => hFc q h) hFc (fun r_1 u t H1 locs ht hvm hw hB hz1 hk1 hS => ?_)
  obtain ⟨hP1, hK1, hD1⟩ := hB
  rw [ht] at hP1
  have hK1 := va_K.moved hvm.symm hK1
  try dsimp only at hw
  obtain ⟨hP, hD⟩ := va_join (wr := [(h1, .inl (k0, 1, .inr (.inl (fun _ => 0))))]) (w1 := [(h0, .inr (0, [.ref h2, .ref h3, .ref h4, .ref h5, .ref h6, .ref h7, .ref h8, .ref h9, .ref h10, .ref h11, .int 0, .int 0, .int 0, .int 0, .int 0, .int 0]))]) hP hD [0] [1] rfl rfl (by decide) (by decide) hk1 hFc hP1 hD1
  have hK := (hK.sub (tys' := [(k0, .long)]) [0] rfl).app hK1
  generalize H1 = H at hP hS ⊢
  have hP : va_P (dC, dI) vwCl [(h1, .inl (k0, 1, .inr (.inl (fun _ => 0)))), (h0, .inr (0, [.ref h2, .ref h3, .ref h4, .ref h5, .ref h6, .ref h7, .ref h8, .ref h9, .ref h10, .ref h11, .int 0, .int 0, .int 0, .int 0, .int 0, .int 0]))] H := hP
  have hD : va_D A [(h1, .inl (k0, 1, .inr (.inl (fun _ => 0)))), (h0, .inr (0, [.ref h2, .ref h3, .ref h4, .ref h5, .ref h6, .ref h7, .ref h8, .ref h9, .ref h10, .ref h11, .int 0, .int 0, .int 0, .int 0, .int 0, .int 0]))] := hD
  have hK : va_K (dC, dI) vwCl [(k0, .long)] s := hK
  obtain rfl : r_1 = (0 : Int32) := hw
  refine lv_i2l (v := 0) hx hb dLa_end_7 (by decide) ?_
  refine va_last hx hb hK hP hD hS 0 0 rfl rfl (show ¬ ((0 : Int32) < 0 ∨ 1 ≤ (0 : Int32).toNatClampNeg) by decide) dLa_end_8 (fun H locs hP hD hS => ?_)
  have hP : va_P (dC, dI) vwCl [(h1, .inl (k0, 1, .inr (.inl (vp_updL (fun _ => 0) (0 : Int32).toNatClampNeg 0)))), (h0, .inr (0, [.ref h2, .ref h3, .ref h4, .ref h5, .ref h6, .ref h7, .ref h8, .ref h9, .ref h10, .ref h11, .int 0, .int 0, .int 0, .int 0, .int 0, .int 0]))] H := hP
  have hD : va_D A [(h1, .inl (k0, 1, .inr (.inl (vp_updL (fun _ => 0) (0 : Int32).toNatClampNeg 0)))), (h0, .inr (0, [.ref h2, .ref h3, .ref h4, .ref h5, .ref h6, .ref h7, .ref h8, .ref h9, .ref h10, .ref h11, .int 0, .int 0, .int 0, .int 0, .int 0, .int 0]))] := hD
  refine lv_goto (tgt := 15) hx hb dLa_end_9 (by decide) ?_
  refine lv_iconst (v := 0) hx hb dLa_end_15 (by decide) ?_
  have hP9 := hP.sub (ws' := [(h1, .inl (k0, 1, .inr (.inl (vp_updL (fun _ => 0) (0 : Int32).toNatClampNeg 0)))), (h0, .inr (0, [.ref h2, .ref h3, .ref h4, .ref h5, .ref h6, .ref h7, .ref h8, .ref h9, .ref h10, .ref h11, .int 0, .int 0, .int 0, .int 0, .int 0, .int 0]))]) [0, 1] rfl
  have hD9 := hD.sub (ws' := [(h1, .inl (k0, 1, .inr (.inl (vp_updL (fun _ => 0) (0 : Int32).toNatClampNeg 0)))), (h0, .inr (0, [.ref h2, .ref h3, .ref h4, .ref h5, .ref h6, .ref h7, .ref h8, .ref h9, .ref h10, .ref h11, .int 0, .int 0, .int 0, .int 0, .int 0, .int 0]))]) [0, 1] (by decide) rfl
  have hK9 := hK.sub (tys' := [(k0, .long)]) [0] rfl
  exact W.iret (v := 0) hx hb hr (fun t ht hW => ⟨⟨0, (), rfl, rfl, by rw [ht]; exact hP9, va_K.moved hW.alike hK9, hD9⟩, hS.F ht⟩) hS.2.2 dLa_end_16
