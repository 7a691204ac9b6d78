set_option maxHeartbeats 4000000 in
set_option maxRecDepth 100000 in
theorem c_Pg_init (l : Launch) (dC : Nat → ClassId) (dI : Nat → Nat → Nat) (sz : Nat) (h0 : Nat) : Met l yPg_init wsPg_init ({ frames := 1, cells := 8, slots := 44460, locals := 12 }) (va_Pc [.ref h0] (fun U => U.heap.size = sz ∧ va_P (dC, dI) vwCl [(h0, .inr (1, [.null, .null, .null, .null, .null, .null, .null, .null, .int 0, .int 0, .int 0, .int 0, .int 0, .int 0, .int 0, .int 0, .int 0]))] U.heap ∧ va_K (dC, dI) vwCl [] U ∧ va_D (fun _ => True) [(h0, .inr (1, [.null, .null, .null, .null, .null, .null, .null, .null, .int 0, .int 0, .int 0, .int 0, .int 0, .int 0, .int 0, .int 0, .int 0]))])) (va_Qv (fun _ : Unit => True) (fun (_ : Unit) (t : State) => ∃ (q_1 : Nat) (q_3 : Nat) (q_5 : Nat) (q_7 : Nat) (q_9 : Nat) (q_11 : Nat) (q_13 : Nat) (q_15 : Nat), va_P (dC, dI) vwCl [(h0, .inr (1, [.ref q_1, .ref q_3, .ref q_5, .ref q_7, .ref q_9, .ref q_11, .ref q_13, .ref q_15, .int 0, .int 0, .int 0, .int 0, .int 0, .int 0, .int 0, .int 0, .int (-1)]))] t.heap ∧ va_K (dC, dI) vwCl [] t ∧ va_D (va_A [(h0, .inr (1, [.null, .null, .null, .null, .null, .null, .null, .null, .int 0, .int 0, .int 0, .int 0, .int 0, .int 0, .int 0, .int 0, .int 0]))] sz) [(h0, .inr (1, [.ref q_1, .ref q_3, .ref q_5, .ref q_7, .ref q_9, .ref q_11, .ref q_13, .ref q_15, .int 0, .int 0, .int 0, .int 0, .int 0, .int 0, .int 0, .int 0, .int (-1)]))]) (va_A [(h0, .inr (1, [.null, .null, .null, .null, .null, .null, .null, .null, .int 0, .int 0, .int 0, .int 0, .int 0, .int 0, .int 0, .int 0, .int 0]))] sz)) 8 44460 (va_A [(h0, .inr (1, [.null, .null, .null, .null, .null, .null, .null, .null, .int 0, .int 0, .int 0, .int 0, .int 0, .int 0, .int 0, .int 0, .int 0]))] sz) := by
  refine Met.ofW (cc := cPg_init) (maxL := 1) (ret := none) (by decide) rfl ?_
  intro p e s m args below meth c s₁ B hml hv
  obtain ⟨rfl, hsz, hP, hK, hD0⟩ := hv
  have hx := B.exec
  have hb := B.bytes
  have hr := B.returns
  have hts := atoms_spec (ws := wsPg_init) B.pre
  have hown : s.vm.findClass "RunProver$Program" = some m.cls := findClass_of_methodNamed B.named
  have hlocks := B.notSynchronized
  have hin : meth.name = "<init>" := (name_of_methodNamed B.named B.method).1
  subst hsz
  have hD := hD0.self (sz := s.heap.size)
  generalize hAe : va_A [(h0, .inr (1, [.null, .null, .null, .null, .null, .null, .null, .null, .int 0, .int 0, .int 0, .int 0, .int 0, .int 0, .int 0, .int 0, .int 0]))] s.heap.size = A at hD ⊢
  have hA : ∀ q : Nat, s.heap.size ≤ q → A q := fun q h => by rw [← hAe]; exact Or.inr h
  have hS : va_S A s.heap s.heap [] := va_S.rf
  have hP : va_P (dC, dI) vwCl [(h0, .inr (1, [.null, .null, .null, .null, .null, .null, .null, .null, .int 0, .int 0, .int 0, .int 0, .int 0, .int 0, .int 0, .int 0, .int 0]))] s.heap := hP
  have hl := lv_entry ([.ref h0]) (n := 1) (Nat.le_of_ble_eq_true rfl)
  rw [lg_entry_eq]
  generalize (lg_sl ([.ref h0]) ++ List.replicate (1 - (lg_sl ([.ref h0])).length) Slot.unset).toArray = ls at hl ⊢
  have hl : lv_has ls 1 [(0, .ref h0)] := hl
  refine lv_aload_n hx hb dPg_init_0 rfl (lv_at hl 0 rfl) ?_
  refine W.objInit hx hb hown (hts (.methodLink "RunProver$Program" 1 objectInit) (wam0 9 rfl)) (hts (.instanceMethod objectInit) (wam0 1 rfl)) (hts (.code objectInit ⟨#[0xb1]⟩ 1 none) (wam0 2 rfl)) rfl (by rw [hml]; exact hl.1) rfl dPg_init_1 (Nat.le_of_ble_eq_true rfl) (Nat.le_of_ble_eq_true rfl) ?_
  refine W.eq (g2 := F0 m 4 ls []) rfl ?_
  refine lv_aload_n hx hb dPg_init_4 rfl (lv_at hl 0 rfl) ?_
  refine lv_sipush (v := 27000) hx hb dPg_init_5 (by decide) ?_
  refine va_newa (atype := .int) (N' := 27000) (a0 := (27000, .inl (fun _ => 0))) (ty := .int) (n := 27000) hx hb (hts (.arrayClass .int) (wam0 10 rfl)) rfl hK hP hD hS hA (fun _ => rfl) (by decide) (by decide +kernel) (by decide +kernel) (Nat.le_of_ble_eq_true rfl) (Nat.le_of_ble_eq_true rfl) dPg_init_8 (fun q_1 cA_2 H hK hP hD hS => ?_)
  have hP : va_P (dC, dI) vwCl [(h0, .inr (1, [.null, .null, .null, .null, .null, .null, .null, .null, .int 0, .int 0, .int 0, .int 0, .int 0, .int 0, .int 0, .int 0, .int 0])), (q_1, .inl (cA_2, 27000, .inl (fun _ => 0)))] H := hP
  have hD : va_D A [(h0, .inr (1, [.null, .null, .null, .null, .null, .null, .null, .null, .int 0, .int 0, .int 0, .int 0, .int 0, .int 0, .int 0, .int 0, .int 0])), (q_1, .inl (cA_2, 27000, .inl (fun _ => 0)))] := hD
  have hK : va_K (dC, dI) vwCl [(cA_2, .int)] s := hK
  refine W.widen (k := 1) (n := 27000) (by omega) (by omega) ?_
  refine va_putF (D := (dC, dI)) (ci := 1) (v := .ref q_1) (ty := .array .int) (C := "RunProver$Program") (T := TPg) (N := 17) hx hb hts (inPg _) tyPg tyPg_ok nmPg hown hK hP hD hS 0 rfl rfl 0 (by decide) (hts (.fieldLink "RunProver$Program" 9 "RunProver$Program" "rows" "[I") (wam0 11 rfl)) (fun _ h9 => h9) rfl hin rfl (by decide +kernel) rfl rfl (Nat.le_of_ble_eq_true rfl) dPg_init_10 (fun H locs hP hD hS => ?_)
  have hP : va_P (dC, dI) vwCl [(h0, .inr (1, [.ref q_1, .null, .null, .null, .null, .null, .null, .null, .int 0, .int 0, .int 0, .int 0, .int 0, .int 0, .int 0, .int 0, .int 0])), (q_1, .inl (cA_2, 27000, .inl (fun _ => 0)))] H := hP
  have hD : va_D A [(h0, .inr (1, [.ref q_1, .null, .null, .null, .null, .null, .null, .null, .int 0, .int 0, .int 0, .int 0, .int 0, .int 0, .int 0, .int 0, .int 0])), (q_1, .inl (cA_2, 27000, .inl (fun _ => 0)))] := hD
  have hP := hP.sub (ws' := [(h0, .inr (1, [.ref q_1, .null, .null, .null, .null, .null, .null, .null, .int 0, .int 0, .int 0, .int 0, .int 0, .int 0, .int 0, .int 0, .int 0]))]) [0] rfl
  have hD := hD.sub (ws' := [(h0, .inr (1, [.ref q_1, .null, .null, .null, .null, .null, .null, .null, .int 0, .int 0, .int 0, .int 0, .int 0, .int 0, .int 0, .int 0, .int 0]))]) [0] (by decide) rfl
  have hK := hK.sub (tys' := []) [] rfl
  refine lv_aload_n hx hb dPg_init_13 rfl (lv_at hl 0 rfl) ?_
  refine lv_sipush (v := 1000) hx hb dPg_init_14 (by decide) ?_
  refine va_newa (atype := .int) (N' := 1000) (a0 := (1000, .inl (fun _ => 0))) (ty := .int) (n := 1000) hx hb (hts (.arrayClass .int) (wam0 10 rfl)) rfl hK hP hD hS hA (fun _ => rfl) (by decide) (by decide +kernel) (by decide +kernel) (Nat.le_of_ble_eq_true rfl) (Nat.le_of_ble_eq_true rfl) dPg_init_17 (fun q_3 cA_4 H hK hP hD hS => ?_)
  have hP : va_P (dC, dI) vwCl [(h0, .inr (1, [.ref q_1, .null, .null, .null, .null, .null, .null, .null, .int 0, .int 0, .int 0, .int 0, .int 0, .int 0, .int 0, .int 0, .int 0])), (q_3, .inl (cA_4, 1000, .inl (fun _ => 0)))] H := hP
  have hD : va_D A [(h0, .inr (1, [.ref q_1, .null, .null, .null, .null, .null, .null, .null, .int 0, .int 0, .int 0, .int 0, .int 0, .int 0, .int 0, .int 0, .int 0])), (q_3, .inl (cA_4, 1000, .inl (fun _ => 0)))] := hD
  have hK : va_K (dC, dI) vwCl [(cA_4, .int)] s := hK
  refine W.widen (k := 2) (n := 28000) (by omega) (by omega) ?_
  refine va_putF (D := (dC, dI)) (ci := 1) (v := .ref q_3) (ty := .array .int) (C := "RunProver$Program") (T := TPg) (N := 17) hx hb hts (inPg _) tyPg tyPg_ok nmPg hown hK hP hD hS 0 rfl rfl 1 (by decide) (hts (.fieldLink "RunProver$Program" 15 "RunProver$Program" "functions" "[I") (wam0 12 rfl)) (fun _ h9 => h9) rfl hin rfl (by decide +kernel) rfl rfl (Nat.le_of_ble_eq_true rfl) dPg_init_19 (fun H locs hP hD hS => ?_)
  have hP : va_P (dC, dI) vwCl [(h0, .inr (1, [.ref q_1, .ref q_3, .null, .null, .null, .null, .null, .null, .int 0, .int 0, .int 0, .int 0, .int 0, .int 0, .int 0, .int 0, .int 0])), (q_3, .inl (cA_4, 1000, .inl (fun _ => 0)))] H := hP
  have hD : va_D A [(h0, .inr (1, [.ref q_1, .ref q_3, .null, .null, .null, .null, .null, .null, .int 0, .int 0, .int 0, .int 0, .int 0, .int 0, .int 0, .int 0, .int 0])), (q_3, .inl (cA_4, 1000, .inl (fun _ => 0)))] := hD
  have hP := hP.sub (ws' := [(h0, .inr (1, [.ref q_1, .ref q_3, .null, .null, .null, .null, .null, .null, .int 0, .int 0, .int 0, .int 0, .int 0, .int 0, .int 0, .int 0, .int 0]))]) [0] rfl
  have hD := hD.sub (ws' := [(h0, .inr (1, [.ref q_1, .ref q_3, .null, .null, .null, .null, .null, .null, .int 0, .int 0, .int 0, .int 0, .int 0, .int 0, .int 0, .int 0, .int 0]))]) [0] (by decide) rfl
  have hK := hK.sub (tys' := []) [] rfl
  refine lv_aload_n hx hb dPg_init_22 rfl (lv_at hl 0 rfl) ?_
  refine lv_sipush (v := 8000) hx hb dPg_init_23 (by decide) ?_
  refine va_newa (atype := .int) (N' := 8000) (a0 := (8000, .inl (fun _ => 0))) (ty := .int) (n := 8000) hx hb (hts (.arrayClass .int) (wam0 10 rfl)) rfl hK hP hD hS hA (fun _ => rfl) (by decide) (by decide +kernel) (by decide +kernel) (Nat.le_of_ble_eq_true rfl) (Nat.le_of_ble_eq_true rfl) dPg_init_26 (fun q_5 cA_6 H hK hP hD hS => ?_)
  have hP : va_P (dC, dI) vwCl [(h0, .inr (1, [.ref q_1, .ref q_3, .null, .null, .null, .null, .null, .null, .int 0, .int 0, .int 0, .int 0, .int 0, .int 0, .int 0, .int 0, .int 0])), (q_5, .inl (cA_6, 8000, .inl (fun _ => 0)))] H := hP
  have hD : va_D A [(h0, .inr (1, [.ref q_1, .ref q_3, .null, .null, .null, .null, .null, .null, .int 0, .int 0, .int 0, .int 0, .int 0, .int 0, .int 0, .int 0, .int 0])), (q_5, .inl (cA_6, 8000, .inl (fun _ => 0)))] := hD
  have hK : va_K (dC, dI) vwCl [(cA_6, .int)] s := hK
  refine W.widen (k := 3) (n := 36000) (by omega) (by omega) ?_
  refine va_putF (D := (dC, dI)) (ci := 1) (v := .ref q_5) (ty := .array .int) (C := "RunProver$Program") (T := TPg) (N := 17) hx hb hts (inPg _) tyPg tyPg_ok nmPg hown hK hP hD hS 0 rfl rfl 2 (by decide) (hts (.fieldLink "RunProver$Program" 20 "RunProver$Program" "codes" "[I") (wam0 13 rfl)) (fun _ h9 => h9) rfl hin rfl (by decide +kernel) rfl rfl (Nat.le_of_ble_eq_true rfl) dPg_init_28 (fun H locs hP hD hS => ?_)
  have hP : va_P (dC, dI) vwCl [(h0, .inr (1, [.ref q_1, .ref q_3, .ref q_5, .null, .null, .null, .null, .null, .int 0, .int 0, .int 0, .int 0, .int 0, .int 0, .int 0, .int 0, .int 0])), (q_5, .inl (cA_6, 8000, .inl (fun _ => 0)))] H := hP
  have hD : va_D A [(h0, .inr (1, [.ref q_1, .ref q_3, .ref q_5, .null, .null, .null, .null, .null, .int 0, .int 0, .int 0, .int 0, .int 0, .int 0, .int 0, .int 0, .int 0])), (q_5, .inl (cA_6, 8000, .inl (fun _ => 0)))] := hD
  have hP := hP.sub (ws' := [(h0, .inr (1, [.ref q_1, .ref q_3, .ref q_5, .null, .null, .null, .null, .null, .int 0, .int 0, .int 0, .int 0, .int 0, .int 0, .int 0, .int 0, .int 0]))]) [0] rfl
  have hD := hD.sub (ws' := [(h0, .inr (1, [.ref q_1, .ref q_3, .ref q_5, .null, .null, .null, .null, .null, .int 0, .int 0, .int 0, .int 0, .int 0, .int 0, .int 0, .int 0, .int 0]))]) [0] (by decide) rfl
  have hK := hK.sub (tys' := []) [] rfl
  refine lv_aload_n hx hb dPg_init_31 rfl (lv_at hl 0 rfl) ?_
  refine lv_sipush (v := 8000) hx hb dPg_init_32 (by decide) ?_
  refine va_newa (atype := .int) (N' := 8000) (a0 := (8000, .inl (fun _ => 0))) (ty := .int) (n := 8000) hx hb (hts (.arrayClass .int) (wam0 10 rfl)) rfl hK hP hD hS hA (fun _ => rfl) (by decide) (by decide +kernel) (by decide +kernel) (Nat.le_of_ble_eq_true rfl) (Nat.le_of_ble_eq_true rfl) dPg_init_35 (fun q_7 cA_8 H hK hP hD hS => ?_)
  have hP : va_P (dC, dI) vwCl [(h0, .inr (1, [.ref q_1, .ref q_3, .ref q_5, .null, .null, .null, .null, .null, .int 0, .int 0, .int 0, .int 0, .int 0, .int 0, .int 0, .int 0, .int 0])), (q_7, .inl (cA_8, 8000, .inl (fun _ => 0)))] H := hP
  have hD : va_D A [(h0, .inr (1, [.ref q_1, .ref q_3, .ref q_5, .null, .null, .null, .null, .null, .int 0, .int 0, .int 0, .int 0, .int 0, .int 0, .int 0, .int 0, .int 0])), (q_7, .inl (cA_8, 8000, .inl (fun _ => 0)))] := hD
  have hK : va_K (dC, dI) vwCl [(cA_8, .int)] s := hK
  refine W.widen (k := 4) (n := 44000) (by omega) (by omega) ?_
  refine va_putF (D := (dC, dI)) (ci := 1) (v := .ref q_7) (ty := .array .int) (C := "RunProver$Program") (T := TPg) (N := 17) hx hb hts (inPg _) tyPg tyPg_ok nmPg hown hK hP hD hS 0 rfl rfl 3 (by decide) (hts (.fieldLink "RunProver$Program" 23 "RunProver$Program" "operands" "[I") (wam0 14 rfl)) (fun _ h9 => h9) rfl hin rfl (by decide +kernel) rfl rfl (Nat.le_of_ble_eq_true rfl) dPg_init_37 (fun H locs hP hD hS => ?_)
  have hP : va_P (dC, dI) vwCl [(h0, .inr (1, [.ref q_1, .ref q_3, .ref q_5, .ref q_7, .null, .null, .null, .null, .int 0, .int 0, .int 0, .int 0, .int 0, .int 0, .int 0, .int 0, .int 0])), (q_7, .inl (cA_8, 8000, .inl (fun _ => 0)))] H := hP
  have hD : va_D A [(h0, .inr (1, [.ref q_1, .ref q_3, .ref q_5, .ref q_7, .null, .null, .null, .null, .int 0, .int 0, .int 0, .int 0, .int 0, .int 0, .int 0, .int 0, .int 0])), (q_7, .inl (cA_8, 8000, .inl (fun _ => 0)))] := hD
  have hP := hP.sub (ws' := [(h0, .inr (1, [.ref q_1, .ref q_3, .ref q_5, .ref q_7, .null, .null, .null, .null, .int 0, .int 0, .int 0, .int 0, .int 0, .int 0, .int 0, .int 0, .int 0]))]) [0] rfl
  have hD := hD.sub (ws' := [(h0, .inr (1, [.ref q_1, .ref q_3, .ref q_5, .ref q_7, .null, .null, .null, .null, .int 0, .int 0, .int 0, .int 0, .int 0, .int 0, .int 0, .int 0, .int 0]))]) [0] (by decide) rfl
  have hK := hK.sub (tys' := []) [] rfl
  refine lv_aload_n hx hb dPg_init_40 rfl (lv_at hl 0 rfl) ?_
  refine lv_sipush (v := 200) hx hb dPg_init_41 (by decide) ?_
  refine va_newa (atype := .int) (N' := 200) (a0 := (200, .inl (fun _ => 0))) (ty := .int) (n := 200) hx hb (hts (.arrayClass .int) (wam0 10 rfl)) rfl hK hP hD hS hA (fun _ => rfl) (by decide) (by decide +kernel) (by decide +kernel) (Nat.le_of_ble_eq_true rfl) (Nat.le_of_ble_eq_true rfl) dPg_init_44 (fun q_9 cA_10 H hK hP hD hS => ?_)
  have hP : va_P (dC, dI) vwCl [(h0, .inr (1, [.ref q_1, .ref q_3, .ref q_5, .ref q_7, .null, .null, .null, .null, .int 0, .int 0, .int 0, .int 0, .int 0, .int 0, .int 0, .int 0, .int 0])), (q_9, .inl (cA_10, 200, .inl (fun _ => 0)))] H := hP
  have hD : va_D A [(h0, .inr (1, [.ref q_1, .ref q_3, .ref q_5, .ref q_7, .null, .null, .null, .null, .int 0, .int 0, .int 0, .int 0, .int 0, .int 0, .int 0, .int 0, .int 0])), (q_9, .inl (cA_10, 200, .inl (fun _ => 0)))] := hD
  have hK : va_K (dC, dI) vwCl [(cA_10, .int)] s := hK
  refine W.widen (k := 5) (n := 44200) (by omega) (by omega) ?_
  refine va_putF (D := (dC, dI)) (ci := 1) (v := .ref q_9) (ty := .array .int) (C := "RunProver$Program") (T := TPg) (N := 17) hx hb hts (inPg _) tyPg tyPg_ok nmPg hown hK hP hD hS 0 rfl rfl 4 (by decide) (hts (.fieldLink "RunProver$Program" 26 "RunProver$Program" "slotFirst" "[I") (wam0 15 rfl)) (fun _ h9 => h9) rfl hin rfl (by decide +kernel) rfl rfl (Nat.le_of_ble_eq_true rfl) dPg_init_46 (fun H locs hP hD hS => ?_)
  have hP : va_P (dC, dI) vwCl [(h0, .inr (1, [.ref q_1, .ref q_3, .ref q_5, .ref q_7, .ref q_9, .null, .null, .null, .int 0, .int 0, .int 0, .int 0, .int 0, .int 0, .int 0, .int 0, .int 0])), (q_9, .inl (cA_10, 200, .inl (fun _ => 0)))] H := hP
  have hD : va_D A [(h0, .inr (1, [.ref q_1, .ref q_3, .ref q_5, .ref q_7, .ref q_9, .null, .null, .null, .int 0, .int 0, .int 0, .int 0, .int 0, .int 0, .int 0, .int 0, .int 0])), (q_9, .inl (cA_10, 200, .inl (fun _ => 0)))] := hD
  have hP := hP.sub (ws' := [(h0, .inr (1, [.ref q_1, .ref q_3, .ref q_5, .ref q_7, .ref q_9, .null, .null, .null, .int 0, .int 0, .int 0, .int 0, .int 0, .int 0, .int 0, .int 0, .int 0]))]) [0] rfl
  have hD := hD.sub (ws' := [(h0, .inr (1, [.ref q_1, .ref q_3, .ref q_5, .ref q_7, .ref q_9, .null, .null, .null, .int 0, .int 0, .int 0, .int 0, .int 0, .int 0, .int 0, .int 0, .int 0]))]) [0] (by decide) rfl
  have hK := hK.sub (tys' := []) [] rfl
  refine lv_aload_n hx hb dPg_init_49 rfl (lv_at hl 0 rfl) ?_
  refine lv_sipush (v := 200) hx hb dPg_init_50 (by decide) ?_
  refine va_newa (atype := .int) (N' := 200) (a0 := (200, .inl (fun _ => 0))) (ty := .int) (n := 200) hx hb (hts (.arrayClass .int) (wam0 10 rfl)) rfl hK hP hD hS hA (fun _ => rfl) (by decide) (by decide +kernel) (by decide +kernel) (Nat.le_of_ble_eq_true rfl) (Nat.le_of_ble_eq_true rfl) dPg_init_53 (fun q_11 cA_12 H hK hP hD hS => ?_)
  have hP : va_P (dC, dI) vwCl [(h0, .inr (1, [.ref q_1, .ref q_3, .ref q_5, .ref q_7, .ref q_9, .null, .null, .null, .int 0, .int 0, .int 0, .int 0, .int 0, .int 0, .int 0, .int 0, .int 0])), (q_11, .inl (cA_12, 200, .inl (fun _ => 0)))] H := hP
  have hD : va_D A [(h0, .inr (1, [.ref q_1, .ref q_3, .ref q_5, .ref q_7, .ref q_9, .null, .null, .null, .int 0, .int 0, .int 0, .int 0, .int 0, .int 0, .int 0, .int 0, .int 0])), (q_11, .inl (cA_12, 200, .inl (fun _ => 0)))] := hD
  have hK : va_K (dC, dI) vwCl [(cA_12, .int)] s := hK
  refine W.widen (k := 6) (n := 44400) (by omega) (by omega) ?_
  refine va_putF (D := (dC, dI)) (ci := 1) (v := .ref q_11) (ty := .array .int) (C := "RunProver$Program") (T := TPg) (N := 17) hx hb hts (inPg _) tyPg tyPg_ok nmPg hown hK hP hD hS 0 rfl rfl 5 (by decide) (hts (.fieldLink "RunProver$Program" 29 "RunProver$Program" "slotSize" "[I") (wam0 16 rfl)) (fun _ h9 => h9) rfl hin rfl (by decide +kernel) rfl rfl (Nat.le_of_ble_eq_true rfl) dPg_init_55 (fun H locs hP hD hS => ?_)
  have hP : va_P (dC, dI) vwCl [(h0, .inr (1, [.ref q_1, .ref q_3, .ref q_5, .ref q_7, .ref q_9, .ref q_11, .null, .null, .int 0, .int 0, .int 0, .int 0, .int 0, .int 0, .int 0, .int 0, .int 0])), (q_11, .inl (cA_12, 200, .inl (fun _ => 0)))] H := hP
  have hD : va_D A [(h0, .inr (1, [.ref q_1, .ref q_3, .ref q_5, .ref q_7, .ref q_9, .ref q_11, .null, .null, .int 0, .int 0, .int 0, .int 0, .int 0, .int 0, .int 0, .int 0, .int 0])), (q_11, .inl (cA_12, 200, .inl (fun _ => 0)))] := hD
  have hP := hP.sub (ws' := [(h0, .inr (1, [.ref q_1, .ref q_3, .ref q_5, .ref q_7, .ref q_9, .ref q_11, .null, .null, .int 0, .int 0, .int 0, .int 0, .int 0, .int 0, .int 0, .int 0, .int 0]))]) [0] rfl
  have hD := hD.sub (ws' := [(h0, .inr (1, [.ref q_1, .ref q_3, .ref q_5, .ref q_7, .ref q_9, .ref q_11, .null, .null, .int 0, .int 0, .int 0, .int 0, .int 0, .int 0, .int 0, .int 0, .int 0]))]) [0] (by decide) rfl
  have hK := hK.sub (tys' := []) [] rfl
  refine lv_aload_n hx hb dPg_init_58 rfl (lv_at hl 0 rfl) ?_
  refine lv_bipush (v := 30) hx hb dPg_init_59 (by decide) ?_
  refine va_newa (atype := .int) (N' := 30) (a0 := (30, .inl (fun _ => 0))) (ty := .int) (n := 30) hx hb (hts (.arrayClass .int) (wam0 10 rfl)) rfl hK hP hD hS hA (fun _ => rfl) (by decide) (by decide +kernel) (by decide +kernel) (Nat.le_of_ble_eq_true rfl) (Nat.le_of_ble_eq_true rfl) dPg_init_61 (fun q_13 cA_14 H hK hP hD hS => ?_)
  have hP : va_P (dC, dI) vwCl [(h0, .inr (1, [.ref q_1, .ref q_3, .ref q_5, .ref q_7, .ref q_9, .ref q_11, .null, .null, .int 0, .int 0, .int 0, .int 0, .int 0, .int 0, .int 0, .int 0, .int 0])), (q_13, .inl (cA_14, 30, .inl (fun _ => 0)))] H := hP
  have hD : va_D A [(h0, .inr (1, [.ref q_1, .ref q_3, .ref q_5, .ref q_7, .ref q_9, .ref q_11, .null, .null, .int 0, .int 0, .int 0, .int 0, .int 0, .int 0, .int 0, .int 0, .int 0])), (q_13, .inl (cA_14, 30, .inl (fun _ => 0)))] := hD
  have hK : va_K (dC, dI) vwCl [(cA_14, .int)] s := hK
  refine W.widen (k := 7) (n := 44430) (by omega) (by omega) ?_
  refine va_putF (D := (dC, dI)) (ci := 1) (v := .ref q_13) (ty := .array .int) (C := "RunProver$Program") (T := TPg) (N := 17) hx hb hts (inPg _) tyPg tyPg_ok nmPg hown hK hP hD hS 0 rfl rfl 6 (by decide) (hts (.fieldLink "RunProver$Program" 32 "RunProver$Program" "checkKinds" "[I") (wam0 17 rfl)) (fun _ h9 => h9) rfl hin rfl (by decide +kernel) rfl rfl (Nat.le_of_ble_eq_true rfl) dPg_init_63 (fun H locs hP hD hS => ?_)
  have hP : va_P (dC, dI) vwCl [(h0, .inr (1, [.ref q_1, .ref q_3, .ref q_5, .ref q_7, .ref q_9, .ref q_11, .ref q_13, .null, .int 0, .int 0, .int 0, .int 0, .int 0, .int 0, .int 0, .int 0, .int 0])), (q_13, .inl (cA_14, 30, .inl (fun _ => 0)))] H := hP
  have hD : va_D A [(h0, .inr (1, [.ref q_1, .ref q_3, .ref q_5, .ref q_7, .ref q_9, .ref q_11, .ref q_13, .null, .int 0, .int 0, .int 0, .int 0, .int 0, .int 0, .int 0, .int 0, .int 0])), (q_13, .inl (cA_14, 30, .inl (fun _ => 0)))] := hD
  have hP := hP.sub (ws' := [(h0, .inr (1, [.ref q_1, .ref q_3, .ref q_5, .ref q_7, .ref q_9, .ref q_11, .ref q_13, .null, .int 0, .int 0, .int 0, .int 0, .int 0, .int 0, .int 0, .int 0, .int 0]))]) [0] rfl
  have hD := hD.sub (ws' := [(h0, .inr (1, [.ref q_1, .ref q_3, .ref q_5, .ref q_7, .ref q_9, .ref q_11, .ref q_13, .null, .int 0, .int 0, .int 0, .int 0, .int 0, .int 0, .int 0, .int 0, .int 0]))]) [0] (by decide) rfl
  have hK := hK.sub (tys' := []) [] rfl
  refine lv_aload_n hx hb dPg_init_66 rfl (lv_at hl 0 rfl) ?_
  refine lv_bipush (v := 30) hx hb dPg_init_67 (by decide) ?_
  refine va_newa (atype := .int) (N' := 30) (a0 := (30, .inl (fun _ => 0))) (ty := .int) (n := 30) hx hb (hts (.arrayClass .int) (wam0 10 rfl)) rfl hK hP hD hS hA (fun _ => rfl) (by decide) (by decide +kernel) (by decide +kernel) (Nat.le_of_ble_eq_true rfl) (Nat.le_of_ble_eq_true rfl) dPg_init_69 (fun q_15 cA_16 H hK hP hD hS => ?_)
  have hP : va_P (dC, dI) vwCl [(h0, .inr (1, [.ref q_1, .ref q_3, .ref q_5, .ref q_7, .ref q_9, .ref q_11, .ref q_13, .null, .int 0, .int 0, .int 0, .int 0, .int 0, .int 0, .int 0, .int 0, .int 0])), (q_15, .inl (cA_16, 30, .inl (fun _ => 0)))] H := hP
  have hD : va_D A [(h0, .inr (1, [.ref q_1, .ref q_3, .ref q_5, .ref q_7, .ref q_9, .ref q_11, .ref q_13, .null, .int 0, .int 0, .int 0, .int 0, .int 0, .int 0, .int 0, .int 0, .int 0])), (q_15, .inl (cA_16, 30, .inl (fun _ => 0)))] := hD
  have hK : va_K (dC, dI) vwCl [(cA_16, .int)] s := hK
  refine W.widen (k := 8) (n := 44460) (by omega) (by omega) ?_
  refine va_putF (D := (dC, dI)) (ci := 1) (v := .ref q_15) (ty := .array .int) (C := "RunProver$Program") (T := TPg) (N := 17) hx hb hts (inPg _) tyPg tyPg_ok nmPg hown hK hP hD hS 0 rfl rfl 7 (by decide) (hts (.fieldLink "RunProver$Program" 35 "RunProver$Program" "checkPlaces" "[I") (wam0 18 rfl)) (fun _ h9 => h9) rfl hin rfl (by decide +kernel) rfl rfl (Nat.le_of_ble_eq_true rfl) dPg_init_71 (fun H locs hP hD hS => ?_)
  have hP : va_P (dC, dI) vwCl [(h0, .inr (1, [.ref q_1, .ref q_3, .ref q_5, .ref q_7, .ref q_9, .ref q_11, .ref q_13, .ref q_15, .int 0, .int 0, .int 0, .int 0, .int 0, .int 0, .int 0, .int 0, .int 0])), (q_15, .inl (cA_16, 30, .inl (fun _ => 0)))] H := hP
  have hD : va_D A [(h0, .inr (1, [.ref q_1, .ref q_3, .ref q_5, .ref q_7, .ref q_9, .ref q_11, .ref q_13, .ref q_15, .int 0, .int 0, .int 0, .int 0, .int 0, .int 0, .int 0, .int 0, .int 0])), (q_15, .inl (cA_16, 30, .inl (fun _ => 0)))] := hD
  have hP := hP.sub (ws' := [(h0, .inr (1, [.ref q_1, .ref q_3, .ref q_5, .ref q_7, .ref q_9, .ref q_11, .ref q_13, .ref q_15, .int 0, .int 0, .int 0, .int 0, .int 0, .int 0, .int 0, .int 0, .int 0]))]) [0] rfl
  have hD := hD.sub (ws' := [(h0, .inr (1, [.ref q_1, .ref q_3, .ref q_5, .ref q_7, .ref q_9, .ref q_11, .ref q_13, .ref q_15, .int 0, .int 0, .int 0, .int 0, .int 0, .int 0, .int 0, .int 0, .int 0]))]) [0] (by decide) rfl
  have hK := hK.sub (tys' := []) [] rfl
  refine lv_aload_n hx hb dPg_init_74 rfl (lv_at hl 0 rfl) ?_
  refine lv_iconst (v := (-1)) hx hb dPg_init_75 (by decide) ?_
  refine va_put (D := (dC, dI)) (ci := 1) (v := .int (-1)) (ty := .int) (C := "RunProver$Program") (T := TPg) (N := 17) hx hb hts (inPg _) tyPg tyPg_ok nmPg hown hK hP hD hS 0 rfl rfl 16 (by decide) (hts (.fieldLink "RunProver$Program" 38 "RunProver$Program" "first" "I") (wam0 19 rfl)) (fun _ h9 => h9) rfl (by decide +kernel) rfl rfl (Nat.le_of_ble_eq_true rfl) dPg_init_76 (fun H locs hP hD hS => ?_)
  have hP : va_P (dC, dI) vwCl [(h0, .inr (1, [.ref q_1, .ref q_3, .ref q_5, .ref q_7, .ref q_9, .ref q_11, .ref q_13, .ref q_15, .int 0, .int 0, .int 0, .int 0, .int 0, .int 0, .int 0, .int 0, .int (-1)]))] H := hP
  have hD : va_D A [(h0, .inr (1, [.ref q_1, .ref q_3, .ref q_5, .ref q_7, .ref q_9, .ref q_11, .ref q_13, .ref q_15, .int 0, .int 0, .int 0, .int 0, .int 0, .int 0, .int 0, .int 0, .int (-1)]))] := hD
  have hP9 := hP.sub (ws' := [(h0, .inr (1, [.ref q_1, .ref q_3, .ref q_5, .ref q_7, .ref q_9, .ref q_11, .ref q_13, .ref q_15, .int 0, .int 0, .int 0, .int 0, .int 0, .int 0, .int 0, .int 0, .int (-1)]))]) [0] rfl
  have hD9 := hD.sub (ws' := [(h0, .inr (1, [.ref q_1, .ref q_3, .ref q_5, .ref q_7, .ref q_9, .ref q_11, .ref q_13, .ref q_15, .int 0, .int 0, .int 0, .int 0, .int 0, .int 0, .int 0, .int 0, .int (-1)]))]) [0] (by decide) rfl
  have hK9 := hK.sub (tys' := []) [] rfl
  exact W.vret hx hb hr (fun t ht hW => ⟨⟨(), rfl, trivial, q_1, q_3, q_5, q_7, q_9, q_11, q_13, q_15, by rw [ht]; exact hP9, va_K.moved hW.alike hK9, hD9⟩, hS.F ht⟩) hS.2.2 dPg_init_79
set_option maxHeartbeats 4000000 in
set_option maxRecDepth 100000 in
theorem c_Nm_init (l : Launch) (dC : Nat → ClassId) (dI : Nat → Nat → Nat) (sz : Nat) (h0 : Nat) : Met l yNm_init wsNm_init ({ frames := 1, cells := 4, slots := 800, locals := 12 }) (va_Pc [.ref h0] (fun U => U.heap.size = sz ∧ va_P (dC, dI) vwCl [(h0, .inr (3, [.null, .null, .null, .null, .int 0]))] U.heap ∧ va_K (dC, dI) vwCl [] U ∧ va_D (fun _ => True) [(h0, .inr (3, [.null, .null, .null, .null, .int 0]))])) (va_Qv (fun _ : Unit => True) (fun (_ : Unit) (t : State) => ∃ (q_1 : Nat) (q_3 : Nat) (q_5 : Nat) (q_7 : Nat), va_P (dC, dI) vwCl [(h0, .inr (3, [.ref q_1, .ref q_3, .ref q_5, .ref q_7, .int 0]))] t.heap ∧ va_K (dC, dI) vwCl [] t ∧ va_D (va_A [(h0, .inr (3, [.null, .null, .null, .null, .int 0]))] sz) [(h0, .inr (3, [.ref q_1, .ref q_3, .ref q_5, .ref q_7, .int 0]))]) (va_A [(h0, .inr (3, [.null, .null, .null, .null, .int 0]))] sz)) 4 800 (va_A [(h0, .inr (3, [.null, .null, .null, .null, .int 0]))] sz) := by
  refine Met.ofW (cc := cNm_init) (maxL := 1) (ret := none) (by decide) rfl ?_
  intro p e s m args below meth c s₁ B hml hv
  obtain ⟨rfl, hsz, hP, hK, hD0⟩ := hv
  have hx := B.exec
  have hb := B.bytes
  have hr := B.returns
  have hts := atoms_spec (ws := wsNm_init) B.pre
  have hown : s.vm.findClass "RunProver$Names" = some m.cls := findClass_of_methodNamed B.named
  have hlocks := B.notSynchronized
  have hin : meth.name = "<init>" := (name_of_methodNamed B.named B.method).1
  subst hsz
  have hD := hD0.self (sz := s.heap.size)
  generalize hAe : va_A [(h0, .inr (3, [.null, .null, .null, .null, .int 0]))] s.heap.size = A at hD ⊢
  have hA : ∀ q : Nat, s.heap.size ≤ q → A q := fun q h => by rw [← hAe]; exact Or.inr h
  have hS : va_S A s.heap s.heap [] := va_S.rf
  have hP : va_P (dC, dI) vwCl [(h0, .inr (3, [.null, .null, .null, .null, .int 0]))] s.heap := hP
  have hl := lv_entry ([.ref h0]) (n := 1) (Nat.le_of_ble_eq_true rfl)
  rw [lg_entry_eq]
  generalize (lg_sl ([.ref h0]) ++ List.replicate (1 - (lg_sl ([.ref h0])).length) Slot.unset).toArray = ls at hl ⊢
  have hl : lv_has ls 1 [(0, .ref h0)] := hl
  refine lv_aload_n hx hb dNm_init_0 rfl (lv_at hl 0 rfl) ?_
  refine W.objInit hx hb hown (hts (.methodLink "RunProver$Names" 1 objectInit) (wam0 31 rfl)) (hts (.instanceMethod objectInit) (wam0 1 rfl)) (hts (.code objectInit ⟨#[0xb1]⟩ 1 none) (wam0 2 rfl)) rfl (by rw [hml]; exact hl.1) rfl dNm_init_1 (Nat.le_of_ble_eq_true rfl) (Nat.le_of_ble_eq_true rfl) ?_
  refine W.eq (g2 := F0 m 4 ls []) rfl ?_
  refine lv_aload_n hx hb dNm_init_4 rfl (lv_at hl 0 rfl) ?_
  refine lv_sipush (v := 200) hx hb dNm_init_5 (by decide) ?_
  refine va_newa (atype := .int) (N' := 200) (a0 := (200, .inl (fun _ => 0))) (ty := .int) (n := 200) hx hb (hts (.arrayClass .int) (wam0 10 rfl)) rfl hK hP hD hS hA (fun _ => rfl) (by decide) (by decide +kernel) (by decide +kernel) (Nat.le_of_ble_eq_true rfl) (Nat.le_of_ble_eq_true rfl) dNm_init_8 (fun q_1 cA_2 H hK hP hD hS => ?_)
  have hP : va_P (dC, dI) vwCl [(h0, .inr (3, [.null, .null, .null, .null, .int 0])), (q_1, .inl (cA_2, 200, .inl (fun _ => 0)))] H := hP
  have hD : va_D A [(h0, .inr (3, [.null, .null, .null, .null, .int 0])), (q_1, .inl (cA_2, 200, .inl (fun _ => 0)))] := hD
  have hK : va_K (dC, dI) vwCl [(cA_2, .int)] s := hK
  refine W.widen (k := 1) (n := 200) (by omega) (by omega) ?_
  refine va_putF (D := (dC, dI)) (ci := 3) (v := .ref q_1) (ty := .array .int) (C := "RunProver$Names") (T := TNm) (N := 5) hx hb hts (inNm _) tyNm tyNm_ok nmNm hown hK hP hD hS 0 rfl rfl 0 (by decide) (hts (.fieldLink "RunProver$Names" 9 "RunProver$Names" "places" "[I") (wam0 32 rfl)) (fun _ h9 => h9) rfl hin rfl (by decide +kernel) rfl rfl (Nat.le_of_ble_eq_true rfl) dNm_init_10 (fun H locs hP hD hS => ?_)
  have hP : va_P (dC, dI) vwCl [(h0, .inr (3, [.ref q_1, .null, .null, .null, .int 0])), (q_1, .inl (cA_2, 200, .inl (fun _ => 0)))] H := hP
  have hD : va_D A [(h0, .inr (3, [.ref q_1, .null, .null, .null, .int 0])), (q_1, .inl (cA_2, 200, .inl (fun _ => 0)))] := hD
  have hP := hP.sub (ws' := [(h0, .inr (3, [.ref q_1, .null, .null, .null, .int 0]))]) [0] rfl
  have hD := hD.sub (ws' := [(h0, .inr (3, [.ref q_1, .null, .null, .null, .int 0]))]) [0] (by decide) rfl
  have hK := hK.sub (tys' := []) [] rfl
  refine lv_aload_n hx hb dNm_init_13 rfl (lv_at hl 0 rfl) ?_
  refine lv_sipush (v := 200) hx hb dNm_init_14 (by decide) ?_
  refine va_newa (atype := .int) (N' := 200) (a0 := (200, .inl (fun _ => 0))) (ty := .int) (n := 200) hx hb (hts (.arrayClass .int) (wam0 10 rfl)) rfl hK hP hD hS hA (fun _ => rfl) (by decide) (by decide +kernel) (by decide +kernel) (Nat.le_of_ble_eq_true rfl) (Nat.le_of_ble_eq_true rfl) dNm_init_17 (fun q_3 cA_4 H hK hP hD hS => ?_)
  have hP : va_P (dC, dI) vwCl [(h0, .inr (3, [.ref q_1, .null, .null, .null, .int 0])), (q_3, .inl (cA_4, 200, .inl (fun _ => 0)))] H := hP
  have hD : va_D A [(h0, .inr (3, [.ref q_1, .null, .null, .null, .int 0])), (q_3, .inl (cA_4, 200, .inl (fun _ => 0)))] := hD
  have hK : va_K (dC, dI) vwCl [(cA_4, .int)] s := hK
  refine W.widen (k := 2) (n := 400) (by omega) (by omega) ?_
  refine va_putF (D := (dC, dI)) (ci := 3) (v := .ref q_3) (ty := .array .int) (C := "RunProver$Names") (T := TNm) (N := 5) hx hb hts (inNm _) tyNm tyNm_ok nmNm hown hK hP hD hS 0 rfl rfl 1 (by decide) (hts (.fieldLink "RunProver$Names" 13 "RunProver$Names" "sizes" "[I") (wam0 33 rfl)) (fun _ h9 => h9) rfl hin rfl (by decide +kernel) rfl rfl (Nat.le_of_ble_eq_true rfl) dNm_init_19 (fun H locs hP hD hS => ?_)
  have hP : va_P (dC, dI) vwCl [(h0, .inr (3, [.ref q_1, .ref q_3, .null, .null, .int 0])), (q_3, .inl (cA_4, 200, .inl (fun _ => 0)))] H := hP
  have hD : va_D A [(h0, .inr (3, [.ref q_1, .ref q_3, .null, .null, .int 0])), (q_3, .inl (cA_4, 200, .inl (fun _ => 0)))] := hD
  have hP := hP.sub (ws' := [(h0, .inr (3, [.ref q_1, .ref q_3, .null, .null, .int 0]))]) [0] rfl
  have hD := hD.sub (ws' := [(h0, .inr (3, [.ref q_1, .ref q_3, .null, .null, .int 0]))]) [0] (by decide) rfl
  have hK := hK.sub (tys' := []) [] rfl
  refine lv_aload_n hx hb dNm_init_22 rfl (lv_at hl 0 rfl) ?_
  refine lv_sipush (v := 200) hx hb dNm_init_23 (by decide) ?_
  refine va_newa (atype := .int) (N' := 200) (a0 := (200, .inl (fun _ => 0))) (ty := .int) (n := 200) hx hb (hts (.arrayClass .int) (wam0 10 rfl)) rfl hK hP hD hS hA (fun _ => rfl) (by decide) (by decide +kernel) (by decide +kernel) (Nat.le_of_ble_eq_true rfl) (Nat.le_of_ble_eq_true rfl) dNm_init_26 (fun q_5 cA_6 H hK hP hD hS => ?_)
  have hP : va_P (dC, dI) vwCl [(h0, .inr (3, [.ref q_1, .ref q_3, .null, .null, .int 0])), (q_5, .inl (cA_6, 200, .inl (fun _ => 0)))] H := hP
  have hD : va_D A [(h0, .inr (3, [.ref q_1, .ref q_3, .null, .null, .int 0])), (q_5, .inl (cA_6, 200, .inl (fun _ => 0)))] := hD
  have hK : va_K (dC, dI) vwCl [(cA_6, .int)] s := hK
  refine W.widen (k := 3) (n := 600) (by omega) (by omega) ?_
  refine va_putF (D := (dC, dI)) (ci := 3) (v := .ref q_5) (ty := .array .int) (C := "RunProver$Names") (T := TNm) (N := 5) hx hb hts (inNm _) tyNm tyNm_ok nmNm hown hK hP hD hS 0 rfl rfl 2 (by decide) (hts (.fieldLink "RunProver$Names" 16 "RunProver$Names" "kinds" "[I") (wam0 34 rfl)) (fun _ h9 => h9) rfl hin rfl (by decide +kernel) rfl rfl (Nat.le_of_ble_eq_true rfl) dNm_init_28 (fun H locs hP hD hS => ?_)
  have hP : va_P (dC, dI) vwCl [(h0, .inr (3, [.ref q_1, .ref q_3, .ref q_5, .null, .int 0])), (q_5, .inl (cA_6, 200, .inl (fun _ => 0)))] H := hP
  have hD : va_D A [(h0, .inr (3, [.ref q_1, .ref q_3, .ref q_5, .null, .int 0])), (q_5, .inl (cA_6, 200, .inl (fun _ => 0)))] := hD
  have hP := hP.sub (ws' := [(h0, .inr (3, [.ref q_1, .ref q_3, .ref q_5, .null, .int 0]))]) [0] rfl
  have hD := hD.sub (ws' := [(h0, .inr (3, [.ref q_1, .ref q_3, .ref q_5, .null, .int 0]))]) [0] (by decide) rfl
  have hK := hK.sub (tys' := []) [] rfl
  refine lv_aload_n hx hb dNm_init_31 rfl (lv_at hl 0 rfl) ?_
  refine lv_sipush (v := 200) hx hb dNm_init_32 (by decide) ?_
  refine va_newa (atype := .int) (N' := 200) (a0 := (200, .inl (fun _ => 0))) (ty := .int) (n := 200) hx hb (hts (.arrayClass .int) (wam0 10 rfl)) rfl hK hP hD hS hA (fun _ => rfl) (by decide) (by decide +kernel) (by decide +kernel) (Nat.le_of_ble_eq_true rfl) (Nat.le_of_ble_eq_true rfl) dNm_init_35 (fun q_7 cA_8 H hK hP hD hS => ?_)
  have hP : va_P (dC, dI) vwCl [(h0, .inr (3, [.ref q_1, .ref q_3, .ref q_5, .null, .int 0])), (q_7, .inl (cA_8, 200, .inl (fun _ => 0)))] H := hP
  have hD : va_D A [(h0, .inr (3, [.ref q_1, .ref q_3, .ref q_5, .null, .int 0])), (q_7, .inl (cA_8, 200, .inl (fun _ => 0)))] := hD
  have hK : va_K (dC, dI) vwCl [(cA_8, .int)] s := hK
  refine W.widen (k := 4) (n := 800) (by omega) (by omega) ?_
  refine va_putF (D := (dC, dI)) (ci := 3) (v := .ref q_7) (ty := .array .int) (C := "RunProver$Names") (T := TNm) (N := 5) hx hb hts (inNm _) tyNm tyNm_ok nmNm hown hK hP hD hS 0 rfl rfl 3 (by decide) (hts (.fieldLink "RunProver$Names" 19 "RunProver$Names" "numbers" "[I") (wam0 35 rfl)) (fun _ h9 => h9) rfl hin rfl (by decide +kernel) rfl rfl (Nat.le_of_ble_eq_true rfl) dNm_init_37 (fun H locs hP hD hS => ?_)
  have hP : va_P (dC, dI) vwCl [(h0, .inr (3, [.ref q_1, .ref q_3, .ref q_5, .ref q_7, .int 0])), (q_7, .inl (cA_8, 200, .inl (fun _ => 0)))] H := hP
  have hD : va_D A [(h0, .inr (3, [.ref q_1, .ref q_3, .ref q_5, .ref q_7, .int 0])), (q_7, .inl (cA_8, 200, .inl (fun _ => 0)))] := hD
  have hP := hP.sub (ws' := [(h0, .inr (3, [.ref q_1, .ref q_3, .ref q_5, .ref q_7, .int 0]))]) [0] rfl
  have hD := hD.sub (ws' := [(h0, .inr (3, [.ref q_1, .ref q_3, .ref q_5, .ref q_7, .int 0]))]) [0] (by decide) rfl
  have hK := hK.sub (tys' := []) [] rfl
  have hP9 := hP.sub (ws' := [(h0, .inr (3, [.ref q_1, .ref q_3, .ref q_5, .ref q_7, .int 0]))]) [0] rfl
  have hD9 := hD.sub (ws' := [(h0, .inr (3, [.ref q_1, .ref q_3, .ref q_5, .ref q_7, .int 0]))]) [0] (by decide) rfl
  have hK9 := hK.sub (tys' := []) [] rfl
  exact W.vret hx hb hr (fun t ht hW => ⟨⟨(), rfl, trivial, q_1, q_3, q_5, q_7, by rw [ht]; exact hP9, va_K.moved hW.alike hK9, hD9⟩, hS.F ht⟩) hS.2.2 dNm_init_40
set_option maxHeartbeats 4000000 in
set_option maxRecDepth 100000 in
theorem c_Tk_init (l : Launch) (dC : Nat → ClassId) (dI : Nat → Nat → Nat) (sz : Nat) (h0 : Nat) (h1 : Nat) : Met l yTk_init wsTk_init ({ frames := 1, cells := 3, slots := 24006, locals := 12 }) (va_Pc [.ref h0, .ref h1] (fun U => U.heap.size = sz ∧ va_P (dC, dI) vwCl [(h0, .inr (4, [.null, .null, .null, .null, .int 0, .int 0, .int 0, .int 0, .int 0, .int 0, .int 0, .int 0]))] U.heap ∧ va_K (dC, dI) vwCl [] U ∧ va_D (fun _ => True) [(h0, .inr (4, [.null, .null, .null, .null, .int 0, .int 0, .int 0, .int 0, .int 0, .int 0, .int 0, .int 0]))])) (va_Qv (fun _ : Unit => True) (fun (_ : Unit) (t : State) => ∃ (q_1 : Nat) (q_3 : Nat) (q_5 : Nat) (cA_2 : ClassId) (cA_4 : ClassId) (cA_6 : ClassId), va_P (dC, dI) vwCl [(h0, .inr (4, [.ref q_1, .ref q_3, .ref q_5, .ref h1, .int 0, .int 0, .int 0, .int 0, .int 0, .int 0, .int 0, .int 0])), (q_1, .inl (cA_2, 8002, .inl (fun _ => 0))), (q_3, .inl (cA_4, 8002, .inl (fun _ => 0))), (q_5, .inl (cA_6, 8002, .inl (fun _ => 0)))] t.heap ∧ va_K (dC, dI) vwCl [(cA_2, .int), (cA_4, .int), (cA_6, .int)] t ∧ va_D (va_A [(h0, .inr (4, [.null, .null, .null, .null, .int 0, .int 0, .int 0, .int 0, .int 0, .int 0, .int 0, .int 0]))] sz) [(h0, .inr (4, [.ref q_1, .ref q_3, .ref q_5, .ref h1, .int 0, .int 0, .int 0, .int 0, .int 0, .int 0, .int 0, .int 0])), (q_1, .inl (cA_2, 8002, .inl (fun _ => 0))), (q_3, .inl (cA_4, 8002, .inl (fun _ => 0))), (q_5, .inl (cA_6, 8002, .inl (fun _ => 0)))]) (va_A [(h0, .inr (4, [.null, .null, .null, .null, .int 0, .int 0, .int 0, .int 0, .int 0, .int 0, .int 0, .int 0]))] sz)) 3 24006 (va_A [(h0, .inr (4, [.null, .null, .null, .null, .int 0, .int 0, .int 0, .int 0, .int 0, .int 0, .int 0, .int 0]))] sz) := by
  refine Met.ofW (cc := cTk_init) (maxL := 2) (ret := none) (by decide) rfl ?_
  intro p e s m args below meth c s₁ B hml hv
  obtain ⟨rfl, hsz, hP, hK, hD0⟩ := hv
  have hx := B.exec
  have hb := B.bytes
  have hr := B.returns
  have hts := atoms_spec (ws := wsTk_init) B.pre
  have hown : s.vm.findClass "RunProver$Tokens" = some m.cls := findClass_of_methodNamed B.named
  have hlocks := B.notSynchronized
  have hin : meth.name = "<init>" := (name_of_methodNamed B.named B.method).1
  subst hsz
  have hD := hD0.self (sz := s.heap.size)
  generalize hAe : va_A [(h0, .inr (4, [.null, .null, .null, .null, .int 0, .int 0, .int 0, .int 0, .int 0, .int 0, .int 0, .int 0]))] s.heap.size = A at hD ⊢
  have hA : ∀ q : Nat, s.heap.size ≤ q → A q := fun q h => by rw [← hAe]; exact Or.inr h
  have hS : va_S A s.heap s.heap [] := va_S.rf
  have hP : va_P (dC, dI) vwCl [(h0, .inr (4, [.null, .null, .null, .null, .int 0, .int 0, .int 0, .int 0, .int 0, .int 0, .int 0, .int 0]))] s.heap := hP
  have hl := lv_entry ([.ref h0, .ref h1]) (n := 2) (Nat.le_of_ble_eq_true rfl)
  rw [lg_entry_eq]
  generalize (lg_sl ([.ref h0, .ref h1]) ++ List.replicate (2 - (lg_sl ([.ref h0, .ref h1])).length) Slot.unset).toArray = ls at hl ⊢
  have hl : lv_has ls 2 [(0, .ref h0), (1, .ref h1)] := hl
  refine lv_aload_n hx hb dTk_init_0 rfl (lv_at hl 0 rfl) ?_
  refine W.objInit hx hb hown (hts (.methodLink "RunProver$Tokens" 1 objectInit) (wam1 4 rfl)) (hts (.instanceMethod objectInit) (wam0 1 rfl)) (hts (.code objectInit ⟨#[0xb1]⟩ 1 none) (wam0 2 rfl)) rfl (by rw [hml]; exact hl.1) rfl dTk_init_1 (Nat.le_of_ble_eq_true rfl) (Nat.le_of_ble_eq_true rfl) ?_
  refine W.eq (g2 := F0 m 4 ls []) rfl ?_
  refine lv_aload_n hx hb dTk_init_4 rfl (lv_at hl 0 rfl) ?_
  refine lv_sipush (v := 8002) hx hb dTk_init_5 (by decide) ?_
  refine va_newa (atype := .int) (N' := 8002) (a0 := (8002, .inl (fun _ => 0))) (ty := .int) (n := 8002) hx hb (hts (.arrayClass .int) (wam0 10 rfl)) rfl hK hP hD hS hA (fun _ => rfl) (by decide) (by decide +kernel) (by decide +kernel) (Nat.le_of_ble_eq_true rfl) (Nat.le_of_ble_eq_true rfl) dTk_init_8 (fun q_1 cA_2 H hK hP hD hS => ?_)
  have hP : va_P (dC, dI) vwCl [(h0, .inr (4, [.null, .null, .null, .null, .int 0, .int 0, .int 0, .int 0, .int 0, .int 0, .int 0, .int 0])), (q_1, .inl (cA_2, 8002, .inl (fun _ => 0)))] H := hP
  have hD : va_D A [(h0, .inr (4, [.null, .null, .null, .null, .int 0, .int 0, .int 0, .int 0, .int 0, .int 0, .int 0, .int 0])), (q_1, .inl (cA_2, 8002, .inl (fun _ => 0)))] := hD
  have hK : va_K (dC, dI) vwCl [(cA_2, .int)] s := hK
  refine W.widen (k := 1) (n := 8002) (by omega) (by omega) ?_
  refine va_putF (D := (dC, dI)) (ci := 4) (v := .ref q_1) (ty := .array .int) (C := "RunProver$Tokens") (T := TTk) (N := 12) hx hb hts (inTk _) tyTk tyTk_ok nmTk hown hK hP hD hS 0 rfl rfl 0 (by decide) (hts (.fieldLink "RunProver$Tokens" 9 "RunProver$Tokens" "kinds" "[I") (wam1 5 rfl)) (fun _ h9 => h9) rfl hin rfl (by decide +kernel) rfl rfl (Nat.le_of_ble_eq_true rfl) dTk_init_10 (fun H locs hP hD hS => ?_)
  have hP : va_P (dC, dI) vwCl [(h0, .inr (4, [.ref q_1, .null, .null, .null, .int 0, .int 0, .int 0, .int 0, .int 0, .int 0, .int 0, .int 0])), (q_1, .inl (cA_2, 8002, .inl (fun _ => 0)))] H := hP
  have hD : va_D A [(h0, .inr (4, [.ref q_1, .null, .null, .null, .int 0, .int 0, .int 0, .int 0, .int 0, .int 0, .int 0, .int 0])), (q_1, .inl (cA_2, 8002, .inl (fun _ => 0)))] := hD
  refine lv_aload_n hx hb dTk_init_13 rfl (lv_at hl 0 rfl) ?_
  refine lv_sipush (v := 8002) hx hb dTk_init_14 (by decide) ?_
  refine va_newa (atype := .int) (N' := 8002) (a0 := (8002, .inl (fun _ => 0))) (ty := .int) (n := 8002) hx hb (hts (.arrayClass .int) (wam0 10 rfl)) rfl hK hP hD hS hA (fun _ => rfl) (by decide) (by decide +kernel) (by decide +kernel) (Nat.le_of_ble_eq_true rfl) (Nat.le_of_ble_eq_true rfl) dTk_init_17 (fun q_3 cA_4 H hK hP hD hS => ?_)
  have hP : va_P (dC, dI) vwCl [(h0, .inr (4, [.ref q_1, .null, .null, .null, .int 0, .int 0, .int 0, .int 0, .int 0, .int 0, .int 0, .int 0])), (q_1, .inl (cA_2, 8002, .inl (fun _ => 0))), (q_3, .inl (cA_4, 8002, .inl (fun _ => 0)))] H := hP
  have hD : va_D A [(h0, .inr (4, [.ref q_1, .null, .null, .null, .int 0, .int 0, .int 0, .int 0, .int 0, .int 0, .int 0, .int 0])), (q_1, .inl (cA_2, 8002, .inl (fun _ => 0))), (q_3, .inl (cA_4, 8002, .inl (fun _ => 0)))] := hD
  have hK : va_K (dC, dI) vwCl [(cA_2, .int), (cA_4, .int)] s := hK
  refine W.widen (k := 2) (n := 16004) (by omega) (by omega) ?_
  refine va_putF (D := (dC, dI)) (ci := 4) (v := .ref q_3) (ty := .array .int) (C := "RunProver$Tokens") (T := TTk) (N := 12) hx hb hts (inTk _) tyTk tyTk_ok nmTk hown hK hP hD hS 0 rfl rfl 1 (by decide) (hts (.fieldLink "RunProver$Tokens" 13 "RunProver$Tokens" "places" "[I") (wam1 6 rfl)) (fun _ h9 => h9) rfl hin rfl (by decide +kernel) rfl rfl (Nat.le_of_ble_eq_true rfl) dTk_init_19 (fun H locs hP hD hS => ?_)
  have hP : va_P (dC, dI) vwCl [(h0, .inr (4, [.ref q_1, .ref q_3, .null, .null, .int 0, .int 0, .int 0, .int 0, .int 0, .int 0, .int 0, .int 0])), (q_1, .inl (cA_2, 8002, .inl (fun _ => 0))), (q_3, .inl (cA_4, 8002, .inl (fun _ => 0)))] H := hP
  have hD : va_D A [(h0, .inr (4, [.ref q_1, .ref q_3, .null, .null, .int 0, .int 0, .int 0, .int 0, .int 0, .int 0, .int 0, .int 0])), (q_1, .inl (cA_2, 8002, .inl (fun _ => 0))), (q_3, .inl (cA_4, 8002, .inl (fun _ => 0)))] := hD
  refine lv_aload_n hx hb dTk_init_22 rfl (lv_at hl 0 rfl) ?_
  refine lv_sipush (v := 8002) hx hb dTk_init_23 (by decide) ?_
  refine va_newa (atype := .int) (N' := 8002) (a0 := (8002, .inl (fun _ => 0))) (ty := .int) (n := 8002) hx hb (hts (.arrayClass .int) (wam0 10 rfl)) rfl hK hP hD hS hA (fun _ => rfl) (by decide) (by decide +kernel) (by decide +kernel) (Nat.le_of_ble_eq_true rfl) (Nat.le_of_ble_eq_true rfl) dTk_init_26 (fun q_5 cA_6 H hK hP hD hS => ?_)
  have hP : va_P (dC, dI) vwCl [(h0, .inr (4, [.ref q_1, .ref q_3, .null, .null, .int 0, .int 0, .int 0, .int 0, .int 0, .int 0, .int 0, .int 0])), (q_1, .inl (cA_2, 8002, .inl (fun _ => 0))), (q_3, .inl (cA_4, 8002, .inl (fun _ => 0))), (q_5, .inl (cA_6, 8002, .inl (fun _ => 0)))] H := hP
  have hD : va_D A [(h0, .inr (4, [.ref q_1, .ref q_3, .null, .null, .int 0, .int 0, .int 0, .int 0, .int 0, .int 0, .int 0, .int 0])), (q_1, .inl (cA_2, 8002, .inl (fun _ => 0))), (q_3, .inl (cA_4, 8002, .inl (fun _ => 0))), (q_5, .inl (cA_6, 8002, .inl (fun _ => 0)))] := hD
  have hK : va_K (dC, dI) vwCl [(cA_2, .int), (cA_4, .int), (cA_6, .int)] s := hK
  refine W.widen (k := 3) (n := 24006) (by omega) (by omega) ?_
  refine va_putF (D := (dC, dI)) (ci := 4) (v := .ref q_5) (ty := .array .int) (C := "RunProver$Tokens") (T := TTk) (N := 12) hx hb hts (inTk _) tyTk tyTk_ok nmTk hown hK hP hD hS 0 rfl rfl 2 (by decide) (hts (.fieldLink "RunProver$Tokens" 16 "RunProver$Tokens" "details" "[I") (wam1 7 rfl)) (fun _ h9 => h9) rfl hin rfl (by decide +kernel) rfl rfl (Nat.le_of_ble_eq_true rfl) dTk_init_28 (fun H locs hP hD hS => ?_)
  have hP : va_P (dC, dI) vwCl [(h0, .inr (4, [.ref q_1, .ref q_3, .ref q_5, .null, .int 0, .int 0, .int 0, .int 0, .int 0, .int 0, .int 0, .int 0])), (q_1, .inl (cA_2, 8002, .inl (fun _ => 0))), (q_3, .inl (cA_4, 8002, .inl (fun _ => 0))), (q_5, .inl (cA_6, 8002, .inl (fun _ => 0)))] H := hP
  have hD : va_D A [(h0, .inr (4, [.ref q_1, .ref q_3, .ref q_5, .null, .int 0, .int 0, .int 0, .int 0, .int 0, .int 0, .int 0, .int 0])), (q_1, .inl (cA_2, 8002, .inl (fun _ => 0))), (q_3, .inl (cA_4, 8002, .inl (fun _ => 0))), (q_5, .inl (cA_6, 8002, .inl (fun _ => 0)))] := hD
  refine lv_aload_n hx hb dTk_init_31 rfl (lv_at hl 0 rfl) ?_
  refine lv_aload_n hx hb dTk_init_32 rfl (lv_at hl 1 rfl) ?_
  refine va_putF (D := (dC, dI)) (ci := 4) (v := .ref h1) (ty := .array .byte) (C := "RunProver$Tokens") (T := TTk) (N := 12) hx hb hts (inTk _) tyTk tyTk_ok nmTk hown hK hP hD hS 0 rfl rfl 3 (by decide) (hts (.fieldLink "RunProver$Tokens" 19 "RunProver$Tokens" "text" "[B") (wam1 8 rfl)) (fun _ h9 => h9) rfl hin rfl (by decide +kernel) rfl rfl (Nat.le_of_ble_eq_true rfl) dTk_init_33 (fun H locs hP hD hS => ?_)
  have hP : va_P (dC, dI) vwCl [(h0, .inr (4, [.ref q_1, .ref q_3, .ref q_5, .ref h1, .int 0, .int 0, .int 0, .int 0, .int 0, .int 0, .int 0, .int 0])), (q_1, .inl (cA_2, 8002, .inl (fun _ => 0))), (q_3, .inl (cA_4, 8002, .inl (fun _ => 0))), (q_5, .inl (cA_6, 8002, .inl (fun _ => 0)))] H := hP
  have hD : va_D A [(h0, .inr (4, [.ref q_1, .ref q_3, .ref q_5, .ref h1, .int 0, .int 0, .int 0, .int 0, .int 0, .int 0, .int 0, .int 0])), (q_1, .inl (cA_2, 8002, .inl (fun _ => 0))), (q_3, .inl (cA_4, 8002, .inl (fun _ => 0))), (q_5, .inl (cA_6, 8002, .inl (fun _ => 0)))] := hD
  have hP9 := hP.sub (ws' := [(h0, .inr (4, [.ref q_1, .ref q_3, .ref q_5, .ref h1, .int 0, .int 0, .int 0, .int 0, .int 0, .int 0, .int 0, .int 0])), (q_1, .inl (cA_2, 8002, .inl (fun _ => 0))), (q_3, .inl (cA_4, 8002, .inl (fun _ => 0))), (q_5, .inl (cA_6, 8002, .inl (fun _ => 0)))]) [0, 1, 2, 3] rfl
  have hD9 := hD.sub (ws' := [(h0, .inr (4, [.ref q_1, .ref q_3, .ref q_5, .ref h1, .int 0, .int 0, .int 0, .int 0, .int 0, .int 0, .int 0, .int 0])), (q_1, .inl (cA_2, 8002, .inl (fun _ => 0))), (q_3, .inl (cA_4, 8002, .inl (fun _ => 0))), (q_5, .inl (cA_6, 8002, .inl (fun _ => 0)))]) [0, 1, 2, 3] (by decide) rfl
  have hK9 := hK.sub (tys' := [(cA_2, .int), (cA_4, .int), (cA_6, .int)]) [0, 1, 2] rfl
  exact W.vret hx hb hr (fun t ht hW => ⟨⟨(), rfl, trivial, q_1, q_3, q_5, cA_2, cA_4, cA_6, by rw [ht]; exact hP9, va_K.moved hW.alike hK9, hD9⟩, hS.F ht⟩) hS.2.2 dTk_init_36
