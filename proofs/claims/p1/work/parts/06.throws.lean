/-! own rows: methods that throw, and their callers that catch; launches without stack traces -/
/-- a state that has all that s0 had: its tables no colder, its old cells as they were -/
def tx_At (s0 U : State) : Prop := s0.WarmedH U.vm ∧ s0.heap.size ≤ U.heap.size ∧ ∀ q : Nat, q < s0.heap.size → U.heap[q]? = s0.heap[q]?
theorem tx_good {s0 U : State} {a0 a : Array Value} {w : Cond} (h : tx_At s0 U) (hg : goodWord w = true) (hw : w.before a0 s0 = true) : w.before a U = true := word_at h.1 (good_of_word hg) hw
theorem tx_cast {s0 U : State} {a0 a : Array Value} {C D : String} (h : tx_At s0 U) (hw : (Cond.castable C D).before a0 s0 = true) : (Cond.castable C D).before a U = true := va_Nw.use rfl (va_Nw.warmC h.1 (va_Nw.of rfl hw))
theorem tx_decl {s0 U : State} {a0 a : Array Value} {x : MethodName} (h : tx_At s0 U) (hw : (Cond.declares x).before a0 s0 = true) : (Cond.declares x).before a U = true := va_Nw.use rfl (va_Nw.warmD h.1 (va_Nw.of rfl hw))
theorem tx_lays {s0 U : State} {a0 a : Array Value} {C n d : String} (h : tx_At s0 U) (hw : (Cond.laysStatic C n d).before a0 s0 = true) : (Cond.laysStatic C n d).before a U = true := by
  obtain ⟨c, k, i, f, ad, cell, h1, h2, h3, h4, h5, h6, h7, h8, h9⟩ := Cond.laysStatic_spec hw
  obtain ⟨k', hi', he⟩ := State.fieldFound?_setVm h.1.alike h2
  have h5' : U.heap[ad]? = some cell := by rw [h.2.2 ad (Array.getElem?_eq_some_iff.mp h5).1]; exact h5
  exact Cond.laysStatic_of (by rw [h.1.alike.findClass]; exact h1) hi' h3 (by rw [he]; exact h4) h5' h6 h7 h8 (by rw [he]; exact h9)
theorem tx_ref {s0 U : State} {a0 a : Array Value} {C n d : String} (h : tx_At s0 U) (hl : (Cond.laysStatic C n d).before a0 s0 = true) (hi : (Cond.initialized C).before a0 s0 = true) (hw : (Cond.isRef (.static C n d)).before a0 s0 = true) : (Cond.isRef (.static C n d)).before a U = true := by
  have z : va_Zq C n d (fun _ => False) U U.heap := va_Zq.moved h.1.alike (va_Zq.kept (va_Zqof (A := fun _ => False) hl hi hw (fun _ _ hf => hf)) (fun q hq _ => h.2.2 q hq))
  have key : ∀ v : Value, v.isRef = true → va_Z C n d v (fun _ => False) U U.heap → (Cond.isRef (.static C n d)).before a U = true := by
    intro v hv hz
    obtain ⟨cf, kf, fi, f, ad, cell, h1, h2, h3, h4, h5, h6, h7, -⟩ := hz
    have he : (Term.static C n d).eval a U none [] U = some v := by simp [Term.eval, State.fieldNamed?, h1, h2, h4, h5, h6, h7]
    simp only [Cond.before, Cond.holds, Cond.value, he]
    cases v <;> simp_all [Value.isRef]
  rcases z with z | ⟨t, z⟩
  · exact key _ rfl z
  · exact key _ rfl z
/-- words that can be carried on to a later state -/
def tx_kind (L : List Cond) : Cond → Bool
  | .castable _ _ => true
  | .declares _ => true
  | .laysStatic _ _ _ => true
  | .isRef (.static C n d) => decide (Cond.laysStatic C n d ∈ L) && decide (Cond.initialized C ∈ L)
  | w => goodWord w
theorem tx_all {s0 U : State} {a0 a : Array Value} {L : List Cond} (h : tx_At s0 U) (h0 : ∀ w ∈ L, w.before a0 s0 = true) (hk : L.all (tx_kind L) = true) : ∀ w ∈ L, w.before a U = true := by
  intro w hw
  have h1 := List.all_eq_true.mp hk w hw
  have h2 := h0 w hw
  unfold tx_kind at h1
  split at h1
  · exact tx_cast h h2
  · exact tx_decl h h2
  · exact tx_lays h h2
  · simp only [Bool.and_eq_true, decide_eq_true_eq] at h1
    exact tx_ref h (h0 _ h1.1) (h0 _ h1.2) h2
  · exact tx_good h h1 h2
theorem tx_frame {s U : State} {locs : List Loc} {k n : Nat} (h : s.sameButNew ({ U with vm := s.vm } : State) locs k n) : s.heap.size ≤ U.heap.size ∧ ∀ q : Nat, q < s.heap.size → (∀ z ∈ locs, z.base ≠ q) → U.heap[q]? = s.heap[q]? := by
  obtain ⟨-, h2, -, -, -, h6⟩ := h
  refine ⟨h2, fun q hq hz => ?_⟩
  obtain ⟨c9, e1, e2, -, e4⟩ := h6 q _ (Array.getElem?_eq_getElem hq)
  have hs : c9.slots = (s.heap[q]).slots := Array.ext_getElem? fun i => e4 i fun hm => hz _ hm rfl
  rw [hs] at e2
  have e5 : U.heap[q]? = some c9 := e1
  rw [e5, Array.getElem?_eq_getElem hq]
  exact congrArg some e2
/-- it has thrown an E: where, what was made, what was written -/
def tx_Q (E : String) (A : Nat → Prop) (mc ms : Nat) (free : Addr → Prop) : Array Value → State → Outcome → State → Prop := fun _ st o t =>
  ∃ (q : Addr) (ce : Cell) (L : List Loc), o = .threw q ∧ va_F A st t ∧ t.heap[q]? = some ce ∧ ce.vm = .none ∧ st.vm.findClass E = some ce.cls ∧ st.WarmedH t.vm ∧ st.sameButNew ({ t with vm := st.vm } : State) L mc ms ∧ ∀ z ∈ L, free z.base
def tx_Met (l : Launch) (y : MethodName) (ws : List Cond) (rm : Room) (Pc : Array Value → State → Prop) (E : String) (A : Nat → Prop) (mc ms : Nat) (free : Addr → Prop) : Prop :=
  MetFree l y (headSpec ws rm) Pc (fun _ _ _ _ _ => True) (tx_Q E A mc ms free)
def tx_End (below : List Frame) (E : String) (A : Nat → Prop) (a : Array Value) (s : State) (mc ms : Nat) (free : Addr → Prop) : State → Prop := fun t =>
  ∃ o, t.status = .running ∧ Ended t below o ∧ tx_Q E A mc ms free a s o t
theorem tx_ofW {l : Launch} {y : MethodName} {ws ws' : List Cond} {rm : Room} {Pc : Array Value → State → Prop} {E : String} {A : Nat → Prop} {mc ms : Nat} {free : Addr → Prop} {cc : ByteArray} {maxL : Nat} {ret : Option FieldType}
    (hy : plainName y.cls = true) (hw : ws = Cond.code y cc maxL ret :: ws')
    (body : ∀ p e s m args below meth c s₁, BodyLoose p l y (headSpec ws rm) cc maxL ret e s m args below meth c s₁ → c.maxLocals = maxL → (∀ x ∈ c.exceptionTable.toList, False) → Pc args s →
      W p l e (headSpec ws rm).room s m args below meth c s.heap [] 0 0 (tx_End below E A args s mc ms free) (entryFrame m args maxL)) : tx_Met l y ws rm Pc E A mc ms free := by
  refine MetFree.of_bodyS (code := cc) (maxLocals := maxL) (ret := ret) hy ?_ ?_
  · intro args s m h hn
    obtain ⟨meth, c, h1, h2, h3, h4, h5, h6, -, -⟩ := Cond.code_spec hn (atoms_spec (ws := ws) h _ (by rw [hw]; exact List.mem_cons_self))
    exact ⟨meth, c, h1, h2, h3, h4, h5, h6⟩
  · intro p e s m args below meth c s₁ B hml hP _
    have hh0 : s₁.heap = s.heap := by rw [B.state]; rfl
    have ht : ∀ x ∈ c.exceptionTable.toList, False := by
      obtain ⟨meth9, c9, h1, h2, -, -, -, -, h7, -⟩ := Cond.code_spec B.named (atoms_spec (ws := ws) B.pre _ (by rw [hw]; exact List.mem_cons_self))
      cases Option.some.inj (h1.symm.trans B.method)
      cases Option.some.inj (h2.symm.trans (Stand.of_body B).code)
      intro x hx
      rw [Array.isEmpty_iff.mp h7] at hx
      cases hx
    obtain ⟨t, a1, o, b1, b2, b3⟩ := body p e s m args below meth c s₁ B hml ht hP s₁ hh0 (Stand.of_body B)
    exact ⟨t, o, a1, b1, b2, b3⟩
theorem tx_locs {D : va_G} {cl : List vw_C} {tys : List (ClassId × FieldType)} {ws : va_W} {s : State} {locs : List Loc} (hK : va_K D cl tys s) (hP : va_P D cl ws s.heap) (h : ∀ z ∈ locs, va_A ws s.heap.size z.base) : ∀ x ∈ locs, ∀ cell, s.heap[x.base]? = some cell → cell.vm.isStatics = false := by
  intro x hx cell hc
  rcases h x hx with ⟨k, e, hk⟩ | h9
  · have h1 := hP k _ hk
    rcases e with ⟨cA, a⟩ | ⟨ci, fs⟩
    · have h2 : s.heap[x.base]? = some (vp_cell cA a) := h1
      rw [hc] at h2
      cases h2
      unfold vp_cell
      split <;> rfl
    · obtain ⟨r, hr, -⟩ := id h1
      obtain ⟨cell9, h2, h3, -⟩ := va_recv (q0 := k) (ci := ci) (fs := fs) (q := r) hK hP hr hk
      rw [hc] at h2
      cases h2
      exact h3
  · have h2 := (Array.getElem?_eq_some_iff.mp hc).1
    exact absurd h9 (Nat.not_le.mpr h2)
section TxRows
variable {p : Program} {l : Launch} {e : Env} {R : Room} {s : State} {m : MethodId} {args : Array Value} {below : List Frame} {meth : Method} {c : Code} {H : Heap} {locs : List Loc} {cells slots : Nat} {Q : State → Prop}
/-- 'throw new E("text")' to the method's end: new; dup; ldc; invokespecial; athrow -/
theorem tx_throwS {cc : ByteArray} {pc : Nat} {ls : Array Slot} {rest : List Value} (hexec : p.tables.exec = Jvm.exec) (hb : c.code = cc) (hl : l.stackTraces = false) {own cls text : String} {names : List String} {ik is ic sa : Nat} {A : Nat → Prop} {free : Addr → Prop}
    (hown : s.vm.findClass own = some m.cls) (hcls : Bundle.fit cls = true) (hnames : ∀ n ∈ names, Bundle.fit n = true)
    (hk : (Cond.classLink own ik cls).before args s = true) (hini : (Cond.initialized cls).before args s = true) (hstr : vk_R own is text sa s) (hat : ∀ w ∈ Bundle.ownAtoms own ic cls names, w.before args s = true)
    (hlocs : ∀ x ∈ locs, ∀ cell, s.heap[x.base]? = some cell → cell.vm.isStatics = false) (hgrow : s.heap.size ≤ H.size) (hA : ∀ z ∈ locs, A z.base) (hfree : ∀ z ∈ locs, free z.base) (hsize : ls.size = c.maxLocals)
    (d0 : decode cc pc = .ok (.new ik, 3)) (d3 : decode cc (pc + 3) = .ok (.dup, 1)) (d4 : decode cc (pc + 4) = .ok (.ldc is, 2)) (d6 : decode cc (pc + 6) = .ok (.invokespecial ic, 3)) (d9 : decode cc (pc + 9) = .ok (.athrow, 1))
    (hout : ∀ x ∈ c.exceptionTable.toList, False)
    (hRframes : names.length + 3 < R.frames) (hRlocals : (rest.map fun v => v.category).sum + (13 * (names.length + 1) + 43) ≤ R.locals) (hRcells : cells + 1 ≤ R.cells) (hRslots : slots + 6 ≤ R.slots) (hlocks : meth.locks = false) :
    W p l e R s m args below meth c H locs cells slots (tx_End below cls A args s (cells + 1) (slots + 6) free) (F0 m pc ls rest) := by
  intro T hT X
  have htr : e.platform.stackTraces = false := (show e.platform.stackTraces = l.stackTraces by rw [X.admits.platform]).trans hl
  have hins : (Cond.instantiable cls 6).before args s = true := hat _ (by simp [Bundle.ownAtoms])
  obtain ⟨vm₁, cX, kX, hfX, hkX, -, -, X₁, st1⟩ := X.newCold hexec (own := own) (C := cls) (index := ik) (n := 6) hown hk hins hini (g := F0 m pc ls rest) rfl (by rw [hb]; exact d0) hRcells hRslots
  generalize hT1 : (T.setVm vm₁).pushCell { cls := cX, slots := kX.instanceTypes.map defaultValue, vm := .none } = T1 at X₁ st1
  have hcellA : T1.heap[T.heap.size]? = some (freshCell cX kX) := by rw [← hT1]; exact State.heap_pushCell_size _ _
  have hcat : (Value.ref T.heap.size).category = 1 := rfl
  have d3' : decode c.code (pc + 3) = .ok (.dup, 1) := by rw [hb]; exact d3
  have d4' : decode c.code (pc + 4) = .ok (.ldc is, 2) := by rw [hb]; exact d4
  obtain ⟨U, hsteps, hrun, hend, hW, hsame, ce, hce, hO⟩ := X₁.ctorThrowS hexec htr (own := own) (cls := cls) (names := names) (ic := ic) hown hcls hnames hat hlocs hfX hkX hcellA (by rw [hT]; exact hgrow) (msg := .ref sa) rfl
    (g := { method := m, pc := pc + 6, locals := ls, stack := .ref sa :: .ref T.heap.size :: .ref T.heap.size :: rest, locked := none }) rfl hsize rfl rfl (rest := rest) rfl
    (by rw [hb]; exact d6) (by rw [hb]; exact d9) (fun x hx => (hout x hx).elim) hRframes (by simp only [List.map_cons, List.sum_cons, hcat]; show 2 * 0 + _ + _ ≤ _; omega) hlocks
  obtain ⟨f1, f2⟩ := tx_frame hsame
  have hcl : s.vm.findClass cls = some ce.cls := hO.cls
  refine ⟨U, ?_, .threw T.heap.size, hrun, hend, T.heap.size, ce, locs, rfl, ⟨f1, fun q hq hn => f2 q hq (fun z hz e9 => hn (by rw [← e9]; exact hA z hz))⟩, hce, hO.vm, hcl, hW, hsame, hfree⟩
  refine st1 _ ?_
  show Steps p.tables e below (T1.setTop { method := m, pc := pc + 3, locals := ls, stack := .ref T.heap.size :: rest, locked := none }) _
  jvm_step X₁.here [X₁.here.top, hexec, d3', Value.category]
  exact X₁.ldcString hexec (own := own) (text := text) (index := is) (a := sa) hown hstr.1 hstr.2
    (g := { method := m, pc := pc + 4, locals := ls, stack := .ref T.heap.size :: .ref T.heap.size :: rest, locked := none }) rfl d4' _ hsteps
/-- a call of a method that throws an E, caught here by the table's first row -/
theorem tx_catchV {y : MethodName} {bytes cc : ByteArray} {maxL nL mc ms n index : Nat} {ret : Option FieldType} {ws : List Cond} {rm : Room} {Pc : Array Value → State → Prop} {E : String} {A1 : Nat → Prop} {free : Addr → Prop} {Ts : List Cond} {own C : String} {b : Addr} {As rest st0 : List Value} {pc : Nat} {ls : Array Slot}
    (S : CallFix p m c cc nL s args Ts own) (hM : tx_Met l y ws rm Pc E A1 mc ms free) (cw : CallW R s args own C index y bytes maxL ret ws rm mc ms n) (hp : PreV s H C b Pc As)
    (hn : As.length = n) (hsize : ls.size = nL) (hstack : st0 = As.reverse ++ .ref b :: rest) (hW : (rest.map fun v => v.category).sum ≤ 8) (hdg : decode cc pc = .ok (.invokevirtual index, 3)) (hf : cells + mc ≤ R.cells ∧ slots + ms ≤ R.slots)
    {A0 : Nat → Prop} {H0 : Heap} (hS : va_S A0 H0 H locs) (hA : ∀ q, q < H.size → A1 q → A0 q) (hfree : ∀ q, free q → A0 q)
    {name : String} (x : ExceptionTableEntry) (suf : List ExceptionTableEntry) (hsplit : c.exceptionTable.toList = x :: suf) (hx : covers x pc = true) (h0 : x.catchType ≠ 0)
    (hclink : (Cond.classLink own x.catchType name).before args s = true) (hcast : (Cond.castable E name).before args s = true)
    (kx : ∀ (q9 : Addr) (H1 : Heap) (locs1 : List Loc), H.size ≤ H1.size → (∀ q : Nat, q < H.size → ¬ A1 q → H1[q]? = H[q]?) → va_S A0 H0 H1 locs1 → W p l e R s m args below meth c H1 locs1 (cells + mc) (slots + ms) Q (F0 m x.handlerPc ls [.ref q9])) :
    W p l e R s m args below meth c H locs cells slots Q (F0 m pc ls st0) := by
  intro T hT X
  obtain ⟨⟨hrc, hrs, hframes, hlocals, hws, hcw, hcode, hini, hy, hlen, hlink⟩, hinst, hsel⟩ := cw
  obtain ⟨hexec, hb, hml, hown, -⟩ := S
  obtain ⟨hblind, ⟨cellB, hcB, hoB, hclB⟩, hPc⟩ := hp
  obtain ⟨mk, methM, hnamed, hmethM, hstM, habM⟩ := Cond.instanceMethod_spec hinst
  obtain ⟨methM', cM, hmethM', -, -, -, -, -, -, hsigM⟩ := Cond.code_spec hnamed hcode
  cases hmethM.symm.trans hmethM'
  obtain ⟨c2, r2, m2, q1, q2, q3, q4, kP, hkP, hkPi⟩ := Cond.selects_spec hsel
  cases hclB.symm.trans q1
  cases (State.methodFound?_of_named hnamed hy).symm.trans q2
  cases hnamed.symm.trans q3
  have hselP : selectMethod e.platform s.vm cellB.cls mk = .method mk := by rw [Launch.admits_selectMethod X.admits]; exact q4
  obtain ⟨vm₁, X₁, hstep₁⟩ := X.invokevirtual hexec hown hlink hnamed hmethM hstM hkP hkPi hy (a := b) (cell := cellB) (by rw [hT]; exact hcB)
    (fun z h => by rw [h] at hoB; cases hoB) hselP hmethM habM hkP hkPi (g := F0 m pc ls st0) rfl (argsL := As) (rest := rest) (hn.trans (hlen _ hsigM)) hstack (by rw [hb]; exact hdg)
  have hUh : (T.setVm vm₁).heap = H := hT
  generalize hU : T.setVm vm₁ = U at X₁ hstep₁ hUh
  obtain ⟨a, ha⟩ : ∃ a : Array Value, a = (Value.ref b :: As).toArray := ⟨_, rfl⟩
  have hPcU : Pc a U := by rw [ha]; exact hPc U hUh X₁.warmed
  have hn1 : U.methodNamed? y = some mk := X₁.named hnamed
  have w1 : (headSpec ws rm).pre.before a U = true := atoms_intro fun w hw => hws w hw _ _ X₁.warmed
  have w2 : (Cond.code y bytes maxL ret).before a U = true := hws _ hcw _ _ X₁.warmed
  have w3 : (Cond.initialized y.cls).before a U = true := word_at X₁.warmed (Or.inl (by first | rfl | simp [Cond.onTables, Cond.keeps, Cond.steady])) hini
  obtain ⟨methY, cY, hmY, hcY, -, hlY, -, -, -, -⟩ := Cond.code_spec hn1 w2
  obtain ⟨kY, hkY, -⟩ := className_of_methodNamed hn1
  have hinitY : kY.init = .initialized := Cond.initialized_spec (findClass_of_methodNamed hn1) hkY w3
  obtain ⟨g, hg⟩ : ∃ g : JFrame, g = F0 m pc ls rest := ⟨_, rfl⟩
  have hgm : g.method = m := by rw [hg]
  have hdgc : decode c.code g.pc = .ok (.invokevirtual index, 3) := by rw [hb, hg]; exact hdg
  have h : At U g.method c below := by rw [hgm]; exact X₁.here
  have h4 : cells + (headSpec ws rm).room.cells ≤ R.cells := by rw [show (headSpec ws rm).room.cells = mc from hrc]; exact hf.1
  have h5 : slots + (headSpec ws rm).room.slots ≤ R.slots := by rw [show (headSpec ws rm).room.slots = ms from hrs]; exact hf.2
  have h6 : 2 * g.monitorRoom + (g.stack.map fun v => v.category).sum ≤ 8 := by rw [hg]; exact lv_room hW
  have h7 : 8 + (maxL + 11) + (headSpec ws rm).room.locals ≤ R.locals := hlocals
  have happ : (headSpec ws rm).appliesLoose y e.platform (U.calling g mk a) = true :=
    Spec.appliesLoose_calling (g := g) h hdgc hn1 hkY hinitY
      (X₁.room_calling (g := g) (R' := (headSpec ws rm).room) (by rw [hg]; exact hsize.trans hml.symm) hmY hcY hframes (by rw [hlY]; omega) h4 h5) w1
  obtain ⟨mid, hmid⟩ := h.above
  have hfr9 : (U.setTop g).frames = (.java g :: mid) ++ below := by rw [State.frames_setTop' g h.top, hmid]; rfl
  obtain ⟨o, s₂, hsteps, -, hend, hq9⟩ := Steps.callFree hM p X₁.admits X₁.cas X₁.clock (acts := []) hfr9 happ (hblind _ _ _ _ hPcU) trivial
  have hq8 : tx_Q E A1 mc ms free a (U.calling g mk a) o s₂ := hq9
  obtain ⟨q, ce, L, rfl, hF, hce, hcv, hcl, hW₂, hsm, hL⟩ := hq8
  rw [State.frames_setTop' g h.top] at hend
  obtain ⟨g₀, hg0⟩ := Option.isSome_iff_exists.mp h.top
  obtain ⟨r, hr⟩ := State.topJava?_eq_some.mp hg0
  have hr' : (({ U with heap := s₂.heap, slotsUsed := s₂.slotsUsed } : State).setVm s₂.vm).frames = .java g₀ :: r := hr
  obtain ⟨e2, k2, k3, k4, k5, k6⟩ := id hsm
  have e3 : s₂ = ({ (U.calling g mk a).setFrames s₂.frames with heap := s₂.heap, slotsUsed := s₂.slotsUsed } : State).setVm s₂.vm := by
    have h9 : s₂ = ({ s₂ with vm := (U.calling g mk a).vm } : State).setVm s₂.vm := rfl
    rw [e2] at h9
    exact h9
  have hf₂ : s₂.frames = .throwing q :: .java g :: U.frames.tail := hend
  have hW' : U.WarmedH s₂.vm := hW₂
  have hs₂ : s₂ = ((({ U with heap := s₂.heap, slotsUsed := s₂.slotsUsed } : State).setVm s₂.vm).setTop g).pushFrame (.throwing q) := by
    refine e3.trans ?_
    rw [hf₂, State.calling_eq h.top, State.setFrames_setFrames, State.pushFrame, State.frames_setTop _ hr', State.setTop_of_frames _ hr', State.setFrames_setFrames, hr]
    rfl
  have hsame : U.sameButNew ({ U with heap := s₂.heap, slotsUsed := s₂.slotsUsed } : State) L mc ms := by
    refine ⟨?_, k2, k3, k4, k5, k6⟩
    obtain ⟨t, ht, -⟩ := State.frames_cons hr
    show ({ U with heap := s₂.heap, slotsUsed := s₂.slotsUsed } : State) = { U.setFrames U.frames with heap := s₂.heap, slotsUsed := s₂.slotsUsed }
    rw [State.setFrames_self ht]
  obtain ⟨V, hV⟩ : ∃ V : State, V = (({ U with heap := s₂.heap, slotsUsed := s₂.slotsUsed } : State).setVm s₂.vm) := ⟨_, rfl⟩
  have X' : Stand p l e R s m args below meth c V (locs ++ L) (cells + mc) (slots + ms) := by
    rw [hV]
    exact ⟨X₁.admits, X₁.cas, X₁.clock, X₁.frames, X₁.room, X₁.hears, X₁.method, X₁.code, (X₁.here.setHeapUsed s₂.heap s₂.slotsUsed).setVm hW'.alike, X₁.tail, State.WarmedH.trans X₁.warmed hW', X₁.limits, X₁.bytes, X₁.same.trans (hsame.setVm s.vm)⟩
  have hVh : V.heap = s₂.heap := by rw [hV]; rfl
  have hcl' : s.vm.findClass E = some ce.cls := by rw [← X₁.warmed.alike.findClass]; exact hcl
  obtain ⟨c3, c4, hc3, hc4, hasg⟩ := Cond.castable_spec hcast
  cases Option.some.inj (hc3.symm.trans hcl')
  obtain ⟨vm', X'', st⟩ := X'.caughtLink q (g := g) hgm hown [] x suf hsplit (fun z hz => nomatch hz) (by rw [hg]; exact hx) h0 hclink hc4 (by rw [hVh]; exact hce) (by rw [hcv]; rfl) hasg
  have hz1 : H.size ≤ s₂.heap.size := by rw [← hUh]; exact hF.1
  have hz2 : ∀ z : Nat, z < H.size → ¬ A1 z → s₂.heap[z]? = H[z]? := by rw [← hUh]; exact hF.2
  have hS2 : va_S A0 H0 s₂.heap (locs ++ L) := by
    refine ⟨Nat.le_trans hS.1 hz1, fun z hz hn9 => ?_, fun z hz => ?_⟩
    · have h9 : z < H.size := Nat.lt_of_lt_of_le hz hS.1
      rw [hz2 z h9 (fun q9 => hn9 (hA z h9 q9))]
      exact hS.2.1 z hz hn9
    · rcases List.mem_append.mp hz with hz | hz
      · exact hS.2.2 z hz
      · exact hfree _ (hL z hz)
  obtain ⟨t, a1, b1⟩ := kx q s₂.heap (locs ++ L) hz1 hz2 hS2 (V.setVm vm') (by rw [← hVh]; rfl) X''
  refine ⟨t, hstep₁ _ fun acts => ?_, b1⟩
  rw [doInvoke_state]
  have hst := st t (by rw [hg]; exact a1)
  rw [← X'.pushThrowing_eq g q, hV, ← hs₂] at hst
  rw [← ha]
  subst hg
  exact hsteps.trans hst
/-- a static call of a method with an exception table, which returns -/
theorem tx_runSW {y : MethodName} {bytes cc : ByteArray} {maxL nL mc ms n index : Nat} {ret : Option FieldType} {hh : List (Nat × Nat × Nat × Nat)} {ws : List Cond} {rm : Room} {Pc : Array Value → State → Prop} {Qc : Array Value → State → Outcome → State → Prop} {free : Addr → Prop} {Ts : List Cond} {own : String} {As rest : List Value} {g : JFrame}
    (S : CallFix p m c cc nL s args Ts own) (hM : Met l y ws rm Pc Qc mc ms free) (hrc : rm.cells = mc) (hrs : rm.slots = ms) (hfr : rm.frames + 1 ≤ R.frames) (hlo : 8 + (maxL + 11) + rm.locals ≤ R.locals)
    (hws : ∀ w ∈ ws, ∀ (a' : Array Value) (U : State), s.WarmedH U.vm → w.before a' U = true) (hcw : Cond.codeWith y bytes maxL ret hh ∈ ws) (hcode : (Cond.codeWith y bytes maxL ret hh).before args s = true) (hini : (Cond.initialized y.cls).before args s = true)
    (hy : y.cls ≠ "java/lang/invoke/MethodHandle" ∧ y.cls ≠ "java/lang/invoke/VarHandle") (hlen : ∀ sig, parseMethodDescriptor y.desc = some sig → n = sig.parameters.length) (hlink : (Cond.methodLink own index y).before args s = true) (hstat : (Cond.static y).before args s = true) (hp : PreS s H Pc As)
    (hg : g.method = m) (hn : As.length = n) (hsize : g.locals.size = nL) (hstack : g.stack = As.reverse ++ rest) (hW : 2 * g.monitorRoom + (rest.map fun v => v.category).sum ≤ 8) (hdg : decode cc g.pc = .ok (.invokestatic index, 3)) (hf : cells + mc ≤ R.cells ∧ slots + ms ≤ R.slots) :
    va_Run p l e R s m args below meth c H locs cells slots mc ms g rest (Qc As.toArray) (free) := by
  have hK : Back l R p e below s args y 3 8 (PreOf R mc ms Pc) (PostOf Qc mc ms free) :=
    va_backW (bytes := bytes) (maxL := maxL) (ret := ret) (hh := hh) hM hp.1 hrc hrs hfr hlo hws hcw (fun a' U hW => word_at hW (Or.inl (by first | rfl | simp [Cond.onTables, Cond.keeps, Cond.steady])) hini)
  obtain ⟨hx, hb, hml, ho, -⟩ := S
  intro T hT X
  obtain ⟨mk, methM, cM, hnamed, hmethM, -, -, -, -, -, -, hsigM⟩ := Cond.codeWith_spec hcode
  have hstatic : methM.isStatic = true := Cond.static_spec hnamed hmethM hstat
  obtain ⟨kP, hkP, -⟩ := className_of_methodNamed hnamed
  have hinitP : kP.init = .initialized := Cond.initialized_spec (findClass_of_methodNamed hnamed) hkP hini
  obtain ⟨vm₁, X₁, hstep₁⟩ := X.invokestatic hx ho hlink hnamed hmethM hstatic hkP hinitP hy (g := g) hg (argsL := As) (rest := rest) (hn.trans (hlen _ hsigM)) hstack (by rw [hb]; exact hdg)
  obtain ⟨v, ⟨U', l2, c2, s2⟩, X', ⟨g', mk', t, L, e1, e2, hq, h1, hL, h2, h3⟩, hsteps⟩ := hK m meth c ⟨T.setVm vm₁, locs, cells, slots⟩ { g with stack := rest } (.invokestatic index) mk As.toArray X₁ hg (hsize.trans hml.symm) (by rw [hb]; exact hdg) hW (X₁.named hnamed) ⟨hf.1, hf.2, hp.2 (T.setVm vm₁) hT X₁.warmed⟩
  dsimp only [Pt.U, Pt.locs, Pt.cells, Pt.slots] at X' e1 e2 h1 h2 h3 hsteps
  subst h1; subst h2; subst h3
  exact ⟨v, (T.setVm vm₁).calling g' mk' As.toArray, t, U', L, hT, X', hL, e1, e2, hq, fun target h => hstep₁ _ fun acts => by rw [doInvoke_state]; exact hsteps.trans h⟩
/-- the table of a method with handlers -/
theorem tx_table {y : MethodName} {S : Spec} {cc bytes : ByteArray} {maxL maxL' : Nat} {ret ret' : Option FieldType} {s₁ : State} {hh : List (Nat × Nat × Nat × Nat)} (B : BodyLoose p l y S cc maxL ret e s m args below meth c s₁) (h : (Cond.codeWith y bytes maxL' ret' hh).before args s = true) : c.exceptionTable.toList = tableOf hh := by
  obtain ⟨m9, meth9, c9, hn9, h1, h2, -, -, h6, -⟩ := Cond.codeWith_spec h
  cases Option.some.inj (hn9.symm.trans B.named)
  cases Option.some.inj (h1.symm.trans B.method)
  cases Option.some.inj (h2.symm.trans (Stand.of_body B).code)
  rw [← h6]
  exact (table_eq _).symm
end TxRows
