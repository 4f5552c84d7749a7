/-! The law's helpers: a call that throws and is caught; calls of methods with handlers. -/
section TH
variable {p : Program} {l : Launch} {e : Env} {R : Room} {s : State} {m : MethodId} {args : Array Value} {below : List Frame} {meth : Method} {c : Code} {H : Heap} {locs : List Loc} {cells slots : Nat} {Q : State → Prop}
variable {cc : ByteArray} {nL pc : Nat} {ls : Array Slot} {rest st0 : List Value} {Ts : List Cond} {own : String} {G : hp_G} {A : Nat → Prop} {h : hp_T}
variable {y : MethodName} {bytes : ByteArray} {maxL mc ms n index : Nat} {ret : Option FieldType} {rm : Room} {As : List Value} {Pc : Array Value → State → Prop} {Qc : Array Value → State → Outcome → State → Prop} {free : Addr → Prop}
theorem hp_J.preVX (hJ : hp_J G A h s H locs) (hX : ∀ U : State, U.heap = H → s.WarmedH U.vm → ex_X U) {b ci : Nat} {fs : List Value} {C : String} {T : u_T} {N : Nat} (As : List Value) (hb : h b = some (.inr (ci, fs))) (hc : G.2.1[ci]? = some (C, T, N)) : PreV s H C b (va_Pc (.ref b :: As) (hp_IX G A h)) As := ⟨hp_blindX, va_recv hJ.2.1.1 (hJ.1.one hb) hc (q0 := 0) rfl, fun _ hU hW => ⟨rfl, hJ.I hU hW, hX _ hU hW⟩⟩
theorem hp_J.preSX (hJ : hp_J G A h s H locs) (hX : ∀ U : State, U.heap = H → s.WarmedH U.vm → ex_X U) (As : List Value) : PreS s H (va_Pc As (hp_IX G A h)) As := ⟨hp_blindX, fun _ hU hW => ⟨rfl, hJ.I hU hW, hX _ hU hW⟩⟩
/-- a throwing call's heap -/
theorem tx_J (hJ : hp_J G A h s H locs) {cls : String} {av : Array Value} {st t : State} {x : Addr} {L : List Loc} (h0 : st.heap = H) (hq : t_Q1 G A h cls av st (.threw x) t) (hL : ∀ q ∈ L, A q.base) : hp_J G A h s t.heap (locs ++ L) := by
  obtain ⟨⟨_, _, -, -, -, -, hP⟩, hz, hk⟩ := hq
  rw [h0] at hz hk
  have hS := hJ.2.2.2.1
  exact ⟨hP, hJ.2.1, hJ.2.2.1, ⟨Nat.le_trans hS.1 hz, fun q h1 h2 => (hk q (Nat.lt_of_lt_of_le h1 hS.1) h2).trans (hS.2.1 q h1 h2), fun q hq => by
    rcases List.mem_append.mp hq with h9 | h9
    · exact hS.2.2 q h9
    · exact hL q h9⟩, hJ.2.2.2.2⟩
/-- caught by the first entry -/
theorem tx_d1 (S : CallFix p m c cc nL s args Ts own) (hJ : hp_J G A h s H locs) {cls : String} {av : Array Value} (hcast : ∃ cX, s.vm.findClass cls = some cX ∧ s.vm.assignable cX cX = true) {x : ExceptionTableEntry} {xs : List ExceptionTableEntry} (hs : c.exceptionTable.toList = x :: xs) (hx : covers x pc = true) (h0 : x.catchType ≠ 0) (hl : Cond.classLink own x.catchType cls ∈ Ts)
    (hr : ∀ T : State, T.heap = H → Stand p l e R s m args below meth c T locs cells slots → ∃ (x : Addr) (st t T' : State) (L : List Loc), st.heap = H ∧ s.WarmedH st.vm ∧ Stand p l e R s m args below meth c T' (locs ++ L) (cells + mc) (slots + ms) ∧ (∀ q ∈ L, A q.base) ∧ T'.heap = t.heap ∧ t_Q1 G A h cls av st (.threw x) t ∧ Steps p.tables e below (T.setTop (F0 m pc ls st0)) ((T'.setTop { F0 m pc ls st0 with stack := rest }).pushFrame (.throwing x)))
    (kk : ∀ (xa : Addr) (H' : Heap) (locs' : List Loc), hp_J G A h s H' locs' → W p l e R s m args below meth c H' locs' (cells + mc) (slots + ms) Q (F0 m x.handlerPc ls [.ref xa])) : W p l e R s m args below meth c H locs cells slots Q (F0 m pc ls st0) := by
  intro T hT X
  obtain ⟨xa, st, t, T', L, q1, q2, X', q4, q5, q6, q7⟩ := hr T hT X
  have hJ' := tx_J hJ q1 q6 q4
  obtain ⟨⟨xb, ce, hz, b2, b3, b4, -⟩, -⟩ := q6
  cases hz
  obtain ⟨cX, hcX, has⟩ := hcast
  have hce : s.vm.findClass cls = some ce.cls := by
    rw [q2.alike.findClass] at b3
    exact b3
  cases hcX.symm.trans hce
  obtain ⟨vm', X2, st2⟩ := tx_c1 X' xa (g := { F0 m pc ls st0 with stack := rest }) rfl S.2.2.2.1 hs hx h0 (S.2.2.2.2 _ hl) hce (by rw [q5]; exact b2) b4 has
  obtain ⟨t2, a1, b1⟩ := kk xa t.heap (locs ++ L) hJ' (T'.setVm vm') q5 X2
  exact ⟨t2, q7.trans (st2 t2 a1), b1⟩
/-- caught by the second entry -/
theorem tx_d2 (S : CallFix p m c cc nL s args Ts own) (hJ : hp_J G A h s H locs) {cls name : String} {av : Array Value} (hcast : ∃ cX cT, s.vm.findClass cls = some cX ∧ s.vm.findClass name = some cT ∧ s.vm.assignable cX cT = false ∧ s.vm.assignable cX cX = true) {x y2 : ExceptionTableEntry} {xs : List ExceptionTableEntry} (hs : c.exceptionTable.toList = x :: y2 :: xs) (hx : covers x pc = true) (h0 : x.catchType ≠ 0) (hl : Cond.classLink own x.catchType name ∈ Ts) (hy : covers y2 pc = true) (h02 : y2.catchType ≠ 0) (hl2 : Cond.classLink own y2.catchType cls ∈ Ts)
    (hr : ∀ T : State, T.heap = H → Stand p l e R s m args below meth c T locs cells slots → ∃ (x : Addr) (st t T' : State) (L : List Loc), st.heap = H ∧ s.WarmedH st.vm ∧ Stand p l e R s m args below meth c T' (locs ++ L) (cells + mc) (slots + ms) ∧ (∀ q ∈ L, A q.base) ∧ T'.heap = t.heap ∧ t_Q1 G A h cls av st (.threw x) t ∧ Steps p.tables e below (T.setTop (F0 m pc ls st0)) ((T'.setTop { F0 m pc ls st0 with stack := rest }).pushFrame (.throwing x)))
    (kk : ∀ (xa : Addr) (H' : Heap) (locs' : List Loc), hp_J G A h s H' locs' → W p l e R s m args below meth c H' locs' (cells + mc) (slots + ms) Q (F0 m y2.handlerPc ls [.ref xa])) : W p l e R s m args below meth c H locs cells slots Q (F0 m pc ls st0) := by
  intro T hT X
  obtain ⟨xa, st, t, T', L, q1, q2, X', q4, q5, q6, q7⟩ := hr T hT X
  have hJ' := tx_J hJ q1 q6 q4
  obtain ⟨⟨xb, ce, hz, b2, b3, b4, -⟩, -⟩ := q6
  cases hz
  obtain ⟨cX, cT, hcX, hcT, hno, has⟩ := hcast
  have hce : s.vm.findClass cls = some ce.cls := by
    rw [q2.alike.findClass] at b3
    exact b3
  cases hcX.symm.trans hce
  obtain ⟨vm', X2, st2⟩ := tx_c2 X' xa (g := { F0 m pc ls st0 with stack := rest }) rfl S.2.2.2.1 hs hx h0 (S.2.2.2.2 _ hl) hy h02 (S.2.2.2.2 _ hl2) hcT hce (by rw [q5]; exact b2) b4 hno has
  obtain ⟨t2, a1, b1⟩ := kk xa t.heap (locs ++ L) hJ' (T'.setVm vm') q5 X2
  exact ⟨t2, q7.trans (st2 t2 a1), b1⟩
/-- the throwing call of a virtual method of the class -/
theorem tx_rV (S : CallFix p m c cc nL s args Ts own) (hZ : hp_Z Ts G) (hM : t_M l y (.code y bytes maxL ret :: Ts) rm Pc Qc mc ms free) {b : Nat} (lk : hp_lV Ts own index y bytes maxL ret n) (hp : PreV s H y.cls b Pc As) (hR : hp_R R rm maxL mc ms) (hn : As.length = n) (hsize : ls.size = nL) (hst : st0 = As.reverse ++ .ref b :: rest) (hW : (rest.map fun v => v.category).sum ≤ 8) (hdg : decode cc pc = .ok (.invokevirtual index, 3)) (hf : cells + mc ≤ R.cells ∧ slots + ms ≤ R.slots) :
    ∀ T : State, T.heap = H → Stand p l e R s m args below meth c T locs cells slots → ∃ (x : Addr) (st t T' : State) (L : List Loc), st.heap = H ∧ s.WarmedH st.vm ∧ Stand p l e R s m args below meth c T' (locs ++ L) (cells + mc) (slots + ms) ∧ (∀ q ∈ L, free q.base) ∧ T'.heap = t.heap ∧ Qc (Value.ref b :: As).toArray st (.threw x) t ∧ Steps p.tables e below (T.setTop (F0 m pc ls st0)) ((T'.setTop { F0 m pc ls st0 with stack := rest }).pushFrame (.throwing x)) := by
  obtain ⟨l1, l2, l3, l4, l5, l6⟩ := lk
  exact tx_runV (g := F0 m pc ls st0) S hM ⟨callB_of n S.2.2.2.2 (hZ.good l5) rfl hR.2.2.1 hR.2.2.2 (S.2.2.2.2 _ l4) (S.2.2.2.2 _ l1) l6 ⟨hR.1, hR.2.1⟩, S.2.2.2.2 _ l2, S.2.2.2.2 _ l3⟩ hp rfl hn hsize hst (lv_room (rest := st0) hW) hdg hf
/-- a static call of a method with handlers -/
theorem tx_rS (S : CallFix p m c cc nL s args Ts own) (hZ : hp_Z Ts G) {hh : List (Nat × Nat × Nat × Nat)} (hM : Met l y (.codeWith y bytes maxL ret hh :: Ts) rm Pc Qc mc ms free) (lk : Cond.methodLink own index y ∈ Ts ∧ Cond.static y ∈ Ts ∧ Cond.initialized y.cls ∈ Ts ∧ Cond.codeWith y bytes maxL ret hh ∈ Ts ∧ hp_nd y n) (hp : PreS s H Pc As) (hR : hp_R R rm maxL mc ms) (hn : As.length = n) (hsize : ls.size = nL) (hst : st0 = As.reverse ++ rest) (hW : (rest.map fun v => v.category).sum ≤ 8) (hdg : decode cc pc = .ok (.invokestatic index, 3)) (hf : cells + mc ≤ R.cells ∧ slots + ms ≤ R.slots) :
    va_Run p l e R s m args below meth c H locs cells slots mc ms (F0 m pc ls st0) rest (Qc As.toArray) free := by
  obtain ⟨l1, l2, l3, l4, l5⟩ := lk
  obtain ⟨hx, hb, hml, ho, hts⟩ := S
  have hws : ∀ w ∈ (.codeWith y bytes maxL ret hh :: Ts), ∀ (a' : Array Value) (U : State), s.WarmedH U.vm → w.before a' U = true := fun w hw a' U hW' => by
    have h9 := hZ.good l4 w hw
    exact word_at hW' h9.2 (hts w h9.1)
  have hini : ∀ (a' : Array Value) (U : State), s.WarmedH U.vm → (Cond.initialized y.cls).before a' U = true := fun a' U hW' => word_at hW' (hZ.2 _ l3) (hts _ l3)
  have hK : Back l R p e below s args y 3 8 (PreOf R mc ms Pc) (PostOf Qc mc ms free) := va_backW hM hp.1 hR.2.2.1 hR.2.2.2 hR.1 hR.2.1 hws List.mem_cons_self hini
  intro T hT X
  obtain ⟨mk, methM, cM, hnamed, hmethM, -, -, -, -, -, -, hsigM⟩ := Cond.codeWith_spec (hts _ l4)
  have hstatic : methM.isStatic = true := Cond.static_spec hnamed hmethM (hts _ l2)
  obtain ⟨kP, hkP, -⟩ := className_of_methodNamed hnamed
  have hinitP : kP.init = .initialized := Cond.initialized_spec (findClass_of_methodNamed hnamed) hkP (hts _ l3)
  have hlen : As.length = methM.sig.parameters.length := by
    have h9 := l5.2.2
    rw [hsigM] at h9
    exact hn.trans (Option.some.inj h9).symm
  obtain ⟨vm₁, X₁, hstep₁⟩ := X.invokestatic hx ho (hts _ l1) hnamed hmethM hstatic hkP hinitP ⟨l5.1, l5.2.1⟩ (g := F0 m pc ls st0) rfl (argsL := As) (rest := rest) hlen hst (by rw [hb]; exact hdg)
  obtain ⟨v, ⟨U', l2', c2, s2⟩, X', ⟨g', mk', t, L, e1, e2, hq, h1, hL, h2, h3⟩, hsteps⟩ := hK m meth c ⟨T.setVm vm₁, locs, cells, slots⟩ { F0 m pc ls st0 with stack := rest } (.invokestatic index) mk As.toArray X₁ rfl (hsize.trans hml.symm) (by rw [hb]; exact hdg) (by show 2 * 0 + (rest.map fun v => v.category).sum ≤ 8; omega) (X₁.named hnamed) ⟨hf.1, hf.2, hp.2 (T.setVm vm₁) hT X₁.warmed⟩
  dsimp only [Pt.U, Pt.locs, Pt.cells, Pt.slots] at X' e1 e2 h1 h2 h3 hsteps
  subst h1; subst h2; subst h3
  exact ⟨v, (T.setVm vm₁).calling g' mk' As.toArray, t, U', L, hT, X', hL, e1, e2, hq, fun target h => hstep₁ _ fun acts => by rw [doInvoke_state]; exact hsteps.trans h⟩
/-- entry of a method with handlers -/
theorem tx_enter {hh : List (Nat × Nat × Nat × Nat)} {av : List Value} {B : State → Prop} (hy : plainName y.cls = true) (hn : (lg_sl av).length ≤ maxL)
    (body : ∀ (p : Program) (e : Env) (s : State) (m : MethodId) (below : List Frame) (meth : Method) (c : Code) (ls : Array Slot), CallFix p m c bytes maxL s av.toArray Ts y.cls → meth.sig.returnType = ret → meth.locks = false → c.exceptionTable.toList.map (fun h => (h.startPc, h.endPc, h.handlerPc, h.catchType)) = hh → B s → lv_has ls maxL (lv_args 0 av) →
      W p l e rm s m av.toArray below meth c s.heap [] 0 0 (MQ below Qc av.toArray s mc ms free) (F0 m 0 ls [])) : Met l y (.codeWith y bytes maxL ret hh :: Ts) rm (va_Pc av B) Qc mc ms free := by
  refine va_MetW (cc := bytes) (maxL := maxL) (ret := ret) (hh := hh) hy rfl ?_
  intro p e s m args below meth c s₁ B' hml hv
  obtain ⟨rfl, hB⟩ := hv
  have hts := atoms_spec (ws := .codeWith y bytes maxL ret hh :: Ts) B'.pre
  have hown : s.vm.findClass y.cls = some m.cls := findClass_of_methodNamed B'.named
  obtain ⟨m9, meth9, c9, g1, g2, g3, -, -, g6, -⟩ := Cond.codeWith_spec (hts _ List.mem_cons_self)
  cases B'.named.symm.trans g1
  cases B'.method.symm.trans g2
  cases (Stand.of_body B').code.symm.trans g3
  rw [lg_entry_eq]
  exact body p e s m below meth c _ ⟨B'.exec, B'.bytes, hml, hown, fun w hw => hts w (List.mem_cons_of_mem _ hw)⟩ B'.returns B'.notSynchronized g6 hB (lv_entry av hn)
end TH
