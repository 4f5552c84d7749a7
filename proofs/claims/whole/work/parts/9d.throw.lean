/-! Methods that throw. -/
def t_E (first : State) (o : Outcome) (t : State) (L : List Loc) (k n : Nat) : Prop := (∃ x, o = .threw x) ∧ first.WarmedH t.vm ∧ first.sameButNew ({ t with vm := first.vm } : State) L k n
def t_M (l : Launch) (y : MethodName) (ws : List Cond) (rm : Room) (Pc : Array Value → State → Prop) (Qc : Array Value → State → Outcome → State → Prop) (mc ms : Nat) (free : Addr → Prop) : Prop :=
  MetFree l y (headSpec ws rm) Pc (fun _ _ _ _ _ => True) (fun a st o t => Qc a st o t ∧ ∃ L, t_E st o t L mc ms ∧ ∀ q ∈ L, free q.base)
def t_Q (below : List Frame) (Qc : Array Value → State → Outcome → State → Prop) (a : Array Value) (s : State) (mc ms : Nat) (free : Addr → Prop) : State → Prop := fun t =>
  ∃ o, t.status = .running ∧ Ended t below o ∧ Qc a s o t ∧ ∃ L, t_E s o t L mc ms ∧ ∀ q ∈ L, free q.base
theorem t_enter {l : Launch} {y : MethodName} {cc : ByteArray} {maxL : Nat} {ret : Option FieldType} {Ts : List Cond} {rm : Room} {av : List Value} {B : State → Prop} {Qc : Array Value → State → Outcome → State → Prop} {mc ms : Nat} {free : Addr → Prop} (hy : plainName y.cls = true) (hn : (lg_sl av).length ≤ maxL)
    (body : ∀ (p : Program) (e : Env) (s : State) (m : MethodId) (below : List Frame) (meth : Method) (c : Code) (ls : Array Slot), CallFix p m c cc maxL s av.toArray Ts y.cls → meth.locks = false → c.exceptionTable.isEmpty = true → B s → lv_has ls maxL (lv_args 0 av) →
      W p l e rm s m av.toArray below meth c s.heap [] 0 0 (t_Q below Qc av.toArray s mc ms free) (F0 m 0 ls [])) : t_M l y (.code y cc maxL ret :: Ts) rm (va_Pc av B) Qc mc ms free := by
  refine MetFree.of_bodyS (code := cc) (maxLocals := maxL) (ret := ret) hy ?_ ?_
  · intro args s m h hn
    obtain ⟨meth, c, h1, h2, h3, h4, h5, h6, -, -⟩ := Cond.code_spec hn (atoms_spec (ws := .code y cc maxL ret :: Ts) h _ List.mem_cons_self)
    exact ⟨meth, c, h1, h2, h3, h4, h5, h6⟩
  · intro p e s m args below meth c s₁ B' hml hv _
    obtain ⟨rfl, hB⟩ := hv
    have hts := atoms_spec (ws := .code y cc maxL ret :: Ts) B'.pre
    have hown : s.vm.findClass y.cls = some m.cls := findClass_of_methodNamed B'.named
    have X0 := Stand.of_body B'
    obtain ⟨meth', c', h1, h2, -, -, -, -, h7, -⟩ := Cond.code_spec B'.named (hts _ List.mem_cons_self)
    cases B'.method.symm.trans h1
    cases X0.code.symm.trans h2
    have hh0 : s₁.heap = s.heap := by rw [B'.state]; rfl
    have K : W p l e rm s m av.toArray below meth c s.heap [] 0 0 (t_Q below Qc av.toArray s mc ms free) (entryFrame m av.toArray maxL) := by
      rw [lg_entry_eq]
      exact body p e s m below meth c _ ⟨B'.exec, B'.bytes, hml, hown, fun w hw => hts w (List.mem_cons_of_mem _ hw)⟩ B'.notSynchronized h7 hB (lv_entry av hn)
    obtain ⟨t, a1, o, b1, b2, b3⟩ := K s₁ hh0 X0
    exact ⟨t, o, a1, b1, b2, ⟨b3.1, b3.2⟩⟩
def t_Q1 (G : hp_G) (A : Nat → Prop) (h : hp_T) (cls : String) : Array Value → State → Outcome → State → Prop := fun _ st o t => (∃ (x : Addr) (ce : Cell), o = .threw x ∧ t.heap[x]? = some ce ∧ st.vm.findClass cls = some ce.cls ∧ ce.vm = .none ∧ hp_P G h t.heap) ∧ va_F A st t
section TW
variable {p : Program} {l : Launch} {e : Env} {R : Room} {s : State} {m : MethodId} {args : Array Value} {below : List Frame} {meth : Method} {c : Code} {H : Heap} {locs : List Loc} {cells slots : Nat} {Q : State → Prop}
variable {cc : ByteArray} {nL pc : Nat} {ls : Array Slot} {rest : List Value} {Ts : List Cond} {own : String} {G : hp_G} {A : Nat → Prop} {h : hp_T} {a : Nat}
theorem t_throw (S : CallFix p m c cc nL s args Ts own) (hP : hp_P G h s.heap) (hst : l.stackTraces = false) (hlk : meth.locks = false) (hexc : c.exceptionTable.isEmpty = true) (hI : ex_I s) {cls tx : String} {names : List String} {idx ids ic q : Nat} (hcls : Bundle.fit cls = true) (hnames : ∀ n ∈ names, Bundle.fit n = true)
    (hat : (Bundle.ownAtoms own ic cls names).all (fun w => decide (w ∈ Ts) || decide (w ∈ ex_T ++ ex_V)) = true)
    (hl : Cond.classLink own idx cls ∈ Ts ∧ Cond.instantiable cls 6 ∈ Ts ∧ Cond.initialized cls ∈ Ts) (hstr : vk_R own ids tx q s) (hsize : ls.size = nL)
    (hd0 : decode cc pc = .ok (.new idx, 3)) (hd3 : decode cc (pc + 3) = .ok (.dup, 1)) (hd4 : decode cc (pc + 3 + 1) = .ok (.ldc ids, 2)) (hd6 : decode cc (pc + 3 + 1 + 2) = .ok (.invokespecial ic, 3)) (hd9 : decode cc (pc + 3 + 1 + 2 + 3) = .ok (.athrow, 1))
    (hR : 1 ≤ R.cells ∧ 6 ≤ R.slots ∧ names.length + 3 < R.frames ∧ 1 + (13 * (names.length + 1) + 42) ≤ R.locals) : W p l e R s m args below meth c s.heap [] 0 0 (t_Q below (t_Q1 G A h cls) args s 1 6 A) (F0 m pc ls []) := by
  obtain ⟨cX, kX, hcX, -⟩ := Cond.instantiable_spec (S.2.2.2.2 _ hl.2.1)
  refine W.newcK S.1 S.2.1 S.2.2.2.1 (S.2.2.2.2 _ hl.1) (S.2.2.2.2 _ hl.2.1) (S.2.2.2.2 _ hl.2.2) rfl hd0 (by omega) (by omega) hcX rfl fun H1 kC hkC e1 z1 o1 => ?_
  refine lv_dup S.1 S.2.1 hd3 rfl ?_
  refine va_ldcS S.1 S.2.1 S.2.2.2.1 hstr hd4 ?_
  intro T hT X
  have htr : e.platform.stackTraces = false := by
    rw [X.admits.platform]
    exact hst
  have hbef : ∀ w ∈ Bundle.ownAtoms own ic cls names, w.before args s = true := fun w hw => by
    have h8 := List.all_eq_true.mp hat w hw
    rw [Bool.or_eq_true] at h8
    rcases h8 with h9 | h9
    · exact S.2.2.2.2 _ (of_decide_eq_true h9)
    · exact ex_ag hI w (of_decide_eq_true h9)
  obtain ⟨U, a1, a2, a3, a4, a5, ce, a6, a7⟩ := X.ctorThrowS S.1 htr (own := own) (cls := cls) (names := names) (ic := ic) S.2.2.2.1 hcls hnames hbef (fun x hx => absurd hx List.not_mem_nil) hcX hkC (a := s.heap.size) (by rw [hT]; exact e1) (Nat.le_refl _) (msg := .ref q) rfl (g := F0 m (pc + 3 + 1 + 2) ls [.ref q, .ref s.heap.size, .ref s.heap.size]) rfl (S.2.2.1.trans hsize.symm).symm rfl rfl (rest := []) rfl (by rw [S.2.1]; exact hd6) (by rw [S.2.1]; exact hd9) (fun y hy => by
      have : c.exceptionTable.toList = [] := by
        have h9 : c.exceptionTable = #[] := Array.isEmpty_iff.mp hexc
        rw [h9]
      rw [this] at hy
      cases hy) hR.2.2.1 (by show 2 * 0 + 1 + _ ≤ _; omega) hlk
  have hold : ∀ z : Nat, z < s.heap.size → U.heap[z]? = s.heap[z]? := fun z hz => by
    obtain ⟨cell, hc⟩ : ∃ cell, s.heap[z]? = some cell := ⟨_, Array.getElem?_eq_getElem hz⟩
    rw [hc]
    exact State.sameButNew.old_cell a5 hc
  refine ⟨U, a1, .threw s.heap.size, a2, a3, ⟨⟨_, ce, rfl, a6, a7.cls, a7.vm, fun z x hz => (hP z x hz).kept (hold z (hP.lt hz))⟩, a5.2.1, fun z hz _ => hold z hz⟩, [], ⟨⟨_, rfl⟩, a4, a5⟩, fun _ hq => absurd hq List.not_mem_nil⟩
end TW
