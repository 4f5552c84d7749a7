/-! A call that throws. -/
section TR
variable {p : Program} {l : Launch} {e : Env} {R : Room} {s : State} {m : MethodId} {args : Array Value} {below : List Frame} {meth : Method} {c : Code} {H : Heap} {locs : List Loc} {cells slots : Nat}
variable {y : MethodName} {bytes cc : ByteArray} {maxL nL mc ms n index : Nat} {ret : Option FieldType} {ws : List Cond} {rm : Room} {Pc : Array Value → State → Prop} {Qc : Array Value → State → Outcome → State → Prop} {free : Addr → Prop} {Ts : List Cond} {own C : String} {b : Addr} {As rest : List Value} {g : JFrame}
theorem tx_runV (S : CallFix p m c cc nL s args Ts own) (hM : t_M l y ws rm Pc Qc mc ms free) (cw : CallW R s args own C index y bytes maxL ret ws rm mc ms n) (hp : PreV s H C b Pc As)
    (hg : g.method = m) (hn : As.length = n) (hsize : g.locals.size = nL) (hstack : g.stack = As.reverse ++ .ref b :: rest) (hW : 2 * g.monitorRoom + (rest.map fun v => v.category).sum ≤ 8) (hdg : decode cc g.pc = .ok (.invokevirtual index, 3)) (hf : cells + mc ≤ R.cells ∧ slots + ms ≤ R.slots) :
    ∀ T : State, T.heap = H → Stand p l e R s m args below meth c T locs cells slots → ∃ (x : Addr) (st t T' : State) (L : List Loc), st.heap = H ∧ s.WarmedH st.vm ∧ Stand p l e R s m args below meth c T' (locs ++ L) (cells + mc) (slots + ms) ∧ (∀ q ∈ L, free q.base) ∧ T'.heap = t.heap ∧ Qc (Value.ref b :: As).toArray st (.threw x) t ∧
      Steps p.tables e below (T.setTop g) ((T'.setTop { g with stack := rest }).pushFrame (.throwing x)) := by
  obtain ⟨⟨hrc, hrs, hfr, hlo, hws, hin, hcode, hini, hy, hlen, hlink⟩, hinst, hsel⟩ := cw
  obtain ⟨hx, hb, hml, ho, -⟩ := S
  obtain ⟨hbl, ⟨cellB, hcB, hoB, hclB⟩, hPc⟩ := hp
  intro T hT X
  obtain ⟨mk, methM, hnamed, hmethM, hstM, habM⟩ := Cond.instanceMethod_spec hinst
  obtain ⟨methM', cM, hmethM', hcM, -, hlM, -, -, -, hsigM⟩ := Cond.code_spec hnamed hcode
  cases hmethM.symm.trans hmethM'
  obtain ⟨c2, r2, m2, q1, q2, q3, q4, kP, hkP, hkPi⟩ := Cond.selects_spec hsel
  cases hclB.symm.trans q1
  cases (State.methodFound?_of_named hnamed hy).symm.trans q2
  cases hnamed.symm.trans q3
  have hselP : selectMethod e.platform s.vm cellB.cls mk = .method mk := by rw [Launch.admits_selectMethod X.admits]; exact q4
  obtain ⟨vm₁, X₁, hstep₁⟩ := X.invokevirtual hx ho hlink hnamed hmethM hstM hkP hkPi hy (a := b) (cell := cellB) (by rw [hT]; exact hcB) (fun z h => by rw [h] at hoB; cases hoB) hselP hmethM habM hkP hkPi (g := g) hg (argsL := As) (rest := rest) (hn.trans (hlen _ hsigM)) hstack (by rw [hb]; exact hdg)
  obtain ⟨U, hU⟩ : ∃ U, U = T.setVm vm₁ := ⟨_, rfl⟩
  obtain ⟨g', hg'⟩ : ∃ g' : JFrame, g' = { g with stack := rest } := ⟨_, rfl⟩
  obtain ⟨av, hav⟩ : ∃ av, av = (Value.ref b :: As).toArray := ⟨_, rfl⟩
  rw [← hU] at X₁ hstep₁
  rw [← hav] at hPc
  have hWU : s.WarmedH U.vm := X₁.warmed
  have hgm : g'.method = m := by rw [hg']; exact hg
  have hgs : g'.locals.size = c.maxLocals := by rw [hg']; exact hsize.trans hml.symm
  have hdg' : decode c.code g'.pc = .ok (.invokevirtual index, 3) := by rw [hg', hb]; exact hdg
  have hcodeU := hws _ hin av U hWU
  have hnU : U.methodNamed? y = some mk := X₁.named hnamed
  obtain ⟨methY, cY, hmY, hcY, -, hlY, -, -, -, -⟩ := Cond.code_spec hnU hcodeU
  obtain ⟨kY, hkY, -⟩ := className_of_methodNamed hnU
  have hiniU : (Cond.initialized y.cls).before av U = true := by
    have h1 := Cond.onTables_warm (T := U) (args' := av) hWU (c := Cond.initialized y.cls) rfl rfl hini
    rwa [State.setVm_self] at h1
  have hinitY : kY.init = .initialized := Cond.initialized_spec (findClass_of_methodNamed hnU) hkY hiniU
  have hAt : At U g'.method c below := by rw [hgm]; exact X₁.here
  have happ : (headSpec ws rm).appliesLoose y e.platform (U.calling g' mk av) = true :=
    Spec.appliesLoose_calling (g := g') hAt hdg' hnU hkY hinitY
      (X₁.room_calling (g := g') (R' := rm) hgs hmY hcY hfr (by rw [hlY, hg']; show 2 * g.monitorRoom + (rest.map fun v => v.category).sum + (maxL + 11) + rm.locals ≤ R.locals; omega) (by rw [hrc]; exact hf.1) (by rw [hrs]; exact hf.2)) (atoms_intro fun w hw => hws w hw _ _ hWU)
  obtain ⟨mid, hmid⟩ := hAt.above
  have hfr2 : (U.setTop g').frames = (.java g' :: mid) ++ below := by rw [State.frames_setTop' g' hAt.top, hmid]; rfl
  have hUh : U.heap = H := by rw [hU]; exact hT
  obtain ⟨o, s₂, hsteps, -, hend, hq, L, hfe, hL⟩ := Steps.callFree hM p X₁.admits X₁.cas X₁.clock (acts := []) hfr2 happ (hbl _ _ _ _ (hPc U hUh hWU)) trivial
  rw [State.frames_setTop' g' hAt.top] at hend
  have hfe' : t_E (U.calling g' mk av) o s₂ L mc ms := hfe
  obtain ⟨⟨v, rfl⟩, hW₂, e2, q2', q3', q4', q5', q6'⟩ := hfe'
  have hq' : Qc av (U.calling g' mk av) (.threw v) s₂ := hq
  have hf₂ : s₂.frames = .throwing v :: .java g' :: U.frames.tail := hend
  obtain ⟨g₀, hg0⟩ := Option.isSome_iff_exists.mp hAt.top
  obtain ⟨r, hr⟩ := State.topJava?_eq_some.mp hg0
  have hW' : U.WarmedH s₂.vm := hW₂
  obtain ⟨T', hT'⟩ : ∃ T', T' = (({ U with heap := s₂.heap, slotsUsed := s₂.slotsUsed } : State).setVm s₂.vm) := ⟨_, rfl⟩
  have hs₂ : s₂ = (T'.setTop g').pushFrame (.throwing v) := by
    have e3 : s₂ = ({ (U.calling g' mk av).setFrames s₂.frames with heap := s₂.heap, slotsUsed := s₂.slotsUsed } : State).setVm s₂.vm := by
      have e4 : s₂ = ({ s₂ with vm := (U.calling g' mk av).vm } : State).setVm s₂.vm := rfl
      rw [e2] at e4
      exact e4
    have hr' : T'.frames = .java g₀ :: r := by rw [hT']; exact hr
    refine e3.trans ?_
    rw [hf₂, State.calling_eq hAt.top, State.setFrames_setFrames, State.pushFrame, State.frames_setTop _ hr', State.setTop_of_frames _ hr', State.setFrames_setFrames, hr, hT']
    rfl
  have hsame : U.sameButNew ({ U with heap := s₂.heap, slotsUsed := s₂.slotsUsed } : State) L mc ms := by
    refine ⟨?_, q2', q3', q4', q5', q6'⟩
    obtain ⟨t, ht, -⟩ := State.frames_cons hr
    show ({ U with heap := s₂.heap, slotsUsed := s₂.slotsUsed } : State) = { U.setFrames U.frames with heap := s₂.heap, slotsUsed := s₂.slotsUsed }
    rw [State.setFrames_self ht]
  refine ⟨v, U.calling g' mk av, s₂, T', L, hUh, hWU, ?_, hL, by rw [hT']; rfl, by rw [← hav]; exact hq', hstep₁ _ (fun acts => ?_)⟩
  · rw [hT']
    exact ⟨X₁.admits, X₁.cas, X₁.clock, X₁.frames, X₁.room, X₁.hears, X₁.method, X₁.code, (X₁.here.setHeapUsed s₂.heap s₂.slotsUsed).setVm hW'.alike, X₁.tail, State.WarmedH.trans X₁.warmed hW', X₁.limits, X₁.bytes, X₁.same.trans (hsame.setVm s.vm)⟩
  · rw [doInvoke_state, ← hg', ← hav, ← hs₂]
    exact hsteps
end TR
