/-! An entry for methods of the JDK. -/
theorem hp_enterF {l : Launch} {y : MethodName} {cc : ByteArray} {maxL : Nat} {ret : Option FieldType} {Ts : List Cond} {rm : Room} {av : List Value} {B : State → Prop} {Qc : Array Value → State → Outcome → State → Prop} {mc ms : Nat} {free : Addr → Prop} (hy : plainFor y = true) (hn : (lg_sl av).length ≤ maxL)
    (body : ∀ (p : Program) (e : Env) (s : State) (m : MethodId) (below : List Frame) (meth : Method) (c : Code) (ls : Array Slot), CallFix p m c cc maxL s av.toArray Ts y.cls → meth.sig.returnType = ret → meth.locks = false → meth.name = y.name → B s → lv_has ls maxL (lv_args 0 av) →
      W p l e rm s m av.toArray below meth c s.heap [] 0 0 (MQ below Qc av.toArray s mc ms free) (F0 m 0 ls [])) : Met l y (.code y cc maxL ret :: Ts) rm (va_Pc av B) Qc mc ms free := by
  refine va_MetF (cc := cc) (maxL := maxL) (ret := ret) hy rfl ?_
  intro p e s m args below meth c s₁ B' hml hv
  obtain ⟨rfl, hB⟩ := hv
  have hts := atoms_spec (ws := .code y cc maxL ret :: Ts) B'.pre
  have hown : s.vm.findClass y.cls = some m.cls := findClass_of_methodNamed B'.named
  have hin : meth.name = y.name := (name_of_methodNamed B'.named B'.method).1
  rw [lg_entry_eq]
  exact body p e s m below meth c _ ⟨B'.exec, B'.bytes, hml, hown, fun w hw => hts w (List.mem_cons_of_mem _ hw)⟩ B'.returns B'.notSynchronized hin hB (lv_entry av hn)
theorem hp_J.cast {G : hp_G} {A : Nat → Prop} {h h' : hp_T} {s : State} {H : Heap} {locs : List Loc} (hJ : hp_J G A h' s H locs) (e : h = h') : hp_J G A h s H locs := e ▸ hJ
/-- where two ways meet with an int on the stack -/
theorem hp_cut {p : Program} {l : Launch} {e : Env} {R : Room} {s : State} {m : MethodId} {args : Array Value} {below : List Frame} {meth : Method} {c : Code} {H : Heap} {locs : List Loc} {cells slots : Nat} {Q : State → Prop} {ls : Array Slot} {pc : Nat} {st : List Value} (P : Int32 → Prop) (tgt : Nat) (rest : List Value)
    (first : (∀ v : Int32, P v → W p l e R s m args below meth c H locs cells slots Q (F0 m tgt ls (.int v :: rest))) → W p l e R s m args below meth c H locs cells slots Q (F0 m pc ls st))
    (second : ∀ v : Int32, P v → W p l e R s m args below meth c H locs cells slots Q (F0 m tgt ls (.int v :: rest))) : W p l e R s m args below meth c H locs cells slots Q (F0 m pc ls st) := first second
theorem hp_cutL {p : Program} {l : Launch} {e : Env} {R : Room} {s : State} {m : MethodId} {args : Array Value} {below : List Frame} {meth : Method} {c : Code} {H : Heap} {locs : List Loc} {cells slots : Nat} {Q : State → Prop} {ls : Array Slot} {pc : Nat} {st : List Value} (P : Int64 → Prop) (tgt : Nat) (rest : List Value)
    (first : (∀ v : Int64, P v → W p l e R s m args below meth c H locs cells slots Q (F0 m tgt ls (.long v :: rest))) → W p l e R s m args below meth c H locs cells slots Q (F0 m pc ls st))
    (second : ∀ v : Int64, P v → W p l e R s m args below meth c H locs cells slots Q (F0 m tgt ls (.long v :: rest))) : W p l e R s m args below meth c H locs cells slots Q (F0 m pc ls st) := first second
