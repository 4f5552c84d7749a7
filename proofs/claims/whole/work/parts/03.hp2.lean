/-! Calls, entries and ends over the heap as a function. -/
abbrev hp_nd (y : MethodName) (n : Nat) : Prop := y.cls ≠ "java/lang/invoke/MethodHandle" ∧ y.cls ≠ "java/lang/invoke/VarHandle" ∧ (parseMethodDescriptor y.desc).map (fun d => d.parameters.length) = some n
/-- what a call instruction links: static; static by a nest mate; virtual; a constructor -/
def hp_lS (Ts : List Cond) (own : String) (index : Nat) (y : MethodName) (bytes : ByteArray) (maxL : Nat) (ret : Option FieldType) (n : Nat) : Prop := Cond.methodLink own index y ∈ Ts ∧ Cond.static y ∈ Ts ∧ Cond.initialized y.cls ∈ Ts ∧ Cond.code y bytes maxL ret ∈ Ts ∧ hp_nd y n
def hp_lN (Ts : List Cond) (NL : List (String × Nat × MethodName × String)) (own : String) (index : Nat) (y : MethodName) (host : String) (bytes : ByteArray) (maxL : Nat) (ret : Option FieldType) (n : Nat) : Prop := (own, index, y, host) ∈ NL ∧ Cond.static y ∈ Ts ∧ Cond.initialized y.cls ∈ Ts ∧ Cond.code y bytes maxL ret ∈ Ts ∧ hp_nd y n
def hp_lV (Ts : List Cond) (own : String) (index : Nat) (y : MethodName) (bytes : ByteArray) (maxL : Nat) (ret : Option FieldType) (n : Nat) : Prop := Cond.methodLink own index y ∈ Ts ∧ Cond.instanceMethod y ∈ Ts ∧ Cond.selects y.cls y y ∈ Ts ∧ Cond.initialized y.cls ∈ Ts ∧ Cond.code y bytes maxL ret ∈ Ts ∧ hp_nd y n
def hp_lI (Ts : List Cond) (own : String) (index : Nat) (y : MethodName) (bytes : ByteArray) (maxL n : Nat) : Prop := Cond.methodLink own index y ∈ Ts ∧ Cond.instanceMethod y ∈ Ts ∧ Cond.initialized y.cls ∈ Ts ∧ Cond.code y bytes maxL none ∈ Ts ∧ y.name = "<init>" ∧ hp_nd y n
/-- the callee's room in the caller's -/
abbrev hp_R (R rm : Room) (maxL mc ms : Nat) : Prop := rm.frames + 1 ≤ R.frames ∧ 8 + (maxL + 11) + rm.locals ≤ R.locals ∧ rm.cells = mc ∧ rm.slots = ms
section HPC
variable {p : Program} {l : Launch} {e : Env} {R : Room} {s : State} {m : MethodId} {args : Array Value} {below : List Frame} {meth : Method} {c : Code} {H : Heap} {locs : List Loc} {cells slots : Nat} {Q : State → Prop}
variable {cc : ByteArray} {nL pc : Nat} {ls : Array Slot} {rest st0 : List Value} {Ts : List Cond} {own : String} {G : hp_G} {A : Nat → Prop} {h : hp_T} {a : Nat}
variable {y : MethodName} {bytes : ByteArray} {maxL mc ms n index : Nat} {ret : Option FieldType} {rm : Room} {As : List Value} {Pc : Array Value → State → Prop} {Qc : Array Value → State → Outcome → State → Prop} {free : Addr → Prop}
theorem hp_J.pre (hJ : hp_J G A h s H locs) (As : List Value) : PreS s H (va_Pc As (hp_I G A h)) As := ⟨hp_blind, fun _ hU hW => ⟨rfl, hJ.I hU hW⟩⟩
theorem hp_J.preK (hJ : hp_J G A h s H locs) (As : List Value) : PreS s H (va_Pc As (hp_K G)) As := ⟨hp_blindK, fun _ _ hW => ⟨rfl, hJ.2.1.warm hW⟩⟩
theorem hp_K.pre (hK : hp_K G s) (As : List Value) : PreS s H (va_Pc As (hp_K G)) As := ⟨hp_blindK, fun _ _ hW => ⟨rfl, hK.warm hW⟩⟩
theorem hp_pre0 (As : List Value) : PreS s H (va_Pc As (fun _ => True)) As := ⟨fun _ _ _ _ q => q, fun _ _ _ => ⟨rfl, trivial⟩⟩
theorem hp_J.preV (hJ : hp_J G A h s H locs) {b ci : Nat} {fs : List Value} {C : String} {T : u_T} {N : Nat} (As : List Value) (hb : h b = some (.inr (ci, fs))) (hc : G.2.1[ci]? = some (C, T, N)) : PreV s H C b (va_Pc (.ref b :: As) (hp_I G A h)) As := ⟨hp_blind, va_recv hJ.2.1.1 (hJ.1.one hb) hc (q0 := 0) rfl, fun _ hU hW => ⟨rfl, hJ.I hU hW⟩⟩
theorem hp_runS (S : CallFix p m c cc nL s args Ts own) (hZ : hp_Z Ts G) (hM : Met l y (.code y bytes maxL ret :: Ts) rm Pc Qc mc ms free) (lk : hp_lS Ts own index y bytes maxL ret n) (hp : PreS s H Pc As) (hR : hp_R R rm maxL mc ms) (hn : As.length = n) (hsize : ls.size = nL) (hst : st0 = As.reverse ++ rest) (hW : (rest.map fun v => v.category).sum ≤ 8) (hdg : decode cc pc = .ok (.invokestatic index, 3)) (hf : cells + mc ≤ R.cells ∧ slots + ms ≤ R.slots) :
    va_Run p l e R s m args below meth c H locs cells slots mc ms (F0 m pc ls st0) rest (Qc As.toArray) free := by
  obtain ⟨l1, l2, l3, l4, l5⟩ := lk
  exact va_runS S hM ⟨callB_of n S.2.2.2.2 (hZ.good l4) rfl hR.2.2.1 hR.2.2.2 (S.2.2.2.2 _ l3) (S.2.2.2.2 _ l1) l5 ⟨hR.1, hR.2.1⟩, S.2.2.2.2 _ l2⟩ hp rfl hn hsize hst (lv_room (rest := st0) hW) hdg hf
theorem hp_runN (S : CallFix p m c cc nL s args Ts own) (hZ : hp_Z Ts G) (hK : hp_K G s) (hM : Met l y (.code y bytes maxL ret :: Ts) rm Pc Qc mc ms free) {host : String} (lk : hp_lN Ts G.2.2.2.1 own index y host bytes maxL ret n) (hp : PreS s H Pc As) (hR : hp_R R rm maxL mc ms) (hn : As.length = n) (hsize : ls.size = nL) (hst : st0 = As.reverse ++ rest) (hW : (rest.map fun v => v.category).sum ≤ 8) (hdg : decode cc pc = .ok (.invokestatic index, 3)) (hf : cells + mc ≤ R.cells ∧ slots + ms ≤ R.slots) :
    va_Run p l e R s m args below meth c H locs cells slots mc ms (F0 m pc ls st0) rest (Qc As.toArray) free := by
  obtain ⟨l1, l2, l3, l4, l5⟩ := lk
  exact va_runSN S hM ⟨va_cnB n S.2.2.2.2 (hZ.good l4) rfl hR.2.2.1 hR.2.2.2 (hK.2.1 _ l1) (S.2.2.2.2 _ l3) l5 ⟨hR.1, hR.2.1⟩, S.2.2.2.2 _ l2, trivial⟩ hp rfl hn hsize hst (lv_room (rest := st0) hW) hdg hf
theorem hp_runV (S : CallFix p m c cc nL s args Ts own) (hZ : hp_Z Ts G) (hM : Met l y (.code y bytes maxL ret :: Ts) rm Pc Qc mc ms free) {b : Nat} (lk : hp_lV Ts own index y bytes maxL ret n) (hp : PreV s H y.cls b Pc As) (hR : hp_R R rm maxL mc ms) (hn : As.length = n) (hsize : ls.size = nL) (hst : st0 = As.reverse ++ .ref b :: rest) (hW : (rest.map fun v => v.category).sum ≤ 8) (hdg : decode cc pc = .ok (.invokevirtual index, 3)) (hf : cells + mc ≤ R.cells ∧ slots + ms ≤ R.slots) :
    va_Run p l e R s m args below meth c H locs cells slots mc ms (F0 m pc ls st0) rest (Qc (Value.ref b :: As).toArray) free := by
  obtain ⟨l1, l2, l3, l4, l5, l6⟩ := lk
  exact va_runV S hM ⟨callB_of n S.2.2.2.2 (hZ.good l5) rfl hR.2.2.1 hR.2.2.2 (S.2.2.2.2 _ l4) (S.2.2.2.2 _ l1) l6 ⟨hR.1, hR.2.1⟩, S.2.2.2.2 _ l2, S.2.2.2.2 _ l3⟩ hp rfl hn hsize hst (lv_room (rest := st0) hW) hdg hf
theorem hp_runI (S : CallFix p m c cc nL s args Ts own) (hZ : hp_Z Ts G) (hM : Met l y (.code y bytes maxL none :: Ts) rm Pc Qc mc ms free) {b : Nat} (lk : hp_lI Ts own index y bytes maxL n) (hp : PreS s H Pc (.ref b :: As)) (hR : hp_R R rm maxL mc ms) (hn : As.length = n) (hsize : ls.size = nL) (hst : st0 = As.reverse ++ .ref b :: rest) (hW : (rest.map fun v => v.category).sum ≤ 8) (hdg : decode cc pc = .ok (.invokespecial index, 3)) (hf : cells + mc ≤ R.cells ∧ slots + ms ≤ R.slots) :
    va_Run p l e R s m args below meth c H locs cells slots mc ms (F0 m pc ls st0) rest (Qc (Value.ref b :: As).toArray) free := by
  obtain ⟨l1, l2, l3, l4, l5, l6⟩ := lk
  exact va_runI S hM ⟨callB_of n S.2.2.2.2 (hZ.good l4) rfl hR.2.2.1 hR.2.2.2 (S.2.2.2.2 _ l3) (S.2.2.2.2 _ l1) l6 ⟨hR.1, hR.2.1⟩, l5, S.2.2.2.2 _ l2⟩ hp rfl hn hsize hst (lv_room (rest := st0) hW) hdg hf
/-- behind a call that changes nothing -/
theorem hp_doneR {v : Value} {av : Array Value} (hr : va_Run p l e R s m args below meth c H locs cells slots 0 0 (F0 m pc ls st0) rest (hp_QR (some v) av) (fun _ => False))
    (kk : W p l e R s m args below meth c H locs cells slots Q (F0 m (pc + 3) ls (v :: rest))) : W p l e R s m args below meth c H locs cells slots Q (F0 m pc ls st0) := by
  intro T hT X
  obtain ⟨v', st₀, t, T', L, h0, X', hL, e1, e2, ⟨hv, hh⟩, st⟩ := hr T hT X
  cases hv
  obtain ⟨t2, a1, b1⟩ := kk T' (by rw [e1, hh, h0]) (Stand.forget X' (fun q h => (hL q h).elim))
  exact ⟨t2, st t2 a1, b1⟩
/-- behind a call that leaves the picture h' -/
theorem hp_doneW {α : Type} {mk : α → Option Value} {post : α → hp_T → Prop} {av : Array Value} (hJ : hp_J G A h s H locs) (hr : va_Run p l e R s m args below meth c H locs cells slots mc ms (F0 m pc ls st0) rest (hp_QW G A mk post av) A) {stk : α → List Value} (hs : ∀ r, (mk r).toList ++ rest = stk r)
    (kk : ∀ (r : α) (h' : hp_T) (H' : Heap) (locs' : List Loc), post r h' → hp_J G A h' s H' locs' → W p l e R s m args below meth c H' locs' (cells + mc) (slots + ms) Q (F0 m (pc + 3) ls (stk r))) : W p l e R s m args below meth c H locs cells slots Q (F0 m pc ls st0) := by
  intro T hT X
  obtain ⟨v', st₀, t, T', L, h0, X', hL, e1, e2, ⟨⟨r, h', hv, hp, hP, hd⟩, hz, hk⟩, st⟩ := hr T hT X
  cases hv
  rw [h0] at hz hk
  have hS := hJ.2.2.2.1
  have hS' : va_S A s.heap T'.heap (locs ++ L) := ⟨Nat.le_trans hS.1 (by rw [e1]; exact hz), fun q h1 h2 => by rw [e1, hk q (Nat.lt_of_lt_of_le h1 hS.1) h2]; exact hS.2.1 q h1 h2, fun q hq => by
      rcases List.mem_append.mp hq with h | h
      · exact hS.2.2 q h
      · exact hL q h⟩
  obtain ⟨t2, a1, b1⟩ := kk r h' T'.heap (locs ++ L) hp ⟨by rw [e1]; exact hP, hJ.2.1, hd, hS', hJ.2.2.2.2⟩ T' rfl X'
  exact ⟨t2, st t2 (by rw [hs r]; exact a1), b1⟩
theorem hp_doneWv {post : Unit → hp_T → Prop} {av : Array Value} (hJ : hp_J G A h s H locs) (hr : va_Run p l e R s m args below meth c H locs cells slots mc ms (F0 m pc ls st0) rest (hp_QW G A hp_mv post av) A)
    (kk : ∀ (h' : hp_T) (H' : Heap) (locs' : List Loc), post () h' → hp_J G A h' s H' locs' → W p l e R s m args below meth c H' locs' (cells + mc) (slots + ms) Q (F0 m (pc + 3) ls rest)) : W p l e R s m args below meth c H locs cells slots Q (F0 m pc ls st0) := hp_doneW hJ hr (stk := fun _ => rest) (fun _ => rfl) (fun _ h' H' locs' hp hJ' => kk h' H' locs' hp hJ')
theorem hp_doneWi {post : Int32 → hp_T → Prop} {av : Array Value} (hJ : hp_J G A h s H locs) (hr : va_Run p l e R s m args below meth c H locs cells slots mc ms (F0 m pc ls st0) rest (hp_QW G A hp_mi post av) A)
    (kk : ∀ (r : Int32) (h' : hp_T) (H' : Heap) (locs' : List Loc), post r h' → hp_J G A h' s H' locs' → W p l e R s m args below meth c H' locs' (cells + mc) (slots + ms) Q (F0 m (pc + 3) ls (.int r :: rest))) : W p l e R s m args below meth c H locs cells slots Q (F0 m pc ls st0) := hp_doneW hJ hr (stk := fun r => .int r :: rest) (fun _ => rfl) kk
theorem hp_doneWl {post : Int64 → hp_T → Prop} {av : Array Value} (hJ : hp_J G A h s H locs) (hr : va_Run p l e R s m args below meth c H locs cells slots mc ms (F0 m pc ls st0) rest (hp_QW G A hp_ml post av) A)
    (kk : ∀ (r : Int64) (h' : hp_T) (H' : Heap) (locs' : List Loc), post r h' → hp_J G A h' s H' locs' → W p l e R s m args below meth c H' locs' (cells + mc) (slots + ms) Q (F0 m (pc + 3) ls (.long r :: rest))) : W p l e R s m args below meth c H locs cells slots Q (F0 m pc ls st0) := hp_doneW hJ hr (stk := fun r => .long r :: rest) (fun _ => rfl) kk
theorem hp_doneWr {post : Nat → hp_T → Prop} {av : Array Value} (hJ : hp_J G A h s H locs) (hr : va_Run p l e R s m args below meth c H locs cells slots mc ms (F0 m pc ls st0) rest (hp_QW G A hp_mr post av) A)
    (kk : ∀ (r : Nat) (h' : hp_T) (H' : Heap) (locs' : List Loc), post r h' → hp_J G A h' s H' locs' → W p l e R s m args below meth c H' locs' (cells + mc) (slots + ms) Q (F0 m (pc + 3) ls (.ref r :: rest))) : W p l e R s m args below meth c H locs cells slots Q (F0 m pc ls st0) := hp_doneW hJ hr (stk := fun r => .ref r :: rest) (fun _ => rfl) kk
theorem hp_doneWq {post : Option Nat → hp_T → Prop} {av : Array Value} (hJ : hp_J G A h s H locs) (hr : va_Run p l e R s m args below meth c H locs cells slots mc ms (F0 m pc ls st0) rest (hp_QW G A hp_mq post av) A)
    (kk : ∀ (r : Option Nat) (h' : hp_T) (H' : Heap) (locs' : List Loc), post r h' → hp_J G A h' s H' locs' → W p l e R s m args below meth c H' locs' (cells + mc) (slots + ms) Q (F0 m (pc + 3) ls (va_rf r :: rest))) : W p l e R s m args below meth c H locs cells slots Q (F0 m pc ls st0) := hp_doneW hJ hr (stk := fun r => va_rf r :: rest) (fun _ => rfl) kk
/-- ends of a method that changes nothing -/
theorem hp_retRi {v v' : Int32} (S : CallFix p m c cc nL s args Ts own) (hr : meth.sig.returnType = some .int) (hlk : meth.locks = false) (hdg : decode cc pc = .ok (.ireturn, 1)) (hv : v' = v) : W p l e R s m args below meth c s.heap [] 0 0 (MQ below (hp_QR (some (.int v))) args s 0 0 (fun _ => False)) (F0 m pc ls [.int v']) := by
  subst hv
  exact W.iret S.1 S.2.1 hr (fun t ht _ => ⟨rfl, ht⟩) (fun _ h => by cases h) hdg hlk
theorem hp_retRz {v v' : Int32} (S : CallFix p m c cc nL s args Ts own) (hr : meth.sig.returnType = some .boolean) (hlk : meth.locks = false) (hdg : decode cc pc = .ok (.ireturn, 1)) (hn : narrow .boolean (.int v') = .int v') (hv : v' = v) : W p l e R s m args below meth c s.heap [] 0 0 (MQ below (hp_QR (some (.int v))) args s 0 0 (fun _ => False)) (F0 m pc ls [.int v']) := by
  subst hv
  exact W.zret S.1 S.2.1 hr hn (fun t ht _ => ⟨rfl, ht⟩) (fun _ h => by cases h) hdg hlk
theorem hp_retRl {v v' : Int64} (S : CallFix p m c cc nL s args Ts own) (hr : meth.sig.returnType = some .long) (hlk : meth.locks = false) (hdg : decode cc pc = .ok (.lreturn, 1)) (hv : v' = v) : W p l e R s m args below meth c s.heap [] 0 0 (MQ below (hp_QR (some (.long v))) args s 0 0 (fun _ => False)) (F0 m pc ls [.long v']) := by
  subst hv
  exact W.lret S.1 S.2.1 hr (fun t ht _ => ⟨rfl, ht⟩) (fun _ h => by cases h) hdg hlk
theorem hp_retRa {v : Value} {C : String} (S : CallFix p m c cc nL s args Ts own) (hr : meth.sig.returnType = some (.object C)) (hlk : meth.locks = false) (hdg : decode cc pc = .ok (.areturn, 1)) (hv : v = .null ∨ ∃ a, v = .ref a) : W p l e R s m args below meth c s.heap [] 0 0 (MQ below (hp_QR (some v)) args s 0 0 (fun _ => False)) (F0 m pc ls [v]) := W.aret S.1 S.2.1 hr (Or.inl ⟨C, rfl⟩) hv (fun t ht _ => ⟨rfl, ht⟩) (fun _ h => by cases h) hdg hlk
/-- ends of a method that leaves the picture h -/
theorem hp_q {α : Type} {mk : α → Option Value} {post : α → hp_T → Prop} {r : α} (hJ : hp_J G A h s H locs) (hp : post r h) : ∀ t : State, t.heap = H → s.WarmedH t.vm → hp_QW G A mk post args s (.returned (mk r)) t := fun t ht _ => ⟨⟨r, h, rfl, hp, by rw [ht]; exact hJ.1, hJ.2.2.1⟩, hJ.2.2.2.1.F ht⟩
theorem hp_retWv {post : Unit → hp_T → Prop} (S : CallFix p m c cc nL s args Ts own) (hJ : hp_J G A h s H locs) (hr : meth.sig.returnType = none) (hlk : meth.locks = false) (hdg : decode cc pc = .ok (.return_, 1)) (hc : cells ≤ mc ∧ slots ≤ ms) (hp : post () h) : W p l e R s m args below meth c H locs cells slots (MQ below (hp_QW G A hp_mv post) args s mc ms A) (F0 m pc ls []) := W.widen hc.1 hc.2 (W.vret S.1 S.2.1 hr (hp_q (mk := hp_mv) (r := ()) hJ hp) hJ.2.2.2.1.2.2 hdg hlk)
theorem hp_retWi {post : Int32 → hp_T → Prop} {r : Int32} (S : CallFix p m c cc nL s args Ts own) (hJ : hp_J G A h s H locs) (hr : meth.sig.returnType = some .int) (hlk : meth.locks = false) (hdg : decode cc pc = .ok (.ireturn, 1)) (hc : cells ≤ mc ∧ slots ≤ ms) (hp : post r h) : W p l e R s m args below meth c H locs cells slots (MQ below (hp_QW G A hp_mi post) args s mc ms A) (F0 m pc ls [.int r]) := W.widen hc.1 hc.2 (W.iret S.1 S.2.1 hr (hp_q (mk := hp_mi) (r := r) hJ hp) hJ.2.2.2.1.2.2 hdg hlk)
theorem hp_retWz {post : Int32 → hp_T → Prop} {r : Int32} (S : CallFix p m c cc nL s args Ts own) (hJ : hp_J G A h s H locs) (hr : meth.sig.returnType = some .boolean) (hlk : meth.locks = false) (hdg : decode cc pc = .ok (.ireturn, 1)) (hn : narrow .boolean (.int r) = .int r) (hc : cells ≤ mc ∧ slots ≤ ms) (hp : post r h) : W p l e R s m args below meth c H locs cells slots (MQ below (hp_QW G A hp_mi post) args s mc ms A) (F0 m pc ls [.int r]) := W.widen hc.1 hc.2 (W.zret S.1 S.2.1 hr hn (hp_q (mk := hp_mi) (r := r) hJ hp) hJ.2.2.2.1.2.2 hdg hlk)
theorem hp_retWl {post : Int64 → hp_T → Prop} {r : Int64} (S : CallFix p m c cc nL s args Ts own) (hJ : hp_J G A h s H locs) (hr : meth.sig.returnType = some .long) (hlk : meth.locks = false) (hdg : decode cc pc = .ok (.lreturn, 1)) (hc : cells ≤ mc ∧ slots ≤ ms) (hp : post r h) : W p l e R s m args below meth c H locs cells slots (MQ below (hp_QW G A hp_ml post) args s mc ms A) (F0 m pc ls [.long r]) := W.widen hc.1 hc.2 (W.lret S.1 S.2.1 hr (hp_q (mk := hp_ml) (r := r) hJ hp) hJ.2.2.2.1.2.2 hdg hlk)
theorem hp_retWr {post : Nat → hp_T → Prop} {r : Nat} {C : String} (S : CallFix p m c cc nL s args Ts own) (hJ : hp_J G A h s H locs) (hr : meth.sig.returnType = some (.object C)) (hlk : meth.locks = false) (hdg : decode cc pc = .ok (.areturn, 1)) (hc : cells ≤ mc ∧ slots ≤ ms) (hp : post r h) : W p l e R s m args below meth c H locs cells slots (MQ below (hp_QW G A hp_mr post) args s mc ms A) (F0 m pc ls [.ref r]) := W.widen hc.1 hc.2 (W.aret S.1 S.2.1 hr (Or.inl ⟨C, rfl⟩) (Or.inr ⟨r, rfl⟩) (hp_q (mk := hp_mr) (r := r) hJ hp) hJ.2.2.2.1.2.2 hdg hlk)
theorem hp_retWq {post : Option Nat → hp_T → Prop} {r : Option Nat} {C : String} (S : CallFix p m c cc nL s args Ts own) (hJ : hp_J G A h s H locs) (hr : meth.sig.returnType = some (.object C)) (hlk : meth.locks = false) (hdg : decode cc pc = .ok (.areturn, 1)) (hc : cells ≤ mc ∧ slots ≤ ms) (hp : post r h) : W p l e R s m args below meth c H locs cells slots (MQ below (hp_QW G A hp_mq post) args s mc ms A) (F0 m pc ls [va_rf r]) := W.widen hc.1 hc.2 (W.aret S.1 S.2.1 hr (Or.inl ⟨C, rfl⟩) (va_rf_or r) (hp_q (mk := hp_mq) (r := r) hJ hp) hJ.2.2.2.1.2.2 hdg hlk)
/-- a constructor's call of Object's -/
theorem hp_obj (S : CallFix p m c cc nL s args Ts own) {idx : Nat} (lk : Cond.methodLink own idx Lib.objectInit ∈ Ts ∧ Cond.instanceMethod Lib.objectInit ∈ Ts ∧ Cond.code Lib.objectInit ⟨#[0xb1]⟩ 1 none ∈ Ts) (hsize : ls.size = nL) (hd : decode cc pc = .ok (.invokespecial idx, 3)) (hR : 1 ≤ R.frames ∧ (rest.map fun v => v.category).sum + 12 ≤ R.locals)
    (kk : W p l e R s m args below meth c H locs cells slots Q (F0 m (pc + 3) ls rest)) : W p l e R s m args below meth c H locs cells slots Q (F0 m pc ls (.ref a :: rest)) :=
  W.objInit S.1 S.2.1 S.2.2.2.1 (S.2.2.2.2 _ lk.1) (S.2.2.2.2 _ lk.2.1) (S.2.2.2.2 _ lk.2.2) rfl (by rw [S.2.2.1]; exact hsize) rfl hd hR.1 (by show 2 * 0 + _ + 12 ≤ _; omega) kk
theorem hp_max (S : CallFix p m c cc nL s args Ts own) {idx : Nat} (lk : Cond.methodLink own idx Lib.Math.max.name ∈ Ts ∧ Cond.static Lib.Math.max.name ∈ Ts ∧ Cond.initialized "java/lang/Math" ∈ Ts ∧ Cond.code Lib.Math.max.name Lib.Math.max.code 2 (some .int) ∈ Ts) (hsize : ls.size = nL) {x y : Int32} (hdg : decode cc pc = .ok (.invokestatic idx, 3)) (hR : 1 ≤ R.frames ∧ (rest.map fun v => v.category).sum + 13 ≤ R.locals ∧ cells ≤ R.cells ∧ slots ≤ R.slots)
    (kk : W p l e R s m args below meth c H locs cells slots Q (F0 m (pc + 3) ls (.int (if x < y then y else x) :: rest))) : W p l e R s m args below meth c H locs cells slots Q (F0 m pc ls (.int y :: .int x :: rest)) :=
  va_mmax S.1 S.2.1 (S.2.2.1.trans hsize.symm) S.2.2.2.1 (S.2.2.2.2 _ lk.1) (S.2.2.2.2 _ lk.2.1) (S.2.2.2.2 _ lk.2.2.1) (S.2.2.2.2 _ lk.2.2.2) hR.1 hR.2.1 hR.2.2.1 hR.2.2.2 hdg kk
theorem hp_min (S : CallFix p m c cc nL s args Ts own) {idx : Nat} (lk : Cond.methodLink own idx Lib.Math.min.name ∈ Ts ∧ Cond.static Lib.Math.min.name ∈ Ts ∧ Cond.initialized "java/lang/Math" ∈ Ts ∧ Cond.code Lib.Math.min.name Lib.Math.min.code 2 (some .int) ∈ Ts) (hsize : ls.size = nL) {x y : Int32} (hdg : decode cc pc = .ok (.invokestatic idx, 3)) (hR : 1 ≤ R.frames ∧ (rest.map fun v => v.category).sum + 13 ≤ R.locals ∧ cells ≤ R.cells ∧ slots ≤ R.slots)
    (kk : W p l e R s m args below meth c H locs cells slots Q (F0 m (pc + 3) ls (.int (if y < x then y else x) :: rest))) : W p l e R s m args below meth c H locs cells slots Q (F0 m pc ls (.int y :: .int x :: rest)) :=
  va_mmin S.1 S.2.1 (S.2.2.1.trans hsize.symm) S.2.2.2.1 (S.2.2.2.2 _ lk.1) (S.2.2.2.2 _ lk.2.1) (S.2.2.2.2 _ lk.2.2.1) (S.2.2.2.2 _ lk.2.2.2) hR.1 hR.2.1 hR.2.2.1 hR.2.2.2 hdg kk
end HPC
/-- a method's entry -/
theorem hp_enter {l : Launch} {y : MethodName} {cc : ByteArray} {maxL : Nat} {ret : Option FieldType} {Ts : List Cond} {rm : Room} {av : List Value} {B : State → Prop} {Qc : Array Value → State → Outcome → State → Prop} {mc ms : Nat} {free : Addr → Prop} (hy : plainName y.cls = true) (hn : (lg_sl av).length ≤ maxL)
    (body : ∀ (p : Program) (e : Env) (s : State) (m : MethodId) (below : List Frame) (meth : Method) (c : Code) (ls : Array Slot), CallFix p m c cc maxL s av.toArray Ts y.cls → meth.sig.returnType = ret → meth.locks = false → meth.name = y.name → B s → lv_has ls maxL (lv_args 0 av) →
      W p l e rm s m av.toArray below meth c s.heap [] 0 0 (MQ below Qc av.toArray s mc ms free) (F0 m 0 ls [])) : Met l y (.code y cc maxL ret :: Ts) rm (va_Pc av B) Qc mc ms free := by
  refine Met.ofW (cc := cc) (maxL := maxL) (ret := ret) hy rfl ?_
  intro p e s m args below meth c s₁ B' hml hv
  obtain ⟨rfl, hB⟩ := hv
  have hts := atoms_spec (ws := .code y cc maxL ret :: Ts) B'.pre
  have hown : s.vm.findClass y.cls = some m.cls := findClass_of_methodNamed B'.named
  have hin : meth.name = y.name := (name_of_methodNamed B'.named B'.method).1
  rw [lg_entry_eq]
  exact body p e s m below meth c _ ⟨B'.exec, B'.bytes, hml, hown, fun w hw => hts w (List.mem_cons_of_mem _ hw)⟩ B'.returns B'.notSynchronized hin hB (lv_entry av hn)
