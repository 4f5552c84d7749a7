/-! The heap as a function from addresses to cells; rows of the kit said over it. G: the classes' numbers and slots, the table of classes, the array classes, the nest words, the element classes. -/
abbrev hp_T : Type := Nat → Option va_E
abbrev hp_G : Type := va_G × List vw_C × List (ClassId × FieldType) × List (String × Nat × MethodName × String) × List String
def hp_P (G : hp_G) (h : hp_T) (H : Heap) : Prop := ∀ (a : Nat) (e : va_E), h a = some e → va_at G.1 G.2.1 (a, e) H
def hp_up (h : hp_T) (a : Nat) (e : va_E) : hp_T := fun q => if q = a then some e else h q
theorem hp_up_s (h : hp_T) (a : Nat) (e : va_E) : hp_up h a e a = some e := if_pos rfl
theorem hp_up_n {h : hp_T} {a q : Nat} {e : va_E} (hq : q ≠ a) : hp_up h a e q = h q := if_neg hq
theorem hp_up_k {h : hp_T} {a q : Nat} {e : va_E} {x : Option va_E} (hq : q ≠ a) (hx : h q = x) : hp_up h a e q = x := (hp_up_n hq).trans hx
theorem hp_up_up (h : hp_T) (a : Nat) (e e' : va_E) : hp_up (hp_up h a e) a e' = hp_up h a e' := by
  funext q
  by_cases hq : q = a
  · subst hq
    rw [hp_up_s, hp_up_s]
  · rw [hp_up_n hq, hp_up_n hq, hp_up_n hq]
theorem hp_up_same {h : hp_T} {a : Nat} {e : va_E} (he : h a = some e) : hp_up h a e = h := by
  funext q
  by_cases hq : q = a
  · subst hq
    rw [hp_up_s, he]
  · rw [hp_up_n hq]
theorem hp_up_comm (h : hp_T) {a b : Nat} (e e' : va_E) (hab : a ≠ b) : hp_up (hp_up h a e) b e' = hp_up (hp_up h b e') a e := by
  funext q
  by_cases hq : q = a
  · subst hq
    rw [hp_up_n hab, hp_up_s, hp_up_s]
  · by_cases hr : q = b
    · subst hr
      rw [hp_up_s, hp_up_n hq, hp_up_s]
    · rw [hp_up_n hr, hp_up_n hq, hp_up_n hq, hp_up_n hr]
/-- a cell's kind: cells of two kinds lie apart -/
def hp_kind (e : va_E) : Nat × Nat := match e with
  | .inr o => (0, o.1)
  | .inl (_, _, .inl _) => (1, 0)
  | .inl (_, _, .inr (.inl _)) => (2, 0)
  | .inl (_, _, .inr (.inr (.inl _))) => (3, 0)
  | .inl (_, _, .inr (.inr (.inr (.inl _)))) => (4, 0)
  | .inl (_, _, .inr (.inr (.inr (.inr _)))) => (5, 0)
theorem hp_ne {h : hp_T} {a b : Nat} {e e' : va_E} (ha : h a = some e) (hb : h b = some e') (hk : hp_kind e ≠ hp_kind e') : a ≠ b := fun q => hk (by rw [q, hb] at ha; rw [Option.some.inj ha])
theorem hp_neN {h : hp_T} {a b : Nat} {e : va_E} (ha : h a = some e) (hb : h b = none) : a ≠ b := fun q => by rw [q, hb] at ha; cases ha
/-- the cells below n as a list -/
def hp_ws (h : hp_T) (n : Nat) : va_W := (List.range n).filterMap (fun a => (h a).map (fun e => (a, e)))
theorem hp_mem {h : hp_T} {n a : Nat} {e : va_E} : (a, e) ∈ hp_ws h n ↔ a < n ∧ h a = some e := by
  constructor
  · intro hm
    obtain ⟨x, hx, hf⟩ := List.mem_filterMap.mp hm
    cases hq : h x with
    | none => rw [hq] at hf; cases hf
    | some e' =>
      rw [hq] at hf
      cases hf
      exact ⟨List.mem_range.mp hx, hq⟩
  · rintro ⟨ha, he⟩
    exact List.mem_filterMap.mpr ⟨a, List.mem_range.mpr ha, by rw [he]; rfl⟩
theorem hp_pw (h : hp_T) (n : Nat) : (hp_ws h n).Pairwise (fun x y => x.1 < y.1) := by
  refine List.Pairwise.filterMap _ ?_ List.pairwise_lt_range
  intro a a' haa b hb b' hb'
  cases hq : h a with
  | none => rw [hq] at hb; cases hb
  | some e =>
    rw [hq] at hb
    cases hb
    cases hq' : h a' with
    | none => rw [hq'] at hb'; cases hb'
    | some e' =>
      rw [hq'] at hb'
      cases hb'
      exact haa
theorem hp_inj {h : hp_T} {n i j : Nat} {x y : Nat × va_E} (hi : (hp_ws h n)[i]? = some x) (hj : (hp_ws h n)[j]? = some y) (hxy : x.1 = y.1) : i = j := by
  have hp := List.pairwise_iff_getElem.mp (hp_pw h n)
  obtain ⟨li, ei⟩ := List.getElem?_eq_some_iff.mp hi
  obtain ⟨lj, ej⟩ := List.getElem?_eq_some_iff.mp hj
  rcases Nat.lt_trichotomy i j with q | q | q
  · have := hp i j li lj q
    rw [ei, ej] at this
    omega
  · exact q
  · have := hp j i lj li q
    rw [ei, ej] at this
    omega
theorem hp_at {h : hp_T} {n a : Nat} {e : va_E} (ha : a < n) (he : h a = some e) : ∃ k : Nat, (hp_ws h n)[k]? = some (a, e) := List.getElem?_of_mem (hp_mem.mpr ⟨ha, he⟩)
theorem hp_of {h : hp_T} {n k : Nat} {x : Nat × va_E} (hk : (hp_ws h n)[k]? = some x) : h x.1 = some x.2 := (hp_mem.mp (List.mem_of_getElem? hk)).2
theorem hp_P.lt {G : hp_G} {h : hp_T} {H : Heap} (hP : hp_P G h H) {a : Nat} {e : va_E} (he : h a = some e) : a < H.size := va_at.lt (q := (a, e)) (hP a e he)
theorem hp_P.none {G : hp_G} {h : hp_T} {H : Heap} (hP : hp_P G h H) {a : Nat} (ha : H.size ≤ a) : h a = none := by
  cases he : h a with
  | none => rfl
  | some e => exact absurd (hP.lt he) (by omega)
theorem hp_P.ws {G : hp_G} {h : hp_T} {H : Heap} (hP : hp_P G h H) (n : Nat) : va_P G.1 G.2.1 (hp_ws h n) H := fun _ x hk => hP x.1 x.2 (hp_of hk)
theorem hp_D {A : Nat → Prop} {h : hp_T} (hd : ∀ (a : Nat) (e : va_E), h a = some e → A a) (n : Nat) : va_D A (hp_ws h n) := ⟨fun _ _ _ _ hi hj hxy => hp_inj hi hj hxy, fun _ x hk => hd x.1 x.2 (hp_of hk)⟩
theorem hp_P.one {G : hp_G} {h : hp_T} {H : Heap} (hP : hp_P G h H) {a : Nat} {e : va_E} (he : h a = some e) : va_P G.1 G.2.1 [(a, e)] H := by
  intro k q hk
  cases k with
  | zero => cases hk; exact hP a e he
  | succ k => simp at hk
theorem hp_set {G : hp_G} {h : hp_T} {H H1 : Heap} (hP : hp_P G h H) {a q0 : Nat} {e0 e1 : va_E} (h0 : (hp_ws h H.size)[q0]? = some (a, e0)) (h1 : va_P G.1 G.2.1 ((hp_ws h H.size).set q0 (a, e1)) H1) : hp_P G (hp_up h a e1) H1 := by
  have hl := (List.getElem?_eq_some_iff.mp h0).1
  intro q e hq
  by_cases hqa : q = a
  · subst hqa
    rw [hp_up_s] at hq
    cases hq
    exact h1 q0 _ (List.getElem?_set_self hl)
  · rw [hp_up_n hqa] at hq
    obtain ⟨k, hk⟩ := hp_at (hP.lt hq) hq
    have hne : q0 ≠ k := by
      intro z
      subst z
      rw [h0] at hk
      cases hk
      exact hqa rfl
    exact h1 k _ (by rw [List.getElem?_set_ne hne]; exact hk)
theorem hp_app {G : hp_G} {A : Nat → Prop} {h : hp_T} {H H1 : Heap} (hP : hp_P G h H) {a : Nat} {e1 : va_E} (h1 : va_P G.1 G.2.1 (hp_ws h H.size ++ [(a, e1)]) H1) (hD : va_D A (hp_ws h H.size ++ [(a, e1)])) : hp_P G (hp_up h a e1) H1 ∧ h a = none ∧ A a := by
  have hlast : (hp_ws h H.size ++ [(a, e1)])[(hp_ws h H.size).length]? = some (a, e1) := by rw [List.getElem?_append_right (Nat.le_refl _), Nat.sub_self]; rfl
  have hin : ∀ (k : Nat) (x : Nat × va_E), (hp_ws h H.size)[k]? = some x → (hp_ws h H.size ++ [(a, e1)])[k]? = some x := fun k x hk => by rw [List.getElem?_append_left (List.getElem?_eq_some_iff.mp hk).1]; exact hk
  have hno : h a = none := by
    cases he : h a with
    | none => rfl
    | some e =>
      obtain ⟨k, hk⟩ := hp_at (hP.lt he) he
      have := hD.1 _ _ _ _ (hin k _ hk) hlast rfl
      have hl := (List.getElem?_eq_some_iff.mp hk).1
      omega
  refine ⟨fun q e hq => ?_, hno, hD.2 _ _ hlast⟩
  by_cases hqa : q = a
  · subst hqa
    rw [hp_up_s] at hq
    cases hq
    exact h1 _ _ hlast
  · rw [hp_up_n hqa] at hq
    obtain ⟨k, hk⟩ := hp_at (hP.lt hq) hq
    exact h1 k _ (hin k _ hk)
/-- what the tables say, and goes on being so -/
def hp_K (G : hp_G) (U : State) : Prop := va_K G.1 G.2.1 G.2.2.1 U ∧ (∀ q ∈ G.2.2.2.1, va_Nw (.methodLinkNest q.1 q.2.1 q.2.2.1 q.2.2.2) U) ∧ ∀ C ∈ G.2.2.2.2, va_AO C U
theorem hp_K.warm {G : hp_G} {s U : State} (hW : s.WarmedH U.vm) (h : hp_K G s) : hp_K G U := ⟨va_K.moved hW.alike h.1, fun q hq => va_Nw.warmM hW (h.2.1 q hq), fun C hC => va_AO.moved hW.alike (h.2.2 C hC)⟩
theorem hp_K.blind {G : hp_G} {U : State} {g : JFrame} {mk : MethodId} {a : Array Value} (h : hp_K G U) : hp_K G (U.calling g mk a) := ⟨va_K.moved (u := U) (U := U.calling g mk a) (Vm.Alike.refl U.vm) h.1, fun q hq => va_Nw.same (u := U) (U := U.calling g mk a) rfl rfl (h.2.1 q hq), fun C hC => va_AO.moved (u := U) (U := U.calling g mk a) (Vm.Alike.refl U.vm) (h.2.2 C hC)⟩
/-- a method's start -/
def hp_I (G : hp_G) (A : Nat → Prop) (h : hp_T) (U : State) : Prop := hp_P G h U.heap ∧ hp_K G U ∧ (∀ (a : Nat) (e : va_E), h a = some e → A a) ∧ ∀ q : Nat, U.heap.size ≤ q → A q
/-- where a method stands: started at s, the heap is H now, its picture h -/
def hp_J (G : hp_G) (A : Nat → Prop) (h : hp_T) (s : State) (H : Heap) (locs : List Loc) : Prop := hp_P G h H ∧ hp_K G s ∧ (∀ (a : Nat) (e : va_E), h a = some e → A a) ∧ va_S A s.heap H locs ∧ ∀ q : Nat, s.heap.size ≤ q → A q
theorem hp_I.J {G : hp_G} {A : Nat → Prop} {h : hp_T} {s : State} (hI : hp_I G A h s) : hp_J G A h s s.heap [] := ⟨hI.1, hI.2.1, hI.2.2.1, va_S.rf, hI.2.2.2⟩
theorem hp_J.I {G : hp_G} {A : Nat → Prop} {h : hp_T} {s U : State} {H : Heap} {locs : List Loc} (hJ : hp_J G A h s H locs) (hU : U.heap = H) (hW : s.WarmedH U.vm) : hp_I G A h U := ⟨by rw [hU]; exact hJ.1, hJ.2.1.warm hW, hJ.2.2.1, fun q hq => hJ.2.2.2.2 q (Nat.le_trans hJ.2.2.2.1.1 (by rw [← hU]; exact hq))⟩
theorem hp_J.lt {G : hp_G} {A : Nat → Prop} {h : hp_T} {s : State} {H : Heap} {locs : List Loc} (hJ : hp_J G A h s H locs) {a : Nat} {e : va_E} (he : h a = some e) : a < H.size := hJ.1.lt he
theorem hp_blind {G : hp_G} {A : Nat → Prop} {h : hp_T} {av : List Value} : FrameBlind (va_Pc av (hp_I G A h)) := fun _ _ _ _ q => ⟨q.1, q.2.1, q.2.2.1.blind, q.2.2.2⟩
theorem hp_blindK {G : hp_G} {av : List Value} : FrameBlind (va_Pc av (hp_K G)) := fun _ _ _ _ q => ⟨q.1, q.2.blind⟩
/-- the ends: a method that changes nothing; a method that leaves the picture h' -/
def hp_QR (v : Option Value) : Array Value → State → Outcome → State → Prop := fun _ st o t => o = .returned v ∧ t.heap = st.heap
def hp_QW {α : Type} (G : hp_G) (A : Nat → Prop) (mk : α → Option Value) (post : α → hp_T → Prop) : Array Value → State → Outcome → State → Prop := fun _ st o t => (∃ (r : α) (h' : hp_T), o = .returned (mk r) ∧ post r h' ∧ hp_P G h' t.heap ∧ ∀ (a : Nat) (e : va_E), h' a = some e → A a) ∧ va_F A st t
abbrev hp_mv (_ : Unit) : Option Value := none
abbrev hp_mi (r : Int32) : Option Value := some (.int r)
abbrev hp_ml (r : Int64) : Option Value := some (.long r)
abbrev hp_mr (r : Nat) : Option Value := some (.ref r)
abbrev hp_mq (r : Option Nat) : Option Value := some (va_rf r)
/-- the tables' words, once for all: every word is good, the classes' fields stand among them -/
def hp_C (Ts : List Cond) (cl : List vw_C) : Prop := ∀ (ci : Nat) (C : String) (T : u_T) (N : Nat), cl[ci]? = some (C, T, N) → (∀ w ∈ u_ws C T N, w ∈ Ts) ∧ (∃ ty : Nat → FieldType, ∀ k, k < N → parseFieldDescriptor (T k).2.2.1 = some (ty k)) ∧ ∀ a, a < N → ∀ b, b < N → a ≠ b → (T a).2.1 ≠ (T b).2.1
def hp_Z (Ts : List Cond) (G : hp_G) : Prop := hp_C Ts G.2.1 ∧ ∀ w ∈ Ts, (w.onTables && w.keeps) = true ∨ ∃ ty, w = .arrayClass ty
theorem hp_Z.good {Ts : List Cond} {G : hp_G} (hZ : hp_Z Ts G) {w : Cond} (hw : w ∈ Ts) : GoodIn Ts (w :: Ts) := fun x hx => by
  rcases List.mem_cons.mp hx with rfl | hx
  · exact ⟨hw, hZ.2 _ hw⟩
  · exact ⟨hx, hZ.2 _ hx⟩
/-- a field as an instruction names it -/
def hp_f (Ts : List Cond) (cl : List vw_C) (own : String) (index ci k : Nat) : Prop := ∃ (C : String) (T : u_T) (N : Nat), cl[ci]? = some (C, T, N) ∧ k < N ∧ Cond.fieldLink own index (T k).1 (T k).2.1 (T k).2.2.1 ∈ Ts
def hp_fp (Ts : List Cond) (cl : List vw_C) (own : String) (index ci k : Nat) (ty : FieldType) (fin : Bool) : Prop := ∃ (C : String) (T : u_T) (N : Nat), cl[ci]? = some (C, T, N) ∧ k < N ∧ Cond.fieldLink own index (T k).1 (T k).2.1 (T k).2.2.1 ∈ Ts ∧ (T k).2.2.2 = fin ∧ parseFieldDescriptor (T k).2.2.1 = some ty ∧ (T k).1 = C
section HPW
variable {p : Program} {l : Launch} {e : Env} {R : Room} {s : State} {m : MethodId} {args : Array Value} {below : List Frame} {meth : Method} {c : Code} {H : Heap} {locs : List Loc} {cells slots : Nat} {Q : State → Prop}
variable {cc : ByteArray} {nL pc : Nat} {ls : Array Slot} {rest : List Value} {Ts : List Cond} {own : String} {G : hp_G} {A : Nat → Prop} {h : hp_T} {a : Nat}
theorem hp_get (S : CallFix p m c cc nL s args Ts own) (hZ : hp_Z Ts G) (hJ : hp_J G A h s H locs) {index ci k : Nat} {fs : List Value} (ha : h a = some (.inr (ci, fs))) (hf : hp_f Ts G.2.1 own index ci k) {v : Value} (hv : fs[k]? = some v) (hdg : decode cc pc = .ok (.getfield index, 3))
    (kk : W p l e R s m args below meth c H locs cells slots Q (F0 m (pc + 3) ls (v :: rest))) : W p l e R s m args below meth c H locs cells slots Q (F0 m pc ls (.ref a :: rest)) := by
  obtain ⟨C, T, N, hc, hk, hl⟩ := hf
  exact va_get S.1 S.2.1 S.2.2.2.2 (hZ.1 ci C T N hc).1 S.2.2.2.1 hJ.2.1.1 (hJ.1.one ha) 0 rfl hc k hk (S.2.2.2.2 _ hl) (fun _ h9 => h9) hv hdg kk
theorem hp_put (S : CallFix p m c cc nL s args Ts own) (hZ : hp_Z Ts G) (hJ : hp_J G A h s H locs) {index ci k : Nat} {fs : List Value} {ty : FieldType} (ha : h a = some (.inr (ci, fs))) (hf : hp_fp Ts G.2.1 own index ci k ty false) {v : Value} (hn : narrow ty v = v) (hfit : fits ty v = true) (hl : k < fs.length) (hdg : decode cc pc = .ok (.putfield index, 3))
    (kk : ∀ (H1 : Heap) (locs1 : List Loc), hp_J G A (hp_up h a (.inr (ci, fs.set k v))) s H1 locs1 → W p l e R s m args below meth c H1 locs1 cells slots Q (F0 m (pc + 3) ls rest)) : W p l e R s m args below meth c H locs cells slots Q (F0 m pc ls (v :: .ref a :: rest)) := by
  obtain ⟨C, T, N, hc, hk, hlk, hfin, hd, -⟩ := hf
  obtain ⟨hin, ⟨ty0, hty⟩, hnm⟩ := hZ.1 ci C T N hc
  obtain ⟨q0, h0⟩ := hp_at (hJ.lt ha) ha
  refine va_put S.1 S.2.1 S.2.2.2.2 hin ty0 hty hnm S.2.2.2.1 hJ.2.1.1 (hJ.1.ws H.size) (hp_D hJ.2.2.1 _) hJ.2.2.2.1 q0 h0 hc k hk (S.2.2.2.2 _ hlk) (fun _ h9 => h9) hfin hd hn hfit hl hdg fun H1 locs1 h1 h2 h3 => ?_
  refine kk H1 locs1 ⟨hp_set hJ.1 h0 h1, hJ.2.1, fun q x hq => ?_, h3, hJ.2.2.2.2⟩
  by_cases hqa : q = a
  · subst hqa
    exact hJ.2.2.1 q _ ha
  · rw [hp_up_n hqa] at hq
    exact hJ.2.2.1 q x hq
theorem hp_putF (S : CallFix p m c cc nL s args Ts own) (hZ : hp_Z Ts G) (hJ : hp_J G A h s H locs) (hin2 : meth.name = "<init>") {index ci k : Nat} {fs : List Value} {ty : FieldType} (ha : h a = some (.inr (ci, fs))) (hf : hp_fp Ts G.2.1 own index ci k ty true) (ho : (G.2.1[ci]?).map (fun q => q.1) = some own) {v : Value} (hn : narrow ty v = v) (hfit : fits ty v = true) (hl : k < fs.length) (hdg : decode cc pc = .ok (.putfield index, 3))
    (kk : ∀ (H1 : Heap) (locs1 : List Loc), hp_J G A (hp_up h a (.inr (ci, fs.set k v))) s H1 locs1 → W p l e R s m args below meth c H1 locs1 cells slots Q (F0 m (pc + 3) ls rest)) : W p l e R s m args below meth c H locs cells slots Q (F0 m pc ls (v :: .ref a :: rest)) := by
  obtain ⟨C, T, N, hc, hk, hlk, hfin, hd, hdc⟩ := hf
  obtain ⟨hin, ⟨ty0, hty⟩, hnm⟩ := hZ.1 ci C T N hc
  obtain ⟨q0, h0⟩ := hp_at (hJ.lt ha) ha
  rw [hc] at ho
  have hco : C = own := Option.some.inj ho
  refine va_putF S.1 S.2.1 S.2.2.2.2 hin ty0 hty hnm S.2.2.2.1 hJ.2.1.1 (hJ.1.ws H.size) (hp_D hJ.2.2.1 _) hJ.2.2.2.1 q0 h0 hc k hk (S.2.2.2.2 _ hlk) (fun _ h9 => h9) hfin hin2 (hdc.trans hco) hd hn hfit hl hdg fun H1 locs1 h1 h2 h3 => ?_
  refine kk H1 locs1 ⟨hp_set hJ.1 h0 h1, hJ.2.1, fun q x hq => ?_, h3, hJ.2.2.2.2⟩
  by_cases hqa : q = a
  · subst hqa
    exact hJ.2.2.1 q _ ha
  · rw [hp_up_n hqa] at hq
    exact hJ.2.2.1 q x hq
theorem hp_iald (S : CallFix p m c cc nL s args Ts own) (hJ : hp_J G A h s H locs) (t0 : Nat) {cA : ClassId} {n : Nat} {f : Nat → Int32} (ha : h a = some (.inl (cA, n, .inl f))) (ht : G.2.2.1[t0]? = some (cA, .int)) {i : Int32} (hin : vp_in i n) (hdg : decode cc pc = .ok (.iaload, 1))
    (kk : W p l e R s m args below meth c H locs cells slots Q (F0 m (pc + 1) ls (.int (f i.toNatClampNeg) :: rest))) : W p l e R s m args below meth c H locs cells slots Q (F0 m pc ls (.int i :: .ref a :: rest)) := va_iald S.1 S.2.1 hJ.2.1.1 (hJ.1.one ha) 0 t0 rfl ht hin hdg kk
theorem hp_zald (S : CallFix p m c cc nL s args Ts own) (hJ : hp_J G A h s H locs) (t0 : Nat) {cA : ClassId} {n : Nat} {f : Nat → Int32} (ha : h a = some (.inl (cA, n, .inl f))) (ht : G.2.2.1[t0]? = some (cA, .boolean)) {i : Int32} (hin : vp_in i n) (hdg : decode cc pc = .ok (.baload, 1))
    (kk : W p l e R s m args below meth c H locs cells slots Q (F0 m (pc + 1) ls (.int (f i.toNatClampNeg) :: rest))) : W p l e R s m args below meth c H locs cells slots Q (F0 m pc ls (.int i :: .ref a :: rest)) := va_zald S.1 S.2.1 hJ.2.1.1 (hJ.1.one ha) 0 t0 rfl ht hin hdg kk
theorem hp_bald (S : CallFix p m c cc nL s args Ts own) (hJ : hp_J G A h s H locs) (t0 : Nat) {cA : ClassId} {n : Nat} {f : Nat → Int32} (ha : h a = some (.inl (cA, n, .inl f))) (ht : G.2.2.1[t0]? = some (cA, .byte)) {i : Int32} (hin : vp_in i n) (hdg : decode cc pc = .ok (.baload, 1))
    (kk : W p l e R s m args below meth c H locs cells slots Q (F0 m (pc + 1) ls (.int (f i.toNatClampNeg) :: rest))) : W p l e R s m args below meth c H locs cells slots Q (F0 m pc ls (.int i :: .ref a :: rest)) := va_bald S.1 S.2.1 hJ.2.1.1 (hJ.1.one ha) 0 t0 rfl ht hin hdg kk
theorem hp_lald (S : CallFix p m c cc nL s args Ts own) (hJ : hp_J G A h s H locs) (t0 : Nat) {cA : ClassId} {n : Nat} {f : Nat → Int64} (ha : h a = some (.inl (cA, n, .inr (.inl f)))) (ht : G.2.2.1[t0]? = some (cA, .long)) {i : Int32} (hin : vp_in i n) (hdg : decode cc pc = .ok (.laload, 1))
    (kk : W p l e R s m args below meth c H locs cells slots Q (F0 m (pc + 1) ls (.long (f i.toNatClampNeg) :: rest))) : W p l e R s m args below meth c H locs cells slots Q (F0 m pc ls (.int i :: .ref a :: rest)) := va_lald S.1 S.2.1 hJ.2.1.1 (hJ.1.one ha) 0 t0 rfl ht hin hdg kk
theorem hp_aald (S : CallFix p m c cc nL s args Ts own) (hJ : hp_J G A h s H locs) (t0 : Nat) {cA : ClassId} {C : String} {n : Nat} {f : Nat → Option Nat} (ha : h a = some (.inl (cA, n, .inr (.inr (.inr (.inr f)))))) (ht : G.2.2.1[t0]? = some (cA, .object C)) {i : Int32} (hin : vp_in i n) (hdg : decode cc pc = .ok (.aaload, 1))
    (kk : W p l e R s m args below meth c H locs cells slots Q (F0 m (pc + 1) ls (va_rf (f i.toNatClampNeg) :: rest))) : W p l e R s m args below meth c H locs cells slots Q (F0 m pc ls (.int i :: .ref a :: rest)) := va_aldq S.1 S.2.1 hJ.2.1.1 (hJ.1.one ha) 0 t0 rfl ht hin hdg kk
theorem hp_alen (S : CallFix p m c cc nL s args Ts own) (hJ : hp_J G A h s H locs) (t0 : Nat) {cA : ClassId} {x : vp_A} (ha : h a = some (.inl (cA, x))) {ty : FieldType} (ht : G.2.2.1[t0]? = some (cA, ty)) (hdg : decode cc pc = .ok (.arraylength, 1))
    (kk : W p l e R s m args below meth c H locs cells slots Q (F0 m (pc + 1) ls (.int (nI x.1) :: rest))) : W p l e R s m args below meth c H locs cells slots Q (F0 m pc ls (.ref a :: rest)) := va_alen S.1 S.2.1 hJ.2.1.1 (hJ.1.one ha) 0 t0 rfl ht rfl hdg kk
theorem hp_dom {e0 e1 : va_E} (hd : ∀ (q : Nat) (x : va_E), h q = some x → A q) (ha : h a = some e0) : ∀ (q : Nat) (x : va_E), hp_up h a e1 q = some x → A q := by
  intro q x hq
  by_cases hqa : q = a
  · subst hqa
    exact hd q _ ha
  · rw [hp_up_n hqa] at hq
    exact hd q x hq
theorem hp_domN {e1 : va_E} (hd : ∀ (q : Nat) (x : va_E), h q = some x → A q) (ha : A a) : ∀ (q : Nat) (x : va_E), hp_up h a e1 q = some x → A q := by
  intro q x hq
  by_cases hqa : q = a
  · subst hqa
    exact ha
  · rw [hp_up_n hqa] at hq
    exact hd q x hq
theorem hp_iast (S : CallFix p m c cc nL s args Ts own) (hJ : hp_J G A h s H locs) (t0 : Nat) {cA : ClassId} {n : Nat} {f : Nat → Int32} (ha : h a = some (.inl (cA, n, .inl f))) (ht : G.2.2.1[t0]? = some (cA, .int)) {i x : Int32} (hin : vp_in i n) (hdg : decode cc pc = .ok (.iastore, 1))
    (kk : ∀ (H1 : Heap) (locs1 : List Loc), hp_J G A (hp_up h a (.inl (cA, n, .inl (upd f i.toNatClampNeg x)))) s H1 locs1 → W p l e R s m args below meth c H1 locs1 cells slots Q (F0 m (pc + 1) ls rest)) : W p l e R s m args below meth c H locs cells slots Q (F0 m pc ls (.int x :: .int i :: .ref a :: rest)) := by
  obtain ⟨q0, h0⟩ := hp_at (hJ.lt ha) ha
  exact va_iast S.1 S.2.1 hJ.2.1.1 (hJ.1.ws H.size) (hp_D hJ.2.2.1 _) hJ.2.2.2.1 q0 t0 h0 ht hin hdg fun H1 locs1 h1 h2 h3 => kk H1 locs1 ⟨hp_set hJ.1 h0 h1, hJ.2.1, hp_dom hJ.2.2.1 ha, h3, hJ.2.2.2.2⟩
theorem hp_zast (S : CallFix p m c cc nL s args Ts own) (hJ : hp_J G A h s H locs) (t0 : Nat) {cA : ClassId} {n : Nat} {f : Nat → Int32} (ha : h a = some (.inl (cA, n, .inl f))) (ht : G.2.2.1[t0]? = some (cA, .boolean)) {i x : Int32} (hin : vp_in i n) (hdg : decode cc pc = .ok (.bastore, 1))
    (kk : ∀ (H1 : Heap) (locs1 : List Loc), hp_J G A (hp_up h a (.inl (cA, n, .inl (upd f i.toNatClampNeg (vp_nar .boolean x))))) s H1 locs1 → W p l e R s m args below meth c H1 locs1 cells slots Q (F0 m (pc + 1) ls rest)) : W p l e R s m args below meth c H locs cells slots Q (F0 m pc ls (.int x :: .int i :: .ref a :: rest)) := by
  obtain ⟨q0, h0⟩ := hp_at (hJ.lt ha) ha
  exact va_zast S.1 S.2.1 hJ.2.1.1 (hJ.1.ws H.size) (hp_D hJ.2.2.1 _) hJ.2.2.2.1 q0 t0 h0 ht hin hdg fun H1 locs1 h1 h2 h3 => kk H1 locs1 ⟨hp_set hJ.1 h0 h1, hJ.2.1, hp_dom hJ.2.2.1 ha, h3, hJ.2.2.2.2⟩
theorem hp_bast (S : CallFix p m c cc nL s args Ts own) (hJ : hp_J G A h s H locs) (t0 : Nat) {cA : ClassId} {n : Nat} {f : Nat → Int32} (ha : h a = some (.inl (cA, n, .inl f))) (ht : G.2.2.1[t0]? = some (cA, .byte)) {i x : Int32} (hin : vp_in i n) (hdg : decode cc pc = .ok (.bastore, 1))
    (kk : ∀ (H1 : Heap) (locs1 : List Loc), hp_J G A (hp_up h a (.inl (cA, n, .inl (upd f i.toNatClampNeg (vp_nar .byte x))))) s H1 locs1 → W p l e R s m args below meth c H1 locs1 cells slots Q (F0 m (pc + 1) ls rest)) : W p l e R s m args below meth c H locs cells slots Q (F0 m pc ls (.int x :: .int i :: .ref a :: rest)) := by
  obtain ⟨q0, h0⟩ := hp_at (hJ.lt ha) ha
  exact va_bast S.1 S.2.1 hJ.2.1.1 (hJ.1.ws H.size) (hp_D hJ.2.2.1 _) hJ.2.2.2.1 q0 t0 h0 ht hin hdg fun H1 locs1 h1 h2 h3 => kk H1 locs1 ⟨hp_set hJ.1 h0 h1, hJ.2.1, hp_dom hJ.2.2.1 ha, h3, hJ.2.2.2.2⟩
theorem hp_last (S : CallFix p m c cc nL s args Ts own) (hJ : hp_J G A h s H locs) (t0 : Nat) {cA : ClassId} {n : Nat} {f : Nat → Int64} (ha : h a = some (.inl (cA, n, .inr (.inl f)))) (ht : G.2.2.1[t0]? = some (cA, .long)) {i : Int32} {x : Int64} (hin : vp_in i n) (hdg : decode cc pc = .ok (.lastore, 1))
    (kk : ∀ (H1 : Heap) (locs1 : List Loc), hp_J G A (hp_up h a (.inl (cA, n, .inr (.inl (vp_updL f i.toNatClampNeg x))))) s H1 locs1 → W p l e R s m args below meth c H1 locs1 cells slots Q (F0 m (pc + 1) ls rest)) : W p l e R s m args below meth c H locs cells slots Q (F0 m pc ls (.long x :: .int i :: .ref a :: rest)) := by
  obtain ⟨q0, h0⟩ := hp_at (hJ.lt ha) ha
  exact va_last S.1 S.2.1 hJ.2.1.1 (hJ.1.ws H.size) (hp_D hJ.2.2.1 _) hJ.2.2.2.1 q0 t0 h0 ht hin hdg fun H1 locs1 h1 h2 h3 => kk H1 locs1 ⟨hp_set hJ.1 h0 h1, hJ.2.1, hp_dom hJ.2.2.1 ha, h3, hJ.2.2.2.2⟩
theorem hp_aast (S : CallFix p m c cc nL s args Ts own) (hJ : hp_J G A h s H locs) (t0 ci : Nat) {cA : ClassId} {r : vw_C} {n v : Nat} {vs : List Value} {f : Nat → Option Nat} (ha : h a = some (.inl (cA, n, .inr (.inr (.inr (.inr f)))))) (ht : G.2.2.1[t0]? = some (cA, .object r.1)) (hv : h v = some (.inr (ci, vs))) (hc : G.2.1[ci]? = some r) {i : Int32} (hin : vp_in i n) (hdg : decode cc pc = .ok (.aastore, 1))
    (kk : ∀ (H1 : Heap) (locs1 : List Loc), hp_J G A (hp_up h a (.inl (cA, n, .inr (.inr (.inr (.inr (va_up f i.toNatClampNeg (some v)))))))) s H1 locs1 → W p l e R s m args below meth c H1 locs1 cells slots Q (F0 m (pc + 1) ls rest)) : W p l e R s m args below meth c H locs cells slots Q (F0 m pc ls (.ref v :: .int i :: .ref a :: rest)) := by
  obtain ⟨q0, h0⟩ := hp_at (hJ.lt ha) ha
  obtain ⟨q1, h1⟩ := hp_at (hJ.lt hv) hv
  exact va_astq S.1 S.2.1 hJ.2.1.1 (hJ.1.ws H.size) (hp_D hJ.2.2.1 _) hJ.2.2.2.1 q0 t0 q1 ci h0 ht h1 hc hin hdg fun H1 locs1 h1 h2 h3 => kk H1 locs1 ⟨hp_set hJ.1 h0 h1, hJ.2.1, hp_dom hJ.2.2.1 ha, h3, hJ.2.2.2.2⟩
theorem hp_aastN (S : CallFix p m c cc nL s args Ts own) (hJ : hp_J G A h s H locs) (t0 : Nat) {cA : ClassId} {C : String} {n : Nat} {f : Nat → Option Nat} (ha : h a = some (.inl (cA, n, .inr (.inr (.inr (.inr f)))))) (ht : G.2.2.1[t0]? = some (cA, .object C)) {i : Int32} (hin : vp_in i n) (hdg : decode cc pc = .ok (.aastore, 1))
    (kk : ∀ (H1 : Heap) (locs1 : List Loc), hp_J G A (hp_up h a (.inl (cA, n, .inr (.inr (.inr (.inr (va_up f i.toNatClampNeg none))))))) s H1 locs1 → W p l e R s m args below meth c H1 locs1 cells slots Q (F0 m (pc + 1) ls rest)) : W p l e R s m args below meth c H locs cells slots Q (F0 m pc ls (.null :: .int i :: .ref a :: rest)) := by
  obtain ⟨q0, h0⟩ := hp_at (hJ.lt ha) ha
  exact va_astqN S.1 S.2.1 hJ.2.1.1 (hJ.1.ws H.size) (hp_D hJ.2.2.1 _) hJ.2.2.2.1 q0 t0 h0 ht hin hdg fun H1 locs1 h1 h2 h3 => kk H1 locs1 ⟨hp_set hJ.1 h0 h1, hJ.2.1, hp_dom hJ.2.2.1 ha, h3, hJ.2.2.2.2⟩
/-- new: an object of the class ci, its fields at their first values -/
theorem hp_new (S : CallFix p m c cc nL s args Ts own) (hZ : hp_Z Ts G) (hJ : hp_J G A h s H locs) {index ci : Nat} {C : String} {T : u_T} {N : Nat} (hc : G.2.1[ci]? = some (C, T, N)) (hl : Cond.classLink own index C ∈ Ts ∧ Cond.instantiable C N ∈ Ts ∧ Cond.initialized C ∈ Ts) {fs : List Value} (hfs : ∀ j, j < N → (parseFieldDescriptor (T j).2.2.1).map defaultValue = some (vp_V fs j)) (hcells : cells + 1 ≤ R.cells) (hslots : slots + N ≤ R.slots) (hdg : decode cc pc = .ok (.new index, 3))
    (kk : ∀ (q : Nat) (H1 : Heap), h q = none → H.size ≤ q → hp_J G A (hp_up h q (.inr (ci, fs))) s H1 locs → W p l e R s m args below meth c H1 locs (cells + 1) (slots + N) Q (F0 m (pc + 3) ls (.ref q :: rest))) : W p l e R s m args below meth c H locs cells slots Q (F0 m pc ls rest) := by
  obtain ⟨hin, ⟨ty0, hty⟩, hnm⟩ := hZ.1 ci C T N hc
  have hKn := hJ.2.1.1.1 ci _ hc
  refine W.newcK S.1 S.2.1 S.2.2.2.1 (S.2.2.2.2 _ hl.1) (S.2.2.2.2 _ hl.2.1) (S.2.2.2.2 _ hl.2.2) rfl hdg hcells hslots hKn.2.1 rfl fun H1 kC hkC e1 z1 o1 => ?_
  have hno : h H.size = none := hJ.1.none (Nat.le_refl _)
  refine kk H.size H1 hno (Nat.le_refl _) ⟨fun q x hq => ?_, hJ.2.1, hp_domN hJ.2.2.1 (hJ.2.2.2.2 _ hJ.2.2.2.1.1), ⟨Nat.le_trans hJ.2.2.2.1.1 (by omega), fun x h1 h2 => (o1 x (Nat.lt_of_lt_of_le h1 hJ.2.2.2.1.1)).trans (hJ.2.2.2.1.2.1 x h1 h2), hJ.2.2.2.1.2.2⟩, hJ.2.2.2.2⟩
  by_cases hqa : q = H.size
  · subst hqa
    rw [hp_up_s] at hq
    cases hq
    refine ⟨_, hc, (u_born ty0 S.2.2.2.2 hin hKn hkC e1 hty).to (fun j hj => ?_)⟩
    have h9 := hfs j hj
    rw [hty j hj] at h9
    exact Option.some.inj h9
  · rw [hp_up_n hqa] at hq
    exact (hJ.1 q x hq).kept (o1 q (hJ.lt hq))
/-- a new array of numbers -/
theorem hp_newa (S : CallFix p m c cc nL s args Ts own) (hJ : hp_J G A h s H locs) (t0 : Nat) {atype : ArrayType} (hA : Cond.arrayClass (newarray.typeOf atype) ∈ Ts) {cA : ClassId} (ht : G.2.2.1[t0]? = some (cA, newarray.typeOf atype)) (hob : ∀ C, newarray.typeOf atype ≠ .object C) {n : Int32} {N' : Nat} {a0 : vp_A} (ha : vp_cell cA a0 = arrV cA N' (fun _ => defaultValue (newarray.typeOf atype))) (hn : ¬ n < 0) (hN : n.toNatClampNeg = N') (hbytes : N' * componentBytes (newarray.typeOf atype) ≤ 536870912) (hcells : cells + 1 ≤ R.cells) (hslots : slots + N' ≤ R.slots) (hdg : decode cc pc = .ok (.newarray atype, 2))
    (kk : ∀ (q : Nat) (H1 : Heap), h q = none → H.size ≤ q → hp_J G A (hp_up h q (.inl (cA, a0))) s H1 locs → W p l e R s m args below meth c H1 locs (cells + 1) (slots + N') Q (F0 m (pc + 2) ls (.ref q :: rest))) : W p l e R s m args below meth c H locs cells slots Q (F0 m pc ls (.int n :: rest)) := by
  refine va_newaK S.1 S.2.1 (S.2.2.2.2 _ hA) rfl hdg rfl hn hN hbytes hcells hslots rfl fun H1 cA' e1 z1 o1 hAr hNm => ?_
  have hra := (hJ.2.1.1.2 t0 _ ht).2
  have hcA : cA' = cA := by
    have h9 : s.vm.findClass ("[" ++ (newarray.typeOf atype).toString) = some cA := by
      unfold va_RA at hra
      split at hra
      · exact absurd ‹_› (hob _)
      · exact hra
    exact Option.some.inj (hNm.symm.trans h9)
  subst hcA
  have hno : h H.size = none := hJ.1.none (Nat.le_refl _)
  refine kk H.size H1 hno (Nat.le_refl _) ⟨fun q x hq => ?_, hJ.2.1, hp_domN hJ.2.2.1 (hJ.2.2.2.2 _ hJ.2.2.2.1.1), ⟨Nat.le_trans hJ.2.2.2.1.1 (by omega), fun x h1 h2 => (o1 x (Nat.lt_of_lt_of_le h1 hJ.2.2.2.1.1)).trans (hJ.2.2.2.1.2.1 x h1 h2), hJ.2.2.2.1.2.2⟩, hJ.2.2.2.2⟩
  by_cases hqa : q = H.size
  · subst hqa
    rw [hp_up_s] at hq
    cases hq
    show H1[H.size]? = some (vp_cell _ _)
    rw [ha]
    exact e1
  · rw [hp_up_n hqa] at hq
    exact (hJ.1 q x hq).kept (o1 q (hJ.lt hq))
/-- a new array of references -/
theorem hp_newq (S : CallFix p m c cc nL s args Ts own) (hJ : hp_J G A h s H locs) (t0 : Nat) {index : Nat} {C : String} (hlk : Cond.classLink own index C ∈ Ts) (hov : C ∈ G.2.2.2.2) {cA : ClassId} (ht : G.2.2.1[t0]? = some (cA, .object C)) {n : Int32} {N' : Nat} (hn : ¬ n < 0) (hN : n.toNatClampNeg = N') (hbytes : N' * 4 ≤ 536870912) (hcells : cells + 1 ≤ R.cells) (hslots : slots + N' ≤ R.slots) (hdg : decode cc pc = .ok (.anewarray index, 3))
    (kk : ∀ (q : Nat) (H1 : Heap), h q = none → hp_J G A (hp_up h q (.inl (cA, N', .inr (.inr (.inr (.inr (fun _ => none))))))) s H1 locs → W p l e R s m args below meth c H1 locs (cells + 1) (slots + N') Q (F0 m (pc + 3) ls (.ref q :: rest))) : W p l e R s m args below meth c H locs cells slots Q (F0 m pc ls (.int n :: rest)) := by
  refine va_newq S.1 S.2.1 S.2.2.2.1 (S.2.2.2.2 _ hlk) (hJ.2.1.2.2 C hov) hJ.2.1.1 (hJ.1.ws H.size) (hp_D hJ.2.2.1 _) hJ.2.2.2.1 hJ.2.2.2.2 hn hN hbytes hcells hslots hdg fun q cA' H1 h1 h2 h3 h4 => ?_
  obtain ⟨kA, comp, k1, k2, k3, k4⟩ := (hJ.2.1.1.2 t0 _ ht).2
  have hl9 : (G.2.2.1 ++ [(cA', FieldType.object C)])[G.2.2.1.length]? = some (cA', .object C) := by rw [List.getElem?_append_right (Nat.le_refl _), Nat.sub_self]; rfl
  obtain ⟨kA', comp', g1, g2, g3, g4⟩ := (h1.2 _ _ hl9).2
  have hcA : cA' = cA := Option.some.inj (g4.symm.trans k4)
  subst hcA
  obtain ⟨r1, r2, r3⟩ := hp_app hJ.1 h2 h3
  exact kk q H1 r2 ⟨r1, hJ.2.1, hp_domN hJ.2.2.1 r3, h4, hJ.2.2.2.2⟩
end HPW
