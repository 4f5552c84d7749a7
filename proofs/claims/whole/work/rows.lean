section
/-- a private method of a class that the tables say can be made, by its rows of tables_1 -/
def lw_okq (q : MethodName × Nat) : Prop := (q.1.cls ≠ "java/lang/invoke/MethodHandle" ∧ q.1.cls ≠ "java/lang/invoke/VarHandle") ∧ Cond.instantiable q.1.cls q.2 ∈ tables_1 ∧ Cond.privateMethod q.1 ∈ tables_1 ∧ Cond.instanceMethod q.1 ∈ tables_1
theorem lw_p0 : lw_okq (⟨"BandPainter", "shapeOf", "(I)LBandPainter$Shape;"⟩, 14) := ⟨⟨by decide +kernel, by decide +kernel⟩, List.mem_of_getElem? (i := 19) (by decide +kernel), List.mem_of_getElem? (i := 163) (by decide +kernel), List.mem_of_getElem? (i := 164) (by decide +kernel)⟩
theorem lw_p1 : lw_okq (⟨"BandPainter$Picture", "setWord", "(IIJ)V"⟩, 5) := ⟨⟨by decide +kernel, by decide +kernel⟩, List.mem_of_getElem? (i := 184) (by decide +kernel), List.mem_of_getElem? (i := 182) (by decide +kernel), List.mem_of_getElem? (i := 183) (by decide +kernel)⟩
theorem lw_p2 : lw_okq (⟨"BandPainter$Picture", "hasWord", "(II)Z"⟩, 5) := ⟨⟨by decide +kernel, by decide +kernel⟩, List.mem_of_getElem? (i := 184) (by decide +kernel), List.mem_of_getElem? (i := 187) (by decide +kernel), List.mem_of_getElem? (i := 188) (by decide +kernel)⟩
theorem lw_p3 : lw_okq (⟨"BandPainter", "canLayAt", "(II)Z"⟩, 14) := ⟨⟨by decide +kernel, by decide +kernel⟩, List.mem_of_getElem? (i := 19) (by decide +kernel), List.mem_of_getElem? (i := 223) (by decide +kernel), List.mem_of_getElem? (i := 224) (by decide +kernel)⟩
theorem lw_p4 : lw_okq (⟨"BandPainter$Picture", "isBlack", "(II)Z"⟩, 5) := ⟨⟨by decide +kernel, by decide +kernel⟩, List.mem_of_getElem? (i := 184) (by decide +kernel), List.mem_of_getElem? (i := 260) (by decide +kernel), List.mem_of_getElem? (i := 261) (by decide +kernel)⟩
theorem lw_p5 : lw_okq (⟨"BandPainter$Picture", "wordAt", "(II)J"⟩, 5) := ⟨⟨by decide +kernel, by decide +kernel⟩, List.mem_of_getElem? (i := 184) (by decide +kernel), List.mem_of_getElem? (i := 264) (by decide +kernel), List.mem_of_getElem? (i := 265) (by decide +kernel)⟩
theorem lw_p6 : lw_okq (⟨"BandPainter$Picture", "blackenTurned", "(III)V"⟩, 5) := ⟨⟨by decide +kernel, by decide +kernel⟩, List.mem_of_getElem? (i := 184) (by decide +kernel), List.mem_of_getElem? (i := 269) (by decide +kernel), List.mem_of_getElem? (i := 270) (by decide +kernel)⟩
theorem lw_p7 : lw_okq (⟨"BandPainter$Picture", "blacken", "(II)V"⟩, 5) := ⟨⟨by decide +kernel, by decide +kernel⟩, List.mem_of_getElem? (i := 184) (by decide +kernel), List.mem_of_getElem? (i := 273) (by decide +kernel), List.mem_of_getElem? (i := 274) (by decide +kernel)⟩
theorem lw_p8 : lw_okq (⟨"BandPainter", "lay", "(LBandPainter$Picture;IIII)V"⟩, 14) := ⟨⟨by decide +kernel, by decide +kernel⟩, List.mem_of_getElem? (i := 19) (by decide +kernel), List.mem_of_getElem? (i := 277) (by decide +kernel), List.mem_of_getElem? (i := 278) (by decide +kernel)⟩
theorem lw_p9 : lw_okq (⟨"BandPainter$Pile", "stir", "(LBandPainter$Mark;)V"⟩, 5) := ⟨⟨by decide +kernel, by decide +kernel⟩, List.mem_of_getElem? (i := 61) (by decide +kernel), List.mem_of_getElem? (i := 330) (by decide +kernel), List.mem_of_getElem? (i := 331) (by decide +kernel)⟩
theorem lw_p10 : lw_okq (⟨"BandPainter$Pile", "newestOnLine", "(I)LBandPainter$Mark;"⟩, 5) := ⟨⟨by decide +kernel, by decide +kernel⟩, List.mem_of_getElem? (i := 61) (by decide +kernel), List.mem_of_getElem? (i := 373) (by decide +kernel), List.mem_of_getElem? (i := 374) (by decide +kernel)⟩
theorem lw_p11 : lw_okq (⟨"BandPainter$Pile", "isLikeAbove", "(I)Z"⟩, 5) := ⟨⟨by decide +kernel, by decide +kernel⟩, List.mem_of_getElem? (i := 61) (by decide +kernel), List.mem_of_getElem? (i := 413) (by decide +kernel), List.mem_of_getElem? (i := 414) (by decide +kernel)⟩
theorem lw_p12 : lw_okq (⟨"BandPainter$Pile", "countedBlacks", "(I)I"⟩, 5) := ⟨⟨by decide +kernel, by decide +kernel⟩, List.mem_of_getElem? (i := 61) (by decide +kernel), List.mem_of_getElem? (i := 417) (by decide +kernel), List.mem_of_getElem? (i := 418) (by decide +kernel)⟩
theorem lw_p13 : lw_okq (⟨"java/lang/Throwable", "fillInStackTrace", "(I)Ljava/lang/Throwable;"⟩, 6) := ⟨⟨by decide +kernel, by decide +kernel⟩, List.mem_of_getElem? (i := 497) (by decide +kernel), List.mem_of_getElem? (i := 495) (by decide +kernel), List.mem_of_getElem? (i := 496) (by decide +kernel)⟩
theorem lw_p14 : lw_okq (⟨"BandPainterModel", "isShape", "(I)Z"⟩, 23) := ⟨⟨by decide +kernel, by decide +kernel⟩, List.mem_of_getElem? (i := 587) (by decide +kernel), List.mem_of_getElem? (i := 675) (by decide +kernel), List.mem_of_getElem? (i := 676) (by decide +kernel)⟩
theorem lw_p15 : lw_okq (⟨"BandPainterModel", "shapeDot", "(III)Z"⟩, 23) := ⟨⟨by decide +kernel, by decide +kernel⟩, List.mem_of_getElem? (i := 587) (by decide +kernel), List.mem_of_getElem? (i := 706) (by decide +kernel), List.mem_of_getElem? (i := 707) (by decide +kernel)⟩
def lw_privs_1 : List (MethodName × Nat) := [(⟨"BandPainter", "shapeOf", "(I)LBandPainter$Shape;"⟩, 14), (⟨"BandPainter$Picture", "setWord", "(IIJ)V"⟩, 5), (⟨"BandPainter$Picture", "hasWord", "(II)Z"⟩, 5), (⟨"BandPainter", "canLayAt", "(II)Z"⟩, 14), (⟨"BandPainter$Picture", "isBlack", "(II)Z"⟩, 5), (⟨"BandPainter$Picture", "wordAt", "(II)J"⟩, 5), (⟨"BandPainter$Picture", "blackenTurned", "(III)V"⟩, 5), (⟨"BandPainter$Picture", "blacken", "(II)V"⟩, 5), (⟨"BandPainter", "lay", "(LBandPainter$Picture;IIII)V"⟩, 14), (⟨"BandPainter$Pile", "stir", "(LBandPainter$Mark;)V"⟩, 5), (⟨"BandPainter$Pile", "newestOnLine", "(I)LBandPainter$Mark;"⟩, 5), (⟨"BandPainter$Pile", "isLikeAbove", "(I)Z"⟩, 5), (⟨"BandPainter$Pile", "countedBlacks", "(I)I"⟩, 5), (⟨"java/lang/Throwable", "fillInStackTrace", "(I)Ljava/lang/Throwable;"⟩, 6), (⟨"BandPainterModel", "isShape", "(I)Z"⟩, 23), (⟨"BandPainterModel", "shapeDot", "(III)Z"⟩, 23)]
theorem lw_r1 : ∀ q ∈ lw_privs_1, lw_okq q := List.forall_mem_cons.mpr ⟨lw_p0, List.forall_mem_cons.mpr ⟨lw_p1, List.forall_mem_cons.mpr ⟨lw_p2, List.forall_mem_cons.mpr ⟨lw_p3, List.forall_mem_cons.mpr ⟨lw_p4, List.forall_mem_cons.mpr ⟨lw_p5, List.forall_mem_cons.mpr ⟨lw_p6, List.forall_mem_cons.mpr ⟨lw_p7, List.forall_mem_cons.mpr ⟨lw_p8, List.forall_mem_cons.mpr ⟨lw_p9, List.forall_mem_cons.mpr ⟨lw_p10, List.forall_mem_cons.mpr ⟨lw_p11, List.forall_mem_cons.mpr ⟨lw_p12, List.forall_mem_cons.mpr ⟨lw_p13, List.forall_mem_cons.mpr ⟨lw_p14, List.forall_mem_cons.mpr ⟨lw_p15, fun _ h => absurd h List.not_mem_nil⟩⟩⟩⟩⟩⟩⟩⟩⟩⟩⟩⟩⟩⟩⟩⟩
theorem lw_p16 : lw_okq (⟨"BandPainterModel", "lay", "(IIIIZ)V"⟩, 23) := ⟨⟨by decide +kernel, by decide +kernel⟩, List.mem_of_getElem? (i := 587) (by decide +kernel), List.mem_of_getElem? (i := 710) (by decide +kernel), List.mem_of_getElem? (i := 711) (by decide +kernel)⟩
theorem lw_p17 : lw_okq (⟨"BandPainterModel", "paint", "(IIZ)V"⟩, 23) := ⟨⟨by decide +kernel, by decide +kernel⟩, List.mem_of_getElem? (i := 587) (by decide +kernel), List.mem_of_getElem? (i := 714) (by decide +kernel), List.mem_of_getElem? (i := 715) (by decide +kernel)⟩
theorem lw_p18 : lw_okq (⟨"BandPainterModel", "isIn", "(II)Z"⟩, 23) := ⟨⟨by decide +kernel, by decide +kernel⟩, List.mem_of_getElem? (i := 587) (by decide +kernel), List.mem_of_getElem? (i := 718) (by decide +kernel), List.mem_of_getElem? (i := 719) (by decide +kernel)⟩
theorem lw_p19 : lw_okq (⟨"BandPainterModel", "set", "(IIZ)V"⟩, 23) := ⟨⟨by decide +kernel, by decide +kernel⟩, List.mem_of_getElem? (i := 587) (by decide +kernel), List.mem_of_getElem? (i := 722) (by decide +kernel), List.mem_of_getElem? (i := 723) (by decide +kernel)⟩
theorem lw_p20 : lw_okq (⟨"BandPainterModel", "isInk", "(II)Z"⟩, 23) := ⟨⟨by decide +kernel, by decide +kernel⟩, List.mem_of_getElem? (i := 587) (by decide +kernel), List.mem_of_getElem? (i := 726) (by decide +kernel), List.mem_of_getElem? (i := 727) (by decide +kernel)⟩
theorem lw_p21 : lw_okq (⟨"BandPainterModel", "isBlack", "(II)Z"⟩, 23) := ⟨⟨by decide +kernel, by decide +kernel⟩, List.mem_of_getElem? (i := 587) (by decide +kernel), List.mem_of_getElem? (i := 763) (by decide +kernel), List.mem_of_getElem? (i := 764) (by decide +kernel)⟩
theorem lw_p22 : lw_okq (⟨"BandPainterModel", "blacksOf", "(I)I"⟩, 23) := ⟨⟨by decide +kernel, by decide +kernel⟩, List.mem_of_getElem? (i := 587) (by decide +kernel), List.mem_of_getElem? (i := 771) (by decide +kernel), List.mem_of_getElem? (i := 772) (by decide +kernel)⟩
def lw_privs_2 : List (MethodName × Nat) := [(⟨"BandPainterModel", "lay", "(IIIIZ)V"⟩, 23), (⟨"BandPainterModel", "paint", "(IIZ)V"⟩, 23), (⟨"BandPainterModel", "isIn", "(II)Z"⟩, 23), (⟨"BandPainterModel", "set", "(IIZ)V"⟩, 23), (⟨"BandPainterModel", "isInk", "(II)Z"⟩, 23), (⟨"BandPainterModel", "isBlack", "(II)Z"⟩, 23), (⟨"BandPainterModel", "blacksOf", "(I)I"⟩, 23)]
theorem lw_r2 : ∀ q ∈ lw_privs_2, lw_okq q := List.forall_mem_cons.mpr ⟨lw_p16, List.forall_mem_cons.mpr ⟨lw_p17, List.forall_mem_cons.mpr ⟨lw_p18, List.forall_mem_cons.mpr ⟨lw_p19, List.forall_mem_cons.mpr ⟨lw_p20, List.forall_mem_cons.mpr ⟨lw_p21, List.forall_mem_cons.mpr ⟨lw_p22, fun _ h => absurd h List.not_mem_nil⟩⟩⟩⟩⟩⟩⟩
def lw_privs : List (MethodName × Nat) := lw_privs_1 ++ (lw_privs_2)
def lw_tbl : List Cond := k2_sels lw_privs ++ tables_1
theorem lw_privs_ok : ∀ q ∈ lw_privs, lw_okq q := by
  show ∀ q ∈ lw_privs_1 ++ (lw_privs_2), lw_okq q
  exact List.forall_mem_append.mpr ⟨lw_r1, lw_r2⟩
end
section
/-! The heap as a function from addresses to cells; rows of the kit said over it. G: the classes' numbers and slots, the table of classes, the array classes, the nest words, the element classes. -/
abbrev hp_T : Type := Nat → Option va_E
abbrev hp_G : Type := va_G × List vw_C × List (ClassId × FieldType) × List (String × Nat × MethodName × String) × List String
def hp_P (G : hp_G) (h : hp_T) (H : Heap) : Prop := ∀ (a : Nat) (e : va_E), h a = some e → va_at G.1 G.2.1 (a, e) H
def hp_up (h : hp_T) (a : Nat) (e : va_E) : hp_T := fun q => if q = a then some e else h q
theorem hp_up_s (h : hp_T) (a : Nat) (e : va_E) : hp_up h a e a = some e := if_pos rfl
theorem hp_up_n {h : hp_T} {a q : Nat} {e : va_E} (hq : q ≠ a) : hp_up h a e q = h q := if_neg hq
theorem hp_up_k {h : hp_T} {a q : Nat} {e : va_E} {x : Option va_E} (hq : q ≠ a) (hx : h q = x) : hp_up h a e q = x := (hp_up_n hq).trans hx
theorem hp_up_up (h : hp_T) (a : Nat) (e e' : va_E) : hp_up (hp_up h a e) a e' = hp_up h a e' := by
  funext q
  by_cases hq : q = a
  · subst hq
    rw [hp_up_s, hp_up_s]
  · rw [hp_up_n hq, hp_up_n hq, hp_up_n hq]
theorem hp_up_same {h : hp_T} {a : Nat} {e : va_E} (he : h a = some e) : hp_up h a e = h := by
  funext q
  by_cases hq : q = a
  · subst hq
    rw [hp_up_s, he]
  · rw [hp_up_n hq]
theorem hp_up_comm (h : hp_T) {a b : Nat} (e e' : va_E) (hab : a ≠ b) : hp_up (hp_up h a e) b e' = hp_up (hp_up h b e') a e := by
  funext q
  by_cases hq : q = a
  · subst hq
    rw [hp_up_n hab, hp_up_s, hp_up_s]
  · by_cases hr : q = b
    · subst hr
      rw [hp_up_s, hp_up_n hq, hp_up_s]
    · rw [hp_up_n hr, hp_up_n hq, hp_up_n hq, hp_up_n hr]
/-- a cell's kind: cells of two kinds lie apart -/
def hp_kind (e : va_E) : Nat × Nat := match e with
  | .inr o => (0, o.1)
  | .inl (_, _, .inl _) => (1, 0)
  | .inl (_, _, .inr (.inl _)) => (2, 0)
  | .inl (_, _, .inr (.inr (.inl _))) => (3, 0)
  | .inl (_, _, .inr (.inr (.inr (.inl _)))) => (4, 0)
  | .inl (_, _, .inr (.inr (.inr (.inr _)))) => (5, 0)
theorem hp_ne {h : hp_T} {a b : Nat} {e e' : va_E} (ha : h a = some e) (hb : h b = some e') (hk : hp_kind e ≠ hp_kind e') : a ≠ b := fun q => hk (by rw [q, hb] at ha; rw [Option.some.inj ha])
theorem hp_neN {h : hp_T} {a b : Nat} {e : va_E} (ha : h a = some e) (hb : h b = none) : a ≠ b := fun q => by rw [q, hb] at ha; cases ha
/-- the cells below n as a list -/
def hp_ws (h : hp_T) (n : Nat) : va_W := (List.range n).filterMap (fun a => (h a).map (fun e => (a, e)))
theorem hp_mem {h : hp_T} {n a : Nat} {e : va_E} : (a, e) ∈ hp_ws h n ↔ a < n ∧ h a = some e := by
  constructor
  · intro hm
    obtain ⟨x, hx, hf⟩ := List.mem_filterMap.mp hm
    cases hq : h x with
    | none => rw [hq] at hf; cases hf
    | some e' =>
      rw [hq] at hf
      cases hf
      exact ⟨List.mem_range.mp hx, hq⟩
  · rintro ⟨ha, he⟩
    exact List.mem_filterMap.mpr ⟨a, List.mem_range.mpr ha, by rw [he]; rfl⟩
theorem hp_pw (h : hp_T) (n : Nat) : (hp_ws h n).Pairwise (fun x y => x.1 < y.1) := by
  refine List.Pairwise.filterMap _ ?_ List.pairwise_lt_range
  intro a a' haa b hb b' hb'
  cases hq : h a with
  | none => rw [hq] at hb; cases hb
  | some e =>
    rw [hq] at hb
    cases hb
    cases hq' : h a' with
    | none => rw [hq'] at hb'; cases hb'
    | some e' =>
      rw [hq'] at hb'
      cases hb'
      exact haa
theorem hp_inj {h : hp_T} {n i j : Nat} {x y : Nat × va_E} (hi : (hp_ws h n)[i]? = some x) (hj : (hp_ws h n)[j]? = some y) (hxy : x.1 = y.1) : i = j := by
  have hp := List.pairwise_iff_getElem.mp (hp_pw h n)
  obtain ⟨li, ei⟩ := List.getElem?_eq_some_iff.mp hi
  obtain ⟨lj, ej⟩ := List.getElem?_eq_some_iff.mp hj
  rcases Nat.lt_trichotomy i j with q | q | q
  · have := hp i j li lj q
    rw [ei, ej] at this
    omega
  · exact q
  · have := hp j i lj li q
    rw [ei, ej] at this
    omega
theorem hp_at {h : hp_T} {n a : Nat} {e : va_E} (ha : a < n) (he : h a = some e) : ∃ k : Nat, (hp_ws h n)[k]? = some (a, e) := List.getElem?_of_mem (hp_mem.mpr ⟨ha, he⟩)
theorem hp_of {h : hp_T} {n k : Nat} {x : Nat × va_E} (hk : (hp_ws h n)[k]? = some x) : h x.1 = some x.2 := (hp_mem.mp (List.mem_of_getElem? hk)).2
theorem hp_P.lt {G : hp_G} {h : hp_T} {H : Heap} (hP : hp_P G h H) {a : Nat} {e : va_E} (he : h a = some e) : a < H.size := va_at.lt (q := (a, e)) (hP a e he)
theorem hp_P.none {G : hp_G} {h : hp_T} {H : Heap} (hP : hp_P G h H) {a : Nat} (ha : H.size ≤ a) : h a = none := by
  cases he : h a with
  | none => rfl
  | some e => exact absurd (hP.lt he) (by omega)
theorem hp_P.ws {G : hp_G} {h : hp_T} {H : Heap} (hP : hp_P G h H) (n : Nat) : va_P G.1 G.2.1 (hp_ws h n) H := fun _ x hk => hP x.1 x.2 (hp_of hk)
theorem hp_D {A : Nat → Prop} {h : hp_T} (hd : ∀ (a : Nat) (e : va_E), h a = some e → A a) (n : Nat) : va_D A (hp_ws h n) := ⟨fun _ _ _ _ hi hj hxy => hp_inj hi hj hxy, fun _ x hk => hd x.1 x.2 (hp_of hk)⟩
theorem hp_P.one {G : hp_G} {h : hp_T} {H : Heap} (hP : hp_P G h H) {a : Nat} {e : va_E} (he : h a = some e) : va_P G.1 G.2.1 [(a, e)] H := by
  intro k q hk
  cases k with
  | zero => cases hk; exact hP a e he
  | succ k => simp at hk
theorem hp_set {G : hp_G} {h : hp_T} {H H1 : Heap} (hP : hp_P G h H) {a q0 : Nat} {e0 e1 : va_E} (h0 : (hp_ws h H.size)[q0]? = some (a, e0)) (h1 : va_P G.1 G.2.1 ((hp_ws h H.size).set q0 (a, e1)) H1) : hp_P G (hp_up h a e1) H1 := by
  have hl := (List.getElem?_eq_some_iff.mp h0).1
  intro q e hq
  by_cases hqa : q = a
  · subst hqa
    rw [hp_up_s] at hq
    cases hq
    exact h1 q0 _ (List.getElem?_set_self hl)
  · rw [hp_up_n hqa] at hq
    obtain ⟨k, hk⟩ := hp_at (hP.lt hq) hq
    have hne : q0 ≠ k := by
      intro z
      subst z
      rw [h0] at hk
      cases hk
      exact hqa rfl
    exact h1 k _ (by rw [List.getElem?_set_ne hne]; exact hk)
theorem hp_app {G : hp_G} {A : Nat → Prop} {h : hp_T} {H H1 : Heap} (hP : hp_P G h H) {a : Nat} {e1 : va_E} (h1 : va_P G.1 G.2.1 (hp_ws h H.size ++ [(a, e1)]) H1) (hD : va_D A (hp_ws h H.size ++ [(a, e1)])) : hp_P G (hp_up h a e1) H1 ∧ h a = none ∧ A a := by
  have hlast : (hp_ws h H.size ++ [(a, e1)])[(hp_ws h H.size).length]? = some (a, e1) := by rw [List.getElem?_append_right (Nat.le_refl _), Nat.sub_self]; rfl
  have hin : ∀ (k : Nat) (x : Nat × va_E), (hp_ws h H.size)[k]? = some x → (hp_ws h H.size ++ [(a, e1)])[k]? = some x := fun k x hk => by rw [List.getElem?_append_left (List.getElem?_eq_some_iff.mp hk).1]; exact hk
  have hno : h a = none := by
    cases he : h a with
    | none => rfl
    | some e =>
      obtain ⟨k, hk⟩ := hp_at (hP.lt he) he
      have := hD.1 _ _ _ _ (hin k _ hk) hlast rfl
      have hl := (List.getElem?_eq_some_iff.mp hk).1
      omega
  refine ⟨fun q e hq => ?_, hno, hD.2 _ _ hlast⟩
  by_cases hqa : q = a
  · subst hqa
    rw [hp_up_s] at hq
    cases hq
    exact h1 _ _ hlast
  · rw [hp_up_n hqa] at hq
    obtain ⟨k, hk⟩ := hp_at (hP.lt hq) hq
    exact h1 k _ (hin k _ hk)
/-- what the tables say, and goes on being so -/
def hp_K (G : hp_G) (U : State) : Prop := va_K G.1 G.2.1 G.2.2.1 U ∧ (∀ q ∈ G.2.2.2.1, va_Nw (.methodLinkNest q.1 q.2.1 q.2.2.1 q.2.2.2) U) ∧ ∀ C ∈ G.2.2.2.2, va_AO C U
theorem hp_K.warm {G : hp_G} {s U : State} (hW : s.WarmedH U.vm) (h : hp_K G s) : hp_K G U := ⟨va_K.moved hW.alike h.1, fun q hq => va_Nw.warmM hW (h.2.1 q hq), fun C hC => va_AO.moved hW.alike (h.2.2 C hC)⟩
theorem hp_K.blind {G : hp_G} {U : State} {g : JFrame} {mk : MethodId} {a : Array Value} (h : hp_K G U) : hp_K G (U.calling g mk a) := ⟨va_K.moved (u := U) (U := U.calling g mk a) (Vm.Alike.refl U.vm) h.1, fun q hq => va_Nw.same (u := U) (U := U.calling g mk a) rfl rfl (h.2.1 q hq), fun C hC => va_AO.moved (u := U) (U := U.calling g mk a) (Vm.Alike.refl U.vm) (h.2.2 C hC)⟩
/-- a method's start -/
def hp_I (G : hp_G) (A : Nat → Prop) (h : hp_T) (U : State) : Prop := hp_P G h U.heap ∧ hp_K G U ∧ (∀ (a : Nat) (e : va_E), h a = some e → A a) ∧ ∀ q : Nat, U.heap.size ≤ q → A q
/-- where a method stands: started at s, the heap is H now, its picture h -/
def hp_J (G : hp_G) (A : Nat → Prop) (h : hp_T) (s : State) (H : Heap) (locs : List Loc) : Prop := hp_P G h H ∧ hp_K G s ∧ (∀ (a : Nat) (e : va_E), h a = some e → A a) ∧ va_S A s.heap H locs ∧ ∀ q : Nat, s.heap.size ≤ q → A q
theorem hp_I.J {G : hp_G} {A : Nat → Prop} {h : hp_T} {s : State} (hI : hp_I G A h s) : hp_J G A h s s.heap [] := ⟨hI.1, hI.2.1, hI.2.2.1, va_S.rf, hI.2.2.2⟩
theorem hp_J.I {G : hp_G} {A : Nat → Prop} {h : hp_T} {s U : State} {H : Heap} {locs : List Loc} (hJ : hp_J G A h s H locs) (hU : U.heap = H) (hW : s.WarmedH U.vm) : hp_I G A h U := ⟨by rw [hU]; exact hJ.1, hJ.2.1.warm hW, hJ.2.2.1, fun q hq => hJ.2.2.2.2 q (Nat.le_trans hJ.2.2.2.1.1 (by rw [← hU]; exact hq))⟩
theorem hp_J.lt {G : hp_G} {A : Nat → Prop} {h : hp_T} {s : State} {H : Heap} {locs : List Loc} (hJ : hp_J G A h s H locs) {a : Nat} {e : va_E} (he : h a = some e) : a < H.size := hJ.1.lt he
theorem hp_blind {G : hp_G} {A : Nat → Prop} {h : hp_T} {av : List Value} : FrameBlind (va_Pc av (hp_I G A h)) := fun _ _ _ _ q => ⟨q.1, q.2.1, q.2.2.1.blind, q.2.2.2⟩
theorem hp_blindK {G : hp_G} {av : List Value} : FrameBlind (va_Pc av (hp_K G)) := fun _ _ _ _ q => ⟨q.1, q.2.blind⟩
/-- the ends: a method that changes nothing; a method that leaves the picture h' -/
def hp_QR (v : Option Value) : Array Value → State → Outcome → State → Prop := fun _ st o t => o = .returned v ∧ t.heap = st.heap
def hp_QW {α : Type} (G : hp_G) (A : Nat → Prop) (mk : α → Option Value) (post : α → hp_T → Prop) : Array Value → State → Outcome → State → Prop := fun _ st o t => (∃ (r : α) (h' : hp_T), o = .returned (mk r) ∧ post r h' ∧ hp_P G h' t.heap ∧ ∀ (a : Nat) (e : va_E), h' a = some e → A a) ∧ va_F A st t
abbrev hp_mv (_ : Unit) : Option Value := none
abbrev hp_mi (r : Int32) : Option Value := some (.int r)
abbrev hp_ml (r : Int64) : Option Value := some (.long r)
abbrev hp_mr (r : Nat) : Option Value := some (.ref r)
abbrev hp_mq (r : Option Nat) : Option Value := some (va_rf r)
/-- the tables' words, once for all: every word is good, the classes' fields stand among them -/
def hp_C (Ts : List Cond) (cl : List vw_C) : Prop := ∀ (ci : Nat) (C : String) (T : u_T) (N : Nat), cl[ci]? = some (C, T, N) → (∀ w ∈ u_ws C T N, w ∈ Ts) ∧ (∃ ty : Nat → FieldType, ∀ k, k < N → parseFieldDescriptor (T k).2.2.1 = some (ty k)) ∧ ∀ a, a < N → ∀ b, b < N → a ≠ b → (T a).2.1 ≠ (T b).2.1
def hp_Z (Ts : List Cond) (G : hp_G) : Prop := hp_C Ts G.2.1 ∧ ∀ w ∈ Ts, (w.onTables && w.keeps) = true ∨ ∃ ty, w = .arrayClass ty
theorem hp_Z.good {Ts : List Cond} {G : hp_G} (hZ : hp_Z Ts G) {w : Cond} (hw : w ∈ Ts) : GoodIn Ts (w :: Ts) := fun x hx => by
  rcases List.mem_cons.mp hx with rfl | hx
  · exact ⟨hw, hZ.2 _ hw⟩
  · exact ⟨hx, hZ.2 _ hx⟩
/-- a field as an instruction names it -/
def hp_f (Ts : List Cond) (cl : List vw_C) (own : String) (index ci k : Nat) : Prop := ∃ (C : String) (T : u_T) (N : Nat), cl[ci]? = some (C, T, N) ∧ k < N ∧ Cond.fieldLink own index (T k).1 (T k).2.1 (T k).2.2.1 ∈ Ts
def hp_fp (Ts : List Cond) (cl : List vw_C) (own : String) (index ci k : Nat) (ty : FieldType) (fin : Bool) : Prop := ∃ (C : String) (T : u_T) (N : Nat), cl[ci]? = some (C, T, N) ∧ k < N ∧ Cond.fieldLink own index (T k).1 (T k).2.1 (T k).2.2.1 ∈ Ts ∧ (T k).2.2.2 = fin ∧ parseFieldDescriptor (T k).2.2.1 = some ty ∧ (T k).1 = C
section HPW
variable {p : Program} {l : Launch} {e : Env} {R : Room} {s : State} {m : MethodId} {args : Array Value} {below : List Frame} {meth : Method} {c : Code} {H : Heap} {locs : List Loc} {cells slots : Nat} {Q : State → Prop}
variable {cc : ByteArray} {nL pc : Nat} {ls : Array Slot} {rest : List Value} {Ts : List Cond} {own : String} {G : hp_G} {A : Nat → Prop} {h : hp_T} {a : Nat}
theorem hp_get (S : CallFix p m c cc nL s args Ts own) (hZ : hp_Z Ts G) (hJ : hp_J G A h s H locs) {index ci k : Nat} {fs : List Value} (ha : h a = some (.inr (ci, fs))) (hf : hp_f Ts G.2.1 own index ci k) {v : Value} (hv : fs[k]? = some v) (hdg : decode cc pc = .ok (.getfield index, 3))
    (kk : W p l e R s m args below meth c H locs cells slots Q (F0 m (pc + 3) ls (v :: rest))) : W p l e R s m args below meth c H locs cells slots Q (F0 m pc ls (.ref a :: rest)) := by
  obtain ⟨C, T, N, hc, hk, hl⟩ := hf
  exact va_get S.1 S.2.1 S.2.2.2.2 (hZ.1 ci C T N hc).1 S.2.2.2.1 hJ.2.1.1 (hJ.1.one ha) 0 rfl hc k hk (S.2.2.2.2 _ hl) (fun _ h9 => h9) hv hdg kk
theorem hp_put (S : CallFix p m c cc nL s args Ts own) (hZ : hp_Z Ts G) (hJ : hp_J G A h s H locs) {index ci k : Nat} {fs : List Value} {ty : FieldType} (ha : h a = some (.inr (ci, fs))) (hf : hp_fp Ts G.2.1 own index ci k ty false) {v : Value} (hn : narrow ty v = v) (hfit : fits ty v = true) (hl : k < fs.length) (hdg : decode cc pc = .ok (.putfield index, 3))
    (kk : ∀ (H1 : Heap) (locs1 : List Loc), hp_J G A (hp_up h a (.inr (ci, fs.set k v))) s H1 locs1 → W p l e R s m args below meth c H1 locs1 cells slots Q (F0 m (pc + 3) ls rest)) : W p l e R s m args below meth c H locs cells slots Q (F0 m pc ls (v :: .ref a :: rest)) := by
  obtain ⟨C, T, N, hc, hk, hlk, hfin, hd, -⟩ := hf
  obtain ⟨hin, ⟨ty0, hty⟩, hnm⟩ := hZ.1 ci C T N hc
  obtain ⟨q0, h0⟩ := hp_at (hJ.lt ha) ha
  refine va_put S.1 S.2.1 S.2.2.2.2 hin ty0 hty hnm S.2.2.2.1 hJ.2.1.1 (hJ.1.ws H.size) (hp_D hJ.2.2.1 _) hJ.2.2.2.1 q0 h0 hc k hk (S.2.2.2.2 _ hlk) (fun _ h9 => h9) hfin hd hn hfit hl hdg fun H1 locs1 h1 h2 h3 => ?_
  refine kk H1 locs1 ⟨hp_set hJ.1 h0 h1, hJ.2.1, fun q x hq => ?_, h3, hJ.2.2.2.2⟩
  by_cases hqa : q = a
  · subst hqa
    exact hJ.2.2.1 q _ ha
  · rw [hp_up_n hqa] at hq
    exact hJ.2.2.1 q x hq
theorem hp_putF (S : CallFix p m c cc nL s args Ts own) (hZ : hp_Z Ts G) (hJ : hp_J G A h s H locs) (hin2 : meth.name = "<init>") {index ci k : Nat} {fs : List Value} {ty : FieldType} (ha : h a = some (.inr (ci, fs))) (hf : hp_fp Ts G.2.1 own index ci k ty true) (ho : (G.2.1[ci]?).map (fun q => q.1) = some own) {v : Value} (hn : narrow ty v = v) (hfit : fits ty v = true) (hl : k < fs.length) (hdg : decode cc pc = .ok (.putfield index, 3))
    (kk : ∀ (H1 : Heap) (locs1 : List Loc), hp_J G A (hp_up h a (.inr (ci, fs.set k v))) s H1 locs1 → W p l e R s m args below meth c H1 locs1 cells slots Q (F0 m (pc + 3) ls rest)) : W p l e R s m args below meth c H locs cells slots Q (F0 m pc ls (v :: .ref a :: rest)) := by
  obtain ⟨C, T, N, hc, hk, hlk, hfin, hd, hdc⟩ := hf
  obtain ⟨hin, ⟨ty0, hty⟩, hnm⟩ := hZ.1 ci C T N hc
  obtain ⟨q0, h0⟩ := hp_at (hJ.lt ha) ha
  rw [hc] at ho
  have hco : C = own := Option.some.inj ho
  refine va_putF S.1 S.2.1 S.2.2.2.2 hin ty0 hty hnm S.2.2.2.1 hJ.2.1.1 (hJ.1.ws H.size) (hp_D hJ.2.2.1 _) hJ.2.2.2.1 q0 h0 hc k hk (S.2.2.2.2 _ hlk) (fun _ h9 => h9) hfin hin2 (hdc.trans hco) hd hn hfit hl hdg fun H1 locs1 h1 h2 h3 => ?_
  refine kk H1 locs1 ⟨hp_set hJ.1 h0 h1, hJ.2.1, fun q x hq => ?_, h3, hJ.2.2.2.2⟩
  by_cases hqa : q = a
  · subst hqa
    exact hJ.2.2.1 q _ ha
  · rw [hp_up_n hqa] at hq
    exact hJ.2.2.1 q x hq
theorem hp_iald (S : CallFix p m c cc nL s args Ts own) (hJ : hp_J G A h s H locs) (t0 : Nat) {cA : ClassId} {n : Nat} {f : Nat → Int32} (ha : h a = some (.inl (cA, n, .inl f))) (ht : G.2.2.1[t0]? = some (cA, .int)) {i : Int32} (hin : vp_in i n) (hdg : decode cc pc = .ok (.iaload, 1))
    (kk : W p l e R s m args below meth c H locs cells slots Q (F0 m (pc + 1) ls (.int (f i.toNatClampNeg) :: rest))) : W p l e R s m args below meth c H locs cells slots Q (F0 m pc ls (.int i :: .ref a :: rest)) := va_iald S.1 S.2.1 hJ.2.1.1 (hJ.1.one ha) 0 t0 rfl ht hin hdg kk
theorem hp_zald (S : CallFix p m c cc nL s args Ts own) (hJ : hp_J G A h s H locs) (t0 : Nat) {cA : ClassId} {n : Nat} {f : Nat → Int32} (ha : h a = some (.inl (cA, n, .inl f))) (ht : G.2.2.1[t0]? = some (cA, .boolean)) {i : Int32} (hin : vp_in i n) (hdg : decode cc pc = .ok (.baload, 1))
    (kk : W p l e R s m args below meth c H locs cells slots Q (F0 m (pc + 1) ls (.int (f i.toNatClampNeg) :: rest))) : W p l e R s m args below meth c H locs cells slots Q (F0 m pc ls (.int i :: .ref a :: rest)) := va_zald S.1 S.2.1 hJ.2.1.1 (hJ.1.one ha) 0 t0 rfl ht hin hdg kk
theorem hp_bald (S : CallFix p m c cc nL s args Ts own) (hJ : hp_J G A h s H locs) (t0 : Nat) {cA : ClassId} {n : Nat} {f : Nat → Int32} (ha : h a = some (.inl (cA, n, .inl f))) (ht : G.2.2.1[t0]? = some (cA, .byte)) {i : Int32} (hin : vp_in i n) (hdg : decode cc pc = .ok (.baload, 1))
    (kk : W p l e R s m args below meth c H locs cells slots Q (F0 m (pc + 1) ls (.int (f i.toNatClampNeg) :: rest))) : W p l e R s m args below meth c H locs cells slots Q (F0 m pc ls (.int i :: .ref a :: rest)) := va_bald S.1 S.2.1 hJ.2.1.1 (hJ.1.one ha) 0 t0 rfl ht hin hdg kk
theorem hp_lald (S : CallFix p m c cc nL s args Ts own) (hJ : hp_J G A h s H locs) (t0 : Nat) {cA : ClassId} {n : Nat} {f : Nat → Int64} (ha : h a = some (.inl (cA, n, .inr (.inl f)))) (ht : G.2.2.1[t0]? = some (cA, .long)) {i : Int32} (hin : vp_in i n) (hdg : decode cc pc = .ok (.laload, 1))
    (kk : W p l e R s m args below meth c H locs cells slots Q (F0 m (pc + 1) ls (.long (f i.toNatClampNeg) :: rest))) : W p l e R s m args below meth c H locs cells slots Q (F0 m pc ls (.int i :: .ref a :: rest)) := va_lald S.1 S.2.1 hJ.2.1.1 (hJ.1.one ha) 0 t0 rfl ht hin hdg kk
theorem hp_aald (S : CallFix p m c cc nL s args Ts own) (hJ : hp_J G A h s H locs) (t0 : Nat) {cA : ClassId} {C : String} {n : Nat} {f : Nat → Option Nat} (ha : h a = some (.inl (cA, n, .inr (.inr (.inr (.inr f)))))) (ht : G.2.2.1[t0]? = some (cA, .object C)) {i : Int32} (hin : vp_in i n) (hdg : decode cc pc = .ok (.aaload, 1))
    (kk : W p l e R s m args below meth c H locs cells slots Q (F0 m (pc + 1) ls (va_rf (f i.toNatClampNeg) :: rest))) : W p l e R s m args below meth c H locs cells slots Q (F0 m pc ls (.int i :: .ref a :: rest)) := va_aldq S.1 S.2.1 hJ.2.1.1 (hJ.1.one ha) 0 t0 rfl ht hin hdg kk
theorem hp_alen (S : CallFix p m c cc nL s args Ts own) (hJ : hp_J G A h s H locs) (t0 : Nat) {cA : ClassId} {x : vp_A} (ha : h a = some (.inl (cA, x))) {ty : FieldType} (ht : G.2.2.1[t0]? = some (cA, ty)) (hdg : decode cc pc = .ok (.arraylength, 1))
    (kk : W p l e R s m args below meth c H locs cells slots Q (F0 m (pc + 1) ls (.int (nI x.1) :: rest))) : W p l e R s m args below meth c H locs cells slots Q (F0 m pc ls (.ref a :: rest)) := va_alen S.1 S.2.1 hJ.2.1.1 (hJ.1.one ha) 0 t0 rfl ht rfl hdg kk
theorem hp_dom {e0 e1 : va_E} (hd : ∀ (q : Nat) (x : va_E), h q = some x → A q) (ha : h a = some e0) : ∀ (q : Nat) (x : va_E), hp_up h a e1 q = some x → A q := by
  intro q x hq
  by_cases hqa : q = a
  · subst hqa
    exact hd q _ ha
  · rw [hp_up_n hqa] at hq
    exact hd q x hq
theorem hp_domN {e1 : va_E} (hd : ∀ (q : Nat) (x : va_E), h q = some x → A q) (ha : A a) : ∀ (q : Nat) (x : va_E), hp_up h a e1 q = some x → A q := by
  intro q x hq
  by_cases hqa : q = a
  · subst hqa
    exact ha
  · rw [hp_up_n hqa] at hq
    exact hd q x hq
theorem hp_iast (S : CallFix p m c cc nL s args Ts own) (hJ : hp_J G A h s H locs) (t0 : Nat) {cA : ClassId} {n : Nat} {f : Nat → Int32} (ha : h a = some (.inl (cA, n, .inl f))) (ht : G.2.2.1[t0]? = some (cA, .int)) {i x : Int32} (hin : vp_in i n) (hdg : decode cc pc = .ok (.iastore, 1))
    (kk : ∀ (H1 : Heap) (locs1 : List Loc), hp_J G A (hp_up h a (.inl (cA, n, .inl (upd f i.toNatClampNeg x)))) s H1 locs1 → W p l e R s m args below meth c H1 locs1 cells slots Q (F0 m (pc + 1) ls rest)) : W p l e R s m args below meth c H locs cells slots Q (F0 m pc ls (.int x :: .int i :: .ref a :: rest)) := by
  obtain ⟨q0, h0⟩ := hp_at (hJ.lt ha) ha
  exact va_iast S.1 S.2.1 hJ.2.1.1 (hJ.1.ws H.size) (hp_D hJ.2.2.1 _) hJ.2.2.2.1 q0 t0 h0 ht hin hdg fun H1 locs1 h1 h2 h3 => kk H1 locs1 ⟨hp_set hJ.1 h0 h1, hJ.2.1, hp_dom hJ.2.2.1 ha, h3, hJ.2.2.2.2⟩
theorem hp_zast (S : CallFix p m c cc nL s args Ts own) (hJ : hp_J G A h s H locs) (t0 : Nat) {cA : ClassId} {n : Nat} {f : Nat → Int32} (ha : h a = some (.inl (cA, n, .inl f))) (ht : G.2.2.1[t0]? = some (cA, .boolean)) {i x : Int32} (hin : vp_in i n) (hdg : decode cc pc = .ok (.bastore, 1))
    (kk : ∀ (H1 : Heap) (locs1 : List Loc), hp_J G A (hp_up h a (.inl (cA, n, .inl (upd f i.toNatClampNeg (vp_nar .boolean x))))) s H1 locs1 → W p l e R s m args below meth c H1 locs1 cells slots Q (F0 m (pc + 1) ls rest)) : W p l e R s m args below meth c H locs cells slots Q (F0 m pc ls (.int x :: .int i :: .ref a :: rest)) := by
  obtain ⟨q0, h0⟩ := hp_at (hJ.lt ha) ha
  exact va_zast S.1 S.2.1 hJ.2.1.1 (hJ.1.ws H.size) (hp_D hJ.2.2.1 _) hJ.2.2.2.1 q0 t0 h0 ht hin hdg fun H1 locs1 h1 h2 h3 => kk H1 locs1 ⟨hp_set hJ.1 h0 h1, hJ.2.1, hp_dom hJ.2.2.1 ha, h3, hJ.2.2.2.2⟩
theorem hp_bast (S : CallFix p m c cc nL s args Ts own) (hJ : hp_J G A h s H locs) (t0 : Nat) {cA : ClassId} {n : Nat} {f : Nat → Int32} (ha : h a = some (.inl (cA, n, .inl f))) (ht : G.2.2.1[t0]? = some (cA, .byte)) {i x : Int32} (hin : vp_in i n) (hdg : decode cc pc = .ok (.bastore, 1))
    (kk : ∀ (H1 : Heap) (locs1 : List Loc), hp_J G A (hp_up h a (.inl (cA, n, .inl (upd f i.toNatClampNeg (vp_nar .byte x))))) s H1 locs1 → W p l e R s m args below meth c H1 locs1 cells slots Q (F0 m (pc + 1) ls rest)) : W p l e R s m args below meth c H locs cells slots Q (F0 m pc ls (.int x :: .int i :: .ref a :: rest)) := by
  obtain ⟨q0, h0⟩ := hp_at (hJ.lt ha) ha
  exact va_bast S.1 S.2.1 hJ.2.1.1 (hJ.1.ws H.size) (hp_D hJ.2.2.1 _) hJ.2.2.2.1 q0 t0 h0 ht hin hdg fun H1 locs1 h1 h2 h3 => kk H1 locs1 ⟨hp_set hJ.1 h0 h1, hJ.2.1, hp_dom hJ.2.2.1 ha, h3, hJ.2.2.2.2⟩
theorem hp_last (S : CallFix p m c cc nL s args Ts own) (hJ : hp_J G A h s H locs) (t0 : Nat) {cA : ClassId} {n : Nat} {f : Nat → Int64} (ha : h a = some (.inl (cA, n, .inr (.inl f)))) (ht : G.2.2.1[t0]? = some (cA, .long)) {i : Int32} {x : Int64} (hin : vp_in i n) (hdg : decode cc pc = .ok (.lastore, 1))
    (kk : ∀ (H1 : Heap) (locs1 : List Loc), hp_J G A (hp_up h a (.inl (cA, n, .inr (.inl (vp_updL f i.toNatClampNeg x))))) s H1 locs1 → W p l e R s m args below meth c H1 locs1 cells slots Q (F0 m (pc + 1) ls rest)) : W p l e R s m args below meth c H locs cells slots Q (F0 m pc ls (.long x :: .int i :: .ref a :: rest)) := by
  obtain ⟨q0, h0⟩ := hp_at (hJ.lt ha) ha
  exact va_last S.1 S.2.1 hJ.2.1.1 (hJ.1.ws H.size) (hp_D hJ.2.2.1 _) hJ.2.2.2.1 q0 t0 h0 ht hin hdg fun H1 locs1 h1 h2 h3 => kk H1 locs1 ⟨hp_set hJ.1 h0 h1, hJ.2.1, hp_dom hJ.2.2.1 ha, h3, hJ.2.2.2.2⟩
theorem hp_aast (S : CallFix p m c cc nL s args Ts own) (hJ : hp_J G A h s H locs) (t0 ci : Nat) {cA : ClassId} {r : vw_C} {n v : Nat} {vs : List Value} {f : Nat → Option Nat} (ha : h a = some (.inl (cA, n, .inr (.inr (.inr (.inr f)))))) (ht : G.2.2.1[t0]? = some (cA, .object r.1)) (hv : h v = some (.inr (ci, vs))) (hc : G.2.1[ci]? = some r) {i : Int32} (hin : vp_in i n) (hdg : decode cc pc = .ok (.aastore, 1))
    (kk : ∀ (H1 : Heap) (locs1 : List Loc), hp_J G A (hp_up h a (.inl (cA, n, .inr (.inr (.inr (.inr (va_up f i.toNatClampNeg (some v)))))))) s H1 locs1 → W p l e R s m args below meth c H1 locs1 cells slots Q (F0 m (pc + 1) ls rest)) : W p l e R s m args below meth c H locs cells slots Q (F0 m pc ls (.ref v :: .int i :: .ref a :: rest)) := by
  obtain ⟨q0, h0⟩ := hp_at (hJ.lt ha) ha
  obtain ⟨q1, h1⟩ := hp_at (hJ.lt hv) hv
  exact va_astq S.1 S.2.1 hJ.2.1.1 (hJ.1.ws H.size) (hp_D hJ.2.2.1 _) hJ.2.2.2.1 q0 t0 q1 ci h0 ht h1 hc hin hdg fun H1 locs1 h1 h2 h3 => kk H1 locs1 ⟨hp_set hJ.1 h0 h1, hJ.2.1, hp_dom hJ.2.2.1 ha, h3, hJ.2.2.2.2⟩
theorem hp_aastN (S : CallFix p m c cc nL s args Ts own) (hJ : hp_J G A h s H locs) (t0 : Nat) {cA : ClassId} {C : String} {n : Nat} {f : Nat → Option Nat} (ha : h a = some (.inl (cA, n, .inr (.inr (.inr (.inr f)))))) (ht : G.2.2.1[t0]? = some (cA, .object C)) {i : Int32} (hin : vp_in i n) (hdg : decode cc pc = .ok (.aastore, 1))
    (kk : ∀ (H1 : Heap) (locs1 : List Loc), hp_J G A (hp_up h a (.inl (cA, n, .inr (.inr (.inr (.inr (va_up f i.toNatClampNeg none))))))) s H1 locs1 → W p l e R s m args below meth c H1 locs1 cells slots Q (F0 m (pc + 1) ls rest)) : W p l e R s m args below meth c H locs cells slots Q (F0 m pc ls (.null :: .int i :: .ref a :: rest)) := by
  obtain ⟨q0, h0⟩ := hp_at (hJ.lt ha) ha
  exact va_astqN S.1 S.2.1 hJ.2.1.1 (hJ.1.ws H.size) (hp_D hJ.2.2.1 _) hJ.2.2.2.1 q0 t0 h0 ht hin hdg fun H1 locs1 h1 h2 h3 => kk H1 locs1 ⟨hp_set hJ.1 h0 h1, hJ.2.1, hp_dom hJ.2.2.1 ha, h3, hJ.2.2.2.2⟩
/-- new: an object of the class ci, its fields at their first values -/
theorem hp_new (S : CallFix p m c cc nL s args Ts own) (hZ : hp_Z Ts G) (hJ : hp_J G A h s H locs) {index ci : Nat} {C : String} {T : u_T} {N : Nat} (hc : G.2.1[ci]? = some (C, T, N)) (hl : Cond.classLink own index C ∈ Ts ∧ Cond.instantiable C N ∈ Ts ∧ Cond.initialized C ∈ Ts) {fs : List Value} (hfs : ∀ j, j < N → (parseFieldDescriptor (T j).2.2.1).map defaultValue = some (vp_V fs j)) (hcells : cells + 1 ≤ R.cells) (hslots : slots + N ≤ R.slots) (hdg : decode cc pc = .ok (.new index, 3))
    (kk : ∀ (q : Nat) (H1 : Heap), h q = none → H.size ≤ q → hp_J G A (hp_up h q (.inr (ci, fs))) s H1 locs → W p l e R s m args below meth c H1 locs (cells + 1) (slots + N) Q (F0 m (pc + 3) ls (.ref q :: rest))) : W p l e R s m args below meth c H locs cells slots Q (F0 m pc ls rest) := by
  obtain ⟨hin, ⟨ty0, hty⟩, hnm⟩ := hZ.1 ci C T N hc
  have hKn := hJ.2.1.1.1 ci _ hc
  refine W.newcK S.1 S.2.1 S.2.2.2.1 (S.2.2.2.2 _ hl.1) (S.2.2.2.2 _ hl.2.1) (S.2.2.2.2 _ hl.2.2) rfl hdg hcells hslots hKn.2.1 rfl fun H1 kC hkC e1 z1 o1 => ?_
  have hno : h H.size = none := hJ.1.none (Nat.le_refl _)
  refine kk H.size H1 hno (Nat.le_refl _) ⟨fun q x hq => ?_, hJ.2.1, hp_domN hJ.2.2.1 (hJ.2.2.2.2 _ hJ.2.2.2.1.1), ⟨Nat.le_trans hJ.2.2.2.1.1 (by omega), fun x h1 h2 => (o1 x (Nat.lt_of_lt_of_le h1 hJ.2.2.2.1.1)).trans (hJ.2.2.2.1.2.1 x h1 h2), hJ.2.2.2.1.2.2⟩, hJ.2.2.2.2⟩
  by_cases hqa : q = H.size
  · subst hqa
    rw [hp_up_s] at hq
    cases hq
    refine ⟨_, hc, (u_born ty0 S.2.2.2.2 hin hKn hkC e1 hty).to (fun j hj => ?_)⟩
    have h9 := hfs j hj
    rw [hty j hj] at h9
    exact Option.some.inj h9
  · rw [hp_up_n hqa] at hq
    exact (hJ.1 q x hq).kept (o1 q (hJ.lt hq))
/-- a new array of numbers -/
theorem hp_newa (S : CallFix p m c cc nL s args Ts own) (hJ : hp_J G A h s H locs) (t0 : Nat) {atype : ArrayType} (hA : Cond.arrayClass (newarray.typeOf atype) ∈ Ts) {cA : ClassId} (ht : G.2.2.1[t0]? = some (cA, newarray.typeOf atype)) (hob : ∀ C, newarray.typeOf atype ≠ .object C) {n : Int32} {N' : Nat} {a0 : vp_A} (ha : vp_cell cA a0 = arrV cA N' (fun _ => defaultValue (newarray.typeOf atype))) (hn : ¬ n < 0) (hN : n.toNatClampNeg = N') (hbytes : N' * componentBytes (newarray.typeOf atype) ≤ 536870912) (hcells : cells + 1 ≤ R.cells) (hslots : slots + N' ≤ R.slots) (hdg : decode cc pc = .ok (.newarray atype, 2))
    (kk : ∀ (q : Nat) (H1 : Heap), h q = none → H.size ≤ q → hp_J G A (hp_up h q (.inl (cA, a0))) s H1 locs → W p l e R s m args below meth c H1 locs (cells + 1) (slots + N') Q (F0 m (pc + 2) ls (.ref q :: rest))) : W p l e R s m args below meth c H locs cells slots Q (F0 m pc ls (.int n :: rest)) := by
  refine va_newaK S.1 S.2.1 (S.2.2.2.2 _ hA) rfl hdg rfl hn hN hbytes hcells hslots rfl fun H1 cA' e1 z1 o1 hAr hNm => ?_
  have hra := (hJ.2.1.1.2 t0 _ ht).2
  have hcA : cA' = cA := by
    have h9 : s.vm.findClass ("[" ++ (newarray.typeOf atype).toString) = some cA := by
      unfold va_RA at hra
      split at hra
      · exact absurd ‹_› (hob _)
      · exact hra
    exact Option.some.inj (hNm.symm.trans h9)
  subst hcA
  have hno : h H.size = none := hJ.1.none (Nat.le_refl _)
  refine kk H.size H1 hno (Nat.le_refl _) ⟨fun q x hq => ?_, hJ.2.1, hp_domN hJ.2.2.1 (hJ.2.2.2.2 _ hJ.2.2.2.1.1), ⟨Nat.le_trans hJ.2.2.2.1.1 (by omega), fun x h1 h2 => (o1 x (Nat.lt_of_lt_of_le h1 hJ.2.2.2.1.1)).trans (hJ.2.2.2.1.2.1 x h1 h2), hJ.2.2.2.1.2.2⟩, hJ.2.2.2.2⟩
  by_cases hqa : q = H.size
  · subst hqa
    rw [hp_up_s] at hq
    cases hq
    show H1[H.size]? = some (vp_cell _ _)
    rw [ha]
    exact e1
  · rw [hp_up_n hqa] at hq
    exact (hJ.1 q x hq).kept (o1 q (hJ.lt hq))
/-- a new array of references -/
theorem hp_newq (S : CallFix p m c cc nL s args Ts own) (hJ : hp_J G A h s H locs) (t0 : Nat) {index : Nat} {C : String} (hlk : Cond.classLink own index C ∈ Ts) (hov : C ∈ G.2.2.2.2) {cA : ClassId} (ht : G.2.2.1[t0]? = some (cA, .object C)) {n : Int32} {N' : Nat} (hn : ¬ n < 0) (hN : n.toNatClampNeg = N') (hbytes : N' * 4 ≤ 536870912) (hcells : cells + 1 ≤ R.cells) (hslots : slots + N' ≤ R.slots) (hdg : decode cc pc = .ok (.anewarray index, 3))
    (kk : ∀ (q : Nat) (H1 : Heap), h q = none → hp_J G A (hp_up h q (.inl (cA, N', .inr (.inr (.inr (.inr (fun _ => none))))))) s H1 locs → W p l e R s m args below meth c H1 locs (cells + 1) (slots + N') Q (F0 m (pc + 3) ls (.ref q :: rest))) : W p l e R s m args below meth c H locs cells slots Q (F0 m pc ls (.int n :: rest)) := by
  refine va_newq S.1 S.2.1 S.2.2.2.1 (S.2.2.2.2 _ hlk) (hJ.2.1.2.2 C hov) hJ.2.1.1 (hJ.1.ws H.size) (hp_D hJ.2.2.1 _) hJ.2.2.2.1 hJ.2.2.2.2 hn hN hbytes hcells hslots hdg fun q cA' H1 h1 h2 h3 h4 => ?_
  obtain ⟨kA, comp, k1, k2, k3, k4⟩ := (hJ.2.1.1.2 t0 _ ht).2
  have hl9 : (G.2.2.1 ++ [(cA', FieldType.object C)])[G.2.2.1.length]? = some (cA', .object C) := by rw [List.getElem?_append_right (Nat.le_refl _), Nat.sub_self]; rfl
  obtain ⟨kA', comp', g1, g2, g3, g4⟩ := (h1.2 _ _ hl9).2
  have hcA : cA' = cA := Option.some.inj (g4.symm.trans k4)
  subst hcA
  obtain ⟨r1, r2, r3⟩ := hp_app hJ.1 h2 h3
  exact kk q H1 r2 ⟨r1, hJ.2.1, hp_domN hJ.2.2.1 r3, h4, hJ.2.2.2.2⟩
end HPW
end
section
/-! Calls, entries and ends over the heap as a function. -/
abbrev hp_nd (y : MethodName) (n : Nat) : Prop := y.cls ≠ "java/lang/invoke/MethodHandle" ∧ y.cls ≠ "java/lang/invoke/VarHandle" ∧ (parseMethodDescriptor y.desc).map (fun d => d.parameters.length) = some n
/-- what a call instruction links: static; static by a nest mate; virtual; a constructor -/
def hp_lS (Ts : List Cond) (own : String) (index : Nat) (y : MethodName) (bytes : ByteArray) (maxL : Nat) (ret : Option FieldType) (n : Nat) : Prop := Cond.methodLink own index y ∈ Ts ∧ Cond.static y ∈ Ts ∧ Cond.initialized y.cls ∈ Ts ∧ Cond.code y bytes maxL ret ∈ Ts ∧ hp_nd y n
def hp_lN (Ts : List Cond) (NL : List (String × Nat × MethodName × String)) (own : String) (index : Nat) (y : MethodName) (host : String) (bytes : ByteArray) (maxL : Nat) (ret : Option FieldType) (n : Nat) : Prop := (own, index, y, host) ∈ NL ∧ Cond.static y ∈ Ts ∧ Cond.initialized y.cls ∈ Ts ∧ Cond.code y bytes maxL ret ∈ Ts ∧ hp_nd y n
def hp_lV (Ts : List Cond) (own : String) (index : Nat) (y : MethodName) (bytes : ByteArray) (maxL : Nat) (ret : Option FieldType) (n : Nat) : Prop := Cond.methodLink own index y ∈ Ts ∧ Cond.instanceMethod y ∈ Ts ∧ Cond.selects y.cls y y ∈ Ts ∧ Cond.initialized y.cls ∈ Ts ∧ Cond.code y bytes maxL ret ∈ Ts ∧ hp_nd y n
def hp_lI (Ts : List Cond) (own : String) (index : Nat) (y : MethodName) (bytes : ByteArray) (maxL n : Nat) : Prop := Cond.methodLink own index y ∈ Ts ∧ Cond.instanceMethod y ∈ Ts ∧ Cond.initialized y.cls ∈ Ts ∧ Cond.code y bytes maxL none ∈ Ts ∧ y.name = "<init>" ∧ hp_nd y n
/-- the callee's room in the caller's -/
abbrev hp_R (R rm : Room) (maxL mc ms : Nat) : Prop := rm.frames + 1 ≤ R.frames ∧ 8 + (maxL + 11) + rm.locals ≤ R.locals ∧ rm.cells = mc ∧ rm.slots = ms
section HPC
variable {p : Program} {l : Launch} {e : Env} {R : Room} {s : State} {m : MethodId} {args : Array Value} {below : List Frame} {meth : Method} {c : Code} {H : Heap} {locs : List Loc} {cells slots : Nat} {Q : State → Prop}
variable {cc : ByteArray} {nL pc : Nat} {ls : Array Slot} {rest st0 : List Value} {Ts : List Cond} {own : String} {G : hp_G} {A : Nat → Prop} {h : hp_T} {a : Nat}
variable {y : MethodName} {bytes : ByteArray} {maxL mc ms n index : Nat} {ret : Option FieldType} {rm : Room} {As : List Value} {Pc : Array Value → State → Prop} {Qc : Array Value → State → Outcome → State → Prop} {free : Addr → Prop}
theorem hp_J.pre (hJ : hp_J G A h s H locs) (As : List Value) : PreS s H (va_Pc As (hp_I G A h)) As := ⟨hp_blind, fun _ hU hW => ⟨rfl, hJ.I hU hW⟩⟩
theorem hp_J.preK (hJ : hp_J G A h s H locs) (As : List Value) : PreS s H (va_Pc As (hp_K G)) As := ⟨hp_blindK, fun _ _ hW => ⟨rfl, hJ.2.1.warm hW⟩⟩
theorem hp_K.pre (hK : hp_K G s) (As : List Value) : PreS s H (va_Pc As (hp_K G)) As := ⟨hp_blindK, fun _ _ hW => ⟨rfl, hK.warm hW⟩⟩
theorem hp_pre0 (As : List Value) : PreS s H (va_Pc As (fun _ => True)) As := ⟨fun _ _ _ _ q => q, fun _ _ _ => ⟨rfl, trivial⟩⟩
theorem hp_J.preV (hJ : hp_J G A h s H locs) {b ci : Nat} {fs : List Value} {C : String} {T : u_T} {N : Nat} (As : List Value) (hb : h b = some (.inr (ci, fs))) (hc : G.2.1[ci]? = some (C, T, N)) : PreV s H C b (va_Pc (.ref b :: As) (hp_I G A h)) As := ⟨hp_blind, va_recv hJ.2.1.1 (hJ.1.one hb) hc (q0 := 0) rfl, fun _ hU hW => ⟨rfl, hJ.I hU hW⟩⟩
theorem hp_runS (S : CallFix p m c cc nL s args Ts own) (hZ : hp_Z Ts G) (hM : Met l y (.code y bytes maxL ret :: Ts) rm Pc Qc mc ms free) (lk : hp_lS Ts own index y bytes maxL ret n) (hp : PreS s H Pc As) (hR : hp_R R rm maxL mc ms) (hn : As.length = n) (hsize : ls.size = nL) (hst : st0 = As.reverse ++ rest) (hW : (rest.map fun v => v.category).sum ≤ 8) (hdg : decode cc pc = .ok (.invokestatic index, 3)) (hf : cells + mc ≤ R.cells ∧ slots + ms ≤ R.slots) :
    va_Run p l e R s m args below meth c H locs cells slots mc ms (F0 m pc ls st0) rest (Qc As.toArray) free := by
  obtain ⟨l1, l2, l3, l4, l5⟩ := lk
  exact va_runS S hM ⟨callB_of n S.2.2.2.2 (hZ.good l4) rfl hR.2.2.1 hR.2.2.2 (S.2.2.2.2 _ l3) (S.2.2.2.2 _ l1) l5 ⟨hR.1, hR.2.1⟩, S.2.2.2.2 _ l2⟩ hp rfl hn hsize hst (lv_room (rest := st0) hW) hdg hf
theorem hp_runN (S : CallFix p m c cc nL s args Ts own) (hZ : hp_Z Ts G) (hK : hp_K G s) (hM : Met l y (.code y bytes maxL ret :: Ts) rm Pc Qc mc ms free) {host : String} (lk : hp_lN Ts G.2.2.2.1 own index y host bytes maxL ret n) (hp : PreS s H Pc As) (hR : hp_R R rm maxL mc ms) (hn : As.length = n) (hsize : ls.size = nL) (hst : st0 = As.reverse ++ rest) (hW : (rest.map fun v => v.category).sum ≤ 8) (hdg : decode cc pc = .ok (.invokestatic index, 3)) (hf : cells + mc ≤ R.cells ∧ slots + ms ≤ R.slots) :
    va_Run p l e R s m args below meth c H locs cells slots mc ms (F0 m pc ls st0) rest (Qc As.toArray) free := by
  obtain ⟨l1, l2, l3, l4, l5⟩ := lk
  exact va_runSN S hM ⟨va_cnB n S.2.2.2.2 (hZ.good l4) rfl hR.2.2.1 hR.2.2.2 (hK.2.1 _ l1) (S.2.2.2.2 _ l3) l5 ⟨hR.1, hR.2.1⟩, S.2.2.2.2 _ l2, trivial⟩ hp rfl hn hsize hst (lv_room (rest := st0) hW) hdg hf
theorem hp_runV (S : CallFix p m c cc nL s args Ts own) (hZ : hp_Z Ts G) (hM : Met l y (.code y bytes maxL ret :: Ts) rm Pc Qc mc ms free) {b : Nat} (lk : hp_lV Ts own index y bytes maxL ret n) (hp : PreV s H y.cls b Pc As) (hR : hp_R R rm maxL mc ms) (hn : As.length = n) (hsize : ls.size = nL) (hst : st0 = As.reverse ++ .ref b :: rest) (hW : (rest.map fun v => v.category).sum ≤ 8) (hdg : decode cc pc = .ok (.invokevirtual index, 3)) (hf : cells + mc ≤ R.cells ∧ slots + ms ≤ R.slots) :
    va_Run p l e R s m args below meth c H locs cells slots mc ms (F0 m pc ls st0) rest (Qc (Value.ref b :: As).toArray) free := by
  obtain ⟨l1, l2, l3, l4, l5, l6⟩ := lk
  exact va_runV S hM ⟨callB_of n S.2.2.2.2 (hZ.good l5) rfl hR.2.2.1 hR.2.2.2 (S.2.2.2.2 _ l4) (S.2.2.2.2 _ l1) l6 ⟨hR.1, hR.2.1⟩, S.2.2.2.2 _ l2, S.2.2.2.2 _ l3⟩ hp rfl hn hsize hst (lv_room (rest := st0) hW) hdg hf
theorem hp_runI (S : CallFix p m c cc nL s args Ts own) (hZ : hp_Z Ts G) (hM : Met l y (.code y bytes maxL none :: Ts) rm Pc Qc mc ms free) {b : Nat} (lk : hp_lI Ts own index y bytes maxL n) (hp : PreS s H Pc (.ref b :: As)) (hR : hp_R R rm maxL mc ms) (hn : As.length = n) (hsize : ls.size = nL) (hst : st0 = As.reverse ++ .ref b :: rest) (hW : (rest.map fun v => v.category).sum ≤ 8) (hdg : decode cc pc = .ok (.invokespecial index, 3)) (hf : cells + mc ≤ R.cells ∧ slots + ms ≤ R.slots) :
    va_Run p l e R s m args below meth c H locs cells slots mc ms (F0 m pc ls st0) rest (Qc (Value.ref b :: As).toArray) free := by
  obtain ⟨l1, l2, l3, l4, l5, l6⟩ := lk
  exact va_runI S hM ⟨callB_of n S.2.2.2.2 (hZ.good l4) rfl hR.2.2.1 hR.2.2.2 (S.2.2.2.2 _ l3) (S.2.2.2.2 _ l1) l6 ⟨hR.1, hR.2.1⟩, l5, S.2.2.2.2 _ l2⟩ hp rfl hn hsize hst (lv_room (rest := st0) hW) hdg hf
/-- behind a call that changes nothing -/
theorem hp_doneR {v : Value} {av : Array Value} (hr : va_Run p l e R s m args below meth c H locs cells slots 0 0 (F0 m pc ls st0) rest (hp_QR (some v) av) (fun _ => False))
    (kk : W p l e R s m args below meth c H locs cells slots Q (F0 m (pc + 3) ls (v :: rest))) : W p l e R s m args below meth c H locs cells slots Q (F0 m pc ls st0) := by
  intro T hT X
  obtain ⟨v', st₀, t, T', L, h0, X', hL, e1, e2, ⟨hv, hh⟩, st⟩ := hr T hT X
  cases hv
  obtain ⟨t2, a1, b1⟩ := kk T' (by rw [e1, hh, h0]) (Stand.forget X' (fun q h => (hL q h).elim))
  exact ⟨t2, st t2 a1, b1⟩
/-- behind a call that leaves the picture h' -/
theorem hp_doneW {α : Type} {mk : α → Option Value} {post : α → hp_T → Prop} {av : Array Value} (hJ : hp_J G A h s H locs) (hr : va_Run p l e R s m args below meth c H locs cells slots mc ms (F0 m pc ls st0) rest (hp_QW G A mk post av) A) {stk : α → List Value} (hs : ∀ r, (mk r).toList ++ rest = stk r)
    (kk : ∀ (r : α) (h' : hp_T) (H' : Heap) (locs' : List Loc), post r h' → hp_J G A h' s H' locs' → W p l e R s m args below meth c H' locs' (cells + mc) (slots + ms) Q (F0 m (pc + 3) ls (stk r))) : W p l e R s m args below meth c H locs cells slots Q (F0 m pc ls st0) := by
  intro T hT X
  obtain ⟨v', st₀, t, T', L, h0, X', hL, e1, e2, ⟨⟨r, h', hv, hp, hP, hd⟩, hz, hk⟩, st⟩ := hr T hT X
  cases hv
  rw [h0] at hz hk
  have hS := hJ.2.2.2.1
  have hS' : va_S A s.heap T'.heap (locs ++ L) := ⟨Nat.le_trans hS.1 (by rw [e1]; exact hz), fun q h1 h2 => by rw [e1, hk q (Nat.lt_of_lt_of_le h1 hS.1) h2]; exact hS.2.1 q h1 h2, fun q hq => by
      rcases List.mem_append.mp hq with h | h
      · exact hS.2.2 q h
      · exact hL q h⟩
  obtain ⟨t2, a1, b1⟩ := kk r h' T'.heap (locs ++ L) hp ⟨by rw [e1]; exact hP, hJ.2.1, hd, hS', hJ.2.2.2.2⟩ T' rfl X'
  exact ⟨t2, st t2 (by rw [hs r]; exact a1), b1⟩
theorem hp_doneWv {post : Unit → hp_T → Prop} {av : Array Value} (hJ : hp_J G A h s H locs) (hr : va_Run p l e R s m args below meth c H locs cells slots mc ms (F0 m pc ls st0) rest (hp_QW G A hp_mv post av) A)
    (kk : ∀ (h' : hp_T) (H' : Heap) (locs' : List Loc), post () h' → hp_J G A h' s H' locs' → W p l e R s m args below meth c H' locs' (cells + mc) (slots + ms) Q (F0 m (pc + 3) ls rest)) : W p l e R s m args below meth c H locs cells slots Q (F0 m pc ls st0) := hp_doneW hJ hr (stk := fun _ => rest) (fun _ => rfl) (fun _ h' H' locs' hp hJ' => kk h' H' locs' hp hJ')
theorem hp_doneWi {post : Int32 → hp_T → Prop} {av : Array Value} (hJ : hp_J G A h s H locs) (hr : va_Run p l e R s m args below meth c H locs cells slots mc ms (F0 m pc ls st0) rest (hp_QW G A hp_mi post av) A)
    (kk : ∀ (r : Int32) (h' : hp_T) (H' : Heap) (locs' : List Loc), post r h' → hp_J G A h' s H' locs' → W p l e R s m args below meth c H' locs' (cells + mc) (slots + ms) Q (F0 m (pc + 3) ls (.int r :: rest))) : W p l e R s m args below meth c H locs cells slots Q (F0 m pc ls st0) := hp_doneW hJ hr (stk := fun r => .int r :: rest) (fun _ => rfl) kk
theorem hp_doneWl {post : Int64 → hp_T → Prop} {av : Array Value} (hJ : hp_J G A h s H locs) (hr : va_Run p l e R s m args below meth c H locs cells slots mc ms (F0 m pc ls st0) rest (hp_QW G A hp_ml post av) A)
    (kk : ∀ (r : Int64) (h' : hp_T) (H' : Heap) (locs' : List Loc), post r h' → hp_J G A h' s H' locs' → W p l e R s m args below meth c H' locs' (cells + mc) (slots + ms) Q (F0 m (pc + 3) ls (.long r :: rest))) : W p l e R s m args below meth c H locs cells slots Q (F0 m pc ls st0) := hp_doneW hJ hr (stk := fun r => .long r :: rest) (fun _ => rfl) kk
theorem hp_doneWr {post : Nat → hp_T → Prop} {av : Array Value} (hJ : hp_J G A h s H locs) (hr : va_Run p l e R s m args below meth c H locs cells slots mc ms (F0 m pc ls st0) rest (hp_QW G A hp_mr post av) A)
    (kk : ∀ (r : Nat) (h' : hp_T) (H' : Heap) (locs' : List Loc), post r h' → hp_J G A h' s H' locs' → W p l e R s m args below meth c H' locs' (cells + mc) (slots + ms) Q (F0 m (pc + 3) ls (.ref r :: rest))) : W p l e R s m args below meth c H locs cells slots Q (F0 m pc ls st0) := hp_doneW hJ hr (stk := fun r => .ref r :: rest) (fun _ => rfl) kk
theorem hp_doneWq {post : Option Nat → hp_T → Prop} {av : Array Value} (hJ : hp_J G A h s H locs) (hr : va_Run p l e R s m args below meth c H locs cells slots mc ms (F0 m pc ls st0) rest (hp_QW G A hp_mq post av) A)
    (kk : ∀ (r : Option Nat) (h' : hp_T) (H' : Heap) (locs' : List Loc), post r h' → hp_J G A h' s H' locs' → W p l e R s m args below meth c H' locs' (cells + mc) (slots + ms) Q (F0 m (pc + 3) ls (va_rf r :: rest))) : W p l e R s m args below meth c H locs cells slots Q (F0 m pc ls st0) := hp_doneW hJ hr (stk := fun r => va_rf r :: rest) (fun _ => rfl) kk
/-- ends of a method that changes nothing -/
theorem hp_retRi {v v' : Int32} (S : CallFix p m c cc nL s args Ts own) (hr : meth.sig.returnType = some .int) (hlk : meth.locks = false) (hdg : decode cc pc = .ok (.ireturn, 1)) (hv : v' = v) : W p l e R s m args below meth c s.heap [] 0 0 (MQ below (hp_QR (some (.int v))) args s 0 0 (fun _ => False)) (F0 m pc ls [.int v']) := by
  subst hv
  exact W.iret S.1 S.2.1 hr (fun t ht _ => ⟨rfl, ht⟩) (fun _ h => by cases h) hdg hlk
theorem hp_retRz {v v' : Int32} (S : CallFix p m c cc nL s args Ts own) (hr : meth.sig.returnType = some .boolean) (hlk : meth.locks = false) (hdg : decode cc pc = .ok (.ireturn, 1)) (hn : narrow .boolean (.int v') = .int v') (hv : v' = v) : W p l e R s m args below meth c s.heap [] 0 0 (MQ below (hp_QR (some (.int v))) args s 0 0 (fun _ => False)) (F0 m pc ls [.int v']) := by
  subst hv
  exact W.zret S.1 S.2.1 hr hn (fun t ht _ => ⟨rfl, ht⟩) (fun _ h => by cases h) hdg hlk
theorem hp_retRl {v v' : Int64} (S : CallFix p m c cc nL s args Ts own) (hr : meth.sig.returnType = some .long) (hlk : meth.locks = false) (hdg : decode cc pc = .ok (.lreturn, 1)) (hv : v' = v) : W p l e R s m args below meth c s.heap [] 0 0 (MQ below (hp_QR (some (.long v))) args s 0 0 (fun _ => False)) (F0 m pc ls [.long v']) := by
  subst hv
  exact W.lret S.1 S.2.1 hr (fun t ht _ => ⟨rfl, ht⟩) (fun _ h => by cases h) hdg hlk
theorem hp_retRa {v : Value} {C : String} (S : CallFix p m c cc nL s args Ts own) (hr : meth.sig.returnType = some (.object C)) (hlk : meth.locks = false) (hdg : decode cc pc = .ok (.areturn, 1)) (hv : v = .null ∨ ∃ a, v = .ref a) : W p l e R s m args below meth c s.heap [] 0 0 (MQ below (hp_QR (some v)) args s 0 0 (fun _ => False)) (F0 m pc ls [v]) := W.aret S.1 S.2.1 hr (Or.inl ⟨C, rfl⟩) hv (fun t ht _ => ⟨rfl, ht⟩) (fun _ h => by cases h) hdg hlk
/-- ends of a method that leaves the picture h -/
theorem hp_q {α : Type} {mk : α → Option Value} {post : α → hp_T → Prop} {r : α} (hJ : hp_J G A h s H locs) (hp : post r h) : ∀ t : State, t.heap = H → s.WarmedH t.vm → hp_QW G A mk post args s (.returned (mk r)) t := fun t ht _ => ⟨⟨r, h, rfl, hp, by rw [ht]; exact hJ.1, hJ.2.2.1⟩, hJ.2.2.2.1.F ht⟩
theorem hp_retWv {post : Unit → hp_T → Prop} (S : CallFix p m c cc nL s args Ts own) (hJ : hp_J G A h s H locs) (hr : meth.sig.returnType = none) (hlk : meth.locks = false) (hdg : decode cc pc = .ok (.return_, 1)) (hc : cells ≤ mc ∧ slots ≤ ms) (hp : post () h) : W p l e R s m args below meth c H locs cells slots (MQ below (hp_QW G A hp_mv post) args s mc ms A) (F0 m pc ls []) := W.widen hc.1 hc.2 (W.vret S.1 S.2.1 hr (hp_q (mk := hp_mv) (r := ()) hJ hp) hJ.2.2.2.1.2.2 hdg hlk)
theorem hp_retWi {post : Int32 → hp_T → Prop} {r : Int32} (S : CallFix p m c cc nL s args Ts own) (hJ : hp_J G A h s H locs) (hr : meth.sig.returnType = some .int) (hlk : meth.locks = false) (hdg : decode cc pc = .ok (.ireturn, 1)) (hc : cells ≤ mc ∧ slots ≤ ms) (hp : post r h) : W p l e R s m args below meth c H locs cells slots (MQ below (hp_QW G A hp_mi post) args s mc ms A) (F0 m pc ls [.int r]) := W.widen hc.1 hc.2 (W.iret S.1 S.2.1 hr (hp_q (mk := hp_mi) (r := r) hJ hp) hJ.2.2.2.1.2.2 hdg hlk)
theorem hp_retWz {post : Int32 → hp_T → Prop} {r : Int32} (S : CallFix p m c cc nL s args Ts own) (hJ : hp_J G A h s H locs) (hr : meth.sig.returnType = some .boolean) (hlk : meth.locks = false) (hdg : decode cc pc = .ok (.ireturn, 1)) (hn : narrow .boolean (.int r) = .int r) (hc : cells ≤ mc ∧ slots ≤ ms) (hp : post r h) : W p l e R s m args below meth c H locs cells slots (MQ below (hp_QW G A hp_mi post) args s mc ms A) (F0 m pc ls [.int r]) := W.widen hc.1 hc.2 (W.zret S.1 S.2.1 hr hn (hp_q (mk := hp_mi) (r := r) hJ hp) hJ.2.2.2.1.2.2 hdg hlk)
theorem hp_retWl {post : Int64 → hp_T → Prop} {r : Int64} (S : CallFix p m c cc nL s args Ts own) (hJ : hp_J G A h s H locs) (hr : meth.sig.returnType = some .long) (hlk : meth.locks = false) (hdg : decode cc pc = .ok (.lreturn, 1)) (hc : cells ≤ mc ∧ slots ≤ ms) (hp : post r h) : W p l e R s m args below meth c H locs cells slots (MQ below (hp_QW G A hp_ml post) args s mc ms A) (F0 m pc ls [.long r]) := W.widen hc.1 hc.2 (W.lret S.1 S.2.1 hr (hp_q (mk := hp_ml) (r := r) hJ hp) hJ.2.2.2.1.2.2 hdg hlk)
theorem hp_retWr {post : Nat → hp_T → Prop} {r : Nat} {C : String} (S : CallFix p m c cc nL s args Ts own) (hJ : hp_J G A h s H locs) (hr : meth.sig.returnType = some (.object C)) (hlk : meth.locks = false) (hdg : decode cc pc = .ok (.areturn, 1)) (hc : cells ≤ mc ∧ slots ≤ ms) (hp : post r h) : W p l e R s m args below meth c H locs cells slots (MQ below (hp_QW G A hp_mr post) args s mc ms A) (F0 m pc ls [.ref r]) := W.widen hc.1 hc.2 (W.aret S.1 S.2.1 hr (Or.inl ⟨C, rfl⟩) (Or.inr ⟨r, rfl⟩) (hp_q (mk := hp_mr) (r := r) hJ hp) hJ.2.2.2.1.2.2 hdg hlk)
theorem hp_retWq {post : Option Nat → hp_T → Prop} {r : Option Nat} {C : String} (S : CallFix p m c cc nL s args Ts own) (hJ : hp_J G A h s H locs) (hr : meth.sig.returnType = some (.object C)) (hlk : meth.locks = false) (hdg : decode cc pc = .ok (.areturn, 1)) (hc : cells ≤ mc ∧ slots ≤ ms) (hp : post r h) : W p l e R s m args below meth c H locs cells slots (MQ below (hp_QW G A hp_mq post) args s mc ms A) (F0 m pc ls [va_rf r]) := W.widen hc.1 hc.2 (W.aret S.1 S.2.1 hr (Or.inl ⟨C, rfl⟩) (va_rf_or r) (hp_q (mk := hp_mq) (r := r) hJ hp) hJ.2.2.2.1.2.2 hdg hlk)
/-- a constructor's call of Object's -/
theorem hp_obj (S : CallFix p m c cc nL s args Ts own) {idx : Nat} (lk : Cond.methodLink own idx Lib.objectInit ∈ Ts ∧ Cond.instanceMethod Lib.objectInit ∈ Ts ∧ Cond.code Lib.objectInit ⟨#[0xb1]⟩ 1 none ∈ Ts) (hsize : ls.size = nL) (hd : decode cc pc = .ok (.invokespecial idx, 3)) (hR : 1 ≤ R.frames ∧ (rest.map fun v => v.category).sum + 12 ≤ R.locals)
    (kk : W p l e R s m args below meth c H locs cells slots Q (F0 m (pc + 3) ls rest)) : W p l e R s m args below meth c H locs cells slots Q (F0 m pc ls (.ref a :: rest)) :=
  W.objInit S.1 S.2.1 S.2.2.2.1 (S.2.2.2.2 _ lk.1) (S.2.2.2.2 _ lk.2.1) (S.2.2.2.2 _ lk.2.2) rfl (by rw [S.2.2.1]; exact hsize) rfl hd hR.1 (by show 2 * 0 + _ + 12 ≤ _; omega) kk
theorem hp_max (S : CallFix p m c cc nL s args Ts own) {idx : Nat} (lk : Cond.methodLink own idx Lib.Math.max.name ∈ Ts ∧ Cond.static Lib.Math.max.name ∈ Ts ∧ Cond.initialized "java/lang/Math" ∈ Ts ∧ Cond.code Lib.Math.max.name Lib.Math.max.code 2 (some .int) ∈ Ts) (hsize : ls.size = nL) {x y : Int32} (hdg : decode cc pc = .ok (.invokestatic idx, 3)) (hR : 1 ≤ R.frames ∧ (rest.map fun v => v.category).sum + 13 ≤ R.locals ∧ cells ≤ R.cells ∧ slots ≤ R.slots)
    (kk : W p l e R s m args below meth c H locs cells slots Q (F0 m (pc + 3) ls (.int (if x < y then y else x) :: rest))) : W p l e R s m args below meth c H locs cells slots Q (F0 m pc ls (.int y :: .int x :: rest)) :=
  va_mmax S.1 S.2.1 (S.2.2.1.trans hsize.symm) S.2.2.2.1 (S.2.2.2.2 _ lk.1) (S.2.2.2.2 _ lk.2.1) (S.2.2.2.2 _ lk.2.2.1) (S.2.2.2.2 _ lk.2.2.2) hR.1 hR.2.1 hR.2.2.1 hR.2.2.2 hdg kk
theorem hp_min (S : CallFix p m c cc nL s args Ts own) {idx : Nat} (lk : Cond.methodLink own idx Lib.Math.min.name ∈ Ts ∧ Cond.static Lib.Math.min.name ∈ Ts ∧ Cond.initialized "java/lang/Math" ∈ Ts ∧ Cond.code Lib.Math.min.name Lib.Math.min.code 2 (some .int) ∈ Ts) (hsize : ls.size = nL) {x y : Int32} (hdg : decode cc pc = .ok (.invokestatic idx, 3)) (hR : 1 ≤ R.frames ∧ (rest.map fun v => v.category).sum + 13 ≤ R.locals ∧ cells ≤ R.cells ∧ slots ≤ R.slots)
    (kk : W p l e R s m args below meth c H locs cells slots Q (F0 m (pc + 3) ls (.int (if y < x then y else x) :: rest))) : W p l e R s m args below meth c H locs cells slots Q (F0 m pc ls (.int y :: .int x :: rest)) :=
  va_mmin S.1 S.2.1 (S.2.2.1.trans hsize.symm) S.2.2.2.1 (S.2.2.2.2 _ lk.1) (S.2.2.2.2 _ lk.2.1) (S.2.2.2.2 _ lk.2.2.1) (S.2.2.2.2 _ lk.2.2.2) hR.1 hR.2.1 hR.2.2.1 hR.2.2.2 hdg kk
end HPC
/-- a method's entry -/
theorem hp_enter {l : Launch} {y : MethodName} {cc : ByteArray} {maxL : Nat} {ret : Option FieldType} {Ts : List Cond} {rm : Room} {av : List Value} {B : State → Prop} {Qc : Array Value → State → Outcome → State → Prop} {mc ms : Nat} {free : Addr → Prop} (hy : plainName y.cls = true) (hn : (lg_sl av).length ≤ maxL)
    (body : ∀ (p : Program) (e : Env) (s : State) (m : MethodId) (below : List Frame) (meth : Method) (c : Code) (ls : Array Slot), CallFix p m c cc maxL s av.toArray Ts y.cls → meth.sig.returnType = ret → meth.locks = false → meth.name = y.name → B s → lv_has ls maxL (lv_args 0 av) →
      W p l e rm s m av.toArray below meth c s.heap [] 0 0 (MQ below Qc av.toArray s mc ms free) (F0 m 0 ls [])) : Met l y (.code y cc maxL ret :: Ts) rm (va_Pc av B) Qc mc ms free := by
  refine Met.ofW (cc := cc) (maxL := maxL) (ret := ret) hy rfl ?_
  intro p e s m args below meth c s₁ B' hml hv
  obtain ⟨rfl, hB⟩ := hv
  have hts := atoms_spec (ws := .code y cc maxL ret :: Ts) B'.pre
  have hown : s.vm.findClass y.cls = some m.cls := findClass_of_methodNamed B'.named
  have hin : meth.name = y.name := (name_of_methodNamed B'.named B'.method).1
  rw [lg_entry_eq]
  exact body p e s m below meth c _ ⟨B'.exec, B'.bytes, hml, hown, fun w hw => hts w (List.mem_cons_of_mem _ hw)⟩ B'.returns B'.notSynchronized hin hB (lv_entry av hn)
end
section
/-! Pure: the bits of a long, the highest first; ints by their numbers. -/
def tb (w : Int64) (p : Nat) : Bool := w.toBitVec.getMsbD p
theorem tb_ext {x y : Int64} (h : ∀ p, p < 64 → tb x p = tb y p) : x = y := Int64.toBitVec_inj.mp (BitVec.eq_of_getMsbD_eq fun i hi => h i hi)
theorem tb_and (x y : Int64) (p : Nat) : tb (x &&& y) p = (tb x p && tb y p) := by unfold tb; rw [Int64.toBitVec_and, BitVec.getMsbD_and]
theorem tb_or (x y : Int64) (p : Nat) : tb (x ||| y) p = (tb x p || tb y p) := by unfold tb; rw [Int64.toBitVec_or, BitVec.getMsbD_or]
theorem tb_xor (x y : Int64) (p : Nat) : tb (x ^^^ y) p = (tb x p ^^ tb y p) := by unfold tb; rw [Int64.toBitVec_xor, BitVec.getMsbD_xor]
theorem tb_0 (p : Nat) : tb 0 p = false := by
  show (0#64).getMsbD p = false
  exact BitVec.getMsbD_zero
theorem tb_m1' (p : Nat) : tb (-1) p = decide (p < 64) := by
  show (BitVec.allOnes 64).getMsbD p = _
  exact BitVec.getMsbD_allOnes
theorem tb_m1 {p : Nat} (hp : p < 64) : tb (-1) p = true := by rw [tb_m1', decide_eq_true hp]
theorem tb_not (x : Int64) {p : Nat} (hp : p < 64) : tb (x ^^^ (-1)) p = !tb x p := by rw [tb_xor, tb_m1 hp, Bool.xor_true]
theorem tb_big {x : Int64} {p : Nat} (hp : 64 ≤ p) : tb x p = false := by
  unfold tb
  rw [BitVec.getMsbD_eq_getLsbD, decide_eq_false (by omega), Bool.false_and]
theorem tb_c : ∀ k, k < 64 → ((nI k).toInt64 &&& 63).toBitVec.smod 64 = BitVec.ofNat 64 k := by decide +kernel
theorem tb_cu : ∀ k, k < 64 → ((nI k).toInt64.toUInt64 &&& Int64.toUInt64 63).toNat = k := by decide +kernel
theorem tb_shl (x : Int64) {n : Nat} (hn : n < 64) (p : Nat) : tb (x <<< ((nI n).toInt64 &&& 63)) p = tb x (p + n) := by
  unfold tb
  rw [Int64.toBitVec_shiftLeft, tb_c n hn, BitVec.shiftLeft_eq', BitVec.getMsbD_shiftLeft, BitVec.toNat_ofNat, Nat.mod_eq_of_lt (by omega)]
theorem tb_ushr (x : Int64) {n : Nat} (hn : n < 64) {p : Nat} (hp : p < 64) : tb ((x.toUInt64 >>> ((nI n).toInt64.toUInt64 &&& Int64.toUInt64 63)).toInt64) p = (!decide (p < n) && tb x (p - n)) := by
  have h1 : ((x.toUInt64 >>> ((nI n).toInt64.toUInt64 &&& Int64.toUInt64 63)).toInt64).toBitVec = x.toBitVec >>> n := by
    apply BitVec.eq_of_toNat_eq
    show (x.toUInt64 >>> ((nI n).toInt64.toUInt64 &&& Int64.toUInt64 63)).toNat = _
    rw [UInt64.toNat_shiftRight, tb_cu n hn, Nat.mod_eq_of_lt hn, BitVec.toNat_ushiftRight]
    rfl
  unfold tb
  rw [h1, BitVec.getMsbD_ushiftRight, decide_eq_true hp, Bool.true_and]
/-- ints -/
theorem z_add {x y : Int32} (h1 : -2147483648 ≤ x.toInt + y.toInt) (h2 : x.toInt + y.toInt < 2147483648) : (x + y).toInt = x.toInt + y.toInt := by
  rw [Int32.toInt_add]
  exact Int.bmod_eq_of_le (by omega) (by omega)
theorem z_sub {x y : Int32} (h1 : -2147483648 ≤ x.toInt - y.toInt) (h2 : x.toInt - y.toInt < 2147483648) : (x - y).toInt = x.toInt - y.toInt := by
  rw [Int32.toInt_sub]
  exact Int.bmod_eq_of_le (by omega) (by omega)
theorem z_mul {x y : Int32} (h1 : -2147483648 ≤ x.toInt * y.toInt) (h2 : x.toInt * y.toInt < 2147483648) : (x * y).toInt = x.toInt * y.toInt := by
  rw [Int32.toInt_mul]
  exact Int.bmod_eq_of_le (by omega) (by omega)
theorem z_lt {x y : Int32} : x < y ↔ x.toInt < y.toInt := Int32.lt_iff_toInt_lt
theorem z_le {x y : Int32} : x ≤ y ↔ x.toInt ≤ y.toInt := Int32.le_iff_toInt_le
theorem z_eq {x y : Int32} : x = y ↔ x.toInt = y.toInt := Int32.toInt_inj.symm
theorem z_rg (x : Int32) : -2147483648 ≤ x.toInt ∧ x.toInt < 2147483648 := ⟨Int32.le_toInt x, Int32.toInt_lt x⟩
theorem z_nI {n : Nat} (h : n < 2147483648) : (nI n).toInt = (n : Int) := nI_toInt h
theorem z_of {x : Int32} {n : Nat} (h : x.toInt = (n : Int)) : x = nI n := by
  have h2 := (z_rg x).2
  exact z_eq.mpr (by rw [z_nI (by omega)]; exact h)
theorem z_ofN {x : Int32} (h : 0 ≤ x.toInt) : x = nI x.toInt.toNat := z_of (by omega)
theorem z_clamp {x : Int32} (h : 0 ≤ x.toInt) : x.toNatClampNeg = x.toInt.toNat := rfl
/-- the first n dots of a long -/
def q_fd (n : Int32) : Int64 := if n ≤ 0 then 0 else if 64 ≤ n then -1 else (-1) <<< ((64 - n).toInt64 &&& 63)
theorem tb_fd (n : Int32) {p : Nat} (hp : p < 64) : tb (q_fd n) p = decide ((p : Int) < n.toInt) := by
  unfold q_fd
  split
  · rename_i h
    have h := z_le.mp h
    have h0 : (0 : Int32).toInt = 0 := rfl
    rw [tb_0, decide_eq_false (by omega)]
  · rename_i h
    have h : ¬ n.toInt ≤ 0 := fun q => h (z_le.mpr q)
    split
    · rename_i h2
      have h2 := z_le.mp h2
      have h0 : (64 : Int32).toInt = 64 := rfl
      rw [tb_m1 hp, decide_eq_true (by omega)]
    · rename_i h2
      have h0 : (64 : Int32).toInt = 64 := rfl
      have h2 : ¬ (64 : Int) ≤ n.toInt := fun q => h2 (z_le.mpr (by rw [h0]; exact q))
      have hs : (64 - n).toInt = 64 - n.toInt := by rw [z_sub (by omega) (by omega), h0]
      obtain ⟨k, hk⟩ : ∃ k : Nat, k = 64 - n.toInt.toNat := ⟨_, rfl⟩
      have hn : (64 - n : Int32) = nI k := z_of (by rw [hs]; omega)
      rw [hn, tb_shl _ (by omega), tb_m1']
      by_cases hq : (p : Int) < n.toInt
      · rw [decide_eq_true hq, decide_eq_true (by omega)]
      · rw [decide_eq_false hq, decide_eq_false (by omega)]
end
section
/-! Names, by program (wip/whole/names.py): the words that hold, the classes, fields, calls. -/
def BIG : List Cond := lw_tbl.filter goodWord
theorem big_t {w : Cond} (i : Nat) (h : tables_1[i]? = some w) (g : goodWord w = true) : w ∈ BIG := List.mem_filter.mpr ⟨List.mem_append_right _ (List.mem_of_getElem? h), g⟩
theorem big_s {w : Cond} (i : Nat) (h : (k2_sels lw_privs)[i]? = some w) (g : goodWord w = true) : w ∈ BIG := List.mem_filter.mpr ⟨List.mem_append_left _ (List.mem_of_getElem? h), g⟩
theorem t_0 : Cond.initialized "BandPainterLaw" ∈ BIG := big_t 0 (by decide +kernel) (by decide +kernel)
theorem t_1 : Cond.initialized "BandPainter" ∈ BIG := big_t 1 (by decide +kernel) (by decide +kernel)
theorem t_2 : Cond.initialized "java/lang/Math" ∈ BIG := big_t 2 (by decide +kernel) (by decide +kernel)
theorem t_3 : Cond.initialized "BandPainter$Box" ∈ BIG := big_t 3 (by decide +kernel) (by decide +kernel)
theorem t_4 : Cond.initialized "BandPainter$Pile" ∈ BIG := big_t 4 (by decide +kernel) (by decide +kernel)
theorem t_5 : Cond.initialized "BandPainter$Ink" ∈ BIG := big_t 5 (by decide +kernel) (by decide +kernel)
theorem t_6 : Cond.initialized "BandPainterModel" ∈ BIG := big_t 6 (by decide +kernel) (by decide +kernel)
theorem t_12 : Cond.initialized "BandPainter$Shape" ∈ BIG := big_t 12 (by decide +kernel) (by decide +kernel)
theorem t_13 : Cond.initialized "BandPainter$Picture" ∈ BIG := big_t 13 (by decide +kernel) (by decide +kernel)
theorem t_14 : Cond.initialized "BandPainter$Mark" ∈ BIG := big_t 14 (by decide +kernel) (by decide +kernel)
theorem t_15 : Cond.initialized "java/util/Arrays" ∈ BIG := big_t 15 (by decide +kernel) (by decide +kernel)
theorem t_17 : Cond.initialized "java/lang/Long" ∈ BIG := big_t 17 (by decide +kernel) (by decide +kernel)
theorem t_18 : Cond.classLink "BandPainterLaw" 8 "BandPainter" ∈ BIG := big_t 18 (by decide +kernel) (by decide +kernel)
theorem t_19 : Cond.instantiable "BandPainter" 14 ∈ BIG := big_t 19 (by decide +kernel) (by decide +kernel)
theorem t_20 : Cond.methodLink "BandPainterLaw" 29 ⟨"BandPainter", "<init>", "(III)V"⟩ ∈ BIG := big_t 20 (by decide +kernel) (by decide +kernel)
theorem t_21 : Cond.instanceMethod ⟨"BandPainter", "<init>", "(III)V"⟩ ∈ BIG := big_t 21 (by decide +kernel) (by decide +kernel)
theorem t_22 : Cond.code ⟨"BandPainter", "<init>", "(III)V"⟩ prog_1_method_1_code 4 none ∈ BIG := big_t 22 (by decide +kernel) (by decide +kernel)
theorem t_23 : Cond.methodLink "BandPainter" 1 ⟨"java/lang/Object", "<init>", "()V"⟩ ∈ BIG := big_t 23 (by decide +kernel) (by decide +kernel)
theorem t_24 : Cond.instanceMethod ⟨"java/lang/Object", "<init>", "()V"⟩ ∈ BIG := big_t 24 (by decide +kernel) (by decide +kernel)
theorem t_25 : Cond.code ⟨"java/lang/Object", "<init>", "()V"⟩ object_method_1_code 1 none ∈ BIG := big_t 25 (by decide +kernel) (by decide +kernel)
theorem t_26 : Cond.methodLink "BandPainter" 9 ⟨"BandPainter", "within", "(III)I"⟩ ∈ BIG := big_t 26 (by decide +kernel) (by decide +kernel)
theorem t_27 : Cond.static ⟨"BandPainter", "within", "(III)I"⟩ ∈ BIG := big_t 27 (by decide +kernel) (by decide +kernel)
theorem t_28 : Cond.code ⟨"BandPainter", "within", "(III)I"⟩ prog_1_method_22_code 3 (some .int) ∈ BIG := big_t 28 (by decide +kernel) (by decide +kernel)
theorem t_29 : Cond.methodLink "BandPainter" 162 ⟨"java/lang/Math", "min", "(II)I"⟩ ∈ BIG := big_t 29 (by decide +kernel) (by decide +kernel)
theorem t_30 : Cond.static ⟨"java/lang/Math", "min", "(II)I"⟩ ∈ BIG := big_t 30 (by decide +kernel) (by decide +kernel)
theorem t_31 : Cond.code ⟨"java/lang/Math", "min", "(II)I"⟩ prog_15_method_69_code 2 (some .int) ∈ BIG := big_t 31 (by decide +kernel) (by decide +kernel)
theorem t_32 : Cond.methodLink "BandPainter" 168 ⟨"java/lang/Math", "max", "(II)I"⟩ ∈ BIG := big_t 32 (by decide +kernel) (by decide +kernel)
theorem t_33 : Cond.static ⟨"java/lang/Math", "max", "(II)I"⟩ ∈ BIG := big_t 33 (by decide +kernel) (by decide +kernel)
theorem t_34 : Cond.code ⟨"java/lang/Math", "max", "(II)I"⟩ prog_15_method_65_code 2 (some .int) ∈ BIG := big_t 34 (by decide +kernel) (by decide +kernel)
theorem t_35 : Cond.classLink "BandPainter" 23 "BandPainter$Box" ∈ BIG := big_t 35 (by decide +kernel) (by decide +kernel)
theorem t_36 : Cond.instantiable "BandPainter$Box" 4 ∈ BIG := big_t 36 (by decide +kernel) (by decide +kernel)
theorem t_37 : Cond.methodLink "BandPainter" 25 ⟨"BandPainter$Box", "<init>", "(IIII)V"⟩ ∈ BIG := big_t 37 (by decide +kernel) (by decide +kernel)
theorem t_38 : Cond.instanceMethod ⟨"BandPainter$Box", "<init>", "(IIII)V"⟩ ∈ BIG := big_t 38 (by decide +kernel) (by decide +kernel)
theorem t_39 : Cond.code ⟨"BandPainter$Box", "<init>", "(IIII)V"⟩ prog_2_method_1_code 5 none ∈ BIG := big_t 39 (by decide +kernel) (by decide +kernel)
theorem t_40 : Cond.methodLink "BandPainter$Box" 3 ⟨"java/lang/Object", "<init>", "()V"⟩ ∈ BIG := big_t 40 (by decide +kernel) (by decide +kernel)
theorem t_41 : Cond.fieldLink "BandPainter$Box" 9 "BandPainter$Box" "x0" "I" ∈ BIG := big_t 41 (by decide +kernel) (by decide +kernel)
theorem t_42 : Cond.fieldLink "BandPainter$Pile" 94 "BandPainter$Box" "x0" "I" ∈ BIG := big_t 42 (by decide +kernel) (by decide +kernel)
theorem t_43 : Cond.fieldLink "BandPainter$Box" 15 "BandPainter$Box" "y0" "I" ∈ BIG := big_t 43 (by decide +kernel) (by decide +kernel)
theorem t_44 : Cond.fieldLink "BandPainter$Pile" 55 "BandPainter$Box" "y0" "I" ∈ BIG := big_t 44 (by decide +kernel) (by decide +kernel)
theorem t_45 : Cond.fieldLink "BandPainter$Box" 18 "BandPainter$Box" "x1" "I" ∈ BIG := big_t 45 (by decide +kernel) (by decide +kernel)
theorem t_46 : Cond.fieldLink "BandPainter$Pile" 97 "BandPainter$Box" "x1" "I" ∈ BIG := big_t 46 (by decide +kernel) (by decide +kernel)
theorem t_47 : Cond.fieldLink "BandPainter$Box" 21 "BandPainter$Box" "y1" "I" ∈ BIG := big_t 47 (by decide +kernel) (by decide +kernel)
theorem t_48 : Cond.fieldLink "BandPainter$Pile" 64 "BandPainter$Box" "y1" "I" ∈ BIG := big_t 48 (by decide +kernel) (by decide +kernel)
theorem t_49 : Cond.laysFinal "BandPainter$Box" "BandPainter$Box" "x0" "I" ∈ BIG := big_t 49 (by decide +kernel) (by decide +kernel)
theorem t_51 : Cond.laysFinal "BandPainter$Box" "BandPainter$Box" "y0" "I" ∈ BIG := big_t 51 (by decide +kernel) (by decide +kernel)
theorem t_53 : Cond.laysFinal "BandPainter$Box" "BandPainter$Box" "x1" "I" ∈ BIG := big_t 53 (by decide +kernel) (by decide +kernel)
theorem t_55 : Cond.laysFinal "BandPainter$Box" "BandPainter$Box" "y1" "I" ∈ BIG := big_t 55 (by decide +kernel) (by decide +kernel)
theorem t_58 : Cond.classLink "BandPainter" 32 "BandPainter$Shape" ∈ BIG := big_t 58 (by decide +kernel) (by decide +kernel)
theorem t_60 : Cond.classLink "BandPainter" 38 "BandPainter$Pile" ∈ BIG := big_t 60 (by decide +kernel) (by decide +kernel)
theorem t_61 : Cond.instantiable "BandPainter$Pile" 5 ∈ BIG := big_t 61 (by decide +kernel) (by decide +kernel)
theorem t_62 : Cond.methodLink "BandPainter" 40 ⟨"BandPainter$Pile", "<init>", "(I)V"⟩ ∈ BIG := big_t 62 (by decide +kernel) (by decide +kernel)
theorem t_63 : Cond.instanceMethod ⟨"BandPainter$Pile", "<init>", "(I)V"⟩ ∈ BIG := big_t 63 (by decide +kernel) (by decide +kernel)
theorem t_64 : Cond.code ⟨"BandPainter$Pile", "<init>", "(I)V"⟩ prog_6_method_1_code 2 none ∈ BIG := big_t 64 (by decide +kernel) (by decide +kernel)
theorem t_65 : Cond.methodLink "BandPainter$Pile" 3 ⟨"java/lang/Object", "<init>", "()V"⟩ ∈ BIG := big_t 65 (by decide +kernel) (by decide +kernel)
theorem t_66 : Cond.fieldLink "BandPainter$Pile" 9 "BandPainter$Pile" "lines" "I" ∈ BIG := big_t 66 (by decide +kernel) (by decide +kernel)
theorem t_67 : Cond.fieldLink "BandPainter$Pile" 15 "BandPainter$Pile" "blacks" "[I" ∈ BIG := big_t 67 (by decide +kernel) (by decide +kernel)
theorem t_68 : Cond.fieldLink "BandPainter$Pile" 19 "BandPainter$Pile" "stirred" "[Z" ∈ BIG := big_t 68 (by decide +kernel) (by decide +kernel)
theorem t_69 : Cond.fieldLink "BandPainter$Pile" 23 "BandPainter$Pile" "size" "I" ∈ BIG := big_t 69 (by decide +kernel) (by decide +kernel)
theorem t_70 : Cond.fieldLink "BandPainter" 183 "BandPainter$Pile" "size" "I" ∈ BIG := big_t 70 (by decide +kernel) (by decide +kernel)
theorem t_71 : Cond.fieldLink "BandPainter$Pile" 26 "BandPainter$Pile" "newest" "LBandPainter$Mark;" ∈ BIG := big_t 71 (by decide +kernel) (by decide +kernel)
theorem t_72 : Cond.laysFinal "BandPainter$Pile" "BandPainter$Pile" "lines" "I" ∈ BIG := big_t 72 (by decide +kernel) (by decide +kernel)
theorem t_74 : Cond.laysFinal "BandPainter$Pile" "BandPainter$Pile" "blacks" "[I" ∈ BIG := big_t 74 (by decide +kernel) (by decide +kernel)
theorem t_76 : Cond.laysFinal "BandPainter$Pile" "BandPainter$Pile" "stirred" "[Z" ∈ BIG := big_t 76 (by decide +kernel) (by decide +kernel)
theorem t_78 : Cond.lays "BandPainter$Pile" "BandPainter$Pile" "size" "I" ∈ BIG := big_t 78 (by decide +kernel) (by decide +kernel)
theorem t_80 : Cond.lays "BandPainter$Pile" "BandPainter$Pile" "newest" "LBandPainter$Mark;" ∈ BIG := big_t 80 (by decide +kernel) (by decide +kernel)
theorem t_83 : Cond.arrayClass .int ∈ BIG := big_t 83 (by decide +kernel) (by decide +kernel)
theorem t_84 : Cond.arrayClass .boolean ∈ BIG := big_t 84 (by decide +kernel) (by decide +kernel)
theorem t_85 : Cond.classLink "BandPainter" 47 "BandPainter$Ink" ∈ BIG := big_t 85 (by decide +kernel) (by decide +kernel)
theorem t_86 : Cond.instantiable "BandPainter$Ink" 3 ∈ BIG := big_t 86 (by decide +kernel) (by decide +kernel)
theorem t_87 : Cond.methodLink "BandPainter" 49 ⟨"BandPainter$Ink", "<init>", "(II)V"⟩ ∈ BIG := big_t 87 (by decide +kernel) (by decide +kernel)
theorem t_88 : Cond.instanceMethod ⟨"BandPainter$Ink", "<init>", "(II)V"⟩ ∈ BIG := big_t 88 (by decide +kernel) (by decide +kernel)
theorem t_89 : Cond.code ⟨"BandPainter$Ink", "<init>", "(II)V"⟩ prog_3_method_1_code 4 none ∈ BIG := big_t 89 (by decide +kernel) (by decide +kernel)
theorem t_90 : Cond.methodLink "BandPainter$Ink" 3 ⟨"java/lang/Object", "<init>", "()V"⟩ ∈ BIG := big_t 90 (by decide +kernel) (by decide +kernel)
theorem t_91 : Cond.methodLink "BandPainter$Ink" 22 ⟨"BandPainter$Ink", "dotsOfLine", "(III)J"⟩ ∈ BIG := big_t 91 (by decide +kernel) (by decide +kernel)
theorem t_92 : Cond.static ⟨"BandPainter$Ink", "dotsOfLine", "(III)J"⟩ ∈ BIG := big_t 92 (by decide +kernel) (by decide +kernel)
theorem t_93 : Cond.code ⟨"BandPainter$Ink", "dotsOfLine", "(III)J"⟩ prog_3_method_4_code 6 (some .long) ∈ BIG := big_t 93 (by decide +kernel) (by decide +kernel)
theorem t_94 : Cond.constantLong "BandPainter$Ink" 30 (-1) ∈ BIG := big_t 94 (by decide +kernel) (by decide +kernel)
theorem t_95 : Cond.methodLink "BandPainter$Ink" 32 ⟨"BandPainter$Ink", "isShaded", "(III)Z"⟩ ∈ BIG := big_t 95 (by decide +kernel) (by decide +kernel)
theorem t_96 : Cond.static ⟨"BandPainter$Ink", "isShaded", "(III)Z"⟩ ∈ BIG := big_t 96 (by decide +kernel) (by decide +kernel)
theorem t_97 : Cond.code ⟨"BandPainter$Ink", "isShaded", "(III)Z"⟩ prog_3_method_5_code 7 (some .boolean) ∈ BIG := big_t 97 (by decide +kernel) (by decide +kernel)
theorem t_98 : Cond.methodLink "BandPainter$Ink" 35 ⟨"BandPainter$Ink", "isHatched", "(III)Z"⟩ ∈ BIG := big_t 98 (by decide +kernel) (by decide +kernel)
theorem t_99 : Cond.static ⟨"BandPainter$Ink", "isHatched", "(III)Z"⟩ ∈ BIG := big_t 99 (by decide +kernel) (by decide +kernel)
theorem t_100 : Cond.code ⟨"BandPainter$Ink", "isHatched", "(III)Z"⟩ prog_3_method_6_code 7 (some .boolean) ∈ BIG := big_t 100 (by decide +kernel) (by decide +kernel)
theorem t_101 : Cond.constantLong "BandPainter$Ink" 38 (-9223372036854775808) ∈ BIG := big_t 101 (by decide +kernel) (by decide +kernel)
theorem t_102 : Cond.fieldLink "BandPainter$Ink" 9 "BandPainter$Ink" "kind" "I" ∈ BIG := big_t 102 (by decide +kernel) (by decide +kernel)
theorem t_103 : Cond.fieldLink "BandPainter" 186 "BandPainter$Ink" "kind" "I" ∈ BIG := big_t 103 (by decide +kernel) (by decide +kernel)
theorem t_104 : Cond.fieldLink "BandPainter$Ink" 15 "BandPainter$Ink" "value" "I" ∈ BIG := big_t 104 (by decide +kernel) (by decide +kernel)
theorem t_105 : Cond.fieldLink "BandPainter" 189 "BandPainter$Ink" "value" "I" ∈ BIG := big_t 105 (by decide +kernel) (by decide +kernel)
theorem t_106 : Cond.fieldLink "BandPainter$Ink" 18 "BandPainter$Ink" "lines" "[J" ∈ BIG := big_t 106 (by decide +kernel) (by decide +kernel)
theorem t_107 : Cond.laysFinal "BandPainter$Ink" "BandPainter$Ink" "kind" "I" ∈ BIG := big_t 107 (by decide +kernel) (by decide +kernel)
theorem t_109 : Cond.laysFinal "BandPainter$Ink" "BandPainter$Ink" "value" "I" ∈ BIG := big_t 109 (by decide +kernel) (by decide +kernel)
theorem t_111 : Cond.laysFinal "BandPainter$Ink" "BandPainter$Ink" "lines" "[J" ∈ BIG := big_t 111 (by decide +kernel) (by decide +kernel)
theorem t_114 : Cond.arrayClass .long ∈ BIG := big_t 114 (by decide +kernel) (by decide +kernel)
theorem t_115 : Cond.fieldLink "BandPainter" 13 "BandPainter" "width" "I" ∈ BIG := big_t 115 (by decide +kernel) (by decide +kernel)
theorem t_116 : Cond.fieldLink "BandPainter" 17 "BandPainter" "height" "I" ∈ BIG := big_t 116 (by decide +kernel) (by decide +kernel)
theorem t_117 : Cond.fieldLink "BandPainter" 20 "BandPainter" "band" "I" ∈ BIG := big_t 117 (by decide +kernel) (by decide +kernel)
theorem t_118 : Cond.fieldLink "BandPainter" 28 "BandPainter" "sheet" "LBandPainter$Box;" ∈ BIG := big_t 118 (by decide +kernel) (by decide +kernel)
theorem t_119 : Cond.fieldLink "BandPainter" 34 "BandPainter" "shapes" "[LBandPainter$Shape;" ∈ BIG := big_t 119 (by decide +kernel) (by decide +kernel)
theorem t_120 : Cond.fieldLink "BandPainter" 43 "BandPainter" "pile" "LBandPainter$Pile;" ∈ BIG := big_t 120 (by decide +kernel) (by decide +kernel)
theorem t_121 : Cond.fieldLink "BandPainter" 70 "BandPainter" "shapeCount" "I" ∈ BIG := big_t 121 (by decide +kernel) (by decide +kernel)
theorem t_122 : Cond.fieldLink "BandPainter" 73 "BandPainter" "shapeRows" "I" ∈ BIG := big_t 122 (by decide +kernel) (by decide +kernel)
theorem t_123 : Cond.fieldLink "BandPainter" 134 "BandPainter" "rowBytes" "I" ∈ BIG := big_t 123 (by decide +kernel) (by decide +kernel)
theorem t_124 : Cond.fieldLink "BandPainter" 52 "BandPainter" "ink" "LBandPainter$Ink;" ∈ BIG := big_t 124 (by decide +kernel) (by decide +kernel)
theorem t_125 : Cond.fieldLink "BandPainter" 107 "BandPainter" "sourceOpaque" "Z" ∈ BIG := big_t 125 (by decide +kernel) (by decide +kernel)
theorem t_126 : Cond.fieldLink "BandPainter" 110 "BandPainter" "inkOpaque" "Z" ∈ BIG := big_t 126 (by decide +kernel) (by decide +kernel)
theorem t_127 : Cond.fieldLink "BandPainter" 113 "BandPainter" "turn" "I" ∈ BIG := big_t 127 (by decide +kernel) (by decide +kernel)
theorem t_128 : Cond.fieldLink "BandPainter" 56 "BandPainter" "clip" "LBandPainter$Box;" ∈ BIG := big_t 128 (by decide +kernel) (by decide +kernel)
theorem t_129 : Cond.laysFinal "BandPainter" "BandPainter" "width" "I" ∈ BIG := big_t 129 (by decide +kernel) (by decide +kernel)
theorem t_131 : Cond.laysFinal "BandPainter" "BandPainter" "height" "I" ∈ BIG := big_t 131 (by decide +kernel) (by decide +kernel)
theorem t_133 : Cond.laysFinal "BandPainter" "BandPainter" "band" "I" ∈ BIG := big_t 133 (by decide +kernel) (by decide +kernel)
theorem t_135 : Cond.laysFinal "BandPainter" "BandPainter" "sheet" "LBandPainter$Box;" ∈ BIG := big_t 135 (by decide +kernel) (by decide +kernel)
theorem t_137 : Cond.laysFinal "BandPainter" "BandPainter" "shapes" "[LBandPainter$Shape;" ∈ BIG := big_t 137 (by decide +kernel) (by decide +kernel)
theorem t_139 : Cond.laysFinal "BandPainter" "BandPainter" "pile" "LBandPainter$Pile;" ∈ BIG := big_t 139 (by decide +kernel) (by decide +kernel)
theorem t_141 : Cond.lays "BandPainter" "BandPainter" "shapeCount" "I" ∈ BIG := big_t 141 (by decide +kernel) (by decide +kernel)
theorem t_143 : Cond.lays "BandPainter" "BandPainter" "shapeRows" "I" ∈ BIG := big_t 143 (by decide +kernel) (by decide +kernel)
theorem t_145 : Cond.lays "BandPainter" "BandPainter" "rowBytes" "I" ∈ BIG := big_t 145 (by decide +kernel) (by decide +kernel)
theorem t_147 : Cond.lays "BandPainter" "BandPainter" "ink" "LBandPainter$Ink;" ∈ BIG := big_t 147 (by decide +kernel) (by decide +kernel)
theorem t_149 : Cond.lays "BandPainter" "BandPainter" "sourceOpaque" "Z" ∈ BIG := big_t 149 (by decide +kernel) (by decide +kernel)
theorem t_151 : Cond.lays "BandPainter" "BandPainter" "inkOpaque" "Z" ∈ BIG := big_t 151 (by decide +kernel) (by decide +kernel)
theorem t_153 : Cond.lays "BandPainter" "BandPainter" "turn" "I" ∈ BIG := big_t 153 (by decide +kernel) (by decide +kernel)
theorem t_155 : Cond.lays "BandPainter" "BandPainter" "clip" "LBandPainter$Box;" ∈ BIG := big_t 155 (by decide +kernel) (by decide +kernel)
theorem t_158 : Cond.methodLink "BandPainterLaw" 45 ⟨"BandPainter", "draw", "(IIJJ)Z"⟩ ∈ BIG := big_t 158 (by decide +kernel) (by decide +kernel)
theorem t_159 : Cond.instanceMethod ⟨"BandPainter", "draw", "(IIJJ)Z"⟩ ∈ BIG := big_t 159 (by decide +kernel) (by decide +kernel)
theorem t_160 : Cond.selects "BandPainter" ⟨"BandPainter", "draw", "(IIJJ)Z"⟩ ⟨"BandPainter", "draw", "(IIJJ)Z"⟩ ∈ BIG := big_t 160 (by decide +kernel) (by decide +kernel)
theorem t_161 : Cond.code ⟨"BandPainter", "draw", "(IIJJ)Z"⟩ prog_1_method_3_code 8 (some .boolean) ∈ BIG := big_t 161 (by decide +kernel) (by decide +kernel)
theorem t_162 : Cond.methodLink "BandPainter" 82 ⟨"BandPainter", "shapeOf", "(I)LBandPainter$Shape;"⟩ ∈ BIG := big_t 162 (by decide +kernel) (by decide +kernel)
theorem t_164 : Cond.instanceMethod ⟨"BandPainter", "shapeOf", "(I)LBandPainter$Shape;"⟩ ∈ BIG := big_t 164 (by decide +kernel) (by decide +kernel)
theorem t_165 : Cond.code ⟨"BandPainter", "shapeOf", "(I)LBandPainter$Shape;"⟩ prog_1_method_18_code 2 (some (.object "BandPainter$Shape")) ∈ BIG := big_t 165 (by decide +kernel) (by decide +kernel)
theorem t_166 : Cond.methodLink "BandPainter" 59 ⟨"BandPainter", "isWithin", "(III)Z"⟩ ∈ BIG := big_t 166 (by decide +kernel) (by decide +kernel)
theorem t_167 : Cond.static ⟨"BandPainter", "isWithin", "(III)Z"⟩ ∈ BIG := big_t 167 (by decide +kernel) (by decide +kernel)
theorem t_168 : Cond.code ⟨"BandPainter", "isWithin", "(III)Z"⟩ prog_1_method_21_code 3 (some .boolean) ∈ BIG := big_t 168 (by decide +kernel) (by decide +kernel)
theorem t_169 : Cond.methodLink "BandPainter" 99 ⟨"BandPainter$Shape", "redraw", "(IJJ)V"⟩ ∈ BIG := big_t 169 (by decide +kernel) (by decide +kernel)
theorem t_170 : Cond.instanceMethod ⟨"BandPainter$Shape", "redraw", "(IJJ)V"⟩ ∈ BIG := big_t 170 (by decide +kernel) (by decide +kernel)
theorem t_171 : Cond.selects "BandPainter$Shape" ⟨"BandPainter$Shape", "redraw", "(IJJ)V"⟩ ⟨"BandPainter$Shape", "redraw", "(IJJ)V"⟩ ∈ BIG := big_t 171 (by decide +kernel) (by decide +kernel)
theorem t_172 : Cond.code ⟨"BandPainter$Shape", "redraw", "(IJJ)V"⟩ prog_7_method_2_code 7 none ∈ BIG := big_t 172 (by decide +kernel) (by decide +kernel)
theorem t_173 : Cond.methodLink "BandPainter$Shape" 24 ⟨"BandPainter$Picture", "setDots", "(IJJ)V"⟩ ∈ BIG := big_t 173 (by decide +kernel) (by decide +kernel)
theorem t_174 : Cond.instanceMethod ⟨"BandPainter$Picture", "setDots", "(IJJ)V"⟩ ∈ BIG := big_t 174 (by decide +kernel) (by decide +kernel)
theorem t_175 : Cond.selects "BandPainter$Picture" ⟨"BandPainter$Picture", "setDots", "(IJJ)V"⟩ ⟨"BandPainter$Picture", "setDots", "(IJJ)V"⟩ ∈ BIG := big_t 175 (by decide +kernel) (by decide +kernel)
theorem t_176 : Cond.code ⟨"BandPainter$Picture", "setDots", "(IJJ)V"⟩ prog_5_method_2_code 6 none ∈ BIG := big_t 176 (by decide +kernel) (by decide +kernel)
theorem t_178 : Cond.static ⟨"BandPainter", "firstDots", "(I)J"⟩ ∈ BIG := big_t 178 (by decide +kernel) (by decide +kernel)
theorem t_179 : Cond.code ⟨"BandPainter", "firstDots", "(I)J"⟩ prog_1_method_24_code 1 (some .long) ∈ BIG := big_t 179 (by decide +kernel) (by decide +kernel)
theorem t_180 : Cond.constantLong "BandPainter" 201 (-1) ∈ BIG := big_t 180 (by decide +kernel) (by decide +kernel)
theorem t_181 : Cond.methodLink "BandPainter$Picture" 38 ⟨"BandPainter$Picture", "setWord", "(IIJ)V"⟩ ∈ BIG := big_t 181 (by decide +kernel) (by decide +kernel)
theorem t_183 : Cond.instanceMethod ⟨"BandPainter$Picture", "setWord", "(IIJ)V"⟩ ∈ BIG := big_t 183 (by decide +kernel) (by decide +kernel)
theorem t_184 : Cond.instantiable "BandPainter$Picture" 5 ∈ BIG := big_t 184 (by decide +kernel) (by decide +kernel)
theorem t_185 : Cond.code ⟨"BandPainter$Picture", "setWord", "(IIJ)V"⟩ prog_5_method_11_code 5 none ∈ BIG := big_t 185 (by decide +kernel) (by decide +kernel)
theorem t_186 : Cond.methodLink "BandPainter$Picture" 74 ⟨"BandPainter$Picture", "hasWord", "(II)Z"⟩ ∈ BIG := big_t 186 (by decide +kernel) (by decide +kernel)
theorem t_188 : Cond.instanceMethod ⟨"BandPainter$Picture", "hasWord", "(II)Z"⟩ ∈ BIG := big_t 188 (by decide +kernel) (by decide +kernel)
theorem t_189 : Cond.code ⟨"BandPainter$Picture", "hasWord", "(II)Z"⟩ prog_5_method_12_code 3 (some .boolean) ∈ BIG := big_t 189 (by decide +kernel) (by decide +kernel)
theorem t_190 : Cond.methodLink "BandPainterLaw" 50 ⟨"BandPainter", "ink", "(II)Z"⟩ ∈ BIG := big_t 190 (by decide +kernel) (by decide +kernel)
theorem t_191 : Cond.instanceMethod ⟨"BandPainter", "ink", "(II)Z"⟩ ∈ BIG := big_t 191 (by decide +kernel) (by decide +kernel)
theorem t_192 : Cond.selects "BandPainter" ⟨"BandPainter", "ink", "(II)Z"⟩ ⟨"BandPainter", "ink", "(II)Z"⟩ ∈ BIG := big_t 192 (by decide +kernel) (by decide +kernel)
theorem t_193 : Cond.code ⟨"BandPainter", "ink", "(II)Z"⟩ prog_1_method_4_code 3 (some .boolean) ∈ BIG := big_t 193 (by decide +kernel) (by decide +kernel)
theorem t_194 : Cond.methodLink "BandPainter" 103 ⟨"BandPainter$Ink", "exists", "(II)Z"⟩ ∈ BIG := big_t 194 (by decide +kernel) (by decide +kernel)
theorem t_195 : Cond.static ⟨"BandPainter$Ink", "exists", "(II)Z"⟩ ∈ BIG := big_t 195 (by decide +kernel) (by decide +kernel)
theorem t_196 : Cond.code ⟨"BandPainter$Ink", "exists", "(II)Z"⟩ prog_3_method_2_code 2 (some .boolean) ∈ BIG := big_t 196 (by decide +kernel) (by decide +kernel)
theorem t_198 : Cond.methodLink "BandPainterLaw" 54 ⟨"BandPainter", "mode", "(ZZ)V"⟩ ∈ BIG := big_t 198 (by decide +kernel) (by decide +kernel)
theorem t_199 : Cond.instanceMethod ⟨"BandPainter", "mode", "(ZZ)V"⟩ ∈ BIG := big_t 199 (by decide +kernel) (by decide +kernel)
theorem t_200 : Cond.selects "BandPainter" ⟨"BandPainter", "mode", "(ZZ)V"⟩ ⟨"BandPainter", "mode", "(ZZ)V"⟩ ∈ BIG := big_t 200 (by decide +kernel) (by decide +kernel)
theorem t_201 : Cond.code ⟨"BandPainter", "mode", "(ZZ)V"⟩ prog_1_method_5_code 3 none ∈ BIG := big_t 201 (by decide +kernel) (by decide +kernel)
theorem t_202 : Cond.methodLink "BandPainterLaw" 59 ⟨"BandPainter", "turn", "(I)Z"⟩ ∈ BIG := big_t 202 (by decide +kernel) (by decide +kernel)
theorem t_203 : Cond.instanceMethod ⟨"BandPainter", "turn", "(I)Z"⟩ ∈ BIG := big_t 203 (by decide +kernel) (by decide +kernel)
theorem t_204 : Cond.selects "BandPainter" ⟨"BandPainter", "turn", "(I)Z"⟩ ⟨"BandPainter", "turn", "(I)Z"⟩ ∈ BIG := big_t 204 (by decide +kernel) (by decide +kernel)
theorem t_205 : Cond.code ⟨"BandPainter", "turn", "(I)Z"⟩ prog_1_method_6_code 2 (some .boolean) ∈ BIG := big_t 205 (by decide +kernel) (by decide +kernel)
theorem t_206 : Cond.methodLink "BandPainterLaw" 64 ⟨"BandPainter", "clip", "(IIII)Z"⟩ ∈ BIG := big_t 206 (by decide +kernel) (by decide +kernel)
theorem t_207 : Cond.instanceMethod ⟨"BandPainter", "clip", "(IIII)Z"⟩ ∈ BIG := big_t 207 (by decide +kernel) (by decide +kernel)
theorem t_208 : Cond.selects "BandPainter" ⟨"BandPainter", "clip", "(IIII)Z"⟩ ⟨"BandPainter", "clip", "(IIII)Z"⟩ ∈ BIG := big_t 208 (by decide +kernel) (by decide +kernel)
theorem t_209 : Cond.code ⟨"BandPainter", "clip", "(IIII)Z"⟩ prog_1_method_7_code 5 (some .boolean) ∈ BIG := big_t 209 (by decide +kernel) (by decide +kernel)
theorem t_210 : Cond.methodLink "BandPainter" 116 ⟨"BandPainter$Box", "common", "(LBandPainter$Box;)LBandPainter$Box;"⟩ ∈ BIG := big_t 210 (by decide +kernel) (by decide +kernel)
theorem t_211 : Cond.instanceMethod ⟨"BandPainter$Box", "common", "(LBandPainter$Box;)LBandPainter$Box;"⟩ ∈ BIG := big_t 211 (by decide +kernel) (by decide +kernel)
theorem t_212 : Cond.selects "BandPainter$Box" ⟨"BandPainter$Box", "common", "(LBandPainter$Box;)LBandPainter$Box;"⟩ ⟨"BandPainter$Box", "common", "(LBandPainter$Box;)LBandPainter$Box;"⟩ ∈ BIG := big_t 212 (by decide +kernel) (by decide +kernel)
theorem t_213 : Cond.code ⟨"BandPainter$Box", "common", "(LBandPainter$Box;)LBandPainter$Box;"⟩ prog_2_method_2_code 2 (some (.object "BandPainter$Box")) ∈ BIG := big_t 213 (by decide +kernel) (by decide +kernel)
theorem t_214 : Cond.classLink "BandPainter$Box" 10 "BandPainter$Box" ∈ BIG := big_t 214 (by decide +kernel) (by decide +kernel)
theorem t_215 : Cond.methodLink "BandPainter$Box" 24 ⟨"java/lang/Math", "max", "(II)I"⟩ ∈ BIG := big_t 215 (by decide +kernel) (by decide +kernel)
theorem t_216 : Cond.methodLink "BandPainter$Box" 30 ⟨"java/lang/Math", "min", "(II)I"⟩ ∈ BIG := big_t 216 (by decide +kernel) (by decide +kernel)
theorem t_217 : Cond.methodLink "BandPainter$Box" 33 ⟨"BandPainter$Box", "<init>", "(IIII)V"⟩ ∈ BIG := big_t 217 (by decide +kernel) (by decide +kernel)
theorem t_218 : Cond.methodLink "BandPainterLaw" 69 ⟨"BandPainter", "stamp", "(III)Z"⟩ ∈ BIG := big_t 218 (by decide +kernel) (by decide +kernel)
theorem t_219 : Cond.instanceMethod ⟨"BandPainter", "stamp", "(III)Z"⟩ ∈ BIG := big_t 219 (by decide +kernel) (by decide +kernel)
theorem t_220 : Cond.selects "BandPainter" ⟨"BandPainter", "stamp", "(III)Z"⟩ ⟨"BandPainter", "stamp", "(III)Z"⟩ ∈ BIG := big_t 220 (by decide +kernel) (by decide +kernel)
theorem t_221 : Cond.code ⟨"BandPainter", "stamp", "(III)Z"⟩ prog_1_method_8_code 5 (some .boolean) ∈ BIG := big_t 221 (by decide +kernel) (by decide +kernel)
theorem t_222 : Cond.methodLink "BandPainter" 120 ⟨"BandPainter", "canLayAt", "(II)Z"⟩ ∈ BIG := big_t 222 (by decide +kernel) (by decide +kernel)
theorem t_224 : Cond.instanceMethod ⟨"BandPainter", "canLayAt", "(II)Z"⟩ ∈ BIG := big_t 224 (by decide +kernel) (by decide +kernel)
theorem t_225 : Cond.code ⟨"BandPainter", "canLayAt", "(II)Z"⟩ prog_1_method_19_code 3 (some .boolean) ∈ BIG := big_t 225 (by decide +kernel) (by decide +kernel)
theorem t_226 : Cond.methodLink "BandPainter" 123 ⟨"BandPainter$Shape", "turnedBy", "(I)LBandPainter$Picture;"⟩ ∈ BIG := big_t 226 (by decide +kernel) (by decide +kernel)
theorem t_227 : Cond.instanceMethod ⟨"BandPainter$Shape", "turnedBy", "(I)LBandPainter$Picture;"⟩ ∈ BIG := big_t 227 (by decide +kernel) (by decide +kernel)
theorem t_228 : Cond.selects "BandPainter$Shape" ⟨"BandPainter$Shape", "turnedBy", "(I)LBandPainter$Picture;"⟩ ⟨"BandPainter$Shape", "turnedBy", "(I)LBandPainter$Picture;"⟩ ∈ BIG := big_t 228 (by decide +kernel) (by decide +kernel)
theorem t_229 : Cond.code ⟨"BandPainter$Shape", "turnedBy", "(I)LBandPainter$Picture;"⟩ prog_7_method_3_code 2 (some (.object "BandPainter$Picture")) ∈ BIG := big_t 229 (by decide +kernel) (by decide +kernel)
theorem t_231 : Cond.methodLink "BandPainter$Shape" 32 ⟨"BandPainter$Picture", "turnedBy", "(I)LBandPainter$Picture;"⟩ ∈ BIG := big_t 231 (by decide +kernel) (by decide +kernel)
theorem t_232 : Cond.instanceMethod ⟨"BandPainter$Picture", "turnedBy", "(I)LBandPainter$Picture;"⟩ ∈ BIG := big_t 232 (by decide +kernel) (by decide +kernel)
theorem t_233 : Cond.selects "BandPainter$Picture" ⟨"BandPainter$Picture", "turnedBy", "(I)LBandPainter$Picture;"⟩ ⟨"BandPainter$Picture", "turnedBy", "(I)LBandPainter$Picture;"⟩ ∈ BIG := big_t 233 (by decide +kernel) (by decide +kernel)
theorem t_234 : Cond.code ⟨"BandPainter$Picture", "turnedBy", "(I)LBandPainter$Picture;"⟩ prog_5_method_5_code 5 (some (.object "BandPainter$Picture")) ∈ BIG := big_t 234 (by decide +kernel) (by decide +kernel)
theorem t_235 : Cond.classLink "BandPainter$Picture" 16 "BandPainter$Picture" ∈ BIG := big_t 235 (by decide +kernel) (by decide +kernel)
theorem t_236 : Cond.methodLink "BandPainter$Picture" 58 ⟨"BandPainter$Picture", "<init>", "(III)V"⟩ ∈ BIG := big_t 236 (by decide +kernel) (by decide +kernel)
theorem t_237 : Cond.instanceMethod ⟨"BandPainter$Picture", "<init>", "(III)V"⟩ ∈ BIG := big_t 237 (by decide +kernel) (by decide +kernel)
theorem t_238 : Cond.code ⟨"BandPainter$Picture", "<init>", "(III)V"⟩ prog_5_method_1_code 4 none ∈ BIG := big_t 238 (by decide +kernel) (by decide +kernel)
theorem t_239 : Cond.methodLink "BandPainter$Picture" 3 ⟨"java/lang/Object", "<init>", "()V"⟩ ∈ BIG := big_t 239 (by decide +kernel) (by decide +kernel)
theorem t_240 : Cond.methodLink "BandPainter$Picture" 9 ⟨"java/lang/Math", "max", "(II)I"⟩ ∈ BIG := big_t 240 (by decide +kernel) (by decide +kernel)
theorem t_241 : Cond.fieldLink "BandPainter$Picture" 15 "BandPainter$Picture" "across" "I" ∈ BIG := big_t 241 (by decide +kernel) (by decide +kernel)
theorem t_242 : Cond.fieldLink "BandPainter" 127 "BandPainter$Picture" "across" "I" ∈ BIG := big_t 242 (by decide +kernel) (by decide +kernel)
theorem t_243 : Cond.fieldLink "BandPainter$Picture" 21 "BandPainter$Picture" "down" "I" ∈ BIG := big_t 243 (by decide +kernel) (by decide +kernel)
theorem t_244 : Cond.fieldLink "BandPainter" 94 "BandPainter$Picture" "down" "I" ∈ BIG := big_t 244 (by decide +kernel) (by decide +kernel)
theorem t_245 : Cond.fieldLink "BandPainter$Picture" 24 "BandPainter$Picture" "tall" "I" ∈ BIG := big_t 245 (by decide +kernel) (by decide +kernel)
theorem t_246 : Cond.fieldLink "BandPainter$Picture" 27 "BandPainter$Picture" "words" "I" ∈ BIG := big_t 246 (by decide +kernel) (by decide +kernel)
theorem t_247 : Cond.fieldLink "BandPainter$Picture" 30 "BandPainter$Picture" "bits" "[J" ∈ BIG := big_t 247 (by decide +kernel) (by decide +kernel)
theorem t_248 : Cond.laysFinal "BandPainter$Picture" "BandPainter$Picture" "across" "I" ∈ BIG := big_t 248 (by decide +kernel) (by decide +kernel)
theorem t_250 : Cond.laysFinal "BandPainter$Picture" "BandPainter$Picture" "down" "I" ∈ BIG := big_t 250 (by decide +kernel) (by decide +kernel)
theorem t_252 : Cond.laysFinal "BandPainter$Picture" "BandPainter$Picture" "tall" "I" ∈ BIG := big_t 252 (by decide +kernel) (by decide +kernel)
theorem t_254 : Cond.laysFinal "BandPainter$Picture" "BandPainter$Picture" "words" "I" ∈ BIG := big_t 254 (by decide +kernel) (by decide +kernel)
theorem t_256 : Cond.laysFinal "BandPainter$Picture" "BandPainter$Picture" "bits" "[J" ∈ BIG := big_t 256 (by decide +kernel) (by decide +kernel)
theorem t_259 : Cond.methodLink "BandPainter$Picture" 61 ⟨"BandPainter$Picture", "isBlack", "(II)Z"⟩ ∈ BIG := big_t 259 (by decide +kernel) (by decide +kernel)
theorem t_261 : Cond.instanceMethod ⟨"BandPainter$Picture", "isBlack", "(II)Z"⟩ ∈ BIG := big_t 261 (by decide +kernel) (by decide +kernel)
theorem t_262 : Cond.code ⟨"BandPainter$Picture", "isBlack", "(II)Z"⟩ prog_5_method_8_code 3 (some .boolean) ∈ BIG := big_t 262 (by decide +kernel) (by decide +kernel)
theorem t_263 : Cond.methodLink "BandPainter$Picture" 54 ⟨"BandPainter$Picture", "wordAt", "(II)J"⟩ ∈ BIG := big_t 263 (by decide +kernel) (by decide +kernel)
theorem t_265 : Cond.instanceMethod ⟨"BandPainter$Picture", "wordAt", "(II)J"⟩ ∈ BIG := big_t 265 (by decide +kernel) (by decide +kernel)
theorem t_266 : Cond.code ⟨"BandPainter$Picture", "wordAt", "(II)J"⟩ prog_5_method_10_code 3 (some .long) ∈ BIG := big_t 266 (by decide +kernel) (by decide +kernel)
theorem t_267 : Cond.constantLong "BandPainter$Picture" 72 (-9223372036854775808) ∈ BIG := big_t 267 (by decide +kernel) (by decide +kernel)
theorem t_268 : Cond.methodLink "BandPainter$Picture" 65 ⟨"BandPainter$Picture", "blackenTurned", "(III)V"⟩ ∈ BIG := big_t 268 (by decide +kernel) (by decide +kernel)
theorem t_270 : Cond.instanceMethod ⟨"BandPainter$Picture", "blackenTurned", "(III)V"⟩ ∈ BIG := big_t 270 (by decide +kernel) (by decide +kernel)
theorem t_271 : Cond.code ⟨"BandPainter$Picture", "blackenTurned", "(III)V"⟩ prog_5_method_7_code 4 none ∈ BIG := big_t 271 (by decide +kernel) (by decide +kernel)
theorem t_272 : Cond.methodLink "BandPainter$Picture" 68 ⟨"BandPainter$Picture", "blacken", "(II)V"⟩ ∈ BIG := big_t 272 (by decide +kernel) (by decide +kernel)
theorem t_274 : Cond.instanceMethod ⟨"BandPainter$Picture", "blacken", "(II)V"⟩ ∈ BIG := big_t 274 (by decide +kernel) (by decide +kernel)
theorem t_275 : Cond.code ⟨"BandPainter$Picture", "blacken", "(II)V"⟩ prog_5_method_9_code 3 none ∈ BIG := big_t 275 (by decide +kernel) (by decide +kernel)
theorem t_276 : Cond.methodLink "BandPainter" 130 ⟨"BandPainter", "lay", "(LBandPainter$Picture;IIII)V"⟩ ∈ BIG := big_t 276 (by decide +kernel) (by decide +kernel)
theorem t_278 : Cond.instanceMethod ⟨"BandPainter", "lay", "(LBandPainter$Picture;IIII)V"⟩ ∈ BIG := big_t 278 (by decide +kernel) (by decide +kernel)
theorem t_279 : Cond.code ⟨"BandPainter", "lay", "(LBandPainter$Picture;IIII)V"⟩ prog_1_method_20_code 12 none ∈ BIG := big_t 279 (by decide +kernel) (by decide +kernel)
theorem t_280 : Cond.classLink "BandPainter" 192 "BandPainter$Mark" ∈ BIG := big_t 280 (by decide +kernel) (by decide +kernel)
theorem t_281 : Cond.instantiable "BandPainter$Mark" 9 ∈ BIG := big_t 281 (by decide +kernel) (by decide +kernel)
theorem t_282 : Cond.methodLink "BandPainter" 194 ⟨"BandPainter$Mark", "<init>", "(LBandPainter$Picture;IILBandPainter$Box;LBandPainter$Ink;ZZ)V"⟩ ∈ BIG := big_t 282 (by decide +kernel) (by decide +kernel)
theorem t_283 : Cond.instanceMethod ⟨"BandPainter$Mark", "<init>", "(LBandPainter$Picture;IILBandPainter$Box;LBandPainter$Ink;ZZ)V"⟩ ∈ BIG := big_t 283 (by decide +kernel) (by decide +kernel)
theorem t_284 : Cond.code ⟨"BandPainter$Mark", "<init>", "(LBandPainter$Picture;IILBandPainter$Box;LBandPainter$Ink;ZZ)V"⟩ prog_4_method_1_code 8 none ∈ BIG := big_t 284 (by decide +kernel) (by decide +kernel)
theorem t_285 : Cond.methodLink "BandPainter$Mark" 1 ⟨"java/lang/Object", "<init>", "()V"⟩ ∈ BIG := big_t 285 (by decide +kernel) (by decide +kernel)
theorem t_286 : Cond.fieldLink "BandPainter$Mark" 7 "BandPainter$Mark" "picture" "LBandPainter$Picture;" ∈ BIG := big_t 286 (by decide +kernel) (by decide +kernel)
theorem t_287 : Cond.fieldLink "BandPainter$Pile" 70 "BandPainter$Mark" "picture" "LBandPainter$Picture;" ∈ BIG := big_t 287 (by decide +kernel) (by decide +kernel)
theorem t_288 : Cond.fieldLink "BandPainter$Mark" 13 "BandPainter$Mark" "left" "I" ∈ BIG := big_t 288 (by decide +kernel) (by decide +kernel)
theorem t_289 : Cond.fieldLink "BandPainter$Pile" 121 "BandPainter$Mark" "left" "I" ∈ BIG := big_t 289 (by decide +kernel) (by decide +kernel)
theorem t_290 : Cond.fieldLink "BandPainter$Mark" 17 "BandPainter$Mark" "top" "I" ∈ BIG := big_t 290 (by decide +kernel) (by decide +kernel)
theorem t_291 : Cond.fieldLink "BandPainter$Pile" 118 "BandPainter$Mark" "top" "I" ∈ BIG := big_t 291 (by decide +kernel) (by decide +kernel)
theorem t_292 : Cond.fieldLink "BandPainter$Mark" 20 "BandPainter$Mark" "part" "LBandPainter$Box;" ∈ BIG := big_t 292 (by decide +kernel) (by decide +kernel)
theorem t_293 : Cond.fieldLink "BandPainter$Pile" 36 "BandPainter$Mark" "part" "LBandPainter$Box;" ∈ BIG := big_t 293 (by decide +kernel) (by decide +kernel)
theorem t_294 : Cond.fieldLink "BandPainter$Mark" 24 "BandPainter$Mark" "ink" "LBandPainter$Ink;" ∈ BIG := big_t 294 (by decide +kernel) (by decide +kernel)
theorem t_295 : Cond.fieldLink "BandPainter$Pile" 130 "BandPainter$Mark" "ink" "LBandPainter$Ink;" ∈ BIG := big_t 295 (by decide +kernel) (by decide +kernel)
theorem t_296 : Cond.fieldLink "BandPainter$Mark" 28 "BandPainter$Mark" "sourceOpaque" "Z" ∈ BIG := big_t 296 (by decide +kernel) (by decide +kernel)
theorem t_297 : Cond.fieldLink "BandPainter$Pile" 143 "BandPainter$Mark" "sourceOpaque" "Z" ∈ BIG := big_t 297 (by decide +kernel) (by decide +kernel)
theorem t_298 : Cond.fieldLink "BandPainter$Mark" 32 "BandPainter$Mark" "inkOpaque" "Z" ∈ BIG := big_t 298 (by decide +kernel) (by decide +kernel)
theorem t_299 : Cond.fieldLink "BandPainter$Pile" 139 "BandPainter$Mark" "inkOpaque" "Z" ∈ BIG := big_t 299 (by decide +kernel) (by decide +kernel)
theorem t_300 : Cond.fieldLink "BandPainter$Pile" 48 "BandPainter$Mark" "below" "LBandPainter$Mark;" ∈ BIG := big_t 300 (by decide +kernel) (by decide +kernel)
theorem t_301 : Cond.fieldLink "BandPainter$Pile" 100 "BandPainter$Mark" "belowOnLine" "LBandPainter$Mark;" ∈ BIG := big_t 301 (by decide +kernel) (by decide +kernel)
theorem t_302 : Cond.laysFinal "BandPainter$Mark" "BandPainter$Mark" "picture" "LBandPainter$Picture;" ∈ BIG := big_t 302 (by decide +kernel) (by decide +kernel)
theorem t_304 : Cond.laysFinal "BandPainter$Mark" "BandPainter$Mark" "left" "I" ∈ BIG := big_t 304 (by decide +kernel) (by decide +kernel)
theorem t_306 : Cond.laysFinal "BandPainter$Mark" "BandPainter$Mark" "top" "I" ∈ BIG := big_t 306 (by decide +kernel) (by decide +kernel)
theorem t_308 : Cond.laysFinal "BandPainter$Mark" "BandPainter$Mark" "part" "LBandPainter$Box;" ∈ BIG := big_t 308 (by decide +kernel) (by decide +kernel)
theorem t_310 : Cond.laysFinal "BandPainter$Mark" "BandPainter$Mark" "ink" "LBandPainter$Ink;" ∈ BIG := big_t 310 (by decide +kernel) (by decide +kernel)
theorem t_312 : Cond.laysFinal "BandPainter$Mark" "BandPainter$Mark" "sourceOpaque" "Z" ∈ BIG := big_t 312 (by decide +kernel) (by decide +kernel)
theorem t_314 : Cond.laysFinal "BandPainter$Mark" "BandPainter$Mark" "inkOpaque" "Z" ∈ BIG := big_t 314 (by decide +kernel) (by decide +kernel)
theorem t_316 : Cond.lays "BandPainter$Mark" "BandPainter$Mark" "below" "LBandPainter$Mark;" ∈ BIG := big_t 316 (by decide +kernel) (by decide +kernel)
theorem t_318 : Cond.lays "BandPainter$Mark" "BandPainter$Mark" "belowOnLine" "LBandPainter$Mark;" ∈ BIG := big_t 318 (by decide +kernel) (by decide +kernel)
theorem t_321 : Cond.methodLink "BandPainter" 197 ⟨"BandPainter$Pile", "add", "(LBandPainter$Mark;)V"⟩ ∈ BIG := big_t 321 (by decide +kernel) (by decide +kernel)
theorem t_322 : Cond.instanceMethod ⟨"BandPainter$Pile", "add", "(LBandPainter$Mark;)V"⟩ ∈ BIG := big_t 322 (by decide +kernel) (by decide +kernel)
theorem t_323 : Cond.selects "BandPainter$Pile" ⟨"BandPainter$Pile", "add", "(LBandPainter$Mark;)V"⟩ ⟨"BandPainter$Pile", "add", "(LBandPainter$Mark;)V"⟩ ∈ BIG := big_t 323 (by decide +kernel) (by decide +kernel)
theorem t_324 : Cond.code ⟨"BandPainter$Pile", "add", "(LBandPainter$Mark;)V"⟩ prog_6_method_3_code 2 none ∈ BIG := big_t 324 (by decide +kernel) (by decide +kernel)
theorem t_325 : Cond.methodLink "BandPainter$Pile" 42 ⟨"BandPainter$Box", "isEmpty", "()Z"⟩ ∈ BIG := big_t 325 (by decide +kernel) (by decide +kernel)
theorem t_326 : Cond.instanceMethod ⟨"BandPainter$Box", "isEmpty", "()Z"⟩ ∈ BIG := big_t 326 (by decide +kernel) (by decide +kernel)
theorem t_327 : Cond.selects "BandPainter$Box" ⟨"BandPainter$Box", "isEmpty", "()Z"⟩ ⟨"BandPainter$Box", "isEmpty", "()Z"⟩ ∈ BIG := big_t 327 (by decide +kernel) (by decide +kernel)
theorem t_328 : Cond.code ⟨"BandPainter$Box", "isEmpty", "()Z"⟩ prog_2_method_3_code 1 (some .boolean) ∈ BIG := big_t 328 (by decide +kernel) (by decide +kernel)
theorem t_329 : Cond.methodLink "BandPainter$Pile" 51 ⟨"BandPainter$Pile", "stir", "(LBandPainter$Mark;)V"⟩ ∈ BIG := big_t 329 (by decide +kernel) (by decide +kernel)
theorem t_331 : Cond.instanceMethod ⟨"BandPainter$Pile", "stir", "(LBandPainter$Mark;)V"⟩ ∈ BIG := big_t 331 (by decide +kernel) (by decide +kernel)
theorem t_332 : Cond.code ⟨"BandPainter$Pile", "stir", "(LBandPainter$Mark;)V"⟩ prog_6_method_4_code 5 none ∈ BIG := big_t 332 (by decide +kernel) (by decide +kernel)
theorem t_333 : Cond.methodLink "BandPainter$Pile" 58 ⟨"java/lang/Math", "max", "(II)I"⟩ ∈ BIG := big_t 333 (by decide +kernel) (by decide +kernel)
theorem t_334 : Cond.methodLink "BandPainter$Pile" 67 ⟨"java/lang/Math", "min", "(II)I"⟩ ∈ BIG := big_t 334 (by decide +kernel) (by decide +kernel)
theorem t_336 : Cond.methodLink "BandPainterLaw" 74 ⟨"BandPainter", "rule", "(IIII)Z"⟩ ∈ BIG := big_t 336 (by decide +kernel) (by decide +kernel)
theorem t_337 : Cond.instanceMethod ⟨"BandPainter", "rule", "(IIII)Z"⟩ ∈ BIG := big_t 337 (by decide +kernel) (by decide +kernel)
theorem t_338 : Cond.selects "BandPainter" ⟨"BandPainter", "rule", "(IIII)Z"⟩ ⟨"BandPainter", "rule", "(IIII)Z"⟩ ∈ BIG := big_t 338 (by decide +kernel) (by decide +kernel)
theorem t_339 : Cond.code ⟨"BandPainter", "rule", "(IIII)Z"⟩ prog_1_method_9_code 5 (some .boolean) ∈ BIG := big_t 339 (by decide +kernel) (by decide +kernel)
theorem t_340 : Cond.methodLink "BandPainterLaw" 78 ⟨"BandPainter", "row", "(IIIIJ)Z"⟩ ∈ BIG := big_t 340 (by decide +kernel) (by decide +kernel)
theorem t_341 : Cond.instanceMethod ⟨"BandPainter", "row", "(IIIIJ)Z"⟩ ∈ BIG := big_t 341 (by decide +kernel) (by decide +kernel)
theorem t_342 : Cond.selects "BandPainter" ⟨"BandPainter", "row", "(IIIIJ)Z"⟩ ⟨"BandPainter", "row", "(IIIIJ)Z"⟩ ∈ BIG := big_t 342 (by decide +kernel) (by decide +kernel)
theorem t_343 : Cond.code ⟨"BandPainter", "row", "(IIIIJ)Z"⟩ prog_1_method_10_code 9 (some .boolean) ∈ BIG := big_t 343 (by decide +kernel) (by decide +kernel)
theorem t_344 : Cond.constant "BandPainter" 137 65536 ∈ BIG := big_t 344 (by decide +kernel) (by decide +kernel)
theorem t_345 : Cond.classLink "BandPainter" 95 "BandPainter$Picture" ∈ BIG := big_t 345 (by decide +kernel) (by decide +kernel)
theorem t_346 : Cond.methodLink "BandPainter" 138 ⟨"BandPainter$Picture", "<init>", "(III)V"⟩ ∈ BIG := big_t 346 (by decide +kernel) (by decide +kernel)
theorem t_347 : Cond.methodLink "BandPainter" 141 ⟨"BandPainter$Picture", "setDots", "(IJJ)V"⟩ ∈ BIG := big_t 347 (by decide +kernel) (by decide +kernel)
theorem t_348 : Cond.methodLink "BandPainter" 144 ⟨"BandPainter$Picture", "turnedBy", "(I)LBandPainter$Picture;"⟩ ∈ BIG := big_t 348 (by decide +kernel) (by decide +kernel)
theorem t_349 : Cond.methodLink "BandPainter" 145 ⟨"BandPainter$Picture", "enlarged", "(I)LBandPainter$Picture;"⟩ ∈ BIG := big_t 349 (by decide +kernel) (by decide +kernel)
theorem t_350 : Cond.instanceMethod ⟨"BandPainter$Picture", "enlarged", "(I)LBandPainter$Picture;"⟩ ∈ BIG := big_t 350 (by decide +kernel) (by decide +kernel)
theorem t_351 : Cond.selects "BandPainter$Picture" ⟨"BandPainter$Picture", "enlarged", "(I)LBandPainter$Picture;"⟩ ⟨"BandPainter$Picture", "enlarged", "(I)LBandPainter$Picture;"⟩ ∈ BIG := big_t 351 (by decide +kernel) (by decide +kernel)
theorem t_352 : Cond.code ⟨"BandPainter$Picture", "enlarged", "(I)LBandPainter$Picture;"⟩ prog_5_method_6_code 5 (some (.object "BandPainter$Picture")) ∈ BIG := big_t 352 (by decide +kernel) (by decide +kernel)
theorem t_353 : Cond.methodLink "BandPainterLaw" 83 ⟨"BandPainter", "eject", "()V"⟩ ∈ BIG := big_t 353 (by decide +kernel) (by decide +kernel)
theorem t_354 : Cond.instanceMethod ⟨"BandPainter", "eject", "()V"⟩ ∈ BIG := big_t 354 (by decide +kernel) (by decide +kernel)
theorem t_355 : Cond.selects "BandPainter" ⟨"BandPainter", "eject", "()V"⟩ ⟨"BandPainter", "eject", "()V"⟩ ∈ BIG := big_t 355 (by decide +kernel) (by decide +kernel)
theorem t_356 : Cond.code ⟨"BandPainter", "eject", "()V"⟩ prog_1_method_11_code 3 none ∈ BIG := big_t 356 (by decide +kernel) (by decide +kernel)
theorem t_357 : Cond.methodLink "BandPainter" 148 ⟨"BandPainter$Pile", "clear", "()V"⟩ ∈ BIG := big_t 357 (by decide +kernel) (by decide +kernel)
theorem t_358 : Cond.instanceMethod ⟨"BandPainter$Pile", "clear", "()V"⟩ ∈ BIG := big_t 358 (by decide +kernel) (by decide +kernel)
theorem t_359 : Cond.selects "BandPainter$Pile" ⟨"BandPainter$Pile", "clear", "()V"⟩ ⟨"BandPainter$Pile", "clear", "()V"⟩ ∈ BIG := big_t 359 (by decide +kernel) (by decide +kernel)
theorem t_360 : Cond.code ⟨"BandPainter$Pile", "clear", "()V"⟩ prog_6_method_2_code 2 none ∈ BIG := big_t 360 (by decide +kernel) (by decide +kernel)
theorem t_361 : Cond.methodLink "BandPainter$Pile" 30 ⟨"java/util/Arrays", "fill", "([II)V"⟩ ∈ BIG := big_t 361 (by decide +kernel) (by decide +kernel)
theorem t_362 : Cond.static ⟨"java/util/Arrays", "fill", "([II)V"⟩ ∈ BIG := big_t 362 (by decide +kernel) (by decide +kernel)
theorem t_363 : Cond.code ⟨"java/util/Arrays", "fill", "([II)V"⟩ prog_19_method_103_code 4 none ∈ BIG := big_t 363 (by decide +kernel) (by decide +kernel)
theorem t_364 : Cond.methodLink "BandPainterLaw" 87 ⟨"BandPainter", "line", "(II)J"⟩ ∈ BIG := big_t 364 (by decide +kernel) (by decide +kernel)
theorem t_365 : Cond.instanceMethod ⟨"BandPainter", "line", "(II)J"⟩ ∈ BIG := big_t 365 (by decide +kernel) (by decide +kernel)
theorem t_366 : Cond.selects "BandPainter" ⟨"BandPainter", "line", "(II)J"⟩ ⟨"BandPainter", "line", "(II)J"⟩ ∈ BIG := big_t 366 (by decide +kernel) (by decide +kernel)
theorem t_367 : Cond.code ⟨"BandPainter", "line", "(II)J"⟩ prog_1_method_12_code 3 (some .long) ∈ BIG := big_t 367 (by decide +kernel) (by decide +kernel)
theorem t_368 : Cond.methodLink "BandPainter" 151 ⟨"BandPainter$Pile", "wordOf", "(II)J"⟩ ∈ BIG := big_t 368 (by decide +kernel) (by decide +kernel)
theorem t_369 : Cond.instanceMethod ⟨"BandPainter$Pile", "wordOf", "(II)J"⟩ ∈ BIG := big_t 369 (by decide +kernel) (by decide +kernel)
theorem t_370 : Cond.selects "BandPainter$Pile" ⟨"BandPainter$Pile", "wordOf", "(II)J"⟩ ⟨"BandPainter$Pile", "wordOf", "(II)J"⟩ ∈ BIG := big_t 370 (by decide +kernel) (by decide +kernel)
theorem t_371 : Cond.code ⟨"BandPainter$Pile", "wordOf", "(II)J"⟩ prog_6_method_5_code 3 (some .long) ∈ BIG := big_t 371 (by decide +kernel) (by decide +kernel)
theorem t_372 : Cond.methodLink "BandPainter$Pile" 78 ⟨"BandPainter$Pile", "newestOnLine", "(I)LBandPainter$Mark;"⟩ ∈ BIG := big_t 372 (by decide +kernel) (by decide +kernel)
theorem t_374 : Cond.instanceMethod ⟨"BandPainter$Pile", "newestOnLine", "(I)LBandPainter$Mark;"⟩ ∈ BIG := big_t 374 (by decide +kernel) (by decide +kernel)
theorem t_375 : Cond.code ⟨"BandPainter$Pile", "newestOnLine", "(I)LBandPainter$Mark;"⟩ prog_6_method_9_code 5 (some (.object "BandPainter$Mark")) ∈ BIG := big_t 375 (by decide +kernel) (by decide +kernel)
theorem t_376 : Cond.methodLink "BandPainter$Pile" 109 ⟨"BandPainter$Box", "meetsLine", "(I)Z"⟩ ∈ BIG := big_t 376 (by decide +kernel) (by decide +kernel)
theorem t_377 : Cond.instanceMethod ⟨"BandPainter$Box", "meetsLine", "(I)Z"⟩ ∈ BIG := big_t 377 (by decide +kernel) (by decide +kernel)
theorem t_378 : Cond.selects "BandPainter$Box" ⟨"BandPainter$Box", "meetsLine", "(I)Z"⟩ ⟨"BandPainter$Box", "meetsLine", "(I)Z"⟩ ∈ BIG := big_t 378 (by decide +kernel) (by decide +kernel)
theorem t_379 : Cond.code ⟨"BandPainter$Box", "meetsLine", "(I)Z"⟩ prog_2_method_4_code 2 (some .boolean) ∈ BIG := big_t 379 (by decide +kernel) (by decide +kernel)
theorem t_380 : Cond.methodLink "BandPainter$Pile" 82 ⟨"BandPainter$Pile", "wordUnder", "(LBandPainter$Mark;II)J"⟩ ∈ BIG := big_t 380 (by decide +kernel) (by decide +kernel)
theorem t_381 : Cond.static ⟨"BandPainter$Pile", "wordUnder", "(LBandPainter$Mark;II)J"⟩ ∈ BIG := big_t 381 (by decide +kernel) (by decide +kernel)
theorem t_382 : Cond.code ⟨"BandPainter$Pile", "wordUnder", "(LBandPainter$Mark;II)J"⟩ prog_6_method_10_code 15 (some .long) ∈ BIG := big_t 382 (by decide +kernel) (by decide +kernel)
theorem t_383 : Cond.constantLong "BandPainter$Pile" 112 (-1) ∈ BIG := big_t 383 (by decide +kernel) (by decide +kernel)
theorem t_384 : Cond.methodLink "BandPainter$Pile" 114 ⟨"BandPainter$Box", "dotsOfWord", "(I)J"⟩ ∈ BIG := big_t 384 (by decide +kernel) (by decide +kernel)
theorem t_385 : Cond.instanceMethod ⟨"BandPainter$Box", "dotsOfWord", "(I)J"⟩ ∈ BIG := big_t 385 (by decide +kernel) (by decide +kernel)
theorem t_386 : Cond.selects "BandPainter$Box" ⟨"BandPainter$Box", "dotsOfWord", "(I)J"⟩ ⟨"BandPainter$Box", "dotsOfWord", "(I)J"⟩ ∈ BIG := big_t 386 (by decide +kernel) (by decide +kernel)
theorem t_387 : Cond.code ⟨"BandPainter$Box", "dotsOfWord", "(I)J"⟩ prog_2_method_5_code 3 (some .long) ∈ BIG := big_t 387 (by decide +kernel) (by decide +kernel)
theorem t_389 : Cond.constantLong "BandPainter$Box" 40 (-1) ∈ BIG := big_t 389 (by decide +kernel) (by decide +kernel)
theorem t_390 : Cond.methodLink "BandPainter$Pile" 124 ⟨"BandPainter$Picture", "dotsFrom", "(II)J"⟩ ∈ BIG := big_t 390 (by decide +kernel) (by decide +kernel)
theorem t_391 : Cond.instanceMethod ⟨"BandPainter$Picture", "dotsFrom", "(II)J"⟩ ∈ BIG := big_t 391 (by decide +kernel) (by decide +kernel)
theorem t_392 : Cond.selects "BandPainter$Picture" ⟨"BandPainter$Picture", "dotsFrom", "(II)J"⟩ ⟨"BandPainter$Picture", "dotsFrom", "(II)J"⟩ ∈ BIG := big_t 392 (by decide +kernel) (by decide +kernel)
theorem t_393 : Cond.code ⟨"BandPainter$Picture", "dotsFrom", "(II)J"⟩ prog_5_method_4_code 8 (some .long) ∈ BIG := big_t 393 (by decide +kernel) (by decide +kernel)
theorem t_394 : Cond.methodLink "BandPainter$Picture" 48 ⟨"java/lang/Math", "floorDiv", "(II)I"⟩ ∈ BIG := big_t 394 (by decide +kernel) (by decide +kernel)
theorem t_395 : Cond.static ⟨"java/lang/Math", "floorDiv", "(II)I"⟩ ∈ BIG := big_t 395 (by decide +kernel) (by decide +kernel)
theorem t_396 : Cond.code ⟨"java/lang/Math", "floorDiv", "(II)I"⟩ prog_15_method_47_code 3 (some .int) ∈ BIG := big_t 396 (by decide +kernel) (by decide +kernel)
theorem t_397 : Cond.methodLink "BandPainter$Picture" 51 ⟨"java/lang/Math", "floorMod", "(II)I"⟩ ∈ BIG := big_t 397 (by decide +kernel) (by decide +kernel)
theorem t_398 : Cond.static ⟨"java/lang/Math", "floorMod", "(II)I"⟩ ∈ BIG := big_t 398 (by decide +kernel) (by decide +kernel)
theorem t_399 : Cond.code ⟨"java/lang/Math", "floorMod", "(II)I"⟩ prog_15_method_50_code 3 (some .int) ∈ BIG := big_t 399 (by decide +kernel) (by decide +kernel)
theorem t_400 : Cond.methodLink "BandPainter$Pile" 134 ⟨"BandPainter$Ink", "dotsAt", "(I)J"⟩ ∈ BIG := big_t 400 (by decide +kernel) (by decide +kernel)
theorem t_401 : Cond.instanceMethod ⟨"BandPainter$Ink", "dotsAt", "(I)J"⟩ ∈ BIG := big_t 401 (by decide +kernel) (by decide +kernel)
theorem t_402 : Cond.selects "BandPainter$Ink" ⟨"BandPainter$Ink", "dotsAt", "(I)J"⟩ ⟨"BandPainter$Ink", "dotsAt", "(I)J"⟩ ∈ BIG := big_t 402 (by decide +kernel) (by decide +kernel)
theorem t_403 : Cond.code ⟨"BandPainter$Ink", "dotsAt", "(I)J"⟩ prog_3_method_3_code 2 (some .long) ∈ BIG := big_t 403 (by decide +kernel) (by decide +kernel)
theorem t_404 : Cond.methodLink "BandPainterLaw" 95 ⟨"BandPainter", "count", "(II)I"⟩ ∈ BIG := big_t 404 (by decide +kernel) (by decide +kernel)
theorem t_405 : Cond.instanceMethod ⟨"BandPainter", "count", "(II)I"⟩ ∈ BIG := big_t 405 (by decide +kernel) (by decide +kernel)
theorem t_406 : Cond.selects "BandPainter" ⟨"BandPainter", "count", "(II)I"⟩ ⟨"BandPainter", "count", "(II)I"⟩ ∈ BIG := big_t 406 (by decide +kernel) (by decide +kernel)
theorem t_407 : Cond.code ⟨"BandPainter", "count", "(II)I"⟩ prog_1_method_14_code 6 (some .int) ∈ BIG := big_t 407 (by decide +kernel) (by decide +kernel)
theorem t_408 : Cond.methodLink "BandPainter" 171 ⟨"BandPainter$Pile", "blacksOf", "(I)I"⟩ ∈ BIG := big_t 408 (by decide +kernel) (by decide +kernel)
theorem t_409 : Cond.instanceMethod ⟨"BandPainter$Pile", "blacksOf", "(I)I"⟩ ∈ BIG := big_t 409 (by decide +kernel) (by decide +kernel)
theorem t_410 : Cond.selects "BandPainter$Pile" ⟨"BandPainter$Pile", "blacksOf", "(I)I"⟩ ⟨"BandPainter$Pile", "blacksOf", "(I)I"⟩ ∈ BIG := big_t 410 (by decide +kernel) (by decide +kernel)
theorem t_411 : Cond.code ⟨"BandPainter$Pile", "blacksOf", "(I)I"⟩ prog_6_method_6_code 3 (some .int) ∈ BIG := big_t 411 (by decide +kernel) (by decide +kernel)
theorem t_412 : Cond.methodLink "BandPainter$Pile" 86 ⟨"BandPainter$Pile", "isLikeAbove", "(I)Z"⟩ ∈ BIG := big_t 412 (by decide +kernel) (by decide +kernel)
theorem t_414 : Cond.instanceMethod ⟨"BandPainter$Pile", "isLikeAbove", "(I)Z"⟩ ∈ BIG := big_t 414 (by decide +kernel) (by decide +kernel)
theorem t_415 : Cond.code ⟨"BandPainter$Pile", "isLikeAbove", "(I)Z"⟩ prog_6_method_7_code 3 (some .boolean) ∈ BIG := big_t 415 (by decide +kernel) (by decide +kernel)
theorem t_416 : Cond.methodLink "BandPainter$Pile" 90 ⟨"BandPainter$Pile", "countedBlacks", "(I)I"⟩ ∈ BIG := big_t 416 (by decide +kernel) (by decide +kernel)
theorem t_418 : Cond.instanceMethod ⟨"BandPainter$Pile", "countedBlacks", "(I)I"⟩ ∈ BIG := big_t 418 (by decide +kernel) (by decide +kernel)
theorem t_419 : Cond.code ⟨"BandPainter$Pile", "countedBlacks", "(I)I"⟩ prog_6_method_8_code 7 (some .int) ∈ BIG := big_t 419 (by decide +kernel) (by decide +kernel)
theorem t_420 : Cond.methodLink "BandPainter$Pile" 103 ⟨"java/lang/Long", "bitCount", "(J)I"⟩ ∈ BIG := big_t 420 (by decide +kernel) (by decide +kernel)
theorem t_421 : Cond.static ⟨"java/lang/Long", "bitCount", "(J)I"⟩ ∈ BIG := big_t 421 (by decide +kernel) (by decide +kernel)
theorem t_422 : Cond.code ⟨"java/lang/Long", "bitCount", "(J)I"⟩ prog_14_method_50_code 2 (some .int) ∈ BIG := big_t 422 (by decide +kernel) (by decide +kernel)
theorem t_423 : Cond.constantLong "java/lang/Long" 314 6148914691236517205 ∈ BIG := big_t 423 (by decide +kernel) (by decide +kernel)
theorem t_424 : Cond.constantLong "java/lang/Long" 316 3689348814741910323 ∈ BIG := big_t 424 (by decide +kernel) (by decide +kernel)
theorem t_425 : Cond.constantLong "java/lang/Long" 318 1085102592571150095 ∈ BIG := big_t 425 (by decide +kernel) (by decide +kernel)
theorem t_426 : Cond.methodLink "BandPainterLaw" 99 ⟨"BandPainter", "top", "(I)I"⟩ ∈ BIG := big_t 426 (by decide +kernel) (by decide +kernel)
theorem t_427 : Cond.instanceMethod ⟨"BandPainter", "top", "(I)I"⟩ ∈ BIG := big_t 427 (by decide +kernel) (by decide +kernel)
theorem t_428 : Cond.selects "BandPainter" ⟨"BandPainter", "top", "(I)I"⟩ ⟨"BandPainter", "top", "(I)I"⟩ ∈ BIG := big_t 428 (by decide +kernel) (by decide +kernel)
theorem t_429 : Cond.code ⟨"BandPainter", "top", "(I)I"⟩ prog_1_method_15_code 3 (some .int) ∈ BIG := big_t 429 (by decide +kernel) (by decide +kernel)
theorem t_430 : Cond.methodLink "BandPainterLaw" 104 ⟨"BandPainter", "of", "(II)I"⟩ ∈ BIG := big_t 430 (by decide +kernel) (by decide +kernel)
theorem t_431 : Cond.instanceMethod ⟨"BandPainter", "of", "(II)I"⟩ ∈ BIG := big_t 431 (by decide +kernel) (by decide +kernel)
theorem t_432 : Cond.selects "BandPainter" ⟨"BandPainter", "of", "(II)I"⟩ ⟨"BandPainter", "of", "(II)I"⟩ ∈ BIG := big_t 432 (by decide +kernel) (by decide +kernel)
theorem t_433 : Cond.code ⟨"BandPainter", "of", "(II)I"⟩ prog_1_method_16_code 4 (some .int) ∈ BIG := big_t 433 (by decide +kernel) (by decide +kernel)
theorem t_434 : Cond.methodLink "BandPainter" 175 ⟨"BandPainter$Picture", "blacks", "()I"⟩ ∈ BIG := big_t 434 (by decide +kernel) (by decide +kernel)
theorem t_435 : Cond.instanceMethod ⟨"BandPainter$Picture", "blacks", "()I"⟩ ∈ BIG := big_t 435 (by decide +kernel) (by decide +kernel)
theorem t_436 : Cond.selects "BandPainter$Picture" ⟨"BandPainter$Picture", "blacks", "()I"⟩ ⟨"BandPainter$Picture", "blacks", "()I"⟩ ∈ BIG := big_t 436 (by decide +kernel) (by decide +kernel)
theorem t_437 : Cond.code ⟨"BandPainter$Picture", "blacks", "()I"⟩ prog_5_method_3_code 3 (some .int) ∈ BIG := big_t 437 (by decide +kernel) (by decide +kernel)
theorem t_438 : Cond.methodLink "BandPainter$Picture" 42 ⟨"java/lang/Long", "bitCount", "(J)I"⟩ ∈ BIG := big_t 438 (by decide +kernel) (by decide +kernel)
theorem t_439 : Cond.methodLink "BandPainter" 179 ⟨"BandPainter", "oneIf", "(Z)I"⟩ ∈ BIG := big_t 439 (by decide +kernel) (by decide +kernel)
theorem t_440 : Cond.static ⟨"BandPainter", "oneIf", "(Z)I"⟩ ∈ BIG := big_t 440 (by decide +kernel) (by decide +kernel)
theorem t_441 : Cond.code ⟨"BandPainter", "oneIf", "(Z)I"⟩ prog_1_method_23_code 1 (some .int) ∈ BIG := big_t 441 (by decide +kernel) (by decide +kernel)
theorem t_442 : Cond.methodLink "BandPainterLaw" 108 ⟨"BandPainter", "look", "(I)I"⟩ ∈ BIG := big_t 442 (by decide +kernel) (by decide +kernel)
theorem t_443 : Cond.instanceMethod ⟨"BandPainter", "look", "(I)I"⟩ ∈ BIG := big_t 443 (by decide +kernel) (by decide +kernel)
theorem t_444 : Cond.selects "BandPainter" ⟨"BandPainter", "look", "(I)I"⟩ ⟨"BandPainter", "look", "(I)I"⟩ ∈ BIG := big_t 444 (by decide +kernel) (by decide +kernel)
theorem t_445 : Cond.code ⟨"BandPainter", "look", "(I)I"⟩ prog_1_method_17_code 2 (some .int) ∈ BIG := big_t 445 (by decide +kernel) (by decide +kernel)
theorem t_446 : Cond.methodLink "BandPainterLaw" 23 ⟨"BandPainterLaw", "cell", "([II)I"⟩ ∈ BIG := big_t 446 (by decide +kernel) (by decide +kernel)
theorem t_447 : Cond.static ⟨"BandPainterLaw", "cell", "([II)I"⟩ ∈ BIG := big_t 447 (by decide +kernel) (by decide +kernel)
theorem t_448 : Cond.code ⟨"BandPainterLaw", "cell", "([II)I"⟩ method_2_code 2 (some .int) ∈ BIG := big_t 448 (by decide +kernel) (by decide +kernel)
theorem t_449 : Cond.methodLink "BandPainterLaw" 35 ⟨"BandPainterLaw", "shape", "(LBandPainter;II[J)I"⟩ ∈ BIG := big_t 449 (by decide +kernel) (by decide +kernel)
theorem t_450 : Cond.static ⟨"BandPainterLaw", "shape", "(LBandPainter;II[J)I"⟩ ∈ BIG := big_t 450 (by decide +kernel) (by decide +kernel)
theorem t_452 : Cond.classLink "BandPainterLaw" 13 "java/lang/IllegalArgumentException" ∈ BIG := big_t 452 (by decide +kernel) (by decide +kernel)
theorem t_453 : Cond.classLink "BandPainterLaw" 15 "java/lang/IllegalStateException" ∈ BIG := big_t 453 (by decide +kernel) (by decide +kernel)
theorem t_454 : Cond.methodLink "BandPainterLaw" 7 ⟨"BandPainter", "shape", "(II)I"⟩ ∈ BIG := big_t 454 (by decide +kernel) (by decide +kernel)
theorem t_455 : Cond.instanceMethod ⟨"BandPainter", "shape", "(II)I"⟩ ∈ BIG := big_t 455 (by decide +kernel) (by decide +kernel)
theorem t_456 : Cond.selects "BandPainter" ⟨"BandPainter", "shape", "(II)I"⟩ ⟨"BandPainter", "shape", "(II)I"⟩ ∈ BIG := big_t 456 (by decide +kernel) (by decide +kernel)
theorem t_457 : Cond.code ⟨"BandPainter", "shape", "(II)I"⟩ prog_1_method_2_code 4 (some .int) ∈ BIG := big_t 457 (by decide +kernel) (by decide +kernel)
theorem t_458 : Cond.classLink "BandPainter" 63 "java/lang/IllegalArgumentException" ∈ BIG := big_t 458 (by decide +kernel) (by decide +kernel)
theorem t_525 : Cond.arrayClass .byte ∈ BIG := big_t 525 (by decide +kernel) (by decide +kernel)
theorem t_526 : Cond.classLink "BandPainter" 76 "java/lang/IllegalStateException" ∈ BIG := big_t 526 (by decide +kernel) (by decide +kernel)
theorem t_542 : Cond.instantiable "BandPainter$Shape" 3 ∈ BIG := big_t 542 (by decide +kernel) (by decide +kernel)
theorem t_543 : Cond.methodLink "BandPainter" 81 ⟨"BandPainter$Shape", "<init>", "(II)V"⟩ ∈ BIG := big_t 543 (by decide +kernel) (by decide +kernel)
theorem t_544 : Cond.instanceMethod ⟨"BandPainter$Shape", "<init>", "(II)V"⟩ ∈ BIG := big_t 544 (by decide +kernel) (by decide +kernel)
theorem t_545 : Cond.code ⟨"BandPainter$Shape", "<init>", "(II)V"⟩ prog_7_method_1_code 3 none ∈ BIG := big_t 545 (by decide +kernel) (by decide +kernel)
theorem t_546 : Cond.methodLink "BandPainter$Shape" 3 ⟨"java/lang/Object", "<init>", "()V"⟩ ∈ BIG := big_t 546 (by decide +kernel) (by decide +kernel)
theorem t_547 : Cond.classLink "BandPainter$Shape" 9 "BandPainter$Picture" ∈ BIG := big_t 547 (by decide +kernel) (by decide +kernel)
theorem t_548 : Cond.methodLink "BandPainter$Shape" 11 ⟨"BandPainter$Picture", "<init>", "(III)V"⟩ ∈ BIG := big_t 548 (by decide +kernel) (by decide +kernel)
theorem t_550 : Cond.fieldLink "BandPainter$Shape" 14 "BandPainter$Shape" "upright" "LBandPainter$Picture;" ∈ BIG := big_t 550 (by decide +kernel) (by decide +kernel)
theorem t_551 : Cond.fieldLink "BandPainter" 90 "BandPainter$Shape" "upright" "LBandPainter$Picture;" ∈ BIG := big_t 551 (by decide +kernel) (by decide +kernel)
theorem t_552 : Cond.fieldLink "BandPainter$Shape" 20 "BandPainter$Shape" "turned" "[LBandPainter$Picture;" ∈ BIG := big_t 552 (by decide +kernel) (by decide +kernel)
theorem t_553 : Cond.fieldLink "BandPainter" 86 "BandPainter$Shape" "stamped" "Z" ∈ BIG := big_t 553 (by decide +kernel) (by decide +kernel)
theorem t_554 : Cond.laysFinal "BandPainter$Shape" "BandPainter$Shape" "upright" "LBandPainter$Picture;" ∈ BIG := big_t 554 (by decide +kernel) (by decide +kernel)
theorem t_556 : Cond.laysFinal "BandPainter$Shape" "BandPainter$Shape" "turned" "[LBandPainter$Picture;" ∈ BIG := big_t 556 (by decide +kernel) (by decide +kernel)
theorem t_558 : Cond.lays "BandPainter$Shape" "BandPainter$Shape" "stamped" "Z" ∈ BIG := big_t 558 (by decide +kernel) (by decide +kernel)
theorem t_561 : Cond.methodLink "BandPainterLaw" 92 ⟨"BandPainterLaw", "black", "(LBandPainter;II[J)I"⟩ ∈ BIG := big_t 561 (by decide +kernel) (by decide +kernel)
theorem t_562 : Cond.static ⟨"BandPainterLaw", "black", "(LBandPainter;II[J)I"⟩ ∈ BIG := big_t 562 (by decide +kernel) (by decide +kernel)
theorem t_564 : Cond.classLink "BandPainterLaw" 21 "java/lang/IndexOutOfBoundsException" ∈ BIG := big_t 564 (by decide +kernel) (by decide +kernel)
theorem t_565 : Cond.methodLink "BandPainterLaw" 17 ⟨"BandPainter", "black", "(II)Z"⟩ ∈ BIG := big_t 565 (by decide +kernel) (by decide +kernel)
theorem t_566 : Cond.instanceMethod ⟨"BandPainter", "black", "(II)Z"⟩ ∈ BIG := big_t 566 (by decide +kernel) (by decide +kernel)
theorem t_567 : Cond.selects "BandPainter" ⟨"BandPainter", "black", "(II)Z"⟩ ⟨"BandPainter", "black", "(II)Z"⟩ ∈ BIG := big_t 567 (by decide +kernel) (by decide +kernel)
theorem t_568 : Cond.code ⟨"BandPainter", "black", "(II)Z"⟩ prog_1_method_13_code 3 (some .boolean) ∈ BIG := big_t 568 (by decide +kernel) (by decide +kernel)
theorem t_569 : Cond.classLink "BandPainter" 155 "java/lang/IndexOutOfBoundsException" ∈ BIG := big_t 569 (by decide +kernel) (by decide +kernel)
theorem t_585 : Cond.constantLong "BandPainter" 160 (-9223372036854775808) ∈ BIG := big_t 585 (by decide +kernel) (by decide +kernel)
theorem t_586 : Cond.classLink "BandPainterLaw" 32 "BandPainterModel" ∈ BIG := big_t 586 (by decide +kernel) (by decide +kernel)
theorem t_587 : Cond.instantiable "BandPainterModel" 23 ∈ BIG := big_t 587 (by decide +kernel) (by decide +kernel)
theorem t_588 : Cond.methodLink "BandPainterLaw" 34 ⟨"BandPainterModel", "<init>", "(III)V"⟩ ∈ BIG := big_t 588 (by decide +kernel) (by decide +kernel)
theorem t_589 : Cond.instanceMethod ⟨"BandPainterModel", "<init>", "(III)V"⟩ ∈ BIG := big_t 589 (by decide +kernel) (by decide +kernel)
theorem t_590 : Cond.code ⟨"BandPainterModel", "<init>", "(III)V"⟩ prog_9_method_1_code 4 none ∈ BIG := big_t 590 (by decide +kernel) (by decide +kernel)
theorem t_591 : Cond.methodLink "BandPainterModel" 1 ⟨"java/lang/Object", "<init>", "()V"⟩ ∈ BIG := big_t 591 (by decide +kernel) (by decide +kernel)
theorem t_592 : Cond.fieldLink "BandPainterModel" 46 "BandPainterModel" "thrown" "I" ∈ BIG := big_t 592 (by decide +kernel) (by decide +kernel)
theorem t_593 : Cond.fieldLink "BandPainterModel" 27 "BandPainterModel" "wide" "I" ∈ BIG := big_t 593 (by decide +kernel) (by decide +kernel)
theorem t_594 : Cond.fieldLink "BandPainterModel" 31 "BandPainterModel" "high" "I" ∈ BIG := big_t 594 (by decide +kernel) (by decide +kernel)
theorem t_595 : Cond.fieldLink "BandPainterModel" 34 "BandPainterModel" "band" "I" ∈ BIG := big_t 595 (by decide +kernel) (by decide +kernel)
theorem t_596 : Cond.fieldLink "BandPainterModel" 37 "BandPainterModel" "sheet" "[J" ∈ BIG := big_t 596 (by decide +kernel) (by decide +kernel)
theorem t_597 : Cond.fieldLink "BandPainterModel" 95 "BandPainterModel" "shapes" "I" ∈ BIG := big_t 597 (by decide +kernel) (by decide +kernel)
theorem t_598 : Cond.fieldLink "BandPainterModel" 7 "BandPainterModel" "across" "[I" ∈ BIG := big_t 598 (by decide +kernel) (by decide +kernel)
theorem t_599 : Cond.fieldLink "BandPainterModel" 13 "BandPainterModel" "down" "[I" ∈ BIG := big_t 599 (by decide +kernel) (by decide +kernel)
theorem t_600 : Cond.fieldLink "BandPainterModel" 16 "BandPainterModel" "firstRow" "[I" ∈ BIG := big_t 600 (by decide +kernel) (by decide +kernel)
theorem t_601 : Cond.fieldLink "BandPainterModel" 19 "BandPainterModel" "stamped" "[Z" ∈ BIG := big_t 601 (by decide +kernel) (by decide +kernel)
theorem t_602 : Cond.fieldLink "BandPainterModel" 98 "BandPainterModel" "rows" "I" ∈ BIG := big_t 602 (by decide +kernel) (by decide +kernel)
theorem t_603 : Cond.fieldLink "BandPainterModel" 23 "BandPainterModel" "dots" "[J" ∈ BIG := big_t 603 (by decide +kernel) (by decide +kernel)
theorem t_604 : Cond.fieldLink "BandPainterModel" 112 "BandPainterModel" "marks" "I" ∈ BIG := big_t 604 (by decide +kernel) (by decide +kernel)
theorem t_605 : Cond.fieldLink "BandPainterModel" 128 "BandPainterModel" "bytes" "I" ∈ BIG := big_t 605 (by decide +kernel) (by decide +kernel)
theorem t_606 : Cond.fieldLink "BandPainterModel" 51 "BandPainterModel" "inkKind" "I" ∈ BIG := big_t 606 (by decide +kernel) (by decide +kernel)
theorem t_607 : Cond.fieldLink "BandPainterModel" 58 "BandPainterModel" "inkValue" "I" ∈ BIG := big_t 607 (by decide +kernel) (by decide +kernel)
theorem t_608 : Cond.fieldLink "BandPainterModel" 75 "BandPainterModel" "sourceOpaque" "Z" ∈ BIG := big_t 608 (by decide +kernel) (by decide +kernel)
theorem t_609 : Cond.fieldLink "BandPainterModel" 86 "BandPainterModel" "inkOpaque" "Z" ∈ BIG := big_t 609 (by decide +kernel) (by decide +kernel)
theorem t_610 : Cond.fieldLink "BandPainterModel" 89 "BandPainterModel" "turn" "I" ∈ BIG := big_t 610 (by decide +kernel) (by decide +kernel)
theorem t_611 : Cond.fieldLink "BandPainterModel" 69 "BandPainterModel" "clipLeft" "I" ∈ BIG := big_t 611 (by decide +kernel) (by decide +kernel)
theorem t_612 : Cond.fieldLink "BandPainterModel" 72 "BandPainterModel" "clipTop" "I" ∈ BIG := big_t 612 (by decide +kernel) (by decide +kernel)
theorem t_613 : Cond.fieldLink "BandPainterModel" 40 "BandPainterModel" "clipRight" "I" ∈ BIG := big_t 613 (by decide +kernel) (by decide +kernel)
theorem t_614 : Cond.fieldLink "BandPainterModel" 43 "BandPainterModel" "clipBottom" "I" ∈ BIG := big_t 614 (by decide +kernel) (by decide +kernel)
theorem t_615 : Cond.lays "BandPainterModel" "BandPainterModel" "thrown" "I" ∈ BIG := big_t 615 (by decide +kernel) (by decide +kernel)
theorem t_617 : Cond.laysFinal "BandPainterModel" "BandPainterModel" "wide" "I" ∈ BIG := big_t 617 (by decide +kernel) (by decide +kernel)
theorem t_619 : Cond.laysFinal "BandPainterModel" "BandPainterModel" "high" "I" ∈ BIG := big_t 619 (by decide +kernel) (by decide +kernel)
theorem t_621 : Cond.laysFinal "BandPainterModel" "BandPainterModel" "band" "I" ∈ BIG := big_t 621 (by decide +kernel) (by decide +kernel)
theorem t_623 : Cond.laysFinal "BandPainterModel" "BandPainterModel" "sheet" "[J" ∈ BIG := big_t 623 (by decide +kernel) (by decide +kernel)
theorem t_625 : Cond.lays "BandPainterModel" "BandPainterModel" "shapes" "I" ∈ BIG := big_t 625 (by decide +kernel) (by decide +kernel)
theorem t_627 : Cond.laysFinal "BandPainterModel" "BandPainterModel" "across" "[I" ∈ BIG := big_t 627 (by decide +kernel) (by decide +kernel)
theorem t_629 : Cond.laysFinal "BandPainterModel" "BandPainterModel" "down" "[I" ∈ BIG := big_t 629 (by decide +kernel) (by decide +kernel)
theorem t_631 : Cond.laysFinal "BandPainterModel" "BandPainterModel" "firstRow" "[I" ∈ BIG := big_t 631 (by decide +kernel) (by decide +kernel)
theorem t_633 : Cond.laysFinal "BandPainterModel" "BandPainterModel" "stamped" "[Z" ∈ BIG := big_t 633 (by decide +kernel) (by decide +kernel)
theorem t_635 : Cond.lays "BandPainterModel" "BandPainterModel" "rows" "I" ∈ BIG := big_t 635 (by decide +kernel) (by decide +kernel)
theorem t_637 : Cond.laysFinal "BandPainterModel" "BandPainterModel" "dots" "[J" ∈ BIG := big_t 637 (by decide +kernel) (by decide +kernel)
theorem t_639 : Cond.lays "BandPainterModel" "BandPainterModel" "marks" "I" ∈ BIG := big_t 639 (by decide +kernel) (by decide +kernel)
theorem t_641 : Cond.lays "BandPainterModel" "BandPainterModel" "bytes" "I" ∈ BIG := big_t 641 (by decide +kernel) (by decide +kernel)
theorem t_643 : Cond.lays "BandPainterModel" "BandPainterModel" "inkKind" "I" ∈ BIG := big_t 643 (by decide +kernel) (by decide +kernel)
theorem t_645 : Cond.lays "BandPainterModel" "BandPainterModel" "inkValue" "I" ∈ BIG := big_t 645 (by decide +kernel) (by decide +kernel)
theorem t_647 : Cond.lays "BandPainterModel" "BandPainterModel" "sourceOpaque" "Z" ∈ BIG := big_t 647 (by decide +kernel) (by decide +kernel)
theorem t_649 : Cond.lays "BandPainterModel" "BandPainterModel" "inkOpaque" "Z" ∈ BIG := big_t 649 (by decide +kernel) (by decide +kernel)
theorem t_651 : Cond.lays "BandPainterModel" "BandPainterModel" "turn" "I" ∈ BIG := big_t 651 (by decide +kernel) (by decide +kernel)
theorem t_653 : Cond.lays "BandPainterModel" "BandPainterModel" "clipLeft" "I" ∈ BIG := big_t 653 (by decide +kernel) (by decide +kernel)
theorem t_655 : Cond.lays "BandPainterModel" "BandPainterModel" "clipTop" "I" ∈ BIG := big_t 655 (by decide +kernel) (by decide +kernel)
theorem t_657 : Cond.lays "BandPainterModel" "BandPainterModel" "clipRight" "I" ∈ BIG := big_t 657 (by decide +kernel) (by decide +kernel)
theorem t_659 : Cond.lays "BandPainterModel" "BandPainterModel" "clipBottom" "I" ∈ BIG := big_t 659 (by decide +kernel) (by decide +kernel)
theorem t_662 : Cond.methodLink "BandPainterLaw" 39 ⟨"BandPainterModel", "thrown", "()I"⟩ ∈ BIG := big_t 662 (by decide +kernel) (by decide +kernel)
theorem t_663 : Cond.instanceMethod ⟨"BandPainterModel", "thrown", "()I"⟩ ∈ BIG := big_t 663 (by decide +kernel) (by decide +kernel)
theorem t_664 : Cond.selects "BandPainterModel" ⟨"BandPainterModel", "thrown", "()I"⟩ ⟨"BandPainterModel", "thrown", "()I"⟩ ∈ BIG := big_t 664 (by decide +kernel) (by decide +kernel)
theorem t_665 : Cond.code ⟨"BandPainterModel", "thrown", "()I"⟩ prog_9_method_2_code 1 (some .int) ∈ BIG := big_t 665 (by decide +kernel) (by decide +kernel)
theorem t_666 : Cond.methodLink "BandPainterLaw" 38 ⟨"BandPainterModel", "shape", "(II)I"⟩ ∈ BIG := big_t 666 (by decide +kernel) (by decide +kernel)
theorem t_667 : Cond.instanceMethod ⟨"BandPainterModel", "shape", "(II)I"⟩ ∈ BIG := big_t 667 (by decide +kernel) (by decide +kernel)
theorem t_668 : Cond.selects "BandPainterModel" ⟨"BandPainterModel", "shape", "(II)I"⟩ ⟨"BandPainterModel", "shape", "(II)I"⟩ ∈ BIG := big_t 668 (by decide +kernel) (by decide +kernel)
theorem t_669 : Cond.code ⟨"BandPainterModel", "shape", "(II)I"⟩ prog_9_method_11_code 4 (some .int) ∈ BIG := big_t 669 (by decide +kernel) (by decide +kernel)
theorem t_670 : Cond.methodLink "BandPainterLaw" 49 ⟨"BandPainterModel", "draw", "(IIJJ)Z"⟩ ∈ BIG := big_t 670 (by decide +kernel) (by decide +kernel)
theorem t_671 : Cond.instanceMethod ⟨"BandPainterModel", "draw", "(IIJJ)Z"⟩ ∈ BIG := big_t 671 (by decide +kernel) (by decide +kernel)
theorem t_672 : Cond.selects "BandPainterModel" ⟨"BandPainterModel", "draw", "(IIJJ)Z"⟩ ⟨"BandPainterModel", "draw", "(IIJJ)Z"⟩ ∈ BIG := big_t 672 (by decide +kernel) (by decide +kernel)
theorem t_673 : Cond.code ⟨"BandPainterModel", "draw", "(IIJJ)Z"⟩ prog_9_method_14_code 8 (some .boolean) ∈ BIG := big_t 673 (by decide +kernel) (by decide +kernel)
theorem t_674 : Cond.methodLink "BandPainterModel" 101 ⟨"BandPainterModel", "isShape", "(I)Z"⟩ ∈ BIG := big_t 674 (by decide +kernel) (by decide +kernel)
theorem t_676 : Cond.instanceMethod ⟨"BandPainterModel", "isShape", "(I)Z"⟩ ∈ BIG := big_t 676 (by decide +kernel) (by decide +kernel)
theorem t_677 : Cond.code ⟨"BandPainterModel", "isShape", "(I)Z"⟩ prog_9_method_12_code 2 (some .boolean) ∈ BIG := big_t 677 (by decide +kernel) (by decide +kernel)
theorem t_678 : Cond.methodLink "BandPainterModel" 105 ⟨"BandPainterModel", "highest", "(JI)J"⟩ ∈ BIG := big_t 678 (by decide +kernel) (by decide +kernel)
theorem t_679 : Cond.static ⟨"BandPainterModel", "highest", "(JI)J"⟩ ∈ BIG := big_t 679 (by decide +kernel) (by decide +kernel)
theorem t_680 : Cond.code ⟨"BandPainterModel", "highest", "(JI)J"⟩ prog_9_method_13_code 3 (some .long) ∈ BIG := big_t 680 (by decide +kernel) (by decide +kernel)
theorem t_681 : Cond.constantLong "BandPainterModel" 49 (-1) ∈ BIG := big_t 681 (by decide +kernel) (by decide +kernel)
theorem t_682 : Cond.methodLink "BandPainterLaw" 53 ⟨"BandPainterModel", "ink", "(II)Z"⟩ ∈ BIG := big_t 682 (by decide +kernel) (by decide +kernel)
theorem t_683 : Cond.instanceMethod ⟨"BandPainterModel", "ink", "(II)Z"⟩ ∈ BIG := big_t 683 (by decide +kernel) (by decide +kernel)
theorem t_684 : Cond.selects "BandPainterModel" ⟨"BandPainterModel", "ink", "(II)Z"⟩ ⟨"BandPainterModel", "ink", "(II)Z"⟩ ∈ BIG := big_t 684 (by decide +kernel) (by decide +kernel)
theorem t_685 : Cond.code ⟨"BandPainterModel", "ink", "(II)Z"⟩ prog_9_method_16_code 4 (some .boolean) ∈ BIG := big_t 685 (by decide +kernel) (by decide +kernel)
theorem t_686 : Cond.methodLink "BandPainterLaw" 58 ⟨"BandPainterModel", "mode", "(ZZ)V"⟩ ∈ BIG := big_t 686 (by decide +kernel) (by decide +kernel)
theorem t_687 : Cond.instanceMethod ⟨"BandPainterModel", "mode", "(ZZ)V"⟩ ∈ BIG := big_t 687 (by decide +kernel) (by decide +kernel)
theorem t_688 : Cond.selects "BandPainterModel" ⟨"BandPainterModel", "mode", "(ZZ)V"⟩ ⟨"BandPainterModel", "mode", "(ZZ)V"⟩ ∈ BIG := big_t 688 (by decide +kernel) (by decide +kernel)
theorem t_689 : Cond.code ⟨"BandPainterModel", "mode", "(ZZ)V"⟩ prog_9_method_17_code 3 none ∈ BIG := big_t 689 (by decide +kernel) (by decide +kernel)
theorem t_690 : Cond.methodLink "BandPainterLaw" 63 ⟨"BandPainterModel", "turn", "(I)Z"⟩ ∈ BIG := big_t 690 (by decide +kernel) (by decide +kernel)
theorem t_691 : Cond.instanceMethod ⟨"BandPainterModel", "turn", "(I)Z"⟩ ∈ BIG := big_t 691 (by decide +kernel) (by decide +kernel)
theorem t_692 : Cond.selects "BandPainterModel" ⟨"BandPainterModel", "turn", "(I)Z"⟩ ⟨"BandPainterModel", "turn", "(I)Z"⟩ ∈ BIG := big_t 692 (by decide +kernel) (by decide +kernel)
theorem t_693 : Cond.code ⟨"BandPainterModel", "turn", "(I)Z"⟩ prog_9_method_18_code 2 (some .boolean) ∈ BIG := big_t 693 (by decide +kernel) (by decide +kernel)
theorem t_694 : Cond.methodLink "BandPainterLaw" 68 ⟨"BandPainterModel", "clip", "(IIII)Z"⟩ ∈ BIG := big_t 694 (by decide +kernel) (by decide +kernel)
theorem t_695 : Cond.instanceMethod ⟨"BandPainterModel", "clip", "(IIII)Z"⟩ ∈ BIG := big_t 695 (by decide +kernel) (by decide +kernel)
theorem t_696 : Cond.selects "BandPainterModel" ⟨"BandPainterModel", "clip", "(IIII)Z"⟩ ⟨"BandPainterModel", "clip", "(IIII)Z"⟩ ∈ BIG := big_t 696 (by decide +kernel) (by decide +kernel)
theorem t_697 : Cond.code ⟨"BandPainterModel", "clip", "(IIII)Z"⟩ prog_9_method_19_code 5 (some .boolean) ∈ BIG := big_t 697 (by decide +kernel) (by decide +kernel)
theorem t_698 : Cond.methodLink "BandPainterLaw" 73 ⟨"BandPainterModel", "stamp", "(III)Z"⟩ ∈ BIG := big_t 698 (by decide +kernel) (by decide +kernel)
theorem t_699 : Cond.instanceMethod ⟨"BandPainterModel", "stamp", "(III)Z"⟩ ∈ BIG := big_t 699 (by decide +kernel) (by decide +kernel)
theorem t_700 : Cond.selects "BandPainterModel" ⟨"BandPainterModel", "stamp", "(III)Z"⟩ ⟨"BandPainterModel", "stamp", "(III)Z"⟩ ∈ BIG := big_t 700 (by decide +kernel) (by decide +kernel)
theorem t_701 : Cond.code ⟨"BandPainterModel", "stamp", "(III)Z"⟩ prog_9_method_21_code 6 (some .boolean) ∈ BIG := big_t 701 (by decide +kernel) (by decide +kernel)
theorem t_702 : Cond.methodLink "BandPainterModel" 109 ⟨"BandPainterModel", "isPlace", "(I)Z"⟩ ∈ BIG := big_t 702 (by decide +kernel) (by decide +kernel)
theorem t_703 : Cond.static ⟨"BandPainterModel", "isPlace", "(I)Z"⟩ ∈ BIG := big_t 703 (by decide +kernel) (by decide +kernel)
theorem t_704 : Cond.code ⟨"BandPainterModel", "isPlace", "(I)Z"⟩ prog_9_method_20_code 1 (some .boolean) ∈ BIG := big_t 704 (by decide +kernel) (by decide +kernel)
theorem t_705 : Cond.methodLink "BandPainterModel" 115 ⟨"BandPainterModel", "shapeDot", "(III)Z"⟩ ∈ BIG := big_t 705 (by decide +kernel) (by decide +kernel)
theorem t_707 : Cond.instanceMethod ⟨"BandPainterModel", "shapeDot", "(III)Z"⟩ ∈ BIG := big_t 707 (by decide +kernel) (by decide +kernel)
theorem t_708 : Cond.code ⟨"BandPainterModel", "shapeDot", "(III)Z"⟩ prog_9_method_15_code 4 (some .boolean) ∈ BIG := big_t 708 (by decide +kernel) (by decide +kernel)
theorem t_709 : Cond.methodLink "BandPainterModel" 118 ⟨"BandPainterModel", "lay", "(IIIIZ)V"⟩ ∈ BIG := big_t 709 (by decide +kernel) (by decide +kernel)
theorem t_711 : Cond.instanceMethod ⟨"BandPainterModel", "lay", "(IIIIZ)V"⟩ ∈ BIG := big_t 711 (by decide +kernel) (by decide +kernel)
theorem t_712 : Cond.code ⟨"BandPainterModel", "lay", "(IIIIZ)V"⟩ prog_9_method_10_code 8 none ∈ BIG := big_t 712 (by decide +kernel) (by decide +kernel)
theorem t_713 : Cond.methodLink "BandPainterModel" 92 ⟨"BandPainterModel", "paint", "(IIZ)V"⟩ ∈ BIG := big_t 713 (by decide +kernel) (by decide +kernel)
theorem t_715 : Cond.instanceMethod ⟨"BandPainterModel", "paint", "(IIZ)V"⟩ ∈ BIG := big_t 715 (by decide +kernel) (by decide +kernel)
theorem t_716 : Cond.code ⟨"BandPainterModel", "paint", "(IIZ)V"⟩ prog_9_method_9_code 4 none ∈ BIG := big_t 716 (by decide +kernel) (by decide +kernel)
theorem t_717 : Cond.methodLink "BandPainterModel" 65 ⟨"BandPainterModel", "isIn", "(II)Z"⟩ ∈ BIG := big_t 717 (by decide +kernel) (by decide +kernel)
theorem t_719 : Cond.instanceMethod ⟨"BandPainterModel", "isIn", "(II)Z"⟩ ∈ BIG := big_t 719 (by decide +kernel) (by decide +kernel)
theorem t_720 : Cond.code ⟨"BandPainterModel", "isIn", "(II)Z"⟩ prog_9_method_3_code 3 (some .boolean) ∈ BIG := big_t 720 (by decide +kernel) (by decide +kernel)
theorem t_721 : Cond.methodLink "BandPainterModel" 79 ⟨"BandPainterModel", "set", "(IIZ)V"⟩ ∈ BIG := big_t 721 (by decide +kernel) (by decide +kernel)
theorem t_723 : Cond.instanceMethod ⟨"BandPainterModel", "set", "(IIZ)V"⟩ ∈ BIG := big_t 723 (by decide +kernel) (by decide +kernel)
theorem t_724 : Cond.code ⟨"BandPainterModel", "set", "(IIZ)V"⟩ prog_9_method_5_code 7 none ∈ BIG := big_t 724 (by decide +kernel) (by decide +kernel)
theorem t_725 : Cond.methodLink "BandPainterModel" 83 ⟨"BandPainterModel", "isInk", "(II)Z"⟩ ∈ BIG := big_t 725 (by decide +kernel) (by decide +kernel)
theorem t_727 : Cond.instanceMethod ⟨"BandPainterModel", "isInk", "(II)Z"⟩ ∈ BIG := big_t 727 (by decide +kernel) (by decide +kernel)
theorem t_728 : Cond.code ⟨"BandPainterModel", "isInk", "(II)Z"⟩ prog_9_method_8_code 3 (some .boolean) ∈ BIG := big_t 728 (by decide +kernel) (by decide +kernel)
theorem t_729 : Cond.methodLink "BandPainterModel" 54 ⟨"BandPainterModel", "threshold", "(II)I"⟩ ∈ BIG := big_t 729 (by decide +kernel) (by decide +kernel)
theorem t_730 : Cond.static ⟨"BandPainterModel", "threshold", "(II)I"⟩ ∈ BIG := big_t 730 (by decide +kernel) (by decide +kernel)
theorem t_731 : Cond.code ⟨"BandPainterModel", "threshold", "(II)I"⟩ prog_9_method_6_code 6 (some .int) ∈ BIG := big_t 731 (by decide +kernel) (by decide +kernel)
theorem t_732 : Cond.methodLink "BandPainterModel" 61 ⟨"BandPainterModel", "hatch", "(III)Z"⟩ ∈ BIG := big_t 732 (by decide +kernel) (by decide +kernel)
theorem t_733 : Cond.static ⟨"BandPainterModel", "hatch", "(III)Z"⟩ ∈ BIG := big_t 733 (by decide +kernel) (by decide +kernel)
theorem t_734 : Cond.code ⟨"BandPainterModel", "hatch", "(III)Z"⟩ prog_9_method_7_code 9 (some .boolean) ∈ BIG := big_t 734 (by decide +kernel) (by decide +kernel)
theorem t_735 : Cond.methodLink "BandPainterLaw" 77 ⟨"BandPainterModel", "rule", "(IIII)Z"⟩ ∈ BIG := big_t 735 (by decide +kernel) (by decide +kernel)
theorem t_736 : Cond.instanceMethod ⟨"BandPainterModel", "rule", "(IIII)Z"⟩ ∈ BIG := big_t 736 (by decide +kernel) (by decide +kernel)
theorem t_737 : Cond.selects "BandPainterModel" ⟨"BandPainterModel", "rule", "(IIII)Z"⟩ ⟨"BandPainterModel", "rule", "(IIII)Z"⟩ ∈ BIG := big_t 737 (by decide +kernel) (by decide +kernel)
theorem t_738 : Cond.code ⟨"BandPainterModel", "rule", "(IIII)Z"⟩ prog_9_method_24_code 11 (some .boolean) ∈ BIG := big_t 738 (by decide +kernel) (by decide +kernel)
theorem t_739 : Cond.methodLink "BandPainterModel" 122 ⟨"BandPainterModel", "most", "(II)I"⟩ ∈ BIG := big_t 739 (by decide +kernel) (by decide +kernel)
theorem t_740 : Cond.static ⟨"BandPainterModel", "most", "(II)I"⟩ ∈ BIG := big_t 740 (by decide +kernel) (by decide +kernel)
theorem t_741 : Cond.code ⟨"BandPainterModel", "most", "(II)I"⟩ prog_9_method_22_code 2 (some .int) ∈ BIG := big_t 741 (by decide +kernel) (by decide +kernel)
theorem t_742 : Cond.methodLink "BandPainterModel" 125 ⟨"BandPainterModel", "least", "(II)I"⟩ ∈ BIG := big_t 742 (by decide +kernel) (by decide +kernel)
theorem t_743 : Cond.static ⟨"BandPainterModel", "least", "(II)I"⟩ ∈ BIG := big_t 743 (by decide +kernel) (by decide +kernel)
theorem t_744 : Cond.code ⟨"BandPainterModel", "least", "(II)I"⟩ prog_9_method_23_code 2 (some .int) ∈ BIG := big_t 744 (by decide +kernel) (by decide +kernel)
theorem t_745 : Cond.methodLink "BandPainterLaw" 82 ⟨"BandPainterModel", "row", "(IIIIJ)Z"⟩ ∈ BIG := big_t 745 (by decide +kernel) (by decide +kernel)
theorem t_746 : Cond.instanceMethod ⟨"BandPainterModel", "row", "(IIIIJ)Z"⟩ ∈ BIG := big_t 746 (by decide +kernel) (by decide +kernel)
theorem t_747 : Cond.selects "BandPainterModel" ⟨"BandPainterModel", "row", "(IIIIJ)Z"⟩ ⟨"BandPainterModel", "row", "(IIIIJ)Z"⟩ ∈ BIG := big_t 747 (by decide +kernel) (by decide +kernel)
theorem t_748 : Cond.code ⟨"BandPainterModel", "row", "(IIIIJ)Z"⟩ prog_9_method_25_code 12 (some .boolean) ∈ BIG := big_t 748 (by decide +kernel) (by decide +kernel)
theorem t_749 : Cond.constant "BandPainterModel" 131 65536 ∈ BIG := big_t 749 (by decide +kernel) (by decide +kernel)
theorem t_750 : Cond.methodLink "BandPainterLaw" 86 ⟨"BandPainterModel", "eject", "()V"⟩ ∈ BIG := big_t 750 (by decide +kernel) (by decide +kernel)
theorem t_751 : Cond.instanceMethod ⟨"BandPainterModel", "eject", "()V"⟩ ∈ BIG := big_t 751 (by decide +kernel) (by decide +kernel)
theorem t_752 : Cond.selects "BandPainterModel" ⟨"BandPainterModel", "eject", "()V"⟩ ⟨"BandPainterModel", "eject", "()V"⟩ ∈ BIG := big_t 752 (by decide +kernel) (by decide +kernel)
theorem t_753 : Cond.code ⟨"BandPainterModel", "eject", "()V"⟩ prog_9_method_26_code 2 none ∈ BIG := big_t 753 (by decide +kernel) (by decide +kernel)
theorem t_754 : Cond.methodLink "BandPainterLaw" 91 ⟨"BandPainterModel", "line", "(II)J"⟩ ∈ BIG := big_t 754 (by decide +kernel) (by decide +kernel)
theorem t_755 : Cond.instanceMethod ⟨"BandPainterModel", "line", "(II)J"⟩ ∈ BIG := big_t 755 (by decide +kernel) (by decide +kernel)
theorem t_756 : Cond.selects "BandPainterModel" ⟨"BandPainterModel", "line", "(II)J"⟩ ⟨"BandPainterModel", "line", "(II)J"⟩ ∈ BIG := big_t 756 (by decide +kernel) (by decide +kernel)
theorem t_757 : Cond.code ⟨"BandPainterModel", "line", "(II)J"⟩ prog_9_method_27_code 3 (some .long) ∈ BIG := big_t 757 (by decide +kernel) (by decide +kernel)
theorem t_758 : Cond.methodLink "BandPainterLaw" 94 ⟨"BandPainterModel", "black", "(II)Z"⟩ ∈ BIG := big_t 758 (by decide +kernel) (by decide +kernel)
theorem t_759 : Cond.instanceMethod ⟨"BandPainterModel", "black", "(II)Z"⟩ ∈ BIG := big_t 759 (by decide +kernel) (by decide +kernel)
theorem t_760 : Cond.selects "BandPainterModel" ⟨"BandPainterModel", "black", "(II)Z"⟩ ⟨"BandPainterModel", "black", "(II)Z"⟩ ∈ BIG := big_t 760 (by decide +kernel) (by decide +kernel)
theorem t_761 : Cond.code ⟨"BandPainterModel", "black", "(II)Z"⟩ prog_9_method_28_code 3 (some .boolean) ∈ BIG := big_t 761 (by decide +kernel) (by decide +kernel)
theorem t_762 : Cond.methodLink "BandPainterModel" 132 ⟨"BandPainterModel", "isBlack", "(II)Z"⟩ ∈ BIG := big_t 762 (by decide +kernel) (by decide +kernel)
theorem t_764 : Cond.instanceMethod ⟨"BandPainterModel", "isBlack", "(II)Z"⟩ ∈ BIG := big_t 764 (by decide +kernel) (by decide +kernel)
theorem t_765 : Cond.code ⟨"BandPainterModel", "isBlack", "(II)Z"⟩ prog_9_method_4_code 3 (some .boolean) ∈ BIG := big_t 765 (by decide +kernel) (by decide +kernel)
theorem t_766 : Cond.methodLink "BandPainterLaw" 98 ⟨"BandPainterModel", "count", "(II)I"⟩ ∈ BIG := big_t 766 (by decide +kernel) (by decide +kernel)
theorem t_767 : Cond.instanceMethod ⟨"BandPainterModel", "count", "(II)I"⟩ ∈ BIG := big_t 767 (by decide +kernel) (by decide +kernel)
theorem t_768 : Cond.selects "BandPainterModel" ⟨"BandPainterModel", "count", "(II)I"⟩ ⟨"BandPainterModel", "count", "(II)I"⟩ ∈ BIG := big_t 768 (by decide +kernel) (by decide +kernel)
theorem t_769 : Cond.code ⟨"BandPainterModel", "count", "(II)I"⟩ prog_9_method_31_code 5 (some .int) ∈ BIG := big_t 769 (by decide +kernel) (by decide +kernel)
theorem t_770 : Cond.methodLink "BandPainterModel" 139 ⟨"BandPainterModel", "blacksOf", "(I)I"⟩ ∈ BIG := big_t 770 (by decide +kernel) (by decide +kernel)
theorem t_772 : Cond.instanceMethod ⟨"BandPainterModel", "blacksOf", "(I)I"⟩ ∈ BIG := big_t 772 (by decide +kernel) (by decide +kernel)
theorem t_773 : Cond.code ⟨"BandPainterModel", "blacksOf", "(I)I"⟩ prog_9_method_30_code 4 (some .int) ∈ BIG := big_t 773 (by decide +kernel) (by decide +kernel)
theorem t_774 : Cond.methodLink "BandPainterModel" 135 ⟨"BandPainterModel", "ones", "(J)I"⟩ ∈ BIG := big_t 774 (by decide +kernel) (by decide +kernel)
theorem t_775 : Cond.static ⟨"BandPainterModel", "ones", "(J)I"⟩ ∈ BIG := big_t 775 (by decide +kernel) (by decide +kernel)
theorem t_776 : Cond.code ⟨"BandPainterModel", "ones", "(J)I"⟩ prog_9_method_29_code 5 (some .int) ∈ BIG := big_t 776 (by decide +kernel) (by decide +kernel)
theorem t_777 : Cond.methodLink "BandPainterLaw" 103 ⟨"BandPainterModel", "top", "(I)I"⟩ ∈ BIG := big_t 777 (by decide +kernel) (by decide +kernel)
theorem t_778 : Cond.instanceMethod ⟨"BandPainterModel", "top", "(I)I"⟩ ∈ BIG := big_t 778 (by decide +kernel) (by decide +kernel)
theorem t_779 : Cond.selects "BandPainterModel" ⟨"BandPainterModel", "top", "(I)I"⟩ ⟨"BandPainterModel", "top", "(I)I"⟩ ∈ BIG := big_t 779 (by decide +kernel) (by decide +kernel)
theorem t_780 : Cond.code ⟨"BandPainterModel", "top", "(I)I"⟩ prog_9_method_32_code 3 (some .int) ∈ BIG := big_t 780 (by decide +kernel) (by decide +kernel)
theorem t_781 : Cond.methodLink "BandPainterLaw" 107 ⟨"BandPainterModel", "of", "(II)I"⟩ ∈ BIG := big_t 781 (by decide +kernel) (by decide +kernel)
theorem t_782 : Cond.instanceMethod ⟨"BandPainterModel", "of", "(II)I"⟩ ∈ BIG := big_t 782 (by decide +kernel) (by decide +kernel)
theorem t_783 : Cond.selects "BandPainterModel" ⟨"BandPainterModel", "of", "(II)I"⟩ ⟨"BandPainterModel", "of", "(II)I"⟩ ∈ BIG := big_t 783 (by decide +kernel) (by decide +kernel)
theorem t_784 : Cond.code ⟨"BandPainterModel", "of", "(II)I"⟩ prog_9_method_33_code 5 (some .int) ∈ BIG := big_t 784 (by decide +kernel) (by decide +kernel)
theorem t_785 : Cond.methodLink "BandPainterLaw" 111 ⟨"BandPainterModel", "look", "(I)I"⟩ ∈ BIG := big_t 785 (by decide +kernel) (by decide +kernel)
theorem t_786 : Cond.instanceMethod ⟨"BandPainterModel", "look", "(I)I"⟩ ∈ BIG := big_t 786 (by decide +kernel) (by decide +kernel)
theorem t_787 : Cond.selects "BandPainterModel" ⟨"BandPainterModel", "look", "(I)I"⟩ ⟨"BandPainterModel", "look", "(I)I"⟩ ∈ BIG := big_t 787 (by decide +kernel) (by decide +kernel)
theorem t_788 : Cond.code ⟨"BandPainterModel", "look", "(I)I"⟩ prog_9_method_34_code 2 (some .int) ∈ BIG := big_t 788 (by decide +kernel) (by decide +kernel)
theorem t_789 : Cond.constantLong "BandPainterLaw" 43 4294967295 ∈ BIG := big_t 789 (by decide +kernel) (by decide +kernel)
theorem ts_0 : Cond.selects "BandPainter" ⟨"BandPainter", "shapeOf", "(I)LBandPainter$Shape;"⟩ ⟨"BandPainter", "shapeOf", "(I)LBandPainter$Shape;"⟩ ∈ BIG := big_s 0 (by decide +kernel) (by decide +kernel)
theorem ts_1 : Cond.selects "BandPainter$Picture" ⟨"BandPainter$Picture", "setWord", "(IIJ)V"⟩ ⟨"BandPainter$Picture", "setWord", "(IIJ)V"⟩ ∈ BIG := big_s 1 (by decide +kernel) (by decide +kernel)
theorem ts_2 : Cond.selects "BandPainter$Picture" ⟨"BandPainter$Picture", "hasWord", "(II)Z"⟩ ⟨"BandPainter$Picture", "hasWord", "(II)Z"⟩ ∈ BIG := big_s 2 (by decide +kernel) (by decide +kernel)
theorem ts_3 : Cond.selects "BandPainter" ⟨"BandPainter", "canLayAt", "(II)Z"⟩ ⟨"BandPainter", "canLayAt", "(II)Z"⟩ ∈ BIG := big_s 3 (by decide +kernel) (by decide +kernel)
theorem ts_4 : Cond.selects "BandPainter$Picture" ⟨"BandPainter$Picture", "isBlack", "(II)Z"⟩ ⟨"BandPainter$Picture", "isBlack", "(II)Z"⟩ ∈ BIG := big_s 4 (by decide +kernel) (by decide +kernel)
theorem ts_5 : Cond.selects "BandPainter$Picture" ⟨"BandPainter$Picture", "wordAt", "(II)J"⟩ ⟨"BandPainter$Picture", "wordAt", "(II)J"⟩ ∈ BIG := big_s 5 (by decide +kernel) (by decide +kernel)
theorem ts_6 : Cond.selects "BandPainter$Picture" ⟨"BandPainter$Picture", "blackenTurned", "(III)V"⟩ ⟨"BandPainter$Picture", "blackenTurned", "(III)V"⟩ ∈ BIG := big_s 6 (by decide +kernel) (by decide +kernel)
theorem ts_7 : Cond.selects "BandPainter$Picture" ⟨"BandPainter$Picture", "blacken", "(II)V"⟩ ⟨"BandPainter$Picture", "blacken", "(II)V"⟩ ∈ BIG := big_s 7 (by decide +kernel) (by decide +kernel)
theorem ts_8 : Cond.selects "BandPainter" ⟨"BandPainter", "lay", "(LBandPainter$Picture;IIII)V"⟩ ⟨"BandPainter", "lay", "(LBandPainter$Picture;IIII)V"⟩ ∈ BIG := big_s 8 (by decide +kernel) (by decide +kernel)
theorem ts_9 : Cond.selects "BandPainter$Pile" ⟨"BandPainter$Pile", "stir", "(LBandPainter$Mark;)V"⟩ ⟨"BandPainter$Pile", "stir", "(LBandPainter$Mark;)V"⟩ ∈ BIG := big_s 9 (by decide +kernel) (by decide +kernel)
theorem ts_10 : Cond.selects "BandPainter$Pile" ⟨"BandPainter$Pile", "newestOnLine", "(I)LBandPainter$Mark;"⟩ ⟨"BandPainter$Pile", "newestOnLine", "(I)LBandPainter$Mark;"⟩ ∈ BIG := big_s 10 (by decide +kernel) (by decide +kernel)
theorem ts_11 : Cond.selects "BandPainter$Pile" ⟨"BandPainter$Pile", "isLikeAbove", "(I)Z"⟩ ⟨"BandPainter$Pile", "isLikeAbove", "(I)Z"⟩ ∈ BIG := big_s 11 (by decide +kernel) (by decide +kernel)
theorem ts_12 : Cond.selects "BandPainter$Pile" ⟨"BandPainter$Pile", "countedBlacks", "(I)I"⟩ ⟨"BandPainter$Pile", "countedBlacks", "(I)I"⟩ ∈ BIG := big_s 12 (by decide +kernel) (by decide +kernel)
theorem ts_14 : Cond.selects "BandPainterModel" ⟨"BandPainterModel", "isShape", "(I)Z"⟩ ⟨"BandPainterModel", "isShape", "(I)Z"⟩ ∈ BIG := big_s 14 (by decide +kernel) (by decide +kernel)
theorem ts_15 : Cond.selects "BandPainterModel" ⟨"BandPainterModel", "shapeDot", "(III)Z"⟩ ⟨"BandPainterModel", "shapeDot", "(III)Z"⟩ ∈ BIG := big_s 15 (by decide +kernel) (by decide +kernel)
theorem ts_16 : Cond.selects "BandPainterModel" ⟨"BandPainterModel", "lay", "(IIIIZ)V"⟩ ⟨"BandPainterModel", "lay", "(IIIIZ)V"⟩ ∈ BIG := big_s 16 (by decide +kernel) (by decide +kernel)
theorem ts_17 : Cond.selects "BandPainterModel" ⟨"BandPainterModel", "paint", "(IIZ)V"⟩ ⟨"BandPainterModel", "paint", "(IIZ)V"⟩ ∈ BIG := big_s 17 (by decide +kernel) (by decide +kernel)
theorem ts_18 : Cond.selects "BandPainterModel" ⟨"BandPainterModel", "isIn", "(II)Z"⟩ ⟨"BandPainterModel", "isIn", "(II)Z"⟩ ∈ BIG := big_s 18 (by decide +kernel) (by decide +kernel)
theorem ts_19 : Cond.selects "BandPainterModel" ⟨"BandPainterModel", "set", "(IIZ)V"⟩ ⟨"BandPainterModel", "set", "(IIZ)V"⟩ ∈ BIG := big_s 19 (by decide +kernel) (by decide +kernel)
theorem ts_20 : Cond.selects "BandPainterModel" ⟨"BandPainterModel", "isInk", "(II)Z"⟩ ⟨"BandPainterModel", "isInk", "(II)Z"⟩ ∈ BIG := big_s 20 (by decide +kernel) (by decide +kernel)
theorem ts_21 : Cond.selects "BandPainterModel" ⟨"BandPainterModel", "isBlack", "(II)Z"⟩ ⟨"BandPainterModel", "isBlack", "(II)Z"⟩ ∈ BIG := big_s 21 (by decide +kernel) (by decide +kernel)
theorem ts_22 : Cond.selects "BandPainterModel" ⟨"BandPainterModel", "blacksOf", "(I)I"⟩ ⟨"BandPainterModel", "blacksOf", "(I)I"⟩ ∈ BIG := big_s 22 (by decide +kernel) (by decide +kernel)
def T_BP : u_T := fun k => match k with
  | 0 => ("BandPainter", "width", "I", true)
  | 1 => ("BandPainter", "height", "I", true)
  | 2 => ("BandPainter", "band", "I", true)
  | 3 => ("BandPainter", "sheet", "LBandPainter$Box;", true)
  | 4 => ("BandPainter", "shapes", "[LBandPainter$Shape;", true)
  | 5 => ("BandPainter", "pile", "LBandPainter$Pile;", true)
  | 6 => ("BandPainter", "shapeCount", "I", false)
  | 7 => ("BandPainter", "shapeRows", "I", false)
  | 8 => ("BandPainter", "rowBytes", "I", false)
  | 9 => ("BandPainter", "ink", "LBandPainter$Ink;", false)
  | 10 => ("BandPainter", "sourceOpaque", "Z", false)
  | 11 => ("BandPainter", "inkOpaque", "Z", false)
  | 12 => ("BandPainter", "turn", "I", false)
  | _ => ("BandPainter", "clip", "LBandPainter$Box;", false)
def ty_BP : Nat → FieldType := fun k => match k with
  | 0 => .int
  | 1 => .int
  | 2 => .int
  | 3 => .object "BandPainter$Box"
  | 4 => .array (.object "BandPainter$Shape")
  | 5 => .object "BandPainter$Pile"
  | 6 => .int
  | 7 => .int
  | 8 => .int
  | 9 => .object "BandPainter$Ink"
  | 10 => .boolean
  | 11 => .boolean
  | 12 => .int
  | _ => .object "BandPainter$Box"
theorem nm_BP : ∀ a, a < 14 → ∀ b, b < 14 → a ≠ b → (T_BP a).2.1 ≠ (T_BP b).2.1 := by decide +kernel
theorem ty_BP_ok : ∀ k, k < 14 → parseFieldDescriptor (T_BP k).2.2.1 = some (ty_BP k) := by decide +kernel
theorem ws_BP : ∀ w ∈ u_ws "BandPainter" T_BP 14, w ∈ BIG := by
  intro w hw
  obtain ⟨k, hk, rfl⟩ := List.mem_map.mp hw
  have hk := List.mem_range.mp hk
  match k, hk with
  | 0, _ => exact t_129
  | 1, _ => exact t_131
  | 2, _ => exact t_133
  | 3, _ => exact t_135
  | 4, _ => exact t_137
  | 5, _ => exact t_139
  | 6, _ => exact t_141
  | 7, _ => exact t_143
  | 8, _ => exact t_145
  | 9, _ => exact t_147
  | 10, _ => exact t_149
  | 11, _ => exact t_151
  | 12, _ => exact t_153
  | 13, _ => exact t_155
  | k + 14, hk => exact absurd hk (by omega)
def T_Bx : u_T := fun k => match k with
  | 0 => ("BandPainter$Box", "x0", "I", true)
  | 1 => ("BandPainter$Box", "y0", "I", true)
  | 2 => ("BandPainter$Box", "x1", "I", true)
  | _ => ("BandPainter$Box", "y1", "I", true)
def ty_Bx : Nat → FieldType := fun k => match k with
  | 0 => .int
  | 1 => .int
  | 2 => .int
  | _ => .int
theorem nm_Bx : ∀ a, a < 4 → ∀ b, b < 4 → a ≠ b → (T_Bx a).2.1 ≠ (T_Bx b).2.1 := by decide +kernel
theorem ty_Bx_ok : ∀ k, k < 4 → parseFieldDescriptor (T_Bx k).2.2.1 = some (ty_Bx k) := by decide +kernel
theorem ws_Bx : ∀ w ∈ u_ws "BandPainter$Box" T_Bx 4, w ∈ BIG := by
  intro w hw
  obtain ⟨k, hk, rfl⟩ := List.mem_map.mp hw
  have hk := List.mem_range.mp hk
  match k, hk with
  | 0, _ => exact t_49
  | 1, _ => exact t_51
  | 2, _ => exact t_53
  | 3, _ => exact t_55
  | k + 4, hk => exact absurd hk (by omega)
def T_In : u_T := fun k => match k with
  | 0 => ("BandPainter$Ink", "kind", "I", true)
  | 1 => ("BandPainter$Ink", "value", "I", true)
  | _ => ("BandPainter$Ink", "lines", "[J", true)
def ty_In : Nat → FieldType := fun k => match k with
  | 0 => .int
  | 1 => .int
  | _ => .array .long
theorem nm_In : ∀ a, a < 3 → ∀ b, b < 3 → a ≠ b → (T_In a).2.1 ≠ (T_In b).2.1 := by decide +kernel
theorem ty_In_ok : ∀ k, k < 3 → parseFieldDescriptor (T_In k).2.2.1 = some (ty_In k) := by decide +kernel
theorem ws_In : ∀ w ∈ u_ws "BandPainter$Ink" T_In 3, w ∈ BIG := by
  intro w hw
  obtain ⟨k, hk, rfl⟩ := List.mem_map.mp hw
  have hk := List.mem_range.mp hk
  match k, hk with
  | 0, _ => exact t_107
  | 1, _ => exact t_109
  | 2, _ => exact t_111
  | k + 3, hk => exact absurd hk (by omega)
def T_Mk : u_T := fun k => match k with
  | 0 => ("BandPainter$Mark", "picture", "LBandPainter$Picture;", true)
  | 1 => ("BandPainter$Mark", "left", "I", true)
  | 2 => ("BandPainter$Mark", "top", "I", true)
  | 3 => ("BandPainter$Mark", "part", "LBandPainter$Box;", true)
  | 4 => ("BandPainter$Mark", "ink", "LBandPainter$Ink;", true)
  | 5 => ("BandPainter$Mark", "sourceOpaque", "Z", true)
  | 6 => ("BandPainter$Mark", "inkOpaque", "Z", true)
  | 7 => ("BandPainter$Mark", "below", "LBandPainter$Mark;", false)
  | _ => ("BandPainter$Mark", "belowOnLine", "LBandPainter$Mark;", false)
def ty_Mk : Nat → FieldType := fun k => match k with
  | 0 => .object "BandPainter$Picture"
  | 1 => .int
  | 2 => .int
  | 3 => .object "BandPainter$Box"
  | 4 => .object "BandPainter$Ink"
  | 5 => .boolean
  | 6 => .boolean
  | 7 => .object "BandPainter$Mark"
  | _ => .object "BandPainter$Mark"
theorem nm_Mk : ∀ a, a < 9 → ∀ b, b < 9 → a ≠ b → (T_Mk a).2.1 ≠ (T_Mk b).2.1 := by decide +kernel
theorem ty_Mk_ok : ∀ k, k < 9 → parseFieldDescriptor (T_Mk k).2.2.1 = some (ty_Mk k) := by decide +kernel
theorem ws_Mk : ∀ w ∈ u_ws "BandPainter$Mark" T_Mk 9, w ∈ BIG := by
  intro w hw
  obtain ⟨k, hk, rfl⟩ := List.mem_map.mp hw
  have hk := List.mem_range.mp hk
  match k, hk with
  | 0, _ => exact t_302
  | 1, _ => exact t_304
  | 2, _ => exact t_306
  | 3, _ => exact t_308
  | 4, _ => exact t_310
  | 5, _ => exact t_312
  | 6, _ => exact t_314
  | 7, _ => exact t_316
  | 8, _ => exact t_318
  | k + 9, hk => exact absurd hk (by omega)
def T_Pc : u_T := fun k => match k with
  | 0 => ("BandPainter$Picture", "across", "I", true)
  | 1 => ("BandPainter$Picture", "down", "I", true)
  | 2 => ("BandPainter$Picture", "tall", "I", true)
  | 3 => ("BandPainter$Picture", "words", "I", true)
  | _ => ("BandPainter$Picture", "bits", "[J", true)
def ty_Pc : Nat → FieldType := fun k => match k with
  | 0 => .int
  | 1 => .int
  | 2 => .int
  | 3 => .int
  | _ => .array .long
theorem nm_Pc : ∀ a, a < 5 → ∀ b, b < 5 → a ≠ b → (T_Pc a).2.1 ≠ (T_Pc b).2.1 := by decide +kernel
theorem ty_Pc_ok : ∀ k, k < 5 → parseFieldDescriptor (T_Pc k).2.2.1 = some (ty_Pc k) := by decide +kernel
theorem ws_Pc : ∀ w ∈ u_ws "BandPainter$Picture" T_Pc 5, w ∈ BIG := by
  intro w hw
  obtain ⟨k, hk, rfl⟩ := List.mem_map.mp hw
  have hk := List.mem_range.mp hk
  match k, hk with
  | 0, _ => exact t_248
  | 1, _ => exact t_250
  | 2, _ => exact t_252
  | 3, _ => exact t_254
  | 4, _ => exact t_256
  | k + 5, hk => exact absurd hk (by omega)
def T_Pl : u_T := fun k => match k with
  | 0 => ("BandPainter$Pile", "lines", "I", true)
  | 1 => ("BandPainter$Pile", "blacks", "[I", true)
  | 2 => ("BandPainter$Pile", "stirred", "[Z", true)
  | 3 => ("BandPainter$Pile", "size", "I", false)
  | _ => ("BandPainter$Pile", "newest", "LBandPainter$Mark;", false)
def ty_Pl : Nat → FieldType := fun k => match k with
  | 0 => .int
  | 1 => .array .int
  | 2 => .array .boolean
  | 3 => .int
  | _ => .object "BandPainter$Mark"
theorem nm_Pl : ∀ a, a < 5 → ∀ b, b < 5 → a ≠ b → (T_Pl a).2.1 ≠ (T_Pl b).2.1 := by decide +kernel
theorem ty_Pl_ok : ∀ k, k < 5 → parseFieldDescriptor (T_Pl k).2.2.1 = some (ty_Pl k) := by decide +kernel
theorem ws_Pl : ∀ w ∈ u_ws "BandPainter$Pile" T_Pl 5, w ∈ BIG := by
  intro w hw
  obtain ⟨k, hk, rfl⟩ := List.mem_map.mp hw
  have hk := List.mem_range.mp hk
  match k, hk with
  | 0, _ => exact t_72
  | 1, _ => exact t_74
  | 2, _ => exact t_76
  | 3, _ => exact t_78
  | 4, _ => exact t_80
  | k + 5, hk => exact absurd hk (by omega)
def T_Sh : u_T := fun k => match k with
  | 0 => ("BandPainter$Shape", "upright", "LBandPainter$Picture;", true)
  | 1 => ("BandPainter$Shape", "turned", "[LBandPainter$Picture;", true)
  | _ => ("BandPainter$Shape", "stamped", "Z", false)
def ty_Sh : Nat → FieldType := fun k => match k with
  | 0 => .object "BandPainter$Picture"
  | 1 => .array (.object "BandPainter$Picture")
  | _ => .boolean
theorem nm_Sh : ∀ a, a < 3 → ∀ b, b < 3 → a ≠ b → (T_Sh a).2.1 ≠ (T_Sh b).2.1 := by decide +kernel
theorem ty_Sh_ok : ∀ k, k < 3 → parseFieldDescriptor (T_Sh k).2.2.1 = some (ty_Sh k) := by decide +kernel
theorem ws_Sh : ∀ w ∈ u_ws "BandPainter$Shape" T_Sh 3, w ∈ BIG := by
  intro w hw
  obtain ⟨k, hk, rfl⟩ := List.mem_map.mp hw
  have hk := List.mem_range.mp hk
  match k, hk with
  | 0, _ => exact t_554
  | 1, _ => exact t_556
  | 2, _ => exact t_558
  | k + 3, hk => exact absurd hk (by omega)
def T_Mo : u_T := fun k => match k with
  | 0 => ("BandPainterModel", "thrown", "I", false)
  | 1 => ("BandPainterModel", "wide", "I", true)
  | 2 => ("BandPainterModel", "high", "I", true)
  | 3 => ("BandPainterModel", "band", "I", true)
  | 4 => ("BandPainterModel", "sheet", "[J", true)
  | 5 => ("BandPainterModel", "shapes", "I", false)
  | 6 => ("BandPainterModel", "across", "[I", true)
  | 7 => ("BandPainterModel", "down", "[I", true)
  | 8 => ("BandPainterModel", "firstRow", "[I", true)
  | 9 => ("BandPainterModel", "stamped", "[Z", true)
  | 10 => ("BandPainterModel", "rows", "I", false)
  | 11 => ("BandPainterModel", "dots", "[J", true)
  | 12 => ("BandPainterModel", "marks", "I", false)
  | 13 => ("BandPainterModel", "bytes", "I", false)
  | 14 => ("BandPainterModel", "inkKind", "I", false)
  | 15 => ("BandPainterModel", "inkValue", "I", false)
  | 16 => ("BandPainterModel", "sourceOpaque", "Z", false)
  | 17 => ("BandPainterModel", "inkOpaque", "Z", false)
  | 18 => ("BandPainterModel", "turn", "I", false)
  | 19 => ("BandPainterModel", "clipLeft", "I", false)
  | 20 => ("BandPainterModel", "clipTop", "I", false)
  | 21 => ("BandPainterModel", "clipRight", "I", false)
  | _ => ("BandPainterModel", "clipBottom", "I", false)
def ty_Mo : Nat → FieldType := fun k => match k with
  | 0 => .int
  | 1 => .int
  | 2 => .int
  | 3 => .int
  | 4 => .array .long
  | 5 => .int
  | 6 => .array .int
  | 7 => .array .int
  | 8 => .array .int
  | 9 => .array .boolean
  | 10 => .int
  | 11 => .array .long
  | 12 => .int
  | 13 => .int
  | 14 => .int
  | 15 => .int
  | 16 => .boolean
  | 17 => .boolean
  | 18 => .int
  | 19 => .int
  | 20 => .int
  | 21 => .int
  | _ => .int
theorem nm_Mo : ∀ a, a < 23 → ∀ b, b < 23 → a ≠ b → (T_Mo a).2.1 ≠ (T_Mo b).2.1 := by decide +kernel
theorem ty_Mo_ok : ∀ k, k < 23 → parseFieldDescriptor (T_Mo k).2.2.1 = some (ty_Mo k) := by decide +kernel
theorem ws_Mo : ∀ w ∈ u_ws "BandPainterModel" T_Mo 23, w ∈ BIG := by
  intro w hw
  obtain ⟨k, hk, rfl⟩ := List.mem_map.mp hw
  have hk := List.mem_range.mp hk
  match k, hk with
  | 0, _ => exact t_615
  | 1, _ => exact t_617
  | 2, _ => exact t_619
  | 3, _ => exact t_621
  | 4, _ => exact t_623
  | 5, _ => exact t_625
  | 6, _ => exact t_627
  | 7, _ => exact t_629
  | 8, _ => exact t_631
  | 9, _ => exact t_633
  | 10, _ => exact t_635
  | 11, _ => exact t_637
  | 12, _ => exact t_639
  | 13, _ => exact t_641
  | 14, _ => exact t_643
  | 15, _ => exact t_645
  | 16, _ => exact t_647
  | 17, _ => exact t_649
  | 18, _ => exact t_651
  | 19, _ => exact t_653
  | 20, _ => exact t_655
  | 21, _ => exact t_657
  | 22, _ => exact t_659
  | k + 23, hk => exact absurd hk (by omega)
abbrev vcl : List vw_C := [("BandPainter", T_BP, 14), ("BandPainter$Box", T_Bx, 4), ("BandPainter$Ink", T_In, 3), ("BandPainter$Mark", T_Mk, 9), ("BandPainter$Picture", T_Pc, 5), ("BandPainter$Pile", T_Pl, 5), ("BandPainter$Shape", T_Sh, 3), ("BandPainterModel", T_Mo, 23)]
abbrev vnl : List (String × Nat × MethodName × String) := [("BandPainter$Picture", 34, ⟨"BandPainter", "firstDots", "(I)J"⟩, "BandPainter"), ("BandPainter$Ink", 26, ⟨"BandPainter", "isWithin", "(III)Z"⟩, "BandPainter"), ("BandPainter$Shape", 28, ⟨"BandPainter", "isWithin", "(III)Z"⟩, "BandPainter"), ("BandPainter$Pile", 74, ⟨"BandPainter", "isWithin", "(III)Z"⟩, "BandPainter"), ("BandPainter$Box", 36, ⟨"BandPainter", "firstDots", "(I)J"⟩, "BandPainter")]
abbrev vao : List String := ["BandPainter$Shape", "BandPainter$Picture"]
/-- the classes, by what numbers the machine gave them -/
abbrev gg (dC : Nat → ClassId) (dI : Nat → Nat → Nat) (cA : Nat → ClassId) : hp_G := ((dC, dI), vcl, [(cA 0, .int), (cA 1, .long), (cA 2, .boolean), (cA 3, .object "BandPainter$Shape"), (cA 4, .object "BandPainter$Picture")], vnl, vao)
theorem vC : hp_C BIG vcl := by
  intro ci C T N h
  match ci, h with
  | 0, h => cases h; exact ⟨ws_BP, ⟨ty_BP, ty_BP_ok⟩, nm_BP⟩
  | 1, h => cases h; exact ⟨ws_Bx, ⟨ty_Bx, ty_Bx_ok⟩, nm_Bx⟩
  | 2, h => cases h; exact ⟨ws_In, ⟨ty_In, ty_In_ok⟩, nm_In⟩
  | 3, h => cases h; exact ⟨ws_Mk, ⟨ty_Mk, ty_Mk_ok⟩, nm_Mk⟩
  | 4, h => cases h; exact ⟨ws_Pc, ⟨ty_Pc, ty_Pc_ok⟩, nm_Pc⟩
  | 5, h => cases h; exact ⟨ws_Pl, ⟨ty_Pl, ty_Pl_ok⟩, nm_Pl⟩
  | 6, h => cases h; exact ⟨ws_Sh, ⟨ty_Sh, ty_Sh_ok⟩, nm_Sh⟩
  | 7, h => cases h; exact ⟨ws_Mo, ⟨ty_Mo, ty_Mo_ok⟩, nm_Mo⟩
  | k + 8, h => simp at h
theorem zz {dC : Nat → ClassId} {dI : Nat → Nat → Nat} {cA : Nat → ClassId} : hp_Z BIG (gg dC dI cA) := ⟨vC, fun w hw => good_of_word (List.mem_filter.mp hw).2⟩
abbrev e0_BP : List Value := [.int 0, .int 0, .int 0, .null, .null, .null, .int 0, .int 0, .int 0, .null, .int 0, .int 0, .int 0, .null]
theorem e0_BP_ok : ∀ j, j < 14 → (parseFieldDescriptor (T_BP j).2.2.1).map defaultValue = some (vp_V e0_BP j) := by
  intro j hj
  rw [ty_BP_ok j hj]
  match j, hj with
  | 0, _ => rfl
  | 1, _ => rfl
  | 2, _ => rfl
  | 3, _ => rfl
  | 4, _ => rfl
  | 5, _ => rfl
  | 6, _ => rfl
  | 7, _ => rfl
  | 8, _ => rfl
  | 9, _ => rfl
  | 10, _ => rfl
  | 11, _ => rfl
  | 12, _ => rfl
  | 13, _ => rfl
  | k + 14, hj => exact absurd hj (by omega)
abbrev e0_Bx : List Value := [.int 0, .int 0, .int 0, .int 0]
theorem e0_Bx_ok : ∀ j, j < 4 → (parseFieldDescriptor (T_Bx j).2.2.1).map defaultValue = some (vp_V e0_Bx j) := by
  intro j hj
  rw [ty_Bx_ok j hj]
  match j, hj with
  | 0, _ => rfl
  | 1, _ => rfl
  | 2, _ => rfl
  | 3, _ => rfl
  | k + 4, hj => exact absurd hj (by omega)
abbrev e0_In : List Value := [.int 0, .int 0, .null]
theorem e0_In_ok : ∀ j, j < 3 → (parseFieldDescriptor (T_In j).2.2.1).map defaultValue = some (vp_V e0_In j) := by
  intro j hj
  rw [ty_In_ok j hj]
  match j, hj with
  | 0, _ => rfl
  | 1, _ => rfl
  | 2, _ => rfl
  | k + 3, hj => exact absurd hj (by omega)
abbrev e0_Mk : List Value := [.null, .int 0, .int 0, .null, .null, .int 0, .int 0, .null, .null]
theorem e0_Mk_ok : ∀ j, j < 9 → (parseFieldDescriptor (T_Mk j).2.2.1).map defaultValue = some (vp_V e0_Mk j) := by
  intro j hj
  rw [ty_Mk_ok j hj]
  match j, hj with
  | 0, _ => rfl
  | 1, _ => rfl
  | 2, _ => rfl
  | 3, _ => rfl
  | 4, _ => rfl
  | 5, _ => rfl
  | 6, _ => rfl
  | 7, _ => rfl
  | 8, _ => rfl
  | k + 9, hj => exact absurd hj (by omega)
abbrev e0_Pc : List Value := [.int 0, .int 0, .int 0, .int 0, .null]
theorem e0_Pc_ok : ∀ j, j < 5 → (parseFieldDescriptor (T_Pc j).2.2.1).map defaultValue = some (vp_V e0_Pc j) := by
  intro j hj
  rw [ty_Pc_ok j hj]
  match j, hj with
  | 0, _ => rfl
  | 1, _ => rfl
  | 2, _ => rfl
  | 3, _ => rfl
  | 4, _ => rfl
  | k + 5, hj => exact absurd hj (by omega)
abbrev e0_Pl : List Value := [.int 0, .null, .null, .int 0, .null]
theorem e0_Pl_ok : ∀ j, j < 5 → (parseFieldDescriptor (T_Pl j).2.2.1).map defaultValue = some (vp_V e0_Pl j) := by
  intro j hj
  rw [ty_Pl_ok j hj]
  match j, hj with
  | 0, _ => rfl
  | 1, _ => rfl
  | 2, _ => rfl
  | 3, _ => rfl
  | 4, _ => rfl
  | k + 5, hj => exact absurd hj (by omega)
abbrev e0_Sh : List Value := [.null, .null, .int 0]
theorem e0_Sh_ok : ∀ j, j < 3 → (parseFieldDescriptor (T_Sh j).2.2.1).map defaultValue = some (vp_V e0_Sh j) := by
  intro j hj
  rw [ty_Sh_ok j hj]
  match j, hj with
  | 0, _ => rfl
  | 1, _ => rfl
  | 2, _ => rfl
  | k + 3, hj => exact absurd hj (by omega)
abbrev e0_Mo : List Value := [.int 0, .int 0, .int 0, .int 0, .null, .int 0, .null, .null, .null, .null, .int 0, .null, .int 0, .int 0, .int 0, .int 0, .int 0, .int 0, .int 0, .int 0, .int 0, .int 0, .int 0]
theorem e0_Mo_ok : ∀ j, j < 23 → (parseFieldDescriptor (T_Mo j).2.2.1).map defaultValue = some (vp_V e0_Mo j) := by
  intro j hj
  rw [ty_Mo_ok j hj]
  match j, hj with
  | 0, _ => rfl
  | 1, _ => rfl
  | 2, _ => rfl
  | 3, _ => rfl
  | 4, _ => rfl
  | 5, _ => rfl
  | 6, _ => rfl
  | 7, _ => rfl
  | 8, _ => rfl
  | 9, _ => rfl
  | 10, _ => rfl
  | 11, _ => rfl
  | 12, _ => rfl
  | 13, _ => rfl
  | 14, _ => rfl
  | 15, _ => rfl
  | 16, _ => rfl
  | 17, _ => rfl
  | 18, _ => rfl
  | 19, _ => rfl
  | 20, _ => rfl
  | 21, _ => rfl
  | 22, _ => rfl
  | k + 23, hj => exact absurd hj (by omega)
theorem l_BP_1 : Cond.methodLink "BandPainter" 1 Lib.objectInit ∈ BIG ∧ Cond.instanceMethod Lib.objectInit ∈ BIG ∧ Cond.code Lib.objectInit ⟨#[0xb1]⟩ 1 none ∈ BIG := ⟨t_23, t_24, t_25⟩
theorem l_BP_9 : hp_lS BIG "BandPainter" 9 ⟨"BandPainter", "within", "(III)I"⟩ prog_1_method_22_code 3 (some .int) 3 := ⟨t_26, t_27, t_1, t_28, ⟨by decide +kernel, by decide +kernel, by decide +kernel⟩⟩
theorem fp_BP_13 : hp_fp BIG vcl "BandPainter" 13 0 0 .int true := ⟨_, _, _, rfl, by decide, t_115, rfl, by decide +kernel, rfl⟩
theorem fp_BP_17 : hp_fp BIG vcl "BandPainter" 17 0 1 .int true := ⟨_, _, _, rfl, by decide, t_116, rfl, by decide +kernel, rfl⟩
theorem f_BP_17 : hp_f BIG vcl "BandPainter" 17 0 1 := ⟨_, _, _, rfl, by decide, t_116⟩
theorem fp_BP_20 : hp_fp BIG vcl "BandPainter" 20 0 2 .int true := ⟨_, _, _, rfl, by decide, t_117, rfl, by decide +kernel, rfl⟩
theorem n_BP_23 : Cond.classLink "BandPainter" 23 "BandPainter$Box" ∈ BIG ∧ Cond.instantiable "BandPainter$Box" 4 ∈ BIG ∧ Cond.initialized "BandPainter$Box" ∈ BIG := ⟨t_35, t_36, t_3⟩
theorem f_BP_13 : hp_f BIG vcl "BandPainter" 13 0 0 := ⟨_, _, _, rfl, by decide, t_115⟩
theorem l_BP_25 : hp_lI BIG "BandPainter" 25 ⟨"BandPainter$Box", "<init>", "(IIII)V"⟩ prog_2_method_1_code 5 4 := ⟨t_37, t_38, t_3, t_39, rfl, ⟨by decide +kernel, by decide +kernel, by decide +kernel⟩⟩
theorem fp_BP_28 : hp_fp BIG vcl "BandPainter" 28 0 3 (.object "BandPainter$Box") true := ⟨_, _, _, rfl, by decide, t_118, rfl, by decide +kernel, rfl⟩
theorem fp_BP_34 : hp_fp BIG vcl "BandPainter" 34 0 4 (.array (.object "BandPainter$Shape")) true := ⟨_, _, _, rfl, by decide, t_119, rfl, by decide +kernel, rfl⟩
theorem n_BP_38 : Cond.classLink "BandPainter" 38 "BandPainter$Pile" ∈ BIG ∧ Cond.instantiable "BandPainter$Pile" 5 ∈ BIG ∧ Cond.initialized "BandPainter$Pile" ∈ BIG := ⟨t_60, t_61, t_4⟩
theorem l_BP_40 : hp_lI BIG "BandPainter" 40 ⟨"BandPainter$Pile", "<init>", "(I)V"⟩ prog_6_method_1_code 2 1 := ⟨t_62, t_63, t_4, t_64, rfl, ⟨by decide +kernel, by decide +kernel, by decide +kernel⟩⟩
theorem fp_BP_43 : hp_fp BIG vcl "BandPainter" 43 0 5 (.object "BandPainter$Pile") true := ⟨_, _, _, rfl, by decide, t_120, rfl, by decide +kernel, rfl⟩
theorem n_BP_47 : Cond.classLink "BandPainter" 47 "BandPainter$Ink" ∈ BIG ∧ Cond.instantiable "BandPainter$Ink" 3 ∈ BIG ∧ Cond.initialized "BandPainter$Ink" ∈ BIG := ⟨t_85, t_86, t_5⟩
theorem l_BP_49 : hp_lI BIG "BandPainter" 49 ⟨"BandPainter$Ink", "<init>", "(II)V"⟩ prog_3_method_1_code 4 2 := ⟨t_87, t_88, t_5, t_89, rfl, ⟨by decide +kernel, by decide +kernel, by decide +kernel⟩⟩
theorem fp_BP_52 : hp_fp BIG vcl "BandPainter" 52 0 9 (.object "BandPainter$Ink") false := ⟨_, _, _, rfl, by decide, t_124, rfl, by decide +kernel, rfl⟩
theorem f_BP_28 : hp_f BIG vcl "BandPainter" 28 0 3 := ⟨_, _, _, rfl, by decide, t_118⟩
theorem fp_BP_56 : hp_fp BIG vcl "BandPainter" 56 0 13 (.object "BandPainter$Box") false := ⟨_, _, _, rfl, by decide, t_128, rfl, by decide +kernel, rfl⟩
theorem l_BP_59 : hp_lS BIG "BandPainter" 59 ⟨"BandPainter", "isWithin", "(III)Z"⟩ prog_1_method_21_code 3 (some .boolean) 3 := ⟨t_166, t_167, t_1, t_168, ⟨by decide +kernel, by decide +kernel, by decide +kernel⟩⟩
theorem f_BP_70 : hp_f BIG vcl "BandPainter" 70 0 6 := ⟨_, _, _, rfl, by decide, t_121⟩
theorem f_BP_73 : hp_f BIG vcl "BandPainter" 73 0 7 := ⟨_, _, _, rfl, by decide, t_122⟩
theorem f_BP_34 : hp_f BIG vcl "BandPainter" 34 0 4 := ⟨_, _, _, rfl, by decide, t_119⟩
theorem n_BP_32 : Cond.classLink "BandPainter" 32 "BandPainter$Shape" ∈ BIG ∧ Cond.instantiable "BandPainter$Shape" 3 ∈ BIG ∧ Cond.initialized "BandPainter$Shape" ∈ BIG := ⟨t_58, t_542, t_12⟩
theorem l_BP_81 : hp_lI BIG "BandPainter" 81 ⟨"BandPainter$Shape", "<init>", "(II)V"⟩ prog_7_method_1_code 3 2 := ⟨t_543, t_544, t_12, t_545, rfl, ⟨by decide +kernel, by decide +kernel, by decide +kernel⟩⟩
theorem fp_BP_70 : hp_fp BIG vcl "BandPainter" 70 0 6 .int false := ⟨_, _, _, rfl, by decide, t_121, rfl, by decide +kernel, rfl⟩
theorem fp_BP_73 : hp_fp BIG vcl "BandPainter" 73 0 7 .int false := ⟨_, _, _, rfl, by decide, t_122, rfl, by decide +kernel, rfl⟩
theorem l_BP_82 : hp_lV BIG "BandPainter" 82 ⟨"BandPainter", "shapeOf", "(I)LBandPainter$Shape;"⟩ prog_1_method_18_code 2 (some (.object "BandPainter$Shape")) 1 := ⟨t_162, t_164, ts_0, t_1, t_165, ⟨by decide +kernel, by decide +kernel, by decide +kernel⟩⟩
theorem f_BP_86 : hp_f BIG vcl "BandPainter" 86 6 2 := ⟨_, _, _, rfl, by decide, t_553⟩
theorem f_BP_90 : hp_f BIG vcl "BandPainter" 90 6 0 := ⟨_, _, _, rfl, by decide, t_551⟩
theorem f_BP_94 : hp_f BIG vcl "BandPainter" 94 4 1 := ⟨_, _, _, rfl, by decide, t_244⟩
theorem l_BP_99 : hp_lV BIG "BandPainter" 99 ⟨"BandPainter$Shape", "redraw", "(IJJ)V"⟩ prog_7_method_2_code 7 none 3 := ⟨t_169, t_170, t_171, t_12, t_172, ⟨by decide +kernel, by decide +kernel, by decide +kernel⟩⟩
theorem l_BP_103 : hp_lS BIG "BandPainter" 103 ⟨"BandPainter$Ink", "exists", "(II)Z"⟩ prog_3_method_2_code 2 (some .boolean) 2 := ⟨t_194, t_195, t_5, t_196, ⟨by decide +kernel, by decide +kernel, by decide +kernel⟩⟩
theorem fp_BP_107 : hp_fp BIG vcl "BandPainter" 107 0 10 .boolean false := ⟨_, _, _, rfl, by decide, t_125, rfl, by decide +kernel, rfl⟩
theorem fp_BP_110 : hp_fp BIG vcl "BandPainter" 110 0 11 .boolean false := ⟨_, _, _, rfl, by decide, t_126, rfl, by decide +kernel, rfl⟩
theorem fp_BP_113 : hp_fp BIG vcl "BandPainter" 113 0 12 .int false := ⟨_, _, _, rfl, by decide, t_127, rfl, by decide +kernel, rfl⟩
theorem l_BP_116 : hp_lV BIG "BandPainter" 116 ⟨"BandPainter$Box", "common", "(LBandPainter$Box;)LBandPainter$Box;"⟩ prog_2_method_2_code 2 (some (.object "BandPainter$Box")) 1 := ⟨t_210, t_211, t_212, t_3, t_213, ⟨by decide +kernel, by decide +kernel, by decide +kernel⟩⟩
theorem l_BP_120 : hp_lV BIG "BandPainter" 120 ⟨"BandPainter", "canLayAt", "(II)Z"⟩ prog_1_method_19_code 3 (some .boolean) 2 := ⟨t_222, t_224, ts_3, t_1, t_225, ⟨by decide +kernel, by decide +kernel, by decide +kernel⟩⟩
theorem fp_BP_86 : hp_fp BIG vcl "BandPainter" 86 6 2 .boolean false := ⟨_, _, _, rfl, by decide, t_553, rfl, by decide +kernel, rfl⟩
theorem f_BP_113 : hp_f BIG vcl "BandPainter" 113 0 12 := ⟨_, _, _, rfl, by decide, t_127⟩
theorem l_BP_123 : hp_lV BIG "BandPainter" 123 ⟨"BandPainter$Shape", "turnedBy", "(I)LBandPainter$Picture;"⟩ prog_7_method_3_code 2 (some (.object "BandPainter$Picture")) 1 := ⟨t_226, t_227, t_228, t_12, t_229, ⟨by decide +kernel, by decide +kernel, by decide +kernel⟩⟩
theorem f_BP_127 : hp_f BIG vcl "BandPainter" 127 4 0 := ⟨_, _, _, rfl, by decide, t_242⟩
theorem l_BP_130 : hp_lV BIG "BandPainter" 130 ⟨"BandPainter", "lay", "(LBandPainter$Picture;IIII)V"⟩ prog_1_method_20_code 12 none 5 := ⟨t_276, t_278, ts_8, t_1, t_279, ⟨by decide +kernel, by decide +kernel, by decide +kernel⟩⟩
theorem f_BP_134 : hp_f BIG vcl "BandPainter" 134 0 8 := ⟨_, _, _, rfl, by decide, t_123⟩
theorem fp_BP_134 : hp_fp BIG vcl "BandPainter" 134 0 8 .int false := ⟨_, _, _, rfl, by decide, t_123, rfl, by decide +kernel, rfl⟩
theorem n_BP_95 : Cond.classLink "BandPainter" 95 "BandPainter$Picture" ∈ BIG ∧ Cond.instantiable "BandPainter$Picture" 5 ∈ BIG ∧ Cond.initialized "BandPainter$Picture" ∈ BIG := ⟨t_345, t_184, t_13⟩
theorem l_BP_138 : hp_lI BIG "BandPainter" 138 ⟨"BandPainter$Picture", "<init>", "(III)V"⟩ prog_5_method_1_code 4 3 := ⟨t_346, t_237, t_13, t_238, rfl, ⟨by decide +kernel, by decide +kernel, by decide +kernel⟩⟩
theorem l_BP_141 : hp_lV BIG "BandPainter" 141 ⟨"BandPainter$Picture", "setDots", "(IJJ)V"⟩ prog_5_method_2_code 6 none 3 := ⟨t_347, t_174, t_175, t_13, t_176, ⟨by decide +kernel, by decide +kernel, by decide +kernel⟩⟩
theorem l_BP_144 : hp_lV BIG "BandPainter" 144 ⟨"BandPainter$Picture", "turnedBy", "(I)LBandPainter$Picture;"⟩ prog_5_method_5_code 5 (some (.object "BandPainter$Picture")) 1 := ⟨t_348, t_232, t_233, t_13, t_234, ⟨by decide +kernel, by decide +kernel, by decide +kernel⟩⟩
theorem l_BP_145 : hp_lV BIG "BandPainter" 145 ⟨"BandPainter$Picture", "enlarged", "(I)LBandPainter$Picture;"⟩ prog_5_method_6_code 5 (some (.object "BandPainter$Picture")) 1 := ⟨t_349, t_350, t_351, t_13, t_352, ⟨by decide +kernel, by decide +kernel, by decide +kernel⟩⟩
theorem f_BP_43 : hp_f BIG vcl "BandPainter" 43 0 5 := ⟨_, _, _, rfl, by decide, t_120⟩
theorem l_BP_148 : hp_lV BIG "BandPainter" 148 ⟨"BandPainter$Pile", "clear", "()V"⟩ prog_6_method_2_code 2 none 0 := ⟨t_357, t_358, t_359, t_4, t_360, ⟨by decide +kernel, by decide +kernel, by decide +kernel⟩⟩
theorem l_BP_151 : hp_lV BIG "BandPainter" 151 ⟨"BandPainter$Pile", "wordOf", "(II)J"⟩ prog_6_method_5_code 3 (some .long) 2 := ⟨t_368, t_369, t_370, t_4, t_371, ⟨by decide +kernel, by decide +kernel, by decide +kernel⟩⟩
theorem l_BP_162 : Cond.methodLink "BandPainter" 162 Lib.Math.min.name ∈ BIG ∧ Cond.static Lib.Math.min.name ∈ BIG ∧ Cond.initialized "java/lang/Math" ∈ BIG ∧ Cond.code Lib.Math.min.name Lib.Math.min.code 2 (some .int) ∈ BIG := ⟨t_29, t_30, t_2, t_31⟩
theorem l_BP_168 : Cond.methodLink "BandPainter" 168 Lib.Math.max.name ∈ BIG ∧ Cond.static Lib.Math.max.name ∈ BIG ∧ Cond.initialized "java/lang/Math" ∈ BIG ∧ Cond.code Lib.Math.max.name Lib.Math.max.code 2 (some .int) ∈ BIG := ⟨t_32, t_33, t_2, t_34⟩
theorem l_BP_171 : hp_lV BIG "BandPainter" 171 ⟨"BandPainter$Pile", "blacksOf", "(I)I"⟩ prog_6_method_6_code 3 (some .int) 1 := ⟨t_408, t_409, t_410, t_4, t_411, ⟨by decide +kernel, by decide +kernel, by decide +kernel⟩⟩
theorem l_BP_175 : hp_lV BIG "BandPainter" 175 ⟨"BandPainter$Picture", "blacks", "()I"⟩ prog_5_method_3_code 3 (some .int) 0 := ⟨t_434, t_435, t_436, t_13, t_437, ⟨by decide +kernel, by decide +kernel, by decide +kernel⟩⟩
theorem l_BP_179 : hp_lS BIG "BandPainter" 179 ⟨"BandPainter", "oneIf", "(Z)I"⟩ prog_1_method_23_code 1 (some .int) 1 := ⟨t_439, t_440, t_1, t_441, ⟨by decide +kernel, by decide +kernel, by decide +kernel⟩⟩
theorem f_BP_20 : hp_f BIG vcl "BandPainter" 20 0 2 := ⟨_, _, _, rfl, by decide, t_117⟩
theorem f_BP_183 : hp_f BIG vcl "BandPainter" 183 5 3 := ⟨_, _, _, rfl, by decide, t_70⟩
theorem f_BP_52 : hp_f BIG vcl "BandPainter" 52 0 9 := ⟨_, _, _, rfl, by decide, t_124⟩
theorem f_BP_186 : hp_f BIG vcl "BandPainter" 186 2 0 := ⟨_, _, _, rfl, by decide, t_103⟩
theorem f_BP_189 : hp_f BIG vcl "BandPainter" 189 2 1 := ⟨_, _, _, rfl, by decide, t_105⟩
theorem f_BP_107 : hp_f BIG vcl "BandPainter" 107 0 10 := ⟨_, _, _, rfl, by decide, t_125⟩
theorem f_BP_110 : hp_f BIG vcl "BandPainter" 110 0 11 := ⟨_, _, _, rfl, by decide, t_126⟩
theorem n_BP_192 : Cond.classLink "BandPainter" 192 "BandPainter$Mark" ∈ BIG ∧ Cond.instantiable "BandPainter$Mark" 9 ∈ BIG ∧ Cond.initialized "BandPainter$Mark" ∈ BIG := ⟨t_280, t_281, t_14⟩
theorem f_BP_56 : hp_f BIG vcl "BandPainter" 56 0 13 := ⟨_, _, _, rfl, by decide, t_128⟩
theorem l_BP_194 : hp_lI BIG "BandPainter" 194 ⟨"BandPainter$Mark", "<init>", "(LBandPainter$Picture;IILBandPainter$Box;LBandPainter$Ink;ZZ)V"⟩ prog_4_method_1_code 8 7 := ⟨t_282, t_283, t_14, t_284, rfl, ⟨by decide +kernel, by decide +kernel, by decide +kernel⟩⟩
theorem l_BP_197 : hp_lV BIG "BandPainter" 197 ⟨"BandPainter$Pile", "add", "(LBandPainter$Mark;)V"⟩ prog_6_method_3_code 2 none 1 := ⟨t_321, t_322, t_323, t_4, t_324, ⟨by decide +kernel, by decide +kernel, by decide +kernel⟩⟩
theorem l_Mo_1 : Cond.methodLink "BandPainterModel" 1 Lib.objectInit ∈ BIG ∧ Cond.instanceMethod Lib.objectInit ∈ BIG ∧ Cond.code Lib.objectInit ⟨#[0xb1]⟩ 1 none ∈ BIG := ⟨t_591, t_24, t_25⟩
theorem fp_Mo_7 : hp_fp BIG vcl "BandPainterModel" 7 7 6 (.array .int) true := ⟨_, _, _, rfl, by decide, t_598, rfl, by decide +kernel, rfl⟩
theorem fp_Mo_13 : hp_fp BIG vcl "BandPainterModel" 13 7 7 (.array .int) true := ⟨_, _, _, rfl, by decide, t_599, rfl, by decide +kernel, rfl⟩
theorem fp_Mo_16 : hp_fp BIG vcl "BandPainterModel" 16 7 8 (.array .int) true := ⟨_, _, _, rfl, by decide, t_600, rfl, by decide +kernel, rfl⟩
theorem fp_Mo_19 : hp_fp BIG vcl "BandPainterModel" 19 7 9 (.array .boolean) true := ⟨_, _, _, rfl, by decide, t_601, rfl, by decide +kernel, rfl⟩
theorem fp_Mo_23 : hp_fp BIG vcl "BandPainterModel" 23 7 11 (.array .long) true := ⟨_, _, _, rfl, by decide, t_603, rfl, by decide +kernel, rfl⟩
theorem fp_Mo_27 : hp_fp BIG vcl "BandPainterModel" 27 7 1 .int true := ⟨_, _, _, rfl, by decide, t_593, rfl, by decide +kernel, rfl⟩
theorem fp_Mo_31 : hp_fp BIG vcl "BandPainterModel" 31 7 2 .int true := ⟨_, _, _, rfl, by decide, t_594, rfl, by decide +kernel, rfl⟩
theorem f_Mo_31 : hp_f BIG vcl "BandPainterModel" 31 7 2 := ⟨_, _, _, rfl, by decide, t_594⟩
theorem fp_Mo_34 : hp_fp BIG vcl "BandPainterModel" 34 7 3 .int true := ⟨_, _, _, rfl, by decide, t_595, rfl, by decide +kernel, rfl⟩
theorem fp_Mo_37 : hp_fp BIG vcl "BandPainterModel" 37 7 4 (.array .long) true := ⟨_, _, _, rfl, by decide, t_596, rfl, by decide +kernel, rfl⟩
theorem f_Mo_27 : hp_f BIG vcl "BandPainterModel" 27 7 1 := ⟨_, _, _, rfl, by decide, t_593⟩
theorem fp_Mo_40 : hp_fp BIG vcl "BandPainterModel" 40 7 21 .int false := ⟨_, _, _, rfl, by decide, t_613, rfl, by decide +kernel, rfl⟩
theorem fp_Mo_43 : hp_fp BIG vcl "BandPainterModel" 43 7 22 .int false := ⟨_, _, _, rfl, by decide, t_614, rfl, by decide +kernel, rfl⟩
theorem f_Mo_46 : hp_f BIG vcl "BandPainterModel" 46 7 0 := ⟨_, _, _, rfl, by decide, t_592⟩
theorem f_Mo_37 : hp_f BIG vcl "BandPainterModel" 37 7 4 := ⟨_, _, _, rfl, by decide, t_596⟩
theorem f_Mo_51 : hp_f BIG vcl "BandPainterModel" 51 7 14 := ⟨_, _, _, rfl, by decide, t_606⟩
theorem l_Mo_54 : hp_lS BIG "BandPainterModel" 54 ⟨"BandPainterModel", "threshold", "(II)I"⟩ prog_9_method_6_code 6 (some .int) 2 := ⟨t_729, t_730, t_6, t_731, ⟨by decide +kernel, by decide +kernel, by decide +kernel⟩⟩
theorem f_Mo_58 : hp_f BIG vcl "BandPainterModel" 58 7 15 := ⟨_, _, _, rfl, by decide, t_607⟩
theorem l_Mo_61 : hp_lS BIG "BandPainterModel" 61 ⟨"BandPainterModel", "hatch", "(III)Z"⟩ prog_9_method_7_code 9 (some .boolean) 3 := ⟨t_732, t_733, t_6, t_734, ⟨by decide +kernel, by decide +kernel, by decide +kernel⟩⟩
theorem l_Mo_65 : hp_lV BIG "BandPainterModel" 65 ⟨"BandPainterModel", "isIn", "(II)Z"⟩ prog_9_method_3_code 3 (some .boolean) 2 := ⟨t_717, t_719, ts_18, t_6, t_720, ⟨by decide +kernel, by decide +kernel, by decide +kernel⟩⟩
theorem f_Mo_69 : hp_f BIG vcl "BandPainterModel" 69 7 19 := ⟨_, _, _, rfl, by decide, t_611⟩
theorem f_Mo_40 : hp_f BIG vcl "BandPainterModel" 40 7 21 := ⟨_, _, _, rfl, by decide, t_613⟩
theorem f_Mo_72 : hp_f BIG vcl "BandPainterModel" 72 7 20 := ⟨_, _, _, rfl, by decide, t_612⟩
theorem f_Mo_43 : hp_f BIG vcl "BandPainterModel" 43 7 22 := ⟨_, _, _, rfl, by decide, t_614⟩
theorem f_Mo_75 : hp_f BIG vcl "BandPainterModel" 75 7 16 := ⟨_, _, _, rfl, by decide, t_608⟩
theorem l_Mo_79 : hp_lV BIG "BandPainterModel" 79 ⟨"BandPainterModel", "set", "(IIZ)V"⟩ prog_9_method_5_code 7 none 3 := ⟨t_721, t_723, ts_19, t_6, t_724, ⟨by decide +kernel, by decide +kernel, by decide +kernel⟩⟩
theorem l_Mo_83 : hp_lV BIG "BandPainterModel" 83 ⟨"BandPainterModel", "isInk", "(II)Z"⟩ prog_9_method_8_code 3 (some .boolean) 2 := ⟨t_725, t_727, ts_20, t_6, t_728, ⟨by decide +kernel, by decide +kernel, by decide +kernel⟩⟩
theorem f_Mo_86 : hp_f BIG vcl "BandPainterModel" 86 7 17 := ⟨_, _, _, rfl, by decide, t_609⟩
theorem f_Mo_89 : hp_f BIG vcl "BandPainterModel" 89 7 18 := ⟨_, _, _, rfl, by decide, t_610⟩
theorem l_Mo_92 : hp_lV BIG "BandPainterModel" 92 ⟨"BandPainterModel", "paint", "(IIZ)V"⟩ prog_9_method_9_code 4 none 3 := ⟨t_713, t_715, ts_17, t_6, t_716, ⟨by decide +kernel, by decide +kernel, by decide +kernel⟩⟩
theorem f_Mo_95 : hp_f BIG vcl "BandPainterModel" 95 7 5 := ⟨_, _, _, rfl, by decide, t_597⟩
theorem f_Mo_98 : hp_f BIG vcl "BandPainterModel" 98 7 10 := ⟨_, _, _, rfl, by decide, t_602⟩
theorem fp_Mo_46 : hp_fp BIG vcl "BandPainterModel" 46 7 0 .int false := ⟨_, _, _, rfl, by decide, t_592, rfl, by decide +kernel, rfl⟩
theorem f_Mo_7 : hp_f BIG vcl "BandPainterModel" 7 7 6 := ⟨_, _, _, rfl, by decide, t_598⟩
theorem f_Mo_13 : hp_f BIG vcl "BandPainterModel" 13 7 7 := ⟨_, _, _, rfl, by decide, t_599⟩
theorem f_Mo_16 : hp_f BIG vcl "BandPainterModel" 16 7 8 := ⟨_, _, _, rfl, by decide, t_600⟩
theorem f_Mo_19 : hp_f BIG vcl "BandPainterModel" 19 7 9 := ⟨_, _, _, rfl, by decide, t_601⟩
theorem f_Mo_23 : hp_f BIG vcl "BandPainterModel" 23 7 11 := ⟨_, _, _, rfl, by decide, t_603⟩
theorem fp_Mo_98 : hp_fp BIG vcl "BandPainterModel" 98 7 10 .int false := ⟨_, _, _, rfl, by decide, t_602, rfl, by decide +kernel, rfl⟩
theorem fp_Mo_95 : hp_fp BIG vcl "BandPainterModel" 95 7 5 .int false := ⟨_, _, _, rfl, by decide, t_597, rfl, by decide +kernel, rfl⟩
theorem l_Mo_101 : hp_lV BIG "BandPainterModel" 101 ⟨"BandPainterModel", "isShape", "(I)Z"⟩ prog_9_method_12_code 2 (some .boolean) 1 := ⟨t_674, t_676, ts_14, t_6, t_677, ⟨by decide +kernel, by decide +kernel, by decide +kernel⟩⟩
theorem l_Mo_105 : hp_lS BIG "BandPainterModel" 105 ⟨"BandPainterModel", "highest", "(JI)J"⟩ prog_9_method_13_code 3 (some .long) 2 := ⟨t_678, t_679, t_6, t_680, ⟨by decide +kernel, by decide +kernel, by decide +kernel⟩⟩
theorem fp_Mo_51 : hp_fp BIG vcl "BandPainterModel" 51 7 14 .int false := ⟨_, _, _, rfl, by decide, t_606, rfl, by decide +kernel, rfl⟩
theorem fp_Mo_58 : hp_fp BIG vcl "BandPainterModel" 58 7 15 .int false := ⟨_, _, _, rfl, by decide, t_607, rfl, by decide +kernel, rfl⟩
theorem fp_Mo_75 : hp_fp BIG vcl "BandPainterModel" 75 7 16 .boolean false := ⟨_, _, _, rfl, by decide, t_608, rfl, by decide +kernel, rfl⟩
theorem fp_Mo_86 : hp_fp BIG vcl "BandPainterModel" 86 7 17 .boolean false := ⟨_, _, _, rfl, by decide, t_609, rfl, by decide +kernel, rfl⟩
theorem fp_Mo_89 : hp_fp BIG vcl "BandPainterModel" 89 7 18 .int false := ⟨_, _, _, rfl, by decide, t_610, rfl, by decide +kernel, rfl⟩
theorem fp_Mo_69 : hp_fp BIG vcl "BandPainterModel" 69 7 19 .int false := ⟨_, _, _, rfl, by decide, t_611, rfl, by decide +kernel, rfl⟩
theorem fp_Mo_72 : hp_fp BIG vcl "BandPainterModel" 72 7 20 .int false := ⟨_, _, _, rfl, by decide, t_612, rfl, by decide +kernel, rfl⟩
theorem l_Mo_109 : hp_lS BIG "BandPainterModel" 109 ⟨"BandPainterModel", "isPlace", "(I)Z"⟩ prog_9_method_20_code 1 (some .boolean) 1 := ⟨t_702, t_703, t_6, t_704, ⟨by decide +kernel, by decide +kernel, by decide +kernel⟩⟩
theorem f_Mo_112 : hp_f BIG vcl "BandPainterModel" 112 7 12 := ⟨_, _, _, rfl, by decide, t_604⟩
theorem fp_Mo_112 : hp_fp BIG vcl "BandPainterModel" 112 7 12 .int false := ⟨_, _, _, rfl, by decide, t_604, rfl, by decide +kernel, rfl⟩
theorem l_Mo_115 : hp_lV BIG "BandPainterModel" 115 ⟨"BandPainterModel", "shapeDot", "(III)Z"⟩ prog_9_method_15_code 4 (some .boolean) 3 := ⟨t_705, t_707, ts_15, t_6, t_708, ⟨by decide +kernel, by decide +kernel, by decide +kernel⟩⟩
theorem l_Mo_118 : hp_lV BIG "BandPainterModel" 118 ⟨"BandPainterModel", "lay", "(IIIIZ)V"⟩ prog_9_method_10_code 8 none 5 := ⟨t_709, t_711, ts_16, t_6, t_712, ⟨by decide +kernel, by decide +kernel, by decide +kernel⟩⟩
theorem l_Mo_122 : hp_lS BIG "BandPainterModel" 122 ⟨"BandPainterModel", "most", "(II)I"⟩ prog_9_method_22_code 2 (some .int) 2 := ⟨t_739, t_740, t_6, t_741, ⟨by decide +kernel, by decide +kernel, by decide +kernel⟩⟩
theorem l_Mo_125 : hp_lS BIG "BandPainterModel" 125 ⟨"BandPainterModel", "least", "(II)I"⟩ prog_9_method_23_code 2 (some .int) 2 := ⟨t_742, t_743, t_6, t_744, ⟨by decide +kernel, by decide +kernel, by decide +kernel⟩⟩
theorem f_Mo_128 : hp_f BIG vcl "BandPainterModel" 128 7 13 := ⟨_, _, _, rfl, by decide, t_605⟩
theorem fp_Mo_128 : hp_fp BIG vcl "BandPainterModel" 128 7 13 .int false := ⟨_, _, _, rfl, by decide, t_605, rfl, by decide +kernel, rfl⟩
theorem l_Mo_132 : hp_lV BIG "BandPainterModel" 132 ⟨"BandPainterModel", "isBlack", "(II)Z"⟩ prog_9_method_4_code 3 (some .boolean) 2 := ⟨t_762, t_764, ts_21, t_6, t_765, ⟨by decide +kernel, by decide +kernel, by decide +kernel⟩⟩
theorem l_Mo_135 : hp_lS BIG "BandPainterModel" 135 ⟨"BandPainterModel", "ones", "(J)I"⟩ prog_9_method_29_code 5 (some .int) 1 := ⟨t_774, t_775, t_6, t_776, ⟨by decide +kernel, by decide +kernel, by decide +kernel⟩⟩
theorem l_Mo_139 : hp_lV BIG "BandPainterModel" 139 ⟨"BandPainterModel", "blacksOf", "(I)I"⟩ prog_9_method_30_code 4 (some .int) 1 := ⟨t_770, t_772, ts_22, t_6, t_773, ⟨by decide +kernel, by decide +kernel, by decide +kernel⟩⟩
theorem f_Mo_34 : hp_f BIG vcl "BandPainterModel" 34 7 3 := ⟨_, _, _, rfl, by decide, t_595⟩
theorem l_Bx_3 : Cond.methodLink "BandPainter$Box" 3 Lib.objectInit ∈ BIG ∧ Cond.instanceMethod Lib.objectInit ∈ BIG ∧ Cond.code Lib.objectInit ⟨#[0xb1]⟩ 1 none ∈ BIG := ⟨t_40, t_24, t_25⟩
theorem fp_Bx_9 : hp_fp BIG vcl "BandPainter$Box" 9 1 0 .int true := ⟨_, _, _, rfl, by decide, t_41, rfl, by decide +kernel, rfl⟩
theorem fp_Bx_15 : hp_fp BIG vcl "BandPainter$Box" 15 1 1 .int true := ⟨_, _, _, rfl, by decide, t_43, rfl, by decide +kernel, rfl⟩
theorem fp_Bx_18 : hp_fp BIG vcl "BandPainter$Box" 18 1 2 .int true := ⟨_, _, _, rfl, by decide, t_45, rfl, by decide +kernel, rfl⟩
theorem fp_Bx_21 : hp_fp BIG vcl "BandPainter$Box" 21 1 3 .int true := ⟨_, _, _, rfl, by decide, t_47, rfl, by decide +kernel, rfl⟩
theorem n_Bx_10 : Cond.classLink "BandPainter$Box" 10 "BandPainter$Box" ∈ BIG ∧ Cond.instantiable "BandPainter$Box" 4 ∈ BIG ∧ Cond.initialized "BandPainter$Box" ∈ BIG := ⟨t_214, t_36, t_3⟩
theorem f_Bx_9 : hp_f BIG vcl "BandPainter$Box" 9 1 0 := ⟨_, _, _, rfl, by decide, t_41⟩
theorem l_Bx_24 : Cond.methodLink "BandPainter$Box" 24 Lib.Math.max.name ∈ BIG ∧ Cond.static Lib.Math.max.name ∈ BIG ∧ Cond.initialized "java/lang/Math" ∈ BIG ∧ Cond.code Lib.Math.max.name Lib.Math.max.code 2 (some .int) ∈ BIG := ⟨t_215, t_33, t_2, t_34⟩
theorem f_Bx_15 : hp_f BIG vcl "BandPainter$Box" 15 1 1 := ⟨_, _, _, rfl, by decide, t_43⟩
theorem f_Bx_18 : hp_f BIG vcl "BandPainter$Box" 18 1 2 := ⟨_, _, _, rfl, by decide, t_45⟩
theorem l_Bx_30 : Cond.methodLink "BandPainter$Box" 30 Lib.Math.min.name ∈ BIG ∧ Cond.static Lib.Math.min.name ∈ BIG ∧ Cond.initialized "java/lang/Math" ∈ BIG ∧ Cond.code Lib.Math.min.name Lib.Math.min.code 2 (some .int) ∈ BIG := ⟨t_216, t_30, t_2, t_31⟩
theorem f_Bx_21 : hp_f BIG vcl "BandPainter$Box" 21 1 3 := ⟨_, _, _, rfl, by decide, t_47⟩
theorem l_Bx_33 : hp_lI BIG "BandPainter$Box" 33 ⟨"BandPainter$Box", "<init>", "(IIII)V"⟩ prog_2_method_1_code 5 4 := ⟨t_217, t_38, t_3, t_39, rfl, ⟨by decide +kernel, by decide +kernel, by decide +kernel⟩⟩
theorem l_Bx_36 : hp_lN BIG vnl "BandPainter$Box" 36 ⟨"BandPainter", "firstDots", "(I)J"⟩ "BandPainter" prog_1_method_24_code 1 (some .long) 1 := ⟨List.mem_of_getElem? (i := 4) rfl, t_178, t_1, t_179, ⟨by decide +kernel, by decide +kernel, by decide +kernel⟩⟩
theorem l_In_3 : Cond.methodLink "BandPainter$Ink" 3 Lib.objectInit ∈ BIG ∧ Cond.instanceMethod Lib.objectInit ∈ BIG ∧ Cond.code Lib.objectInit ⟨#[0xb1]⟩ 1 none ∈ BIG := ⟨t_90, t_24, t_25⟩
theorem fp_In_9 : hp_fp BIG vcl "BandPainter$Ink" 9 2 0 .int true := ⟨_, _, _, rfl, by decide, t_102, rfl, by decide +kernel, rfl⟩
theorem fp_In_15 : hp_fp BIG vcl "BandPainter$Ink" 15 2 1 .int true := ⟨_, _, _, rfl, by decide, t_104, rfl, by decide +kernel, rfl⟩
theorem fp_In_18 : hp_fp BIG vcl "BandPainter$Ink" 18 2 2 (.array .long) true := ⟨_, _, _, rfl, by decide, t_106, rfl, by decide +kernel, rfl⟩
theorem f_In_18 : hp_f BIG vcl "BandPainter$Ink" 18 2 2 := ⟨_, _, _, rfl, by decide, t_106⟩
theorem l_In_22 : hp_lS BIG "BandPainter$Ink" 22 ⟨"BandPainter$Ink", "dotsOfLine", "(III)J"⟩ prog_3_method_4_code 6 (some .long) 3 := ⟨t_91, t_92, t_5, t_93, ⟨by decide +kernel, by decide +kernel, by decide +kernel⟩⟩
theorem l_In_26 : hp_lN BIG vnl "BandPainter$Ink" 26 ⟨"BandPainter", "isWithin", "(III)Z"⟩ "BandPainter" prog_1_method_21_code 3 (some .boolean) 3 := ⟨List.mem_of_getElem? (i := 1) rfl, t_167, t_1, t_168, ⟨by decide +kernel, by decide +kernel, by decide +kernel⟩⟩
theorem l_In_32 : hp_lS BIG "BandPainter$Ink" 32 ⟨"BandPainter$Ink", "isShaded", "(III)Z"⟩ prog_3_method_5_code 7 (some .boolean) 3 := ⟨t_95, t_96, t_5, t_97, ⟨by decide +kernel, by decide +kernel, by decide +kernel⟩⟩
theorem l_In_35 : hp_lS BIG "BandPainter$Ink" 35 ⟨"BandPainter$Ink", "isHatched", "(III)Z"⟩ prog_3_method_6_code 7 (some .boolean) 3 := ⟨t_98, t_99, t_5, t_100, ⟨by decide +kernel, by decide +kernel, by decide +kernel⟩⟩
theorem l_Mk_1 : Cond.methodLink "BandPainter$Mark" 1 Lib.objectInit ∈ BIG ∧ Cond.instanceMethod Lib.objectInit ∈ BIG ∧ Cond.code Lib.objectInit ⟨#[0xb1]⟩ 1 none ∈ BIG := ⟨t_285, t_24, t_25⟩
theorem fp_Mk_7 : hp_fp BIG vcl "BandPainter$Mark" 7 3 0 (.object "BandPainter$Picture") true := ⟨_, _, _, rfl, by decide, t_286, rfl, by decide +kernel, rfl⟩
theorem fp_Mk_13 : hp_fp BIG vcl "BandPainter$Mark" 13 3 1 .int true := ⟨_, _, _, rfl, by decide, t_288, rfl, by decide +kernel, rfl⟩
theorem fp_Mk_17 : hp_fp BIG vcl "BandPainter$Mark" 17 3 2 .int true := ⟨_, _, _, rfl, by decide, t_290, rfl, by decide +kernel, rfl⟩
theorem fp_Mk_20 : hp_fp BIG vcl "BandPainter$Mark" 20 3 3 (.object "BandPainter$Box") true := ⟨_, _, _, rfl, by decide, t_292, rfl, by decide +kernel, rfl⟩
theorem fp_Mk_24 : hp_fp BIG vcl "BandPainter$Mark" 24 3 4 (.object "BandPainter$Ink") true := ⟨_, _, _, rfl, by decide, t_294, rfl, by decide +kernel, rfl⟩
theorem fp_Mk_28 : hp_fp BIG vcl "BandPainter$Mark" 28 3 5 .boolean true := ⟨_, _, _, rfl, by decide, t_296, rfl, by decide +kernel, rfl⟩
theorem fp_Mk_32 : hp_fp BIG vcl "BandPainter$Mark" 32 3 6 .boolean true := ⟨_, _, _, rfl, by decide, t_298, rfl, by decide +kernel, rfl⟩
theorem l_Pc_3 : Cond.methodLink "BandPainter$Picture" 3 Lib.objectInit ∈ BIG ∧ Cond.instanceMethod Lib.objectInit ∈ BIG ∧ Cond.code Lib.objectInit ⟨#[0xb1]⟩ 1 none ∈ BIG := ⟨t_239, t_24, t_25⟩
theorem l_Pc_9 : Cond.methodLink "BandPainter$Picture" 9 Lib.Math.max.name ∈ BIG ∧ Cond.static Lib.Math.max.name ∈ BIG ∧ Cond.initialized "java/lang/Math" ∈ BIG ∧ Cond.code Lib.Math.max.name Lib.Math.max.code 2 (some .int) ∈ BIG := ⟨t_240, t_33, t_2, t_34⟩
theorem fp_Pc_15 : hp_fp BIG vcl "BandPainter$Picture" 15 4 0 .int true := ⟨_, _, _, rfl, by decide, t_241, rfl, by decide +kernel, rfl⟩
theorem fp_Pc_21 : hp_fp BIG vcl "BandPainter$Picture" 21 4 1 .int true := ⟨_, _, _, rfl, by decide, t_243, rfl, by decide +kernel, rfl⟩
theorem fp_Pc_24 : hp_fp BIG vcl "BandPainter$Picture" 24 4 2 .int true := ⟨_, _, _, rfl, by decide, t_245, rfl, by decide +kernel, rfl⟩
theorem f_Pc_15 : hp_f BIG vcl "BandPainter$Picture" 15 4 0 := ⟨_, _, _, rfl, by decide, t_241⟩
theorem fp_Pc_27 : hp_fp BIG vcl "BandPainter$Picture" 27 4 3 .int true := ⟨_, _, _, rfl, by decide, t_246, rfl, by decide +kernel, rfl⟩
theorem f_Pc_27 : hp_f BIG vcl "BandPainter$Picture" 27 4 3 := ⟨_, _, _, rfl, by decide, t_246⟩
theorem f_Pc_21 : hp_f BIG vcl "BandPainter$Picture" 21 4 1 := ⟨_, _, _, rfl, by decide, t_243⟩
theorem fp_Pc_30 : hp_fp BIG vcl "BandPainter$Picture" 30 4 4 (.array .long) true := ⟨_, _, _, rfl, by decide, t_247, rfl, by decide +kernel, rfl⟩
theorem l_Pc_34 : hp_lN BIG vnl "BandPainter$Picture" 34 ⟨"BandPainter", "firstDots", "(I)J"⟩ "BandPainter" prog_1_method_24_code 1 (some .long) 1 := ⟨List.mem_of_getElem? (i := 0) rfl, t_178, t_1, t_179, ⟨by decide +kernel, by decide +kernel, by decide +kernel⟩⟩
theorem l_Pc_38 : hp_lV BIG "BandPainter$Picture" 38 ⟨"BandPainter$Picture", "setWord", "(IIJ)V"⟩ prog_5_method_11_code 5 none 3 := ⟨t_181, t_183, ts_1, t_13, t_185, ⟨by decide +kernel, by decide +kernel, by decide +kernel⟩⟩
theorem f_Pc_30 : hp_f BIG vcl "BandPainter$Picture" 30 4 4 := ⟨_, _, _, rfl, by decide, t_247⟩
theorem l_Pc_42 : hp_lS BIG "BandPainter$Picture" 42 ⟨"java/lang/Long", "bitCount", "(J)I"⟩ prog_14_method_50_code 2 (some .int) 1 := ⟨t_438, t_421, t_17, t_422, ⟨by decide +kernel, by decide +kernel, by decide +kernel⟩⟩
theorem f_Pc_24 : hp_f BIG vcl "BandPainter$Picture" 24 4 2 := ⟨_, _, _, rfl, by decide, t_245⟩
theorem l_Pc_48 : hp_lS BIG "BandPainter$Picture" 48 ⟨"java/lang/Math", "floorDiv", "(II)I"⟩ prog_15_method_47_code 3 (some .int) 2 := ⟨t_394, t_395, t_2, t_396, ⟨by decide +kernel, by decide +kernel, by decide +kernel⟩⟩
theorem l_Pc_51 : hp_lS BIG "BandPainter$Picture" 51 ⟨"java/lang/Math", "floorMod", "(II)I"⟩ prog_15_method_50_code 3 (some .int) 2 := ⟨t_397, t_398, t_2, t_399, ⟨by decide +kernel, by decide +kernel, by decide +kernel⟩⟩
theorem l_Pc_54 : hp_lV BIG "BandPainter$Picture" 54 ⟨"BandPainter$Picture", "wordAt", "(II)J"⟩ prog_5_method_10_code 3 (some .long) 2 := ⟨t_263, t_265, ts_5, t_13, t_266, ⟨by decide +kernel, by decide +kernel, by decide +kernel⟩⟩
theorem n_Pc_16 : Cond.classLink "BandPainter$Picture" 16 "BandPainter$Picture" ∈ BIG ∧ Cond.instantiable "BandPainter$Picture" 5 ∈ BIG ∧ Cond.initialized "BandPainter$Picture" ∈ BIG := ⟨t_235, t_184, t_13⟩
theorem l_Pc_58 : hp_lI BIG "BandPainter$Picture" 58 ⟨"BandPainter$Picture", "<init>", "(III)V"⟩ prog_5_method_1_code 4 3 := ⟨t_236, t_237, t_13, t_238, rfl, ⟨by decide +kernel, by decide +kernel, by decide +kernel⟩⟩
theorem l_Pc_61 : hp_lV BIG "BandPainter$Picture" 61 ⟨"BandPainter$Picture", "isBlack", "(II)Z"⟩ prog_5_method_8_code 3 (some .boolean) 2 := ⟨t_259, t_261, ts_4, t_13, t_262, ⟨by decide +kernel, by decide +kernel, by decide +kernel⟩⟩
theorem l_Pc_65 : hp_lV BIG "BandPainter$Picture" 65 ⟨"BandPainter$Picture", "blackenTurned", "(III)V"⟩ prog_5_method_7_code 4 none 3 := ⟨t_268, t_270, ts_6, t_13, t_271, ⟨by decide +kernel, by decide +kernel, by decide +kernel⟩⟩
theorem l_Pc_68 : hp_lV BIG "BandPainter$Picture" 68 ⟨"BandPainter$Picture", "blacken", "(II)V"⟩ prog_5_method_9_code 3 none 2 := ⟨t_272, t_274, ts_7, t_13, t_275, ⟨by decide +kernel, by decide +kernel, by decide +kernel⟩⟩
theorem l_Pc_74 : hp_lV BIG "BandPainter$Picture" 74 ⟨"BandPainter$Picture", "hasWord", "(II)Z"⟩ prog_5_method_12_code 3 (some .boolean) 2 := ⟨t_186, t_188, ts_2, t_13, t_189, ⟨by decide +kernel, by decide +kernel, by decide +kernel⟩⟩
theorem l_Pl_3 : Cond.methodLink "BandPainter$Pile" 3 Lib.objectInit ∈ BIG ∧ Cond.instanceMethod Lib.objectInit ∈ BIG ∧ Cond.code Lib.objectInit ⟨#[0xb1]⟩ 1 none ∈ BIG := ⟨t_65, t_24, t_25⟩
theorem fp_Pl_9 : hp_fp BIG vcl "BandPainter$Pile" 9 5 0 .int true := ⟨_, _, _, rfl, by decide, t_66, rfl, by decide +kernel, rfl⟩
theorem fp_Pl_15 : hp_fp BIG vcl "BandPainter$Pile" 15 5 1 (.array .int) true := ⟨_, _, _, rfl, by decide, t_67, rfl, by decide +kernel, rfl⟩
theorem fp_Pl_19 : hp_fp BIG vcl "BandPainter$Pile" 19 5 2 (.array .boolean) true := ⟨_, _, _, rfl, by decide, t_68, rfl, by decide +kernel, rfl⟩
theorem fp_Pl_23 : hp_fp BIG vcl "BandPainter$Pile" 23 5 3 .int false := ⟨_, _, _, rfl, by decide, t_69, rfl, by decide +kernel, rfl⟩
theorem fp_Pl_26 : hp_fp BIG vcl "BandPainter$Pile" 26 5 4 (.object "BandPainter$Mark") false := ⟨_, _, _, rfl, by decide, t_71, rfl, by decide +kernel, rfl⟩
theorem f_Pl_15 : hp_f BIG vcl "BandPainter$Pile" 15 5 1 := ⟨_, _, _, rfl, by decide, t_67⟩
theorem l_Pl_30 : hp_lS BIG "BandPainter$Pile" 30 ⟨"java/util/Arrays", "fill", "([II)V"⟩ prog_19_method_103_code 4 none 2 := ⟨t_361, t_362, t_15, t_363, ⟨by decide +kernel, by decide +kernel, by decide +kernel⟩⟩
theorem f_Pl_9 : hp_f BIG vcl "BandPainter$Pile" 9 5 0 := ⟨_, _, _, rfl, by decide, t_66⟩
theorem f_Pl_19 : hp_f BIG vcl "BandPainter$Pile" 19 5 2 := ⟨_, _, _, rfl, by decide, t_68⟩
theorem f_Pl_23 : hp_f BIG vcl "BandPainter$Pile" 23 5 3 := ⟨_, _, _, rfl, by decide, t_69⟩
theorem f_Pl_36 : hp_f BIG vcl "BandPainter$Pile" 36 3 3 := ⟨_, _, _, rfl, by decide, t_293⟩
theorem l_Pl_42 : hp_lV BIG "BandPainter$Pile" 42 ⟨"BandPainter$Box", "isEmpty", "()Z"⟩ prog_2_method_3_code 1 (some .boolean) 0 := ⟨t_325, t_326, t_327, t_3, t_328, ⟨by decide +kernel, by decide +kernel, by decide +kernel⟩⟩
theorem f_Pl_26 : hp_f BIG vcl "BandPainter$Pile" 26 5 4 := ⟨_, _, _, rfl, by decide, t_71⟩
theorem fp_Pl_48 : hp_fp BIG vcl "BandPainter$Pile" 48 3 7 (.object "BandPainter$Mark") false := ⟨_, _, _, rfl, by decide, t_300, rfl, by decide +kernel, rfl⟩
theorem l_Pl_51 : hp_lV BIG "BandPainter$Pile" 51 ⟨"BandPainter$Pile", "stir", "(LBandPainter$Mark;)V"⟩ prog_6_method_4_code 5 none 1 := ⟨t_329, t_331, ts_9, t_4, t_332, ⟨by decide +kernel, by decide +kernel, by decide +kernel⟩⟩
theorem f_Pl_55 : hp_f BIG vcl "BandPainter$Pile" 55 1 1 := ⟨_, _, _, rfl, by decide, t_44⟩
theorem l_Pl_58 : Cond.methodLink "BandPainter$Pile" 58 Lib.Math.max.name ∈ BIG ∧ Cond.static Lib.Math.max.name ∈ BIG ∧ Cond.initialized "java/lang/Math" ∈ BIG ∧ Cond.code Lib.Math.max.name Lib.Math.max.code 2 (some .int) ∈ BIG := ⟨t_333, t_33, t_2, t_34⟩
theorem f_Pl_64 : hp_f BIG vcl "BandPainter$Pile" 64 1 3 := ⟨_, _, _, rfl, by decide, t_48⟩
theorem l_Pl_67 : Cond.methodLink "BandPainter$Pile" 67 Lib.Math.min.name ∈ BIG ∧ Cond.static Lib.Math.min.name ∈ BIG ∧ Cond.initialized "java/lang/Math" ∈ BIG ∧ Cond.code Lib.Math.min.name Lib.Math.min.code 2 (some .int) ∈ BIG := ⟨t_334, t_30, t_2, t_31⟩
theorem f_Pl_70 : hp_f BIG vcl "BandPainter$Pile" 70 3 0 := ⟨_, _, _, rfl, by decide, t_287⟩
theorem l_Pl_74 : hp_lN BIG vnl "BandPainter$Pile" 74 ⟨"BandPainter", "isWithin", "(III)Z"⟩ "BandPainter" prog_1_method_21_code 3 (some .boolean) 3 := ⟨List.mem_of_getElem? (i := 3) rfl, t_167, t_1, t_168, ⟨by decide +kernel, by decide +kernel, by decide +kernel⟩⟩
theorem l_Pl_78 : hp_lV BIG "BandPainter$Pile" 78 ⟨"BandPainter$Pile", "newestOnLine", "(I)LBandPainter$Mark;"⟩ prog_6_method_9_code 5 (some (.object "BandPainter$Mark")) 1 := ⟨t_372, t_374, ts_10, t_4, t_375, ⟨by decide +kernel, by decide +kernel, by decide +kernel⟩⟩
theorem l_Pl_82 : hp_lS BIG "BandPainter$Pile" 82 ⟨"BandPainter$Pile", "wordUnder", "(LBandPainter$Mark;II)J"⟩ prog_6_method_10_code 15 (some .long) 3 := ⟨t_380, t_381, t_4, t_382, ⟨by decide +kernel, by decide +kernel, by decide +kernel⟩⟩
theorem l_Pl_86 : hp_lV BIG "BandPainter$Pile" 86 ⟨"BandPainter$Pile", "isLikeAbove", "(I)Z"⟩ prog_6_method_7_code 3 (some .boolean) 1 := ⟨t_412, t_414, ts_11, t_4, t_415, ⟨by decide +kernel, by decide +kernel, by decide +kernel⟩⟩
theorem l_Pl_90 : hp_lV BIG "BandPainter$Pile" 90 ⟨"BandPainter$Pile", "countedBlacks", "(I)I"⟩ prog_6_method_8_code 7 (some .int) 1 := ⟨t_416, t_418, ts_12, t_4, t_419, ⟨by decide +kernel, by decide +kernel, by decide +kernel⟩⟩
theorem f_Pl_94 : hp_f BIG vcl "BandPainter$Pile" 94 1 0 := ⟨_, _, _, rfl, by decide, t_42⟩
theorem f_Pl_97 : hp_f BIG vcl "BandPainter$Pile" 97 1 2 := ⟨_, _, _, rfl, by decide, t_46⟩
theorem f_Pl_100 : hp_f BIG vcl "BandPainter$Pile" 100 3 8 := ⟨_, _, _, rfl, by decide, t_301⟩
theorem l_Pl_103 : hp_lS BIG "BandPainter$Pile" 103 ⟨"java/lang/Long", "bitCount", "(J)I"⟩ prog_14_method_50_code 2 (some .int) 1 := ⟨t_420, t_421, t_17, t_422, ⟨by decide +kernel, by decide +kernel, by decide +kernel⟩⟩
theorem l_Pl_109 : hp_lV BIG "BandPainter$Pile" 109 ⟨"BandPainter$Box", "meetsLine", "(I)Z"⟩ prog_2_method_4_code 2 (some .boolean) 1 := ⟨t_376, t_377, t_378, t_3, t_379, ⟨by decide +kernel, by decide +kernel, by decide +kernel⟩⟩
theorem fp_Pl_100 : hp_fp BIG vcl "BandPainter$Pile" 100 3 8 (.object "BandPainter$Mark") false := ⟨_, _, _, rfl, by decide, t_301, rfl, by decide +kernel, rfl⟩
theorem f_Pl_48 : hp_f BIG vcl "BandPainter$Pile" 48 3 7 := ⟨_, _, _, rfl, by decide, t_300⟩
theorem l_Pl_114 : hp_lV BIG "BandPainter$Pile" 114 ⟨"BandPainter$Box", "dotsOfWord", "(I)J"⟩ prog_2_method_5_code 3 (some .long) 1 := ⟨t_384, t_385, t_386, t_3, t_387, ⟨by decide +kernel, by decide +kernel, by decide +kernel⟩⟩
theorem f_Pl_118 : hp_f BIG vcl "BandPainter$Pile" 118 3 2 := ⟨_, _, _, rfl, by decide, t_291⟩
theorem f_Pl_121 : hp_f BIG vcl "BandPainter$Pile" 121 3 1 := ⟨_, _, _, rfl, by decide, t_289⟩
theorem l_Pl_124 : hp_lV BIG "BandPainter$Pile" 124 ⟨"BandPainter$Picture", "dotsFrom", "(II)J"⟩ prog_5_method_4_code 8 (some .long) 2 := ⟨t_390, t_391, t_392, t_13, t_393, ⟨by decide +kernel, by decide +kernel, by decide +kernel⟩⟩
theorem f_Pl_130 : hp_f BIG vcl "BandPainter$Pile" 130 3 4 := ⟨_, _, _, rfl, by decide, t_295⟩
theorem l_Pl_134 : hp_lV BIG "BandPainter$Pile" 134 ⟨"BandPainter$Ink", "dotsAt", "(I)J"⟩ prog_3_method_3_code 2 (some .long) 1 := ⟨t_400, t_401, t_402, t_5, t_403, ⟨by decide +kernel, by decide +kernel, by decide +kernel⟩⟩
theorem f_Pl_139 : hp_f BIG vcl "BandPainter$Pile" 139 3 6 := ⟨_, _, _, rfl, by decide, t_299⟩
theorem f_Pl_143 : hp_f BIG vcl "BandPainter$Pile" 143 3 5 := ⟨_, _, _, rfl, by decide, t_297⟩
theorem l_Sh_3 : Cond.methodLink "BandPainter$Shape" 3 Lib.objectInit ∈ BIG ∧ Cond.instanceMethod Lib.objectInit ∈ BIG ∧ Cond.code Lib.objectInit ⟨#[0xb1]⟩ 1 none ∈ BIG := ⟨t_546, t_24, t_25⟩
theorem n_Sh_9 : Cond.classLink "BandPainter$Shape" 9 "BandPainter$Picture" ∈ BIG ∧ Cond.instantiable "BandPainter$Picture" 5 ∈ BIG ∧ Cond.initialized "BandPainter$Picture" ∈ BIG := ⟨t_547, t_184, t_13⟩
theorem l_Sh_11 : hp_lI BIG "BandPainter$Shape" 11 ⟨"BandPainter$Picture", "<init>", "(III)V"⟩ prog_5_method_1_code 4 3 := ⟨t_548, t_237, t_13, t_238, rfl, ⟨by decide +kernel, by decide +kernel, by decide +kernel⟩⟩
theorem fp_Sh_14 : hp_fp BIG vcl "BandPainter$Shape" 14 6 0 (.object "BandPainter$Picture") true := ⟨_, _, _, rfl, by decide, t_550, rfl, by decide +kernel, rfl⟩
theorem fp_Sh_20 : hp_fp BIG vcl "BandPainter$Shape" 20 6 1 (.array (.object "BandPainter$Picture")) true := ⟨_, _, _, rfl, by decide, t_552, rfl, by decide +kernel, rfl⟩
theorem f_Sh_14 : hp_f BIG vcl "BandPainter$Shape" 14 6 0 := ⟨_, _, _, rfl, by decide, t_550⟩
theorem l_Sh_24 : hp_lV BIG "BandPainter$Shape" 24 ⟨"BandPainter$Picture", "setDots", "(IJJ)V"⟩ prog_5_method_2_code 6 none 3 := ⟨t_173, t_174, t_175, t_13, t_176, ⟨by decide +kernel, by decide +kernel, by decide +kernel⟩⟩
theorem f_Sh_20 : hp_f BIG vcl "BandPainter$Shape" 20 6 1 := ⟨_, _, _, rfl, by decide, t_552⟩
theorem l_Sh_28 : hp_lN BIG vnl "BandPainter$Shape" 28 ⟨"BandPainter", "isWithin", "(III)Z"⟩ "BandPainter" prog_1_method_21_code 3 (some .boolean) 3 := ⟨List.mem_of_getElem? (i := 2) rfl, t_167, t_1, t_168, ⟨by decide +kernel, by decide +kernel, by decide +kernel⟩⟩
theorem l_Sh_32 : hp_lV BIG "BandPainter$Shape" 32 ⟨"BandPainter$Picture", "turnedBy", "(I)LBandPainter$Picture;"⟩ prog_5_method_5_code 5 (some (.object "BandPainter$Picture")) 1 := ⟨t_231, t_232, t_233, t_13, t_234, ⟨by decide +kernel, by decide +kernel, by decide +kernel⟩⟩
theorem l_La_7 : hp_lV BIG "BandPainterLaw" 7 ⟨"BandPainter", "shape", "(II)I"⟩ prog_1_method_2_code 4 (some .int) 2 := ⟨t_454, t_455, t_456, t_1, t_457, ⟨by decide +kernel, by decide +kernel, by decide +kernel⟩⟩
theorem l_La_17 : hp_lV BIG "BandPainterLaw" 17 ⟨"BandPainter", "black", "(II)Z"⟩ prog_1_method_13_code 3 (some .boolean) 2 := ⟨t_565, t_566, t_567, t_1, t_568, ⟨by decide +kernel, by decide +kernel, by decide +kernel⟩⟩
theorem n_La_8 : Cond.classLink "BandPainterLaw" 8 "BandPainter" ∈ BIG ∧ Cond.instantiable "BandPainter" 14 ∈ BIG ∧ Cond.initialized "BandPainter" ∈ BIG := ⟨t_18, t_19, t_1⟩
theorem l_La_23 : hp_lS BIG "BandPainterLaw" 23 ⟨"BandPainterLaw", "cell", "([II)I"⟩ method_2_code 2 (some .int) 2 := ⟨t_446, t_447, t_0, t_448, ⟨by decide +kernel, by decide +kernel, by decide +kernel⟩⟩
theorem l_La_29 : hp_lI BIG "BandPainterLaw" 29 ⟨"BandPainter", "<init>", "(III)V"⟩ prog_1_method_1_code 4 3 := ⟨t_20, t_21, t_1, t_22, rfl, ⟨by decide +kernel, by decide +kernel, by decide +kernel⟩⟩
theorem n_La_32 : Cond.classLink "BandPainterLaw" 32 "BandPainterModel" ∈ BIG ∧ Cond.instantiable "BandPainterModel" 23 ∈ BIG ∧ Cond.initialized "BandPainterModel" ∈ BIG := ⟨t_586, t_587, t_6⟩
theorem l_La_34 : hp_lI BIG "BandPainterLaw" 34 ⟨"BandPainterModel", "<init>", "(III)V"⟩ prog_9_method_1_code 4 3 := ⟨t_588, t_589, t_6, t_590, rfl, ⟨by decide +kernel, by decide +kernel, by decide +kernel⟩⟩
theorem l_La_38 : hp_lV BIG "BandPainterLaw" 38 ⟨"BandPainterModel", "shape", "(II)I"⟩ prog_9_method_11_code 4 (some .int) 2 := ⟨t_666, t_667, t_668, t_6, t_669, ⟨by decide +kernel, by decide +kernel, by decide +kernel⟩⟩
theorem l_La_39 : hp_lV BIG "BandPainterLaw" 39 ⟨"BandPainterModel", "thrown", "()I"⟩ prog_9_method_2_code 1 (some .int) 0 := ⟨t_662, t_663, t_664, t_6, t_665, ⟨by decide +kernel, by decide +kernel, by decide +kernel⟩⟩
theorem l_La_45 : hp_lV BIG "BandPainterLaw" 45 ⟨"BandPainter", "draw", "(IIJJ)Z"⟩ prog_1_method_3_code 8 (some .boolean) 4 := ⟨t_158, t_159, t_160, t_1, t_161, ⟨by decide +kernel, by decide +kernel, by decide +kernel⟩⟩
theorem l_La_49 : hp_lV BIG "BandPainterLaw" 49 ⟨"BandPainterModel", "draw", "(IIJJ)Z"⟩ prog_9_method_14_code 8 (some .boolean) 4 := ⟨t_670, t_671, t_672, t_6, t_673, ⟨by decide +kernel, by decide +kernel, by decide +kernel⟩⟩
theorem l_La_50 : hp_lV BIG "BandPainterLaw" 50 ⟨"BandPainter", "ink", "(II)Z"⟩ prog_1_method_4_code 3 (some .boolean) 2 := ⟨t_190, t_191, t_192, t_1, t_193, ⟨by decide +kernel, by decide +kernel, by decide +kernel⟩⟩
theorem l_La_53 : hp_lV BIG "BandPainterLaw" 53 ⟨"BandPainterModel", "ink", "(II)Z"⟩ prog_9_method_16_code 4 (some .boolean) 2 := ⟨t_682, t_683, t_684, t_6, t_685, ⟨by decide +kernel, by decide +kernel, by decide +kernel⟩⟩
theorem l_La_54 : hp_lV BIG "BandPainterLaw" 54 ⟨"BandPainter", "mode", "(ZZ)V"⟩ prog_1_method_5_code 3 none 2 := ⟨t_198, t_199, t_200, t_1, t_201, ⟨by decide +kernel, by decide +kernel, by decide +kernel⟩⟩
theorem l_La_58 : hp_lV BIG "BandPainterLaw" 58 ⟨"BandPainterModel", "mode", "(ZZ)V"⟩ prog_9_method_17_code 3 none 2 := ⟨t_686, t_687, t_688, t_6, t_689, ⟨by decide +kernel, by decide +kernel, by decide +kernel⟩⟩
theorem l_La_59 : hp_lV BIG "BandPainterLaw" 59 ⟨"BandPainter", "turn", "(I)Z"⟩ prog_1_method_6_code 2 (some .boolean) 1 := ⟨t_202, t_203, t_204, t_1, t_205, ⟨by decide +kernel, by decide +kernel, by decide +kernel⟩⟩
theorem l_La_63 : hp_lV BIG "BandPainterLaw" 63 ⟨"BandPainterModel", "turn", "(I)Z"⟩ prog_9_method_18_code 2 (some .boolean) 1 := ⟨t_690, t_691, t_692, t_6, t_693, ⟨by decide +kernel, by decide +kernel, by decide +kernel⟩⟩
theorem l_La_64 : hp_lV BIG "BandPainterLaw" 64 ⟨"BandPainter", "clip", "(IIII)Z"⟩ prog_1_method_7_code 5 (some .boolean) 4 := ⟨t_206, t_207, t_208, t_1, t_209, ⟨by decide +kernel, by decide +kernel, by decide +kernel⟩⟩
theorem l_La_68 : hp_lV BIG "BandPainterLaw" 68 ⟨"BandPainterModel", "clip", "(IIII)Z"⟩ prog_9_method_19_code 5 (some .boolean) 4 := ⟨t_694, t_695, t_696, t_6, t_697, ⟨by decide +kernel, by decide +kernel, by decide +kernel⟩⟩
theorem l_La_69 : hp_lV BIG "BandPainterLaw" 69 ⟨"BandPainter", "stamp", "(III)Z"⟩ prog_1_method_8_code 5 (some .boolean) 3 := ⟨t_218, t_219, t_220, t_1, t_221, ⟨by decide +kernel, by decide +kernel, by decide +kernel⟩⟩
theorem l_La_73 : hp_lV BIG "BandPainterLaw" 73 ⟨"BandPainterModel", "stamp", "(III)Z"⟩ prog_9_method_21_code 6 (some .boolean) 3 := ⟨t_698, t_699, t_700, t_6, t_701, ⟨by decide +kernel, by decide +kernel, by decide +kernel⟩⟩
theorem l_La_74 : hp_lV BIG "BandPainterLaw" 74 ⟨"BandPainter", "rule", "(IIII)Z"⟩ prog_1_method_9_code 5 (some .boolean) 4 := ⟨t_336, t_337, t_338, t_1, t_339, ⟨by decide +kernel, by decide +kernel, by decide +kernel⟩⟩
theorem l_La_77 : hp_lV BIG "BandPainterLaw" 77 ⟨"BandPainterModel", "rule", "(IIII)Z"⟩ prog_9_method_24_code 11 (some .boolean) 4 := ⟨t_735, t_736, t_737, t_6, t_738, ⟨by decide +kernel, by decide +kernel, by decide +kernel⟩⟩
theorem l_La_78 : hp_lV BIG "BandPainterLaw" 78 ⟨"BandPainter", "row", "(IIIIJ)Z"⟩ prog_1_method_10_code 9 (some .boolean) 5 := ⟨t_340, t_341, t_342, t_1, t_343, ⟨by decide +kernel, by decide +kernel, by decide +kernel⟩⟩
theorem l_La_82 : hp_lV BIG "BandPainterLaw" 82 ⟨"BandPainterModel", "row", "(IIIIJ)Z"⟩ prog_9_method_25_code 12 (some .boolean) 5 := ⟨t_745, t_746, t_747, t_6, t_748, ⟨by decide +kernel, by decide +kernel, by decide +kernel⟩⟩
theorem l_La_83 : hp_lV BIG "BandPainterLaw" 83 ⟨"BandPainter", "eject", "()V"⟩ prog_1_method_11_code 3 none 0 := ⟨t_353, t_354, t_355, t_1, t_356, ⟨by decide +kernel, by decide +kernel, by decide +kernel⟩⟩
theorem l_La_86 : hp_lV BIG "BandPainterLaw" 86 ⟨"BandPainterModel", "eject", "()V"⟩ prog_9_method_26_code 2 none 0 := ⟨t_750, t_751, t_752, t_6, t_753, ⟨by decide +kernel, by decide +kernel, by decide +kernel⟩⟩
theorem l_La_87 : hp_lV BIG "BandPainterLaw" 87 ⟨"BandPainter", "line", "(II)J"⟩ prog_1_method_12_code 3 (some .long) 2 := ⟨t_364, t_365, t_366, t_1, t_367, ⟨by decide +kernel, by decide +kernel, by decide +kernel⟩⟩
theorem l_La_91 : hp_lV BIG "BandPainterLaw" 91 ⟨"BandPainterModel", "line", "(II)J"⟩ prog_9_method_27_code 3 (some .long) 2 := ⟨t_754, t_755, t_756, t_6, t_757, ⟨by decide +kernel, by decide +kernel, by decide +kernel⟩⟩
theorem l_La_94 : hp_lV BIG "BandPainterLaw" 94 ⟨"BandPainterModel", "black", "(II)Z"⟩ prog_9_method_28_code 3 (some .boolean) 2 := ⟨t_758, t_759, t_760, t_6, t_761, ⟨by decide +kernel, by decide +kernel, by decide +kernel⟩⟩
theorem l_La_95 : hp_lV BIG "BandPainterLaw" 95 ⟨"BandPainter", "count", "(II)I"⟩ prog_1_method_14_code 6 (some .int) 2 := ⟨t_404, t_405, t_406, t_1, t_407, ⟨by decide +kernel, by decide +kernel, by decide +kernel⟩⟩
theorem l_La_98 : hp_lV BIG "BandPainterLaw" 98 ⟨"BandPainterModel", "count", "(II)I"⟩ prog_9_method_31_code 5 (some .int) 2 := ⟨t_766, t_767, t_768, t_6, t_769, ⟨by decide +kernel, by decide +kernel, by decide +kernel⟩⟩
theorem l_La_99 : hp_lV BIG "BandPainterLaw" 99 ⟨"BandPainter", "top", "(I)I"⟩ prog_1_method_15_code 3 (some .int) 1 := ⟨t_426, t_427, t_428, t_1, t_429, ⟨by decide +kernel, by decide +kernel, by decide +kernel⟩⟩
theorem l_La_103 : hp_lV BIG "BandPainterLaw" 103 ⟨"BandPainterModel", "top", "(I)I"⟩ prog_9_method_32_code 3 (some .int) 1 := ⟨t_777, t_778, t_779, t_6, t_780, ⟨by decide +kernel, by decide +kernel, by decide +kernel⟩⟩
theorem l_La_104 : hp_lV BIG "BandPainterLaw" 104 ⟨"BandPainter", "of", "(II)I"⟩ prog_1_method_16_code 4 (some .int) 2 := ⟨t_430, t_431, t_432, t_1, t_433, ⟨by decide +kernel, by decide +kernel, by decide +kernel⟩⟩
theorem l_La_107 : hp_lV BIG "BandPainterLaw" 107 ⟨"BandPainterModel", "of", "(II)I"⟩ prog_9_method_33_code 5 (some .int) 2 := ⟨t_781, t_782, t_783, t_6, t_784, ⟨by decide +kernel, by decide +kernel, by decide +kernel⟩⟩
theorem l_La_108 : hp_lV BIG "BandPainterLaw" 108 ⟨"BandPainter", "look", "(I)I"⟩ prog_1_method_17_code 2 (some .int) 1 := ⟨t_442, t_443, t_444, t_1, t_445, ⟨by decide +kernel, by decide +kernel, by decide +kernel⟩⟩
theorem l_La_111 : hp_lV BIG "BandPainterLaw" 111 ⟨"BandPainterModel", "look", "(I)I"⟩ prog_9_method_34_code 2 (some .int) 1 := ⟨t_785, t_786, t_787, t_6, t_788, ⟨by decide +kernel, by decide +kernel, by decide +kernel⟩⟩
abbrev y_BP_init : MethodName := ⟨"BandPainter", "<init>", "(III)V"⟩
abbrev y_BP_shape : MethodName := ⟨"BandPainter", "shape", "(II)I"⟩
abbrev y_BP_draw : MethodName := ⟨"BandPainter", "draw", "(IIJJ)Z"⟩
abbrev y_BP_ink : MethodName := ⟨"BandPainter", "ink", "(II)Z"⟩
abbrev y_BP_mode : MethodName := ⟨"BandPainter", "mode", "(ZZ)V"⟩
abbrev y_BP_turn : MethodName := ⟨"BandPainter", "turn", "(I)Z"⟩
abbrev y_BP_clip : MethodName := ⟨"BandPainter", "clip", "(IIII)Z"⟩
abbrev y_BP_stamp : MethodName := ⟨"BandPainter", "stamp", "(III)Z"⟩
abbrev y_BP_rule : MethodName := ⟨"BandPainter", "rule", "(IIII)Z"⟩
abbrev y_BP_row : MethodName := ⟨"BandPainter", "row", "(IIIIJ)Z"⟩
abbrev y_BP_eject : MethodName := ⟨"BandPainter", "eject", "()V"⟩
abbrev y_BP_line : MethodName := ⟨"BandPainter", "line", "(II)J"⟩
abbrev y_BP_black : MethodName := ⟨"BandPainter", "black", "(II)Z"⟩
abbrev y_BP_count : MethodName := ⟨"BandPainter", "count", "(II)I"⟩
abbrev y_BP_top : MethodName := ⟨"BandPainter", "top", "(I)I"⟩
abbrev y_BP_of : MethodName := ⟨"BandPainter", "of", "(II)I"⟩
abbrev y_BP_look : MethodName := ⟨"BandPainter", "look", "(I)I"⟩
abbrev y_BP_shapeOf : MethodName := ⟨"BandPainter", "shapeOf", "(I)LBandPainter$Shape;"⟩
abbrev y_BP_canLayAt : MethodName := ⟨"BandPainter", "canLayAt", "(II)Z"⟩
abbrev y_BP_lay : MethodName := ⟨"BandPainter", "lay", "(LBandPainter$Picture;IIII)V"⟩
abbrev y_BP_isWithin : MethodName := ⟨"BandPainter", "isWithin", "(III)Z"⟩
abbrev y_BP_within : MethodName := ⟨"BandPainter", "within", "(III)I"⟩
abbrev y_BP_oneIf : MethodName := ⟨"BandPainter", "oneIf", "(Z)I"⟩
abbrev y_BP_firstDots : MethodName := ⟨"BandPainter", "firstDots", "(I)J"⟩
abbrev y_Mo_init : MethodName := ⟨"BandPainterModel", "<init>", "(III)V"⟩
abbrev y_Mo_thrown : MethodName := ⟨"BandPainterModel", "thrown", "()I"⟩
abbrev y_Mo_isIn : MethodName := ⟨"BandPainterModel", "isIn", "(II)Z"⟩
abbrev y_Mo_isBlack : MethodName := ⟨"BandPainterModel", "isBlack", "(II)Z"⟩
abbrev y_Mo_set : MethodName := ⟨"BandPainterModel", "set", "(IIZ)V"⟩
abbrev y_Mo_threshold : MethodName := ⟨"BandPainterModel", "threshold", "(II)I"⟩
abbrev y_Mo_hatch : MethodName := ⟨"BandPainterModel", "hatch", "(III)Z"⟩
abbrev y_Mo_isInk : MethodName := ⟨"BandPainterModel", "isInk", "(II)Z"⟩
abbrev y_Mo_paint : MethodName := ⟨"BandPainterModel", "paint", "(IIZ)V"⟩
abbrev y_Mo_lay : MethodName := ⟨"BandPainterModel", "lay", "(IIIIZ)V"⟩
abbrev y_Mo_shape : MethodName := ⟨"BandPainterModel", "shape", "(II)I"⟩
abbrev y_Mo_isShape : MethodName := ⟨"BandPainterModel", "isShape", "(I)Z"⟩
abbrev y_Mo_highest : MethodName := ⟨"BandPainterModel", "highest", "(JI)J"⟩
abbrev y_Mo_draw : MethodName := ⟨"BandPainterModel", "draw", "(IIJJ)Z"⟩
abbrev y_Mo_shapeDot : MethodName := ⟨"BandPainterModel", "shapeDot", "(III)Z"⟩
abbrev y_Mo_ink : MethodName := ⟨"BandPainterModel", "ink", "(II)Z"⟩
abbrev y_Mo_mode : MethodName := ⟨"BandPainterModel", "mode", "(ZZ)V"⟩
abbrev y_Mo_turn : MethodName := ⟨"BandPainterModel", "turn", "(I)Z"⟩
abbrev y_Mo_clip : MethodName := ⟨"BandPainterModel", "clip", "(IIII)Z"⟩
abbrev y_Mo_isPlace : MethodName := ⟨"BandPainterModel", "isPlace", "(I)Z"⟩
abbrev y_Mo_stamp : MethodName := ⟨"BandPainterModel", "stamp", "(III)Z"⟩
abbrev y_Mo_most : MethodName := ⟨"BandPainterModel", "most", "(II)I"⟩
abbrev y_Mo_least : MethodName := ⟨"BandPainterModel", "least", "(II)I"⟩
abbrev y_Mo_rule : MethodName := ⟨"BandPainterModel", "rule", "(IIII)Z"⟩
abbrev y_Mo_row : MethodName := ⟨"BandPainterModel", "row", "(IIIIJ)Z"⟩
abbrev y_Mo_eject : MethodName := ⟨"BandPainterModel", "eject", "()V"⟩
abbrev y_Mo_line : MethodName := ⟨"BandPainterModel", "line", "(II)J"⟩
abbrev y_Mo_black : MethodName := ⟨"BandPainterModel", "black", "(II)Z"⟩
abbrev y_Mo_ones : MethodName := ⟨"BandPainterModel", "ones", "(J)I"⟩
abbrev y_Mo_blacksOf : MethodName := ⟨"BandPainterModel", "blacksOf", "(I)I"⟩
abbrev y_Mo_count : MethodName := ⟨"BandPainterModel", "count", "(II)I"⟩
abbrev y_Mo_top : MethodName := ⟨"BandPainterModel", "top", "(I)I"⟩
abbrev y_Mo_of : MethodName := ⟨"BandPainterModel", "of", "(II)I"⟩
abbrev y_Mo_look : MethodName := ⟨"BandPainterModel", "look", "(I)I"⟩
abbrev y_Bx_init : MethodName := ⟨"BandPainter$Box", "<init>", "(IIII)V"⟩
abbrev y_Bx_common : MethodName := ⟨"BandPainter$Box", "common", "(LBandPainter$Box;)LBandPainter$Box;"⟩
abbrev y_Bx_isEmpty : MethodName := ⟨"BandPainter$Box", "isEmpty", "()Z"⟩
abbrev y_Bx_meetsLine : MethodName := ⟨"BandPainter$Box", "meetsLine", "(I)Z"⟩
abbrev y_Bx_dotsOfWord : MethodName := ⟨"BandPainter$Box", "dotsOfWord", "(I)J"⟩
abbrev y_In_init : MethodName := ⟨"BandPainter$Ink", "<init>", "(II)V"⟩
abbrev y_In_exists : MethodName := ⟨"BandPainter$Ink", "exists", "(II)Z"⟩
abbrev y_In_dotsAt : MethodName := ⟨"BandPainter$Ink", "dotsAt", "(I)J"⟩
abbrev y_In_dotsOfLine : MethodName := ⟨"BandPainter$Ink", "dotsOfLine", "(III)J"⟩
abbrev y_In_isShaded : MethodName := ⟨"BandPainter$Ink", "isShaded", "(III)Z"⟩
abbrev y_In_isHatched : MethodName := ⟨"BandPainter$Ink", "isHatched", "(III)Z"⟩
abbrev y_Mk_init : MethodName := ⟨"BandPainter$Mark", "<init>", "(LBandPainter$Picture;IILBandPainter$Box;LBandPainter$Ink;ZZ)V"⟩
abbrev y_Pc_init : MethodName := ⟨"BandPainter$Picture", "<init>", "(III)V"⟩
abbrev y_Pc_setDots : MethodName := ⟨"BandPainter$Picture", "setDots", "(IJJ)V"⟩
abbrev y_Pc_blacks : MethodName := ⟨"BandPainter$Picture", "blacks", "()I"⟩
abbrev y_Pc_dotsFrom : MethodName := ⟨"BandPainter$Picture", "dotsFrom", "(II)J"⟩
abbrev y_Pc_turnedBy : MethodName := ⟨"BandPainter$Picture", "turnedBy", "(I)LBandPainter$Picture;"⟩
abbrev y_Pc_enlarged : MethodName := ⟨"BandPainter$Picture", "enlarged", "(I)LBandPainter$Picture;"⟩
abbrev y_Pc_blackenTurned : MethodName := ⟨"BandPainter$Picture", "blackenTurned", "(III)V"⟩
abbrev y_Pc_isBlack : MethodName := ⟨"BandPainter$Picture", "isBlack", "(II)Z"⟩
abbrev y_Pc_blacken : MethodName := ⟨"BandPainter$Picture", "blacken", "(II)V"⟩
abbrev y_Pc_wordAt : MethodName := ⟨"BandPainter$Picture", "wordAt", "(II)J"⟩
abbrev y_Pc_setWord : MethodName := ⟨"BandPainter$Picture", "setWord", "(IIJ)V"⟩
abbrev y_Pc_hasWord : MethodName := ⟨"BandPainter$Picture", "hasWord", "(II)Z"⟩
abbrev y_Pl_init : MethodName := ⟨"BandPainter$Pile", "<init>", "(I)V"⟩
abbrev y_Pl_clear : MethodName := ⟨"BandPainter$Pile", "clear", "()V"⟩
abbrev y_Pl_add : MethodName := ⟨"BandPainter$Pile", "add", "(LBandPainter$Mark;)V"⟩
abbrev y_Pl_stir : MethodName := ⟨"BandPainter$Pile", "stir", "(LBandPainter$Mark;)V"⟩
abbrev y_Pl_wordOf : MethodName := ⟨"BandPainter$Pile", "wordOf", "(II)J"⟩
abbrev y_Pl_blacksOf : MethodName := ⟨"BandPainter$Pile", "blacksOf", "(I)I"⟩
abbrev y_Pl_isLikeAbove : MethodName := ⟨"BandPainter$Pile", "isLikeAbove", "(I)Z"⟩
abbrev y_Pl_countedBlacks : MethodName := ⟨"BandPainter$Pile", "countedBlacks", "(I)I"⟩
abbrev y_Pl_newestOnLine : MethodName := ⟨"BandPainter$Pile", "newestOnLine", "(I)LBandPainter$Mark;"⟩
abbrev y_Pl_wordUnder : MethodName := ⟨"BandPainter$Pile", "wordUnder", "(LBandPainter$Mark;II)J"⟩
abbrev y_Sh_init : MethodName := ⟨"BandPainter$Shape", "<init>", "(II)V"⟩
abbrev y_Sh_redraw : MethodName := ⟨"BandPainter$Shape", "redraw", "(IJJ)V"⟩
abbrev y_Sh_turnedBy : MethodName := ⟨"BandPainter$Shape", "turnedBy", "(I)LBandPainter$Picture;"⟩
abbrev y_La_cell : MethodName := ⟨"BandPainterLaw", "cell", "([II)I"⟩
abbrev y_La_shape : MethodName := ⟨"BandPainterLaw", "shape", "(LBandPainter;II[J)I"⟩
abbrev y_La_black : MethodName := ⟨"BandPainterLaw", "black", "(LBandPainter;II[J)I"⟩
abbrev y_JL_bitCount : MethodName := ⟨"java/lang/Long", "bitCount", "(J)I"⟩
abbrev y_JM_floorDiv : MethodName := ⟨"java/lang/Math", "floorDiv", "(II)I"⟩
abbrev y_JM_floorMod : MethodName := ⟨"java/lang/Math", "floorMod", "(II)I"⟩
abbrev y_JA_fill : MethodName := ⟨"java/util/Arrays", "fill", "([II)V"⟩
end
