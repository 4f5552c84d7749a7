section
/-- a private method of a class that the tables say can be made, by its rows of tables_1 -/
def lw_okq (q : MethodName × Nat) : Prop := (q.1.cls ≠ "java/lang/invoke/MethodHandle" ∧ q.1.cls ≠ "java/lang/invoke/VarHandle") ∧ Cond.instantiable q.1.cls q.2 ∈ tables_1 ∧ Cond.privateMethod q.1 ∈ tables_1 ∧ Cond.instanceMethod q.1 ∈ tables_1
theorem lw_p0 : lw_okq (⟨"BandPainter", "shapeOf", "(I)LBandPainter$Shape;"⟩, 14) := ⟨⟨by decide +kernel, by decide +kernel⟩, List.mem_of_getElem? (i := 19) (by decide +kernel), List.mem_of_getElem? (i := 163) (by decide +kernel), List.mem_of_getElem? (i := 164) (by decide +kernel)⟩
theorem lw_p1 : lw_okq (⟨"BandPainter$Picture", "setWord", "(IIJ)V"⟩, 5) := ⟨⟨by decide +kernel, by decide +kernel⟩, List.mem_of_getElem? (i := 184) (by decide +kernel), List.mem_of_getElem? (i := 182) (by decide +kernel), List.mem_of_getElem? (i := 183) (by decide +kernel)⟩
theorem lw_p2 : lw_okq (⟨"BandPainter$Picture", "hasWord", "(II)Z"⟩, 5) := ⟨⟨by decide +kernel, by decide +kernel⟩, List.mem_of_getElem? (i := 184) (by decide +kernel), List.mem_of_getElem? (i := 187) (by decide +kernel), List.mem_of_getElem? (i := 188) (by decide +kernel)⟩
theorem lw_p3 : lw_okq (⟨"BandPainter", "canLayAt", "(II)Z"⟩, 14) := ⟨⟨by decide +kernel, by decide +kernel⟩, List.mem_of_getElem? (i := 19) (by decide +kernel), List.mem_of_getElem? (i := 223) (by decide +kernel), List.mem_of_getElem? (i := 224) (by decide +kernel)⟩
theorem lw_p4 : lw_okq (⟨"BandPainter$Picture", "isBlack", "(II)Z"⟩, 5) := ⟨⟨by decide +kernel, by decide +kernel⟩, List.mem_of_getElem? (i := 184) (by decide +kernel), List.mem_of_getElem? (i := 260) (by decide +kernel), List.mem_of_getElem? (i := 261) (by decide +kernel)⟩
theorem lw_p5 : lw_okq (⟨"BandPainter$Picture", "wordAt", "(II)J"⟩, 5) := ⟨⟨by decide +kernel, by decide +kernel⟩, List.mem_of_getElem? (i := 184) (by decide +kernel), List.mem_of_getElem? (i := 264) (by decide +kernel), List.mem_of_getElem? (i := 265) (by decide +kernel)⟩
theorem lw_p6 : lw_okq (⟨"BandPainter$Picture", "blackenTurned", "(III)V"⟩, 5) := ⟨⟨by decide +kernel, by decide +kernel⟩, List.mem_of_getElem? (i := 184) (by decide +kernel), List.mem_of_getElem? (i := 269) (by decide +kernel), List.mem_of_getElem? (i := 270) (by decide +kernel)⟩
theorem lw_p7 : lw_okq (⟨"BandPainter$Picture", "blacken", "(II)V"⟩, 5) := ⟨⟨by decide +kernel, by decide +kernel⟩, List.mem_of_getElem? (i := 184) (by decide +kernel), List.mem_of_getElem? (i := 273) (by decide +kernel), List.mem_of_getElem? (i := 274) (by decide +kernel)⟩
theorem lw_p8 : lw_okq (⟨"BandPainter", "lay", "(LBandPainter$Picture;IIII)V"⟩, 14) := ⟨⟨by decide +kernel, by decide +kernel⟩, List.mem_of_getElem? (i := 19) (by decide +kernel), List.mem_of_getElem? (i := 277) (by decide +kernel), List.mem_of_getElem? (i := 278) (by decide +kernel)⟩
theorem lw_p9 : lw_okq (⟨"BandPainter$Pile", "stir", "(LBandPainter$Mark;)V"⟩, 5) := ⟨⟨by decide +kernel, by decide +kernel⟩, List.mem_of_getElem? (i := 61) (by decide +kernel), List.mem_of_getElem? (i := 330) (by decide +kernel), List.mem_of_getElem? (i := 331) (by decide +kernel)⟩
theorem lw_p10 : lw_okq (⟨"BandPainter$Pile", "newestOnLine", "(I)LBandPainter$Mark;"⟩, 5) := ⟨⟨by decide +kernel, by decide +kernel⟩, List.mem_of_getElem? (i := 61) (by decide +kernel), List.mem_of_getElem? (i := 373) (by decide +kernel), List.mem_of_getElem? (i := 374) (by decide +kernel)⟩
theorem lw_p11 : lw_okq (⟨"BandPainter$Pile", "isLikeAbove", "(I)Z"⟩, 5) := ⟨⟨by decide +kernel, by decide +kernel⟩, List.mem_of_getElem? (i := 61) (by decide +kernel), List.mem_of_getElem? (i := 413) (by decide +kernel), List.mem_of_getElem? (i := 414) (by decide +kernel)⟩
theorem lw_p12 : lw_okq (⟨"BandPainter$Pile", "countedBlacks", "(I)I"⟩, 5) := ⟨⟨by decide +kernel, by decide +kernel⟩, List.mem_of_getElem? (i := 61) (by decide +kernel), List.mem_of_getElem? (i := 417) (by decide +kernel), List.mem_of_getElem? (i := 418) (by decide +kernel)⟩
theorem lw_p13 : lw_okq (⟨"java/lang/Throwable", "fillInStackTrace", "(I)Ljava/lang/Throwable;"⟩, 6) := ⟨⟨by decide +kernel, by decide +kernel⟩, List.mem_of_getElem? (i := 497) (by decide +kernel), List.mem_of_getElem? (i := 495) (by decide +kernel), List.mem_of_getElem? (i := 496) (by decide +kernel)⟩
theorem lw_p14 : lw_okq (⟨"BandPainterModel", "isShape", "(I)Z"⟩, 23) := ⟨⟨by decide +kernel, by decide +kernel⟩, List.mem_of_getElem? (i := 587) (by decide +kernel), List.mem_of_getElem? (i := 675) (by decide +kernel), List.mem_of_getElem? (i := 676) (by decide +kernel)⟩
theorem lw_p15 : lw_okq (⟨"BandPainterModel", "shapeDot", "(III)Z"⟩, 23) := ⟨⟨by decide +kernel, by decide +kernel⟩, List.mem_of_getElem? (i := 587) (by decide +kernel), List.mem_of_getElem? (i := 706) (by decide +kernel), List.mem_of_getElem? (i := 707) (by decide +kernel)⟩
def lw_privs_1 : List (MethodName × Nat) := [(⟨"BandPainter", "shapeOf", "(I)LBandPainter$Shape;"⟩, 14), (⟨"BandPainter$Picture", "setWord", "(IIJ)V"⟩, 5), (⟨"BandPainter$Picture", "hasWord", "(II)Z"⟩, 5), (⟨"BandPainter", "canLayAt", "(II)Z"⟩, 14), (⟨"BandPainter$Picture", "isBlack", "(II)Z"⟩, 5), (⟨"BandPainter$Picture", "wordAt", "(II)J"⟩, 5), (⟨"BandPainter$Picture", "blackenTurned", "(III)V"⟩, 5), (⟨"BandPainter$Picture", "blacken", "(II)V"⟩, 5), (⟨"BandPainter", "lay", "(LBandPainter$Picture;IIII)V"⟩, 14), (⟨"BandPainter$Pile", "stir", "(LBandPainter$Mark;)V"⟩, 5), (⟨"BandPainter$Pile", "newestOnLine", "(I)LBandPainter$Mark;"⟩, 5), (⟨"BandPainter$Pile", "isLikeAbove", "(I)Z"⟩, 5), (⟨"BandPainter$Pile", "countedBlacks", "(I)I"⟩, 5), (⟨"java/lang/Throwable", "fillInStackTrace", "(I)Ljava/lang/Throwable;"⟩, 6), (⟨"BandPainterModel", "isShape", "(I)Z"⟩, 23), (⟨"BandPainterModel", "shapeDot", "(III)Z"⟩, 23)]
theorem lw_r1 : ∀ q ∈ lw_privs_1, lw_okq q := List.forall_mem_cons.mpr ⟨lw_p0, List.forall_mem_cons.mpr ⟨lw_p1, List.forall_mem_cons.mpr ⟨lw_p2, List.forall_mem_cons.mpr ⟨lw_p3, List.forall_mem_cons.mpr ⟨lw_p4, List.forall_mem_cons.mpr ⟨lw_p5, List.forall_mem_cons.mpr ⟨lw_p6, List.forall_mem_cons.mpr ⟨lw_p7, List.forall_mem_cons.mpr ⟨lw_p8, List.forall_mem_cons.mpr ⟨lw_p9, List.forall_mem_cons.mpr ⟨lw_p10, List.forall_mem_cons.mpr ⟨lw_p11, List.forall_mem_cons.mpr ⟨lw_p12, List.forall_mem_cons.mpr ⟨lw_p13, List.forall_mem_cons.mpr ⟨lw_p14, List.forall_mem_cons.mpr ⟨lw_p15, fun _ h => absurd h List.not_mem_nil⟩⟩⟩⟩⟩⟩⟩⟩⟩⟩⟩⟩⟩⟩⟩⟩
theorem lw_p16 : lw_okq (⟨"BandPainterModel", "lay", "(IIIIZ)V"⟩, 23) := ⟨⟨by decide +kernel, by decide +kernel⟩, List.mem_of_getElem? (i := 587) (by decide +kernel), List.mem_of_getElem? (i := 710) (by decide +kernel), List.mem_of_getElem? (i := 711) (by decide +kernel)⟩
theorem lw_p17 : lw_okq (⟨"BandPainterModel", "paint", "(IIZ)V"⟩, 23) := ⟨⟨by decide +kernel, by decide +kernel⟩, List.mem_of_getElem? (i := 587) (by decide +kernel), List.mem_of_getElem? (i := 714) (by decide +kernel), List.mem_of_getElem? (i := 715) (by decide +kernel)⟩
theorem lw_p18 : lw_okq (⟨"BandPainterModel", "isIn", "(II)Z"⟩, 23) := ⟨⟨by decide +kernel, by decide +kernel⟩, List.mem_of_getElem? (i := 587) (by decide +kernel), List.mem_of_getElem? (i := 718) (by decide +kernel), List.mem_of_getElem? (i := 719) (by decide +kernel)⟩
theorem lw_p19 : lw_okq (⟨"BandPainterModel", "set", "(IIZ)V"⟩, 23) := ⟨⟨by decide +kernel, by decide +kernel⟩, List.mem_of_getElem? (i := 587) (by decide +kernel), List.mem_of_getElem? (i := 722) (by decide +kernel), List.mem_of_getElem? (i := 723) (by decide +kernel)⟩
theorem lw_p20 : lw_okq (⟨"BandPainterModel", "isInk", "(II)Z"⟩, 23) := ⟨⟨by decide +kernel, by decide +kernel⟩, List.mem_of_getElem? (i := 587) (by decide +kernel), List.mem_of_getElem? (i := 726) (by decide +kernel), List.mem_of_getElem? (i := 727) (by decide +kernel)⟩
theorem lw_p21 : lw_okq (⟨"BandPainterModel", "isBlack", "(II)Z"⟩, 23) := ⟨⟨by decide +kernel, by decide +kernel⟩, List.mem_of_getElem? (i := 587) (by decide +kernel), List.mem_of_getElem? (i := 763) (by decide +kernel), List.mem_of_getElem? (i := 764) (by decide +kernel)⟩
theorem lw_p22 : lw_okq (⟨"BandPainterModel", "blacksOf", "(I)I"⟩, 23) := ⟨⟨by decide +kernel, by decide +kernel⟩, List.mem_of_getElem? (i := 587) (by decide +kernel), List.mem_of_getElem? (i := 771) (by decide +kernel), List.mem_of_getElem? (i := 772) (by decide +kernel)⟩
def lw_privs_2 : List (MethodName × Nat) := [(⟨"BandPainterModel", "lay", "(IIIIZ)V"⟩, 23), (⟨"BandPainterModel", "paint", "(IIZ)V"⟩, 23), (⟨"BandPainterModel", "isIn", "(II)Z"⟩, 23), (⟨"BandPainterModel", "set", "(IIZ)V"⟩, 23), (⟨"BandPainterModel", "isInk", "(II)Z"⟩, 23), (⟨"BandPainterModel", "isBlack", "(II)Z"⟩, 23), (⟨"BandPainterModel", "blacksOf", "(I)I"⟩, 23)]
theorem lw_r2 : ∀ q ∈ lw_privs_2, lw_okq q := List.forall_mem_cons.mpr ⟨lw_p16, List.forall_mem_cons.mpr ⟨lw_p17, List.forall_mem_cons.mpr ⟨lw_p18, List.forall_mem_cons.mpr ⟨lw_p19, List.forall_mem_cons.mpr ⟨lw_p20, List.forall_mem_cons.mpr ⟨lw_p21, List.forall_mem_cons.mpr ⟨lw_p22, fun _ h => absurd h List.not_mem_nil⟩⟩⟩⟩⟩⟩⟩
def lw_privs : List (MethodName × Nat) := lw_privs_1 ++ (lw_privs_2)
def lw_tbl : List Cond := k2_sels lw_privs ++ tables_1
theorem lw_privs_ok : ∀ q ∈ lw_privs, lw_okq q := by
  show ∀ q ∈ lw_privs_1 ++ (lw_privs_2), lw_okq q
  exact List.forall_mem_append.mpr ⟨lw_r1, lw_r2⟩
end
section
/-! The heap as a function from addresses to cells; rows of the kit said over it. G: the classes' numbers and slots, the table of classes, the array classes, the nest words, the element classes. -/
abbrev hp_T : Type := Nat → Option va_E
abbrev hp_G : Type := va_G × List vw_C × List (ClassId × FieldType) × List (String × Nat × MethodName × String) × List String
def hp_P (G : hp_G) (h : hp_T) (H : Heap) : Prop := ∀ (a : Nat) (e : va_E), h a = some e → va_at G.1 G.2.1 (a, e) H
def hp_up (h : hp_T) (a : Nat) (e : va_E) : hp_T := fun q => if q = a then some e else h q
theorem hp_up_s (h : hp_T) (a : Nat) (e : va_E) : hp_up h a e a = some e := if_pos rfl
theorem hp_up_n {h : hp_T} {a q : Nat} {e : va_E} (hq : q ≠ a) : hp_up h a e q = h q := if_neg hq
theorem hp_up_k {h : hp_T} {a q : Nat} {e : va_E} {x : Option va_E} (hq : q ≠ a) (hx : h q = x) : hp_up h a e q = x := (hp_up_n hq).trans hx
theorem hp_up_up (h : hp_T) (a : Nat) (e e' : va_E) : hp_up (hp_up h a e) a e' = hp_up h a e' := by
  funext q
  by_cases hq : q = a
  · subst hq
    rw [hp_up_s, hp_up_s]
  · rw [hp_up_n hq, hp_up_n hq, hp_up_n hq]
theorem hp_up_same {h : hp_T} {a : Nat} {e : va_E} (he : h a = some e) : hp_up h a e = h := by
  funext q
  by_cases hq : q = a
  · subst hq
    rw [hp_up_s, he]
  · rw [hp_up_n hq]
theorem hp_up_comm (h : hp_T) {a b : Nat} (e e' : va_E) (hab : a ≠ b) : hp_up (hp_up h a e) b e' = hp_up (hp_up h b e') a e := by
  funext q
  by_cases hq : q = a
  · subst hq
    rw [hp_up_n hab, hp_up_s, hp_up_s]
  · by_cases hr : q = b
    · subst hr
      rw [hp_up_s, hp_up_n hq, hp_up_s]
    · rw [hp_up_n hr, hp_up_n hq, hp_up_n hq, hp_up_n hr]
/-- a cell's kind: cells of two kinds lie apart -/
def hp_kind (e : va_E) : Nat × Nat := match e with
  | .inr o => (0, o.1)
  | .inl (_, _, .inl _) => (1, 0)
  | .inl (_, _, .inr (.inl _)) => (2, 0)
  | .inl (_, _, .inr (.inr (.inl _))) => (3, 0)
  | .inl (_, _, .inr (.inr (.inr (.inl _)))) => (4, 0)
  | .inl (_, _, .inr (.inr (.inr (.inr _)))) => (5, 0)
theorem hp_ne {h : hp_T} {a b : Nat} {e e' : va_E} (ha : h a = some e) (hb : h b = some e') (hk : hp_kind e ≠ hp_kind e') : a ≠ b := fun q => hk (by rw [q, hb] at ha; rw [Option.some.inj ha])
theorem hp_neN {h : hp_T} {a b : Nat} {e : va_E} (ha : h a = some e) (hb : h b = none) : a ≠ b := fun q => by rw [q, hb] at ha; cases ha
/-- the cells below n as a list -/
def hp_ws (h : hp_T) (n : Nat) : va_W := (List.range n).filterMap (fun a => (h a).map (fun e => (a, e)))
theorem hp_mem {h : hp_T} {n a : Nat} {e : va_E} : (a, e) ∈ hp_ws h n ↔ a < n ∧ h a = some e := by
  constructor
  · intro hm
    obtain ⟨x, hx, hf⟩ := List.mem_filterMap.mp hm
    cases hq : h x with
    | none => rw [hq] at hf; cases hf
    | some e' =>
      rw [hq] at hf
      cases hf
      exact ⟨List.mem_range.mp hx, hq⟩
  · rintro ⟨ha, he⟩
    exact List.mem_filterMap.mpr ⟨a, List.mem_range.mpr ha, by rw [he]; rfl⟩
theorem hp_pw (h : hp_T) (n : Nat) : (hp_ws h n).Pairwise (fun x y => x.1 < y.1) := by
  refine List.Pairwise.filterMap _ ?_ List.pairwise_lt_range
  intro a a' haa b hb b' hb'
  cases hq : h a with
  | none => rw [hq] at hb; cases hb
  | some e =>
    rw [hq] at hb
    cases hb
    cases hq' : h a' with
    | none => rw [hq'] at hb'; cases hb'
    | some e' =>
      rw [hq'] at hb'
      cases hb'
      exact haa
theorem hp_inj {h : hp_T} {n i j : Nat} {x y : Nat × va_E} (hi : (hp_ws h n)[i]? = some x) (hj : (hp_ws h n)[j]? = some y) (hxy : x.1 = y.1) : i = j := by
  have hp := List.pairwise_iff_getElem.mp (hp_pw h n)
  obtain ⟨li, ei⟩ := List.getElem?_eq_some_iff.mp hi
  obtain ⟨lj, ej⟩ := List.getElem?_eq_some_iff.mp hj
  rcases Nat.lt_trichotomy i j with q | q | q
  · have := hp i j li lj q
    rw [ei, ej] at this
    omega
  · exact q
  · have := hp j i lj li q
    rw [ei, ej] at this
    omega
theorem hp_at {h : hp_T} {n a : Nat} {e : va_E} (ha : a < n) (he : h a = some e) : ∃ k : Nat, (hp_ws h n)[k]? = some (a, e) := List.getElem?_of_mem (hp_mem.mpr ⟨ha, he⟩)
theorem hp_of {h : hp_T} {n k : Nat} {x : Nat × va_E} (hk : (hp_ws h n)[k]? = some x) : h x.1 = some x.2 := (hp_mem.mp (List.mem_of_getElem? hk)).2
theorem hp_P.lt {G : hp_G} {h : hp_T} {H : Heap} (hP : hp_P G h H) {a : Nat} {e : va_E} (he : h a = some e) : a < H.size := va_at.lt (q := (a, e)) (hP a e he)
theorem hp_P.none {G : hp_G} {h : hp_T} {H : Heap} (hP : hp_P G h H) {a : Nat} (ha : H.size ≤ a) : h a = none := by
  cases he : h a with
  | none => rfl
  | some e => exact absurd (hP.lt he) (by omega)
theorem hp_P.ws {G : hp_G} {h : hp_T} {H : Heap} (hP : hp_P G h H) (n : Nat) : va_P G.1 G.2.1 (hp_ws h n) H := fun _ x hk => hP x.1 x.2 (hp_of hk)
theorem hp_D {A : Nat → Prop} {h : hp_T} (hd : ∀ (a : Nat) (e : va_E), h a = some e → A a) (n : Nat) : va_D A (hp_ws h n) := ⟨fun _ _ _ _ hi hj hxy => hp_inj hi hj hxy, fun _ x hk => hd x.1 x.2 (hp_of hk)⟩
theorem hp_P.one {G : hp_G} {h : hp_T} {H : Heap} (hP : hp_P G h H) {a : Nat} {e : va_E} (he : h a = some e) : va_P G.1 G.2.1 [(a, e)] H := by
  intro k q hk
  cases k with
  | zero => cases hk; exact hP a e he
  | succ k => simp at hk
theorem hp_set {G : hp_G} {h : hp_T} {H H1 : Heap} (hP : hp_P G h H) {a q0 : Nat} {e0 e1 : va_E} (h0 : (hp_ws h H.size)[q0]? = some (a, e0)) (h1 : va_P G.1 G.2.1 ((hp_ws h H.size).set q0 (a, e1)) H1) : hp_P G (hp_up h a e1) H1 := by
  have hl := (List.getElem?_eq_some_iff.mp h0).1
  intro q e hq
  by_cases hqa : q = a
  · subst hqa
    rw [hp_up_s] at hq
    cases hq
    exact h1 q0 _ (List.getElem?_set_self hl)
  · rw [hp_up_n hqa] at hq
    obtain ⟨k, hk⟩ := hp_at (hP.lt hq) hq
    have hne : q0 ≠ k := by
      intro z
      subst z
      rw [h0] at hk
      cases hk
      exact hqa rfl
    exact h1 k _ (by rw [List.getElem?_set_ne hne]; exact hk)
theorem hp_app {G : hp_G} {A : Nat → Prop} {h : hp_T} {H H1 : Heap} (hP : hp_P G h H) {a : Nat} {e1 : va_E} (h1 : va_P G.1 G.2.1 (hp_ws h H.size ++ [(a, e1)]) H1) (hD : va_D A (hp_ws h H.size ++ [(a, e1)])) : hp_P G (hp_up h a e1) H1 ∧ h a = none ∧ A a := by
  have hlast : (hp_ws h H.size ++ [(a, e1)])[(hp_ws h H.size).length]? = some (a, e1) := by rw [List.getElem?_append_right (Nat.le_refl _), Nat.sub_self]; rfl
  have hin : ∀ (k : Nat) (x : Nat × va_E), (hp_ws h H.size)[k]? = some x → (hp_ws h H.size ++ [(a, e1)])[k]? = some x := fun k x hk => by rw [List.getElem?_append_left (List.getElem?_eq_some_iff.mp hk).1]; exact hk
  have hno : h a = none := by
    cases he : h a with
    | none => rfl
    | some e =>
      obtain ⟨k, hk⟩ := hp_at (hP.lt he) he
      have := hD.1 _ _ _ _ (hin k _ hk) hlast rfl
      have hl := (List.getElem?_eq_some_iff.mp hk).1
      omega
  refine ⟨fun q e hq => ?_, hno, hD.2 _ _ hlast⟩
  by_cases hqa : q = a
  · subst hqa
    rw [hp_up_s] at hq
    cases hq
    exact h1 _ _ hlast
  · rw [hp_up_n hqa] at hq
    obtain ⟨k, hk⟩ := hp_at (hP.lt hq) hq
    exact h1 k _ (hin k _ hk)
/-- what the tables say, and goes on being so -/
def hp_K (G : hp_G) (U : State) : Prop := va_K G.1 G.2.1 G.2.2.1 U ∧ (∀ q ∈ G.2.2.2.1, va_Nw (.methodLinkNest q.1 q.2.1 q.2.2.1 q.2.2.2) U) ∧ ∀ C ∈ G.2.2.2.2, va_AO C U
theorem hp_K.warm {G : hp_G} {s U : State} (hW : s.WarmedH U.vm) (h : hp_K G s) : hp_K G U := ⟨va_K.moved hW.alike h.1, fun q hq => va_Nw.warmM hW (h.2.1 q hq), fun C hC => va_AO.moved hW.alike (h.2.2 C hC)⟩
theorem hp_K.blind {G : hp_G} {U : State} {g : JFrame} {mk : MethodId} {a : Array Value} (h : hp_K G U) : hp_K G (U.calling g mk a) := ⟨va_K.moved (u := U) (U := U.calling g mk a) (Vm.Alike.refl U.vm) h.1, fun q hq => va_Nw.same (u := U) (U := U.calling g mk a) rfl rfl (h.2.1 q hq), fun C hC => va_AO.moved (u := U) (U := U.calling g mk a) (Vm.Alike.refl U.vm) (h.2.2 C hC)⟩
/-- a method's start -/
def hp_I (G : hp_G) (A : Nat → Prop) (h : hp_T) (U : State) : Prop := hp_P G h U.heap ∧ hp_K G U ∧ (∀ (a : Nat) (e : va_E), h a = some e → A a) ∧ ∀ q : Nat, U.heap.size ≤ q → A q
/-- where a method stands: started at s, the heap is H now, its picture h -/
def hp_J (G : hp_G) (A : Nat → Prop) (h : hp_T) (s : State) (H : Heap) (locs : List Loc) : Prop := hp_P G h H ∧ hp_K G s ∧ (∀ (a : Nat) (e : va_E), h a = some e → A a) ∧ va_S A s.heap H locs ∧ ∀ q : Nat, s.heap.size ≤ q → A q
theorem hp_I.J {G : hp_G} {A : Nat → Prop} {h : hp_T} {s : State} (hI : hp_I G A h s) : hp_J G A h s s.heap [] := ⟨hI.1, hI.2.1, hI.2.2.1, va_S.rf, hI.2.2.2⟩
theorem hp_J.I {G : hp_G} {A : Nat → Prop} {h : hp_T} {s U : State} {H : Heap} {locs : List Loc} (hJ : hp_J G A h s H locs) (hU : U.heap = H) (hW : s.WarmedH U.vm) : hp_I G A h U := ⟨by rw [hU]; exact hJ.1, hJ.2.1.warm hW, hJ.2.2.1, fun q hq => hJ.2.2.2.2 q (Nat.le_trans hJ.2.2.2.1.1 (by rw [← hU]; exact hq))⟩
theorem hp_J.lt {G : hp_G} {A : Nat → Prop} {h : hp_T} {s : State} {H : Heap} {locs : List Loc} (hJ : hp_J G A h s H locs) {a : Nat} {e : va_E} (he : h a = some e) : a < H.size := hJ.1.lt he
theorem hp_blind {G : hp_G} {A : Nat → Prop} {h : hp_T} {av : List Value} : FrameBlind (va_Pc av (hp_I G A h)) := fun _ _ _ _ q => ⟨q.1, q.2.1, q.2.2.1.blind, q.2.2.2⟩
theorem hp_blindK {G : hp_G} {av : List Value} : FrameBlind (va_Pc av (hp_K G)) := fun _ _ _ _ q => ⟨q.1, q.2.blind⟩
/-- the ends: a method that changes nothing; a method that leaves the picture h' -/
def hp_QR (v : Option Value) : Array Value → State → Outcome → State → Prop := fun _ st o t => o = .returned v ∧ t.heap = st.heap
def hp_QW {α : Type} (G : hp_G) (A : Nat → Prop) (mk : α → Option Value) (post : α → hp_T → Prop) : Array Value → State → Outcome → State → Prop := fun _ st o t => (∃ (r : α) (h' : hp_T), o = .returned (mk r) ∧ post r h' ∧ hp_P G h' t.heap ∧ ∀ (a : Nat) (e : va_E), h' a = some e → A a) ∧ va_F A st t
abbrev hp_mv (_ : Unit) : Option Value := none
abbrev hp_mi (r : Int32) : Option Value := some (.int r)
abbrev hp_ml (r : Int64) : Option Value := some (.long r)
abbrev hp_mr (r : Nat) : Option Value := some (.ref r)
abbrev hp_mq (r : Option Nat) : Option Value := some (va_rf r)
/-- the tables' words, once for all: every word is good, the classes' fields stand among them -/
def hp_C (Ts : List Cond) (cl : List vw_C) : Prop := ∀ (ci : Nat) (C : String) (T : u_T) (N : Nat), cl[ci]? = some (C, T, N) → (∀ w ∈ u_ws C T N, w ∈ Ts) ∧ (∃ ty : Nat → FieldType, ∀ k, k < N → parseFieldDescriptor (T k).2.2.1 = some (ty k)) ∧ ∀ a, a < N → ∀ b, b < N → a ≠ b → (T a).2.1 ≠ (T b).2.1
def hp_Z (Ts : List Cond) (G : hp_G) : Prop := hp_C Ts G.2.1 ∧ ∀ w ∈ Ts, (w.onTables && w.keeps) = true ∨ ∃ ty, w = .arrayClass ty
theorem hp_Z.good {Ts : List Cond} {G : hp_G} (hZ : hp_Z Ts G) {w : Cond} (hw : w ∈ Ts) : GoodIn Ts (w :: Ts) := fun x hx => by
  rcases List.mem_cons.mp hx with rfl | hx
  · exact ⟨hw, hZ.2 _ hw⟩
  · exact ⟨hx, hZ.2 _ hx⟩
/-- a field as an instruction names it -/
def hp_f (Ts : List Cond) (cl : List vw_C) (own : String) (index ci k : Nat) : Prop := ∃ (C : String) (T : u_T) (N : Nat), cl[ci]? = some (C, T, N) ∧ k < N ∧ Cond.fieldLink own index (T k).1 (T k).2.1 (T k).2.2.1 ∈ Ts
def hp_fp (Ts : List Cond) (cl : List vw_C) (own : String) (index ci k : Nat) (ty : FieldType) (fin : Bool) : Prop := ∃ (C : String) (T : u_T) (N : Nat), cl[ci]? = some (C, T, N) ∧ k < N ∧ Cond.fieldLink own index (T k).1 (T k).2.1 (T k).2.2.1 ∈ Ts ∧ (T k).2.2.2 = fin ∧ parseFieldDescriptor (T k).2.2.1 = some ty ∧ (T k).1 = C
section HPW
variable {p : Program} {l : Launch} {e : Env} {R : Room} {s : State} {m : MethodId} {args : Array Value} {below : List Frame} {meth : Method} {c : Code} {H : Heap} {locs : List Loc} {cells slots : Nat} {Q : State → Prop}
variable {cc : ByteArray} {nL pc : Nat} {ls : Array Slot} {rest : List Value} {Ts : List Cond} {own : String} {G : hp_G} {A : Nat → Prop} {h : hp_T} {a : Nat}
theorem hp_get (S : CallFix p m c cc nL s args Ts own) (hZ : hp_Z Ts G) (hJ : hp_J G A h s H locs) {index ci k : Nat} {fs : List Value} (ha : h a = some (.inr (ci, fs))) (hf : hp_f Ts G.2.1 own index ci k) {v : Value} (hv : fs[k]? = some v) (hdg : decode cc pc = .ok (.getfield index, 3))
    (kk : W p l e R s m args below meth c H locs cells slots Q (F0 m (pc + 3) ls (v :: rest))) : W p l e R s m args below meth c H locs cells slots Q (F0 m pc ls (.ref a :: rest)) := by
  obtain ⟨C, T, N, hc, hk, hl⟩ := hf
  exact va_get S.1 S.2.1 S.2.2.2.2 (hZ.1 ci C T N hc).1 S.2.2.2.1 hJ.2.1.1 (hJ.1.one ha) 0 rfl hc k hk (S.2.2.2.2 _ hl) (fun _ h9 => h9) hv hdg kk
theorem hp_put (S : CallFix p m c cc nL s args Ts own) (hZ : hp_Z Ts G) (hJ : hp_J G A h s H locs) {index ci k : Nat} {fs : List Value} {ty : FieldType} (ha : h a = some (.inr (ci, fs))) (hf : hp_fp Ts G.2.1 own index ci k ty false) {v : Value} (hn : narrow ty v = v) (hfit : fits ty v = true) (hl : k < fs.length) (hdg : decode cc pc = .ok (.putfield index, 3))
    (kk : ∀ (H1 : Heap) (locs1 : List Loc), hp_J G A (hp_up h a (.inr (ci, fs.set k v))) s H1 locs1 → W p l e R s m args below meth c H1 locs1 cells slots Q (F0 m (pc + 3) ls rest)) : W p l e R s m args below meth c H locs cells slots Q (F0 m pc ls (v :: .ref a :: rest)) := by
  obtain ⟨C, T, N, hc, hk, hlk, hfin, hd, -⟩ := hf
  obtain ⟨hin, ⟨ty0, hty⟩, hnm⟩ := hZ.1 ci C T N hc
  obtain ⟨q0, h0⟩ := hp_at (hJ.lt ha) ha
  refine va_put S.1 S.2.1 S.2.2.2.2 hin ty0 hty hnm S.2.2.2.1 hJ.2.1.1 (hJ.1.ws H.size) (hp_D hJ.2.2.1 _) hJ.2.2.2.1 q0 h0 hc k hk (S.2.2.2.2 _ hlk) (fun _ h9 => h9) hfin hd hn hfit hl hdg fun H1 locs1 h1 h2 h3 => ?_
  refine kk H1 locs1 ⟨hp_set hJ.1 h0 h1, hJ.2.1, fun q x hq => ?_, h3, hJ.2.2.2.2⟩
  by_cases hqa : q = a
  · subst hqa
    exact hJ.2.2.1 q _ ha
  · rw [hp_up_n hqa] at hq
    exact hJ.2.2.1 q x hq
theorem hp_putF (S : CallFix p m c cc nL s args Ts own) (hZ : hp_Z Ts G) (hJ : hp_J G A h s H locs) (hin2 : meth.name = "<init>") {index ci k : Nat} {fs : List Value} {ty : FieldType} (ha : h a = some (.inr (ci, fs))) (hf : hp_fp Ts G.2.1 own index ci k ty true) (ho : (G.2.1[ci]?).map (fun q => q.1) = some own) {v : Value} (hn : narrow ty v = v) (hfit : fits ty v = true) (hl : k < fs.length) (hdg : decode cc pc = .ok (.putfield index, 3))
    (kk : ∀ (H1 : Heap) (locs1 : List Loc), hp_J G A (hp_up h a (.inr (ci, fs.set k v))) s H1 locs1 → W p l e R s m args below meth c H1 locs1 cells slots Q (F0 m (pc + 3) ls rest)) : W p l e R s m args below meth c H locs cells slots Q (F0 m pc ls (v :: .ref a :: rest)) := by
  obtain ⟨C, T, N, hc, hk, hlk, hfin, hd, hdc⟩ := hf
  obtain ⟨hin, ⟨ty0, hty⟩, hnm⟩ := hZ.1 ci C T N hc
  obtain ⟨q0, h0⟩ := hp_at (hJ.lt ha) ha
  rw [hc] at ho
  have hco : C = own := Option.some.inj ho
  refine va_putF S.1 S.2.1 S.2.2.2.2 hin ty0 hty hnm S.2.2.2.1 hJ.2.1.1 (hJ.1.ws H.size) (hp_D hJ.2.2.1 _) hJ.2.2.2.1 q0 h0 hc k hk (S.2.2.2.2 _ hlk) (fun _ h9 => h9) hfin hin2 (hdc.trans hco) hd hn hfit hl hdg fun H1 locs1 h1 h2 h3 => ?_
  refine kk H1 locs1 ⟨hp_set hJ.1 h0 h1, hJ.2.1, fun q x hq => ?_, h3, hJ.2.2.2.2⟩
  by_cases hqa : q = a
  · subst hqa
    exact hJ.2.2.1 q _ ha
  · rw [hp_up_n hqa] at hq
    exact hJ.2.2.1 q x hq
theorem hp_iald (S : CallFix p m c cc nL s args Ts own) (hJ : hp_J G A h s H locs) (t0 : Nat) {cA : ClassId} {n : Nat} {f : Nat → Int32} (ha : h a = some (.inl (cA, n, .inl f))) (ht : G.2.2.1[t0]? = some (cA, .int)) {i : Int32} (hin : vp_in i n) (hdg : decode cc pc = .ok (.iaload, 1))
    (kk : W p l e R s m args below meth c H locs cells slots Q (F0 m (pc + 1) ls (.int (f i.toNatClampNeg) :: rest))) : W p l e R s m args below meth c H locs cells slots Q (F0 m pc ls (.int i :: .ref a :: rest)) := va_iald S.1 S.2.1 hJ.2.1.1 (hJ.1.one ha) 0 t0 rfl ht hin hdg kk
theorem hp_zald (S : CallFix p m c cc nL s args Ts own) (hJ : hp_J G A h s H locs) (t0 : Nat) {cA : ClassId} {n : Nat} {f : Nat → Int32} (ha : h a = some (.inl (cA, n, .inl f))) (ht : G.2.2.1[t0]? = some (cA, .boolean)) {i : Int32} (hin : vp_in i n) (hdg : decode cc pc = .ok (.baload, 1))
    (kk : W p l e R s m args below meth c H locs cells slots Q (F0 m (pc + 1) ls (.int (f i.toNatClampNeg) :: rest))) : W p l e R s m args below meth c H locs cells slots Q (F0 m pc ls (.int i :: .ref a :: rest)) := va_zald S.1 S.2.1 hJ.2.1.1 (hJ.1.one ha) 0 t0 rfl ht hin hdg kk
theorem hp_bald (S : CallFix p m c cc nL s args Ts own) (hJ : hp_J G A h s H locs) (t0 : Nat) {cA : ClassId} {n : Nat} {f : Nat → Int32} (ha : h a = some (.inl (cA, n, .inl f))) (ht : G.2.2.1[t0]? = some (cA, .byte)) {i : Int32} (hin : vp_in i n) (hdg : decode cc pc = .ok (.baload, 1))
    (kk : W p l e R s m args below meth c H locs cells slots Q (F0 m (pc + 1) ls (.int (f i.toNatClampNeg) :: rest))) : W p l e R s m args below meth c H locs cells slots Q (F0 m pc ls (.int i :: .ref a :: rest)) := va_bald S.1 S.2.1 hJ.2.1.1 (hJ.1.one ha) 0 t0 rfl ht hin hdg kk
theorem hp_lald (S : CallFix p m c cc nL s args Ts own) (hJ : hp_J G A h s H locs) (t0 : Nat) {cA : ClassId} {n : Nat} {f : Nat → Int64} (ha : h a = some (.inl (cA, n, .inr (.inl f)))) (ht : G.2.2.1[t0]? = some (cA, .long)) {i : Int32} (hin : vp_in i n) (hdg : decode cc pc = .ok (.laload, 1))
    (kk : W p l e R s m args below meth c H locs cells slots Q (F0 m (pc + 1) ls (.long (f i.toNatClampNeg) :: rest))) : W p l e R s m args below meth c H locs cells slots Q (F0 m pc ls (.int i :: .ref a :: rest)) := va_lald S.1 S.2.1 hJ.2.1.1 (hJ.1.one ha) 0 t0 rfl ht hin hdg kk
theorem hp_aald (S : CallFix p m c cc nL s args Ts own) (hJ : hp_J G A h s H locs) (t0 : Nat) {cA : ClassId} {C : String} {n : Nat} {f : Nat → Option Nat} (ha : h a = some (.inl (cA, n, .inr (.inr (.inr (.inr f)))))) (ht : G.2.2.1[t0]? = some (cA, .object C)) {i : Int32} (hin : vp_in i n) (hdg : decode cc pc = .ok (.aaload, 1))
    (kk : W p l e R s m args below meth c H locs cells slots Q (F0 m (pc + 1) ls (va_rf (f i.toNatClampNeg) :: rest))) : W p l e R s m args below meth c H locs cells slots Q (F0 m pc ls (.int i :: .ref a :: rest)) := va_aldq S.1 S.2.1 hJ.2.1.1 (hJ.1.one ha) 0 t0 rfl ht hin hdg kk
theorem hp_alen (S : CallFix p m c cc nL s args Ts own) (hJ : hp_J G A h s H locs) (t0 : Nat) {cA : ClassId} {x : vp_A} (ha : h a = some (.inl (cA, x))) {ty : FieldType} (ht : G.2.2.1[t0]? = some (cA, ty)) (hdg : decode cc pc = .ok (.arraylength, 1))
    (kk : W p l e R s m args below meth c H locs cells slots Q (F0 m (pc + 1) ls (.int (nI x.1) :: rest))) : W p l e R s m args below meth c H locs cells slots Q (F0 m pc ls (.ref a :: rest)) := va_alen S.1 S.2.1 hJ.2.1.1 (hJ.1.one ha) 0 t0 rfl ht rfl hdg kk
theorem hp_dom {e0 e1 : va_E} (hd : ∀ (q : Nat) (x : va_E), h q = some x → A q) (ha : h a = some e0) : ∀ (q : Nat) (x : va_E), hp_up h a e1 q = some x → A q := by
  intro q x hq
  by_cases hqa : q = a
  · subst hqa
    exact hd q _ ha
  · rw [hp_up_n hqa] at hq
    exact hd q x hq
theorem hp_domN {e1 : va_E} (hd : ∀ (q : Nat) (x : va_E), h q = some x → A q) (ha : A a) : ∀ (q : Nat) (x : va_E), hp_up h a e1 q = some x → A q := by
  intro q x hq
  by_cases hqa : q = a
  · subst hqa
    exact ha
  · rw [hp_up_n hqa] at hq
    exact hd q x hq
theorem hp_iast (S : CallFix p m c cc nL s args Ts own) (hJ : hp_J G A h s H locs) (t0 : Nat) {cA : ClassId} {n : Nat} {f : Nat → Int32} (ha : h a = some (.inl (cA, n, .inl f))) (ht : G.2.2.1[t0]? = some (cA, .int)) {i x : Int32} (hin : vp_in i n) (hdg : decode cc pc = .ok (.iastore, 1))
    (kk : ∀ (H1 : Heap) (locs1 : List Loc), hp_J G A (hp_up h a (.inl (cA, n, .inl (upd f i.toNatClampNeg x)))) s H1 locs1 → W p l e R s m args below meth c H1 locs1 cells slots Q (F0 m (pc + 1) ls rest)) : W p l e R s m args below meth c H locs cells slots Q (F0 m pc ls (.int x :: .int i :: .ref a :: rest)) := by
  obtain ⟨q0, h0⟩ := hp_at (hJ.lt ha) ha
  exact va_iast S.1 S.2.1 hJ.2.1.1 (hJ.1.ws H.size) (hp_D hJ.2.2.1 _) hJ.2.2.2.1 q0 t0 h0 ht hin hdg fun H1 locs1 h1 h2 h3 => kk H1 locs1 ⟨hp_set hJ.1 h0 h1, hJ.2.1, hp_dom hJ.2.2.1 ha, h3, hJ.2.2.2.2⟩
theorem hp_zast (S : CallFix p m c cc nL s args Ts own) (hJ : hp_J G A h s H locs) (t0 : Nat) {cA : ClassId} {n : Nat} {f : Nat → Int32} (ha : h a = some (.inl (cA, n, .inl f))) (ht : G.2.2.1[t0]? = some (cA, .boolean)) {i x : Int32} (hin : vp_in i n) (hdg : decode cc pc = .ok (.bastore, 1))
    (kk : ∀ (H1 : Heap) (locs1 : List Loc), hp_J G A (hp_up h a (.inl (cA, n, .inl (upd f i.toNatClampNeg (vp_nar .boolean x))))) s H1 locs1 → W p l e R s m args below meth c H1 locs1 cells slots Q (F0 m (pc + 1) ls rest)) : W p l e R s m args below meth c H locs cells slots Q (F0 m pc ls (.int x :: .int i :: .ref a :: rest)) := by
  obtain ⟨q0, h0⟩ := hp_at (hJ.lt ha) ha
  exact va_zast S.1 S.2.1 hJ.2.1.1 (hJ.1.ws H.size) (hp_D hJ.2.2.1 _) hJ.2.2.2.1 q0 t0 h0 ht hin hdg fun H1 locs1 h1 h2 h3 => kk H1 locs1 ⟨hp_set hJ.1 h0 h1, hJ.2.1, hp_dom hJ.2.2.1 ha, h3, hJ.2.2.2.2⟩
theorem hp_bast (S : CallFix p m c cc nL s args Ts own) (hJ : hp_J G A h s H locs) (t0 : Nat) {cA : ClassId} {n : Nat} {f : Nat → Int32} (ha : h a = some (.inl (cA, n, .inl f))) (ht : G.2.2.1[t0]? = some (cA, .byte)) {i x : Int32} (hin : vp_in i n) (hdg : decode cc pc = .ok (.bastore, 1))
    (kk : ∀ (H1 : Heap) (locs1 : List Loc), hp_J G A (hp_up h a (.inl (cA, n, .inl (upd f i.toNatClampNeg (vp_nar .byte x))))) s H1 locs1 → W p l e R s m args below meth c H1 locs1 cells slots Q (F0 m (pc + 1) ls rest)) : W p l e R s m args below meth c H locs cells slots Q (F0 m pc ls (.int x :: .int i :: .ref a :: rest)) := by
  obtain ⟨q0, h0⟩ := hp_at (hJ.lt ha) ha
  exact va_bast S.1 S.2.1 hJ.2.1.1 (hJ.1.ws H.size) (hp_D hJ.2.2.1 _) hJ.2.2.2.1 q0 t0 h0 ht hin hdg fun H1 locs1 h1 h2 h3 => kk H1 locs1 ⟨hp_set hJ.1 h0 h1, hJ.2.1, hp_dom hJ.2.2.1 ha, h3, hJ.2.2.2.2⟩
theorem hp_last (S : CallFix p m c cc nL s args Ts own) (hJ : hp_J G A h s H locs) (t0 : Nat) {cA : ClassId} {n : Nat} {f : Nat → Int64} (ha : h a = some (.inl (cA, n, .inr (.inl f)))) (ht : G.2.2.1[t0]? = some (cA, .long)) {i : Int32} {x : Int64} (hin : vp_in i n) (hdg : decode cc pc = .ok (.lastore, 1))
    (kk : ∀ (H1 : Heap) (locs1 : List Loc), hp_J G A (hp_up h a (.inl (cA, n, .inr (.inl (vp_updL f i.toNatClampNeg x))))) s H1 locs1 → W p l e R s m args below meth c H1 locs1 cells slots Q (F0 m (pc + 1) ls rest)) : W p l e R s m args below meth c H locs cells slots Q (F0 m pc ls (.long x :: .int i :: .ref a :: rest)) := by
  obtain ⟨q0, h0⟩ := hp_at (hJ.lt ha) ha
  exact va_last S.1 S.2.1 hJ.2.1.1 (hJ.1.ws H.size) (hp_D hJ.2.2.1 _) hJ.2.2.2.1 q0 t0 h0 ht hin hdg fun H1 locs1 h1 h2 h3 => kk H1 locs1 ⟨hp_set hJ.1 h0 h1, hJ.2.1, hp_dom hJ.2.2.1 ha, h3, hJ.2.2.2.2⟩
theorem hp_aast (S : CallFix p m c cc nL s args Ts own) (hJ : hp_J G A h s H locs) (t0 ci : Nat) {cA : ClassId} {r : vw_C} {n v : Nat} {vs : List Value} {f : Nat → Option Nat} (ha : h a = some (.inl (cA, n, .inr (.inr (.inr (.inr f)))))) (ht : G.2.2.1[t0]? = some (cA, .object r.1)) (hv : h v = some (.inr (ci, vs))) (hc : G.2.1[ci]? = some r) {i : Int32} (hin : vp_in i n) (hdg : decode cc pc = .ok (.aastore, 1))
    (kk : ∀ (H1 : Heap) (locs1 : List Loc), hp_J G A (hp_up h a (.inl (cA, n, .inr (.inr (.inr (.inr (va_up f i.toNatClampNeg (some v)))))))) s H1 locs1 → W p l e R s m args below meth c H1 locs1 cells slots Q (F0 m (pc + 1) ls rest)) : W p l e R s m args below meth c H locs cells slots Q (F0 m pc ls (.ref v :: .int i :: .ref a :: rest)) := by
  obtain ⟨q0, h0⟩ := hp_at (hJ.lt ha) ha
  obtain ⟨q1, h1⟩ := hp_at (hJ.lt hv) hv
  exact va_astq S.1 S.2.1 hJ.2.1.1 (hJ.1.ws H.size) (hp_D hJ.2.2.1 _) hJ.2.2.2.1 q0 t0 q1 ci h0 ht h1 hc hin hdg fun H1 locs1 h1 h2 h3 => kk H1 locs1 ⟨hp_set hJ.1 h0 h1, hJ.2.1, hp_dom hJ.2.2.1 ha, h3, hJ.2.2.2.2⟩
theorem hp_aastN (S : CallFix p m c cc nL s args Ts own) (hJ : hp_J G A h s H locs) (t0 : Nat) {cA : ClassId} {C : String} {n : Nat} {f : Nat → Option Nat} (ha : h a = some (.inl (cA, n, .inr (.inr (.inr (.inr f)))))) (ht : G.2.2.1[t0]? = some (cA, .object C)) {i : Int32} (hin : vp_in i n) (hdg : decode cc pc = .ok (.aastore, 1))
    (kk : ∀ (H1 : Heap) (locs1 : List Loc), hp_J G A (hp_up h a (.inl (cA, n, .inr (.inr (.inr (.inr (va_up f i.toNatClampNeg none))))))) s H1 locs1 → W p l e R s m args below meth c H1 locs1 cells slots Q (F0 m (pc + 1) ls rest)) : W p l e R s m args below meth c H locs cells slots Q (F0 m pc ls (.null :: .int i :: .ref a :: rest)) := by
  obtain ⟨q0, h0⟩ := hp_at (hJ.lt ha) ha
  exact va_astqN S.1 S.2.1 hJ.2.1.1 (hJ.1.ws H.size) (hp_D hJ.2.2.1 _) hJ.2.2.2.1 q0 t0 h0 ht hin hdg fun H1 locs1 h1 h2 h3 => kk H1 locs1 ⟨hp_set hJ.1 h0 h1, hJ.2.1, hp_dom hJ.2.2.1 ha, h3, hJ.2.2.2.2⟩
/-- new: an object of the class ci, its fields at their first values -/
theorem hp_new (S : CallFix p m c cc nL s args Ts own) (hZ : hp_Z Ts G) (hJ : hp_J G A h s H locs) {index ci : Nat} {C : String} {T : u_T} {N : Nat} (hc : G.2.1[ci]? = some (C, T, N)) (hl : Cond.classLink own index C ∈ Ts ∧ Cond.instantiable C N ∈ Ts ∧ Cond.initialized C ∈ Ts) {fs : List Value} (hfs : ∀ j, j < N → (parseFieldDescriptor (T j).2.2.1).map defaultValue = some (vp_V fs j)) (hcells : cells + 1 ≤ R.cells) (hslots : slots + N ≤ R.slots) (hdg : decode cc pc = .ok (.new index, 3))
    (kk : ∀ (q : Nat) (H1 : Heap), h q = none → H.size ≤ q → hp_J G A (hp_up h q (.inr (ci, fs))) s H1 locs → W p l e R s m args below meth c H1 locs (cells + 1) (slots + N) Q (F0 m (pc + 3) ls (.ref q :: rest))) : W p l e R s m args below meth c H locs cells slots Q (F0 m pc ls rest) := by
  obtain ⟨hin, ⟨ty0, hty⟩, hnm⟩ := hZ.1 ci C T N hc
  have hKn := hJ.2.1.1.1 ci _ hc
  refine W.newcK S.1 S.2.1 S.2.2.2.1 (S.2.2.2.2 _ hl.1) (S.2.2.2.2 _ hl.2.1) (S.2.2.2.2 _ hl.2.2) rfl hdg hcells hslots hKn.2.1 rfl fun H1 kC hkC e1 z1 o1 => ?_
  have hno : h H.size = none := hJ.1.none (Nat.le_refl _)
  refine kk H.size H1 hno (Nat.le_refl _) ⟨fun q x hq => ?_, hJ.2.1, hp_domN hJ.2.2.1 (hJ.2.2.2.2 _ hJ.2.2.2.1.1), ⟨Nat.le_trans hJ.2.2.2.1.1 (by omega), fun x h1 h2 => (o1 x (Nat.lt_of_lt_of_le h1 hJ.2.2.2.1.1)).trans (hJ.2.2.2.1.2.1 x h1 h2), hJ.2.2.2.1.2.2⟩, hJ.2.2.2.2⟩
  by_cases hqa : q = H.size
  · subst hqa
    rw [hp_up_s] at hq
    cases hq
    refine ⟨_, hc, (u_born ty0 S.2.2.2.2 hin hKn hkC e1 hty).to (fun j hj => ?_)⟩
    have h9 := hfs j hj
    rw [hty j hj] at h9
    exact Option.some.inj h9
  · rw [hp_up_n hqa] at hq
    exact (hJ.1 q x hq).kept (o1 q (hJ.lt hq))
/-- a new array of numbers -/
theorem hp_newa (S : CallFix p m c cc nL s args Ts own) (hJ : hp_J G A h s H locs) (t0 : Nat) {atype : ArrayType} (hA : Cond.arrayClass (newarray.typeOf atype) ∈ Ts) {cA : ClassId} (ht : G.2.2.1[t0]? = some (cA, newarray.typeOf atype)) (hob : ∀ C, newarray.typeOf atype ≠ .object C) {n : Int32} {N' : Nat} {a0 : vp_A} (ha : vp_cell cA a0 = arrV cA N' (fun _ => defaultValue (newarray.typeOf atype))) (hn : ¬ n < 0) (hN : n.toNatClampNeg = N') (hbytes : N' * componentBytes (newarray.typeOf atype) ≤ 536870912) (hcells : cells + 1 ≤ R.cells) (hslots : slots + N' ≤ R.slots) (hdg : decode cc pc = .ok (.newarray atype, 2))
    (kk : ∀ (q : Nat) (H1 : Heap), h q = none → H.size ≤ q → hp_J G A (hp_up h q (.inl (cA, a0))) s H1 locs → W p l e R s m args below meth c H1 locs (cells + 1) (slots + N') Q (F0 m (pc + 2) ls (.ref q :: rest))) : W p l e R s m args below meth c H locs cells slots Q (F0 m pc ls (.int n :: rest)) := by
  refine va_newaK S.1 S.2.1 (S.2.2.2.2 _ hA) rfl hdg rfl hn hN hbytes hcells hslots rfl fun H1 cA' e1 z1 o1 hAr hNm => ?_
  have hra := (hJ.2.1.1.2 t0 _ ht).2
  have hcA : cA' = cA := by
    have h9 : s.vm.findClass ("[" ++ (newarray.typeOf atype).toString) = some cA := by
      unfold va_RA at hra
      split at hra
      · exact absurd ‹_› (hob _)
      · exact hra
    exact Option.some.inj (hNm.symm.trans h9)
  subst hcA
  have hno : h H.size = none := hJ.1.none (Nat.le_refl _)
  refine kk H.size H1 hno (Nat.le_refl _) ⟨fun q x hq => ?_, hJ.2.1, hp_domN hJ.2.2.1 (hJ.2.2.2.2 _ hJ.2.2.2.1.1), ⟨Nat.le_trans hJ.2.2.2.1.1 (by omega), fun x h1 h2 => (o1 x (Nat.lt_of_lt_of_le h1 hJ.2.2.2.1.1)).trans (hJ.2.2.2.1.2.1 x h1 h2), hJ.2.2.2.1.2.2⟩, hJ.2.2.2.2⟩
  by_cases hqa : q = H.size
  · subst hqa
    rw [hp_up_s] at hq
    cases hq
    show H1[H.size]? = some (vp_cell _ _)
    rw [ha]
    exact e1
  · rw [hp_up_n hqa] at hq
    exact (hJ.1 q x hq).kept (o1 q (hJ.lt hq))
/-- a new array of references -/
theorem hp_newq (S : CallFix p m c cc nL s args Ts own) (hJ : hp_J G A h s H locs) (t0 : Nat) {index : Nat} {C : String} (hlk : Cond.classLink own index C ∈ Ts) (hov : C ∈ G.2.2.2.2) {cA : ClassId} (ht : G.2.2.1[t0]? = some (cA, .object C)) {n : Int32} {N' : Nat} (hn : ¬ n < 0) (hN : n.toNatClampNeg = N') (hbytes : N' * 4 ≤ 536870912) (hcells : cells + 1 ≤ R.cells) (hslots : slots + N' ≤ R.slots) (hdg : decode cc pc = .ok (.anewarray index, 3))
    (kk : ∀ (q : Nat) (H1 : Heap), h q = none → hp_J G A (hp_up h q (.inl (cA, N', .inr (.inr (.inr (.inr (fun _ => none))))))) s H1 locs → W p l e R s m args below meth c H1 locs (cells + 1) (slots + N') Q (F0 m (pc + 3) ls (.ref q :: rest))) : W p l e R s m args below meth c H locs cells slots Q (F0 m pc ls (.int n :: rest)) := by
  refine va_newq S.1 S.2.1 S.2.2.2.1 (S.2.2.2.2 _ hlk) (hJ.2.1.2.2 C hov) hJ.2.1.1 (hJ.1.ws H.size) (hp_D hJ.2.2.1 _) hJ.2.2.2.1 hJ.2.2.2.2 hn hN hbytes hcells hslots hdg fun q cA' H1 h1 h2 h3 h4 => ?_
  obtain ⟨kA, comp, k1, k2, k3, k4⟩ := (hJ.2.1.1.2 t0 _ ht).2
  have hl9 : (G.2.2.1 ++ [(cA', FieldType.object C)])[G.2.2.1.length]? = some (cA', .object C) := by rw [List.getElem?_append_right (Nat.le_refl _), Nat.sub_self]; rfl
  obtain ⟨kA', comp', g1, g2, g3, g4⟩ := (h1.2 _ _ hl9).2
  have hcA : cA' = cA := Option.some.inj (g4.symm.trans k4)
  subst hcA
  obtain ⟨r1, r2, r3⟩ := hp_app hJ.1 h2 h3
  exact kk q H1 r2 ⟨r1, hJ.2.1, hp_domN hJ.2.2.1 r3, h4, hJ.2.2.2.2⟩
end HPW
end
section
/-! Calls, entries and ends over the heap as a function. -/
abbrev hp_nd (y : MethodName) (n : Nat) : Prop := y.cls ≠ "java/lang/invoke/MethodHandle" ∧ y.cls ≠ "java/lang/invoke/VarHandle" ∧ (parseMethodDescriptor y.desc).map (fun d => d.parameters.length) = some n
/-- what a call instruction links: static; static by a nest mate; virtual; a constructor -/
def hp_lS (Ts : List Cond) (own : String) (index : Nat) (y : MethodName) (bytes : ByteArray) (maxL : Nat) (ret : Option FieldType) (n : Nat) : Prop := Cond.methodLink own index y ∈ Ts ∧ Cond.static y ∈ Ts ∧ Cond.initialized y.cls ∈ Ts ∧ Cond.code y bytes maxL ret ∈ Ts ∧ hp_nd y n
def hp_lN (Ts : List Cond) (NL : List (String × Nat × MethodName × String)) (own : String) (index : Nat) (y : MethodName) (host : String) (bytes : ByteArray) (maxL : Nat) (ret : Option FieldType) (n : Nat) : Prop := (own, index, y, host) ∈ NL ∧ Cond.static y ∈ Ts ∧ Cond.initialized y.cls ∈ Ts ∧ Cond.code y bytes maxL ret ∈ Ts ∧ hp_nd y n
def hp_lV (Ts : List Cond) (own : String) (index : Nat) (y : MethodName) (bytes : ByteArray) (maxL : Nat) (ret : Option FieldType) (n : Nat) : Prop := Cond.methodLink own index y ∈ Ts ∧ Cond.instanceMethod y ∈ Ts ∧ Cond.selects y.cls y y ∈ Ts ∧ Cond.initialized y.cls ∈ Ts ∧ Cond.code y bytes maxL ret ∈ Ts ∧ hp_nd y n
def hp_lI (Ts : List Cond) (own : String) (index : Nat) (y : MethodName) (bytes : ByteArray) (maxL n : Nat) : Prop := Cond.methodLink own index y ∈ Ts ∧ Cond.instanceMethod y ∈ Ts ∧ Cond.initialized y.cls ∈ Ts ∧ Cond.code y bytes maxL none ∈ Ts ∧ y.name = "<init>" ∧ hp_nd y n
/-- the callee's room in the caller's -/
abbrev hp_R (R rm : Room) (maxL mc ms : Nat) : Prop := rm.frames + 1 ≤ R.frames ∧ 8 + (maxL + 11) + rm.locals ≤ R.locals ∧ rm.cells = mc ∧ rm.slots = ms
section HPC
variable {p : Program} {l : Launch} {e : Env} {R : Room} {s : State} {m : MethodId} {args : Array Value} {below : List Frame} {meth : Method} {c : Code} {H : Heap} {locs : List Loc} {cells slots : Nat} {Q : State → Prop}
variable {cc : ByteArray} {nL pc : Nat} {ls : Array Slot} {rest st0 : List Value} {Ts : List Cond} {own : String} {G : hp_G} {A : Nat → Prop} {h : hp_T} {a : Nat}
variable {y : MethodName} {bytes : ByteArray} {maxL mc ms n index : Nat} {ret : Option FieldType} {rm : Room} {As : List Value} {Pc : Array Value → State → Prop} {Qc : Array Value → State → Outcome → State → Prop} {free : Addr → Prop}
theorem hp_J.pre (hJ : hp_J G A h s H locs) (As : List Value) : PreS s H (va_Pc As (hp_I G A h)) As := ⟨hp_blind, fun _ hU hW => ⟨rfl, hJ.I hU hW⟩⟩
theorem hp_J.preK (hJ : hp_J G A h s H locs) (As : List Value) : PreS s H (va_Pc As (hp_K G)) As := ⟨hp_blindK, fun _ _ hW => ⟨rfl, hJ.2.1.warm hW⟩⟩
theorem hp_K.pre (hK : hp_K G s) (As : List Value) : PreS s H (va_Pc As (hp_K G)) As := ⟨hp_blindK, fun _ _ hW => ⟨rfl, hK.warm hW⟩⟩
theorem hp_pre0 (As : List Value) : PreS s H (va_Pc As (fun _ => True)) As := ⟨fun _ _ _ _ q => q, fun _ _ _ => ⟨rfl, trivial⟩⟩
theorem hp_J.preV (hJ : hp_J G A h s H locs) {b ci : Nat} {fs : List Value} {C : String} {T : u_T} {N : Nat} (As : List Value) (hb : h b = some (.inr (ci, fs))) (hc : G.2.1[ci]? = some (C, T, N)) : PreV s H C b (va_Pc (.ref b :: As) (hp_I G A h)) As := ⟨hp_blind, va_recv hJ.2.1.1 (hJ.1.one hb) hc (q0 := 0) rfl, fun _ hU hW => ⟨rfl, hJ.I hU hW⟩⟩
theorem hp_runS (S : CallFix p m c cc nL s args Ts own) (hZ : hp_Z Ts G) (hM : Met l y (.code y bytes maxL ret :: Ts) rm Pc Qc mc ms free) (lk : hp_lS Ts own index y bytes maxL ret n) (hp : PreS s H Pc As) (hR : hp_R R rm maxL mc ms) (hn : As.length = n) (hsize : ls.size = nL) (hst : st0 = As.reverse ++ rest) (hW : (rest.map fun v => v.category).sum ≤ 8) (hdg : decode cc pc = .ok (.invokestatic index, 3)) (hf : cells + mc ≤ R.cells ∧ slots + ms ≤ R.slots) :
    va_Run p l e R s m args below meth c H locs cells slots mc ms (F0 m pc ls st0) rest (Qc As.toArray) free := by
  obtain ⟨l1, l2, l3, l4, l5⟩ := lk
  exact va_runS S hM ⟨callB_of n S.2.2.2.2 (hZ.good l4) rfl hR.2.2.1 hR.2.2.2 (S.2.2.2.2 _ l3) (S.2.2.2.2 _ l1) l5 ⟨hR.1, hR.2.1⟩, S.2.2.2.2 _ l2⟩ hp rfl hn hsize hst (lv_room (rest := st0) hW) hdg hf
theorem hp_runN (S : CallFix p m c cc nL s args Ts own) (hZ : hp_Z Ts G) (hK : hp_K G s) (hM : Met l y (.code y bytes maxL ret :: Ts) rm Pc Qc mc ms free) {host : String} (lk : hp_lN Ts G.2.2.2.1 own index y host bytes maxL ret n) (hp : PreS s H Pc As) (hR : hp_R R rm maxL mc ms) (hn : As.length = n) (hsize : ls.size = nL) (hst : st0 = As.reverse ++ rest) (hW : (rest.map fun v => v.category).sum ≤ 8) (hdg : decode cc pc = .ok (.invokestatic index, 3)) (hf : cells + mc ≤ R.cells ∧ slots + ms ≤ R.slots) :
    va_Run p l e R s m args below meth c H locs cells slots mc ms (F0 m pc ls st0) rest (Qc As.toArray) free := by
  obtain ⟨l1, l2, l3, l4, l5⟩ := lk
  exact va_runSN S hM ⟨va_cnB n S.2.2.2.2 (hZ.good l4) rfl hR.2.2.1 hR.2.2.2 (hK.2.1 _ l1) (S.2.2.2.2 _ l3) l5 ⟨hR.1, hR.2.1⟩, S.2.2.2.2 _ l2, trivial⟩ hp rfl hn hsize hst (lv_room (rest := st0) hW) hdg hf
theorem hp_runV (S : CallFix p m c cc nL s args Ts own) (hZ : hp_Z Ts G) (hM : Met l y (.code y bytes maxL ret :: Ts) rm Pc Qc mc ms free) {b : Nat} (lk : hp_lV Ts own index y bytes maxL ret n) (hp : PreV s H y.cls b Pc As) (hR : hp_R R rm maxL mc ms) (hn : As.length = n) (hsize : ls.size = nL) (hst : st0 = As.reverse ++ .ref b :: rest) (hW : (rest.map fun v => v.category).sum ≤ 8) (hdg : decode cc pc = .ok (.invokevirtual index, 3)) (hf : cells + mc ≤ R.cells ∧ slots + ms ≤ R.slots) :
    va_Run p l e R s m args below meth c H locs cells slots mc ms (F0 m pc ls st0) rest (Qc (Value.ref b :: As).toArray) free := by
  obtain ⟨l1, l2, l3, l4, l5, l6⟩ := lk
  exact va_runV S hM ⟨callB_of n S.2.2.2.2 (hZ.good l5) rfl hR.2.2.1 hR.2.2.2 (S.2.2.2.2 _ l4) (S.2.2.2.2 _ l1) l6 ⟨hR.1, hR.2.1⟩, S.2.2.2.2 _ l2, S.2.2.2.2 _ l3⟩ hp rfl hn hsize hst (lv_room (rest := st0) hW) hdg hf
theorem hp_runI (S : CallFix p m c cc nL s args Ts own) (hZ : hp_Z Ts G) (hM : Met l y (.code y bytes maxL none :: Ts) rm Pc Qc mc ms free) {b : Nat} (lk : hp_lI Ts own index y bytes maxL n) (hp : PreS s H Pc (.ref b :: As)) (hR : hp_R R rm maxL mc ms) (hn : As.length = n) (hsize : ls.size = nL) (hst : st0 = As.reverse ++ .ref b :: rest) (hW : (rest.map fun v => v.category).sum ≤ 8) (hdg : decode cc pc = .ok (.invokespecial index, 3)) (hf : cells + mc ≤ R.cells ∧ slots + ms ≤ R.slots) :
    va_Run p l e R s m args below meth c H locs cells slots mc ms (F0 m pc ls st0) rest (Qc (Value.ref b :: As).toArray) free := by
  obtain ⟨l1, l2, l3, l4, l5, l6⟩ := lk
  exact va_runI S hM ⟨callB_of n S.2.2.2.2 (hZ.good l4) rfl hR.2.2.1 hR.2.2.2 (S.2.2.2.2 _ l3) (S.2.2.2.2 _ l1) l6 ⟨hR.1, hR.2.1⟩, l5, S.2.2.2.2 _ l2⟩ hp rfl hn hsize hst (lv_room (rest := st0) hW) hdg hf
/-- behind a call that changes nothing -/
theorem hp_doneR {v : Value} {av : Array Value} (hr : va_Run p l e R s m args below meth c H locs cells slots 0 0 (F0 m pc ls st0) rest (hp_QR (some v) av) (fun _ => False))
    (kk : W p l e R s m args below meth c H locs cells slots Q (F0 m (pc + 3) ls (v :: rest))) : W p l e R s m args below meth c H locs cells slots Q (F0 m pc ls st0) := by
  intro T hT X
  obtain ⟨v', st₀, t, T', L, h0, X', hL, e1, e2, ⟨hv, hh⟩, st⟩ := hr T hT X
  cases hv
  obtain ⟨t2, a1, b1⟩ := kk T' (by rw [e1, hh, h0]) (Stand.forget X' (fun q h => (hL q h).elim))
  exact ⟨t2, st t2 a1, b1⟩
/-- behind a call that leaves the picture h' -/
theorem hp_doneW {α : Type} {mk : α → Option Value} {post : α → hp_T → Prop} {av : Array Value} (hJ : hp_J G A h s H locs) (hr : va_Run p l e R s m args below meth c H locs cells slots mc ms (F0 m pc ls st0) rest (hp_QW G A mk post av) A) {stk : α → List Value} (hs : ∀ r, (mk r).toList ++ rest = stk r)
    (kk : ∀ (r : α) (h' : hp_T) (H' : Heap) (locs' : List Loc), post r h' → hp_J G A h' s H' locs' → W p l e R s m args below meth c H' locs' (cells + mc) (slots + ms) Q (F0 m (pc + 3) ls (stk r))) : W p l e R s m args below meth c H locs cells slots Q (F0 m pc ls st0) := by
  intro T hT X
  obtain ⟨v', st₀, t, T', L, h0, X', hL, e1, e2, ⟨⟨r, h', hv, hp, hP, hd⟩, hz, hk⟩, st⟩ := hr T hT X
  cases hv
  rw [h0] at hz hk
  have hS := hJ.2.2.2.1
  have hS' : va_S A s.heap T'.heap (locs ++ L) := ⟨Nat.le_trans hS.1 (by rw [e1]; exact hz), fun q h1 h2 => by rw [e1, hk q (Nat.lt_of_lt_of_le h1 hS.1) h2]; exact hS.2.1 q h1 h2, fun q hq => by
      rcases List.mem_append.mp hq with h | h
      · exact hS.2.2 q h
      · exact hL q h⟩
  obtain ⟨t2, a1, b1⟩ := kk r h' T'.heap (locs ++ L) hp ⟨by rw [e1]; exact hP, hJ.2.1, hd, hS', hJ.2.2.2.2⟩ T' rfl X'
  exact ⟨t2, st t2 (by rw [hs r]; exact a1), b1⟩
theorem hp_doneWv {post : Unit → hp_T → Prop} {av : Array Value} (hJ : hp_J G A h s H locs) (hr : va_Run p l e R s m args below meth c H locs cells slots mc ms (F0 m pc ls st0) rest (hp_QW G A hp_mv post av) A)
    (kk : ∀ (h' : hp_T) (H' : Heap) (locs' : List Loc), post () h' → hp_J G A h' s H' locs' → W p l e R s m args below meth c H' locs' (cells + mc) (slots + ms) Q (F0 m (pc + 3) ls rest)) : W p l e R s m args below meth c H locs cells slots Q (F0 m pc ls st0) := hp_doneW hJ hr (stk := fun _ => rest) (fun _ => rfl) (fun _ h' H' locs' hp hJ' => kk h' H' locs' hp hJ')
theorem hp_doneWi {post : Int32 → hp_T → Prop} {av : Array Value} (hJ : hp_J G A h s H locs) (hr : va_Run p l e R s m args below meth c H locs cells slots mc ms (F0 m pc ls st0) rest (hp_QW G A hp_mi post av) A)
    (kk : ∀ (r : Int32) (h' : hp_T) (H' : Heap) (locs' : List Loc), post r h' → hp_J G A h' s H' locs' → W p l e R s m args below meth c H' locs' (cells + mc) (slots + ms) Q (F0 m (pc + 3) ls (.int r :: rest))) : W p l e R s m args below meth c H locs cells slots Q (F0 m pc ls st0) := hp_doneW hJ hr (stk := fun r => .int r :: rest) (fun _ => rfl) kk
theorem hp_doneWl {post : Int64 → hp_T → Prop} {av : Array Value} (hJ : hp_J G A h s H locs) (hr : va_Run p l e R s m args below meth c H locs cells slots mc ms (F0 m pc ls st0) rest (hp_QW G A hp_ml post av) A)
    (kk : ∀ (r : Int64) (h' : hp_T) (H' : Heap) (locs' : List Loc), post r h' → hp_J G A h' s H' locs' → W p l e R s m args below meth c H' locs' (cells + mc) (slots + ms) Q (F0 m (pc + 3) ls (.long r :: rest))) : W p l e R s m args below meth c H locs cells slots Q (F0 m pc ls st0) := hp_doneW hJ hr (stk := fun r => .long r :: rest) (fun _ => rfl) kk
theorem hp_doneWr {post : Nat → hp_T → Prop} {av : Array Value} (hJ : hp_J G A h s H locs) (hr : va_Run p l e R s m args below meth c H locs cells slots mc ms (F0 m pc ls st0) rest (hp_QW G A hp_mr post av) A)
    (kk : ∀ (r : Nat) (h' : hp_T) (H' : Heap) (locs' : List Loc), post r h' → hp_J G A h' s H' locs' → W p l e R s m args below meth c H' locs' (cells + mc) (slots + ms) Q (F0 m (pc + 3) ls (.ref r :: rest))) : W p l e R s m args below meth c H locs cells slots Q (F0 m pc ls st0) := hp_doneW hJ hr (stk := fun r => .ref r :: rest) (fun _ => rfl) kk
theorem hp_doneWq {post : Option Nat → hp_T → Prop} {av : Array Value} (hJ : hp_J G A h s H locs) (hr : va_Run p l e R s m args below meth c H locs cells slots mc ms (F0 m pc ls st0) rest (hp_QW G A hp_mq post av) A)
    (kk : ∀ (r : Option Nat) (h' : hp_T) (H' : Heap) (locs' : List Loc), post r h' → hp_J G A h' s H' locs' → W p l e R s m args below meth c H' locs' (cells + mc) (slots + ms) Q (F0 m (pc + 3) ls (va_rf r :: rest))) : W p l e R s m args below meth c H locs cells slots Q (F0 m pc ls st0) := hp_doneW hJ hr (stk := fun r => va_rf r :: rest) (fun _ => rfl) kk
/-- ends of a method that changes nothing -/
theorem hp_retRi {v v' : Int32} (S : CallFix p m c cc nL s args Ts own) (hr : meth.sig.returnType = some .int) (hlk : meth.locks = false) (hdg : decode cc pc = .ok (.ireturn, 1)) (hv : v' = v) : W p l e R s m args below meth c s.heap [] 0 0 (MQ below (hp_QR (some (.int v))) args s 0 0 (fun _ => False)) (F0 m pc ls [.int v']) := by
  subst hv
  exact W.iret S.1 S.2.1 hr (fun t ht _ => ⟨rfl, ht⟩) (fun _ h => by cases h) hdg hlk
theorem hp_retRz {v v' : Int32} (S : CallFix p m c cc nL s args Ts own) (hr : meth.sig.returnType = some .boolean) (hlk : meth.locks = false) (hdg : decode cc pc = .ok (.ireturn, 1)) (hn : narrow .boolean (.int v') = .int v') (hv : v' = v) : W p l e R s m args below meth c s.heap [] 0 0 (MQ below (hp_QR (some (.int v))) args s 0 0 (fun _ => False)) (F0 m pc ls [.int v']) := by
  subst hv
  exact W.zret S.1 S.2.1 hr hn (fun t ht _ => ⟨rfl, ht⟩) (fun _ h => by cases h) hdg hlk
theorem hp_retRl {v v' : Int64} (S : CallFix p m c cc nL s args Ts own) (hr : meth.sig.returnType = some .long) (hlk : meth.locks = false) (hdg : decode cc pc = .ok (.lreturn, 1)) (hv : v' = v) : W p l e R s m args below meth c s.heap [] 0 0 (MQ below (hp_QR (some (.long v))) args s 0 0 (fun _ => False)) (F0 m pc ls [.long v']) := by
  subst hv
  exact W.lret S.1 S.2.1 hr (fun t ht _ => ⟨rfl, ht⟩) (fun _ h => by cases h) hdg hlk
theorem hp_retRa {v : Value} {C : String} (S : CallFix p m c cc nL s args Ts own) (hr : meth.sig.returnType = some (.object C)) (hlk : meth.locks = false) (hdg : decode cc pc = .ok (.areturn, 1)) (hv : v = .null ∨ ∃ a, v = .ref a) : W p l e R s m args below meth c s.heap [] 0 0 (MQ below (hp_QR (some v)) args s 0 0 (fun _ => False)) (F0 m pc ls [v]) := W.aret S.1 S.2.1 hr (Or.inl ⟨C, rfl⟩) hv (fun t ht _ => ⟨rfl, ht⟩) (fun _ h => by cases h) hdg hlk
/-- ends of a method that leaves the picture h -/
theorem hp_q {α : Type} {mk : α → Option Value} {post : α → hp_T → Prop} {r : α} (hJ : hp_J G A h s H locs) (hp : post r h) : ∀ t : State, t.heap = H → s.WarmedH t.vm → hp_QW G A mk post args s (.returned (mk r)) t := fun t ht _ => ⟨⟨r, h, rfl, hp, by rw [ht]; exact hJ.1, hJ.2.2.1⟩, hJ.2.2.2.1.F ht⟩
theorem hp_retWv {post : Unit → hp_T → Prop} (S : CallFix p m c cc nL s args Ts own) (hJ : hp_J G A h s H locs) (hr : meth.sig.returnType = none) (hlk : meth.locks = false) (hdg : decode cc pc = .ok (.return_, 1)) (hc : cells ≤ mc ∧ slots ≤ ms) (hp : post () h) : W p l e R s m args below meth c H locs cells slots (MQ below (hp_QW G A hp_mv post) args s mc ms A) (F0 m pc ls []) := W.widen hc.1 hc.2 (W.vret S.1 S.2.1 hr (hp_q (mk := hp_mv) (r := ()) hJ hp) hJ.2.2.2.1.2.2 hdg hlk)
theorem hp_retWi {post : Int32 → hp_T → Prop} {r : Int32} (S : CallFix p m c cc nL s args Ts own) (hJ : hp_J G A h s H locs) (hr : meth.sig.returnType = some .int) (hlk : meth.locks = false) (hdg : decode cc pc = .ok (.ireturn, 1)) (hc : cells ≤ mc ∧ slots ≤ ms) (hp : post r h) : W p l e R s m args below meth c H locs cells slots (MQ below (hp_QW G A hp_mi post) args s mc ms A) (F0 m pc ls [.int r]) := W.widen hc.1 hc.2 (W.iret S.1 S.2.1 hr (hp_q (mk := hp_mi) (r := r) hJ hp) hJ.2.2.2.1.2.2 hdg hlk)
theorem hp_retWz {post : Int32 → hp_T → Prop} {r : Int32} (S : CallFix p m c cc nL s args Ts own) (hJ : hp_J G A h s H locs) (hr : meth.sig.returnType = some .boolean) (hlk : meth.locks = false) (hdg : decode cc pc = .ok (.ireturn, 1)) (hn : narrow .boolean (.int r) = .int r) (hc : cells ≤ mc ∧ slots ≤ ms) (hp : post r h) : W p l e R s m args below meth c H locs cells slots (MQ below (hp_QW G A hp_mi post) args s mc ms A) (F0 m pc ls [.int r]) := W.widen hc.1 hc.2 (W.zret S.1 S.2.1 hr hn (hp_q (mk := hp_mi) (r := r) hJ hp) hJ.2.2.2.1.2.2 hdg hlk)
theorem hp_retWl {post : Int64 → hp_T → Prop} {r : Int64} (S : CallFix p m c cc nL s args Ts own) (hJ : hp_J G A h s H locs) (hr : meth.sig.returnType = some .long) (hlk : meth.locks = false) (hdg : decode cc pc = .ok (.lreturn, 1)) (hc : cells ≤ mc ∧ slots ≤ ms) (hp : post r h) : W p l e R s m args below meth c H locs cells slots (MQ below (hp_QW G A hp_ml post) args s mc ms A) (F0 m pc ls [.long r]) := W.widen hc.1 hc.2 (W.lret S.1 S.2.1 hr (hp_q (mk := hp_ml) (r := r) hJ hp) hJ.2.2.2.1.2.2 hdg hlk)
theorem hp_retWr {post : Nat → hp_T → Prop} {r : Nat} {C : String} (S : CallFix p m c cc nL s args Ts own) (hJ : hp_J G A h s H locs) (hr : meth.sig.returnType = some (.object C)) (hlk : meth.locks = false) (hdg : decode cc pc = .ok (.areturn, 1)) (hc : cells ≤ mc ∧ slots ≤ ms) (hp : post r h) : W p l e R s m args below meth c H locs cells slots (MQ below (hp_QW G A hp_mr post) args s mc ms A) (F0 m pc ls [.ref r]) := W.widen hc.1 hc.2 (W.aret S.1 S.2.1 hr (Or.inl ⟨C, rfl⟩) (Or.inr ⟨r, rfl⟩) (hp_q (mk := hp_mr) (r := r) hJ hp) hJ.2.2.2.1.2.2 hdg hlk)
theorem hp_retWq {post : Option Nat → hp_T → Prop} {r : Option Nat} {C : String} (S : CallFix p m c cc nL s args Ts own) (hJ : hp_J G A h s H locs) (hr : meth.sig.returnType = some (.object C)) (hlk : meth.locks = false) (hdg : decode cc pc = .ok (.areturn, 1)) (hc : cells ≤ mc ∧ slots ≤ ms) (hp : post r h) : W p l e R s m args below meth c H locs cells slots (MQ below (hp_QW G A hp_mq post) args s mc ms A) (F0 m pc ls [va_rf r]) := W.widen hc.1 hc.2 (W.aret S.1 S.2.1 hr (Or.inl ⟨C, rfl⟩) (va_rf_or r) (hp_q (mk := hp_mq) (r := r) hJ hp) hJ.2.2.2.1.2.2 hdg hlk)
/-- a constructor's call of Object's -/
theorem hp_obj (S : CallFix p m c cc nL s args Ts own) {idx : Nat} (lk : Cond.methodLink own idx Lib.objectInit ∈ Ts ∧ Cond.instanceMethod Lib.objectInit ∈ Ts ∧ Cond.code Lib.objectInit ⟨#[0xb1]⟩ 1 none ∈ Ts) (hsize : ls.size = nL) (hd : decode cc pc = .ok (.invokespecial idx, 3)) (hR : 1 ≤ R.frames ∧ (rest.map fun v => v.category).sum + 12 ≤ R.locals)
    (kk : W p l e R s m args below meth c H locs cells slots Q (F0 m (pc + 3) ls rest)) : W p l e R s m args below meth c H locs cells slots Q (F0 m pc ls (.ref a :: rest)) :=
  W.objInit S.1 S.2.1 S.2.2.2.1 (S.2.2.2.2 _ lk.1) (S.2.2.2.2 _ lk.2.1) (S.2.2.2.2 _ lk.2.2) rfl (by rw [S.2.2.1]; exact hsize) rfl hd hR.1 (by show 2 * 0 + _ + 12 ≤ _; omega) kk
theorem hp_max (S : CallFix p m c cc nL s args Ts own) {idx : Nat} (lk : Cond.methodLink own idx Lib.Math.max.name ∈ Ts ∧ Cond.static Lib.Math.max.name ∈ Ts ∧ Cond.initialized "java/lang/Math" ∈ Ts ∧ Cond.code Lib.Math.max.name Lib.Math.max.code 2 (some .int) ∈ Ts) (hsize : ls.size = nL) {x y : Int32} (hdg : decode cc pc = .ok (.invokestatic idx, 3)) (hR : 1 ≤ R.frames ∧ (rest.map fun v => v.category).sum + 13 ≤ R.locals ∧ cells ≤ R.cells ∧ slots ≤ R.slots)
    (kk : W p l e R s m args below meth c H locs cells slots Q (F0 m (pc + 3) ls (.int (if x < y then y else x) :: rest))) : W p l e R s m args below meth c H locs cells slots Q (F0 m pc ls (.int y :: .int x :: rest)) :=
  va_mmax S.1 S.2.1 (S.2.2.1.trans hsize.symm) S.2.2.2.1 (S.2.2.2.2 _ lk.1) (S.2.2.2.2 _ lk.2.1) (S.2.2.2.2 _ lk.2.2.1) (S.2.2.2.2 _ lk.2.2.2) hR.1 hR.2.1 hR.2.2.1 hR.2.2.2 hdg kk
theorem hp_min (S : CallFix p m c cc nL s args Ts own) {idx : Nat} (lk : Cond.methodLink own idx Lib.Math.min.name ∈ Ts ∧ Cond.static Lib.Math.min.name ∈ Ts ∧ Cond.initialized "java/lang/Math" ∈ Ts ∧ Cond.code Lib.Math.min.name Lib.Math.min.code 2 (some .int) ∈ Ts) (hsize : ls.size = nL) {x y : Int32} (hdg : decode cc pc = .ok (.invokestatic idx, 3)) (hR : 1 ≤ R.frames ∧ (rest.map fun v => v.category).sum + 13 ≤ R.locals ∧ cells ≤ R.cells ∧ slots ≤ R.slots)
    (kk : W p l e R s m args below meth c H locs cells slots Q (F0 m (pc + 3) ls (.int (if y < x then y else x) :: rest))) : W p l e R s m args below meth c H locs cells slots Q (F0 m pc ls (.int y :: .int x :: rest)) :=
  va_mmin S.1 S.2.1 (S.2.2.1.trans hsize.symm) S.2.2.2.1 (S.2.2.2.2 _ lk.1) (S.2.2.2.2 _ lk.2.1) (S.2.2.2.2 _ lk.2.2.1) (S.2.2.2.2 _ lk.2.2.2) hR.1 hR.2.1 hR.2.2.1 hR.2.2.2 hdg kk
end HPC
/-- a method's entry -/
theorem hp_enter {l : Launch} {y : MethodName} {cc : ByteArray} {maxL : Nat} {ret : Option FieldType} {Ts : List Cond} {rm : Room} {av : List Value} {B : State → Prop} {Qc : Array Value → State → Outcome → State → Prop} {mc ms : Nat} {free : Addr → Prop} (hy : plainName y.cls = true) (hn : (lg_sl av).length ≤ maxL)
    (body : ∀ (p : Program) (e : Env) (s : State) (m : MethodId) (below : List Frame) (meth : Method) (c : Code) (ls : Array Slot), CallFix p m c cc maxL s av.toArray Ts y.cls → meth.sig.returnType = ret → meth.locks = false → meth.name = y.name → B s → lv_has ls maxL (lv_args 0 av) →
      W p l e rm s m av.toArray below meth c s.heap [] 0 0 (MQ below Qc av.toArray s mc ms free) (F0 m 0 ls [])) : Met l y (.code y cc maxL ret :: Ts) rm (va_Pc av B) Qc mc ms free := by
  refine Met.ofW (cc := cc) (maxL := maxL) (ret := ret) hy rfl ?_
  intro p e s m args below meth c s₁ B' hml hv
  obtain ⟨rfl, hB⟩ := hv
  have hts := atoms_spec (ws := .code y cc maxL ret :: Ts) B'.pre
  have hown : s.vm.findClass y.cls = some m.cls := findClass_of_methodNamed B'.named
  have hin : meth.name = y.name := (name_of_methodNamed B'.named B'.method).1
  rw [lg_entry_eq]
  exact body p e s m below meth c _ ⟨B'.exec, B'.bytes, hml, hown, fun w hw => hts w (List.mem_cons_of_mem _ hw)⟩ B'.returns B'.notSynchronized hin hB (lv_entry av hn)
end
section
/-! Pure: the bits of a long, the highest first; ints by their numbers. -/
def tb (w : Int64) (p : Nat) : Bool := w.toBitVec.getMsbD p
theorem tb_ext {x y : Int64} (h : ∀ p, p < 64 → tb x p = tb y p) : x = y := Int64.toBitVec_inj.mp (BitVec.eq_of_getMsbD_eq fun i hi => h i hi)
theorem tb_and (x y : Int64) (p : Nat) : tb (x &&& y) p = (tb x p && tb y p) := by unfold tb; rw [Int64.toBitVec_and, BitVec.getMsbD_and]
theorem tb_or (x y : Int64) (p : Nat) : tb (x ||| y) p = (tb x p || tb y p) := by unfold tb; rw [Int64.toBitVec_or, BitVec.getMsbD_or]
theorem tb_xor (x y : Int64) (p : Nat) : tb (x ^^^ y) p = (tb x p ^^ tb y p) := by unfold tb; rw [Int64.toBitVec_xor, BitVec.getMsbD_xor]
theorem tb_0 (p : Nat) : tb 0 p = false := by
  show (0#64).getMsbD p = false
  exact BitVec.getMsbD_zero
theorem tb_m1' (p : Nat) : tb (-1) p = decide (p < 64) := by
  show (BitVec.allOnes 64).getMsbD p = _
  exact BitVec.getMsbD_allOnes
theorem tb_m1 {p : Nat} (hp : p < 64) : tb (-1) p = true := by rw [tb_m1', decide_eq_true hp]
theorem tb_not (x : Int64) {p : Nat} (hp : p < 64) : tb (x ^^^ (-1)) p = !tb x p := by rw [tb_xor, tb_m1 hp, Bool.xor_true]
theorem tb_big {x : Int64} {p : Nat} (hp : 64 ≤ p) : tb x p = false := by
  unfold tb
  rw [BitVec.getMsbD_eq_getLsbD, decide_eq_false (by omega), Bool.false_and]
theorem tb_c : ∀ k, k < 64 → ((nI k).toInt64 &&& 63).toBitVec.smod 64 = BitVec.ofNat 64 k := by decide +kernel
theorem tb_cu : ∀ k, k < 64 → ((nI k).toInt64.toUInt64 &&& Int64.toUInt64 63).toNat = k := by decide +kernel
theorem tb_shl (x : Int64) {n : Nat} (hn : n < 64) (p : Nat) : tb (x <<< ((nI n).toInt64 &&& 63)) p = tb x (p + n) := by
  unfold tb
  rw [Int64.toBitVec_shiftLeft, tb_c n hn, BitVec.shiftLeft_eq', BitVec.getMsbD_shiftLeft, BitVec.toNat_ofNat, Nat.mod_eq_of_lt (by omega)]
theorem tb_ushr (x : Int64) {n : Nat} (hn : n < 64) {p : Nat} (hp : p < 64) : tb ((x.toUInt64 >>> ((nI n).toInt64.toUInt64 &&& Int64.toUInt64 63)).toInt64) p = (!decide (p < n) && tb x (p - n)) := by
  have h1 : ((x.toUInt64 >>> ((nI n).toInt64.toUInt64 &&& Int64.toUInt64 63)).toInt64).toBitVec = x.toBitVec >>> n := by
    apply BitVec.eq_of_toNat_eq
    show (x.toUInt64 >>> ((nI n).toInt64.toUInt64 &&& Int64.toUInt64 63)).toNat = _
    rw [UInt64.toNat_shiftRight, tb_cu n hn, Nat.mod_eq_of_lt hn, BitVec.toNat_ushiftRight]
    rfl
  unfold tb
  rw [h1, BitVec.getMsbD_ushiftRight, decide_eq_true hp, Bool.true_and]
/-- ints -/
theorem z_add {x y : Int32} (h1 : -2147483648 ≤ x.toInt + y.toInt) (h2 : x.toInt + y.toInt < 2147483648) : (x + y).toInt = x.toInt + y.toInt := by
  rw [Int32.toInt_add]
  exact Int.bmod_eq_of_le (by omega) (by omega)
theorem z_sub {x y : Int32} (h1 : -2147483648 ≤ x.toInt - y.toInt) (h2 : x.toInt - y.toInt < 2147483648) : (x - y).toInt = x.toInt - y.toInt := by
  rw [Int32.toInt_sub]
  exact Int.bmod_eq_of_le (by omega) (by omega)
theorem z_mul {x y : Int32} (h1 : -2147483648 ≤ x.toInt * y.toInt) (h2 : x.toInt * y.toInt < 2147483648) : (x * y).toInt = x.toInt * y.toInt := by
  rw [Int32.toInt_mul]
  exact Int.bmod_eq_of_le (by omega) (by omega)
theorem z_lt {x y : Int32} : x < y ↔ x.toInt < y.toInt := Int32.lt_iff_toInt_lt
theorem z_le {x y : Int32} : x ≤ y ↔ x.toInt ≤ y.toInt := Int32.le_iff_toInt_le
theorem z_eq {x y : Int32} : x = y ↔ x.toInt = y.toInt := Int32.toInt_inj.symm
theorem z_rg (x : Int32) : -2147483648 ≤ x.toInt ∧ x.toInt < 2147483648 := ⟨Int32.le_toInt x, Int32.toInt_lt x⟩
theorem z_nI {n : Nat} (h : n < 2147483648) : (nI n).toInt = (n : Int) := nI_toInt h
theorem z_of {x : Int32} {n : Nat} (h : x.toInt = (n : Int)) : x = nI n := by
  have h2 := (z_rg x).2
  exact z_eq.mpr (by rw [z_nI (by omega)]; exact h)
theorem z_ofN {x : Int32} (h : 0 ≤ x.toInt) : x = nI x.toInt.toNat := z_of (by omega)
theorem z_clamp {x : Int32} (h : 0 ≤ x.toInt) : x.toNatClampNeg = x.toInt.toNat := rfl
/-- the first n dots of a long -/
def q_fd (n : Int32) : Int64 := if n ≤ 0 then 0 else if 64 ≤ n then -1 else (-1) <<< ((64 - n).toInt64 &&& 63)
theorem tb_fd (n : Int32) {p : Nat} (hp : p < 64) : tb (q_fd n) p = decide ((p : Int) < n.toInt) := by
  unfold q_fd
  split
  · rename_i h
    have h := z_le.mp h
    have h0 : (0 : Int32).toInt = 0 := rfl
    rw [tb_0, decide_eq_false (by omega)]
  · rename_i h
    have h : ¬ n.toInt ≤ 0 := fun q => h (z_le.mpr q)
    split
    · rename_i h2
      have h2 := z_le.mp h2
      have h0 : (64 : Int32).toInt = 64 := rfl
      rw [tb_m1 hp, decide_eq_true (by omega)]
    · rename_i h2
      have h0 : (64 : Int32).toInt = 64 := rfl
      have h2 : ¬ (64 : Int) ≤ n.toInt := fun q => h2 (z_le.mpr (by rw [h0]; exact q))
      have hs : (64 - n).toInt = 64 - n.toInt := by rw [z_sub (by omega) (by omega), h0]
      obtain ⟨k, hk⟩ : ∃ k : Nat, k = 64 - n.toInt.toNat := ⟨_, rfl⟩
      have hn : (64 - n : Int32) = nI k := z_of (by rw [hs]; omega)
      rw [hn, tb_shl _ (by omega), tb_m1']
      by_cases hq : (p : Int) < n.toInt
      · rw [decide_eq_true hq, decide_eq_true (by omega)]
      · rw [decide_eq_false hq, decide_eq_false (by omega)]
end
section
/-! Names, by program (wip/whole/names.py): the words that hold, the classes, fields, calls. -/
def BIG : List Cond := lw_tbl.filter goodWord
theorem big_t {w : Cond} (i : Nat) (h : tables_1[i]? = some w) (g : goodWord w = true) : w ∈ BIG := List.mem_filter.mpr ⟨List.mem_append_right _ (List.mem_of_getElem? h), g⟩
theorem big_s {w : Cond} (i : Nat) (h : (k2_sels lw_privs)[i]? = some w) (g : goodWord w = true) : w ∈ BIG := List.mem_filter.mpr ⟨List.mem_append_left _ (List.mem_of_getElem? h), g⟩
theorem t_0 : Cond.initialized "BandPainterLaw" ∈ BIG := big_t 0 (by decide +kernel) (by decide +kernel)
theorem t_1 : Cond.initialized "BandPainter" ∈ BIG := big_t 1 (by decide +kernel) (by decide +kernel)
theorem t_2 : Cond.initialized "java/lang/Math" ∈ BIG := big_t 2 (by decide +kernel) (by decide +kernel)
theorem t_3 : Cond.initialized "BandPainter$Box" ∈ BIG := big_t 3 (by decide +kernel) (by decide +kernel)
theorem t_4 : Cond.initialized "BandPainter$Pile" ∈ BIG := big_t 4 (by decide +kernel) (by decide +kernel)
theorem t_5 : Cond.initialized "BandPainter$Ink" ∈ BIG := big_t 5 (by decide +kernel) (by decide +kernel)
theorem t_6 : Cond.initialized "BandPainterModel" ∈ BIG := big_t 6 (by decide +kernel) (by decide +kernel)
theorem t_12 : Cond.initialized "BandPainter$Shape" ∈ BIG := big_t 12 (by decide +kernel) (by decide +kernel)
theorem t_13 : Cond.initialized "BandPainter$Picture" ∈ BIG := big_t 13 (by decide +kernel) (by decide +kernel)
theorem t_14 : Cond.initialized "BandPainter$Mark" ∈ BIG := big_t 14 (by decide +kernel) (by decide +kernel)
theorem t_15 : Cond.initialized "java/util/Arrays" ∈ BIG := big_t 15 (by decide +kernel) (by decide +kernel)
theorem t_17 : Cond.initialized "java/lang/Long" ∈ BIG := big_t 17 (by decide +kernel) (by decide +kernel)
theorem t_18 : Cond.classLink "BandPainterLaw" 8 "BandPainter" ∈ BIG := big_t 18 (by decide +kernel) (by decide +kernel)
theorem t_19 : Cond.instantiable "BandPainter" 14 ∈ BIG := big_t 19 (by decide +kernel) (by decide +kernel)
theorem t_20 : Cond.methodLink "BandPainterLaw" 29 ⟨"BandPainter", "<init>", "(III)V"⟩ ∈ BIG := big_t 20 (by decide +kernel) (by decide +kernel)
theorem t_21 : Cond.instanceMethod ⟨"BandPainter", "<init>", "(III)V"⟩ ∈ BIG := big_t 21 (by decide +kernel) (by decide +kernel)
theorem t_22 : Cond.code ⟨"BandPainter", "<init>", "(III)V"⟩ prog_1_method_1_code 4 none ∈ BIG := big_t 22 (by decide +kernel) (by decide +kernel)
theorem t_23 : Cond.methodLink "BandPainter" 1 ⟨"java/lang/Object", "<init>", "()V"⟩ ∈ BIG := big_t 23 (by decide +kernel) (by decide +kernel)
theorem t_24 : Cond.instanceMethod ⟨"java/lang/Object", "<init>", "()V"⟩ ∈ BIG := big_t 24 (by decide +kernel) (by decide +kernel)
theorem t_25 : Cond.code ⟨"java/lang/Object", "<init>", "()V"⟩ object_method_1_code 1 none ∈ BIG := big_t 25 (by decide +kernel) (by decide +kernel)
theorem t_26 : Cond.methodLink "BandPainter" 9 ⟨"BandPainter", "within", "(III)I"⟩ ∈ BIG := big_t 26 (by decide +kernel) (by decide +kernel)
theorem t_27 : Cond.static ⟨"BandPainter", "within", "(III)I"⟩ ∈ BIG := big_t 27 (by decide +kernel) (by decide +kernel)
theorem t_28 : Cond.code ⟨"BandPainter", "within", "(III)I"⟩ prog_1_method_22_code 3 (some .int) ∈ BIG := big_t 28 (by decide +kernel) (by decide +kernel)
theorem t_29 : Cond.methodLink "BandPainter" 162 ⟨"java/lang/Math", "min", "(II)I"⟩ ∈ BIG := big_t 29 (by decide +kernel) (by decide +kernel)
theorem t_30 : Cond.static ⟨"java/lang/Math", "min", "(II)I"⟩ ∈ BIG := big_t 30 (by decide +kernel) (by decide +kernel)
theorem t_31 : Cond.code ⟨"java/lang/Math", "min", "(II)I"⟩ prog_15_method_69_code 2 (some .int) ∈ BIG := big_t 31 (by decide +kernel) (by decide +kernel)
theorem t_32 : Cond.methodLink "BandPainter" 168 ⟨"java/lang/Math", "max", "(II)I"⟩ ∈ BIG := big_t 32 (by decide +kernel) (by decide +kernel)
theorem t_33 : Cond.static ⟨"java/lang/Math", "max", "(II)I"⟩ ∈ BIG := big_t 33 (by decide +kernel) (by decide +kernel)
theorem t_34 : Cond.code ⟨"java/lang/Math", "max", "(II)I"⟩ prog_15_method_65_code 2 (some .int) ∈ BIG := big_t 34 (by decide +kernel) (by decide +kernel)
theorem t_35 : Cond.classLink "BandPainter" 23 "BandPainter$Box" ∈ BIG := big_t 35 (by decide +kernel) (by decide +kernel)
theorem t_36 : Cond.instantiable "BandPainter$Box" 4 ∈ BIG := big_t 36 (by decide +kernel) (by decide +kernel)
theorem t_37 : Cond.methodLink "BandPainter" 25 ⟨"BandPainter$Box", "<init>", "(IIII)V"⟩ ∈ BIG := big_t 37 (by decide +kernel) (by decide +kernel)
theorem t_38 : Cond.instanceMethod ⟨"BandPainter$Box", "<init>", "(IIII)V"⟩ ∈ BIG := big_t 38 (by decide +kernel) (by decide +kernel)
theorem t_39 : Cond.code ⟨"BandPainter$Box", "<init>", "(IIII)V"⟩ prog_2_method_1_code 5 none ∈ BIG := big_t 39 (by decide +kernel) (by decide +kernel)
theorem t_40 : Cond.methodLink "BandPainter$Box" 3 ⟨"java/lang/Object", "<init>", "()V"⟩ ∈ BIG := big_t 40 (by decide +kernel) (by decide +kernel)
theorem t_41 : Cond.fieldLink "BandPainter$Box" 9 "BandPainter$Box" "x0" "I" ∈ BIG := big_t 41 (by decide +kernel) (by decide +kernel)
theorem t_42 : Cond.fieldLink "BandPainter$Pile" 94 "BandPainter$Box" "x0" "I" ∈ BIG := big_t 42 (by decide +kernel) (by decide +kernel)
theorem t_43 : Cond.fieldLink "BandPainter$Box" 15 "BandPainter$Box" "y0" "I" ∈ BIG := big_t 43 (by decide +kernel) (by decide +kernel)
theorem t_44 : Cond.fieldLink "BandPainter$Pile" 55 "BandPainter$Box" "y0" "I" ∈ BIG := big_t 44 (by decide +kernel) (by decide +kernel)
theorem t_45 : Cond.fieldLink "BandPainter$Box" 18 "BandPainter$Box" "x1" "I" ∈ BIG := big_t 45 (by decide +kernel) (by decide +kernel)
theorem t_46 : Cond.fieldLink "BandPainter$Pile" 97 "BandPainter$Box" "x1" "I" ∈ BIG := big_t 46 (by decide +kernel) (by decide +kernel)
theorem t_47 : Cond.fieldLink "BandPainter$Box" 21 "BandPainter$Box" "y1" "I" ∈ BIG := big_t 47 (by decide +kernel) (by decide +kernel)
theorem t_48 : Cond.fieldLink "BandPainter$Pile" 64 "BandPainter$Box" "y1" "I" ∈ BIG := big_t 48 (by decide +kernel) (by decide +kernel)
theorem t_49 : Cond.laysFinal "BandPainter$Box" "BandPainter$Box" "x0" "I" ∈ BIG := big_t 49 (by decide +kernel) (by decide +kernel)
theorem t_51 : Cond.laysFinal "BandPainter$Box" "BandPainter$Box" "y0" "I" ∈ BIG := big_t 51 (by decide +kernel) (by decide +kernel)
theorem t_53 : Cond.laysFinal "BandPainter$Box" "BandPainter$Box" "x1" "I" ∈ BIG := big_t 53 (by decide +kernel) (by decide +kernel)
theorem t_55 : Cond.laysFinal "BandPainter$Box" "BandPainter$Box" "y1" "I" ∈ BIG := big_t 55 (by decide +kernel) (by decide +kernel)
theorem t_58 : Cond.classLink "BandPainter" 32 "BandPainter$Shape" ∈ BIG := big_t 58 (by decide +kernel) (by decide +kernel)
theorem t_60 : Cond.classLink "BandPainter" 38 "BandPainter$Pile" ∈ BIG := big_t 60 (by decide +kernel) (by decide +kernel)
theorem t_61 : Cond.instantiable "BandPainter$Pile" 5 ∈ BIG := big_t 61 (by decide +kernel) (by decide +kernel)
theorem t_62 : Cond.methodLink "BandPainter" 40 ⟨"BandPainter$Pile", "<init>", "(I)V"⟩ ∈ BIG := big_t 62 (by decide +kernel) (by decide +kernel)
theorem t_63 : Cond.instanceMethod ⟨"BandPainter$Pile", "<init>", "(I)V"⟩ ∈ BIG := big_t 63 (by decide +kernel) (by decide +kernel)
theorem t_64 : Cond.code ⟨"BandPainter$Pile", "<init>", "(I)V"⟩ prog_6_method_1_code 2 none ∈ BIG := big_t 64 (by decide +kernel) (by decide +kernel)
theorem t_65 : Cond.methodLink "BandPainter$Pile" 3 ⟨"java/lang/Object", "<init>", "()V"⟩ ∈ BIG := big_t 65 (by decide +kernel) (by decide +kernel)
theorem t_66 : Cond.fieldLink "BandPainter$Pile" 9 "BandPainter$Pile" "lines" "I" ∈ BIG := big_t 66 (by decide +kernel) (by decide +kernel)
theorem t_67 : Cond.fieldLink "BandPainter$Pile" 15 "BandPainter$Pile" "blacks" "[I" ∈ BIG := big_t 67 (by decide +kernel) (by decide +kernel)
theorem t_68 : Cond.fieldLink "BandPainter$Pile" 19 "BandPainter$Pile" "stirred" "[Z" ∈ BIG := big_t 68 (by decide +kernel) (by decide +kernel)
theorem t_69 : Cond.fieldLink "BandPainter$Pile" 23 "BandPainter$Pile" "size" "I" ∈ BIG := big_t 69 (by decide +kernel) (by decide +kernel)
theorem t_70 : Cond.fieldLink "BandPainter" 183 "BandPainter$Pile" "size" "I" ∈ BIG := big_t 70 (by decide +kernel) (by decide +kernel)
theorem t_71 : Cond.fieldLink "BandPainter$Pile" 26 "BandPainter$Pile" "newest" "LBandPainter$Mark;" ∈ BIG := big_t 71 (by decide +kernel) (by decide +kernel)
theorem t_72 : Cond.laysFinal "BandPainter$Pile" "BandPainter$Pile" "lines" "I" ∈ BIG := big_t 72 (by decide +kernel) (by decide +kernel)
theorem t_74 : Cond.laysFinal "BandPainter$Pile" "BandPainter$Pile" "blacks" "[I" ∈ BIG := big_t 74 (by decide +kernel) (by decide +kernel)
theorem t_76 : Cond.laysFinal "BandPainter$Pile" "BandPainter$Pile" "stirred" "[Z" ∈ BIG := big_t 76 (by decide +kernel) (by decide +kernel)
theorem t_78 : Cond.lays "BandPainter$Pile" "BandPainter$Pile" "size" "I" ∈ BIG := big_t 78 (by decide +kernel) (by decide +kernel)
theorem t_80 : Cond.lays "BandPainter$Pile" "BandPainter$Pile" "newest" "LBandPainter$Mark;" ∈ BIG := big_t 80 (by decide +kernel) (by decide +kernel)
theorem t_83 : Cond.arrayClass .int ∈ BIG := big_t 83 (by decide +kernel) (by decide +kernel)
theorem t_84 : Cond.arrayClass .boolean ∈ BIG := big_t 84 (by decide +kernel) (by decide +kernel)
theorem t_85 : Cond.classLink "BandPainter" 47 "BandPainter$Ink" ∈ BIG := big_t 85 (by decide +kernel) (by decide +kernel)
theorem t_86 : Cond.instantiable "BandPainter$Ink" 3 ∈ BIG := big_t 86 (by decide +kernel) (by decide +kernel)
theorem t_87 : Cond.methodLink "BandPainter" 49 ⟨"BandPainter$Ink", "<init>", "(II)V"⟩ ∈ BIG := big_t 87 (by decide +kernel) (by decide +kernel)
theorem t_88 : Cond.instanceMethod ⟨"BandPainter$Ink", "<init>", "(II)V"⟩ ∈ BIG := big_t 88 (by decide +kernel) (by decide +kernel)
theorem t_89 : Cond.code ⟨"BandPainter$Ink", "<init>", "(II)V"⟩ prog_3_method_1_code 4 none ∈ BIG := big_t 89 (by decide +kernel) (by decide +kernel)
theorem t_90 : Cond.methodLink "BandPainter$Ink" 3 ⟨"java/lang/Object", "<init>", "()V"⟩ ∈ BIG := big_t 90 (by decide +kernel) (by decide +kernel)
theorem t_91 : Cond.methodLink "BandPainter$Ink" 22 ⟨"BandPainter$Ink", "dotsOfLine", "(III)J"⟩ ∈ BIG := big_t 91 (by decide +kernel) (by decide +kernel)
theorem t_92 : Cond.static ⟨"BandPainter$Ink", "dotsOfLine", "(III)J"⟩ ∈ BIG := big_t 92 (by decide +kernel) (by decide +kernel)
theorem t_93 : Cond.code ⟨"BandPainter$Ink", "dotsOfLine", "(III)J"⟩ prog_3_method_4_code 6 (some .long) ∈ BIG := big_t 93 (by decide +kernel) (by decide +kernel)
theorem t_94 : Cond.constantLong "BandPainter$Ink" 30 (-1) ∈ BIG := big_t 94 (by decide +kernel) (by decide +kernel)
theorem t_95 : Cond.methodLink "BandPainter$Ink" 32 ⟨"BandPainter$Ink", "isShaded", "(III)Z"⟩ ∈ BIG := big_t 95 (by decide +kernel) (by decide +kernel)
theorem t_96 : Cond.static ⟨"BandPainter$Ink", "isShaded", "(III)Z"⟩ ∈ BIG := big_t 96 (by decide +kernel) (by decide +kernel)
theorem t_97 : Cond.code ⟨"BandPainter$Ink", "isShaded", "(III)Z"⟩ prog_3_method_5_code 7 (some .boolean) ∈ BIG := big_t 97 (by decide +kernel) (by decide +kernel)
theorem t_98 : Cond.methodLink "BandPainter$Ink" 35 ⟨"BandPainter$Ink", "isHatched", "(III)Z"⟩ ∈ BIG := big_t 98 (by decide +kernel) (by decide +kernel)
theorem t_99 : Cond.static ⟨"BandPainter$Ink", "isHatched", "(III)Z"⟩ ∈ BIG := big_t 99 (by decide +kernel) (by decide +kernel)
theorem t_100 : Cond.code ⟨"BandPainter$Ink", "isHatched", "(III)Z"⟩ prog_3_method_6_code 7 (some .boolean) ∈ BIG := big_t 100 (by decide +kernel) (by decide +kernel)
theorem t_101 : Cond.constantLong "BandPainter$Ink" 38 (-9223372036854775808) ∈ BIG := big_t 101 (by decide +kernel) (by decide +kernel)
theorem t_102 : Cond.fieldLink "BandPainter$Ink" 9 "BandPainter$Ink" "kind" "I" ∈ BIG := big_t 102 (by decide +kernel) (by decide +kernel)
theorem t_103 : Cond.fieldLink "BandPainter" 186 "BandPainter$Ink" "kind" "I" ∈ BIG := big_t 103 (by decide +kernel) (by decide +kernel)
theorem t_104 : Cond.fieldLink "BandPainter$Ink" 15 "BandPainter$Ink" "value" "I" ∈ BIG := big_t 104 (by decide +kernel) (by decide +kernel)
theorem t_105 : Cond.fieldLink "BandPainter" 189 "BandPainter$Ink" "value" "I" ∈ BIG := big_t 105 (by decide +kernel) (by decide +kernel)
theorem t_106 : Cond.fieldLink "BandPainter$Ink" 18 "BandPainter$Ink" "lines" "[J" ∈ BIG := big_t 106 (by decide +kernel) (by decide +kernel)
theorem t_107 : Cond.laysFinal "BandPainter$Ink" "BandPainter$Ink" "kind" "I" ∈ BIG := big_t 107 (by decide +kernel) (by decide +kernel)
theorem t_109 : Cond.laysFinal "BandPainter$Ink" "BandPainter$Ink" "value" "I" ∈ BIG := big_t 109 (by decide +kernel) (by decide +kernel)
theorem t_111 : Cond.laysFinal "BandPainter$Ink" "BandPainter$Ink" "lines" "[J" ∈ BIG := big_t 111 (by decide +kernel) (by decide +kernel)
theorem t_114 : Cond.arrayClass .long ∈ BIG := big_t 114 (by decide +kernel) (by decide +kernel)
theorem t_115 : Cond.fieldLink "BandPainter" 13 "BandPainter" "width" "I" ∈ BIG := big_t 115 (by decide +kernel) (by decide +kernel)
theorem t_116 : Cond.fieldLink "BandPainter" 17 "BandPainter" "height" "I" ∈ BIG := big_t 116 (by decide +kernel) (by decide +kernel)
theorem t_117 : Cond.fieldLink "BandPainter" 20 "BandPainter" "band" "I" ∈ BIG := big_t 117 (by decide +kernel) (by decide +kernel)
theorem t_118 : Cond.fieldLink "BandPainter" 28 "BandPainter" "sheet" "LBandPainter$Box;" ∈ BIG := big_t 118 (by decide +kernel) (by decide +kernel)
theorem t_119 : Cond.fieldLink "BandPainter" 34 "BandPainter" "shapes" "[LBandPainter$Shape;" ∈ BIG := big_t 119 (by decide +kernel) (by decide +kernel)
theorem t_120 : Cond.fieldLink "BandPainter" 43 "BandPainter" "pile" "LBandPainter$Pile;" ∈ BIG := big_t 120 (by decide +kernel) (by decide +kernel)
theorem t_121 : Cond.fieldLink "BandPainter" 70 "BandPainter" "shapeCount" "I" ∈ BIG := big_t 121 (by decide +kernel) (by decide +kernel)
theorem t_122 : Cond.fieldLink "BandPainter" 73 "BandPainter" "shapeRows" "I" ∈ BIG := big_t 122 (by decide +kernel) (by decide +kernel)
theorem t_123 : Cond.fieldLink "BandPainter" 134 "BandPainter" "rowBytes" "I" ∈ BIG := big_t 123 (by decide +kernel) (by decide +kernel)
theorem t_124 : Cond.fieldLink "BandPainter" 52 "BandPainter" "ink" "LBandPainter$Ink;" ∈ BIG := big_t 124 (by decide +kernel) (by decide +kernel)
theorem t_125 : Cond.fieldLink "BandPainter" 107 "BandPainter" "sourceOpaque" "Z" ∈ BIG := big_t 125 (by decide +kernel) (by decide +kernel)
theorem t_126 : Cond.fieldLink "BandPainter" 110 "BandPainter" "inkOpaque" "Z" ∈ BIG := big_t 126 (by decide +kernel) (by decide +kernel)
theorem t_127 : Cond.fieldLink "BandPainter" 113 "BandPainter" "turn" "I" ∈ BIG := big_t 127 (by decide +kernel) (by decide +kernel)
theorem t_128 : Cond.fieldLink "BandPainter" 56 "BandPainter" "clip" "LBandPainter$Box;" ∈ BIG := big_t 128 (by decide +kernel) (by decide +kernel)
theorem t_129 : Cond.laysFinal "BandPainter" "BandPainter" "width" "I" ∈ BIG := big_t 129 (by decide +kernel) (by decide +kernel)
theorem t_131 : Cond.laysFinal "BandPainter" "BandPainter" "height" "I" ∈ BIG := big_t 131 (by decide +kernel) (by decide +kernel)
theorem t_133 : Cond.laysFinal "BandPainter" "BandPainter" "band" "I" ∈ BIG := big_t 133 (by decide +kernel) (by decide +kernel)
theorem t_135 : Cond.laysFinal "BandPainter" "BandPainter" "sheet" "LBandPainter$Box;" ∈ BIG := big_t 135 (by decide +kernel) (by decide +kernel)
theorem t_137 : Cond.laysFinal "BandPainter" "BandPainter" "shapes" "[LBandPainter$Shape;" ∈ BIG := big_t 137 (by decide +kernel) (by decide +kernel)
theorem t_139 : Cond.laysFinal "BandPainter" "BandPainter" "pile" "LBandPainter$Pile;" ∈ BIG := big_t 139 (by decide +kernel) (by decide +kernel)
theorem t_141 : Cond.lays "BandPainter" "BandPainter" "shapeCount" "I" ∈ BIG := big_t 141 (by decide +kernel) (by decide +kernel)
theorem t_143 : Cond.lays "BandPainter" "BandPainter" "shapeRows" "I" ∈ BIG := big_t 143 (by decide +kernel) (by decide +kernel)
theorem t_145 : Cond.lays "BandPainter" "BandPainter" "rowBytes" "I" ∈ BIG := big_t 145 (by decide +kernel) (by decide +kernel)
theorem t_147 : Cond.lays "BandPainter" "BandPainter" "ink" "LBandPainter$Ink;" ∈ BIG := big_t 147 (by decide +kernel) (by decide +kernel)
theorem t_149 : Cond.lays "BandPainter" "BandPainter" "sourceOpaque" "Z" ∈ BIG := big_t 149 (by decide +kernel) (by decide +kernel)
theorem t_151 : Cond.lays "BandPainter" "BandPainter" "inkOpaque" "Z" ∈ BIG := big_t 151 (by decide +kernel) (by decide +kernel)
theorem t_153 : Cond.lays "BandPainter" "BandPainter" "turn" "I" ∈ BIG := big_t 153 (by decide +kernel) (by decide +kernel)
theorem t_155 : Cond.lays "BandPainter" "BandPainter" "clip" "LBandPainter$Box;" ∈ BIG := big_t 155 (by decide +kernel) (by decide +kernel)
theorem t_158 : Cond.methodLink "BandPainterLaw" 45 ⟨"BandPainter", "draw", "(IIJJ)Z"⟩ ∈ BIG := big_t 158 (by decide +kernel) (by decide +kernel)
theorem t_159 : Cond.instanceMethod ⟨"BandPainter", "draw", "(IIJJ)Z"⟩ ∈ BIG := big_t 159 (by decide +kernel) (by decide +kernel)
theorem t_160 : Cond.selects "BandPainter" ⟨"BandPainter", "draw", "(IIJJ)Z"⟩ ⟨"BandPainter", "draw", "(IIJJ)Z"⟩ ∈ BIG := big_t 160 (by decide +kernel) (by decide +kernel)
theorem t_161 : Cond.code ⟨"BandPainter", "draw", "(IIJJ)Z"⟩ prog_1_method_3_code 8 (some .boolean) ∈ BIG := big_t 161 (by decide +kernel) (by decide +kernel)
theorem t_162 : Cond.methodLink "BandPainter" 82 ⟨"BandPainter", "shapeOf", "(I)LBandPainter$Shape;"⟩ ∈ BIG := big_t 162 (by decide +kernel) (by decide +kernel)
theorem t_164 : Cond.instanceMethod ⟨"BandPainter", "shapeOf", "(I)LBandPainter$Shape;"⟩ ∈ BIG := big_t 164 (by decide +kernel) (by decide +kernel)
theorem t_165 : Cond.code ⟨"BandPainter", "shapeOf", "(I)LBandPainter$Shape;"⟩ prog_1_method_18_code 2 (some (.object "BandPainter$Shape")) ∈ BIG := big_t 165 (by decide +kernel) (by decide +kernel)
theorem t_166 : Cond.methodLink "BandPainter" 59 ⟨"BandPainter", "isWithin", "(III)Z"⟩ ∈ BIG := big_t 166 (by decide +kernel) (by decide +kernel)
theorem t_167 : Cond.static ⟨"BandPainter", "isWithin", "(III)Z"⟩ ∈ BIG := big_t 167 (by decide +kernel) (by decide +kernel)
theorem t_168 : Cond.code ⟨"BandPainter", "isWithin", "(III)Z"⟩ prog_1_method_21_code 3 (some .boolean) ∈ BIG := big_t 168 (by decide +kernel) (by decide +kernel)
theorem t_169 : Cond.methodLink "BandPainter" 99 ⟨"BandPainter$Shape", "redraw", "(IJJ)V"⟩ ∈ BIG := big_t 169 (by decide +kernel) (by decide +kernel)
theorem t_170 : Cond.instanceMethod ⟨"BandPainter$Shape", "redraw", "(IJJ)V"⟩ ∈ BIG := big_t 170 (by decide +kernel) (by decide +kernel)
theorem t_171 : Cond.selects "BandPainter$Shape" ⟨"BandPainter$Shape", "redraw", "(IJJ)V"⟩ ⟨"BandPainter$Shape", "redraw", "(IJJ)V"⟩ ∈ BIG := big_t 171 (by decide +kernel) (by decide +kernel)
theorem t_172 : Cond.code ⟨"BandPainter$Shape", "redraw", "(IJJ)V"⟩ prog_7_method_2_code 7 none ∈ BIG := big_t 172 (by decide +kernel) (by decide +kernel)
theorem t_173 : Cond.methodLink "BandPainter$Shape" 24 ⟨"BandPainter$Picture", "setDots", "(IJJ)V"⟩ ∈ BIG := big_t 173 (by decide +kernel) (by decide +kernel)
theorem t_174 : Cond.instanceMethod ⟨"BandPainter$Picture", "setDots", "(IJJ)V"⟩ ∈ BIG := big_t 174 (by decide +kernel) (by decide +kernel)
theorem t_175 : Cond.selects "BandPainter$Picture" ⟨"BandPainter$Picture", "setDots", "(IJJ)V"⟩ ⟨"BandPainter$Picture", "setDots", "(IJJ)V"⟩ ∈ BIG := big_t 175 (by decide +kernel) (by decide +kernel)
theorem t_176 : Cond.code ⟨"BandPainter$Picture", "setDots", "(IJJ)V"⟩ prog_5_method_2_code 6 none ∈ BIG := big_t 176 (by decide +kernel) (by decide +kernel)
theorem t_178 : Cond.static ⟨"BandPainter", "firstDots", "(I)J"⟩ ∈ BIG := big_t 178 (by decide +kernel) (by decide +kernel)
theorem t_179 : Cond.code ⟨"BandPainter", "firstDots", "(I)J"⟩ prog_1_method_24_code 1 (some .long) ∈ BIG := big_t 179 (by decide +kernel) (by decide +kernel)
theorem t_180 : Cond.constantLong "BandPainter" 201 (-1) ∈ BIG := big_t 180 (by decide +kernel) (by decide +kernel)
theorem t_181 : Cond.methodLink "BandPainter$Picture" 38 ⟨"BandPainter$Picture", "setWord", "(IIJ)V"⟩ ∈ BIG := big_t 181 (by decide +kernel) (by decide +kernel)
theorem t_183 : Cond.instanceMethod ⟨"BandPainter$Picture", "setWord", "(IIJ)V"⟩ ∈ BIG := big_t 183 (by decide +kernel) (by decide +kernel)
theorem t_184 : Cond.instantiable "BandPainter$Picture" 5 ∈ BIG := big_t 184 (by decide +kernel) (by decide +kernel)
theorem t_185 : Cond.code ⟨"BandPainter$Picture", "setWord", "(IIJ)V"⟩ prog_5_method_11_code 5 none ∈ BIG := big_t 185 (by decide +kernel) (by decide +kernel)
theorem t_186 : Cond.methodLink "BandPainter$Picture" 74 ⟨"BandPainter$Picture", "hasWord", "(II)Z"⟩ ∈ BIG := big_t 186 (by decide +kernel) (by decide +kernel)
theorem t_188 : Cond.instanceMethod ⟨"BandPainter$Picture", "hasWord", "(II)Z"⟩ ∈ BIG := big_t 188 (by decide +kernel) (by decide +kernel)
theorem t_189 : Cond.code ⟨"BandPainter$Picture", "hasWord", "(II)Z"⟩ prog_5_method_12_code 3 (some .boolean) ∈ BIG := big_t 189 (by decide +kernel) (by decide +kernel)
theorem t_190 : Cond.methodLink "BandPainterLaw" 50 ⟨"BandPainter", "ink", "(II)Z"⟩ ∈ BIG := big_t 190 (by decide +kernel) (by decide +kernel)
theorem t_191 : Cond.instanceMethod ⟨"BandPainter", "ink", "(II)Z"⟩ ∈ BIG := big_t 191 (by decide +kernel) (by decide +kernel)
theorem t_192 : Cond.selects "BandPainter" ⟨"BandPainter", "ink", "(II)Z"⟩ ⟨"BandPainter", "ink", "(II)Z"⟩ ∈ BIG := big_t 192 (by decide +kernel) (by decide +kernel)
theorem t_193 : Cond.code ⟨"BandPainter", "ink", "(II)Z"⟩ prog_1_method_4_code 3 (some .boolean) ∈ BIG := big_t 193 (by decide +kernel) (by decide +kernel)
theorem t_194 : Cond.methodLink "BandPainter" 103 ⟨"BandPainter$Ink", "exists", "(II)Z"⟩ ∈ BIG := big_t 194 (by decide +kernel) (by decide +kernel)
theorem t_195 : Cond.static ⟨"BandPainter$Ink", "exists", "(II)Z"⟩ ∈ BIG := big_t 195 (by decide +kernel) (by decide +kernel)
theorem t_196 : Cond.code ⟨"BandPainter$Ink", "exists", "(II)Z"⟩ prog_3_method_2_code 2 (some .boolean) ∈ BIG := big_t 196 (by decide +kernel) (by decide +kernel)
theorem t_198 : Cond.methodLink "BandPainterLaw" 54 ⟨"BandPainter", "mode", "(ZZ)V"⟩ ∈ BIG := big_t 198 (by decide +kernel) (by decide +kernel)
theorem t_199 : Cond.instanceMethod ⟨"BandPainter", "mode", "(ZZ)V"⟩ ∈ BIG := big_t 199 (by decide +kernel) (by decide +kernel)
theorem t_200 : Cond.selects "BandPainter" ⟨"BandPainter", "mode", "(ZZ)V"⟩ ⟨"BandPainter", "mode", "(ZZ)V"⟩ ∈ BIG := big_t 200 (by decide +kernel) (by decide +kernel)
theorem t_201 : Cond.code ⟨"BandPainter", "mode", "(ZZ)V"⟩ prog_1_method_5_code 3 none ∈ BIG := big_t 201 (by decide +kernel) (by decide +kernel)
theorem t_202 : Cond.methodLink "BandPainterLaw" 59 ⟨"BandPainter", "turn", "(I)Z"⟩ ∈ BIG := big_t 202 (by decide +kernel) (by decide +kernel)
theorem t_203 : Cond.instanceMethod ⟨"BandPainter", "turn", "(I)Z"⟩ ∈ BIG := big_t 203 (by decide +kernel) (by decide +kernel)
theorem t_204 : Cond.selects "BandPainter" ⟨"BandPainter", "turn", "(I)Z"⟩ ⟨"BandPainter", "turn", "(I)Z"⟩ ∈ BIG := big_t 204 (by decide +kernel) (by decide +kernel)
theorem t_205 : Cond.code ⟨"BandPainter", "turn", "(I)Z"⟩ prog_1_method_6_code 2 (some .boolean) ∈ BIG := big_t 205 (by decide +kernel) (by decide +kernel)
theorem t_206 : Cond.methodLink "BandPainterLaw" 64 ⟨"BandPainter", "clip", "(IIII)Z"⟩ ∈ BIG := big_t 206 (by decide +kernel) (by decide +kernel)
theorem t_207 : Cond.instanceMethod ⟨"BandPainter", "clip", "(IIII)Z"⟩ ∈ BIG := big_t 207 (by decide +kernel) (by decide +kernel)
theorem t_208 : Cond.selects "BandPainter" ⟨"BandPainter", "clip", "(IIII)Z"⟩ ⟨"BandPainter", "clip", "(IIII)Z"⟩ ∈ BIG := big_t 208 (by decide +kernel) (by decide +kernel)
theorem t_209 : Cond.code ⟨"BandPainter", "clip", "(IIII)Z"⟩ prog_1_method_7_code 5 (some .boolean) ∈ BIG := big_t 209 (by decide +kernel) (by decide +kernel)
theorem t_210 : Cond.methodLink "BandPainter" 116 ⟨"BandPainter$Box", "common", "(LBandPainter$Box;)LBandPainter$Box;"⟩ ∈ BIG := big_t 210 (by decide +kernel) (by decide +kernel)
theorem t_211 : Cond.instanceMethod ⟨"BandPainter$Box", "common", "(LBandPainter$Box;)LBandPainter$Box;"⟩ ∈ BIG := big_t 211 (by decide +kernel) (by decide +kernel)
theorem t_212 : Cond.selects "BandPainter$Box" ⟨"BandPainter$Box", "common", "(LBandPainter$Box;)LBandPainter$Box;"⟩ ⟨"BandPainter$Box", "common", "(LBandPainter$Box;)LBandPainter$Box;"⟩ ∈ BIG := big_t 212 (by decide +kernel) (by decide +kernel)
theorem t_213 : Cond.code ⟨"BandPainter$Box", "common", "(LBandPainter$Box;)LBandPainter$Box;"⟩ prog_2_method_2_code 2 (some (.object "BandPainter$Box")) ∈ BIG := big_t 213 (by decide +kernel) (by decide +kernel)
theorem t_214 : Cond.classLink "BandPainter$Box" 10 "BandPainter$Box" ∈ BIG := big_t 214 (by decide +kernel) (by decide +kernel)
theorem t_215 : Cond.methodLink "BandPainter$Box" 24 ⟨"java/lang/Math", "max", "(II)I"⟩ ∈ BIG := big_t 215 (by decide +kernel) (by decide +kernel)
theorem t_216 : Cond.methodLink "BandPainter$Box" 30 ⟨"java/lang/Math", "min", "(II)I"⟩ ∈ BIG := big_t 216 (by decide +kernel) (by decide +kernel)
theorem t_217 : Cond.methodLink "BandPainter$Box" 33 ⟨"BandPainter$Box", "<init>", "(IIII)V"⟩ ∈ BIG := big_t 217 (by decide +kernel) (by decide +kernel)
theorem t_218 : Cond.methodLink "BandPainterLaw" 69 ⟨"BandPainter", "stamp", "(III)Z"⟩ ∈ BIG := big_t 218 (by decide +kernel) (by decide +kernel)
theorem t_219 : Cond.instanceMethod ⟨"BandPainter", "stamp", "(III)Z"⟩ ∈ BIG := big_t 219 (by decide +kernel) (by decide +kernel)
theorem t_220 : Cond.selects "BandPainter" ⟨"BandPainter", "stamp", "(III)Z"⟩ ⟨"BandPainter", "stamp", "(III)Z"⟩ ∈ BIG := big_t 220 (by decide +kernel) (by decide +kernel)
theorem t_221 : Cond.code ⟨"BandPainter", "stamp", "(III)Z"⟩ prog_1_method_8_code 5 (some .boolean) ∈ BIG := big_t 221 (by decide +kernel) (by decide +kernel)
theorem t_222 : Cond.methodLink "BandPainter" 120 ⟨"BandPainter", "canLayAt", "(II)Z"⟩ ∈ BIG := big_t 222 (by decide +kernel) (by decide +kernel)
theorem t_224 : Cond.instanceMethod ⟨"BandPainter", "canLayAt", "(II)Z"⟩ ∈ BIG := big_t 224 (by decide +kernel) (by decide +kernel)
theorem t_225 : Cond.code ⟨"BandPainter", "canLayAt", "(II)Z"⟩ prog_1_method_19_code 3 (some .boolean) ∈ BIG := big_t 225 (by decide +kernel) (by decide +kernel)
theorem t_226 : Cond.methodLink "BandPainter" 123 ⟨"BandPainter$Shape", "turnedBy", "(I)LBandPainter$Picture;"⟩ ∈ BIG := big_t 226 (by decide +kernel) (by decide +kernel)
theorem t_227 : Cond.instanceMethod ⟨"BandPainter$Shape", "turnedBy", "(I)LBandPainter$Picture;"⟩ ∈ BIG := big_t 227 (by decide +kernel) (by decide +kernel)
theorem t_228 : Cond.selects "BandPainter$Shape" ⟨"BandPainter$Shape", "turnedBy", "(I)LBandPainter$Picture;"⟩ ⟨"BandPainter$Shape", "turnedBy", "(I)LBandPainter$Picture;"⟩ ∈ BIG := big_t 228 (by decide +kernel) (by decide +kernel)
theorem t_229 : Cond.code ⟨"BandPainter$Shape", "turnedBy", "(I)LBandPainter$Picture;"⟩ prog_7_method_3_code 2 (some (.object "BandPainter$Picture")) ∈ BIG := big_t 229 (by decide +kernel) (by decide +kernel)
theorem t_231 : Cond.methodLink "BandPainter$Shape" 32 ⟨"BandPainter$Picture", "turnedBy", "(I)LBandPainter$Picture;"⟩ ∈ BIG := big_t 231 (by decide +kernel) (by decide +kernel)
theorem t_232 : Cond.instanceMethod ⟨"BandPainter$Picture", "turnedBy", "(I)LBandPainter$Picture;"⟩ ∈ BIG := big_t 232 (by decide +kernel) (by decide +kernel)
theorem t_233 : Cond.selects "BandPainter$Picture" ⟨"BandPainter$Picture", "turnedBy", "(I)LBandPainter$Picture;"⟩ ⟨"BandPainter$Picture", "turnedBy", "(I)LBandPainter$Picture;"⟩ ∈ BIG := big_t 233 (by decide +kernel) (by decide +kernel)
theorem t_234 : Cond.code ⟨"BandPainter$Picture", "turnedBy", "(I)LBandPainter$Picture;"⟩ prog_5_method_5_code 5 (some (.object "BandPainter$Picture")) ∈ BIG := big_t 234 (by decide +kernel) (by decide +kernel)
theorem t_235 : Cond.classLink "BandPainter$Picture" 16 "BandPainter$Picture" ∈ BIG := big_t 235 (by decide +kernel) (by decide +kernel)
theorem t_236 : Cond.methodLink "BandPainter$Picture" 58 ⟨"BandPainter$Picture", "<init>", "(III)V"⟩ ∈ BIG := big_t 236 (by decide +kernel) (by decide +kernel)
theorem t_237 : Cond.instanceMethod ⟨"BandPainter$Picture", "<init>", "(III)V"⟩ ∈ BIG := big_t 237 (by decide +kernel) (by decide +kernel)
theorem t_238 : Cond.code ⟨"BandPainter$Picture", "<init>", "(III)V"⟩ prog_5_method_1_code 4 none ∈ BIG := big_t 238 (by decide +kernel) (by decide +kernel)
theorem t_239 : Cond.methodLink "BandPainter$Picture" 3 ⟨"java/lang/Object", "<init>", "()V"⟩ ∈ BIG := big_t 239 (by decide +kernel) (by decide +kernel)
theorem t_240 : Cond.methodLink "BandPainter$Picture" 9 ⟨"java/lang/Math", "max", "(II)I"⟩ ∈ BIG := big_t 240 (by decide +kernel) (by decide +kernel)
theorem t_241 : Cond.fieldLink "BandPainter$Picture" 15 "BandPainter$Picture" "across" "I" ∈ BIG := big_t 241 (by decide +kernel) (by decide +kernel)
theorem t_242 : Cond.fieldLink "BandPainter" 127 "BandPainter$Picture" "across" "I" ∈ BIG := big_t 242 (by decide +kernel) (by decide +kernel)
theorem t_243 : Cond.fieldLink "BandPainter$Picture" 21 "BandPainter$Picture" "down" "I" ∈ BIG := big_t 243 (by decide +kernel) (by decide +kernel)
theorem t_244 : Cond.fieldLink "BandPainter" 94 "BandPainter$Picture" "down" "I" ∈ BIG := big_t 244 (by decide +kernel) (by decide +kernel)
theorem t_245 : Cond.fieldLink "BandPainter$Picture" 24 "BandPainter$Picture" "tall" "I" ∈ BIG := big_t 245 (by decide +kernel) (by decide +kernel)
theorem t_246 : Cond.fieldLink "BandPainter$Picture" 27 "BandPainter$Picture" "words" "I" ∈ BIG := big_t 246 (by decide +kernel) (by decide +kernel)
theorem t_247 : Cond.fieldLink "BandPainter$Picture" 30 "BandPainter$Picture" "bits" "[J" ∈ BIG := big_t 247 (by decide +kernel) (by decide +kernel)
theorem t_248 : Cond.laysFinal "BandPainter$Picture" "BandPainter$Picture" "across" "I" ∈ BIG := big_t 248 (by decide +kernel) (by decide +kernel)
theorem t_250 : Cond.laysFinal "BandPainter$Picture" "BandPainter$Picture" "down" "I" ∈ BIG := big_t 250 (by decide +kernel) (by decide +kernel)
theorem t_252 : Cond.laysFinal "BandPainter$Picture" "BandPainter$Picture" "tall" "I" ∈ BIG := big_t 252 (by decide +kernel) (by decide +kernel)
theorem t_254 : Cond.laysFinal "BandPainter$Picture" "BandPainter$Picture" "words" "I" ∈ BIG := big_t 254 (by decide +kernel) (by decide +kernel)
theorem t_256 : Cond.laysFinal "BandPainter$Picture" "BandPainter$Picture" "bits" "[J" ∈ BIG := big_t 256 (by decide +kernel) (by decide +kernel)
theorem t_259 : Cond.methodLink "BandPainter$Picture" 61 ⟨"BandPainter$Picture", "isBlack", "(II)Z"⟩ ∈ BIG := big_t 259 (by decide +kernel) (by decide +kernel)
theorem t_261 : Cond.instanceMethod ⟨"BandPainter$Picture", "isBlack", "(II)Z"⟩ ∈ BIG := big_t 261 (by decide +kernel) (by decide +kernel)
theorem t_262 : Cond.code ⟨"BandPainter$Picture", "isBlack", "(II)Z"⟩ prog_5_method_8_code 3 (some .boolean) ∈ BIG := big_t 262 (by decide +kernel) (by decide +kernel)
theorem t_263 : Cond.methodLink "BandPainter$Picture" 54 ⟨"BandPainter$Picture", "wordAt", "(II)J"⟩ ∈ BIG := big_t 263 (by decide +kernel) (by decide +kernel)
theorem t_265 : Cond.instanceMethod ⟨"BandPainter$Picture", "wordAt", "(II)J"⟩ ∈ BIG := big_t 265 (by decide +kernel) (by decide +kernel)
theorem t_266 : Cond.code ⟨"BandPainter$Picture", "wordAt", "(II)J"⟩ prog_5_method_10_code 3 (some .long) ∈ BIG := big_t 266 (by decide +kernel) (by decide +kernel)
theorem t_267 : Cond.constantLong "BandPainter$Picture" 72 (-9223372036854775808) ∈ BIG := big_t 267 (by decide +kernel) (by decide +kernel)
theorem t_268 : Cond.methodLink "BandPainter$Picture" 65 ⟨"BandPainter$Picture", "blackenTurned", "(III)V"⟩ ∈ BIG := big_t 268 (by decide +kernel) (by decide +kernel)
theorem t_270 : Cond.instanceMethod ⟨"BandPainter$Picture", "blackenTurned", "(III)V"⟩ ∈ BIG := big_t 270 (by decide +kernel) (by decide +kernel)
theorem t_271 : Cond.code ⟨"BandPainter$Picture", "blackenTurned", "(III)V"⟩ prog_5_method_7_code 4 none ∈ BIG := big_t 271 (by decide +kernel) (by decide +kernel)
theorem t_272 : Cond.methodLink "BandPainter$Picture" 68 ⟨"BandPainter$Picture", "blacken", "(II)V"⟩ ∈ BIG := big_t 272 (by decide +kernel) (by decide +kernel)
theorem t_274 : Cond.instanceMethod ⟨"BandPainter$Picture", "blacken", "(II)V"⟩ ∈ BIG := big_t 274 (by decide +kernel) (by decide +kernel)
theorem t_275 : Cond.code ⟨"BandPainter$Picture", "blacken", "(II)V"⟩ prog_5_method_9_code 3 none ∈ BIG := big_t 275 (by decide +kernel) (by decide +kernel)
theorem t_276 : Cond.methodLink "BandPainter" 130 ⟨"BandPainter", "lay", "(LBandPainter$Picture;IIII)V"⟩ ∈ BIG := big_t 276 (by decide +kernel) (by decide +kernel)
theorem t_278 : Cond.instanceMethod ⟨"BandPainter", "lay", "(LBandPainter$Picture;IIII)V"⟩ ∈ BIG := big_t 278 (by decide +kernel) (by decide +kernel)
theorem t_279 : Cond.code ⟨"BandPainter", "lay", "(LBandPainter$Picture;IIII)V"⟩ prog_1_method_20_code 12 none ∈ BIG := big_t 279 (by decide +kernel) (by decide +kernel)
theorem t_280 : Cond.classLink "BandPainter" 192 "BandPainter$Mark" ∈ BIG := big_t 280 (by decide +kernel) (by decide +kernel)
theorem t_281 : Cond.instantiable "BandPainter$Mark" 9 ∈ BIG := big_t 281 (by decide +kernel) (by decide +kernel)
theorem t_282 : Cond.methodLink "BandPainter" 194 ⟨"BandPainter$Mark", "<init>", "(LBandPainter$Picture;IILBandPainter$Box;LBandPainter$Ink;ZZ)V"⟩ ∈ BIG := big_t 282 (by decide +kernel) (by decide +kernel)
theorem t_283 : Cond.instanceMethod ⟨"BandPainter$Mark", "<init>", "(LBandPainter$Picture;IILBandPainter$Box;LBandPainter$Ink;ZZ)V"⟩ ∈ BIG := big_t 283 (by decide +kernel) (by decide +kernel)
theorem t_284 : Cond.code ⟨"BandPainter$Mark", "<init>", "(LBandPainter$Picture;IILBandPainter$Box;LBandPainter$Ink;ZZ)V"⟩ prog_4_method_1_code 8 none ∈ BIG := big_t 284 (by decide +kernel) (by decide +kernel)
theorem t_285 : Cond.methodLink "BandPainter$Mark" 1 ⟨"java/lang/Object", "<init>", "()V"⟩ ∈ BIG := big_t 285 (by decide +kernel) (by decide +kernel)
theorem t_286 : Cond.fieldLink "BandPainter$Mark" 7 "BandPainter$Mark" "picture" "LBandPainter$Picture;" ∈ BIG := big_t 286 (by decide +kernel) (by decide +kernel)
theorem t_287 : Cond.fieldLink "BandPainter$Pile" 70 "BandPainter$Mark" "picture" "LBandPainter$Picture;" ∈ BIG := big_t 287 (by decide +kernel) (by decide +kernel)
theorem t_288 : Cond.fieldLink "BandPainter$Mark" 13 "BandPainter$Mark" "left" "I" ∈ BIG := big_t 288 (by decide +kernel) (by decide +kernel)
theorem t_289 : Cond.fieldLink "BandPainter$Pile" 121 "BandPainter$Mark" "left" "I" ∈ BIG := big_t 289 (by decide +kernel) (by decide +kernel)
theorem t_290 : Cond.fieldLink "BandPainter$Mark" 17 "BandPainter$Mark" "top" "I" ∈ BIG := big_t 290 (by decide +kernel) (by decide +kernel)
theorem t_291 : Cond.fieldLink "BandPainter$Pile" 118 "BandPainter$Mark" "top" "I" ∈ BIG := big_t 291 (by decide +kernel) (by decide +kernel)
theorem t_292 : Cond.fieldLink "BandPainter$Mark" 20 "BandPainter$Mark" "part" "LBandPainter$Box;" ∈ BIG := big_t 292 (by decide +kernel) (by decide +kernel)
theorem t_293 : Cond.fieldLink "BandPainter$Pile" 36 "BandPainter$Mark" "part" "LBandPainter$Box;" ∈ BIG := big_t 293 (by decide +kernel) (by decide +kernel)
theorem t_294 : Cond.fieldLink "BandPainter$Mark" 24 "BandPainter$Mark" "ink" "LBandPainter$Ink;" ∈ BIG := big_t 294 (by decide +kernel) (by decide +kernel)
theorem t_295 : Cond.fieldLink "BandPainter$Pile" 130 "BandPainter$Mark" "ink" "LBandPainter$Ink;" ∈ BIG := big_t 295 (by decide +kernel) (by decide +kernel)
theorem t_296 : Cond.fieldLink "BandPainter$Mark" 28 "BandPainter$Mark" "sourceOpaque" "Z" ∈ BIG := big_t 296 (by decide +kernel) (by decide +kernel)
theorem t_297 : Cond.fieldLink "BandPainter$Pile" 143 "BandPainter$Mark" "sourceOpaque" "Z" ∈ BIG := big_t 297 (by decide +kernel) (by decide +kernel)
theorem t_298 : Cond.fieldLink "BandPainter$Mark" 32 "BandPainter$Mark" "inkOpaque" "Z" ∈ BIG := big_t 298 (by decide +kernel) (by decide +kernel)
theorem t_299 : Cond.fieldLink "BandPainter$Pile" 139 "BandPainter$Mark" "inkOpaque" "Z" ∈ BIG := big_t 299 (by decide +kernel) (by decide +kernel)
theorem t_300 : Cond.fieldLink "BandPainter$Pile" 48 "BandPainter$Mark" "below" "LBandPainter$Mark;" ∈ BIG := big_t 300 (by decide +kernel) (by decide +kernel)
theorem t_301 : Cond.fieldLink "BandPainter$Pile" 100 "BandPainter$Mark" "belowOnLine" "LBandPainter$Mark;" ∈ BIG := big_t 301 (by decide +kernel) (by decide +kernel)
theorem t_302 : Cond.laysFinal "BandPainter$Mark" "BandPainter$Mark" "picture" "LBandPainter$Picture;" ∈ BIG := big_t 302 (by decide +kernel) (by decide +kernel)
theorem t_304 : Cond.laysFinal "BandPainter$Mark" "BandPainter$Mark" "left" "I" ∈ BIG := big_t 304 (by decide +kernel) (by decide +kernel)
theorem t_306 : Cond.laysFinal "BandPainter$Mark" "BandPainter$Mark" "top" "I" ∈ BIG := big_t 306 (by decide +kernel) (by decide +kernel)
theorem t_308 : Cond.laysFinal "BandPainter$Mark" "BandPainter$Mark" "part" "LBandPainter$Box;" ∈ BIG := big_t 308 (by decide +kernel) (by decide +kernel)
theorem t_310 : Cond.laysFinal "BandPainter$Mark" "BandPainter$Mark" "ink" "LBandPainter$Ink;" ∈ BIG := big_t 310 (by decide +kernel) (by decide +kernel)
theorem t_312 : Cond.laysFinal "BandPainter$Mark" "BandPainter$Mark" "sourceOpaque" "Z" ∈ BIG := big_t 312 (by decide +kernel) (by decide +kernel)
theorem t_314 : Cond.laysFinal "BandPainter$Mark" "BandPainter$Mark" "inkOpaque" "Z" ∈ BIG := big_t 314 (by decide +kernel) (by decide +kernel)
theorem t_316 : Cond.lays "BandPainter$Mark" "BandPainter$Mark" "below" "LBandPainter$Mark;" ∈ BIG := big_t 316 (by decide +kernel) (by decide +kernel)
theorem t_318 : Cond.lays "BandPainter$Mark" "BandPainter$Mark" "belowOnLine" "LBandPainter$Mark;" ∈ BIG := big_t 318 (by decide +kernel) (by decide +kernel)
theorem t_321 : Cond.methodLink "BandPainter" 197 ⟨"BandPainter$Pile", "add", "(LBandPainter$Mark;)V"⟩ ∈ BIG := big_t 321 (by decide +kernel) (by decide +kernel)
theorem t_322 : Cond.instanceMethod ⟨"BandPainter$Pile", "add", "(LBandPainter$Mark;)V"⟩ ∈ BIG := big_t 322 (by decide +kernel) (by decide +kernel)
theorem t_323 : Cond.selects "BandPainter$Pile" ⟨"BandPainter$Pile", "add", "(LBandPainter$Mark;)V"⟩ ⟨"BandPainter$Pile", "add", "(LBandPainter$Mark;)V"⟩ ∈ BIG := big_t 323 (by decide +kernel) (by decide +kernel)
theorem t_324 : Cond.code ⟨"BandPainter$Pile", "add", "(LBandPainter$Mark;)V"⟩ prog_6_method_3_code 2 none ∈ BIG := big_t 324 (by decide +kernel) (by decide +kernel)
theorem t_325 : Cond.methodLink "BandPainter$Pile" 42 ⟨"BandPainter$Box", "isEmpty", "()Z"⟩ ∈ BIG := big_t 325 (by decide +kernel) (by decide +kernel)
theorem t_326 : Cond.instanceMethod ⟨"BandPainter$Box", "isEmpty", "()Z"⟩ ∈ BIG := big_t 326 (by decide +kernel) (by decide +kernel)
theorem t_327 : Cond.selects "BandPainter$Box" ⟨"BandPainter$Box", "isEmpty", "()Z"⟩ ⟨"BandPainter$Box", "isEmpty", "()Z"⟩ ∈ BIG := big_t 327 (by decide +kernel) (by decide +kernel)
theorem t_328 : Cond.code ⟨"BandPainter$Box", "isEmpty", "()Z"⟩ prog_2_method_3_code 1 (some .boolean) ∈ BIG := big_t 328 (by decide +kernel) (by decide +kernel)
theorem t_329 : Cond.methodLink "BandPainter$Pile" 51 ⟨"BandPainter$Pile", "stir", "(LBandPainter$Mark;)V"⟩ ∈ BIG := big_t 329 (by decide +kernel) (by decide +kernel)
theorem t_331 : Cond.instanceMethod ⟨"BandPainter$Pile", "stir", "(LBandPainter$Mark;)V"⟩ ∈ BIG := big_t 331 (by decide +kernel) (by decide +kernel)
theorem t_332 : Cond.code ⟨"BandPainter$Pile", "stir", "(LBandPainter$Mark;)V"⟩ prog_6_method_4_code 5 none ∈ BIG := big_t 332 (by decide +kernel) (by decide +kernel)
theorem t_333 : Cond.methodLink "BandPainter$Pile" 58 ⟨"java/lang/Math", "max", "(II)I"⟩ ∈ BIG := big_t 333 (by decide +kernel) (by decide +kernel)
theorem t_334 : Cond.methodLink "BandPainter$Pile" 67 ⟨"java/lang/Math", "min", "(II)I"⟩ ∈ BIG := big_t 334 (by decide +kernel) (by decide +kernel)
theorem t_336 : Cond.methodLink "BandPainterLaw" 74 ⟨"BandPainter", "rule", "(IIII)Z"⟩ ∈ BIG := big_t 336 (by decide +kernel) (by decide +kernel)
theorem t_337 : Cond.instanceMethod ⟨"BandPainter", "rule", "(IIII)Z"⟩ ∈ BIG := big_t 337 (by decide +kernel) (by decide +kernel)
theorem t_338 : Cond.selects "BandPainter" ⟨"BandPainter", "rule", "(IIII)Z"⟩ ⟨"BandPainter", "rule", "(IIII)Z"⟩ ∈ BIG := big_t 338 (by decide +kernel) (by decide +kernel)
theorem t_339 : Cond.code ⟨"BandPainter", "rule", "(IIII)Z"⟩ prog_1_method_9_code 5 (some .boolean) ∈ BIG := big_t 339 (by decide +kernel) (by decide +kernel)
theorem t_340 : Cond.methodLink "BandPainterLaw" 78 ⟨"BandPainter", "row", "(IIIIJ)Z"⟩ ∈ BIG := big_t 340 (by decide +kernel) (by decide +kernel)
theorem t_341 : Cond.instanceMethod ⟨"BandPainter", "row", "(IIIIJ)Z"⟩ ∈ BIG := big_t 341 (by decide +kernel) (by decide +kernel)
theorem t_342 : Cond.selects "BandPainter" ⟨"BandPainter", "row", "(IIIIJ)Z"⟩ ⟨"BandPainter", "row", "(IIIIJ)Z"⟩ ∈ BIG := big_t 342 (by decide +kernel) (by decide +kernel)
theorem t_343 : Cond.code ⟨"BandPainter", "row", "(IIIIJ)Z"⟩ prog_1_method_10_code 9 (some .boolean) ∈ BIG := big_t 343 (by decide +kernel) (by decide +kernel)
theorem t_344 : Cond.constant "BandPainter" 137 65536 ∈ BIG := big_t 344 (by decide +kernel) (by decide +kernel)
theorem t_345 : Cond.classLink "BandPainter" 95 "BandPainter$Picture" ∈ BIG := big_t 345 (by decide +kernel) (by decide +kernel)
theorem t_346 : Cond.methodLink "BandPainter" 138 ⟨"BandPainter$Picture", "<init>", "(III)V"⟩ ∈ BIG := big_t 346 (by decide +kernel) (by decide +kernel)
theorem t_347 : Cond.methodLink "BandPainter" 141 ⟨"BandPainter$Picture", "setDots", "(IJJ)V"⟩ ∈ BIG := big_t 347 (by decide +kernel) (by decide +kernel)
theorem t_348 : Cond.methodLink "BandPainter" 144 ⟨"BandPainter$Picture", "turnedBy", "(I)LBandPainter$Picture;"⟩ ∈ BIG := big_t 348 (by decide +kernel) (by decide +kernel)
theorem t_349 : Cond.methodLink "BandPainter" 145 ⟨"BandPainter$Picture", "enlarged", "(I)LBandPainter$Picture;"⟩ ∈ BIG := big_t 349 (by decide +kernel) (by decide +kernel)
theorem t_350 : Cond.instanceMethod ⟨"BandPainter$Picture", "enlarged", "(I)LBandPainter$Picture;"⟩ ∈ BIG := big_t 350 (by decide +kernel) (by decide +kernel)
theorem t_351 : Cond.selects "BandPainter$Picture" ⟨"BandPainter$Picture", "enlarged", "(I)LBandPainter$Picture;"⟩ ⟨"BandPainter$Picture", "enlarged", "(I)LBandPainter$Picture;"⟩ ∈ BIG := big_t 351 (by decide +kernel) (by decide +kernel)
theorem t_352 : Cond.code ⟨"BandPainter$Picture", "enlarged", "(I)LBandPainter$Picture;"⟩ prog_5_method_6_code 5 (some (.object "BandPainter$Picture")) ∈ BIG := big_t 352 (by decide +kernel) (by decide +kernel)
theorem t_353 : Cond.methodLink "BandPainterLaw" 83 ⟨"BandPainter", "eject", "()V"⟩ ∈ BIG := big_t 353 (by decide +kernel) (by decide +kernel)
theorem t_354 : Cond.instanceMethod ⟨"BandPainter", "eject", "()V"⟩ ∈ BIG := big_t 354 (by decide +kernel) (by decide +kernel)
theorem t_355 : Cond.selects "BandPainter" ⟨"BandPainter", "eject", "()V"⟩ ⟨"BandPainter", "eject", "()V"⟩ ∈ BIG := big_t 355 (by decide +kernel) (by decide +kernel)
theorem t_356 : Cond.code ⟨"BandPainter", "eject", "()V"⟩ prog_1_method_11_code 3 none ∈ BIG := big_t 356 (by decide +kernel) (by decide +kernel)
theorem t_357 : Cond.methodLink "BandPainter" 148 ⟨"BandPainter$Pile", "clear", "()V"⟩ ∈ BIG := big_t 357 (by decide +kernel) (by decide +kernel)
theorem t_358 : Cond.instanceMethod ⟨"BandPainter$Pile", "clear", "()V"⟩ ∈ BIG := big_t 358 (by decide +kernel) (by decide +kernel)
theorem t_359 : Cond.selects "BandPainter$Pile" ⟨"BandPainter$Pile", "clear", "()V"⟩ ⟨"BandPainter$Pile", "clear", "()V"⟩ ∈ BIG := big_t 359 (by decide +kernel) (by decide +kernel)
theorem t_360 : Cond.code ⟨"BandPainter$Pile", "clear", "()V"⟩ prog_6_method_2_code 2 none ∈ BIG := big_t 360 (by decide +kernel) (by decide +kernel)
theorem t_361 : Cond.methodLink "BandPainter$Pile" 30 ⟨"java/util/Arrays", "fill", "([II)V"⟩ ∈ BIG := big_t 361 (by decide +kernel) (by decide +kernel)
theorem t_362 : Cond.static ⟨"java/util/Arrays", "fill", "([II)V"⟩ ∈ BIG := big_t 362 (by decide +kernel) (by decide +kernel)
theorem t_363 : Cond.code ⟨"java/util/Arrays", "fill", "([II)V"⟩ prog_19_method_103_code 4 none ∈ BIG := big_t 363 (by decide +kernel) (by decide +kernel)
theorem t_364 : Cond.methodLink "BandPainterLaw" 87 ⟨"BandPainter", "line", "(II)J"⟩ ∈ BIG := big_t 364 (by decide +kernel) (by decide +kernel)
theorem t_365 : Cond.instanceMethod ⟨"BandPainter", "line", "(II)J"⟩ ∈ BIG := big_t 365 (by decide +kernel) (by decide +kernel)
theorem t_366 : Cond.selects "BandPainter" ⟨"BandPainter", "line", "(II)J"⟩ ⟨"BandPainter", "line", "(II)J"⟩ ∈ BIG := big_t 366 (by decide +kernel) (by decide +kernel)
theorem t_367 : Cond.code ⟨"BandPainter", "line", "(II)J"⟩ prog_1_method_12_code 3 (some .long) ∈ BIG := big_t 367 (by decide +kernel) (by decide +kernel)
theorem t_368 : Cond.methodLink "BandPainter" 151 ⟨"BandPainter$Pile", "wordOf", "(II)J"⟩ ∈ BIG := big_t 368 (by decide +kernel) (by decide +kernel)
theorem t_369 : Cond.instanceMethod ⟨"BandPainter$Pile", "wordOf", "(II)J"⟩ ∈ BIG := big_t 369 (by decide +kernel) (by decide +kernel)
theorem t_370 : Cond.selects "BandPainter$Pile" ⟨"BandPainter$Pile", "wordOf", "(II)J"⟩ ⟨"BandPainter$Pile", "wordOf", "(II)J"⟩ ∈ BIG := big_t 370 (by decide +kernel) (by decide +kernel)
theorem t_371 : Cond.code ⟨"BandPainter$Pile", "wordOf", "(II)J"⟩ prog_6_method_5_code 3 (some .long) ∈ BIG := big_t 371 (by decide +kernel) (by decide +kernel)
theorem t_372 : Cond.methodLink "BandPainter$Pile" 78 ⟨"BandPainter$Pile", "newestOnLine", "(I)LBandPainter$Mark;"⟩ ∈ BIG := big_t 372 (by decide +kernel) (by decide +kernel)
theorem t_374 : Cond.instanceMethod ⟨"BandPainter$Pile", "newestOnLine", "(I)LBandPainter$Mark;"⟩ ∈ BIG := big_t 374 (by decide +kernel) (by decide +kernel)
theorem t_375 : Cond.code ⟨"BandPainter$Pile", "newestOnLine", "(I)LBandPainter$Mark;"⟩ prog_6_method_9_code 5 (some (.object "BandPainter$Mark")) ∈ BIG := big_t 375 (by decide +kernel) (by decide +kernel)
theorem t_376 : Cond.methodLink "BandPainter$Pile" 109 ⟨"BandPainter$Box", "meetsLine", "(I)Z"⟩ ∈ BIG := big_t 376 (by decide +kernel) (by decide +kernel)
theorem t_377 : Cond.instanceMethod ⟨"BandPainter$Box", "meetsLine", "(I)Z"⟩ ∈ BIG := big_t 377 (by decide +kernel) (by decide +kernel)
theorem t_378 : Cond.selects "BandPainter$Box" ⟨"BandPainter$Box", "meetsLine", "(I)Z"⟩ ⟨"BandPainter$Box", "meetsLine", "(I)Z"⟩ ∈ BIG := big_t 378 (by decide +kernel) (by decide +kernel)
theorem t_379 : Cond.code ⟨"BandPainter$Box", "meetsLine", "(I)Z"⟩ prog_2_method_4_code 2 (some .boolean) ∈ BIG := big_t 379 (by decide +kernel) (by decide +kernel)
theorem t_380 : Cond.methodLink "BandPainter$Pile" 82 ⟨"BandPainter$Pile", "wordUnder", "(LBandPainter$Mark;II)J"⟩ ∈ BIG := big_t 380 (by decide +kernel) (by decide +kernel)
theorem t_381 : Cond.static ⟨"BandPainter$Pile", "wordUnder", "(LBandPainter$Mark;II)J"⟩ ∈ BIG := big_t 381 (by decide +kernel) (by decide +kernel)
theorem t_382 : Cond.code ⟨"BandPainter$Pile", "wordUnder", "(LBandPainter$Mark;II)J"⟩ prog_6_method_10_code 15 (some .long) ∈ BIG := big_t 382 (by decide +kernel) (by decide +kernel)
theorem t_383 : Cond.constantLong "BandPainter$Pile" 112 (-1) ∈ BIG := big_t 383 (by decide +kernel) (by decide +kernel)
theorem t_384 : Cond.methodLink "BandPainter$Pile" 114 ⟨"BandPainter$Box", "dotsOfWord", "(I)J"⟩ ∈ BIG := big_t 384 (by decide +kernel) (by decide +kernel)
theorem t_385 : Cond.instanceMethod ⟨"BandPainter$Box", "dotsOfWord", "(I)J"⟩ ∈ BIG := big_t 385 (by decide +kernel) (by decide +kernel)
theorem t_386 : Cond.selects "BandPainter$Box" ⟨"BandPainter$Box", "dotsOfWord", "(I)J"⟩ ⟨"BandPainter$Box", "dotsOfWord", "(I)J"⟩ ∈ BIG := big_t 386 (by decide +kernel) (by decide +kernel)
theorem t_387 : Cond.code ⟨"BandPainter$Box", "dotsOfWord", "(I)J"⟩ prog_2_method_5_code 3 (some .long) ∈ BIG := big_t 387 (by decide +kernel) (by decide +kernel)
theorem t_389 : Cond.constantLong "BandPainter$Box" 40 (-1) ∈ BIG := big_t 389 (by decide +kernel) (by decide +kernel)
theorem t_390 : Cond.methodLink "BandPainter$Pile" 124 ⟨"BandPainter$Picture", "dotsFrom", "(II)J"⟩ ∈ BIG := big_t 390 (by decide +kernel) (by decide +kernel)
theorem t_391 : Cond.instanceMethod ⟨"BandPainter$Picture", "dotsFrom", "(II)J"⟩ ∈ BIG := big_t 391 (by decide +kernel) (by decide +kernel)
theorem t_392 : Cond.selects "BandPainter$Picture" ⟨"BandPainter$Picture", "dotsFrom", "(II)J"⟩ ⟨"BandPainter$Picture", "dotsFrom", "(II)J"⟩ ∈ BIG := big_t 392 (by decide +kernel) (by decide +kernel)
theorem t_393 : Cond.code ⟨"BandPainter$Picture", "dotsFrom", "(II)J"⟩ prog_5_method_4_code 8 (some .long) ∈ BIG := big_t 393 (by decide +kernel) (by decide +kernel)
theorem t_394 : Cond.methodLink "BandPainter$Picture" 48 ⟨"java/lang/Math", "floorDiv", "(II)I"⟩ ∈ BIG := big_t 394 (by decide +kernel) (by decide +kernel)
theorem t_395 : Cond.static ⟨"java/lang/Math", "floorDiv", "(II)I"⟩ ∈ BIG := big_t 395 (by decide +kernel) (by decide +kernel)
theorem t_396 : Cond.code ⟨"java/lang/Math", "floorDiv", "(II)I"⟩ prog_15_method_47_code 3 (some .int) ∈ BIG := big_t 396 (by decide +kernel) (by decide +kernel)
theorem t_397 : Cond.methodLink "BandPainter$Picture" 51 ⟨"java/lang/Math", "floorMod", "(II)I"⟩ ∈ BIG := big_t 397 (by decide +kernel) (by decide +kernel)
theorem t_398 : Cond.static ⟨"java/lang/Math", "floorMod", "(II)I"⟩ ∈ BIG := big_t 398 (by decide +kernel) (by decide +kernel)
theorem t_399 : Cond.code ⟨"java/lang/Math", "floorMod", "(II)I"⟩ prog_15_method_50_code 3 (some .int) ∈ BIG := big_t 399 (by decide +kernel) (by decide +kernel)
theorem t_400 : Cond.methodLink "BandPainter$Pile" 134 ⟨"BandPainter$Ink", "dotsAt", "(I)J"⟩ ∈ BIG := big_t 400 (by decide +kernel) (by decide +kernel)
theorem t_401 : Cond.instanceMethod ⟨"BandPainter$Ink", "dotsAt", "(I)J"⟩ ∈ BIG := big_t 401 (by decide +kernel) (by decide +kernel)
theorem t_402 : Cond.selects "BandPainter$Ink" ⟨"BandPainter$Ink", "dotsAt", "(I)J"⟩ ⟨"BandPainter$Ink", "dotsAt", "(I)J"⟩ ∈ BIG := big_t 402 (by decide +kernel) (by decide +kernel)
theorem t_403 : Cond.code ⟨"BandPainter$Ink", "dotsAt", "(I)J"⟩ prog_3_method_3_code 2 (some .long) ∈ BIG := big_t 403 (by decide +kernel) (by decide +kernel)
theorem t_404 : Cond.methodLink "BandPainterLaw" 95 ⟨"BandPainter", "count", "(II)I"⟩ ∈ BIG := big_t 404 (by decide +kernel) (by decide +kernel)
theorem t_405 : Cond.instanceMethod ⟨"BandPainter", "count", "(II)I"⟩ ∈ BIG := big_t 405 (by decide +kernel) (by decide +kernel)
theorem t_406 : Cond.selects "BandPainter" ⟨"BandPainter", "count", "(II)I"⟩ ⟨"BandPainter", "count", "(II)I"⟩ ∈ BIG := big_t 406 (by decide +kernel) (by decide +kernel)
theorem t_407 : Cond.code ⟨"BandPainter", "count", "(II)I"⟩ prog_1_method_14_code 6 (some .int) ∈ BIG := big_t 407 (by decide +kernel) (by decide +kernel)
theorem t_408 : Cond.methodLink "BandPainter" 171 ⟨"BandPainter$Pile", "blacksOf", "(I)I"⟩ ∈ BIG := big_t 408 (by decide +kernel) (by decide +kernel)
theorem t_409 : Cond.instanceMethod ⟨"BandPainter$Pile", "blacksOf", "(I)I"⟩ ∈ BIG := big_t 409 (by decide +kernel) (by decide +kernel)
theorem t_410 : Cond.selects "BandPainter$Pile" ⟨"BandPainter$Pile", "blacksOf", "(I)I"⟩ ⟨"BandPainter$Pile", "blacksOf", "(I)I"⟩ ∈ BIG := big_t 410 (by decide +kernel) (by decide +kernel)
theorem t_411 : Cond.code ⟨"BandPainter$Pile", "blacksOf", "(I)I"⟩ prog_6_method_6_code 3 (some .int) ∈ BIG := big_t 411 (by decide +kernel) (by decide +kernel)
theorem t_412 : Cond.methodLink "BandPainter$Pile" 86 ⟨"BandPainter$Pile", "isLikeAbove", "(I)Z"⟩ ∈ BIG := big_t 412 (by decide +kernel) (by decide +kernel)
theorem t_414 : Cond.instanceMethod ⟨"BandPainter$Pile", "isLikeAbove", "(I)Z"⟩ ∈ BIG := big_t 414 (by decide +kernel) (by decide +kernel)
theorem t_415 : Cond.code ⟨"BandPainter$Pile", "isLikeAbove", "(I)Z"⟩ prog_6_method_7_code 3 (some .boolean) ∈ BIG := big_t 415 (by decide +kernel) (by decide +kernel)
theorem t_416 : Cond.methodLink "BandPainter$Pile" 90 ⟨"BandPainter$Pile", "countedBlacks", "(I)I"⟩ ∈ BIG := big_t 416 (by decide +kernel) (by decide +kernel)
theorem t_418 : Cond.instanceMethod ⟨"BandPainter$Pile", "countedBlacks", "(I)I"⟩ ∈ BIG := big_t 418 (by decide +kernel) (by decide +kernel)
theorem t_419 : Cond.code ⟨"BandPainter$Pile", "countedBlacks", "(I)I"⟩ prog_6_method_8_code 7 (some .int) ∈ BIG := big_t 419 (by decide +kernel) (by decide +kernel)
theorem t_420 : Cond.methodLink "BandPainter$Pile" 103 ⟨"java/lang/Long", "bitCount", "(J)I"⟩ ∈ BIG := big_t 420 (by decide +kernel) (by decide +kernel)
theorem t_421 : Cond.static ⟨"java/lang/Long", "bitCount", "(J)I"⟩ ∈ BIG := big_t 421 (by decide +kernel) (by decide +kernel)
theorem t_422 : Cond.code ⟨"java/lang/Long", "bitCount", "(J)I"⟩ prog_14_method_50_code 2 (some .int) ∈ BIG := big_t 422 (by decide +kernel) (by decide +kernel)
theorem t_423 : Cond.constantLong "java/lang/Long" 314 6148914691236517205 ∈ BIG := big_t 423 (by decide +kernel) (by decide +kernel)
theorem t_424 : Cond.constantLong "java/lang/Long" 316 3689348814741910323 ∈ BIG := big_t 424 (by decide +kernel) (by decide +kernel)
theorem t_425 : Cond.constantLong "java/lang/Long" 318 1085102592571150095 ∈ BIG := big_t 425 (by decide +kernel) (by decide +kernel)
theorem t_426 : Cond.methodLink "BandPainterLaw" 99 ⟨"BandPainter", "top", "(I)I"⟩ ∈ BIG := big_t 426 (by decide +kernel) (by decide +kernel)
theorem t_427 : Cond.instanceMethod ⟨"BandPainter", "top", "(I)I"⟩ ∈ BIG := big_t 427 (by decide +kernel) (by decide +kernel)
theorem t_428 : Cond.selects "BandPainter" ⟨"BandPainter", "top", "(I)I"⟩ ⟨"BandPainter", "top", "(I)I"⟩ ∈ BIG := big_t 428 (by decide +kernel) (by decide +kernel)
theorem t_429 : Cond.code ⟨"BandPainter", "top", "(I)I"⟩ prog_1_method_15_code 3 (some .int) ∈ BIG := big_t 429 (by decide +kernel) (by decide +kernel)
theorem t_430 : Cond.methodLink "BandPainterLaw" 104 ⟨"BandPainter", "of", "(II)I"⟩ ∈ BIG := big_t 430 (by decide +kernel) (by decide +kernel)
theorem t_431 : Cond.instanceMethod ⟨"BandPainter", "of", "(II)I"⟩ ∈ BIG := big_t 431 (by decide +kernel) (by decide +kernel)
theorem t_432 : Cond.selects "BandPainter" ⟨"BandPainter", "of", "(II)I"⟩ ⟨"BandPainter", "of", "(II)I"⟩ ∈ BIG := big_t 432 (by decide +kernel) (by decide +kernel)
theorem t_433 : Cond.code ⟨"BandPainter", "of", "(II)I"⟩ prog_1_method_16_code 4 (some .int) ∈ BIG := big_t 433 (by decide +kernel) (by decide +kernel)
theorem t_434 : Cond.methodLink "BandPainter" 175 ⟨"BandPainter$Picture", "blacks", "()I"⟩ ∈ BIG := big_t 434 (by decide +kernel) (by decide +kernel)
theorem t_435 : Cond.instanceMethod ⟨"BandPainter$Picture", "blacks", "()I"⟩ ∈ BIG := big_t 435 (by decide +kernel) (by decide +kernel)
theorem t_436 : Cond.selects "BandPainter$Picture" ⟨"BandPainter$Picture", "blacks", "()I"⟩ ⟨"BandPainter$Picture", "blacks", "()I"⟩ ∈ BIG := big_t 436 (by decide +kernel) (by decide +kernel)
theorem t_437 : Cond.code ⟨"BandPainter$Picture", "blacks", "()I"⟩ prog_5_method_3_code 3 (some .int) ∈ BIG := big_t 437 (by decide +kernel) (by decide +kernel)
theorem t_438 : Cond.methodLink "BandPainter$Picture" 42 ⟨"java/lang/Long", "bitCount", "(J)I"⟩ ∈ BIG := big_t 438 (by decide +kernel) (by decide +kernel)
theorem t_439 : Cond.methodLink "BandPainter" 179 ⟨"BandPainter", "oneIf", "(Z)I"⟩ ∈ BIG := big_t 439 (by decide +kernel) (by decide +kernel)
theorem t_440 : Cond.static ⟨"BandPainter", "oneIf", "(Z)I"⟩ ∈ BIG := big_t 440 (by decide +kernel) (by decide +kernel)
theorem t_441 : Cond.code ⟨"BandPainter", "oneIf", "(Z)I"⟩ prog_1_method_23_code 1 (some .int) ∈ BIG := big_t 441 (by decide +kernel) (by decide +kernel)
theorem t_442 : Cond.methodLink "BandPainterLaw" 108 ⟨"BandPainter", "look", "(I)I"⟩ ∈ BIG := big_t 442 (by decide +kernel) (by decide +kernel)
theorem t_443 : Cond.instanceMethod ⟨"BandPainter", "look", "(I)I"⟩ ∈ BIG := big_t 443 (by decide +kernel) (by decide +kernel)
theorem t_444 : Cond.selects "BandPainter" ⟨"BandPainter", "look", "(I)I"⟩ ⟨"BandPainter", "look", "(I)I"⟩ ∈ BIG := big_t 444 (by decide +kernel) (by decide +kernel)
theorem t_445 : Cond.code ⟨"BandPainter", "look", "(I)I"⟩ prog_1_method_17_code 2 (some .int) ∈ BIG := big_t 445 (by decide +kernel) (by decide +kernel)
theorem t_446 : Cond.methodLink "BandPainterLaw" 23 ⟨"BandPainterLaw", "cell", "([II)I"⟩ ∈ BIG := big_t 446 (by decide +kernel) (by decide +kernel)
theorem t_447 : Cond.static ⟨"BandPainterLaw", "cell", "([II)I"⟩ ∈ BIG := big_t 447 (by decide +kernel) (by decide +kernel)
theorem t_448 : Cond.code ⟨"BandPainterLaw", "cell", "([II)I"⟩ method_2_code 2 (some .int) ∈ BIG := big_t 448 (by decide +kernel) (by decide +kernel)
theorem t_449 : Cond.methodLink "BandPainterLaw" 35 ⟨"BandPainterLaw", "shape", "(LBandPainter;II[J)I"⟩ ∈ BIG := big_t 449 (by decide +kernel) (by decide +kernel)
theorem t_450 : Cond.static ⟨"BandPainterLaw", "shape", "(LBandPainter;II[J)I"⟩ ∈ BIG := big_t 450 (by decide +kernel) (by decide +kernel)
theorem t_452 : Cond.classLink "BandPainterLaw" 13 "java/lang/IllegalArgumentException" ∈ BIG := big_t 452 (by decide +kernel) (by decide +kernel)
theorem t_453 : Cond.classLink "BandPainterLaw" 15 "java/lang/IllegalStateException" ∈ BIG := big_t 453 (by decide +kernel) (by decide +kernel)
theorem t_454 : Cond.methodLink "BandPainterLaw" 7 ⟨"BandPainter", "shape", "(II)I"⟩ ∈ BIG := big_t 454 (by decide +kernel) (by decide +kernel)
theorem t_455 : Cond.instanceMethod ⟨"BandPainter", "shape", "(II)I"⟩ ∈ BIG := big_t 455 (by decide +kernel) (by decide +kernel)
theorem t_456 : Cond.selects "BandPainter" ⟨"BandPainter", "shape", "(II)I"⟩ ⟨"BandPainter", "shape", "(II)I"⟩ ∈ BIG := big_t 456 (by decide +kernel) (by decide +kernel)
theorem t_457 : Cond.code ⟨"BandPainter", "shape", "(II)I"⟩ prog_1_method_2_code 4 (some .int) ∈ BIG := big_t 457 (by decide +kernel) (by decide +kernel)
theorem t_458 : Cond.classLink "BandPainter" 63 "java/lang/IllegalArgumentException" ∈ BIG := big_t 458 (by decide +kernel) (by decide +kernel)
theorem t_525 : Cond.arrayClass .byte ∈ BIG := big_t 525 (by decide +kernel) (by decide +kernel)
theorem t_526 : Cond.classLink "BandPainter" 76 "java/lang/IllegalStateException" ∈ BIG := big_t 526 (by decide +kernel) (by decide +kernel)
theorem t_542 : Cond.instantiable "BandPainter$Shape" 3 ∈ BIG := big_t 542 (by decide +kernel) (by decide +kernel)
theorem t_543 : Cond.methodLink "BandPainter" 81 ⟨"BandPainter$Shape", "<init>", "(II)V"⟩ ∈ BIG := big_t 543 (by decide +kernel) (by decide +kernel)
theorem t_544 : Cond.instanceMethod ⟨"BandPainter$Shape", "<init>", "(II)V"⟩ ∈ BIG := big_t 544 (by decide +kernel) (by decide +kernel)
theorem t_545 : Cond.code ⟨"BandPainter$Shape", "<init>", "(II)V"⟩ prog_7_method_1_code 3 none ∈ BIG := big_t 545 (by decide +kernel) (by decide +kernel)
theorem t_546 : Cond.methodLink "BandPainter$Shape" 3 ⟨"java/lang/Object", "<init>", "()V"⟩ ∈ BIG := big_t 546 (by decide +kernel) (by decide +kernel)
theorem t_547 : Cond.classLink "BandPainter$Shape" 9 "BandPainter$Picture" ∈ BIG := big_t 547 (by decide +kernel) (by decide +kernel)
theorem t_548 : Cond.methodLink "BandPainter$Shape" 11 ⟨"BandPainter$Picture", "<init>", "(III)V"⟩ ∈ BIG := big_t 548 (by decide +kernel) (by decide +kernel)
theorem t_550 : Cond.fieldLink "BandPainter$Shape" 14 "BandPainter$Shape" "upright" "LBandPainter$Picture;" ∈ BIG := big_t 550 (by decide +kernel) (by decide +kernel)
theorem t_551 : Cond.fieldLink "BandPainter" 90 "BandPainter$Shape" "upright" "LBandPainter$Picture;" ∈ BIG := big_t 551 (by decide +kernel) (by decide +kernel)
theorem t_552 : Cond.fieldLink "BandPainter$Shape" 20 "BandPainter$Shape" "turned" "[LBandPainter$Picture;" ∈ BIG := big_t 552 (by decide +kernel) (by decide +kernel)
theorem t_553 : Cond.fieldLink "BandPainter" 86 "BandPainter$Shape" "stamped" "Z" ∈ BIG := big_t 553 (by decide +kernel) (by decide +kernel)
theorem t_554 : Cond.laysFinal "BandPainter$Shape" "BandPainter$Shape" "upright" "LBandPainter$Picture;" ∈ BIG := big_t 554 (by decide +kernel) (by decide +kernel)
theorem t_556 : Cond.laysFinal "BandPainter$Shape" "BandPainter$Shape" "turned" "[LBandPainter$Picture;" ∈ BIG := big_t 556 (by decide +kernel) (by decide +kernel)
theorem t_558 : Cond.lays "BandPainter$Shape" "BandPainter$Shape" "stamped" "Z" ∈ BIG := big_t 558 (by decide +kernel) (by decide +kernel)
theorem t_561 : Cond.methodLink "BandPainterLaw" 92 ⟨"BandPainterLaw", "black", "(LBandPainter;II[J)I"⟩ ∈ BIG := big_t 561 (by decide +kernel) (by decide +kernel)
theorem t_562 : Cond.static ⟨"BandPainterLaw", "black", "(LBandPainter;II[J)I"⟩ ∈ BIG := big_t 562 (by decide +kernel) (by decide +kernel)
theorem t_564 : Cond.classLink "BandPainterLaw" 21 "java/lang/IndexOutOfBoundsException" ∈ BIG := big_t 564 (by decide +kernel) (by decide +kernel)
theorem t_565 : Cond.methodLink "BandPainterLaw" 17 ⟨"BandPainter", "black", "(II)Z"⟩ ∈ BIG := big_t 565 (by decide +kernel) (by decide +kernel)
theorem t_566 : Cond.instanceMethod ⟨"BandPainter", "black", "(II)Z"⟩ ∈ BIG := big_t 566 (by decide +kernel) (by decide +kernel)
theorem t_567 : Cond.selects "BandPainter" ⟨"BandPainter", "black", "(II)Z"⟩ ⟨"BandPainter", "black", "(II)Z"⟩ ∈ BIG := big_t 567 (by decide +kernel) (by decide +kernel)
theorem t_568 : Cond.code ⟨"BandPainter", "black", "(II)Z"⟩ prog_1_method_13_code 3 (some .boolean) ∈ BIG := big_t 568 (by decide +kernel) (by decide +kernel)
theorem t_569 : Cond.classLink "BandPainter" 155 "java/lang/IndexOutOfBoundsException" ∈ BIG := big_t 569 (by decide +kernel) (by decide +kernel)
theorem t_585 : Cond.constantLong "BandPainter" 160 (-9223372036854775808) ∈ BIG := big_t 585 (by decide +kernel) (by decide +kernel)
theorem t_586 : Cond.classLink "BandPainterLaw" 32 "BandPainterModel" ∈ BIG := big_t 586 (by decide +kernel) (by decide +kernel)
theorem t_587 : Cond.instantiable "BandPainterModel" 23 ∈ BIG := big_t 587 (by decide +kernel) (by decide +kernel)
theorem t_588 : Cond.methodLink "BandPainterLaw" 34 ⟨"BandPainterModel", "<init>", "(III)V"⟩ ∈ BIG := big_t 588 (by decide +kernel) (by decide +kernel)
theorem t_589 : Cond.instanceMethod ⟨"BandPainterModel", "<init>", "(III)V"⟩ ∈ BIG := big_t 589 (by decide +kernel) (by decide +kernel)
theorem t_590 : Cond.code ⟨"BandPainterModel", "<init>", "(III)V"⟩ prog_9_method_1_code 4 none ∈ BIG := big_t 590 (by decide +kernel) (by decide +kernel)
theorem t_591 : Cond.methodLink "BandPainterModel" 1 ⟨"java/lang/Object", "<init>", "()V"⟩ ∈ BIG := big_t 591 (by decide +kernel) (by decide +kernel)
theorem t_592 : Cond.fieldLink "BandPainterModel" 46 "BandPainterModel" "thrown" "I" ∈ BIG := big_t 592 (by decide +kernel) (by decide +kernel)
theorem t_593 : Cond.fieldLink "BandPainterModel" 27 "BandPainterModel" "wide" "I" ∈ BIG := big_t 593 (by decide +kernel) (by decide +kernel)
theorem t_594 : Cond.fieldLink "BandPainterModel" 31 "BandPainterModel" "high" "I" ∈ BIG := big_t 594 (by decide +kernel) (by decide +kernel)
theorem t_595 : Cond.fieldLink "BandPainterModel" 34 "BandPainterModel" "band" "I" ∈ BIG := big_t 595 (by decide +kernel) (by decide +kernel)
theorem t_596 : Cond.fieldLink "BandPainterModel" 37 "BandPainterModel" "sheet" "[J" ∈ BIG := big_t 596 (by decide +kernel) (by decide +kernel)
theorem t_597 : Cond.fieldLink "BandPainterModel" 95 "BandPainterModel" "shapes" "I" ∈ BIG := big_t 597 (by decide +kernel) (by decide +kernel)
theorem t_598 : Cond.fieldLink "BandPainterModel" 7 "BandPainterModel" "across" "[I" ∈ BIG := big_t 598 (by decide +kernel) (by decide +kernel)
theorem t_599 : Cond.fieldLink "BandPainterModel" 13 "BandPainterModel" "down" "[I" ∈ BIG := big_t 599 (by decide +kernel) (by decide +kernel)
theorem t_600 : Cond.fieldLink "BandPainterModel" 16 "BandPainterModel" "firstRow" "[I" ∈ BIG := big_t 600 (by decide +kernel) (by decide +kernel)
theorem t_601 : Cond.fieldLink "BandPainterModel" 19 "BandPainterModel" "stamped" "[Z" ∈ BIG := big_t 601 (by decide +kernel) (by decide +kernel)
theorem t_602 : Cond.fieldLink "BandPainterModel" 98 "BandPainterModel" "rows" "I" ∈ BIG := big_t 602 (by decide +kernel) (by decide +kernel)
theorem t_603 : Cond.fieldLink "BandPainterModel" 23 "BandPainterModel" "dots" "[J" ∈ BIG := big_t 603 (by decide +kernel) (by decide +kernel)
theorem t_604 : Cond.fieldLink "BandPainterModel" 112 "BandPainterModel" "marks" "I" ∈ BIG := big_t 604 (by decide +kernel) (by decide +kernel)
theorem t_605 : Cond.fieldLink "BandPainterModel" 128 "BandPainterModel" "bytes" "I" ∈ BIG := big_t 605 (by decide +kernel) (by decide +kernel)
theorem t_606 : Cond.fieldLink "BandPainterModel" 51 "BandPainterModel" "inkKind" "I" ∈ BIG := big_t 606 (by decide +kernel) (by decide +kernel)
theorem t_607 : Cond.fieldLink "BandPainterModel" 58 "BandPainterModel" "inkValue" "I" ∈ BIG := big_t 607 (by decide +kernel) (by decide +kernel)
theorem t_608 : Cond.fieldLink "BandPainterModel" 75 "BandPainterModel" "sourceOpaque" "Z" ∈ BIG := big_t 608 (by decide +kernel) (by decide +kernel)
theorem t_609 : Cond.fieldLink "BandPainterModel" 86 "BandPainterModel" "inkOpaque" "Z" ∈ BIG := big_t 609 (by decide +kernel) (by decide +kernel)
theorem t_610 : Cond.fieldLink "BandPainterModel" 89 "BandPainterModel" "turn" "I" ∈ BIG := big_t 610 (by decide +kernel) (by decide +kernel)
theorem t_611 : Cond.fieldLink "BandPainterModel" 69 "BandPainterModel" "clipLeft" "I" ∈ BIG := big_t 611 (by decide +kernel) (by decide +kernel)
theorem t_612 : Cond.fieldLink "BandPainterModel" 72 "BandPainterModel" "clipTop" "I" ∈ BIG := big_t 612 (by decide +kernel) (by decide +kernel)
theorem t_613 : Cond.fieldLink "BandPainterModel" 40 "BandPainterModel" "clipRight" "I" ∈ BIG := big_t 613 (by decide +kernel) (by decide +kernel)
theorem t_614 : Cond.fieldLink "BandPainterModel" 43 "BandPainterModel" "clipBottom" "I" ∈ BIG := big_t 614 (by decide +kernel) (by decide +kernel)
theorem t_615 : Cond.lays "BandPainterModel" "BandPainterModel" "thrown" "I" ∈ BIG := big_t 615 (by decide +kernel) (by decide +kernel)
theorem t_617 : Cond.laysFinal "BandPainterModel" "BandPainterModel" "wide" "I" ∈ BIG := big_t 617 (by decide +kernel) (by decide +kernel)
theorem t_619 : Cond.laysFinal "BandPainterModel" "BandPainterModel" "high" "I" ∈ BIG := big_t 619 (by decide +kernel) (by decide +kernel)
theorem t_621 : Cond.laysFinal "BandPainterModel" "BandPainterModel" "band" "I" ∈ BIG := big_t 621 (by decide +kernel) (by decide +kernel)
theorem t_623 : Cond.laysFinal "BandPainterModel" "BandPainterModel" "sheet" "[J" ∈ BIG := big_t 623 (by decide +kernel) (by decide +kernel)
theorem t_625 : Cond.lays "BandPainterModel" "BandPainterModel" "shapes" "I" ∈ BIG := big_t 625 (by decide +kernel) (by decide +kernel)
theorem t_627 : Cond.laysFinal "BandPainterModel" "BandPainterModel" "across" "[I" ∈ BIG := big_t 627 (by decide +kernel) (by decide +kernel)
theorem t_629 : Cond.laysFinal "BandPainterModel" "BandPainterModel" "down" "[I" ∈ BIG := big_t 629 (by decide +kernel) (by decide +kernel)
theorem t_631 : Cond.laysFinal "BandPainterModel" "BandPainterModel" "firstRow" "[I" ∈ BIG := big_t 631 (by decide +kernel) (by decide +kernel)
theorem t_633 : Cond.laysFinal "BandPainterModel" "BandPainterModel" "stamped" "[Z" ∈ BIG := big_t 633 (by decide +kernel) (by decide +kernel)
theorem t_635 : Cond.lays "BandPainterModel" "BandPainterModel" "rows" "I" ∈ BIG := big_t 635 (by decide +kernel) (by decide +kernel)
theorem t_637 : Cond.laysFinal "BandPainterModel" "BandPainterModel" "dots" "[J" ∈ BIG := big_t 637 (by decide +kernel) (by decide +kernel)
theorem t_639 : Cond.lays "BandPainterModel" "BandPainterModel" "marks" "I" ∈ BIG := big_t 639 (by decide +kernel) (by decide +kernel)
theorem t_641 : Cond.lays "BandPainterModel" "BandPainterModel" "bytes" "I" ∈ BIG := big_t 641 (by decide +kernel) (by decide +kernel)
theorem t_643 : Cond.lays "BandPainterModel" "BandPainterModel" "inkKind" "I" ∈ BIG := big_t 643 (by decide +kernel) (by decide +kernel)
theorem t_645 : Cond.lays "BandPainterModel" "BandPainterModel" "inkValue" "I" ∈ BIG := big_t 645 (by decide +kernel) (by decide +kernel)
theorem t_647 : Cond.lays "BandPainterModel" "BandPainterModel" "sourceOpaque" "Z" ∈ BIG := big_t 647 (by decide +kernel) (by decide +kernel)
theorem t_649 : Cond.lays "BandPainterModel" "BandPainterModel" "inkOpaque" "Z" ∈ BIG := big_t 649 (by decide +kernel) (by decide +kernel)
theorem t_651 : Cond.lays "BandPainterModel" "BandPainterModel" "turn" "I" ∈ BIG := big_t 651 (by decide +kernel) (by decide +kernel)
theorem t_653 : Cond.lays "BandPainterModel" "BandPainterModel" "clipLeft" "I" ∈ BIG := big_t 653 (by decide +kernel) (by decide +kernel)
theorem t_655 : Cond.lays "BandPainterModel" "BandPainterModel" "clipTop" "I" ∈ BIG := big_t 655 (by decide +kernel) (by decide +kernel)
theorem t_657 : Cond.lays "BandPainterModel" "BandPainterModel" "clipRight" "I" ∈ BIG := big_t 657 (by decide +kernel) (by decide +kernel)
theorem t_659 : Cond.lays "BandPainterModel" "BandPainterModel" "clipBottom" "I" ∈ BIG := big_t 659 (by decide +kernel) (by decide +kernel)
theorem t_662 : Cond.methodLink "BandPainterLaw" 39 ⟨"BandPainterModel", "thrown", "()I"⟩ ∈ BIG := big_t 662 (by decide +kernel) (by decide +kernel)
theorem t_663 : Cond.instanceMethod ⟨"BandPainterModel", "thrown", "()I"⟩ ∈ BIG := big_t 663 (by decide +kernel) (by decide +kernel)
theorem t_664 : Cond.selects "BandPainterModel" ⟨"BandPainterModel", "thrown", "()I"⟩ ⟨"BandPainterModel", "thrown", "()I"⟩ ∈ BIG := big_t 664 (by decide +kernel) (by decide +kernel)
theorem t_665 : Cond.code ⟨"BandPainterModel", "thrown", "()I"⟩ prog_9_method_2_code 1 (some .int) ∈ BIG := big_t 665 (by decide +kernel) (by decide +kernel)
theorem t_666 : Cond.methodLink "BandPainterLaw" 38 ⟨"BandPainterModel", "shape", "(II)I"⟩ ∈ BIG := big_t 666 (by decide +kernel) (by decide +kernel)
theorem t_667 : Cond.instanceMethod ⟨"BandPainterModel", "shape", "(II)I"⟩ ∈ BIG := big_t 667 (by decide +kernel) (by decide +kernel)
theorem t_668 : Cond.selects "BandPainterModel" ⟨"BandPainterModel", "shape", "(II)I"⟩ ⟨"BandPainterModel", "shape", "(II)I"⟩ ∈ BIG := big_t 668 (by decide +kernel) (by decide +kernel)
theorem t_669 : Cond.code ⟨"BandPainterModel", "shape", "(II)I"⟩ prog_9_method_11_code 4 (some .int) ∈ BIG := big_t 669 (by decide +kernel) (by decide +kernel)
theorem t_670 : Cond.methodLink "BandPainterLaw" 49 ⟨"BandPainterModel", "draw", "(IIJJ)Z"⟩ ∈ BIG := big_t 670 (by decide +kernel) (by decide +kernel)
theorem t_671 : Cond.instanceMethod ⟨"BandPainterModel", "draw", "(IIJJ)Z"⟩ ∈ BIG := big_t 671 (by decide +kernel) (by decide +kernel)
theorem t_672 : Cond.selects "BandPainterModel" ⟨"BandPainterModel", "draw", "(IIJJ)Z"⟩ ⟨"BandPainterModel", "draw", "(IIJJ)Z"⟩ ∈ BIG := big_t 672 (by decide +kernel) (by decide +kernel)
theorem t_673 : Cond.code ⟨"BandPainterModel", "draw", "(IIJJ)Z"⟩ prog_9_method_14_code 8 (some .boolean) ∈ BIG := big_t 673 (by decide +kernel) (by decide +kernel)
theorem t_674 : Cond.methodLink "BandPainterModel" 101 ⟨"BandPainterModel", "isShape", "(I)Z"⟩ ∈ BIG := big_t 674 (by decide +kernel) (by decide +kernel)
theorem t_676 : Cond.instanceMethod ⟨"BandPainterModel", "isShape", "(I)Z"⟩ ∈ BIG := big_t 676 (by decide +kernel) (by decide +kernel)
theorem t_677 : Cond.code ⟨"BandPainterModel", "isShape", "(I)Z"⟩ prog_9_method_12_code 2 (some .boolean) ∈ BIG := big_t 677 (by decide +kernel) (by decide +kernel)
theorem t_678 : Cond.methodLink "BandPainterModel" 105 ⟨"BandPainterModel", "highest", "(JI)J"⟩ ∈ BIG := big_t 678 (by decide +kernel) (by decide +kernel)
theorem t_679 : Cond.static ⟨"BandPainterModel", "highest", "(JI)J"⟩ ∈ BIG := big_t 679 (by decide +kernel) (by decide +kernel)
theorem t_680 : Cond.code ⟨"BandPainterModel", "highest", "(JI)J"⟩ prog_9_method_13_code 3 (some .long) ∈ BIG := big_t 680 (by decide +kernel) (by decide +kernel)
theorem t_681 : Cond.constantLong "BandPainterModel" 49 (-1) ∈ BIG := big_t 681 (by decide +kernel) (by decide +kernel)
theorem t_682 : Cond.methodLink "BandPainterLaw" 53 ⟨"BandPainterModel", "ink", "(II)Z"⟩ ∈ BIG := big_t 682 (by decide +kernel) (by decide +kernel)
theorem t_683 : Cond.instanceMethod ⟨"BandPainterModel", "ink", "(II)Z"⟩ ∈ BIG := big_t 683 (by decide +kernel) (by decide +kernel)
theorem t_684 : Cond.selects "BandPainterModel" ⟨"BandPainterModel", "ink", "(II)Z"⟩ ⟨"BandPainterModel", "ink", "(II)Z"⟩ ∈ BIG := big_t 684 (by decide +kernel) (by decide +kernel)
theorem t_685 : Cond.code ⟨"BandPainterModel", "ink", "(II)Z"⟩ prog_9_method_16_code 4 (some .boolean) ∈ BIG := big_t 685 (by decide +kernel) (by decide +kernel)
theorem t_686 : Cond.methodLink "BandPainterLaw" 58 ⟨"BandPainterModel", "mode", "(ZZ)V"⟩ ∈ BIG := big_t 686 (by decide +kernel) (by decide +kernel)
theorem t_687 : Cond.instanceMethod ⟨"BandPainterModel", "mode", "(ZZ)V"⟩ ∈ BIG := big_t 687 (by decide +kernel) (by decide +kernel)
theorem t_688 : Cond.selects "BandPainterModel" ⟨"BandPainterModel", "mode", "(ZZ)V"⟩ ⟨"BandPainterModel", "mode", "(ZZ)V"⟩ ∈ BIG := big_t 688 (by decide +kernel) (by decide +kernel)
theorem t_689 : Cond.code ⟨"BandPainterModel", "mode", "(ZZ)V"⟩ prog_9_method_17_code 3 none ∈ BIG := big_t 689 (by decide +kernel) (by decide +kernel)
theorem t_690 : Cond.methodLink "BandPainterLaw" 63 ⟨"BandPainterModel", "turn", "(I)Z"⟩ ∈ BIG := big_t 690 (by decide +kernel) (by decide +kernel)
theorem t_691 : Cond.instanceMethod ⟨"BandPainterModel", "turn", "(I)Z"⟩ ∈ BIG := big_t 691 (by decide +kernel) (by decide +kernel)
theorem t_692 : Cond.selects "BandPainterModel" ⟨"BandPainterModel", "turn", "(I)Z"⟩ ⟨"BandPainterModel", "turn", "(I)Z"⟩ ∈ BIG := big_t 692 (by decide +kernel) (by decide +kernel)
theorem t_693 : Cond.code ⟨"BandPainterModel", "turn", "(I)Z"⟩ prog_9_method_18_code 2 (some .boolean) ∈ BIG := big_t 693 (by decide +kernel) (by decide +kernel)
theorem t_694 : Cond.methodLink "BandPainterLaw" 68 ⟨"BandPainterModel", "clip", "(IIII)Z"⟩ ∈ BIG := big_t 694 (by decide +kernel) (by decide +kernel)
theorem t_695 : Cond.instanceMethod ⟨"BandPainterModel", "clip", "(IIII)Z"⟩ ∈ BIG := big_t 695 (by decide +kernel) (by decide +kernel)
theorem t_696 : Cond.selects "BandPainterModel" ⟨"BandPainterModel", "clip", "(IIII)Z"⟩ ⟨"BandPainterModel", "clip", "(IIII)Z"⟩ ∈ BIG := big_t 696 (by decide +kernel) (by decide +kernel)
theorem t_697 : Cond.code ⟨"BandPainterModel", "clip", "(IIII)Z"⟩ prog_9_method_19_code 5 (some .boolean) ∈ BIG := big_t 697 (by decide +kernel) (by decide +kernel)
theorem t_698 : Cond.methodLink "BandPainterLaw" 73 ⟨"BandPainterModel", "stamp", "(III)Z"⟩ ∈ BIG := big_t 698 (by decide +kernel) (by decide +kernel)
theorem t_699 : Cond.instanceMethod ⟨"BandPainterModel", "stamp", "(III)Z"⟩ ∈ BIG := big_t 699 (by decide +kernel) (by decide +kernel)
theorem t_700 : Cond.selects "BandPainterModel" ⟨"BandPainterModel", "stamp", "(III)Z"⟩ ⟨"BandPainterModel", "stamp", "(III)Z"⟩ ∈ BIG := big_t 700 (by decide +kernel) (by decide +kernel)
theorem t_701 : Cond.code ⟨"BandPainterModel", "stamp", "(III)Z"⟩ prog_9_method_21_code 6 (some .boolean) ∈ BIG := big_t 701 (by decide +kernel) (by decide +kernel)
theorem t_702 : Cond.methodLink "BandPainterModel" 109 ⟨"BandPainterModel", "isPlace", "(I)Z"⟩ ∈ BIG := big_t 702 (by decide +kernel) (by decide +kernel)
theorem t_703 : Cond.static ⟨"BandPainterModel", "isPlace", "(I)Z"⟩ ∈ BIG := big_t 703 (by decide +kernel) (by decide +kernel)
theorem t_704 : Cond.code ⟨"BandPainterModel", "isPlace", "(I)Z"⟩ prog_9_method_20_code 1 (some .boolean) ∈ BIG := big_t 704 (by decide +kernel) (by decide +kernel)
theorem t_705 : Cond.methodLink "BandPainterModel" 115 ⟨"BandPainterModel", "shapeDot", "(III)Z"⟩ ∈ BIG := big_t 705 (by decide +kernel) (by decide +kernel)
theorem t_707 : Cond.instanceMethod ⟨"BandPainterModel", "shapeDot", "(III)Z"⟩ ∈ BIG := big_t 707 (by decide +kernel) (by decide +kernel)
theorem t_708 : Cond.code ⟨"BandPainterModel", "shapeDot", "(III)Z"⟩ prog_9_method_15_code 4 (some .boolean) ∈ BIG := big_t 708 (by decide +kernel) (by decide +kernel)
theorem t_709 : Cond.methodLink "BandPainterModel" 118 ⟨"BandPainterModel", "lay", "(IIIIZ)V"⟩ ∈ BIG := big_t 709 (by decide +kernel) (by decide +kernel)
theorem t_711 : Cond.instanceMethod ⟨"BandPainterModel", "lay", "(IIIIZ)V"⟩ ∈ BIG := big_t 711 (by decide +kernel) (by decide +kernel)
theorem t_712 : Cond.code ⟨"BandPainterModel", "lay", "(IIIIZ)V"⟩ prog_9_method_10_code 8 none ∈ BIG := big_t 712 (by decide +kernel) (by decide +kernel)
theorem t_713 : Cond.methodLink "BandPainterModel" 92 ⟨"BandPainterModel", "paint", "(IIZ)V"⟩ ∈ BIG := big_t 713 (by decide +kernel) (by decide +kernel)
theorem t_715 : Cond.instanceMethod ⟨"BandPainterModel", "paint", "(IIZ)V"⟩ ∈ BIG := big_t 715 (by decide +kernel) (by decide +kernel)
theorem t_716 : Cond.code ⟨"BandPainterModel", "paint", "(IIZ)V"⟩ prog_9_method_9_code 4 none ∈ BIG := big_t 716 (by decide +kernel) (by decide +kernel)
theorem t_717 : Cond.methodLink "BandPainterModel" 65 ⟨"BandPainterModel", "isIn", "(II)Z"⟩ ∈ BIG := big_t 717 (by decide +kernel) (by decide +kernel)
theorem t_719 : Cond.instanceMethod ⟨"BandPainterModel", "isIn", "(II)Z"⟩ ∈ BIG := big_t 719 (by decide +kernel) (by decide +kernel)
theorem t_720 : Cond.code ⟨"BandPainterModel", "isIn", "(II)Z"⟩ prog_9_method_3_code 3 (some .boolean) ∈ BIG := big_t 720 (by decide +kernel) (by decide +kernel)
theorem t_721 : Cond.methodLink "BandPainterModel" 79 ⟨"BandPainterModel", "set", "(IIZ)V"⟩ ∈ BIG := big_t 721 (by decide +kernel) (by decide +kernel)
theorem t_723 : Cond.instanceMethod ⟨"BandPainterModel", "set", "(IIZ)V"⟩ ∈ BIG := big_t 723 (by decide +kernel) (by decide +kernel)
theorem t_724 : Cond.code ⟨"BandPainterModel", "set", "(IIZ)V"⟩ prog_9_method_5_code 7 none ∈ BIG := big_t 724 (by decide +kernel) (by decide +kernel)
theorem t_725 : Cond.methodLink "BandPainterModel" 83 ⟨"BandPainterModel", "isInk", "(II)Z"⟩ ∈ BIG := big_t 725 (by decide +kernel) (by decide +kernel)
theorem t_727 : Cond.instanceMethod ⟨"BandPainterModel", "isInk", "(II)Z"⟩ ∈ BIG := big_t 727 (by decide +kernel) (by decide +kernel)
theorem t_728 : Cond.code ⟨"BandPainterModel", "isInk", "(II)Z"⟩ prog_9_method_8_code 3 (some .boolean) ∈ BIG := big_t 728 (by decide +kernel) (by decide +kernel)
theorem t_729 : Cond.methodLink "BandPainterModel" 54 ⟨"BandPainterModel", "threshold", "(II)I"⟩ ∈ BIG := big_t 729 (by decide +kernel) (by decide +kernel)
theorem t_730 : Cond.static ⟨"BandPainterModel", "threshold", "(II)I"⟩ ∈ BIG := big_t 730 (by decide +kernel) (by decide +kernel)
theorem t_731 : Cond.code ⟨"BandPainterModel", "threshold", "(II)I"⟩ prog_9_method_6_code 6 (some .int) ∈ BIG := big_t 731 (by decide +kernel) (by decide +kernel)
theorem t_732 : Cond.methodLink "BandPainterModel" 61 ⟨"BandPainterModel", "hatch", "(III)Z"⟩ ∈ BIG := big_t 732 (by decide +kernel) (by decide +kernel)
theorem t_733 : Cond.static ⟨"BandPainterModel", "hatch", "(III)Z"⟩ ∈ BIG := big_t 733 (by decide +kernel) (by decide +kernel)
theorem t_734 : Cond.code ⟨"BandPainterModel", "hatch", "(III)Z"⟩ prog_9_method_7_code 9 (some .boolean) ∈ BIG := big_t 734 (by decide +kernel) (by decide +kernel)
theorem t_735 : Cond.methodLink "BandPainterLaw" 77 ⟨"BandPainterModel", "rule", "(IIII)Z"⟩ ∈ BIG := big_t 735 (by decide +kernel) (by decide +kernel)
theorem t_736 : Cond.instanceMethod ⟨"BandPainterModel", "rule", "(IIII)Z"⟩ ∈ BIG := big_t 736 (by decide +kernel) (by decide +kernel)
theorem t_737 : Cond.selects "BandPainterModel" ⟨"BandPainterModel", "rule", "(IIII)Z"⟩ ⟨"BandPainterModel", "rule", "(IIII)Z"⟩ ∈ BIG := big_t 737 (by decide +kernel) (by decide +kernel)
theorem t_738 : Cond.code ⟨"BandPainterModel", "rule", "(IIII)Z"⟩ prog_9_method_24_code 11 (some .boolean) ∈ BIG := big_t 738 (by decide +kernel) (by decide +kernel)
theorem t_739 : Cond.methodLink "BandPainterModel" 122 ⟨"BandPainterModel", "most", "(II)I"⟩ ∈ BIG := big_t 739 (by decide +kernel) (by decide +kernel)
theorem t_740 : Cond.static ⟨"BandPainterModel", "most", "(II)I"⟩ ∈ BIG := big_t 740 (by decide +kernel) (by decide +kernel)
theorem t_741 : Cond.code ⟨"BandPainterModel", "most", "(II)I"⟩ prog_9_method_22_code 2 (some .int) ∈ BIG := big_t 741 (by decide +kernel) (by decide +kernel)
theorem t_742 : Cond.methodLink "BandPainterModel" 125 ⟨"BandPainterModel", "least", "(II)I"⟩ ∈ BIG := big_t 742 (by decide +kernel) (by decide +kernel)
theorem t_743 : Cond.static ⟨"BandPainterModel", "least", "(II)I"⟩ ∈ BIG := big_t 743 (by decide +kernel) (by decide +kernel)
theorem t_744 : Cond.code ⟨"BandPainterModel", "least", "(II)I"⟩ prog_9_method_23_code 2 (some .int) ∈ BIG := big_t 744 (by decide +kernel) (by decide +kernel)
theorem t_745 : Cond.methodLink "BandPainterLaw" 82 ⟨"BandPainterModel", "row", "(IIIIJ)Z"⟩ ∈ BIG := big_t 745 (by decide +kernel) (by decide +kernel)
theorem t_746 : Cond.instanceMethod ⟨"BandPainterModel", "row", "(IIIIJ)Z"⟩ ∈ BIG := big_t 746 (by decide +kernel) (by decide +kernel)
theorem t_747 : Cond.selects "BandPainterModel" ⟨"BandPainterModel", "row", "(IIIIJ)Z"⟩ ⟨"BandPainterModel", "row", "(IIIIJ)Z"⟩ ∈ BIG := big_t 747 (by decide +kernel) (by decide +kernel)
theorem t_748 : Cond.code ⟨"BandPainterModel", "row", "(IIIIJ)Z"⟩ prog_9_method_25_code 12 (some .boolean) ∈ BIG := big_t 748 (by decide +kernel) (by decide +kernel)
theorem t_749 : Cond.constant "BandPainterModel" 131 65536 ∈ BIG := big_t 749 (by decide +kernel) (by decide +kernel)
theorem t_750 : Cond.methodLink "BandPainterLaw" 86 ⟨"BandPainterModel", "eject", "()V"⟩ ∈ BIG := big_t 750 (by decide +kernel) (by decide +kernel)
theorem t_751 : Cond.instanceMethod ⟨"BandPainterModel", "eject", "()V"⟩ ∈ BIG := big_t 751 (by decide +kernel) (by decide +kernel)
theorem t_752 : Cond.selects "BandPainterModel" ⟨"BandPainterModel", "eject", "()V"⟩ ⟨"BandPainterModel", "eject", "()V"⟩ ∈ BIG := big_t 752 (by decide +kernel) (by decide +kernel)
theorem t_753 : Cond.code ⟨"BandPainterModel", "eject", "()V"⟩ prog_9_method_26_code 2 none ∈ BIG := big_t 753 (by decide +kernel) (by decide +kernel)
theorem t_754 : Cond.methodLink "BandPainterLaw" 91 ⟨"BandPainterModel", "line", "(II)J"⟩ ∈ BIG := big_t 754 (by decide +kernel) (by decide +kernel)
theorem t_755 : Cond.instanceMethod ⟨"BandPainterModel", "line", "(II)J"⟩ ∈ BIG := big_t 755 (by decide +kernel) (by decide +kernel)
theorem t_756 : Cond.selects "BandPainterModel" ⟨"BandPainterModel", "line", "(II)J"⟩ ⟨"BandPainterModel", "line", "(II)J"⟩ ∈ BIG := big_t 756 (by decide +kernel) (by decide +kernel)
theorem t_757 : Cond.code ⟨"BandPainterModel", "line", "(II)J"⟩ prog_9_method_27_code 3 (some .long) ∈ BIG := big_t 757 (by decide +kernel) (by decide +kernel)
theorem t_758 : Cond.methodLink "BandPainterLaw" 94 ⟨"BandPainterModel", "black", "(II)Z"⟩ ∈ BIG := big_t 758 (by decide +kernel) (by decide +kernel)
theorem t_759 : Cond.instanceMethod ⟨"BandPainterModel", "black", "(II)Z"⟩ ∈ BIG := big_t 759 (by decide +kernel) (by decide +kernel)
theorem t_760 : Cond.selects "BandPainterModel" ⟨"BandPainterModel", "black", "(II)Z"⟩ ⟨"BandPainterModel", "black", "(II)Z"⟩ ∈ BIG := big_t 760 (by decide +kernel) (by decide +kernel)
theorem t_761 : Cond.code ⟨"BandPainterModel", "black", "(II)Z"⟩ prog_9_method_28_code 3 (some .boolean) ∈ BIG := big_t 761 (by decide +kernel) (by decide +kernel)
theorem t_762 : Cond.methodLink "BandPainterModel" 132 ⟨"BandPainterModel", "isBlack", "(II)Z"⟩ ∈ BIG := big_t 762 (by decide +kernel) (by decide +kernel)
theorem t_764 : Cond.instanceMethod ⟨"BandPainterModel", "isBlack", "(II)Z"⟩ ∈ BIG := big_t 764 (by decide +kernel) (by decide +kernel)
theorem t_765 : Cond.code ⟨"BandPainterModel", "isBlack", "(II)Z"⟩ prog_9_method_4_code 3 (some .boolean) ∈ BIG := big_t 765 (by decide +kernel) (by decide +kernel)
theorem t_766 : Cond.methodLink "BandPainterLaw" 98 ⟨"BandPainterModel", "count", "(II)I"⟩ ∈ BIG := big_t 766 (by decide +kernel) (by decide +kernel)
theorem t_767 : Cond.instanceMethod ⟨"BandPainterModel", "count", "(II)I"⟩ ∈ BIG := big_t 767 (by decide +kernel) (by decide +kernel)
theorem t_768 : Cond.selects "BandPainterModel" ⟨"BandPainterModel", "count", "(II)I"⟩ ⟨"BandPainterModel", "count", "(II)I"⟩ ∈ BIG := big_t 768 (by decide +kernel) (by decide +kernel)
theorem t_769 : Cond.code ⟨"BandPainterModel", "count", "(II)I"⟩ prog_9_method_31_code 5 (some .int) ∈ BIG := big_t 769 (by decide +kernel) (by decide +kernel)
theorem t_770 : Cond.methodLink "BandPainterModel" 139 ⟨"BandPainterModel", "blacksOf", "(I)I"⟩ ∈ BIG := big_t 770 (by decide +kernel) (by decide +kernel)
theorem t_772 : Cond.instanceMethod ⟨"BandPainterModel", "blacksOf", "(I)I"⟩ ∈ BIG := big_t 772 (by decide +kernel) (by decide +kernel)
theorem t_773 : Cond.code ⟨"BandPainterModel", "blacksOf", "(I)I"⟩ prog_9_method_30_code 4 (some .int) ∈ BIG := big_t 773 (by decide +kernel) (by decide +kernel)
theorem t_774 : Cond.methodLink "BandPainterModel" 135 ⟨"BandPainterModel", "ones", "(J)I"⟩ ∈ BIG := big_t 774 (by decide +kernel) (by decide +kernel)
theorem t_775 : Cond.static ⟨"BandPainterModel", "ones", "(J)I"⟩ ∈ BIG := big_t 775 (by decide +kernel) (by decide +kernel)
theorem t_776 : Cond.code ⟨"BandPainterModel", "ones", "(J)I"⟩ prog_9_method_29_code 5 (some .int) ∈ BIG := big_t 776 (by decide +kernel) (by decide +kernel)
theorem t_777 : Cond.methodLink "BandPainterLaw" 103 ⟨"BandPainterModel", "top", "(I)I"⟩ ∈ BIG := big_t 777 (by decide +kernel) (by decide +kernel)
theorem t_778 : Cond.instanceMethod ⟨"BandPainterModel", "top", "(I)I"⟩ ∈ BIG := big_t 778 (by decide +kernel) (by decide +kernel)
theorem t_779 : Cond.selects "BandPainterModel" ⟨"BandPainterModel", "top", "(I)I"⟩ ⟨"BandPainterModel", "top", "(I)I"⟩ ∈ BIG := big_t 779 (by decide +kernel) (by decide +kernel)
theorem t_780 : Cond.code ⟨"BandPainterModel", "top", "(I)I"⟩ prog_9_method_32_code 3 (some .int) ∈ BIG := big_t 780 (by decide +kernel) (by decide +kernel)
theorem t_781 : Cond.methodLink "BandPainterLaw" 107 ⟨"BandPainterModel", "of", "(II)I"⟩ ∈ BIG := big_t 781 (by decide +kernel) (by decide +kernel)
theorem t_782 : Cond.instanceMethod ⟨"BandPainterModel", "of", "(II)I"⟩ ∈ BIG := big_t 782 (by decide +kernel) (by decide +kernel)
theorem t_783 : Cond.selects "BandPainterModel" ⟨"BandPainterModel", "of", "(II)I"⟩ ⟨"BandPainterModel", "of", "(II)I"⟩ ∈ BIG := big_t 783 (by decide +kernel) (by decide +kernel)
theorem t_784 : Cond.code ⟨"BandPainterModel", "of", "(II)I"⟩ prog_9_method_33_code 5 (some .int) ∈ BIG := big_t 784 (by decide +kernel) (by decide +kernel)
theorem t_785 : Cond.methodLink "BandPainterLaw" 111 ⟨"BandPainterModel", "look", "(I)I"⟩ ∈ BIG := big_t 785 (by decide +kernel) (by decide +kernel)
theorem t_786 : Cond.instanceMethod ⟨"BandPainterModel", "look", "(I)I"⟩ ∈ BIG := big_t 786 (by decide +kernel) (by decide +kernel)
theorem t_787 : Cond.selects "BandPainterModel" ⟨"BandPainterModel", "look", "(I)I"⟩ ⟨"BandPainterModel", "look", "(I)I"⟩ ∈ BIG := big_t 787 (by decide +kernel) (by decide +kernel)
theorem t_788 : Cond.code ⟨"BandPainterModel", "look", "(I)I"⟩ prog_9_method_34_code 2 (some .int) ∈ BIG := big_t 788 (by decide +kernel) (by decide +kernel)
theorem t_789 : Cond.constantLong "BandPainterLaw" 43 4294967295 ∈ BIG := big_t 789 (by decide +kernel) (by decide +kernel)
theorem ts_0 : Cond.selects "BandPainter" ⟨"BandPainter", "shapeOf", "(I)LBandPainter$Shape;"⟩ ⟨"BandPainter", "shapeOf", "(I)LBandPainter$Shape;"⟩ ∈ BIG := big_s 0 (by decide +kernel) (by decide +kernel)
theorem ts_1 : Cond.selects "BandPainter$Picture" ⟨"BandPainter$Picture", "setWord", "(IIJ)V"⟩ ⟨"BandPainter$Picture", "setWord", "(IIJ)V"⟩ ∈ BIG := big_s 1 (by decide +kernel) (by decide +kernel)
theorem ts_2 : Cond.selects "BandPainter$Picture" ⟨"BandPainter$Picture", "hasWord", "(II)Z"⟩ ⟨"BandPainter$Picture", "hasWord", "(II)Z"⟩ ∈ BIG := big_s 2 (by decide +kernel) (by decide +kernel)
theorem ts_3 : Cond.selects "BandPainter" ⟨"BandPainter", "canLayAt", "(II)Z"⟩ ⟨"BandPainter", "canLayAt", "(II)Z"⟩ ∈ BIG := big_s 3 (by decide +kernel) (by decide +kernel)
theorem ts_4 : Cond.selects "BandPainter$Picture" ⟨"BandPainter$Picture", "isBlack", "(II)Z"⟩ ⟨"BandPainter$Picture", "isBlack", "(II)Z"⟩ ∈ BIG := big_s 4 (by decide +kernel) (by decide +kernel)
theorem ts_5 : Cond.selects "BandPainter$Picture" ⟨"BandPainter$Picture", "wordAt", "(II)J"⟩ ⟨"BandPainter$Picture", "wordAt", "(II)J"⟩ ∈ BIG := big_s 5 (by decide +kernel) (by decide +kernel)
theorem ts_6 : Cond.selects "BandPainter$Picture" ⟨"BandPainter$Picture", "blackenTurned", "(III)V"⟩ ⟨"BandPainter$Picture", "blackenTurned", "(III)V"⟩ ∈ BIG := big_s 6 (by decide +kernel) (by decide +kernel)
theorem ts_7 : Cond.selects "BandPainter$Picture" ⟨"BandPainter$Picture", "blacken", "(II)V"⟩ ⟨"BandPainter$Picture", "blacken", "(II)V"⟩ ∈ BIG := big_s 7 (by decide +kernel) (by decide +kernel)
theorem ts_8 : Cond.selects "BandPainter" ⟨"BandPainter", "lay", "(LBandPainter$Picture;IIII)V"⟩ ⟨"BandPainter", "lay", "(LBandPainter$Picture;IIII)V"⟩ ∈ BIG := big_s 8 (by decide +kernel) (by decide +kernel)
theorem ts_9 : Cond.selects "BandPainter$Pile" ⟨"BandPainter$Pile", "stir", "(LBandPainter$Mark;)V"⟩ ⟨"BandPainter$Pile", "stir", "(LBandPainter$Mark;)V"⟩ ∈ BIG := big_s 9 (by decide +kernel) (by decide +kernel)
theorem ts_10 : Cond.selects "BandPainter$Pile" ⟨"BandPainter$Pile", "newestOnLine", "(I)LBandPainter$Mark;"⟩ ⟨"BandPainter$Pile", "newestOnLine", "(I)LBandPainter$Mark;"⟩ ∈ BIG := big_s 10 (by decide +kernel) (by decide +kernel)
theorem ts_11 : Cond.selects "BandPainter$Pile" ⟨"BandPainter$Pile", "isLikeAbove", "(I)Z"⟩ ⟨"BandPainter$Pile", "isLikeAbove", "(I)Z"⟩ ∈ BIG := big_s 11 (by decide +kernel) (by decide +kernel)
theorem ts_12 : Cond.selects "BandPainter$Pile" ⟨"BandPainter$Pile", "countedBlacks", "(I)I"⟩ ⟨"BandPainter$Pile", "countedBlacks", "(I)I"⟩ ∈ BIG := big_s 12 (by decide +kernel) (by decide +kernel)
theorem ts_14 : Cond.selects "BandPainterModel" ⟨"BandPainterModel", "isShape", "(I)Z"⟩ ⟨"BandPainterModel", "isShape", "(I)Z"⟩ ∈ BIG := big_s 14 (by decide +kernel) (by decide +kernel)
theorem ts_15 : Cond.selects "BandPainterModel" ⟨"BandPainterModel", "shapeDot", "(III)Z"⟩ ⟨"BandPainterModel", "shapeDot", "(III)Z"⟩ ∈ BIG := big_s 15 (by decide +kernel) (by decide +kernel)
theorem ts_16 : Cond.selects "BandPainterModel" ⟨"BandPainterModel", "lay", "(IIIIZ)V"⟩ ⟨"BandPainterModel", "lay", "(IIIIZ)V"⟩ ∈ BIG := big_s 16 (by decide +kernel) (by decide +kernel)
theorem ts_17 : Cond.selects "BandPainterModel" ⟨"BandPainterModel", "paint", "(IIZ)V"⟩ ⟨"BandPainterModel", "paint", "(IIZ)V"⟩ ∈ BIG := big_s 17 (by decide +kernel) (by decide +kernel)
theorem ts_18 : Cond.selects "BandPainterModel" ⟨"BandPainterModel", "isIn", "(II)Z"⟩ ⟨"BandPainterModel", "isIn", "(II)Z"⟩ ∈ BIG := big_s 18 (by decide +kernel) (by decide +kernel)
theorem ts_19 : Cond.selects "BandPainterModel" ⟨"BandPainterModel", "set", "(IIZ)V"⟩ ⟨"BandPainterModel", "set", "(IIZ)V"⟩ ∈ BIG := big_s 19 (by decide +kernel) (by decide +kernel)
theorem ts_20 : Cond.selects "BandPainterModel" ⟨"BandPainterModel", "isInk", "(II)Z"⟩ ⟨"BandPainterModel", "isInk", "(II)Z"⟩ ∈ BIG := big_s 20 (by decide +kernel) (by decide +kernel)
theorem ts_21 : Cond.selects "BandPainterModel" ⟨"BandPainterModel", "isBlack", "(II)Z"⟩ ⟨"BandPainterModel", "isBlack", "(II)Z"⟩ ∈ BIG := big_s 21 (by decide +kernel) (by decide +kernel)
theorem ts_22 : Cond.selects "BandPainterModel" ⟨"BandPainterModel", "blacksOf", "(I)I"⟩ ⟨"BandPainterModel", "blacksOf", "(I)I"⟩ ∈ BIG := big_s 22 (by decide +kernel) (by decide +kernel)
def T_BP : u_T := fun k => match k with
  | 0 => ("BandPainter", "width", "I", true)
  | 1 => ("BandPainter", "height", "I", true)
  | 2 => ("BandPainter", "band", "I", true)
  | 3 => ("BandPainter", "sheet", "LBandPainter$Box;", true)
  | 4 => ("BandPainter", "shapes", "[LBandPainter$Shape;", true)
  | 5 => ("BandPainter", "pile", "LBandPainter$Pile;", true)
  | 6 => ("BandPainter", "shapeCount", "I", false)
  | 7 => ("BandPainter", "shapeRows", "I", false)
  | 8 => ("BandPainter", "rowBytes", "I", false)
  | 9 => ("BandPainter", "ink", "LBandPainter$Ink;", false)
  | 10 => ("BandPainter", "sourceOpaque", "Z", false)
  | 11 => ("BandPainter", "inkOpaque", "Z", false)
  | 12 => ("BandPainter", "turn", "I", false)
  | _ => ("BandPainter", "clip", "LBandPainter$Box;", false)
def ty_BP : Nat → FieldType := fun k => match k with
  | 0 => .int
  | 1 => .int
  | 2 => .int
  | 3 => .object "BandPainter$Box"
  | 4 => .array (.object "BandPainter$Shape")
  | 5 => .object "BandPainter$Pile"
  | 6 => .int
  | 7 => .int
  | 8 => .int
  | 9 => .object "BandPainter$Ink"
  | 10 => .boolean
  | 11 => .boolean
  | 12 => .int
  | _ => .object "BandPainter$Box"
theorem nm_BP : ∀ a, a < 14 → ∀ b, b < 14 → a ≠ b → (T_BP a).2.1 ≠ (T_BP b).2.1 := by decide +kernel
theorem ty_BP_ok : ∀ k, k < 14 → parseFieldDescriptor (T_BP k).2.2.1 = some (ty_BP k) := by decide +kernel
theorem ws_BP : ∀ w ∈ u_ws "BandPainter" T_BP 14, w ∈ BIG := by
  intro w hw
  obtain ⟨k, hk, rfl⟩ := List.mem_map.mp hw
  have hk := List.mem_range.mp hk
  match k, hk with
  | 0, _ => exact t_129
  | 1, _ => exact t_131
  | 2, _ => exact t_133
  | 3, _ => exact t_135
  | 4, _ => exact t_137
  | 5, _ => exact t_139
  | 6, _ => exact t_141
  | 7, _ => exact t_143
  | 8, _ => exact t_145
  | 9, _ => exact t_147
  | 10, _ => exact t_149
  | 11, _ => exact t_151
  | 12, _ => exact t_153
  | 13, _ => exact t_155
  | k + 14, hk => exact absurd hk (by omega)
def T_Bx : u_T := fun k => match k with
  | 0 => ("BandPainter$Box", "x0", "I", true)
  | 1 => ("BandPainter$Box", "y0", "I", true)
  | 2 => ("BandPainter$Box", "x1", "I", true)
  | _ => ("BandPainter$Box", "y1", "I", true)
def ty_Bx : Nat → FieldType := fun k => match k with
  | 0 => .int
  | 1 => .int
  | 2 => .int
  | _ => .int
theorem nm_Bx : ∀ a, a < 4 → ∀ b, b < 4 → a ≠ b → (T_Bx a).2.1 ≠ (T_Bx b).2.1 := by decide +kernel
theorem ty_Bx_ok : ∀ k, k < 4 → parseFieldDescriptor (T_Bx k).2.2.1 = some (ty_Bx k) := by decide +kernel
theorem ws_Bx : ∀ w ∈ u_ws "BandPainter$Box" T_Bx 4, w ∈ BIG := by
  intro w hw
  obtain ⟨k, hk, rfl⟩ := List.mem_map.mp hw
  have hk := List.mem_range.mp hk
  match k, hk with
  | 0, _ => exact t_49
  | 1, _ => exact t_51
  | 2, _ => exact t_53
  | 3, _ => exact t_55
  | k + 4, hk => exact absurd hk (by omega)
def T_In : u_T := fun k => match k with
  | 0 => ("BandPainter$Ink", "kind", "I", true)
  | 1 => ("BandPainter$Ink", "value", "I", true)
  | _ => ("BandPainter$Ink", "lines", "[J", true)
def ty_In : Nat → FieldType := fun k => match k with
  | 0 => .int
  | 1 => .int
  | _ => .array .long
theorem nm_In : ∀ a, a < 3 → ∀ b, b < 3 → a ≠ b → (T_In a).2.1 ≠ (T_In b).2.1 := by decide +kernel
theorem ty_In_ok : ∀ k, k < 3 → parseFieldDescriptor (T_In k).2.2.1 = some (ty_In k) := by decide +kernel
theorem ws_In : ∀ w ∈ u_ws "BandPainter$Ink" T_In 3, w ∈ BIG := by
  intro w hw
  obtain ⟨k, hk, rfl⟩ := List.mem_map.mp hw
  have hk := List.mem_range.mp hk
  match k, hk with
  | 0, _ => exact t_107
  | 1, _ => exact t_109
  | 2, _ => exact t_111
  | k + 3, hk => exact absurd hk (by omega)
def T_Mk : u_T := fun k => match k with
  | 0 => ("BandPainter$Mark", "picture", "LBandPainter$Picture;", true)
  | 1 => ("BandPainter$Mark", "left", "I", true)
  | 2 => ("BandPainter$Mark", "top", "I", true)
  | 3 => ("BandPainter$Mark", "part", "LBandPainter$Box;", true)
  | 4 => ("BandPainter$Mark", "ink", "LBandPainter$Ink;", true)
  | 5 => ("BandPainter$Mark", "sourceOpaque", "Z", true)
  | 6 => ("BandPainter$Mark", "inkOpaque", "Z", true)
  | 7 => ("BandPainter$Mark", "below", "LBandPainter$Mark;", false)
  | _ => ("BandPainter$Mark", "belowOnLine", "LBandPainter$Mark;", false)
def ty_Mk : Nat → FieldType := fun k => match k with
  | 0 => .object "BandPainter$Picture"
  | 1 => .int
  | 2 => .int
  | 3 => .object "BandPainter$Box"
  | 4 => .object "BandPainter$Ink"
  | 5 => .boolean
  | 6 => .boolean
  | 7 => .object "BandPainter$Mark"
  | _ => .object "BandPainter$Mark"
theorem nm_Mk : ∀ a, a < 9 → ∀ b, b < 9 → a ≠ b → (T_Mk a).2.1 ≠ (T_Mk b).2.1 := by decide +kernel
theorem ty_Mk_ok : ∀ k, k < 9 → parseFieldDescriptor (T_Mk k).2.2.1 = some (ty_Mk k) := by decide +kernel
theorem ws_Mk : ∀ w ∈ u_ws "BandPainter$Mark" T_Mk 9, w ∈ BIG := by
  intro w hw
  obtain ⟨k, hk, rfl⟩ := List.mem_map.mp hw
  have hk := List.mem_range.mp hk
  match k, hk with
  | 0, _ => exact t_302
  | 1, _ => exact t_304
  | 2, _ => exact t_306
  | 3, _ => exact t_308
  | 4, _ => exact t_310
  | 5, _ => exact t_312
  | 6, _ => exact t_314
  | 7, _ => exact t_316
  | 8, _ => exact t_318
  | k + 9, hk => exact absurd hk (by omega)
def T_Pc : u_T := fun k => match k with
  | 0 => ("BandPainter$Picture", "across", "I", true)
  | 1 => ("BandPainter$Picture", "down", "I", true)
  | 2 => ("BandPainter$Picture", "tall", "I", true)
  | 3 => ("BandPainter$Picture", "words", "I", true)
  | _ => ("BandPainter$Picture", "bits", "[J", true)
def ty_Pc : Nat → FieldType := fun k => match k with
  | 0 => .int
  | 1 => .int
  | 2 => .int
  | 3 => .int
  | _ => .array .long
theorem nm_Pc : ∀ a, a < 5 → ∀ b, b < 5 → a ≠ b → (T_Pc a).2.1 ≠ (T_Pc b).2.1 := by decide +kernel
theorem ty_Pc_ok : ∀ k, k < 5 → parseFieldDescriptor (T_Pc k).2.2.1 = some (ty_Pc k) := by decide +kernel
theorem ws_Pc : ∀ w ∈ u_ws "BandPainter$Picture" T_Pc 5, w ∈ BIG := by
  intro w hw
  obtain ⟨k, hk, rfl⟩ := List.mem_map.mp hw
  have hk := List.mem_range.mp hk
  match k, hk with
  | 0, _ => exact t_248
  | 1, _ => exact t_250
  | 2, _ => exact t_252
  | 3, _ => exact t_254
  | 4, _ => exact t_256
  | k + 5, hk => exact absurd hk (by omega)
def T_Pl : u_T := fun k => match k with
  | 0 => ("BandPainter$Pile", "lines", "I", true)
  | 1 => ("BandPainter$Pile", "blacks", "[I", true)
  | 2 => ("BandPainter$Pile", "stirred", "[Z", true)
  | 3 => ("BandPainter$Pile", "size", "I", false)
  | _ => ("BandPainter$Pile", "newest", "LBandPainter$Mark;", false)
def ty_Pl : Nat → FieldType := fun k => match k with
  | 0 => .int
  | 1 => .array .int
  | 2 => .array .boolean
  | 3 => .int
  | _ => .object "BandPainter$Mark"
theorem nm_Pl : ∀ a, a < 5 → ∀ b, b < 5 → a ≠ b → (T_Pl a).2.1 ≠ (T_Pl b).2.1 := by decide +kernel
theorem ty_Pl_ok : ∀ k, k < 5 → parseFieldDescriptor (T_Pl k).2.2.1 = some (ty_Pl k) := by decide +kernel
theorem ws_Pl : ∀ w ∈ u_ws "BandPainter$Pile" T_Pl 5, w ∈ BIG := by
  intro w hw
  obtain ⟨k, hk, rfl⟩ := List.mem_map.mp hw
  have hk := List.mem_range.mp hk
  match k, hk with
  | 0, _ => exact t_72
  | 1, _ => exact t_74
  | 2, _ => exact t_76
  | 3, _ => exact t_78
  | 4, _ => exact t_80
  | k + 5, hk => exact absurd hk (by omega)
def T_Sh : u_T := fun k => match k with
  | 0 => ("BandPainter$Shape", "upright", "LBandPainter$Picture;", true)
  | 1 => ("BandPainter$Shape", "turned", "[LBandPainter$Picture;", true)
  | _ => ("BandPainter$Shape", "stamped", "Z", false)
def ty_Sh : Nat → FieldType := fun k => match k with
  | 0 => .object "BandPainter$Picture"
  | 1 => .array (.object "BandPainter$Picture")
  | _ => .boolean
theorem nm_Sh : ∀ a, a < 3 → ∀ b, b < 3 → a ≠ b → (T_Sh a).2.1 ≠ (T_Sh b).2.1 := by decide +kernel
theorem ty_Sh_ok : ∀ k, k < 3 → parseFieldDescriptor (T_Sh k).2.2.1 = some (ty_Sh k) := by decide +kernel
theorem ws_Sh : ∀ w ∈ u_ws "BandPainter$Shape" T_Sh 3, w ∈ BIG := by
  intro w hw
  obtain ⟨k, hk, rfl⟩ := List.mem_map.mp hw
  have hk := List.mem_range.mp hk
  match k, hk with
  | 0, _ => exact t_554
  | 1, _ => exact t_556
  | 2, _ => exact t_558
  | k + 3, hk => exact absurd hk (by omega)
def T_Mo : u_T := fun k => match k with
  | 0 => ("BandPainterModel", "thrown", "I", false)
  | 1 => ("BandPainterModel", "wide", "I", true)
  | 2 => ("BandPainterModel", "high", "I", true)
  | 3 => ("BandPainterModel", "band", "I", true)
  | 4 => ("BandPainterModel", "sheet", "[J", true)
  | 5 => ("BandPainterModel", "shapes", "I", false)
  | 6 => ("BandPainterModel", "across", "[I", true)
  | 7 => ("BandPainterModel", "down", "[I", true)
  | 8 => ("BandPainterModel", "firstRow", "[I", true)
  | 9 => ("BandPainterModel", "stamped", "[Z", true)
  | 10 => ("BandPainterModel", "rows", "I", false)
  | 11 => ("BandPainterModel", "dots", "[J", true)
  | 12 => ("BandPainterModel", "marks", "I", false)
  | 13 => ("BandPainterModel", "bytes", "I", false)
  | 14 => ("BandPainterModel", "inkKind", "I", false)
  | 15 => ("BandPainterModel", "inkValue", "I", false)
  | 16 => ("BandPainterModel", "sourceOpaque", "Z", false)
  | 17 => ("BandPainterModel", "inkOpaque", "Z", false)
  | 18 => ("BandPainterModel", "turn", "I", false)
  | 19 => ("BandPainterModel", "clipLeft", "I", false)
  | 20 => ("BandPainterModel", "clipTop", "I", false)
  | 21 => ("BandPainterModel", "clipRight", "I", false)
  | _ => ("BandPainterModel", "clipBottom", "I", false)
def ty_Mo : Nat → FieldType := fun k => match k with
  | 0 => .int
  | 1 => .int
  | 2 => .int
  | 3 => .int
  | 4 => .array .long
  | 5 => .int
  | 6 => .array .int
  | 7 => .array .int
  | 8 => .array .int
  | 9 => .array .boolean
  | 10 => .int
  | 11 => .array .long
  | 12 => .int
  | 13 => .int
  | 14 => .int
  | 15 => .int
  | 16 => .boolean
  | 17 => .boolean
  | 18 => .int
  | 19 => .int
  | 20 => .int
  | 21 => .int
  | _ => .int
theorem nm_Mo : ∀ a, a < 23 → ∀ b, b < 23 → a ≠ b → (T_Mo a).2.1 ≠ (T_Mo b).2.1 := by decide +kernel
theorem ty_Mo_ok : ∀ k, k < 23 → parseFieldDescriptor (T_Mo k).2.2.1 = some (ty_Mo k) := by decide +kernel
theorem ws_Mo : ∀ w ∈ u_ws "BandPainterModel" T_Mo 23, w ∈ BIG := by
  intro w hw
  obtain ⟨k, hk, rfl⟩ := List.mem_map.mp hw
  have hk := List.mem_range.mp hk
  match k, hk with
  | 0, _ => exact t_615
  | 1, _ => exact t_617
  | 2, _ => exact t_619
  | 3, _ => exact t_621
  | 4, _ => exact t_623
  | 5, _ => exact t_625
  | 6, _ => exact t_627
  | 7, _ => exact t_629
  | 8, _ => exact t_631
  | 9, _ => exact t_633
  | 10, _ => exact t_635
  | 11, _ => exact t_637
  | 12, _ => exact t_639
  | 13, _ => exact t_641
  | 14, _ => exact t_643
  | 15, _ => exact t_645
  | 16, _ => exact t_647
  | 17, _ => exact t_649
  | 18, _ => exact t_651
  | 19, _ => exact t_653
  | 20, _ => exact t_655
  | 21, _ => exact t_657
  | 22, _ => exact t_659
  | k + 23, hk => exact absurd hk (by omega)
abbrev vcl : List vw_C := [("BandPainter", T_BP, 14), ("BandPainter$Box", T_Bx, 4), ("BandPainter$Ink", T_In, 3), ("BandPainter$Mark", T_Mk, 9), ("BandPainter$Picture", T_Pc, 5), ("BandPainter$Pile", T_Pl, 5), ("BandPainter$Shape", T_Sh, 3), ("BandPainterModel", T_Mo, 23)]
abbrev vnl : List (String × Nat × MethodName × String) := [("BandPainter$Picture", 34, ⟨"BandPainter", "firstDots", "(I)J"⟩, "BandPainter"), ("BandPainter$Ink", 26, ⟨"BandPainter", "isWithin", "(III)Z"⟩, "BandPainter"), ("BandPainter$Shape", 28, ⟨"BandPainter", "isWithin", "(III)Z"⟩, "BandPainter"), ("BandPainter$Pile", 74, ⟨"BandPainter", "isWithin", "(III)Z"⟩, "BandPainter"), ("BandPainter$Box", 36, ⟨"BandPainter", "firstDots", "(I)J"⟩, "BandPainter")]
abbrev vao : List String := ["BandPainter$Shape", "BandPainter$Picture"]
/-- the classes, by what numbers the machine gave them -/
abbrev gg (dC : Nat → ClassId) (dI : Nat → Nat → Nat) (cA : Nat → ClassId) : hp_G := ((dC, dI), vcl, [(cA 0, .int), (cA 1, .long), (cA 2, .boolean), (cA 3, .object "BandPainter$Shape"), (cA 4, .object "BandPainter$Picture")], vnl, vao)
theorem vC : hp_C BIG vcl := by
  intro ci C T N h
  match ci, h with
  | 0, h => cases h; exact ⟨ws_BP, ⟨ty_BP, ty_BP_ok⟩, nm_BP⟩
  | 1, h => cases h; exact ⟨ws_Bx, ⟨ty_Bx, ty_Bx_ok⟩, nm_Bx⟩
  | 2, h => cases h; exact ⟨ws_In, ⟨ty_In, ty_In_ok⟩, nm_In⟩
  | 3, h => cases h; exact ⟨ws_Mk, ⟨ty_Mk, ty_Mk_ok⟩, nm_Mk⟩
  | 4, h => cases h; exact ⟨ws_Pc, ⟨ty_Pc, ty_Pc_ok⟩, nm_Pc⟩
  | 5, h => cases h; exact ⟨ws_Pl, ⟨ty_Pl, ty_Pl_ok⟩, nm_Pl⟩
  | 6, h => cases h; exact ⟨ws_Sh, ⟨ty_Sh, ty_Sh_ok⟩, nm_Sh⟩
  | 7, h => cases h; exact ⟨ws_Mo, ⟨ty_Mo, ty_Mo_ok⟩, nm_Mo⟩
  | k + 8, h => simp at h
theorem zz {dC : Nat → ClassId} {dI : Nat → Nat → Nat} {cA : Nat → ClassId} : hp_Z BIG (gg dC dI cA) := ⟨vC, fun w hw => good_of_word (List.mem_filter.mp hw).2⟩
abbrev e0_BP : List Value := [.int 0, .int 0, .int 0, .null, .null, .null, .int 0, .int 0, .int 0, .null, .int 0, .int 0, .int 0, .null]
theorem e0_BP_ok : ∀ j, j < 14 → (parseFieldDescriptor (T_BP j).2.2.1).map defaultValue = some (vp_V e0_BP j) := by
  intro j hj
  rw [ty_BP_ok j hj]
  match j, hj with
  | 0, _ => rfl
  | 1, _ => rfl
  | 2, _ => rfl
  | 3, _ => rfl
  | 4, _ => rfl
  | 5, _ => rfl
  | 6, _ => rfl
  | 7, _ => rfl
  | 8, _ => rfl
  | 9, _ => rfl
  | 10, _ => rfl
  | 11, _ => rfl
  | 12, _ => rfl
  | 13, _ => rfl
  | k + 14, hj => exact absurd hj (by omega)
abbrev e0_Bx : List Value := [.int 0, .int 0, .int 0, .int 0]
theorem e0_Bx_ok : ∀ j, j < 4 → (parseFieldDescriptor (T_Bx j).2.2.1).map defaultValue = some (vp_V e0_Bx j) := by
  intro j hj
  rw [ty_Bx_ok j hj]
  match j, hj with
  | 0, _ => rfl
  | 1, _ => rfl
  | 2, _ => rfl
  | 3, _ => rfl
  | k + 4, hj => exact absurd hj (by omega)
abbrev e0_In : List Value := [.int 0, .int 0, .null]
theorem e0_In_ok : ∀ j, j < 3 → (parseFieldDescriptor (T_In j).2.2.1).map defaultValue = some (vp_V e0_In j) := by
  intro j hj
  rw [ty_In_ok j hj]
  match j, hj with
  | 0, _ => rfl
  | 1, _ => rfl
  | 2, _ => rfl
  | k + 3, hj => exact absurd hj (by omega)
abbrev e0_Mk : List Value := [.null, .int 0, .int 0, .null, .null, .int 0, .int 0, .null, .null]
theorem e0_Mk_ok : ∀ j, j < 9 → (parseFieldDescriptor (T_Mk j).2.2.1).map defaultValue = some (vp_V e0_Mk j) := by
  intro j hj
  rw [ty_Mk_ok j hj]
  match j, hj with
  | 0, _ => rfl
  | 1, _ => rfl
  | 2, _ => rfl
  | 3, _ => rfl
  | 4, _ => rfl
  | 5, _ => rfl
  | 6, _ => rfl
  | 7, _ => rfl
  | 8, _ => rfl
  | k + 9, hj => exact absurd hj (by omega)
abbrev e0_Pc : List Value := [.int 0, .int 0, .int 0, .int 0, .null]
theorem e0_Pc_ok : ∀ j, j < 5 → (parseFieldDescriptor (T_Pc j).2.2.1).map defaultValue = some (vp_V e0_Pc j) := by
  intro j hj
  rw [ty_Pc_ok j hj]
  match j, hj with
  | 0, _ => rfl
  | 1, _ => rfl
  | 2, _ => rfl
  | 3, _ => rfl
  | 4, _ => rfl
  | k + 5, hj => exact absurd hj (by omega)
abbrev e0_Pl : List Value := [.int 0, .null, .null, .int 0, .null]
theorem e0_Pl_ok : ∀ j, j < 5 → (parseFieldDescriptor (T_Pl j).2.2.1).map defaultValue = some (vp_V e0_Pl j) := by
  intro j hj
  rw [ty_Pl_ok j hj]
  match j, hj with
  | 0, _ => rfl
  | 1, _ => rfl
  | 2, _ => rfl
  | 3, _ => rfl
  | 4, _ => rfl
  | k + 5, hj => exact absurd hj (by omega)
abbrev e0_Sh : List Value := [.null, .null, .int 0]
theorem e0_Sh_ok : ∀ j, j < 3 → (parseFieldDescriptor (T_Sh j).2.2.1).map defaultValue = some (vp_V e0_Sh j) := by
  intro j hj
  rw [ty_Sh_ok j hj]
  match j, hj with
  | 0, _ => rfl
  | 1, _ => rfl
  | 2, _ => rfl
  | k + 3, hj => exact absurd hj (by omega)
abbrev e0_Mo : List Value := [.int 0, .int 0, .int 0, .int 0, .null, .int 0, .null, .null, .null, .null, .int 0, .null, .int 0, .int 0, .int 0, .int 0, .int 0, .int 0, .int 0, .int 0, .int 0, .int 0, .int 0]
theorem e0_Mo_ok : ∀ j, j < 23 → (parseFieldDescriptor (T_Mo j).2.2.1).map defaultValue = some (vp_V e0_Mo j) := by
  intro j hj
  rw [ty_Mo_ok j hj]
  match j, hj with
  | 0, _ => rfl
  | 1, _ => rfl
  | 2, _ => rfl
  | 3, _ => rfl
  | 4, _ => rfl
  | 5, _ => rfl
  | 6, _ => rfl
  | 7, _ => rfl
  | 8, _ => rfl
  | 9, _ => rfl
  | 10, _ => rfl
  | 11, _ => rfl
  | 12, _ => rfl
  | 13, _ => rfl
  | 14, _ => rfl
  | 15, _ => rfl
  | 16, _ => rfl
  | 17, _ => rfl
  | 18, _ => rfl
  | 19, _ => rfl
  | 20, _ => rfl
  | 21, _ => rfl
  | 22, _ => rfl
  | k + 23, hj => exact absurd hj (by omega)
theorem l_BP_1 : Cond.methodLink "BandPainter" 1 Lib.objectInit ∈ BIG ∧ Cond.instanceMethod Lib.objectInit ∈ BIG ∧ Cond.code Lib.objectInit ⟨#[0xb1]⟩ 1 none ∈ BIG := ⟨t_23, t_24, t_25⟩
theorem l_BP_9 : hp_lS BIG "BandPainter" 9 ⟨"BandPainter", "within", "(III)I"⟩ prog_1_method_22_code 3 (some .int) 3 := ⟨t_26, t_27, t_1, t_28, ⟨by decide +kernel, by decide +kernel, by decide +kernel⟩⟩
theorem fp_BP_13 : hp_fp BIG vcl "BandPainter" 13 0 0 .int true := ⟨_, _, _, rfl, by decide, t_115, rfl, by decide +kernel, rfl⟩
theorem fp_BP_17 : hp_fp BIG vcl "BandPainter" 17 0 1 .int true := ⟨_, _, _, rfl, by decide, t_116, rfl, by decide +kernel, rfl⟩
theorem f_BP_17 : hp_f BIG vcl "BandPainter" 17 0 1 := ⟨_, _, _, rfl, by decide, t_116⟩
theorem fp_BP_20 : hp_fp BIG vcl "BandPainter" 20 0 2 .int true := ⟨_, _, _, rfl, by decide, t_117, rfl, by decide +kernel, rfl⟩
theorem n_BP_23 : Cond.classLink "BandPainter" 23 "BandPainter$Box" ∈ BIG ∧ Cond.instantiable "BandPainter$Box" 4 ∈ BIG ∧ Cond.initialized "BandPainter$Box" ∈ BIG := ⟨t_35, t_36, t_3⟩
theorem f_BP_13 : hp_f BIG vcl "BandPainter" 13 0 0 := ⟨_, _, _, rfl, by decide, t_115⟩
theorem l_BP_25 : hp_lI BIG "BandPainter" 25 ⟨"BandPainter$Box", "<init>", "(IIII)V"⟩ prog_2_method_1_code 5 4 := ⟨t_37, t_38, t_3, t_39, rfl, ⟨by decide +kernel, by decide +kernel, by decide +kernel⟩⟩
theorem fp_BP_28 : hp_fp BIG vcl "BandPainter" 28 0 3 (.object "BandPainter$Box") true := ⟨_, _, _, rfl, by decide, t_118, rfl, by decide +kernel, rfl⟩
theorem fp_BP_34 : hp_fp BIG vcl "BandPainter" 34 0 4 (.array (.object "BandPainter$Shape")) true := ⟨_, _, _, rfl, by decide, t_119, rfl, by decide +kernel, rfl⟩
theorem n_BP_38 : Cond.classLink "BandPainter" 38 "BandPainter$Pile" ∈ BIG ∧ Cond.instantiable "BandPainter$Pile" 5 ∈ BIG ∧ Cond.initialized "BandPainter$Pile" ∈ BIG := ⟨t_60, t_61, t_4⟩
theorem l_BP_40 : hp_lI BIG "BandPainter" 40 ⟨"BandPainter$Pile", "<init>", "(I)V"⟩ prog_6_method_1_code 2 1 := ⟨t_62, t_63, t_4, t_64, rfl, ⟨by decide +kernel, by decide +kernel, by decide +kernel⟩⟩
theorem fp_BP_43 : hp_fp BIG vcl "BandPainter" 43 0 5 (.object "BandPainter$Pile") true := ⟨_, _, _, rfl, by decide, t_120, rfl, by decide +kernel, rfl⟩
theorem n_BP_47 : Cond.classLink "BandPainter" 47 "BandPainter$Ink" ∈ BIG ∧ Cond.instantiable "BandPainter$Ink" 3 ∈ BIG ∧ Cond.initialized "BandPainter$Ink" ∈ BIG := ⟨t_85, t_86, t_5⟩
theorem l_BP_49 : hp_lI BIG "BandPainter" 49 ⟨"BandPainter$Ink", "<init>", "(II)V"⟩ prog_3_method_1_code 4 2 := ⟨t_87, t_88, t_5, t_89, rfl, ⟨by decide +kernel, by decide +kernel, by decide +kernel⟩⟩
theorem fp_BP_52 : hp_fp BIG vcl "BandPainter" 52 0 9 (.object "BandPainter$Ink") false := ⟨_, _, _, rfl, by decide, t_124, rfl, by decide +kernel, rfl⟩
theorem f_BP_28 : hp_f BIG vcl "BandPainter" 28 0 3 := ⟨_, _, _, rfl, by decide, t_118⟩
theorem fp_BP_56 : hp_fp BIG vcl "BandPainter" 56 0 13 (.object "BandPainter$Box") false := ⟨_, _, _, rfl, by decide, t_128, rfl, by decide +kernel, rfl⟩
theorem l_BP_59 : hp_lS BIG "BandPainter" 59 ⟨"BandPainter", "isWithin", "(III)Z"⟩ prog_1_method_21_code 3 (some .boolean) 3 := ⟨t_166, t_167, t_1, t_168, ⟨by decide +kernel, by decide +kernel, by decide +kernel⟩⟩
theorem f_BP_70 : hp_f BIG vcl "BandPainter" 70 0 6 := ⟨_, _, _, rfl, by decide, t_121⟩
theorem f_BP_73 : hp_f BIG vcl "BandPainter" 73 0 7 := ⟨_, _, _, rfl, by decide, t_122⟩
theorem f_BP_34 : hp_f BIG vcl "BandPainter" 34 0 4 := ⟨_, _, _, rfl, by decide, t_119⟩
theorem n_BP_32 : Cond.classLink "BandPainter" 32 "BandPainter$Shape" ∈ BIG ∧ Cond.instantiable "BandPainter$Shape" 3 ∈ BIG ∧ Cond.initialized "BandPainter$Shape" ∈ BIG := ⟨t_58, t_542, t_12⟩
theorem l_BP_81 : hp_lI BIG "BandPainter" 81 ⟨"BandPainter$Shape", "<init>", "(II)V"⟩ prog_7_method_1_code 3 2 := ⟨t_543, t_544, t_12, t_545, rfl, ⟨by decide +kernel, by decide +kernel, by decide +kernel⟩⟩
theorem fp_BP_70 : hp_fp BIG vcl "BandPainter" 70 0 6 .int false := ⟨_, _, _, rfl, by decide, t_121, rfl, by decide +kernel, rfl⟩
theorem fp_BP_73 : hp_fp BIG vcl "BandPainter" 73 0 7 .int false := ⟨_, _, _, rfl, by decide, t_122, rfl, by decide +kernel, rfl⟩
theorem l_BP_82 : hp_lV BIG "BandPainter" 82 ⟨"BandPainter", "shapeOf", "(I)LBandPainter$Shape;"⟩ prog_1_method_18_code 2 (some (.object "BandPainter$Shape")) 1 := ⟨t_162, t_164, ts_0, t_1, t_165, ⟨by decide +kernel, by decide +kernel, by decide +kernel⟩⟩
theorem f_BP_86 : hp_f BIG vcl "BandPainter" 86 6 2 := ⟨_, _, _, rfl, by decide, t_553⟩
theorem f_BP_90 : hp_f BIG vcl "BandPainter" 90 6 0 := ⟨_, _, _, rfl, by decide, t_551⟩
theorem f_BP_94 : hp_f BIG vcl "BandPainter" 94 4 1 := ⟨_, _, _, rfl, by decide, t_244⟩
theorem l_BP_99 : hp_lV BIG "BandPainter" 99 ⟨"BandPainter$Shape", "redraw", "(IJJ)V"⟩ prog_7_method_2_code 7 none 3 := ⟨t_169, t_170, t_171, t_12, t_172, ⟨by decide +kernel, by decide +kernel, by decide +kernel⟩⟩
theorem l_BP_103 : hp_lS BIG "BandPainter" 103 ⟨"BandPainter$Ink", "exists", "(II)Z"⟩ prog_3_method_2_code 2 (some .boolean) 2 := ⟨t_194, t_195, t_5, t_196, ⟨by decide +kernel, by decide +kernel, by decide +kernel⟩⟩
theorem fp_BP_107 : hp_fp BIG vcl "BandPainter" 107 0 10 .boolean false := ⟨_, _, _, rfl, by decide, t_125, rfl, by decide +kernel, rfl⟩
theorem fp_BP_110 : hp_fp BIG vcl "BandPainter" 110 0 11 .boolean false := ⟨_, _, _, rfl, by decide, t_126, rfl, by decide +kernel, rfl⟩
theorem fp_BP_113 : hp_fp BIG vcl "BandPainter" 113 0 12 .int false := ⟨_, _, _, rfl, by decide, t_127, rfl, by decide +kernel, rfl⟩
theorem l_BP_116 : hp_lV BIG "BandPainter" 116 ⟨"BandPainter$Box", "common", "(LBandPainter$Box;)LBandPainter$Box;"⟩ prog_2_method_2_code 2 (some (.object "BandPainter$Box")) 1 := ⟨t_210, t_211, t_212, t_3, t_213, ⟨by decide +kernel, by decide +kernel, by decide +kernel⟩⟩
theorem l_BP_120 : hp_lV BIG "BandPainter" 120 ⟨"BandPainter", "canLayAt", "(II)Z"⟩ prog_1_method_19_code 3 (some .boolean) 2 := ⟨t_222, t_224, ts_3, t_1, t_225, ⟨by decide +kernel, by decide +kernel, by decide +kernel⟩⟩
theorem fp_BP_86 : hp_fp BIG vcl "BandPainter" 86 6 2 .boolean false := ⟨_, _, _, rfl, by decide, t_553, rfl, by decide +kernel, rfl⟩
theorem f_BP_113 : hp_f BIG vcl "BandPainter" 113 0 12 := ⟨_, _, _, rfl, by decide, t_127⟩
theorem l_BP_123 : hp_lV BIG "BandPainter" 123 ⟨"BandPainter$Shape", "turnedBy", "(I)LBandPainter$Picture;"⟩ prog_7_method_3_code 2 (some (.object "BandPainter$Picture")) 1 := ⟨t_226, t_227, t_228, t_12, t_229, ⟨by decide +kernel, by decide +kernel, by decide +kernel⟩⟩
theorem f_BP_127 : hp_f BIG vcl "BandPainter" 127 4 0 := ⟨_, _, _, rfl, by decide, t_242⟩
theorem l_BP_130 : hp_lV BIG "BandPainter" 130 ⟨"BandPainter", "lay", "(LBandPainter$Picture;IIII)V"⟩ prog_1_method_20_code 12 none 5 := ⟨t_276, t_278, ts_8, t_1, t_279, ⟨by decide +kernel, by decide +kernel, by decide +kernel⟩⟩
theorem f_BP_134 : hp_f BIG vcl "BandPainter" 134 0 8 := ⟨_, _, _, rfl, by decide, t_123⟩
theorem fp_BP_134 : hp_fp BIG vcl "BandPainter" 134 0 8 .int false := ⟨_, _, _, rfl, by decide, t_123, rfl, by decide +kernel, rfl⟩
theorem n_BP_95 : Cond.classLink "BandPainter" 95 "BandPainter$Picture" ∈ BIG ∧ Cond.instantiable "BandPainter$Picture" 5 ∈ BIG ∧ Cond.initialized "BandPainter$Picture" ∈ BIG := ⟨t_345, t_184, t_13⟩
theorem l_BP_138 : hp_lI BIG "BandPainter" 138 ⟨"BandPainter$Picture", "<init>", "(III)V"⟩ prog_5_method_1_code 4 3 := ⟨t_346, t_237, t_13, t_238, rfl, ⟨by decide +kernel, by decide +kernel, by decide +kernel⟩⟩
theorem l_BP_141 : hp_lV BIG "BandPainter" 141 ⟨"BandPainter$Picture", "setDots", "(IJJ)V"⟩ prog_5_method_2_code 6 none 3 := ⟨t_347, t_174, t_175, t_13, t_176, ⟨by decide +kernel, by decide +kernel, by decide +kernel⟩⟩
theorem l_BP_144 : hp_lV BIG "BandPainter" 144 ⟨"BandPainter$Picture", "turnedBy", "(I)LBandPainter$Picture;"⟩ prog_5_method_5_code 5 (some (.object "BandPainter$Picture")) 1 := ⟨t_348, t_232, t_233, t_13, t_234, ⟨by decide +kernel, by decide +kernel, by decide +kernel⟩⟩
theorem l_BP_145 : hp_lV BIG "BandPainter" 145 ⟨"BandPainter$Picture", "enlarged", "(I)LBandPainter$Picture;"⟩ prog_5_method_6_code 5 (some (.object "BandPainter$Picture")) 1 := ⟨t_349, t_350, t_351, t_13, t_352, ⟨by decide +kernel, by decide +kernel, by decide +kernel⟩⟩
theorem f_BP_43 : hp_f BIG vcl "BandPainter" 43 0 5 := ⟨_, _, _, rfl, by decide, t_120⟩
theorem l_BP_148 : hp_lV BIG "BandPainter" 148 ⟨"BandPainter$Pile", "clear", "()V"⟩ prog_6_method_2_code 2 none 0 := ⟨t_357, t_358, t_359, t_4, t_360, ⟨by decide +kernel, by decide +kernel, by decide +kernel⟩⟩
theorem l_BP_151 : hp_lV BIG "BandPainter" 151 ⟨"BandPainter$Pile", "wordOf", "(II)J"⟩ prog_6_method_5_code 3 (some .long) 2 := ⟨t_368, t_369, t_370, t_4, t_371, ⟨by decide +kernel, by decide +kernel, by decide +kernel⟩⟩
theorem l_BP_162 : Cond.methodLink "BandPainter" 162 Lib.Math.min.name ∈ BIG ∧ Cond.static Lib.Math.min.name ∈ BIG ∧ Cond.initialized "java/lang/Math" ∈ BIG ∧ Cond.code Lib.Math.min.name Lib.Math.min.code 2 (some .int) ∈ BIG := ⟨t_29, t_30, t_2, t_31⟩
theorem l_BP_168 : Cond.methodLink "BandPainter" 168 Lib.Math.max.name ∈ BIG ∧ Cond.static Lib.Math.max.name ∈ BIG ∧ Cond.initialized "java/lang/Math" ∈ BIG ∧ Cond.code Lib.Math.max.name Lib.Math.max.code 2 (some .int) ∈ BIG := ⟨t_32, t_33, t_2, t_34⟩
theorem l_BP_171 : hp_lV BIG "BandPainter" 171 ⟨"BandPainter$Pile", "blacksOf", "(I)I"⟩ prog_6_method_6_code 3 (some .int) 1 := ⟨t_408, t_409, t_410, t_4, t_411, ⟨by decide +kernel, by decide +kernel, by decide +kernel⟩⟩
theorem l_BP_175 : hp_lV BIG "BandPainter" 175 ⟨"BandPainter$Picture", "blacks", "()I"⟩ prog_5_method_3_code 3 (some .int) 0 := ⟨t_434, t_435, t_436, t_13, t_437, ⟨by decide +kernel, by decide +kernel, by decide +kernel⟩⟩
theorem l_BP_179 : hp_lS BIG "BandPainter" 179 ⟨"BandPainter", "oneIf", "(Z)I"⟩ prog_1_method_23_code 1 (some .int) 1 := ⟨t_439, t_440, t_1, t_441, ⟨by decide +kernel, by decide +kernel, by decide +kernel⟩⟩
theorem f_BP_20 : hp_f BIG vcl "BandPainter" 20 0 2 := ⟨_, _, _, rfl, by decide, t_117⟩
theorem f_BP_183 : hp_f BIG vcl "BandPainter" 183 5 3 := ⟨_, _, _, rfl, by decide, t_70⟩
theorem f_BP_52 : hp_f BIG vcl "BandPainter" 52 0 9 := ⟨_, _, _, rfl, by decide, t_124⟩
theorem f_BP_186 : hp_f BIG vcl "BandPainter" 186 2 0 := ⟨_, _, _, rfl, by decide, t_103⟩
theorem f_BP_189 : hp_f BIG vcl "BandPainter" 189 2 1 := ⟨_, _, _, rfl, by decide, t_105⟩
theorem f_BP_107 : hp_f BIG vcl "BandPainter" 107 0 10 := ⟨_, _, _, rfl, by decide, t_125⟩
theorem f_BP_110 : hp_f BIG vcl "BandPainter" 110 0 11 := ⟨_, _, _, rfl, by decide, t_126⟩
theorem n_BP_192 : Cond.classLink "BandPainter" 192 "BandPainter$Mark" ∈ BIG ∧ Cond.instantiable "BandPainter$Mark" 9 ∈ BIG ∧ Cond.initialized "BandPainter$Mark" ∈ BIG := ⟨t_280, t_281, t_14⟩
theorem f_BP_56 : hp_f BIG vcl "BandPainter" 56 0 13 := ⟨_, _, _, rfl, by decide, t_128⟩
theorem l_BP_194 : hp_lI BIG "BandPainter" 194 ⟨"BandPainter$Mark", "<init>", "(LBandPainter$Picture;IILBandPainter$Box;LBandPainter$Ink;ZZ)V"⟩ prog_4_method_1_code 8 7 := ⟨t_282, t_283, t_14, t_284, rfl, ⟨by decide +kernel, by decide +kernel, by decide +kernel⟩⟩
theorem l_BP_197 : hp_lV BIG "BandPainter" 197 ⟨"BandPainter$Pile", "add", "(LBandPainter$Mark;)V"⟩ prog_6_method_3_code 2 none 1 := ⟨t_321, t_322, t_323, t_4, t_324, ⟨by decide +kernel, by decide +kernel, by decide +kernel⟩⟩
theorem l_Mo_1 : Cond.methodLink "BandPainterModel" 1 Lib.objectInit ∈ BIG ∧ Cond.instanceMethod Lib.objectInit ∈ BIG ∧ Cond.code Lib.objectInit ⟨#[0xb1]⟩ 1 none ∈ BIG := ⟨t_591, t_24, t_25⟩
theorem fp_Mo_7 : hp_fp BIG vcl "BandPainterModel" 7 7 6 (.array .int) true := ⟨_, _, _, rfl, by decide, t_598, rfl, by decide +kernel, rfl⟩
theorem fp_Mo_13 : hp_fp BIG vcl "BandPainterModel" 13 7 7 (.array .int) true := ⟨_, _, _, rfl, by decide, t_599, rfl, by decide +kernel, rfl⟩
theorem fp_Mo_16 : hp_fp BIG vcl "BandPainterModel" 16 7 8 (.array .int) true := ⟨_, _, _, rfl, by decide, t_600, rfl, by decide +kernel, rfl⟩
theorem fp_Mo_19 : hp_fp BIG vcl "BandPainterModel" 19 7 9 (.array .boolean) true := ⟨_, _, _, rfl, by decide, t_601, rfl, by decide +kernel, rfl⟩
theorem fp_Mo_23 : hp_fp BIG vcl "BandPainterModel" 23 7 11 (.array .long) true := ⟨_, _, _, rfl, by decide, t_603, rfl, by decide +kernel, rfl⟩
theorem fp_Mo_27 : hp_fp BIG vcl "BandPainterModel" 27 7 1 .int true := ⟨_, _, _, rfl, by decide, t_593, rfl, by decide +kernel, rfl⟩
theorem fp_Mo_31 : hp_fp BIG vcl "BandPainterModel" 31 7 2 .int true := ⟨_, _, _, rfl, by decide, t_594, rfl, by decide +kernel, rfl⟩
theorem f_Mo_31 : hp_f BIG vcl "BandPainterModel" 31 7 2 := ⟨_, _, _, rfl, by decide, t_594⟩
theorem fp_Mo_34 : hp_fp BIG vcl "BandPainterModel" 34 7 3 .int true := ⟨_, _, _, rfl, by decide, t_595, rfl, by decide +kernel, rfl⟩
theorem fp_Mo_37 : hp_fp BIG vcl "BandPainterModel" 37 7 4 (.array .long) true := ⟨_, _, _, rfl, by decide, t_596, rfl, by decide +kernel, rfl⟩
theorem f_Mo_27 : hp_f BIG vcl "BandPainterModel" 27 7 1 := ⟨_, _, _, rfl, by decide, t_593⟩
theorem fp_Mo_40 : hp_fp BIG vcl "BandPainterModel" 40 7 21 .int false := ⟨_, _, _, rfl, by decide, t_613, rfl, by decide +kernel, rfl⟩
theorem fp_Mo_43 : hp_fp BIG vcl "BandPainterModel" 43 7 22 .int false := ⟨_, _, _, rfl, by decide, t_614, rfl, by decide +kernel, rfl⟩
theorem f_Mo_46 : hp_f BIG vcl "BandPainterModel" 46 7 0 := ⟨_, _, _, rfl, by decide, t_592⟩
theorem f_Mo_37 : hp_f BIG vcl "BandPainterModel" 37 7 4 := ⟨_, _, _, rfl, by decide, t_596⟩
theorem f_Mo_51 : hp_f BIG vcl "BandPainterModel" 51 7 14 := ⟨_, _, _, rfl, by decide, t_606⟩
theorem l_Mo_54 : hp_lS BIG "BandPainterModel" 54 ⟨"BandPainterModel", "threshold", "(II)I"⟩ prog_9_method_6_code 6 (some .int) 2 := ⟨t_729, t_730, t_6, t_731, ⟨by decide +kernel, by decide +kernel, by decide +kernel⟩⟩
theorem f_Mo_58 : hp_f BIG vcl "BandPainterModel" 58 7 15 := ⟨_, _, _, rfl, by decide, t_607⟩
theorem l_Mo_61 : hp_lS BIG "BandPainterModel" 61 ⟨"BandPainterModel", "hatch", "(III)Z"⟩ prog_9_method_7_code 9 (some .boolean) 3 := ⟨t_732, t_733, t_6, t_734, ⟨by decide +kernel, by decide +kernel, by decide +kernel⟩⟩
theorem l_Mo_65 : hp_lV BIG "BandPainterModel" 65 ⟨"BandPainterModel", "isIn", "(II)Z"⟩ prog_9_method_3_code 3 (some .boolean) 2 := ⟨t_717, t_719, ts_18, t_6, t_720, ⟨by decide +kernel, by decide +kernel, by decide +kernel⟩⟩
theorem f_Mo_69 : hp_f BIG vcl "BandPainterModel" 69 7 19 := ⟨_, _, _, rfl, by decide, t_611⟩
theorem f_Mo_40 : hp_f BIG vcl "BandPainterModel" 40 7 21 := ⟨_, _, _, rfl, by decide, t_613⟩
theorem f_Mo_72 : hp_f BIG vcl "BandPainterModel" 72 7 20 := ⟨_, _, _, rfl, by decide, t_612⟩
theorem f_Mo_43 : hp_f BIG vcl "BandPainterModel" 43 7 22 := ⟨_, _, _, rfl, by decide, t_614⟩
theorem f_Mo_75 : hp_f BIG vcl "BandPainterModel" 75 7 16 := ⟨_, _, _, rfl, by decide, t_608⟩
theorem l_Mo_79 : hp_lV BIG "BandPainterModel" 79 ⟨"BandPainterModel", "set", "(IIZ)V"⟩ prog_9_method_5_code 7 none 3 := ⟨t_721, t_723, ts_19, t_6, t_724, ⟨by decide +kernel, by decide +kernel, by decide +kernel⟩⟩
theorem l_Mo_83 : hp_lV BIG "BandPainterModel" 83 ⟨"BandPainterModel", "isInk", "(II)Z"⟩ prog_9_method_8_code 3 (some .boolean) 2 := ⟨t_725, t_727, ts_20, t_6, t_728, ⟨by decide +kernel, by decide +kernel, by decide +kernel⟩⟩
theorem f_Mo_86 : hp_f BIG vcl "BandPainterModel" 86 7 17 := ⟨_, _, _, rfl, by decide, t_609⟩
theorem f_Mo_89 : hp_f BIG vcl "BandPainterModel" 89 7 18 := ⟨_, _, _, rfl, by decide, t_610⟩
theorem l_Mo_92 : hp_lV BIG "BandPainterModel" 92 ⟨"BandPainterModel", "paint", "(IIZ)V"⟩ prog_9_method_9_code 4 none 3 := ⟨t_713, t_715, ts_17, t_6, t_716, ⟨by decide +kernel, by decide +kernel, by decide +kernel⟩⟩
theorem f_Mo_95 : hp_f BIG vcl "BandPainterModel" 95 7 5 := ⟨_, _, _, rfl, by decide, t_597⟩
theorem f_Mo_98 : hp_f BIG vcl "BandPainterModel" 98 7 10 := ⟨_, _, _, rfl, by decide, t_602⟩
theorem fp_Mo_46 : hp_fp BIG vcl "BandPainterModel" 46 7 0 .int false := ⟨_, _, _, rfl, by decide, t_592, rfl, by decide +kernel, rfl⟩
theorem f_Mo_7 : hp_f BIG vcl "BandPainterModel" 7 7 6 := ⟨_, _, _, rfl, by decide, t_598⟩
theorem f_Mo_13 : hp_f BIG vcl "BandPainterModel" 13 7 7 := ⟨_, _, _, rfl, by decide, t_599⟩
theorem f_Mo_16 : hp_f BIG vcl "BandPainterModel" 16 7 8 := ⟨_, _, _, rfl, by decide, t_600⟩
theorem f_Mo_19 : hp_f BIG vcl "BandPainterModel" 19 7 9 := ⟨_, _, _, rfl, by decide, t_601⟩
theorem f_Mo_23 : hp_f BIG vcl "BandPainterModel" 23 7 11 := ⟨_, _, _, rfl, by decide, t_603⟩
theorem fp_Mo_98 : hp_fp BIG vcl "BandPainterModel" 98 7 10 .int false := ⟨_, _, _, rfl, by decide, t_602, rfl, by decide +kernel, rfl⟩
theorem fp_Mo_95 : hp_fp BIG vcl "BandPainterModel" 95 7 5 .int false := ⟨_, _, _, rfl, by decide, t_597, rfl, by decide +kernel, rfl⟩
theorem l_Mo_101 : hp_lV BIG "BandPainterModel" 101 ⟨"BandPainterModel", "isShape", "(I)Z"⟩ prog_9_method_12_code 2 (some .boolean) 1 := ⟨t_674, t_676, ts_14, t_6, t_677, ⟨by decide +kernel, by decide +kernel, by decide +kernel⟩⟩
theorem l_Mo_105 : hp_lS BIG "BandPainterModel" 105 ⟨"BandPainterModel", "highest", "(JI)J"⟩ prog_9_method_13_code 3 (some .long) 2 := ⟨t_678, t_679, t_6, t_680, ⟨by decide +kernel, by decide +kernel, by decide +kernel⟩⟩
theorem fp_Mo_51 : hp_fp BIG vcl "BandPainterModel" 51 7 14 .int false := ⟨_, _, _, rfl, by decide, t_606, rfl, by decide +kernel, rfl⟩
theorem fp_Mo_58 : hp_fp BIG vcl "BandPainterModel" 58 7 15 .int false := ⟨_, _, _, rfl, by decide, t_607, rfl, by decide +kernel, rfl⟩
theorem fp_Mo_75 : hp_fp BIG vcl "BandPainterModel" 75 7 16 .boolean false := ⟨_, _, _, rfl, by decide, t_608, rfl, by decide +kernel, rfl⟩
theorem fp_Mo_86 : hp_fp BIG vcl "BandPainterModel" 86 7 17 .boolean false := ⟨_, _, _, rfl, by decide, t_609, rfl, by decide +kernel, rfl⟩
theorem fp_Mo_89 : hp_fp BIG vcl "BandPainterModel" 89 7 18 .int false := ⟨_, _, _, rfl, by decide, t_610, rfl, by decide +kernel, rfl⟩
theorem fp_Mo_69 : hp_fp BIG vcl "BandPainterModel" 69 7 19 .int false := ⟨_, _, _, rfl, by decide, t_611, rfl, by decide +kernel, rfl⟩
theorem fp_Mo_72 : hp_fp BIG vcl "BandPainterModel" 72 7 20 .int false := ⟨_, _, _, rfl, by decide, t_612, rfl, by decide +kernel, rfl⟩
theorem l_Mo_109 : hp_lS BIG "BandPainterModel" 109 ⟨"BandPainterModel", "isPlace", "(I)Z"⟩ prog_9_method_20_code 1 (some .boolean) 1 := ⟨t_702, t_703, t_6, t_704, ⟨by decide +kernel, by decide +kernel, by decide +kernel⟩⟩
theorem f_Mo_112 : hp_f BIG vcl "BandPainterModel" 112 7 12 := ⟨_, _, _, rfl, by decide, t_604⟩
theorem fp_Mo_112 : hp_fp BIG vcl "BandPainterModel" 112 7 12 .int false := ⟨_, _, _, rfl, by decide, t_604, rfl, by decide +kernel, rfl⟩
theorem l_Mo_115 : hp_lV BIG "BandPainterModel" 115 ⟨"BandPainterModel", "shapeDot", "(III)Z"⟩ prog_9_method_15_code 4 (some .boolean) 3 := ⟨t_705, t_707, ts_15, t_6, t_708, ⟨by decide +kernel, by decide +kernel, by decide +kernel⟩⟩
theorem l_Mo_118 : hp_lV BIG "BandPainterModel" 118 ⟨"BandPainterModel", "lay", "(IIIIZ)V"⟩ prog_9_method_10_code 8 none 5 := ⟨t_709, t_711, ts_16, t_6, t_712, ⟨by decide +kernel, by decide +kernel, by decide +kernel⟩⟩
theorem l_Mo_122 : hp_lS BIG "BandPainterModel" 122 ⟨"BandPainterModel", "most", "(II)I"⟩ prog_9_method_22_code 2 (some .int) 2 := ⟨t_739, t_740, t_6, t_741, ⟨by decide +kernel, by decide +kernel, by decide +kernel⟩⟩
theorem l_Mo_125 : hp_lS BIG "BandPainterModel" 125 ⟨"BandPainterModel", "least", "(II)I"⟩ prog_9_method_23_code 2 (some .int) 2 := ⟨t_742, t_743, t_6, t_744, ⟨by decide +kernel, by decide +kernel, by decide +kernel⟩⟩
theorem f_Mo_128 : hp_f BIG vcl "BandPainterModel" 128 7 13 := ⟨_, _, _, rfl, by decide, t_605⟩
theorem fp_Mo_128 : hp_fp BIG vcl "BandPainterModel" 128 7 13 .int false := ⟨_, _, _, rfl, by decide, t_605, rfl, by decide +kernel, rfl⟩
theorem l_Mo_132 : hp_lV BIG "BandPainterModel" 132 ⟨"BandPainterModel", "isBlack", "(II)Z"⟩ prog_9_method_4_code 3 (some .boolean) 2 := ⟨t_762, t_764, ts_21, t_6, t_765, ⟨by decide +kernel, by decide +kernel, by decide +kernel⟩⟩
theorem l_Mo_135 : hp_lS BIG "BandPainterModel" 135 ⟨"BandPainterModel", "ones", "(J)I"⟩ prog_9_method_29_code 5 (some .int) 1 := ⟨t_774, t_775, t_6, t_776, ⟨by decide +kernel, by decide +kernel, by decide +kernel⟩⟩
theorem l_Mo_139 : hp_lV BIG "BandPainterModel" 139 ⟨"BandPainterModel", "blacksOf", "(I)I"⟩ prog_9_method_30_code 4 (some .int) 1 := ⟨t_770, t_772, ts_22, t_6, t_773, ⟨by decide +kernel, by decide +kernel, by decide +kernel⟩⟩
theorem f_Mo_34 : hp_f BIG vcl "BandPainterModel" 34 7 3 := ⟨_, _, _, rfl, by decide, t_595⟩
theorem l_Bx_3 : Cond.methodLink "BandPainter$Box" 3 Lib.objectInit ∈ BIG ∧ Cond.instanceMethod Lib.objectInit ∈ BIG ∧ Cond.code Lib.objectInit ⟨#[0xb1]⟩ 1 none ∈ BIG := ⟨t_40, t_24, t_25⟩
theorem fp_Bx_9 : hp_fp BIG vcl "BandPainter$Box" 9 1 0 .int true := ⟨_, _, _, rfl, by decide, t_41, rfl, by decide +kernel, rfl⟩
theorem fp_Bx_15 : hp_fp BIG vcl "BandPainter$Box" 15 1 1 .int true := ⟨_, _, _, rfl, by decide, t_43, rfl, by decide +kernel, rfl⟩
theorem fp_Bx_18 : hp_fp BIG vcl "BandPainter$Box" 18 1 2 .int true := ⟨_, _, _, rfl, by decide, t_45, rfl, by decide +kernel, rfl⟩
theorem fp_Bx_21 : hp_fp BIG vcl "BandPainter$Box" 21 1 3 .int true := ⟨_, _, _, rfl, by decide, t_47, rfl, by decide +kernel, rfl⟩
theorem n_Bx_10 : Cond.classLink "BandPainter$Box" 10 "BandPainter$Box" ∈ BIG ∧ Cond.instantiable "BandPainter$Box" 4 ∈ BIG ∧ Cond.initialized "BandPainter$Box" ∈ BIG := ⟨t_214, t_36, t_3⟩
theorem f_Bx_9 : hp_f BIG vcl "BandPainter$Box" 9 1 0 := ⟨_, _, _, rfl, by decide, t_41⟩
theorem l_Bx_24 : Cond.methodLink "BandPainter$Box" 24 Lib.Math.max.name ∈ BIG ∧ Cond.static Lib.Math.max.name ∈ BIG ∧ Cond.initialized "java/lang/Math" ∈ BIG ∧ Cond.code Lib.Math.max.name Lib.Math.max.code 2 (some .int) ∈ BIG := ⟨t_215, t_33, t_2, t_34⟩
theorem f_Bx_15 : hp_f BIG vcl "BandPainter$Box" 15 1 1 := ⟨_, _, _, rfl, by decide, t_43⟩
theorem f_Bx_18 : hp_f BIG vcl "BandPainter$Box" 18 1 2 := ⟨_, _, _, rfl, by decide, t_45⟩
theorem l_Bx_30 : Cond.methodLink "BandPainter$Box" 30 Lib.Math.min.name ∈ BIG ∧ Cond.static Lib.Math.min.name ∈ BIG ∧ Cond.initialized "java/lang/Math" ∈ BIG ∧ Cond.code Lib.Math.min.name Lib.Math.min.code 2 (some .int) ∈ BIG := ⟨t_216, t_30, t_2, t_31⟩
theorem f_Bx_21 : hp_f BIG vcl "BandPainter$Box" 21 1 3 := ⟨_, _, _, rfl, by decide, t_47⟩
theorem l_Bx_33 : hp_lI BIG "BandPainter$Box" 33 ⟨"BandPainter$Box", "<init>", "(IIII)V"⟩ prog_2_method_1_code 5 4 := ⟨t_217, t_38, t_3, t_39, rfl, ⟨by decide +kernel, by decide +kernel, by decide +kernel⟩⟩
theorem l_Bx_36 : hp_lN BIG vnl "BandPainter$Box" 36 ⟨"BandPainter", "firstDots", "(I)J"⟩ "BandPainter" prog_1_method_24_code 1 (some .long) 1 := ⟨List.mem_of_getElem? (i := 4) rfl, t_178, t_1, t_179, ⟨by decide +kernel, by decide +kernel, by decide +kernel⟩⟩
theorem l_In_3 : Cond.methodLink "BandPainter$Ink" 3 Lib.objectInit ∈ BIG ∧ Cond.instanceMethod Lib.objectInit ∈ BIG ∧ Cond.code Lib.objectInit ⟨#[0xb1]⟩ 1 none ∈ BIG := ⟨t_90, t_24, t_25⟩
theorem fp_In_9 : hp_fp BIG vcl "BandPainter$Ink" 9 2 0 .int true := ⟨_, _, _, rfl, by decide, t_102, rfl, by decide +kernel, rfl⟩
theorem fp_In_15 : hp_fp BIG vcl "BandPainter$Ink" 15 2 1 .int true := ⟨_, _, _, rfl, by decide, t_104, rfl, by decide +kernel, rfl⟩
theorem fp_In_18 : hp_fp BIG vcl "BandPainter$Ink" 18 2 2 (.array .long) true := ⟨_, _, _, rfl, by decide, t_106, rfl, by decide +kernel, rfl⟩
theorem f_In_18 : hp_f BIG vcl "BandPainter$Ink" 18 2 2 := ⟨_, _, _, rfl, by decide, t_106⟩
theorem l_In_22 : hp_lS BIG "BandPainter$Ink" 22 ⟨"BandPainter$Ink", "dotsOfLine", "(III)J"⟩ prog_3_method_4_code 6 (some .long) 3 := ⟨t_91, t_92, t_5, t_93, ⟨by decide +kernel, by decide +kernel, by decide +kernel⟩⟩
theorem l_In_26 : hp_lN BIG vnl "BandPainter$Ink" 26 ⟨"BandPainter", "isWithin", "(III)Z"⟩ "BandPainter" prog_1_method_21_code 3 (some .boolean) 3 := ⟨List.mem_of_getElem? (i := 1) rfl, t_167, t_1, t_168, ⟨by decide +kernel, by decide +kernel, by decide +kernel⟩⟩
theorem l_In_32 : hp_lS BIG "BandPainter$Ink" 32 ⟨"BandPainter$Ink", "isShaded", "(III)Z"⟩ prog_3_method_5_code 7 (some .boolean) 3 := ⟨t_95, t_96, t_5, t_97, ⟨by decide +kernel, by decide +kernel, by decide +kernel⟩⟩
theorem l_In_35 : hp_lS BIG "BandPainter$Ink" 35 ⟨"BandPainter$Ink", "isHatched", "(III)Z"⟩ prog_3_method_6_code 7 (some .boolean) 3 := ⟨t_98, t_99, t_5, t_100, ⟨by decide +kernel, by decide +kernel, by decide +kernel⟩⟩
theorem l_Mk_1 : Cond.methodLink "BandPainter$Mark" 1 Lib.objectInit ∈ BIG ∧ Cond.instanceMethod Lib.objectInit ∈ BIG ∧ Cond.code Lib.objectInit ⟨#[0xb1]⟩ 1 none ∈ BIG := ⟨t_285, t_24, t_25⟩
theorem fp_Mk_7 : hp_fp BIG vcl "BandPainter$Mark" 7 3 0 (.object "BandPainter$Picture") true := ⟨_, _, _, rfl, by decide, t_286, rfl, by decide +kernel, rfl⟩
theorem fp_Mk_13 : hp_fp BIG vcl "BandPainter$Mark" 13 3 1 .int true := ⟨_, _, _, rfl, by decide, t_288, rfl, by decide +kernel, rfl⟩
theorem fp_Mk_17 : hp_fp BIG vcl "BandPainter$Mark" 17 3 2 .int true := ⟨_, _, _, rfl, by decide, t_290, rfl, by decide +kernel, rfl⟩
theorem fp_Mk_20 : hp_fp BIG vcl "BandPainter$Mark" 20 3 3 (.object "BandPainter$Box") true := ⟨_, _, _, rfl, by decide, t_292, rfl, by decide +kernel, rfl⟩
theorem fp_Mk_24 : hp_fp BIG vcl "BandPainter$Mark" 24 3 4 (.object "BandPainter$Ink") true := ⟨_, _, _, rfl, by decide, t_294, rfl, by decide +kernel, rfl⟩
theorem fp_Mk_28 : hp_fp BIG vcl "BandPainter$Mark" 28 3 5 .boolean true := ⟨_, _, _, rfl, by decide, t_296, rfl, by decide +kernel, rfl⟩
theorem fp_Mk_32 : hp_fp BIG vcl "BandPainter$Mark" 32 3 6 .boolean true := ⟨_, _, _, rfl, by decide, t_298, rfl, by decide +kernel, rfl⟩
theorem l_Pc_3 : Cond.methodLink "BandPainter$Picture" 3 Lib.objectInit ∈ BIG ∧ Cond.instanceMethod Lib.objectInit ∈ BIG ∧ Cond.code Lib.objectInit ⟨#[0xb1]⟩ 1 none ∈ BIG := ⟨t_239, t_24, t_25⟩
theorem l_Pc_9 : Cond.methodLink "BandPainter$Picture" 9 Lib.Math.max.name ∈ BIG ∧ Cond.static Lib.Math.max.name ∈ BIG ∧ Cond.initialized "java/lang/Math" ∈ BIG ∧ Cond.code Lib.Math.max.name Lib.Math.max.code 2 (some .int) ∈ BIG := ⟨t_240, t_33, t_2, t_34⟩
theorem fp_Pc_15 : hp_fp BIG vcl "BandPainter$Picture" 15 4 0 .int true := ⟨_, _, _, rfl, by decide, t_241, rfl, by decide +kernel, rfl⟩
theorem fp_Pc_21 : hp_fp BIG vcl "BandPainter$Picture" 21 4 1 .int true := ⟨_, _, _, rfl, by decide, t_243, rfl, by decide +kernel, rfl⟩
theorem fp_Pc_24 : hp_fp BIG vcl "BandPainter$Picture" 24 4 2 .int true := ⟨_, _, _, rfl, by decide, t_245, rfl, by decide +kernel, rfl⟩
theorem f_Pc_15 : hp_f BIG vcl "BandPainter$Picture" 15 4 0 := ⟨_, _, _, rfl, by decide, t_241⟩
theorem fp_Pc_27 : hp_fp BIG vcl "BandPainter$Picture" 27 4 3 .int true := ⟨_, _, _, rfl, by decide, t_246, rfl, by decide +kernel, rfl⟩
theorem f_Pc_27 : hp_f BIG vcl "BandPainter$Picture" 27 4 3 := ⟨_, _, _, rfl, by decide, t_246⟩
theorem f_Pc_21 : hp_f BIG vcl "BandPainter$Picture" 21 4 1 := ⟨_, _, _, rfl, by decide, t_243⟩
theorem fp_Pc_30 : hp_fp BIG vcl "BandPainter$Picture" 30 4 4 (.array .long) true := ⟨_, _, _, rfl, by decide, t_247, rfl, by decide +kernel, rfl⟩
theorem l_Pc_34 : hp_lN BIG vnl "BandPainter$Picture" 34 ⟨"BandPainter", "firstDots", "(I)J"⟩ "BandPainter" prog_1_method_24_code 1 (some .long) 1 := ⟨List.mem_of_getElem? (i := 0) rfl, t_178, t_1, t_179, ⟨by decide +kernel, by decide +kernel, by decide +kernel⟩⟩
theorem l_Pc_38 : hp_lV BIG "BandPainter$Picture" 38 ⟨"BandPainter$Picture", "setWord", "(IIJ)V"⟩ prog_5_method_11_code 5 none 3 := ⟨t_181, t_183, ts_1, t_13, t_185, ⟨by decide +kernel, by decide +kernel, by decide +kernel⟩⟩
theorem f_Pc_30 : hp_f BIG vcl "BandPainter$Picture" 30 4 4 := ⟨_, _, _, rfl, by decide, t_247⟩
theorem l_Pc_42 : hp_lS BIG "BandPainter$Picture" 42 ⟨"java/lang/Long", "bitCount", "(J)I"⟩ prog_14_method_50_code 2 (some .int) 1 := ⟨t_438, t_421, t_17, t_422, ⟨by decide +kernel, by decide +kernel, by decide +kernel⟩⟩
theorem f_Pc_24 : hp_f BIG vcl "BandPainter$Picture" 24 4 2 := ⟨_, _, _, rfl, by decide, t_245⟩
theorem l_Pc_48 : hp_lS BIG "BandPainter$Picture" 48 ⟨"java/lang/Math", "floorDiv", "(II)I"⟩ prog_15_method_47_code 3 (some .int) 2 := ⟨t_394, t_395, t_2, t_396, ⟨by decide +kernel, by decide +kernel, by decide +kernel⟩⟩
theorem l_Pc_51 : hp_lS BIG "BandPainter$Picture" 51 ⟨"java/lang/Math", "floorMod", "(II)I"⟩ prog_15_method_50_code 3 (some .int) 2 := ⟨t_397, t_398, t_2, t_399, ⟨by decide +kernel, by decide +kernel, by decide +kernel⟩⟩
theorem l_Pc_54 : hp_lV BIG "BandPainter$Picture" 54 ⟨"BandPainter$Picture", "wordAt", "(II)J"⟩ prog_5_method_10_code 3 (some .long) 2 := ⟨t_263, t_265, ts_5, t_13, t_266, ⟨by decide +kernel, by decide +kernel, by decide +kernel⟩⟩
theorem n_Pc_16 : Cond.classLink "BandPainter$Picture" 16 "BandPainter$Picture" ∈ BIG ∧ Cond.instantiable "BandPainter$Picture" 5 ∈ BIG ∧ Cond.initialized "BandPainter$Picture" ∈ BIG := ⟨t_235, t_184, t_13⟩
theorem l_Pc_58 : hp_lI BIG "BandPainter$Picture" 58 ⟨"BandPainter$Picture", "<init>", "(III)V"⟩ prog_5_method_1_code 4 3 := ⟨t_236, t_237, t_13, t_238, rfl, ⟨by decide +kernel, by decide +kernel, by decide +kernel⟩⟩
theorem l_Pc_61 : hp_lV BIG "BandPainter$Picture" 61 ⟨"BandPainter$Picture", "isBlack", "(II)Z"⟩ prog_5_method_8_code 3 (some .boolean) 2 := ⟨t_259, t_261, ts_4, t_13, t_262, ⟨by decide +kernel, by decide +kernel, by decide +kernel⟩⟩
theorem l_Pc_65 : hp_lV BIG "BandPainter$Picture" 65 ⟨"BandPainter$Picture", "blackenTurned", "(III)V"⟩ prog_5_method_7_code 4 none 3 := ⟨t_268, t_270, ts_6, t_13, t_271, ⟨by decide +kernel, by decide +kernel, by decide +kernel⟩⟩
theorem l_Pc_68 : hp_lV BIG "BandPainter$Picture" 68 ⟨"BandPainter$Picture", "blacken", "(II)V"⟩ prog_5_method_9_code 3 none 2 := ⟨t_272, t_274, ts_7, t_13, t_275, ⟨by decide +kernel, by decide +kernel, by decide +kernel⟩⟩
theorem l_Pc_74 : hp_lV BIG "BandPainter$Picture" 74 ⟨"BandPainter$Picture", "hasWord", "(II)Z"⟩ prog_5_method_12_code 3 (some .boolean) 2 := ⟨t_186, t_188, ts_2, t_13, t_189, ⟨by decide +kernel, by decide +kernel, by decide +kernel⟩⟩
theorem l_Pl_3 : Cond.methodLink "BandPainter$Pile" 3 Lib.objectInit ∈ BIG ∧ Cond.instanceMethod Lib.objectInit ∈ BIG ∧ Cond.code Lib.objectInit ⟨#[0xb1]⟩ 1 none ∈ BIG := ⟨t_65, t_24, t_25⟩
theorem fp_Pl_9 : hp_fp BIG vcl "BandPainter$Pile" 9 5 0 .int true := ⟨_, _, _, rfl, by decide, t_66, rfl, by decide +kernel, rfl⟩
theorem fp_Pl_15 : hp_fp BIG vcl "BandPainter$Pile" 15 5 1 (.array .int) true := ⟨_, _, _, rfl, by decide, t_67, rfl, by decide +kernel, rfl⟩
theorem fp_Pl_19 : hp_fp BIG vcl "BandPainter$Pile" 19 5 2 (.array .boolean) true := ⟨_, _, _, rfl, by decide, t_68, rfl, by decide +kernel, rfl⟩
theorem fp_Pl_23 : hp_fp BIG vcl "BandPainter$Pile" 23 5 3 .int false := ⟨_, _, _, rfl, by decide, t_69, rfl, by decide +kernel, rfl⟩
theorem fp_Pl_26 : hp_fp BIG vcl "BandPainter$Pile" 26 5 4 (.object "BandPainter$Mark") false := ⟨_, _, _, rfl, by decide, t_71, rfl, by decide +kernel, rfl⟩
theorem f_Pl_15 : hp_f BIG vcl "BandPainter$Pile" 15 5 1 := ⟨_, _, _, rfl, by decide, t_67⟩
theorem l_Pl_30 : hp_lS BIG "BandPainter$Pile" 30 ⟨"java/util/Arrays", "fill", "([II)V"⟩ prog_19_method_103_code 4 none 2 := ⟨t_361, t_362, t_15, t_363, ⟨by decide +kernel, by decide +kernel, by decide +kernel⟩⟩
theorem f_Pl_9 : hp_f BIG vcl "BandPainter$Pile" 9 5 0 := ⟨_, _, _, rfl, by decide, t_66⟩
theorem f_Pl_19 : hp_f BIG vcl "BandPainter$Pile" 19 5 2 := ⟨_, _, _, rfl, by decide, t_68⟩
theorem f_Pl_23 : hp_f BIG vcl "BandPainter$Pile" 23 5 3 := ⟨_, _, _, rfl, by decide, t_69⟩
theorem f_Pl_36 : hp_f BIG vcl "BandPainter$Pile" 36 3 3 := ⟨_, _, _, rfl, by decide, t_293⟩
theorem l_Pl_42 : hp_lV BIG "BandPainter$Pile" 42 ⟨"BandPainter$Box", "isEmpty", "()Z"⟩ prog_2_method_3_code 1 (some .boolean) 0 := ⟨t_325, t_326, t_327, t_3, t_328, ⟨by decide +kernel, by decide +kernel, by decide +kernel⟩⟩
theorem f_Pl_26 : hp_f BIG vcl "BandPainter$Pile" 26 5 4 := ⟨_, _, _, rfl, by decide, t_71⟩
theorem fp_Pl_48 : hp_fp BIG vcl "BandPainter$Pile" 48 3 7 (.object "BandPainter$Mark") false := ⟨_, _, _, rfl, by decide, t_300, rfl, by decide +kernel, rfl⟩
theorem l_Pl_51 : hp_lV BIG "BandPainter$Pile" 51 ⟨"BandPainter$Pile", "stir", "(LBandPainter$Mark;)V"⟩ prog_6_method_4_code 5 none 1 := ⟨t_329, t_331, ts_9, t_4, t_332, ⟨by decide +kernel, by decide +kernel, by decide +kernel⟩⟩
theorem f_Pl_55 : hp_f BIG vcl "BandPainter$Pile" 55 1 1 := ⟨_, _, _, rfl, by decide, t_44⟩
theorem l_Pl_58 : Cond.methodLink "BandPainter$Pile" 58 Lib.Math.max.name ∈ BIG ∧ Cond.static Lib.Math.max.name ∈ BIG ∧ Cond.initialized "java/lang/Math" ∈ BIG ∧ Cond.code Lib.Math.max.name Lib.Math.max.code 2 (some .int) ∈ BIG := ⟨t_333, t_33, t_2, t_34⟩
theorem f_Pl_64 : hp_f BIG vcl "BandPainter$Pile" 64 1 3 := ⟨_, _, _, rfl, by decide, t_48⟩
theorem l_Pl_67 : Cond.methodLink "BandPainter$Pile" 67 Lib.Math.min.name ∈ BIG ∧ Cond.static Lib.Math.min.name ∈ BIG ∧ Cond.initialized "java/lang/Math" ∈ BIG ∧ Cond.code Lib.Math.min.name Lib.Math.min.code 2 (some .int) ∈ BIG := ⟨t_334, t_30, t_2, t_31⟩
theorem f_Pl_70 : hp_f BIG vcl "BandPainter$Pile" 70 3 0 := ⟨_, _, _, rfl, by decide, t_287⟩
theorem l_Pl_74 : hp_lN BIG vnl "BandPainter$Pile" 74 ⟨"BandPainter", "isWithin", "(III)Z"⟩ "BandPainter" prog_1_method_21_code 3 (some .boolean) 3 := ⟨List.mem_of_getElem? (i := 3) rfl, t_167, t_1, t_168, ⟨by decide +kernel, by decide +kernel, by decide +kernel⟩⟩
theorem l_Pl_78 : hp_lV BIG "BandPainter$Pile" 78 ⟨"BandPainter$Pile", "newestOnLine", "(I)LBandPainter$Mark;"⟩ prog_6_method_9_code 5 (some (.object "BandPainter$Mark")) 1 := ⟨t_372, t_374, ts_10, t_4, t_375, ⟨by decide +kernel, by decide +kernel, by decide +kernel⟩⟩
theorem l_Pl_82 : hp_lS BIG "BandPainter$Pile" 82 ⟨"BandPainter$Pile", "wordUnder", "(LBandPainter$Mark;II)J"⟩ prog_6_method_10_code 15 (some .long) 3 := ⟨t_380, t_381, t_4, t_382, ⟨by decide +kernel, by decide +kernel, by decide +kernel⟩⟩
theorem l_Pl_86 : hp_lV BIG "BandPainter$Pile" 86 ⟨"BandPainter$Pile", "isLikeAbove", "(I)Z"⟩ prog_6_method_7_code 3 (some .boolean) 1 := ⟨t_412, t_414, ts_11, t_4, t_415, ⟨by decide +kernel, by decide +kernel, by decide +kernel⟩⟩
theorem l_Pl_90 : hp_lV BIG "BandPainter$Pile" 90 ⟨"BandPainter$Pile", "countedBlacks", "(I)I"⟩ prog_6_method_8_code 7 (some .int) 1 := ⟨t_416, t_418, ts_12, t_4, t_419, ⟨by decide +kernel, by decide +kernel, by decide +kernel⟩⟩
theorem f_Pl_94 : hp_f BIG vcl "BandPainter$Pile" 94 1 0 := ⟨_, _, _, rfl, by decide, t_42⟩
theorem f_Pl_97 : hp_f BIG vcl "BandPainter$Pile" 97 1 2 := ⟨_, _, _, rfl, by decide, t_46⟩
theorem f_Pl_100 : hp_f BIG vcl "BandPainter$Pile" 100 3 8 := ⟨_, _, _, rfl, by decide, t_301⟩
theorem l_Pl_103 : hp_lS BIG "BandPainter$Pile" 103 ⟨"java/lang/Long", "bitCount", "(J)I"⟩ prog_14_method_50_code 2 (some .int) 1 := ⟨t_420, t_421, t_17, t_422, ⟨by decide +kernel, by decide +kernel, by decide +kernel⟩⟩
theorem l_Pl_109 : hp_lV BIG "BandPainter$Pile" 109 ⟨"BandPainter$Box", "meetsLine", "(I)Z"⟩ prog_2_method_4_code 2 (some .boolean) 1 := ⟨t_376, t_377, t_378, t_3, t_379, ⟨by decide +kernel, by decide +kernel, by decide +kernel⟩⟩
theorem fp_Pl_100 : hp_fp BIG vcl "BandPainter$Pile" 100 3 8 (.object "BandPainter$Mark") false := ⟨_, _, _, rfl, by decide, t_301, rfl, by decide +kernel, rfl⟩
theorem f_Pl_48 : hp_f BIG vcl "BandPainter$Pile" 48 3 7 := ⟨_, _, _, rfl, by decide, t_300⟩
theorem l_Pl_114 : hp_lV BIG "BandPainter$Pile" 114 ⟨"BandPainter$Box", "dotsOfWord", "(I)J"⟩ prog_2_method_5_code 3 (some .long) 1 := ⟨t_384, t_385, t_386, t_3, t_387, ⟨by decide +kernel, by decide +kernel, by decide +kernel⟩⟩
theorem f_Pl_118 : hp_f BIG vcl "BandPainter$Pile" 118 3 2 := ⟨_, _, _, rfl, by decide, t_291⟩
theorem f_Pl_121 : hp_f BIG vcl "BandPainter$Pile" 121 3 1 := ⟨_, _, _, rfl, by decide, t_289⟩
theorem l_Pl_124 : hp_lV BIG "BandPainter$Pile" 124 ⟨"BandPainter$Picture", "dotsFrom", "(II)J"⟩ prog_5_method_4_code 8 (some .long) 2 := ⟨t_390, t_391, t_392, t_13, t_393, ⟨by decide +kernel, by decide +kernel, by decide +kernel⟩⟩
theorem f_Pl_130 : hp_f BIG vcl "BandPainter$Pile" 130 3 4 := ⟨_, _, _, rfl, by decide, t_295⟩
theorem l_Pl_134 : hp_lV BIG "BandPainter$Pile" 134 ⟨"BandPainter$Ink", "dotsAt", "(I)J"⟩ prog_3_method_3_code 2 (some .long) 1 := ⟨t_400, t_401, t_402, t_5, t_403, ⟨by decide +kernel, by decide +kernel, by decide +kernel⟩⟩
theorem f_Pl_139 : hp_f BIG vcl "BandPainter$Pile" 139 3 6 := ⟨_, _, _, rfl, by decide, t_299⟩
theorem f_Pl_143 : hp_f BIG vcl "BandPainter$Pile" 143 3 5 := ⟨_, _, _, rfl, by decide, t_297⟩
theorem l_Sh_3 : Cond.methodLink "BandPainter$Shape" 3 Lib.objectInit ∈ BIG ∧ Cond.instanceMethod Lib.objectInit ∈ BIG ∧ Cond.code Lib.objectInit ⟨#[0xb1]⟩ 1 none ∈ BIG := ⟨t_546, t_24, t_25⟩
theorem n_Sh_9 : Cond.classLink "BandPainter$Shape" 9 "BandPainter$Picture" ∈ BIG ∧ Cond.instantiable "BandPainter$Picture" 5 ∈ BIG ∧ Cond.initialized "BandPainter$Picture" ∈ BIG := ⟨t_547, t_184, t_13⟩
theorem l_Sh_11 : hp_lI BIG "BandPainter$Shape" 11 ⟨"BandPainter$Picture", "<init>", "(III)V"⟩ prog_5_method_1_code 4 3 := ⟨t_548, t_237, t_13, t_238, rfl, ⟨by decide +kernel, by decide +kernel, by decide +kernel⟩⟩
theorem fp_Sh_14 : hp_fp BIG vcl "BandPainter$Shape" 14 6 0 (.object "BandPainter$Picture") true := ⟨_, _, _, rfl, by decide, t_550, rfl, by decide +kernel, rfl⟩
theorem fp_Sh_20 : hp_fp BIG vcl "BandPainter$Shape" 20 6 1 (.array (.object "BandPainter$Picture")) true := ⟨_, _, _, rfl, by decide, t_552, rfl, by decide +kernel, rfl⟩
theorem f_Sh_14 : hp_f BIG vcl "BandPainter$Shape" 14 6 0 := ⟨_, _, _, rfl, by decide, t_550⟩
theorem l_Sh_24 : hp_lV BIG "BandPainter$Shape" 24 ⟨"BandPainter$Picture", "setDots", "(IJJ)V"⟩ prog_5_method_2_code 6 none 3 := ⟨t_173, t_174, t_175, t_13, t_176, ⟨by decide +kernel, by decide +kernel, by decide +kernel⟩⟩
theorem f_Sh_20 : hp_f BIG vcl "BandPainter$Shape" 20 6 1 := ⟨_, _, _, rfl, by decide, t_552⟩
theorem l_Sh_28 : hp_lN BIG vnl "BandPainter$Shape" 28 ⟨"BandPainter", "isWithin", "(III)Z"⟩ "BandPainter" prog_1_method_21_code 3 (some .boolean) 3 := ⟨List.mem_of_getElem? (i := 2) rfl, t_167, t_1, t_168, ⟨by decide +kernel, by decide +kernel, by decide +kernel⟩⟩
theorem l_Sh_32 : hp_lV BIG "BandPainter$Shape" 32 ⟨"BandPainter$Picture", "turnedBy", "(I)LBandPainter$Picture;"⟩ prog_5_method_5_code 5 (some (.object "BandPainter$Picture")) 1 := ⟨t_231, t_232, t_233, t_13, t_234, ⟨by decide +kernel, by decide +kernel, by decide +kernel⟩⟩
theorem l_La_7 : hp_lV BIG "BandPainterLaw" 7 ⟨"BandPainter", "shape", "(II)I"⟩ prog_1_method_2_code 4 (some .int) 2 := ⟨t_454, t_455, t_456, t_1, t_457, ⟨by decide +kernel, by decide +kernel, by decide +kernel⟩⟩
theorem l_La_17 : hp_lV BIG "BandPainterLaw" 17 ⟨"BandPainter", "black", "(II)Z"⟩ prog_1_method_13_code 3 (some .boolean) 2 := ⟨t_565, t_566, t_567, t_1, t_568, ⟨by decide +kernel, by decide +kernel, by decide +kernel⟩⟩
theorem n_La_8 : Cond.classLink "BandPainterLaw" 8 "BandPainter" ∈ BIG ∧ Cond.instantiable "BandPainter" 14 ∈ BIG ∧ Cond.initialized "BandPainter" ∈ BIG := ⟨t_18, t_19, t_1⟩
theorem l_La_23 : hp_lS BIG "BandPainterLaw" 23 ⟨"BandPainterLaw", "cell", "([II)I"⟩ method_2_code 2 (some .int) 2 := ⟨t_446, t_447, t_0, t_448, ⟨by decide +kernel, by decide +kernel, by decide +kernel⟩⟩
theorem l_La_29 : hp_lI BIG "BandPainterLaw" 29 ⟨"BandPainter", "<init>", "(III)V"⟩ prog_1_method_1_code 4 3 := ⟨t_20, t_21, t_1, t_22, rfl, ⟨by decide +kernel, by decide +kernel, by decide +kernel⟩⟩
theorem n_La_32 : Cond.classLink "BandPainterLaw" 32 "BandPainterModel" ∈ BIG ∧ Cond.instantiable "BandPainterModel" 23 ∈ BIG ∧ Cond.initialized "BandPainterModel" ∈ BIG := ⟨t_586, t_587, t_6⟩
theorem l_La_34 : hp_lI BIG "BandPainterLaw" 34 ⟨"BandPainterModel", "<init>", "(III)V"⟩ prog_9_method_1_code 4 3 := ⟨t_588, t_589, t_6, t_590, rfl, ⟨by decide +kernel, by decide +kernel, by decide +kernel⟩⟩
theorem l_La_38 : hp_lV BIG "BandPainterLaw" 38 ⟨"BandPainterModel", "shape", "(II)I"⟩ prog_9_method_11_code 4 (some .int) 2 := ⟨t_666, t_667, t_668, t_6, t_669, ⟨by decide +kernel, by decide +kernel, by decide +kernel⟩⟩
theorem l_La_39 : hp_lV BIG "BandPainterLaw" 39 ⟨"BandPainterModel", "thrown", "()I"⟩ prog_9_method_2_code 1 (some .int) 0 := ⟨t_662, t_663, t_664, t_6, t_665, ⟨by decide +kernel, by decide +kernel, by decide +kernel⟩⟩
theorem l_La_45 : hp_lV BIG "BandPainterLaw" 45 ⟨"BandPainter", "draw", "(IIJJ)Z"⟩ prog_1_method_3_code 8 (some .boolean) 4 := ⟨t_158, t_159, t_160, t_1, t_161, ⟨by decide +kernel, by decide +kernel, by decide +kernel⟩⟩
theorem l_La_49 : hp_lV BIG "BandPainterLaw" 49 ⟨"BandPainterModel", "draw", "(IIJJ)Z"⟩ prog_9_method_14_code 8 (some .boolean) 4 := ⟨t_670, t_671, t_672, t_6, t_673, ⟨by decide +kernel, by decide +kernel, by decide +kernel⟩⟩
theorem l_La_50 : hp_lV BIG "BandPainterLaw" 50 ⟨"BandPainter", "ink", "(II)Z"⟩ prog_1_method_4_code 3 (some .boolean) 2 := ⟨t_190, t_191, t_192, t_1, t_193, ⟨by decide +kernel, by decide +kernel, by decide +kernel⟩⟩
theorem l_La_53 : hp_lV BIG "BandPainterLaw" 53 ⟨"BandPainterModel", "ink", "(II)Z"⟩ prog_9_method_16_code 4 (some .boolean) 2 := ⟨t_682, t_683, t_684, t_6, t_685, ⟨by decide +kernel, by decide +kernel, by decide +kernel⟩⟩
theorem l_La_54 : hp_lV BIG "BandPainterLaw" 54 ⟨"BandPainter", "mode", "(ZZ)V"⟩ prog_1_method_5_code 3 none 2 := ⟨t_198, t_199, t_200, t_1, t_201, ⟨by decide +kernel, by decide +kernel, by decide +kernel⟩⟩
theorem l_La_58 : hp_lV BIG "BandPainterLaw" 58 ⟨"BandPainterModel", "mode", "(ZZ)V"⟩ prog_9_method_17_code 3 none 2 := ⟨t_686, t_687, t_688, t_6, t_689, ⟨by decide +kernel, by decide +kernel, by decide +kernel⟩⟩
theorem l_La_59 : hp_lV BIG "BandPainterLaw" 59 ⟨"BandPainter", "turn", "(I)Z"⟩ prog_1_method_6_code 2 (some .boolean) 1 := ⟨t_202, t_203, t_204, t_1, t_205, ⟨by decide +kernel, by decide +kernel, by decide +kernel⟩⟩
theorem l_La_63 : hp_lV BIG "BandPainterLaw" 63 ⟨"BandPainterModel", "turn", "(I)Z"⟩ prog_9_method_18_code 2 (some .boolean) 1 := ⟨t_690, t_691, t_692, t_6, t_693, ⟨by decide +kernel, by decide +kernel, by decide +kernel⟩⟩
theorem l_La_64 : hp_lV BIG "BandPainterLaw" 64 ⟨"BandPainter", "clip", "(IIII)Z"⟩ prog_1_method_7_code 5 (some .boolean) 4 := ⟨t_206, t_207, t_208, t_1, t_209, ⟨by decide +kernel, by decide +kernel, by decide +kernel⟩⟩
theorem l_La_68 : hp_lV BIG "BandPainterLaw" 68 ⟨"BandPainterModel", "clip", "(IIII)Z"⟩ prog_9_method_19_code 5 (some .boolean) 4 := ⟨t_694, t_695, t_696, t_6, t_697, ⟨by decide +kernel, by decide +kernel, by decide +kernel⟩⟩
theorem l_La_69 : hp_lV BIG "BandPainterLaw" 69 ⟨"BandPainter", "stamp", "(III)Z"⟩ prog_1_method_8_code 5 (some .boolean) 3 := ⟨t_218, t_219, t_220, t_1, t_221, ⟨by decide +kernel, by decide +kernel, by decide +kernel⟩⟩
theorem l_La_73 : hp_lV BIG "BandPainterLaw" 73 ⟨"BandPainterModel", "stamp", "(III)Z"⟩ prog_9_method_21_code 6 (some .boolean) 3 := ⟨t_698, t_699, t_700, t_6, t_701, ⟨by decide +kernel, by decide +kernel, by decide +kernel⟩⟩
theorem l_La_74 : hp_lV BIG "BandPainterLaw" 74 ⟨"BandPainter", "rule", "(IIII)Z"⟩ prog_1_method_9_code 5 (some .boolean) 4 := ⟨t_336, t_337, t_338, t_1, t_339, ⟨by decide +kernel, by decide +kernel, by decide +kernel⟩⟩
theorem l_La_77 : hp_lV BIG "BandPainterLaw" 77 ⟨"BandPainterModel", "rule", "(IIII)Z"⟩ prog_9_method_24_code 11 (some .boolean) 4 := ⟨t_735, t_736, t_737, t_6, t_738, ⟨by decide +kernel, by decide +kernel, by decide +kernel⟩⟩
theorem l_La_78 : hp_lV BIG "BandPainterLaw" 78 ⟨"BandPainter", "row", "(IIIIJ)Z"⟩ prog_1_method_10_code 9 (some .boolean) 5 := ⟨t_340, t_341, t_342, t_1, t_343, ⟨by decide +kernel, by decide +kernel, by decide +kernel⟩⟩
theorem l_La_82 : hp_lV BIG "BandPainterLaw" 82 ⟨"BandPainterModel", "row", "(IIIIJ)Z"⟩ prog_9_method_25_code 12 (some .boolean) 5 := ⟨t_745, t_746, t_747, t_6, t_748, ⟨by decide +kernel, by decide +kernel, by decide +kernel⟩⟩
theorem l_La_83 : hp_lV BIG "BandPainterLaw" 83 ⟨"BandPainter", "eject", "()V"⟩ prog_1_method_11_code 3 none 0 := ⟨t_353, t_354, t_355, t_1, t_356, ⟨by decide +kernel, by decide +kernel, by decide +kernel⟩⟩
theorem l_La_86 : hp_lV BIG "BandPainterLaw" 86 ⟨"BandPainterModel", "eject", "()V"⟩ prog_9_method_26_code 2 none 0 := ⟨t_750, t_751, t_752, t_6, t_753, ⟨by decide +kernel, by decide +kernel, by decide +kernel⟩⟩
theorem l_La_87 : hp_lV BIG "BandPainterLaw" 87 ⟨"BandPainter", "line", "(II)J"⟩ prog_1_method_12_code 3 (some .long) 2 := ⟨t_364, t_365, t_366, t_1, t_367, ⟨by decide +kernel, by decide +kernel, by decide +kernel⟩⟩
theorem l_La_91 : hp_lV BIG "BandPainterLaw" 91 ⟨"BandPainterModel", "line", "(II)J"⟩ prog_9_method_27_code 3 (some .long) 2 := ⟨t_754, t_755, t_756, t_6, t_757, ⟨by decide +kernel, by decide +kernel, by decide +kernel⟩⟩
theorem l_La_94 : hp_lV BIG "BandPainterLaw" 94 ⟨"BandPainterModel", "black", "(II)Z"⟩ prog_9_method_28_code 3 (some .boolean) 2 := ⟨t_758, t_759, t_760, t_6, t_761, ⟨by decide +kernel, by decide +kernel, by decide +kernel⟩⟩
theorem l_La_95 : hp_lV BIG "BandPainterLaw" 95 ⟨"BandPainter", "count", "(II)I"⟩ prog_1_method_14_code 6 (some .int) 2 := ⟨t_404, t_405, t_406, t_1, t_407, ⟨by decide +kernel, by decide +kernel, by decide +kernel⟩⟩
theorem l_La_98 : hp_lV BIG "BandPainterLaw" 98 ⟨"BandPainterModel", "count", "(II)I"⟩ prog_9_method_31_code 5 (some .int) 2 := ⟨t_766, t_767, t_768, t_6, t_769, ⟨by decide +kernel, by decide +kernel, by decide +kernel⟩⟩
theorem l_La_99 : hp_lV BIG "BandPainterLaw" 99 ⟨"BandPainter", "top", "(I)I"⟩ prog_1_method_15_code 3 (some .int) 1 := ⟨t_426, t_427, t_428, t_1, t_429, ⟨by decide +kernel, by decide +kernel, by decide +kernel⟩⟩
theorem l_La_103 : hp_lV BIG "BandPainterLaw" 103 ⟨"BandPainterModel", "top", "(I)I"⟩ prog_9_method_32_code 3 (some .int) 1 := ⟨t_777, t_778, t_779, t_6, t_780, ⟨by decide +kernel, by decide +kernel, by decide +kernel⟩⟩
theorem l_La_104 : hp_lV BIG "BandPainterLaw" 104 ⟨"BandPainter", "of", "(II)I"⟩ prog_1_method_16_code 4 (some .int) 2 := ⟨t_430, t_431, t_432, t_1, t_433, ⟨by decide +kernel, by decide +kernel, by decide +kernel⟩⟩
theorem l_La_107 : hp_lV BIG "BandPainterLaw" 107 ⟨"BandPainterModel", "of", "(II)I"⟩ prog_9_method_33_code 5 (some .int) 2 := ⟨t_781, t_782, t_783, t_6, t_784, ⟨by decide +kernel, by decide +kernel, by decide +kernel⟩⟩
theorem l_La_108 : hp_lV BIG "BandPainterLaw" 108 ⟨"BandPainter", "look", "(I)I"⟩ prog_1_method_17_code 2 (some .int) 1 := ⟨t_442, t_443, t_444, t_1, t_445, ⟨by decide +kernel, by decide +kernel, by decide +kernel⟩⟩
theorem l_La_111 : hp_lV BIG "BandPainterLaw" 111 ⟨"BandPainterModel", "look", "(I)I"⟩ prog_9_method_34_code 2 (some .int) 1 := ⟨t_785, t_786, t_787, t_6, t_788, ⟨by decide +kernel, by decide +kernel, by decide +kernel⟩⟩
abbrev y_BP_init : MethodName := ⟨"BandPainter", "<init>", "(III)V"⟩
abbrev y_BP_shape : MethodName := ⟨"BandPainter", "shape", "(II)I"⟩
abbrev y_BP_draw : MethodName := ⟨"BandPainter", "draw", "(IIJJ)Z"⟩
abbrev y_BP_ink : MethodName := ⟨"BandPainter", "ink", "(II)Z"⟩
abbrev y_BP_mode : MethodName := ⟨"BandPainter", "mode", "(ZZ)V"⟩
abbrev y_BP_turn : MethodName := ⟨"BandPainter", "turn", "(I)Z"⟩
abbrev y_BP_clip : MethodName := ⟨"BandPainter", "clip", "(IIII)Z"⟩
abbrev y_BP_stamp : MethodName := ⟨"BandPainter", "stamp", "(III)Z"⟩
abbrev y_BP_rule : MethodName := ⟨"BandPainter", "rule", "(IIII)Z"⟩
abbrev y_BP_row : MethodName := ⟨"BandPainter", "row", "(IIIIJ)Z"⟩
abbrev y_BP_eject : MethodName := ⟨"BandPainter", "eject", "()V"⟩
abbrev y_BP_line : MethodName := ⟨"BandPainter", "line", "(II)J"⟩
abbrev y_BP_black : MethodName := ⟨"BandPainter", "black", "(II)Z"⟩
abbrev y_BP_count : MethodName := ⟨"BandPainter", "count", "(II)I"⟩
abbrev y_BP_top : MethodName := ⟨"BandPainter", "top", "(I)I"⟩
abbrev y_BP_of : MethodName := ⟨"BandPainter", "of", "(II)I"⟩
abbrev y_BP_look : MethodName := ⟨"BandPainter", "look", "(I)I"⟩
abbrev y_BP_shapeOf : MethodName := ⟨"BandPainter", "shapeOf", "(I)LBandPainter$Shape;"⟩
abbrev y_BP_canLayAt : MethodName := ⟨"BandPainter", "canLayAt", "(II)Z"⟩
abbrev y_BP_lay : MethodName := ⟨"BandPainter", "lay", "(LBandPainter$Picture;IIII)V"⟩
abbrev y_BP_isWithin : MethodName := ⟨"BandPainter", "isWithin", "(III)Z"⟩
abbrev y_BP_within : MethodName := ⟨"BandPainter", "within", "(III)I"⟩
abbrev y_BP_oneIf : MethodName := ⟨"BandPainter", "oneIf", "(Z)I"⟩
abbrev y_BP_firstDots : MethodName := ⟨"BandPainter", "firstDots", "(I)J"⟩
abbrev y_Mo_init : MethodName := ⟨"BandPainterModel", "<init>", "(III)V"⟩
abbrev y_Mo_thrown : MethodName := ⟨"BandPainterModel", "thrown", "()I"⟩
abbrev y_Mo_isIn : MethodName := ⟨"BandPainterModel", "isIn", "(II)Z"⟩
abbrev y_Mo_isBlack : MethodName := ⟨"BandPainterModel", "isBlack", "(II)Z"⟩
abbrev y_Mo_set : MethodName := ⟨"BandPainterModel", "set", "(IIZ)V"⟩
abbrev y_Mo_threshold : MethodName := ⟨"BandPainterModel", "threshold", "(II)I"⟩
abbrev y_Mo_hatch : MethodName := ⟨"BandPainterModel", "hatch", "(III)Z"⟩
abbrev y_Mo_isInk : MethodName := ⟨"BandPainterModel", "isInk", "(II)Z"⟩
abbrev y_Mo_paint : MethodName := ⟨"BandPainterModel", "paint", "(IIZ)V"⟩
abbrev y_Mo_lay : MethodName := ⟨"BandPainterModel", "lay", "(IIIIZ)V"⟩
abbrev y_Mo_shape : MethodName := ⟨"BandPainterModel", "shape", "(II)I"⟩
abbrev y_Mo_isShape : MethodName := ⟨"BandPainterModel", "isShape", "(I)Z"⟩
abbrev y_Mo_highest : MethodName := ⟨"BandPainterModel", "highest", "(JI)J"⟩
abbrev y_Mo_draw : MethodName := ⟨"BandPainterModel", "draw", "(IIJJ)Z"⟩
abbrev y_Mo_shapeDot : MethodName := ⟨"BandPainterModel", "shapeDot", "(III)Z"⟩
abbrev y_Mo_ink : MethodName := ⟨"BandPainterModel", "ink", "(II)Z"⟩
abbrev y_Mo_mode : MethodName := ⟨"BandPainterModel", "mode", "(ZZ)V"⟩
abbrev y_Mo_turn : MethodName := ⟨"BandPainterModel", "turn", "(I)Z"⟩
abbrev y_Mo_clip : MethodName := ⟨"BandPainterModel", "clip", "(IIII)Z"⟩
abbrev y_Mo_isPlace : MethodName := ⟨"BandPainterModel", "isPlace", "(I)Z"⟩
abbrev y_Mo_stamp : MethodName := ⟨"BandPainterModel", "stamp", "(III)Z"⟩
abbrev y_Mo_most : MethodName := ⟨"BandPainterModel", "most", "(II)I"⟩
abbrev y_Mo_least : MethodName := ⟨"BandPainterModel", "least", "(II)I"⟩
abbrev y_Mo_rule : MethodName := ⟨"BandPainterModel", "rule", "(IIII)Z"⟩
abbrev y_Mo_row : MethodName := ⟨"BandPainterModel", "row", "(IIIIJ)Z"⟩
abbrev y_Mo_eject : MethodName := ⟨"BandPainterModel", "eject", "()V"⟩
abbrev y_Mo_line : MethodName := ⟨"BandPainterModel", "line", "(II)J"⟩
abbrev y_Mo_black : MethodName := ⟨"BandPainterModel", "black", "(II)Z"⟩
abbrev y_Mo_ones : MethodName := ⟨"BandPainterModel", "ones", "(J)I"⟩
abbrev y_Mo_blacksOf : MethodName := ⟨"BandPainterModel", "blacksOf", "(I)I"⟩
abbrev y_Mo_count : MethodName := ⟨"BandPainterModel", "count", "(II)I"⟩
abbrev y_Mo_top : MethodName := ⟨"BandPainterModel", "top", "(I)I"⟩
abbrev y_Mo_of : MethodName := ⟨"BandPainterModel", "of", "(II)I"⟩
abbrev y_Mo_look : MethodName := ⟨"BandPainterModel", "look", "(I)I"⟩
abbrev y_Bx_init : MethodName := ⟨"BandPainter$Box", "<init>", "(IIII)V"⟩
abbrev y_Bx_common : MethodName := ⟨"BandPainter$Box", "common", "(LBandPainter$Box;)LBandPainter$Box;"⟩
abbrev y_Bx_isEmpty : MethodName := ⟨"BandPainter$Box", "isEmpty", "()Z"⟩
abbrev y_Bx_meetsLine : MethodName := ⟨"BandPainter$Box", "meetsLine", "(I)Z"⟩
abbrev y_Bx_dotsOfWord : MethodName := ⟨"BandPainter$Box", "dotsOfWord", "(I)J"⟩
abbrev y_In_init : MethodName := ⟨"BandPainter$Ink", "<init>", "(II)V"⟩
abbrev y_In_exists : MethodName := ⟨"BandPainter$Ink", "exists", "(II)Z"⟩
abbrev y_In_dotsAt : MethodName := ⟨"BandPainter$Ink", "dotsAt", "(I)J"⟩
abbrev y_In_dotsOfLine : MethodName := ⟨"BandPainter$Ink", "dotsOfLine", "(III)J"⟩
abbrev y_In_isShaded : MethodName := ⟨"BandPainter$Ink", "isShaded", "(III)Z"⟩
abbrev y_In_isHatched : MethodName := ⟨"BandPainter$Ink", "isHatched", "(III)Z"⟩
abbrev y_Mk_init : MethodName := ⟨"BandPainter$Mark", "<init>", "(LBandPainter$Picture;IILBandPainter$Box;LBandPainter$Ink;ZZ)V"⟩
abbrev y_Pc_init : MethodName := ⟨"BandPainter$Picture", "<init>", "(III)V"⟩
abbrev y_Pc_setDots : MethodName := ⟨"BandPainter$Picture", "setDots", "(IJJ)V"⟩
abbrev y_Pc_blacks : MethodName := ⟨"BandPainter$Picture", "blacks", "()I"⟩
abbrev y_Pc_dotsFrom : MethodName := ⟨"BandPainter$Picture", "dotsFrom", "(II)J"⟩
abbrev y_Pc_turnedBy : MethodName := ⟨"BandPainter$Picture", "turnedBy", "(I)LBandPainter$Picture;"⟩
abbrev y_Pc_enlarged : MethodName := ⟨"BandPainter$Picture", "enlarged", "(I)LBandPainter$Picture;"⟩
abbrev y_Pc_blackenTurned : MethodName := ⟨"BandPainter$Picture", "blackenTurned", "(III)V"⟩
abbrev y_Pc_isBlack : MethodName := ⟨"BandPainter$Picture", "isBlack", "(II)Z"⟩
abbrev y_Pc_blacken : MethodName := ⟨"BandPainter$Picture", "blacken", "(II)V"⟩
abbrev y_Pc_wordAt : MethodName := ⟨"BandPainter$Picture", "wordAt", "(II)J"⟩
abbrev y_Pc_setWord : MethodName := ⟨"BandPainter$Picture", "setWord", "(IIJ)V"⟩
abbrev y_Pc_hasWord : MethodName := ⟨"BandPainter$Picture", "hasWord", "(II)Z"⟩
abbrev y_Pl_init : MethodName := ⟨"BandPainter$Pile", "<init>", "(I)V"⟩
abbrev y_Pl_clear : MethodName := ⟨"BandPainter$Pile", "clear", "()V"⟩
abbrev y_Pl_add : MethodName := ⟨"BandPainter$Pile", "add", "(LBandPainter$Mark;)V"⟩
abbrev y_Pl_stir : MethodName := ⟨"BandPainter$Pile", "stir", "(LBandPainter$Mark;)V"⟩
abbrev y_Pl_wordOf : MethodName := ⟨"BandPainter$Pile", "wordOf", "(II)J"⟩
abbrev y_Pl_blacksOf : MethodName := ⟨"BandPainter$Pile", "blacksOf", "(I)I"⟩
abbrev y_Pl_isLikeAbove : MethodName := ⟨"BandPainter$Pile", "isLikeAbove", "(I)Z"⟩
abbrev y_Pl_countedBlacks : MethodName := ⟨"BandPainter$Pile", "countedBlacks", "(I)I"⟩
abbrev y_Pl_newestOnLine : MethodName := ⟨"BandPainter$Pile", "newestOnLine", "(I)LBandPainter$Mark;"⟩
abbrev y_Pl_wordUnder : MethodName := ⟨"BandPainter$Pile", "wordUnder", "(LBandPainter$Mark;II)J"⟩
abbrev y_Sh_init : MethodName := ⟨"BandPainter$Shape", "<init>", "(II)V"⟩
abbrev y_Sh_redraw : MethodName := ⟨"BandPainter$Shape", "redraw", "(IJJ)V"⟩
abbrev y_Sh_turnedBy : MethodName := ⟨"BandPainter$Shape", "turnedBy", "(I)LBandPainter$Picture;"⟩
abbrev y_La_cell : MethodName := ⟨"BandPainterLaw", "cell", "([II)I"⟩
abbrev y_La_shape : MethodName := ⟨"BandPainterLaw", "shape", "(LBandPainter;II[J)I"⟩
abbrev y_La_black : MethodName := ⟨"BandPainterLaw", "black", "(LBandPainter;II[J)I"⟩
abbrev y_JL_bitCount : MethodName := ⟨"java/lang/Long", "bitCount", "(J)I"⟩
abbrev y_JM_floorDiv : MethodName := ⟨"java/lang/Math", "floorDiv", "(II)I"⟩
abbrev y_JM_floorMod : MethodName := ⟨"java/lang/Math", "floorMod", "(II)I"⟩
abbrev y_JA_fill : MethodName := ⟨"java/util/Arrays", "fill", "([II)V"⟩
end
section
theorem d_Bx_init_0 : decode prog_2_method_1_code 0 = .ok (.aload_n 0, 1) := by decide +kernel
theorem d_Bx_init_1 : decode prog_2_method_1_code 1 = .ok (.invokespecial 3, 3) := by decide +kernel
theorem d_Bx_init_4 : decode prog_2_method_1_code 4 = .ok (.aload_n 0, 1) := by decide +kernel
theorem d_Bx_init_5 : decode prog_2_method_1_code 5 = .ok (.iload_n 1, 1) := by decide +kernel
theorem d_Bx_init_6 : decode prog_2_method_1_code 6 = .ok (.putfield 9, 3) := by decide +kernel
theorem d_Bx_init_9 : decode prog_2_method_1_code 9 = .ok (.aload_n 0, 1) := by decide +kernel
theorem d_Bx_init_10 : decode prog_2_method_1_code 10 = .ok (.iload_n 2, 1) := by decide +kernel
theorem d_Bx_init_11 : decode prog_2_method_1_code 11 = .ok (.putfield 15, 3) := by decide +kernel
theorem d_Bx_init_14 : decode prog_2_method_1_code 14 = .ok (.aload_n 0, 1) := by decide +kernel
theorem d_Bx_init_15 : decode prog_2_method_1_code 15 = .ok (.iload_n 3, 1) := by decide +kernel
theorem d_Bx_init_16 : decode prog_2_method_1_code 16 = .ok (.putfield 18, 3) := by decide +kernel
theorem d_Bx_init_19 : decode prog_2_method_1_code 19 = .ok (.aload_n 0, 1) := by decide +kernel
theorem d_Bx_init_20 : decode prog_2_method_1_code 20 = .ok (.iload 4, 2) := by decide +kernel
theorem d_Bx_init_22 : decode prog_2_method_1_code 22 = .ok (.putfield 21, 3) := by decide +kernel
theorem d_Bx_init_25 : decode prog_2_method_1_code 25 = .ok (.return_, 1) := by decide +kernel
theorem d_Bx_common_0 : decode prog_2_method_2_code 0 = .ok (.new 10, 3) := by decide +kernel
theorem d_Bx_common_3 : decode prog_2_method_2_code 3 = .ok (.dup, 1) := by decide +kernel
theorem d_Bx_common_4 : decode prog_2_method_2_code 4 = .ok (.aload_n 0, 1) := by decide +kernel
theorem d_Bx_common_5 : decode prog_2_method_2_code 5 = .ok (.getfield 9, 3) := by decide +kernel
theorem d_Bx_common_8 : decode prog_2_method_2_code 8 = .ok (.aload_n 1, 1) := by decide +kernel
theorem d_Bx_common_9 : decode prog_2_method_2_code 9 = .ok (.getfield 9, 3) := by decide +kernel
theorem d_Bx_common_12 : decode prog_2_method_2_code 12 = .ok (.invokestatic 24, 3) := by decide +kernel
theorem d_Bx_common_15 : decode prog_2_method_2_code 15 = .ok (.aload_n 0, 1) := by decide +kernel
theorem d_Bx_common_16 : decode prog_2_method_2_code 16 = .ok (.getfield 15, 3) := by decide +kernel
theorem d_Bx_common_19 : decode prog_2_method_2_code 19 = .ok (.aload_n 1, 1) := by decide +kernel
theorem d_Bx_common_20 : decode prog_2_method_2_code 20 = .ok (.getfield 15, 3) := by decide +kernel
theorem d_Bx_common_23 : decode prog_2_method_2_code 23 = .ok (.invokestatic 24, 3) := by decide +kernel
theorem d_Bx_common_26 : decode prog_2_method_2_code 26 = .ok (.aload_n 0, 1) := by decide +kernel
theorem d_Bx_common_27 : decode prog_2_method_2_code 27 = .ok (.getfield 18, 3) := by decide +kernel
theorem d_Bx_common_30 : decode prog_2_method_2_code 30 = .ok (.aload_n 1, 1) := by decide +kernel
theorem d_Bx_common_31 : decode prog_2_method_2_code 31 = .ok (.getfield 18, 3) := by decide +kernel
theorem d_Bx_common_34 : decode prog_2_method_2_code 34 = .ok (.invokestatic 30, 3) := by decide +kernel
theorem d_Bx_common_37 : decode prog_2_method_2_code 37 = .ok (.aload_n 0, 1) := by decide +kernel
theorem d_Bx_common_38 : decode prog_2_method_2_code 38 = .ok (.getfield 21, 3) := by decide +kernel
theorem d_Bx_common_41 : decode prog_2_method_2_code 41 = .ok (.aload_n 1, 1) := by decide +kernel
theorem d_Bx_common_42 : decode prog_2_method_2_code 42 = .ok (.getfield 21, 3) := by decide +kernel
theorem d_Bx_common_45 : decode prog_2_method_2_code 45 = .ok (.invokestatic 30, 3) := by decide +kernel
theorem d_Bx_common_48 : decode prog_2_method_2_code 48 = .ok (.invokespecial 33, 3) := by decide +kernel
theorem d_Bx_common_51 : decode prog_2_method_2_code 51 = .ok (.areturn, 1) := by decide +kernel
theorem d_Bx_isEmpty_0 : decode prog_2_method_3_code 0 = .ok (.aload_n 0, 1) := by decide +kernel
theorem d_Bx_isEmpty_1 : decode prog_2_method_3_code 1 = .ok (.getfield 9, 3) := by decide +kernel
theorem d_Bx_isEmpty_4 : decode prog_2_method_3_code 4 = .ok (.aload_n 0, 1) := by decide +kernel
theorem d_Bx_isEmpty_5 : decode prog_2_method_3_code 5 = .ok (.getfield 18, 3) := by decide +kernel
theorem d_Bx_isEmpty_8 : decode prog_2_method_3_code 8 = .ok (.if_icmp .gt 14, 3) := by decide +kernel
theorem d_Bx_isEmpty_11 : decode prog_2_method_3_code 11 = .ok (.aload_n 0, 1) := by decide +kernel
theorem d_Bx_isEmpty_12 : decode prog_2_method_3_code 12 = .ok (.getfield 15, 3) := by decide +kernel
theorem d_Bx_isEmpty_15 : decode prog_2_method_3_code 15 = .ok (.aload_n 0, 1) := by decide +kernel
theorem d_Bx_isEmpty_16 : decode prog_2_method_3_code 16 = .ok (.getfield 21, 3) := by decide +kernel
theorem d_Bx_isEmpty_19 : decode prog_2_method_3_code 19 = .ok (.if_icmp .le 7, 3) := by decide +kernel
theorem d_Bx_isEmpty_22 : decode prog_2_method_3_code 22 = .ok (.iconst 1, 1) := by decide +kernel
theorem d_Bx_isEmpty_23 : decode prog_2_method_3_code 23 = .ok (.goto 4, 3) := by decide +kernel
theorem d_Bx_isEmpty_26 : decode prog_2_method_3_code 26 = .ok (.iconst 0, 1) := by decide +kernel
theorem d_Bx_isEmpty_27 : decode prog_2_method_3_code 27 = .ok (.ireturn, 1) := by decide +kernel
theorem d_Bx_meetsLine_0 : decode prog_2_method_4_code 0 = .ok (.aload_n 0, 1) := by decide +kernel
theorem d_Bx_meetsLine_1 : decode prog_2_method_4_code 1 = .ok (.getfield 15, 3) := by decide +kernel
theorem d_Bx_meetsLine_4 : decode prog_2_method_4_code 4 = .ok (.iload_n 1, 1) := by decide +kernel
theorem d_Bx_meetsLine_5 : decode prog_2_method_4_code 5 = .ok (.if_icmp .gt 15, 3) := by decide +kernel
theorem d_Bx_meetsLine_8 : decode prog_2_method_4_code 8 = .ok (.iload_n 1, 1) := by decide +kernel
theorem d_Bx_meetsLine_9 : decode prog_2_method_4_code 9 = .ok (.aload_n 0, 1) := by decide +kernel
theorem d_Bx_meetsLine_10 : decode prog_2_method_4_code 10 = .ok (.getfield 21, 3) := by decide +kernel
theorem d_Bx_meetsLine_13 : decode prog_2_method_4_code 13 = .ok (.if_icmp .gt 7, 3) := by decide +kernel
theorem d_Bx_meetsLine_16 : decode prog_2_method_4_code 16 = .ok (.iconst 1, 1) := by decide +kernel
theorem d_Bx_meetsLine_17 : decode prog_2_method_4_code 17 = .ok (.goto 4, 3) := by decide +kernel
theorem d_Bx_meetsLine_20 : decode prog_2_method_4_code 20 = .ok (.iconst 0, 1) := by decide +kernel
theorem d_Bx_meetsLine_21 : decode prog_2_method_4_code 21 = .ok (.ireturn, 1) := by decide +kernel
theorem d_Bx_dotsOfWord_0 : decode prog_2_method_5_code 0 = .ok (.iload_n 1, 1) := by decide +kernel
theorem d_Bx_dotsOfWord_1 : decode prog_2_method_5_code 1 = .ok (.bipush 64, 2) := by decide +kernel
theorem d_Bx_dotsOfWord_3 : decode prog_2_method_5_code 3 = .ok (.imul, 1) := by decide +kernel
theorem d_Bx_dotsOfWord_4 : decode prog_2_method_5_code 4 = .ok (.istore_n 2, 1) := by decide +kernel
theorem d_Bx_dotsOfWord_5 : decode prog_2_method_5_code 5 = .ok (.aload_n 0, 1) := by decide +kernel
theorem d_Bx_dotsOfWord_6 : decode prog_2_method_5_code 6 = .ok (.getfield 18, 3) := by decide +kernel
theorem d_Bx_dotsOfWord_9 : decode prog_2_method_5_code 9 = .ok (.iconst 1, 1) := by decide +kernel
theorem d_Bx_dotsOfWord_10 : decode prog_2_method_5_code 10 = .ok (.iadd, 1) := by decide +kernel
theorem d_Bx_dotsOfWord_11 : decode prog_2_method_5_code 11 = .ok (.iload_n 2, 1) := by decide +kernel
theorem d_Bx_dotsOfWord_12 : decode prog_2_method_5_code 12 = .ok (.isub, 1) := by decide +kernel
theorem d_Bx_dotsOfWord_13 : decode prog_2_method_5_code 13 = .ok (.invokestatic 36, 3) := by decide +kernel
theorem d_Bx_dotsOfWord_16 : decode prog_2_method_5_code 16 = .ok (.aload_n 0, 1) := by decide +kernel
theorem d_Bx_dotsOfWord_17 : decode prog_2_method_5_code 17 = .ok (.getfield 9, 3) := by decide +kernel
theorem d_Bx_dotsOfWord_20 : decode prog_2_method_5_code 20 = .ok (.iload_n 2, 1) := by decide +kernel
theorem d_Bx_dotsOfWord_21 : decode prog_2_method_5_code 21 = .ok (.isub, 1) := by decide +kernel
theorem d_Bx_dotsOfWord_22 : decode prog_2_method_5_code 22 = .ok (.invokestatic 36, 3) := by decide +kernel
theorem d_Bx_dotsOfWord_25 : decode prog_2_method_5_code 25 = .ok (.ldc2_w 40, 3) := by decide +kernel
theorem d_Bx_dotsOfWord_28 : decode prog_2_method_5_code 28 = .ok (.lxor, 1) := by decide +kernel
theorem d_Bx_dotsOfWord_29 : decode prog_2_method_5_code 29 = .ok (.land, 1) := by decide +kernel
theorem d_Bx_dotsOfWord_30 : decode prog_2_method_5_code 30 = .ok (.lreturn, 1) := by decide +kernel
theorem d_In_init_0 : decode prog_3_method_1_code 0 = .ok (.aload_n 0, 1) := by decide +kernel
theorem d_In_init_1 : decode prog_3_method_1_code 1 = .ok (.invokespecial 3, 3) := by decide +kernel
theorem d_In_init_4 : decode prog_3_method_1_code 4 = .ok (.aload_n 0, 1) := by decide +kernel
theorem d_In_init_5 : decode prog_3_method_1_code 5 = .ok (.iload_n 1, 1) := by decide +kernel
theorem d_In_init_6 : decode prog_3_method_1_code 6 = .ok (.putfield 9, 3) := by decide +kernel
theorem d_In_init_9 : decode prog_3_method_1_code 9 = .ok (.aload_n 0, 1) := by decide +kernel
theorem d_In_init_10 : decode prog_3_method_1_code 10 = .ok (.iload_n 1, 1) := by decide +kernel
theorem d_In_init_11 : decode prog_3_method_1_code 11 = .ok (.ifCond .eq 8, 3) := by decide +kernel
theorem d_In_init_14 : decode prog_3_method_1_code 14 = .ok (.iload_n 1, 1) := by decide +kernel
theorem d_In_init_15 : decode prog_3_method_1_code 15 = .ok (.iconst 1, 1) := by decide +kernel
theorem d_In_init_16 : decode prog_3_method_1_code 16 = .ok (.if_icmp .ne 7, 3) := by decide +kernel
theorem d_In_init_19 : decode prog_3_method_1_code 19 = .ok (.iconst 0, 1) := by decide +kernel
theorem d_In_init_20 : decode prog_3_method_1_code 20 = .ok (.goto 4, 3) := by decide +kernel
theorem d_In_init_23 : decode prog_3_method_1_code 23 = .ok (.iload_n 2, 1) := by decide +kernel
theorem d_In_init_24 : decode prog_3_method_1_code 24 = .ok (.putfield 15, 3) := by decide +kernel
theorem d_In_init_27 : decode prog_3_method_1_code 27 = .ok (.aload_n 0, 1) := by decide +kernel
theorem d_In_init_28 : decode prog_3_method_1_code 28 = .ok (.bipush 16, 2) := by decide +kernel
theorem d_In_init_30 : decode prog_3_method_1_code 30 = .ok (.newarray .long, 2) := by decide +kernel
theorem d_In_init_32 : decode prog_3_method_1_code 32 = .ok (.putfield 18, 3) := by decide +kernel
theorem d_In_init_35 : decode prog_3_method_1_code 35 = .ok (.iconst 0, 1) := by decide +kernel
theorem d_In_init_36 : decode prog_3_method_1_code 36 = .ok (.istore_n 3, 1) := by decide +kernel
theorem d_In_init_37 : decode prog_3_method_1_code 37 = .ok (.iload_n 3, 1) := by decide +kernel
theorem d_In_init_38 : decode prog_3_method_1_code 38 = .ok (.bipush 16, 2) := by decide +kernel
theorem d_In_init_40 : decode prog_3_method_1_code 40 = .ok (.if_icmp .ge 21, 3) := by decide +kernel
theorem d_In_init_43 : decode prog_3_method_1_code 43 = .ok (.aload_n 0, 1) := by decide +kernel
theorem d_In_init_44 : decode prog_3_method_1_code 44 = .ok (.getfield 18, 3) := by decide +kernel
theorem d_In_init_47 : decode prog_3_method_1_code 47 = .ok (.iload_n 3, 1) := by decide +kernel
theorem d_In_init_48 : decode prog_3_method_1_code 48 = .ok (.iload_n 1, 1) := by decide +kernel
theorem d_In_init_49 : decode prog_3_method_1_code 49 = .ok (.iload_n 2, 1) := by decide +kernel
theorem d_In_init_50 : decode prog_3_method_1_code 50 = .ok (.iload_n 3, 1) := by decide +kernel
theorem d_In_init_51 : decode prog_3_method_1_code 51 = .ok (.invokestatic 22, 3) := by decide +kernel
theorem d_In_init_54 : decode prog_3_method_1_code 54 = .ok (.lastore, 1) := by decide +kernel
theorem d_In_init_55 : decode prog_3_method_1_code 55 = .ok (.iinc 3 1, 3) := by decide +kernel
theorem d_In_init_58 : decode prog_3_method_1_code 58 = .ok (.goto (-21), 3) := by decide +kernel
theorem d_In_init_61 : decode prog_3_method_1_code 61 = .ok (.return_, 1) := by decide +kernel
theorem d_In_exists_0 : decode prog_3_method_2_code 0 = .ok (.iload_n 0, 1) := by decide +kernel
theorem d_In_exists_1 : decode prog_3_method_2_code 1 = .ok (.tableswitch 51 0 3 #[31, 33, 35, 43], 31) := by decide +kernel
theorem d_In_exists_32 : decode prog_3_method_2_code 32 = .ok (.iconst 1, 1) := by decide +kernel
theorem d_In_exists_33 : decode prog_3_method_2_code 33 = .ok (.ireturn, 1) := by decide +kernel
theorem d_In_exists_34 : decode prog_3_method_2_code 34 = .ok (.iconst 1, 1) := by decide +kernel
theorem d_In_exists_35 : decode prog_3_method_2_code 35 = .ok (.ireturn, 1) := by decide +kernel
theorem d_In_exists_36 : decode prog_3_method_2_code 36 = .ok (.iconst 1, 1) := by decide +kernel
theorem d_In_exists_37 : decode prog_3_method_2_code 37 = .ok (.iload_n 1, 1) := by decide +kernel
theorem d_In_exists_38 : decode prog_3_method_2_code 38 = .ok (.bipush 100, 2) := by decide +kernel
theorem d_In_exists_40 : decode prog_3_method_2_code 40 = .ok (.invokestatic 26, 3) := by decide +kernel
theorem d_In_exists_43 : decode prog_3_method_2_code 43 = .ok (.ireturn, 1) := by decide +kernel
theorem d_In_exists_44 : decode prog_3_method_2_code 44 = .ok (.iconst 1, 1) := by decide +kernel
theorem d_In_exists_45 : decode prog_3_method_2_code 45 = .ok (.iload_n 1, 1) := by decide +kernel
theorem d_In_exists_46 : decode prog_3_method_2_code 46 = .ok (.bipush 6, 2) := by decide +kernel
theorem d_In_exists_48 : decode prog_3_method_2_code 48 = .ok (.invokestatic 26, 3) := by decide +kernel
theorem d_In_exists_51 : decode prog_3_method_2_code 51 = .ok (.ireturn, 1) := by decide +kernel
theorem d_In_exists_52 : decode prog_3_method_2_code 52 = .ok (.iconst 0, 1) := by decide +kernel
theorem d_In_exists_53 : decode prog_3_method_2_code 53 = .ok (.ireturn, 1) := by decide +kernel
theorem d_In_dotsAt_0 : decode prog_3_method_3_code 0 = .ok (.aload_n 0, 1) := by decide +kernel
theorem d_In_dotsAt_1 : decode prog_3_method_3_code 1 = .ok (.getfield 18, 3) := by decide +kernel
theorem d_In_dotsAt_4 : decode prog_3_method_3_code 4 = .ok (.iload_n 1, 1) := by decide +kernel
theorem d_In_dotsAt_5 : decode prog_3_method_3_code 5 = .ok (.bipush 15, 2) := by decide +kernel
theorem d_In_dotsAt_7 : decode prog_3_method_3_code 7 = .ok (.iand, 1) := by decide +kernel
theorem d_In_dotsAt_8 : decode prog_3_method_3_code 8 = .ok (.laload, 1) := by decide +kernel
theorem d_In_dotsAt_9 : decode prog_3_method_3_code 9 = .ok (.lreturn, 1) := by decide +kernel
theorem d_In_dotsOfLine_0 : decode prog_3_method_4_code 0 = .ok (.iload_n 0, 1) := by decide +kernel
theorem d_In_dotsOfLine_1 : decode prog_3_method_4_code 1 = .ok (.ifCond .ne 7, 3) := by decide +kernel
theorem d_In_dotsOfLine_4 : decode prog_3_method_4_code 4 = .ok (.ldc2_w 30, 3) := by decide +kernel
theorem d_In_dotsOfLine_7 : decode prog_3_method_4_code 7 = .ok (.lreturn, 1) := by decide +kernel
theorem d_In_dotsOfLine_8 : decode prog_3_method_4_code 8 = .ok (.iload_n 0, 1) := by decide +kernel
theorem d_In_dotsOfLine_9 : decode prog_3_method_4_code 9 = .ok (.iconst 1, 1) := by decide +kernel
theorem d_In_dotsOfLine_10 : decode prog_3_method_4_code 10 = .ok (.if_icmp .ne 5, 3) := by decide +kernel
theorem d_In_dotsOfLine_13 : decode prog_3_method_4_code 13 = .ok (.lconst 0, 1) := by decide +kernel
theorem d_In_dotsOfLine_14 : decode prog_3_method_4_code 14 = .ok (.lreturn, 1) := by decide +kernel
theorem d_In_dotsOfLine_15 : decode prog_3_method_4_code 15 = .ok (.lconst 0, 1) := by decide +kernel
theorem d_In_dotsOfLine_16 : decode prog_3_method_4_code 16 = .ok (.lstore_n 3, 1) := by decide +kernel
theorem d_In_dotsOfLine_17 : decode prog_3_method_4_code 17 = .ok (.iconst 0, 1) := by decide +kernel
theorem d_In_dotsOfLine_18 : decode prog_3_method_4_code 18 = .ok (.istore 5, 2) := by decide +kernel
theorem d_In_dotsOfLine_20 : decode prog_3_method_4_code 20 = .ok (.iload 5, 2) := by decide +kernel
theorem d_In_dotsOfLine_22 : decode prog_3_method_4_code 22 = .ok (.bipush 16, 2) := by decide +kernel
theorem d_In_dotsOfLine_24 : decode prog_3_method_4_code 24 = .ok (.if_icmp .ge 46, 3) := by decide +kernel
theorem d_In_dotsOfLine_27 : decode prog_3_method_4_code 27 = .ok (.iload_n 0, 1) := by decide +kernel
theorem d_In_dotsOfLine_28 : decode prog_3_method_4_code 28 = .ok (.iconst 2, 1) := by decide +kernel
theorem d_In_dotsOfLine_29 : decode prog_3_method_4_code 29 = .ok (.if_icmp .ne 16, 3) := by decide +kernel
theorem d_In_dotsOfLine_32 : decode prog_3_method_4_code 32 = .ok (.iload_n 1, 1) := by decide +kernel
theorem d_In_dotsOfLine_33 : decode prog_3_method_4_code 33 = .ok (.iload 5, 2) := by decide +kernel
theorem d_In_dotsOfLine_35 : decode prog_3_method_4_code 35 = .ok (.iload_n 2, 1) := by decide +kernel
theorem d_In_dotsOfLine_36 : decode prog_3_method_4_code 36 = .ok (.invokestatic 32, 3) := by decide +kernel
theorem d_In_dotsOfLine_39 : decode prog_3_method_4_code 39 = .ok (.ifCond .eq 25, 3) := by decide +kernel
theorem d_In_dotsOfLine_42 : decode prog_3_method_4_code 42 = .ok (.goto 13, 3) := by decide +kernel
theorem d_In_dotsOfLine_45 : decode prog_3_method_4_code 45 = .ok (.iload_n 1, 1) := by decide +kernel
theorem d_In_dotsOfLine_46 : decode prog_3_method_4_code 46 = .ok (.iload 5, 2) := by decide +kernel
theorem d_In_dotsOfLine_48 : decode prog_3_method_4_code 48 = .ok (.iload_n 2, 1) := by decide +kernel
theorem d_In_dotsOfLine_49 : decode prog_3_method_4_code 49 = .ok (.invokestatic 35, 3) := by decide +kernel
theorem d_In_dotsOfLine_52 : decode prog_3_method_4_code 52 = .ok (.ifCond .eq 12, 3) := by decide +kernel
theorem d_In_dotsOfLine_55 : decode prog_3_method_4_code 55 = .ok (.lload_n 3, 1) := by decide +kernel
theorem d_In_dotsOfLine_56 : decode prog_3_method_4_code 56 = .ok (.ldc2_w 38, 3) := by decide +kernel
theorem d_In_dotsOfLine_59 : decode prog_3_method_4_code 59 = .ok (.iload 5, 2) := by decide +kernel
theorem d_In_dotsOfLine_61 : decode prog_3_method_4_code 61 = .ok (.lushr, 1) := by decide +kernel
theorem d_In_dotsOfLine_62 : decode prog_3_method_4_code 62 = .ok (.lor, 1) := by decide +kernel
theorem d_In_dotsOfLine_63 : decode prog_3_method_4_code 63 = .ok (.lstore_n 3, 1) := by decide +kernel
theorem d_In_dotsOfLine_64 : decode prog_3_method_4_code 64 = .ok (.iinc 5 1, 3) := by decide +kernel
theorem d_In_dotsOfLine_67 : decode prog_3_method_4_code 67 = .ok (.goto (-47), 3) := by decide +kernel
theorem d_In_dotsOfLine_70 : decode prog_3_method_4_code 70 = .ok (.lload_n 3, 1) := by decide +kernel
theorem d_In_dotsOfLine_71 : decode prog_3_method_4_code 71 = .ok (.lload_n 3, 1) := by decide +kernel
theorem d_In_dotsOfLine_72 : decode prog_3_method_4_code 72 = .ok (.bipush 16, 2) := by decide +kernel
theorem d_In_dotsOfLine_74 : decode prog_3_method_4_code 74 = .ok (.lushr, 1) := by decide +kernel
theorem d_In_dotsOfLine_75 : decode prog_3_method_4_code 75 = .ok (.lor, 1) := by decide +kernel
theorem d_In_dotsOfLine_76 : decode prog_3_method_4_code 76 = .ok (.lstore_n 3, 1) := by decide +kernel
theorem d_In_dotsOfLine_77 : decode prog_3_method_4_code 77 = .ok (.lload_n 3, 1) := by decide +kernel
theorem d_In_dotsOfLine_78 : decode prog_3_method_4_code 78 = .ok (.lload_n 3, 1) := by decide +kernel
theorem d_In_dotsOfLine_79 : decode prog_3_method_4_code 79 = .ok (.bipush 32, 2) := by decide +kernel
theorem d_In_dotsOfLine_81 : decode prog_3_method_4_code 81 = .ok (.lushr, 1) := by decide +kernel
theorem d_In_dotsOfLine_82 : decode prog_3_method_4_code 82 = .ok (.lor, 1) := by decide +kernel
theorem d_In_dotsOfLine_83 : decode prog_3_method_4_code 83 = .ok (.lreturn, 1) := by decide +kernel
theorem d_In_isShaded_0 : decode prog_3_method_5_code 0 = .ok (.iconst 0, 1) := by decide +kernel
theorem d_In_isShaded_1 : decode prog_3_method_5_code 1 = .ok (.istore_n 3, 1) := by decide +kernel
theorem d_In_isShaded_2 : decode prog_3_method_5_code 2 = .ok (.iconst 0, 1) := by decide +kernel
theorem d_In_isShaded_3 : decode prog_3_method_5_code 3 = .ok (.istore 4, 2) := by decide +kernel
theorem d_In_isShaded_5 : decode prog_3_method_5_code 5 = .ok (.iload 4, 2) := by decide +kernel
theorem d_In_isShaded_7 : decode prog_3_method_5_code 7 = .ok (.iconst 3, 1) := by decide +kernel
theorem d_In_isShaded_8 : decode prog_3_method_5_code 8 = .ok (.if_icmp .ge 52, 3) := by decide +kernel
theorem d_In_isShaded_11 : decode prog_3_method_5_code 11 = .ok (.iload_n 1, 1) := by decide +kernel
theorem d_In_isShaded_12 : decode prog_3_method_5_code 12 = .ok (.iload 4, 2) := by decide +kernel
theorem d_In_isShaded_14 : decode prog_3_method_5_code 14 = .ok (.ishr, 1) := by decide +kernel
theorem d_In_isShaded_15 : decode prog_3_method_5_code 15 = .ok (.iconst 1, 1) := by decide +kernel
theorem d_In_isShaded_16 : decode prog_3_method_5_code 16 = .ok (.iand, 1) := by decide +kernel
theorem d_In_isShaded_17 : decode prog_3_method_5_code 17 = .ok (.istore 5, 2) := by decide +kernel
theorem d_In_isShaded_19 : decode prog_3_method_5_code 19 = .ok (.iload_n 2, 1) := by decide +kernel
theorem d_In_isShaded_20 : decode prog_3_method_5_code 20 = .ok (.iload 4, 2) := by decide +kernel
theorem d_In_isShaded_22 : decode prog_3_method_5_code 22 = .ok (.ishr, 1) := by decide +kernel
theorem d_In_isShaded_23 : decode prog_3_method_5_code 23 = .ok (.iconst 1, 1) := by decide +kernel
theorem d_In_isShaded_24 : decode prog_3_method_5_code 24 = .ok (.iand, 1) := by decide +kernel
theorem d_In_isShaded_25 : decode prog_3_method_5_code 25 = .ok (.istore 6, 2) := by decide +kernel
theorem d_In_isShaded_27 : decode prog_3_method_5_code 27 = .ok (.iload_n 3, 1) := by decide +kernel
theorem d_In_isShaded_28 : decode prog_3_method_5_code 28 = .ok (.bipush 32, 2) := by decide +kernel
theorem d_In_isShaded_30 : decode prog_3_method_5_code 30 = .ok (.iconst 2, 1) := by decide +kernel
theorem d_In_isShaded_31 : decode prog_3_method_5_code 31 = .ok (.iload 4, 2) := by decide +kernel
theorem d_In_isShaded_33 : decode prog_3_method_5_code 33 = .ok (.imul, 1) := by decide +kernel
theorem d_In_isShaded_34 : decode prog_3_method_5_code 34 = .ok (.ishr, 1) := by decide +kernel
theorem d_In_isShaded_35 : decode prog_3_method_5_code 35 = .ok (.iload 5, 2) := by decide +kernel
theorem d_In_isShaded_37 : decode prog_3_method_5_code 37 = .ok (.iload 6, 2) := by decide +kernel
theorem d_In_isShaded_39 : decode prog_3_method_5_code 39 = .ok (.ixor, 1) := by decide +kernel
theorem d_In_isShaded_40 : decode prog_3_method_5_code 40 = .ok (.imul, 1) := by decide +kernel
theorem d_In_isShaded_41 : decode prog_3_method_5_code 41 = .ok (.bipush 16, 2) := by decide +kernel
theorem d_In_isShaded_43 : decode prog_3_method_5_code 43 = .ok (.iconst 2, 1) := by decide +kernel
theorem d_In_isShaded_44 : decode prog_3_method_5_code 44 = .ok (.iload 4, 2) := by decide +kernel
theorem d_In_isShaded_46 : decode prog_3_method_5_code 46 = .ok (.imul, 1) := by decide +kernel
theorem d_In_isShaded_47 : decode prog_3_method_5_code 47 = .ok (.ishr, 1) := by decide +kernel
theorem d_In_isShaded_48 : decode prog_3_method_5_code 48 = .ok (.iload 6, 2) := by decide +kernel
theorem d_In_isShaded_50 : decode prog_3_method_5_code 50 = .ok (.imul, 1) := by decide +kernel
theorem d_In_isShaded_51 : decode prog_3_method_5_code 51 = .ok (.iadd, 1) := by decide +kernel
theorem d_In_isShaded_52 : decode prog_3_method_5_code 52 = .ok (.iadd, 1) := by decide +kernel
theorem d_In_isShaded_53 : decode prog_3_method_5_code 53 = .ok (.istore_n 3, 1) := by decide +kernel
theorem d_In_isShaded_54 : decode prog_3_method_5_code 54 = .ok (.iinc 4 1, 3) := by decide +kernel
theorem d_In_isShaded_57 : decode prog_3_method_5_code 57 = .ok (.goto (-52), 3) := by decide +kernel
theorem d_In_isShaded_60 : decode prog_3_method_5_code 60 = .ok (.iload_n 3, 1) := by decide +kernel
theorem d_In_isShaded_61 : decode prog_3_method_5_code 61 = .ok (.bipush 64, 2) := by decide +kernel
theorem d_In_isShaded_63 : decode prog_3_method_5_code 63 = .ok (.iload_n 0, 1) := by decide +kernel
theorem d_In_isShaded_64 : decode prog_3_method_5_code 64 = .ok (.imul, 1) := by decide +kernel
theorem d_In_isShaded_65 : decode prog_3_method_5_code 65 = .ok (.bipush 99, 2) := by decide +kernel
theorem d_In_isShaded_67 : decode prog_3_method_5_code 67 = .ok (.iadd, 1) := by decide +kernel
theorem d_In_isShaded_68 : decode prog_3_method_5_code 68 = .ok (.bipush 100, 2) := by decide +kernel
theorem d_In_isShaded_70 : decode prog_3_method_5_code 70 = .ok (.idiv, 1) := by decide +kernel
theorem d_In_isShaded_71 : decode prog_3_method_5_code 71 = .ok (.if_icmp .ge 7, 3) := by decide +kernel
theorem d_In_isShaded_74 : decode prog_3_method_5_code 74 = .ok (.iconst 1, 1) := by decide +kernel
theorem d_In_isShaded_75 : decode prog_3_method_5_code 75 = .ok (.goto 4, 3) := by decide +kernel
theorem d_In_isShaded_78 : decode prog_3_method_5_code 78 = .ok (.iconst 0, 1) := by decide +kernel
theorem d_In_isShaded_79 : decode prog_3_method_5_code 79 = .ok (.ireturn, 1) := by decide +kernel
theorem d_In_isHatched_0 : decode prog_3_method_6_code 0 = .ok (.iload_n 2, 1) := by decide +kernel
theorem d_In_isHatched_1 : decode prog_3_method_6_code 1 = .ok (.bipush 7, 2) := by decide +kernel
theorem d_In_isHatched_3 : decode prog_3_method_6_code 3 = .ok (.if_icmp .eq 9, 3) := by decide +kernel
theorem d_In_isHatched_6 : decode prog_3_method_6_code 6 = .ok (.iload_n 2, 1) := by decide +kernel
theorem d_In_isHatched_7 : decode prog_3_method_6_code 7 = .ok (.bipush 8, 2) := by decide +kernel
theorem d_In_isHatched_9 : decode prog_3_method_6_code 9 = .ok (.if_icmp .ne 7, 3) := by decide +kernel
theorem d_In_isHatched_12 : decode prog_3_method_6_code 12 = .ok (.iconst 1, 1) := by decide +kernel
theorem d_In_isHatched_13 : decode prog_3_method_6_code 13 = .ok (.goto 4, 3) := by decide +kernel
theorem d_In_isHatched_16 : decode prog_3_method_6_code 16 = .ok (.iconst 0, 1) := by decide +kernel
theorem d_In_isHatched_17 : decode prog_3_method_6_code 17 = .ok (.istore_n 3, 1) := by decide +kernel
theorem d_In_isHatched_18 : decode prog_3_method_6_code 18 = .ok (.iload_n 1, 1) := by decide +kernel
theorem d_In_isHatched_19 : decode prog_3_method_6_code 19 = .ok (.bipush 7, 2) := by decide +kernel
theorem d_In_isHatched_21 : decode prog_3_method_6_code 21 = .ok (.if_icmp .eq 9, 3) := by decide +kernel
theorem d_In_isHatched_24 : decode prog_3_method_6_code 24 = .ok (.iload_n 1, 1) := by decide +kernel
theorem d_In_isHatched_25 : decode prog_3_method_6_code 25 = .ok (.bipush 8, 2) := by decide +kernel
theorem d_In_isHatched_27 : decode prog_3_method_6_code 27 = .ok (.if_icmp .ne 7, 3) := by decide +kernel
theorem d_In_isHatched_30 : decode prog_3_method_6_code 30 = .ok (.iconst 1, 1) := by decide +kernel
theorem d_In_isHatched_31 : decode prog_3_method_6_code 31 = .ok (.goto 4, 3) := by decide +kernel
theorem d_In_isHatched_34 : decode prog_3_method_6_code 34 = .ok (.iconst 0, 1) := by decide +kernel
theorem d_In_isHatched_35 : decode prog_3_method_6_code 35 = .ok (.istore 4, 2) := by decide +kernel
theorem d_In_isHatched_37 : decode prog_3_method_6_code 37 = .ok (.iload_n 1, 1) := by decide +kernel
theorem d_In_isHatched_38 : decode prog_3_method_6_code 38 = .ok (.iload_n 2, 1) := by decide +kernel
theorem d_In_isHatched_39 : decode prog_3_method_6_code 39 = .ok (.iadd, 1) := by decide +kernel
theorem d_In_isHatched_40 : decode prog_3_method_6_code 40 = .ok (.bipush 16, 2) := by decide +kernel
theorem d_In_isHatched_42 : decode prog_3_method_6_code 42 = .ok (.irem, 1) := by decide +kernel
theorem d_In_isHatched_43 : decode prog_3_method_6_code 43 = .ok (.iconst 2, 1) := by decide +kernel
theorem d_In_isHatched_44 : decode prog_3_method_6_code 44 = .ok (.if_icmp .ge 7, 3) := by decide +kernel
theorem d_In_isHatched_47 : decode prog_3_method_6_code 47 = .ok (.iconst 1, 1) := by decide +kernel
theorem d_In_isHatched_48 : decode prog_3_method_6_code 48 = .ok (.goto 4, 3) := by decide +kernel
theorem d_In_isHatched_51 : decode prog_3_method_6_code 51 = .ok (.iconst 0, 1) := by decide +kernel
theorem d_In_isHatched_52 : decode prog_3_method_6_code 52 = .ok (.istore 5, 2) := by decide +kernel
theorem d_In_isHatched_54 : decode prog_3_method_6_code 54 = .ok (.iload_n 1, 1) := by decide +kernel
theorem d_In_isHatched_55 : decode prog_3_method_6_code 55 = .ok (.iload_n 2, 1) := by decide +kernel
theorem d_In_isHatched_56 : decode prog_3_method_6_code 56 = .ok (.isub, 1) := by decide +kernel
theorem d_In_isHatched_57 : decode prog_3_method_6_code 57 = .ok (.bipush 16, 2) := by decide +kernel
theorem d_In_isHatched_59 : decode prog_3_method_6_code 59 = .ok (.iadd, 1) := by decide +kernel
theorem d_In_isHatched_60 : decode prog_3_method_6_code 60 = .ok (.bipush 16, 2) := by decide +kernel
theorem d_In_isHatched_62 : decode prog_3_method_6_code 62 = .ok (.irem, 1) := by decide +kernel
theorem d_In_isHatched_63 : decode prog_3_method_6_code 63 = .ok (.iconst 2, 1) := by decide +kernel
theorem d_In_isHatched_64 : decode prog_3_method_6_code 64 = .ok (.if_icmp .ge 7, 3) := by decide +kernel
theorem d_In_isHatched_67 : decode prog_3_method_6_code 67 = .ok (.iconst 1, 1) := by decide +kernel
theorem d_In_isHatched_68 : decode prog_3_method_6_code 68 = .ok (.goto 4, 3) := by decide +kernel
theorem d_In_isHatched_71 : decode prog_3_method_6_code 71 = .ok (.iconst 0, 1) := by decide +kernel
theorem d_In_isHatched_72 : decode prog_3_method_6_code 72 = .ok (.istore 6, 2) := by decide +kernel
theorem d_In_isHatched_74 : decode prog_3_method_6_code 74 = .ok (.iload_n 0, 1) := by decide +kernel
theorem d_In_isHatched_75 : decode prog_3_method_6_code 75 = .ok (.tableswitch 79 1 6 #[37, 39, 42, 45, 48, 63], 37) := by decide +kernel
theorem d_In_isHatched_112 : decode prog_3_method_6_code 112 = .ok (.iload_n 3, 1) := by decide +kernel
theorem d_In_isHatched_113 : decode prog_3_method_6_code 113 = .ok (.ireturn, 1) := by decide +kernel
theorem d_In_isHatched_114 : decode prog_3_method_6_code 114 = .ok (.iload 4, 2) := by decide +kernel
theorem d_In_isHatched_116 : decode prog_3_method_6_code 116 = .ok (.ireturn, 1) := by decide +kernel
theorem d_In_isHatched_117 : decode prog_3_method_6_code 117 = .ok (.iload 5, 2) := by decide +kernel
theorem d_In_isHatched_119 : decode prog_3_method_6_code 119 = .ok (.ireturn, 1) := by decide +kernel
theorem d_In_isHatched_120 : decode prog_3_method_6_code 120 = .ok (.iload 6, 2) := by decide +kernel
theorem d_In_isHatched_122 : decode prog_3_method_6_code 122 = .ok (.ireturn, 1) := by decide +kernel
theorem d_In_isHatched_123 : decode prog_3_method_6_code 123 = .ok (.iload_n 3, 1) := by decide +kernel
theorem d_In_isHatched_124 : decode prog_3_method_6_code 124 = .ok (.ifCond .ne 8, 3) := by decide +kernel
theorem d_In_isHatched_127 : decode prog_3_method_6_code 127 = .ok (.iload 4, 2) := by decide +kernel
theorem d_In_isHatched_129 : decode prog_3_method_6_code 129 = .ok (.ifCond .eq 7, 3) := by decide +kernel
theorem d_In_isHatched_132 : decode prog_3_method_6_code 132 = .ok (.iconst 1, 1) := by decide +kernel
theorem d_In_isHatched_133 : decode prog_3_method_6_code 133 = .ok (.goto 4, 3) := by decide +kernel
theorem d_In_isHatched_136 : decode prog_3_method_6_code 136 = .ok (.iconst 0, 1) := by decide +kernel
theorem d_In_isHatched_137 : decode prog_3_method_6_code 137 = .ok (.ireturn, 1) := by decide +kernel
theorem d_In_isHatched_138 : decode prog_3_method_6_code 138 = .ok (.iload 5, 2) := by decide +kernel
theorem d_In_isHatched_140 : decode prog_3_method_6_code 140 = .ok (.ifCond .ne 8, 3) := by decide +kernel
theorem d_In_isHatched_143 : decode prog_3_method_6_code 143 = .ok (.iload 6, 2) := by decide +kernel
theorem d_In_isHatched_145 : decode prog_3_method_6_code 145 = .ok (.ifCond .eq 7, 3) := by decide +kernel
theorem d_In_isHatched_148 : decode prog_3_method_6_code 148 = .ok (.iconst 1, 1) := by decide +kernel
theorem d_In_isHatched_149 : decode prog_3_method_6_code 149 = .ok (.goto 4, 3) := by decide +kernel
theorem d_In_isHatched_152 : decode prog_3_method_6_code 152 = .ok (.iconst 0, 1) := by decide +kernel
theorem d_In_isHatched_153 : decode prog_3_method_6_code 153 = .ok (.ireturn, 1) := by decide +kernel
theorem d_In_isHatched_154 : decode prog_3_method_6_code 154 = .ok (.iconst 0, 1) := by decide +kernel
theorem d_In_isHatched_155 : decode prog_3_method_6_code 155 = .ok (.ireturn, 1) := by decide +kernel
theorem d_Mk_init_0 : decode prog_4_method_1_code 0 = .ok (.aload_n 0, 1) := by decide +kernel
theorem d_Mk_init_1 : decode prog_4_method_1_code 1 = .ok (.invokespecial 1, 3) := by decide +kernel
theorem d_Mk_init_4 : decode prog_4_method_1_code 4 = .ok (.aload_n 0, 1) := by decide +kernel
theorem d_Mk_init_5 : decode prog_4_method_1_code 5 = .ok (.aload_n 1, 1) := by decide +kernel
theorem d_Mk_init_6 : decode prog_4_method_1_code 6 = .ok (.putfield 7, 3) := by decide +kernel
theorem d_Mk_init_9 : decode prog_4_method_1_code 9 = .ok (.aload_n 0, 1) := by decide +kernel
theorem d_Mk_init_10 : decode prog_4_method_1_code 10 = .ok (.iload_n 2, 1) := by decide +kernel
theorem d_Mk_init_11 : decode prog_4_method_1_code 11 = .ok (.putfield 13, 3) := by decide +kernel
theorem d_Mk_init_14 : decode prog_4_method_1_code 14 = .ok (.aload_n 0, 1) := by decide +kernel
theorem d_Mk_init_15 : decode prog_4_method_1_code 15 = .ok (.iload_n 3, 1) := by decide +kernel
theorem d_Mk_init_16 : decode prog_4_method_1_code 16 = .ok (.putfield 17, 3) := by decide +kernel
theorem d_Mk_init_19 : decode prog_4_method_1_code 19 = .ok (.aload_n 0, 1) := by decide +kernel
theorem d_Mk_init_20 : decode prog_4_method_1_code 20 = .ok (.aload 4, 2) := by decide +kernel
theorem d_Mk_init_22 : decode prog_4_method_1_code 22 = .ok (.putfield 20, 3) := by decide +kernel
theorem d_Mk_init_25 : decode prog_4_method_1_code 25 = .ok (.aload_n 0, 1) := by decide +kernel
theorem d_Mk_init_26 : decode prog_4_method_1_code 26 = .ok (.aload 5, 2) := by decide +kernel
theorem d_Mk_init_28 : decode prog_4_method_1_code 28 = .ok (.putfield 24, 3) := by decide +kernel
theorem d_Mk_init_31 : decode prog_4_method_1_code 31 = .ok (.aload_n 0, 1) := by decide +kernel
theorem d_Mk_init_32 : decode prog_4_method_1_code 32 = .ok (.iload 6, 2) := by decide +kernel
theorem d_Mk_init_34 : decode prog_4_method_1_code 34 = .ok (.putfield 28, 3) := by decide +kernel
theorem d_Mk_init_37 : decode prog_4_method_1_code 37 = .ok (.aload_n 0, 1) := by decide +kernel
theorem d_Mk_init_38 : decode prog_4_method_1_code 38 = .ok (.iload 7, 2) := by decide +kernel
theorem d_Mk_init_40 : decode prog_4_method_1_code 40 = .ok (.putfield 32, 3) := by decide +kernel
theorem d_Mk_init_43 : decode prog_4_method_1_code 43 = .ok (.return_, 1) := by decide +kernel
theorem d_Pc_init_0 : decode prog_5_method_1_code 0 = .ok (.aload_n 0, 1) := by decide +kernel
theorem d_Pc_init_1 : decode prog_5_method_1_code 1 = .ok (.invokespecial 3, 3) := by decide +kernel
theorem d_Pc_init_4 : decode prog_5_method_1_code 4 = .ok (.aload_n 0, 1) := by decide +kernel
theorem d_Pc_init_5 : decode prog_5_method_1_code 5 = .ok (.iconst 1, 1) := by decide +kernel
theorem d_Pc_init_6 : decode prog_5_method_1_code 6 = .ok (.iload_n 1, 1) := by decide +kernel
theorem d_Pc_init_7 : decode prog_5_method_1_code 7 = .ok (.invokestatic 9, 3) := by decide +kernel
theorem d_Pc_init_10 : decode prog_5_method_1_code 10 = .ok (.putfield 15, 3) := by decide +kernel
theorem d_Pc_init_13 : decode prog_5_method_1_code 13 = .ok (.aload_n 0, 1) := by decide +kernel
theorem d_Pc_init_14 : decode prog_5_method_1_code 14 = .ok (.iconst 1, 1) := by decide +kernel
theorem d_Pc_init_15 : decode prog_5_method_1_code 15 = .ok (.iload_n 2, 1) := by decide +kernel
theorem d_Pc_init_16 : decode prog_5_method_1_code 16 = .ok (.invokestatic 9, 3) := by decide +kernel
theorem d_Pc_init_19 : decode prog_5_method_1_code 19 = .ok (.putfield 21, 3) := by decide +kernel
theorem d_Pc_init_22 : decode prog_5_method_1_code 22 = .ok (.aload_n 0, 1) := by decide +kernel
theorem d_Pc_init_23 : decode prog_5_method_1_code 23 = .ok (.iconst 1, 1) := by decide +kernel
theorem d_Pc_init_24 : decode prog_5_method_1_code 24 = .ok (.iload_n 3, 1) := by decide +kernel
theorem d_Pc_init_25 : decode prog_5_method_1_code 25 = .ok (.invokestatic 9, 3) := by decide +kernel
theorem d_Pc_init_28 : decode prog_5_method_1_code 28 = .ok (.putfield 24, 3) := by decide +kernel
theorem d_Pc_init_31 : decode prog_5_method_1_code 31 = .ok (.aload_n 0, 1) := by decide +kernel
theorem d_Pc_init_32 : decode prog_5_method_1_code 32 = .ok (.aload_n 0, 1) := by decide +kernel
theorem d_Pc_init_33 : decode prog_5_method_1_code 33 = .ok (.getfield 15, 3) := by decide +kernel
theorem d_Pc_init_36 : decode prog_5_method_1_code 36 = .ok (.bipush 64, 2) := by decide +kernel
theorem d_Pc_init_38 : decode prog_5_method_1_code 38 = .ok (.iadd, 1) := by decide +kernel
theorem d_Pc_init_39 : decode prog_5_method_1_code 39 = .ok (.iconst 1, 1) := by decide +kernel
theorem d_Pc_init_40 : decode prog_5_method_1_code 40 = .ok (.isub, 1) := by decide +kernel
theorem d_Pc_init_41 : decode prog_5_method_1_code 41 = .ok (.bipush 64, 2) := by decide +kernel
theorem d_Pc_init_43 : decode prog_5_method_1_code 43 = .ok (.idiv, 1) := by decide +kernel
theorem d_Pc_init_44 : decode prog_5_method_1_code 44 = .ok (.putfield 27, 3) := by decide +kernel
theorem d_Pc_init_47 : decode prog_5_method_1_code 47 = .ok (.aload_n 0, 1) := by decide +kernel
theorem d_Pc_init_48 : decode prog_5_method_1_code 48 = .ok (.aload_n 0, 1) := by decide +kernel
theorem d_Pc_init_49 : decode prog_5_method_1_code 49 = .ok (.getfield 27, 3) := by decide +kernel
theorem d_Pc_init_52 : decode prog_5_method_1_code 52 = .ok (.aload_n 0, 1) := by decide +kernel
theorem d_Pc_init_53 : decode prog_5_method_1_code 53 = .ok (.getfield 21, 3) := by decide +kernel
theorem d_Pc_init_56 : decode prog_5_method_1_code 56 = .ok (.imul, 1) := by decide +kernel
theorem d_Pc_init_57 : decode prog_5_method_1_code 57 = .ok (.newarray .long, 2) := by decide +kernel
theorem d_Pc_init_59 : decode prog_5_method_1_code 59 = .ok (.putfield 30, 3) := by decide +kernel
theorem d_Pc_init_62 : decode prog_5_method_1_code 62 = .ok (.return_, 1) := by decide +kernel
theorem d_Pc_setDots_0 : decode prog_5_method_2_code 0 = .ok (.aload_n 0, 1) := by decide +kernel
theorem d_Pc_setDots_1 : decode prog_5_method_2_code 1 = .ok (.iload_n 1, 1) := by decide +kernel
theorem d_Pc_setDots_2 : decode prog_5_method_2_code 2 = .ok (.iconst 0, 1) := by decide +kernel
theorem d_Pc_setDots_3 : decode prog_5_method_2_code 3 = .ok (.lload_n 2, 1) := by decide +kernel
theorem d_Pc_setDots_4 : decode prog_5_method_2_code 4 = .ok (.aload_n 0, 1) := by decide +kernel
theorem d_Pc_setDots_5 : decode prog_5_method_2_code 5 = .ok (.getfield 15, 3) := by decide +kernel
theorem d_Pc_setDots_8 : decode prog_5_method_2_code 8 = .ok (.invokestatic 34, 3) := by decide +kernel
theorem d_Pc_setDots_11 : decode prog_5_method_2_code 11 = .ok (.land, 1) := by decide +kernel
theorem d_Pc_setDots_12 : decode prog_5_method_2_code 12 = .ok (.invokevirtual 38, 3) := by decide +kernel
theorem d_Pc_setDots_15 : decode prog_5_method_2_code 15 = .ok (.aload_n 0, 1) := by decide +kernel
theorem d_Pc_setDots_16 : decode prog_5_method_2_code 16 = .ok (.iload_n 1, 1) := by decide +kernel
theorem d_Pc_setDots_17 : decode prog_5_method_2_code 17 = .ok (.iconst 1, 1) := by decide +kernel
theorem d_Pc_setDots_18 : decode prog_5_method_2_code 18 = .ok (.lload 4, 2) := by decide +kernel
theorem d_Pc_setDots_20 : decode prog_5_method_2_code 20 = .ok (.aload_n 0, 1) := by decide +kernel
theorem d_Pc_setDots_21 : decode prog_5_method_2_code 21 = .ok (.getfield 15, 3) := by decide +kernel
theorem d_Pc_setDots_24 : decode prog_5_method_2_code 24 = .ok (.bipush 64, 2) := by decide +kernel
theorem d_Pc_setDots_26 : decode prog_5_method_2_code 26 = .ok (.isub, 1) := by decide +kernel
theorem d_Pc_setDots_27 : decode prog_5_method_2_code 27 = .ok (.invokestatic 34, 3) := by decide +kernel
theorem d_Pc_setDots_30 : decode prog_5_method_2_code 30 = .ok (.land, 1) := by decide +kernel
theorem d_Pc_setDots_31 : decode prog_5_method_2_code 31 = .ok (.invokevirtual 38, 3) := by decide +kernel
theorem d_Pc_setDots_34 : decode prog_5_method_2_code 34 = .ok (.return_, 1) := by decide +kernel
theorem d_Pc_blacks_0 : decode prog_5_method_3_code 0 = .ok (.iconst 0, 1) := by decide +kernel
theorem d_Pc_blacks_1 : decode prog_5_method_3_code 1 = .ok (.istore_n 1, 1) := by decide +kernel
theorem d_Pc_blacks_2 : decode prog_5_method_3_code 2 = .ok (.iconst 0, 1) := by decide +kernel
theorem d_Pc_blacks_3 : decode prog_5_method_3_code 3 = .ok (.istore_n 2, 1) := by decide +kernel
theorem d_Pc_blacks_4 : decode prog_5_method_3_code 4 = .ok (.iload_n 2, 1) := by decide +kernel
theorem d_Pc_blacks_5 : decode prog_5_method_3_code 5 = .ok (.aload_n 0, 1) := by decide +kernel
theorem d_Pc_blacks_6 : decode prog_5_method_3_code 6 = .ok (.getfield 30, 3) := by decide +kernel
theorem d_Pc_blacks_9 : decode prog_5_method_3_code 9 = .ok (.arraylength, 1) := by decide +kernel
theorem d_Pc_blacks_10 : decode prog_5_method_3_code 10 = .ok (.if_icmp .ge 21, 3) := by decide +kernel
theorem d_Pc_blacks_13 : decode prog_5_method_3_code 13 = .ok (.iload_n 1, 1) := by decide +kernel
theorem d_Pc_blacks_14 : decode prog_5_method_3_code 14 = .ok (.aload_n 0, 1) := by decide +kernel
theorem d_Pc_blacks_15 : decode prog_5_method_3_code 15 = .ok (.getfield 30, 3) := by decide +kernel
theorem d_Pc_blacks_18 : decode prog_5_method_3_code 18 = .ok (.iload_n 2, 1) := by decide +kernel
theorem d_Pc_blacks_19 : decode prog_5_method_3_code 19 = .ok (.laload, 1) := by decide +kernel
theorem d_Pc_blacks_20 : decode prog_5_method_3_code 20 = .ok (.invokestatic 42, 3) := by decide +kernel
theorem d_Pc_blacks_23 : decode prog_5_method_3_code 23 = .ok (.iadd, 1) := by decide +kernel
theorem d_Pc_blacks_24 : decode prog_5_method_3_code 24 = .ok (.istore_n 1, 1) := by decide +kernel
theorem d_Pc_blacks_25 : decode prog_5_method_3_code 25 = .ok (.iinc 2 1, 3) := by decide +kernel
theorem d_Pc_blacks_28 : decode prog_5_method_3_code 28 = .ok (.goto (-24), 3) := by decide +kernel
theorem d_Pc_blacks_31 : decode prog_5_method_3_code 31 = .ok (.iload_n 1, 1) := by decide +kernel
theorem d_Pc_blacks_32 : decode prog_5_method_3_code 32 = .ok (.ireturn, 1) := by decide +kernel
theorem d_Pc_dotsFrom_0 : decode prog_5_method_4_code 0 = .ok (.aload_n 0, 1) := by decide +kernel
theorem d_Pc_dotsFrom_1 : decode prog_5_method_4_code 1 = .ok (.getfield 24, 3) := by decide +kernel
theorem d_Pc_dotsFrom_4 : decode prog_5_method_4_code 4 = .ok (.iconst 1, 1) := by decide +kernel
theorem d_Pc_dotsFrom_5 : decode prog_5_method_4_code 5 = .ok (.if_icmp .le 12, 3) := by decide +kernel
theorem d_Pc_dotsFrom_8 : decode prog_5_method_4_code 8 = .ok (.iload_n 1, 1) := by decide +kernel
theorem d_Pc_dotsFrom_9 : decode prog_5_method_4_code 9 = .ok (.aload_n 0, 1) := by decide +kernel
theorem d_Pc_dotsFrom_10 : decode prog_5_method_4_code 10 = .ok (.getfield 24, 3) := by decide +kernel
theorem d_Pc_dotsFrom_13 : decode prog_5_method_4_code 13 = .ok (.idiv, 1) := by decide +kernel
theorem d_Pc_dotsFrom_14 : decode prog_5_method_4_code 14 = .ok (.goto 4, 3) := by decide +kernel
theorem d_Pc_dotsFrom_17 : decode prog_5_method_4_code 17 = .ok (.iload_n 1, 1) := by decide +kernel
theorem d_Pc_dotsFrom_18 : decode prog_5_method_4_code 18 = .ok (.istore_n 3, 1) := by decide +kernel
theorem d_Pc_dotsFrom_19 : decode prog_5_method_4_code 19 = .ok (.iload_n 2, 1) := by decide +kernel
theorem d_Pc_dotsFrom_20 : decode prog_5_method_4_code 20 = .ok (.bipush 64, 2) := by decide +kernel
theorem d_Pc_dotsFrom_22 : decode prog_5_method_4_code 22 = .ok (.invokestatic 48, 3) := by decide +kernel
theorem d_Pc_dotsFrom_25 : decode prog_5_method_4_code 25 = .ok (.istore 4, 2) := by decide +kernel
theorem d_Pc_dotsFrom_27 : decode prog_5_method_4_code 27 = .ok (.iload_n 2, 1) := by decide +kernel
theorem d_Pc_dotsFrom_28 : decode prog_5_method_4_code 28 = .ok (.bipush 64, 2) := by decide +kernel
theorem d_Pc_dotsFrom_30 : decode prog_5_method_4_code 30 = .ok (.invokestatic 51, 3) := by decide +kernel
theorem d_Pc_dotsFrom_33 : decode prog_5_method_4_code 33 = .ok (.istore 5, 2) := by decide +kernel
theorem d_Pc_dotsFrom_35 : decode prog_5_method_4_code 35 = .ok (.aload_n 0, 1) := by decide +kernel
theorem d_Pc_dotsFrom_36 : decode prog_5_method_4_code 36 = .ok (.iload_n 3, 1) := by decide +kernel
theorem d_Pc_dotsFrom_37 : decode prog_5_method_4_code 37 = .ok (.iload 4, 2) := by decide +kernel
theorem d_Pc_dotsFrom_39 : decode prog_5_method_4_code 39 = .ok (.invokevirtual 54, 3) := by decide +kernel
theorem d_Pc_dotsFrom_42 : decode prog_5_method_4_code 42 = .ok (.iload 5, 2) := by decide +kernel
theorem d_Pc_dotsFrom_44 : decode prog_5_method_4_code 44 = .ok (.lshl, 1) := by decide +kernel
theorem d_Pc_dotsFrom_45 : decode prog_5_method_4_code 45 = .ok (.lstore 6, 2) := by decide +kernel
theorem d_Pc_dotsFrom_47 : decode prog_5_method_4_code 47 = .ok (.iload 5, 2) := by decide +kernel
theorem d_Pc_dotsFrom_49 : decode prog_5_method_4_code 49 = .ok (.ifCond .ne 8, 3) := by decide +kernel
theorem d_Pc_dotsFrom_52 : decode prog_5_method_4_code 52 = .ok (.lload 6, 2) := by decide +kernel
theorem d_Pc_dotsFrom_54 : decode prog_5_method_4_code 54 = .ok (.goto 21, 3) := by decide +kernel
theorem d_Pc_dotsFrom_57 : decode prog_5_method_4_code 57 = .ok (.lload 6, 2) := by decide +kernel
theorem d_Pc_dotsFrom_59 : decode prog_5_method_4_code 59 = .ok (.aload_n 0, 1) := by decide +kernel
theorem d_Pc_dotsFrom_60 : decode prog_5_method_4_code 60 = .ok (.iload_n 3, 1) := by decide +kernel
theorem d_Pc_dotsFrom_61 : decode prog_5_method_4_code 61 = .ok (.iload 4, 2) := by decide +kernel
theorem d_Pc_dotsFrom_63 : decode prog_5_method_4_code 63 = .ok (.iconst 1, 1) := by decide +kernel
theorem d_Pc_dotsFrom_64 : decode prog_5_method_4_code 64 = .ok (.iadd, 1) := by decide +kernel
theorem d_Pc_dotsFrom_65 : decode prog_5_method_4_code 65 = .ok (.invokevirtual 54, 3) := by decide +kernel
theorem d_Pc_dotsFrom_68 : decode prog_5_method_4_code 68 = .ok (.bipush 64, 2) := by decide +kernel
theorem d_Pc_dotsFrom_70 : decode prog_5_method_4_code 70 = .ok (.iload 5, 2) := by decide +kernel
theorem d_Pc_dotsFrom_72 : decode prog_5_method_4_code 72 = .ok (.isub, 1) := by decide +kernel
theorem d_Pc_dotsFrom_73 : decode prog_5_method_4_code 73 = .ok (.lushr, 1) := by decide +kernel
theorem d_Pc_dotsFrom_74 : decode prog_5_method_4_code 74 = .ok (.lor, 1) := by decide +kernel
theorem d_Pc_dotsFrom_75 : decode prog_5_method_4_code 75 = .ok (.lreturn, 1) := by decide +kernel
theorem d_Pc_turnedBy_0 : decode prog_5_method_5_code 0 = .ok (.iload_n 1, 1) := by decide +kernel
theorem d_Pc_turnedBy_1 : decode prog_5_method_5_code 1 = .ok (.ifCond .ne 5, 3) := by decide +kernel
theorem d_Pc_turnedBy_4 : decode prog_5_method_5_code 4 = .ok (.aload_n 0, 1) := by decide +kernel
theorem d_Pc_turnedBy_5 : decode prog_5_method_5_code 5 = .ok (.areturn, 1) := by decide +kernel
theorem d_Pc_turnedBy_6 : decode prog_5_method_5_code 6 = .ok (.iload_n 1, 1) := by decide +kernel
theorem d_Pc_turnedBy_7 : decode prog_5_method_5_code 7 = .ok (.iconst 2, 1) := by decide +kernel
theorem d_Pc_turnedBy_8 : decode prog_5_method_5_code 8 = .ok (.if_icmp .ne 25, 3) := by decide +kernel
theorem d_Pc_turnedBy_11 : decode prog_5_method_5_code 11 = .ok (.new 16, 3) := by decide +kernel
theorem d_Pc_turnedBy_14 : decode prog_5_method_5_code 14 = .ok (.dup, 1) := by decide +kernel
theorem d_Pc_turnedBy_15 : decode prog_5_method_5_code 15 = .ok (.aload_n 0, 1) := by decide +kernel
theorem d_Pc_turnedBy_16 : decode prog_5_method_5_code 16 = .ok (.getfield 15, 3) := by decide +kernel
theorem d_Pc_turnedBy_19 : decode prog_5_method_5_code 19 = .ok (.aload_n 0, 1) := by decide +kernel
theorem d_Pc_turnedBy_20 : decode prog_5_method_5_code 20 = .ok (.getfield 21, 3) := by decide +kernel
theorem d_Pc_turnedBy_23 : decode prog_5_method_5_code 23 = .ok (.aload_n 0, 1) := by decide +kernel
theorem d_Pc_turnedBy_24 : decode prog_5_method_5_code 24 = .ok (.getfield 24, 3) := by decide +kernel
theorem d_Pc_turnedBy_27 : decode prog_5_method_5_code 27 = .ok (.invokespecial 58, 3) := by decide +kernel
theorem d_Pc_turnedBy_30 : decode prog_5_method_5_code 30 = .ok (.goto 22, 3) := by decide +kernel
theorem d_Pc_turnedBy_33 : decode prog_5_method_5_code 33 = .ok (.new 16, 3) := by decide +kernel
theorem d_Pc_turnedBy_36 : decode prog_5_method_5_code 36 = .ok (.dup, 1) := by decide +kernel
theorem d_Pc_turnedBy_37 : decode prog_5_method_5_code 37 = .ok (.aload_n 0, 1) := by decide +kernel
theorem d_Pc_turnedBy_38 : decode prog_5_method_5_code 38 = .ok (.getfield 21, 3) := by decide +kernel
theorem d_Pc_turnedBy_41 : decode prog_5_method_5_code 41 = .ok (.aload_n 0, 1) := by decide +kernel
theorem d_Pc_turnedBy_42 : decode prog_5_method_5_code 42 = .ok (.getfield 15, 3) := by decide +kernel
theorem d_Pc_turnedBy_45 : decode prog_5_method_5_code 45 = .ok (.aload_n 0, 1) := by decide +kernel
theorem d_Pc_turnedBy_46 : decode prog_5_method_5_code 46 = .ok (.getfield 24, 3) := by decide +kernel
theorem d_Pc_turnedBy_49 : decode prog_5_method_5_code 49 = .ok (.invokespecial 58, 3) := by decide +kernel
theorem d_Pc_turnedBy_52 : decode prog_5_method_5_code 52 = .ok (.astore_n 2, 1) := by decide +kernel
theorem d_Pc_turnedBy_53 : decode prog_5_method_5_code 53 = .ok (.iconst 0, 1) := by decide +kernel
theorem d_Pc_turnedBy_54 : decode prog_5_method_5_code 54 = .ok (.istore_n 3, 1) := by decide +kernel
theorem d_Pc_turnedBy_55 : decode prog_5_method_5_code 55 = .ok (.iload_n 3, 1) := by decide +kernel
theorem d_Pc_turnedBy_56 : decode prog_5_method_5_code 56 = .ok (.aload_n 0, 1) := by decide +kernel
theorem d_Pc_turnedBy_57 : decode prog_5_method_5_code 57 = .ok (.getfield 21, 3) := by decide +kernel
theorem d_Pc_turnedBy_60 : decode prog_5_method_5_code 60 = .ok (.if_icmp .ge 45, 3) := by decide +kernel
theorem d_Pc_turnedBy_63 : decode prog_5_method_5_code 63 = .ok (.iconst 0, 1) := by decide +kernel
theorem d_Pc_turnedBy_64 : decode prog_5_method_5_code 64 = .ok (.istore 4, 2) := by decide +kernel
theorem d_Pc_turnedBy_66 : decode prog_5_method_5_code 66 = .ok (.iload 4, 2) := by decide +kernel
theorem d_Pc_turnedBy_68 : decode prog_5_method_5_code 68 = .ok (.aload_n 0, 1) := by decide +kernel
theorem d_Pc_turnedBy_69 : decode prog_5_method_5_code 69 = .ok (.getfield 15, 3) := by decide +kernel
theorem d_Pc_turnedBy_72 : decode prog_5_method_5_code 72 = .ok (.if_icmp .ge 27, 3) := by decide +kernel
theorem d_Pc_turnedBy_75 : decode prog_5_method_5_code 75 = .ok (.aload_n 0, 1) := by decide +kernel
theorem d_Pc_turnedBy_76 : decode prog_5_method_5_code 76 = .ok (.iload 4, 2) := by decide +kernel
theorem d_Pc_turnedBy_78 : decode prog_5_method_5_code 78 = .ok (.iload_n 3, 1) := by decide +kernel
theorem d_Pc_turnedBy_79 : decode prog_5_method_5_code 79 = .ok (.invokevirtual 61, 3) := by decide +kernel
theorem d_Pc_turnedBy_82 : decode prog_5_method_5_code 82 = .ok (.ifCond .eq 11, 3) := by decide +kernel
theorem d_Pc_turnedBy_85 : decode prog_5_method_5_code 85 = .ok (.aload_n 2, 1) := by decide +kernel
theorem d_Pc_turnedBy_86 : decode prog_5_method_5_code 86 = .ok (.iload_n 1, 1) := by decide +kernel
theorem d_Pc_turnedBy_87 : decode prog_5_method_5_code 87 = .ok (.iload 4, 2) := by decide +kernel
theorem d_Pc_turnedBy_89 : decode prog_5_method_5_code 89 = .ok (.iload_n 3, 1) := by decide +kernel
theorem d_Pc_turnedBy_90 : decode prog_5_method_5_code 90 = .ok (.invokevirtual 65, 3) := by decide +kernel
theorem d_Pc_turnedBy_93 : decode prog_5_method_5_code 93 = .ok (.iinc 4 1, 3) := by decide +kernel
theorem d_Pc_turnedBy_96 : decode prog_5_method_5_code 96 = .ok (.goto (-30), 3) := by decide +kernel
theorem d_Pc_turnedBy_99 : decode prog_5_method_5_code 99 = .ok (.iinc 3 1, 3) := by decide +kernel
theorem d_Pc_turnedBy_102 : decode prog_5_method_5_code 102 = .ok (.goto (-47), 3) := by decide +kernel
theorem d_Pc_turnedBy_105 : decode prog_5_method_5_code 105 = .ok (.aload_n 2, 1) := by decide +kernel
theorem d_Pc_turnedBy_106 : decode prog_5_method_5_code 106 = .ok (.areturn, 1) := by decide +kernel
theorem d_Pc_enlarged_0 : decode prog_5_method_6_code 0 = .ok (.new 16, 3) := by decide +kernel
theorem d_Pc_enlarged_3 : decode prog_5_method_6_code 3 = .ok (.dup, 1) := by decide +kernel
theorem d_Pc_enlarged_4 : decode prog_5_method_6_code 4 = .ok (.aload_n 0, 1) := by decide +kernel
theorem d_Pc_enlarged_5 : decode prog_5_method_6_code 5 = .ok (.getfield 15, 3) := by decide +kernel
theorem d_Pc_enlarged_8 : decode prog_5_method_6_code 8 = .ok (.iload_n 1, 1) := by decide +kernel
theorem d_Pc_enlarged_9 : decode prog_5_method_6_code 9 = .ok (.imul, 1) := by decide +kernel
theorem d_Pc_enlarged_10 : decode prog_5_method_6_code 10 = .ok (.aload_n 0, 1) := by decide +kernel
theorem d_Pc_enlarged_11 : decode prog_5_method_6_code 11 = .ok (.getfield 21, 3) := by decide +kernel
theorem d_Pc_enlarged_14 : decode prog_5_method_6_code 14 = .ok (.iload_n 1, 1) := by decide +kernel
theorem d_Pc_enlarged_15 : decode prog_5_method_6_code 15 = .ok (.invokespecial 58, 3) := by decide +kernel
theorem d_Pc_enlarged_18 : decode prog_5_method_6_code 18 = .ok (.astore_n 2, 1) := by decide +kernel
theorem d_Pc_enlarged_19 : decode prog_5_method_6_code 19 = .ok (.iconst 0, 1) := by decide +kernel
theorem d_Pc_enlarged_20 : decode prog_5_method_6_code 20 = .ok (.istore_n 3, 1) := by decide +kernel
theorem d_Pc_enlarged_21 : decode prog_5_method_6_code 21 = .ok (.iload_n 3, 1) := by decide +kernel
theorem d_Pc_enlarged_22 : decode prog_5_method_6_code 22 = .ok (.aload_n 0, 1) := by decide +kernel
theorem d_Pc_enlarged_23 : decode prog_5_method_6_code 23 = .ok (.getfield 21, 3) := by decide +kernel
theorem d_Pc_enlarged_26 : decode prog_5_method_6_code 26 = .ok (.if_icmp .ge 56, 3) := by decide +kernel
theorem d_Pc_enlarged_29 : decode prog_5_method_6_code 29 = .ok (.iconst 0, 1) := by decide +kernel
theorem d_Pc_enlarged_30 : decode prog_5_method_6_code 30 = .ok (.istore 4, 2) := by decide +kernel
theorem d_Pc_enlarged_32 : decode prog_5_method_6_code 32 = .ok (.iload 4, 2) := by decide +kernel
theorem d_Pc_enlarged_34 : decode prog_5_method_6_code 34 = .ok (.aload_n 2, 1) := by decide +kernel
theorem d_Pc_enlarged_35 : decode prog_5_method_6_code 35 = .ok (.getfield 15, 3) := by decide +kernel
theorem d_Pc_enlarged_38 : decode prog_5_method_6_code 38 = .ok (.if_icmp .ge 38, 3) := by decide +kernel
theorem d_Pc_enlarged_41 : decode prog_5_method_6_code 41 = .ok (.aload_n 0, 1) := by decide +kernel
theorem d_Pc_enlarged_42 : decode prog_5_method_6_code 42 = .ok (.iload_n 1, 1) := by decide +kernel
theorem d_Pc_enlarged_43 : decode prog_5_method_6_code 43 = .ok (.iconst 1, 1) := by decide +kernel
theorem d_Pc_enlarged_44 : decode prog_5_method_6_code 44 = .ok (.if_icmp .le 10, 3) := by decide +kernel
theorem d_Pc_enlarged_47 : decode prog_5_method_6_code 47 = .ok (.iload 4, 2) := by decide +kernel
theorem d_Pc_enlarged_49 : decode prog_5_method_6_code 49 = .ok (.iload_n 1, 1) := by decide +kernel
theorem d_Pc_enlarged_50 : decode prog_5_method_6_code 50 = .ok (.idiv, 1) := by decide +kernel
theorem d_Pc_enlarged_51 : decode prog_5_method_6_code 51 = .ok (.goto 5, 3) := by decide +kernel
theorem d_Pc_enlarged_54 : decode prog_5_method_6_code 54 = .ok (.iload 4, 2) := by decide +kernel
theorem d_Pc_enlarged_56 : decode prog_5_method_6_code 56 = .ok (.iload_n 3, 1) := by decide +kernel
theorem d_Pc_enlarged_57 : decode prog_5_method_6_code 57 = .ok (.invokevirtual 61, 3) := by decide +kernel
theorem d_Pc_enlarged_60 : decode prog_5_method_6_code 60 = .ok (.ifCond .eq 10, 3) := by decide +kernel
theorem d_Pc_enlarged_63 : decode prog_5_method_6_code 63 = .ok (.aload_n 2, 1) := by decide +kernel
theorem d_Pc_enlarged_64 : decode prog_5_method_6_code 64 = .ok (.iload 4, 2) := by decide +kernel
theorem d_Pc_enlarged_66 : decode prog_5_method_6_code 66 = .ok (.iload_n 3, 1) := by decide +kernel
theorem d_Pc_enlarged_67 : decode prog_5_method_6_code 67 = .ok (.invokevirtual 68, 3) := by decide +kernel
theorem d_Pc_enlarged_70 : decode prog_5_method_6_code 70 = .ok (.iinc 4 1, 3) := by decide +kernel
theorem d_Pc_enlarged_73 : decode prog_5_method_6_code 73 = .ok (.goto (-41), 3) := by decide +kernel
theorem d_Pc_enlarged_76 : decode prog_5_method_6_code 76 = .ok (.iinc 3 1, 3) := by decide +kernel
theorem d_Pc_enlarged_79 : decode prog_5_method_6_code 79 = .ok (.goto (-58), 3) := by decide +kernel
theorem d_Pc_enlarged_82 : decode prog_5_method_6_code 82 = .ok (.aload_n 2, 1) := by decide +kernel
theorem d_Pc_enlarged_83 : decode prog_5_method_6_code 83 = .ok (.areturn, 1) := by decide +kernel
theorem d_Pc_blackenTurned_0 : decode prog_5_method_7_code 0 = .ok (.iload_n 1, 1) := by decide +kernel
theorem d_Pc_blackenTurned_1 : decode prog_5_method_7_code 1 = .ok (.lookupswitch 66 #[(1, 27), (2, 43)], 27) := by decide +kernel
theorem d_Pc_blackenTurned_28 : decode prog_5_method_7_code 28 = .ok (.aload_n 0, 1) := by decide +kernel
theorem d_Pc_blackenTurned_29 : decode prog_5_method_7_code 29 = .ok (.iload_n 3, 1) := by decide +kernel
theorem d_Pc_blackenTurned_30 : decode prog_5_method_7_code 30 = .ok (.aload_n 0, 1) := by decide +kernel
theorem d_Pc_blackenTurned_31 : decode prog_5_method_7_code 31 = .ok (.getfield 21, 3) := by decide +kernel
theorem d_Pc_blackenTurned_34 : decode prog_5_method_7_code 34 = .ok (.iconst 1, 1) := by decide +kernel
theorem d_Pc_blackenTurned_35 : decode prog_5_method_7_code 35 = .ok (.isub, 1) := by decide +kernel
theorem d_Pc_blackenTurned_36 : decode prog_5_method_7_code 36 = .ok (.iload_n 2, 1) := by decide +kernel
theorem d_Pc_blackenTurned_37 : decode prog_5_method_7_code 37 = .ok (.isub, 1) := by decide +kernel
theorem d_Pc_blackenTurned_38 : decode prog_5_method_7_code 38 = .ok (.invokevirtual 68, 3) := by decide +kernel
theorem d_Pc_blackenTurned_41 : decode prog_5_method_7_code 41 = .ok (.goto 39, 3) := by decide +kernel
theorem d_Pc_blackenTurned_44 : decode prog_5_method_7_code 44 = .ok (.aload_n 0, 1) := by decide +kernel
theorem d_Pc_blackenTurned_45 : decode prog_5_method_7_code 45 = .ok (.aload_n 0, 1) := by decide +kernel
theorem d_Pc_blackenTurned_46 : decode prog_5_method_7_code 46 = .ok (.getfield 15, 3) := by decide +kernel
theorem d_Pc_blackenTurned_49 : decode prog_5_method_7_code 49 = .ok (.iconst 1, 1) := by decide +kernel
theorem d_Pc_blackenTurned_50 : decode prog_5_method_7_code 50 = .ok (.isub, 1) := by decide +kernel
theorem d_Pc_blackenTurned_51 : decode prog_5_method_7_code 51 = .ok (.iload_n 2, 1) := by decide +kernel
theorem d_Pc_blackenTurned_52 : decode prog_5_method_7_code 52 = .ok (.isub, 1) := by decide +kernel
theorem d_Pc_blackenTurned_53 : decode prog_5_method_7_code 53 = .ok (.aload_n 0, 1) := by decide +kernel
theorem d_Pc_blackenTurned_54 : decode prog_5_method_7_code 54 = .ok (.getfield 21, 3) := by decide +kernel
theorem d_Pc_blackenTurned_57 : decode prog_5_method_7_code 57 = .ok (.iconst 1, 1) := by decide +kernel
theorem d_Pc_blackenTurned_58 : decode prog_5_method_7_code 58 = .ok (.isub, 1) := by decide +kernel
theorem d_Pc_blackenTurned_59 : decode prog_5_method_7_code 59 = .ok (.iload_n 3, 1) := by decide +kernel
theorem d_Pc_blackenTurned_60 : decode prog_5_method_7_code 60 = .ok (.isub, 1) := by decide +kernel
theorem d_Pc_blackenTurned_61 : decode prog_5_method_7_code 61 = .ok (.invokevirtual 68, 3) := by decide +kernel
theorem d_Pc_blackenTurned_64 : decode prog_5_method_7_code 64 = .ok (.goto 16, 3) := by decide +kernel
theorem d_Pc_blackenTurned_67 : decode prog_5_method_7_code 67 = .ok (.aload_n 0, 1) := by decide +kernel
theorem d_Pc_blackenTurned_68 : decode prog_5_method_7_code 68 = .ok (.aload_n 0, 1) := by decide +kernel
theorem d_Pc_blackenTurned_69 : decode prog_5_method_7_code 69 = .ok (.getfield 15, 3) := by decide +kernel
theorem d_Pc_blackenTurned_72 : decode prog_5_method_7_code 72 = .ok (.iconst 1, 1) := by decide +kernel
theorem d_Pc_blackenTurned_73 : decode prog_5_method_7_code 73 = .ok (.isub, 1) := by decide +kernel
theorem d_Pc_blackenTurned_74 : decode prog_5_method_7_code 74 = .ok (.iload_n 3, 1) := by decide +kernel
theorem d_Pc_blackenTurned_75 : decode prog_5_method_7_code 75 = .ok (.isub, 1) := by decide +kernel
theorem d_Pc_blackenTurned_76 : decode prog_5_method_7_code 76 = .ok (.iload_n 2, 1) := by decide +kernel
theorem d_Pc_blackenTurned_77 : decode prog_5_method_7_code 77 = .ok (.invokevirtual 68, 3) := by decide +kernel
theorem d_Pc_blackenTurned_80 : decode prog_5_method_7_code 80 = .ok (.return_, 1) := by decide +kernel
theorem d_Pc_isBlack_0 : decode prog_5_method_8_code 0 = .ok (.aload_n 0, 1) := by decide +kernel
theorem d_Pc_isBlack_1 : decode prog_5_method_8_code 1 = .ok (.iload_n 2, 1) := by decide +kernel
theorem d_Pc_isBlack_2 : decode prog_5_method_8_code 2 = .ok (.iload_n 1, 1) := by decide +kernel
theorem d_Pc_isBlack_3 : decode prog_5_method_8_code 3 = .ok (.bipush 64, 2) := by decide +kernel
theorem d_Pc_isBlack_5 : decode prog_5_method_8_code 5 = .ok (.idiv, 1) := by decide +kernel
theorem d_Pc_isBlack_6 : decode prog_5_method_8_code 6 = .ok (.invokevirtual 54, 3) := by decide +kernel
theorem d_Pc_isBlack_9 : decode prog_5_method_8_code 9 = .ok (.ldc2_w 72, 3) := by decide +kernel
theorem d_Pc_isBlack_12 : decode prog_5_method_8_code 12 = .ok (.iload_n 1, 1) := by decide +kernel
theorem d_Pc_isBlack_13 : decode prog_5_method_8_code 13 = .ok (.bipush 64, 2) := by decide +kernel
theorem d_Pc_isBlack_15 : decode prog_5_method_8_code 15 = .ok (.irem, 1) := by decide +kernel
theorem d_Pc_isBlack_16 : decode prog_5_method_8_code 16 = .ok (.lushr, 1) := by decide +kernel
theorem d_Pc_isBlack_17 : decode prog_5_method_8_code 17 = .ok (.land, 1) := by decide +kernel
theorem d_Pc_isBlack_18 : decode prog_5_method_8_code 18 = .ok (.lconst 0, 1) := by decide +kernel
theorem d_Pc_isBlack_19 : decode prog_5_method_8_code 19 = .ok (.lcmp, 1) := by decide +kernel
theorem d_Pc_isBlack_20 : decode prog_5_method_8_code 20 = .ok (.ifCond .eq 7, 3) := by decide +kernel
theorem d_Pc_isBlack_23 : decode prog_5_method_8_code 23 = .ok (.iconst 1, 1) := by decide +kernel
theorem d_Pc_isBlack_24 : decode prog_5_method_8_code 24 = .ok (.goto 4, 3) := by decide +kernel
theorem d_Pc_isBlack_27 : decode prog_5_method_8_code 27 = .ok (.iconst 0, 1) := by decide +kernel
theorem d_Pc_isBlack_28 : decode prog_5_method_8_code 28 = .ok (.ireturn, 1) := by decide +kernel
theorem d_Pc_blacken_0 : decode prog_5_method_9_code 0 = .ok (.aload_n 0, 1) := by decide +kernel
theorem d_Pc_blacken_1 : decode prog_5_method_9_code 1 = .ok (.iload_n 2, 1) := by decide +kernel
theorem d_Pc_blacken_2 : decode prog_5_method_9_code 2 = .ok (.iload_n 1, 1) := by decide +kernel
theorem d_Pc_blacken_3 : decode prog_5_method_9_code 3 = .ok (.bipush 64, 2) := by decide +kernel
theorem d_Pc_blacken_5 : decode prog_5_method_9_code 5 = .ok (.idiv, 1) := by decide +kernel
theorem d_Pc_blacken_6 : decode prog_5_method_9_code 6 = .ok (.aload_n 0, 1) := by decide +kernel
theorem d_Pc_blacken_7 : decode prog_5_method_9_code 7 = .ok (.iload_n 2, 1) := by decide +kernel
theorem d_Pc_blacken_8 : decode prog_5_method_9_code 8 = .ok (.iload_n 1, 1) := by decide +kernel
theorem d_Pc_blacken_9 : decode prog_5_method_9_code 9 = .ok (.bipush 64, 2) := by decide +kernel
theorem d_Pc_blacken_11 : decode prog_5_method_9_code 11 = .ok (.idiv, 1) := by decide +kernel
theorem d_Pc_blacken_12 : decode prog_5_method_9_code 12 = .ok (.invokevirtual 54, 3) := by decide +kernel
theorem d_Pc_blacken_15 : decode prog_5_method_9_code 15 = .ok (.ldc2_w 72, 3) := by decide +kernel
theorem d_Pc_blacken_18 : decode prog_5_method_9_code 18 = .ok (.iload_n 1, 1) := by decide +kernel
theorem d_Pc_blacken_19 : decode prog_5_method_9_code 19 = .ok (.bipush 64, 2) := by decide +kernel
theorem d_Pc_blacken_21 : decode prog_5_method_9_code 21 = .ok (.irem, 1) := by decide +kernel
theorem d_Pc_blacken_22 : decode prog_5_method_9_code 22 = .ok (.lushr, 1) := by decide +kernel
theorem d_Pc_blacken_23 : decode prog_5_method_9_code 23 = .ok (.lor, 1) := by decide +kernel
theorem d_Pc_blacken_24 : decode prog_5_method_9_code 24 = .ok (.invokevirtual 38, 3) := by decide +kernel
theorem d_Pc_blacken_27 : decode prog_5_method_9_code 27 = .ok (.return_, 1) := by decide +kernel
theorem d_Pc_wordAt_0 : decode prog_5_method_10_code 0 = .ok (.aload_n 0, 1) := by decide +kernel
theorem d_Pc_wordAt_1 : decode prog_5_method_10_code 1 = .ok (.iload_n 1, 1) := by decide +kernel
theorem d_Pc_wordAt_2 : decode prog_5_method_10_code 2 = .ok (.iload_n 2, 1) := by decide +kernel
theorem d_Pc_wordAt_3 : decode prog_5_method_10_code 3 = .ok (.invokevirtual 74, 3) := by decide +kernel
theorem d_Pc_wordAt_6 : decode prog_5_method_10_code 6 = .ok (.ifCond .eq 19, 3) := by decide +kernel
theorem d_Pc_wordAt_9 : decode prog_5_method_10_code 9 = .ok (.aload_n 0, 1) := by decide +kernel
theorem d_Pc_wordAt_10 : decode prog_5_method_10_code 10 = .ok (.getfield 30, 3) := by decide +kernel
theorem d_Pc_wordAt_13 : decode prog_5_method_10_code 13 = .ok (.iload_n 1, 1) := by decide +kernel
theorem d_Pc_wordAt_14 : decode prog_5_method_10_code 14 = .ok (.aload_n 0, 1) := by decide +kernel
theorem d_Pc_wordAt_15 : decode prog_5_method_10_code 15 = .ok (.getfield 27, 3) := by decide +kernel
theorem d_Pc_wordAt_18 : decode prog_5_method_10_code 18 = .ok (.imul, 1) := by decide +kernel
theorem d_Pc_wordAt_19 : decode prog_5_method_10_code 19 = .ok (.iload_n 2, 1) := by decide +kernel
theorem d_Pc_wordAt_20 : decode prog_5_method_10_code 20 = .ok (.iadd, 1) := by decide +kernel
theorem d_Pc_wordAt_21 : decode prog_5_method_10_code 21 = .ok (.laload, 1) := by decide +kernel
theorem d_Pc_wordAt_22 : decode prog_5_method_10_code 22 = .ok (.goto 4, 3) := by decide +kernel
theorem d_Pc_wordAt_25 : decode prog_5_method_10_code 25 = .ok (.lconst 0, 1) := by decide +kernel
theorem d_Pc_wordAt_26 : decode prog_5_method_10_code 26 = .ok (.lreturn, 1) := by decide +kernel
theorem d_Pc_setWord_0 : decode prog_5_method_11_code 0 = .ok (.aload_n 0, 1) := by decide +kernel
theorem d_Pc_setWord_1 : decode prog_5_method_11_code 1 = .ok (.iload_n 1, 1) := by decide +kernel
theorem d_Pc_setWord_2 : decode prog_5_method_11_code 2 = .ok (.iload_n 2, 1) := by decide +kernel
theorem d_Pc_setWord_3 : decode prog_5_method_11_code 3 = .ok (.invokevirtual 74, 3) := by decide +kernel
theorem d_Pc_setWord_6 : decode prog_5_method_11_code 6 = .ok (.ifCond .eq 17, 3) := by decide +kernel
theorem d_Pc_setWord_9 : decode prog_5_method_11_code 9 = .ok (.aload_n 0, 1) := by decide +kernel
theorem d_Pc_setWord_10 : decode prog_5_method_11_code 10 = .ok (.getfield 30, 3) := by decide +kernel
theorem d_Pc_setWord_13 : decode prog_5_method_11_code 13 = .ok (.iload_n 1, 1) := by decide +kernel
theorem d_Pc_setWord_14 : decode prog_5_method_11_code 14 = .ok (.aload_n 0, 1) := by decide +kernel
theorem d_Pc_setWord_15 : decode prog_5_method_11_code 15 = .ok (.getfield 27, 3) := by decide +kernel
theorem d_Pc_setWord_18 : decode prog_5_method_11_code 18 = .ok (.imul, 1) := by decide +kernel
theorem d_Pc_setWord_19 : decode prog_5_method_11_code 19 = .ok (.iload_n 2, 1) := by decide +kernel
theorem d_Pc_setWord_20 : decode prog_5_method_11_code 20 = .ok (.iadd, 1) := by decide +kernel
theorem d_Pc_setWord_21 : decode prog_5_method_11_code 21 = .ok (.lload_n 3, 1) := by decide +kernel
theorem d_Pc_setWord_22 : decode prog_5_method_11_code 22 = .ok (.lastore, 1) := by decide +kernel
theorem d_Pc_setWord_23 : decode prog_5_method_11_code 23 = .ok (.return_, 1) := by decide +kernel
theorem d_Pc_hasWord_0 : decode prog_5_method_12_code 0 = .ok (.iconst 0, 1) := by decide +kernel
theorem d_Pc_hasWord_1 : decode prog_5_method_12_code 1 = .ok (.iload_n 1, 1) := by decide +kernel
theorem d_Pc_hasWord_2 : decode prog_5_method_12_code 2 = .ok (.if_icmp .gt 28, 3) := by decide +kernel
theorem d_Pc_hasWord_5 : decode prog_5_method_12_code 5 = .ok (.iload_n 1, 1) := by decide +kernel
theorem d_Pc_hasWord_6 : decode prog_5_method_12_code 6 = .ok (.aload_n 0, 1) := by decide +kernel
theorem d_Pc_hasWord_7 : decode prog_5_method_12_code 7 = .ok (.getfield 21, 3) := by decide +kernel
theorem d_Pc_hasWord_10 : decode prog_5_method_12_code 10 = .ok (.if_icmp .ge 20, 3) := by decide +kernel
theorem d_Pc_hasWord_13 : decode prog_5_method_12_code 13 = .ok (.iconst 0, 1) := by decide +kernel
theorem d_Pc_hasWord_14 : decode prog_5_method_12_code 14 = .ok (.iload_n 2, 1) := by decide +kernel
theorem d_Pc_hasWord_15 : decode prog_5_method_12_code 15 = .ok (.if_icmp .gt 15, 3) := by decide +kernel
theorem d_Pc_hasWord_18 : decode prog_5_method_12_code 18 = .ok (.iload_n 2, 1) := by decide +kernel
theorem d_Pc_hasWord_19 : decode prog_5_method_12_code 19 = .ok (.aload_n 0, 1) := by decide +kernel
theorem d_Pc_hasWord_20 : decode prog_5_method_12_code 20 = .ok (.getfield 27, 3) := by decide +kernel
theorem d_Pc_hasWord_23 : decode prog_5_method_12_code 23 = .ok (.if_icmp .ge 7, 3) := by decide +kernel
theorem d_Pc_hasWord_26 : decode prog_5_method_12_code 26 = .ok (.iconst 1, 1) := by decide +kernel
theorem d_Pc_hasWord_27 : decode prog_5_method_12_code 27 = .ok (.goto 4, 3) := by decide +kernel
theorem d_Pc_hasWord_30 : decode prog_5_method_12_code 30 = .ok (.iconst 0, 1) := by decide +kernel
theorem d_Pc_hasWord_31 : decode prog_5_method_12_code 31 = .ok (.ireturn, 1) := by decide +kernel
theorem d_JL_bitCount_0 : decode prog_14_method_50_code 0 = .ok (.lload_n 0, 1) := by decide +kernel
theorem d_JL_bitCount_1 : decode prog_14_method_50_code 1 = .ok (.lload_n 0, 1) := by decide +kernel
theorem d_JL_bitCount_2 : decode prog_14_method_50_code 2 = .ok (.iconst 1, 1) := by decide +kernel
theorem d_JL_bitCount_3 : decode prog_14_method_50_code 3 = .ok (.lushr, 1) := by decide +kernel
theorem d_JL_bitCount_4 : decode prog_14_method_50_code 4 = .ok (.ldc2_w 314, 3) := by decide +kernel
theorem d_JL_bitCount_7 : decode prog_14_method_50_code 7 = .ok (.land, 1) := by decide +kernel
theorem d_JL_bitCount_8 : decode prog_14_method_50_code 8 = .ok (.lsub, 1) := by decide +kernel
theorem d_JL_bitCount_9 : decode prog_14_method_50_code 9 = .ok (.lstore_n 0, 1) := by decide +kernel
theorem d_JL_bitCount_10 : decode prog_14_method_50_code 10 = .ok (.lload_n 0, 1) := by decide +kernel
theorem d_JL_bitCount_11 : decode prog_14_method_50_code 11 = .ok (.ldc2_w 316, 3) := by decide +kernel
theorem d_JL_bitCount_14 : decode prog_14_method_50_code 14 = .ok (.land, 1) := by decide +kernel
theorem d_JL_bitCount_15 : decode prog_14_method_50_code 15 = .ok (.lload_n 0, 1) := by decide +kernel
theorem d_JL_bitCount_16 : decode prog_14_method_50_code 16 = .ok (.iconst 2, 1) := by decide +kernel
theorem d_JL_bitCount_17 : decode prog_14_method_50_code 17 = .ok (.lushr, 1) := by decide +kernel
theorem d_JL_bitCount_18 : decode prog_14_method_50_code 18 = .ok (.ldc2_w 316, 3) := by decide +kernel
theorem d_JL_bitCount_21 : decode prog_14_method_50_code 21 = .ok (.land, 1) := by decide +kernel
theorem d_JL_bitCount_22 : decode prog_14_method_50_code 22 = .ok (.ladd, 1) := by decide +kernel
theorem d_JL_bitCount_23 : decode prog_14_method_50_code 23 = .ok (.lstore_n 0, 1) := by decide +kernel
theorem d_JL_bitCount_24 : decode prog_14_method_50_code 24 = .ok (.lload_n 0, 1) := by decide +kernel
theorem d_JL_bitCount_25 : decode prog_14_method_50_code 25 = .ok (.lload_n 0, 1) := by decide +kernel
theorem d_JL_bitCount_26 : decode prog_14_method_50_code 26 = .ok (.iconst 4, 1) := by decide +kernel
theorem d_JL_bitCount_27 : decode prog_14_method_50_code 27 = .ok (.lushr, 1) := by decide +kernel
theorem d_JL_bitCount_28 : decode prog_14_method_50_code 28 = .ok (.ladd, 1) := by decide +kernel
theorem d_JL_bitCount_29 : decode prog_14_method_50_code 29 = .ok (.ldc2_w 318, 3) := by decide +kernel
theorem d_JL_bitCount_32 : decode prog_14_method_50_code 32 = .ok (.land, 1) := by decide +kernel
theorem d_JL_bitCount_33 : decode prog_14_method_50_code 33 = .ok (.lstore_n 0, 1) := by decide +kernel
theorem d_JL_bitCount_34 : decode prog_14_method_50_code 34 = .ok (.lload_n 0, 1) := by decide +kernel
theorem d_JL_bitCount_35 : decode prog_14_method_50_code 35 = .ok (.lload_n 0, 1) := by decide +kernel
theorem d_JL_bitCount_36 : decode prog_14_method_50_code 36 = .ok (.bipush 8, 2) := by decide +kernel
theorem d_JL_bitCount_38 : decode prog_14_method_50_code 38 = .ok (.lushr, 1) := by decide +kernel
theorem d_JL_bitCount_39 : decode prog_14_method_50_code 39 = .ok (.ladd, 1) := by decide +kernel
theorem d_JL_bitCount_40 : decode prog_14_method_50_code 40 = .ok (.lstore_n 0, 1) := by decide +kernel
theorem d_JL_bitCount_41 : decode prog_14_method_50_code 41 = .ok (.lload_n 0, 1) := by decide +kernel
theorem d_JL_bitCount_42 : decode prog_14_method_50_code 42 = .ok (.lload_n 0, 1) := by decide +kernel
theorem d_JL_bitCount_43 : decode prog_14_method_50_code 43 = .ok (.bipush 16, 2) := by decide +kernel
theorem d_JL_bitCount_45 : decode prog_14_method_50_code 45 = .ok (.lushr, 1) := by decide +kernel
theorem d_JL_bitCount_46 : decode prog_14_method_50_code 46 = .ok (.ladd, 1) := by decide +kernel
theorem d_JL_bitCount_47 : decode prog_14_method_50_code 47 = .ok (.lstore_n 0, 1) := by decide +kernel
theorem d_JL_bitCount_48 : decode prog_14_method_50_code 48 = .ok (.lload_n 0, 1) := by decide +kernel
theorem d_JL_bitCount_49 : decode prog_14_method_50_code 49 = .ok (.lload_n 0, 1) := by decide +kernel
theorem d_JL_bitCount_50 : decode prog_14_method_50_code 50 = .ok (.bipush 32, 2) := by decide +kernel
theorem d_JL_bitCount_52 : decode prog_14_method_50_code 52 = .ok (.lushr, 1) := by decide +kernel
theorem d_JL_bitCount_53 : decode prog_14_method_50_code 53 = .ok (.ladd, 1) := by decide +kernel
theorem d_JL_bitCount_54 : decode prog_14_method_50_code 54 = .ok (.lstore_n 0, 1) := by decide +kernel
theorem d_JL_bitCount_55 : decode prog_14_method_50_code 55 = .ok (.lload_n 0, 1) := by decide +kernel
theorem d_JL_bitCount_56 : decode prog_14_method_50_code 56 = .ok (.l2i, 1) := by decide +kernel
theorem d_JL_bitCount_57 : decode prog_14_method_50_code 57 = .ok (.bipush 127, 2) := by decide +kernel
theorem d_JL_bitCount_59 : decode prog_14_method_50_code 59 = .ok (.iand, 1) := by decide +kernel
theorem d_JL_bitCount_60 : decode prog_14_method_50_code 60 = .ok (.ireturn, 1) := by decide +kernel
theorem d_JM_floorDiv_0 : decode prog_15_method_47_code 0 = .ok (.iload_n 0, 1) := by decide +kernel
theorem d_JM_floorDiv_1 : decode prog_15_method_47_code 1 = .ok (.iload_n 1, 1) := by decide +kernel
theorem d_JM_floorDiv_2 : decode prog_15_method_47_code 2 = .ok (.idiv, 1) := by decide +kernel
theorem d_JM_floorDiv_3 : decode prog_15_method_47_code 3 = .ok (.istore_n 2, 1) := by decide +kernel
theorem d_JM_floorDiv_4 : decode prog_15_method_47_code 4 = .ok (.iload_n 0, 1) := by decide +kernel
theorem d_JM_floorDiv_5 : decode prog_15_method_47_code 5 = .ok (.iload_n 1, 1) := by decide +kernel
theorem d_JM_floorDiv_6 : decode prog_15_method_47_code 6 = .ok (.ixor, 1) := by decide +kernel
theorem d_JM_floorDiv_7 : decode prog_15_method_47_code 7 = .ok (.ifCond .ge 14, 3) := by decide +kernel
theorem d_JM_floorDiv_10 : decode prog_15_method_47_code 10 = .ok (.iload_n 2, 1) := by decide +kernel
theorem d_JM_floorDiv_11 : decode prog_15_method_47_code 11 = .ok (.iload_n 1, 1) := by decide +kernel
theorem d_JM_floorDiv_12 : decode prog_15_method_47_code 12 = .ok (.imul, 1) := by decide +kernel
theorem d_JM_floorDiv_13 : decode prog_15_method_47_code 13 = .ok (.iload_n 0, 1) := by decide +kernel
theorem d_JM_floorDiv_14 : decode prog_15_method_47_code 14 = .ok (.if_icmp .eq 7, 3) := by decide +kernel
theorem d_JM_floorDiv_17 : decode prog_15_method_47_code 17 = .ok (.iload_n 2, 1) := by decide +kernel
theorem d_JM_floorDiv_18 : decode prog_15_method_47_code 18 = .ok (.iconst 1, 1) := by decide +kernel
theorem d_JM_floorDiv_19 : decode prog_15_method_47_code 19 = .ok (.isub, 1) := by decide +kernel
theorem d_JM_floorDiv_20 : decode prog_15_method_47_code 20 = .ok (.ireturn, 1) := by decide +kernel
theorem d_JM_floorDiv_21 : decode prog_15_method_47_code 21 = .ok (.iload_n 2, 1) := by decide +kernel
theorem d_JM_floorDiv_22 : decode prog_15_method_47_code 22 = .ok (.ireturn, 1) := by decide +kernel
theorem d_JM_floorMod_0 : decode prog_15_method_50_code 0 = .ok (.iload_n 0, 1) := by decide +kernel
theorem d_JM_floorMod_1 : decode prog_15_method_50_code 1 = .ok (.iload_n 1, 1) := by decide +kernel
theorem d_JM_floorMod_2 : decode prog_15_method_50_code 2 = .ok (.irem, 1) := by decide +kernel
theorem d_JM_floorMod_3 : decode prog_15_method_50_code 3 = .ok (.istore_n 2, 1) := by decide +kernel
theorem d_JM_floorMod_4 : decode prog_15_method_50_code 4 = .ok (.iload_n 0, 1) := by decide +kernel
theorem d_JM_floorMod_5 : decode prog_15_method_50_code 5 = .ok (.iload_n 1, 1) := by decide +kernel
theorem d_JM_floorMod_6 : decode prog_15_method_50_code 6 = .ok (.ixor, 1) := by decide +kernel
theorem d_JM_floorMod_7 : decode prog_15_method_50_code 7 = .ok (.ifCond .ge 11, 3) := by decide +kernel
theorem d_JM_floorMod_10 : decode prog_15_method_50_code 10 = .ok (.iload_n 2, 1) := by decide +kernel
theorem d_JM_floorMod_11 : decode prog_15_method_50_code 11 = .ok (.ifCond .eq 7, 3) := by decide +kernel
theorem d_JM_floorMod_14 : decode prog_15_method_50_code 14 = .ok (.iload_n 2, 1) := by decide +kernel
theorem d_JM_floorMod_15 : decode prog_15_method_50_code 15 = .ok (.iload_n 1, 1) := by decide +kernel
theorem d_JM_floorMod_16 : decode prog_15_method_50_code 16 = .ok (.iadd, 1) := by decide +kernel
theorem d_JM_floorMod_17 : decode prog_15_method_50_code 17 = .ok (.ireturn, 1) := by decide +kernel
theorem d_JM_floorMod_18 : decode prog_15_method_50_code 18 = .ok (.iload_n 2, 1) := by decide +kernel
theorem d_JM_floorMod_19 : decode prog_15_method_50_code 19 = .ok (.ireturn, 1) := by decide +kernel
theorem d_JA_fill_0 : decode prog_19_method_103_code 0 = .ok (.iconst 0, 1) := by decide +kernel
theorem d_JA_fill_1 : decode prog_19_method_103_code 1 = .ok (.istore_n 2, 1) := by decide +kernel
theorem d_JA_fill_2 : decode prog_19_method_103_code 2 = .ok (.aload_n 0, 1) := by decide +kernel
theorem d_JA_fill_3 : decode prog_19_method_103_code 3 = .ok (.arraylength, 1) := by decide +kernel
theorem d_JA_fill_4 : decode prog_19_method_103_code 4 = .ok (.istore_n 3, 1) := by decide +kernel
theorem d_JA_fill_5 : decode prog_19_method_103_code 5 = .ok (.iload_n 2, 1) := by decide +kernel
theorem d_JA_fill_6 : decode prog_19_method_103_code 6 = .ok (.iload_n 3, 1) := by decide +kernel
theorem d_JA_fill_7 : decode prog_19_method_103_code 7 = .ok (.if_icmp .ge 13, 3) := by decide +kernel
theorem d_JA_fill_10 : decode prog_19_method_103_code 10 = .ok (.aload_n 0, 1) := by decide +kernel
theorem d_JA_fill_11 : decode prog_19_method_103_code 11 = .ok (.iload_n 2, 1) := by decide +kernel
theorem d_JA_fill_12 : decode prog_19_method_103_code 12 = .ok (.iload_n 1, 1) := by decide +kernel
theorem d_JA_fill_13 : decode prog_19_method_103_code 13 = .ok (.iastore, 1) := by decide +kernel
theorem d_JA_fill_14 : decode prog_19_method_103_code 14 = .ok (.iinc 2 1, 3) := by decide +kernel
theorem d_JA_fill_17 : decode prog_19_method_103_code 17 = .ok (.goto (-12), 3) := by decide +kernel
theorem d_JA_fill_20 : decode prog_19_method_103_code 20 = .ok (.return_, 1) := by decide +kernel
end
section
theorem d_BP_init_0 : decode prog_1_method_1_code 0 = .ok (.aload_n 0, 1) := by decide +kernel
theorem d_BP_init_1 : decode prog_1_method_1_code 1 = .ok (.invokespecial 1, 3) := by decide +kernel
theorem d_BP_init_4 : decode prog_1_method_1_code 4 = .ok (.aload_n 0, 1) := by decide +kernel
theorem d_BP_init_5 : decode prog_1_method_1_code 5 = .ok (.iconst 1, 1) := by decide +kernel
theorem d_BP_init_6 : decode prog_1_method_1_code 6 = .ok (.iload_n 1, 1) := by decide +kernel
theorem d_BP_init_7 : decode prog_1_method_1_code 7 = .ok (.sipush 5100, 3) := by decide +kernel
theorem d_BP_init_10 : decode prog_1_method_1_code 10 = .ok (.invokestatic 9, 3) := by decide +kernel
theorem d_BP_init_13 : decode prog_1_method_1_code 13 = .ok (.putfield 13, 3) := by decide +kernel
theorem d_BP_init_16 : decode prog_1_method_1_code 16 = .ok (.aload_n 0, 1) := by decide +kernel
theorem d_BP_init_17 : decode prog_1_method_1_code 17 = .ok (.iconst 1, 1) := by decide +kernel
theorem d_BP_init_18 : decode prog_1_method_1_code 18 = .ok (.iload_n 2, 1) := by decide +kernel
theorem d_BP_init_19 : decode prog_1_method_1_code 19 = .ok (.sipush 5100, 3) := by decide +kernel
theorem d_BP_init_22 : decode prog_1_method_1_code 22 = .ok (.invokestatic 9, 3) := by decide +kernel
theorem d_BP_init_25 : decode prog_1_method_1_code 25 = .ok (.putfield 17, 3) := by decide +kernel
theorem d_BP_init_28 : decode prog_1_method_1_code 28 = .ok (.aload_n 0, 1) := by decide +kernel
theorem d_BP_init_29 : decode prog_1_method_1_code 29 = .ok (.iconst 1, 1) := by decide +kernel
theorem d_BP_init_30 : decode prog_1_method_1_code 30 = .ok (.iload_n 3, 1) := by decide +kernel
theorem d_BP_init_31 : decode prog_1_method_1_code 31 = .ok (.aload_n 0, 1) := by decide +kernel
theorem d_BP_init_32 : decode prog_1_method_1_code 32 = .ok (.getfield 17, 3) := by decide +kernel
theorem d_BP_init_35 : decode prog_1_method_1_code 35 = .ok (.invokestatic 9, 3) := by decide +kernel
theorem d_BP_init_38 : decode prog_1_method_1_code 38 = .ok (.putfield 20, 3) := by decide +kernel
theorem d_BP_init_41 : decode prog_1_method_1_code 41 = .ok (.aload_n 0, 1) := by decide +kernel
theorem d_BP_init_42 : decode prog_1_method_1_code 42 = .ok (.new 23, 3) := by decide +kernel
theorem d_BP_init_45 : decode prog_1_method_1_code 45 = .ok (.dup, 1) := by decide +kernel
theorem d_BP_init_46 : decode prog_1_method_1_code 46 = .ok (.iconst 0, 1) := by decide +kernel
theorem d_BP_init_47 : decode prog_1_method_1_code 47 = .ok (.iconst 0, 1) := by decide +kernel
theorem d_BP_init_48 : decode prog_1_method_1_code 48 = .ok (.aload_n 0, 1) := by decide +kernel
theorem d_BP_init_49 : decode prog_1_method_1_code 49 = .ok (.getfield 13, 3) := by decide +kernel
theorem d_BP_init_52 : decode prog_1_method_1_code 52 = .ok (.iconst 1, 1) := by decide +kernel
theorem d_BP_init_53 : decode prog_1_method_1_code 53 = .ok (.isub, 1) := by decide +kernel
theorem d_BP_init_54 : decode prog_1_method_1_code 54 = .ok (.aload_n 0, 1) := by decide +kernel
theorem d_BP_init_55 : decode prog_1_method_1_code 55 = .ok (.getfield 17, 3) := by decide +kernel
theorem d_BP_init_58 : decode prog_1_method_1_code 58 = .ok (.iconst 1, 1) := by decide +kernel
theorem d_BP_init_59 : decode prog_1_method_1_code 59 = .ok (.isub, 1) := by decide +kernel
theorem d_BP_init_60 : decode prog_1_method_1_code 60 = .ok (.invokespecial 25, 3) := by decide +kernel
theorem d_BP_init_63 : decode prog_1_method_1_code 63 = .ok (.putfield 28, 3) := by decide +kernel
theorem d_BP_init_66 : decode prog_1_method_1_code 66 = .ok (.aload_n 0, 1) := by decide +kernel
theorem d_BP_init_67 : decode prog_1_method_1_code 67 = .ok (.bipush 64, 2) := by decide +kernel
theorem d_BP_init_69 : decode prog_1_method_1_code 69 = .ok (.anewarray 32, 3) := by decide +kernel
theorem d_BP_init_72 : decode prog_1_method_1_code 72 = .ok (.putfield 34, 3) := by decide +kernel
theorem d_BP_init_75 : decode prog_1_method_1_code 75 = .ok (.aload_n 0, 1) := by decide +kernel
theorem d_BP_init_76 : decode prog_1_method_1_code 76 = .ok (.new 38, 3) := by decide +kernel
theorem d_BP_init_79 : decode prog_1_method_1_code 79 = .ok (.dup, 1) := by decide +kernel
theorem d_BP_init_80 : decode prog_1_method_1_code 80 = .ok (.aload_n 0, 1) := by decide +kernel
theorem d_BP_init_81 : decode prog_1_method_1_code 81 = .ok (.getfield 17, 3) := by decide +kernel
theorem d_BP_init_84 : decode prog_1_method_1_code 84 = .ok (.invokespecial 40, 3) := by decide +kernel
theorem d_BP_init_87 : decode prog_1_method_1_code 87 = .ok (.putfield 43, 3) := by decide +kernel
theorem d_BP_init_90 : decode prog_1_method_1_code 90 = .ok (.aload_n 0, 1) := by decide +kernel
theorem d_BP_init_91 : decode prog_1_method_1_code 91 = .ok (.new 47, 3) := by decide +kernel
theorem d_BP_init_94 : decode prog_1_method_1_code 94 = .ok (.dup, 1) := by decide +kernel
theorem d_BP_init_95 : decode prog_1_method_1_code 95 = .ok (.iconst 0, 1) := by decide +kernel
theorem d_BP_init_96 : decode prog_1_method_1_code 96 = .ok (.iconst 0, 1) := by decide +kernel
theorem d_BP_init_97 : decode prog_1_method_1_code 97 = .ok (.invokespecial 49, 3) := by decide +kernel
theorem d_BP_init_100 : decode prog_1_method_1_code 100 = .ok (.putfield 52, 3) := by decide +kernel
theorem d_BP_init_103 : decode prog_1_method_1_code 103 = .ok (.aload_n 0, 1) := by decide +kernel
theorem d_BP_init_104 : decode prog_1_method_1_code 104 = .ok (.aload_n 0, 1) := by decide +kernel
theorem d_BP_init_105 : decode prog_1_method_1_code 105 = .ok (.getfield 28, 3) := by decide +kernel
theorem d_BP_init_108 : decode prog_1_method_1_code 108 = .ok (.putfield 56, 3) := by decide +kernel
theorem d_BP_init_111 : decode prog_1_method_1_code 111 = .ok (.return_, 1) := by decide +kernel
theorem d_BP_shape_0 : decode prog_1_method_2_code 0 = .ok (.iconst 1, 1) := by decide +kernel
theorem d_BP_shape_1 : decode prog_1_method_2_code 1 = .ok (.iload_n 1, 1) := by decide +kernel
theorem d_BP_shape_2 : decode prog_1_method_2_code 2 = .ok (.sipush 128, 3) := by decide +kernel
theorem d_BP_shape_5 : decode prog_1_method_2_code 5 = .ok (.invokestatic 59, 3) := by decide +kernel
theorem d_BP_shape_8 : decode prog_1_method_2_code 8 = .ok (.ifCond .eq 14, 3) := by decide +kernel
theorem d_BP_shape_11 : decode prog_1_method_2_code 11 = .ok (.iconst 1, 1) := by decide +kernel
theorem d_BP_shape_12 : decode prog_1_method_2_code 12 = .ok (.iload_n 2, 1) := by decide +kernel
theorem d_BP_shape_13 : decode prog_1_method_2_code 13 = .ok (.sipush 128, 3) := by decide +kernel
theorem d_BP_shape_16 : decode prog_1_method_2_code 16 = .ok (.invokestatic 59, 3) := by decide +kernel
theorem d_BP_shape_19 : decode prog_1_method_2_code 19 = .ok (.ifCond .ne 13, 3) := by decide +kernel
theorem d_BP_shape_22 : decode prog_1_method_2_code 22 = .ok (.new 63, 3) := by decide +kernel
theorem d_BP_shape_25 : decode prog_1_method_2_code 25 = .ok (.dup, 1) := by decide +kernel
theorem d_BP_shape_26 : decode prog_1_method_2_code 26 = .ok (.ldc 65, 2) := by decide +kernel
theorem d_BP_shape_28 : decode prog_1_method_2_code 28 = .ok (.invokespecial 67, 3) := by decide +kernel
theorem d_BP_shape_31 : decode prog_1_method_2_code 31 = .ok (.athrow, 1) := by decide +kernel
theorem d_BP_shape_32 : decode prog_1_method_2_code 32 = .ok (.aload_n 0, 1) := by decide +kernel
theorem d_BP_shape_33 : decode prog_1_method_2_code 33 = .ok (.getfield 70, 3) := by decide +kernel
theorem d_BP_shape_36 : decode prog_1_method_2_code 36 = .ok (.bipush 64, 2) := by decide +kernel
theorem d_BP_shape_38 : decode prog_1_method_2_code 38 = .ok (.if_icmp .ge 15, 3) := by decide +kernel
theorem d_BP_shape_41 : decode prog_1_method_2_code 41 = .ok (.aload_n 0, 1) := by decide +kernel
theorem d_BP_shape_42 : decode prog_1_method_2_code 42 = .ok (.getfield 73, 3) := by decide +kernel
theorem d_BP_shape_45 : decode prog_1_method_2_code 45 = .ok (.iload_n 2, 1) := by decide +kernel
theorem d_BP_shape_46 : decode prog_1_method_2_code 46 = .ok (.iadd, 1) := by decide +kernel
theorem d_BP_shape_47 : decode prog_1_method_2_code 47 = .ok (.sipush 4096, 3) := by decide +kernel
theorem d_BP_shape_50 : decode prog_1_method_2_code 50 = .ok (.if_icmp .le 13, 3) := by decide +kernel
theorem d_BP_shape_53 : decode prog_1_method_2_code 53 = .ok (.new 76, 3) := by decide +kernel
theorem d_BP_shape_56 : decode prog_1_method_2_code 56 = .ok (.dup, 1) := by decide +kernel
theorem d_BP_shape_57 : decode prog_1_method_2_code 57 = .ok (.ldc 78, 2) := by decide +kernel
theorem d_BP_shape_59 : decode prog_1_method_2_code 59 = .ok (.invokespecial 80, 3) := by decide +kernel
theorem d_BP_shape_62 : decode prog_1_method_2_code 62 = .ok (.athrow, 1) := by decide +kernel
theorem d_BP_shape_63 : decode prog_1_method_2_code 63 = .ok (.aload_n 0, 1) := by decide +kernel
theorem d_BP_shape_64 : decode prog_1_method_2_code 64 = .ok (.getfield 70, 3) := by decide +kernel
theorem d_BP_shape_67 : decode prog_1_method_2_code 67 = .ok (.istore_n 3, 1) := by decide +kernel
theorem d_BP_shape_68 : decode prog_1_method_2_code 68 = .ok (.aload_n 0, 1) := by decide +kernel
theorem d_BP_shape_69 : decode prog_1_method_2_code 69 = .ok (.getfield 34, 3) := by decide +kernel
theorem d_BP_shape_72 : decode prog_1_method_2_code 72 = .ok (.iload_n 3, 1) := by decide +kernel
theorem d_BP_shape_73 : decode prog_1_method_2_code 73 = .ok (.new 32, 3) := by decide +kernel
theorem d_BP_shape_76 : decode prog_1_method_2_code 76 = .ok (.dup, 1) := by decide +kernel
theorem d_BP_shape_77 : decode prog_1_method_2_code 77 = .ok (.iload_n 1, 1) := by decide +kernel
theorem d_BP_shape_78 : decode prog_1_method_2_code 78 = .ok (.iload_n 2, 1) := by decide +kernel
theorem d_BP_shape_79 : decode prog_1_method_2_code 79 = .ok (.invokespecial 81, 3) := by decide +kernel
theorem d_BP_shape_82 : decode prog_1_method_2_code 82 = .ok (.aastore, 1) := by decide +kernel
theorem d_BP_shape_83 : decode prog_1_method_2_code 83 = .ok (.aload_n 0, 1) := by decide +kernel
theorem d_BP_shape_84 : decode prog_1_method_2_code 84 = .ok (.dup, 1) := by decide +kernel
theorem d_BP_shape_85 : decode prog_1_method_2_code 85 = .ok (.getfield 70, 3) := by decide +kernel
theorem d_BP_shape_88 : decode prog_1_method_2_code 88 = .ok (.iconst 1, 1) := by decide +kernel
theorem d_BP_shape_89 : decode prog_1_method_2_code 89 = .ok (.iadd, 1) := by decide +kernel
theorem d_BP_shape_90 : decode prog_1_method_2_code 90 = .ok (.putfield 70, 3) := by decide +kernel
theorem d_BP_shape_93 : decode prog_1_method_2_code 93 = .ok (.aload_n 0, 1) := by decide +kernel
theorem d_BP_shape_94 : decode prog_1_method_2_code 94 = .ok (.dup, 1) := by decide +kernel
theorem d_BP_shape_95 : decode prog_1_method_2_code 95 = .ok (.getfield 73, 3) := by decide +kernel
theorem d_BP_shape_98 : decode prog_1_method_2_code 98 = .ok (.iload_n 2, 1) := by decide +kernel
theorem d_BP_shape_99 : decode prog_1_method_2_code 99 = .ok (.iadd, 1) := by decide +kernel
theorem d_BP_shape_100 : decode prog_1_method_2_code 100 = .ok (.putfield 73, 3) := by decide +kernel
theorem d_BP_shape_103 : decode prog_1_method_2_code 103 = .ok (.iload_n 3, 1) := by decide +kernel
theorem d_BP_shape_104 : decode prog_1_method_2_code 104 = .ok (.ireturn, 1) := by decide +kernel
theorem d_BP_draw_0 : decode prog_1_method_3_code 0 = .ok (.aload_n 0, 1) := by decide +kernel
theorem d_BP_draw_1 : decode prog_1_method_3_code 1 = .ok (.iload_n 1, 1) := by decide +kernel
theorem d_BP_draw_2 : decode prog_1_method_3_code 2 = .ok (.invokevirtual 82, 3) := by decide +kernel
theorem d_BP_draw_5 : decode prog_1_method_3_code 5 = .ok (.astore 7, 2) := by decide +kernel
theorem d_BP_draw_7 : decode prog_1_method_3_code 7 = .ok (.aload 7, 2) := by decide +kernel
theorem d_BP_draw_9 : decode prog_1_method_3_code 9 = .ok (.ifnull 29, 3) := by decide +kernel
theorem d_BP_draw_12 : decode prog_1_method_3_code 12 = .ok (.aload 7, 2) := by decide +kernel
theorem d_BP_draw_14 : decode prog_1_method_3_code 14 = .ok (.getfield 86, 3) := by decide +kernel
theorem d_BP_draw_17 : decode prog_1_method_3_code 17 = .ok (.ifCond .ne 21, 3) := by decide +kernel
theorem d_BP_draw_20 : decode prog_1_method_3_code 20 = .ok (.iconst 0, 1) := by decide +kernel
theorem d_BP_draw_21 : decode prog_1_method_3_code 21 = .ok (.iload_n 2, 1) := by decide +kernel
theorem d_BP_draw_22 : decode prog_1_method_3_code 22 = .ok (.aload 7, 2) := by decide +kernel
theorem d_BP_draw_24 : decode prog_1_method_3_code 24 = .ok (.getfield 90, 3) := by decide +kernel
theorem d_BP_draw_27 : decode prog_1_method_3_code 27 = .ok (.getfield 94, 3) := by decide +kernel
theorem d_BP_draw_30 : decode prog_1_method_3_code 30 = .ok (.iconst 1, 1) := by decide +kernel
theorem d_BP_draw_31 : decode prog_1_method_3_code 31 = .ok (.isub, 1) := by decide +kernel
theorem d_BP_draw_32 : decode prog_1_method_3_code 32 = .ok (.invokestatic 59, 3) := by decide +kernel
theorem d_BP_draw_35 : decode prog_1_method_3_code 35 = .ok (.ifCond .ne 5, 3) := by decide +kernel
theorem d_BP_draw_38 : decode prog_1_method_3_code 38 = .ok (.iconst 0, 1) := by decide +kernel
theorem d_BP_draw_39 : decode prog_1_method_3_code 39 = .ok (.ireturn, 1) := by decide +kernel
theorem d_BP_draw_40 : decode prog_1_method_3_code 40 = .ok (.aload 7, 2) := by decide +kernel
theorem d_BP_draw_42 : decode prog_1_method_3_code 42 = .ok (.iload_n 2, 1) := by decide +kernel
theorem d_BP_draw_43 : decode prog_1_method_3_code 43 = .ok (.lload_n 3, 1) := by decide +kernel
theorem d_BP_draw_44 : decode prog_1_method_3_code 44 = .ok (.lload 5, 2) := by decide +kernel
theorem d_BP_draw_46 : decode prog_1_method_3_code 46 = .ok (.invokevirtual 99, 3) := by decide +kernel
theorem d_BP_draw_49 : decode prog_1_method_3_code 49 = .ok (.iconst 1, 1) := by decide +kernel
theorem d_BP_draw_50 : decode prog_1_method_3_code 50 = .ok (.ireturn, 1) := by decide +kernel
theorem d_BP_ink_0 : decode prog_1_method_4_code 0 = .ok (.iload_n 1, 1) := by decide +kernel
theorem d_BP_ink_1 : decode prog_1_method_4_code 1 = .ok (.iload_n 2, 1) := by decide +kernel
theorem d_BP_ink_2 : decode prog_1_method_4_code 2 = .ok (.invokestatic 103, 3) := by decide +kernel
theorem d_BP_ink_5 : decode prog_1_method_4_code 5 = .ok (.ifCond .ne 5, 3) := by decide +kernel
theorem d_BP_ink_8 : decode prog_1_method_4_code 8 = .ok (.iconst 0, 1) := by decide +kernel
theorem d_BP_ink_9 : decode prog_1_method_4_code 9 = .ok (.ireturn, 1) := by decide +kernel
theorem d_BP_ink_10 : decode prog_1_method_4_code 10 = .ok (.aload_n 0, 1) := by decide +kernel
theorem d_BP_ink_11 : decode prog_1_method_4_code 11 = .ok (.new 47, 3) := by decide +kernel
theorem d_BP_ink_14 : decode prog_1_method_4_code 14 = .ok (.dup, 1) := by decide +kernel
theorem d_BP_ink_15 : decode prog_1_method_4_code 15 = .ok (.iload_n 1, 1) := by decide +kernel
theorem d_BP_ink_16 : decode prog_1_method_4_code 16 = .ok (.iload_n 2, 1) := by decide +kernel
theorem d_BP_ink_17 : decode prog_1_method_4_code 17 = .ok (.invokespecial 49, 3) := by decide +kernel
theorem d_BP_ink_20 : decode prog_1_method_4_code 20 = .ok (.putfield 52, 3) := by decide +kernel
theorem d_BP_ink_23 : decode prog_1_method_4_code 23 = .ok (.iconst 1, 1) := by decide +kernel
theorem d_BP_ink_24 : decode prog_1_method_4_code 24 = .ok (.ireturn, 1) := by decide +kernel
theorem d_BP_mode_0 : decode prog_1_method_5_code 0 = .ok (.aload_n 0, 1) := by decide +kernel
theorem d_BP_mode_1 : decode prog_1_method_5_code 1 = .ok (.iload_n 1, 1) := by decide +kernel
theorem d_BP_mode_2 : decode prog_1_method_5_code 2 = .ok (.putfield 107, 3) := by decide +kernel
theorem d_BP_mode_5 : decode prog_1_method_5_code 5 = .ok (.aload_n 0, 1) := by decide +kernel
theorem d_BP_mode_6 : decode prog_1_method_5_code 6 = .ok (.iload_n 2, 1) := by decide +kernel
theorem d_BP_mode_7 : decode prog_1_method_5_code 7 = .ok (.putfield 110, 3) := by decide +kernel
theorem d_BP_mode_10 : decode prog_1_method_5_code 10 = .ok (.return_, 1) := by decide +kernel
theorem d_BP_turn_0 : decode prog_1_method_6_code 0 = .ok (.iconst 0, 1) := by decide +kernel
theorem d_BP_turn_1 : decode prog_1_method_6_code 1 = .ok (.iload_n 1, 1) := by decide +kernel
theorem d_BP_turn_2 : decode prog_1_method_6_code 2 = .ok (.iconst 3, 1) := by decide +kernel
theorem d_BP_turn_3 : decode prog_1_method_6_code 3 = .ok (.invokestatic 59, 3) := by decide +kernel
theorem d_BP_turn_6 : decode prog_1_method_6_code 6 = .ok (.ifCond .ne 5, 3) := by decide +kernel
theorem d_BP_turn_9 : decode prog_1_method_6_code 9 = .ok (.iconst 0, 1) := by decide +kernel
theorem d_BP_turn_10 : decode prog_1_method_6_code 10 = .ok (.ireturn, 1) := by decide +kernel
theorem d_BP_turn_11 : decode prog_1_method_6_code 11 = .ok (.aload_n 0, 1) := by decide +kernel
theorem d_BP_turn_12 : decode prog_1_method_6_code 12 = .ok (.iload_n 1, 1) := by decide +kernel
theorem d_BP_turn_13 : decode prog_1_method_6_code 13 = .ok (.putfield 113, 3) := by decide +kernel
theorem d_BP_turn_16 : decode prog_1_method_6_code 16 = .ok (.iconst 1, 1) := by decide +kernel
theorem d_BP_turn_17 : decode prog_1_method_6_code 17 = .ok (.ireturn, 1) := by decide +kernel
theorem d_BP_clip_0 : decode prog_1_method_7_code 0 = .ok (.iload_n 1, 1) := by decide +kernel
theorem d_BP_clip_1 : decode prog_1_method_7_code 1 = .ok (.iload_n 3, 1) := by decide +kernel
theorem d_BP_clip_2 : decode prog_1_method_7_code 2 = .ok (.if_icmp .gt 9, 3) := by decide +kernel
theorem d_BP_clip_5 : decode prog_1_method_7_code 5 = .ok (.iload_n 2, 1) := by decide +kernel
theorem d_BP_clip_6 : decode prog_1_method_7_code 6 = .ok (.iload 4, 2) := by decide +kernel
theorem d_BP_clip_8 : decode prog_1_method_7_code 8 = .ok (.if_icmp .le 5, 3) := by decide +kernel
theorem d_BP_clip_11 : decode prog_1_method_7_code 11 = .ok (.iconst 0, 1) := by decide +kernel
theorem d_BP_clip_12 : decode prog_1_method_7_code 12 = .ok (.ireturn, 1) := by decide +kernel
theorem d_BP_clip_13 : decode prog_1_method_7_code 13 = .ok (.aload_n 0, 1) := by decide +kernel
theorem d_BP_clip_14 : decode prog_1_method_7_code 14 = .ok (.new 23, 3) := by decide +kernel
theorem d_BP_clip_17 : decode prog_1_method_7_code 17 = .ok (.dup, 1) := by decide +kernel
theorem d_BP_clip_18 : decode prog_1_method_7_code 18 = .ok (.iload_n 1, 1) := by decide +kernel
theorem d_BP_clip_19 : decode prog_1_method_7_code 19 = .ok (.iload_n 2, 1) := by decide +kernel
theorem d_BP_clip_20 : decode prog_1_method_7_code 20 = .ok (.iload_n 3, 1) := by decide +kernel
theorem d_BP_clip_21 : decode prog_1_method_7_code 21 = .ok (.iload 4, 2) := by decide +kernel
theorem d_BP_clip_23 : decode prog_1_method_7_code 23 = .ok (.invokespecial 25, 3) := by decide +kernel
theorem d_BP_clip_26 : decode prog_1_method_7_code 26 = .ok (.aload_n 0, 1) := by decide +kernel
theorem d_BP_clip_27 : decode prog_1_method_7_code 27 = .ok (.getfield 28, 3) := by decide +kernel
theorem d_BP_clip_30 : decode prog_1_method_7_code 30 = .ok (.invokevirtual 116, 3) := by decide +kernel
theorem d_BP_clip_33 : decode prog_1_method_7_code 33 = .ok (.putfield 56, 3) := by decide +kernel
theorem d_BP_clip_36 : decode prog_1_method_7_code 36 = .ok (.iconst 1, 1) := by decide +kernel
theorem d_BP_clip_37 : decode prog_1_method_7_code 37 = .ok (.ireturn, 1) := by decide +kernel
theorem d_BP_stamp_0 : decode prog_1_method_8_code 0 = .ok (.aload_n 0, 1) := by decide +kernel
theorem d_BP_stamp_1 : decode prog_1_method_8_code 1 = .ok (.iload_n 1, 1) := by decide +kernel
theorem d_BP_stamp_2 : decode prog_1_method_8_code 2 = .ok (.invokevirtual 82, 3) := by decide +kernel
theorem d_BP_stamp_5 : decode prog_1_method_8_code 5 = .ok (.astore 4, 2) := by decide +kernel
theorem d_BP_stamp_7 : decode prog_1_method_8_code 7 = .ok (.aload 4, 2) := by decide +kernel
theorem d_BP_stamp_9 : decode prog_1_method_8_code 9 = .ok (.ifnull 12, 3) := by decide +kernel
theorem d_BP_stamp_12 : decode prog_1_method_8_code 12 = .ok (.aload_n 0, 1) := by decide +kernel
theorem d_BP_stamp_13 : decode prog_1_method_8_code 13 = .ok (.iload_n 2, 1) := by decide +kernel
theorem d_BP_stamp_14 : decode prog_1_method_8_code 14 = .ok (.iload_n 3, 1) := by decide +kernel
theorem d_BP_stamp_15 : decode prog_1_method_8_code 15 = .ok (.invokevirtual 120, 3) := by decide +kernel
theorem d_BP_stamp_18 : decode prog_1_method_8_code 18 = .ok (.ifCond .ne 5, 3) := by decide +kernel
theorem d_BP_stamp_21 : decode prog_1_method_8_code 21 = .ok (.iconst 0, 1) := by decide +kernel
theorem d_BP_stamp_22 : decode prog_1_method_8_code 22 = .ok (.ireturn, 1) := by decide +kernel
theorem d_BP_stamp_23 : decode prog_1_method_8_code 23 = .ok (.aload 4, 2) := by decide +kernel
theorem d_BP_stamp_25 : decode prog_1_method_8_code 25 = .ok (.iconst 1, 1) := by decide +kernel
theorem d_BP_stamp_26 : decode prog_1_method_8_code 26 = .ok (.putfield 86, 3) := by decide +kernel
theorem d_BP_stamp_29 : decode prog_1_method_8_code 29 = .ok (.aload_n 0, 1) := by decide +kernel
theorem d_BP_stamp_30 : decode prog_1_method_8_code 30 = .ok (.aload 4, 2) := by decide +kernel
theorem d_BP_stamp_32 : decode prog_1_method_8_code 32 = .ok (.aload_n 0, 1) := by decide +kernel
theorem d_BP_stamp_33 : decode prog_1_method_8_code 33 = .ok (.getfield 113, 3) := by decide +kernel
theorem d_BP_stamp_36 : decode prog_1_method_8_code 36 = .ok (.invokevirtual 123, 3) := by decide +kernel
theorem d_BP_stamp_39 : decode prog_1_method_8_code 39 = .ok (.iload_n 2, 1) := by decide +kernel
theorem d_BP_stamp_40 : decode prog_1_method_8_code 40 = .ok (.iload_n 3, 1) := by decide +kernel
theorem d_BP_stamp_41 : decode prog_1_method_8_code 41 = .ok (.aload 4, 2) := by decide +kernel
theorem d_BP_stamp_43 : decode prog_1_method_8_code 43 = .ok (.getfield 90, 3) := by decide +kernel
theorem d_BP_stamp_46 : decode prog_1_method_8_code 46 = .ok (.getfield 127, 3) := by decide +kernel
theorem d_BP_stamp_49 : decode prog_1_method_8_code 49 = .ok (.aload 4, 2) := by decide +kernel
theorem d_BP_stamp_51 : decode prog_1_method_8_code 51 = .ok (.getfield 90, 3) := by decide +kernel
theorem d_BP_stamp_54 : decode prog_1_method_8_code 54 = .ok (.getfield 94, 3) := by decide +kernel
theorem d_BP_stamp_57 : decode prog_1_method_8_code 57 = .ok (.invokevirtual 130, 3) := by decide +kernel
theorem d_BP_stamp_60 : decode prog_1_method_8_code 60 = .ok (.iconst 1, 1) := by decide +kernel
theorem d_BP_stamp_61 : decode prog_1_method_8_code 61 = .ok (.ireturn, 1) := by decide +kernel
theorem d_BP_rule_0 : decode prog_1_method_9_code 0 = .ok (.aload_n 0, 1) := by decide +kernel
theorem d_BP_rule_1 : decode prog_1_method_9_code 1 = .ok (.iload_n 1, 1) := by decide +kernel
theorem d_BP_rule_2 : decode prog_1_method_9_code 2 = .ok (.iload_n 2, 1) := by decide +kernel
theorem d_BP_rule_3 : decode prog_1_method_9_code 3 = .ok (.invokevirtual 120, 3) := by decide +kernel
theorem d_BP_rule_6 : decode prog_1_method_9_code 6 = .ok (.ifCond .eq 26, 3) := by decide +kernel
theorem d_BP_rule_9 : decode prog_1_method_9_code 9 = .ok (.iconst 1, 1) := by decide +kernel
theorem d_BP_rule_10 : decode prog_1_method_9_code 10 = .ok (.iload_n 3, 1) := by decide +kernel
theorem d_BP_rule_11 : decode prog_1_method_9_code 11 = .ok (.sipush 10000, 3) := by decide +kernel
theorem d_BP_rule_14 : decode prog_1_method_9_code 14 = .ok (.invokestatic 59, 3) := by decide +kernel
theorem d_BP_rule_17 : decode prog_1_method_9_code 17 = .ok (.ifCond .eq 15, 3) := by decide +kernel
theorem d_BP_rule_20 : decode prog_1_method_9_code 20 = .ok (.iconst 1, 1) := by decide +kernel
theorem d_BP_rule_21 : decode prog_1_method_9_code 21 = .ok (.iload 4, 2) := by decide +kernel
theorem d_BP_rule_23 : decode prog_1_method_9_code 23 = .ok (.sipush 10000, 3) := by decide +kernel
theorem d_BP_rule_26 : decode prog_1_method_9_code 26 = .ok (.invokestatic 59, 3) := by decide +kernel
theorem d_BP_rule_29 : decode prog_1_method_9_code 29 = .ok (.ifCond .ne 5, 3) := by decide +kernel
theorem d_BP_rule_32 : decode prog_1_method_9_code 32 = .ok (.iconst 0, 1) := by decide +kernel
theorem d_BP_rule_33 : decode prog_1_method_9_code 33 = .ok (.ireturn, 1) := by decide +kernel
theorem d_BP_rule_34 : decode prog_1_method_9_code 34 = .ok (.aload_n 0, 1) := by decide +kernel
theorem d_BP_rule_35 : decode prog_1_method_9_code 35 = .ok (.aconst_null, 1) := by decide +kernel
theorem d_BP_rule_36 : decode prog_1_method_9_code 36 = .ok (.iload_n 1, 1) := by decide +kernel
theorem d_BP_rule_37 : decode prog_1_method_9_code 37 = .ok (.iload_n 2, 1) := by decide +kernel
theorem d_BP_rule_38 : decode prog_1_method_9_code 38 = .ok (.iload_n 3, 1) := by decide +kernel
theorem d_BP_rule_39 : decode prog_1_method_9_code 39 = .ok (.iload 4, 2) := by decide +kernel
theorem d_BP_rule_41 : decode prog_1_method_9_code 41 = .ok (.invokevirtual 130, 3) := by decide +kernel
theorem d_BP_rule_44 : decode prog_1_method_9_code 44 = .ok (.iconst 1, 1) := by decide +kernel
theorem d_BP_rule_45 : decode prog_1_method_9_code 45 = .ok (.ireturn, 1) := by decide +kernel
theorem d_BP_row_0 : decode prog_1_method_10_code 0 = .ok (.aload_n 0, 1) := by decide +kernel
theorem d_BP_row_1 : decode prog_1_method_10_code 1 = .ok (.iload_n 1, 1) := by decide +kernel
theorem d_BP_row_2 : decode prog_1_method_10_code 2 = .ok (.iload_n 2, 1) := by decide +kernel
theorem d_BP_row_3 : decode prog_1_method_10_code 3 = .ok (.invokevirtual 120, 3) := by decide +kernel
theorem d_BP_row_6 : decode prog_1_method_10_code 6 = .ok (.ifCond .eq 24, 3) := by decide +kernel
theorem d_BP_row_9 : decode prog_1_method_10_code 9 = .ok (.iconst 1, 1) := by decide +kernel
theorem d_BP_row_10 : decode prog_1_method_10_code 10 = .ok (.iload_n 3, 1) := by decide +kernel
theorem d_BP_row_11 : decode prog_1_method_10_code 11 = .ok (.bipush 8, 2) := by decide +kernel
theorem d_BP_row_13 : decode prog_1_method_10_code 13 = .ok (.invokestatic 59, 3) := by decide +kernel
theorem d_BP_row_16 : decode prog_1_method_10_code 16 = .ok (.ifCond .eq 14, 3) := by decide +kernel
theorem d_BP_row_19 : decode prog_1_method_10_code 19 = .ok (.iconst 1, 1) := by decide +kernel
theorem d_BP_row_20 : decode prog_1_method_10_code 20 = .ok (.iload 4, 2) := by decide +kernel
theorem d_BP_row_22 : decode prog_1_method_10_code 22 = .ok (.bipush 64, 2) := by decide +kernel
theorem d_BP_row_24 : decode prog_1_method_10_code 24 = .ok (.invokestatic 59, 3) := by decide +kernel
theorem d_BP_row_27 : decode prog_1_method_10_code 27 = .ok (.ifCond .ne 5, 3) := by decide +kernel
theorem d_BP_row_30 : decode prog_1_method_10_code 30 = .ok (.iconst 0, 1) := by decide +kernel
theorem d_BP_row_31 : decode prog_1_method_10_code 31 = .ok (.ireturn, 1) := by decide +kernel
theorem d_BP_row_32 : decode prog_1_method_10_code 32 = .ok (.iload 4, 2) := by decide +kernel
theorem d_BP_row_34 : decode prog_1_method_10_code 34 = .ok (.bipush 7, 2) := by decide +kernel
theorem d_BP_row_36 : decode prog_1_method_10_code 36 = .ok (.iadd, 1) := by decide +kernel
theorem d_BP_row_37 : decode prog_1_method_10_code 37 = .ok (.bipush 8, 2) := by decide +kernel
theorem d_BP_row_39 : decode prog_1_method_10_code 39 = .ok (.idiv, 1) := by decide +kernel
theorem d_BP_row_40 : decode prog_1_method_10_code 40 = .ok (.istore 7, 2) := by decide +kernel
theorem d_BP_row_42 : decode prog_1_method_10_code 42 = .ok (.aload_n 0, 1) := by decide +kernel
theorem d_BP_row_43 : decode prog_1_method_10_code 43 = .ok (.getfield 134, 3) := by decide +kernel
theorem d_BP_row_46 : decode prog_1_method_10_code 46 = .ok (.iload 7, 2) := by decide +kernel
theorem d_BP_row_48 : decode prog_1_method_10_code 48 = .ok (.iadd, 1) := by decide +kernel
theorem d_BP_row_49 : decode prog_1_method_10_code 49 = .ok (.ldc 137, 2) := by decide +kernel
theorem d_BP_row_51 : decode prog_1_method_10_code 51 = .ok (.if_icmp .le 5, 3) := by decide +kernel
theorem d_BP_row_54 : decode prog_1_method_10_code 54 = .ok (.iconst 0, 1) := by decide +kernel
theorem d_BP_row_55 : decode prog_1_method_10_code 55 = .ok (.ireturn, 1) := by decide +kernel
theorem d_BP_row_56 : decode prog_1_method_10_code 56 = .ok (.aload_n 0, 1) := by decide +kernel
theorem d_BP_row_57 : decode prog_1_method_10_code 57 = .ok (.dup, 1) := by decide +kernel
theorem d_BP_row_58 : decode prog_1_method_10_code 58 = .ok (.getfield 134, 3) := by decide +kernel
theorem d_BP_row_61 : decode prog_1_method_10_code 61 = .ok (.iload 7, 2) := by decide +kernel
theorem d_BP_row_63 : decode prog_1_method_10_code 63 = .ok (.iadd, 1) := by decide +kernel
theorem d_BP_row_64 : decode prog_1_method_10_code 64 = .ok (.putfield 134, 3) := by decide +kernel
theorem d_BP_row_67 : decode prog_1_method_10_code 67 = .ok (.new 95, 3) := by decide +kernel
theorem d_BP_row_70 : decode prog_1_method_10_code 70 = .ok (.dup, 1) := by decide +kernel
theorem d_BP_row_71 : decode prog_1_method_10_code 71 = .ok (.iload 4, 2) := by decide +kernel
theorem d_BP_row_73 : decode prog_1_method_10_code 73 = .ok (.iconst 1, 1) := by decide +kernel
theorem d_BP_row_74 : decode prog_1_method_10_code 74 = .ok (.iconst 1, 1) := by decide +kernel
theorem d_BP_row_75 : decode prog_1_method_10_code 75 = .ok (.invokespecial 138, 3) := by decide +kernel
theorem d_BP_row_78 : decode prog_1_method_10_code 78 = .ok (.astore 8, 2) := by decide +kernel
theorem d_BP_row_80 : decode prog_1_method_10_code 80 = .ok (.aload 8, 2) := by decide +kernel
theorem d_BP_row_82 : decode prog_1_method_10_code 82 = .ok (.iconst 0, 1) := by decide +kernel
theorem d_BP_row_83 : decode prog_1_method_10_code 83 = .ok (.lload 5, 2) := by decide +kernel
theorem d_BP_row_85 : decode prog_1_method_10_code 85 = .ok (.lconst 0, 1) := by decide +kernel
theorem d_BP_row_86 : decode prog_1_method_10_code 86 = .ok (.invokevirtual 141, 3) := by decide +kernel
theorem d_BP_row_89 : decode prog_1_method_10_code 89 = .ok (.aload_n 0, 1) := by decide +kernel
theorem d_BP_row_90 : decode prog_1_method_10_code 90 = .ok (.aload 8, 2) := by decide +kernel
theorem d_BP_row_92 : decode prog_1_method_10_code 92 = .ok (.aload_n 0, 1) := by decide +kernel
theorem d_BP_row_93 : decode prog_1_method_10_code 93 = .ok (.getfield 113, 3) := by decide +kernel
theorem d_BP_row_96 : decode prog_1_method_10_code 96 = .ok (.invokevirtual 144, 3) := by decide +kernel
theorem d_BP_row_99 : decode prog_1_method_10_code 99 = .ok (.iload_n 3, 1) := by decide +kernel
theorem d_BP_row_100 : decode prog_1_method_10_code 100 = .ok (.invokevirtual 145, 3) := by decide +kernel
theorem d_BP_row_103 : decode prog_1_method_10_code 103 = .ok (.iload_n 1, 1) := by decide +kernel
theorem d_BP_row_104 : decode prog_1_method_10_code 104 = .ok (.iload_n 2, 1) := by decide +kernel
theorem d_BP_row_105 : decode prog_1_method_10_code 105 = .ok (.iload 4, 2) := by decide +kernel
theorem d_BP_row_107 : decode prog_1_method_10_code 107 = .ok (.iload_n 3, 1) := by decide +kernel
theorem d_BP_row_108 : decode prog_1_method_10_code 108 = .ok (.imul, 1) := by decide +kernel
theorem d_BP_row_109 : decode prog_1_method_10_code 109 = .ok (.iload_n 3, 1) := by decide +kernel
theorem d_BP_row_110 : decode prog_1_method_10_code 110 = .ok (.invokevirtual 130, 3) := by decide +kernel
theorem d_BP_row_113 : decode prog_1_method_10_code 113 = .ok (.iconst 1, 1) := by decide +kernel
theorem d_BP_row_114 : decode prog_1_method_10_code 114 = .ok (.ireturn, 1) := by decide +kernel
theorem d_BP_eject_0 : decode prog_1_method_11_code 0 = .ok (.aload_n 0, 1) := by decide +kernel
theorem d_BP_eject_1 : decode prog_1_method_11_code 1 = .ok (.getfield 43, 3) := by decide +kernel
theorem d_BP_eject_4 : decode prog_1_method_11_code 4 = .ok (.invokevirtual 148, 3) := by decide +kernel
theorem d_BP_eject_7 : decode prog_1_method_11_code 7 = .ok (.aload_n 0, 1) := by decide +kernel
theorem d_BP_eject_8 : decode prog_1_method_11_code 8 = .ok (.iconst 0, 1) := by decide +kernel
theorem d_BP_eject_9 : decode prog_1_method_11_code 9 = .ok (.putfield 134, 3) := by decide +kernel
theorem d_BP_eject_12 : decode prog_1_method_11_code 12 = .ok (.iconst 0, 1) := by decide +kernel
theorem d_BP_eject_13 : decode prog_1_method_11_code 13 = .ok (.istore_n 1, 1) := by decide +kernel
theorem d_BP_eject_14 : decode prog_1_method_11_code 14 = .ok (.iload_n 1, 1) := by decide +kernel
theorem d_BP_eject_15 : decode prog_1_method_11_code 15 = .ok (.aload_n 0, 1) := by decide +kernel
theorem d_BP_eject_16 : decode prog_1_method_11_code 16 = .ok (.getfield 70, 3) := by decide +kernel
theorem d_BP_eject_19 : decode prog_1_method_11_code 19 = .ok (.if_icmp .ge 24, 3) := by decide +kernel
theorem d_BP_eject_22 : decode prog_1_method_11_code 22 = .ok (.aload_n 0, 1) := by decide +kernel
theorem d_BP_eject_23 : decode prog_1_method_11_code 23 = .ok (.iload_n 1, 1) := by decide +kernel
theorem d_BP_eject_24 : decode prog_1_method_11_code 24 = .ok (.invokevirtual 82, 3) := by decide +kernel
theorem d_BP_eject_27 : decode prog_1_method_11_code 27 = .ok (.astore_n 2, 1) := by decide +kernel
theorem d_BP_eject_28 : decode prog_1_method_11_code 28 = .ok (.aload_n 2, 1) := by decide +kernel
theorem d_BP_eject_29 : decode prog_1_method_11_code 29 = .ok (.ifnull 8, 3) := by decide +kernel
theorem d_BP_eject_32 : decode prog_1_method_11_code 32 = .ok (.aload_n 2, 1) := by decide +kernel
theorem d_BP_eject_33 : decode prog_1_method_11_code 33 = .ok (.iconst 0, 1) := by decide +kernel
theorem d_BP_eject_34 : decode prog_1_method_11_code 34 = .ok (.putfield 86, 3) := by decide +kernel
theorem d_BP_eject_37 : decode prog_1_method_11_code 37 = .ok (.iinc 1 1, 3) := by decide +kernel
theorem d_BP_eject_40 : decode prog_1_method_11_code 40 = .ok (.goto (-26), 3) := by decide +kernel
theorem d_BP_eject_43 : decode prog_1_method_11_code 43 = .ok (.return_, 1) := by decide +kernel
theorem d_BP_line_0 : decode prog_1_method_12_code 0 = .ok (.iconst 0, 1) := by decide +kernel
theorem d_BP_line_1 : decode prog_1_method_12_code 1 = .ok (.iload_n 1, 1) := by decide +kernel
theorem d_BP_line_2 : decode prog_1_method_12_code 2 = .ok (.aload_n 0, 1) := by decide +kernel
theorem d_BP_line_3 : decode prog_1_method_12_code 3 = .ok (.getfield 17, 3) := by decide +kernel
theorem d_BP_line_6 : decode prog_1_method_12_code 6 = .ok (.iconst 1, 1) := by decide +kernel
theorem d_BP_line_7 : decode prog_1_method_12_code 7 = .ok (.isub, 1) := by decide +kernel
theorem d_BP_line_8 : decode prog_1_method_12_code 8 = .ok (.invokestatic 59, 3) := by decide +kernel
theorem d_BP_line_11 : decode prog_1_method_12_code 11 = .ok (.ifCond .eq 20, 3) := by decide +kernel
theorem d_BP_line_14 : decode prog_1_method_12_code 14 = .ok (.iconst 0, 1) := by decide +kernel
theorem d_BP_line_15 : decode prog_1_method_12_code 15 = .ok (.iload_n 2, 1) := by decide +kernel
theorem d_BP_line_16 : decode prog_1_method_12_code 16 = .ok (.aload_n 0, 1) := by decide +kernel
theorem d_BP_line_17 : decode prog_1_method_12_code 17 = .ok (.getfield 13, 3) := by decide +kernel
theorem d_BP_line_20 : decode prog_1_method_12_code 20 = .ok (.iconst 1, 1) := by decide +kernel
theorem d_BP_line_21 : decode prog_1_method_12_code 21 = .ok (.isub, 1) := by decide +kernel
theorem d_BP_line_22 : decode prog_1_method_12_code 22 = .ok (.bipush 64, 2) := by decide +kernel
theorem d_BP_line_24 : decode prog_1_method_12_code 24 = .ok (.idiv, 1) := by decide +kernel
theorem d_BP_line_25 : decode prog_1_method_12_code 25 = .ok (.invokestatic 59, 3) := by decide +kernel
theorem d_BP_line_28 : decode prog_1_method_12_code 28 = .ok (.ifCond .ne 5, 3) := by decide +kernel
theorem d_BP_line_31 : decode prog_1_method_12_code 31 = .ok (.lconst 0, 1) := by decide +kernel
theorem d_BP_line_32 : decode prog_1_method_12_code 32 = .ok (.lreturn, 1) := by decide +kernel
theorem d_BP_line_33 : decode prog_1_method_12_code 33 = .ok (.aload_n 0, 1) := by decide +kernel
theorem d_BP_line_34 : decode prog_1_method_12_code 34 = .ok (.getfield 43, 3) := by decide +kernel
theorem d_BP_line_37 : decode prog_1_method_12_code 37 = .ok (.iload_n 1, 1) := by decide +kernel
theorem d_BP_line_38 : decode prog_1_method_12_code 38 = .ok (.iload_n 2, 1) := by decide +kernel
theorem d_BP_line_39 : decode prog_1_method_12_code 39 = .ok (.invokevirtual 151, 3) := by decide +kernel
theorem d_BP_line_42 : decode prog_1_method_12_code 42 = .ok (.lreturn, 1) := by decide +kernel
theorem d_BP_black_0 : decode prog_1_method_13_code 0 = .ok (.iconst 0, 1) := by decide +kernel
theorem d_BP_black_1 : decode prog_1_method_13_code 1 = .ok (.iload_n 1, 1) := by decide +kernel
theorem d_BP_black_2 : decode prog_1_method_13_code 2 = .ok (.aload_n 0, 1) := by decide +kernel
theorem d_BP_black_3 : decode prog_1_method_13_code 3 = .ok (.getfield 13, 3) := by decide +kernel
theorem d_BP_black_6 : decode prog_1_method_13_code 6 = .ok (.iconst 1, 1) := by decide +kernel
theorem d_BP_black_7 : decode prog_1_method_13_code 7 = .ok (.isub, 1) := by decide +kernel
theorem d_BP_black_8 : decode prog_1_method_13_code 8 = .ok (.invokestatic 59, 3) := by decide +kernel
theorem d_BP_black_11 : decode prog_1_method_13_code 11 = .ok (.ifCond .eq 17, 3) := by decide +kernel
theorem d_BP_black_14 : decode prog_1_method_13_code 14 = .ok (.iconst 0, 1) := by decide +kernel
theorem d_BP_black_15 : decode prog_1_method_13_code 15 = .ok (.iload_n 2, 1) := by decide +kernel
theorem d_BP_black_16 : decode prog_1_method_13_code 16 = .ok (.aload_n 0, 1) := by decide +kernel
theorem d_BP_black_17 : decode prog_1_method_13_code 17 = .ok (.getfield 17, 3) := by decide +kernel
theorem d_BP_black_20 : decode prog_1_method_13_code 20 = .ok (.iconst 1, 1) := by decide +kernel
theorem d_BP_black_21 : decode prog_1_method_13_code 21 = .ok (.isub, 1) := by decide +kernel
theorem d_BP_black_22 : decode prog_1_method_13_code 22 = .ok (.invokestatic 59, 3) := by decide +kernel
theorem d_BP_black_25 : decode prog_1_method_13_code 25 = .ok (.ifCond .ne 13, 3) := by decide +kernel
theorem d_BP_black_28 : decode prog_1_method_13_code 28 = .ok (.new 155, 3) := by decide +kernel
theorem d_BP_black_31 : decode prog_1_method_13_code 31 = .ok (.dup, 1) := by decide +kernel
theorem d_BP_black_32 : decode prog_1_method_13_code 32 = .ok (.ldc 157, 2) := by decide +kernel
theorem d_BP_black_34 : decode prog_1_method_13_code 34 = .ok (.invokespecial 159, 3) := by decide +kernel
theorem d_BP_black_37 : decode prog_1_method_13_code 37 = .ok (.athrow, 1) := by decide +kernel
theorem d_BP_black_38 : decode prog_1_method_13_code 38 = .ok (.aload_n 0, 1) := by decide +kernel
theorem d_BP_black_39 : decode prog_1_method_13_code 39 = .ok (.getfield 43, 3) := by decide +kernel
theorem d_BP_black_42 : decode prog_1_method_13_code 42 = .ok (.iload_n 2, 1) := by decide +kernel
theorem d_BP_black_43 : decode prog_1_method_13_code 43 = .ok (.iload_n 1, 1) := by decide +kernel
theorem d_BP_black_44 : decode prog_1_method_13_code 44 = .ok (.bipush 64, 2) := by decide +kernel
theorem d_BP_black_46 : decode prog_1_method_13_code 46 = .ok (.idiv, 1) := by decide +kernel
theorem d_BP_black_47 : decode prog_1_method_13_code 47 = .ok (.invokevirtual 151, 3) := by decide +kernel
theorem d_BP_black_50 : decode prog_1_method_13_code 50 = .ok (.ldc2_w 160, 3) := by decide +kernel
theorem d_BP_black_53 : decode prog_1_method_13_code 53 = .ok (.iload_n 1, 1) := by decide +kernel
theorem d_BP_black_54 : decode prog_1_method_13_code 54 = .ok (.bipush 64, 2) := by decide +kernel
theorem d_BP_black_56 : decode prog_1_method_13_code 56 = .ok (.irem, 1) := by decide +kernel
theorem d_BP_black_57 : decode prog_1_method_13_code 57 = .ok (.lushr, 1) := by decide +kernel
theorem d_BP_black_58 : decode prog_1_method_13_code 58 = .ok (.land, 1) := by decide +kernel
theorem d_BP_black_59 : decode prog_1_method_13_code 59 = .ok (.lconst 0, 1) := by decide +kernel
theorem d_BP_black_60 : decode prog_1_method_13_code 60 = .ok (.lcmp, 1) := by decide +kernel
theorem d_BP_black_61 : decode prog_1_method_13_code 61 = .ok (.ifCond .eq 7, 3) := by decide +kernel
theorem d_BP_black_64 : decode prog_1_method_13_code 64 = .ok (.iconst 1, 1) := by decide +kernel
theorem d_BP_black_65 : decode prog_1_method_13_code 65 = .ok (.goto 4, 3) := by decide +kernel
theorem d_BP_black_68 : decode prog_1_method_13_code 68 = .ok (.iconst 0, 1) := by decide +kernel
theorem d_BP_black_69 : decode prog_1_method_13_code 69 = .ok (.ireturn, 1) := by decide +kernel
theorem d_BP_count_0 : decode prog_1_method_14_code 0 = .ok (.iload_n 2, 1) := by decide +kernel
theorem d_BP_count_1 : decode prog_1_method_14_code 1 = .ok (.aload_n 0, 1) := by decide +kernel
theorem d_BP_count_2 : decode prog_1_method_14_code 2 = .ok (.getfield 17, 3) := by decide +kernel
theorem d_BP_count_5 : decode prog_1_method_14_code 5 = .ok (.iconst 1, 1) := by decide +kernel
theorem d_BP_count_6 : decode prog_1_method_14_code 6 = .ok (.isub, 1) := by decide +kernel
theorem d_BP_count_7 : decode prog_1_method_14_code 7 = .ok (.invokestatic 162, 3) := by decide +kernel
theorem d_BP_count_10 : decode prog_1_method_14_code 10 = .ok (.istore_n 3, 1) := by decide +kernel
theorem d_BP_count_11 : decode prog_1_method_14_code 11 = .ok (.iconst 0, 1) := by decide +kernel
theorem d_BP_count_12 : decode prog_1_method_14_code 12 = .ok (.istore 4, 2) := by decide +kernel
theorem d_BP_count_14 : decode prog_1_method_14_code 14 = .ok (.iload_n 1, 1) := by decide +kernel
theorem d_BP_count_15 : decode prog_1_method_14_code 15 = .ok (.iconst 0, 1) := by decide +kernel
theorem d_BP_count_16 : decode prog_1_method_14_code 16 = .ok (.invokestatic 168, 3) := by decide +kernel
theorem d_BP_count_19 : decode prog_1_method_14_code 19 = .ok (.istore 5, 2) := by decide +kernel
theorem d_BP_count_21 : decode prog_1_method_14_code 21 = .ok (.iload 5, 2) := by decide +kernel
theorem d_BP_count_23 : decode prog_1_method_14_code 23 = .ok (.iload_n 3, 1) := by decide +kernel
theorem d_BP_count_24 : decode prog_1_method_14_code 24 = .ok (.if_icmp .gt 23, 3) := by decide +kernel
theorem d_BP_count_27 : decode prog_1_method_14_code 27 = .ok (.iload 4, 2) := by decide +kernel
theorem d_BP_count_29 : decode prog_1_method_14_code 29 = .ok (.aload_n 0, 1) := by decide +kernel
theorem d_BP_count_30 : decode prog_1_method_14_code 30 = .ok (.getfield 43, 3) := by decide +kernel
theorem d_BP_count_33 : decode prog_1_method_14_code 33 = .ok (.iload 5, 2) := by decide +kernel
theorem d_BP_count_35 : decode prog_1_method_14_code 35 = .ok (.invokevirtual 171, 3) := by decide +kernel
theorem d_BP_count_38 : decode prog_1_method_14_code 38 = .ok (.iadd, 1) := by decide +kernel
theorem d_BP_count_39 : decode prog_1_method_14_code 39 = .ok (.istore 4, 2) := by decide +kernel
theorem d_BP_count_41 : decode prog_1_method_14_code 41 = .ok (.iinc 5 1, 3) := by decide +kernel
theorem d_BP_count_44 : decode prog_1_method_14_code 44 = .ok (.goto (-23), 3) := by decide +kernel
theorem d_BP_count_47 : decode prog_1_method_14_code 47 = .ok (.iload 4, 2) := by decide +kernel
theorem d_BP_count_49 : decode prog_1_method_14_code 49 = .ok (.ireturn, 1) := by decide +kernel
theorem d_BP_top_0 : decode prog_1_method_15_code 0 = .ok (.iload_n 1, 1) := by decide +kernel
theorem d_BP_top_1 : decode prog_1_method_15_code 1 = .ok (.iconst 0, 1) := by decide +kernel
theorem d_BP_top_2 : decode prog_1_method_15_code 2 = .ok (.invokestatic 168, 3) := by decide +kernel
theorem d_BP_top_5 : decode prog_1_method_15_code 5 = .ok (.istore_n 2, 1) := by decide +kernel
theorem d_BP_top_6 : decode prog_1_method_15_code 6 = .ok (.iload_n 2, 1) := by decide +kernel
theorem d_BP_top_7 : decode prog_1_method_15_code 7 = .ok (.aload_n 0, 1) := by decide +kernel
theorem d_BP_top_8 : decode prog_1_method_15_code 8 = .ok (.getfield 17, 3) := by decide +kernel
theorem d_BP_top_11 : decode prog_1_method_15_code 11 = .ok (.if_icmp .ge 22, 3) := by decide +kernel
theorem d_BP_top_14 : decode prog_1_method_15_code 14 = .ok (.aload_n 0, 1) := by decide +kernel
theorem d_BP_top_15 : decode prog_1_method_15_code 15 = .ok (.getfield 43, 3) := by decide +kernel
theorem d_BP_top_18 : decode prog_1_method_15_code 18 = .ok (.iload_n 2, 1) := by decide +kernel
theorem d_BP_top_19 : decode prog_1_method_15_code 19 = .ok (.invokevirtual 171, 3) := by decide +kernel
theorem d_BP_top_22 : decode prog_1_method_15_code 22 = .ok (.ifCond .le 5, 3) := by decide +kernel
theorem d_BP_top_25 : decode prog_1_method_15_code 25 = .ok (.iload_n 2, 1) := by decide +kernel
theorem d_BP_top_26 : decode prog_1_method_15_code 26 = .ok (.ireturn, 1) := by decide +kernel
theorem d_BP_top_27 : decode prog_1_method_15_code 27 = .ok (.iinc 2 1, 3) := by decide +kernel
theorem d_BP_top_30 : decode prog_1_method_15_code 30 = .ok (.goto (-24), 3) := by decide +kernel
theorem d_BP_top_33 : decode prog_1_method_15_code 33 = .ok (.iconst (-1), 1) := by decide +kernel
theorem d_BP_top_34 : decode prog_1_method_15_code 34 = .ok (.ireturn, 1) := by decide +kernel
theorem d_BP_of_0 : decode prog_1_method_16_code 0 = .ok (.aload_n 0, 1) := by decide +kernel
theorem d_BP_of_1 : decode prog_1_method_16_code 1 = .ok (.iload_n 1, 1) := by decide +kernel
theorem d_BP_of_2 : decode prog_1_method_16_code 2 = .ok (.invokevirtual 82, 3) := by decide +kernel
theorem d_BP_of_5 : decode prog_1_method_16_code 5 = .ok (.astore_n 3, 1) := by decide +kernel
theorem d_BP_of_6 : decode prog_1_method_16_code 6 = .ok (.aload_n 3, 1) := by decide +kernel
theorem d_BP_of_7 : decode prog_1_method_16_code 7 = .ok (.ifnonnull 5, 3) := by decide +kernel
theorem d_BP_of_10 : decode prog_1_method_16_code 10 = .ok (.iconst (-1), 1) := by decide +kernel
theorem d_BP_of_11 : decode prog_1_method_16_code 11 = .ok (.ireturn, 1) := by decide +kernel
theorem d_BP_of_12 : decode prog_1_method_16_code 12 = .ok (.iload_n 2, 1) := by decide +kernel
theorem d_BP_of_13 : decode prog_1_method_16_code 13 = .ok (.tableswitch 63 0 3 #[31, 39, 47, 55], 31) := by decide +kernel
theorem d_BP_of_44 : decode prog_1_method_16_code 44 = .ok (.aload_n 3, 1) := by decide +kernel
theorem d_BP_of_45 : decode prog_1_method_16_code 45 = .ok (.getfield 90, 3) := by decide +kernel
theorem d_BP_of_48 : decode prog_1_method_16_code 48 = .ok (.getfield 127, 3) := by decide +kernel
theorem d_BP_of_51 : decode prog_1_method_16_code 51 = .ok (.ireturn, 1) := by decide +kernel
theorem d_BP_of_52 : decode prog_1_method_16_code 52 = .ok (.aload_n 3, 1) := by decide +kernel
theorem d_BP_of_53 : decode prog_1_method_16_code 53 = .ok (.getfield 90, 3) := by decide +kernel
theorem d_BP_of_56 : decode prog_1_method_16_code 56 = .ok (.getfield 94, 3) := by decide +kernel
theorem d_BP_of_59 : decode prog_1_method_16_code 59 = .ok (.ireturn, 1) := by decide +kernel
theorem d_BP_of_60 : decode prog_1_method_16_code 60 = .ok (.aload_n 3, 1) := by decide +kernel
theorem d_BP_of_61 : decode prog_1_method_16_code 61 = .ok (.getfield 90, 3) := by decide +kernel
theorem d_BP_of_64 : decode prog_1_method_16_code 64 = .ok (.invokevirtual 175, 3) := by decide +kernel
theorem d_BP_of_67 : decode prog_1_method_16_code 67 = .ok (.ireturn, 1) := by decide +kernel
theorem d_BP_of_68 : decode prog_1_method_16_code 68 = .ok (.aload_n 3, 1) := by decide +kernel
theorem d_BP_of_69 : decode prog_1_method_16_code 69 = .ok (.getfield 86, 3) := by decide +kernel
theorem d_BP_of_72 : decode prog_1_method_16_code 72 = .ok (.invokestatic 179, 3) := by decide +kernel
theorem d_BP_of_75 : decode prog_1_method_16_code 75 = .ok (.ireturn, 1) := by decide +kernel
theorem d_BP_of_76 : decode prog_1_method_16_code 76 = .ok (.iconst (-1), 1) := by decide +kernel
theorem d_BP_of_77 : decode prog_1_method_16_code 77 = .ok (.ireturn, 1) := by decide +kernel
theorem d_BP_look_0 : decode prog_1_method_17_code 0 = .ok (.iload_n 1, 1) := by decide +kernel
theorem d_BP_look_1 : decode prog_1_method_17_code 1 = .ok (.tableswitch 138 0 11 #[63, 68, 73, 78, 86, 91, 96, 101, 109, 117, 125, 133], 63) := by decide +kernel
theorem d_BP_look_64 : decode prog_1_method_17_code 64 = .ok (.aload_n 0, 1) := by decide +kernel
theorem d_BP_look_65 : decode prog_1_method_17_code 65 = .ok (.getfield 13, 3) := by decide +kernel
theorem d_BP_look_68 : decode prog_1_method_17_code 68 = .ok (.ireturn, 1) := by decide +kernel
theorem d_BP_look_69 : decode prog_1_method_17_code 69 = .ok (.aload_n 0, 1) := by decide +kernel
theorem d_BP_look_70 : decode prog_1_method_17_code 70 = .ok (.getfield 17, 3) := by decide +kernel
theorem d_BP_look_73 : decode prog_1_method_17_code 73 = .ok (.ireturn, 1) := by decide +kernel
theorem d_BP_look_74 : decode prog_1_method_17_code 74 = .ok (.aload_n 0, 1) := by decide +kernel
theorem d_BP_look_75 : decode prog_1_method_17_code 75 = .ok (.getfield 20, 3) := by decide +kernel
theorem d_BP_look_78 : decode prog_1_method_17_code 78 = .ok (.ireturn, 1) := by decide +kernel
theorem d_BP_look_79 : decode prog_1_method_17_code 79 = .ok (.aload_n 0, 1) := by decide +kernel
theorem d_BP_look_80 : decode prog_1_method_17_code 80 = .ok (.getfield 43, 3) := by decide +kernel
theorem d_BP_look_83 : decode prog_1_method_17_code 83 = .ok (.getfield 183, 3) := by decide +kernel
theorem d_BP_look_86 : decode prog_1_method_17_code 86 = .ok (.ireturn, 1) := by decide +kernel
theorem d_BP_look_87 : decode prog_1_method_17_code 87 = .ok (.aload_n 0, 1) := by decide +kernel
theorem d_BP_look_88 : decode prog_1_method_17_code 88 = .ok (.getfield 134, 3) := by decide +kernel
theorem d_BP_look_91 : decode prog_1_method_17_code 91 = .ok (.ireturn, 1) := by decide +kernel
theorem d_BP_look_92 : decode prog_1_method_17_code 92 = .ok (.aload_n 0, 1) := by decide +kernel
theorem d_BP_look_93 : decode prog_1_method_17_code 93 = .ok (.getfield 70, 3) := by decide +kernel
theorem d_BP_look_96 : decode prog_1_method_17_code 96 = .ok (.ireturn, 1) := by decide +kernel
theorem d_BP_look_97 : decode prog_1_method_17_code 97 = .ok (.aload_n 0, 1) := by decide +kernel
theorem d_BP_look_98 : decode prog_1_method_17_code 98 = .ok (.getfield 73, 3) := by decide +kernel
theorem d_BP_look_101 : decode prog_1_method_17_code 101 = .ok (.ireturn, 1) := by decide +kernel
theorem d_BP_look_102 : decode prog_1_method_17_code 102 = .ok (.aload_n 0, 1) := by decide +kernel
theorem d_BP_look_103 : decode prog_1_method_17_code 103 = .ok (.getfield 52, 3) := by decide +kernel
theorem d_BP_look_106 : decode prog_1_method_17_code 106 = .ok (.getfield 186, 3) := by decide +kernel
theorem d_BP_look_109 : decode prog_1_method_17_code 109 = .ok (.ireturn, 1) := by decide +kernel
theorem d_BP_look_110 : decode prog_1_method_17_code 110 = .ok (.aload_n 0, 1) := by decide +kernel
theorem d_BP_look_111 : decode prog_1_method_17_code 111 = .ok (.getfield 52, 3) := by decide +kernel
theorem d_BP_look_114 : decode prog_1_method_17_code 114 = .ok (.getfield 189, 3) := by decide +kernel
theorem d_BP_look_117 : decode prog_1_method_17_code 117 = .ok (.ireturn, 1) := by decide +kernel
theorem d_BP_look_118 : decode prog_1_method_17_code 118 = .ok (.aload_n 0, 1) := by decide +kernel
theorem d_BP_look_119 : decode prog_1_method_17_code 119 = .ok (.getfield 107, 3) := by decide +kernel
theorem d_BP_look_122 : decode prog_1_method_17_code 122 = .ok (.invokestatic 179, 3) := by decide +kernel
theorem d_BP_look_125 : decode prog_1_method_17_code 125 = .ok (.ireturn, 1) := by decide +kernel
theorem d_BP_look_126 : decode prog_1_method_17_code 126 = .ok (.aload_n 0, 1) := by decide +kernel
theorem d_BP_look_127 : decode prog_1_method_17_code 127 = .ok (.getfield 110, 3) := by decide +kernel
theorem d_BP_look_130 : decode prog_1_method_17_code 130 = .ok (.invokestatic 179, 3) := by decide +kernel
theorem d_BP_look_133 : decode prog_1_method_17_code 133 = .ok (.ireturn, 1) := by decide +kernel
theorem d_BP_look_134 : decode prog_1_method_17_code 134 = .ok (.aload_n 0, 1) := by decide +kernel
theorem d_BP_look_135 : decode prog_1_method_17_code 135 = .ok (.getfield 113, 3) := by decide +kernel
theorem d_BP_look_138 : decode prog_1_method_17_code 138 = .ok (.ireturn, 1) := by decide +kernel
theorem d_BP_look_139 : decode prog_1_method_17_code 139 = .ok (.iconst (-1), 1) := by decide +kernel
theorem d_BP_look_140 : decode prog_1_method_17_code 140 = .ok (.ireturn, 1) := by decide +kernel
theorem d_BP_shapeOf_0 : decode prog_1_method_18_code 0 = .ok (.iconst 0, 1) := by decide +kernel
theorem d_BP_shapeOf_1 : decode prog_1_method_18_code 1 = .ok (.iload_n 1, 1) := by decide +kernel
theorem d_BP_shapeOf_2 : decode prog_1_method_18_code 2 = .ok (.aload_n 0, 1) := by decide +kernel
theorem d_BP_shapeOf_3 : decode prog_1_method_18_code 3 = .ok (.getfield 70, 3) := by decide +kernel
theorem d_BP_shapeOf_6 : decode prog_1_method_18_code 6 = .ok (.iconst 1, 1) := by decide +kernel
theorem d_BP_shapeOf_7 : decode prog_1_method_18_code 7 = .ok (.isub, 1) := by decide +kernel
theorem d_BP_shapeOf_8 : decode prog_1_method_18_code 8 = .ok (.invokestatic 59, 3) := by decide +kernel
theorem d_BP_shapeOf_11 : decode prog_1_method_18_code 11 = .ok (.ifCond .eq 12, 3) := by decide +kernel
theorem d_BP_shapeOf_14 : decode prog_1_method_18_code 14 = .ok (.aload_n 0, 1) := by decide +kernel
theorem d_BP_shapeOf_15 : decode prog_1_method_18_code 15 = .ok (.getfield 34, 3) := by decide +kernel
theorem d_BP_shapeOf_18 : decode prog_1_method_18_code 18 = .ok (.iload_n 1, 1) := by decide +kernel
theorem d_BP_shapeOf_19 : decode prog_1_method_18_code 19 = .ok (.aaload, 1) := by decide +kernel
theorem d_BP_shapeOf_20 : decode prog_1_method_18_code 20 = .ok (.goto 4, 3) := by decide +kernel
theorem d_BP_shapeOf_23 : decode prog_1_method_18_code 23 = .ok (.aconst_null, 1) := by decide +kernel
theorem d_BP_shapeOf_24 : decode prog_1_method_18_code 24 = .ok (.areturn, 1) := by decide +kernel
theorem d_BP_canLayAt_0 : decode prog_1_method_19_code 0 = .ok (.sipush (-10000), 3) := by decide +kernel
theorem d_BP_canLayAt_3 : decode prog_1_method_19_code 3 = .ok (.iload_n 1, 1) := by decide +kernel
theorem d_BP_canLayAt_4 : decode prog_1_method_19_code 4 = .ok (.sipush 10000, 3) := by decide +kernel
theorem d_BP_canLayAt_7 : decode prog_1_method_19_code 7 = .ok (.invokestatic 59, 3) := by decide +kernel
theorem d_BP_canLayAt_10 : decode prog_1_method_19_code 10 = .ok (.ifCond .eq 33, 3) := by decide +kernel
theorem d_BP_canLayAt_13 : decode prog_1_method_19_code 13 = .ok (.sipush (-10000), 3) := by decide +kernel
theorem d_BP_canLayAt_16 : decode prog_1_method_19_code 16 = .ok (.iload_n 2, 1) := by decide +kernel
theorem d_BP_canLayAt_17 : decode prog_1_method_19_code 17 = .ok (.sipush 10000, 3) := by decide +kernel
theorem d_BP_canLayAt_20 : decode prog_1_method_19_code 20 = .ok (.invokestatic 59, 3) := by decide +kernel
theorem d_BP_canLayAt_23 : decode prog_1_method_19_code 23 = .ok (.ifCond .eq 20, 3) := by decide +kernel
theorem d_BP_canLayAt_26 : decode prog_1_method_19_code 26 = .ok (.aload_n 0, 1) := by decide +kernel
theorem d_BP_canLayAt_27 : decode prog_1_method_19_code 27 = .ok (.getfield 43, 3) := by decide +kernel
theorem d_BP_canLayAt_30 : decode prog_1_method_19_code 30 = .ok (.getfield 183, 3) := by decide +kernel
theorem d_BP_canLayAt_33 : decode prog_1_method_19_code 33 = .ok (.sipush 4096, 3) := by decide +kernel
theorem d_BP_canLayAt_36 : decode prog_1_method_19_code 36 = .ok (.if_icmp .ge 7, 3) := by decide +kernel
theorem d_BP_canLayAt_39 : decode prog_1_method_19_code 39 = .ok (.iconst 1, 1) := by decide +kernel
theorem d_BP_canLayAt_40 : decode prog_1_method_19_code 40 = .ok (.goto 4, 3) := by decide +kernel
theorem d_BP_canLayAt_43 : decode prog_1_method_19_code 43 = .ok (.iconst 0, 1) := by decide +kernel
theorem d_BP_canLayAt_44 : decode prog_1_method_19_code 44 = .ok (.ireturn, 1) := by decide +kernel
theorem d_BP_lay_0 : decode prog_1_method_20_code 0 = .ok (.aload_n 0, 1) := by decide +kernel
theorem d_BP_lay_1 : decode prog_1_method_20_code 1 = .ok (.getfield 113, 3) := by decide +kernel
theorem d_BP_lay_4 : decode prog_1_method_20_code 4 = .ok (.iconst 1, 1) := by decide +kernel
theorem d_BP_lay_5 : decode prog_1_method_20_code 5 = .ok (.if_icmp .eq 11, 3) := by decide +kernel
theorem d_BP_lay_8 : decode prog_1_method_20_code 8 = .ok (.aload_n 0, 1) := by decide +kernel
theorem d_BP_lay_9 : decode prog_1_method_20_code 9 = .ok (.getfield 113, 3) := by decide +kernel
theorem d_BP_lay_12 : decode prog_1_method_20_code 12 = .ok (.iconst 3, 1) := by decide +kernel
theorem d_BP_lay_13 : decode prog_1_method_20_code 13 = .ok (.if_icmp .ne 7, 3) := by decide +kernel
theorem d_BP_lay_16 : decode prog_1_method_20_code 16 = .ok (.iconst 1, 1) := by decide +kernel
theorem d_BP_lay_17 : decode prog_1_method_20_code 17 = .ok (.goto 4, 3) := by decide +kernel
theorem d_BP_lay_20 : decode prog_1_method_20_code 20 = .ok (.iconst 0, 1) := by decide +kernel
theorem d_BP_lay_21 : decode prog_1_method_20_code 21 = .ok (.istore 6, 2) := by decide +kernel
theorem d_BP_lay_23 : decode prog_1_method_20_code 23 = .ok (.iload 6, 2) := by decide +kernel
theorem d_BP_lay_25 : decode prog_1_method_20_code 25 = .ok (.ifCond .eq 8, 3) := by decide +kernel
theorem d_BP_lay_28 : decode prog_1_method_20_code 28 = .ok (.iload 5, 2) := by decide +kernel
theorem d_BP_lay_30 : decode prog_1_method_20_code 30 = .ok (.goto 5, 3) := by decide +kernel
theorem d_BP_lay_33 : decode prog_1_method_20_code 33 = .ok (.iload 4, 2) := by decide +kernel
theorem d_BP_lay_35 : decode prog_1_method_20_code 35 = .ok (.iconst 1, 1) := by decide +kernel
theorem d_BP_lay_36 : decode prog_1_method_20_code 36 = .ok (.isub, 1) := by decide +kernel
theorem d_BP_lay_37 : decode prog_1_method_20_code 37 = .ok (.istore 7, 2) := by decide +kernel
theorem d_BP_lay_39 : decode prog_1_method_20_code 39 = .ok (.iload 6, 2) := by decide +kernel
theorem d_BP_lay_41 : decode prog_1_method_20_code 41 = .ok (.ifCond .eq 8, 3) := by decide +kernel
theorem d_BP_lay_44 : decode prog_1_method_20_code 44 = .ok (.iload 4, 2) := by decide +kernel
theorem d_BP_lay_46 : decode prog_1_method_20_code 46 = .ok (.goto 5, 3) := by decide +kernel
theorem d_BP_lay_49 : decode prog_1_method_20_code 49 = .ok (.iload 5, 2) := by decide +kernel
theorem d_BP_lay_51 : decode prog_1_method_20_code 51 = .ok (.iconst 1, 1) := by decide +kernel
theorem d_BP_lay_52 : decode prog_1_method_20_code 52 = .ok (.isub, 1) := by decide +kernel
theorem d_BP_lay_53 : decode prog_1_method_20_code 53 = .ok (.istore 8, 2) := by decide +kernel
theorem d_BP_lay_55 : decode prog_1_method_20_code 55 = .ok (.aload_n 0, 1) := by decide +kernel
theorem d_BP_lay_56 : decode prog_1_method_20_code 56 = .ok (.getfield 113, 3) := by decide +kernel
theorem d_BP_lay_59 : decode prog_1_method_20_code 59 = .ok (.iconst 2, 1) := by decide +kernel
theorem d_BP_lay_60 : decode prog_1_method_20_code 60 = .ok (.if_icmp .eq 11, 3) := by decide +kernel
theorem d_BP_lay_63 : decode prog_1_method_20_code 63 = .ok (.aload_n 0, 1) := by decide +kernel
theorem d_BP_lay_64 : decode prog_1_method_20_code 64 = .ok (.getfield 113, 3) := by decide +kernel
theorem d_BP_lay_67 : decode prog_1_method_20_code 67 = .ok (.iconst 3, 1) := by decide +kernel
theorem d_BP_lay_68 : decode prog_1_method_20_code 68 = .ok (.if_icmp .ne 10, 3) := by decide +kernel
theorem d_BP_lay_71 : decode prog_1_method_20_code 71 = .ok (.iload_n 2, 1) := by decide +kernel
theorem d_BP_lay_72 : decode prog_1_method_20_code 72 = .ok (.iload 7, 2) := by decide +kernel
theorem d_BP_lay_74 : decode prog_1_method_20_code 74 = .ok (.isub, 1) := by decide +kernel
theorem d_BP_lay_75 : decode prog_1_method_20_code 75 = .ok (.goto 4, 3) := by decide +kernel
theorem d_BP_lay_78 : decode prog_1_method_20_code 78 = .ok (.iload_n 2, 1) := by decide +kernel
theorem d_BP_lay_79 : decode prog_1_method_20_code 79 = .ok (.istore 9, 2) := by decide +kernel
theorem d_BP_lay_81 : decode prog_1_method_20_code 81 = .ok (.aload_n 0, 1) := by decide +kernel
theorem d_BP_lay_82 : decode prog_1_method_20_code 82 = .ok (.getfield 113, 3) := by decide +kernel
theorem d_BP_lay_85 : decode prog_1_method_20_code 85 = .ok (.iconst 1, 1) := by decide +kernel
theorem d_BP_lay_86 : decode prog_1_method_20_code 86 = .ok (.if_icmp .eq 11, 3) := by decide +kernel
theorem d_BP_lay_89 : decode prog_1_method_20_code 89 = .ok (.aload_n 0, 1) := by decide +kernel
theorem d_BP_lay_90 : decode prog_1_method_20_code 90 = .ok (.getfield 113, 3) := by decide +kernel
theorem d_BP_lay_93 : decode prog_1_method_20_code 93 = .ok (.iconst 2, 1) := by decide +kernel
theorem d_BP_lay_94 : decode prog_1_method_20_code 94 = .ok (.if_icmp .ne 10, 3) := by decide +kernel
theorem d_BP_lay_97 : decode prog_1_method_20_code 97 = .ok (.iload_n 3, 1) := by decide +kernel
theorem d_BP_lay_98 : decode prog_1_method_20_code 98 = .ok (.iload 8, 2) := by decide +kernel
theorem d_BP_lay_100 : decode prog_1_method_20_code 100 = .ok (.isub, 1) := by decide +kernel
theorem d_BP_lay_101 : decode prog_1_method_20_code 101 = .ok (.goto 4, 3) := by decide +kernel
theorem d_BP_lay_104 : decode prog_1_method_20_code 104 = .ok (.iload_n 3, 1) := by decide +kernel
theorem d_BP_lay_105 : decode prog_1_method_20_code 105 = .ok (.istore 10, 2) := by decide +kernel
theorem d_BP_lay_107 : decode prog_1_method_20_code 107 = .ok (.new 23, 3) := by decide +kernel
theorem d_BP_lay_110 : decode prog_1_method_20_code 110 = .ok (.dup, 1) := by decide +kernel
theorem d_BP_lay_111 : decode prog_1_method_20_code 111 = .ok (.iload 9, 2) := by decide +kernel
theorem d_BP_lay_113 : decode prog_1_method_20_code 113 = .ok (.iload 10, 2) := by decide +kernel
theorem d_BP_lay_115 : decode prog_1_method_20_code 115 = .ok (.iload 9, 2) := by decide +kernel
theorem d_BP_lay_117 : decode prog_1_method_20_code 117 = .ok (.iload 7, 2) := by decide +kernel
theorem d_BP_lay_119 : decode prog_1_method_20_code 119 = .ok (.iadd, 1) := by decide +kernel
theorem d_BP_lay_120 : decode prog_1_method_20_code 120 = .ok (.iload 10, 2) := by decide +kernel
theorem d_BP_lay_122 : decode prog_1_method_20_code 122 = .ok (.iload 8, 2) := by decide +kernel
theorem d_BP_lay_124 : decode prog_1_method_20_code 124 = .ok (.iadd, 1) := by decide +kernel
theorem d_BP_lay_125 : decode prog_1_method_20_code 125 = .ok (.invokespecial 25, 3) := by decide +kernel
theorem d_BP_lay_128 : decode prog_1_method_20_code 128 = .ok (.astore 11, 2) := by decide +kernel
theorem d_BP_lay_130 : decode prog_1_method_20_code 130 = .ok (.aload_n 0, 1) := by decide +kernel
theorem d_BP_lay_131 : decode prog_1_method_20_code 131 = .ok (.getfield 43, 3) := by decide +kernel
theorem d_BP_lay_134 : decode prog_1_method_20_code 134 = .ok (.new 192, 3) := by decide +kernel
theorem d_BP_lay_137 : decode prog_1_method_20_code 137 = .ok (.dup, 1) := by decide +kernel
theorem d_BP_lay_138 : decode prog_1_method_20_code 138 = .ok (.aload_n 1, 1) := by decide +kernel
theorem d_BP_lay_139 : decode prog_1_method_20_code 139 = .ok (.iload 9, 2) := by decide +kernel
theorem d_BP_lay_141 : decode prog_1_method_20_code 141 = .ok (.iload 10, 2) := by decide +kernel
theorem d_BP_lay_143 : decode prog_1_method_20_code 143 = .ok (.aload 11, 2) := by decide +kernel
theorem d_BP_lay_145 : decode prog_1_method_20_code 145 = .ok (.aload_n 0, 1) := by decide +kernel
theorem d_BP_lay_146 : decode prog_1_method_20_code 146 = .ok (.getfield 56, 3) := by decide +kernel
theorem d_BP_lay_149 : decode prog_1_method_20_code 149 = .ok (.invokevirtual 116, 3) := by decide +kernel
theorem d_BP_lay_152 : decode prog_1_method_20_code 152 = .ok (.aload_n 0, 1) := by decide +kernel
theorem d_BP_lay_153 : decode prog_1_method_20_code 153 = .ok (.getfield 52, 3) := by decide +kernel
theorem d_BP_lay_156 : decode prog_1_method_20_code 156 = .ok (.aload_n 0, 1) := by decide +kernel
theorem d_BP_lay_157 : decode prog_1_method_20_code 157 = .ok (.getfield 107, 3) := by decide +kernel
theorem d_BP_lay_160 : decode prog_1_method_20_code 160 = .ok (.aload_n 0, 1) := by decide +kernel
theorem d_BP_lay_161 : decode prog_1_method_20_code 161 = .ok (.getfield 110, 3) := by decide +kernel
theorem d_BP_lay_164 : decode prog_1_method_20_code 164 = .ok (.invokespecial 194, 3) := by decide +kernel
theorem d_BP_lay_167 : decode prog_1_method_20_code 167 = .ok (.invokevirtual 197, 3) := by decide +kernel
theorem d_BP_lay_170 : decode prog_1_method_20_code 170 = .ok (.return_, 1) := by decide +kernel
theorem d_BP_isWithin_0 : decode prog_1_method_21_code 0 = .ok (.iload_n 0, 1) := by decide +kernel
theorem d_BP_isWithin_1 : decode prog_1_method_21_code 1 = .ok (.iload_n 1, 1) := by decide +kernel
theorem d_BP_isWithin_2 : decode prog_1_method_21_code 2 = .ok (.if_icmp .gt 12, 3) := by decide +kernel
theorem d_BP_isWithin_5 : decode prog_1_method_21_code 5 = .ok (.iload_n 1, 1) := by decide +kernel
theorem d_BP_isWithin_6 : decode prog_1_method_21_code 6 = .ok (.iload_n 2, 1) := by decide +kernel
theorem d_BP_isWithin_7 : decode prog_1_method_21_code 7 = .ok (.if_icmp .gt 7, 3) := by decide +kernel
theorem d_BP_isWithin_10 : decode prog_1_method_21_code 10 = .ok (.iconst 1, 1) := by decide +kernel
theorem d_BP_isWithin_11 : decode prog_1_method_21_code 11 = .ok (.goto 4, 3) := by decide +kernel
theorem d_BP_isWithin_14 : decode prog_1_method_21_code 14 = .ok (.iconst 0, 1) := by decide +kernel
theorem d_BP_isWithin_15 : decode prog_1_method_21_code 15 = .ok (.ireturn, 1) := by decide +kernel
theorem d_BP_within_0 : decode prog_1_method_22_code 0 = .ok (.iload_n 0, 1) := by decide +kernel
theorem d_BP_within_1 : decode prog_1_method_22_code 1 = .ok (.iload_n 1, 1) := by decide +kernel
theorem d_BP_within_2 : decode prog_1_method_22_code 2 = .ok (.iload_n 2, 1) := by decide +kernel
theorem d_BP_within_3 : decode prog_1_method_22_code 3 = .ok (.invokestatic 162, 3) := by decide +kernel
theorem d_BP_within_6 : decode prog_1_method_22_code 6 = .ok (.invokestatic 168, 3) := by decide +kernel
theorem d_BP_within_9 : decode prog_1_method_22_code 9 = .ok (.ireturn, 1) := by decide +kernel
theorem d_BP_oneIf_0 : decode prog_1_method_23_code 0 = .ok (.iload_n 0, 1) := by decide +kernel
theorem d_BP_oneIf_1 : decode prog_1_method_23_code 1 = .ok (.ifCond .eq 7, 3) := by decide +kernel
theorem d_BP_oneIf_4 : decode prog_1_method_23_code 4 = .ok (.iconst 1, 1) := by decide +kernel
theorem d_BP_oneIf_5 : decode prog_1_method_23_code 5 = .ok (.goto 4, 3) := by decide +kernel
theorem d_BP_oneIf_8 : decode prog_1_method_23_code 8 = .ok (.iconst 0, 1) := by decide +kernel
theorem d_BP_oneIf_9 : decode prog_1_method_23_code 9 = .ok (.ireturn, 1) := by decide +kernel
theorem d_BP_firstDots_0 : decode prog_1_method_24_code 0 = .ok (.iload_n 0, 1) := by decide +kernel
theorem d_BP_firstDots_1 : decode prog_1_method_24_code 1 = .ok (.ifCond .gt 5, 3) := by decide +kernel
theorem d_BP_firstDots_4 : decode prog_1_method_24_code 4 = .ok (.lconst 0, 1) := by decide +kernel
theorem d_BP_firstDots_5 : decode prog_1_method_24_code 5 = .ok (.lreturn, 1) := by decide +kernel
theorem d_BP_firstDots_6 : decode prog_1_method_24_code 6 = .ok (.iload_n 0, 1) := by decide +kernel
theorem d_BP_firstDots_7 : decode prog_1_method_24_code 7 = .ok (.bipush 64, 2) := by decide +kernel
theorem d_BP_firstDots_9 : decode prog_1_method_24_code 9 = .ok (.if_icmp .lt 9, 3) := by decide +kernel
theorem d_BP_firstDots_12 : decode prog_1_method_24_code 12 = .ok (.ldc2_w 201, 3) := by decide +kernel
theorem d_BP_firstDots_15 : decode prog_1_method_24_code 15 = .ok (.goto 11, 3) := by decide +kernel
theorem d_BP_firstDots_18 : decode prog_1_method_24_code 18 = .ok (.ldc2_w 201, 3) := by decide +kernel
theorem d_BP_firstDots_21 : decode prog_1_method_24_code 21 = .ok (.bipush 64, 2) := by decide +kernel
theorem d_BP_firstDots_23 : decode prog_1_method_24_code 23 = .ok (.iload_n 0, 1) := by decide +kernel
theorem d_BP_firstDots_24 : decode prog_1_method_24_code 24 = .ok (.isub, 1) := by decide +kernel
theorem d_BP_firstDots_25 : decode prog_1_method_24_code 25 = .ok (.lshl, 1) := by decide +kernel
theorem d_BP_firstDots_26 : decode prog_1_method_24_code 26 = .ok (.lreturn, 1) := by decide +kernel
theorem d_Pl_init_0 : decode prog_6_method_1_code 0 = .ok (.aload_n 0, 1) := by decide +kernel
theorem d_Pl_init_1 : decode prog_6_method_1_code 1 = .ok (.invokespecial 3, 3) := by decide +kernel
theorem d_Pl_init_4 : decode prog_6_method_1_code 4 = .ok (.aload_n 0, 1) := by decide +kernel
theorem d_Pl_init_5 : decode prog_6_method_1_code 5 = .ok (.iload_n 1, 1) := by decide +kernel
theorem d_Pl_init_6 : decode prog_6_method_1_code 6 = .ok (.putfield 9, 3) := by decide +kernel
theorem d_Pl_init_9 : decode prog_6_method_1_code 9 = .ok (.aload_n 0, 1) := by decide +kernel
theorem d_Pl_init_10 : decode prog_6_method_1_code 10 = .ok (.iload_n 1, 1) := by decide +kernel
theorem d_Pl_init_11 : decode prog_6_method_1_code 11 = .ok (.newarray .int, 2) := by decide +kernel
theorem d_Pl_init_13 : decode prog_6_method_1_code 13 = .ok (.putfield 15, 3) := by decide +kernel
theorem d_Pl_init_16 : decode prog_6_method_1_code 16 = .ok (.aload_n 0, 1) := by decide +kernel
theorem d_Pl_init_17 : decode prog_6_method_1_code 17 = .ok (.iload_n 1, 1) := by decide +kernel
theorem d_Pl_init_18 : decode prog_6_method_1_code 18 = .ok (.newarray .boolean, 2) := by decide +kernel
theorem d_Pl_init_20 : decode prog_6_method_1_code 20 = .ok (.putfield 19, 3) := by decide +kernel
theorem d_Pl_init_23 : decode prog_6_method_1_code 23 = .ok (.return_, 1) := by decide +kernel
theorem d_Pl_clear_0 : decode prog_6_method_2_code 0 = .ok (.aload_n 0, 1) := by decide +kernel
theorem d_Pl_clear_1 : decode prog_6_method_2_code 1 = .ok (.iconst 0, 1) := by decide +kernel
theorem d_Pl_clear_2 : decode prog_6_method_2_code 2 = .ok (.putfield 23, 3) := by decide +kernel
theorem d_Pl_clear_5 : decode prog_6_method_2_code 5 = .ok (.aload_n 0, 1) := by decide +kernel
theorem d_Pl_clear_6 : decode prog_6_method_2_code 6 = .ok (.aconst_null, 1) := by decide +kernel
theorem d_Pl_clear_7 : decode prog_6_method_2_code 7 = .ok (.putfield 26, 3) := by decide +kernel
theorem d_Pl_clear_10 : decode prog_6_method_2_code 10 = .ok (.aload_n 0, 1) := by decide +kernel
theorem d_Pl_clear_11 : decode prog_6_method_2_code 11 = .ok (.getfield 15, 3) := by decide +kernel
theorem d_Pl_clear_14 : decode prog_6_method_2_code 14 = .ok (.iconst 0, 1) := by decide +kernel
theorem d_Pl_clear_15 : decode prog_6_method_2_code 15 = .ok (.invokestatic 30, 3) := by decide +kernel
theorem d_Pl_clear_18 : decode prog_6_method_2_code 18 = .ok (.iconst 0, 1) := by decide +kernel
theorem d_Pl_clear_19 : decode prog_6_method_2_code 19 = .ok (.istore_n 1, 1) := by decide +kernel
theorem d_Pl_clear_20 : decode prog_6_method_2_code 20 = .ok (.iload_n 1, 1) := by decide +kernel
theorem d_Pl_clear_21 : decode prog_6_method_2_code 21 = .ok (.aload_n 0, 1) := by decide +kernel
theorem d_Pl_clear_22 : decode prog_6_method_2_code 22 = .ok (.getfield 9, 3) := by decide +kernel
theorem d_Pl_clear_25 : decode prog_6_method_2_code 25 = .ok (.if_icmp .ge 16, 3) := by decide +kernel
theorem d_Pl_clear_28 : decode prog_6_method_2_code 28 = .ok (.aload_n 0, 1) := by decide +kernel
theorem d_Pl_clear_29 : decode prog_6_method_2_code 29 = .ok (.getfield 19, 3) := by decide +kernel
theorem d_Pl_clear_32 : decode prog_6_method_2_code 32 = .ok (.iload_n 1, 1) := by decide +kernel
theorem d_Pl_clear_33 : decode prog_6_method_2_code 33 = .ok (.iconst 0, 1) := by decide +kernel
theorem d_Pl_clear_34 : decode prog_6_method_2_code 34 = .ok (.bastore, 1) := by decide +kernel
theorem d_Pl_clear_35 : decode prog_6_method_2_code 35 = .ok (.iinc 1 1, 3) := by decide +kernel
theorem d_Pl_clear_38 : decode prog_6_method_2_code 38 = .ok (.goto (-18), 3) := by decide +kernel
theorem d_Pl_clear_41 : decode prog_6_method_2_code 41 = .ok (.return_, 1) := by decide +kernel
theorem d_Pl_add_0 : decode prog_6_method_3_code 0 = .ok (.aload_n 0, 1) := by decide +kernel
theorem d_Pl_add_1 : decode prog_6_method_3_code 1 = .ok (.dup, 1) := by decide +kernel
theorem d_Pl_add_2 : decode prog_6_method_3_code 2 = .ok (.getfield 23, 3) := by decide +kernel
theorem d_Pl_add_5 : decode prog_6_method_3_code 5 = .ok (.iconst 1, 1) := by decide +kernel
theorem d_Pl_add_6 : decode prog_6_method_3_code 6 = .ok (.iadd, 1) := by decide +kernel
theorem d_Pl_add_7 : decode prog_6_method_3_code 7 = .ok (.putfield 23, 3) := by decide +kernel
theorem d_Pl_add_10 : decode prog_6_method_3_code 10 = .ok (.aload_n 1, 1) := by decide +kernel
theorem d_Pl_add_11 : decode prog_6_method_3_code 11 = .ok (.getfield 36, 3) := by decide +kernel
theorem d_Pl_add_14 : decode prog_6_method_3_code 14 = .ok (.invokevirtual 42, 3) := by decide +kernel
theorem d_Pl_add_17 : decode prog_6_method_3_code 17 = .ok (.ifCond .eq 4, 3) := by decide +kernel
theorem d_Pl_add_20 : decode prog_6_method_3_code 20 = .ok (.return_, 1) := by decide +kernel
theorem d_Pl_add_21 : decode prog_6_method_3_code 21 = .ok (.aload_n 1, 1) := by decide +kernel
theorem d_Pl_add_22 : decode prog_6_method_3_code 22 = .ok (.aload_n 0, 1) := by decide +kernel
theorem d_Pl_add_23 : decode prog_6_method_3_code 23 = .ok (.getfield 26, 3) := by decide +kernel
theorem d_Pl_add_26 : decode prog_6_method_3_code 26 = .ok (.putfield 48, 3) := by decide +kernel
theorem d_Pl_add_29 : decode prog_6_method_3_code 29 = .ok (.aload_n 0, 1) := by decide +kernel
theorem d_Pl_add_30 : decode prog_6_method_3_code 30 = .ok (.aload_n 1, 1) := by decide +kernel
theorem d_Pl_add_31 : decode prog_6_method_3_code 31 = .ok (.putfield 26, 3) := by decide +kernel
theorem d_Pl_add_34 : decode prog_6_method_3_code 34 = .ok (.aload_n 0, 1) := by decide +kernel
theorem d_Pl_add_35 : decode prog_6_method_3_code 35 = .ok (.aload_n 1, 1) := by decide +kernel
theorem d_Pl_add_36 : decode prog_6_method_3_code 36 = .ok (.invokevirtual 51, 3) := by decide +kernel
theorem d_Pl_add_39 : decode prog_6_method_3_code 39 = .ok (.return_, 1) := by decide +kernel
theorem d_Pl_stir_0 : decode prog_6_method_4_code 0 = .ok (.iconst 0, 1) := by decide +kernel
theorem d_Pl_stir_1 : decode prog_6_method_4_code 1 = .ok (.aload_n 1, 1) := by decide +kernel
theorem d_Pl_stir_2 : decode prog_6_method_4_code 2 = .ok (.getfield 36, 3) := by decide +kernel
theorem d_Pl_stir_5 : decode prog_6_method_4_code 5 = .ok (.getfield 55, 3) := by decide +kernel
theorem d_Pl_stir_8 : decode prog_6_method_4_code 8 = .ok (.invokestatic 58, 3) := by decide +kernel
theorem d_Pl_stir_11 : decode prog_6_method_4_code 11 = .ok (.istore_n 2, 1) := by decide +kernel
theorem d_Pl_stir_12 : decode prog_6_method_4_code 12 = .ok (.aload_n 0, 1) := by decide +kernel
theorem d_Pl_stir_13 : decode prog_6_method_4_code 13 = .ok (.getfield 9, 3) := by decide +kernel
theorem d_Pl_stir_16 : decode prog_6_method_4_code 16 = .ok (.aload_n 1, 1) := by decide +kernel
theorem d_Pl_stir_17 : decode prog_6_method_4_code 17 = .ok (.getfield 36, 3) := by decide +kernel
theorem d_Pl_stir_20 : decode prog_6_method_4_code 20 = .ok (.getfield 64, 3) := by decide +kernel
theorem d_Pl_stir_23 : decode prog_6_method_4_code 23 = .ok (.iconst 1, 1) := by decide +kernel
theorem d_Pl_stir_24 : decode prog_6_method_4_code 24 = .ok (.iadd, 1) := by decide +kernel
theorem d_Pl_stir_25 : decode prog_6_method_4_code 25 = .ok (.invokestatic 67, 3) := by decide +kernel
theorem d_Pl_stir_28 : decode prog_6_method_4_code 28 = .ok (.istore_n 3, 1) := by decide +kernel
theorem d_Pl_stir_29 : decode prog_6_method_4_code 29 = .ok (.iload_n 2, 1) := by decide +kernel
theorem d_Pl_stir_30 : decode prog_6_method_4_code 30 = .ok (.istore 4, 2) := by decide +kernel
theorem d_Pl_stir_32 : decode prog_6_method_4_code 32 = .ok (.iload 4, 2) := by decide +kernel
theorem d_Pl_stir_34 : decode prog_6_method_4_code 34 = .ok (.iload_n 3, 1) := by decide +kernel
theorem d_Pl_stir_35 : decode prog_6_method_4_code 35 = .ok (.if_icmp .ge 38, 3) := by decide +kernel
theorem d_Pl_stir_38 : decode prog_6_method_4_code 38 = .ok (.aload_n 0, 1) := by decide +kernel
theorem d_Pl_stir_39 : decode prog_6_method_4_code 39 = .ok (.getfield 15, 3) := by decide +kernel
theorem d_Pl_stir_42 : decode prog_6_method_4_code 42 = .ok (.iload 4, 2) := by decide +kernel
theorem d_Pl_stir_44 : decode prog_6_method_4_code 44 = .ok (.iconst (-1), 1) := by decide +kernel
theorem d_Pl_stir_45 : decode prog_6_method_4_code 45 = .ok (.iastore, 1) := by decide +kernel
theorem d_Pl_stir_46 : decode prog_6_method_4_code 46 = .ok (.aload_n 1, 1) := by decide +kernel
theorem d_Pl_stir_47 : decode prog_6_method_4_code 47 = .ok (.getfield 70, 3) := by decide +kernel
theorem d_Pl_stir_50 : decode prog_6_method_4_code 50 = .ok (.ifnonnull 9, 3) := by decide +kernel
theorem d_Pl_stir_53 : decode prog_6_method_4_code 53 = .ok (.iload 4, 2) := by decide +kernel
theorem d_Pl_stir_55 : decode prog_6_method_4_code 55 = .ok (.iload_n 2, 1) := by decide +kernel
theorem d_Pl_stir_56 : decode prog_6_method_4_code 56 = .ok (.if_icmp .ne 11, 3) := by decide +kernel
theorem d_Pl_stir_59 : decode prog_6_method_4_code 59 = .ok (.aload_n 0, 1) := by decide +kernel
theorem d_Pl_stir_60 : decode prog_6_method_4_code 60 = .ok (.getfield 19, 3) := by decide +kernel
theorem d_Pl_stir_63 : decode prog_6_method_4_code 63 = .ok (.iload 4, 2) := by decide +kernel
theorem d_Pl_stir_65 : decode prog_6_method_4_code 65 = .ok (.iconst 1, 1) := by decide +kernel
theorem d_Pl_stir_66 : decode prog_6_method_4_code 66 = .ok (.bastore, 1) := by decide +kernel
theorem d_Pl_stir_67 : decode prog_6_method_4_code 67 = .ok (.iinc 4 1, 3) := by decide +kernel
theorem d_Pl_stir_70 : decode prog_6_method_4_code 70 = .ok (.goto (-38), 3) := by decide +kernel
theorem d_Pl_stir_73 : decode prog_6_method_4_code 73 = .ok (.iconst 0, 1) := by decide +kernel
theorem d_Pl_stir_74 : decode prog_6_method_4_code 74 = .ok (.iload_n 3, 1) := by decide +kernel
theorem d_Pl_stir_75 : decode prog_6_method_4_code 75 = .ok (.aload_n 0, 1) := by decide +kernel
theorem d_Pl_stir_76 : decode prog_6_method_4_code 76 = .ok (.getfield 9, 3) := by decide +kernel
theorem d_Pl_stir_79 : decode prog_6_method_4_code 79 = .ok (.iconst 1, 1) := by decide +kernel
theorem d_Pl_stir_80 : decode prog_6_method_4_code 80 = .ok (.isub, 1) := by decide +kernel
theorem d_Pl_stir_81 : decode prog_6_method_4_code 81 = .ok (.invokestatic 74, 3) := by decide +kernel
theorem d_Pl_stir_84 : decode prog_6_method_4_code 84 = .ok (.ifCond .eq 10, 3) := by decide +kernel
theorem d_Pl_stir_87 : decode prog_6_method_4_code 87 = .ok (.aload_n 0, 1) := by decide +kernel
theorem d_Pl_stir_88 : decode prog_6_method_4_code 88 = .ok (.getfield 19, 3) := by decide +kernel
theorem d_Pl_stir_91 : decode prog_6_method_4_code 91 = .ok (.iload_n 3, 1) := by decide +kernel
theorem d_Pl_stir_92 : decode prog_6_method_4_code 92 = .ok (.iconst 1, 1) := by decide +kernel
theorem d_Pl_stir_93 : decode prog_6_method_4_code 93 = .ok (.bastore, 1) := by decide +kernel
theorem d_Pl_stir_94 : decode prog_6_method_4_code 94 = .ok (.return_, 1) := by decide +kernel
theorem d_Pl_wordOf_0 : decode prog_6_method_5_code 0 = .ok (.aload_n 0, 1) := by decide +kernel
theorem d_Pl_wordOf_1 : decode prog_6_method_5_code 1 = .ok (.iload_n 1, 1) := by decide +kernel
theorem d_Pl_wordOf_2 : decode prog_6_method_5_code 2 = .ok (.invokevirtual 78, 3) := by decide +kernel
theorem d_Pl_wordOf_5 : decode prog_6_method_5_code 5 = .ok (.iload_n 1, 1) := by decide +kernel
theorem d_Pl_wordOf_6 : decode prog_6_method_5_code 6 = .ok (.iload_n 2, 1) := by decide +kernel
theorem d_Pl_wordOf_7 : decode prog_6_method_5_code 7 = .ok (.invokestatic 82, 3) := by decide +kernel
theorem d_Pl_wordOf_10 : decode prog_6_method_5_code 10 = .ok (.lreturn, 1) := by decide +kernel
theorem d_Pl_blacksOf_0 : decode prog_6_method_6_code 0 = .ok (.iconst 0, 1) := by decide +kernel
theorem d_Pl_blacksOf_1 : decode prog_6_method_6_code 1 = .ok (.iload_n 1, 1) := by decide +kernel
theorem d_Pl_blacksOf_2 : decode prog_6_method_6_code 2 = .ok (.aload_n 0, 1) := by decide +kernel
theorem d_Pl_blacksOf_3 : decode prog_6_method_6_code 3 = .ok (.getfield 9, 3) := by decide +kernel
theorem d_Pl_blacksOf_6 : decode prog_6_method_6_code 6 = .ok (.iconst 1, 1) := by decide +kernel
theorem d_Pl_blacksOf_7 : decode prog_6_method_6_code 7 = .ok (.isub, 1) := by decide +kernel
theorem d_Pl_blacksOf_8 : decode prog_6_method_6_code 8 = .ok (.invokestatic 74, 3) := by decide +kernel
theorem d_Pl_blacksOf_11 : decode prog_6_method_6_code 11 = .ok (.ifCond .ne 5, 3) := by decide +kernel
theorem d_Pl_blacksOf_14 : decode prog_6_method_6_code 14 = .ok (.iconst 0, 1) := by decide +kernel
theorem d_Pl_blacksOf_15 : decode prog_6_method_6_code 15 = .ok (.ireturn, 1) := by decide +kernel
theorem d_Pl_blacksOf_16 : decode prog_6_method_6_code 16 = .ok (.iload_n 1, 1) := by decide +kernel
theorem d_Pl_blacksOf_17 : decode prog_6_method_6_code 17 = .ok (.istore_n 2, 1) := by decide +kernel
theorem d_Pl_blacksOf_18 : decode prog_6_method_6_code 18 = .ok (.iload_n 2, 1) := by decide +kernel
theorem d_Pl_blacksOf_19 : decode prog_6_method_6_code 19 = .ok (.bipush 16, 2) := by decide +kernel
theorem d_Pl_blacksOf_21 : decode prog_6_method_6_code 21 = .ok (.if_icmp .lt 27, 3) := by decide +kernel
theorem d_Pl_blacksOf_24 : decode prog_6_method_6_code 24 = .ok (.aload_n 0, 1) := by decide +kernel
theorem d_Pl_blacksOf_25 : decode prog_6_method_6_code 25 = .ok (.getfield 15, 3) := by decide +kernel
theorem d_Pl_blacksOf_28 : decode prog_6_method_6_code 28 = .ok (.iload_n 2, 1) := by decide +kernel
theorem d_Pl_blacksOf_29 : decode prog_6_method_6_code 29 = .ok (.iaload, 1) := by decide +kernel
theorem d_Pl_blacksOf_30 : decode prog_6_method_6_code 30 = .ok (.iconst (-1), 1) := by decide +kernel
theorem d_Pl_blacksOf_31 : decode prog_6_method_6_code 31 = .ok (.if_icmp .ne 17, 3) := by decide +kernel
theorem d_Pl_blacksOf_34 : decode prog_6_method_6_code 34 = .ok (.aload_n 0, 1) := by decide +kernel
theorem d_Pl_blacksOf_35 : decode prog_6_method_6_code 35 = .ok (.iload_n 2, 1) := by decide +kernel
theorem d_Pl_blacksOf_36 : decode prog_6_method_6_code 36 = .ok (.invokevirtual 86, 3) := by decide +kernel
theorem d_Pl_blacksOf_39 : decode prog_6_method_6_code 39 = .ok (.ifCond .eq 9, 3) := by decide +kernel
theorem d_Pl_blacksOf_42 : decode prog_6_method_6_code 42 = .ok (.iinc 2 (-16), 3) := by decide +kernel
theorem d_Pl_blacksOf_45 : decode prog_6_method_6_code 45 = .ok (.goto (-27), 3) := by decide +kernel
theorem d_Pl_blacksOf_48 : decode prog_6_method_6_code 48 = .ok (.aload_n 0, 1) := by decide +kernel
theorem d_Pl_blacksOf_49 : decode prog_6_method_6_code 49 = .ok (.getfield 15, 3) := by decide +kernel
theorem d_Pl_blacksOf_52 : decode prog_6_method_6_code 52 = .ok (.iload_n 2, 1) := by decide +kernel
theorem d_Pl_blacksOf_53 : decode prog_6_method_6_code 53 = .ok (.iaload, 1) := by decide +kernel
theorem d_Pl_blacksOf_54 : decode prog_6_method_6_code 54 = .ok (.iconst (-1), 1) := by decide +kernel
theorem d_Pl_blacksOf_55 : decode prog_6_method_6_code 55 = .ok (.if_icmp .ne 14, 3) := by decide +kernel
theorem d_Pl_blacksOf_58 : decode prog_6_method_6_code 58 = .ok (.aload_n 0, 1) := by decide +kernel
theorem d_Pl_blacksOf_59 : decode prog_6_method_6_code 59 = .ok (.getfield 15, 3) := by decide +kernel
theorem d_Pl_blacksOf_62 : decode prog_6_method_6_code 62 = .ok (.iload_n 2, 1) := by decide +kernel
theorem d_Pl_blacksOf_63 : decode prog_6_method_6_code 63 = .ok (.aload_n 0, 1) := by decide +kernel
theorem d_Pl_blacksOf_64 : decode prog_6_method_6_code 64 = .ok (.iload_n 2, 1) := by decide +kernel
theorem d_Pl_blacksOf_65 : decode prog_6_method_6_code 65 = .ok (.invokevirtual 90, 3) := by decide +kernel
theorem d_Pl_blacksOf_68 : decode prog_6_method_6_code 68 = .ok (.iastore, 1) := by decide +kernel
theorem d_Pl_blacksOf_69 : decode prog_6_method_6_code 69 = .ok (.aload_n 0, 1) := by decide +kernel
theorem d_Pl_blacksOf_70 : decode prog_6_method_6_code 70 = .ok (.getfield 15, 3) := by decide +kernel
theorem d_Pl_blacksOf_73 : decode prog_6_method_6_code 73 = .ok (.iload_n 1, 1) := by decide +kernel
theorem d_Pl_blacksOf_74 : decode prog_6_method_6_code 74 = .ok (.aload_n 0, 1) := by decide +kernel
theorem d_Pl_blacksOf_75 : decode prog_6_method_6_code 75 = .ok (.getfield 15, 3) := by decide +kernel
theorem d_Pl_blacksOf_78 : decode prog_6_method_6_code 78 = .ok (.iload_n 2, 1) := by decide +kernel
theorem d_Pl_blacksOf_79 : decode prog_6_method_6_code 79 = .ok (.iaload, 1) := by decide +kernel
theorem d_Pl_blacksOf_80 : decode prog_6_method_6_code 80 = .ok (.iastore, 1) := by decide +kernel
theorem d_Pl_blacksOf_81 : decode prog_6_method_6_code 81 = .ok (.aload_n 0, 1) := by decide +kernel
theorem d_Pl_blacksOf_82 : decode prog_6_method_6_code 82 = .ok (.getfield 15, 3) := by decide +kernel
theorem d_Pl_blacksOf_85 : decode prog_6_method_6_code 85 = .ok (.iload_n 1, 1) := by decide +kernel
theorem d_Pl_blacksOf_86 : decode prog_6_method_6_code 86 = .ok (.iaload, 1) := by decide +kernel
theorem d_Pl_blacksOf_87 : decode prog_6_method_6_code 87 = .ok (.ireturn, 1) := by decide +kernel
theorem d_Pl_isLikeAbove_0 : decode prog_6_method_7_code 0 = .ok (.bipush 16, 2) := by decide +kernel
theorem d_Pl_isLikeAbove_2 : decode prog_6_method_7_code 2 = .ok (.iload_n 1, 1) := by decide +kernel
theorem d_Pl_isLikeAbove_3 : decode prog_6_method_7_code 3 = .ok (.aload_n 0, 1) := by decide +kernel
theorem d_Pl_isLikeAbove_4 : decode prog_6_method_7_code 4 = .ok (.getfield 9, 3) := by decide +kernel
theorem d_Pl_isLikeAbove_7 : decode prog_6_method_7_code 7 = .ok (.iconst 1, 1) := by decide +kernel
theorem d_Pl_isLikeAbove_8 : decode prog_6_method_7_code 8 = .ok (.isub, 1) := by decide +kernel
theorem d_Pl_isLikeAbove_9 : decode prog_6_method_7_code 9 = .ok (.invokestatic 74, 3) := by decide +kernel
theorem d_Pl_isLikeAbove_12 : decode prog_6_method_7_code 12 = .ok (.ifCond .ne 5, 3) := by decide +kernel
theorem d_Pl_isLikeAbove_15 : decode prog_6_method_7_code 15 = .ok (.iconst 0, 1) := by decide +kernel
theorem d_Pl_isLikeAbove_16 : decode prog_6_method_7_code 16 = .ok (.ireturn, 1) := by decide +kernel
theorem d_Pl_isLikeAbove_17 : decode prog_6_method_7_code 17 = .ok (.iload_n 1, 1) := by decide +kernel
theorem d_Pl_isLikeAbove_18 : decode prog_6_method_7_code 18 = .ok (.istore_n 2, 1) := by decide +kernel
theorem d_Pl_isLikeAbove_19 : decode prog_6_method_7_code 19 = .ok (.iload_n 2, 1) := by decide +kernel
theorem d_Pl_isLikeAbove_20 : decode prog_6_method_7_code 20 = .ok (.iload_n 1, 1) := by decide +kernel
theorem d_Pl_isLikeAbove_21 : decode prog_6_method_7_code 21 = .ok (.bipush 16, 2) := by decide +kernel
theorem d_Pl_isLikeAbove_23 : decode prog_6_method_7_code 23 = .ok (.isub, 1) := by decide +kernel
theorem d_Pl_isLikeAbove_24 : decode prog_6_method_7_code 24 = .ok (.if_icmp .le 20, 3) := by decide +kernel
theorem d_Pl_isLikeAbove_27 : decode prog_6_method_7_code 27 = .ok (.aload_n 0, 1) := by decide +kernel
theorem d_Pl_isLikeAbove_28 : decode prog_6_method_7_code 28 = .ok (.getfield 19, 3) := by decide +kernel
theorem d_Pl_isLikeAbove_31 : decode prog_6_method_7_code 31 = .ok (.iload_n 2, 1) := by decide +kernel
theorem d_Pl_isLikeAbove_32 : decode prog_6_method_7_code 32 = .ok (.baload, 1) := by decide +kernel
theorem d_Pl_isLikeAbove_33 : decode prog_6_method_7_code 33 = .ok (.ifCond .eq 5, 3) := by decide +kernel
theorem d_Pl_isLikeAbove_36 : decode prog_6_method_7_code 36 = .ok (.iconst 0, 1) := by decide +kernel
theorem d_Pl_isLikeAbove_37 : decode prog_6_method_7_code 37 = .ok (.ireturn, 1) := by decide +kernel
theorem d_Pl_isLikeAbove_38 : decode prog_6_method_7_code 38 = .ok (.iinc 2 (-1), 3) := by decide +kernel
theorem d_Pl_isLikeAbove_41 : decode prog_6_method_7_code 41 = .ok (.goto (-22), 3) := by decide +kernel
theorem d_Pl_isLikeAbove_44 : decode prog_6_method_7_code 44 = .ok (.iconst 1, 1) := by decide +kernel
theorem d_Pl_isLikeAbove_45 : decode prog_6_method_7_code 45 = .ok (.ireturn, 1) := by decide +kernel
theorem d_Pl_countedBlacks_0 : decode prog_6_method_8_code 0 = .ok (.aload_n 0, 1) := by decide +kernel
theorem d_Pl_countedBlacks_1 : decode prog_6_method_8_code 1 = .ok (.iload_n 1, 1) := by decide +kernel
theorem d_Pl_countedBlacks_2 : decode prog_6_method_8_code 2 = .ok (.invokevirtual 78, 3) := by decide +kernel
theorem d_Pl_countedBlacks_5 : decode prog_6_method_8_code 5 = .ok (.astore_n 2, 1) := by decide +kernel
theorem d_Pl_countedBlacks_6 : decode prog_6_method_8_code 6 = .ok (.sipush 5100, 3) := by decide +kernel
theorem d_Pl_countedBlacks_9 : decode prog_6_method_8_code 9 = .ok (.istore_n 3, 1) := by decide +kernel
theorem d_Pl_countedBlacks_10 : decode prog_6_method_8_code 10 = .ok (.iconst 0, 1) := by decide +kernel
theorem d_Pl_countedBlacks_11 : decode prog_6_method_8_code 11 = .ok (.istore 4, 2) := by decide +kernel
theorem d_Pl_countedBlacks_13 : decode prog_6_method_8_code 13 = .ok (.aload_n 2, 1) := by decide +kernel
theorem d_Pl_countedBlacks_14 : decode prog_6_method_8_code 14 = .ok (.astore 5, 2) := by decide +kernel
theorem d_Pl_countedBlacks_16 : decode prog_6_method_8_code 16 = .ok (.aload 5, 2) := by decide +kernel
theorem d_Pl_countedBlacks_18 : decode prog_6_method_8_code 18 = .ok (.ifnull 41, 3) := by decide +kernel
theorem d_Pl_countedBlacks_21 : decode prog_6_method_8_code 21 = .ok (.iload_n 3, 1) := by decide +kernel
theorem d_Pl_countedBlacks_22 : decode prog_6_method_8_code 22 = .ok (.aload 5, 2) := by decide +kernel
theorem d_Pl_countedBlacks_24 : decode prog_6_method_8_code 24 = .ok (.getfield 36, 3) := by decide +kernel
theorem d_Pl_countedBlacks_27 : decode prog_6_method_8_code 27 = .ok (.getfield 94, 3) := by decide +kernel
theorem d_Pl_countedBlacks_30 : decode prog_6_method_8_code 30 = .ok (.invokestatic 67, 3) := by decide +kernel
theorem d_Pl_countedBlacks_33 : decode prog_6_method_8_code 33 = .ok (.istore_n 3, 1) := by decide +kernel
theorem d_Pl_countedBlacks_34 : decode prog_6_method_8_code 34 = .ok (.iload 4, 2) := by decide +kernel
theorem d_Pl_countedBlacks_36 : decode prog_6_method_8_code 36 = .ok (.aload 5, 2) := by decide +kernel
theorem d_Pl_countedBlacks_38 : decode prog_6_method_8_code 38 = .ok (.getfield 36, 3) := by decide +kernel
theorem d_Pl_countedBlacks_41 : decode prog_6_method_8_code 41 = .ok (.getfield 97, 3) := by decide +kernel
theorem d_Pl_countedBlacks_44 : decode prog_6_method_8_code 44 = .ok (.invokestatic 58, 3) := by decide +kernel
theorem d_Pl_countedBlacks_47 : decode prog_6_method_8_code 47 = .ok (.istore 4, 2) := by decide +kernel
theorem d_Pl_countedBlacks_49 : decode prog_6_method_8_code 49 = .ok (.aload 5, 2) := by decide +kernel
theorem d_Pl_countedBlacks_51 : decode prog_6_method_8_code 51 = .ok (.getfield 100, 3) := by decide +kernel
theorem d_Pl_countedBlacks_54 : decode prog_6_method_8_code 54 = .ok (.astore 5, 2) := by decide +kernel
theorem d_Pl_countedBlacks_56 : decode prog_6_method_8_code 56 = .ok (.goto (-40), 3) := by decide +kernel
theorem d_Pl_countedBlacks_59 : decode prog_6_method_8_code 59 = .ok (.iconst 0, 1) := by decide +kernel
theorem d_Pl_countedBlacks_60 : decode prog_6_method_8_code 60 = .ok (.istore 5, 2) := by decide +kernel
theorem d_Pl_countedBlacks_62 : decode prog_6_method_8_code 62 = .ok (.iload_n 3, 1) := by decide +kernel
theorem d_Pl_countedBlacks_63 : decode prog_6_method_8_code 63 = .ok (.bipush 64, 2) := by decide +kernel
theorem d_Pl_countedBlacks_65 : decode prog_6_method_8_code 65 = .ok (.idiv, 1) := by decide +kernel
theorem d_Pl_countedBlacks_66 : decode prog_6_method_8_code 66 = .ok (.istore 6, 2) := by decide +kernel
theorem d_Pl_countedBlacks_68 : decode prog_6_method_8_code 68 = .ok (.iload 6, 2) := by decide +kernel
theorem d_Pl_countedBlacks_70 : decode prog_6_method_8_code 70 = .ok (.iload 4, 2) := by decide +kernel
theorem d_Pl_countedBlacks_72 : decode prog_6_method_8_code 72 = .ok (.bipush 64, 2) := by decide +kernel
theorem d_Pl_countedBlacks_74 : decode prog_6_method_8_code 74 = .ok (.idiv, 1) := by decide +kernel
theorem d_Pl_countedBlacks_75 : decode prog_6_method_8_code 75 = .ok (.if_icmp .gt 24, 3) := by decide +kernel
theorem d_Pl_countedBlacks_78 : decode prog_6_method_8_code 78 = .ok (.iload 5, 2) := by decide +kernel
theorem d_Pl_countedBlacks_80 : decode prog_6_method_8_code 80 = .ok (.aload_n 2, 1) := by decide +kernel
theorem d_Pl_countedBlacks_81 : decode prog_6_method_8_code 81 = .ok (.iload_n 1, 1) := by decide +kernel
theorem d_Pl_countedBlacks_82 : decode prog_6_method_8_code 82 = .ok (.iload 6, 2) := by decide +kernel
theorem d_Pl_countedBlacks_84 : decode prog_6_method_8_code 84 = .ok (.invokestatic 82, 3) := by decide +kernel
theorem d_Pl_countedBlacks_87 : decode prog_6_method_8_code 87 = .ok (.invokestatic 103, 3) := by decide +kernel
theorem d_Pl_countedBlacks_90 : decode prog_6_method_8_code 90 = .ok (.iadd, 1) := by decide +kernel
theorem d_Pl_countedBlacks_91 : decode prog_6_method_8_code 91 = .ok (.istore 5, 2) := by decide +kernel
theorem d_Pl_countedBlacks_93 : decode prog_6_method_8_code 93 = .ok (.iinc 6 1, 3) := by decide +kernel
theorem d_Pl_countedBlacks_96 : decode prog_6_method_8_code 96 = .ok (.goto (-28), 3) := by decide +kernel
theorem d_Pl_countedBlacks_99 : decode prog_6_method_8_code 99 = .ok (.iload 5, 2) := by decide +kernel
theorem d_Pl_countedBlacks_101 : decode prog_6_method_8_code 101 = .ok (.ireturn, 1) := by decide +kernel
theorem d_Pl_newestOnLine_0 : decode prog_6_method_9_code 0 = .ok (.aconst_null, 1) := by decide +kernel
theorem d_Pl_newestOnLine_1 : decode prog_6_method_9_code 1 = .ok (.astore_n 2, 1) := by decide +kernel
theorem d_Pl_newestOnLine_2 : decode prog_6_method_9_code 2 = .ok (.aconst_null, 1) := by decide +kernel
theorem d_Pl_newestOnLine_3 : decode prog_6_method_9_code 3 = .ok (.astore_n 3, 1) := by decide +kernel
theorem d_Pl_newestOnLine_4 : decode prog_6_method_9_code 4 = .ok (.aload_n 0, 1) := by decide +kernel
theorem d_Pl_newestOnLine_5 : decode prog_6_method_9_code 5 = .ok (.getfield 26, 3) := by decide +kernel
theorem d_Pl_newestOnLine_8 : decode prog_6_method_9_code 8 = .ok (.astore 4, 2) := by decide +kernel
theorem d_Pl_newestOnLine_10 : decode prog_6_method_9_code 10 = .ok (.aload 4, 2) := by decide +kernel
theorem d_Pl_newestOnLine_12 : decode prog_6_method_9_code 12 = .ok (.ifnull 50, 3) := by decide +kernel
theorem d_Pl_newestOnLine_15 : decode prog_6_method_9_code 15 = .ok (.aload 4, 2) := by decide +kernel
theorem d_Pl_newestOnLine_17 : decode prog_6_method_9_code 17 = .ok (.getfield 36, 3) := by decide +kernel
theorem d_Pl_newestOnLine_20 : decode prog_6_method_9_code 20 = .ok (.iload_n 1, 1) := by decide +kernel
theorem d_Pl_newestOnLine_21 : decode prog_6_method_9_code 21 = .ok (.invokevirtual 109, 3) := by decide +kernel
theorem d_Pl_newestOnLine_24 : decode prog_6_method_9_code 24 = .ok (.ifCond .eq 28, 3) := by decide +kernel
theorem d_Pl_newestOnLine_27 : decode prog_6_method_9_code 27 = .ok (.aload 4, 2) := by decide +kernel
theorem d_Pl_newestOnLine_29 : decode prog_6_method_9_code 29 = .ok (.aconst_null, 1) := by decide +kernel
theorem d_Pl_newestOnLine_30 : decode prog_6_method_9_code 30 = .ok (.putfield 100, 3) := by decide +kernel
theorem d_Pl_newestOnLine_33 : decode prog_6_method_9_code 33 = .ok (.aload_n 3, 1) := by decide +kernel
theorem d_Pl_newestOnLine_34 : decode prog_6_method_9_code 34 = .ok (.ifnonnull 9, 3) := by decide +kernel
theorem d_Pl_newestOnLine_37 : decode prog_6_method_9_code 37 = .ok (.aload 4, 2) := by decide +kernel
theorem d_Pl_newestOnLine_39 : decode prog_6_method_9_code 39 = .ok (.astore_n 2, 1) := by decide +kernel
theorem d_Pl_newestOnLine_40 : decode prog_6_method_9_code 40 = .ok (.goto 9, 3) := by decide +kernel
theorem d_Pl_newestOnLine_43 : decode prog_6_method_9_code 43 = .ok (.aload_n 3, 1) := by decide +kernel
theorem d_Pl_newestOnLine_44 : decode prog_6_method_9_code 44 = .ok (.aload 4, 2) := by decide +kernel
theorem d_Pl_newestOnLine_46 : decode prog_6_method_9_code 46 = .ok (.putfield 100, 3) := by decide +kernel
theorem d_Pl_newestOnLine_49 : decode prog_6_method_9_code 49 = .ok (.aload 4, 2) := by decide +kernel
theorem d_Pl_newestOnLine_51 : decode prog_6_method_9_code 51 = .ok (.astore_n 3, 1) := by decide +kernel
theorem d_Pl_newestOnLine_52 : decode prog_6_method_9_code 52 = .ok (.aload 4, 2) := by decide +kernel
theorem d_Pl_newestOnLine_54 : decode prog_6_method_9_code 54 = .ok (.getfield 48, 3) := by decide +kernel
theorem d_Pl_newestOnLine_57 : decode prog_6_method_9_code 57 = .ok (.astore 4, 2) := by decide +kernel
theorem d_Pl_newestOnLine_59 : decode prog_6_method_9_code 59 = .ok (.goto (-49), 3) := by decide +kernel
theorem d_Pl_newestOnLine_62 : decode prog_6_method_9_code 62 = .ok (.aload_n 2, 1) := by decide +kernel
theorem d_Pl_newestOnLine_63 : decode prog_6_method_9_code 63 = .ok (.areturn, 1) := by decide +kernel
theorem d_Pl_wordUnder_0 : decode prog_6_method_10_code 0 = .ok (.ldc2_w 112, 3) := by decide +kernel
theorem d_Pl_wordUnder_3 : decode prog_6_method_10_code 3 = .ok (.lstore_n 3, 1) := by decide +kernel
theorem d_Pl_wordUnder_4 : decode prog_6_method_10_code 4 = .ok (.lconst 0, 1) := by decide +kernel
theorem d_Pl_wordUnder_5 : decode prog_6_method_10_code 5 = .ok (.lstore 5, 2) := by decide +kernel
theorem d_Pl_wordUnder_7 : decode prog_6_method_10_code 7 = .ok (.aload_n 0, 1) := by decide +kernel
theorem d_Pl_wordUnder_8 : decode prog_6_method_10_code 8 = .ok (.astore 7, 2) := by decide +kernel
theorem d_Pl_wordUnder_10 : decode prog_6_method_10_code 10 = .ok (.aload 7, 2) := by decide +kernel
theorem d_Pl_wordUnder_12 : decode prog_6_method_10_code 12 = .ok (.ifnull 166, 3) := by decide +kernel
theorem d_Pl_wordUnder_15 : decode prog_6_method_10_code 15 = .ok (.lload_n 3, 1) := by decide +kernel
theorem d_Pl_wordUnder_16 : decode prog_6_method_10_code 16 = .ok (.lconst 0, 1) := by decide +kernel
theorem d_Pl_wordUnder_17 : decode prog_6_method_10_code 17 = .ok (.lcmp, 1) := by decide +kernel
theorem d_Pl_wordUnder_18 : decode prog_6_method_10_code 18 = .ok (.ifCond .eq 160, 3) := by decide +kernel
theorem d_Pl_wordUnder_21 : decode prog_6_method_10_code 21 = .ok (.aload 7, 2) := by decide +kernel
theorem d_Pl_wordUnder_23 : decode prog_6_method_10_code 23 = .ok (.getfield 36, 3) := by decide +kernel
theorem d_Pl_wordUnder_26 : decode prog_6_method_10_code 26 = .ok (.iload_n 2, 1) := by decide +kernel
theorem d_Pl_wordUnder_27 : decode prog_6_method_10_code 27 = .ok (.invokevirtual 114, 3) := by decide +kernel
theorem d_Pl_wordUnder_30 : decode prog_6_method_10_code 30 = .ok (.lload_n 3, 1) := by decide +kernel
theorem d_Pl_wordUnder_31 : decode prog_6_method_10_code 31 = .ok (.land, 1) := by decide +kernel
theorem d_Pl_wordUnder_32 : decode prog_6_method_10_code 32 = .ok (.lstore 8, 2) := by decide +kernel
theorem d_Pl_wordUnder_34 : decode prog_6_method_10_code 34 = .ok (.lload 8, 2) := by decide +kernel
theorem d_Pl_wordUnder_36 : decode prog_6_method_10_code 36 = .ok (.lconst 0, 1) := by decide +kernel
theorem d_Pl_wordUnder_37 : decode prog_6_method_10_code 37 = .ok (.lcmp, 1) := by decide +kernel
theorem d_Pl_wordUnder_38 : decode prog_6_method_10_code 38 = .ok (.ifCond .eq 130, 3) := by decide +kernel
theorem d_Pl_wordUnder_41 : decode prog_6_method_10_code 41 = .ok (.aload 7, 2) := by decide +kernel
theorem d_Pl_wordUnder_43 : decode prog_6_method_10_code 43 = .ok (.getfield 70, 3) := by decide +kernel
theorem d_Pl_wordUnder_46 : decode prog_6_method_10_code 46 = .ok (.astore 10, 2) := by decide +kernel
theorem d_Pl_wordUnder_48 : decode prog_6_method_10_code 48 = .ok (.aload 10, 2) := by decide +kernel
theorem d_Pl_wordUnder_50 : decode prog_6_method_10_code 50 = .ok (.ifnonnull 8, 3) := by decide +kernel
theorem d_Pl_wordUnder_53 : decode prog_6_method_10_code 53 = .ok (.lload 8, 2) := by decide +kernel
theorem d_Pl_wordUnder_55 : decode prog_6_method_10_code 55 = .ok (.goto 28, 3) := by decide +kernel
theorem d_Pl_wordUnder_58 : decode prog_6_method_10_code 58 = .ok (.aload 10, 2) := by decide +kernel
theorem d_Pl_wordUnder_60 : decode prog_6_method_10_code 60 = .ok (.iload_n 1, 1) := by decide +kernel
theorem d_Pl_wordUnder_61 : decode prog_6_method_10_code 61 = .ok (.aload 7, 2) := by decide +kernel
theorem d_Pl_wordUnder_63 : decode prog_6_method_10_code 63 = .ok (.getfield 118, 3) := by decide +kernel
theorem d_Pl_wordUnder_66 : decode prog_6_method_10_code 66 = .ok (.isub, 1) := by decide +kernel
theorem d_Pl_wordUnder_67 : decode prog_6_method_10_code 67 = .ok (.iload_n 2, 1) := by decide +kernel
theorem d_Pl_wordUnder_68 : decode prog_6_method_10_code 68 = .ok (.bipush 64, 2) := by decide +kernel
theorem d_Pl_wordUnder_70 : decode prog_6_method_10_code 70 = .ok (.imul, 1) := by decide +kernel
theorem d_Pl_wordUnder_71 : decode prog_6_method_10_code 71 = .ok (.aload 7, 2) := by decide +kernel
theorem d_Pl_wordUnder_73 : decode prog_6_method_10_code 73 = .ok (.getfield 121, 3) := by decide +kernel
theorem d_Pl_wordUnder_76 : decode prog_6_method_10_code 76 = .ok (.isub, 1) := by decide +kernel
theorem d_Pl_wordUnder_77 : decode prog_6_method_10_code 77 = .ok (.invokevirtual 124, 3) := by decide +kernel
theorem d_Pl_wordUnder_80 : decode prog_6_method_10_code 80 = .ok (.lload 8, 2) := by decide +kernel
theorem d_Pl_wordUnder_82 : decode prog_6_method_10_code 82 = .ok (.land, 1) := by decide +kernel
theorem d_Pl_wordUnder_83 : decode prog_6_method_10_code 83 = .ok (.lstore 11, 2) := by decide +kernel
theorem d_Pl_wordUnder_85 : decode prog_6_method_10_code 85 = .ok (.lload 11, 2) := by decide +kernel
theorem d_Pl_wordUnder_87 : decode prog_6_method_10_code 87 = .ok (.aload 7, 2) := by decide +kernel
theorem d_Pl_wordUnder_89 : decode prog_6_method_10_code 89 = .ok (.getfield 130, 3) := by decide +kernel
theorem d_Pl_wordUnder_92 : decode prog_6_method_10_code 92 = .ok (.iload_n 1, 1) := by decide +kernel
theorem d_Pl_wordUnder_93 : decode prog_6_method_10_code 93 = .ok (.invokevirtual 134, 3) := by decide +kernel
theorem d_Pl_wordUnder_96 : decode prog_6_method_10_code 96 = .ok (.land, 1) := by decide +kernel
theorem d_Pl_wordUnder_97 : decode prog_6_method_10_code 97 = .ok (.lstore 13, 2) := by decide +kernel
theorem d_Pl_wordUnder_99 : decode prog_6_method_10_code 99 = .ok (.lload 5, 2) := by decide +kernel
theorem d_Pl_wordUnder_101 : decode prog_6_method_10_code 101 = .ok (.lload 13, 2) := by decide +kernel
theorem d_Pl_wordUnder_103 : decode prog_6_method_10_code 103 = .ok (.lor, 1) := by decide +kernel
theorem d_Pl_wordUnder_104 : decode prog_6_method_10_code 104 = .ok (.lstore 5, 2) := by decide +kernel
theorem d_Pl_wordUnder_106 : decode prog_6_method_10_code 106 = .ok (.lload_n 3, 1) := by decide +kernel
theorem d_Pl_wordUnder_107 : decode prog_6_method_10_code 107 = .ok (.lload 13, 2) := by decide +kernel
theorem d_Pl_wordUnder_109 : decode prog_6_method_10_code 109 = .ok (.ldc2_w 112, 3) := by decide +kernel
theorem d_Pl_wordUnder_112 : decode prog_6_method_10_code 112 = .ok (.lxor, 1) := by decide +kernel
theorem d_Pl_wordUnder_113 : decode prog_6_method_10_code 113 = .ok (.land, 1) := by decide +kernel
theorem d_Pl_wordUnder_114 : decode prog_6_method_10_code 114 = .ok (.lstore_n 3, 1) := by decide +kernel
theorem d_Pl_wordUnder_115 : decode prog_6_method_10_code 115 = .ok (.lload_n 3, 1) := by decide +kernel
theorem d_Pl_wordUnder_116 : decode prog_6_method_10_code 116 = .ok (.aload 7, 2) := by decide +kernel
theorem d_Pl_wordUnder_118 : decode prog_6_method_10_code 118 = .ok (.getfield 139, 3) := by decide +kernel
theorem d_Pl_wordUnder_121 : decode prog_6_method_10_code 121 = .ok (.ifCond .eq 12, 3) := by decide +kernel
theorem d_Pl_wordUnder_124 : decode prog_6_method_10_code 124 = .ok (.lload 11, 2) := by decide +kernel
theorem d_Pl_wordUnder_126 : decode prog_6_method_10_code 126 = .ok (.ldc2_w 112, 3) := by decide +kernel
theorem d_Pl_wordUnder_129 : decode prog_6_method_10_code 129 = .ok (.lxor, 1) := by decide +kernel
theorem d_Pl_wordUnder_130 : decode prog_6_method_10_code 130 = .ok (.goto 6, 3) := by decide +kernel
theorem d_Pl_wordUnder_133 : decode prog_6_method_10_code 133 = .ok (.ldc2_w 112, 3) := by decide +kernel
theorem d_Pl_wordUnder_136 : decode prog_6_method_10_code 136 = .ok (.land, 1) := by decide +kernel
theorem d_Pl_wordUnder_137 : decode prog_6_method_10_code 137 = .ok (.lstore_n 3, 1) := by decide +kernel
theorem d_Pl_wordUnder_138 : decode prog_6_method_10_code 138 = .ok (.lload_n 3, 1) := by decide +kernel
theorem d_Pl_wordUnder_139 : decode prog_6_method_10_code 139 = .ok (.aload 7, 2) := by decide +kernel
theorem d_Pl_wordUnder_141 : decode prog_6_method_10_code 141 = .ok (.getfield 143, 3) := by decide +kernel
theorem d_Pl_wordUnder_144 : decode prog_6_method_10_code 144 = .ok (.ifCond .eq 19, 3) := by decide +kernel
theorem d_Pl_wordUnder_147 : decode prog_6_method_10_code 147 = .ok (.lload 8, 2) := by decide +kernel
theorem d_Pl_wordUnder_149 : decode prog_6_method_10_code 149 = .ok (.lload 11, 2) := by decide +kernel
theorem d_Pl_wordUnder_151 : decode prog_6_method_10_code 151 = .ok (.ldc2_w 112, 3) := by decide +kernel
theorem d_Pl_wordUnder_154 : decode prog_6_method_10_code 154 = .ok (.lxor, 1) := by decide +kernel
theorem d_Pl_wordUnder_155 : decode prog_6_method_10_code 155 = .ok (.land, 1) := by decide +kernel
theorem d_Pl_wordUnder_156 : decode prog_6_method_10_code 156 = .ok (.ldc2_w 112, 3) := by decide +kernel
theorem d_Pl_wordUnder_159 : decode prog_6_method_10_code 159 = .ok (.lxor, 1) := by decide +kernel
theorem d_Pl_wordUnder_160 : decode prog_6_method_10_code 160 = .ok (.goto 6, 3) := by decide +kernel
theorem d_Pl_wordUnder_163 : decode prog_6_method_10_code 163 = .ok (.ldc2_w 112, 3) := by decide +kernel
theorem d_Pl_wordUnder_166 : decode prog_6_method_10_code 166 = .ok (.land, 1) := by decide +kernel
theorem d_Pl_wordUnder_167 : decode prog_6_method_10_code 167 = .ok (.lstore_n 3, 1) := by decide +kernel
theorem d_Pl_wordUnder_168 : decode prog_6_method_10_code 168 = .ok (.aload 7, 2) := by decide +kernel
theorem d_Pl_wordUnder_170 : decode prog_6_method_10_code 170 = .ok (.getfield 100, 3) := by decide +kernel
theorem d_Pl_wordUnder_173 : decode prog_6_method_10_code 173 = .ok (.astore 7, 2) := by decide +kernel
theorem d_Pl_wordUnder_175 : decode prog_6_method_10_code 175 = .ok (.goto (-165), 3) := by decide +kernel
theorem d_Pl_wordUnder_178 : decode prog_6_method_10_code 178 = .ok (.lload 5, 2) := by decide +kernel
theorem d_Pl_wordUnder_180 : decode prog_6_method_10_code 180 = .ok (.lreturn, 1) := by decide +kernel
theorem d_Sh_init_0 : decode prog_7_method_1_code 0 = .ok (.aload_n 0, 1) := by decide +kernel
theorem d_Sh_init_1 : decode prog_7_method_1_code 1 = .ok (.invokespecial 3, 3) := by decide +kernel
theorem d_Sh_init_4 : decode prog_7_method_1_code 4 = .ok (.aload_n 0, 1) := by decide +kernel
theorem d_Sh_init_5 : decode prog_7_method_1_code 5 = .ok (.new 9, 3) := by decide +kernel
theorem d_Sh_init_8 : decode prog_7_method_1_code 8 = .ok (.dup, 1) := by decide +kernel
theorem d_Sh_init_9 : decode prog_7_method_1_code 9 = .ok (.iload_n 1, 1) := by decide +kernel
theorem d_Sh_init_10 : decode prog_7_method_1_code 10 = .ok (.iload_n 2, 1) := by decide +kernel
theorem d_Sh_init_11 : decode prog_7_method_1_code 11 = .ok (.iconst 1, 1) := by decide +kernel
theorem d_Sh_init_12 : decode prog_7_method_1_code 12 = .ok (.invokespecial 11, 3) := by decide +kernel
theorem d_Sh_init_15 : decode prog_7_method_1_code 15 = .ok (.putfield 14, 3) := by decide +kernel
theorem d_Sh_init_18 : decode prog_7_method_1_code 18 = .ok (.aload_n 0, 1) := by decide +kernel
theorem d_Sh_init_19 : decode prog_7_method_1_code 19 = .ok (.iconst 4, 1) := by decide +kernel
theorem d_Sh_init_20 : decode prog_7_method_1_code 20 = .ok (.anewarray 9, 3) := by decide +kernel
theorem d_Sh_init_23 : decode prog_7_method_1_code 23 = .ok (.putfield 20, 3) := by decide +kernel
theorem d_Sh_init_26 : decode prog_7_method_1_code 26 = .ok (.return_, 1) := by decide +kernel
theorem d_Sh_redraw_0 : decode prog_7_method_2_code 0 = .ok (.aload_n 0, 1) := by decide +kernel
theorem d_Sh_redraw_1 : decode prog_7_method_2_code 1 = .ok (.getfield 14, 3) := by decide +kernel
theorem d_Sh_redraw_4 : decode prog_7_method_2_code 4 = .ok (.iload_n 1, 1) := by decide +kernel
theorem d_Sh_redraw_5 : decode prog_7_method_2_code 5 = .ok (.lload_n 2, 1) := by decide +kernel
theorem d_Sh_redraw_6 : decode prog_7_method_2_code 6 = .ok (.lload 4, 2) := by decide +kernel
theorem d_Sh_redraw_8 : decode prog_7_method_2_code 8 = .ok (.invokevirtual 24, 3) := by decide +kernel
theorem d_Sh_redraw_11 : decode prog_7_method_2_code 11 = .ok (.iconst 0, 1) := by decide +kernel
theorem d_Sh_redraw_12 : decode prog_7_method_2_code 12 = .ok (.istore 6, 2) := by decide +kernel
theorem d_Sh_redraw_14 : decode prog_7_method_2_code 14 = .ok (.iload 6, 2) := by decide +kernel
theorem d_Sh_redraw_16 : decode prog_7_method_2_code 16 = .ok (.iconst 4, 1) := by decide +kernel
theorem d_Sh_redraw_17 : decode prog_7_method_2_code 17 = .ok (.if_icmp .ge 17, 3) := by decide +kernel
theorem d_Sh_redraw_20 : decode prog_7_method_2_code 20 = .ok (.aload_n 0, 1) := by decide +kernel
theorem d_Sh_redraw_21 : decode prog_7_method_2_code 21 = .ok (.getfield 20, 3) := by decide +kernel
theorem d_Sh_redraw_24 : decode prog_7_method_2_code 24 = .ok (.iload 6, 2) := by decide +kernel
theorem d_Sh_redraw_26 : decode prog_7_method_2_code 26 = .ok (.aconst_null, 1) := by decide +kernel
theorem d_Sh_redraw_27 : decode prog_7_method_2_code 27 = .ok (.aastore, 1) := by decide +kernel
theorem d_Sh_redraw_28 : decode prog_7_method_2_code 28 = .ok (.iinc 6 1, 3) := by decide +kernel
theorem d_Sh_redraw_31 : decode prog_7_method_2_code 31 = .ok (.goto (-17), 3) := by decide +kernel
theorem d_Sh_redraw_34 : decode prog_7_method_2_code 34 = .ok (.return_, 1) := by decide +kernel
theorem d_Sh_turnedBy_0 : decode prog_7_method_3_code 0 = .ok (.iconst 0, 1) := by decide +kernel
theorem d_Sh_turnedBy_1 : decode prog_7_method_3_code 1 = .ok (.iload_n 1, 1) := by decide +kernel
theorem d_Sh_turnedBy_2 : decode prog_7_method_3_code 2 = .ok (.iconst 3, 1) := by decide +kernel
theorem d_Sh_turnedBy_3 : decode prog_7_method_3_code 3 = .ok (.invokestatic 28, 3) := by decide +kernel
theorem d_Sh_turnedBy_6 : decode prog_7_method_3_code 6 = .ok (.ifCond .ne 8, 3) := by decide +kernel
theorem d_Sh_turnedBy_9 : decode prog_7_method_3_code 9 = .ok (.aload_n 0, 1) := by decide +kernel
theorem d_Sh_turnedBy_10 : decode prog_7_method_3_code 10 = .ok (.getfield 14, 3) := by decide +kernel
theorem d_Sh_turnedBy_13 : decode prog_7_method_3_code 13 = .ok (.areturn, 1) := by decide +kernel
theorem d_Sh_turnedBy_14 : decode prog_7_method_3_code 14 = .ok (.aload_n 0, 1) := by decide +kernel
theorem d_Sh_turnedBy_15 : decode prog_7_method_3_code 15 = .ok (.getfield 20, 3) := by decide +kernel
theorem d_Sh_turnedBy_18 : decode prog_7_method_3_code 18 = .ok (.iload_n 1, 1) := by decide +kernel
theorem d_Sh_turnedBy_19 : decode prog_7_method_3_code 19 = .ok (.aaload, 1) := by decide +kernel
theorem d_Sh_turnedBy_20 : decode prog_7_method_3_code 20 = .ok (.ifnonnull 17, 3) := by decide +kernel
theorem d_Sh_turnedBy_23 : decode prog_7_method_3_code 23 = .ok (.aload_n 0, 1) := by decide +kernel
theorem d_Sh_turnedBy_24 : decode prog_7_method_3_code 24 = .ok (.getfield 20, 3) := by decide +kernel
theorem d_Sh_turnedBy_27 : decode prog_7_method_3_code 27 = .ok (.iload_n 1, 1) := by decide +kernel
theorem d_Sh_turnedBy_28 : decode prog_7_method_3_code 28 = .ok (.aload_n 0, 1) := by decide +kernel
theorem d_Sh_turnedBy_29 : decode prog_7_method_3_code 29 = .ok (.getfield 14, 3) := by decide +kernel
theorem d_Sh_turnedBy_32 : decode prog_7_method_3_code 32 = .ok (.iload_n 1, 1) := by decide +kernel
theorem d_Sh_turnedBy_33 : decode prog_7_method_3_code 33 = .ok (.invokevirtual 32, 3) := by decide +kernel
theorem d_Sh_turnedBy_36 : decode prog_7_method_3_code 36 = .ok (.aastore, 1) := by decide +kernel
theorem d_Sh_turnedBy_37 : decode prog_7_method_3_code 37 = .ok (.aload_n 0, 1) := by decide +kernel
theorem d_Sh_turnedBy_38 : decode prog_7_method_3_code 38 = .ok (.getfield 20, 3) := by decide +kernel
theorem d_Sh_turnedBy_41 : decode prog_7_method_3_code 41 = .ok (.iload_n 1, 1) := by decide +kernel
theorem d_Sh_turnedBy_42 : decode prog_7_method_3_code 42 = .ok (.aaload, 1) := by decide +kernel
theorem d_Sh_turnedBy_43 : decode prog_7_method_3_code 43 = .ok (.areturn, 1) := by decide +kernel
end
section
theorem d_Mo_init_0 : decode prog_9_method_1_code 0 = .ok (.aload_n 0, 1) := by decide +kernel
theorem d_Mo_init_1 : decode prog_9_method_1_code 1 = .ok (.invokespecial 1, 3) := by decide +kernel
theorem d_Mo_init_4 : decode prog_9_method_1_code 4 = .ok (.aload_n 0, 1) := by decide +kernel
theorem d_Mo_init_5 : decode prog_9_method_1_code 5 = .ok (.bipush 64, 2) := by decide +kernel
theorem d_Mo_init_7 : decode prog_9_method_1_code 7 = .ok (.newarray .int, 2) := by decide +kernel
theorem d_Mo_init_9 : decode prog_9_method_1_code 9 = .ok (.putfield 7, 3) := by decide +kernel
theorem d_Mo_init_12 : decode prog_9_method_1_code 12 = .ok (.aload_n 0, 1) := by decide +kernel
theorem d_Mo_init_13 : decode prog_9_method_1_code 13 = .ok (.bipush 64, 2) := by decide +kernel
theorem d_Mo_init_15 : decode prog_9_method_1_code 15 = .ok (.newarray .int, 2) := by decide +kernel
theorem d_Mo_init_17 : decode prog_9_method_1_code 17 = .ok (.putfield 13, 3) := by decide +kernel
theorem d_Mo_init_20 : decode prog_9_method_1_code 20 = .ok (.aload_n 0, 1) := by decide +kernel
theorem d_Mo_init_21 : decode prog_9_method_1_code 21 = .ok (.bipush 64, 2) := by decide +kernel
theorem d_Mo_init_23 : decode prog_9_method_1_code 23 = .ok (.newarray .int, 2) := by decide +kernel
theorem d_Mo_init_25 : decode prog_9_method_1_code 25 = .ok (.putfield 16, 3) := by decide +kernel
theorem d_Mo_init_28 : decode prog_9_method_1_code 28 = .ok (.aload_n 0, 1) := by decide +kernel
theorem d_Mo_init_29 : decode prog_9_method_1_code 29 = .ok (.bipush 64, 2) := by decide +kernel
theorem d_Mo_init_31 : decode prog_9_method_1_code 31 = .ok (.newarray .boolean, 2) := by decide +kernel
theorem d_Mo_init_33 : decode prog_9_method_1_code 33 = .ok (.putfield 19, 3) := by decide +kernel
theorem d_Mo_init_36 : decode prog_9_method_1_code 36 = .ok (.aload_n 0, 1) := by decide +kernel
theorem d_Mo_init_37 : decode prog_9_method_1_code 37 = .ok (.sipush 8192, 3) := by decide +kernel
theorem d_Mo_init_40 : decode prog_9_method_1_code 40 = .ok (.newarray .long, 2) := by decide +kernel
theorem d_Mo_init_42 : decode prog_9_method_1_code 42 = .ok (.putfield 23, 3) := by decide +kernel
theorem d_Mo_init_45 : decode prog_9_method_1_code 45 = .ok (.aload_n 0, 1) := by decide +kernel
theorem d_Mo_init_46 : decode prog_9_method_1_code 46 = .ok (.iload_n 1, 1) := by decide +kernel
theorem d_Mo_init_47 : decode prog_9_method_1_code 47 = .ok (.iconst 1, 1) := by decide +kernel
theorem d_Mo_init_48 : decode prog_9_method_1_code 48 = .ok (.if_icmp .ge 7, 3) := by decide +kernel
theorem d_Mo_init_51 : decode prog_9_method_1_code 51 = .ok (.iconst 1, 1) := by decide +kernel
theorem d_Mo_init_52 : decode prog_9_method_1_code 52 = .ok (.goto 17, 3) := by decide +kernel
theorem d_Mo_init_55 : decode prog_9_method_1_code 55 = .ok (.iload_n 1, 1) := by decide +kernel
theorem d_Mo_init_56 : decode prog_9_method_1_code 56 = .ok (.sipush 5100, 3) := by decide +kernel
theorem d_Mo_init_59 : decode prog_9_method_1_code 59 = .ok (.if_icmp .le 9, 3) := by decide +kernel
theorem d_Mo_init_62 : decode prog_9_method_1_code 62 = .ok (.sipush 5100, 3) := by decide +kernel
theorem d_Mo_init_65 : decode prog_9_method_1_code 65 = .ok (.goto 4, 3) := by decide +kernel
theorem d_Mo_init_68 : decode prog_9_method_1_code 68 = .ok (.iload_n 1, 1) := by decide +kernel
theorem d_Mo_init_69 : decode prog_9_method_1_code 69 = .ok (.putfield 27, 3) := by decide +kernel
theorem d_Mo_init_72 : decode prog_9_method_1_code 72 = .ok (.aload_n 0, 1) := by decide +kernel
theorem d_Mo_init_73 : decode prog_9_method_1_code 73 = .ok (.iload_n 2, 1) := by decide +kernel
theorem d_Mo_init_74 : decode prog_9_method_1_code 74 = .ok (.iconst 1, 1) := by decide +kernel
theorem d_Mo_init_75 : decode prog_9_method_1_code 75 = .ok (.if_icmp .ge 7, 3) := by decide +kernel
theorem d_Mo_init_78 : decode prog_9_method_1_code 78 = .ok (.iconst 1, 1) := by decide +kernel
theorem d_Mo_init_79 : decode prog_9_method_1_code 79 = .ok (.goto 17, 3) := by decide +kernel
theorem d_Mo_init_82 : decode prog_9_method_1_code 82 = .ok (.iload_n 2, 1) := by decide +kernel
theorem d_Mo_init_83 : decode prog_9_method_1_code 83 = .ok (.sipush 5100, 3) := by decide +kernel
theorem d_Mo_init_86 : decode prog_9_method_1_code 86 = .ok (.if_icmp .le 9, 3) := by decide +kernel
theorem d_Mo_init_89 : decode prog_9_method_1_code 89 = .ok (.sipush 5100, 3) := by decide +kernel
theorem d_Mo_init_92 : decode prog_9_method_1_code 92 = .ok (.goto 4, 3) := by decide +kernel
theorem d_Mo_init_95 : decode prog_9_method_1_code 95 = .ok (.iload_n 2, 1) := by decide +kernel
theorem d_Mo_init_96 : decode prog_9_method_1_code 96 = .ok (.putfield 31, 3) := by decide +kernel
theorem d_Mo_init_99 : decode prog_9_method_1_code 99 = .ok (.aload_n 0, 1) := by decide +kernel
theorem d_Mo_init_100 : decode prog_9_method_1_code 100 = .ok (.iload_n 3, 1) := by decide +kernel
theorem d_Mo_init_101 : decode prog_9_method_1_code 101 = .ok (.iconst 1, 1) := by decide +kernel
theorem d_Mo_init_102 : decode prog_9_method_1_code 102 = .ok (.if_icmp .ge 7, 3) := by decide +kernel
theorem d_Mo_init_105 : decode prog_9_method_1_code 105 = .ok (.iconst 1, 1) := by decide +kernel
theorem d_Mo_init_106 : decode prog_9_method_1_code 106 = .ok (.goto 19, 3) := by decide +kernel
theorem d_Mo_init_109 : decode prog_9_method_1_code 109 = .ok (.iload_n 3, 1) := by decide +kernel
theorem d_Mo_init_110 : decode prog_9_method_1_code 110 = .ok (.aload_n 0, 1) := by decide +kernel
theorem d_Mo_init_111 : decode prog_9_method_1_code 111 = .ok (.getfield 31, 3) := by decide +kernel
theorem d_Mo_init_114 : decode prog_9_method_1_code 114 = .ok (.if_icmp .le 10, 3) := by decide +kernel
theorem d_Mo_init_117 : decode prog_9_method_1_code 117 = .ok (.aload_n 0, 1) := by decide +kernel
theorem d_Mo_init_118 : decode prog_9_method_1_code 118 = .ok (.getfield 31, 3) := by decide +kernel
theorem d_Mo_init_121 : decode prog_9_method_1_code 121 = .ok (.goto 4, 3) := by decide +kernel
theorem d_Mo_init_124 : decode prog_9_method_1_code 124 = .ok (.iload_n 3, 1) := by decide +kernel
theorem d_Mo_init_125 : decode prog_9_method_1_code 125 = .ok (.putfield 34, 3) := by decide +kernel
theorem d_Mo_init_128 : decode prog_9_method_1_code 128 = .ok (.aload_n 0, 1) := by decide +kernel
theorem d_Mo_init_129 : decode prog_9_method_1_code 129 = .ok (.bipush 80, 2) := by decide +kernel
theorem d_Mo_init_131 : decode prog_9_method_1_code 131 = .ok (.aload_n 0, 1) := by decide +kernel
theorem d_Mo_init_132 : decode prog_9_method_1_code 132 = .ok (.getfield 31, 3) := by decide +kernel
theorem d_Mo_init_135 : decode prog_9_method_1_code 135 = .ok (.imul, 1) := by decide +kernel
theorem d_Mo_init_136 : decode prog_9_method_1_code 136 = .ok (.newarray .long, 2) := by decide +kernel
theorem d_Mo_init_138 : decode prog_9_method_1_code 138 = .ok (.putfield 37, 3) := by decide +kernel
theorem d_Mo_init_141 : decode prog_9_method_1_code 141 = .ok (.aload_n 0, 1) := by decide +kernel
theorem d_Mo_init_142 : decode prog_9_method_1_code 142 = .ok (.aload_n 0, 1) := by decide +kernel
theorem d_Mo_init_143 : decode prog_9_method_1_code 143 = .ok (.getfield 27, 3) := by decide +kernel
theorem d_Mo_init_146 : decode prog_9_method_1_code 146 = .ok (.iconst 1, 1) := by decide +kernel
theorem d_Mo_init_147 : decode prog_9_method_1_code 147 = .ok (.isub, 1) := by decide +kernel
theorem d_Mo_init_148 : decode prog_9_method_1_code 148 = .ok (.putfield 40, 3) := by decide +kernel
theorem d_Mo_init_151 : decode prog_9_method_1_code 151 = .ok (.aload_n 0, 1) := by decide +kernel
theorem d_Mo_init_152 : decode prog_9_method_1_code 152 = .ok (.aload_n 0, 1) := by decide +kernel
theorem d_Mo_init_153 : decode prog_9_method_1_code 153 = .ok (.getfield 31, 3) := by decide +kernel
theorem d_Mo_init_156 : decode prog_9_method_1_code 156 = .ok (.iconst 1, 1) := by decide +kernel
theorem d_Mo_init_157 : decode prog_9_method_1_code 157 = .ok (.isub, 1) := by decide +kernel
theorem d_Mo_init_158 : decode prog_9_method_1_code 158 = .ok (.putfield 43, 3) := by decide +kernel
theorem d_Mo_init_161 : decode prog_9_method_1_code 161 = .ok (.return_, 1) := by decide +kernel
theorem d_Mo_thrown_0 : decode prog_9_method_2_code 0 = .ok (.aload_n 0, 1) := by decide +kernel
theorem d_Mo_thrown_1 : decode prog_9_method_2_code 1 = .ok (.getfield 46, 3) := by decide +kernel
theorem d_Mo_thrown_4 : decode prog_9_method_2_code 4 = .ok (.ireturn, 1) := by decide +kernel
theorem d_Mo_isIn_0 : decode prog_9_method_3_code 0 = .ok (.iload_n 1, 1) := by decide +kernel
theorem d_Mo_isIn_1 : decode prog_9_method_3_code 1 = .ok (.ifCond .lt 27, 3) := by decide +kernel
theorem d_Mo_isIn_4 : decode prog_9_method_3_code 4 = .ok (.iload_n 1, 1) := by decide +kernel
theorem d_Mo_isIn_5 : decode prog_9_method_3_code 5 = .ok (.aload_n 0, 1) := by decide +kernel
theorem d_Mo_isIn_6 : decode prog_9_method_3_code 6 = .ok (.getfield 27, 3) := by decide +kernel
theorem d_Mo_isIn_9 : decode prog_9_method_3_code 9 = .ok (.if_icmp .ge 19, 3) := by decide +kernel
theorem d_Mo_isIn_12 : decode prog_9_method_3_code 12 = .ok (.iload_n 2, 1) := by decide +kernel
theorem d_Mo_isIn_13 : decode prog_9_method_3_code 13 = .ok (.ifCond .lt 15, 3) := by decide +kernel
theorem d_Mo_isIn_16 : decode prog_9_method_3_code 16 = .ok (.iload_n 2, 1) := by decide +kernel
theorem d_Mo_isIn_17 : decode prog_9_method_3_code 17 = .ok (.aload_n 0, 1) := by decide +kernel
theorem d_Mo_isIn_18 : decode prog_9_method_3_code 18 = .ok (.getfield 31, 3) := by decide +kernel
theorem d_Mo_isIn_21 : decode prog_9_method_3_code 21 = .ok (.if_icmp .ge 7, 3) := by decide +kernel
theorem d_Mo_isIn_24 : decode prog_9_method_3_code 24 = .ok (.iconst 1, 1) := by decide +kernel
theorem d_Mo_isIn_25 : decode prog_9_method_3_code 25 = .ok (.goto 4, 3) := by decide +kernel
theorem d_Mo_isIn_28 : decode prog_9_method_3_code 28 = .ok (.iconst 0, 1) := by decide +kernel
theorem d_Mo_isIn_29 : decode prog_9_method_3_code 29 = .ok (.ireturn, 1) := by decide +kernel
theorem d_Mo_isBlack_0 : decode prog_9_method_4_code 0 = .ok (.aload_n 0, 1) := by decide +kernel
theorem d_Mo_isBlack_1 : decode prog_9_method_4_code 1 = .ok (.getfield 37, 3) := by decide +kernel
theorem d_Mo_isBlack_4 : decode prog_9_method_4_code 4 = .ok (.bipush 80, 2) := by decide +kernel
theorem d_Mo_isBlack_6 : decode prog_9_method_4_code 6 = .ok (.iload_n 2, 1) := by decide +kernel
theorem d_Mo_isBlack_7 : decode prog_9_method_4_code 7 = .ok (.imul, 1) := by decide +kernel
theorem d_Mo_isBlack_8 : decode prog_9_method_4_code 8 = .ok (.iload_n 1, 1) := by decide +kernel
theorem d_Mo_isBlack_9 : decode prog_9_method_4_code 9 = .ok (.bipush 64, 2) := by decide +kernel
theorem d_Mo_isBlack_11 : decode prog_9_method_4_code 11 = .ok (.idiv, 1) := by decide +kernel
theorem d_Mo_isBlack_12 : decode prog_9_method_4_code 12 = .ok (.iadd, 1) := by decide +kernel
theorem d_Mo_isBlack_13 : decode prog_9_method_4_code 13 = .ok (.laload, 1) := by decide +kernel
theorem d_Mo_isBlack_14 : decode prog_9_method_4_code 14 = .ok (.bipush 63, 2) := by decide +kernel
theorem d_Mo_isBlack_16 : decode prog_9_method_4_code 16 = .ok (.iload_n 1, 1) := by decide +kernel
theorem d_Mo_isBlack_17 : decode prog_9_method_4_code 17 = .ok (.bipush 64, 2) := by decide +kernel
theorem d_Mo_isBlack_19 : decode prog_9_method_4_code 19 = .ok (.irem, 1) := by decide +kernel
theorem d_Mo_isBlack_20 : decode prog_9_method_4_code 20 = .ok (.isub, 1) := by decide +kernel
theorem d_Mo_isBlack_21 : decode prog_9_method_4_code 21 = .ok (.lshr, 1) := by decide +kernel
theorem d_Mo_isBlack_22 : decode prog_9_method_4_code 22 = .ok (.lconst 1, 1) := by decide +kernel
theorem d_Mo_isBlack_23 : decode prog_9_method_4_code 23 = .ok (.land, 1) := by decide +kernel
theorem d_Mo_isBlack_24 : decode prog_9_method_4_code 24 = .ok (.lconst 1, 1) := by decide +kernel
theorem d_Mo_isBlack_25 : decode prog_9_method_4_code 25 = .ok (.lcmp, 1) := by decide +kernel
theorem d_Mo_isBlack_26 : decode prog_9_method_4_code 26 = .ok (.ifCond .ne 7, 3) := by decide +kernel
theorem d_Mo_isBlack_29 : decode prog_9_method_4_code 29 = .ok (.iconst 1, 1) := by decide +kernel
theorem d_Mo_isBlack_30 : decode prog_9_method_4_code 30 = .ok (.goto 4, 3) := by decide +kernel
theorem d_Mo_isBlack_33 : decode prog_9_method_4_code 33 = .ok (.iconst 0, 1) := by decide +kernel
theorem d_Mo_isBlack_34 : decode prog_9_method_4_code 34 = .ok (.ireturn, 1) := by decide +kernel
theorem d_Mo_set_0 : decode prog_9_method_5_code 0 = .ok (.bipush 80, 2) := by decide +kernel
theorem d_Mo_set_2 : decode prog_9_method_5_code 2 = .ok (.iload_n 2, 1) := by decide +kernel
theorem d_Mo_set_3 : decode prog_9_method_5_code 3 = .ok (.imul, 1) := by decide +kernel
theorem d_Mo_set_4 : decode prog_9_method_5_code 4 = .ok (.iload_n 1, 1) := by decide +kernel
theorem d_Mo_set_5 : decode prog_9_method_5_code 5 = .ok (.bipush 64, 2) := by decide +kernel
theorem d_Mo_set_7 : decode prog_9_method_5_code 7 = .ok (.idiv, 1) := by decide +kernel
theorem d_Mo_set_8 : decode prog_9_method_5_code 8 = .ok (.iadd, 1) := by decide +kernel
theorem d_Mo_set_9 : decode prog_9_method_5_code 9 = .ok (.istore 4, 2) := by decide +kernel
theorem d_Mo_set_11 : decode prog_9_method_5_code 11 = .ok (.lconst 1, 1) := by decide +kernel
theorem d_Mo_set_12 : decode prog_9_method_5_code 12 = .ok (.bipush 63, 2) := by decide +kernel
theorem d_Mo_set_14 : decode prog_9_method_5_code 14 = .ok (.iload_n 1, 1) := by decide +kernel
theorem d_Mo_set_15 : decode prog_9_method_5_code 15 = .ok (.bipush 64, 2) := by decide +kernel
theorem d_Mo_set_17 : decode prog_9_method_5_code 17 = .ok (.irem, 1) := by decide +kernel
theorem d_Mo_set_18 : decode prog_9_method_5_code 18 = .ok (.isub, 1) := by decide +kernel
theorem d_Mo_set_19 : decode prog_9_method_5_code 19 = .ok (.lshl, 1) := by decide +kernel
theorem d_Mo_set_20 : decode prog_9_method_5_code 20 = .ok (.lstore 5, 2) := by decide +kernel
theorem d_Mo_set_22 : decode prog_9_method_5_code 22 = .ok (.aload_n 0, 1) := by decide +kernel
theorem d_Mo_set_23 : decode prog_9_method_5_code 23 = .ok (.getfield 37, 3) := by decide +kernel
theorem d_Mo_set_26 : decode prog_9_method_5_code 26 = .ok (.iload 4, 2) := by decide +kernel
theorem d_Mo_set_28 : decode prog_9_method_5_code 28 = .ok (.iload_n 3, 1) := by decide +kernel
theorem d_Mo_set_29 : decode prog_9_method_5_code 29 = .ok (.ifCond .eq 16, 3) := by decide +kernel
theorem d_Mo_set_32 : decode prog_9_method_5_code 32 = .ok (.aload_n 0, 1) := by decide +kernel
theorem d_Mo_set_33 : decode prog_9_method_5_code 33 = .ok (.getfield 37, 3) := by decide +kernel
theorem d_Mo_set_36 : decode prog_9_method_5_code 36 = .ok (.iload 4, 2) := by decide +kernel
theorem d_Mo_set_38 : decode prog_9_method_5_code 38 = .ok (.laload, 1) := by decide +kernel
theorem d_Mo_set_39 : decode prog_9_method_5_code 39 = .ok (.lload 5, 2) := by decide +kernel
theorem d_Mo_set_41 : decode prog_9_method_5_code 41 = .ok (.lor, 1) := by decide +kernel
theorem d_Mo_set_42 : decode prog_9_method_5_code 42 = .ok (.goto 17, 3) := by decide +kernel
theorem d_Mo_set_45 : decode prog_9_method_5_code 45 = .ok (.aload_n 0, 1) := by decide +kernel
theorem d_Mo_set_46 : decode prog_9_method_5_code 46 = .ok (.getfield 37, 3) := by decide +kernel
theorem d_Mo_set_49 : decode prog_9_method_5_code 49 = .ok (.iload 4, 2) := by decide +kernel
theorem d_Mo_set_51 : decode prog_9_method_5_code 51 = .ok (.laload, 1) := by decide +kernel
theorem d_Mo_set_52 : decode prog_9_method_5_code 52 = .ok (.lload 5, 2) := by decide +kernel
theorem d_Mo_set_54 : decode prog_9_method_5_code 54 = .ok (.ldc2_w 49, 3) := by decide +kernel
theorem d_Mo_set_57 : decode prog_9_method_5_code 57 = .ok (.lxor, 1) := by decide +kernel
theorem d_Mo_set_58 : decode prog_9_method_5_code 58 = .ok (.land, 1) := by decide +kernel
theorem d_Mo_set_59 : decode prog_9_method_5_code 59 = .ok (.lastore, 1) := by decide +kernel
theorem d_Mo_set_60 : decode prog_9_method_5_code 60 = .ok (.return_, 1) := by decide +kernel
theorem d_Mo_threshold_0 : decode prog_9_method_6_code 0 = .ok (.iconst 0, 1) := by decide +kernel
theorem d_Mo_threshold_1 : decode prog_9_method_6_code 1 = .ok (.istore_n 2, 1) := by decide +kernel
theorem d_Mo_threshold_2 : decode prog_9_method_6_code 2 = .ok (.iconst 0, 1) := by decide +kernel
theorem d_Mo_threshold_3 : decode prog_9_method_6_code 3 = .ok (.istore_n 3, 1) := by decide +kernel
theorem d_Mo_threshold_4 : decode prog_9_method_6_code 4 = .ok (.iload_n 3, 1) := by decide +kernel
theorem d_Mo_threshold_5 : decode prog_9_method_6_code 5 = .ok (.iconst 3, 1) := by decide +kernel
theorem d_Mo_threshold_6 : decode prog_9_method_6_code 6 = .ok (.if_icmp .ge 53, 3) := by decide +kernel
theorem d_Mo_threshold_9 : decode prog_9_method_6_code 9 = .ok (.iload_n 0, 1) := by decide +kernel
theorem d_Mo_threshold_10 : decode prog_9_method_6_code 10 = .ok (.iload_n 3, 1) := by decide +kernel
theorem d_Mo_threshold_11 : decode prog_9_method_6_code 11 = .ok (.ishr, 1) := by decide +kernel
theorem d_Mo_threshold_12 : decode prog_9_method_6_code 12 = .ok (.iconst 1, 1) := by decide +kernel
theorem d_Mo_threshold_13 : decode prog_9_method_6_code 13 = .ok (.iand, 1) := by decide +kernel
theorem d_Mo_threshold_14 : decode prog_9_method_6_code 14 = .ok (.istore 4, 2) := by decide +kernel
theorem d_Mo_threshold_16 : decode prog_9_method_6_code 16 = .ok (.iload_n 1, 1) := by decide +kernel
theorem d_Mo_threshold_17 : decode prog_9_method_6_code 17 = .ok (.iload_n 3, 1) := by decide +kernel
theorem d_Mo_threshold_18 : decode prog_9_method_6_code 18 = .ok (.ishr, 1) := by decide +kernel
theorem d_Mo_threshold_19 : decode prog_9_method_6_code 19 = .ok (.iconst 1, 1) := by decide +kernel
theorem d_Mo_threshold_20 : decode prog_9_method_6_code 20 = .ok (.iand, 1) := by decide +kernel
theorem d_Mo_threshold_21 : decode prog_9_method_6_code 21 = .ok (.istore 5, 2) := by decide +kernel
theorem d_Mo_threshold_23 : decode prog_9_method_6_code 23 = .ok (.iload_n 2, 1) := by decide +kernel
theorem d_Mo_threshold_24 : decode prog_9_method_6_code 24 = .ok (.iload 4, 2) := by decide +kernel
theorem d_Mo_threshold_26 : decode prog_9_method_6_code 26 = .ok (.iload 5, 2) := by decide +kernel
theorem d_Mo_threshold_28 : decode prog_9_method_6_code 28 = .ok (.if_icmp .ne 7, 3) := by decide +kernel
theorem d_Mo_threshold_31 : decode prog_9_method_6_code 31 = .ok (.iconst 0, 1) := by decide +kernel
theorem d_Mo_threshold_32 : decode prog_9_method_6_code 32 = .ok (.goto 9, 3) := by decide +kernel
theorem d_Mo_threshold_35 : decode prog_9_method_6_code 35 = .ok (.bipush 32, 2) := by decide +kernel
theorem d_Mo_threshold_37 : decode prog_9_method_6_code 37 = .ok (.iconst 2, 1) := by decide +kernel
theorem d_Mo_threshold_38 : decode prog_9_method_6_code 38 = .ok (.iload_n 3, 1) := by decide +kernel
theorem d_Mo_threshold_39 : decode prog_9_method_6_code 39 = .ok (.imul, 1) := by decide +kernel
theorem d_Mo_threshold_40 : decode prog_9_method_6_code 40 = .ok (.ishr, 1) := by decide +kernel
theorem d_Mo_threshold_41 : decode prog_9_method_6_code 41 = .ok (.iload 5, 2) := by decide +kernel
theorem d_Mo_threshold_43 : decode prog_9_method_6_code 43 = .ok (.bipush 16, 2) := by decide +kernel
theorem d_Mo_threshold_45 : decode prog_9_method_6_code 45 = .ok (.iconst 2, 1) := by decide +kernel
theorem d_Mo_threshold_46 : decode prog_9_method_6_code 46 = .ok (.iload_n 3, 1) := by decide +kernel
theorem d_Mo_threshold_47 : decode prog_9_method_6_code 47 = .ok (.imul, 1) := by decide +kernel
theorem d_Mo_threshold_48 : decode prog_9_method_6_code 48 = .ok (.ishr, 1) := by decide +kernel
theorem d_Mo_threshold_49 : decode prog_9_method_6_code 49 = .ok (.imul, 1) := by decide +kernel
theorem d_Mo_threshold_50 : decode prog_9_method_6_code 50 = .ok (.iadd, 1) := by decide +kernel
theorem d_Mo_threshold_51 : decode prog_9_method_6_code 51 = .ok (.iadd, 1) := by decide +kernel
theorem d_Mo_threshold_52 : decode prog_9_method_6_code 52 = .ok (.istore_n 2, 1) := by decide +kernel
theorem d_Mo_threshold_53 : decode prog_9_method_6_code 53 = .ok (.iinc 3 1, 3) := by decide +kernel
theorem d_Mo_threshold_56 : decode prog_9_method_6_code 56 = .ok (.goto (-52), 3) := by decide +kernel
theorem d_Mo_threshold_59 : decode prog_9_method_6_code 59 = .ok (.iload_n 2, 1) := by decide +kernel
theorem d_Mo_threshold_60 : decode prog_9_method_6_code 60 = .ok (.ireturn, 1) := by decide +kernel
theorem d_Mo_hatch_0 : decode prog_9_method_7_code 0 = .ok (.iload_n 1, 1) := by decide +kernel
theorem d_Mo_hatch_1 : decode prog_9_method_7_code 1 = .ok (.bipush 16, 2) := by decide +kernel
theorem d_Mo_hatch_3 : decode prog_9_method_7_code 3 = .ok (.irem, 1) := by decide +kernel
theorem d_Mo_hatch_4 : decode prog_9_method_7_code 4 = .ok (.istore_n 3, 1) := by decide +kernel
theorem d_Mo_hatch_5 : decode prog_9_method_7_code 5 = .ok (.iload_n 2, 1) := by decide +kernel
theorem d_Mo_hatch_6 : decode prog_9_method_7_code 6 = .ok (.bipush 16, 2) := by decide +kernel
theorem d_Mo_hatch_8 : decode prog_9_method_7_code 8 = .ok (.irem, 1) := by decide +kernel
theorem d_Mo_hatch_9 : decode prog_9_method_7_code 9 = .ok (.istore 4, 2) := by decide +kernel
theorem d_Mo_hatch_11 : decode prog_9_method_7_code 11 = .ok (.iload 4, 2) := by decide +kernel
theorem d_Mo_hatch_13 : decode prog_9_method_7_code 13 = .ok (.bipush 7, 2) := by decide +kernel
theorem d_Mo_hatch_15 : decode prog_9_method_7_code 15 = .ok (.if_icmp .eq 10, 3) := by decide +kernel
theorem d_Mo_hatch_18 : decode prog_9_method_7_code 18 = .ok (.iload 4, 2) := by decide +kernel
theorem d_Mo_hatch_20 : decode prog_9_method_7_code 20 = .ok (.bipush 8, 2) := by decide +kernel
theorem d_Mo_hatch_22 : decode prog_9_method_7_code 22 = .ok (.if_icmp .ne 7, 3) := by decide +kernel
theorem d_Mo_hatch_25 : decode prog_9_method_7_code 25 = .ok (.iconst 1, 1) := by decide +kernel
theorem d_Mo_hatch_26 : decode prog_9_method_7_code 26 = .ok (.goto 4, 3) := by decide +kernel
theorem d_Mo_hatch_29 : decode prog_9_method_7_code 29 = .ok (.iconst 0, 1) := by decide +kernel
theorem d_Mo_hatch_30 : decode prog_9_method_7_code 30 = .ok (.istore 5, 2) := by decide +kernel
theorem d_Mo_hatch_32 : decode prog_9_method_7_code 32 = .ok (.iload_n 3, 1) := by decide +kernel
theorem d_Mo_hatch_33 : decode prog_9_method_7_code 33 = .ok (.bipush 7, 2) := by decide +kernel
theorem d_Mo_hatch_35 : decode prog_9_method_7_code 35 = .ok (.if_icmp .eq 9, 3) := by decide +kernel
theorem d_Mo_hatch_38 : decode prog_9_method_7_code 38 = .ok (.iload_n 3, 1) := by decide +kernel
theorem d_Mo_hatch_39 : decode prog_9_method_7_code 39 = .ok (.bipush 8, 2) := by decide +kernel
theorem d_Mo_hatch_41 : decode prog_9_method_7_code 41 = .ok (.if_icmp .ne 7, 3) := by decide +kernel
theorem d_Mo_hatch_44 : decode prog_9_method_7_code 44 = .ok (.iconst 1, 1) := by decide +kernel
theorem d_Mo_hatch_45 : decode prog_9_method_7_code 45 = .ok (.goto 4, 3) := by decide +kernel
theorem d_Mo_hatch_48 : decode prog_9_method_7_code 48 = .ok (.iconst 0, 1) := by decide +kernel
theorem d_Mo_hatch_49 : decode prog_9_method_7_code 49 = .ok (.istore 6, 2) := by decide +kernel
theorem d_Mo_hatch_51 : decode prog_9_method_7_code 51 = .ok (.iload_n 3, 1) := by decide +kernel
theorem d_Mo_hatch_52 : decode prog_9_method_7_code 52 = .ok (.iload 4, 2) := by decide +kernel
theorem d_Mo_hatch_54 : decode prog_9_method_7_code 54 = .ok (.iadd, 1) := by decide +kernel
theorem d_Mo_hatch_55 : decode prog_9_method_7_code 55 = .ok (.bipush 16, 2) := by decide +kernel
theorem d_Mo_hatch_57 : decode prog_9_method_7_code 57 = .ok (.irem, 1) := by decide +kernel
theorem d_Mo_hatch_58 : decode prog_9_method_7_code 58 = .ok (.iconst 2, 1) := by decide +kernel
theorem d_Mo_hatch_59 : decode prog_9_method_7_code 59 = .ok (.if_icmp .ge 7, 3) := by decide +kernel
theorem d_Mo_hatch_62 : decode prog_9_method_7_code 62 = .ok (.iconst 1, 1) := by decide +kernel
theorem d_Mo_hatch_63 : decode prog_9_method_7_code 63 = .ok (.goto 4, 3) := by decide +kernel
theorem d_Mo_hatch_66 : decode prog_9_method_7_code 66 = .ok (.iconst 0, 1) := by decide +kernel
theorem d_Mo_hatch_67 : decode prog_9_method_7_code 67 = .ok (.istore 7, 2) := by decide +kernel
theorem d_Mo_hatch_69 : decode prog_9_method_7_code 69 = .ok (.iload_n 3, 1) := by decide +kernel
theorem d_Mo_hatch_70 : decode prog_9_method_7_code 70 = .ok (.iload 4, 2) := by decide +kernel
theorem d_Mo_hatch_72 : decode prog_9_method_7_code 72 = .ok (.isub, 1) := by decide +kernel
theorem d_Mo_hatch_73 : decode prog_9_method_7_code 73 = .ok (.bipush 16, 2) := by decide +kernel
theorem d_Mo_hatch_75 : decode prog_9_method_7_code 75 = .ok (.iadd, 1) := by decide +kernel
theorem d_Mo_hatch_76 : decode prog_9_method_7_code 76 = .ok (.bipush 16, 2) := by decide +kernel
theorem d_Mo_hatch_78 : decode prog_9_method_7_code 78 = .ok (.irem, 1) := by decide +kernel
theorem d_Mo_hatch_79 : decode prog_9_method_7_code 79 = .ok (.iconst 2, 1) := by decide +kernel
theorem d_Mo_hatch_80 : decode prog_9_method_7_code 80 = .ok (.if_icmp .ge 7, 3) := by decide +kernel
theorem d_Mo_hatch_83 : decode prog_9_method_7_code 83 = .ok (.iconst 1, 1) := by decide +kernel
theorem d_Mo_hatch_84 : decode prog_9_method_7_code 84 = .ok (.goto 4, 3) := by decide +kernel
theorem d_Mo_hatch_87 : decode prog_9_method_7_code 87 = .ok (.iconst 0, 1) := by decide +kernel
theorem d_Mo_hatch_88 : decode prog_9_method_7_code 88 = .ok (.istore 8, 2) := by decide +kernel
theorem d_Mo_hatch_90 : decode prog_9_method_7_code 90 = .ok (.iload_n 0, 1) := by decide +kernel
theorem d_Mo_hatch_91 : decode prog_9_method_7_code 91 = .ok (.tableswitch 61 1 5 #[33, 36, 39, 42, 45], 33) := by decide +kernel
theorem d_Mo_hatch_124 : decode prog_9_method_7_code 124 = .ok (.iload 5, 2) := by decide +kernel
theorem d_Mo_hatch_126 : decode prog_9_method_7_code 126 = .ok (.ireturn, 1) := by decide +kernel
theorem d_Mo_hatch_127 : decode prog_9_method_7_code 127 = .ok (.iload 6, 2) := by decide +kernel
theorem d_Mo_hatch_129 : decode prog_9_method_7_code 129 = .ok (.ireturn, 1) := by decide +kernel
theorem d_Mo_hatch_130 : decode prog_9_method_7_code 130 = .ok (.iload 7, 2) := by decide +kernel
theorem d_Mo_hatch_132 : decode prog_9_method_7_code 132 = .ok (.ireturn, 1) := by decide +kernel
theorem d_Mo_hatch_133 : decode prog_9_method_7_code 133 = .ok (.iload 8, 2) := by decide +kernel
theorem d_Mo_hatch_135 : decode prog_9_method_7_code 135 = .ok (.ireturn, 1) := by decide +kernel
theorem d_Mo_hatch_136 : decode prog_9_method_7_code 136 = .ok (.iload 5, 2) := by decide +kernel
theorem d_Mo_hatch_138 : decode prog_9_method_7_code 138 = .ok (.ifCond .ne 8, 3) := by decide +kernel
theorem d_Mo_hatch_141 : decode prog_9_method_7_code 141 = .ok (.iload 6, 2) := by decide +kernel
theorem d_Mo_hatch_143 : decode prog_9_method_7_code 143 = .ok (.ifCond .eq 7, 3) := by decide +kernel
theorem d_Mo_hatch_146 : decode prog_9_method_7_code 146 = .ok (.iconst 1, 1) := by decide +kernel
theorem d_Mo_hatch_147 : decode prog_9_method_7_code 147 = .ok (.goto 4, 3) := by decide +kernel
theorem d_Mo_hatch_150 : decode prog_9_method_7_code 150 = .ok (.iconst 0, 1) := by decide +kernel
theorem d_Mo_hatch_151 : decode prog_9_method_7_code 151 = .ok (.ireturn, 1) := by decide +kernel
theorem d_Mo_hatch_152 : decode prog_9_method_7_code 152 = .ok (.iload 7, 2) := by decide +kernel
theorem d_Mo_hatch_154 : decode prog_9_method_7_code 154 = .ok (.ifCond .ne 8, 3) := by decide +kernel
theorem d_Mo_hatch_157 : decode prog_9_method_7_code 157 = .ok (.iload 8, 2) := by decide +kernel
theorem d_Mo_hatch_159 : decode prog_9_method_7_code 159 = .ok (.ifCond .eq 7, 3) := by decide +kernel
theorem d_Mo_hatch_162 : decode prog_9_method_7_code 162 = .ok (.iconst 1, 1) := by decide +kernel
theorem d_Mo_hatch_163 : decode prog_9_method_7_code 163 = .ok (.goto 4, 3) := by decide +kernel
theorem d_Mo_hatch_166 : decode prog_9_method_7_code 166 = .ok (.iconst 0, 1) := by decide +kernel
theorem d_Mo_hatch_167 : decode prog_9_method_7_code 167 = .ok (.ireturn, 1) := by decide +kernel
theorem d_Mo_isInk_0 : decode prog_9_method_8_code 0 = .ok (.aload_n 0, 1) := by decide +kernel
theorem d_Mo_isInk_1 : decode prog_9_method_8_code 1 = .ok (.getfield 51, 3) := by decide +kernel
theorem d_Mo_isInk_4 : decode prog_9_method_8_code 4 = .ok (.iconst 2, 1) := by decide +kernel
theorem d_Mo_isInk_5 : decode prog_9_method_8_code 5 = .ok (.if_icmp .ge 16, 3) := by decide +kernel
theorem d_Mo_isInk_8 : decode prog_9_method_8_code 8 = .ok (.aload_n 0, 1) := by decide +kernel
theorem d_Mo_isInk_9 : decode prog_9_method_8_code 9 = .ok (.getfield 51, 3) := by decide +kernel
theorem d_Mo_isInk_12 : decode prog_9_method_8_code 12 = .ok (.ifCond .ne 7, 3) := by decide +kernel
theorem d_Mo_isInk_15 : decode prog_9_method_8_code 15 = .ok (.iconst 1, 1) := by decide +kernel
theorem d_Mo_isInk_16 : decode prog_9_method_8_code 16 = .ok (.goto 4, 3) := by decide +kernel
theorem d_Mo_isInk_19 : decode prog_9_method_8_code 19 = .ok (.iconst 0, 1) := by decide +kernel
theorem d_Mo_isInk_20 : decode prog_9_method_8_code 20 = .ok (.ireturn, 1) := by decide +kernel
theorem d_Mo_isInk_21 : decode prog_9_method_8_code 21 = .ok (.aload_n 0, 1) := by decide +kernel
theorem d_Mo_isInk_22 : decode prog_9_method_8_code 22 = .ok (.getfield 51, 3) := by decide +kernel
theorem d_Mo_isInk_25 : decode prog_9_method_8_code 25 = .ok (.iconst 2, 1) := by decide +kernel
theorem d_Mo_isInk_26 : decode prog_9_method_8_code 26 = .ok (.if_icmp .ne 38, 3) := by decide +kernel
theorem d_Mo_isInk_29 : decode prog_9_method_8_code 29 = .ok (.iload_n 1, 1) := by decide +kernel
theorem d_Mo_isInk_30 : decode prog_9_method_8_code 30 = .ok (.bipush 8, 2) := by decide +kernel
theorem d_Mo_isInk_32 : decode prog_9_method_8_code 32 = .ok (.irem, 1) := by decide +kernel
theorem d_Mo_isInk_33 : decode prog_9_method_8_code 33 = .ok (.iload_n 2, 1) := by decide +kernel
theorem d_Mo_isInk_34 : decode prog_9_method_8_code 34 = .ok (.bipush 8, 2) := by decide +kernel
theorem d_Mo_isInk_36 : decode prog_9_method_8_code 36 = .ok (.irem, 1) := by decide +kernel
theorem d_Mo_isInk_37 : decode prog_9_method_8_code 37 = .ok (.invokestatic 54, 3) := by decide +kernel
theorem d_Mo_isInk_40 : decode prog_9_method_8_code 40 = .ok (.bipush 64, 2) := by decide +kernel
theorem d_Mo_isInk_42 : decode prog_9_method_8_code 42 = .ok (.aload_n 0, 1) := by decide +kernel
theorem d_Mo_isInk_43 : decode prog_9_method_8_code 43 = .ok (.getfield 58, 3) := by decide +kernel
theorem d_Mo_isInk_46 : decode prog_9_method_8_code 46 = .ok (.imul, 1) := by decide +kernel
theorem d_Mo_isInk_47 : decode prog_9_method_8_code 47 = .ok (.bipush 99, 2) := by decide +kernel
theorem d_Mo_isInk_49 : decode prog_9_method_8_code 49 = .ok (.iadd, 1) := by decide +kernel
theorem d_Mo_isInk_50 : decode prog_9_method_8_code 50 = .ok (.bipush 100, 2) := by decide +kernel
theorem d_Mo_isInk_52 : decode prog_9_method_8_code 52 = .ok (.idiv, 1) := by decide +kernel
theorem d_Mo_isInk_53 : decode prog_9_method_8_code 53 = .ok (.if_icmp .ge 7, 3) := by decide +kernel
theorem d_Mo_isInk_56 : decode prog_9_method_8_code 56 = .ok (.iconst 1, 1) := by decide +kernel
theorem d_Mo_isInk_57 : decode prog_9_method_8_code 57 = .ok (.goto 16, 3) := by decide +kernel
theorem d_Mo_isInk_60 : decode prog_9_method_8_code 60 = .ok (.iconst 0, 1) := by decide +kernel
theorem d_Mo_isInk_61 : decode prog_9_method_8_code 61 = .ok (.goto 12, 3) := by decide +kernel
theorem d_Mo_isInk_64 : decode prog_9_method_8_code 64 = .ok (.aload_n 0, 1) := by decide +kernel
theorem d_Mo_isInk_65 : decode prog_9_method_8_code 65 = .ok (.getfield 58, 3) := by decide +kernel
theorem d_Mo_isInk_68 : decode prog_9_method_8_code 68 = .ok (.iload_n 1, 1) := by decide +kernel
theorem d_Mo_isInk_69 : decode prog_9_method_8_code 69 = .ok (.iload_n 2, 1) := by decide +kernel
theorem d_Mo_isInk_70 : decode prog_9_method_8_code 70 = .ok (.invokestatic 61, 3) := by decide +kernel
theorem d_Mo_isInk_73 : decode prog_9_method_8_code 73 = .ok (.ireturn, 1) := by decide +kernel
theorem d_Mo_paint_0 : decode prog_9_method_9_code 0 = .ok (.aload_n 0, 1) := by decide +kernel
theorem d_Mo_paint_1 : decode prog_9_method_9_code 1 = .ok (.iload_n 1, 1) := by decide +kernel
theorem d_Mo_paint_2 : decode prog_9_method_9_code 2 = .ok (.iload_n 2, 1) := by decide +kernel
theorem d_Mo_paint_3 : decode prog_9_method_9_code 3 = .ok (.invokevirtual 65, 3) := by decide +kernel
theorem d_Mo_paint_6 : decode prog_9_method_9_code 6 = .ok (.ifCond .eq 35, 3) := by decide +kernel
theorem d_Mo_paint_9 : decode prog_9_method_9_code 9 = .ok (.iload_n 1, 1) := by decide +kernel
theorem d_Mo_paint_10 : decode prog_9_method_9_code 10 = .ok (.aload_n 0, 1) := by decide +kernel
theorem d_Mo_paint_11 : decode prog_9_method_9_code 11 = .ok (.getfield 69, 3) := by decide +kernel
theorem d_Mo_paint_14 : decode prog_9_method_9_code 14 = .ok (.if_icmp .lt 27, 3) := by decide +kernel
theorem d_Mo_paint_17 : decode prog_9_method_9_code 17 = .ok (.iload_n 1, 1) := by decide +kernel
theorem d_Mo_paint_18 : decode prog_9_method_9_code 18 = .ok (.aload_n 0, 1) := by decide +kernel
theorem d_Mo_paint_19 : decode prog_9_method_9_code 19 = .ok (.getfield 40, 3) := by decide +kernel
theorem d_Mo_paint_22 : decode prog_9_method_9_code 22 = .ok (.if_icmp .gt 19, 3) := by decide +kernel
theorem d_Mo_paint_25 : decode prog_9_method_9_code 25 = .ok (.iload_n 2, 1) := by decide +kernel
theorem d_Mo_paint_26 : decode prog_9_method_9_code 26 = .ok (.aload_n 0, 1) := by decide +kernel
theorem d_Mo_paint_27 : decode prog_9_method_9_code 27 = .ok (.getfield 72, 3) := by decide +kernel
theorem d_Mo_paint_30 : decode prog_9_method_9_code 30 = .ok (.if_icmp .lt 11, 3) := by decide +kernel
theorem d_Mo_paint_33 : decode prog_9_method_9_code 33 = .ok (.iload_n 2, 1) := by decide +kernel
theorem d_Mo_paint_34 : decode prog_9_method_9_code 34 = .ok (.aload_n 0, 1) := by decide +kernel
theorem d_Mo_paint_35 : decode prog_9_method_9_code 35 = .ok (.getfield 43, 3) := by decide +kernel
theorem d_Mo_paint_38 : decode prog_9_method_9_code 38 = .ok (.if_icmp .le 4, 3) := by decide +kernel
theorem d_Mo_paint_41 : decode prog_9_method_9_code 41 = .ok (.return_, 1) := by decide +kernel
theorem d_Mo_paint_42 : decode prog_9_method_9_code 42 = .ok (.iload_n 3, 1) := by decide +kernel
theorem d_Mo_paint_43 : decode prog_9_method_9_code 43 = .ok (.ifCond .ne 20, 3) := by decide +kernel
theorem d_Mo_paint_46 : decode prog_9_method_9_code 46 = .ok (.aload_n 0, 1) := by decide +kernel
theorem d_Mo_paint_47 : decode prog_9_method_9_code 47 = .ok (.getfield 75, 3) := by decide +kernel
theorem d_Mo_paint_50 : decode prog_9_method_9_code 50 = .ok (.ifCond .eq 46, 3) := by decide +kernel
theorem d_Mo_paint_53 : decode prog_9_method_9_code 53 = .ok (.aload_n 0, 1) := by decide +kernel
theorem d_Mo_paint_54 : decode prog_9_method_9_code 54 = .ok (.iload_n 1, 1) := by decide +kernel
theorem d_Mo_paint_55 : decode prog_9_method_9_code 55 = .ok (.iload_n 2, 1) := by decide +kernel
theorem d_Mo_paint_56 : decode prog_9_method_9_code 56 = .ok (.iconst 0, 1) := by decide +kernel
theorem d_Mo_paint_57 : decode prog_9_method_9_code 57 = .ok (.invokevirtual 79, 3) := by decide +kernel
theorem d_Mo_paint_60 : decode prog_9_method_9_code 60 = .ok (.goto 36, 3) := by decide +kernel
theorem d_Mo_paint_63 : decode prog_9_method_9_code 63 = .ok (.aload_n 0, 1) := by decide +kernel
theorem d_Mo_paint_64 : decode prog_9_method_9_code 64 = .ok (.iload_n 1, 1) := by decide +kernel
theorem d_Mo_paint_65 : decode prog_9_method_9_code 65 = .ok (.iload_n 2, 1) := by decide +kernel
theorem d_Mo_paint_66 : decode prog_9_method_9_code 66 = .ok (.invokevirtual 83, 3) := by decide +kernel
theorem d_Mo_paint_69 : decode prog_9_method_9_code 69 = .ok (.ifCond .eq 13, 3) := by decide +kernel
theorem d_Mo_paint_72 : decode prog_9_method_9_code 72 = .ok (.aload_n 0, 1) := by decide +kernel
theorem d_Mo_paint_73 : decode prog_9_method_9_code 73 = .ok (.iload_n 1, 1) := by decide +kernel
theorem d_Mo_paint_74 : decode prog_9_method_9_code 74 = .ok (.iload_n 2, 1) := by decide +kernel
theorem d_Mo_paint_75 : decode prog_9_method_9_code 75 = .ok (.iconst 1, 1) := by decide +kernel
theorem d_Mo_paint_76 : decode prog_9_method_9_code 76 = .ok (.invokevirtual 79, 3) := by decide +kernel
theorem d_Mo_paint_79 : decode prog_9_method_9_code 79 = .ok (.goto 17, 3) := by decide +kernel
theorem d_Mo_paint_82 : decode prog_9_method_9_code 82 = .ok (.aload_n 0, 1) := by decide +kernel
theorem d_Mo_paint_83 : decode prog_9_method_9_code 83 = .ok (.getfield 86, 3) := by decide +kernel
theorem d_Mo_paint_86 : decode prog_9_method_9_code 86 = .ok (.ifCond .eq 10, 3) := by decide +kernel
theorem d_Mo_paint_89 : decode prog_9_method_9_code 89 = .ok (.aload_n 0, 1) := by decide +kernel
theorem d_Mo_paint_90 : decode prog_9_method_9_code 90 = .ok (.iload_n 1, 1) := by decide +kernel
theorem d_Mo_paint_91 : decode prog_9_method_9_code 91 = .ok (.iload_n 2, 1) := by decide +kernel
theorem d_Mo_paint_92 : decode prog_9_method_9_code 92 = .ok (.iconst 0, 1) := by decide +kernel
theorem d_Mo_paint_93 : decode prog_9_method_9_code 93 = .ok (.invokevirtual 79, 3) := by decide +kernel
theorem d_Mo_paint_96 : decode prog_9_method_9_code 96 = .ok (.return_, 1) := by decide +kernel
theorem d_Mo_lay_0 : decode prog_9_method_10_code 0 = .ok (.aload_n 0, 1) := by decide +kernel
theorem d_Mo_lay_1 : decode prog_9_method_10_code 1 = .ok (.getfield 89, 3) := by decide +kernel
theorem d_Mo_lay_4 : decode prog_9_method_10_code 4 = .ok (.ifCond .ne 9, 3) := by decide +kernel
theorem d_Mo_lay_7 : decode prog_9_method_10_code 7 = .ok (.iload_n 1, 1) := by decide +kernel
theorem d_Mo_lay_8 : decode prog_9_method_10_code 8 = .ok (.iload_n 3, 1) := by decide +kernel
theorem d_Mo_lay_9 : decode prog_9_method_10_code 9 = .ok (.iadd, 1) := by decide +kernel
theorem d_Mo_lay_10 : decode prog_9_method_10_code 10 = .ok (.goto 36, 3) := by decide +kernel
theorem d_Mo_lay_13 : decode prog_9_method_10_code 13 = .ok (.aload_n 0, 1) := by decide +kernel
theorem d_Mo_lay_14 : decode prog_9_method_10_code 14 = .ok (.getfield 89, 3) := by decide +kernel
theorem d_Mo_lay_17 : decode prog_9_method_10_code 17 = .ok (.iconst 1, 1) := by decide +kernel
theorem d_Mo_lay_18 : decode prog_9_method_10_code 18 = .ok (.if_icmp .ne 10, 3) := by decide +kernel
theorem d_Mo_lay_21 : decode prog_9_method_10_code 21 = .ok (.iload_n 1, 1) := by decide +kernel
theorem d_Mo_lay_22 : decode prog_9_method_10_code 22 = .ok (.iload 4, 2) := by decide +kernel
theorem d_Mo_lay_24 : decode prog_9_method_10_code 24 = .ok (.iadd, 1) := by decide +kernel
theorem d_Mo_lay_25 : decode prog_9_method_10_code 25 = .ok (.goto 21, 3) := by decide +kernel
theorem d_Mo_lay_28 : decode prog_9_method_10_code 28 = .ok (.aload_n 0, 1) := by decide +kernel
theorem d_Mo_lay_29 : decode prog_9_method_10_code 29 = .ok (.getfield 89, 3) := by decide +kernel
theorem d_Mo_lay_32 : decode prog_9_method_10_code 32 = .ok (.iconst 2, 1) := by decide +kernel
theorem d_Mo_lay_33 : decode prog_9_method_10_code 33 = .ok (.if_icmp .ne 9, 3) := by decide +kernel
theorem d_Mo_lay_36 : decode prog_9_method_10_code 36 = .ok (.iload_n 1, 1) := by decide +kernel
theorem d_Mo_lay_37 : decode prog_9_method_10_code 37 = .ok (.iload_n 3, 1) := by decide +kernel
theorem d_Mo_lay_38 : decode prog_9_method_10_code 38 = .ok (.isub, 1) := by decide +kernel
theorem d_Mo_lay_39 : decode prog_9_method_10_code 39 = .ok (.goto 7, 3) := by decide +kernel
theorem d_Mo_lay_42 : decode prog_9_method_10_code 42 = .ok (.iload_n 1, 1) := by decide +kernel
theorem d_Mo_lay_43 : decode prog_9_method_10_code 43 = .ok (.iload 4, 2) := by decide +kernel
theorem d_Mo_lay_45 : decode prog_9_method_10_code 45 = .ok (.isub, 1) := by decide +kernel
theorem d_Mo_lay_46 : decode prog_9_method_10_code 46 = .ok (.istore 6, 2) := by decide +kernel
theorem d_Mo_lay_48 : decode prog_9_method_10_code 48 = .ok (.aload_n 0, 1) := by decide +kernel
theorem d_Mo_lay_49 : decode prog_9_method_10_code 49 = .ok (.getfield 89, 3) := by decide +kernel
theorem d_Mo_lay_52 : decode prog_9_method_10_code 52 = .ok (.ifCond .ne 10, 3) := by decide +kernel
theorem d_Mo_lay_55 : decode prog_9_method_10_code 55 = .ok (.iload_n 2, 1) := by decide +kernel
theorem d_Mo_lay_56 : decode prog_9_method_10_code 56 = .ok (.iload 4, 2) := by decide +kernel
theorem d_Mo_lay_58 : decode prog_9_method_10_code 58 = .ok (.iadd, 1) := by decide +kernel
theorem d_Mo_lay_59 : decode prog_9_method_10_code 59 = .ok (.goto 35, 3) := by decide +kernel
theorem d_Mo_lay_62 : decode prog_9_method_10_code 62 = .ok (.aload_n 0, 1) := by decide +kernel
theorem d_Mo_lay_63 : decode prog_9_method_10_code 63 = .ok (.getfield 89, 3) := by decide +kernel
theorem d_Mo_lay_66 : decode prog_9_method_10_code 66 = .ok (.iconst 1, 1) := by decide +kernel
theorem d_Mo_lay_67 : decode prog_9_method_10_code 67 = .ok (.if_icmp .ne 9, 3) := by decide +kernel
theorem d_Mo_lay_70 : decode prog_9_method_10_code 70 = .ok (.iload_n 2, 1) := by decide +kernel
theorem d_Mo_lay_71 : decode prog_9_method_10_code 71 = .ok (.iload_n 3, 1) := by decide +kernel
theorem d_Mo_lay_72 : decode prog_9_method_10_code 72 = .ok (.isub, 1) := by decide +kernel
theorem d_Mo_lay_73 : decode prog_9_method_10_code 73 = .ok (.goto 21, 3) := by decide +kernel
theorem d_Mo_lay_76 : decode prog_9_method_10_code 76 = .ok (.aload_n 0, 1) := by decide +kernel
theorem d_Mo_lay_77 : decode prog_9_method_10_code 77 = .ok (.getfield 89, 3) := by decide +kernel
theorem d_Mo_lay_80 : decode prog_9_method_10_code 80 = .ok (.iconst 2, 1) := by decide +kernel
theorem d_Mo_lay_81 : decode prog_9_method_10_code 81 = .ok (.if_icmp .ne 10, 3) := by decide +kernel
theorem d_Mo_lay_84 : decode prog_9_method_10_code 84 = .ok (.iload_n 2, 1) := by decide +kernel
theorem d_Mo_lay_85 : decode prog_9_method_10_code 85 = .ok (.iload 4, 2) := by decide +kernel
theorem d_Mo_lay_87 : decode prog_9_method_10_code 87 = .ok (.isub, 1) := by decide +kernel
theorem d_Mo_lay_88 : decode prog_9_method_10_code 88 = .ok (.goto 6, 3) := by decide +kernel
theorem d_Mo_lay_91 : decode prog_9_method_10_code 91 = .ok (.iload_n 2, 1) := by decide +kernel
theorem d_Mo_lay_92 : decode prog_9_method_10_code 92 = .ok (.iload_n 3, 1) := by decide +kernel
theorem d_Mo_lay_93 : decode prog_9_method_10_code 93 = .ok (.iadd, 1) := by decide +kernel
theorem d_Mo_lay_94 : decode prog_9_method_10_code 94 = .ok (.istore 7, 2) := by decide +kernel
theorem d_Mo_lay_96 : decode prog_9_method_10_code 96 = .ok (.aload_n 0, 1) := by decide +kernel
theorem d_Mo_lay_97 : decode prog_9_method_10_code 97 = .ok (.iload 6, 2) := by decide +kernel
theorem d_Mo_lay_99 : decode prog_9_method_10_code 99 = .ok (.iload 7, 2) := by decide +kernel
theorem d_Mo_lay_101 : decode prog_9_method_10_code 101 = .ok (.iload 5, 2) := by decide +kernel
theorem d_Mo_lay_103 : decode prog_9_method_10_code 103 = .ok (.invokevirtual 92, 3) := by decide +kernel
theorem d_Mo_lay_106 : decode prog_9_method_10_code 106 = .ok (.return_, 1) := by decide +kernel
theorem d_Mo_shape_0 : decode prog_9_method_11_code 0 = .ok (.aload_n 0, 1) := by decide +kernel
theorem d_Mo_shape_1 : decode prog_9_method_11_code 1 = .ok (.iload_n 1, 1) := by decide +kernel
theorem d_Mo_shape_2 : decode prog_9_method_11_code 2 = .ok (.iconst 1, 1) := by decide +kernel
theorem d_Mo_shape_3 : decode prog_9_method_11_code 3 = .ok (.if_icmp .lt 22, 3) := by decide +kernel
theorem d_Mo_shape_6 : decode prog_9_method_11_code 6 = .ok (.iload_n 1, 1) := by decide +kernel
theorem d_Mo_shape_7 : decode prog_9_method_11_code 7 = .ok (.sipush 128, 3) := by decide +kernel
theorem d_Mo_shape_10 : decode prog_9_method_11_code 10 = .ok (.if_icmp .gt 15, 3) := by decide +kernel
theorem d_Mo_shape_13 : decode prog_9_method_11_code 13 = .ok (.iload_n 2, 1) := by decide +kernel
theorem d_Mo_shape_14 : decode prog_9_method_11_code 14 = .ok (.iconst 1, 1) := by decide +kernel
theorem d_Mo_shape_15 : decode prog_9_method_11_code 15 = .ok (.if_icmp .lt 10, 3) := by decide +kernel
theorem d_Mo_shape_18 : decode prog_9_method_11_code 18 = .ok (.iload_n 2, 1) := by decide +kernel
theorem d_Mo_shape_19 : decode prog_9_method_11_code 19 = .ok (.sipush 128, 3) := by decide +kernel
theorem d_Mo_shape_22 : decode prog_9_method_11_code 22 = .ok (.if_icmp .le 7, 3) := by decide +kernel
theorem d_Mo_shape_25 : decode prog_9_method_11_code 25 = .ok (.iconst 1, 1) := by decide +kernel
theorem d_Mo_shape_26 : decode prog_9_method_11_code 26 = .ok (.goto 29, 3) := by decide +kernel
theorem d_Mo_shape_29 : decode prog_9_method_11_code 29 = .ok (.aload_n 0, 1) := by decide +kernel
theorem d_Mo_shape_30 : decode prog_9_method_11_code 30 = .ok (.getfield 95, 3) := by decide +kernel
theorem d_Mo_shape_33 : decode prog_9_method_11_code 33 = .ok (.bipush 64, 2) := by decide +kernel
theorem d_Mo_shape_35 : decode prog_9_method_11_code 35 = .ok (.if_icmp .eq 15, 3) := by decide +kernel
theorem d_Mo_shape_38 : decode prog_9_method_11_code 38 = .ok (.aload_n 0, 1) := by decide +kernel
theorem d_Mo_shape_39 : decode prog_9_method_11_code 39 = .ok (.getfield 98, 3) := by decide +kernel
theorem d_Mo_shape_42 : decode prog_9_method_11_code 42 = .ok (.iload_n 2, 1) := by decide +kernel
theorem d_Mo_shape_43 : decode prog_9_method_11_code 43 = .ok (.iadd, 1) := by decide +kernel
theorem d_Mo_shape_44 : decode prog_9_method_11_code 44 = .ok (.sipush 4096, 3) := by decide +kernel
theorem d_Mo_shape_47 : decode prog_9_method_11_code 47 = .ok (.if_icmp .le 7, 3) := by decide +kernel
theorem d_Mo_shape_50 : decode prog_9_method_11_code 50 = .ok (.iconst 2, 1) := by decide +kernel
theorem d_Mo_shape_51 : decode prog_9_method_11_code 51 = .ok (.goto 4, 3) := by decide +kernel
theorem d_Mo_shape_54 : decode prog_9_method_11_code 54 = .ok (.iconst 0, 1) := by decide +kernel
theorem d_Mo_shape_55 : decode prog_9_method_11_code 55 = .ok (.putfield 46, 3) := by decide +kernel
theorem d_Mo_shape_58 : decode prog_9_method_11_code 58 = .ok (.aload_n 0, 1) := by decide +kernel
theorem d_Mo_shape_59 : decode prog_9_method_11_code 59 = .ok (.getfield 46, 3) := by decide +kernel
theorem d_Mo_shape_62 : decode prog_9_method_11_code 62 = .ok (.ifCond .le 5, 3) := by decide +kernel
theorem d_Mo_shape_65 : decode prog_9_method_11_code 65 = .ok (.iconst 0, 1) := by decide +kernel
theorem d_Mo_shape_66 : decode prog_9_method_11_code 66 = .ok (.ireturn, 1) := by decide +kernel
theorem d_Mo_shape_67 : decode prog_9_method_11_code 67 = .ok (.aload_n 0, 1) := by decide +kernel
theorem d_Mo_shape_68 : decode prog_9_method_11_code 68 = .ok (.getfield 7, 3) := by decide +kernel
theorem d_Mo_shape_71 : decode prog_9_method_11_code 71 = .ok (.aload_n 0, 1) := by decide +kernel
theorem d_Mo_shape_72 : decode prog_9_method_11_code 72 = .ok (.getfield 95, 3) := by decide +kernel
theorem d_Mo_shape_75 : decode prog_9_method_11_code 75 = .ok (.iload_n 1, 1) := by decide +kernel
theorem d_Mo_shape_76 : decode prog_9_method_11_code 76 = .ok (.iastore, 1) := by decide +kernel
theorem d_Mo_shape_77 : decode prog_9_method_11_code 77 = .ok (.aload_n 0, 1) := by decide +kernel
theorem d_Mo_shape_78 : decode prog_9_method_11_code 78 = .ok (.getfield 13, 3) := by decide +kernel
theorem d_Mo_shape_81 : decode prog_9_method_11_code 81 = .ok (.aload_n 0, 1) := by decide +kernel
theorem d_Mo_shape_82 : decode prog_9_method_11_code 82 = .ok (.getfield 95, 3) := by decide +kernel
theorem d_Mo_shape_85 : decode prog_9_method_11_code 85 = .ok (.iload_n 2, 1) := by decide +kernel
theorem d_Mo_shape_86 : decode prog_9_method_11_code 86 = .ok (.iastore, 1) := by decide +kernel
theorem d_Mo_shape_87 : decode prog_9_method_11_code 87 = .ok (.aload_n 0, 1) := by decide +kernel
theorem d_Mo_shape_88 : decode prog_9_method_11_code 88 = .ok (.getfield 16, 3) := by decide +kernel
theorem d_Mo_shape_91 : decode prog_9_method_11_code 91 = .ok (.aload_n 0, 1) := by decide +kernel
theorem d_Mo_shape_92 : decode prog_9_method_11_code 92 = .ok (.getfield 95, 3) := by decide +kernel
theorem d_Mo_shape_95 : decode prog_9_method_11_code 95 = .ok (.aload_n 0, 1) := by decide +kernel
theorem d_Mo_shape_96 : decode prog_9_method_11_code 96 = .ok (.getfield 98, 3) := by decide +kernel
theorem d_Mo_shape_99 : decode prog_9_method_11_code 99 = .ok (.iastore, 1) := by decide +kernel
theorem d_Mo_shape_100 : decode prog_9_method_11_code 100 = .ok (.aload_n 0, 1) := by decide +kernel
theorem d_Mo_shape_101 : decode prog_9_method_11_code 101 = .ok (.getfield 19, 3) := by decide +kernel
theorem d_Mo_shape_104 : decode prog_9_method_11_code 104 = .ok (.aload_n 0, 1) := by decide +kernel
theorem d_Mo_shape_105 : decode prog_9_method_11_code 105 = .ok (.getfield 95, 3) := by decide +kernel
theorem d_Mo_shape_108 : decode prog_9_method_11_code 108 = .ok (.iconst 0, 1) := by decide +kernel
theorem d_Mo_shape_109 : decode prog_9_method_11_code 109 = .ok (.bastore, 1) := by decide +kernel
theorem d_Mo_shape_110 : decode prog_9_method_11_code 110 = .ok (.iconst 2, 1) := by decide +kernel
theorem d_Mo_shape_111 : decode prog_9_method_11_code 111 = .ok (.aload_n 0, 1) := by decide +kernel
theorem d_Mo_shape_112 : decode prog_9_method_11_code 112 = .ok (.getfield 98, 3) := by decide +kernel
theorem d_Mo_shape_115 : decode prog_9_method_11_code 115 = .ok (.imul, 1) := by decide +kernel
theorem d_Mo_shape_116 : decode prog_9_method_11_code 116 = .ok (.istore_n 3, 1) := by decide +kernel
theorem d_Mo_shape_117 : decode prog_9_method_11_code 117 = .ok (.iload_n 3, 1) := by decide +kernel
theorem d_Mo_shape_118 : decode prog_9_method_11_code 118 = .ok (.iconst 2, 1) := by decide +kernel
theorem d_Mo_shape_119 : decode prog_9_method_11_code 119 = .ok (.aload_n 0, 1) := by decide +kernel
theorem d_Mo_shape_120 : decode prog_9_method_11_code 120 = .ok (.getfield 98, 3) := by decide +kernel
theorem d_Mo_shape_123 : decode prog_9_method_11_code 123 = .ok (.iload_n 2, 1) := by decide +kernel
theorem d_Mo_shape_124 : decode prog_9_method_11_code 124 = .ok (.iadd, 1) := by decide +kernel
theorem d_Mo_shape_125 : decode prog_9_method_11_code 125 = .ok (.imul, 1) := by decide +kernel
theorem d_Mo_shape_126 : decode prog_9_method_11_code 126 = .ok (.if_icmp .ge 16, 3) := by decide +kernel
theorem d_Mo_shape_129 : decode prog_9_method_11_code 129 = .ok (.aload_n 0, 1) := by decide +kernel
theorem d_Mo_shape_130 : decode prog_9_method_11_code 130 = .ok (.getfield 23, 3) := by decide +kernel
theorem d_Mo_shape_133 : decode prog_9_method_11_code 133 = .ok (.iload_n 3, 1) := by decide +kernel
theorem d_Mo_shape_134 : decode prog_9_method_11_code 134 = .ok (.lconst 0, 1) := by decide +kernel
theorem d_Mo_shape_135 : decode prog_9_method_11_code 135 = .ok (.lastore, 1) := by decide +kernel
theorem d_Mo_shape_136 : decode prog_9_method_11_code 136 = .ok (.iinc 3 1, 3) := by decide +kernel
theorem d_Mo_shape_139 : decode prog_9_method_11_code 139 = .ok (.goto (-22), 3) := by decide +kernel
theorem d_Mo_shape_142 : decode prog_9_method_11_code 142 = .ok (.aload_n 0, 1) := by decide +kernel
theorem d_Mo_shape_143 : decode prog_9_method_11_code 143 = .ok (.dup, 1) := by decide +kernel
theorem d_Mo_shape_144 : decode prog_9_method_11_code 144 = .ok (.getfield 98, 3) := by decide +kernel
theorem d_Mo_shape_147 : decode prog_9_method_11_code 147 = .ok (.iload_n 2, 1) := by decide +kernel
theorem d_Mo_shape_148 : decode prog_9_method_11_code 148 = .ok (.iadd, 1) := by decide +kernel
theorem d_Mo_shape_149 : decode prog_9_method_11_code 149 = .ok (.putfield 98, 3) := by decide +kernel
theorem d_Mo_shape_152 : decode prog_9_method_11_code 152 = .ok (.aload_n 0, 1) := by decide +kernel
theorem d_Mo_shape_153 : decode prog_9_method_11_code 153 = .ok (.dup, 1) := by decide +kernel
theorem d_Mo_shape_154 : decode prog_9_method_11_code 154 = .ok (.getfield 95, 3) := by decide +kernel
theorem d_Mo_shape_157 : decode prog_9_method_11_code 157 = .ok (.iconst 1, 1) := by decide +kernel
theorem d_Mo_shape_158 : decode prog_9_method_11_code 158 = .ok (.iadd, 1) := by decide +kernel
theorem d_Mo_shape_159 : decode prog_9_method_11_code 159 = .ok (.putfield 95, 3) := by decide +kernel
theorem d_Mo_shape_162 : decode prog_9_method_11_code 162 = .ok (.aload_n 0, 1) := by decide +kernel
theorem d_Mo_shape_163 : decode prog_9_method_11_code 163 = .ok (.getfield 95, 3) := by decide +kernel
theorem d_Mo_shape_166 : decode prog_9_method_11_code 166 = .ok (.iconst 1, 1) := by decide +kernel
theorem d_Mo_shape_167 : decode prog_9_method_11_code 167 = .ok (.isub, 1) := by decide +kernel
theorem d_Mo_shape_168 : decode prog_9_method_11_code 168 = .ok (.ireturn, 1) := by decide +kernel
theorem d_Mo_isShape_0 : decode prog_9_method_12_code 0 = .ok (.iload_n 1, 1) := by decide +kernel
theorem d_Mo_isShape_1 : decode prog_9_method_12_code 1 = .ok (.ifCond .lt 15, 3) := by decide +kernel
theorem d_Mo_isShape_4 : decode prog_9_method_12_code 4 = .ok (.iload_n 1, 1) := by decide +kernel
theorem d_Mo_isShape_5 : decode prog_9_method_12_code 5 = .ok (.aload_n 0, 1) := by decide +kernel
theorem d_Mo_isShape_6 : decode prog_9_method_12_code 6 = .ok (.getfield 95, 3) := by decide +kernel
theorem d_Mo_isShape_9 : decode prog_9_method_12_code 9 = .ok (.if_icmp .ge 7, 3) := by decide +kernel
theorem d_Mo_isShape_12 : decode prog_9_method_12_code 12 = .ok (.iconst 1, 1) := by decide +kernel
theorem d_Mo_isShape_13 : decode prog_9_method_12_code 13 = .ok (.goto 4, 3) := by decide +kernel
theorem d_Mo_isShape_16 : decode prog_9_method_12_code 16 = .ok (.iconst 0, 1) := by decide +kernel
theorem d_Mo_isShape_17 : decode prog_9_method_12_code 17 = .ok (.ireturn, 1) := by decide +kernel
theorem d_Mo_highest_0 : decode prog_9_method_13_code 0 = .ok (.iload_n 2, 1) := by decide +kernel
theorem d_Mo_highest_1 : decode prog_9_method_13_code 1 = .ok (.bipush 64, 2) := by decide +kernel
theorem d_Mo_highest_3 : decode prog_9_method_13_code 3 = .ok (.if_icmp .lt 7, 3) := by decide +kernel
theorem d_Mo_highest_6 : decode prog_9_method_13_code 6 = .ok (.lload_n 0, 1) := by decide +kernel
theorem d_Mo_highest_7 : decode prog_9_method_13_code 7 = .ok (.goto 21, 3) := by decide +kernel
theorem d_Mo_highest_10 : decode prog_9_method_13_code 10 = .ok (.iload_n 2, 1) := by decide +kernel
theorem d_Mo_highest_11 : decode prog_9_method_13_code 11 = .ok (.ifCond .gt 7, 3) := by decide +kernel
theorem d_Mo_highest_14 : decode prog_9_method_13_code 14 = .ok (.lconst 0, 1) := by decide +kernel
theorem d_Mo_highest_15 : decode prog_9_method_13_code 15 = .ok (.goto 13, 3) := by decide +kernel
theorem d_Mo_highest_18 : decode prog_9_method_13_code 18 = .ok (.lload_n 0, 1) := by decide +kernel
theorem d_Mo_highest_19 : decode prog_9_method_13_code 19 = .ok (.ldc2_w 49, 3) := by decide +kernel
theorem d_Mo_highest_22 : decode prog_9_method_13_code 22 = .ok (.bipush 64, 2) := by decide +kernel
theorem d_Mo_highest_24 : decode prog_9_method_13_code 24 = .ok (.iload_n 2, 1) := by decide +kernel
theorem d_Mo_highest_25 : decode prog_9_method_13_code 25 = .ok (.isub, 1) := by decide +kernel
theorem d_Mo_highest_26 : decode prog_9_method_13_code 26 = .ok (.lshl, 1) := by decide +kernel
theorem d_Mo_highest_27 : decode prog_9_method_13_code 27 = .ok (.land, 1) := by decide +kernel
theorem d_Mo_highest_28 : decode prog_9_method_13_code 28 = .ok (.lreturn, 1) := by decide +kernel
theorem d_Mo_draw_0 : decode prog_9_method_14_code 0 = .ok (.aload_n 0, 1) := by decide +kernel
theorem d_Mo_draw_1 : decode prog_9_method_14_code 1 = .ok (.iconst 0, 1) := by decide +kernel
theorem d_Mo_draw_2 : decode prog_9_method_14_code 2 = .ok (.putfield 46, 3) := by decide +kernel
theorem d_Mo_draw_5 : decode prog_9_method_14_code 5 = .ok (.aload_n 0, 1) := by decide +kernel
theorem d_Mo_draw_6 : decode prog_9_method_14_code 6 = .ok (.iload_n 1, 1) := by decide +kernel
theorem d_Mo_draw_7 : decode prog_9_method_14_code 7 = .ok (.invokevirtual 101, 3) := by decide +kernel
theorem d_Mo_draw_10 : decode prog_9_method_14_code 10 = .ok (.ifCond .eq 50, 3) := by decide +kernel
theorem d_Mo_draw_13 : decode prog_9_method_14_code 13 = .ok (.iload_n 2, 1) := by decide +kernel
theorem d_Mo_draw_14 : decode prog_9_method_14_code 14 = .ok (.ifCond .lt 46, 3) := by decide +kernel
theorem d_Mo_draw_17 : decode prog_9_method_14_code 17 = .ok (.iload_n 2, 1) := by decide +kernel
theorem d_Mo_draw_18 : decode prog_9_method_14_code 18 = .ok (.aload_n 0, 1) := by decide +kernel
theorem d_Mo_draw_19 : decode prog_9_method_14_code 19 = .ok (.getfield 13, 3) := by decide +kernel
theorem d_Mo_draw_22 : decode prog_9_method_14_code 22 = .ok (.aload_n 0, 1) := by decide +kernel
theorem d_Mo_draw_23 : decode prog_9_method_14_code 23 = .ok (.iload_n 1, 1) := by decide +kernel
theorem d_Mo_draw_24 : decode prog_9_method_14_code 24 = .ok (.invokevirtual 101, 3) := by decide +kernel
theorem d_Mo_draw_27 : decode prog_9_method_14_code 27 = .ok (.ifCond .eq 7, 3) := by decide +kernel
theorem d_Mo_draw_30 : decode prog_9_method_14_code 30 = .ok (.iload_n 1, 1) := by decide +kernel
theorem d_Mo_draw_31 : decode prog_9_method_14_code 31 = .ok (.goto 4, 3) := by decide +kernel
theorem d_Mo_draw_34 : decode prog_9_method_14_code 34 = .ok (.iconst 0, 1) := by decide +kernel
theorem d_Mo_draw_35 : decode prog_9_method_14_code 35 = .ok (.iaload, 1) := by decide +kernel
theorem d_Mo_draw_36 : decode prog_9_method_14_code 36 = .ok (.if_icmp .ge 24, 3) := by decide +kernel
theorem d_Mo_draw_39 : decode prog_9_method_14_code 39 = .ok (.aload_n 0, 1) := by decide +kernel
theorem d_Mo_draw_40 : decode prog_9_method_14_code 40 = .ok (.getfield 19, 3) := by decide +kernel
theorem d_Mo_draw_43 : decode prog_9_method_14_code 43 = .ok (.aload_n 0, 1) := by decide +kernel
theorem d_Mo_draw_44 : decode prog_9_method_14_code 44 = .ok (.iload_n 1, 1) := by decide +kernel
theorem d_Mo_draw_45 : decode prog_9_method_14_code 45 = .ok (.invokevirtual 101, 3) := by decide +kernel
theorem d_Mo_draw_48 : decode prog_9_method_14_code 48 = .ok (.ifCond .eq 7, 3) := by decide +kernel
theorem d_Mo_draw_51 : decode prog_9_method_14_code 51 = .ok (.iload_n 1, 1) := by decide +kernel
theorem d_Mo_draw_52 : decode prog_9_method_14_code 52 = .ok (.goto 4, 3) := by decide +kernel
theorem d_Mo_draw_55 : decode prog_9_method_14_code 55 = .ok (.iconst 0, 1) := by decide +kernel
theorem d_Mo_draw_56 : decode prog_9_method_14_code 56 = .ok (.baload, 1) := by decide +kernel
theorem d_Mo_draw_57 : decode prog_9_method_14_code 57 = .ok (.ifCond .eq 5, 3) := by decide +kernel
theorem d_Mo_draw_60 : decode prog_9_method_14_code 60 = .ok (.iconst 0, 1) := by decide +kernel
theorem d_Mo_draw_61 : decode prog_9_method_14_code 61 = .ok (.ireturn, 1) := by decide +kernel
theorem d_Mo_draw_62 : decode prog_9_method_14_code 62 = .ok (.iconst 2, 1) := by decide +kernel
theorem d_Mo_draw_63 : decode prog_9_method_14_code 63 = .ok (.aload_n 0, 1) := by decide +kernel
theorem d_Mo_draw_64 : decode prog_9_method_14_code 64 = .ok (.getfield 16, 3) := by decide +kernel
theorem d_Mo_draw_67 : decode prog_9_method_14_code 67 = .ok (.iload_n 1, 1) := by decide +kernel
theorem d_Mo_draw_68 : decode prog_9_method_14_code 68 = .ok (.iaload, 1) := by decide +kernel
theorem d_Mo_draw_69 : decode prog_9_method_14_code 69 = .ok (.iload_n 2, 1) := by decide +kernel
theorem d_Mo_draw_70 : decode prog_9_method_14_code 70 = .ok (.iadd, 1) := by decide +kernel
theorem d_Mo_draw_71 : decode prog_9_method_14_code 71 = .ok (.imul, 1) := by decide +kernel
theorem d_Mo_draw_72 : decode prog_9_method_14_code 72 = .ok (.istore 7, 2) := by decide +kernel
theorem d_Mo_draw_74 : decode prog_9_method_14_code 74 = .ok (.aload_n 0, 1) := by decide +kernel
theorem d_Mo_draw_75 : decode prog_9_method_14_code 75 = .ok (.getfield 23, 3) := by decide +kernel
theorem d_Mo_draw_78 : decode prog_9_method_14_code 78 = .ok (.iload 7, 2) := by decide +kernel
theorem d_Mo_draw_80 : decode prog_9_method_14_code 80 = .ok (.lload_n 3, 1) := by decide +kernel
theorem d_Mo_draw_81 : decode prog_9_method_14_code 81 = .ok (.aload_n 0, 1) := by decide +kernel
theorem d_Mo_draw_82 : decode prog_9_method_14_code 82 = .ok (.getfield 7, 3) := by decide +kernel
theorem d_Mo_draw_85 : decode prog_9_method_14_code 85 = .ok (.iload_n 1, 1) := by decide +kernel
theorem d_Mo_draw_86 : decode prog_9_method_14_code 86 = .ok (.iaload, 1) := by decide +kernel
theorem d_Mo_draw_87 : decode prog_9_method_14_code 87 = .ok (.invokestatic 105, 3) := by decide +kernel
theorem d_Mo_draw_90 : decode prog_9_method_14_code 90 = .ok (.lastore, 1) := by decide +kernel
theorem d_Mo_draw_91 : decode prog_9_method_14_code 91 = .ok (.aload_n 0, 1) := by decide +kernel
theorem d_Mo_draw_92 : decode prog_9_method_14_code 92 = .ok (.getfield 23, 3) := by decide +kernel
theorem d_Mo_draw_95 : decode prog_9_method_14_code 95 = .ok (.iload 7, 2) := by decide +kernel
theorem d_Mo_draw_97 : decode prog_9_method_14_code 97 = .ok (.iconst 1, 1) := by decide +kernel
theorem d_Mo_draw_98 : decode prog_9_method_14_code 98 = .ok (.iadd, 1) := by decide +kernel
theorem d_Mo_draw_99 : decode prog_9_method_14_code 99 = .ok (.lload 5, 2) := by decide +kernel
theorem d_Mo_draw_101 : decode prog_9_method_14_code 101 = .ok (.aload_n 0, 1) := by decide +kernel
theorem d_Mo_draw_102 : decode prog_9_method_14_code 102 = .ok (.getfield 7, 3) := by decide +kernel
theorem d_Mo_draw_105 : decode prog_9_method_14_code 105 = .ok (.iload_n 1, 1) := by decide +kernel
theorem d_Mo_draw_106 : decode prog_9_method_14_code 106 = .ok (.iaload, 1) := by decide +kernel
theorem d_Mo_draw_107 : decode prog_9_method_14_code 107 = .ok (.bipush 64, 2) := by decide +kernel
theorem d_Mo_draw_109 : decode prog_9_method_14_code 109 = .ok (.isub, 1) := by decide +kernel
theorem d_Mo_draw_110 : decode prog_9_method_14_code 110 = .ok (.invokestatic 105, 3) := by decide +kernel
theorem d_Mo_draw_113 : decode prog_9_method_14_code 113 = .ok (.lastore, 1) := by decide +kernel
theorem d_Mo_draw_114 : decode prog_9_method_14_code 114 = .ok (.iconst 1, 1) := by decide +kernel
theorem d_Mo_draw_115 : decode prog_9_method_14_code 115 = .ok (.ireturn, 1) := by decide +kernel
theorem d_Mo_shapeDot_0 : decode prog_9_method_15_code 0 = .ok (.aload_n 0, 1) := by decide +kernel
theorem d_Mo_shapeDot_1 : decode prog_9_method_15_code 1 = .ok (.getfield 23, 3) := by decide +kernel
theorem d_Mo_shapeDot_4 : decode prog_9_method_15_code 4 = .ok (.iconst 2, 1) := by decide +kernel
theorem d_Mo_shapeDot_5 : decode prog_9_method_15_code 5 = .ok (.aload_n 0, 1) := by decide +kernel
theorem d_Mo_shapeDot_6 : decode prog_9_method_15_code 6 = .ok (.getfield 16, 3) := by decide +kernel
theorem d_Mo_shapeDot_9 : decode prog_9_method_15_code 9 = .ok (.iload_n 1, 1) := by decide +kernel
theorem d_Mo_shapeDot_10 : decode prog_9_method_15_code 10 = .ok (.iaload, 1) := by decide +kernel
theorem d_Mo_shapeDot_11 : decode prog_9_method_15_code 11 = .ok (.iload_n 3, 1) := by decide +kernel
theorem d_Mo_shapeDot_12 : decode prog_9_method_15_code 12 = .ok (.iadd, 1) := by decide +kernel
theorem d_Mo_shapeDot_13 : decode prog_9_method_15_code 13 = .ok (.imul, 1) := by decide +kernel
theorem d_Mo_shapeDot_14 : decode prog_9_method_15_code 14 = .ok (.iload_n 2, 1) := by decide +kernel
theorem d_Mo_shapeDot_15 : decode prog_9_method_15_code 15 = .ok (.bipush 64, 2) := by decide +kernel
theorem d_Mo_shapeDot_17 : decode prog_9_method_15_code 17 = .ok (.idiv, 1) := by decide +kernel
theorem d_Mo_shapeDot_18 : decode prog_9_method_15_code 18 = .ok (.iadd, 1) := by decide +kernel
theorem d_Mo_shapeDot_19 : decode prog_9_method_15_code 19 = .ok (.laload, 1) := by decide +kernel
theorem d_Mo_shapeDot_20 : decode prog_9_method_15_code 20 = .ok (.bipush 63, 2) := by decide +kernel
theorem d_Mo_shapeDot_22 : decode prog_9_method_15_code 22 = .ok (.iload_n 2, 1) := by decide +kernel
theorem d_Mo_shapeDot_23 : decode prog_9_method_15_code 23 = .ok (.bipush 64, 2) := by decide +kernel
theorem d_Mo_shapeDot_25 : decode prog_9_method_15_code 25 = .ok (.irem, 1) := by decide +kernel
theorem d_Mo_shapeDot_26 : decode prog_9_method_15_code 26 = .ok (.isub, 1) := by decide +kernel
theorem d_Mo_shapeDot_27 : decode prog_9_method_15_code 27 = .ok (.lshr, 1) := by decide +kernel
theorem d_Mo_shapeDot_28 : decode prog_9_method_15_code 28 = .ok (.lconst 1, 1) := by decide +kernel
theorem d_Mo_shapeDot_29 : decode prog_9_method_15_code 29 = .ok (.land, 1) := by decide +kernel
theorem d_Mo_shapeDot_30 : decode prog_9_method_15_code 30 = .ok (.lconst 1, 1) := by decide +kernel
theorem d_Mo_shapeDot_31 : decode prog_9_method_15_code 31 = .ok (.lcmp, 1) := by decide +kernel
theorem d_Mo_shapeDot_32 : decode prog_9_method_15_code 32 = .ok (.ifCond .ne 7, 3) := by decide +kernel
theorem d_Mo_shapeDot_35 : decode prog_9_method_15_code 35 = .ok (.iconst 1, 1) := by decide +kernel
theorem d_Mo_shapeDot_36 : decode prog_9_method_15_code 36 = .ok (.goto 4, 3) := by decide +kernel
theorem d_Mo_shapeDot_39 : decode prog_9_method_15_code 39 = .ok (.iconst 0, 1) := by decide +kernel
theorem d_Mo_shapeDot_40 : decode prog_9_method_15_code 40 = .ok (.ireturn, 1) := by decide +kernel
theorem d_Mo_ink_0 : decode prog_9_method_16_code 0 = .ok (.aload_n 0, 1) := by decide +kernel
theorem d_Mo_ink_1 : decode prog_9_method_16_code 1 = .ok (.iconst 0, 1) := by decide +kernel
theorem d_Mo_ink_2 : decode prog_9_method_16_code 2 = .ok (.putfield 46, 3) := by decide +kernel
theorem d_Mo_ink_5 : decode prog_9_method_16_code 5 = .ok (.iload_n 1, 1) := by decide +kernel
theorem d_Mo_ink_6 : decode prog_9_method_16_code 6 = .ok (.ifCond .eq 40, 3) := by decide +kernel
theorem d_Mo_ink_9 : decode prog_9_method_16_code 9 = .ok (.iload_n 1, 1) := by decide +kernel
theorem d_Mo_ink_10 : decode prog_9_method_16_code 10 = .ok (.iconst 1, 1) := by decide +kernel
theorem d_Mo_ink_11 : decode prog_9_method_16_code 11 = .ok (.if_icmp .eq 35, 3) := by decide +kernel
theorem d_Mo_ink_14 : decode prog_9_method_16_code 14 = .ok (.iload_n 1, 1) := by decide +kernel
theorem d_Mo_ink_15 : decode prog_9_method_16_code 15 = .ok (.iconst 2, 1) := by decide +kernel
theorem d_Mo_ink_16 : decode prog_9_method_16_code 16 = .ok (.if_icmp .ne 14, 3) := by decide +kernel
theorem d_Mo_ink_19 : decode prog_9_method_16_code 19 = .ok (.iload_n 2, 1) := by decide +kernel
theorem d_Mo_ink_20 : decode prog_9_method_16_code 20 = .ok (.iconst 1, 1) := by decide +kernel
theorem d_Mo_ink_21 : decode prog_9_method_16_code 21 = .ok (.if_icmp .lt 9, 3) := by decide +kernel
theorem d_Mo_ink_24 : decode prog_9_method_16_code 24 = .ok (.iload_n 2, 1) := by decide +kernel
theorem d_Mo_ink_25 : decode prog_9_method_16_code 25 = .ok (.bipush 100, 2) := by decide +kernel
theorem d_Mo_ink_27 : decode prog_9_method_16_code 27 = .ok (.if_icmp .le 19, 3) := by decide +kernel
theorem d_Mo_ink_30 : decode prog_9_method_16_code 30 = .ok (.iload_n 1, 1) := by decide +kernel
theorem d_Mo_ink_31 : decode prog_9_method_16_code 31 = .ok (.iconst 3, 1) := by decide +kernel
theorem d_Mo_ink_32 : decode prog_9_method_16_code 32 = .ok (.if_icmp .ne 18, 3) := by decide +kernel
theorem d_Mo_ink_35 : decode prog_9_method_16_code 35 = .ok (.iload_n 2, 1) := by decide +kernel
theorem d_Mo_ink_36 : decode prog_9_method_16_code 36 = .ok (.iconst 1, 1) := by decide +kernel
theorem d_Mo_ink_37 : decode prog_9_method_16_code 37 = .ok (.if_icmp .lt 13, 3) := by decide +kernel
theorem d_Mo_ink_40 : decode prog_9_method_16_code 40 = .ok (.iload_n 2, 1) := by decide +kernel
theorem d_Mo_ink_41 : decode prog_9_method_16_code 41 = .ok (.bipush 6, 2) := by decide +kernel
theorem d_Mo_ink_43 : decode prog_9_method_16_code 43 = .ok (.if_icmp .gt 7, 3) := by decide +kernel
theorem d_Mo_ink_46 : decode prog_9_method_16_code 46 = .ok (.iconst 1, 1) := by decide +kernel
theorem d_Mo_ink_47 : decode prog_9_method_16_code 47 = .ok (.goto 4, 3) := by decide +kernel
theorem d_Mo_ink_50 : decode prog_9_method_16_code 50 = .ok (.iconst 0, 1) := by decide +kernel
theorem d_Mo_ink_51 : decode prog_9_method_16_code 51 = .ok (.istore_n 3, 1) := by decide +kernel
theorem d_Mo_ink_52 : decode prog_9_method_16_code 52 = .ok (.iload_n 3, 1) := by decide +kernel
theorem d_Mo_ink_53 : decode prog_9_method_16_code 53 = .ok (.ifCond .eq 22, 3) := by decide +kernel
theorem d_Mo_ink_56 : decode prog_9_method_16_code 56 = .ok (.aload_n 0, 1) := by decide +kernel
theorem d_Mo_ink_57 : decode prog_9_method_16_code 57 = .ok (.iload_n 1, 1) := by decide +kernel
theorem d_Mo_ink_58 : decode prog_9_method_16_code 58 = .ok (.putfield 51, 3) := by decide +kernel
theorem d_Mo_ink_61 : decode prog_9_method_16_code 61 = .ok (.aload_n 0, 1) := by decide +kernel
theorem d_Mo_ink_62 : decode prog_9_method_16_code 62 = .ok (.iload_n 1, 1) := by decide +kernel
theorem d_Mo_ink_63 : decode prog_9_method_16_code 63 = .ok (.iconst 2, 1) := by decide +kernel
theorem d_Mo_ink_64 : decode prog_9_method_16_code 64 = .ok (.if_icmp .ge 7, 3) := by decide +kernel
theorem d_Mo_ink_67 : decode prog_9_method_16_code 67 = .ok (.iconst 0, 1) := by decide +kernel
theorem d_Mo_ink_68 : decode prog_9_method_16_code 68 = .ok (.goto 4, 3) := by decide +kernel
theorem d_Mo_ink_71 : decode prog_9_method_16_code 71 = .ok (.iload_n 2, 1) := by decide +kernel
theorem d_Mo_ink_72 : decode prog_9_method_16_code 72 = .ok (.putfield 58, 3) := by decide +kernel
theorem d_Mo_ink_75 : decode prog_9_method_16_code 75 = .ok (.iload_n 3, 1) := by decide +kernel
theorem d_Mo_ink_76 : decode prog_9_method_16_code 76 = .ok (.ireturn, 1) := by decide +kernel
theorem d_Mo_mode_0 : decode prog_9_method_17_code 0 = .ok (.aload_n 0, 1) := by decide +kernel
theorem d_Mo_mode_1 : decode prog_9_method_17_code 1 = .ok (.iconst 0, 1) := by decide +kernel
theorem d_Mo_mode_2 : decode prog_9_method_17_code 2 = .ok (.putfield 46, 3) := by decide +kernel
theorem d_Mo_mode_5 : decode prog_9_method_17_code 5 = .ok (.aload_n 0, 1) := by decide +kernel
theorem d_Mo_mode_6 : decode prog_9_method_17_code 6 = .ok (.iload_n 1, 1) := by decide +kernel
theorem d_Mo_mode_7 : decode prog_9_method_17_code 7 = .ok (.putfield 75, 3) := by decide +kernel
theorem d_Mo_mode_10 : decode prog_9_method_17_code 10 = .ok (.aload_n 0, 1) := by decide +kernel
theorem d_Mo_mode_11 : decode prog_9_method_17_code 11 = .ok (.iload_n 2, 1) := by decide +kernel
theorem d_Mo_mode_12 : decode prog_9_method_17_code 12 = .ok (.putfield 86, 3) := by decide +kernel
theorem d_Mo_mode_15 : decode prog_9_method_17_code 15 = .ok (.return_, 1) := by decide +kernel
theorem d_Mo_turn_0 : decode prog_9_method_18_code 0 = .ok (.aload_n 0, 1) := by decide +kernel
theorem d_Mo_turn_1 : decode prog_9_method_18_code 1 = .ok (.iconst 0, 1) := by decide +kernel
theorem d_Mo_turn_2 : decode prog_9_method_18_code 2 = .ok (.putfield 46, 3) := by decide +kernel
theorem d_Mo_turn_5 : decode prog_9_method_18_code 5 = .ok (.iload_n 1, 1) := by decide +kernel
theorem d_Mo_turn_6 : decode prog_9_method_18_code 6 = .ok (.ifCond .lt 8, 3) := by decide +kernel
theorem d_Mo_turn_9 : decode prog_9_method_18_code 9 = .ok (.iload_n 1, 1) := by decide +kernel
theorem d_Mo_turn_10 : decode prog_9_method_18_code 10 = .ok (.iconst 3, 1) := by decide +kernel
theorem d_Mo_turn_11 : decode prog_9_method_18_code 11 = .ok (.if_icmp .le 5, 3) := by decide +kernel
theorem d_Mo_turn_14 : decode prog_9_method_18_code 14 = .ok (.iconst 0, 1) := by decide +kernel
theorem d_Mo_turn_15 : decode prog_9_method_18_code 15 = .ok (.ireturn, 1) := by decide +kernel
theorem d_Mo_turn_16 : decode prog_9_method_18_code 16 = .ok (.aload_n 0, 1) := by decide +kernel
theorem d_Mo_turn_17 : decode prog_9_method_18_code 17 = .ok (.iload_n 1, 1) := by decide +kernel
theorem d_Mo_turn_18 : decode prog_9_method_18_code 18 = .ok (.putfield 89, 3) := by decide +kernel
theorem d_Mo_turn_21 : decode prog_9_method_18_code 21 = .ok (.iconst 1, 1) := by decide +kernel
theorem d_Mo_turn_22 : decode prog_9_method_18_code 22 = .ok (.ireturn, 1) := by decide +kernel
theorem d_Mo_clip_0 : decode prog_9_method_19_code 0 = .ok (.aload_n 0, 1) := by decide +kernel
theorem d_Mo_clip_1 : decode prog_9_method_19_code 1 = .ok (.iconst 0, 1) := by decide +kernel
theorem d_Mo_clip_2 : decode prog_9_method_19_code 2 = .ok (.putfield 46, 3) := by decide +kernel
theorem d_Mo_clip_5 : decode prog_9_method_19_code 5 = .ok (.iload_n 1, 1) := by decide +kernel
theorem d_Mo_clip_6 : decode prog_9_method_19_code 6 = .ok (.iload_n 3, 1) := by decide +kernel
theorem d_Mo_clip_7 : decode prog_9_method_19_code 7 = .ok (.if_icmp .gt 9, 3) := by decide +kernel
theorem d_Mo_clip_10 : decode prog_9_method_19_code 10 = .ok (.iload_n 2, 1) := by decide +kernel
theorem d_Mo_clip_11 : decode prog_9_method_19_code 11 = .ok (.iload 4, 2) := by decide +kernel
theorem d_Mo_clip_13 : decode prog_9_method_19_code 13 = .ok (.if_icmp .le 5, 3) := by decide +kernel
theorem d_Mo_clip_16 : decode prog_9_method_19_code 16 = .ok (.iconst 0, 1) := by decide +kernel
theorem d_Mo_clip_17 : decode prog_9_method_19_code 17 = .ok (.ireturn, 1) := by decide +kernel
theorem d_Mo_clip_18 : decode prog_9_method_19_code 18 = .ok (.aload_n 0, 1) := by decide +kernel
theorem d_Mo_clip_19 : decode prog_9_method_19_code 19 = .ok (.iload_n 1, 1) := by decide +kernel
theorem d_Mo_clip_20 : decode prog_9_method_19_code 20 = .ok (.putfield 69, 3) := by decide +kernel
theorem d_Mo_clip_23 : decode prog_9_method_19_code 23 = .ok (.aload_n 0, 1) := by decide +kernel
theorem d_Mo_clip_24 : decode prog_9_method_19_code 24 = .ok (.iload_n 2, 1) := by decide +kernel
theorem d_Mo_clip_25 : decode prog_9_method_19_code 25 = .ok (.putfield 72, 3) := by decide +kernel
theorem d_Mo_clip_28 : decode prog_9_method_19_code 28 = .ok (.aload_n 0, 1) := by decide +kernel
theorem d_Mo_clip_29 : decode prog_9_method_19_code 29 = .ok (.iload_n 3, 1) := by decide +kernel
theorem d_Mo_clip_30 : decode prog_9_method_19_code 30 = .ok (.putfield 40, 3) := by decide +kernel
theorem d_Mo_clip_33 : decode prog_9_method_19_code 33 = .ok (.aload_n 0, 1) := by decide +kernel
theorem d_Mo_clip_34 : decode prog_9_method_19_code 34 = .ok (.iload 4, 2) := by decide +kernel
theorem d_Mo_clip_36 : decode prog_9_method_19_code 36 = .ok (.putfield 43, 3) := by decide +kernel
theorem d_Mo_clip_39 : decode prog_9_method_19_code 39 = .ok (.iconst 1, 1) := by decide +kernel
theorem d_Mo_clip_40 : decode prog_9_method_19_code 40 = .ok (.ireturn, 1) := by decide +kernel
theorem d_Mo_isPlace_0 : decode prog_9_method_20_code 0 = .ok (.iload_n 0, 1) := by decide +kernel
theorem d_Mo_isPlace_1 : decode prog_9_method_20_code 1 = .ok (.sipush (-10000), 3) := by decide +kernel
theorem d_Mo_isPlace_4 : decode prog_9_method_20_code 4 = .ok (.if_icmp .lt 14, 3) := by decide +kernel
theorem d_Mo_isPlace_7 : decode prog_9_method_20_code 7 = .ok (.iload_n 0, 1) := by decide +kernel
theorem d_Mo_isPlace_8 : decode prog_9_method_20_code 8 = .ok (.sipush 10000, 3) := by decide +kernel
theorem d_Mo_isPlace_11 : decode prog_9_method_20_code 11 = .ok (.if_icmp .gt 7, 3) := by decide +kernel
theorem d_Mo_isPlace_14 : decode prog_9_method_20_code 14 = .ok (.iconst 1, 1) := by decide +kernel
theorem d_Mo_isPlace_15 : decode prog_9_method_20_code 15 = .ok (.goto 4, 3) := by decide +kernel
theorem d_Mo_isPlace_18 : decode prog_9_method_20_code 18 = .ok (.iconst 0, 1) := by decide +kernel
theorem d_Mo_isPlace_19 : decode prog_9_method_20_code 19 = .ok (.ireturn, 1) := by decide +kernel
theorem d_Mo_stamp_0 : decode prog_9_method_21_code 0 = .ok (.aload_n 0, 1) := by decide +kernel
theorem d_Mo_stamp_1 : decode prog_9_method_21_code 1 = .ok (.iconst 0, 1) := by decide +kernel
theorem d_Mo_stamp_2 : decode prog_9_method_21_code 2 = .ok (.putfield 46, 3) := by decide +kernel
theorem d_Mo_stamp_5 : decode prog_9_method_21_code 5 = .ok (.aload_n 0, 1) := by decide +kernel
theorem d_Mo_stamp_6 : decode prog_9_method_21_code 6 = .ok (.iload_n 1, 1) := by decide +kernel
theorem d_Mo_stamp_7 : decode prog_9_method_21_code 7 = .ok (.invokevirtual 101, 3) := by decide +kernel
theorem d_Mo_stamp_10 : decode prog_9_method_21_code 10 = .ok (.ifCond .eq 27, 3) := by decide +kernel
theorem d_Mo_stamp_13 : decode prog_9_method_21_code 13 = .ok (.iload_n 2, 1) := by decide +kernel
theorem d_Mo_stamp_14 : decode prog_9_method_21_code 14 = .ok (.invokestatic 109, 3) := by decide +kernel
theorem d_Mo_stamp_17 : decode prog_9_method_21_code 17 = .ok (.ifCond .eq 20, 3) := by decide +kernel
theorem d_Mo_stamp_20 : decode prog_9_method_21_code 20 = .ok (.iload_n 3, 1) := by decide +kernel
theorem d_Mo_stamp_21 : decode prog_9_method_21_code 21 = .ok (.invokestatic 109, 3) := by decide +kernel
theorem d_Mo_stamp_24 : decode prog_9_method_21_code 24 = .ok (.ifCond .eq 13, 3) := by decide +kernel
theorem d_Mo_stamp_27 : decode prog_9_method_21_code 27 = .ok (.aload_n 0, 1) := by decide +kernel
theorem d_Mo_stamp_28 : decode prog_9_method_21_code 28 = .ok (.getfield 112, 3) := by decide +kernel
theorem d_Mo_stamp_31 : decode prog_9_method_21_code 31 = .ok (.sipush 4096, 3) := by decide +kernel
theorem d_Mo_stamp_34 : decode prog_9_method_21_code 34 = .ok (.if_icmp .ne 5, 3) := by decide +kernel
theorem d_Mo_stamp_37 : decode prog_9_method_21_code 37 = .ok (.iconst 0, 1) := by decide +kernel
theorem d_Mo_stamp_38 : decode prog_9_method_21_code 38 = .ok (.ireturn, 1) := by decide +kernel
theorem d_Mo_stamp_39 : decode prog_9_method_21_code 39 = .ok (.aload_n 0, 1) := by decide +kernel
theorem d_Mo_stamp_40 : decode prog_9_method_21_code 40 = .ok (.dup, 1) := by decide +kernel
theorem d_Mo_stamp_41 : decode prog_9_method_21_code 41 = .ok (.getfield 112, 3) := by decide +kernel
theorem d_Mo_stamp_44 : decode prog_9_method_21_code 44 = .ok (.iconst 1, 1) := by decide +kernel
theorem d_Mo_stamp_45 : decode prog_9_method_21_code 45 = .ok (.iadd, 1) := by decide +kernel
theorem d_Mo_stamp_46 : decode prog_9_method_21_code 46 = .ok (.putfield 112, 3) := by decide +kernel
theorem d_Mo_stamp_49 : decode prog_9_method_21_code 49 = .ok (.aload_n 0, 1) := by decide +kernel
theorem d_Mo_stamp_50 : decode prog_9_method_21_code 50 = .ok (.getfield 19, 3) := by decide +kernel
theorem d_Mo_stamp_53 : decode prog_9_method_21_code 53 = .ok (.iload_n 1, 1) := by decide +kernel
theorem d_Mo_stamp_54 : decode prog_9_method_21_code 54 = .ok (.iconst 1, 1) := by decide +kernel
theorem d_Mo_stamp_55 : decode prog_9_method_21_code 55 = .ok (.bastore, 1) := by decide +kernel
theorem d_Mo_stamp_56 : decode prog_9_method_21_code 56 = .ok (.iconst 0, 1) := by decide +kernel
theorem d_Mo_stamp_57 : decode prog_9_method_21_code 57 = .ok (.istore 4, 2) := by decide +kernel
theorem d_Mo_stamp_59 : decode prog_9_method_21_code 59 = .ok (.iload 4, 2) := by decide +kernel
theorem d_Mo_stamp_61 : decode prog_9_method_21_code 61 = .ok (.aload_n 0, 1) := by decide +kernel
theorem d_Mo_stamp_62 : decode prog_9_method_21_code 62 = .ok (.getfield 13, 3) := by decide +kernel
theorem d_Mo_stamp_65 : decode prog_9_method_21_code 65 = .ok (.iload_n 1, 1) := by decide +kernel
theorem d_Mo_stamp_66 : decode prog_9_method_21_code 66 = .ok (.iaload, 1) := by decide +kernel
theorem d_Mo_stamp_67 : decode prog_9_method_21_code 67 = .ok (.if_icmp .ge 48, 3) := by decide +kernel
theorem d_Mo_stamp_70 : decode prog_9_method_21_code 70 = .ok (.iconst 0, 1) := by decide +kernel
theorem d_Mo_stamp_71 : decode prog_9_method_21_code 71 = .ok (.istore 5, 2) := by decide +kernel
theorem d_Mo_stamp_73 : decode prog_9_method_21_code 73 = .ok (.iload 5, 2) := by decide +kernel
theorem d_Mo_stamp_75 : decode prog_9_method_21_code 75 = .ok (.aload_n 0, 1) := by decide +kernel
theorem d_Mo_stamp_76 : decode prog_9_method_21_code 76 = .ok (.getfield 7, 3) := by decide +kernel
theorem d_Mo_stamp_79 : decode prog_9_method_21_code 79 = .ok (.iload_n 1, 1) := by decide +kernel
theorem d_Mo_stamp_80 : decode prog_9_method_21_code 80 = .ok (.iaload, 1) := by decide +kernel
theorem d_Mo_stamp_81 : decode prog_9_method_21_code 81 = .ok (.if_icmp .ge 28, 3) := by decide +kernel
theorem d_Mo_stamp_84 : decode prog_9_method_21_code 84 = .ok (.aload_n 0, 1) := by decide +kernel
theorem d_Mo_stamp_85 : decode prog_9_method_21_code 85 = .ok (.iload_n 2, 1) := by decide +kernel
theorem d_Mo_stamp_86 : decode prog_9_method_21_code 86 = .ok (.iload_n 3, 1) := by decide +kernel
theorem d_Mo_stamp_87 : decode prog_9_method_21_code 87 = .ok (.iload 5, 2) := by decide +kernel
theorem d_Mo_stamp_89 : decode prog_9_method_21_code 89 = .ok (.iload 4, 2) := by decide +kernel
theorem d_Mo_stamp_91 : decode prog_9_method_21_code 91 = .ok (.aload_n 0, 1) := by decide +kernel
theorem d_Mo_stamp_92 : decode prog_9_method_21_code 92 = .ok (.iload_n 1, 1) := by decide +kernel
theorem d_Mo_stamp_93 : decode prog_9_method_21_code 93 = .ok (.iload 5, 2) := by decide +kernel
theorem d_Mo_stamp_95 : decode prog_9_method_21_code 95 = .ok (.iload 4, 2) := by decide +kernel
theorem d_Mo_stamp_97 : decode prog_9_method_21_code 97 = .ok (.invokevirtual 115, 3) := by decide +kernel
theorem d_Mo_stamp_100 : decode prog_9_method_21_code 100 = .ok (.invokevirtual 118, 3) := by decide +kernel
theorem d_Mo_stamp_103 : decode prog_9_method_21_code 103 = .ok (.iinc 5 1, 3) := by decide +kernel
theorem d_Mo_stamp_106 : decode prog_9_method_21_code 106 = .ok (.goto (-33), 3) := by decide +kernel
theorem d_Mo_stamp_109 : decode prog_9_method_21_code 109 = .ok (.iinc 4 1, 3) := by decide +kernel
theorem d_Mo_stamp_112 : decode prog_9_method_21_code 112 = .ok (.goto (-53), 3) := by decide +kernel
theorem d_Mo_stamp_115 : decode prog_9_method_21_code 115 = .ok (.iconst 1, 1) := by decide +kernel
theorem d_Mo_stamp_116 : decode prog_9_method_21_code 116 = .ok (.ireturn, 1) := by decide +kernel
theorem d_Mo_most_0 : decode prog_9_method_22_code 0 = .ok (.iload_n 0, 1) := by decide +kernel
theorem d_Mo_most_1 : decode prog_9_method_22_code 1 = .ok (.iload_n 1, 1) := by decide +kernel
theorem d_Mo_most_2 : decode prog_9_method_22_code 2 = .ok (.if_icmp .le 7, 3) := by decide +kernel
theorem d_Mo_most_5 : decode prog_9_method_22_code 5 = .ok (.iload_n 0, 1) := by decide +kernel
theorem d_Mo_most_6 : decode prog_9_method_22_code 6 = .ok (.goto 4, 3) := by decide +kernel
theorem d_Mo_most_9 : decode prog_9_method_22_code 9 = .ok (.iload_n 1, 1) := by decide +kernel
theorem d_Mo_most_10 : decode prog_9_method_22_code 10 = .ok (.ireturn, 1) := by decide +kernel
theorem d_Mo_least_0 : decode prog_9_method_23_code 0 = .ok (.iload_n 0, 1) := by decide +kernel
theorem d_Mo_least_1 : decode prog_9_method_23_code 1 = .ok (.iload_n 1, 1) := by decide +kernel
theorem d_Mo_least_2 : decode prog_9_method_23_code 2 = .ok (.if_icmp .ge 7, 3) := by decide +kernel
theorem d_Mo_least_5 : decode prog_9_method_23_code 5 = .ok (.iload_n 0, 1) := by decide +kernel
theorem d_Mo_least_6 : decode prog_9_method_23_code 6 = .ok (.goto 4, 3) := by decide +kernel
theorem d_Mo_least_9 : decode prog_9_method_23_code 9 = .ok (.iload_n 1, 1) := by decide +kernel
theorem d_Mo_least_10 : decode prog_9_method_23_code 10 = .ok (.ireturn, 1) := by decide +kernel
theorem d_Mo_rule_0 : decode prog_9_method_24_code 0 = .ok (.aload_n 0, 1) := by decide +kernel
theorem d_Mo_rule_1 : decode prog_9_method_24_code 1 = .ok (.iconst 0, 1) := by decide +kernel
theorem d_Mo_rule_2 : decode prog_9_method_24_code 2 = .ok (.putfield 46, 3) := by decide +kernel
theorem d_Mo_rule_5 : decode prog_9_method_24_code 5 = .ok (.iload_n 1, 1) := by decide +kernel
theorem d_Mo_rule_6 : decode prog_9_method_24_code 6 = .ok (.invokestatic 109, 3) := by decide +kernel
theorem d_Mo_rule_9 : decode prog_9_method_24_code 9 = .ok (.ifCond .eq 46, 3) := by decide +kernel
theorem d_Mo_rule_12 : decode prog_9_method_24_code 12 = .ok (.iload_n 2, 1) := by decide +kernel
theorem d_Mo_rule_13 : decode prog_9_method_24_code 13 = .ok (.invokestatic 109, 3) := by decide +kernel
theorem d_Mo_rule_16 : decode prog_9_method_24_code 16 = .ok (.ifCond .eq 39, 3) := by decide +kernel
theorem d_Mo_rule_19 : decode prog_9_method_24_code 19 = .ok (.iload_n 3, 1) := by decide +kernel
theorem d_Mo_rule_20 : decode prog_9_method_24_code 20 = .ok (.iconst 1, 1) := by decide +kernel
theorem d_Mo_rule_21 : decode prog_9_method_24_code 21 = .ok (.if_icmp .lt 34, 3) := by decide +kernel
theorem d_Mo_rule_24 : decode prog_9_method_24_code 24 = .ok (.iload_n 3, 1) := by decide +kernel
theorem d_Mo_rule_25 : decode prog_9_method_24_code 25 = .ok (.sipush 10000, 3) := by decide +kernel
theorem d_Mo_rule_28 : decode prog_9_method_24_code 28 = .ok (.if_icmp .gt 27, 3) := by decide +kernel
theorem d_Mo_rule_31 : decode prog_9_method_24_code 31 = .ok (.iload 4, 2) := by decide +kernel
theorem d_Mo_rule_33 : decode prog_9_method_24_code 33 = .ok (.iconst 1, 1) := by decide +kernel
theorem d_Mo_rule_34 : decode prog_9_method_24_code 34 = .ok (.if_icmp .lt 21, 3) := by decide +kernel
theorem d_Mo_rule_37 : decode prog_9_method_24_code 37 = .ok (.iload 4, 2) := by decide +kernel
theorem d_Mo_rule_39 : decode prog_9_method_24_code 39 = .ok (.sipush 10000, 3) := by decide +kernel
theorem d_Mo_rule_42 : decode prog_9_method_24_code 42 = .ok (.if_icmp .gt 13, 3) := by decide +kernel
theorem d_Mo_rule_45 : decode prog_9_method_24_code 45 = .ok (.aload_n 0, 1) := by decide +kernel
theorem d_Mo_rule_46 : decode prog_9_method_24_code 46 = .ok (.getfield 112, 3) := by decide +kernel
theorem d_Mo_rule_49 : decode prog_9_method_24_code 49 = .ok (.sipush 4096, 3) := by decide +kernel
theorem d_Mo_rule_52 : decode prog_9_method_24_code 52 = .ok (.if_icmp .ne 5, 3) := by decide +kernel
theorem d_Mo_rule_55 : decode prog_9_method_24_code 55 = .ok (.iconst 0, 1) := by decide +kernel
theorem d_Mo_rule_56 : decode prog_9_method_24_code 56 = .ok (.ireturn, 1) := by decide +kernel
theorem d_Mo_rule_57 : decode prog_9_method_24_code 57 = .ok (.aload_n 0, 1) := by decide +kernel
theorem d_Mo_rule_58 : decode prog_9_method_24_code 58 = .ok (.dup, 1) := by decide +kernel
theorem d_Mo_rule_59 : decode prog_9_method_24_code 59 = .ok (.getfield 112, 3) := by decide +kernel
theorem d_Mo_rule_62 : decode prog_9_method_24_code 62 = .ok (.iconst 1, 1) := by decide +kernel
theorem d_Mo_rule_63 : decode prog_9_method_24_code 63 = .ok (.iadd, 1) := by decide +kernel
theorem d_Mo_rule_64 : decode prog_9_method_24_code 64 = .ok (.putfield 112, 3) := by decide +kernel
theorem d_Mo_rule_67 : decode prog_9_method_24_code 67 = .ok (.aload_n 0, 1) := by decide +kernel
theorem d_Mo_rule_68 : decode prog_9_method_24_code 68 = .ok (.getfield 89, 3) := by decide +kernel
theorem d_Mo_rule_71 : decode prog_9_method_24_code 71 = .ok (.ifCond .eq 11, 3) := by decide +kernel
theorem d_Mo_rule_74 : decode prog_9_method_24_code 74 = .ok (.aload_n 0, 1) := by decide +kernel
theorem d_Mo_rule_75 : decode prog_9_method_24_code 75 = .ok (.getfield 89, 3) := by decide +kernel
theorem d_Mo_rule_78 : decode prog_9_method_24_code 78 = .ok (.iconst 1, 1) := by decide +kernel
theorem d_Mo_rule_79 : decode prog_9_method_24_code 79 = .ok (.if_icmp .ne 7, 3) := by decide +kernel
theorem d_Mo_rule_82 : decode prog_9_method_24_code 82 = .ok (.iload_n 1, 1) := by decide +kernel
theorem d_Mo_rule_83 : decode prog_9_method_24_code 83 = .ok (.goto 25, 3) := by decide +kernel
theorem d_Mo_rule_86 : decode prog_9_method_24_code 86 = .ok (.aload_n 0, 1) := by decide +kernel
theorem d_Mo_rule_87 : decode prog_9_method_24_code 87 = .ok (.getfield 89, 3) := by decide +kernel
theorem d_Mo_rule_90 : decode prog_9_method_24_code 90 = .ok (.iconst 2, 1) := by decide +kernel
theorem d_Mo_rule_91 : decode prog_9_method_24_code 91 = .ok (.if_icmp .ne 11, 3) := by decide +kernel
theorem d_Mo_rule_94 : decode prog_9_method_24_code 94 = .ok (.iload_n 1, 1) := by decide +kernel
theorem d_Mo_rule_95 : decode prog_9_method_24_code 95 = .ok (.iload_n 3, 1) := by decide +kernel
theorem d_Mo_rule_96 : decode prog_9_method_24_code 96 = .ok (.isub, 1) := by decide +kernel
theorem d_Mo_rule_97 : decode prog_9_method_24_code 97 = .ok (.iconst 1, 1) := by decide +kernel
theorem d_Mo_rule_98 : decode prog_9_method_24_code 98 = .ok (.iadd, 1) := by decide +kernel
theorem d_Mo_rule_99 : decode prog_9_method_24_code 99 = .ok (.goto 9, 3) := by decide +kernel
theorem d_Mo_rule_102 : decode prog_9_method_24_code 102 = .ok (.iload_n 1, 1) := by decide +kernel
theorem d_Mo_rule_103 : decode prog_9_method_24_code 103 = .ok (.iload 4, 2) := by decide +kernel
theorem d_Mo_rule_105 : decode prog_9_method_24_code 105 = .ok (.isub, 1) := by decide +kernel
theorem d_Mo_rule_106 : decode prog_9_method_24_code 106 = .ok (.iconst 1, 1) := by decide +kernel
theorem d_Mo_rule_107 : decode prog_9_method_24_code 107 = .ok (.iadd, 1) := by decide +kernel
theorem d_Mo_rule_108 : decode prog_9_method_24_code 108 = .ok (.istore 5, 2) := by decide +kernel
theorem d_Mo_rule_110 : decode prog_9_method_24_code 110 = .ok (.aload_n 0, 1) := by decide +kernel
theorem d_Mo_rule_111 : decode prog_9_method_24_code 111 = .ok (.getfield 89, 3) := by decide +kernel
theorem d_Mo_rule_114 : decode prog_9_method_24_code 114 = .ok (.ifCond .ne 11, 3) := by decide +kernel
theorem d_Mo_rule_117 : decode prog_9_method_24_code 117 = .ok (.iload_n 1, 1) := by decide +kernel
theorem d_Mo_rule_118 : decode prog_9_method_24_code 118 = .ok (.iload_n 3, 1) := by decide +kernel
theorem d_Mo_rule_119 : decode prog_9_method_24_code 119 = .ok (.iadd, 1) := by decide +kernel
theorem d_Mo_rule_120 : decode prog_9_method_24_code 120 = .ok (.iconst 1, 1) := by decide +kernel
theorem d_Mo_rule_121 : decode prog_9_method_24_code 121 = .ok (.isub, 1) := by decide +kernel
theorem d_Mo_rule_122 : decode prog_9_method_24_code 122 = .ok (.goto 21, 3) := by decide +kernel
theorem d_Mo_rule_125 : decode prog_9_method_24_code 125 = .ok (.aload_n 0, 1) := by decide +kernel
theorem d_Mo_rule_126 : decode prog_9_method_24_code 126 = .ok (.getfield 89, 3) := by decide +kernel
theorem d_Mo_rule_129 : decode prog_9_method_24_code 129 = .ok (.iconst 1, 1) := by decide +kernel
theorem d_Mo_rule_130 : decode prog_9_method_24_code 130 = .ok (.if_icmp .ne 12, 3) := by decide +kernel
theorem d_Mo_rule_133 : decode prog_9_method_24_code 133 = .ok (.iload_n 1, 1) := by decide +kernel
theorem d_Mo_rule_134 : decode prog_9_method_24_code 134 = .ok (.iload 4, 2) := by decide +kernel
theorem d_Mo_rule_136 : decode prog_9_method_24_code 136 = .ok (.iadd, 1) := by decide +kernel
theorem d_Mo_rule_137 : decode prog_9_method_24_code 137 = .ok (.iconst 1, 1) := by decide +kernel
theorem d_Mo_rule_138 : decode prog_9_method_24_code 138 = .ok (.isub, 1) := by decide +kernel
theorem d_Mo_rule_139 : decode prog_9_method_24_code 139 = .ok (.goto 4, 3) := by decide +kernel
theorem d_Mo_rule_142 : decode prog_9_method_24_code 142 = .ok (.iload_n 1, 1) := by decide +kernel
theorem d_Mo_rule_143 : decode prog_9_method_24_code 143 = .ok (.istore 6, 2) := by decide +kernel
theorem d_Mo_rule_145 : decode prog_9_method_24_code 145 = .ok (.aload_n 0, 1) := by decide +kernel
theorem d_Mo_rule_146 : decode prog_9_method_24_code 146 = .ok (.getfield 89, 3) := by decide +kernel
theorem d_Mo_rule_149 : decode prog_9_method_24_code 149 = .ok (.ifCond .eq 11, 3) := by decide +kernel
theorem d_Mo_rule_152 : decode prog_9_method_24_code 152 = .ok (.aload_n 0, 1) := by decide +kernel
theorem d_Mo_rule_153 : decode prog_9_method_24_code 153 = .ok (.getfield 89, 3) := by decide +kernel
theorem d_Mo_rule_156 : decode prog_9_method_24_code 156 = .ok (.iconst 3, 1) := by decide +kernel
theorem d_Mo_rule_157 : decode prog_9_method_24_code 157 = .ok (.if_icmp .ne 7, 3) := by decide +kernel
theorem d_Mo_rule_160 : decode prog_9_method_24_code 160 = .ok (.iload_n 2, 1) := by decide +kernel
theorem d_Mo_rule_161 : decode prog_9_method_24_code 161 = .ok (.goto 25, 3) := by decide +kernel
theorem d_Mo_rule_164 : decode prog_9_method_24_code 164 = .ok (.aload_n 0, 1) := by decide +kernel
theorem d_Mo_rule_165 : decode prog_9_method_24_code 165 = .ok (.getfield 89, 3) := by decide +kernel
theorem d_Mo_rule_168 : decode prog_9_method_24_code 168 = .ok (.iconst 1, 1) := by decide +kernel
theorem d_Mo_rule_169 : decode prog_9_method_24_code 169 = .ok (.if_icmp .ne 11, 3) := by decide +kernel
theorem d_Mo_rule_172 : decode prog_9_method_24_code 172 = .ok (.iload_n 2, 1) := by decide +kernel
theorem d_Mo_rule_173 : decode prog_9_method_24_code 173 = .ok (.iload_n 3, 1) := by decide +kernel
theorem d_Mo_rule_174 : decode prog_9_method_24_code 174 = .ok (.isub, 1) := by decide +kernel
theorem d_Mo_rule_175 : decode prog_9_method_24_code 175 = .ok (.iconst 1, 1) := by decide +kernel
theorem d_Mo_rule_176 : decode prog_9_method_24_code 176 = .ok (.iadd, 1) := by decide +kernel
theorem d_Mo_rule_177 : decode prog_9_method_24_code 177 = .ok (.goto 9, 3) := by decide +kernel
theorem d_Mo_rule_180 : decode prog_9_method_24_code 180 = .ok (.iload_n 2, 1) := by decide +kernel
theorem d_Mo_rule_181 : decode prog_9_method_24_code 181 = .ok (.iload 4, 2) := by decide +kernel
theorem d_Mo_rule_183 : decode prog_9_method_24_code 183 = .ok (.isub, 1) := by decide +kernel
theorem d_Mo_rule_184 : decode prog_9_method_24_code 184 = .ok (.iconst 1, 1) := by decide +kernel
theorem d_Mo_rule_185 : decode prog_9_method_24_code 185 = .ok (.iadd, 1) := by decide +kernel
theorem d_Mo_rule_186 : decode prog_9_method_24_code 186 = .ok (.istore 7, 2) := by decide +kernel
theorem d_Mo_rule_188 : decode prog_9_method_24_code 188 = .ok (.aload_n 0, 1) := by decide +kernel
theorem d_Mo_rule_189 : decode prog_9_method_24_code 189 = .ok (.getfield 89, 3) := by decide +kernel
theorem d_Mo_rule_192 : decode prog_9_method_24_code 192 = .ok (.ifCond .ne 12, 3) := by decide +kernel
theorem d_Mo_rule_195 : decode prog_9_method_24_code 195 = .ok (.iload_n 2, 1) := by decide +kernel
theorem d_Mo_rule_196 : decode prog_9_method_24_code 196 = .ok (.iload 4, 2) := by decide +kernel
theorem d_Mo_rule_198 : decode prog_9_method_24_code 198 = .ok (.iadd, 1) := by decide +kernel
theorem d_Mo_rule_199 : decode prog_9_method_24_code 199 = .ok (.iconst 1, 1) := by decide +kernel
theorem d_Mo_rule_200 : decode prog_9_method_24_code 200 = .ok (.isub, 1) := by decide +kernel
theorem d_Mo_rule_201 : decode prog_9_method_24_code 201 = .ok (.goto 20, 3) := by decide +kernel
theorem d_Mo_rule_204 : decode prog_9_method_24_code 204 = .ok (.aload_n 0, 1) := by decide +kernel
theorem d_Mo_rule_205 : decode prog_9_method_24_code 205 = .ok (.getfield 89, 3) := by decide +kernel
theorem d_Mo_rule_208 : decode prog_9_method_24_code 208 = .ok (.iconst 3, 1) := by decide +kernel
theorem d_Mo_rule_209 : decode prog_9_method_24_code 209 = .ok (.if_icmp .ne 11, 3) := by decide +kernel
theorem d_Mo_rule_212 : decode prog_9_method_24_code 212 = .ok (.iload_n 2, 1) := by decide +kernel
theorem d_Mo_rule_213 : decode prog_9_method_24_code 213 = .ok (.iload_n 3, 1) := by decide +kernel
theorem d_Mo_rule_214 : decode prog_9_method_24_code 214 = .ok (.iadd, 1) := by decide +kernel
theorem d_Mo_rule_215 : decode prog_9_method_24_code 215 = .ok (.iconst 1, 1) := by decide +kernel
theorem d_Mo_rule_216 : decode prog_9_method_24_code 216 = .ok (.isub, 1) := by decide +kernel
theorem d_Mo_rule_217 : decode prog_9_method_24_code 217 = .ok (.goto 4, 3) := by decide +kernel
theorem d_Mo_rule_220 : decode prog_9_method_24_code 220 = .ok (.iload_n 2, 1) := by decide +kernel
theorem d_Mo_rule_221 : decode prog_9_method_24_code 221 = .ok (.istore 8, 2) := by decide +kernel
theorem d_Mo_rule_223 : decode prog_9_method_24_code 223 = .ok (.iload 7, 2) := by decide +kernel
theorem d_Mo_rule_225 : decode prog_9_method_24_code 225 = .ok (.iconst 0, 1) := by decide +kernel
theorem d_Mo_rule_226 : decode prog_9_method_24_code 226 = .ok (.invokestatic 122, 3) := by decide +kernel
theorem d_Mo_rule_229 : decode prog_9_method_24_code 229 = .ok (.istore 9, 2) := by decide +kernel
theorem d_Mo_rule_231 : decode prog_9_method_24_code 231 = .ok (.iload 9, 2) := by decide +kernel
theorem d_Mo_rule_233 : decode prog_9_method_24_code 233 = .ok (.iload 8, 2) := by decide +kernel
theorem d_Mo_rule_235 : decode prog_9_method_24_code 235 = .ok (.aload_n 0, 1) := by decide +kernel
theorem d_Mo_rule_236 : decode prog_9_method_24_code 236 = .ok (.getfield 31, 3) := by decide +kernel
theorem d_Mo_rule_239 : decode prog_9_method_24_code 239 = .ok (.iconst 1, 1) := by decide +kernel
theorem d_Mo_rule_240 : decode prog_9_method_24_code 240 = .ok (.isub, 1) := by decide +kernel
theorem d_Mo_rule_241 : decode prog_9_method_24_code 241 = .ok (.invokestatic 125, 3) := by decide +kernel
theorem d_Mo_rule_244 : decode prog_9_method_24_code 244 = .ok (.if_icmp .gt 48, 3) := by decide +kernel
theorem d_Mo_rule_247 : decode prog_9_method_24_code 247 = .ok (.iload 5, 2) := by decide +kernel
theorem d_Mo_rule_249 : decode prog_9_method_24_code 249 = .ok (.iconst 0, 1) := by decide +kernel
theorem d_Mo_rule_250 : decode prog_9_method_24_code 250 = .ok (.invokestatic 122, 3) := by decide +kernel
theorem d_Mo_rule_253 : decode prog_9_method_24_code 253 = .ok (.istore 10, 2) := by decide +kernel
theorem d_Mo_rule_255 : decode prog_9_method_24_code 255 = .ok (.iload 10, 2) := by decide +kernel
theorem d_Mo_rule_257 : decode prog_9_method_24_code 257 = .ok (.iload 6, 2) := by decide +kernel
theorem d_Mo_rule_259 : decode prog_9_method_24_code 259 = .ok (.aload_n 0, 1) := by decide +kernel
theorem d_Mo_rule_260 : decode prog_9_method_24_code 260 = .ok (.getfield 27, 3) := by decide +kernel
theorem d_Mo_rule_263 : decode prog_9_method_24_code 263 = .ok (.iconst 1, 1) := by decide +kernel
theorem d_Mo_rule_264 : decode prog_9_method_24_code 264 = .ok (.isub, 1) := by decide +kernel
theorem d_Mo_rule_265 : decode prog_9_method_24_code 265 = .ok (.invokestatic 125, 3) := by decide +kernel
theorem d_Mo_rule_268 : decode prog_9_method_24_code 268 = .ok (.if_icmp .gt 18, 3) := by decide +kernel
theorem d_Mo_rule_271 : decode prog_9_method_24_code 271 = .ok (.aload_n 0, 1) := by decide +kernel
theorem d_Mo_rule_272 : decode prog_9_method_24_code 272 = .ok (.iload 10, 2) := by decide +kernel
theorem d_Mo_rule_274 : decode prog_9_method_24_code 274 = .ok (.iload 9, 2) := by decide +kernel
theorem d_Mo_rule_276 : decode prog_9_method_24_code 276 = .ok (.iconst 1, 1) := by decide +kernel
theorem d_Mo_rule_277 : decode prog_9_method_24_code 277 = .ok (.invokevirtual 92, 3) := by decide +kernel
theorem d_Mo_rule_280 : decode prog_9_method_24_code 280 = .ok (.iinc 10 1, 3) := by decide +kernel
theorem d_Mo_rule_283 : decode prog_9_method_24_code 283 = .ok (.goto (-28), 3) := by decide +kernel
theorem d_Mo_rule_286 : decode prog_9_method_24_code 286 = .ok (.iinc 9 1, 3) := by decide +kernel
theorem d_Mo_rule_289 : decode prog_9_method_24_code 289 = .ok (.goto (-58), 3) := by decide +kernel
theorem d_Mo_rule_292 : decode prog_9_method_24_code 292 = .ok (.iconst 1, 1) := by decide +kernel
theorem d_Mo_rule_293 : decode prog_9_method_24_code 293 = .ok (.ireturn, 1) := by decide +kernel
theorem d_Mo_row_0 : decode prog_9_method_25_code 0 = .ok (.aload_n 0, 1) := by decide +kernel
theorem d_Mo_row_1 : decode prog_9_method_25_code 1 = .ok (.iconst 0, 1) := by decide +kernel
theorem d_Mo_row_2 : decode prog_9_method_25_code 2 = .ok (.putfield 46, 3) := by decide +kernel
theorem d_Mo_row_5 : decode prog_9_method_25_code 5 = .ok (.iload_n 1, 1) := by decide +kernel
theorem d_Mo_row_6 : decode prog_9_method_25_code 6 = .ok (.invokestatic 109, 3) := by decide +kernel
theorem d_Mo_row_9 : decode prog_9_method_25_code 9 = .ok (.ifCond .eq 34, 3) := by decide +kernel
theorem d_Mo_row_12 : decode prog_9_method_25_code 12 = .ok (.iload_n 2, 1) := by decide +kernel
theorem d_Mo_row_13 : decode prog_9_method_25_code 13 = .ok (.invokestatic 109, 3) := by decide +kernel
theorem d_Mo_row_16 : decode prog_9_method_25_code 16 = .ok (.ifCond .eq 27, 3) := by decide +kernel
theorem d_Mo_row_19 : decode prog_9_method_25_code 19 = .ok (.iload_n 3, 1) := by decide +kernel
theorem d_Mo_row_20 : decode prog_9_method_25_code 20 = .ok (.iconst 1, 1) := by decide +kernel
theorem d_Mo_row_21 : decode prog_9_method_25_code 21 = .ok (.if_icmp .lt 22, 3) := by decide +kernel
theorem d_Mo_row_24 : decode prog_9_method_25_code 24 = .ok (.iload_n 3, 1) := by decide +kernel
theorem d_Mo_row_25 : decode prog_9_method_25_code 25 = .ok (.bipush 8, 2) := by decide +kernel
theorem d_Mo_row_27 : decode prog_9_method_25_code 27 = .ok (.if_icmp .gt 16, 3) := by decide +kernel
theorem d_Mo_row_30 : decode prog_9_method_25_code 30 = .ok (.iload 4, 2) := by decide +kernel
theorem d_Mo_row_32 : decode prog_9_method_25_code 32 = .ok (.iconst 1, 1) := by decide +kernel
theorem d_Mo_row_33 : decode prog_9_method_25_code 33 = .ok (.if_icmp .lt 10, 3) := by decide +kernel
theorem d_Mo_row_36 : decode prog_9_method_25_code 36 = .ok (.iload 4, 2) := by decide +kernel
theorem d_Mo_row_38 : decode prog_9_method_25_code 38 = .ok (.bipush 64, 2) := by decide +kernel
theorem d_Mo_row_40 : decode prog_9_method_25_code 40 = .ok (.if_icmp .le 5, 3) := by decide +kernel
theorem d_Mo_row_43 : decode prog_9_method_25_code 43 = .ok (.iconst 0, 1) := by decide +kernel
theorem d_Mo_row_44 : decode prog_9_method_25_code 44 = .ok (.ireturn, 1) := by decide +kernel
theorem d_Mo_row_45 : decode prog_9_method_25_code 45 = .ok (.iload 4, 2) := by decide +kernel
theorem d_Mo_row_47 : decode prog_9_method_25_code 47 = .ok (.bipush 7, 2) := by decide +kernel
theorem d_Mo_row_49 : decode prog_9_method_25_code 49 = .ok (.iadd, 1) := by decide +kernel
theorem d_Mo_row_50 : decode prog_9_method_25_code 50 = .ok (.bipush 8, 2) := by decide +kernel
theorem d_Mo_row_52 : decode prog_9_method_25_code 52 = .ok (.idiv, 1) := by decide +kernel
theorem d_Mo_row_53 : decode prog_9_method_25_code 53 = .ok (.istore 7, 2) := by decide +kernel
theorem d_Mo_row_55 : decode prog_9_method_25_code 55 = .ok (.aload_n 0, 1) := by decide +kernel
theorem d_Mo_row_56 : decode prog_9_method_25_code 56 = .ok (.getfield 112, 3) := by decide +kernel
theorem d_Mo_row_59 : decode prog_9_method_25_code 59 = .ok (.sipush 4096, 3) := by decide +kernel
theorem d_Mo_row_62 : decode prog_9_method_25_code 62 = .ok (.if_icmp .eq 15, 3) := by decide +kernel
theorem d_Mo_row_65 : decode prog_9_method_25_code 65 = .ok (.aload_n 0, 1) := by decide +kernel
theorem d_Mo_row_66 : decode prog_9_method_25_code 66 = .ok (.getfield 128, 3) := by decide +kernel
theorem d_Mo_row_69 : decode prog_9_method_25_code 69 = .ok (.iload 7, 2) := by decide +kernel
theorem d_Mo_row_71 : decode prog_9_method_25_code 71 = .ok (.iadd, 1) := by decide +kernel
theorem d_Mo_row_72 : decode prog_9_method_25_code 72 = .ok (.ldc 131, 2) := by decide +kernel
theorem d_Mo_row_74 : decode prog_9_method_25_code 74 = .ok (.if_icmp .le 5, 3) := by decide +kernel
theorem d_Mo_row_77 : decode prog_9_method_25_code 77 = .ok (.iconst 0, 1) := by decide +kernel
theorem d_Mo_row_78 : decode prog_9_method_25_code 78 = .ok (.ireturn, 1) := by decide +kernel
theorem d_Mo_row_79 : decode prog_9_method_25_code 79 = .ok (.aload_n 0, 1) := by decide +kernel
theorem d_Mo_row_80 : decode prog_9_method_25_code 80 = .ok (.dup, 1) := by decide +kernel
theorem d_Mo_row_81 : decode prog_9_method_25_code 81 = .ok (.getfield 112, 3) := by decide +kernel
theorem d_Mo_row_84 : decode prog_9_method_25_code 84 = .ok (.iconst 1, 1) := by decide +kernel
theorem d_Mo_row_85 : decode prog_9_method_25_code 85 = .ok (.iadd, 1) := by decide +kernel
theorem d_Mo_row_86 : decode prog_9_method_25_code 86 = .ok (.putfield 112, 3) := by decide +kernel
theorem d_Mo_row_89 : decode prog_9_method_25_code 89 = .ok (.aload_n 0, 1) := by decide +kernel
theorem d_Mo_row_90 : decode prog_9_method_25_code 90 = .ok (.dup, 1) := by decide +kernel
theorem d_Mo_row_91 : decode prog_9_method_25_code 91 = .ok (.getfield 128, 3) := by decide +kernel
theorem d_Mo_row_94 : decode prog_9_method_25_code 94 = .ok (.iload 7, 2) := by decide +kernel
theorem d_Mo_row_96 : decode prog_9_method_25_code 96 = .ok (.iadd, 1) := by decide +kernel
theorem d_Mo_row_97 : decode prog_9_method_25_code 97 = .ok (.putfield 128, 3) := by decide +kernel
theorem d_Mo_row_100 : decode prog_9_method_25_code 100 = .ok (.iconst 0, 1) := by decide +kernel
theorem d_Mo_row_101 : decode prog_9_method_25_code 101 = .ok (.istore 8, 2) := by decide +kernel
theorem d_Mo_row_103 : decode prog_9_method_25_code 103 = .ok (.iload 8, 2) := by decide +kernel
theorem d_Mo_row_105 : decode prog_9_method_25_code 105 = .ok (.iload 4, 2) := by decide +kernel
theorem d_Mo_row_107 : decode prog_9_method_25_code 107 = .ok (.if_icmp .ge 78, 3) := by decide +kernel
theorem d_Mo_row_110 : decode prog_9_method_25_code 110 = .ok (.lload 5, 2) := by decide +kernel
theorem d_Mo_row_112 : decode prog_9_method_25_code 112 = .ok (.bipush 63, 2) := by decide +kernel
theorem d_Mo_row_114 : decode prog_9_method_25_code 114 = .ok (.iload 8, 2) := by decide +kernel
theorem d_Mo_row_116 : decode prog_9_method_25_code 116 = .ok (.isub, 1) := by decide +kernel
theorem d_Mo_row_117 : decode prog_9_method_25_code 117 = .ok (.lshr, 1) := by decide +kernel
theorem d_Mo_row_118 : decode prog_9_method_25_code 118 = .ok (.lconst 1, 1) := by decide +kernel
theorem d_Mo_row_119 : decode prog_9_method_25_code 119 = .ok (.land, 1) := by decide +kernel
theorem d_Mo_row_120 : decode prog_9_method_25_code 120 = .ok (.lconst 1, 1) := by decide +kernel
theorem d_Mo_row_121 : decode prog_9_method_25_code 121 = .ok (.lcmp, 1) := by decide +kernel
theorem d_Mo_row_122 : decode prog_9_method_25_code 122 = .ok (.ifCond .ne 7, 3) := by decide +kernel
theorem d_Mo_row_125 : decode prog_9_method_25_code 125 = .ok (.iconst 1, 1) := by decide +kernel
theorem d_Mo_row_126 : decode prog_9_method_25_code 126 = .ok (.goto 4, 3) := by decide +kernel
theorem d_Mo_row_129 : decode prog_9_method_25_code 129 = .ok (.iconst 0, 1) := by decide +kernel
theorem d_Mo_row_130 : decode prog_9_method_25_code 130 = .ok (.istore 9, 2) := by decide +kernel
theorem d_Mo_row_132 : decode prog_9_method_25_code 132 = .ok (.iconst 0, 1) := by decide +kernel
theorem d_Mo_row_133 : decode prog_9_method_25_code 133 = .ok (.istore 10, 2) := by decide +kernel
theorem d_Mo_row_135 : decode prog_9_method_25_code 135 = .ok (.iload 10, 2) := by decide +kernel
theorem d_Mo_row_137 : decode prog_9_method_25_code 137 = .ok (.iload_n 3, 1) := by decide +kernel
theorem d_Mo_row_138 : decode prog_9_method_25_code 138 = .ok (.if_icmp .ge 41, 3) := by decide +kernel
theorem d_Mo_row_141 : decode prog_9_method_25_code 141 = .ok (.iconst 0, 1) := by decide +kernel
theorem d_Mo_row_142 : decode prog_9_method_25_code 142 = .ok (.istore 11, 2) := by decide +kernel
theorem d_Mo_row_144 : decode prog_9_method_25_code 144 = .ok (.iload 11, 2) := by decide +kernel
theorem d_Mo_row_146 : decode prog_9_method_25_code 146 = .ok (.iload_n 3, 1) := by decide +kernel
theorem d_Mo_row_147 : decode prog_9_method_25_code 147 = .ok (.if_icmp .ge 26, 3) := by decide +kernel
theorem d_Mo_row_150 : decode prog_9_method_25_code 150 = .ok (.aload_n 0, 1) := by decide +kernel
theorem d_Mo_row_151 : decode prog_9_method_25_code 151 = .ok (.iload_n 1, 1) := by decide +kernel
theorem d_Mo_row_152 : decode prog_9_method_25_code 152 = .ok (.iload_n 2, 1) := by decide +kernel
theorem d_Mo_row_153 : decode prog_9_method_25_code 153 = .ok (.iload_n 3, 1) := by decide +kernel
theorem d_Mo_row_154 : decode prog_9_method_25_code 154 = .ok (.iload 8, 2) := by decide +kernel
theorem d_Mo_row_156 : decode prog_9_method_25_code 156 = .ok (.imul, 1) := by decide +kernel
theorem d_Mo_row_157 : decode prog_9_method_25_code 157 = .ok (.iload 10, 2) := by decide +kernel
theorem d_Mo_row_159 : decode prog_9_method_25_code 159 = .ok (.iadd, 1) := by decide +kernel
theorem d_Mo_row_160 : decode prog_9_method_25_code 160 = .ok (.iload 11, 2) := by decide +kernel
theorem d_Mo_row_162 : decode prog_9_method_25_code 162 = .ok (.iload 9, 2) := by decide +kernel
theorem d_Mo_row_164 : decode prog_9_method_25_code 164 = .ok (.invokevirtual 118, 3) := by decide +kernel
theorem d_Mo_row_167 : decode prog_9_method_25_code 167 = .ok (.iinc 11 1, 3) := by decide +kernel
theorem d_Mo_row_170 : decode prog_9_method_25_code 170 = .ok (.goto (-26), 3) := by decide +kernel
theorem d_Mo_row_173 : decode prog_9_method_25_code 173 = .ok (.iinc 10 1, 3) := by decide +kernel
theorem d_Mo_row_176 : decode prog_9_method_25_code 176 = .ok (.goto (-41), 3) := by decide +kernel
theorem d_Mo_row_179 : decode prog_9_method_25_code 179 = .ok (.iinc 8 1, 3) := by decide +kernel
theorem d_Mo_row_182 : decode prog_9_method_25_code 182 = .ok (.goto (-79), 3) := by decide +kernel
theorem d_Mo_row_185 : decode prog_9_method_25_code 185 = .ok (.iconst 1, 1) := by decide +kernel
theorem d_Mo_row_186 : decode prog_9_method_25_code 186 = .ok (.ireturn, 1) := by decide +kernel
theorem d_Mo_eject_0 : decode prog_9_method_26_code 0 = .ok (.aload_n 0, 1) := by decide +kernel
theorem d_Mo_eject_1 : decode prog_9_method_26_code 1 = .ok (.iconst 0, 1) := by decide +kernel
theorem d_Mo_eject_2 : decode prog_9_method_26_code 2 = .ok (.putfield 46, 3) := by decide +kernel
theorem d_Mo_eject_5 : decode prog_9_method_26_code 5 = .ok (.iconst 0, 1) := by decide +kernel
theorem d_Mo_eject_6 : decode prog_9_method_26_code 6 = .ok (.istore_n 1, 1) := by decide +kernel
theorem d_Mo_eject_7 : decode prog_9_method_26_code 7 = .ok (.iload_n 1, 1) := by decide +kernel
theorem d_Mo_eject_8 : decode prog_9_method_26_code 8 = .ok (.aload_n 0, 1) := by decide +kernel
theorem d_Mo_eject_9 : decode prog_9_method_26_code 9 = .ok (.getfield 37, 3) := by decide +kernel
theorem d_Mo_eject_12 : decode prog_9_method_26_code 12 = .ok (.arraylength, 1) := by decide +kernel
theorem d_Mo_eject_13 : decode prog_9_method_26_code 13 = .ok (.if_icmp .ge 16, 3) := by decide +kernel
theorem d_Mo_eject_16 : decode prog_9_method_26_code 16 = .ok (.aload_n 0, 1) := by decide +kernel
theorem d_Mo_eject_17 : decode prog_9_method_26_code 17 = .ok (.getfield 37, 3) := by decide +kernel
theorem d_Mo_eject_20 : decode prog_9_method_26_code 20 = .ok (.iload_n 1, 1) := by decide +kernel
theorem d_Mo_eject_21 : decode prog_9_method_26_code 21 = .ok (.lconst 0, 1) := by decide +kernel
theorem d_Mo_eject_22 : decode prog_9_method_26_code 22 = .ok (.lastore, 1) := by decide +kernel
theorem d_Mo_eject_23 : decode prog_9_method_26_code 23 = .ok (.iinc 1 1, 3) := by decide +kernel
theorem d_Mo_eject_26 : decode prog_9_method_26_code 26 = .ok (.goto (-19), 3) := by decide +kernel
theorem d_Mo_eject_29 : decode prog_9_method_26_code 29 = .ok (.aload_n 0, 1) := by decide +kernel
theorem d_Mo_eject_30 : decode prog_9_method_26_code 30 = .ok (.iconst 0, 1) := by decide +kernel
theorem d_Mo_eject_31 : decode prog_9_method_26_code 31 = .ok (.putfield 112, 3) := by decide +kernel
theorem d_Mo_eject_34 : decode prog_9_method_26_code 34 = .ok (.aload_n 0, 1) := by decide +kernel
theorem d_Mo_eject_35 : decode prog_9_method_26_code 35 = .ok (.iconst 0, 1) := by decide +kernel
theorem d_Mo_eject_36 : decode prog_9_method_26_code 36 = .ok (.putfield 128, 3) := by decide +kernel
theorem d_Mo_eject_39 : decode prog_9_method_26_code 39 = .ok (.iconst 0, 1) := by decide +kernel
theorem d_Mo_eject_40 : decode prog_9_method_26_code 40 = .ok (.istore_n 1, 1) := by decide +kernel
theorem d_Mo_eject_41 : decode prog_9_method_26_code 41 = .ok (.iload_n 1, 1) := by decide +kernel
theorem d_Mo_eject_42 : decode prog_9_method_26_code 42 = .ok (.bipush 64, 2) := by decide +kernel
theorem d_Mo_eject_44 : decode prog_9_method_26_code 44 = .ok (.if_icmp .ge 16, 3) := by decide +kernel
theorem d_Mo_eject_47 : decode prog_9_method_26_code 47 = .ok (.aload_n 0, 1) := by decide +kernel
theorem d_Mo_eject_48 : decode prog_9_method_26_code 48 = .ok (.getfield 19, 3) := by decide +kernel
theorem d_Mo_eject_51 : decode prog_9_method_26_code 51 = .ok (.iload_n 1, 1) := by decide +kernel
theorem d_Mo_eject_52 : decode prog_9_method_26_code 52 = .ok (.iconst 0, 1) := by decide +kernel
theorem d_Mo_eject_53 : decode prog_9_method_26_code 53 = .ok (.bastore, 1) := by decide +kernel
theorem d_Mo_eject_54 : decode prog_9_method_26_code 54 = .ok (.iinc 1 1, 3) := by decide +kernel
theorem d_Mo_eject_57 : decode prog_9_method_26_code 57 = .ok (.goto (-16), 3) := by decide +kernel
theorem d_Mo_eject_60 : decode prog_9_method_26_code 60 = .ok (.return_, 1) := by decide +kernel
theorem d_Mo_line_0 : decode prog_9_method_27_code 0 = .ok (.aload_n 0, 1) := by decide +kernel
theorem d_Mo_line_1 : decode prog_9_method_27_code 1 = .ok (.iconst 0, 1) := by decide +kernel
theorem d_Mo_line_2 : decode prog_9_method_27_code 2 = .ok (.putfield 46, 3) := by decide +kernel
theorem d_Mo_line_5 : decode prog_9_method_27_code 5 = .ok (.iload_n 1, 1) := by decide +kernel
theorem d_Mo_line_6 : decode prog_9_method_27_code 6 = .ok (.ifCond .lt 21, 3) := by decide +kernel
theorem d_Mo_line_9 : decode prog_9_method_27_code 9 = .ok (.iload_n 1, 1) := by decide +kernel
theorem d_Mo_line_10 : decode prog_9_method_27_code 10 = .ok (.aload_n 0, 1) := by decide +kernel
theorem d_Mo_line_11 : decode prog_9_method_27_code 11 = .ok (.getfield 31, 3) := by decide +kernel
theorem d_Mo_line_14 : decode prog_9_method_27_code 14 = .ok (.if_icmp .ge 13, 3) := by decide +kernel
theorem d_Mo_line_17 : decode prog_9_method_27_code 17 = .ok (.iload_n 2, 1) := by decide +kernel
theorem d_Mo_line_18 : decode prog_9_method_27_code 18 = .ok (.ifCond .lt 9, 3) := by decide +kernel
theorem d_Mo_line_21 : decode prog_9_method_27_code 21 = .ok (.iload_n 2, 1) := by decide +kernel
theorem d_Mo_line_22 : decode prog_9_method_27_code 22 = .ok (.bipush 79, 2) := by decide +kernel
theorem d_Mo_line_24 : decode prog_9_method_27_code 24 = .ok (.if_icmp .le 7, 3) := by decide +kernel
theorem d_Mo_line_27 : decode prog_9_method_27_code 27 = .ok (.lconst 0, 1) := by decide +kernel
theorem d_Mo_line_28 : decode prog_9_method_27_code 28 = .ok (.goto 14, 3) := by decide +kernel
theorem d_Mo_line_31 : decode prog_9_method_27_code 31 = .ok (.aload_n 0, 1) := by decide +kernel
theorem d_Mo_line_32 : decode prog_9_method_27_code 32 = .ok (.getfield 37, 3) := by decide +kernel
theorem d_Mo_line_35 : decode prog_9_method_27_code 35 = .ok (.bipush 80, 2) := by decide +kernel
theorem d_Mo_line_37 : decode prog_9_method_27_code 37 = .ok (.iload_n 1, 1) := by decide +kernel
theorem d_Mo_line_38 : decode prog_9_method_27_code 38 = .ok (.imul, 1) := by decide +kernel
theorem d_Mo_line_39 : decode prog_9_method_27_code 39 = .ok (.iload_n 2, 1) := by decide +kernel
theorem d_Mo_line_40 : decode prog_9_method_27_code 40 = .ok (.iadd, 1) := by decide +kernel
theorem d_Mo_line_41 : decode prog_9_method_27_code 41 = .ok (.laload, 1) := by decide +kernel
theorem d_Mo_line_42 : decode prog_9_method_27_code 42 = .ok (.lreturn, 1) := by decide +kernel
theorem d_Mo_black_0 : decode prog_9_method_28_code 0 = .ok (.aload_n 0, 1) := by decide +kernel
theorem d_Mo_black_1 : decode prog_9_method_28_code 1 = .ok (.aload_n 0, 1) := by decide +kernel
theorem d_Mo_black_2 : decode prog_9_method_28_code 2 = .ok (.iload_n 1, 1) := by decide +kernel
theorem d_Mo_black_3 : decode prog_9_method_28_code 3 = .ok (.iload_n 2, 1) := by decide +kernel
theorem d_Mo_black_4 : decode prog_9_method_28_code 4 = .ok (.invokevirtual 65, 3) := by decide +kernel
theorem d_Mo_black_7 : decode prog_9_method_28_code 7 = .ok (.ifCond .eq 7, 3) := by decide +kernel
theorem d_Mo_black_10 : decode prog_9_method_28_code 10 = .ok (.iconst 0, 1) := by decide +kernel
theorem d_Mo_black_11 : decode prog_9_method_28_code 11 = .ok (.goto 4, 3) := by decide +kernel
theorem d_Mo_black_14 : decode prog_9_method_28_code 14 = .ok (.iconst 1, 1) := by decide +kernel
theorem d_Mo_black_15 : decode prog_9_method_28_code 15 = .ok (.putfield 46, 3) := by decide +kernel
theorem d_Mo_black_18 : decode prog_9_method_28_code 18 = .ok (.aload_n 0, 1) := by decide +kernel
theorem d_Mo_black_19 : decode prog_9_method_28_code 19 = .ok (.getfield 46, 3) := by decide +kernel
theorem d_Mo_black_22 : decode prog_9_method_28_code 22 = .ok (.ifCond .ne 16, 3) := by decide +kernel
theorem d_Mo_black_25 : decode prog_9_method_28_code 25 = .ok (.aload_n 0, 1) := by decide +kernel
theorem d_Mo_black_26 : decode prog_9_method_28_code 26 = .ok (.iload_n 1, 1) := by decide +kernel
theorem d_Mo_black_27 : decode prog_9_method_28_code 27 = .ok (.iload_n 2, 1) := by decide +kernel
theorem d_Mo_black_28 : decode prog_9_method_28_code 28 = .ok (.invokevirtual 132, 3) := by decide +kernel
theorem d_Mo_black_31 : decode prog_9_method_28_code 31 = .ok (.ifCond .eq 7, 3) := by decide +kernel
theorem d_Mo_black_34 : decode prog_9_method_28_code 34 = .ok (.iconst 1, 1) := by decide +kernel
theorem d_Mo_black_35 : decode prog_9_method_28_code 35 = .ok (.goto 4, 3) := by decide +kernel
theorem d_Mo_black_38 : decode prog_9_method_28_code 38 = .ok (.iconst 0, 1) := by decide +kernel
theorem d_Mo_black_39 : decode prog_9_method_28_code 39 = .ok (.ireturn, 1) := by decide +kernel
theorem d_Mo_ones_0 : decode prog_9_method_29_code 0 = .ok (.iconst 0, 1) := by decide +kernel
theorem d_Mo_ones_1 : decode prog_9_method_29_code 1 = .ok (.istore_n 2, 1) := by decide +kernel
theorem d_Mo_ones_2 : decode prog_9_method_29_code 2 = .ok (.lload_n 0, 1) := by decide +kernel
theorem d_Mo_ones_3 : decode prog_9_method_29_code 3 = .ok (.lstore_n 3, 1) := by decide +kernel
theorem d_Mo_ones_4 : decode prog_9_method_29_code 4 = .ok (.lload_n 3, 1) := by decide +kernel
theorem d_Mo_ones_5 : decode prog_9_method_29_code 5 = .ok (.lconst 0, 1) := by decide +kernel
theorem d_Mo_ones_6 : decode prog_9_method_29_code 6 = .ok (.lcmp, 1) := by decide +kernel
theorem d_Mo_ones_7 : decode prog_9_method_29_code 7 = .ok (.ifCond .eq 15, 3) := by decide +kernel
theorem d_Mo_ones_10 : decode prog_9_method_29_code 10 = .ok (.iinc 2 1, 3) := by decide +kernel
theorem d_Mo_ones_13 : decode prog_9_method_29_code 13 = .ok (.lload_n 3, 1) := by decide +kernel
theorem d_Mo_ones_14 : decode prog_9_method_29_code 14 = .ok (.lload_n 3, 1) := by decide +kernel
theorem d_Mo_ones_15 : decode prog_9_method_29_code 15 = .ok (.lconst 1, 1) := by decide +kernel
theorem d_Mo_ones_16 : decode prog_9_method_29_code 16 = .ok (.lsub, 1) := by decide +kernel
theorem d_Mo_ones_17 : decode prog_9_method_29_code 17 = .ok (.land, 1) := by decide +kernel
theorem d_Mo_ones_18 : decode prog_9_method_29_code 18 = .ok (.lstore_n 3, 1) := by decide +kernel
theorem d_Mo_ones_19 : decode prog_9_method_29_code 19 = .ok (.goto (-15), 3) := by decide +kernel
theorem d_Mo_ones_22 : decode prog_9_method_29_code 22 = .ok (.iload_n 2, 1) := by decide +kernel
theorem d_Mo_ones_23 : decode prog_9_method_29_code 23 = .ok (.ireturn, 1) := by decide +kernel
theorem d_Mo_blacksOf_0 : decode prog_9_method_30_code 0 = .ok (.iconst 0, 1) := by decide +kernel
theorem d_Mo_blacksOf_1 : decode prog_9_method_30_code 1 = .ok (.istore_n 2, 1) := by decide +kernel
theorem d_Mo_blacksOf_2 : decode prog_9_method_30_code 2 = .ok (.bipush 80, 2) := by decide +kernel
theorem d_Mo_blacksOf_4 : decode prog_9_method_30_code 4 = .ok (.iload_n 1, 1) := by decide +kernel
theorem d_Mo_blacksOf_5 : decode prog_9_method_30_code 5 = .ok (.imul, 1) := by decide +kernel
theorem d_Mo_blacksOf_6 : decode prog_9_method_30_code 6 = .ok (.istore_n 3, 1) := by decide +kernel
theorem d_Mo_blacksOf_7 : decode prog_9_method_30_code 7 = .ok (.iload_n 3, 1) := by decide +kernel
theorem d_Mo_blacksOf_8 : decode prog_9_method_30_code 8 = .ok (.bipush 80, 2) := by decide +kernel
theorem d_Mo_blacksOf_10 : decode prog_9_method_30_code 10 = .ok (.iload_n 1, 1) := by decide +kernel
theorem d_Mo_blacksOf_11 : decode prog_9_method_30_code 11 = .ok (.imul, 1) := by decide +kernel
theorem d_Mo_blacksOf_12 : decode prog_9_method_30_code 12 = .ok (.bipush 80, 2) := by decide +kernel
theorem d_Mo_blacksOf_14 : decode prog_9_method_30_code 14 = .ok (.iadd, 1) := by decide +kernel
theorem d_Mo_blacksOf_15 : decode prog_9_method_30_code 15 = .ok (.if_icmp .ge 21, 3) := by decide +kernel
theorem d_Mo_blacksOf_18 : decode prog_9_method_30_code 18 = .ok (.iload_n 2, 1) := by decide +kernel
theorem d_Mo_blacksOf_19 : decode prog_9_method_30_code 19 = .ok (.aload_n 0, 1) := by decide +kernel
theorem d_Mo_blacksOf_20 : decode prog_9_method_30_code 20 = .ok (.getfield 37, 3) := by decide +kernel
theorem d_Mo_blacksOf_23 : decode prog_9_method_30_code 23 = .ok (.iload_n 3, 1) := by decide +kernel
theorem d_Mo_blacksOf_24 : decode prog_9_method_30_code 24 = .ok (.laload, 1) := by decide +kernel
theorem d_Mo_blacksOf_25 : decode prog_9_method_30_code 25 = .ok (.invokestatic 135, 3) := by decide +kernel
theorem d_Mo_blacksOf_28 : decode prog_9_method_30_code 28 = .ok (.iadd, 1) := by decide +kernel
theorem d_Mo_blacksOf_29 : decode prog_9_method_30_code 29 = .ok (.istore_n 2, 1) := by decide +kernel
theorem d_Mo_blacksOf_30 : decode prog_9_method_30_code 30 = .ok (.iinc 3 1, 3) := by decide +kernel
theorem d_Mo_blacksOf_33 : decode prog_9_method_30_code 33 = .ok (.goto (-26), 3) := by decide +kernel
theorem d_Mo_blacksOf_36 : decode prog_9_method_30_code 36 = .ok (.iload_n 2, 1) := by decide +kernel
theorem d_Mo_blacksOf_37 : decode prog_9_method_30_code 37 = .ok (.ireturn, 1) := by decide +kernel
theorem d_Mo_count_0 : decode prog_9_method_31_code 0 = .ok (.aload_n 0, 1) := by decide +kernel
theorem d_Mo_count_1 : decode prog_9_method_31_code 1 = .ok (.iconst 0, 1) := by decide +kernel
theorem d_Mo_count_2 : decode prog_9_method_31_code 2 = .ok (.putfield 46, 3) := by decide +kernel
theorem d_Mo_count_5 : decode prog_9_method_31_code 5 = .ok (.iconst 0, 1) := by decide +kernel
theorem d_Mo_count_6 : decode prog_9_method_31_code 6 = .ok (.istore_n 3, 1) := by decide +kernel
theorem d_Mo_count_7 : decode prog_9_method_31_code 7 = .ok (.iload_n 1, 1) := by decide +kernel
theorem d_Mo_count_8 : decode prog_9_method_31_code 8 = .ok (.iconst 0, 1) := by decide +kernel
theorem d_Mo_count_9 : decode prog_9_method_31_code 9 = .ok (.invokestatic 122, 3) := by decide +kernel
theorem d_Mo_count_12 : decode prog_9_method_31_code 12 = .ok (.istore 4, 2) := by decide +kernel
theorem d_Mo_count_14 : decode prog_9_method_31_code 14 = .ok (.iload 4, 2) := by decide +kernel
theorem d_Mo_count_16 : decode prog_9_method_31_code 16 = .ok (.iload_n 2, 1) := by decide +kernel
theorem d_Mo_count_17 : decode prog_9_method_31_code 17 = .ok (.aload_n 0, 1) := by decide +kernel
theorem d_Mo_count_18 : decode prog_9_method_31_code 18 = .ok (.getfield 31, 3) := by decide +kernel
theorem d_Mo_count_21 : decode prog_9_method_31_code 21 = .ok (.iconst 1, 1) := by decide +kernel
theorem d_Mo_count_22 : decode prog_9_method_31_code 22 = .ok (.isub, 1) := by decide +kernel
theorem d_Mo_count_23 : decode prog_9_method_31_code 23 = .ok (.invokestatic 125, 3) := by decide +kernel
theorem d_Mo_count_26 : decode prog_9_method_31_code 26 = .ok (.if_icmp .gt 18, 3) := by decide +kernel
theorem d_Mo_count_29 : decode prog_9_method_31_code 29 = .ok (.iload_n 3, 1) := by decide +kernel
theorem d_Mo_count_30 : decode prog_9_method_31_code 30 = .ok (.aload_n 0, 1) := by decide +kernel
theorem d_Mo_count_31 : decode prog_9_method_31_code 31 = .ok (.iload 4, 2) := by decide +kernel
theorem d_Mo_count_33 : decode prog_9_method_31_code 33 = .ok (.invokevirtual 139, 3) := by decide +kernel
theorem d_Mo_count_36 : decode prog_9_method_31_code 36 = .ok (.iadd, 1) := by decide +kernel
theorem d_Mo_count_37 : decode prog_9_method_31_code 37 = .ok (.istore_n 3, 1) := by decide +kernel
theorem d_Mo_count_38 : decode prog_9_method_31_code 38 = .ok (.iinc 4 1, 3) := by decide +kernel
theorem d_Mo_count_41 : decode prog_9_method_31_code 41 = .ok (.goto (-27), 3) := by decide +kernel
theorem d_Mo_count_44 : decode prog_9_method_31_code 44 = .ok (.iload_n 3, 1) := by decide +kernel
theorem d_Mo_count_45 : decode prog_9_method_31_code 45 = .ok (.ireturn, 1) := by decide +kernel
theorem d_Mo_top_0 : decode prog_9_method_32_code 0 = .ok (.aload_n 0, 1) := by decide +kernel
theorem d_Mo_top_1 : decode prog_9_method_32_code 1 = .ok (.iconst 0, 1) := by decide +kernel
theorem d_Mo_top_2 : decode prog_9_method_32_code 2 = .ok (.putfield 46, 3) := by decide +kernel
theorem d_Mo_top_5 : decode prog_9_method_32_code 5 = .ok (.iload_n 1, 1) := by decide +kernel
theorem d_Mo_top_6 : decode prog_9_method_32_code 6 = .ok (.iconst 0, 1) := by decide +kernel
theorem d_Mo_top_7 : decode prog_9_method_32_code 7 = .ok (.invokestatic 122, 3) := by decide +kernel
theorem d_Mo_top_10 : decode prog_9_method_32_code 10 = .ok (.istore_n 2, 1) := by decide +kernel
theorem d_Mo_top_11 : decode prog_9_method_32_code 11 = .ok (.iload_n 2, 1) := by decide +kernel
theorem d_Mo_top_12 : decode prog_9_method_32_code 12 = .ok (.aload_n 0, 1) := by decide +kernel
theorem d_Mo_top_13 : decode prog_9_method_32_code 13 = .ok (.getfield 31, 3) := by decide +kernel
theorem d_Mo_top_16 : decode prog_9_method_32_code 16 = .ok (.if_icmp .ge 19, 3) := by decide +kernel
theorem d_Mo_top_19 : decode prog_9_method_32_code 19 = .ok (.aload_n 0, 1) := by decide +kernel
theorem d_Mo_top_20 : decode prog_9_method_32_code 20 = .ok (.iload_n 2, 1) := by decide +kernel
theorem d_Mo_top_21 : decode prog_9_method_32_code 21 = .ok (.invokevirtual 139, 3) := by decide +kernel
theorem d_Mo_top_24 : decode prog_9_method_32_code 24 = .ok (.ifCond .le 5, 3) := by decide +kernel
theorem d_Mo_top_27 : decode prog_9_method_32_code 27 = .ok (.iload_n 2, 1) := by decide +kernel
theorem d_Mo_top_28 : decode prog_9_method_32_code 28 = .ok (.ireturn, 1) := by decide +kernel
theorem d_Mo_top_29 : decode prog_9_method_32_code 29 = .ok (.iinc 2 1, 3) := by decide +kernel
theorem d_Mo_top_32 : decode prog_9_method_32_code 32 = .ok (.goto (-21), 3) := by decide +kernel
theorem d_Mo_top_35 : decode prog_9_method_32_code 35 = .ok (.iconst (-1), 1) := by decide +kernel
theorem d_Mo_top_36 : decode prog_9_method_32_code 36 = .ok (.ireturn, 1) := by decide +kernel
theorem d_Mo_of_0 : decode prog_9_method_33_code 0 = .ok (.aload_n 0, 1) := by decide +kernel
theorem d_Mo_of_1 : decode prog_9_method_33_code 1 = .ok (.iconst 0, 1) := by decide +kernel
theorem d_Mo_of_2 : decode prog_9_method_33_code 2 = .ok (.putfield 46, 3) := by decide +kernel
theorem d_Mo_of_5 : decode prog_9_method_33_code 5 = .ok (.aload_n 0, 1) := by decide +kernel
theorem d_Mo_of_6 : decode prog_9_method_33_code 6 = .ok (.iload_n 1, 1) := by decide +kernel
theorem d_Mo_of_7 : decode prog_9_method_33_code 7 = .ok (.invokevirtual 101, 3) := by decide +kernel
theorem d_Mo_of_10 : decode prog_9_method_33_code 10 = .ok (.ifCond .eq 12, 3) := by decide +kernel
theorem d_Mo_of_13 : decode prog_9_method_33_code 13 = .ok (.iload_n 2, 1) := by decide +kernel
theorem d_Mo_of_14 : decode prog_9_method_33_code 14 = .ok (.ifCond .lt 8, 3) := by decide +kernel
theorem d_Mo_of_17 : decode prog_9_method_33_code 17 = .ok (.iload_n 2, 1) := by decide +kernel
theorem d_Mo_of_18 : decode prog_9_method_33_code 18 = .ok (.iconst 3, 1) := by decide +kernel
theorem d_Mo_of_19 : decode prog_9_method_33_code 19 = .ok (.if_icmp .le 5, 3) := by decide +kernel
theorem d_Mo_of_22 : decode prog_9_method_33_code 22 = .ok (.iconst (-1), 1) := by decide +kernel
theorem d_Mo_of_23 : decode prog_9_method_33_code 23 = .ok (.ireturn, 1) := by decide +kernel
theorem d_Mo_of_24 : decode prog_9_method_33_code 24 = .ok (.iload_n 2, 1) := by decide +kernel
theorem d_Mo_of_25 : decode prog_9_method_33_code 25 = .ok (.iconst 2, 1) := by decide +kernel
theorem d_Mo_of_26 : decode prog_9_method_33_code 26 = .ok (.if_icmp .ne 56, 3) := by decide +kernel
theorem d_Mo_of_29 : decode prog_9_method_33_code 29 = .ok (.iconst 0, 1) := by decide +kernel
theorem d_Mo_of_30 : decode prog_9_method_33_code 30 = .ok (.istore_n 3, 1) := by decide +kernel
theorem d_Mo_of_31 : decode prog_9_method_33_code 31 = .ok (.iconst 2, 1) := by decide +kernel
theorem d_Mo_of_32 : decode prog_9_method_33_code 32 = .ok (.aload_n 0, 1) := by decide +kernel
theorem d_Mo_of_33 : decode prog_9_method_33_code 33 = .ok (.getfield 16, 3) := by decide +kernel
theorem d_Mo_of_36 : decode prog_9_method_33_code 36 = .ok (.iload_n 1, 1) := by decide +kernel
theorem d_Mo_of_37 : decode prog_9_method_33_code 37 = .ok (.iaload, 1) := by decide +kernel
theorem d_Mo_of_38 : decode prog_9_method_33_code 38 = .ok (.imul, 1) := by decide +kernel
theorem d_Mo_of_39 : decode prog_9_method_33_code 39 = .ok (.istore 4, 2) := by decide +kernel
theorem d_Mo_of_41 : decode prog_9_method_33_code 41 = .ok (.iload 4, 2) := by decide +kernel
theorem d_Mo_of_43 : decode prog_9_method_33_code 43 = .ok (.iconst 2, 1) := by decide +kernel
theorem d_Mo_of_44 : decode prog_9_method_33_code 44 = .ok (.aload_n 0, 1) := by decide +kernel
theorem d_Mo_of_45 : decode prog_9_method_33_code 45 = .ok (.getfield 16, 3) := by decide +kernel
theorem d_Mo_of_48 : decode prog_9_method_33_code 48 = .ok (.iload_n 1, 1) := by decide +kernel
theorem d_Mo_of_49 : decode prog_9_method_33_code 49 = .ok (.iaload, 1) := by decide +kernel
theorem d_Mo_of_50 : decode prog_9_method_33_code 50 = .ok (.aload_n 0, 1) := by decide +kernel
theorem d_Mo_of_51 : decode prog_9_method_33_code 51 = .ok (.getfield 13, 3) := by decide +kernel
theorem d_Mo_of_54 : decode prog_9_method_33_code 54 = .ok (.iload_n 1, 1) := by decide +kernel
theorem d_Mo_of_55 : decode prog_9_method_33_code 55 = .ok (.iaload, 1) := by decide +kernel
theorem d_Mo_of_56 : decode prog_9_method_33_code 56 = .ok (.iadd, 1) := by decide +kernel
theorem d_Mo_of_57 : decode prog_9_method_33_code 57 = .ok (.imul, 1) := by decide +kernel
theorem d_Mo_of_58 : decode prog_9_method_33_code 58 = .ok (.if_icmp .ge 22, 3) := by decide +kernel
theorem d_Mo_of_61 : decode prog_9_method_33_code 61 = .ok (.iload_n 3, 1) := by decide +kernel
theorem d_Mo_of_62 : decode prog_9_method_33_code 62 = .ok (.aload_n 0, 1) := by decide +kernel
theorem d_Mo_of_63 : decode prog_9_method_33_code 63 = .ok (.getfield 23, 3) := by decide +kernel
theorem d_Mo_of_66 : decode prog_9_method_33_code 66 = .ok (.iload 4, 2) := by decide +kernel
theorem d_Mo_of_68 : decode prog_9_method_33_code 68 = .ok (.laload, 1) := by decide +kernel
theorem d_Mo_of_69 : decode prog_9_method_33_code 69 = .ok (.invokestatic 135, 3) := by decide +kernel
theorem d_Mo_of_72 : decode prog_9_method_33_code 72 = .ok (.iadd, 1) := by decide +kernel
theorem d_Mo_of_73 : decode prog_9_method_33_code 73 = .ok (.istore_n 3, 1) := by decide +kernel
theorem d_Mo_of_74 : decode prog_9_method_33_code 74 = .ok (.iinc 4 1, 3) := by decide +kernel
theorem d_Mo_of_77 : decode prog_9_method_33_code 77 = .ok (.goto (-36), 3) := by decide +kernel
theorem d_Mo_of_80 : decode prog_9_method_33_code 80 = .ok (.iload_n 3, 1) := by decide +kernel
theorem d_Mo_of_81 : decode prog_9_method_33_code 81 = .ok (.ireturn, 1) := by decide +kernel
theorem d_Mo_of_82 : decode prog_9_method_33_code 82 = .ok (.iload_n 2, 1) := by decide +kernel
theorem d_Mo_of_83 : decode prog_9_method_33_code 83 = .ok (.ifCond .ne 12, 3) := by decide +kernel
theorem d_Mo_of_86 : decode prog_9_method_33_code 86 = .ok (.aload_n 0, 1) := by decide +kernel
theorem d_Mo_of_87 : decode prog_9_method_33_code 87 = .ok (.getfield 7, 3) := by decide +kernel
theorem d_Mo_of_90 : decode prog_9_method_33_code 90 = .ok (.iload_n 1, 1) := by decide +kernel
theorem d_Mo_of_91 : decode prog_9_method_33_code 91 = .ok (.iaload, 1) := by decide +kernel
theorem d_Mo_of_92 : decode prog_9_method_33_code 92 = .ok (.goto 31, 3) := by decide +kernel
theorem d_Mo_of_95 : decode prog_9_method_33_code 95 = .ok (.iload_n 2, 1) := by decide +kernel
theorem d_Mo_of_96 : decode prog_9_method_33_code 96 = .ok (.iconst 1, 1) := by decide +kernel
theorem d_Mo_of_97 : decode prog_9_method_33_code 97 = .ok (.if_icmp .ne 12, 3) := by decide +kernel
theorem d_Mo_of_100 : decode prog_9_method_33_code 100 = .ok (.aload_n 0, 1) := by decide +kernel
theorem d_Mo_of_101 : decode prog_9_method_33_code 101 = .ok (.getfield 13, 3) := by decide +kernel
theorem d_Mo_of_104 : decode prog_9_method_33_code 104 = .ok (.iload_n 1, 1) := by decide +kernel
theorem d_Mo_of_105 : decode prog_9_method_33_code 105 = .ok (.iaload, 1) := by decide +kernel
theorem d_Mo_of_106 : decode prog_9_method_33_code 106 = .ok (.goto 17, 3) := by decide +kernel
theorem d_Mo_of_109 : decode prog_9_method_33_code 109 = .ok (.aload_n 0, 1) := by decide +kernel
theorem d_Mo_of_110 : decode prog_9_method_33_code 110 = .ok (.getfield 19, 3) := by decide +kernel
theorem d_Mo_of_113 : decode prog_9_method_33_code 113 = .ok (.iload_n 1, 1) := by decide +kernel
theorem d_Mo_of_114 : decode prog_9_method_33_code 114 = .ok (.baload, 1) := by decide +kernel
theorem d_Mo_of_115 : decode prog_9_method_33_code 115 = .ok (.ifCond .eq 7, 3) := by decide +kernel
theorem d_Mo_of_118 : decode prog_9_method_33_code 118 = .ok (.iconst 1, 1) := by decide +kernel
theorem d_Mo_of_119 : decode prog_9_method_33_code 119 = .ok (.goto 4, 3) := by decide +kernel
theorem d_Mo_of_122 : decode prog_9_method_33_code 122 = .ok (.iconst 0, 1) := by decide +kernel
theorem d_Mo_of_123 : decode prog_9_method_33_code 123 = .ok (.ireturn, 1) := by decide +kernel
theorem d_Mo_look_0 : decode prog_9_method_34_code 0 = .ok (.aload_n 0, 1) := by decide +kernel
theorem d_Mo_look_1 : decode prog_9_method_34_code 1 = .ok (.iconst 0, 1) := by decide +kernel
theorem d_Mo_look_2 : decode prog_9_method_34_code 2 = .ok (.putfield 46, 3) := by decide +kernel
theorem d_Mo_look_5 : decode prog_9_method_34_code 5 = .ok (.iload_n 1, 1) := by decide +kernel
theorem d_Mo_look_6 : decode prog_9_method_34_code 6 = .ok (.tableswitch 138 0 11 #[62, 67, 72, 77, 82, 87, 92, 97, 102, 107, 120, 133], 62) := by decide +kernel
theorem d_Mo_look_68 : decode prog_9_method_34_code 68 = .ok (.aload_n 0, 1) := by decide +kernel
theorem d_Mo_look_69 : decode prog_9_method_34_code 69 = .ok (.getfield 27, 3) := by decide +kernel
theorem d_Mo_look_72 : decode prog_9_method_34_code 72 = .ok (.ireturn, 1) := by decide +kernel
theorem d_Mo_look_73 : decode prog_9_method_34_code 73 = .ok (.aload_n 0, 1) := by decide +kernel
theorem d_Mo_look_74 : decode prog_9_method_34_code 74 = .ok (.getfield 31, 3) := by decide +kernel
theorem d_Mo_look_77 : decode prog_9_method_34_code 77 = .ok (.ireturn, 1) := by decide +kernel
theorem d_Mo_look_78 : decode prog_9_method_34_code 78 = .ok (.aload_n 0, 1) := by decide +kernel
theorem d_Mo_look_79 : decode prog_9_method_34_code 79 = .ok (.getfield 34, 3) := by decide +kernel
theorem d_Mo_look_82 : decode prog_9_method_34_code 82 = .ok (.ireturn, 1) := by decide +kernel
theorem d_Mo_look_83 : decode prog_9_method_34_code 83 = .ok (.aload_n 0, 1) := by decide +kernel
theorem d_Mo_look_84 : decode prog_9_method_34_code 84 = .ok (.getfield 112, 3) := by decide +kernel
theorem d_Mo_look_87 : decode prog_9_method_34_code 87 = .ok (.ireturn, 1) := by decide +kernel
theorem d_Mo_look_88 : decode prog_9_method_34_code 88 = .ok (.aload_n 0, 1) := by decide +kernel
theorem d_Mo_look_89 : decode prog_9_method_34_code 89 = .ok (.getfield 128, 3) := by decide +kernel
theorem d_Mo_look_92 : decode prog_9_method_34_code 92 = .ok (.ireturn, 1) := by decide +kernel
theorem d_Mo_look_93 : decode prog_9_method_34_code 93 = .ok (.aload_n 0, 1) := by decide +kernel
theorem d_Mo_look_94 : decode prog_9_method_34_code 94 = .ok (.getfield 95, 3) := by decide +kernel
theorem d_Mo_look_97 : decode prog_9_method_34_code 97 = .ok (.ireturn, 1) := by decide +kernel
theorem d_Mo_look_98 : decode prog_9_method_34_code 98 = .ok (.aload_n 0, 1) := by decide +kernel
theorem d_Mo_look_99 : decode prog_9_method_34_code 99 = .ok (.getfield 98, 3) := by decide +kernel
theorem d_Mo_look_102 : decode prog_9_method_34_code 102 = .ok (.ireturn, 1) := by decide +kernel
theorem d_Mo_look_103 : decode prog_9_method_34_code 103 = .ok (.aload_n 0, 1) := by decide +kernel
theorem d_Mo_look_104 : decode prog_9_method_34_code 104 = .ok (.getfield 51, 3) := by decide +kernel
theorem d_Mo_look_107 : decode prog_9_method_34_code 107 = .ok (.ireturn, 1) := by decide +kernel
theorem d_Mo_look_108 : decode prog_9_method_34_code 108 = .ok (.aload_n 0, 1) := by decide +kernel
theorem d_Mo_look_109 : decode prog_9_method_34_code 109 = .ok (.getfield 58, 3) := by decide +kernel
theorem d_Mo_look_112 : decode prog_9_method_34_code 112 = .ok (.ireturn, 1) := by decide +kernel
theorem d_Mo_look_113 : decode prog_9_method_34_code 113 = .ok (.aload_n 0, 1) := by decide +kernel
theorem d_Mo_look_114 : decode prog_9_method_34_code 114 = .ok (.getfield 75, 3) := by decide +kernel
theorem d_Mo_look_117 : decode prog_9_method_34_code 117 = .ok (.ifCond .eq 7, 3) := by decide +kernel
theorem d_Mo_look_120 : decode prog_9_method_34_code 120 = .ok (.iconst 1, 1) := by decide +kernel
theorem d_Mo_look_121 : decode prog_9_method_34_code 121 = .ok (.goto 4, 3) := by decide +kernel
theorem d_Mo_look_124 : decode prog_9_method_34_code 124 = .ok (.iconst 0, 1) := by decide +kernel
theorem d_Mo_look_125 : decode prog_9_method_34_code 125 = .ok (.ireturn, 1) := by decide +kernel
theorem d_Mo_look_126 : decode prog_9_method_34_code 126 = .ok (.aload_n 0, 1) := by decide +kernel
theorem d_Mo_look_127 : decode prog_9_method_34_code 127 = .ok (.getfield 86, 3) := by decide +kernel
theorem d_Mo_look_130 : decode prog_9_method_34_code 130 = .ok (.ifCond .eq 7, 3) := by decide +kernel
theorem d_Mo_look_133 : decode prog_9_method_34_code 133 = .ok (.iconst 1, 1) := by decide +kernel
theorem d_Mo_look_134 : decode prog_9_method_34_code 134 = .ok (.goto 4, 3) := by decide +kernel
theorem d_Mo_look_137 : decode prog_9_method_34_code 137 = .ok (.iconst 0, 1) := by decide +kernel
theorem d_Mo_look_138 : decode prog_9_method_34_code 138 = .ok (.ireturn, 1) := by decide +kernel
theorem d_Mo_look_139 : decode prog_9_method_34_code 139 = .ok (.aload_n 0, 1) := by decide +kernel
theorem d_Mo_look_140 : decode prog_9_method_34_code 140 = .ok (.getfield 89, 3) := by decide +kernel
theorem d_Mo_look_143 : decode prog_9_method_34_code 143 = .ok (.ireturn, 1) := by decide +kernel
theorem d_Mo_look_144 : decode prog_9_method_34_code 144 = .ok (.iconst (-1), 1) := by decide +kernel
theorem d_Mo_look_145 : decode prog_9_method_34_code 145 = .ok (.ireturn, 1) := by decide +kernel
end
section
/-! An entry for methods of the JDK. -/
theorem hp_enterF {l : Launch} {y : MethodName} {cc : ByteArray} {maxL : Nat} {ret : Option FieldType} {Ts : List Cond} {rm : Room} {av : List Value} {B : State → Prop} {Qc : Array Value → State → Outcome → State → Prop} {mc ms : Nat} {free : Addr → Prop} (hy : plainFor y = true) (hn : (lg_sl av).length ≤ maxL)
    (body : ∀ (p : Program) (e : Env) (s : State) (m : MethodId) (below : List Frame) (meth : Method) (c : Code) (ls : Array Slot), CallFix p m c cc maxL s av.toArray Ts y.cls → meth.sig.returnType = ret → meth.locks = false → meth.name = y.name → B s → lv_has ls maxL (lv_args 0 av) →
      W p l e rm s m av.toArray below meth c s.heap [] 0 0 (MQ below Qc av.toArray s mc ms free) (F0 m 0 ls [])) : Met l y (.code y cc maxL ret :: Ts) rm (va_Pc av B) Qc mc ms free := by
  refine va_MetF (cc := cc) (maxL := maxL) (ret := ret) hy rfl ?_
  intro p e s m args below meth c s₁ B' hml hv
  obtain ⟨rfl, hB⟩ := hv
  have hts := atoms_spec (ws := .code y cc maxL ret :: Ts) B'.pre
  have hown : s.vm.findClass y.cls = some m.cls := findClass_of_methodNamed B'.named
  have hin : meth.name = y.name := (name_of_methodNamed B'.named B'.method).1
  rw [lg_entry_eq]
  exact body p e s m below meth c _ ⟨B'.exec, B'.bytes, hml, hown, fun w hw => hts w (List.mem_cons_of_mem _ hw)⟩ B'.returns B'.notSynchronized hin hB (lv_entry av hn)
theorem hp_J.cast {G : hp_G} {A : Nat → Prop} {h h' : hp_T} {s : State} {H : Heap} {locs : List Loc} (hJ : hp_J G A h' s H locs) (e : h = h') : hp_J G A h s H locs := e ▸ hJ
/-- where two ways meet with an int on the stack -/
theorem hp_cut {p : Program} {l : Launch} {e : Env} {R : Room} {s : State} {m : MethodId} {args : Array Value} {below : List Frame} {meth : Method} {c : Code} {H : Heap} {locs : List Loc} {cells slots : Nat} {Q : State → Prop} {ls : Array Slot} {pc : Nat} {st : List Value} (P : Int32 → Prop) (tgt : Nat) (rest : List Value)
    (first : (∀ v : Int32, P v → W p l e R s m args below meth c H locs cells slots Q (F0 m tgt ls (.int v :: rest))) → W p l e R s m args below meth c H locs cells slots Q (F0 m pc ls st))
    (second : ∀ v : Int32, P v → W p l e R s m args below meth c H locs cells slots Q (F0 m tgt ls (.int v :: rest))) : W p l e R s m args below meth c H locs cells slots Q (F0 m pc ls st) := first second
theorem hp_cutL {p : Program} {l : Launch} {e : Env} {R : Room} {s : State} {m : MethodId} {args : Array Value} {below : List Frame} {meth : Method} {c : Code} {H : Heap} {locs : List Loc} {cells slots : Nat} {Q : State → Prop} {ls : Array Slot} {pc : Nat} {st : List Value} (P : Int64 → Prop) (tgt : Nat) (rest : List Value)
    (first : (∀ v : Int64, P v → W p l e R s m args below meth c H locs cells slots Q (F0 m tgt ls (.long v :: rest))) → W p l e R s m args below meth c H locs cells slots Q (F0 m pc ls st))
    (second : ∀ v : Int64, P v → W p l e R s m args below meth c H locs cells slots Q (F0 m tgt ls (.long v :: rest))) : W p l e R s m args below meth c H locs cells slots Q (F0 m pc ls st) := first second
end
section
/-! Leaves: numbers, boxes. -/
theorem nl {a b : Nat} (h : Nat.ble a b = true) : a ≤ b := Nat.le_of_ble_eq_true h
theorem z_0 : (0 : Int32).toInt = 0 := rfl
theorem z_1 : (1 : Int32).toInt = 1 := rfl
theorem z_m1 : (-1 : Int32).toInt = -1 := rfl
theorem z_64 : (64 : Int32).toInt = 64 := rfl
theorem z_16 : (16 : Int32).toInt = 16 := rfl
def q_is (b : Prop) [Decidable b] : Int32 := if b then 1 else 0
theorem q_is_t {b : Prop} [Decidable b] (h : b) : (1 : Int32) = q_is b := (if_pos h).symm
theorem q_is_f {b : Prop} [Decidable b] (h : ¬ b) : (0 : Int32) = q_is b := (if_neg h).symm
theorem q_is_ne {b : Prop} [Decidable b] : ¬ q_is b = 0 ↔ b := by
  unfold q_is
  split
  · exact ⟨fun _ => ‹b›, fun _ => by decide⟩
  · exact ⟨fun h => absurd rfl h, fun h => absurd h ‹¬ b›⟩
theorem q_is_0 {b : Prop} [Decidable b] : q_is b = 0 ↔ ¬ b := by
  unfold q_is
  split
  · exact ⟨fun h => absurd h (by decide), fun h => absurd ‹b› h⟩
  · exact ⟨fun _ => ‹¬ b›, fun _ => rfl⟩
theorem zz0 : hp_Z BIG (gg (fun _ => 0) (fun _ _ => 0) (fun _ => 0)) := zz
def q_max (x y : Int32) : Int32 := if x < y then y else x
def q_min (x y : Int32) : Int32 := if y < x then y else x
theorem q_max_z (x y : Int32) : (q_max x y).toInt = max x.toInt y.toInt := by
  unfold q_max
  split
  · rename_i h
    have h := z_lt.mp h
    omega
  · rename_i h
    have h : ¬ x.toInt < y.toInt := fun q => h (z_lt.mpr q)
    omega
theorem q_min_z (x y : Int32) : (q_min x y).toInt = min x.toInt y.toInt := by
  unfold q_min
  split
  · rename_i h
    have h := z_lt.mp h
    omega
  · rename_i h
    have h : ¬ y.toInt < x.toInt := fun q => h (z_lt.mpr q)
    omega

set_option maxHeartbeats 4000000 in
set_option maxRecDepth 100000 in
/-- low <= n <= high -/
theorem c_BP_isWithin (l : Launch) (lo n hi : Int32)  : Met l y_BP_isWithin (.code y_BP_isWithin prog_1_method_21_code 3 (some .boolean) :: BIG) ({ frames := 0, cells := 0, slots := 0, locals := 0 }) (va_Pc [.int lo, .int n, .int hi] (fun _ => True)) (hp_QR (some (.int (q_is (lo ≤ n ∧ n ≤ hi))))) 0 0 (fun _ => False) := by
  refine hp_enter (by decide) (Nat.le_of_ble_eq_true rfl) ?_
  intro p e s m below meth c ls S hr hlk hin hI hl
  have hl : lv_has ls 3 [(0, .int lo), (1, .int n), (2, .int hi)] := hl
  refine lv_iload_n S.1 S.2.1 d_BP_isWithin_0 rfl (lv_at hl 0 rfl) ?_
  refine lv_iload_n S.1 S.2.1 d_BP_isWithin_1 rfl (lv_at hl 1 rfl) ?_
  refine lv_icmp_gt (tgt := 14) S.1 S.2.1 d_BP_isWithin_2 (by decide) (fun c_2 => ?_) (fun c_2 => ?_)
  · refine lv_iconst (v := 0) S.1 S.2.1 d_BP_isWithin_14 (by decide) ?_
    exact hp_retRz S hr hlk d_BP_isWithin_15 (by decide) (q_is_f (by simp only [z_lt, z_le, z_eq, z_0] at c_2 ⊢; omega))
  · refine lv_iload_n S.1 S.2.1 d_BP_isWithin_5 rfl (lv_at hl 1 rfl) ?_
    refine lv_iload_n S.1 S.2.1 d_BP_isWithin_6 rfl (lv_at hl 2 rfl) ?_
    refine lv_icmp_gt (tgt := 14) S.1 S.2.1 d_BP_isWithin_7 (by decide) (fun c_7 => ?_) (fun c_7 => ?_)
    · refine lv_iconst (v := 0) S.1 S.2.1 d_BP_isWithin_14 (by decide) ?_
      exact hp_retRz S hr hlk d_BP_isWithin_15 (by decide) (q_is_f (by simp only [z_lt, z_le, z_eq, z_0] at c_2 c_7 ⊢; omega))
    · refine lv_iconst (v := 1) S.1 S.2.1 d_BP_isWithin_10 (by decide) ?_
      refine lv_goto (tgt := 15) S.1 S.2.1 d_BP_isWithin_11 (by decide) ?_
      exact hp_retRz S hr hlk d_BP_isWithin_15 (by decide) (q_is_t (by simp only [z_lt, z_le, z_eq, z_0] at c_2 c_7 ⊢; omega))

set_option maxHeartbeats 4000000 in
set_option maxRecDepth 100000 in
/-- n, but low .. high -/
theorem c_BP_within (l : Launch) (lo n hi : Int32)  : Met l y_BP_within (.code y_BP_within prog_1_method_22_code 3 (some .int) :: BIG) ({ frames := 1, cells := 0, slots := 0, locals := 21 }) (va_Pc [.int lo, .int n, .int hi] (fun _ => True)) (hp_QR (some (.int (q_max lo (q_min n hi))))) 0 0 (fun _ => False) := by
  refine hp_enter (by decide) (Nat.le_of_ble_eq_true rfl) ?_
  intro p e s m below meth c ls S hr hlk hin hI hl
  have hl : lv_has ls 3 [(0, .int lo), (1, .int n), (2, .int hi)] := hl
  refine lv_iload_n S.1 S.2.1 d_BP_within_0 rfl (lv_at hl 0 rfl) ?_
  refine lv_iload_n S.1 S.2.1 d_BP_within_1 rfl (lv_at hl 1 rfl) ?_
  refine lv_iload_n S.1 S.2.1 d_BP_within_2 rfl (lv_at hl 2 rfl) ?_
  refine hp_min S l_BP_162 hl.1 d_BP_within_3 ⟨nl rfl, nl rfl, nl rfl, nl rfl⟩ ?_
  refine hp_max S l_BP_168 hl.1 d_BP_within_6 ⟨nl rfl, nl rfl, nl rfl, nl rfl⟩ ?_
  exact hp_retRi S hr hlk d_BP_within_9 rfl

set_option maxHeartbeats 4000000 in
set_option maxRecDepth 100000 in
/-- 1 if so -/
theorem c_BP_oneIf (l : Launch) (b : Int32)  : Met l y_BP_oneIf (.code y_BP_oneIf prog_1_method_23_code 1 (some .int) :: BIG) ({ frames := 0, cells := 0, slots := 0, locals := 0 }) (va_Pc [.int b] (fun _ => True)) (hp_QR (some (.int (q_is (¬ b = 0))))) 0 0 (fun _ => False) := by
  refine hp_enter (by decide) (Nat.le_of_ble_eq_true rfl) ?_
  intro p e s m below meth c ls S hr hlk hin hI hl
  have hl : lv_has ls 1 [(0, .int b)] := hl
  refine lv_iload_n S.1 S.2.1 d_BP_oneIf_0 rfl (lv_at hl 0 rfl) ?_
  refine lv_if_eq (tgt := 8) S.1 S.2.1 d_BP_oneIf_1 (by decide) (fun c_1 => ?_) (fun c_1 => ?_)
  · refine lv_iconst (v := 0) S.1 S.2.1 d_BP_oneIf_8 (by decide) ?_
    exact hp_retRi S hr hlk d_BP_oneIf_9 (q_is_f (fun q => q c_1))
  · refine lv_iconst (v := 1) S.1 S.2.1 d_BP_oneIf_4 (by decide) ?_
    refine lv_goto (tgt := 9) S.1 S.2.1 d_BP_oneIf_5 (by decide) ?_
    exact hp_retRi S hr hlk d_BP_oneIf_9 (q_is_t c_1)

set_option maxHeartbeats 4000000 in
set_option maxRecDepth 100000 in
/-- a long's first n dots -/
theorem c_BP_firstDots (l : Launch) (n : Int32)  : Met l y_BP_firstDots (.code y_BP_firstDots prog_1_method_24_code 1 (some .long) :: BIG) ({ frames := 0, cells := 0, slots := 0, locals := 0 }) (va_Pc [.int n] (fun _ => True)) (hp_QR (some (.long (q_fd n)))) 0 0 (fun _ => False) := by
  refine hp_enter (by decide) (Nat.le_of_ble_eq_true rfl) ?_
  intro p e s m below meth c ls S hr hlk hin hI hl
  have hl : lv_has ls 1 [(0, .int n)] := hl
  refine lv_iload_n S.1 S.2.1 d_BP_firstDots_0 rfl (lv_at hl 0 rfl) ?_
  refine lv_if_gt (tgt := 6) S.1 S.2.1 d_BP_firstDots_1 (by decide) (fun c_1 => ?_) (fun c_1 => ?_)
  · refine lv_iload_n S.1 S.2.1 d_BP_firstDots_6 rfl (lv_at hl 0 rfl) ?_
    refine lv_bipush (v := 64) S.1 S.2.1 d_BP_firstDots_7 (by decide) ?_
    refine lv_icmp_lt (tgt := 18) S.1 S.2.1 d_BP_firstDots_9 (by decide) (fun c_9 => ?_) (fun c_9 => ?_)
    · refine lv_ldc2 (v := (-1)) S.1 S.2.1 S.2.2.2.1 (S.2.2.2.2 _ t_180) d_BP_firstDots_18 ?_
      refine lv_bipush (v := 64) S.1 S.2.1 d_BP_firstDots_21 (by decide) ?_
      refine lv_iload_n S.1 S.2.1 d_BP_firstDots_23 rfl (lv_at hl 0 rfl) ?_
      refine lv_isub S.1 S.2.1 d_BP_firstDots_24 ?_
      refine lv_lshl S.1 S.2.1 d_BP_firstDots_25 rfl ?_
      exact hp_retRl S hr hlk d_BP_firstDots_26 (by unfold q_fd; rw [if_neg (by simp only [z_lt, z_le, z_0] at c_1 ⊢; omega), if_neg (by simp only [z_lt, z_le] at c_9 ⊢; omega)])
    · refine lv_ldc2 (v := (-1)) S.1 S.2.1 S.2.2.2.1 (S.2.2.2.2 _ t_180) d_BP_firstDots_12 ?_
      refine lv_goto (tgt := 26) S.1 S.2.1 d_BP_firstDots_15 (by decide) ?_
      exact hp_retRl S hr hlk d_BP_firstDots_26 (by unfold q_fd; rw [if_neg (by simp only [z_lt, z_le, z_0] at c_1 ⊢; omega), if_pos (by simp only [z_lt, z_le] at c_9 ⊢; omega)])
  · refine lv_lconst (v := 0) S.1 S.2.1 d_BP_firstDots_4 (by decide) ?_
    exact hp_retRl S hr hlk d_BP_firstDots_5 (by unfold q_fd; rw [if_pos (by simp only [z_lt, z_le, z_0] at c_1 ⊢; omega)])

abbrev k_Bx (x0 y0 x1 y1 : Int32) : va_E := .inr (1, [.int x0, .int y0, .int x1, .int y1])
set_option maxHeartbeats 4000000 in
set_option maxRecDepth 100000 in
theorem c_Bx_init (l : Launch) (dC : Nat → ClassId) (dI : Nat → Nat → Nat) (cA : Nat → ClassId) (A : Nat → Prop) (h : hp_T) (t : Nat) (x0 y0 x1 y1 a0 a1 a2 a3 : Int32) (h_t : h t = some (k_Bx a0 a1 a2 a3)) : Met l y_Bx_init (.code y_Bx_init prog_2_method_1_code 5 none :: BIG) ({ frames := 1, cells := 0, slots := 0, locals := 20 }) (va_Pc [.ref t, .int x0, .int y0, .int x1, .int y1] (hp_I (gg dC dI cA) A h)) (hp_QW (gg dC dI cA) A hp_mv (fun _ h' => h' = hp_up h t (k_Bx x0 y0 x1 y1))) 0 0 A := by
  refine hp_enter (by decide) (Nat.le_of_ble_eq_true rfl) ?_
  intro p e s m below meth c ls S hr hlk hin hI hl
  have hl : lv_has ls 5 [(0, .ref t), (1, .int x0), (2, .int y0), (3, .int x1), (4, .int y1)] := hl
  have hJ := hI.J
  refine lv_aload_n S.1 S.2.1 d_Bx_init_0 rfl (lv_at hl 0 rfl) ?_
  refine hp_obj S l_Bx_3 hl.1 d_Bx_init_1 ⟨nl rfl, nl rfl⟩ ?_
  refine lv_aload_n S.1 S.2.1 d_Bx_init_4 rfl (lv_at hl 0 rfl) ?_
  refine lv_iload_n S.1 S.2.1 d_Bx_init_5 rfl (lv_at hl 1 rfl) ?_
  refine hp_putF S zz hJ hin h_t fp_Bx_9 rfl rfl rfl (nl rfl) d_Bx_init_6 (fun H locs hJ => ?_)
  have hJ := hJ
  have h_t : hp_up h t (.inr (1, [.int x0, .int a1, .int a2, .int a3])) t = some (.inr (1, [.int x0, .int a1, .int a2, .int a3])) := hp_up_s _ _ _
  refine lv_aload_n S.1 S.2.1 d_Bx_init_9 rfl (lv_at hl 0 rfl) ?_
  refine lv_iload_n S.1 S.2.1 d_Bx_init_10 rfl (lv_at hl 2 rfl) ?_
  refine hp_putF S zz hJ hin h_t fp_Bx_15 rfl rfl rfl (nl rfl) d_Bx_init_11 (fun H locs hJ => ?_)
  rw [hp_up_up] at hJ
  have h_t : hp_up h t (.inr (1, [.int x0, .int y0, .int a2, .int a3])) t = some (.inr (1, [.int x0, .int y0, .int a2, .int a3])) := hp_up_s _ _ _
  refine lv_aload_n S.1 S.2.1 d_Bx_init_14 rfl (lv_at hl 0 rfl) ?_
  refine lv_iload_n S.1 S.2.1 d_Bx_init_15 rfl (lv_at hl 3 rfl) ?_
  refine hp_putF S zz hJ hin h_t fp_Bx_18 rfl rfl rfl (nl rfl) d_Bx_init_16 (fun H locs hJ => ?_)
  rw [hp_up_up] at hJ
  have h_t : hp_up h t (.inr (1, [.int x0, .int y0, .int x1, .int a3])) t = some (.inr (1, [.int x0, .int y0, .int x1, .int a3])) := hp_up_s _ _ _
  refine lv_aload_n S.1 S.2.1 d_Bx_init_19 rfl (lv_at hl 0 rfl) ?_
  refine lv_iload S.1 S.2.1 d_Bx_init_20 (lv_at hl 4 rfl) ?_
  refine hp_putF S zz hJ hin h_t fp_Bx_21 rfl rfl rfl (nl rfl) d_Bx_init_22 (fun H locs hJ => ?_)
  rw [hp_up_up] at hJ
  have h_t : hp_up h t (.inr (1, [.int x0, .int y0, .int x1, .int y1])) t = some (.inr (1, [.int x0, .int y0, .int x1, .int y1])) := hp_up_s _ _ _
  exact hp_retWv S hJ hr hlk d_Bx_init_25 (by decide) rfl

set_option maxHeartbeats 4000000 in
set_option maxRecDepth 100000 in
theorem c_Bx_isEmpty (l : Launch) (dC : Nat → ClassId) (dI : Nat → Nat → Nat) (cA : Nat → ClassId) (A : Nat → Prop) (h : hp_T) (t : Nat) (x0 y0 x1 y1 : Int32) (h_t : h t = some (k_Bx x0 y0 x1 y1)) : Met l y_Bx_isEmpty (.code y_Bx_isEmpty prog_2_method_3_code 1 (some .boolean) :: BIG) ({ frames := 0, cells := 0, slots := 0, locals := 0 }) (va_Pc [.ref t] (hp_I (gg dC dI cA) A h)) (hp_QR (some (.int (q_is (x1 < x0 ∨ y1 < y0))))) 0 0 (fun _ => False) := by
  refine hp_enter (by decide) (Nat.le_of_ble_eq_true rfl) ?_
  intro p e s m below meth c ls S hr hlk hin hI hl
  have hl : lv_has ls 1 [(0, .ref t)] := hl
  have hJ := hI.J
  refine lv_aload_n S.1 S.2.1 d_Bx_isEmpty_0 rfl (lv_at hl 0 rfl) ?_
  refine hp_get S zz hJ h_t f_Bx_9 rfl d_Bx_isEmpty_1 ?_
  refine lv_aload_n S.1 S.2.1 d_Bx_isEmpty_4 rfl (lv_at hl 0 rfl) ?_
  refine hp_get S zz hJ h_t f_Bx_18 rfl d_Bx_isEmpty_5 ?_
  refine lv_icmp_gt (tgt := 22) S.1 S.2.1 d_Bx_isEmpty_8 (by decide) (fun c_8 => ?_) (fun c_8 => ?_)
  · refine lv_iconst (v := 1) S.1 S.2.1 d_Bx_isEmpty_22 (by decide) ?_
    refine lv_goto (tgt := 27) S.1 S.2.1 d_Bx_isEmpty_23 (by decide) ?_
    exact hp_retRz S hr hlk d_Bx_isEmpty_27 (by decide) (q_is_t (by simp only [z_lt, z_le, z_eq, z_0] at c_8 ⊢; omega))
  · refine lv_aload_n S.1 S.2.1 d_Bx_isEmpty_11 rfl (lv_at hl 0 rfl) ?_
    refine hp_get S zz hJ h_t f_Bx_15 rfl d_Bx_isEmpty_12 ?_
    refine lv_aload_n S.1 S.2.1 d_Bx_isEmpty_15 rfl (lv_at hl 0 rfl) ?_
    refine hp_get S zz hJ h_t f_Bx_21 rfl d_Bx_isEmpty_16 ?_
    refine lv_icmp_le (tgt := 26) S.1 S.2.1 d_Bx_isEmpty_19 (by decide) (fun c_19 => ?_) (fun c_19 => ?_)
    · refine lv_iconst (v := 0) S.1 S.2.1 d_Bx_isEmpty_26 (by decide) ?_
      exact hp_retRz S hr hlk d_Bx_isEmpty_27 (by decide) (q_is_f (by simp only [z_lt, z_le, z_eq, z_0] at c_8 c_19 ⊢; omega))
    · refine lv_iconst (v := 1) S.1 S.2.1 d_Bx_isEmpty_22 (by decide) ?_
      refine lv_goto (tgt := 27) S.1 S.2.1 d_Bx_isEmpty_23 (by decide) ?_
      exact hp_retRz S hr hlk d_Bx_isEmpty_27 (by decide) (q_is_t (by simp only [z_lt, z_le, z_eq, z_0] at c_8 c_19 ⊢; omega))

set_option maxHeartbeats 4000000 in
set_option maxRecDepth 100000 in
theorem c_Bx_meetsLine (l : Launch) (dC : Nat → ClassId) (dI : Nat → Nat → Nat) (cA : Nat → ClassId) (A : Nat → Prop) (h : hp_T) (t : Nat) (x0 y0 x1 y1 y : Int32) (h_t : h t = some (k_Bx x0 y0 x1 y1)) : Met l y_Bx_meetsLine (.code y_Bx_meetsLine prog_2_method_4_code 2 (some .boolean) :: BIG) ({ frames := 0, cells := 0, slots := 0, locals := 0 }) (va_Pc [.ref t, .int y] (hp_I (gg dC dI cA) A h)) (hp_QR (some (.int (q_is (y0 ≤ y ∧ y ≤ y1))))) 0 0 (fun _ => False) := by
  refine hp_enter (by decide) (Nat.le_of_ble_eq_true rfl) ?_
  intro p e s m below meth c ls S hr hlk hin hI hl
  have hl : lv_has ls 2 [(0, .ref t), (1, .int y)] := hl
  have hJ := hI.J
  refine lv_aload_n S.1 S.2.1 d_Bx_meetsLine_0 rfl (lv_at hl 0 rfl) ?_
  refine hp_get S zz hJ h_t f_Bx_15 rfl d_Bx_meetsLine_1 ?_
  refine lv_iload_n S.1 S.2.1 d_Bx_meetsLine_4 rfl (lv_at hl 1 rfl) ?_
  refine lv_icmp_gt (tgt := 20) S.1 S.2.1 d_Bx_meetsLine_5 (by decide) (fun c_5 => ?_) (fun c_5 => ?_)
  · refine lv_iconst (v := 0) S.1 S.2.1 d_Bx_meetsLine_20 (by decide) ?_
    exact hp_retRz S hr hlk d_Bx_meetsLine_21 (by decide) (q_is_f (by simp only [z_lt, z_le, z_eq, z_0] at c_5 ⊢; omega))
  · refine lv_iload_n S.1 S.2.1 d_Bx_meetsLine_8 rfl (lv_at hl 1 rfl) ?_
    refine lv_aload_n S.1 S.2.1 d_Bx_meetsLine_9 rfl (lv_at hl 0 rfl) ?_
    refine hp_get S zz hJ h_t f_Bx_21 rfl d_Bx_meetsLine_10 ?_
    refine lv_icmp_gt (tgt := 20) S.1 S.2.1 d_Bx_meetsLine_13 (by decide) (fun c_13 => ?_) (fun c_13 => ?_)
    · refine lv_iconst (v := 0) S.1 S.2.1 d_Bx_meetsLine_20 (by decide) ?_
      exact hp_retRz S hr hlk d_Bx_meetsLine_21 (by decide) (q_is_f (by simp only [z_lt, z_le, z_eq, z_0] at c_5 c_13 ⊢; omega))
    · refine lv_iconst (v := 1) S.1 S.2.1 d_Bx_meetsLine_16 (by decide) ?_
      refine lv_goto (tgt := 21) S.1 S.2.1 d_Bx_meetsLine_17 (by decide) ?_
      exact hp_retRz S hr hlk d_Bx_meetsLine_21 (by decide) (q_is_t (by simp only [z_lt, z_le, z_eq, z_0] at c_5 c_13 ⊢; omega))

def q_bw (x0 x1 k : Int32) : Int64 := q_fd (x1 + 1 - k * 64) &&& (q_fd (x0 - k * 64) ^^^ (-1))
set_option maxHeartbeats 4000000 in
set_option maxRecDepth 100000 in
theorem c_Bx_dotsOfWord (l : Launch) (dC : Nat → ClassId) (dI : Nat → Nat → Nat) (cA : Nat → ClassId) (A : Nat → Prop) (h : hp_T) (t : Nat) (x0 y0 x1 y1 k : Int32) (h_t : h t = some (k_Bx x0 y0 x1 y1)) : Met l y_Bx_dotsOfWord (.code y_Bx_dotsOfWord prog_2_method_5_code 3 (some .long) :: BIG) ({ frames := 1, cells := 0, slots := 0, locals := 20 }) (va_Pc [.ref t, .int k] (hp_I (gg dC dI cA) A h)) (hp_QR (some (.long (q_bw x0 x1 k)))) 0 0 (fun _ => False) := by
  refine hp_enter (by decide) (Nat.le_of_ble_eq_true rfl) ?_
  intro p e s m below meth c ls S hr hlk hin hI hl
  have hl : lv_has ls 3 [(0, .ref t), (1, .int k)] := hl
  have hJ := hI.J
  refine lv_iload_n S.1 S.2.1 d_Bx_dotsOfWord_0 rfl (lv_at hl 1 rfl) ?_
  refine lv_bipush (v := 64) S.1 S.2.1 d_Bx_dotsOfWord_1 (by decide) ?_
  refine lv_imul S.1 S.2.1 d_Bx_dotsOfWord_3 ?_
  refine lv_istore_n (lv' := [(2, .int (k * (64 : Int32))), (0, .ref t), (1, .int k)]) S.1 S.2.1 d_Bx_dotsOfWord_4 rfl hl (by decide) rfl (fun ls hl => ?_)
  refine lv_aload_n S.1 S.2.1 d_Bx_dotsOfWord_5 rfl (lv_at hl 1 rfl) ?_
  refine hp_get S zz hJ h_t f_Bx_18 rfl d_Bx_dotsOfWord_6 ?_
  refine lv_iconst (v := 1) S.1 S.2.1 d_Bx_dotsOfWord_9 (by decide) ?_
  refine lv_iadd S.1 S.2.1 d_Bx_dotsOfWord_10 ?_
  refine lv_iload_n S.1 S.2.1 d_Bx_dotsOfWord_11 rfl (lv_at hl 0 rfl) ?_
  refine lv_isub S.1 S.2.1 d_Bx_dotsOfWord_12 ?_
  refine hp_doneR (hp_runN S zz hJ.2.1 (c_BP_firstDots l _) l_Bx_36 (hp_pre0 _) (by decide) rfl hl.1 rfl (nl rfl) d_Bx_dotsOfWord_13 (by decide)) ?_
  refine lv_aload_n S.1 S.2.1 d_Bx_dotsOfWord_16 rfl (lv_at hl 1 rfl) ?_
  refine hp_get S zz hJ h_t f_Bx_9 rfl d_Bx_dotsOfWord_17 ?_
  refine lv_iload_n S.1 S.2.1 d_Bx_dotsOfWord_20 rfl (lv_at hl 0 rfl) ?_
  refine lv_isub S.1 S.2.1 d_Bx_dotsOfWord_21 ?_
  refine hp_doneR (hp_runN S zz hJ.2.1 (c_BP_firstDots l _) l_Bx_36 (hp_pre0 _) (by decide) rfl hl.1 rfl (nl rfl) d_Bx_dotsOfWord_22 (by decide)) ?_
  refine lv_ldc2 (v := (-1)) S.1 S.2.1 S.2.2.2.1 (S.2.2.2.2 _ t_389) d_Bx_dotsOfWord_25 ?_
  refine lv_lxor S.1 S.2.1 d_Bx_dotsOfWord_28 ?_
  refine lv_land S.1 S.2.1 d_Bx_dotsOfWord_29 ?_
  exact hp_retRl S hr hlk d_Bx_dotsOfWord_30 rfl
end
section
/-! Boxes made; the JDK's floorDiv, floorMod, fill; pictures' words. -/
abbrev k_lo (c : ClassId) (n : Nat) (f : Nat → Int64) : va_E := .inl (c, n, .inr (.inl f))
abbrev k_in (c : ClassId) (n : Nat) (f : Nat → Int32) : va_E := .inl (c, n, .inl f)
abbrev k_rf (c : ClassId) (n : Nat) (f : Nat → Option Nat) : va_E := .inl (c, n, .inr (.inr (.inr (.inr f))))
abbrev k_Pc (w d t wd : Int32) (b : Nat) : va_E := .inr (4, [.int w, .int d, .int t, .int wd, .ref b])

set_option maxHeartbeats 4000000 in
set_option maxRecDepth 100000 in
theorem c_Bx_common (l : Launch) (dC : Nat → ClassId) (dI : Nat → Nat → Nat) (cA : Nat → ClassId) (A : Nat → Prop) (h : hp_T) (t u : Nat) (x0 y0 x1 y1 a0 b0 a1 b1 : Int32) (h_t : h t = some (k_Bx x0 y0 x1 y1)) (h_u : h u = some (k_Bx a0 b0 a1 b1)) : Met l y_Bx_common (.code y_Bx_common prog_2_method_2_code 2 (some (.object "BandPainter$Box")) :: BIG) ({ frames := 2, cells := 1, slots := 4, locals := 44 }) (va_Pc [.ref t, .ref u] (hp_I (gg dC dI cA) A h)) (hp_QW (gg dC dI cA) A hp_mr (fun q h' => h q = none ∧ h' = hp_up h q (k_Bx (q_max x0 a0) (q_max y0 b0) (q_min x1 a1) (q_min y1 b1)))) 1 4 A := by
  refine hp_enter (by decide) (Nat.le_of_ble_eq_true rfl) ?_
  intro p e s m below meth c ls S hr hlk hin hI hl
  have hl : lv_has ls 2 [(0, .ref t), (1, .ref u)] := hl
  have hJ := hI.J
  refine hp_new S zz hJ (ci := 1) rfl n_Bx_10 e0_Bx_ok (by decide) (by decide) d_Bx_common_0 (fun q H hq_q hs_q hJ => ?_)
  have ne_t_q : t ≠ q := hp_neN h_t hq_q
  have ne_u_q : u ≠ q := hp_neN h_u hq_q
  obtain ⟨h1, eh1⟩ : ∃ z, z = hp_up h q (.inr (1, [.int 0, .int 0, .int 0, .int 0])) := ⟨_, rfl⟩
  have hJ := hJ.cast eh1
  have h_t : h1 t = some (.inr (1, [.int x0, .int y0, .int x1, .int y1])) := by rw [eh1]; exact hp_up_k (hp_neN h_t hq_q) h_t
  have h_u : h1 u = some (.inr (1, [.int a0, .int b0, .int a1, .int b1])) := by rw [eh1]; exact hp_up_k (hp_neN h_u hq_q) h_u
  have h_q : h1 q = some (.inr (1, [.int 0, .int 0, .int 0, .int 0])) := by rw [eh1]; exact hp_up_s _ _ _
  refine lv_dup S.1 S.2.1 d_Bx_common_3 rfl ?_
  refine lv_aload_n S.1 S.2.1 d_Bx_common_4 rfl (lv_at hl 0 rfl) ?_
  refine hp_get S zz hJ h_t f_Bx_9 rfl d_Bx_common_5 ?_
  refine lv_aload_n S.1 S.2.1 d_Bx_common_8 rfl (lv_at hl 1 rfl) ?_
  refine hp_get S zz hJ h_u f_Bx_9 rfl d_Bx_common_9 ?_
  refine hp_max S l_Bx_24 hl.1 d_Bx_common_12 ⟨nl rfl, nl rfl, nl rfl, nl rfl⟩ ?_
  refine lv_aload_n S.1 S.2.1 d_Bx_common_15 rfl (lv_at hl 0 rfl) ?_
  refine hp_get S zz hJ h_t f_Bx_15 rfl d_Bx_common_16 ?_
  refine lv_aload_n S.1 S.2.1 d_Bx_common_19 rfl (lv_at hl 1 rfl) ?_
  refine hp_get S zz hJ h_u f_Bx_15 rfl d_Bx_common_20 ?_
  refine hp_max S l_Bx_24 hl.1 d_Bx_common_23 ⟨nl rfl, nl rfl, nl rfl, nl rfl⟩ ?_
  refine lv_aload_n S.1 S.2.1 d_Bx_common_26 rfl (lv_at hl 0 rfl) ?_
  refine hp_get S zz hJ h_t f_Bx_18 rfl d_Bx_common_27 ?_
  refine lv_aload_n S.1 S.2.1 d_Bx_common_30 rfl (lv_at hl 1 rfl) ?_
  refine hp_get S zz hJ h_u f_Bx_18 rfl d_Bx_common_31 ?_
  refine hp_min S l_Bx_30 hl.1 d_Bx_common_34 ⟨nl rfl, nl rfl, nl rfl, nl rfl⟩ ?_
  refine lv_aload_n S.1 S.2.1 d_Bx_common_37 rfl (lv_at hl 0 rfl) ?_
  refine hp_get S zz hJ h_t f_Bx_21 rfl d_Bx_common_38 ?_
  refine lv_aload_n S.1 S.2.1 d_Bx_common_41 rfl (lv_at hl 1 rfl) ?_
  refine hp_get S zz hJ h_u f_Bx_21 rfl d_Bx_common_42 ?_
  refine hp_min S l_Bx_30 hl.1 d_Bx_common_45 ⟨nl rfl, nl rfl, nl rfl, nl rfl⟩ ?_
  refine hp_doneWv hJ (hp_runI S zz0 (c_Bx_init l dC dI cA A _ _ _ _ _ _ _ _ _ _ h_q) l_Bx_33 (hJ.pre _) (by decide) rfl hl.1 rfl (nl rfl) d_Bx_common_48 (by decide)) (fun h2 H locs eh2 hJ => ?_)
  have h0_q := h_q
  have h_t : h2 t = some (.inr (1, [.int x0, .int y0, .int x1, .int y1])) := by rw [eh2]; exact hp_up_k (ne_t_q) h_t
  have h_u : h2 u = some (.inr (1, [.int a0, .int b0, .int a1, .int b1])) := by rw [eh2]; exact hp_up_k (ne_u_q) h_u
  have h_q : h2 q = some (.inr (1, [.int (q_max x0 a0), .int (q_max y0 b0), .int (q_min x1 a1), .int (q_min y1 b1)])) := by rw [eh2]; exact hp_up_s _ _ _
  exact hp_retWr S hJ hr hlk d_Bx_common_51 (by decide) ⟨hq_q, by rw [eh2, eh1, hp_up_up]; rfl⟩

def q_fdiv (x y : Int32) : Int32 := if 0 ≤ x ^^^ y then x / y else if x / y * y = x then x / y else x / y - 1
def q_fmod (x y : Int32) : Int32 := if 0 ≤ x ^^^ y then x - x / y * y else if x - x / y * y = 0 then x - x / y * y else x - x / y * y + y
set_option maxHeartbeats 4000000 in
set_option maxRecDepth 100000 in
theorem c_JM_floorDiv (l : Launch) (x y : Int32) (hy : ¬ y = 0) : Met l y_JM_floorDiv (.code y_JM_floorDiv prog_15_method_47_code 3 (some .int) :: BIG) ({ frames := 0, cells := 0, slots := 0, locals := 0 }) (va_Pc [.int x, .int y] (fun _ => True)) (hp_QR (some (.int (q_fdiv x y)))) 0 0 (fun _ => False) := by
  refine hp_enterF (by decide +kernel) (Nat.le_of_ble_eq_true rfl) ?_
  intro p e s m below meth c ls S hr hlk hin hI hl
  have hl : lv_has ls 3 [(0, .int x), (1, .int y)] := hl
  refine lv_iload_n S.1 S.2.1 d_JM_floorDiv_0 rfl (lv_at hl 0 rfl) ?_
  refine lv_iload_n S.1 S.2.1 d_JM_floorDiv_1 rfl (lv_at hl 1 rfl) ?_
  refine lv_idiv S.1 S.2.1 d_JM_floorDiv_2 hy ?_
  refine lv_istore_n (lv' := [(2, .int (x / y)), (0, .int x), (1, .int y)]) S.1 S.2.1 d_JM_floorDiv_3 rfl hl (by decide) rfl (fun ls hl => ?_)
  refine lv_iload_n S.1 S.2.1 d_JM_floorDiv_4 rfl (lv_at hl 1 rfl) ?_
  refine lv_iload_n S.1 S.2.1 d_JM_floorDiv_5 rfl (lv_at hl 2 rfl) ?_
  refine lv_ixor S.1 S.2.1 d_JM_floorDiv_6 ?_
  refine lv_if_ge (tgt := 21) S.1 S.2.1 d_JM_floorDiv_7 (by decide) (fun c_7 => ?_) (fun c_7 => ?_)
  · refine lv_iload_n S.1 S.2.1 d_JM_floorDiv_21 rfl (lv_at hl 0 rfl) ?_
    exact hp_retRi S hr hlk d_JM_floorDiv_22 (by unfold q_fdiv; rw [if_pos c_7])
  · refine lv_iload_n S.1 S.2.1 d_JM_floorDiv_10 rfl (lv_at hl 0 rfl) ?_
    refine lv_iload_n S.1 S.2.1 d_JM_floorDiv_11 rfl (lv_at hl 2 rfl) ?_
    refine lv_imul S.1 S.2.1 d_JM_floorDiv_12 ?_
    refine lv_iload_n S.1 S.2.1 d_JM_floorDiv_13 rfl (lv_at hl 1 rfl) ?_
    refine lv_icmp_eq (tgt := 21) S.1 S.2.1 d_JM_floorDiv_14 (by decide) (fun c_14 => ?_) (fun c_14 => ?_)
    · refine lv_iload_n S.1 S.2.1 d_JM_floorDiv_21 rfl (lv_at hl 0 rfl) ?_
      exact hp_retRi S hr hlk d_JM_floorDiv_22 (by unfold q_fdiv; rw [if_neg c_7, if_pos c_14])
    · refine lv_iload_n S.1 S.2.1 d_JM_floorDiv_17 rfl (lv_at hl 0 rfl) ?_
      refine lv_iconst (v := 1) S.1 S.2.1 d_JM_floorDiv_18 (by decide) ?_
      refine lv_isub S.1 S.2.1 d_JM_floorDiv_19 ?_
      exact hp_retRi S hr hlk d_JM_floorDiv_20 (by unfold q_fdiv; rw [if_neg c_7, if_neg c_14])

set_option maxHeartbeats 4000000 in
set_option maxRecDepth 100000 in
theorem c_JM_floorMod (l : Launch) (x y : Int32) (hy : ¬ y = 0) : Met l y_JM_floorMod (.code y_JM_floorMod prog_15_method_50_code 3 (some .int) :: BIG) ({ frames := 0, cells := 0, slots := 0, locals := 0 }) (va_Pc [.int x, .int y] (fun _ => True)) (hp_QR (some (.int (q_fmod x y)))) 0 0 (fun _ => False) := by
  refine hp_enterF (by decide +kernel) (Nat.le_of_ble_eq_true rfl) ?_
  intro p e s m below meth c ls S hr hlk hin hI hl
  have hl : lv_has ls 3 [(0, .int x), (1, .int y)] := hl
  refine lv_iload_n S.1 S.2.1 d_JM_floorMod_0 rfl (lv_at hl 0 rfl) ?_
  refine lv_iload_n S.1 S.2.1 d_JM_floorMod_1 rfl (lv_at hl 1 rfl) ?_
  refine lv_irem S.1 S.2.1 d_JM_floorMod_2 hy ?_
  refine lv_istore_n (lv' := [(2, .int (x - x / y * y)), (0, .int x), (1, .int y)]) S.1 S.2.1 d_JM_floorMod_3 rfl hl (by decide) rfl (fun ls hl => ?_)
  refine lv_iload_n S.1 S.2.1 d_JM_floorMod_4 rfl (lv_at hl 1 rfl) ?_
  refine lv_iload_n S.1 S.2.1 d_JM_floorMod_5 rfl (lv_at hl 2 rfl) ?_
  refine lv_ixor S.1 S.2.1 d_JM_floorMod_6 ?_
  refine lv_if_ge (tgt := 18) S.1 S.2.1 d_JM_floorMod_7 (by decide) (fun c_7 => ?_) (fun c_7 => ?_)
  · refine lv_iload_n S.1 S.2.1 d_JM_floorMod_18 rfl (lv_at hl 0 rfl) ?_
    exact hp_retRi S hr hlk d_JM_floorMod_19 (by unfold q_fmod; rw [if_pos c_7])
  · refine lv_iload_n S.1 S.2.1 d_JM_floorMod_10 rfl (lv_at hl 0 rfl) ?_
    refine lv_if_eq (tgt := 18) S.1 S.2.1 d_JM_floorMod_11 (by decide) (fun c_11 => ?_) (fun c_11 => ?_)
    · refine lv_iload_n S.1 S.2.1 d_JM_floorMod_18 rfl (lv_at hl 0 rfl) ?_
      exact hp_retRi S hr hlk d_JM_floorMod_19 (by unfold q_fmod; rw [if_neg c_7, if_pos c_11])
    · refine lv_iload_n S.1 S.2.1 d_JM_floorMod_14 rfl (lv_at hl 0 rfl) ?_
      refine lv_iload_n S.1 S.2.1 d_JM_floorMod_15 rfl (lv_at hl 2 rfl) ?_
      refine lv_iadd S.1 S.2.1 d_JM_floorMod_16 ?_
      exact hp_retRi S hr hlk d_JM_floorMod_17 (by unfold q_fmod; rw [if_neg c_7, if_neg c_11])

set_option maxHeartbeats 4000000 in
set_option maxRecDepth 100000 in
theorem c_Pc_hasWord (l : Launch) (dC : Nat → ClassId) (dI : Nat → Nat → Nat) (cA : Nat → ClassId) (A : Nat → Prop) (h : hp_T) (t b : Nat) (w d tl wd j k : Int32) (h_t : h t = some (k_Pc w d tl wd b)) : Met l y_Pc_hasWord (.code y_Pc_hasWord prog_5_method_12_code 3 (some .boolean) :: BIG) ({ frames := 0, cells := 0, slots := 0, locals := 0 }) (va_Pc [.ref t, .int j, .int k] (hp_I (gg dC dI cA) A h)) (hp_QR (some (.int (q_is (0 ≤ j ∧ j < d ∧ 0 ≤ k ∧ k < wd))))) 0 0 (fun _ => False) := by
  refine hp_enter (by decide) (Nat.le_of_ble_eq_true rfl) ?_
  intro p e s m below meth c ls S hr hlk hin hI hl
  have hl : lv_has ls 3 [(0, .ref t), (1, .int j), (2, .int k)] := hl
  have hJ := hI.J
  refine lv_iconst (v := 0) S.1 S.2.1 d_Pc_hasWord_0 (by decide) ?_
  refine lv_iload_n S.1 S.2.1 d_Pc_hasWord_1 rfl (lv_at hl 1 rfl) ?_
  refine lv_icmp_gt (tgt := 30) S.1 S.2.1 d_Pc_hasWord_2 (by decide) (fun c_2 => ?_) (fun c_2 => ?_)
  · refine lv_iconst (v := 0) S.1 S.2.1 d_Pc_hasWord_30 (by decide) ?_
    exact hp_retRz S hr hlk d_Pc_hasWord_31 (by decide) (q_is_f (by simp only [z_lt, z_le, z_eq, z_0] at c_2 ⊢; omega))
  · refine lv_iload_n S.1 S.2.1 d_Pc_hasWord_5 rfl (lv_at hl 1 rfl) ?_
    refine lv_aload_n S.1 S.2.1 d_Pc_hasWord_6 rfl (lv_at hl 0 rfl) ?_
    refine hp_get S zz hJ h_t f_Pc_21 rfl d_Pc_hasWord_7 ?_
    refine lv_icmp_ge (tgt := 30) S.1 S.2.1 d_Pc_hasWord_10 (by decide) (fun c_10 => ?_) (fun c_10 => ?_)
    · refine lv_iconst (v := 0) S.1 S.2.1 d_Pc_hasWord_30 (by decide) ?_
      exact hp_retRz S hr hlk d_Pc_hasWord_31 (by decide) (q_is_f (by simp only [z_lt, z_le, z_eq, z_0] at c_2 c_10 ⊢; omega))
    · refine lv_iconst (v := 0) S.1 S.2.1 d_Pc_hasWord_13 (by decide) ?_
      refine lv_iload_n S.1 S.2.1 d_Pc_hasWord_14 rfl (lv_at hl 2 rfl) ?_
      refine lv_icmp_gt (tgt := 30) S.1 S.2.1 d_Pc_hasWord_15 (by decide) (fun c_15 => ?_) (fun c_15 => ?_)
      · refine lv_iconst (v := 0) S.1 S.2.1 d_Pc_hasWord_30 (by decide) ?_
        exact hp_retRz S hr hlk d_Pc_hasWord_31 (by decide) (q_is_f (by simp only [z_lt, z_le, z_eq, z_0] at c_2 c_10 c_15 ⊢; omega))
      · refine lv_iload_n S.1 S.2.1 d_Pc_hasWord_18 rfl (lv_at hl 2 rfl) ?_
        refine lv_aload_n S.1 S.2.1 d_Pc_hasWord_19 rfl (lv_at hl 0 rfl) ?_
        refine hp_get S zz hJ h_t f_Pc_27 rfl d_Pc_hasWord_20 ?_
        refine lv_icmp_ge (tgt := 30) S.1 S.2.1 d_Pc_hasWord_23 (by decide) (fun c_23 => ?_) (fun c_23 => ?_)
        · refine lv_iconst (v := 0) S.1 S.2.1 d_Pc_hasWord_30 (by decide) ?_
          exact hp_retRz S hr hlk d_Pc_hasWord_31 (by decide) (q_is_f (by simp only [z_lt, z_le, z_eq, z_0] at c_2 c_10 c_15 c_23 ⊢; omega))
        · refine lv_iconst (v := 1) S.1 S.2.1 d_Pc_hasWord_26 (by decide) ?_
          refine lv_goto (tgt := 31) S.1 S.2.1 d_Pc_hasWord_27 (by decide) ?_
          exact hp_retRz S hr hlk d_Pc_hasWord_31 (by decide) (q_is_t (by simp only [z_lt, z_le, z_eq, z_0] at c_2 c_10 c_15 c_23 ⊢; omega))

def q_wa (d wd : Int32) (f : Nat → Int64) (j k : Int32) : Int64 := if 0 ≤ j ∧ j < d ∧ 0 ≤ k ∧ k < wd then f (j * wd + k).toNatClampNeg else 0
def q_sw (d wd : Int32) (f : Nat → Int64) (j k : Int32) (x : Int64) : Nat → Int64 := if 0 ≤ j ∧ j < d ∧ 0 ≤ k ∧ k < wd then vp_updL f (j * wd + k).toNatClampNeg x else f
set_option maxHeartbeats 4000000 in
set_option maxRecDepth 100000 in
theorem c_Pc_wordAt (l : Launch) (dC : Nat → ClassId) (dI : Nat → Nat → Nat) (cA : Nat → ClassId) (A : Nat → Prop) (h : hp_T) (t b : Nat) (w d tl wd : Int32) (n : Nat) (f : Nat → Int64) (j k : Int32) (h_t : h t = some (k_Pc w d tl wd b)) (h_b : h b = some (k_lo (cA 1) n f)) (hix : ∀ j k : Int32, 0 ≤ j ∧ j < d ∧ 0 ≤ k ∧ k < wd → vp_in (j * wd + k) n) : Met l y_Pc_wordAt (.code y_Pc_wordAt prog_5_method_10_code 3 (some .long) :: BIG) ({ frames := 1, cells := 0, slots := 0, locals := 22 }) (va_Pc [.ref t, .int j, .int k] (hp_I (gg dC dI cA) A h)) (hp_QR (some (.long (q_wa d wd f j k)))) 0 0 (fun _ => False) := by
  refine hp_enter (by decide) (Nat.le_of_ble_eq_true rfl) ?_
  intro p e s m below meth c ls S hr hlk hin hI hl
  have hl : lv_has ls 3 [(0, .ref t), (1, .int j), (2, .int k)] := hl
  have hJ := hI.J
  refine lv_aload_n S.1 S.2.1 d_Pc_wordAt_0 rfl (lv_at hl 0 rfl) ?_
  refine lv_iload_n S.1 S.2.1 d_Pc_wordAt_1 rfl (lv_at hl 1 rfl) ?_
  refine lv_iload_n S.1 S.2.1 d_Pc_wordAt_2 rfl (lv_at hl 2 rfl) ?_
  refine hp_doneR (hp_runV S zz0 (c_Pc_hasWord l dC dI cA A h t b w d tl wd j k h_t) l_Pc_74 (hJ.preV _ h_t rfl) (by decide) rfl hl.1 rfl (nl rfl) d_Pc_wordAt_3 (by decide)) ?_
  refine lv_if_eq (tgt := 25) S.1 S.2.1 d_Pc_wordAt_6 (by decide) (fun c_6 => ?_) (fun c_6 => ?_)
  · refine lv_lconst (v := 0) S.1 S.2.1 d_Pc_wordAt_25 (by decide) ?_
    exact hp_retRl S hr hlk d_Pc_wordAt_26 (if_neg (q_is_0.mp c_6)).symm
  · refine lv_aload_n S.1 S.2.1 d_Pc_wordAt_9 rfl (lv_at hl 0 rfl) ?_
    refine hp_get S zz hJ h_t f_Pc_30 rfl d_Pc_wordAt_10 ?_
    refine lv_iload_n S.1 S.2.1 d_Pc_wordAt_13 rfl (lv_at hl 1 rfl) ?_
    refine lv_aload_n S.1 S.2.1 d_Pc_wordAt_14 rfl (lv_at hl 0 rfl) ?_
    refine hp_get S zz hJ h_t f_Pc_27 rfl d_Pc_wordAt_15 ?_
    refine lv_imul S.1 S.2.1 d_Pc_wordAt_18 ?_
    refine lv_iload_n S.1 S.2.1 d_Pc_wordAt_19 rfl (lv_at hl 2 rfl) ?_
    refine lv_iadd S.1 S.2.1 d_Pc_wordAt_20 ?_
    refine hp_lald S hJ 1 h_b rfl (hix j k (q_is_ne.mp c_6)) d_Pc_wordAt_21 ?_
    refine lv_goto (tgt := 26) S.1 S.2.1 d_Pc_wordAt_22 (by decide) ?_
    exact hp_retRl S hr hlk d_Pc_wordAt_26 (if_pos (q_is_ne.mp c_6)).symm

set_option maxHeartbeats 4000000 in
set_option maxRecDepth 100000 in
theorem c_Pc_setWord (l : Launch) (dC : Nat → ClassId) (dI : Nat → Nat → Nat) (cA : Nat → ClassId) (A : Nat → Prop) (h : hp_T) (t b : Nat) (w d tl wd : Int32) (n : Nat) (f : Nat → Int64) (j k : Int32) (x : Int64) (h_t : h t = some (k_Pc w d tl wd b)) (h_b : h b = some (k_lo (cA 1) n f)) (hix : ∀ j k : Int32, 0 ≤ j ∧ j < d ∧ 0 ≤ k ∧ k < wd → vp_in (j * wd + k) n) : Met l y_Pc_setWord (.code y_Pc_setWord prog_5_method_11_code 5 none :: BIG) ({ frames := 1, cells := 0, slots := 0, locals := 22 }) (va_Pc [.ref t, .int j, .int k, .long x] (hp_I (gg dC dI cA) A h)) (hp_QW (gg dC dI cA) A hp_mv (fun _ h' => h' = hp_up h b (k_lo (cA 1) n (q_sw d wd f j k x)))) 0 0 A := by
  refine hp_enter (by decide) (Nat.le_of_ble_eq_true rfl) ?_
  intro p e s m below meth c ls S hr hlk hin hI hl
  have hl : lv_has ls 5 [(0, .ref t), (1, .int j), (2, .int k), (3, .long x)] := hl
  have hJ := hI.J
  refine lv_aload_n S.1 S.2.1 d_Pc_setWord_0 rfl (lv_at hl 0 rfl) ?_
  refine lv_iload_n S.1 S.2.1 d_Pc_setWord_1 rfl (lv_at hl 1 rfl) ?_
  refine lv_iload_n S.1 S.2.1 d_Pc_setWord_2 rfl (lv_at hl 2 rfl) ?_
  refine hp_doneR (hp_runV S zz0 (c_Pc_hasWord l dC dI cA A h t b w d tl wd j k h_t) l_Pc_74 (hJ.preV _ h_t rfl) (by decide) rfl hl.1 rfl (nl rfl) d_Pc_setWord_3 (by decide)) ?_
  refine lv_if_eq (tgt := 23) S.1 S.2.1 d_Pc_setWord_6 (by decide) (fun c_6 => ?_) (fun c_6 => ?_)
  · exact hp_retWv S hJ hr hlk d_Pc_setWord_23 (by decide) (by unfold q_sw; rw [if_neg (q_is_0.mp c_6), hp_up_same h_b])
  · refine lv_aload_n S.1 S.2.1 d_Pc_setWord_9 rfl (lv_at hl 0 rfl) ?_
    refine hp_get S zz hJ h_t f_Pc_30 rfl d_Pc_setWord_10 ?_
    refine lv_iload_n S.1 S.2.1 d_Pc_setWord_13 rfl (lv_at hl 1 rfl) ?_
    refine lv_aload_n S.1 S.2.1 d_Pc_setWord_14 rfl (lv_at hl 0 rfl) ?_
    refine hp_get S zz hJ h_t f_Pc_27 rfl d_Pc_setWord_15 ?_
    refine lv_imul S.1 S.2.1 d_Pc_setWord_18 ?_
    refine lv_iload_n S.1 S.2.1 d_Pc_setWord_19 rfl (lv_at hl 2 rfl) ?_
    refine lv_iadd S.1 S.2.1 d_Pc_setWord_20 ?_
    refine lv_lload_n S.1 S.2.1 d_Pc_setWord_21 rfl (lv_at hl 3 rfl) ?_
    refine hp_last S hJ 1 h_b rfl (hix j k (q_is_ne.mp c_6)) d_Pc_setWord_22 (fun H locs hJ => ?_)
    obtain ⟨h1, eh1⟩ : ∃ z, z = hp_up h b (k_lo (cA 1) n (vp_updL f (j * wd + k).toNatClampNeg x)) := ⟨_, rfl⟩
    have hJ := hJ.cast eh1
    have h0_b := h_b
    have h_t : h1 t = some (.inr (4, [.int w, .int d, .int tl, .int wd, .ref b])) := by rw [eh1]; exact hp_up_k (hp_ne h_t h0_b (show ((0, 4) : Nat × Nat) ≠ (2, 0) by decide)) h_t
    have h_b : h1 b = some (k_lo (cA 1) n (vp_updL f (j * wd + k).toNatClampNeg x)) := by rw [eh1]; exact hp_up_s _ _ _
    exact hp_retWv S hJ hr hlk d_Pc_setWord_23 (by decide) (by unfold q_sw; rw [if_pos (q_is_ne.mp c_6), eh1])
end
section
/-! Pictures: made, read and written. -/
def pw (w : Nat) : Nat := (w + 63) / 64
theorem lg_cmp_0 (x : Int64) : lg_cmp x 0 = 0 ↔ x = 0 := by
  unfold lg_cmp
  split
  · rename_i h
    exact ⟨fun q => absurd q (by decide), fun q => by rw [q] at h; exact absurd h (by decide)⟩
  · split
    · rename_i h
      exact ⟨fun _ => h, fun _ => rfl⟩
    · rename_i h
      exact ⟨fun q => absurd q (by decide), fun q => absurd q h⟩
theorem ix_ok {wd d : Nat} (hw : wd ≤ 1024) (hd : d ≤ 1024) (j k : Int32) (h : 0 ≤ j ∧ j < nI d ∧ 0 ≤ k ∧ k < nI wd) : vp_in (j * nI wd + k) (wd * d) := by
  obtain ⟨h1, h2, h3, h4⟩ := h
  simp only [z_lt, z_le, z_0] at h1 h2 h3 h4
  rw [z_nI (by omega)] at h2 h4
  obtain ⟨j', hj'⟩ : ∃ j' : Nat, j.toInt = (j' : Int) := ⟨j.toInt.toNat, by omega⟩
  obtain ⟨k', hk'⟩ : ∃ k' : Nat, k.toInt = (k' : Int) := ⟨k.toInt.toNat, by omega⟩
  have ej := z_of hj'
  have ek := z_of hk'
  subst ej
  subst ek
  have hj : j' < d := by omega
  have hk : k' < wd := by omega
  have h5 : j' * wd + k' < wd * d := by
    have : (j' + 1) * wd ≤ d * wd := Nat.mul_le_mul_right _ hj
    rw [Nat.add_mul, Nat.one_mul] at this
    rw [Nat.mul_comm wd d]
    omega
  have h6 : wd * d ≤ 1024 * 1024 := Nat.mul_le_mul hw hd
  rw [pk_mul, nI_add]
  exact vp_in_nI h5 (by omega)
theorem wa_in {wd d : Nat} (hw : wd ≤ 1024) (hd : d ≤ 1024) (f : Nat → Int64) {j k : Nat} (hj : j < d) (hk : k < wd) : q_wa (nI d) (nI wd) f (nI j) (nI k) = f (j * wd + k) := by
  have h5 : j * wd + k < wd * d := by
    have : (j + 1) * wd ≤ d * wd := Nat.mul_le_mul_right _ hj
    rw [Nat.add_mul, Nat.one_mul] at this
    rw [Nat.mul_comm wd d]
    omega
  have h6 : wd * d ≤ 1024 * 1024 := Nat.mul_le_mul hw hd
  unfold q_wa
  rw [if_pos ⟨nI_pos' (by omega), nI_lt hj (by omega), nI_pos' (by omega), nI_lt hk (by omega)⟩, pk_mul, nI_add, nI_clamp (by omega)]
theorem wa_out {wd d : Nat} (hw : wd ≤ 1024) (hd : d ≤ 1024) (f : Nat → Int64) {j k : Int32} (h : ¬ (0 ≤ j.toInt ∧ j.toInt < d ∧ 0 ≤ k.toInt ∧ k.toInt < wd)) : q_wa (nI d) (nI wd) f j k = 0 := by
  unfold q_wa
  rw [if_neg]
  intro q
  simp only [z_lt, z_le, z_0] at q
  rw [z_nI (by omega), z_nI (by omega)] at q
  exact h q
theorem sw_in {wd d : Nat} (hw : wd ≤ 1024) (hd : d ≤ 1024) (f : Nat → Int64) {j k : Nat} (hj : j < d) (hk : k < wd) (x : Int64) : q_sw (nI d) (nI wd) f (nI j) (nI k) x = vp_updL f (j * wd + k) x := by
  have h5 : j * wd + k < wd * d := by
    have : (j + 1) * wd ≤ d * wd := Nat.mul_le_mul_right _ hj
    rw [Nat.add_mul, Nat.one_mul] at this
    rw [Nat.mul_comm wd d]
    omega
  have h6 : wd * d ≤ 1024 * 1024 := Nat.mul_le_mul hw hd
  unfold q_sw
  rw [if_pos ⟨nI_pos' (by omega), nI_lt hj (by omega), nI_pos' (by omega), nI_lt hk (by omega)⟩, pk_mul, nI_add, nI_clamp (by omega)]
theorem sw_out {wd d : Nat} (hw : wd ≤ 1024) (hd : d ≤ 1024) (f : Nat → Int64) {j k : Int32} (x : Int64) (h : ¬ (0 ≤ j.toInt ∧ j.toInt < d ∧ 0 ≤ k.toInt ∧ k.toInt < wd)) : q_sw (nI d) (nI wd) f j k x = f := by
  unfold q_sw
  rw [if_neg]
  intro q
  simp only [z_lt, z_le, z_0] at q
  rw [z_nI (by omega), z_nI (by omega)] at q
  exact h q
/-- the dot i of a long's 64, alone -/
def q_dot (i : Int32) : Int64 := ((-9223372036854775808 : Int64).toUInt64 >>> ((i - i / 64 * 64).toInt64.toUInt64 &&& Int64.toUInt64 63)).toInt64
theorem tb_top {p : Nat} (hp : p < 64) : tb (-9223372036854775808) p = decide (p = 0) := by
  revert p
  decide +kernel
theorem n64 : nI 64 = 64 := rfl
theorem dot_i {i : Nat} (hi : i < 2 ^ 31) {p : Nat} (hp : p < 64) : tb (q_dot (nI i)) p = decide (p = i % 64) := by
  unfold q_dot
  rw [← n64, pk_rem hi (by decide) (by decide), tb_ushr _ (by omega) hp, tb_top (by omega)]
  by_cases h : p = i % 64
  · rw [decide_eq_true h, decide_eq_false (by omega), decide_eq_true (by omega)]; rfl
  · rw [decide_eq_false h]
    by_cases h2 : p < i % 64
    · rw [decide_eq_true h2]; rfl
    · rw [decide_eq_false h2, decide_eq_false (by omega)]; rfl
theorem dot_and {i : Nat} (hi : i < 2 ^ 31) (x : Int64) : ¬ x &&& q_dot (nI i) = 0 ↔ tb x (i % 64) = true := by
  constructor
  · intro h
    cases hb : tb x (i % 64) with
    | true => rfl
    | false =>
      refine absurd (tb_ext fun p hp => ?_) h
      rw [tb_and, dot_i hi hp, tb_0]
      by_cases hq : p = i % 64
      · rw [hq, hb]; rfl
      · rw [decide_eq_false hq, Bool.and_false]
  · intro h q
    have := congrArg (fun z => tb z (i % 64)) q
    simp only [tb_and, tb_0] at this
    rw [dot_i hi (by omega), h, decide_eq_true rfl] at this
    exact absurd this (by decide)
/-- a picture's dots, out of its words -/
def pd (f : Nat → Int64) (wd i j : Nat) : Bool := tb (f (j * wd + i / 64)) (i % 64)
theorem div64 {i : Nat} (hi : i < 2 ^ 31) : nI i / 64 = nI (i / 64) := by rw [← n64, pk_div hi (by decide) (by decide)]

set_option maxHeartbeats 4000000 in
set_option maxRecDepth 100000 in
theorem c_Pc_isBlack (l : Launch) (dC : Nat → ClassId) (dI : Nat → Nat → Nat) (cA : Nat → ClassId) (A : Nat → Prop) (h : hp_T) (t b : Nat) (w d tl wd : Int32) (n : Nat) (f : Nat → Int64) (i j : Int32) (h_t : h t = some (k_Pc w d tl wd b)) (h_b : h b = some (k_lo (cA 1) n f)) (hix : ∀ j k : Int32, 0 ≤ j ∧ j < d ∧ 0 ≤ k ∧ k < wd → vp_in (j * wd + k) n) : Met l y_Pc_isBlack (.code y_Pc_isBlack prog_5_method_8_code 3 (some .boolean) :: BIG) ({ frames := 2, cells := 0, slots := 0, locals := 44 }) (va_Pc [.ref t, .int i, .int j] (hp_I (gg dC dI cA) A h)) (hp_QR (some (.int (q_is (¬ q_wa d wd f j (i / 64) &&& q_dot i = 0))))) 0 0 (fun _ => False) := by
  refine hp_enter (by decide) (Nat.le_of_ble_eq_true rfl) ?_
  intro p e s m below meth c ls S hr hlk hin hI hl
  have hl : lv_has ls 3 [(0, .ref t), (1, .int i), (2, .int j)] := hl
  have hJ := hI.J
  refine lv_aload_n S.1 S.2.1 d_Pc_isBlack_0 rfl (lv_at hl 0 rfl) ?_
  refine lv_iload_n S.1 S.2.1 d_Pc_isBlack_1 rfl (lv_at hl 2 rfl) ?_
  refine lv_iload_n S.1 S.2.1 d_Pc_isBlack_2 rfl (lv_at hl 1 rfl) ?_
  refine lv_bipush (v := 64) S.1 S.2.1 d_Pc_isBlack_3 (by decide) ?_
  refine lv_idiv S.1 S.2.1 d_Pc_isBlack_5 (by decide) ?_
  refine hp_doneR (hp_runV S zz0 (c_Pc_wordAt l dC dI cA A h t b w d tl wd n f _ _ h_t h_b hix) l_Pc_54 (hJ.preV _ h_t rfl) (by decide) rfl hl.1 rfl (nl rfl) d_Pc_isBlack_6 (by decide)) ?_
  refine lv_ldc2 (v := (-9223372036854775808)) S.1 S.2.1 S.2.2.2.1 (S.2.2.2.2 _ t_267) d_Pc_isBlack_9 ?_
  refine lv_iload_n S.1 S.2.1 d_Pc_isBlack_12 rfl (lv_at hl 1 rfl) ?_
  refine lv_bipush (v := 64) S.1 S.2.1 d_Pc_isBlack_13 (by decide) ?_
  refine lv_irem S.1 S.2.1 d_Pc_isBlack_15 (by decide) ?_
  refine lv_lushr S.1 S.2.1 d_Pc_isBlack_16 rfl ?_
  refine lv_land S.1 S.2.1 d_Pc_isBlack_17 ?_
  refine lv_lconst (v := 0) S.1 S.2.1 d_Pc_isBlack_18 (by decide) ?_
  refine W.lcmp S.1 S.2.1 d_Pc_isBlack_19 ?_
  refine lv_if_eq (tgt := 27) S.1 S.2.1 d_Pc_isBlack_20 (by decide) (fun c_20 => ?_) (fun c_20 => ?_)
  · refine lv_iconst (v := 0) S.1 S.2.1 d_Pc_isBlack_27 (by decide) ?_
    exact hp_retRz S hr hlk d_Pc_isBlack_28 (by decide) (q_is_f (fun q => q ((lg_cmp_0 _).mp c_20)))
  · refine lv_iconst (v := 1) S.1 S.2.1 d_Pc_isBlack_23 (by decide) ?_
    refine lv_goto (tgt := 28) S.1 S.2.1 d_Pc_isBlack_24 (by decide) ?_
    exact hp_retRz S hr hlk d_Pc_isBlack_28 (by decide) (q_is_t (fun q => c_20 ((lg_cmp_0 _).mpr q)))

set_option maxHeartbeats 4000000 in
set_option maxRecDepth 100000 in
theorem c_Pc_blacken (l : Launch) (dC : Nat → ClassId) (dI : Nat → Nat → Nat) (cA : Nat → ClassId) (A : Nat → Prop) (h : hp_T) (t b : Nat) (w d tl wd : Int32) (n : Nat) (f : Nat → Int64) (i j : Int32) (h_t : h t = some (k_Pc w d tl wd b)) (h_b : h b = some (k_lo (cA 1) n f)) (hix : ∀ j k : Int32, 0 ≤ j ∧ j < d ∧ 0 ≤ k ∧ k < wd → vp_in (j * wd + k) n) : Met l y_Pc_blacken (.code y_Pc_blacken prog_5_method_9_code 3 none :: BIG) ({ frames := 2, cells := 0, slots := 0, locals := 46 }) (va_Pc [.ref t, .int i, .int j] (hp_I (gg dC dI cA) A h)) (hp_QW (gg dC dI cA) A hp_mv (fun _ h' => h' = hp_up h b (k_lo (cA 1) n (q_sw d wd f j (i / 64) (q_wa d wd f j (i / 64) ||| q_dot i))))) 0 0 A := by
  refine hp_enter (by decide) (Nat.le_of_ble_eq_true rfl) ?_
  intro p e s m below meth c ls S hr hlk hin hI hl
  have hl : lv_has ls 3 [(0, .ref t), (1, .int i), (2, .int j)] := hl
  have hJ := hI.J
  refine lv_aload_n S.1 S.2.1 d_Pc_blacken_0 rfl (lv_at hl 0 rfl) ?_
  refine lv_iload_n S.1 S.2.1 d_Pc_blacken_1 rfl (lv_at hl 2 rfl) ?_
  refine lv_iload_n S.1 S.2.1 d_Pc_blacken_2 rfl (lv_at hl 1 rfl) ?_
  refine lv_bipush (v := 64) S.1 S.2.1 d_Pc_blacken_3 (by decide) ?_
  refine lv_idiv S.1 S.2.1 d_Pc_blacken_5 (by decide) ?_
  refine lv_aload_n S.1 S.2.1 d_Pc_blacken_6 rfl (lv_at hl 0 rfl) ?_
  refine lv_iload_n S.1 S.2.1 d_Pc_blacken_7 rfl (lv_at hl 2 rfl) ?_
  refine lv_iload_n S.1 S.2.1 d_Pc_blacken_8 rfl (lv_at hl 1 rfl) ?_
  refine lv_bipush (v := 64) S.1 S.2.1 d_Pc_blacken_9 (by decide) ?_
  refine lv_idiv S.1 S.2.1 d_Pc_blacken_11 (by decide) ?_
  refine hp_doneR (hp_runV S zz0 (c_Pc_wordAt l dC dI cA A h t b w d tl wd n f _ _ h_t h_b hix) l_Pc_54 (hJ.preV _ h_t rfl) (by decide) rfl hl.1 rfl (nl rfl) d_Pc_blacken_12 (by decide)) ?_
  refine lv_ldc2 (v := (-9223372036854775808)) S.1 S.2.1 S.2.2.2.1 (S.2.2.2.2 _ t_267) d_Pc_blacken_15 ?_
  refine lv_iload_n S.1 S.2.1 d_Pc_blacken_18 rfl (lv_at hl 1 rfl) ?_
  refine lv_bipush (v := 64) S.1 S.2.1 d_Pc_blacken_19 (by decide) ?_
  refine lv_irem S.1 S.2.1 d_Pc_blacken_21 (by decide) ?_
  refine lv_lushr S.1 S.2.1 d_Pc_blacken_22 rfl ?_
  refine lv_lor S.1 S.2.1 d_Pc_blacken_23 ?_
  refine hp_doneWv hJ (hp_runV S zz0 (c_Pc_setWord l dC dI cA A h t b w d tl wd n f _ _ _ h_t h_b hix) l_Pc_38 (hJ.preV _ h_t rfl) (by decide) rfl hl.1 rfl (nl rfl) d_Pc_blacken_24 (by decide)) (fun h1 H locs eh1 hJ => ?_)
  have h0_b := h_b
  have h_t : h1 t = some (.inr (4, [.int w, .int d, .int tl, .int wd, .ref b])) := by rw [eh1]; exact hp_up_k (hp_ne h_t h0_b (show ((0, 4) : Nat × Nat) ≠ (2, 0) by decide)) h_t
  have h_b : h1 b = some (k_lo (cA 1) n (q_sw d wd f j (i / 64) (q_wa d wd f j (i / 64) ||| q_dot i))) := by rw [eh1]; exact hp_up_s _ _ _
  exact hp_retWv S hJ hr hlk d_Pc_blacken_27 (by decide) eh1

def q_df (wa : Int32 → Int64) (k sh : Int32) : Int64 := if sh = 0 then wa k <<< (sh.toInt64 &&& 63) else wa k <<< (sh.toInt64 &&& 63) ||| ((wa (k + 1)).toUInt64 >>> ((64 - sh).toInt64.toUInt64 &&& Int64.toUInt64 63)).toInt64
def q_ln (tl line : Int32) : Int32 := if tl ≤ 1 then line else line / tl
set_option maxHeartbeats 4000000 in
set_option maxRecDepth 100000 in
theorem c_Pc_dotsFrom (l : Launch) (dC : Nat → ClassId) (dI : Nat → Nat → Nat) (cA : Nat → ClassId) (A : Nat → Prop) (h : hp_T) (t b : Nat) (w d tl wd : Int32) (n : Nat) (f : Nat → Int64) (line first : Int32) (h_t : h t = some (k_Pc w d tl wd b)) (h_b : h b = some (k_lo (cA 1) n f)) (hix : ∀ j k : Int32, 0 ≤ j ∧ j < d ∧ 0 ≤ k ∧ k < wd → vp_in (j * wd + k) n) : Met l y_Pc_dotsFrom (.code y_Pc_dotsFrom prog_5_method_4_code 8 (some .long) :: BIG) ({ frames := 2, cells := 0, slots := 0, locals := 44 }) (va_Pc [.ref t, .int line, .int first] (hp_I (gg dC dI cA) A h)) (hp_QR (some (.long (q_df (q_wa d wd f (q_ln tl line)) (q_fdiv first 64) (q_fmod first 64))))) 0 0 (fun _ => False) := by
  refine hp_enter (by decide) (Nat.le_of_ble_eq_true rfl) ?_
  intro p e s m below meth c ls S hr hlk hin hI hl
  have hl : lv_has ls 8 [(0, .ref t), (1, .int line), (2, .int first)] := hl
  have hJ := hI.J
  refine lv_aload_n S.1 S.2.1 d_Pc_dotsFrom_0 rfl (lv_at hl 0 rfl) ?_
  refine hp_get S zz hJ h_t f_Pc_24 rfl d_Pc_dotsFrom_1 ?_
  refine lv_iconst (v := 1) S.1 S.2.1 d_Pc_dotsFrom_4 (by decide) ?_
  refine lv_icmp_le (tgt := 17) S.1 S.2.1 d_Pc_dotsFrom_5 (by decide) (fun c_5 => ?_) (fun c_5 => ?_)
  · refine lv_iload_n S.1 S.2.1 d_Pc_dotsFrom_17 rfl (lv_at hl 1 rfl) ?_
    refine lv_istore_n (lv' := [(3, .int line), (0, .ref t), (1, .int line), (2, .int first)]) S.1 S.2.1 d_Pc_dotsFrom_18 rfl hl (by decide) rfl (fun ls hl => ?_)
    refine lv_iload_n S.1 S.2.1 d_Pc_dotsFrom_19 rfl (lv_at hl 3 rfl) ?_
    refine lv_bipush (v := 64) S.1 S.2.1 d_Pc_dotsFrom_20 (by decide) ?_
    refine hp_doneR (hp_runS S zz0 (c_JM_floorDiv l _ _ (by decide)) l_Pc_48 (hp_pre0 _) (by decide) rfl hl.1 rfl (nl rfl) d_Pc_dotsFrom_22 (by decide)) ?_
    refine lv_istore (lv' := [(4, .int (q_fdiv first 64)), (3, .int line), (0, .ref t), (1, .int line), (2, .int first)]) S.1 S.2.1 d_Pc_dotsFrom_25 hl (by decide) rfl (fun ls hl => ?_)
    refine lv_iload_n S.1 S.2.1 d_Pc_dotsFrom_27 rfl (lv_at hl 4 rfl) ?_
    refine lv_bipush (v := 64) S.1 S.2.1 d_Pc_dotsFrom_28 (by decide) ?_
    refine hp_doneR (hp_runS S zz0 (c_JM_floorMod l _ _ (by decide)) l_Pc_51 (hp_pre0 _) (by decide) rfl hl.1 rfl (nl rfl) d_Pc_dotsFrom_30 (by decide)) ?_
    refine lv_istore (lv' := [(5, .int (q_fmod first 64)), (4, .int (q_fdiv first 64)), (3, .int line), (0, .ref t), (1, .int line), (2, .int first)]) S.1 S.2.1 d_Pc_dotsFrom_33 hl (by decide) rfl (fun ls hl => ?_)
    refine lv_aload_n S.1 S.2.1 d_Pc_dotsFrom_35 rfl (lv_at hl 3 rfl) ?_
    refine lv_iload_n S.1 S.2.1 d_Pc_dotsFrom_36 rfl (lv_at hl 2 rfl) ?_
    refine lv_iload S.1 S.2.1 d_Pc_dotsFrom_37 (lv_at hl 1 rfl) ?_
    refine hp_doneR (hp_runV S zz0 (c_Pc_wordAt l dC dI cA A h t b w d tl wd n f _ _ h_t h_b hix) l_Pc_54 (hJ.preV _ h_t rfl) (by decide) rfl hl.1 rfl (nl rfl) d_Pc_dotsFrom_39 (by decide)) ?_
    refine lv_iload S.1 S.2.1 d_Pc_dotsFrom_42 (lv_at hl 0 rfl) ?_
    refine lv_lshl S.1 S.2.1 d_Pc_dotsFrom_44 rfl ?_
    refine lv_lstore (lv' := [(6, .long _), (5, .int (q_fmod first 64)), (4, .int (q_fdiv first 64)), (3, .int line), (0, .ref t), (1, .int line), (2, .int first)]) S.1 S.2.1 d_Pc_dotsFrom_45 hl (by decide) rfl (fun ls hl => ?_)
    refine lv_iload S.1 S.2.1 d_Pc_dotsFrom_47 (lv_at hl 1 rfl) ?_
    refine lv_if_ne (tgt := 57) S.1 S.2.1 d_Pc_dotsFrom_49 (by decide) (fun c_49 => ?_) (fun c_49 => ?_)
    · refine lv_lload S.1 S.2.1 d_Pc_dotsFrom_57 (lv_at hl 0 rfl) ?_
      refine lv_aload_n S.1 S.2.1 d_Pc_dotsFrom_59 rfl (lv_at hl 4 rfl) ?_
      refine lv_iload_n S.1 S.2.1 d_Pc_dotsFrom_60 rfl (lv_at hl 3 rfl) ?_
      refine lv_iload S.1 S.2.1 d_Pc_dotsFrom_61 (lv_at hl 2 rfl) ?_
      refine lv_iconst (v := 1) S.1 S.2.1 d_Pc_dotsFrom_63 (by decide) ?_
      refine lv_iadd S.1 S.2.1 d_Pc_dotsFrom_64 ?_
      refine hp_doneR (hp_runV S zz0 (c_Pc_wordAt l dC dI cA A h t b w d tl wd n f _ _ h_t h_b hix) l_Pc_54 (hJ.preV _ h_t rfl) (by decide) rfl hl.1 rfl (nl rfl) d_Pc_dotsFrom_65 (by decide)) ?_
      refine lv_bipush (v := 64) S.1 S.2.1 d_Pc_dotsFrom_68 (by decide) ?_
      refine lv_iload S.1 S.2.1 d_Pc_dotsFrom_70 (lv_at hl 1 rfl) ?_
      refine lv_isub S.1 S.2.1 d_Pc_dotsFrom_72 ?_
      refine lv_lushr S.1 S.2.1 d_Pc_dotsFrom_73 rfl ?_
      refine lv_lor S.1 S.2.1 d_Pc_dotsFrom_74 ?_
      exact hp_retRl S hr hlk d_Pc_dotsFrom_75 (by unfold q_df q_ln; rw [if_pos c_5, if_neg c_49])
    · refine lv_lload S.1 S.2.1 d_Pc_dotsFrom_52 (lv_at hl 0 rfl) ?_
      refine lv_goto (tgt := 75) S.1 S.2.1 d_Pc_dotsFrom_54 (by decide) ?_
      exact hp_retRl S hr hlk d_Pc_dotsFrom_75 (by unfold q_df q_ln; rw [if_pos c_5, if_pos c_49])
  · refine lv_iload_n S.1 S.2.1 d_Pc_dotsFrom_8 rfl (lv_at hl 1 rfl) ?_
    refine lv_aload_n S.1 S.2.1 d_Pc_dotsFrom_9 rfl (lv_at hl 0 rfl) ?_
    refine hp_get S zz hJ h_t f_Pc_24 rfl d_Pc_dotsFrom_10 ?_
    refine lv_idiv S.1 S.2.1 d_Pc_dotsFrom_13 (fun q => c_5 (by rw [q]; decide)) ?_
    refine lv_goto (tgt := 18) S.1 S.2.1 d_Pc_dotsFrom_14 (by decide) ?_
    refine lv_istore_n (lv' := [(3, .int (line / tl)), (0, .ref t), (1, .int line), (2, .int first)]) S.1 S.2.1 d_Pc_dotsFrom_18 rfl hl (by decide) rfl (fun ls hl => ?_)
    refine lv_iload_n S.1 S.2.1 d_Pc_dotsFrom_19 rfl (lv_at hl 3 rfl) ?_
    refine lv_bipush (v := 64) S.1 S.2.1 d_Pc_dotsFrom_20 (by decide) ?_
    refine hp_doneR (hp_runS S zz0 (c_JM_floorDiv l _ _ (by decide)) l_Pc_48 (hp_pre0 _) (by decide) rfl hl.1 rfl (nl rfl) d_Pc_dotsFrom_22 (by decide)) ?_
    refine lv_istore (lv' := [(4, .int (q_fdiv first 64)), (3, .int (line / tl)), (0, .ref t), (1, .int line), (2, .int first)]) S.1 S.2.1 d_Pc_dotsFrom_25 hl (by decide) rfl (fun ls hl => ?_)
    refine lv_iload_n S.1 S.2.1 d_Pc_dotsFrom_27 rfl (lv_at hl 4 rfl) ?_
    refine lv_bipush (v := 64) S.1 S.2.1 d_Pc_dotsFrom_28 (by decide) ?_
    refine hp_doneR (hp_runS S zz0 (c_JM_floorMod l _ _ (by decide)) l_Pc_51 (hp_pre0 _) (by decide) rfl hl.1 rfl (nl rfl) d_Pc_dotsFrom_30 (by decide)) ?_
    refine lv_istore (lv' := [(5, .int (q_fmod first 64)), (4, .int (q_fdiv first 64)), (3, .int (line / tl)), (0, .ref t), (1, .int line), (2, .int first)]) S.1 S.2.1 d_Pc_dotsFrom_33 hl (by decide) rfl (fun ls hl => ?_)
    refine lv_aload_n S.1 S.2.1 d_Pc_dotsFrom_35 rfl (lv_at hl 3 rfl) ?_
    refine lv_iload_n S.1 S.2.1 d_Pc_dotsFrom_36 rfl (lv_at hl 2 rfl) ?_
    refine lv_iload S.1 S.2.1 d_Pc_dotsFrom_37 (lv_at hl 1 rfl) ?_
    refine hp_doneR (hp_runV S zz0 (c_Pc_wordAt l dC dI cA A h t b w d tl wd n f _ _ h_t h_b hix) l_Pc_54 (hJ.preV _ h_t rfl) (by decide) rfl hl.1 rfl (nl rfl) d_Pc_dotsFrom_39 (by decide)) ?_
    refine lv_iload S.1 S.2.1 d_Pc_dotsFrom_42 (lv_at hl 0 rfl) ?_
    refine lv_lshl S.1 S.2.1 d_Pc_dotsFrom_44 rfl ?_
    refine lv_lstore (lv' := [(6, .long _), (5, .int (q_fmod first 64)), (4, .int (q_fdiv first 64)), (3, .int (line / tl)), (0, .ref t), (1, .int line), (2, .int first)]) S.1 S.2.1 d_Pc_dotsFrom_45 hl (by decide) rfl (fun ls hl => ?_)
    refine lv_iload S.1 S.2.1 d_Pc_dotsFrom_47 (lv_at hl 1 rfl) ?_
    refine lv_if_ne (tgt := 57) S.1 S.2.1 d_Pc_dotsFrom_49 (by decide) (fun c_49 => ?_) (fun c_49 => ?_)
    · refine lv_lload S.1 S.2.1 d_Pc_dotsFrom_57 (lv_at hl 0 rfl) ?_
      refine lv_aload_n S.1 S.2.1 d_Pc_dotsFrom_59 rfl (lv_at hl 4 rfl) ?_
      refine lv_iload_n S.1 S.2.1 d_Pc_dotsFrom_60 rfl (lv_at hl 3 rfl) ?_
      refine lv_iload S.1 S.2.1 d_Pc_dotsFrom_61 (lv_at hl 2 rfl) ?_
      refine lv_iconst (v := 1) S.1 S.2.1 d_Pc_dotsFrom_63 (by decide) ?_
      refine lv_iadd S.1 S.2.1 d_Pc_dotsFrom_64 ?_
      refine hp_doneR (hp_runV S zz0 (c_Pc_wordAt l dC dI cA A h t b w d tl wd n f _ _ h_t h_b hix) l_Pc_54 (hJ.preV _ h_t rfl) (by decide) rfl hl.1 rfl (nl rfl) d_Pc_dotsFrom_65 (by decide)) ?_
      refine lv_bipush (v := 64) S.1 S.2.1 d_Pc_dotsFrom_68 (by decide) ?_
      refine lv_iload S.1 S.2.1 d_Pc_dotsFrom_70 (lv_at hl 1 rfl) ?_
      refine lv_isub S.1 S.2.1 d_Pc_dotsFrom_72 ?_
      refine lv_lushr S.1 S.2.1 d_Pc_dotsFrom_73 rfl ?_
      refine lv_lor S.1 S.2.1 d_Pc_dotsFrom_74 ?_
      exact hp_retRl S hr hlk d_Pc_dotsFrom_75 (by unfold q_df q_ln; rw [if_neg c_5, if_neg c_49])
    · refine lv_lload S.1 S.2.1 d_Pc_dotsFrom_52 (lv_at hl 0 rfl) ?_
      refine lv_goto (tgt := 75) S.1 S.2.1 d_Pc_dotsFrom_54 (by decide) ?_
      exact hp_retRl S hr hlk d_Pc_dotsFrom_75 (by unfold q_df q_ln; rw [if_neg c_5, if_pos c_49])

theorem hp_tbt (h : hp_T) {t b : Nat} (e1 eb e2 : va_E) (hn : t ≠ b) : hp_up (hp_up (hp_up h t e1) b eb) t e2 = hp_up (hp_up h b eb) t e2 := by
  rw [hp_up_comm h e1 eb hn, hp_up_up]
theorem mx1 {n : Nat} (h : 1 ≤ n) (h2 : n < 2 ^ 31) : (if (1 : Int32) < nI n then nI n else 1) = nI n := by
  split
  · rfl
  · rename_i q
    have h3 : ¬ (1 : Int32).toInt < (nI n).toInt := fun z => q (z_lt.mpr z)
    rw [z_nI h2, z_1] at h3
    have : n = 1 := by omega
    subst this
    rfl
theorem pw_div {w : Nat} (h : w < 2 ^ 30) : (nI w + 64 - 1) / 64 = nI (pw w) := by
  have h1 : (nI w + 64 - 1 : Int32) = nI (w + 63) := by
    rw [← n64, nI_add]
    exact nI_pred (w + 63)
  rw [h1, ← n64, pk_div (by omega) (by decide) (by decide)]
  rfl

set_option maxHeartbeats 4000000 in
set_option maxRecDepth 100000 in
theorem c_Pc_init (l : Launch) (dC : Nat → ClassId) (dI : Nat → Nat → Nat) (cA : Nat → ClassId) (A : Nat → Prop) (h : hp_T) (t : Nat) (w d tl : Nat) (hw : 1 ≤ w ∧ w ≤ 1024) (hd : 1 ≤ d ∧ d ≤ 1024) (htl : 1 ≤ tl ∧ tl ≤ 1024) (hwd : pw w * d ≤ 256) (h_t : h t = some (.inr (4, e0_Pc))) : Met l y_Pc_init (.code y_Pc_init prog_5_method_1_code 4 none :: BIG) ({ frames := 1, cells := 1, slots := 256, locals := 21 }) (va_Pc [.ref t, .int (nI w), .int (nI d), .int (nI tl)] (hp_I (gg dC dI cA) A h)) (hp_QW (gg dC dI cA) A hp_mv (fun _ h' => ∃ b, h b = none ∧ h' = hp_up (hp_up h b (k_lo (cA 1) (pw w * d) (fun _ => 0))) t (k_Pc (nI w) (nI d) (nI tl) (nI (pw w)) b))) 1 256 A := by
  refine hp_enter (by decide) (Nat.le_of_ble_eq_true rfl) ?_
  intro p e s m below meth c ls S hr hlk hin hI hl
  have hl : lv_has ls 4 [(0, .ref t), (1, .int (nI w)), (2, .int (nI d)), (3, .int (nI tl))] := hl
  have hJ := hI.J
  refine lv_aload_n S.1 S.2.1 d_Pc_init_0 rfl (lv_at hl 0 rfl) ?_
  refine hp_obj S l_Pc_3 hl.1 d_Pc_init_1 ⟨nl rfl, nl rfl⟩ ?_
  refine lv_aload_n S.1 S.2.1 d_Pc_init_4 rfl (lv_at hl 0 rfl) ?_
  refine lv_iconst (v := 1) S.1 S.2.1 d_Pc_init_5 (by decide) ?_
  refine lv_iload_n S.1 S.2.1 d_Pc_init_6 rfl (lv_at hl 1 rfl) ?_
  refine hp_max S l_Pc_9 hl.1 d_Pc_init_7 ⟨nl rfl, nl rfl, nl rfl, nl rfl⟩ ?_
  rw [mx1 hw.1 (by omega)]
  refine hp_putF S zz hJ hin h_t fp_Pc_15 rfl rfl rfl (nl rfl) d_Pc_init_10 (fun H locs hJ => ?_)
  obtain ⟨h1, eh1⟩ : ∃ z, z = hp_up h t (.inr (4, [.int (nI w), .int 0, .int 0, .int 0, .null])) := ⟨_, rfl⟩
  have hJ := hJ.cast eh1
  have h0_t := h_t
  have h_t : h1 t = some (.inr (4, [.int (nI w), .int 0, .int 0, .int 0, .null])) := by rw [eh1]; exact hp_up_s _ _ _
  refine lv_aload_n S.1 S.2.1 d_Pc_init_13 rfl (lv_at hl 0 rfl) ?_
  refine lv_iconst (v := 1) S.1 S.2.1 d_Pc_init_14 (by decide) ?_
  refine lv_iload_n S.1 S.2.1 d_Pc_init_15 rfl (lv_at hl 2 rfl) ?_
  refine hp_max S l_Pc_9 hl.1 d_Pc_init_16 ⟨nl rfl, nl rfl, nl rfl, nl rfl⟩ ?_
  rw [mx1 hd.1 (by omega)]
  refine hp_putF S zz hJ hin h_t fp_Pc_21 rfl rfl rfl (nl rfl) d_Pc_init_19 (fun H locs hJ => ?_)
  obtain ⟨h2, eh2⟩ : ∃ z, z = hp_up h1 t (.inr (4, [.int (nI w), .int (nI d), .int 0, .int 0, .null])) := ⟨_, rfl⟩
  have hJ := hJ.cast eh2
  have h0_t := h_t
  have h_t : h2 t = some (.inr (4, [.int (nI w), .int (nI d), .int 0, .int 0, .null])) := by rw [eh2]; exact hp_up_s _ _ _
  refine lv_aload_n S.1 S.2.1 d_Pc_init_22 rfl (lv_at hl 0 rfl) ?_
  refine lv_iconst (v := 1) S.1 S.2.1 d_Pc_init_23 (by decide) ?_
  refine lv_iload_n S.1 S.2.1 d_Pc_init_24 rfl (lv_at hl 3 rfl) ?_
  refine hp_max S l_Pc_9 hl.1 d_Pc_init_25 ⟨nl rfl, nl rfl, nl rfl, nl rfl⟩ ?_
  rw [mx1 htl.1 (by omega)]
  refine hp_putF S zz hJ hin h_t fp_Pc_24 rfl rfl rfl (nl rfl) d_Pc_init_28 (fun H locs hJ => ?_)
  obtain ⟨h3, eh3⟩ : ∃ z, z = hp_up h2 t (.inr (4, [.int (nI w), .int (nI d), .int (nI tl), .int 0, .null])) := ⟨_, rfl⟩
  have hJ := hJ.cast eh3
  have h0_t := h_t
  have h_t : h3 t = some (.inr (4, [.int (nI w), .int (nI d), .int (nI tl), .int 0, .null])) := by rw [eh3]; exact hp_up_s _ _ _
  refine lv_aload_n S.1 S.2.1 d_Pc_init_31 rfl (lv_at hl 0 rfl) ?_
  refine lv_aload_n S.1 S.2.1 d_Pc_init_32 rfl (lv_at hl 0 rfl) ?_
  refine hp_get S zz hJ h_t f_Pc_15 rfl d_Pc_init_33 ?_
  refine lv_bipush (v := 64) S.1 S.2.1 d_Pc_init_36 (by decide) ?_
  refine lv_iadd S.1 S.2.1 d_Pc_init_38 ?_
  refine lv_iconst (v := 1) S.1 S.2.1 d_Pc_init_39 (by decide) ?_
  refine lv_isub S.1 S.2.1 d_Pc_init_40 ?_
  refine lv_bipush (v := 64) S.1 S.2.1 d_Pc_init_41 (by decide) ?_
  refine lv_idiv S.1 S.2.1 d_Pc_init_43 (by decide) ?_
  rw [pw_div (by omega)]
  refine hp_putF S zz hJ hin h_t fp_Pc_27 rfl rfl rfl (nl rfl) d_Pc_init_44 (fun H locs hJ => ?_)
  obtain ⟨h4, eh4⟩ : ∃ z, z = hp_up h3 t (.inr (4, [.int (nI w), .int (nI d), .int (nI tl), .int (nI (pw w)), .null])) := ⟨_, rfl⟩
  have hJ := hJ.cast eh4
  have h0_t := h_t
  have h_t : h4 t = some (.inr (4, [.int (nI w), .int (nI d), .int (nI tl), .int (nI (pw w)), .null])) := by rw [eh4]; exact hp_up_s _ _ _
  refine lv_aload_n S.1 S.2.1 d_Pc_init_47 rfl (lv_at hl 0 rfl) ?_
  refine lv_aload_n S.1 S.2.1 d_Pc_init_48 rfl (lv_at hl 0 rfl) ?_
  refine hp_get S zz hJ h_t f_Pc_27 rfl d_Pc_init_49 ?_
  refine lv_aload_n S.1 S.2.1 d_Pc_init_52 rfl (lv_at hl 0 rfl) ?_
  refine hp_get S zz hJ h_t f_Pc_21 rfl d_Pc_init_53 ?_
  refine lv_imul S.1 S.2.1 d_Pc_init_56 ?_
  rw [pk_mul]
  refine hp_newa S hJ 1 (atype := .long) (a0 := (pw w * d, .inr (.inl (fun _ => 0)))) (N' := pw w * d) t_114 rfl (by intro C hC; cases hC) rfl (nI_pos (by omega)) (nI_clamp (by omega)) (show pw w * d * 8 ≤ 536870912 by omega) (nl rfl) (show 0 + pw w * d ≤ 256 by omega) d_Pc_init_57 (fun b H hq_b hs_b hJ => ?_)
  refine W.widen (k := 1) (n := 256) (by omega) (by omega) ?_
  have ne_t_b : t ≠ b := hp_neN h_t hq_b
  obtain ⟨h5, eh5⟩ : ∃ z, z = hp_up h4 b (k_lo (cA 1) (pw w * d) (fun _ => 0)) := ⟨_, rfl⟩
  have hJ := hJ.cast eh5
  have h_t : h5 t = some (.inr (4, [.int (nI w), .int (nI d), .int (nI tl), .int (nI (pw w)), .null])) := by rw [eh5]; exact hp_up_k (hp_neN h_t hq_b) h_t
  have h_b : h5 b = some (k_lo (cA 1) (pw w * d) (fun _ => 0)) := by rw [eh5]; exact hp_up_s _ _ _
  refine hp_putF S zz hJ hin h_t fp_Pc_30 rfl rfl rfl (nl rfl) d_Pc_init_59 (fun H locs hJ => ?_)
  obtain ⟨h6, eh6⟩ : ∃ z, z = hp_up h5 t (.inr (4, [.int (nI w), .int (nI d), .int (nI tl), .int (nI (pw w)), .ref b])) := ⟨_, rfl⟩
  have hJ := hJ.cast eh6
  have h0_t := h_t
  have h_b : h6 b = some (k_lo (cA 1) (pw w * d) (fun _ => 0)) := by rw [eh6]; exact hp_up_k (Ne.symm ne_t_b) h_b
  have h_t : h6 t = some (.inr (4, [.int (nI w), .int (nI d), .int (nI tl), .int (nI (pw w)), .ref b])) := by rw [eh6]; exact hp_up_s _ _ _
  exact hp_retWv S hJ hr hlk d_Pc_init_62 (by decide) ⟨b, by rw [eh4, eh3, eh2, eh1, hp_up_n (Ne.symm ne_t_b), hp_up_n (Ne.symm ne_t_b), hp_up_n (Ne.symm ne_t_b), hp_up_n (Ne.symm ne_t_b)] at hq_b; exact hq_b, by rw [eh6, eh5, eh4, eh3, eh2, eh1, hp_up_up, hp_up_up, hp_up_up, hp_tbt _ _ _ _ ne_t_b]⟩

set_option maxHeartbeats 4000000 in
set_option maxRecDepth 100000 in
theorem c_Pc_setDots (l : Launch) (dC : Nat → ClassId) (dI : Nat → Nat → Nat) (cA : Nat → ClassId) (A : Nat → Prop) (h : hp_T) (t b : Nat) (w d tl wd : Int32) (n : Nat) (f : Nat → Int64) (j : Int32) (left right : Int64) (h_t : h t = some (k_Pc w d tl wd b)) (h_b : h b = some (k_lo (cA 1) n f)) (hix : ∀ j k : Int32, 0 ≤ j ∧ j < d ∧ 0 ≤ k ∧ k < wd → vp_in (j * wd + k) n) : Met l y_Pc_setDots (.code y_Pc_setDots prog_5_method_2_code 6 none :: BIG) ({ frames := 2, cells := 0, slots := 0, locals := 46 }) (va_Pc [.ref t, .int j, .long left, .long right] (hp_I (gg dC dI cA) A h)) (hp_QW (gg dC dI cA) A hp_mv (fun _ h' => h' = hp_up h b (k_lo (cA 1) n (q_sw d wd (q_sw d wd f j 0 (left &&& q_fd w)) j 1 (right &&& q_fd (w - 64)))))) 0 0 A := by
  refine hp_enter (by decide) (Nat.le_of_ble_eq_true rfl) ?_
  intro p e s m below meth c ls S hr hlk hin hI hl
  have hl : lv_has ls 6 [(0, .ref t), (1, .int j), (2, .long left), (4, .long right)] := hl
  have hJ := hI.J
  refine lv_aload_n S.1 S.2.1 d_Pc_setDots_0 rfl (lv_at hl 0 rfl) ?_
  refine lv_iload_n S.1 S.2.1 d_Pc_setDots_1 rfl (lv_at hl 1 rfl) ?_
  refine lv_iconst (v := 0) S.1 S.2.1 d_Pc_setDots_2 (by decide) ?_
  refine lv_lload_n S.1 S.2.1 d_Pc_setDots_3 rfl (lv_at hl 2 rfl) ?_
  refine lv_aload_n S.1 S.2.1 d_Pc_setDots_4 rfl (lv_at hl 0 rfl) ?_
  refine hp_get S zz hJ h_t f_Pc_15 rfl d_Pc_setDots_5 ?_
  refine hp_doneR (hp_runN S zz hJ.2.1 (c_BP_firstDots l _) l_Pc_34 (hp_pre0 _) (by decide) rfl hl.1 rfl (nl rfl) d_Pc_setDots_8 (by decide)) ?_
  refine lv_land S.1 S.2.1 d_Pc_setDots_11 ?_
  refine hp_doneWv hJ (hp_runV S zz0 (c_Pc_setWord l dC dI cA A _ t b w d tl wd n _ _ _ _ h_t h_b hix) l_Pc_38 (hJ.preV _ h_t rfl) (by decide) rfl hl.1 rfl (nl rfl) d_Pc_setDots_12 (by decide)) (fun h1 H locs eh1 hJ => ?_)
  have h0_b := h_b
  have h_t : h1 t = some (.inr (4, [.int w, .int d, .int tl, .int wd, .ref b])) := by rw [eh1]; exact hp_up_k (hp_ne h_t h0_b (show ((0, 4) : Nat × Nat) ≠ (2, 0) by decide)) h_t
  have h_b : h1 b = some (k_lo (cA 1) n (q_sw d wd f j 0 (left &&& q_fd w))) := by rw [eh1]; exact hp_up_s _ _ _
  refine lv_aload_n S.1 S.2.1 d_Pc_setDots_15 rfl (lv_at hl 0 rfl) ?_
  refine lv_iload_n S.1 S.2.1 d_Pc_setDots_16 rfl (lv_at hl 1 rfl) ?_
  refine lv_iconst (v := 1) S.1 S.2.1 d_Pc_setDots_17 (by decide) ?_
  refine lv_lload S.1 S.2.1 d_Pc_setDots_18 (lv_at hl 3 rfl) ?_
  refine lv_aload_n S.1 S.2.1 d_Pc_setDots_20 rfl (lv_at hl 0 rfl) ?_
  refine hp_get S zz hJ h_t f_Pc_15 rfl d_Pc_setDots_21 ?_
  refine lv_bipush (v := 64) S.1 S.2.1 d_Pc_setDots_24 (by decide) ?_
  refine lv_isub S.1 S.2.1 d_Pc_setDots_26 ?_
  refine hp_doneR (hp_runN S zz hJ.2.1 (c_BP_firstDots l _) l_Pc_34 (hp_pre0 _) (by decide) rfl hl.1 rfl (nl rfl) d_Pc_setDots_27 (by decide)) ?_
  refine lv_land S.1 S.2.1 d_Pc_setDots_30 ?_
  refine hp_doneWv hJ (hp_runV S zz0 (c_Pc_setWord l dC dI cA A _ t b w d tl wd n _ _ _ _ h_t h_b hix) l_Pc_38 (hJ.preV _ h_t rfl) (by decide) rfl hl.1 rfl (nl rfl) d_Pc_setDots_31 (by decide)) (fun h2 H locs eh2 hJ => ?_)
  have h0_b := h_b
  have h_t : h2 t = some (.inr (4, [.int w, .int d, .int tl, .int wd, .ref b])) := by rw [eh2]; exact hp_up_k (hp_ne h_t h0_b (show ((0, 4) : Nat × Nat) ≠ (2, 0) by decide)) h_t
  have h_b : h2 b = some (k_lo (cA 1) n (q_sw d wd (q_sw d wd f j 0 (left &&& q_fd w)) j 1 (right &&& q_fd (w - 64)))) := by rw [eh2]; exact hp_up_s _ _ _
  exact hp_retWv S hJ hr hlk d_Pc_setDots_34 (by decide) (by rw [eh2, eh1, hp_up_up])
end
section
/-! Inks. -/
theorem q_is_c {a b : Prop} [Decidable a] [Decidable b] (h : a ↔ b) : q_is a = q_is b := by
  unfold q_is
  by_cases ha : a
  · rw [if_pos ha, if_pos (h.mp ha)]
  · rw [if_neg ha, if_neg (fun q => ha (h.mpr q))]
theorem q_is_n {b : Prop} [Decidable b] : narrow .boolean (.int (q_is b)) = .int (q_is b) := by
  unfold q_is
  split <;> rfl
/-- the sum that a shade asks -/
def q_sb (u v b s : Int32) : Int32 := s + (((32 : Int32) >>> (2 * b &&& 31)) * ((u >>> (b &&& 31) &&& 1) ^^^ (v >>> (b &&& 31) &&& 1)) + ((16 : Int32) >>> (2 * b &&& 31)) * (v >>> (b &&& 31) &&& 1))
def q_sh (u v : Int32) : Int32 := q_sb u v 2 (q_sb u v 1 (q_sb u v 0 0))
abbrev q_ly (v : Int32) : Prop := v = 7 ∨ v = 8
abbrev q_ri (u v : Int32) : Prop := u + v - (u + v) / 16 * 16 < 2
abbrev q_fa (u v : Int32) : Prop := u - v + 16 - (u - v + 16) / 16 * 16 < 2
abbrev q_ha (k u v : Int32) : Prop := (k = 1 ∧ q_ly v) ∨ (k = 2 ∧ q_ly u) ∨ (k = 3 ∧ q_ri u v) ∨ (k = 4 ∧ q_fa u v) ∨ (k = 5 ∧ (q_ly v ∨ q_ly u)) ∨ (k = 6 ∧ (q_ri u v ∨ q_fa u v))

set_option maxHeartbeats 4000000 in
set_option maxRecDepth 100000 in
theorem c_In_isShaded (l : Launch) (sd u v : Int32)  : Met l y_In_isShaded (.code y_In_isShaded prog_3_method_5_code 7 (some .boolean) :: BIG) ({ frames := 0, cells := 0, slots := 0, locals := 0 }) (va_Pc [.int sd, .int u, .int v] (fun _ => True)) (hp_QR (some (.int (q_is (q_sh u v < (64 * sd + 99) / 100))))) 0 0 (fun _ => False) := by
  refine hp_enter (by decide) (Nat.le_of_ble_eq_true rfl) ?_
  intro p e s m below meth c ls S hr hlk hin hI hl
  have hl : lv_has ls 7 [(0, .int sd), (1, .int u), (2, .int v)] := hl
  refine lv_iconst (v := 0) S.1 S.2.1 d_In_isShaded_0 (by decide) ?_
  refine lv_istore_n (lv' := [(3, .int 0), (0, .int sd), (1, .int u), (2, .int v)]) S.1 S.2.1 d_In_isShaded_1 rfl hl (by decide) rfl (fun ls hl => ?_)
  refine lv_iconst (v := 0) S.1 S.2.1 d_In_isShaded_2 (by decide) ?_
  refine lv_istore (lv' := [(4, .int 0), (3, .int 0), (0, .int sd), (1, .int u), (2, .int v)]) S.1 S.2.1 d_In_isShaded_3 hl (by decide) rfl (fun ls hl => ?_)
  refine lv_iload S.1 S.2.1 d_In_isShaded_5 (lv_at hl 0 rfl) ?_
  refine lv_iconst (v := 3) S.1 S.2.1 d_In_isShaded_7 (by decide) ?_
  refine lv_icmp_ge (tgt := 60) S.1 S.2.1 d_In_isShaded_8 (by decide) (fun q => absurd q (by decide)) (fun _ => ?_)
  refine lv_iload_n S.1 S.2.1 d_In_isShaded_11 rfl (lv_at hl 3 rfl) ?_
  refine lv_iload S.1 S.2.1 d_In_isShaded_12 (lv_at hl 0 rfl) ?_
  refine lv_ishr S.1 S.2.1 d_In_isShaded_14 ?_
  refine lv_iconst (v := 1) S.1 S.2.1 d_In_isShaded_15 (by decide) ?_
  refine lv_iand S.1 S.2.1 d_In_isShaded_16 ?_
  refine lv_istore (lv' := [(5, .int _), (4, .int 0), (3, .int 0), (0, .int sd), (1, .int u), (2, .int v)]) S.1 S.2.1 d_In_isShaded_17 hl (by decide) rfl (fun ls hl => ?_)
  refine lv_iload_n S.1 S.2.1 d_In_isShaded_19 rfl (lv_at hl 5 rfl) ?_
  refine lv_iload S.1 S.2.1 d_In_isShaded_20 (lv_at hl 1 rfl) ?_
  refine lv_ishr S.1 S.2.1 d_In_isShaded_22 ?_
  refine lv_iconst (v := 1) S.1 S.2.1 d_In_isShaded_23 (by decide) ?_
  refine lv_iand S.1 S.2.1 d_In_isShaded_24 ?_
  refine lv_istore (lv' := [(6, .int _), (5, .int _), (4, .int 0), (3, .int 0), (0, .int sd), (1, .int u), (2, .int v)]) S.1 S.2.1 d_In_isShaded_25 hl (by decide) rfl (fun ls hl => ?_)
  refine lv_iload_n S.1 S.2.1 d_In_isShaded_27 rfl (lv_at hl 3 rfl) ?_
  refine lv_bipush (v := 32) S.1 S.2.1 d_In_isShaded_28 (by decide) ?_
  refine lv_iconst (v := 2) S.1 S.2.1 d_In_isShaded_30 (by decide) ?_
  refine lv_iload S.1 S.2.1 d_In_isShaded_31 (lv_at hl 2 rfl) ?_
  refine lv_imul S.1 S.2.1 d_In_isShaded_33 ?_
  refine lv_ishr S.1 S.2.1 d_In_isShaded_34 ?_
  refine lv_iload S.1 S.2.1 d_In_isShaded_35 (lv_at hl 1 rfl) ?_
  refine lv_iload S.1 S.2.1 d_In_isShaded_37 (lv_at hl 0 rfl) ?_
  refine lv_ixor S.1 S.2.1 d_In_isShaded_39 ?_
  refine lv_imul S.1 S.2.1 d_In_isShaded_40 ?_
  refine lv_bipush (v := 16) S.1 S.2.1 d_In_isShaded_41 (by decide) ?_
  refine lv_iconst (v := 2) S.1 S.2.1 d_In_isShaded_43 (by decide) ?_
  refine lv_iload S.1 S.2.1 d_In_isShaded_44 (lv_at hl 2 rfl) ?_
  refine lv_imul S.1 S.2.1 d_In_isShaded_46 ?_
  refine lv_ishr S.1 S.2.1 d_In_isShaded_47 ?_
  refine lv_iload S.1 S.2.1 d_In_isShaded_48 (lv_at hl 0 rfl) ?_
  refine lv_imul S.1 S.2.1 d_In_isShaded_50 ?_
  refine lv_iadd S.1 S.2.1 d_In_isShaded_51 ?_
  refine lv_iadd S.1 S.2.1 d_In_isShaded_52 ?_
  refine lv_istore_n (lv' := [(3, .int _), (6, .int _), (5, .int _), (4, .int 0), (0, .int sd), (1, .int u), (2, .int v)]) S.1 S.2.1 d_In_isShaded_53 rfl hl (by decide) rfl (fun ls hl => ?_)
  refine lv_iinc (v := 1) (lv' := [(4, .int 1), (3, .int _), (6, .int _), (5, .int _), (0, .int sd), (1, .int u), (2, .int v)]) S.1 S.2.1 d_In_isShaded_54 hl (k := 3) rfl (by decide) (by decide) rfl (fun ls hl => ?_)
  refine lv_goto (tgt := 5) S.1 S.2.1 d_In_isShaded_57 (by decide) ?_
  refine lv_iload S.1 S.2.1 d_In_isShaded_5 (lv_at hl 0 rfl) ?_
  refine lv_iconst (v := 3) S.1 S.2.1 d_In_isShaded_7 (by decide) ?_
  refine lv_icmp_ge (tgt := 60) S.1 S.2.1 d_In_isShaded_8 (by decide) (fun q => absurd q (by decide)) (fun _ => ?_)
  refine lv_iload_n S.1 S.2.1 d_In_isShaded_11 rfl (lv_at hl 5 rfl) ?_
  refine lv_iload S.1 S.2.1 d_In_isShaded_12 (lv_at hl 0 rfl) ?_
  refine lv_ishr S.1 S.2.1 d_In_isShaded_14 ?_
  refine lv_iconst (v := 1) S.1 S.2.1 d_In_isShaded_15 (by decide) ?_
  refine lv_iand S.1 S.2.1 d_In_isShaded_16 ?_
  refine lv_istore (lv' := [(5, .int _), (4, .int 1), (3, .int _), (6, .int _), (0, .int sd), (1, .int u), (2, .int v)]) S.1 S.2.1 d_In_isShaded_17 hl (by decide) rfl (fun ls hl => ?_)
  refine lv_iload_n S.1 S.2.1 d_In_isShaded_19 rfl (lv_at hl 6 rfl) ?_
  refine lv_iload S.1 S.2.1 d_In_isShaded_20 (lv_at hl 1 rfl) ?_
  refine lv_ishr S.1 S.2.1 d_In_isShaded_22 ?_
  refine lv_iconst (v := 1) S.1 S.2.1 d_In_isShaded_23 (by decide) ?_
  refine lv_iand S.1 S.2.1 d_In_isShaded_24 ?_
  refine lv_istore (lv' := [(6, .int _), (5, .int _), (4, .int 1), (3, .int _), (0, .int sd), (1, .int u), (2, .int v)]) S.1 S.2.1 d_In_isShaded_25 hl (by decide) rfl (fun ls hl => ?_)
  refine lv_iload_n S.1 S.2.1 d_In_isShaded_27 rfl (lv_at hl 3 rfl) ?_
  refine lv_bipush (v := 32) S.1 S.2.1 d_In_isShaded_28 (by decide) ?_
  refine lv_iconst (v := 2) S.1 S.2.1 d_In_isShaded_30 (by decide) ?_
  refine lv_iload S.1 S.2.1 d_In_isShaded_31 (lv_at hl 2 rfl) ?_
  refine lv_imul S.1 S.2.1 d_In_isShaded_33 ?_
  refine lv_ishr S.1 S.2.1 d_In_isShaded_34 ?_
  refine lv_iload S.1 S.2.1 d_In_isShaded_35 (lv_at hl 1 rfl) ?_
  refine lv_iload S.1 S.2.1 d_In_isShaded_37 (lv_at hl 0 rfl) ?_
  refine lv_ixor S.1 S.2.1 d_In_isShaded_39 ?_
  refine lv_imul S.1 S.2.1 d_In_isShaded_40 ?_
  refine lv_bipush (v := 16) S.1 S.2.1 d_In_isShaded_41 (by decide) ?_
  refine lv_iconst (v := 2) S.1 S.2.1 d_In_isShaded_43 (by decide) ?_
  refine lv_iload S.1 S.2.1 d_In_isShaded_44 (lv_at hl 2 rfl) ?_
  refine lv_imul S.1 S.2.1 d_In_isShaded_46 ?_
  refine lv_ishr S.1 S.2.1 d_In_isShaded_47 ?_
  refine lv_iload S.1 S.2.1 d_In_isShaded_48 (lv_at hl 0 rfl) ?_
  refine lv_imul S.1 S.2.1 d_In_isShaded_50 ?_
  refine lv_iadd S.1 S.2.1 d_In_isShaded_51 ?_
  refine lv_iadd S.1 S.2.1 d_In_isShaded_52 ?_
  refine lv_istore_n (lv' := [(3, .int _), (6, .int _), (5, .int _), (4, .int 1), (0, .int sd), (1, .int u), (2, .int v)]) S.1 S.2.1 d_In_isShaded_53 rfl hl (by decide) rfl (fun ls hl => ?_)
  refine lv_iinc (v := 2) (lv' := [(4, .int 2), (3, .int _), (6, .int _), (5, .int _), (0, .int sd), (1, .int u), (2, .int v)]) S.1 S.2.1 d_In_isShaded_54 hl (k := 3) rfl (by decide) (by decide) rfl (fun ls hl => ?_)
  refine lv_goto (tgt := 5) S.1 S.2.1 d_In_isShaded_57 (by decide) ?_
  refine lv_iload S.1 S.2.1 d_In_isShaded_5 (lv_at hl 0 rfl) ?_
  refine lv_iconst (v := 3) S.1 S.2.1 d_In_isShaded_7 (by decide) ?_
  refine lv_icmp_ge (tgt := 60) S.1 S.2.1 d_In_isShaded_8 (by decide) (fun q => absurd q (by decide)) (fun _ => ?_)
  refine lv_iload_n S.1 S.2.1 d_In_isShaded_11 rfl (lv_at hl 5 rfl) ?_
  refine lv_iload S.1 S.2.1 d_In_isShaded_12 (lv_at hl 0 rfl) ?_
  refine lv_ishr S.1 S.2.1 d_In_isShaded_14 ?_
  refine lv_iconst (v := 1) S.1 S.2.1 d_In_isShaded_15 (by decide) ?_
  refine lv_iand S.1 S.2.1 d_In_isShaded_16 ?_
  refine lv_istore (lv' := [(5, .int _), (4, .int 2), (3, .int _), (6, .int _), (0, .int sd), (1, .int u), (2, .int v)]) S.1 S.2.1 d_In_isShaded_17 hl (by decide) rfl (fun ls hl => ?_)
  refine lv_iload_n S.1 S.2.1 d_In_isShaded_19 rfl (lv_at hl 6 rfl) ?_
  refine lv_iload S.1 S.2.1 d_In_isShaded_20 (lv_at hl 1 rfl) ?_
  refine lv_ishr S.1 S.2.1 d_In_isShaded_22 ?_
  refine lv_iconst (v := 1) S.1 S.2.1 d_In_isShaded_23 (by decide) ?_
  refine lv_iand S.1 S.2.1 d_In_isShaded_24 ?_
  refine lv_istore (lv' := [(6, .int _), (5, .int _), (4, .int 2), (3, .int _), (0, .int sd), (1, .int u), (2, .int v)]) S.1 S.2.1 d_In_isShaded_25 hl (by decide) rfl (fun ls hl => ?_)
  refine lv_iload_n S.1 S.2.1 d_In_isShaded_27 rfl (lv_at hl 3 rfl) ?_
  refine lv_bipush (v := 32) S.1 S.2.1 d_In_isShaded_28 (by decide) ?_
  refine lv_iconst (v := 2) S.1 S.2.1 d_In_isShaded_30 (by decide) ?_
  refine lv_iload S.1 S.2.1 d_In_isShaded_31 (lv_at hl 2 rfl) ?_
  refine lv_imul S.1 S.2.1 d_In_isShaded_33 ?_
  refine lv_ishr S.1 S.2.1 d_In_isShaded_34 ?_
  refine lv_iload S.1 S.2.1 d_In_isShaded_35 (lv_at hl 1 rfl) ?_
  refine lv_iload S.1 S.2.1 d_In_isShaded_37 (lv_at hl 0 rfl) ?_
  refine lv_ixor S.1 S.2.1 d_In_isShaded_39 ?_
  refine lv_imul S.1 S.2.1 d_In_isShaded_40 ?_
  refine lv_bipush (v := 16) S.1 S.2.1 d_In_isShaded_41 (by decide) ?_
  refine lv_iconst (v := 2) S.1 S.2.1 d_In_isShaded_43 (by decide) ?_
  refine lv_iload S.1 S.2.1 d_In_isShaded_44 (lv_at hl 2 rfl) ?_
  refine lv_imul S.1 S.2.1 d_In_isShaded_46 ?_
  refine lv_ishr S.1 S.2.1 d_In_isShaded_47 ?_
  refine lv_iload S.1 S.2.1 d_In_isShaded_48 (lv_at hl 0 rfl) ?_
  refine lv_imul S.1 S.2.1 d_In_isShaded_50 ?_
  refine lv_iadd S.1 S.2.1 d_In_isShaded_51 ?_
  refine lv_iadd S.1 S.2.1 d_In_isShaded_52 ?_
  refine lv_istore_n (lv' := [(3, .int _), (6, .int _), (5, .int _), (4, .int 2), (0, .int sd), (1, .int u), (2, .int v)]) S.1 S.2.1 d_In_isShaded_53 rfl hl (by decide) rfl (fun ls hl => ?_)
  refine lv_iinc (v := 3) (lv' := [(4, .int 3), (3, .int _), (6, .int _), (5, .int _), (0, .int sd), (1, .int u), (2, .int v)]) S.1 S.2.1 d_In_isShaded_54 hl (k := 3) rfl (by decide) (by decide) rfl (fun ls hl => ?_)
  refine lv_goto (tgt := 5) S.1 S.2.1 d_In_isShaded_57 (by decide) ?_
  refine lv_iload S.1 S.2.1 d_In_isShaded_5 (lv_at hl 0 rfl) ?_
  refine lv_iconst (v := 3) S.1 S.2.1 d_In_isShaded_7 (by decide) ?_
  refine lv_icmp_ge (tgt := 60) S.1 S.2.1 d_In_isShaded_8 (by decide) (fun _ => ?_) (fun q => absurd (by decide) q)
  refine lv_iload_n S.1 S.2.1 d_In_isShaded_60 rfl (lv_at hl 1 rfl) ?_
  refine lv_bipush (v := 64) S.1 S.2.1 d_In_isShaded_61 (by decide) ?_
  refine lv_iload_n S.1 S.2.1 d_In_isShaded_63 rfl (lv_at hl 4 rfl) ?_
  refine lv_imul S.1 S.2.1 d_In_isShaded_64 ?_
  refine lv_bipush (v := 99) S.1 S.2.1 d_In_isShaded_65 (by decide) ?_
  refine lv_iadd S.1 S.2.1 d_In_isShaded_67 ?_
  refine lv_bipush (v := 100) S.1 S.2.1 d_In_isShaded_68 (by decide) ?_
  refine lv_idiv S.1 S.2.1 d_In_isShaded_70 (by decide) ?_
  refine lv_icmp_ge (tgt := 78) S.1 S.2.1 d_In_isShaded_71 (by decide) (fun c_71 => ?_) (fun c_71 => ?_)
  · refine lv_iconst (v := 0) S.1 S.2.1 d_In_isShaded_78 (by decide) ?_
    exact hp_retRz S hr hlk d_In_isShaded_79 (by decide) (q_is_f (by simp only [z_lt, z_le] at c_71 ⊢; exact Int.not_lt.mpr c_71))
  · refine lv_iconst (v := 1) S.1 S.2.1 d_In_isShaded_74 (by decide) ?_
    refine lv_goto (tgt := 79) S.1 S.2.1 d_In_isShaded_75 (by decide) ?_
    exact hp_retRz S hr hlk d_In_isShaded_79 (by decide) (q_is_t (by simp only [z_lt, z_le] at c_71 ⊢; exact Int.not_le.mp c_71))

set_option maxHeartbeats 4000000 in
set_option maxRecDepth 100000 in
theorem c_In_isHatched (l : Launch) (hk u vv : Int32)  : Met l y_In_isHatched (.code y_In_isHatched prog_3_method_6_code 7 (some .boolean) :: BIG) ({ frames := 0, cells := 0, slots := 0, locals := 0 }) (va_Pc [.int hk, .int u, .int vv] (fun _ => True)) (hp_QR (some (.int (q_is (q_ha hk u vv))))) 0 0 (fun _ => False) := by
  refine hp_enter (by decide) (Nat.le_of_ble_eq_true rfl) ?_
  intro p e s m below meth c ls S hr hlk hin hI hl
  have hl : lv_has ls 7 [(0, .int hk), (1, .int u), (2, .int vv)] := hl
  refine hp_cut (fun v => v = q_is (q_ly vv)) 17 [] (fun J => ?_) (fun a1 e_a1 => ?_)
  · refine lv_iload_n S.1 S.2.1 d_In_isHatched_0 rfl (lv_at hl 2 rfl) ?_
    refine lv_bipush (v := 7) S.1 S.2.1 d_In_isHatched_1 (by decide) ?_
    refine lv_icmp_eq (tgt := 12) S.1 S.2.1 d_In_isHatched_3 (by decide) (fun c_3 => ?_) (fun c_3 => ?_)
    · refine lv_iconst (v := 1) S.1 S.2.1 d_In_isHatched_12 (by decide) ?_
      refine lv_goto (tgt := 17) S.1 S.2.1 d_In_isHatched_13 (by decide) ?_
      exact J _ (q_is_t (Or.inl c_3))
    · refine lv_iload_n S.1 S.2.1 d_In_isHatched_6 rfl (lv_at hl 2 rfl) ?_
      refine lv_bipush (v := 8) S.1 S.2.1 d_In_isHatched_7 (by decide) ?_
      refine lv_icmp_ne (tgt := 16) S.1 S.2.1 d_In_isHatched_9 (by decide) (fun c_9 => ?_) (fun c_9 => ?_)
      · refine lv_iconst (v := 0) S.1 S.2.1 d_In_isHatched_16 (by decide) ?_
        exact J _ (q_is_f (fun q => q.elim c_3 c_9))
      · refine lv_iconst (v := 1) S.1 S.2.1 d_In_isHatched_12 (by decide) ?_
        refine lv_goto (tgt := 17) S.1 S.2.1 d_In_isHatched_13 (by decide) ?_
        exact J _ (q_is_t (Or.inr c_9))
  · refine lv_istore_n (lv' := [(3, .int a1), (0, .int hk), (1, .int u), (2, .int vv)]) S.1 S.2.1 d_In_isHatched_17 rfl hl (by decide) rfl (fun ls hl => ?_)
    refine hp_cut (fun v => v = q_is (q_ly u)) 35 [] (fun J => ?_) (fun a2 e_a2 => ?_)
    · refine lv_iload_n S.1 S.2.1 d_In_isHatched_18 rfl (lv_at hl 2 rfl) ?_
      refine lv_bipush (v := 7) S.1 S.2.1 d_In_isHatched_19 (by decide) ?_
      refine lv_icmp_eq (tgt := 30) S.1 S.2.1 d_In_isHatched_21 (by decide) (fun c_21 => ?_) (fun c_21 => ?_)
      · refine lv_iconst (v := 1) S.1 S.2.1 d_In_isHatched_30 (by decide) ?_
        refine lv_goto (tgt := 35) S.1 S.2.1 d_In_isHatched_31 (by decide) ?_
        exact J _ (q_is_t (Or.inl c_21))
      · refine lv_iload_n S.1 S.2.1 d_In_isHatched_24 rfl (lv_at hl 2 rfl) ?_
        refine lv_bipush (v := 8) S.1 S.2.1 d_In_isHatched_25 (by decide) ?_
        refine lv_icmp_ne (tgt := 34) S.1 S.2.1 d_In_isHatched_27 (by decide) (fun c_27 => ?_) (fun c_27 => ?_)
        · refine lv_iconst (v := 0) S.1 S.2.1 d_In_isHatched_34 (by decide) ?_
          exact J _ (q_is_f (fun q => q.elim c_21 c_27))
        · refine lv_iconst (v := 1) S.1 S.2.1 d_In_isHatched_30 (by decide) ?_
          refine lv_goto (tgt := 35) S.1 S.2.1 d_In_isHatched_31 (by decide) ?_
          exact J _ (q_is_t (Or.inr c_27))
    · refine lv_istore (lv' := [(4, .int a2), (3, .int a1), (0, .int hk), (1, .int u), (2, .int vv)]) S.1 S.2.1 d_In_isHatched_35 hl (by decide) rfl (fun ls hl => ?_)
      refine hp_cut (fun v => v = q_is (q_ri u vv)) 52 [] (fun J => ?_) (fun a3 e_a3 => ?_)
      · refine lv_iload_n S.1 S.2.1 d_In_isHatched_37 rfl (lv_at hl 3 rfl) ?_
        refine lv_iload_n S.1 S.2.1 d_In_isHatched_38 rfl (lv_at hl 4 rfl) ?_
        refine lv_iadd S.1 S.2.1 d_In_isHatched_39 ?_
        refine lv_bipush (v := 16) S.1 S.2.1 d_In_isHatched_40 (by decide) ?_
        refine lv_irem S.1 S.2.1 d_In_isHatched_42 (by decide) ?_
        refine lv_iconst (v := 2) S.1 S.2.1 d_In_isHatched_43 (by decide) ?_
        refine lv_icmp_ge (tgt := 51) S.1 S.2.1 d_In_isHatched_44 (by decide) (fun c_44 => ?_) (fun c_44 => ?_)
        · refine lv_iconst (v := 0) S.1 S.2.1 d_In_isHatched_51 (by decide) ?_
          exact J _ (q_is_f (by simp only [z_lt, z_le] at c_44 ⊢; exact Int.not_lt.mpr c_44))
        · refine lv_iconst (v := 1) S.1 S.2.1 d_In_isHatched_47 (by decide) ?_
          refine lv_goto (tgt := 52) S.1 S.2.1 d_In_isHatched_48 (by decide) ?_
          exact J _ (q_is_t (by simp only [z_lt, z_le] at c_44 ⊢; exact Int.not_le.mp c_44))
      · refine lv_istore (lv' := [(5, .int a3), (4, .int a2), (3, .int a1), (0, .int hk), (1, .int u), (2, .int vv)]) S.1 S.2.1 d_In_isHatched_52 hl (by decide) rfl (fun ls hl => ?_)
        refine hp_cut (fun v => v = q_is (q_fa u vv)) 72 [] (fun J => ?_) (fun a4 e_a4 => ?_)
        · refine lv_iload_n S.1 S.2.1 d_In_isHatched_54 rfl (lv_at hl 4 rfl) ?_
          refine lv_iload_n S.1 S.2.1 d_In_isHatched_55 rfl (lv_at hl 5 rfl) ?_
          refine lv_isub S.1 S.2.1 d_In_isHatched_56 ?_
          refine lv_bipush (v := 16) S.1 S.2.1 d_In_isHatched_57 (by decide) ?_
          refine lv_iadd S.1 S.2.1 d_In_isHatched_59 ?_
          refine lv_bipush (v := 16) S.1 S.2.1 d_In_isHatched_60 (by decide) ?_
          refine lv_irem S.1 S.2.1 d_In_isHatched_62 (by decide) ?_
          refine lv_iconst (v := 2) S.1 S.2.1 d_In_isHatched_63 (by decide) ?_
          refine lv_icmp_ge (tgt := 71) S.1 S.2.1 d_In_isHatched_64 (by decide) (fun c_64 => ?_) (fun c_64 => ?_)
          · refine lv_iconst (v := 0) S.1 S.2.1 d_In_isHatched_71 (by decide) ?_
            exact J _ (q_is_f (by simp only [z_lt, z_le] at c_64 ⊢; exact Int.not_lt.mpr c_64))
          · refine lv_iconst (v := 1) S.1 S.2.1 d_In_isHatched_67 (by decide) ?_
            refine lv_goto (tgt := 72) S.1 S.2.1 d_In_isHatched_68 (by decide) ?_
            exact J _ (q_is_t (by simp only [z_lt, z_le] at c_64 ⊢; exact Int.not_le.mp c_64))
        · refine lv_istore (lv' := [(6, .int a4), (5, .int a3), (4, .int a2), (3, .int a1), (0, .int hk), (1, .int u), (2, .int vv)]) S.1 S.2.1 d_In_isHatched_72 hl (by decide) rfl (fun ls hl => ?_)
          refine lv_iload_n S.1 S.2.1 d_In_isHatched_74 rfl (lv_at hl 4 rfl) ?_
          by_cases k_1 : hk = 1
          · refine lv_tableIn (off := 37) (tgt := 112) S.1 S.2.1 d_In_isHatched_75 (by rw [k_1]; decide) (by rw [k_1]; decide) (by rw [k_1]; rfl) (by decide) ?_
            refine lv_iload_n S.1 S.2.1 d_In_isHatched_112 rfl (lv_at hl 3 rfl) ?_
            exact hp_retRz S hr hlk d_In_isHatched_113 (by first | decide | (rw [e_a1]; exact q_is_n) | (rw [e_a2]; exact q_is_n) | (rw [e_a3]; exact q_is_n) | (rw [e_a4]; exact q_is_n)) (by rw [e_a1]; exact q_is_c ⟨fun q => Or.inl ⟨k_1, q⟩, fun q => by rcases q with q | q | q | q | q | q <;> first | exact q.2 | (exfalso; have := k_1.symm.trans q.1; revert this; decide)⟩)
          · by_cases k_2 : hk = 2
            · refine lv_tableIn (off := 39) (tgt := 114) S.1 S.2.1 d_In_isHatched_75 (by rw [k_2]; decide) (by rw [k_2]; decide) (by rw [k_2]; rfl) (by decide) ?_
              refine lv_iload S.1 S.2.1 d_In_isHatched_114 (lv_at hl 2 rfl) ?_
              exact hp_retRz S hr hlk d_In_isHatched_116 (by first | decide | (rw [e_a1]; exact q_is_n) | (rw [e_a2]; exact q_is_n) | (rw [e_a3]; exact q_is_n) | (rw [e_a4]; exact q_is_n)) (by rw [e_a2]; exact q_is_c ⟨fun q => Or.inr (Or.inl ⟨k_2, q⟩), fun q => by rcases q with q | q | q | q | q | q <;> first | exact q.2 | (exfalso; have := k_2.symm.trans q.1; revert this; decide)⟩)
            · by_cases k_3 : hk = 3
              · refine lv_tableIn (off := 42) (tgt := 117) S.1 S.2.1 d_In_isHatched_75 (by rw [k_3]; decide) (by rw [k_3]; decide) (by rw [k_3]; rfl) (by decide) ?_
                refine lv_iload S.1 S.2.1 d_In_isHatched_117 (lv_at hl 1 rfl) ?_
                exact hp_retRz S hr hlk d_In_isHatched_119 (by first | decide | (rw [e_a1]; exact q_is_n) | (rw [e_a2]; exact q_is_n) | (rw [e_a3]; exact q_is_n) | (rw [e_a4]; exact q_is_n)) (by rw [e_a3]; exact q_is_c ⟨fun q => Or.inr (Or.inr (Or.inl ⟨k_3, q⟩)), fun q => by rcases q with q | q | q | q | q | q <;> first | exact q.2 | (exfalso; have := k_3.symm.trans q.1; revert this; decide)⟩)
              · by_cases k_4 : hk = 4
                · refine lv_tableIn (off := 45) (tgt := 120) S.1 S.2.1 d_In_isHatched_75 (by rw [k_4]; decide) (by rw [k_4]; decide) (by rw [k_4]; rfl) (by decide) ?_
                  refine lv_iload S.1 S.2.1 d_In_isHatched_120 (lv_at hl 0 rfl) ?_
                  exact hp_retRz S hr hlk d_In_isHatched_122 (by first | decide | (rw [e_a1]; exact q_is_n) | (rw [e_a2]; exact q_is_n) | (rw [e_a3]; exact q_is_n) | (rw [e_a4]; exact q_is_n)) (by rw [e_a4]; exact q_is_c ⟨fun q => Or.inr (Or.inr (Or.inr (Or.inl ⟨k_4, q⟩))), fun q => by rcases q with q | q | q | q | q | q <;> first | exact q.2 | (exfalso; have := k_4.symm.trans q.1; revert this; decide)⟩)
                · by_cases k_5 : hk = 5
                  · refine lv_tableIn (off := 48) (tgt := 123) S.1 S.2.1 d_In_isHatched_75 (by rw [k_5]; decide) (by rw [k_5]; decide) (by rw [k_5]; rfl) (by decide) ?_
                    refine lv_iload_n S.1 S.2.1 d_In_isHatched_123 rfl (lv_at hl 3 rfl) ?_
                    refine lv_if_ne (tgt := 132) S.1 S.2.1 d_In_isHatched_124 (by decide) (fun c_124 => ?_) (fun c_124 => ?_)
                    · refine lv_iconst (v := 1) S.1 S.2.1 d_In_isHatched_132 (by decide) ?_
                      refine lv_goto (tgt := 137) S.1 S.2.1 d_In_isHatched_133 (by decide) ?_
                      exact hp_retRz S hr hlk d_In_isHatched_137 (by first | decide | (rw [e_a1]; exact q_is_n) | (rw [e_a2]; exact q_is_n) | (rw [e_a3]; exact q_is_n) | (rw [e_a4]; exact q_is_n)) (q_is_t (Or.inr (Or.inr (Or.inr (Or.inr (Or.inl ⟨k_5, Or.inl (q_is_ne.mp (e_a1 ▸ c_124))⟩))))))
                    · refine lv_iload S.1 S.2.1 d_In_isHatched_127 (lv_at hl 2 rfl) ?_
                      refine lv_if_eq (tgt := 136) S.1 S.2.1 d_In_isHatched_129 (by decide) (fun c_129 => ?_) (fun c_129 => ?_)
                      · refine lv_iconst (v := 0) S.1 S.2.1 d_In_isHatched_136 (by decide) ?_
                        exact hp_retRz S hr hlk d_In_isHatched_137 (by first | decide | (rw [e_a1]; exact q_is_n) | (rw [e_a2]; exact q_is_n) | (rw [e_a3]; exact q_is_n) | (rw [e_a4]; exact q_is_n)) (q_is_f (fun q => by rcases q with q | q | q | q | q | q <;> first | (exfalso; have := k_5.symm.trans q.1; revert this; decide) | exact q.2.elim (q_is_0.mp (e_a1 ▸ c_124)) (q_is_0.mp (e_a2 ▸ c_129))))
                      · refine lv_iconst (v := 1) S.1 S.2.1 d_In_isHatched_132 (by decide) ?_
                        refine lv_goto (tgt := 137) S.1 S.2.1 d_In_isHatched_133 (by decide) ?_
                        exact hp_retRz S hr hlk d_In_isHatched_137 (by first | decide | (rw [e_a1]; exact q_is_n) | (rw [e_a2]; exact q_is_n) | (rw [e_a3]; exact q_is_n) | (rw [e_a4]; exact q_is_n)) (q_is_t (Or.inr (Or.inr (Or.inr (Or.inr (Or.inl ⟨k_5, Or.inr (q_is_ne.mp (e_a2 ▸ c_129))⟩))))))
                  · by_cases k_6 : hk = 6
                    · refine lv_tableIn (off := 63) (tgt := 138) S.1 S.2.1 d_In_isHatched_75 (by rw [k_6]; decide) (by rw [k_6]; decide) (by rw [k_6]; rfl) (by decide) ?_
                      refine lv_iload S.1 S.2.1 d_In_isHatched_138 (lv_at hl 1 rfl) ?_
                      refine lv_if_ne (tgt := 148) S.1 S.2.1 d_In_isHatched_140 (by decide) (fun c_140 => ?_) (fun c_140 => ?_)
                      · refine lv_iconst (v := 1) S.1 S.2.1 d_In_isHatched_148 (by decide) ?_
                        refine lv_goto (tgt := 153) S.1 S.2.1 d_In_isHatched_149 (by decide) ?_
                        exact hp_retRz S hr hlk d_In_isHatched_153 (by first | decide | (rw [e_a1]; exact q_is_n) | (rw [e_a2]; exact q_is_n) | (rw [e_a3]; exact q_is_n) | (rw [e_a4]; exact q_is_n)) (q_is_t (Or.inr (Or.inr (Or.inr (Or.inr (Or.inr ⟨k_6, Or.inl (q_is_ne.mp (e_a3 ▸ c_140))⟩))))))
                      · refine lv_iload S.1 S.2.1 d_In_isHatched_143 (lv_at hl 0 rfl) ?_
                        refine lv_if_eq (tgt := 152) S.1 S.2.1 d_In_isHatched_145 (by decide) (fun c_145 => ?_) (fun c_145 => ?_)
                        · refine lv_iconst (v := 0) S.1 S.2.1 d_In_isHatched_152 (by decide) ?_
                          exact hp_retRz S hr hlk d_In_isHatched_153 (by first | decide | (rw [e_a1]; exact q_is_n) | (rw [e_a2]; exact q_is_n) | (rw [e_a3]; exact q_is_n) | (rw [e_a4]; exact q_is_n)) (q_is_f (fun q => by rcases q with q | q | q | q | q | q <;> first | (exfalso; have := k_6.symm.trans q.1; revert this; decide) | exact q.2.elim (q_is_0.mp (e_a3 ▸ c_140)) (q_is_0.mp (e_a4 ▸ c_145))))
                        · refine lv_iconst (v := 1) S.1 S.2.1 d_In_isHatched_148 (by decide) ?_
                          refine lv_goto (tgt := 153) S.1 S.2.1 d_In_isHatched_149 (by decide) ?_
                          exact hp_retRz S hr hlk d_In_isHatched_153 (by first | decide | (rw [e_a1]; exact q_is_n) | (rw [e_a2]; exact q_is_n) | (rw [e_a3]; exact q_is_n) | (rw [e_a4]; exact q_is_n)) (q_is_t (Or.inr (Or.inr (Or.inr (Or.inr (Or.inr ⟨k_6, Or.inr (q_is_ne.mp (e_a4 ▸ c_145))⟩))))))
                    · have n_1 : ¬ hk.toInt = 1 := lv_neT k_1 rfl
                      have n_2 : ¬ hk.toInt = 2 := lv_neT k_2 rfl
                      have n_3 : ¬ hk.toInt = 3 := lv_neT k_3 rfl
                      have n_4 : ¬ hk.toInt = 4 := lv_neT k_4 rfl
                      have n_5 : ¬ hk.toInt = 5 := lv_neT k_5 rfl
                      have n_6 : ¬ hk.toInt = 6 := lv_neT k_6 rfl
                      refine lv_tableOut (tgt := 154) S.1 S.2.1 d_In_isHatched_75 (by omega) (by decide) ?_
                      refine lv_iconst (v := 0) S.1 S.2.1 d_In_isHatched_154 (by decide) ?_
                      exact hp_retRz S hr hlk d_In_isHatched_155 (by first | decide | (rw [e_a1]; exact q_is_n) | (rw [e_a2]; exact q_is_n) | (rw [e_a3]; exact q_is_n) | (rw [e_a4]; exact q_is_n)) (q_is_f (fun q => by rcases q with q | q | q | q | q | q <;> first | exact k_1 q.1 | exact k_2 q.1 | exact k_3 q.1 | exact k_4 q.1 | exact k_5 q.1 | exact k_6 q.1))
end
section
/-! Inks' lines. -/
def q_db (kd val vv : Int32) (u : Nat) : Bool := if kd = 2 then decide (q_sh (nI u) vv < (64 * val + 99) / 100) else decide (q_ha val (nI u) vv)
def q_td (u : Nat) : Int64 := ((-9223372036854775808 : Int64).toUInt64 >>> ((nI u).toInt64.toUInt64 &&& Int64.toUInt64 63)).toInt64
def q_dl (b : Nat → Bool) : Nat → Int64
  | 0 => 0
  | u + 1 => if b u = true then q_dl b u ||| q_td u else q_dl b u
def q_dx (d : Int64) : Int64 := d ||| (d.toUInt64 >>> ((16 : Int32).toInt64.toUInt64 &&& Int64.toUInt64 63)).toInt64
def q_dy (d : Int64) : Int64 := d ||| (d.toUInt64 >>> ((32 : Int32).toInt64.toUInt64 &&& Int64.toUInt64 63)).toInt64
/-- an ink's long of line vv -/
def q_il (kd val vv : Int32) : Int64 := if kd = 0 then -1 else if kd = 1 then 0 else q_dy (q_dx (q_dl (q_db kd val vv) 16))
theorem q_db_s {kd val vv : Int32} (hk : kd = 2) (u : Nat) : q_db kd val vv u = decide (q_sh (nI u) vv < (64 * val + 99) / 100) := if_pos hk
theorem q_db_h {kd val vv : Int32} (hk : ¬ kd = 2) (u : Nat) : q_db kd val vv u = decide (q_ha val (nI u) vv) := if_neg hk
theorem q_dl_t {b : Nat → Bool} {u : Nat} (h : b u = true) : q_dl b (u + 1) = q_dl b u ||| q_td u := if_pos h
theorem q_dl_f {b : Nat → Bool} {u : Nat} (h : ¬ b u = true) : q_dl b (u + 1) = q_dl b u := if_neg h
theorem nI_16 : nI 16 = 16 := rfl

set_option maxHeartbeats 4000000 in
set_option maxRecDepth 100000 in
theorem c_In_dotsOfLine (l : Launch) (kd val vv : Int32)  : Met l y_In_dotsOfLine (.code y_In_dotsOfLine prog_3_method_4_code 6 (some .long) :: BIG) ({ frames := 1, cells := 0, slots := 0, locals := 26 }) (va_Pc [.int kd, .int val, .int vv] (fun _ => True)) (hp_QR (some (.long (q_il kd val vv)))) 0 0 (fun _ => False) := by
  refine hp_enter (by decide) (Nat.le_of_ble_eq_true rfl) ?_
  intro p e s m below meth c ls S hr hlk hin hI hl
  have hl : lv_has ls 6 [(0, .int kd), (1, .int val), (2, .int vv)] := hl
  refine lv_iload_n S.1 S.2.1 d_In_dotsOfLine_0 rfl (lv_at hl 0 rfl) ?_
  refine lv_if_ne (tgt := 8) S.1 S.2.1 d_In_dotsOfLine_1 (by decide) (fun c_1 => ?_) (fun c_1 => ?_)
  · refine lv_iload_n S.1 S.2.1 d_In_dotsOfLine_8 rfl (lv_at hl 0 rfl) ?_
    refine lv_iconst (v := 1) S.1 S.2.1 d_In_dotsOfLine_9 (by decide) ?_
    refine lv_icmp_ne (tgt := 15) S.1 S.2.1 d_In_dotsOfLine_10 (by decide) (fun c_10 => ?_) (fun c_10 => ?_)
    · refine lv_lconst (v := 0) S.1 S.2.1 d_In_dotsOfLine_15 (by decide) ?_
      refine lv_lstore_n (lv' := [(3, .long 0), (0, .int kd), (1, .int val), (2, .int vv)]) S.1 S.2.1 d_In_dotsOfLine_16 rfl hl (by decide) rfl (fun ls hl => ?_)
      refine lv_iconst (v := 0) S.1 S.2.1 d_In_dotsOfLine_17 (by decide) ?_
      refine lv_istore (lv' := [(5, .int 0), (3, .long 0), (0, .int kd), (1, .int val), (2, .int vv)]) S.1 S.2.1 d_In_dotsOfLine_18 hl (by decide) rfl (fun ls hl => ?_)
      have LP : ∀ (n u : Nat) (ls : Array Slot), u + n = 16 → lv_has ls 6 [(5, .int (nI u)), (3, .long (q_dl (q_db kd val vv) u)), (0, .int kd), (1, .int val), (2, .int vv)] → W p l e ({ frames := 1, cells := 0, slots := 0, locals := 26 }) s m ([.int kd, .int val, .int vv] : List Value).toArray below meth c s.heap [] 0 0 (MQ below (hp_QR (some (.long (q_il kd val vv)))) ([.int kd, .int val, .int vv] : List Value).toArray s 0 0 (fun _ => False)) (F0 m 20 ls []) := by
        intro n
        induction n with
        | zero =>
          intro u ls hu hl
          obtain rfl : u = 16 := by omega
          refine lv_iload S.1 S.2.1 d_In_dotsOfLine_20 (lv_at hl 0 rfl) ?_
          refine lv_bipush (v := 16) S.1 S.2.1 d_In_dotsOfLine_22 (by decide) ?_
          refine lv_icmp_ge (tgt := 70) S.1 S.2.1 d_In_dotsOfLine_24 (by decide) (fun _ => ?_) (fun q => absurd (by decide) q)
          refine lv_lload_n S.1 S.2.1 d_In_dotsOfLine_70 rfl (lv_at hl 1 rfl) ?_
          refine lv_lload_n S.1 S.2.1 d_In_dotsOfLine_71 rfl (lv_at hl 1 rfl) ?_
          refine lv_bipush (v := 16) S.1 S.2.1 d_In_dotsOfLine_72 (by decide) ?_
          refine lv_lushr S.1 S.2.1 d_In_dotsOfLine_74 rfl ?_
          refine lv_lor S.1 S.2.1 d_In_dotsOfLine_75 ?_
          refine lv_lstore_n (lv' := [(3, .long _), (5, .int (nI 16)), (0, .int kd), (1, .int val), (2, .int vv)]) S.1 S.2.1 d_In_dotsOfLine_76 rfl hl (by decide) rfl (fun ls hl => ?_)
          refine lv_lload_n S.1 S.2.1 d_In_dotsOfLine_77 rfl (lv_at hl 0 rfl) ?_
          refine lv_lload_n S.1 S.2.1 d_In_dotsOfLine_78 rfl (lv_at hl 0 rfl) ?_
          refine lv_bipush (v := 32) S.1 S.2.1 d_In_dotsOfLine_79 (by decide) ?_
          refine lv_lushr S.1 S.2.1 d_In_dotsOfLine_81 rfl ?_
          refine lv_lor S.1 S.2.1 d_In_dotsOfLine_82 ?_
          exact hp_retRl S hr hlk d_In_dotsOfLine_83 (by unfold q_il; rw [if_neg c_1, if_neg c_10]; rfl)
        | succ n ih =>
          intro u ls hu hl
          refine lv_iload S.1 S.2.1 d_In_dotsOfLine_20 (lv_at hl 0 rfl) ?_
          refine lv_bipush (v := 16) S.1 S.2.1 d_In_dotsOfLine_22 (by decide) ?_
          refine lv_icmp_ge (tgt := 70) S.1 S.2.1 d_In_dotsOfLine_24 (by decide) (fun q => absurd q (nI_ge (a := u) (b := 16) (by omega) (by decide))) (fun _ => ?_)
          refine lv_iload_n S.1 S.2.1 d_In_dotsOfLine_27 rfl (lv_at hl 2 rfl) ?_
          refine lv_iconst (v := 2) S.1 S.2.1 d_In_dotsOfLine_28 (by decide) ?_
          refine lv_icmp_ne (tgt := 45) S.1 S.2.1 d_In_dotsOfLine_29 (by decide) (fun c_29 => ?_) (fun c_29 => ?_)
          · refine lv_iload_n S.1 S.2.1 d_In_dotsOfLine_45 rfl (lv_at hl 3 rfl) ?_
            refine lv_iload S.1 S.2.1 d_In_dotsOfLine_46 (lv_at hl 0 rfl) ?_
            refine lv_iload_n S.1 S.2.1 d_In_dotsOfLine_48 rfl (lv_at hl 4 rfl) ?_
            refine hp_doneR (hp_runS S zz0 (c_In_isHatched l _ _ _) l_In_35 (hp_pre0 _) (by decide) rfl hl.1 rfl (nl rfl) d_In_dotsOfLine_49 (by decide)) ?_
            refine lv_if_eq (tgt := 64) S.1 S.2.1 d_In_dotsOfLine_52 (by decide) (fun c_52 => ?_) (fun c_52 => ?_)
            · refine lv_iinc (v := nI (u + 1)) (lv' := [(5, .int (nI (u + 1))), (3, .long (q_dl (q_db kd val vv) u)), (0, .int kd), (1, .int val), (2, .int vv)]) S.1 S.2.1 d_In_dotsOfLine_64 hl (k := 0) rfl (nI_1 _) (by decide) rfl (fun ls hl => ?_)
              refine lv_goto (tgt := 20) S.1 S.2.1 d_In_dotsOfLine_67 (by decide) ?_
              exact ih (u + 1) ls (by omega) (by rw [q_dl_f (by rw [q_db_h c_29, decide_eq_true_eq]; exact q_is_0.mp c_52)]; exact lv_sub hl [0, 1, 2, 3, 4] rfl)
            · refine lv_lload_n S.1 S.2.1 d_In_dotsOfLine_55 rfl (lv_at hl 1 rfl) ?_
              refine lv_ldc2 (v := (-9223372036854775808)) S.1 S.2.1 S.2.2.2.1 (S.2.2.2.2 _ t_101) d_In_dotsOfLine_56 ?_
              refine lv_iload S.1 S.2.1 d_In_dotsOfLine_59 (lv_at hl 0 rfl) ?_
              refine lv_lushr S.1 S.2.1 d_In_dotsOfLine_61 rfl ?_
              refine lv_lor S.1 S.2.1 d_In_dotsOfLine_62 ?_
              refine lv_lstore_n (lv' := [(3, .long _), (5, .int (nI u)), (0, .int kd), (1, .int val), (2, .int vv)]) S.1 S.2.1 d_In_dotsOfLine_63 rfl hl (by decide) rfl (fun ls hl => ?_)
              refine lv_iinc (v := nI (u + 1)) (lv' := [(5, .int (nI (u + 1))), (3, .long _), (0, .int kd), (1, .int val), (2, .int vv)]) S.1 S.2.1 d_In_dotsOfLine_64 hl (k := 1) rfl (nI_1 _) (by decide) rfl (fun ls hl => ?_)
              refine lv_goto (tgt := 20) S.1 S.2.1 d_In_dotsOfLine_67 (by decide) ?_
              exact ih (u + 1) ls (by omega) (by rw [q_dl_t (by rw [q_db_h c_29]; exact decide_eq_true (q_is_ne.mp c_52))]; exact lv_sub hl [0, 1, 2, 3, 4] rfl)
          · refine lv_iload_n S.1 S.2.1 d_In_dotsOfLine_32 rfl (lv_at hl 3 rfl) ?_
            refine lv_iload S.1 S.2.1 d_In_dotsOfLine_33 (lv_at hl 0 rfl) ?_
            refine lv_iload_n S.1 S.2.1 d_In_dotsOfLine_35 rfl (lv_at hl 4 rfl) ?_
            refine hp_doneR (hp_runS S zz0 (c_In_isShaded l _ _ _) l_In_32 (hp_pre0 _) (by decide) rfl hl.1 rfl (nl rfl) d_In_dotsOfLine_36 (by decide)) ?_
            refine lv_if_eq (tgt := 64) S.1 S.2.1 d_In_dotsOfLine_39 (by decide) (fun c_39 => ?_) (fun c_39 => ?_)
            · refine lv_iinc (v := nI (u + 1)) (lv' := [(5, .int (nI (u + 1))), (3, .long (q_dl (q_db kd val vv) u)), (0, .int kd), (1, .int val), (2, .int vv)]) S.1 S.2.1 d_In_dotsOfLine_64 hl (k := 0) rfl (nI_1 _) (by decide) rfl (fun ls hl => ?_)
              refine lv_goto (tgt := 20) S.1 S.2.1 d_In_dotsOfLine_67 (by decide) ?_
              exact ih (u + 1) ls (by omega) (by rw [q_dl_f (by rw [q_db_s c_29, decide_eq_true_eq]; exact q_is_0.mp c_39)]; exact lv_sub hl [0, 1, 2, 3, 4] rfl)
            · refine lv_goto (tgt := 55) S.1 S.2.1 d_In_dotsOfLine_42 (by decide) ?_
              refine lv_lload_n S.1 S.2.1 d_In_dotsOfLine_55 rfl (lv_at hl 1 rfl) ?_
              refine lv_ldc2 (v := (-9223372036854775808)) S.1 S.2.1 S.2.2.2.1 (S.2.2.2.2 _ t_101) d_In_dotsOfLine_56 ?_
              refine lv_iload S.1 S.2.1 d_In_dotsOfLine_59 (lv_at hl 0 rfl) ?_
              refine lv_lushr S.1 S.2.1 d_In_dotsOfLine_61 rfl ?_
              refine lv_lor S.1 S.2.1 d_In_dotsOfLine_62 ?_
              refine lv_lstore_n (lv' := [(3, .long _), (5, .int (nI u)), (0, .int kd), (1, .int val), (2, .int vv)]) S.1 S.2.1 d_In_dotsOfLine_63 rfl hl (by decide) rfl (fun ls hl => ?_)
              refine lv_iinc (v := nI (u + 1)) (lv' := [(5, .int (nI (u + 1))), (3, .long _), (0, .int kd), (1, .int val), (2, .int vv)]) S.1 S.2.1 d_In_dotsOfLine_64 hl (k := 1) rfl (nI_1 _) (by decide) rfl (fun ls hl => ?_)
              refine lv_goto (tgt := 20) S.1 S.2.1 d_In_dotsOfLine_67 (by decide) ?_
              exact ih (u + 1) ls (by omega) (by rw [q_dl_t (by rw [q_db_s c_29]; exact decide_eq_true (q_is_ne.mp c_39))]; exact lv_sub hl [0, 1, 2, 3, 4] rfl)
      exact LP 16 0 ls rfl (lv_sub hl [0, 1, 2, 3, 4] rfl)
    · refine lv_lconst (v := 0) S.1 S.2.1 d_In_dotsOfLine_13 (by decide) ?_
      exact hp_retRl S hr hlk d_In_dotsOfLine_14 (by unfold q_il; rw [if_neg c_1, if_pos c_10])
  · refine lv_ldc2 (v := (-1)) S.1 S.2.1 S.2.2.2.1 (S.2.2.2.2 _ t_94) d_In_dotsOfLine_4 ?_
    exact hp_retRl S hr hlk d_In_dotsOfLine_7 (by unfold q_il; rw [if_pos c_1])
end
section
/-! Inks, made and asked. -/
abbrev k_In (kd val : Int32) (b : Nat) : va_E := .inr (2, [.int kd, .int val, .ref b])
def q_iv (kd val : Int32) : Int32 := if kd = 0 ∨ kd = 1 then 0 else val
def q_ia (kd val : Int32) (n : Nat) : Nat → Int64 := fun i => if i < n then q_il kd val (nI i) else 0
theorem q_ia_0 (kd val : Int32) : q_ia kd val 0 = fun _ => 0 := by
  funext i
  exact if_neg (by omega)
theorem q_ia_s (kd val : Int32) (n : Nat) : vp_updL (q_ia kd val n) n (q_il kd val (nI n)) = q_ia kd val (n + 1) := by
  funext i
  unfold vp_updL q_ia
  by_cases h : i = n
  · subst h
    rw [if_pos rfl, if_pos (by omega)]
  · rw [if_neg h]
    by_cases h2 : i < n
    · rw [if_pos h2, if_pos (by omega)]
    · rw [if_neg h2, if_neg (by omega)]
theorem hp_btb (h : hp_T) {t b : Nat} (e1 e2 e3 : va_E) (hn : t ≠ b) : hp_up (hp_up (hp_up h b e1) t e2) b e3 = hp_up (hp_up h b e3) t e2 := by
  rw [hp_tbt h e1 e2 e3 (Ne.symm hn), hp_up_comm h e2 e3 hn]

set_option maxHeartbeats 4000000 in
set_option maxRecDepth 100000 in
theorem c_In_init (l : Launch) (dC : Nat → ClassId) (dI : Nat → Nat → Nat) (cA : Nat → ClassId) (A : Nat → Prop) (h : hp_T) (t : Nat) (kd val : Int32) (h_t : h t = some (.inr (2, e0_In))) : Met l y_In_init (.code y_In_init prog_3_method_1_code 4 none :: BIG) ({ frames := 2, cells := 1, slots := 16, locals := 51 }) (va_Pc [.ref t, .int kd, .int val] (hp_I (gg dC dI cA) A h)) (hp_QW (gg dC dI cA) A hp_mv (fun _ h' => ∃ b, h b = none ∧ h' = hp_up (hp_up h b (k_lo (cA 1) 16 (q_ia kd val 16))) t (k_In kd (q_iv kd val) b))) 1 16 A := by
  refine hp_enter (by decide) (Nat.le_of_ble_eq_true rfl) ?_
  intro p e s m below meth c ls S hr hlk hin hI hl
  have hl : lv_has ls 4 [(0, .ref t), (1, .int kd), (2, .int val)] := hl
  have hJ := hI.J
  refine lv_aload_n S.1 S.2.1 d_In_init_0 rfl (lv_at hl 0 rfl) ?_
  refine hp_obj S l_In_3 hl.1 d_In_init_1 ⟨nl rfl, nl rfl⟩ ?_
  refine lv_aload_n S.1 S.2.1 d_In_init_4 rfl (lv_at hl 0 rfl) ?_
  refine lv_iload_n S.1 S.2.1 d_In_init_5 rfl (lv_at hl 1 rfl) ?_
  refine hp_putF S zz hJ hin h_t fp_In_9 rfl rfl rfl (nl rfl) d_In_init_6 (fun H locs hJ => ?_)
  obtain ⟨h1, eh1⟩ : ∃ z, z = hp_up h t (.inr (2, [.int kd, .int 0, .null])) := ⟨_, rfl⟩
  have hJ := hJ.cast eh1
  have h0_t := h_t
  have h_t : h1 t = some (.inr (2, [.int kd, .int 0, .null])) := by rw [eh1]; exact hp_up_s _ _ _
  refine lv_aload_n S.1 S.2.1 d_In_init_9 rfl (lv_at hl 0 rfl) ?_
  refine hp_cut (fun v => v = q_iv kd val) 24 [.ref t] (fun J => ?_) (fun v1 e_v1 => ?_)
  · refine lv_iload_n S.1 S.2.1 d_In_init_10 rfl (lv_at hl 1 rfl) ?_
    refine lv_if_eq (tgt := 19) S.1 S.2.1 d_In_init_11 (by decide) (fun c_11 => ?_) (fun c_11 => ?_)
    · refine lv_iconst (v := 0) S.1 S.2.1 d_In_init_19 (by decide) ?_
      refine lv_goto (tgt := 24) S.1 S.2.1 d_In_init_20 (by decide) ?_
      exact J _ ((if_pos (Or.inl c_11)).symm)
    · refine lv_iload_n S.1 S.2.1 d_In_init_14 rfl (lv_at hl 1 rfl) ?_
      refine lv_iconst (v := 1) S.1 S.2.1 d_In_init_15 (by decide) ?_
      refine lv_icmp_ne (tgt := 23) S.1 S.2.1 d_In_init_16 (by decide) (fun c_16 => ?_) (fun c_16 => ?_)
      · refine lv_iload_n S.1 S.2.1 d_In_init_23 rfl (lv_at hl 2 rfl) ?_
        exact J _ ((if_neg (fun q => q.elim c_11 c_16)).symm)
      · refine lv_iconst (v := 0) S.1 S.2.1 d_In_init_19 (by decide) ?_
        refine lv_goto (tgt := 24) S.1 S.2.1 d_In_init_20 (by decide) ?_
        exact J _ ((if_pos (Or.inr c_16)).symm)
  · subst e_v1
    refine hp_putF S zz hJ hin h_t fp_In_15 rfl rfl rfl (nl rfl) d_In_init_24 (fun H locs hJ => ?_)
    obtain ⟨h2, eh2⟩ : ∃ z, z = hp_up h1 t (.inr (2, [.int kd, .int (q_iv kd val), .null])) := ⟨_, rfl⟩
    have hJ := hJ.cast eh2
    have h0_t := h_t
    have h_t : h2 t = some (.inr (2, [.int kd, .int (q_iv kd val), .null])) := by rw [eh2]; exact hp_up_s _ _ _
    refine lv_aload_n S.1 S.2.1 d_In_init_27 rfl (lv_at hl 0 rfl) ?_
    refine lv_bipush (v := 16) S.1 S.2.1 d_In_init_28 (by decide) ?_
    refine hp_newa S hJ 1 (atype := .long) (a0 := (16, .inr (.inl (fun _ => 0)))) (N' := 16) t_114 rfl (by intro C hC; cases hC) rfl (by decide) rfl (by decide) (by decide) (by decide) d_In_init_30 (fun b H hq_b hs_b hJ => ?_)
    have ne_t_b : t ≠ b := hp_neN h_t hq_b
    obtain ⟨h3, eh3⟩ : ∃ z, z = hp_up h2 b (k_lo (cA 1) 16 (fun _ => 0)) := ⟨_, rfl⟩
    have hJ := hJ.cast eh3
    have h_t : h3 t = some (.inr (2, [.int kd, .int (q_iv kd val), .null])) := by rw [eh3]; exact hp_up_k (hp_neN h_t hq_b) h_t
    have h_b : h3 b = some (k_lo (cA 1) 16 (fun _ => 0)) := by rw [eh3]; exact hp_up_s _ _ _
    refine hp_putF S zz hJ hin h_t fp_In_18 rfl rfl rfl (nl rfl) d_In_init_32 (fun H locs hJ => ?_)
    obtain ⟨h4, eh4⟩ : ∃ z, z = hp_up h3 t (.inr (2, [.int kd, .int (q_iv kd val), .ref b])) := ⟨_, rfl⟩
    have hJ := hJ.cast eh4
    have h0_t := h_t
    have h_b : h4 b = some (k_lo (cA 1) 16 (fun _ => 0)) := by rw [eh4]; exact hp_up_k (Ne.symm ne_t_b) h_b
    have h_t : h4 t = some (.inr (2, [.int kd, .int (q_iv kd val), .ref b])) := by rw [eh4]; exact hp_up_s _ _ _
    refine lv_iconst (v := 0) S.1 S.2.1 d_In_init_35 (by decide) ?_
    refine lv_istore_n (lv' := [(3, .int 0), (0, .ref t), (1, .int kd), (2, .int val)]) S.1 S.2.1 d_In_init_36 rfl hl (by decide) rfl (fun ls hl => ?_)
    have hq0 : h b = none := by rw [eh2, eh1, hp_up_n (Ne.symm ne_t_b), hp_up_n (Ne.symm ne_t_b)] at hq_b; exact hq_b
    have LP : ∀ (n_ vv : Nat) (hc : hp_T) (H : Heap) (locs : List Loc) (ls : Array Slot), vv + n_ = 16 → hc = hp_up (hp_up h b (k_lo (cA 1) 16 (q_ia kd val vv))) t (k_In kd (q_iv kd val) b) → hp_J (gg dC dI cA) A hc s H locs → lv_has ls 4 [(3, .int (nI vv)), (0, .ref t), (1, .int kd), (2, .int val)] → W p l e ({ frames := 2, cells := 1, slots := 16, locals := 51 }) s m ([.ref t, .int kd, .int val] : List Value).toArray below meth c H locs 1 16 (MQ below (hp_QW (gg dC dI cA) A hp_mv (fun _ h' => ∃ b, h b = none ∧ h' = hp_up (hp_up h b (k_lo (cA 1) 16 (q_ia kd val 16))) t (k_In kd (q_iv kd val) b))) ([.ref t, .int kd, .int val] : List Value).toArray s 1 16 A) (F0 m 37 ls []) := by
      intro n_
      induction n_ with
      | zero =>
        intro vv hc H locs ls hu_ ehc hJ hl
        have h_t : hc t = some (k_In kd (q_iv kd val) b) := by rw [ehc]; exact hp_up_s _ _ _
        have h_b : hc b = some (k_lo (cA 1) 16 (q_ia kd val vv)) := by rw [ehc]; exact hp_up_k (Ne.symm ne_t_b) (hp_up_s _ _ _)
        refine lv_iload_n S.1 S.2.1 d_In_init_37 rfl (lv_at hl 0 rfl) ?_
        refine lv_bipush (v := 16) S.1 S.2.1 d_In_init_38 (by decide) ?_
        obtain ⟨e_n, -⟩ : vv = 16 ∧ True := ⟨by omega, trivial⟩
        refine lv_icmp_ge (tgt := 61) S.1 S.2.1 d_In_init_40 (by decide) (fun _ => ?_) (fun q => absurd (by rw [e_n]; exact (by decide)) q)
        refine hp_retWv S hJ hr hlk d_In_init_61 (by decide) ⟨b, hq0, by rw [ehc, e_n]⟩
      | succ n_ ih =>
        intro vv hc H locs ls hu_ ehc hJ hl
        have h_t : hc t = some (k_In kd (q_iv kd val) b) := by rw [ehc]; exact hp_up_s _ _ _
        have h_b : hc b = some (k_lo (cA 1) 16 (q_ia kd val vv)) := by rw [ehc]; exact hp_up_k (Ne.symm ne_t_b) (hp_up_s _ _ _)
        refine lv_iload_n S.1 S.2.1 d_In_init_37 rfl (lv_at hl 0 rfl) ?_
        refine lv_bipush (v := 16) S.1 S.2.1 d_In_init_38 (by decide) ?_
        refine lv_icmp_ge (tgt := 61) S.1 S.2.1 d_In_init_40 (by decide) (fun q => absurd q (nI_ge (a := vv) (b := 16) (by omega) (by decide))) (fun _ => ?_)
        refine lv_aload_n S.1 S.2.1 d_In_init_43 rfl (lv_at hl 1 rfl) ?_
        refine hp_get S zz hJ h_t f_In_18 rfl d_In_init_44 ?_
        refine lv_iload_n S.1 S.2.1 d_In_init_47 rfl (lv_at hl 0 rfl) ?_
        refine lv_iload_n S.1 S.2.1 d_In_init_48 rfl (lv_at hl 2 rfl) ?_
        refine lv_iload_n S.1 S.2.1 d_In_init_49 rfl (lv_at hl 3 rfl) ?_
        refine lv_iload_n S.1 S.2.1 d_In_init_50 rfl (lv_at hl 0 rfl) ?_
        refine hp_doneR (hp_runS S zz0 (c_In_dotsOfLine l _ _ _) l_In_22 (hp_pre0 _) (by decide) rfl hl.1 rfl (nl rfl) d_In_init_51 (by decide)) ?_
        refine hp_last S hJ 1 h_b rfl (vp_in_nI (by omega) (by decide)) d_In_init_54 (fun H locs hJ => ?_)
        rw [nI_clamp (by omega), q_ia_s, ehc, hp_btb _ _ _ _ ne_t_b] at hJ
        refine lv_iinc (v := nI (vv + 1)) (lv' := [(3, .int (nI (vv + 1))), (0, .ref t), (1, .int kd), (2, .int val)]) S.1 S.2.1 d_In_init_55 hl (k := 0) rfl (nI_1 _) (by decide) rfl (fun ls hl => ?_)
        refine lv_goto (tgt := 37) S.1 S.2.1 d_In_init_58 (by decide) ?_
        exact ih (vv + 1) _ _ _ ls (by omega) rfl hJ (lv_sub hl [0, 1, 2, 3] rfl)
    exact LP 16 0 _ _ _ ls rfl (by rw [eh4, eh3, eh2, eh1, hp_up_up, hp_tbt _ _ _ _ ne_t_b, q_ia_0]) hJ (lv_sub hl [0, 1, 2, 3] rfl)

def q_ix (kd val : Int32) : Int32 := q_is (kd = 0 ∨ kd = 1 ∨ (kd = 2 ∧ 1 ≤ val ∧ val ≤ 100) ∨ (kd = 3 ∧ 1 ≤ val ∧ val ≤ 6))
set_option maxHeartbeats 4000000 in
set_option maxRecDepth 100000 in
theorem c_In_exists (l : Launch) (dC : Nat → ClassId) (dI : Nat → Nat → Nat) (cA : Nat → ClassId) (kd val : Int32)  : Met l y_In_exists (.code y_In_exists prog_3_method_2_code 2 (some .boolean) :: BIG) ({ frames := 1, cells := 0, slots := 0, locals := 22 }) (va_Pc [.int kd, .int val] (hp_K (gg dC dI cA))) (hp_QR (some (.int (q_ix kd val)))) 0 0 (fun _ => False) := by
  refine hp_enter (by decide) (Nat.le_of_ble_eq_true rfl) ?_
  intro p e s m below meth c ls S hr hlk hin hI hl
  have hl : lv_has ls 2 [(0, .int kd), (1, .int val)] := hl
  refine lv_iload_n S.1 S.2.1 d_In_exists_0 rfl (lv_at hl 0 rfl) ?_
  by_cases k_0 : kd = 0
  · refine lv_tableIn (off := 31) (tgt := 32) S.1 S.2.1 d_In_exists_1 (by rw [k_0]; decide) (by rw [k_0]; decide) (by rw [k_0]; rfl) (by decide) ?_
    refine lv_iconst (v := 1) S.1 S.2.1 d_In_exists_32 (by decide) ?_
    exact hp_retRz S hr hlk d_In_exists_33 (by decide) (q_is_t (Or.inl k_0))
  · by_cases k_1 : kd = 1
    · refine lv_tableIn (off := 33) (tgt := 34) S.1 S.2.1 d_In_exists_1 (by rw [k_1]; decide) (by rw [k_1]; decide) (by rw [k_1]; rfl) (by decide) ?_
      refine lv_iconst (v := 1) S.1 S.2.1 d_In_exists_34 (by decide) ?_
      exact hp_retRz S hr hlk d_In_exists_35 (by decide) (q_is_t (Or.inr (Or.inl k_1)))
    · by_cases k_2 : kd = 2
      · refine lv_tableIn (off := 35) (tgt := 36) S.1 S.2.1 d_In_exists_1 (by rw [k_2]; decide) (by rw [k_2]; decide) (by rw [k_2]; rfl) (by decide) ?_
        refine lv_iconst (v := 1) S.1 S.2.1 d_In_exists_36 (by decide) ?_
        refine lv_iload_n S.1 S.2.1 d_In_exists_37 rfl (lv_at hl 1 rfl) ?_
        refine lv_bipush (v := 100) S.1 S.2.1 d_In_exists_38 (by decide) ?_
        refine hp_doneR (hp_runN S zz hI (c_BP_isWithin l _ _ _) l_In_26 (hp_pre0 _) (by decide) rfl hl.1 rfl (nl rfl) d_In_exists_40 (by decide)) ?_
        exact hp_retRz S hr hlk d_In_exists_43 q_is_n (q_is_c ⟨fun q => Or.inr (Or.inr (Or.inl ⟨k_2, q⟩)), fun q => by rcases q with q | q | q | q <;> first | exact q.2 | exact absurd q k_0 | exact absurd q k_1 | (exfalso; have := k_2.symm.trans q.1; revert this; decide)⟩)
      · by_cases k_3 : kd = 3
        · refine lv_tableIn (off := 43) (tgt := 44) S.1 S.2.1 d_In_exists_1 (by rw [k_3]; decide) (by rw [k_3]; decide) (by rw [k_3]; rfl) (by decide) ?_
          refine lv_iconst (v := 1) S.1 S.2.1 d_In_exists_44 (by decide) ?_
          refine lv_iload_n S.1 S.2.1 d_In_exists_45 rfl (lv_at hl 1 rfl) ?_
          refine lv_bipush (v := 6) S.1 S.2.1 d_In_exists_46 (by decide) ?_
          refine hp_doneR (hp_runN S zz hI (c_BP_isWithin l _ _ _) l_In_26 (hp_pre0 _) (by decide) rfl hl.1 rfl (nl rfl) d_In_exists_48 (by decide)) ?_
          exact hp_retRz S hr hlk d_In_exists_51 q_is_n (q_is_c ⟨fun q => Or.inr (Or.inr (Or.inr ⟨k_3, q⟩)), fun q => by rcases q with q | q | q | q <;> first | exact absurd q k_0 | exact absurd q k_1 | exact absurd q.1 k_2 | exact q.2⟩)
        · have n_0 : ¬ kd.toInt = 0 := lv_neT k_0 rfl
          have n_1 : ¬ kd.toInt = 1 := lv_neT k_1 rfl
          have n_2 : ¬ kd.toInt = 2 := lv_neT k_2 rfl
          have n_3 : ¬ kd.toInt = 3 := lv_neT k_3 rfl
          refine lv_tableOut (tgt := 52) S.1 S.2.1 d_In_exists_1 (by omega) (by decide) ?_
          refine lv_iconst (v := 0) S.1 S.2.1 d_In_exists_52 (by decide) ?_
          exact hp_retRz S hr hlk d_In_exists_53 (by decide) (q_is_f (fun q => by rcases q with q | q | q | q <;> first | exact k_0 q | exact k_1 q | exact k_2 q.1 | exact k_3 q.1))

set_option maxHeartbeats 4000000 in
set_option maxRecDepth 100000 in
theorem c_In_dotsAt (l : Launch) (dC : Nat → ClassId) (dI : Nat → Nat → Nat) (cA : Nat → ClassId) (A : Nat → Prop) (h : hp_T) (t b : Nat) (kd val : Int32) (f : Nat → Int64) (y : Int32) (h_t : h t = some (k_In kd val b)) (h_b : h b = some (k_lo (cA 1) 16 f)) : Met l y_In_dotsAt (.code y_In_dotsAt prog_3_method_3_code 2 (some .long) :: BIG) ({ frames := 0, cells := 0, slots := 0, locals := 0 }) (va_Pc [.ref t, .int y] (hp_I (gg dC dI cA) A h)) (hp_QR (some (.long (f (y &&& 15).toNatClampNeg)))) 0 0 (fun _ => False) := by
  refine hp_enter (by decide) (Nat.le_of_ble_eq_true rfl) ?_
  intro p e s m below meth c ls S hr hlk hin hI hl
  have hl : lv_has ls 2 [(0, .ref t), (1, .int y)] := hl
  have hJ := hI.J
  refine lv_aload_n S.1 S.2.1 d_In_dotsAt_0 rfl (lv_at hl 0 rfl) ?_
  refine hp_get S zz hJ h_t f_In_18 rfl d_In_dotsAt_1 ?_
  refine lv_iload_n S.1 S.2.1 d_In_dotsAt_4 rfl (lv_at hl 1 rfl) ?_
  refine lv_bipush (v := 15) S.1 S.2.1 d_In_dotsAt_5 (by decide) ?_
  refine lv_iand S.1 S.2.1 d_In_dotsAt_7 ?_
  refine hp_lald S hJ 1 h_b rfl (pk_andIn y 4 (by decide) (by decide)) d_In_dotsAt_8 ?_
  exact hp_retRl S hr hlk d_In_dotsAt_9 rfl
end
section
/-! The JDK's bitCount and fill; pictures turned and enlarged. -/
def q_us (x : Int64) (n : Int32) : Int64 := (x.toUInt64 >>> (n.toInt64.toUInt64 &&& Int64.toUInt64 63)).toInt64
def q_b1 (x : Int64) : Int64 := x - (q_us x 1 &&& 6148914691236517205)
def q_b2 (x : Int64) : Int64 := (x &&& 3689348814741910323) + (q_us x 2 &&& 3689348814741910323)
def q_b3 (x : Int64) : Int64 := (x + q_us x 4) &&& 1085102592571150095
def q_b4 (x : Int64) : Int64 := x + q_us x 8
def q_b5 (x : Int64) : Int64 := x + q_us x 16
def q_b6 (x : Int64) : Int64 := x + q_us x 32
def q_bc (x : Int64) : Int32 := (q_b6 (q_b5 (q_b4 (q_b3 (q_b2 (q_b1 x)))))).toInt32 &&& 127
def q_bs (f : Nat → Int64) : Nat → Int32
  | 0 => 0
  | n + 1 => q_bs f n + q_bc (f n)
def q_fl (f : Nat → Int32) (x : Int32) (k : Nat) : Nat → Int32 := fun i => if i < k then x else f i
theorem q_fl_0 (f : Nat → Int32) (x : Int32) : q_fl f x 0 = f := by
  funext i
  exact if_neg (by omega)
theorem q_fl_s (f : Nat → Int32) (x : Int32) (k : Nat) : upd (q_fl f x k) k x = q_fl f x (k + 1) := by
  funext i
  unfold upd q_fl
  by_cases h : i = k
  · rw [if_pos h, if_pos (by omega)]
  · rw [if_neg h]
    by_cases h2 : i < k
    · rw [if_pos h2, if_pos (by omega)]
    · rw [if_neg h2, if_neg (by omega)]
abbrev q_pb (d wd : Int32) (f : Nat → Int64) (i j : Int32) : Prop := ¬ q_wa d wd f j (i / 64) &&& q_dot i = 0
def q_bl (d wd : Int32) (f : Nat → Int64) (i j : Int32) : Nat → Int64 := q_sw d wd f j (i / 64) (q_wa d wd f j (i / 64) ||| q_dot i)
def q_bt (tn w d wd : Int32) (f : Nat → Int64) (i j : Int32) : Nat → Int64 := if tn = 1 then q_bl d wd f j (d - 1 - i) else if tn = 2 then q_bl d wd f (w - 1 - i) (d - 1 - j) else q_bl d wd f (w - 1 - j) i

set_option maxHeartbeats 4000000 in
set_option maxRecDepth 100000 in
theorem c_JL_bitCount (l : Launch) (x : Int64)  : Met l y_JL_bitCount (.code y_JL_bitCount prog_14_method_50_code 2 (some .int) :: BIG) ({ frames := 0, cells := 0, slots := 0, locals := 0 }) (va_Pc [.long x] (fun _ => True)) (hp_QR (some (.int (q_bc x)))) 0 0 (fun _ => False) := by
  refine hp_enterF (by decide +kernel) (Nat.le_of_ble_eq_true rfl) ?_
  intro p e s m below meth c ls S hr hlk hin hI hl
  have hl : lv_has ls 2 [(0, .long x)] := hl
  refine lv_lload_n S.1 S.2.1 d_JL_bitCount_0 rfl (lv_at hl 0 rfl) ?_
  refine lv_lload_n S.1 S.2.1 d_JL_bitCount_1 rfl (lv_at hl 0 rfl) ?_
  refine lv_iconst (v := 1) S.1 S.2.1 d_JL_bitCount_2 (by decide) ?_
  refine lv_lushr S.1 S.2.1 d_JL_bitCount_3 rfl ?_
  refine lv_ldc2 (v := 6148914691236517205) S.1 S.2.1 S.2.2.2.1 (S.2.2.2.2 _ t_423) d_JL_bitCount_4 ?_
  refine lv_land S.1 S.2.1 d_JL_bitCount_7 ?_
  refine lv_lsub S.1 S.2.1 d_JL_bitCount_8 ?_
  refine lv_topl (fun y1 ey1 => ?_)
  refine lv_lstore_n (lv' := [(0, .long y1)]) S.1 S.2.1 d_JL_bitCount_9 rfl hl (by decide) rfl (fun ls hl => ?_)
  refine lv_lload_n S.1 S.2.1 d_JL_bitCount_10 rfl (lv_at hl 0 rfl) ?_
  refine lv_ldc2 (v := 3689348814741910323) S.1 S.2.1 S.2.2.2.1 (S.2.2.2.2 _ t_424) d_JL_bitCount_11 ?_
  refine lv_land S.1 S.2.1 d_JL_bitCount_14 ?_
  refine lv_lload_n S.1 S.2.1 d_JL_bitCount_15 rfl (lv_at hl 0 rfl) ?_
  refine lv_iconst (v := 2) S.1 S.2.1 d_JL_bitCount_16 (by decide) ?_
  refine lv_lushr S.1 S.2.1 d_JL_bitCount_17 rfl ?_
  refine lv_ldc2 (v := 3689348814741910323) S.1 S.2.1 S.2.2.2.1 (S.2.2.2.2 _ t_424) d_JL_bitCount_18 ?_
  refine lv_land S.1 S.2.1 d_JL_bitCount_21 ?_
  refine lv_ladd S.1 S.2.1 d_JL_bitCount_22 ?_
  refine lv_topl (fun y2 ey2 => ?_)
  refine lv_lstore_n (lv' := [(0, .long y2)]) S.1 S.2.1 d_JL_bitCount_23 rfl hl (by decide) rfl (fun ls hl => ?_)
  refine lv_lload_n S.1 S.2.1 d_JL_bitCount_24 rfl (lv_at hl 0 rfl) ?_
  refine lv_lload_n S.1 S.2.1 d_JL_bitCount_25 rfl (lv_at hl 0 rfl) ?_
  refine lv_iconst (v := 4) S.1 S.2.1 d_JL_bitCount_26 (by decide) ?_
  refine lv_lushr S.1 S.2.1 d_JL_bitCount_27 rfl ?_
  refine lv_ladd S.1 S.2.1 d_JL_bitCount_28 ?_
  refine lv_ldc2 (v := 1085102592571150095) S.1 S.2.1 S.2.2.2.1 (S.2.2.2.2 _ t_425) d_JL_bitCount_29 ?_
  refine lv_land S.1 S.2.1 d_JL_bitCount_32 ?_
  refine lv_topl (fun y3 ey3 => ?_)
  refine lv_lstore_n (lv' := [(0, .long y3)]) S.1 S.2.1 d_JL_bitCount_33 rfl hl (by decide) rfl (fun ls hl => ?_)
  refine lv_lload_n S.1 S.2.1 d_JL_bitCount_34 rfl (lv_at hl 0 rfl) ?_
  refine lv_lload_n S.1 S.2.1 d_JL_bitCount_35 rfl (lv_at hl 0 rfl) ?_
  refine lv_bipush (v := 8) S.1 S.2.1 d_JL_bitCount_36 (by decide) ?_
  refine lv_lushr S.1 S.2.1 d_JL_bitCount_38 rfl ?_
  refine lv_ladd S.1 S.2.1 d_JL_bitCount_39 ?_
  refine lv_topl (fun y4 ey4 => ?_)
  refine lv_lstore_n (lv' := [(0, .long y4)]) S.1 S.2.1 d_JL_bitCount_40 rfl hl (by decide) rfl (fun ls hl => ?_)
  refine lv_lload_n S.1 S.2.1 d_JL_bitCount_41 rfl (lv_at hl 0 rfl) ?_
  refine lv_lload_n S.1 S.2.1 d_JL_bitCount_42 rfl (lv_at hl 0 rfl) ?_
  refine lv_bipush (v := 16) S.1 S.2.1 d_JL_bitCount_43 (by decide) ?_
  refine lv_lushr S.1 S.2.1 d_JL_bitCount_45 rfl ?_
  refine lv_ladd S.1 S.2.1 d_JL_bitCount_46 ?_
  refine lv_topl (fun y5 ey5 => ?_)
  refine lv_lstore_n (lv' := [(0, .long y5)]) S.1 S.2.1 d_JL_bitCount_47 rfl hl (by decide) rfl (fun ls hl => ?_)
  refine lv_lload_n S.1 S.2.1 d_JL_bitCount_48 rfl (lv_at hl 0 rfl) ?_
  refine lv_lload_n S.1 S.2.1 d_JL_bitCount_49 rfl (lv_at hl 0 rfl) ?_
  refine lv_bipush (v := 32) S.1 S.2.1 d_JL_bitCount_50 (by decide) ?_
  refine lv_lushr S.1 S.2.1 d_JL_bitCount_52 rfl ?_
  refine lv_ladd S.1 S.2.1 d_JL_bitCount_53 ?_
  refine lv_topl (fun y6 ey6 => ?_)
  refine lv_lstore_n (lv' := [(0, .long y6)]) S.1 S.2.1 d_JL_bitCount_54 rfl hl (by decide) rfl (fun ls hl => ?_)
  refine lv_lload_n S.1 S.2.1 d_JL_bitCount_55 rfl (lv_at hl 0 rfl) ?_
  refine lv_l2i S.1 S.2.1 d_JL_bitCount_56 rfl ?_
  refine lv_bipush (v := 127) S.1 S.2.1 d_JL_bitCount_57 (by decide) ?_
  refine lv_iand S.1 S.2.1 d_JL_bitCount_59 ?_
  exact hp_retRi S hr hlk d_JL_bitCount_60 (by rw [ey6, ey5, ey4, ey3, ey2, ey1]; rfl)

set_option maxHeartbeats 4000000 in
set_option maxRecDepth 100000 in
theorem c_JA_fill (l : Launch) (dC : Nat → ClassId) (dI : Nat → Nat → Nat) (cA : Nat → ClassId) (A : Nat → Prop) (h : hp_T) (a : Nat) (x : Int32) (n : Nat) (f : Nat → Int32) (hn : n ≤ 65536) (h_a : h a = some (k_in (cA 0) n f)) : Met l y_JA_fill (.code y_JA_fill prog_19_method_103_code 4 none :: BIG) ({ frames := 0, cells := 0, slots := 0, locals := 0 }) (va_Pc [.ref a, .int x] (hp_I (gg dC dI cA) A h)) (hp_QW (gg dC dI cA) A hp_mv (fun _ h' => h' = hp_up h a (k_in (cA 0) n (q_fl f x n)))) 0 0 A := by
  refine hp_enterF (by decide +kernel) (Nat.le_of_ble_eq_true rfl) ?_
  intro p e s m below meth c ls S hr hlk hin hI hl
  have hl : lv_has ls 4 [(0, .ref a), (1, .int x)] := hl
  have hJ := hI.J
  refine lv_iconst (v := 0) S.1 S.2.1 d_JA_fill_0 (by decide) ?_
  refine lv_istore_n (lv' := [(2, .int 0), (0, .ref a), (1, .int x)]) S.1 S.2.1 d_JA_fill_1 rfl hl (by decide) rfl (fun ls hl => ?_)
  refine lv_aload_n S.1 S.2.1 d_JA_fill_2 rfl (lv_at hl 1 rfl) ?_
  refine hp_alen S hJ 0 h_a rfl d_JA_fill_3 ?_
  refine lv_istore_n (lv' := [(3, .int (nI n)), (2, .int 0), (0, .ref a), (1, .int x)]) S.1 S.2.1 d_JA_fill_4 rfl hl (by decide) rfl (fun ls hl => ?_)
  have LP : ∀ (n_ i : Nat) (hc : hp_T) (H : Heap) (locs : List Loc) (ls : Array Slot), i + n_ = n → hc = hp_up h a (k_in (cA 0) n (q_fl f x i)) → hp_J (gg dC dI cA) A hc s H locs → lv_has ls 4 [(2, .int (nI i)), (3, .int (nI n)), (0, .ref a), (1, .int x)] → W p l e ({ frames := 0, cells := 0, slots := 0, locals := 0 }) s m ([.ref a, .int x] : List Value).toArray below meth c H locs 0 0 (MQ below (hp_QW (gg dC dI cA) A hp_mv (fun _ h' => h' = hp_up h a (k_in (cA 0) n (q_fl f x n)))) ([.ref a, .int x] : List Value).toArray s 0 0 A) (F0 m 5 ls []) := by
    intro n_
    induction n_ with
    | zero =>
      intro i hc H locs ls hu_ ehc hJ hl
      have h_a : hc a = some (k_in (cA 0) n (q_fl f x i)) := by rw [ehc]; exact hp_up_s _ _ _
      refine lv_iload_n S.1 S.2.1 d_JA_fill_5 rfl (lv_at hl 0 rfl) ?_
      refine lv_iload_n S.1 S.2.1 d_JA_fill_6 rfl (lv_at hl 1 rfl) ?_
      obtain ⟨e_n, -⟩ : i = n ∧ True := ⟨by omega, trivial⟩
      refine lv_icmp_ge (tgt := 20) S.1 S.2.1 d_JA_fill_7 (by decide) (fun _ => ?_) (fun q => absurd (by rw [e_n]; exact Int32.le_refl _) q)
      exact hp_retWv S hJ hr hlk d_JA_fill_20 (by decide) (by rw [ehc, e_n])
    | succ n_ ih =>
      intro i hc H locs ls hu_ ehc hJ hl
      have h_a : hc a = some (k_in (cA 0) n (q_fl f x i)) := by rw [ehc]; exact hp_up_s _ _ _
      refine lv_iload_n S.1 S.2.1 d_JA_fill_5 rfl (lv_at hl 0 rfl) ?_
      refine lv_iload_n S.1 S.2.1 d_JA_fill_6 rfl (lv_at hl 1 rfl) ?_
      refine lv_icmp_ge (tgt := 20) S.1 S.2.1 d_JA_fill_7 (by decide) (fun q => absurd q (nI_ge (a := i) (b := n) (by omega) (by omega))) (fun _ => ?_)
      refine lv_aload_n S.1 S.2.1 d_JA_fill_10 rfl (lv_at hl 2 rfl) ?_
      refine lv_iload_n S.1 S.2.1 d_JA_fill_11 rfl (lv_at hl 0 rfl) ?_
      refine lv_iload_n S.1 S.2.1 d_JA_fill_12 rfl (lv_at hl 3 rfl) ?_
      refine hp_iast S hJ 0 h_a rfl (vp_in_nI (by omega) (by omega)) d_JA_fill_13 (fun H locs hJ => ?_)
      rw [nI_clamp (by omega), q_fl_s, ehc, hp_up_up] at hJ
      refine lv_iinc (v := nI (i + 1)) (lv' := [(2, .int (nI (i + 1))), (3, .int (nI n)), (0, .ref a), (1, .int x)]) S.1 S.2.1 d_JA_fill_14 hl (k := 0) rfl (nI_1 _) (by decide) rfl (fun ls hl => ?_)
      refine lv_goto (tgt := 5) S.1 S.2.1 d_JA_fill_17 (by decide) ?_
      exact ih (i + 1) _ _ _ ls (by omega) rfl hJ (lv_sub hl [0, 1, 2, 3] rfl)
  exact LP n 0 _ _ _ ls (by omega) (by rw [q_fl_0, hp_up_same h_a]) hJ (lv_sub hl [1, 0, 2, 3] rfl)

set_option maxHeartbeats 4000000 in
set_option maxRecDepth 100000 in
theorem c_Pc_blacks (l : Launch) (dC : Nat → ClassId) (dI : Nat → Nat → Nat) (cA : Nat → ClassId) (A : Nat → Prop) (h : hp_T) (t b : Nat) (w d tl wd : Int32) (n : Nat) (f : Nat → Int64) (hn : n ≤ 65536) (h_t : h t = some (k_Pc w d tl wd b)) (h_b : h b = some (k_lo (cA 1) n f)) : Met l y_Pc_blacks (.code y_Pc_blacks prog_5_method_3_code 3 (some .int) :: BIG) ({ frames := 1, cells := 0, slots := 0, locals := 21 }) (va_Pc [.ref t] (hp_I (gg dC dI cA) A h)) (hp_QR (some (.int (q_bs f n)))) 0 0 (fun _ => False) := by
  refine hp_enter (by decide) (Nat.le_of_ble_eq_true rfl) ?_
  intro p e s m below meth c ls S hr hlk hin hI hl
  have hl : lv_has ls 3 [(0, .ref t)] := hl
  have hJ := hI.J
  refine lv_iconst (v := 0) S.1 S.2.1 d_Pc_blacks_0 (by decide) ?_
  refine lv_istore_n (lv' := [(1, .int 0), (0, .ref t)]) S.1 S.2.1 d_Pc_blacks_1 rfl hl (by decide) rfl (fun ls hl => ?_)
  refine lv_iconst (v := 0) S.1 S.2.1 d_Pc_blacks_2 (by decide) ?_
  refine lv_istore_n (lv' := [(2, .int 0), (1, .int 0), (0, .ref t)]) S.1 S.2.1 d_Pc_blacks_3 rfl hl (by decide) rfl (fun ls hl => ?_)
  have LP : ∀ (n_ i : Nat)  (ls : Array Slot), i + n_ = n → lv_has ls 3 [(2, .int (nI i)), (1, .int (q_bs f i)), (0, .ref t)] → W p l e ({ frames := 1, cells := 0, slots := 0, locals := 21 }) s m ([.ref t] : List Value).toArray below meth c s.heap [] 0 0 (MQ below (hp_QR (some (.int (q_bs f n)))) ([.ref t] : List Value).toArray s 0 0 (fun _ => False)) (F0 m 4 ls []) := by
    intro n_
    induction n_ with
    | zero =>
      intro i  ls hu_  hl
      refine lv_iload_n S.1 S.2.1 d_Pc_blacks_4 rfl (lv_at hl 0 rfl) ?_
      refine lv_aload_n S.1 S.2.1 d_Pc_blacks_5 rfl (lv_at hl 2 rfl) ?_
      refine hp_get S zz hJ h_t f_Pc_30 rfl d_Pc_blacks_6 ?_
      refine hp_alen S hJ 1 h_b rfl d_Pc_blacks_9 ?_
      obtain ⟨e_n, -⟩ : i = n ∧ True := ⟨by omega, trivial⟩
      refine lv_icmp_ge (tgt := 31) S.1 S.2.1 d_Pc_blacks_10 (by decide) (fun _ => ?_) (fun q => absurd (by rw [e_n]; exact Int32.le_refl _) q)
      refine lv_iload_n S.1 S.2.1 d_Pc_blacks_31 rfl (lv_at hl 1 rfl) ?_
      exact hp_retRi S hr hlk d_Pc_blacks_32 (by rw [e_n])
    | succ n_ ih =>
      intro i  ls hu_  hl
      refine lv_iload_n S.1 S.2.1 d_Pc_blacks_4 rfl (lv_at hl 0 rfl) ?_
      refine lv_aload_n S.1 S.2.1 d_Pc_blacks_5 rfl (lv_at hl 2 rfl) ?_
      refine hp_get S zz hJ h_t f_Pc_30 rfl d_Pc_blacks_6 ?_
      refine hp_alen S hJ 1 h_b rfl d_Pc_blacks_9 ?_
      refine lv_icmp_ge (tgt := 31) S.1 S.2.1 d_Pc_blacks_10 (by decide) (fun q => absurd q (nI_ge (a := i) (b := n) (by omega) (by omega))) (fun _ => ?_)
      refine lv_iload_n S.1 S.2.1 d_Pc_blacks_13 rfl (lv_at hl 1 rfl) ?_
      refine lv_aload_n S.1 S.2.1 d_Pc_blacks_14 rfl (lv_at hl 2 rfl) ?_
      refine hp_get S zz hJ h_t f_Pc_30 rfl d_Pc_blacks_15 ?_
      refine lv_iload_n S.1 S.2.1 d_Pc_blacks_18 rfl (lv_at hl 0 rfl) ?_
      refine hp_lald S hJ 1 h_b rfl (vp_in_nI (by omega) (by omega)) d_Pc_blacks_19 ?_
      rw [nI_clamp (by omega)]
      refine hp_doneR (hp_runS S zz0 (c_JL_bitCount l _) l_Pc_42 (hp_pre0 _) (by decide) rfl hl.1 rfl (nl rfl) d_Pc_blacks_20 (by decide)) ?_
      refine lv_iadd S.1 S.2.1 d_Pc_blacks_23 ?_
      refine lv_istore_n (lv' := [(1, .int ((q_bs f i) + (q_bc (f i)))), (2, .int (nI i)), (0, .ref t)]) S.1 S.2.1 d_Pc_blacks_24 rfl hl (by decide) rfl (fun ls hl => ?_)
      refine lv_iinc (v := nI (i + 1)) (lv' := [(2, .int (nI (i + 1))), (1, .int ((q_bs f i) + (q_bc (f i)))), (0, .ref t)]) S.1 S.2.1 d_Pc_blacks_25 hl (k := 1) rfl (nI_1 _) (by decide) rfl (fun ls hl => ?_)
      refine lv_goto (tgt := 4) S.1 S.2.1 d_Pc_blacks_28 (by decide) ?_
      exact ih (i + 1) ls (by omega) (lv_sub hl [0, 1, 2] rfl)
  exact LP n 0 ls (by omega) (lv_sub hl [0, 1, 2] rfl)

set_option maxHeartbeats 4000000 in
set_option maxRecDepth 100000 in
theorem c_Pc_blackenTurned (l : Launch) (dC : Nat → ClassId) (dI : Nat → Nat → Nat) (cA : Nat → ClassId) (A : Nat → Prop) (h : hp_T) (t b : Nat) (w d tl wd : Int32) (n : Nat) (f : Nat → Int64) (tn i j : Int32) (h_t : h t = some (k_Pc w d tl wd b)) (h_b : h b = some (k_lo (cA 1) n f)) (hix : ∀ j k : Int32, 0 ≤ j ∧ j < d ∧ 0 ≤ k ∧ k < wd → vp_in (j * wd + k) n) : Met l y_Pc_blackenTurned (.code y_Pc_blackenTurned prog_5_method_7_code 4 none :: BIG) ({ frames := 3, cells := 0, slots := 0, locals := 68 }) (va_Pc [.ref t, .int tn, .int i, .int j] (hp_I (gg dC dI cA) A h)) (hp_QW (gg dC dI cA) A hp_mv (fun _ h' => h' = hp_up h b (k_lo (cA 1) n (q_bt tn w d wd f i j)))) 0 0 A := by
  refine hp_enter (by decide) (Nat.le_of_ble_eq_true rfl) ?_
  intro p e s m below meth c ls S hr hlk hin hI hl
  have hl : lv_has ls 4 [(0, .ref t), (1, .int tn), (2, .int i), (3, .int j)] := hl
  have hJ := hI.J
  refine lv_iload_n S.1 S.2.1 d_Pc_blackenTurned_0 rfl (lv_at hl 1 rfl) ?_
  by_cases k_1 : tn = 1
  · refine lv_lookup (off := 27) (tgt := 28) S.1 S.2.1 d_Pc_blackenTurned_1 (by decide) (by rw [k_1]; rfl) (by decide) ?_
    refine lv_aload_n S.1 S.2.1 d_Pc_blackenTurned_28 rfl (lv_at hl 0 rfl) ?_
    refine lv_iload_n S.1 S.2.1 d_Pc_blackenTurned_29 rfl (lv_at hl 3 rfl) ?_
    refine lv_aload_n S.1 S.2.1 d_Pc_blackenTurned_30 rfl (lv_at hl 0 rfl) ?_
    refine hp_get S zz hJ h_t f_Pc_21 rfl d_Pc_blackenTurned_31 ?_
    refine lv_iconst (v := 1) S.1 S.2.1 d_Pc_blackenTurned_34 (by decide) ?_
    refine lv_isub S.1 S.2.1 d_Pc_blackenTurned_35 ?_
    refine lv_iload_n S.1 S.2.1 d_Pc_blackenTurned_36 rfl (lv_at hl 2 rfl) ?_
    refine lv_isub S.1 S.2.1 d_Pc_blackenTurned_37 ?_
    refine hp_doneWv hJ (hp_runV S zz0 (c_Pc_blacken l dC dI cA A h t b w d tl wd n f _ _ h_t h_b hix) l_Pc_68 (hJ.preV _ h_t rfl) (by decide) rfl hl.1 rfl (nl rfl) d_Pc_blackenTurned_38 (by decide)) (fun h1 H locs eh1 hJ => ?_)
    have h0_b := h_b
    have h_t : h1 t = some (.inr (4, [.int w, .int d, .int tl, .int wd, .ref b])) := by rw [eh1]; exact hp_up_k (hp_ne h_t h0_b (show ((0, 4) : Nat × Nat) ≠ (2, 0) by decide)) h_t
    have h_b : h1 b = some (k_lo (cA 1) n (q_bl d wd f j (d - 1 - i))) := by rw [eh1]; exact hp_up_s _ _ _
    refine lv_goto (tgt := 80) S.1 S.2.1 d_Pc_blackenTurned_41 (by decide) ?_
    exact hp_retWv S hJ hr hlk d_Pc_blackenTurned_80 (by decide) (by unfold q_bt; rw [if_pos k_1]; exact eh1)
  · by_cases k_2 : tn = 2
    · refine lv_lookup (off := 43) (tgt := 44) S.1 S.2.1 d_Pc_blackenTurned_1 (by decide) (by rw [k_2]; rfl) (by decide) ?_
      refine lv_aload_n S.1 S.2.1 d_Pc_blackenTurned_44 rfl (lv_at hl 0 rfl) ?_
      refine lv_aload_n S.1 S.2.1 d_Pc_blackenTurned_45 rfl (lv_at hl 0 rfl) ?_
      refine hp_get S zz hJ h_t f_Pc_15 rfl d_Pc_blackenTurned_46 ?_
      refine lv_iconst (v := 1) S.1 S.2.1 d_Pc_blackenTurned_49 (by decide) ?_
      refine lv_isub S.1 S.2.1 d_Pc_blackenTurned_50 ?_
      refine lv_iload_n S.1 S.2.1 d_Pc_blackenTurned_51 rfl (lv_at hl 2 rfl) ?_
      refine lv_isub S.1 S.2.1 d_Pc_blackenTurned_52 ?_
      refine lv_aload_n S.1 S.2.1 d_Pc_blackenTurned_53 rfl (lv_at hl 0 rfl) ?_
      refine hp_get S zz hJ h_t f_Pc_21 rfl d_Pc_blackenTurned_54 ?_
      refine lv_iconst (v := 1) S.1 S.2.1 d_Pc_blackenTurned_57 (by decide) ?_
      refine lv_isub S.1 S.2.1 d_Pc_blackenTurned_58 ?_
      refine lv_iload_n S.1 S.2.1 d_Pc_blackenTurned_59 rfl (lv_at hl 3 rfl) ?_
      refine lv_isub S.1 S.2.1 d_Pc_blackenTurned_60 ?_
      refine hp_doneWv hJ (hp_runV S zz0 (c_Pc_blacken l dC dI cA A h t b w d tl wd n f _ _ h_t h_b hix) l_Pc_68 (hJ.preV _ h_t rfl) (by decide) rfl hl.1 rfl (nl rfl) d_Pc_blackenTurned_61 (by decide)) (fun h2 H locs eh2 hJ => ?_)
      have h0_b := h_b
      have h_t : h2 t = some (.inr (4, [.int w, .int d, .int tl, .int wd, .ref b])) := by rw [eh2]; exact hp_up_k (hp_ne h_t h0_b (show ((0, 4) : Nat × Nat) ≠ (2, 0) by decide)) h_t
      have h_b : h2 b = some (k_lo (cA 1) n (q_bl d wd f (w - 1 - i) (d - 1 - j))) := by rw [eh2]; exact hp_up_s _ _ _
      refine lv_goto (tgt := 80) S.1 S.2.1 d_Pc_blackenTurned_64 (by decide) ?_
      exact hp_retWv S hJ hr hlk d_Pc_blackenTurned_80 (by decide) (by unfold q_bt; rw [if_neg k_1, if_pos k_2]; exact eh2)
    · refine lv_lookup (off := 66) (tgt := 67) S.1 S.2.1 d_Pc_blackenTurned_1 (by decide) ((lv_osw k_1 rfl).trans ((lv_osw k_2 rfl).trans rfl)) (by decide) ?_
      refine lv_aload_n S.1 S.2.1 d_Pc_blackenTurned_67 rfl (lv_at hl 0 rfl) ?_
      refine lv_aload_n S.1 S.2.1 d_Pc_blackenTurned_68 rfl (lv_at hl 0 rfl) ?_
      refine hp_get S zz hJ h_t f_Pc_15 rfl d_Pc_blackenTurned_69 ?_
      refine lv_iconst (v := 1) S.1 S.2.1 d_Pc_blackenTurned_72 (by decide) ?_
      refine lv_isub S.1 S.2.1 d_Pc_blackenTurned_73 ?_
      refine lv_iload_n S.1 S.2.1 d_Pc_blackenTurned_74 rfl (lv_at hl 3 rfl) ?_
      refine lv_isub S.1 S.2.1 d_Pc_blackenTurned_75 ?_
      refine lv_iload_n S.1 S.2.1 d_Pc_blackenTurned_76 rfl (lv_at hl 2 rfl) ?_
      refine hp_doneWv hJ (hp_runV S zz0 (c_Pc_blacken l dC dI cA A h t b w d tl wd n f _ _ h_t h_b hix) l_Pc_68 (hJ.preV _ h_t rfl) (by decide) rfl hl.1 rfl (nl rfl) d_Pc_blackenTurned_77 (by decide)) (fun h3 H locs eh3 hJ => ?_)
      have h0_b := h_b
      have h_t : h3 t = some (.inr (4, [.int w, .int d, .int tl, .int wd, .ref b])) := by rw [eh3]; exact hp_up_k (hp_ne h_t h0_b (show ((0, 4) : Nat × Nat) ≠ (2, 0) by decide)) h_t
      have h_b : h3 b = some (k_lo (cA 1) n (q_bl d wd f (w - 1 - j) i)) := by rw [eh3]; exact hp_up_s _ _ _
      exact hp_retWv S hJ hr hlk d_Pc_blackenTurned_80 (by decide) (by unfold q_bt; rw [if_neg k_1, if_neg k_2]; exact eh3)
end
section
/-! Pictures turned and enlarged: loops in loops. -/
def q_ti (P : Nat → Nat → Bool) (S : (Nat → Int64) → Nat → Nat → Nat → Int64) (F : Nat → Int64) (j : Nat) : Nat → Nat → Int64
  | 0 => F
  | i + 1 => if P i j = true then S (q_ti P S F j i) i j else q_ti P S F j i
def q_to (P : Nat → Nat → Bool) (S : (Nat → Int64) → Nat → Nat → Nat → Int64) (w : Nat) : Nat → Nat → Int64
  | 0 => fun _ => 0
  | j + 1 => q_ti P S (q_to P S w j) j w
theorem q_ti_t {P : Nat → Nat → Bool} {S : (Nat → Int64) → Nat → Nat → Nat → Int64} {F : Nat → Int64} {j i : Nat} (h : P i j = true) : q_ti P S F j (i + 1) = S (q_ti P S F j i) i j := if_pos h
theorem q_ti_f {P : Nat → Nat → Bool} {S : (Nat → Int64) → Nat → Nat → Nat → Int64} {F : Nat → Int64} {j i : Nat} (h : ¬ P i j = true) : q_ti P S F j (i + 1) = q_ti P S F j i := if_neg h
theorem pw_le {w : Nat} (h : w ≤ 1024) : pw w ≤ 1024 := by
  unfold pw
  omega
def tw (tn : Int32) (w d : Nat) : Nat := if tn = 2 then w else d
def q_tP (w d : Nat) (f : Nat → Int64) (i j : Nat) : Bool := decide (q_pb (nI d) (nI (pw w)) f (nI i) (nI j))
def q_tS (tn : Int32) (w2 d2 : Nat) (F : Nat → Int64) (i j : Nat) : Nat → Int64 := q_bt tn (nI w2) (nI d2) (nI (pw w2)) F (nI i) (nI j)
def q_tF (tn : Int32) (w d : Nat) (f : Nat → Int64) : Nat → Int64 := q_to (q_tP w d f) (q_tS tn (tw tn w d) (tw tn d w)) w d

set_option maxHeartbeats 4000000 in
set_option maxRecDepth 100000 in
/-- a picture turned -/
theorem c_Pc_turnedBy (l : Launch) (dC : Nat → ClassId) (dI : Nat → Nat → Nat) (cA : Nat → ClassId) (A : Nat → Prop) (h : hp_T) (t b w d tl : Nat) (f : Nat → Int64) (tn : Int32) (htn : ¬ tn = 0) (hw : 1 ≤ w ∧ w ≤ 1024) (hd : 1 ≤ d ∧ d ≤ 1024) (htl : 1 ≤ tl ∧ tl ≤ 1024) (hs : pw w * d ≤ 256) (hs2 : pw d * w ≤ 256) (h_t : h t = some (k_Pc (nI w) (nI d) (nI tl) (nI (pw w)) b)) (h_b : h b = some (k_lo (cA 1) (pw w * d) f)) : Met l y_Pc_turnedBy (.code y_Pc_turnedBy prog_5_method_5_code 5 (some (.object "BandPainter$Picture")) :: BIG) ({ frames := 4, cells := 2, slots := 261, locals := 91 }) (va_Pc [.ref t, .int tn] (hp_I (gg dC dI cA) A h)) (hp_QW (gg dC dI cA) A hp_mr (fun r h' => ∃ b2, h r = none ∧ h b2 = none ∧ r ≠ b2 ∧ h' = hp_up (hp_up h b2 (k_lo (cA 1) (pw (tw tn w d) * tw tn d w) (q_tF tn w d f))) r (k_Pc (nI (tw tn w d)) (nI (tw tn d w)) (nI tl) (nI (pw (tw tn w d))) b2))) 2 261 A := by
  refine hp_enter (by decide) (Nat.le_of_ble_eq_true rfl) ?_
  intro p e s m below meth c ls S hr hlk hin hI hl
  have hl : lv_has ls 5 [(0, .ref t), (1, .int tn)] := hl
  have hJ := hI.J
  refine lv_iload_n S.1 S.2.1 d_Pc_turnedBy_0 rfl (lv_at hl 1 rfl) ?_
  refine lv_if_ne (tgt := 6) S.1 S.2.1 d_Pc_turnedBy_1 (by decide) (fun _ => ?_) (fun q => absurd q htn)
  have h_t0 := h_t
  have h_b0 := h_b
  obtain ⟨w2, ew2⟩ : ∃ z, z = tw tn w d := ⟨_, rfl⟩
  obtain ⟨d2, ed2⟩ : ∃ z, z = tw tn d w := ⟨_, rfl⟩
  have hw2 : 1 ≤ w2 ∧ w2 ≤ 1024 := by rw [ew2]; unfold tw; split <;> assumption
  have hd2 : 1 ≤ d2 ∧ d2 ≤ 1024 := by rw [ed2]; unfold tw; split <;> assumption
  have hwd2 : pw w2 * d2 ≤ 256 := by rw [ew2, ed2]; unfold tw; split <;> assumption
  have LP : ∀ (n_ j : Nat) (q b2 : Nat) (hc : hp_T) (H : Heap) (locs : List Loc) (ls : Array Slot), j + n_ = d → h q = none → h b2 = none → q ≠ b2 → hc = hp_up (hp_up h b2 (k_lo (cA 1) (pw w2 * d2) (q_to (q_tP w d f) (q_tS tn w2 d2) w j))) q (k_Pc (nI w2) (nI d2) (nI tl) (nI (pw w2)) b2) → hp_J (gg dC dI cA) A hc s H locs → lv_has ls 5 [(3, .int (nI j)), (2, .ref q), (0, .ref t), (1, .int tn)] → W p l e ({ frames := 4, cells := 2, slots := 261, locals := 91 }) s m ([.ref t, .int tn] : List Value).toArray below meth c H locs 2 261 (MQ below (hp_QW (gg dC dI cA) A hp_mr (fun r h' => ∃ b2, h r = none ∧ h b2 = none ∧ r ≠ b2 ∧ h' = hp_up (hp_up h b2 (k_lo (cA 1) (pw (tw tn w d) * tw tn d w) (q_tF tn w d f))) r (k_Pc (nI (tw tn w d)) (nI (tw tn d w)) (nI tl) (nI (pw (tw tn w d))) b2))) ([.ref t, .int tn] : List Value).toArray s 2 261 A) (F0 m 55 ls []) := by
    intro n_
    induction n_ with
    | zero =>
      intro j q b2 hc H locs ls hu_ hq hb2 hne ehc hJ hl
      have h_q : hc q = some (k_Pc (nI w2) (nI d2) (nI tl) (nI (pw w2)) b2) := by rw [ehc]; exact hp_up_s _ _ _
      have h_b2 : hc b2 = some (k_lo (cA 1) (pw w2 * d2) (q_to (q_tP w d f) (q_tS tn w2 d2) w j)) := by rw [ehc]; exact hp_up_k (Ne.symm hne) (hp_up_s _ _ _)
      have h_t : hc t = some (k_Pc (nI w) (nI d) (nI tl) (nI (pw w)) b) := by rw [ehc]; exact hp_up_k (hp_neN h_t0 hq) (hp_up_k (hp_neN h_t0 hb2) h_t0)
      have h_b : hc b = some (k_lo (cA 1) (pw w * d) f) := by rw [ehc]; exact hp_up_k (hp_neN h_b0 hq) (hp_up_k (hp_neN h_b0 hb2) h_b0)
      refine lv_iload_n S.1 S.2.1 d_Pc_turnedBy_55 rfl (lv_at hl 0 rfl) ?_
      refine lv_aload_n S.1 S.2.1 d_Pc_turnedBy_56 rfl (lv_at hl 2 rfl) ?_
      refine hp_get S zz hJ h_t f_Pc_21 rfl d_Pc_turnedBy_57 ?_
      obtain ⟨e_n, -⟩ : j = d ∧ True := ⟨by omega, trivial⟩
      refine lv_icmp_ge (tgt := 105) S.1 S.2.1 d_Pc_turnedBy_60 (by decide) (fun _ => ?_) (fun q => absurd (by rw [e_n]; exact Int32.le_refl _) q)
      refine lv_aload_n S.1 S.2.1 d_Pc_turnedBy_105 rfl (lv_at hl 1 rfl) ?_
      exact hp_retWr S hJ hr hlk d_Pc_turnedBy_106 (by decide) ⟨b2, hq, hb2, hne, by rw [ehc, e_n, ew2, ed2]; rfl⟩
    | succ n_ ih =>
      intro j q b2 hc H locs ls hu_ hq hb2 hne ehc hJ hl
      have h_q : hc q = some (k_Pc (nI w2) (nI d2) (nI tl) (nI (pw w2)) b2) := by rw [ehc]; exact hp_up_s _ _ _
      have h_b2 : hc b2 = some (k_lo (cA 1) (pw w2 * d2) (q_to (q_tP w d f) (q_tS tn w2 d2) w j)) := by rw [ehc]; exact hp_up_k (Ne.symm hne) (hp_up_s _ _ _)
      have h_t : hc t = some (k_Pc (nI w) (nI d) (nI tl) (nI (pw w)) b) := by rw [ehc]; exact hp_up_k (hp_neN h_t0 hq) (hp_up_k (hp_neN h_t0 hb2) h_t0)
      have h_b : hc b = some (k_lo (cA 1) (pw w * d) f) := by rw [ehc]; exact hp_up_k (hp_neN h_b0 hq) (hp_up_k (hp_neN h_b0 hb2) h_b0)
      refine lv_iload_n S.1 S.2.1 d_Pc_turnedBy_55 rfl (lv_at hl 0 rfl) ?_
      refine lv_aload_n S.1 S.2.1 d_Pc_turnedBy_56 rfl (lv_at hl 2 rfl) ?_
      refine hp_get S zz hJ h_t f_Pc_21 rfl d_Pc_turnedBy_57 ?_
      refine lv_icmp_ge (tgt := 105) S.1 S.2.1 d_Pc_turnedBy_60 (by decide) (fun q => absurd q (nI_ge (a := j) (b := d) (by omega) (by omega))) (fun _ => ?_)
      refine lv_iconst (v := 0) S.1 S.2.1 d_Pc_turnedBy_63 (by decide) ?_
      refine lv_istore (lv' := [(4, .int 0), (3, .int (nI j)), (2, .ref q), (0, .ref t), (1, .int tn)]) S.1 S.2.1 d_Pc_turnedBy_64 hl (by decide) rfl (fun ls hl => ?_)
      have LPi : ∀ (n_i i : Nat) (hc : hp_T) (H : Heap) (locs : List Loc) (ls : Array Slot), i + n_i = w → hc = hp_up (hp_up h b2 (k_lo (cA 1) (pw w2 * d2) (q_ti (q_tP w d f) (q_tS tn w2 d2) (q_to (q_tP w d f) (q_tS tn w2 d2) w j) j i))) q (k_Pc (nI w2) (nI d2) (nI tl) (nI (pw w2)) b2) → hp_J (gg dC dI cA) A hc s H locs → lv_has ls 5 [(4, .int (nI i)), (3, .int (nI j)), (2, .ref q), (0, .ref t), (1, .int tn)] → W p l e ({ frames := 4, cells := 2, slots := 261, locals := 91 }) s m ([.ref t, .int tn] : List Value).toArray below meth c H locs 2 261 (MQ below (hp_QW (gg dC dI cA) A hp_mr (fun r h' => ∃ b2, h r = none ∧ h b2 = none ∧ r ≠ b2 ∧ h' = hp_up (hp_up h b2 (k_lo (cA 1) (pw (tw tn w d) * tw tn d w) (q_tF tn w d f))) r (k_Pc (nI (tw tn w d)) (nI (tw tn d w)) (nI tl) (nI (pw (tw tn w d))) b2))) ([.ref t, .int tn] : List Value).toArray s 2 261 A) (F0 m 66 ls []) := by
        intro n_i
        induction n_i with
        | zero =>
          intro i hc H locs ls hu_i ehc hJ hl
          have h_q : hc q = some (k_Pc (nI w2) (nI d2) (nI tl) (nI (pw w2)) b2) := by rw [ehc]; exact hp_up_s _ _ _
          have h_b2 : hc b2 = some (k_lo (cA 1) (pw w2 * d2) (q_ti (q_tP w d f) (q_tS tn w2 d2) (q_to (q_tP w d f) (q_tS tn w2 d2) w j) j i)) := by rw [ehc]; exact hp_up_k (Ne.symm hne) (hp_up_s _ _ _)
          have h_t : hc t = some (k_Pc (nI w) (nI d) (nI tl) (nI (pw w)) b) := by rw [ehc]; exact hp_up_k (hp_neN h_t0 hq) (hp_up_k (hp_neN h_t0 hb2) h_t0)
          have h_b : hc b = some (k_lo (cA 1) (pw w * d) f) := by rw [ehc]; exact hp_up_k (hp_neN h_b0 hq) (hp_up_k (hp_neN h_b0 hb2) h_b0)
          refine lv_iload S.1 S.2.1 d_Pc_turnedBy_66 (lv_at hl 0 rfl) ?_
          refine lv_aload_n S.1 S.2.1 d_Pc_turnedBy_68 rfl (lv_at hl 3 rfl) ?_
          refine hp_get S zz hJ h_t f_Pc_15 rfl d_Pc_turnedBy_69 ?_
          obtain ⟨e_ni, -⟩ : i = w ∧ True := ⟨by omega, trivial⟩
          refine lv_icmp_ge (tgt := 99) S.1 S.2.1 d_Pc_turnedBy_72 (by decide) (fun _ => ?_) (fun q => absurd (by rw [e_ni]; exact Int32.le_refl _) q)
          refine lv_iinc (v := nI (j + 1)) (lv' := [(3, .int (nI (j + 1))), (4, .int (nI i)), (2, .ref q), (0, .ref t), (1, .int tn)]) S.1 S.2.1 d_Pc_turnedBy_99 hl (k := 1) rfl (nI_1 _) (by decide) rfl (fun ls hl => ?_)
          refine lv_goto (tgt := 55) S.1 S.2.1 d_Pc_turnedBy_102 (by decide) ?_
          exact ih (j + 1) q b2 _ _ _ ls (by omega) hq hb2 hne (by rw [ehc, e_ni]; rfl) hJ (lv_sub hl [0, 2, 3, 4] rfl)
        | succ n_i ihi =>
          intro i hc H locs ls hu_i ehc hJ hl
          have h_q : hc q = some (k_Pc (nI w2) (nI d2) (nI tl) (nI (pw w2)) b2) := by rw [ehc]; exact hp_up_s _ _ _
          have h_b2 : hc b2 = some (k_lo (cA 1) (pw w2 * d2) (q_ti (q_tP w d f) (q_tS tn w2 d2) (q_to (q_tP w d f) (q_tS tn w2 d2) w j) j i)) := by rw [ehc]; exact hp_up_k (Ne.symm hne) (hp_up_s _ _ _)
          have h_t : hc t = some (k_Pc (nI w) (nI d) (nI tl) (nI (pw w)) b) := by rw [ehc]; exact hp_up_k (hp_neN h_t0 hq) (hp_up_k (hp_neN h_t0 hb2) h_t0)
          have h_b : hc b = some (k_lo (cA 1) (pw w * d) f) := by rw [ehc]; exact hp_up_k (hp_neN h_b0 hq) (hp_up_k (hp_neN h_b0 hb2) h_b0)
          refine lv_iload S.1 S.2.1 d_Pc_turnedBy_66 (lv_at hl 0 rfl) ?_
          refine lv_aload_n S.1 S.2.1 d_Pc_turnedBy_68 rfl (lv_at hl 3 rfl) ?_
          refine hp_get S zz hJ h_t f_Pc_15 rfl d_Pc_turnedBy_69 ?_
          refine lv_icmp_ge (tgt := 99) S.1 S.2.1 d_Pc_turnedBy_72 (by decide) (fun q => absurd q (nI_ge (a := i) (b := w) (by omega) (by omega))) (fun _ => ?_)
          refine lv_aload_n S.1 S.2.1 d_Pc_turnedBy_75 rfl (lv_at hl 3 rfl) ?_
          refine lv_iload S.1 S.2.1 d_Pc_turnedBy_76 (lv_at hl 0 rfl) ?_
          refine lv_iload_n S.1 S.2.1 d_Pc_turnedBy_78 rfl (lv_at hl 1 rfl) ?_
          refine hp_doneR (hp_runV S zz0 (c_Pc_isBlack l dC dI cA A _ t b _ _ _ _ _ _ _ _ h_t h_b (ix_ok (pw_le hw.2) hd.2)) l_Pc_61 (hJ.preV _ h_t rfl) (by decide) rfl hl.1 rfl (nl rfl) d_Pc_turnedBy_79 (by decide)) ?_
          refine lv_if_eq (tgt := 93) S.1 S.2.1 d_Pc_turnedBy_82 (by decide) (fun c_82 => ?_) (fun c_82 => ?_)
          · refine lv_iinc (v := nI (i + 1)) (lv' := [(4, .int (nI (i + 1))), (3, .int (nI j)), (2, .ref q), (0, .ref t), (1, .int tn)]) S.1 S.2.1 d_Pc_turnedBy_93 hl (k := 0) rfl (nI_1 _) (by decide) rfl (fun ls hl => ?_)
            refine lv_goto (tgt := 66) S.1 S.2.1 d_Pc_turnedBy_96 (by decide) ?_
            exact ihi (i + 1) _ _ _ ls (by omega) (by rw [q_ti_f (fun z => q_is_0.mp c_82 (of_decide_eq_true z))]; exact ehc) hJ (lv_sub hl [0, 1, 2, 3, 4] rfl)
          · refine lv_aload_n S.1 S.2.1 d_Pc_turnedBy_85 rfl (lv_at hl 2 rfl) ?_
            refine lv_iload_n S.1 S.2.1 d_Pc_turnedBy_86 rfl (lv_at hl 4 rfl) ?_
            refine lv_iload S.1 S.2.1 d_Pc_turnedBy_87 (lv_at hl 0 rfl) ?_
            refine lv_iload_n S.1 S.2.1 d_Pc_turnedBy_89 rfl (lv_at hl 1 rfl) ?_
            refine hp_doneWv hJ (hp_runV S zz0 (c_Pc_blackenTurned l dC dI cA A _ q b2 _ _ _ _ _ _ tn (nI i) (nI j) h_q h_b2 (ix_ok (pw_le hw2.2) hd2.2)) l_Pc_65 (hJ.preV _ h_q rfl) (by decide) rfl hl.1 rfl (nl rfl) d_Pc_turnedBy_90 (by decide)) (fun h9 H locs eh9 hJ => ?_)
            rw [ehc, hp_btb _ _ _ _ hne] at eh9
            generalize h9 = hc at eh9 hJ
            have ehc := eh9
            refine lv_iinc (v := nI (i + 1)) (lv' := [(4, .int (nI (i + 1))), (3, .int (nI j)), (2, .ref q), (0, .ref t), (1, .int tn)]) S.1 S.2.1 d_Pc_turnedBy_93 hl (k := 0) rfl (nI_1 _) (by decide) rfl (fun ls hl => ?_)
            refine lv_goto (tgt := 66) S.1 S.2.1 d_Pc_turnedBy_96 (by decide) ?_
            exact ihi (i + 1) _ _ _ ls (by omega) (by rw [q_ti_t (decide_eq_true (q_is_ne.mp c_82))]; exact ehc) hJ (lv_sub hl [0, 1, 2, 3, 4] rfl)
      exact LPi w 0 _ _ _ ls (by omega) ehc hJ (lv_sub hl [0, 1, 2, 3, 4] rfl)
  refine lv_iload_n S.1 S.2.1 d_Pc_turnedBy_6 rfl (lv_at hl 1 rfl) ?_
  refine lv_iconst (v := 2) S.1 S.2.1 d_Pc_turnedBy_7 (by decide) ?_
  refine lv_icmp_ne (tgt := 33) S.1 S.2.1 d_Pc_turnedBy_8 (by decide) (fun c_8 => ?_) (fun c_8 => ?_)
  · refine hp_new S zz hJ (ci := 4) rfl n_Pc_16 e0_Pc_ok (by decide) (by decide) d_Pc_turnedBy_33 (fun q H hq_q hs_q hJ => ?_)
    have ne_t_q : t ≠ q := hp_neN h_t hq_q
    obtain ⟨h1, eh1⟩ : ∃ z, z = hp_up h q (.inr (4, [.int 0, .int 0, .int 0, .int 0, .null])) := ⟨_, rfl⟩
    have hJ := hJ.cast eh1
    have h_t : h1 t = some (.inr (4, [.int (nI w), .int (nI d), .int (nI tl), .int (nI (pw w)), .ref b])) := by rw [eh1]; exact hp_up_k (hp_neN h_t hq_q) h_t
    have h_b : h1 b = some (k_lo (cA 1) (pw w * d) f) := by rw [eh1]; exact hp_up_k (hp_neN h_b hq_q) h_b
    have h_q : h1 q = some (.inr (4, [.int 0, .int 0, .int 0, .int 0, .null])) := by rw [eh1]; exact hp_up_s _ _ _
    refine lv_dup S.1 S.2.1 d_Pc_turnedBy_36 rfl ?_
    refine lv_aload_n S.1 S.2.1 d_Pc_turnedBy_37 rfl (lv_at hl 0 rfl) ?_
    refine hp_get S zz hJ h_t f_Pc_21 rfl d_Pc_turnedBy_38 ?_
    refine lv_aload_n S.1 S.2.1 d_Pc_turnedBy_41 rfl (lv_at hl 0 rfl) ?_
    refine hp_get S zz hJ h_t f_Pc_15 rfl d_Pc_turnedBy_42 ?_
    refine lv_aload_n S.1 S.2.1 d_Pc_turnedBy_45 rfl (lv_at hl 0 rfl) ?_
    refine hp_get S zz hJ h_t f_Pc_24 rfl d_Pc_turnedBy_46 ?_
    refine hp_doneWv hJ (hp_runI S zz0 (c_Pc_init l dC dI cA A _ q d w tl hd hw htl hs2 h_q) l_Pc_58 (hJ.pre _) (by decide) rfl hl.1 rfl (nl rfl) d_Pc_turnedBy_49 (by decide)) (fun h9 H locs hx hJ => ?_)
    obtain ⟨b2, hq_b2, eh9⟩ := hx
    have hne : q ≠ b2 := hp_neN h_q hq_b2
    rw [eh1, hp_up_n (Ne.symm hne)] at hq_b2
    rw [eh1, hp_tbt _ _ _ _ hne] at eh9
    have ew3 : w2 = d := by rw [ew2]; exact if_neg c_8
    have ed3 : d2 = w := by rw [ed2]; exact if_neg c_8
    rw [← ew3, ← ed3] at eh9
    subst eh9
    refine lv_astore_n (lv' := [(2, .ref q), (0, .ref t), (1, .int tn)]) S.1 S.2.1 d_Pc_turnedBy_52 rfl hl (by decide) rfl (fun ls hl => ?_)
    refine lv_iconst (v := 0) S.1 S.2.1 d_Pc_turnedBy_53 (by decide) ?_
    refine lv_istore_n (lv' := [(3, .int 0), (2, .ref q), (0, .ref t), (1, .int tn)]) S.1 S.2.1 d_Pc_turnedBy_54 rfl hl (by decide) rfl (fun ls hl => ?_)
    refine W.widen (k := 2) (n := 261) (by decide) (by decide) ?_
    exact LP d 0 q b2 _ _ _ ls (by omega) hq_q hq_b2 hne rfl hJ (lv_sub hl [0, 1, 2, 3] rfl)
  · refine hp_new S zz hJ (ci := 4) rfl n_Pc_16 e0_Pc_ok (by decide) (by decide) d_Pc_turnedBy_11 (fun q H hq_q hs_q hJ => ?_)
    have ne_t_q : t ≠ q := hp_neN h_t hq_q
    obtain ⟨h2, eh2⟩ : ∃ z, z = hp_up h q (.inr (4, [.int 0, .int 0, .int 0, .int 0, .null])) := ⟨_, rfl⟩
    have hJ := hJ.cast eh2
    have h_t : h2 t = some (.inr (4, [.int (nI w), .int (nI d), .int (nI tl), .int (nI (pw w)), .ref b])) := by rw [eh2]; exact hp_up_k (hp_neN h_t hq_q) h_t
    have h_b : h2 b = some (k_lo (cA 1) (pw w * d) f) := by rw [eh2]; exact hp_up_k (hp_neN h_b hq_q) h_b
    have h_q : h2 q = some (.inr (4, [.int 0, .int 0, .int 0, .int 0, .null])) := by rw [eh2]; exact hp_up_s _ _ _
    refine lv_dup S.1 S.2.1 d_Pc_turnedBy_14 rfl ?_
    refine lv_aload_n S.1 S.2.1 d_Pc_turnedBy_15 rfl (lv_at hl 0 rfl) ?_
    refine hp_get S zz hJ h_t f_Pc_15 rfl d_Pc_turnedBy_16 ?_
    refine lv_aload_n S.1 S.2.1 d_Pc_turnedBy_19 rfl (lv_at hl 0 rfl) ?_
    refine hp_get S zz hJ h_t f_Pc_21 rfl d_Pc_turnedBy_20 ?_
    refine lv_aload_n S.1 S.2.1 d_Pc_turnedBy_23 rfl (lv_at hl 0 rfl) ?_
    refine hp_get S zz hJ h_t f_Pc_24 rfl d_Pc_turnedBy_24 ?_
    refine hp_doneWv hJ (hp_runI S zz0 (c_Pc_init l dC dI cA A _ q w d tl hw hd htl hs h_q) l_Pc_58 (hJ.pre _) (by decide) rfl hl.1 rfl (nl rfl) d_Pc_turnedBy_27 (by decide)) (fun h9 H locs hx hJ => ?_)
    obtain ⟨b2, hq_b2, eh9⟩ := hx
    have hne : q ≠ b2 := hp_neN h_q hq_b2
    rw [eh2, hp_up_n (Ne.symm hne)] at hq_b2
    rw [eh2, hp_tbt _ _ _ _ hne] at eh9
    have ew3 : w2 = w := by rw [ew2]; exact if_pos c_8
    have ed3 : d2 = d := by rw [ed2]; exact if_pos c_8
    rw [← ew3, ← ed3] at eh9
    subst eh9
    refine lv_goto (tgt := 52) S.1 S.2.1 d_Pc_turnedBy_30 (by decide) ?_
    refine lv_astore_n (lv' := [(2, .ref q), (0, .ref t), (1, .int tn)]) S.1 S.2.1 d_Pc_turnedBy_52 rfl hl (by decide) rfl (fun ls hl => ?_)
    refine lv_iconst (v := 0) S.1 S.2.1 d_Pc_turnedBy_53 (by decide) ?_
    refine lv_istore_n (lv' := [(3, .int 0), (2, .ref q), (0, .ref t), (1, .int tn)]) S.1 S.2.1 d_Pc_turnedBy_54 rfl hl (by decide) rfl (fun ls hl => ?_)
    refine W.widen (k := 2) (n := 261) (by decide) (by decide) ?_
    exact LP d 0 q b2 _ _ _ ls (by omega) hq_q hq_b2 hne rfl hJ (lv_sub hl [0, 1, 2, 3] rfl)

set_option maxHeartbeats 4000000 in
set_option maxRecDepth 100000 in
theorem c0_Pc_turnedBy (l : Launch) (dC : Nat → ClassId) (dI : Nat → Nat → Nat) (cA : Nat → ClassId) (A : Nat → Prop) (h : hp_T) (t : Nat)  : Met l y_Pc_turnedBy (.code y_Pc_turnedBy prog_5_method_5_code 5 (some (.object "BandPainter$Picture")) :: BIG) ({ frames := 4, cells := 0, slots := 0, locals := 91 }) (va_Pc [.ref t, .int 0] (hp_I (gg dC dI cA) A h)) (hp_QR (some (.ref t))) 0 0 (fun _ => False) := by
  refine hp_enter (by decide) (Nat.le_of_ble_eq_true rfl) ?_
  intro p e s m below meth c ls S hr hlk hin hI hl
  have hl : lv_has ls 5 [(0, .ref t), (1, .int 0)] := hl
  have hJ := hI.J
  refine lv_iload_n S.1 S.2.1 d_Pc_turnedBy_0 rfl (lv_at hl 1 rfl) ?_
  refine lv_if_ne (tgt := 6) S.1 S.2.1 d_Pc_turnedBy_1 (by decide) (fun q => absurd rfl q) (fun _ => ?_)
  refine lv_aload_n S.1 S.2.1 d_Pc_turnedBy_4 rfl (lv_at hl 0 rfl) ?_
  exact hp_retRa S hr hlk d_Pc_turnedBy_5 (Or.inr ⟨_, rfl⟩)
end
section
/-! Pictures enlarged; shapes; marks made. -/
def q_eP (w d sc : Nat) (f : Nat → Int64) (i j : Nat) : Bool := decide (q_pb (nI d) (nI (pw w)) f (nI (i / sc)) (nI j))
def q_eS (w2 d : Nat) (F : Nat → Int64) (i j : Nat) : Nat → Int64 := q_bl (nI d) (nI (pw w2)) F (nI i) (nI j)
def q_eF (w d sc : Nat) (f : Nat → Int64) : Nat → Int64 := q_to (q_eP w d sc f) (q_eS (w * sc) d) (w * sc) d
abbrev k_Sh (up ta : Nat) (st : Int32) : va_E := .inr (6, [.ref up, .ref ta, .int st])
abbrev k_Mk (pic : Option Nat) (left top : Int32) (part ink : Nat) (so io : Int32) (below bol : Option Nat) : va_E := .inr (3, [va_rf pic, .int left, .int top, .ref part, .ref ink, .int so, .int io, va_rf below, va_rf bol])
theorem sc1 {i sc : Nat} (h : nI sc ≤ 1) (h1 : 1 ≤ sc ∧ sc ≤ 8) : nI i = nI (i / sc) := by
  have h := z_le.mp h
  rw [z_nI (by omega), z_1] at h
  have : sc = 1 := by omega
  rw [this, Nat.div_one]
theorem z01 {x : Int32} (h : x = 0 ∨ x = 1) : narrow .boolean (.int x) = .int x ∧ fits .boolean (.int x) = true := by
  rcases h with h | h <;> subst h <;> exact ⟨rfl, rfl⟩

set_option maxHeartbeats 4000000 in
set_option maxRecDepth 100000 in
theorem c_Pc_enlarged (l : Launch) (dC : Nat → ClassId) (dI : Nat → Nat → Nat) (cA : Nat → ClassId) (A : Nat → Prop) (h : hp_T) (t b w d tl sc : Nat) (f : Nat → Int64) (hw : 1 ≤ w ∧ w ≤ 1024) (hd : 1 ≤ d ∧ d ≤ 1024) (hsc : 1 ≤ sc ∧ sc ≤ 8) (hws : w * sc ≤ 1024) (hs : pw (w * sc) * d ≤ 256) (h_t : h t = some (k_Pc (nI w) (nI d) (nI tl) (nI (pw w)) b)) (h_b : h b = some (k_lo (cA 1) (pw w * d) f)) : Met l y_Pc_enlarged (.code y_Pc_enlarged prog_5_method_6_code 5 (some (.object "BandPainter$Picture")) :: BIG) ({ frames := 3, cells := 2, slots := 261, locals := 68 }) (va_Pc [.ref t, .int (nI sc)] (hp_I (gg dC dI cA) A h)) (hp_QW (gg dC dI cA) A hp_mr (fun r h' => ∃ b2, h r = none ∧ h b2 = none ∧ r ≠ b2 ∧ h' = hp_up (hp_up h b2 (k_lo (cA 1) (pw (w * sc) * d) (q_eF w d sc f))) r (k_Pc (nI (w * sc)) (nI d) (nI sc) (nI (pw (w * sc))) b2))) 2 261 A := by
  refine hp_enter (by decide) (Nat.le_of_ble_eq_true rfl) ?_
  intro p e s m below meth c ls S hr hlk hin hI hl
  have hl : lv_has ls 5 [(0, .ref t), (1, .int (nI sc))] := hl
  have hJ := hI.J
  have h_t0 := h_t
  have h_b0 := h_b
  obtain ⟨w2, ew2⟩ : ∃ z, z = w * sc := ⟨_, rfl⟩
  have hws1 : 1 ≤ w2 := by rw [ew2]; exact Nat.mul_pos hw.1 hsc.1
  have hws2 : w2 ≤ 1024 := by rw [ew2]; exact hws
  refine hp_new S zz hJ (ci := 4) rfl n_Pc_16 e0_Pc_ok (by decide) (by decide) d_Pc_enlarged_0 (fun q H hq_q hs_q hJ => ?_)
  have ne_t_q : t ≠ q := hp_neN h_t hq_q
  obtain ⟨h1, eh1⟩ : ∃ z, z = hp_up h q (.inr (4, [.int 0, .int 0, .int 0, .int 0, .null])) := ⟨_, rfl⟩
  have hJ := hJ.cast eh1
  have h_t : h1 t = some (.inr (4, [.int (nI w), .int (nI d), .int (nI tl), .int (nI (pw w)), .ref b])) := by rw [eh1]; exact hp_up_k (hp_neN h_t hq_q) h_t
  have h_b : h1 b = some (k_lo (cA 1) (pw w * d) f) := by rw [eh1]; exact hp_up_k (hp_neN h_b hq_q) h_b
  have h_q : h1 q = some (.inr (4, [.int 0, .int 0, .int 0, .int 0, .null])) := by rw [eh1]; exact hp_up_s _ _ _
  refine lv_dup S.1 S.2.1 d_Pc_enlarged_3 rfl ?_
  refine lv_aload_n S.1 S.2.1 d_Pc_enlarged_4 rfl (lv_at hl 0 rfl) ?_
  refine hp_get S zz hJ h_t f_Pc_15 rfl d_Pc_enlarged_5 ?_
  refine lv_iload_n S.1 S.2.1 d_Pc_enlarged_8 rfl (lv_at hl 1 rfl) ?_
  refine lv_imul S.1 S.2.1 d_Pc_enlarged_9 ?_
  refine lv_topi (fun v9 ev9 => ?_)
  have ev9 : v9 = nI w2 := by rw [ev9, pk_mul, ew2]
  subst ev9
  refine lv_aload_n S.1 S.2.1 d_Pc_enlarged_10 rfl (lv_at hl 0 rfl) ?_
  refine hp_get S zz hJ h_t f_Pc_21 rfl d_Pc_enlarged_11 ?_
  refine lv_iload_n S.1 S.2.1 d_Pc_enlarged_14 rfl (lv_at hl 1 rfl) ?_
  refine hp_doneWv hJ (hp_runI S zz0 (c_Pc_init l dC dI cA A _ q w2 d sc ⟨hws1, hws2⟩ hd ⟨hsc.1, by omega⟩ (by rw [ew2]; exact hs) h_q) l_Pc_58 (hJ.pre _) (by decide) rfl hl.1 rfl (nl rfl) d_Pc_enlarged_15 (by decide)) (fun h9 H locs hx hJ => ?_)
  obtain ⟨b2, hq_b2, eh9⟩ := hx
  have hne : q ≠ b2 := hp_neN h_q hq_b2
  rw [eh1, hp_up_n (Ne.symm hne)] at hq_b2
  rw [eh1, hp_tbt _ _ _ _ hne] at eh9
  subst eh9
  refine lv_astore_n (lv' := [(2, .ref q), (0, .ref t), (1, .int (nI sc))]) S.1 S.2.1 d_Pc_enlarged_18 rfl hl (by decide) rfl (fun ls hl => ?_)
  refine lv_iconst (v := 0) S.1 S.2.1 d_Pc_enlarged_19 (by decide) ?_
  refine lv_istore_n (lv' := [(3, .int 0), (2, .ref q), (0, .ref t), (1, .int (nI sc))]) S.1 S.2.1 d_Pc_enlarged_20 rfl hl (by decide) rfl (fun ls hl => ?_)
  have LP : ∀ (n_ j : Nat) (q b2 : Nat) (hc : hp_T) (H : Heap) (locs : List Loc) (ls : Array Slot), j + n_ = d → h q = none → h b2 = none → q ≠ b2 → hc = hp_up (hp_up h b2 (k_lo (cA 1) (pw w2 * d) (q_to (q_eP w d sc f) (q_eS w2 d) w2 j))) q (k_Pc (nI w2) (nI d) (nI sc) (nI (pw w2)) b2) → hp_J (gg dC dI cA) A hc s H locs → lv_has ls 5 [(3, .int (nI j)), (2, .ref q), (0, .ref t), (1, .int (nI sc))] → W p l e ({ frames := 3, cells := 2, slots := 261, locals := 68 }) s m ([.ref t, .int (nI sc)] : List Value).toArray below meth c H locs 2 261 (MQ below (hp_QW (gg dC dI cA) A hp_mr (fun r h' => ∃ b2, h r = none ∧ h b2 = none ∧ r ≠ b2 ∧ h' = hp_up (hp_up h b2 (k_lo (cA 1) (pw (w * sc) * d) (q_eF w d sc f))) r (k_Pc (nI (w * sc)) (nI d) (nI sc) (nI (pw (w * sc))) b2))) ([.ref t, .int (nI sc)] : List Value).toArray s 2 261 A) (F0 m 21 ls []) := by
    intro n_
    induction n_ with
    | zero =>
      intro j q b2 hc H locs ls hu_ hq hb2 hne ehc hJ hl
      have h_q : hc q = some (k_Pc (nI w2) (nI d) (nI sc) (nI (pw w2)) b2) := by rw [ehc]; exact hp_up_s _ _ _
      have h_b2 : hc b2 = some (k_lo (cA 1) (pw w2 * d) (q_to (q_eP w d sc f) (q_eS w2 d) w2 j)) := by rw [ehc]; exact hp_up_k (Ne.symm hne) (hp_up_s _ _ _)
      have h_t : hc t = some (k_Pc (nI w) (nI d) (nI tl) (nI (pw w)) b) := by rw [ehc]; exact hp_up_k (hp_neN h_t0 hq) (hp_up_k (hp_neN h_t0 hb2) h_t0)
      have h_b : hc b = some (k_lo (cA 1) (pw w * d) f) := by rw [ehc]; exact hp_up_k (hp_neN h_b0 hq) (hp_up_k (hp_neN h_b0 hb2) h_b0)
      refine lv_iload_n S.1 S.2.1 d_Pc_enlarged_21 rfl (lv_at hl 0 rfl) ?_
      refine lv_aload_n S.1 S.2.1 d_Pc_enlarged_22 rfl (lv_at hl 2 rfl) ?_
      refine hp_get S zz hJ h_t f_Pc_21 rfl d_Pc_enlarged_23 ?_
      obtain ⟨e_n, -⟩ : j = d ∧ True := ⟨by omega, trivial⟩
      refine lv_icmp_ge (tgt := 82) S.1 S.2.1 d_Pc_enlarged_26 (by decide) (fun _ => ?_) (fun q => absurd (by rw [e_n]; exact Int32.le_refl _) q)
      refine lv_aload_n S.1 S.2.1 d_Pc_enlarged_82 rfl (lv_at hl 1 rfl) ?_
      exact hp_retWr S hJ hr hlk d_Pc_enlarged_83 (by decide) ⟨b2, hq, hb2, hne, by rw [ehc, e_n, ← ew2]; unfold q_eF; rw [← ew2]⟩
    | succ n_ ih =>
      intro j q b2 hc H locs ls hu_ hq hb2 hne ehc hJ hl
      have h_q : hc q = some (k_Pc (nI w2) (nI d) (nI sc) (nI (pw w2)) b2) := by rw [ehc]; exact hp_up_s _ _ _
      have h_b2 : hc b2 = some (k_lo (cA 1) (pw w2 * d) (q_to (q_eP w d sc f) (q_eS w2 d) w2 j)) := by rw [ehc]; exact hp_up_k (Ne.symm hne) (hp_up_s _ _ _)
      have h_t : hc t = some (k_Pc (nI w) (nI d) (nI tl) (nI (pw w)) b) := by rw [ehc]; exact hp_up_k (hp_neN h_t0 hq) (hp_up_k (hp_neN h_t0 hb2) h_t0)
      have h_b : hc b = some (k_lo (cA 1) (pw w * d) f) := by rw [ehc]; exact hp_up_k (hp_neN h_b0 hq) (hp_up_k (hp_neN h_b0 hb2) h_b0)
      refine lv_iload_n S.1 S.2.1 d_Pc_enlarged_21 rfl (lv_at hl 0 rfl) ?_
      refine lv_aload_n S.1 S.2.1 d_Pc_enlarged_22 rfl (lv_at hl 2 rfl) ?_
      refine hp_get S zz hJ h_t f_Pc_21 rfl d_Pc_enlarged_23 ?_
      refine lv_icmp_ge (tgt := 82) S.1 S.2.1 d_Pc_enlarged_26 (by decide) (fun q => absurd q (nI_ge (a := j) (b := d) (by omega) (by omega))) (fun _ => ?_)
      refine lv_iconst (v := 0) S.1 S.2.1 d_Pc_enlarged_29 (by decide) ?_
      refine lv_istore (lv' := [(4, .int 0), (3, .int (nI j)), (2, .ref q), (0, .ref t), (1, .int (nI sc))]) S.1 S.2.1 d_Pc_enlarged_30 hl (by decide) rfl (fun ls hl => ?_)
      have LPi : ∀ (n_i i : Nat) (hc : hp_T) (H : Heap) (locs : List Loc) (ls : Array Slot), i + n_i = w2 → hc = hp_up (hp_up h b2 (k_lo (cA 1) (pw w2 * d) (q_ti (q_eP w d sc f) (q_eS w2 d) (q_to (q_eP w d sc f) (q_eS w2 d) w2 j) j i))) q (k_Pc (nI w2) (nI d) (nI sc) (nI (pw w2)) b2) → hp_J (gg dC dI cA) A hc s H locs → lv_has ls 5 [(4, .int (nI i)), (3, .int (nI j)), (2, .ref q), (0, .ref t), (1, .int (nI sc))] → W p l e ({ frames := 3, cells := 2, slots := 261, locals := 68 }) s m ([.ref t, .int (nI sc)] : List Value).toArray below meth c H locs 2 261 (MQ below (hp_QW (gg dC dI cA) A hp_mr (fun r h' => ∃ b2, h r = none ∧ h b2 = none ∧ r ≠ b2 ∧ h' = hp_up (hp_up h b2 (k_lo (cA 1) (pw (w * sc) * d) (q_eF w d sc f))) r (k_Pc (nI (w * sc)) (nI d) (nI sc) (nI (pw (w * sc))) b2))) ([.ref t, .int (nI sc)] : List Value).toArray s 2 261 A) (F0 m 32 ls []) := by
        intro n_i
        induction n_i with
        | zero =>
          intro i hc H locs ls hu_i ehc hJ hl
          have h_q : hc q = some (k_Pc (nI w2) (nI d) (nI sc) (nI (pw w2)) b2) := by rw [ehc]; exact hp_up_s _ _ _
          have h_b2 : hc b2 = some (k_lo (cA 1) (pw w2 * d) (q_ti (q_eP w d sc f) (q_eS w2 d) (q_to (q_eP w d sc f) (q_eS w2 d) w2 j) j i)) := by rw [ehc]; exact hp_up_k (Ne.symm hne) (hp_up_s _ _ _)
          have h_t : hc t = some (k_Pc (nI w) (nI d) (nI tl) (nI (pw w)) b) := by rw [ehc]; exact hp_up_k (hp_neN h_t0 hq) (hp_up_k (hp_neN h_t0 hb2) h_t0)
          have h_b : hc b = some (k_lo (cA 1) (pw w * d) f) := by rw [ehc]; exact hp_up_k (hp_neN h_b0 hq) (hp_up_k (hp_neN h_b0 hb2) h_b0)
          refine lv_iload S.1 S.2.1 d_Pc_enlarged_32 (lv_at hl 0 rfl) ?_
          refine lv_aload_n S.1 S.2.1 d_Pc_enlarged_34 rfl (lv_at hl 2 rfl) ?_
          refine hp_get S zz hJ h_q f_Pc_15 rfl d_Pc_enlarged_35 ?_
          obtain ⟨e_ni, -⟩ : i = w2 ∧ True := ⟨by omega, trivial⟩
          refine lv_icmp_ge (tgt := 76) S.1 S.2.1 d_Pc_enlarged_38 (by decide) (fun _ => ?_) (fun q => absurd (by rw [e_ni]; exact Int32.le_refl _) q)
          refine lv_iinc (v := nI (j + 1)) (lv' := [(3, .int (nI (j + 1))), (4, .int (nI i)), (2, .ref q), (0, .ref t), (1, .int (nI sc))]) S.1 S.2.1 d_Pc_enlarged_76 hl (k := 1) rfl (nI_1 _) (by decide) rfl (fun ls hl => ?_)
          refine lv_goto (tgt := 21) S.1 S.2.1 d_Pc_enlarged_79 (by decide) ?_
          exact ih (j + 1) q b2 _ _ _ ls (by omega) hq hb2 hne (by rw [ehc, e_ni]; rfl) hJ (lv_sub hl [0, 2, 3, 4] rfl)
        | succ n_i ihi =>
          intro i hc H locs ls hu_i ehc hJ hl
          have h_q : hc q = some (k_Pc (nI w2) (nI d) (nI sc) (nI (pw w2)) b2) := by rw [ehc]; exact hp_up_s _ _ _
          have h_b2 : hc b2 = some (k_lo (cA 1) (pw w2 * d) (q_ti (q_eP w d sc f) (q_eS w2 d) (q_to (q_eP w d sc f) (q_eS w2 d) w2 j) j i)) := by rw [ehc]; exact hp_up_k (Ne.symm hne) (hp_up_s _ _ _)
          have h_t : hc t = some (k_Pc (nI w) (nI d) (nI tl) (nI (pw w)) b) := by rw [ehc]; exact hp_up_k (hp_neN h_t0 hq) (hp_up_k (hp_neN h_t0 hb2) h_t0)
          have h_b : hc b = some (k_lo (cA 1) (pw w * d) f) := by rw [ehc]; exact hp_up_k (hp_neN h_b0 hq) (hp_up_k (hp_neN h_b0 hb2) h_b0)
          refine lv_iload S.1 S.2.1 d_Pc_enlarged_32 (lv_at hl 0 rfl) ?_
          refine lv_aload_n S.1 S.2.1 d_Pc_enlarged_34 rfl (lv_at hl 2 rfl) ?_
          refine hp_get S zz hJ h_q f_Pc_15 rfl d_Pc_enlarged_35 ?_
          refine lv_icmp_ge (tgt := 76) S.1 S.2.1 d_Pc_enlarged_38 (by decide) (fun q => absurd q (nI_ge (a := i) (b := w2) (by omega) (by omega))) (fun _ => ?_)
          refine lv_aload_n S.1 S.2.1 d_Pc_enlarged_41 rfl (lv_at hl 3 rfl) ?_
          refine hp_cut (fun v => v = nI (i / sc)) 56 [.ref t] (fun J => ?_) (fun v1 e_v1 => ?_)
          · refine lv_iload_n S.1 S.2.1 d_Pc_enlarged_42 rfl (lv_at hl 4 rfl) ?_
            refine lv_iconst (v := 1) S.1 S.2.1 d_Pc_enlarged_43 (by decide) ?_
            refine lv_icmp_le (tgt := 54) S.1 S.2.1 d_Pc_enlarged_44 (by decide) (fun c_44 => ?_) (fun c_44 => ?_)
            · refine lv_iload S.1 S.2.1 d_Pc_enlarged_54 (lv_at hl 0 rfl) ?_
              exact J _ (sc1 c_44 hsc)
            · refine lv_iload S.1 S.2.1 d_Pc_enlarged_47 (lv_at hl 0 rfl) ?_
              refine lv_iload_n S.1 S.2.1 d_Pc_enlarged_49 rfl (lv_at hl 4 rfl) ?_
              refine lv_idiv S.1 S.2.1 d_Pc_enlarged_50 (nI_ne0 (by omega) (by omega)) ?_
              refine lv_goto (tgt := 56) S.1 S.2.1 d_Pc_enlarged_51 (by decide) ?_
              exact J _ (pk_div (by omega) (by omega) (by omega))
          · subst e_v1
            refine lv_iload_n S.1 S.2.1 d_Pc_enlarged_56 rfl (lv_at hl 1 rfl) ?_
            refine hp_doneR (hp_runV S zz0 (c_Pc_isBlack l dC dI cA A _ t b _ _ _ _ _ _ _ _ h_t h_b (ix_ok (pw_le hw.2) hd.2)) l_Pc_61 (hJ.preV _ h_t rfl) (by decide) rfl hl.1 rfl (nl rfl) d_Pc_enlarged_57 (by decide)) ?_
            refine lv_if_eq (tgt := 70) S.1 S.2.1 d_Pc_enlarged_60 (by decide) (fun c_60 => ?_) (fun c_60 => ?_)
            · refine lv_iinc (v := nI (i + 1)) (lv' := [(4, .int (nI (i + 1))), (3, .int (nI j)), (2, .ref q), (0, .ref t), (1, .int (nI sc))]) S.1 S.2.1 d_Pc_enlarged_70 hl (k := 0) rfl (nI_1 _) (by decide) rfl (fun ls hl => ?_)
              refine lv_goto (tgt := 32) S.1 S.2.1 d_Pc_enlarged_73 (by decide) ?_
              exact ihi (i + 1) _ _ _ ls (by omega) (by rw [q_ti_f (fun z => q_is_0.mp c_60 (of_decide_eq_true z))]; exact ehc) hJ (lv_sub hl [0, 1, 2, 3, 4] rfl)
            · refine lv_aload_n S.1 S.2.1 d_Pc_enlarged_63 rfl (lv_at hl 2 rfl) ?_
              refine lv_iload S.1 S.2.1 d_Pc_enlarged_64 (lv_at hl 0 rfl) ?_
              refine lv_iload_n S.1 S.2.1 d_Pc_enlarged_66 rfl (lv_at hl 1 rfl) ?_
              refine hp_doneWv hJ (hp_runV S zz0 (c_Pc_blacken l dC dI cA A _ q b2 _ _ _ _ _ _ (nI i) (nI j) h_q h_b2 (ix_ok (pw_le hws2) hd.2)) l_Pc_68 (hJ.preV _ h_q rfl) (by decide) rfl hl.1 rfl (nl rfl) d_Pc_enlarged_67 (by decide)) (fun h9 H locs eh9 hJ => ?_)
              rw [ehc, hp_btb _ _ _ _ hne] at eh9
              generalize h9 = hc at eh9 hJ
              have ehc := eh9
              refine lv_iinc (v := nI (i + 1)) (lv' := [(4, .int (nI (i + 1))), (3, .int (nI j)), (2, .ref q), (0, .ref t), (1, .int (nI sc))]) S.1 S.2.1 d_Pc_enlarged_70 hl (k := 0) rfl (nI_1 _) (by decide) rfl (fun ls hl => ?_)
              refine lv_goto (tgt := 32) S.1 S.2.1 d_Pc_enlarged_73 (by decide) ?_
              exact ihi (i + 1) _ _ _ ls (by omega) (by rw [q_ti_t (decide_eq_true (q_is_ne.mp c_60))]; exact ehc) hJ (lv_sub hl [0, 1, 2, 3, 4] rfl)
      exact LPi w2 0 _ _ _ ls (by omega) ehc hJ (lv_sub hl [0, 1, 2, 3, 4] rfl)
  refine W.widen (k := 2) (n := 261) (by decide) (by decide) ?_
  exact LP d 0 q b2 _ _ _ ls (by omega) hq_q hq_b2 hne rfl hJ (lv_sub hl [0, 1, 2, 3] rfl)

theorem hp_up_none {h : hp_T} {b a : Nat} {e : va_E} (hn : hp_up h b e a = none) : h a = none := by
  by_cases q : a = b
  · subst q
    rw [hp_up_s] at hn
    cases hn
  · rw [hp_up_n q] at hn
    exact hn
set_option maxHeartbeats 4000000 in
set_option maxRecDepth 100000 in
theorem c_Sh_init (l : Launch) (dC : Nat → ClassId) (dI : Nat → Nat → Nat) (cA : Nat → ClassId) (A : Nat → Prop) (h : hp_T) (t w d : Nat) (hw : 1 ≤ w ∧ w ≤ 1024) (hd : 1 ≤ d ∧ d ≤ 1024) (hs : pw w * d ≤ 256) (h_t : h t = some (.inr (6, e0_Sh))) : Met l y_Sh_init (.code y_Sh_init prog_7_method_1_code 3 none :: BIG) ({ frames := 2, cells := 3, slots := 265, locals := 44 }) (va_Pc [.ref t, .int (nI w), .int (nI d)] (hp_I (gg dC dI cA) A h)) (hp_QW (gg dC dI cA) A hp_mv (fun _ h' => ∃ p b a, h p = none ∧ h b = none ∧ h a = none ∧ p ≠ b ∧ p ≠ a ∧ b ≠ a ∧ h' = hp_up (hp_up (hp_up (hp_up h b (k_lo (cA 1) (pw w * d) (fun _ => 0))) p (k_Pc (nI w) (nI d) (nI 1) (nI (pw w)) b)) a (k_rf (cA 4) 4 (fun _ => none))) t (k_Sh p a 0))) 3 265 A := by
  refine hp_enter (by decide) (Nat.le_of_ble_eq_true rfl) ?_
  intro p e s m below meth c ls S hr hlk hin hI hl
  have hl : lv_has ls 3 [(0, .ref t), (1, .int (nI w)), (2, .int (nI d))] := hl
  have hJ := hI.J
  have h_t0 := h_t
  refine lv_aload_n S.1 S.2.1 d_Sh_init_0 rfl (lv_at hl 0 rfl) ?_
  refine hp_obj S l_Sh_3 hl.1 d_Sh_init_1 ⟨nl rfl, nl rfl⟩ ?_
  refine lv_aload_n S.1 S.2.1 d_Sh_init_4 rfl (lv_at hl 0 rfl) ?_
  refine hp_new S zz hJ (ci := 4) rfl n_Sh_9 e0_Pc_ok (by decide) (by decide) d_Sh_init_5 (fun q H hq_q hs_q hJ => ?_)
  obtain ⟨h1, eh1⟩ : ∃ z, z = hp_up h q (.inr (4, [.int 0, .int 0, .int 0, .int 0, .null])) := ⟨_, rfl⟩
  have hJ := hJ.cast eh1
  have h_t : h1 t = some (.inr (6, [.null, .null, .int 0])) := by rw [eh1]; exact hp_up_k (hp_neN h_t hq_q) h_t
  have h_q : h1 q = some (.inr (4, [.int 0, .int 0, .int 0, .int 0, .null])) := by rw [eh1]; exact hp_up_s _ _ _
  refine lv_dup S.1 S.2.1 d_Sh_init_8 rfl ?_
  refine lv_iload_n S.1 S.2.1 d_Sh_init_9 rfl (lv_at hl 1 rfl) ?_
  refine lv_iload_n S.1 S.2.1 d_Sh_init_10 rfl (lv_at hl 2 rfl) ?_
  refine lv_iconst (v := 1) S.1 S.2.1 d_Sh_init_11 (by decide) ?_
  refine hp_doneWv hJ (hp_runI S zz0 (c_Pc_init l dC dI cA A _ q w d 1 hw hd (by decide) hs h_q) l_Sh_11 (hJ.pre _) (by decide) rfl hl.1 rfl (nl rfl) d_Sh_init_12 (by decide)) (fun h9 H locs hx hJ => ?_)
  obtain ⟨b, hq_b, eh9⟩ := hx
  have ne_q_b : q ≠ b := hp_neN h_q hq_b
  have ne_t_b : t ≠ b := hp_neN h_t hq_b
  have ne_t_q : t ≠ q := hp_neN (by exact h_t0) hq_q
  rw [eh1, hp_up_n (Ne.symm ne_q_b)] at hq_b
  rw [eh1, hp_tbt _ _ _ _ ne_q_b] at eh9
  have h_t : h9 t = some (.inr (6, [.null, .null, .int 0])) := by rw [eh9]; exact hp_up_k ne_t_q (hp_up_k ne_t_b h_t0)
  have h_q : h9 q = some (k_Pc (nI w) (nI d) (nI 1) (nI (pw w)) b) := by rw [eh9]; exact hp_up_s _ _ _
  refine hp_putF S zz hJ hin h_t fp_Sh_14 rfl rfl rfl (nl rfl) d_Sh_init_15 (fun H locs hJ => ?_)
  obtain ⟨h2, eh2⟩ : ∃ z, z = hp_up h9 t (.inr (6, [.ref q, .null, .int 0])) := ⟨_, rfl⟩
  have hJ := hJ.cast eh2
  have h0_t := h_t
  have h_q : h2 q = some (.inr (4, [.int (nI w), .int (nI d), .int (nI 1), .int (nI (pw w)), .ref b])) := by rw [eh2]; exact hp_up_k (hp_ne h_q h0_t (show ((0, 4) : Nat × Nat) ≠ (0, 6) by decide)) h_q
  have h_t : h2 t = some (.inr (6, [.ref q, .null, .int 0])) := by rw [eh2]; exact hp_up_s _ _ _
  refine lv_aload_n S.1 S.2.1 d_Sh_init_18 rfl (lv_at hl 0 rfl) ?_
  refine lv_iconst (v := 4) S.1 S.2.1 d_Sh_init_19 (by decide) ?_
  refine hp_newq S hJ 4 t_547 (List.mem_of_getElem? (i := 1) rfl) rfl (by decide) rfl (by decide) (by decide) (by decide) d_Sh_init_20 (fun a H hq_a hJ => ?_)
  have ne_t_a : t ≠ a := hp_neN h_t hq_a
  have ne_q_a : q ≠ a := hp_neN h_q hq_a
  obtain ⟨h3, eh3⟩ : ∃ z, z = hp_up h2 a (k_rf (cA 4) 4 (fun _ => none)) := ⟨_, rfl⟩
  have hJ := hJ.cast eh3
  have h_t : h3 t = some (.inr (6, [.ref q, .null, .int 0])) := by rw [eh3]; exact hp_up_k (hp_neN h_t hq_a) h_t
  have h_q : h3 q = some (.inr (4, [.int (nI w), .int (nI d), .int (nI 1), .int (nI (pw w)), .ref b])) := by rw [eh3]; exact hp_up_k (hp_neN h_q hq_a) h_q
  have h_a : h3 a = some (k_rf (cA 4) 4 (fun _ => none)) := by rw [eh3]; exact hp_up_s _ _ _
  refine hp_putF S zz hJ hin h_t fp_Sh_20 rfl rfl rfl (nl rfl) d_Sh_init_23 (fun H locs hJ => ?_)
  obtain ⟨h4, eh4⟩ : ∃ z, z = hp_up h3 t (.inr (6, [.ref q, .ref a, .int 0])) := ⟨_, rfl⟩
  have hJ := hJ.cast eh4
  have h0_t := h_t
  have h_q : h4 q = some (.inr (4, [.int (nI w), .int (nI d), .int (nI 1), .int (nI (pw w)), .ref b])) := by rw [eh4]; exact hp_up_k (hp_ne h_q h0_t (show ((0, 4) : Nat × Nat) ≠ (0, 6) by decide)) h_q
  have h_a : h4 a = some (k_rf (cA 4) 4 (fun _ => none)) := by rw [eh4]; exact hp_up_k (hp_ne h_a h0_t (show ((5, 0) : Nat × Nat) ≠ (0, 6) by decide)) h_a
  have h_t : h4 t = some (.inr (6, [.ref q, .ref a, .int 0])) := by rw [eh4]; exact hp_up_s _ _ _
  exact hp_retWv S hJ hr hlk d_Sh_init_26 (by decide) ⟨q, b, a, hq_q, hq_b, by rw [eh2, hp_up_n (Ne.symm ne_t_a), eh9, hp_up_n (Ne.symm ne_q_a)] at hq_a; exact hp_up_none hq_a, ne_q_b, ne_q_a, (fun z => by rw [eh2, hp_up_n (Ne.symm ne_t_a), eh9, hp_up_n (Ne.symm ne_q_a), ← z, hp_up_s] at hq_a; cases hq_a), by rw [eh4, eh3, eh2, eh9, hp_tbt _ _ _ _ ne_t_a]⟩
end
section
/-! Shapes drawn and turned; marks and piles made. -/
def q_sd (d wd w : Int32) (f : Nat → Int64) (j : Int32) (left right : Int64) : Nat → Int64 := q_sw d wd (q_sw d wd f j 0 (left &&& q_fd w)) j 1 (right &&& q_fd (w - 64))
def q_n4 (g : Nat → Option Nat) : Nat → Option Nat := va_up (va_up (va_up (va_up g 0 none) 1 none) 2 none) 3 none
abbrev k_Pl (lines : Int32) (bl st : Nat) (size : Int32) (nw : Option Nat) : va_E := .inr (5, [.int lines, .ref bl, .ref st, .int size, va_rf nw])
theorem z_nar1 : vp_nar .boolean 1 = 1 := rfl
theorem z_nar0 : vp_nar .boolean 0 = 0 := rfl

set_option maxHeartbeats 4000000 in
set_option maxRecDepth 100000 in
theorem c_Sh_redraw (l : Launch) (dC : Nat → ClassId) (dI : Nat → Nat → Nat) (cA : Nat → ClassId) (A : Nat → Prop) (h : hp_T) (t up ta b : Nat) (sd w d tl wd : Int32) (n : Nat) (f : Nat → Int64) (g : Nat → Option Nat) (j : Int32) (left right : Int64) (h_t : h t = some (k_Sh up ta sd)) (h_up : h up = some (k_Pc w d tl wd b)) (h_b : h b = some (k_lo (cA 1) n f)) (h_ta : h ta = some (k_rf (cA 4) 4 g)) (hix : ∀ j k : Int32, 0 ≤ j ∧ j < d ∧ 0 ≤ k ∧ k < wd → vp_in (j * wd + k) n) : Met l y_Sh_redraw (.code y_Sh_redraw prog_7_method_2_code 7 none :: BIG) ({ frames := 3, cells := 0, slots := 0, locals := 71 }) (va_Pc [.ref t, .int j, .long left, .long right] (hp_I (gg dC dI cA) A h)) (hp_QW (gg dC dI cA) A hp_mv (fun _ h' => h' = hp_up (hp_up h b (k_lo (cA 1) n (q_sd d wd w f j left right))) ta (k_rf (cA 4) 4 (q_n4 g)))) 0 0 A := by
  refine hp_enter (by decide) (Nat.le_of_ble_eq_true rfl) ?_
  intro p e s m below meth c ls S hr hlk hin hI hl
  have hl : lv_has ls 7 [(0, .ref t), (1, .int j), (2, .long left), (4, .long right)] := hl
  have hJ := hI.J
  refine lv_aload_n S.1 S.2.1 d_Sh_redraw_0 rfl (lv_at hl 0 rfl) ?_
  refine hp_get S zz hJ h_t f_Sh_14 rfl d_Sh_redraw_1 ?_
  refine lv_iload_n S.1 S.2.1 d_Sh_redraw_4 rfl (lv_at hl 1 rfl) ?_
  refine lv_lload_n S.1 S.2.1 d_Sh_redraw_5 rfl (lv_at hl 2 rfl) ?_
  refine lv_lload S.1 S.2.1 d_Sh_redraw_6 (lv_at hl 3 rfl) ?_
  refine hp_doneWv hJ (hp_runV S zz0 (c_Pc_setDots l dC dI cA A _ up b _ _ _ _ _ _ j left right h_up h_b hix) l_Sh_24 (hJ.preV _ h_up rfl) (by decide) rfl hl.1 rfl (nl rfl) d_Sh_redraw_8 (by decide)) (fun h1 H locs eh1 hJ => ?_)
  have h0_b := h_b
  have h_t : h1 t = some (.inr (6, [.ref up, .ref ta, .int sd])) := by rw [eh1]; exact hp_up_k (hp_ne h_t h0_b (show ((0, 6) : Nat × Nat) ≠ (2, 0) by decide)) h_t
  have h_up : h1 up = some (.inr (4, [.int w, .int d, .int tl, .int wd, .ref b])) := by rw [eh1]; exact hp_up_k (hp_ne h_up h0_b (show ((0, 4) : Nat × Nat) ≠ (2, 0) by decide)) h_up
  have h_ta : h1 ta = some (k_rf (cA 4) 4 g) := by rw [eh1]; exact hp_up_k (hp_ne h_ta h0_b (show ((5, 0) : Nat × Nat) ≠ (2, 0) by decide)) h_ta
  have h_b : h1 b = some (k_lo (cA 1) n (q_sd d wd w f j left right)) := by rw [eh1]; exact hp_up_s _ _ _
  refine lv_iconst (v := 0) S.1 S.2.1 d_Sh_redraw_11 (by decide) ?_
  refine lv_istore (lv' := [(6, .int 0), (0, .ref t), (1, .int j), (2, .long left), (4, .long right)]) S.1 S.2.1 d_Sh_redraw_12 hl (by decide) rfl (fun ls hl => ?_)
  refine lv_iload S.1 S.2.1 d_Sh_redraw_14 (lv_at hl 0 rfl) ?_
  refine lv_iconst (v := 4) S.1 S.2.1 d_Sh_redraw_16 (by decide) ?_
  refine lv_icmp_ge (tgt := 34) S.1 S.2.1 d_Sh_redraw_17 (by decide) (fun q => absurd q (by decide)) (fun _ => ?_)
  refine lv_aload_n S.1 S.2.1 d_Sh_redraw_20 rfl (lv_at hl 1 rfl) ?_
  refine hp_get S zz hJ h_t f_Sh_20 rfl d_Sh_redraw_21 ?_
  refine lv_iload S.1 S.2.1 d_Sh_redraw_24 (lv_at hl 0 rfl) ?_
  refine lv_null S.1 S.2.1 d_Sh_redraw_26 ?_
  refine hp_aastN S hJ 4 h_ta rfl (by unfold vp_in; decide) d_Sh_redraw_27 (fun H locs hJ => ?_)
  obtain ⟨h2, eh2⟩ : ∃ z, z = hp_up h1 ta (k_rf (cA 4) 4 (va_up g 0 none)) := ⟨_, rfl⟩
  have hJ := hJ.cast eh2
  have h0_ta := h_ta
  have h_t : h2 t = some (.inr (6, [.ref up, .ref ta, .int sd])) := by rw [eh2]; exact hp_up_k (hp_ne h_t h0_ta (show ((0, 6) : Nat × Nat) ≠ (5, 0) by decide)) h_t
  have h_up : h2 up = some (.inr (4, [.int w, .int d, .int tl, .int wd, .ref b])) := by rw [eh2]; exact hp_up_k (hp_ne h_up h0_ta (show ((0, 4) : Nat × Nat) ≠ (5, 0) by decide)) h_up
  have h_b : h2 b = some (k_lo (cA 1) n (q_sd d wd w f j left right)) := by rw [eh2]; exact hp_up_k (hp_ne h_b h0_ta (show ((2, 0) : Nat × Nat) ≠ (5, 0) by decide)) h_b
  have h_ta : h2 ta = some (k_rf (cA 4) 4 (va_up g 0 none)) := by rw [eh2]; exact hp_up_s _ _ _
  refine lv_iinc (v := 1) (lv' := [(6, .int 1), (0, .ref t), (1, .int j), (2, .long left), (4, .long right)]) S.1 S.2.1 d_Sh_redraw_28 hl (k := 0) rfl (by decide) (by decide) rfl (fun ls hl => ?_)
  refine lv_goto (tgt := 14) S.1 S.2.1 d_Sh_redraw_31 (by decide) ?_
  refine lv_iload S.1 S.2.1 d_Sh_redraw_14 (lv_at hl 0 rfl) ?_
  refine lv_iconst (v := 4) S.1 S.2.1 d_Sh_redraw_16 (by decide) ?_
  refine lv_icmp_ge (tgt := 34) S.1 S.2.1 d_Sh_redraw_17 (by decide) (fun q => absurd q (by decide)) (fun _ => ?_)
  refine lv_aload_n S.1 S.2.1 d_Sh_redraw_20 rfl (lv_at hl 1 rfl) ?_
  refine hp_get S zz hJ h_t f_Sh_20 rfl d_Sh_redraw_21 ?_
  refine lv_iload S.1 S.2.1 d_Sh_redraw_24 (lv_at hl 0 rfl) ?_
  refine lv_null S.1 S.2.1 d_Sh_redraw_26 ?_
  refine hp_aastN S hJ 4 h_ta rfl (by unfold vp_in; decide) d_Sh_redraw_27 (fun H locs hJ => ?_)
  obtain ⟨h3, eh3⟩ : ∃ z, z = hp_up h2 ta (k_rf (cA 4) 4 (va_up (va_up g 0 none) 1 none)) := ⟨_, rfl⟩
  have hJ := hJ.cast eh3
  have h0_ta := h_ta
  have h_t : h3 t = some (.inr (6, [.ref up, .ref ta, .int sd])) := by rw [eh3]; exact hp_up_k (hp_ne h_t h0_ta (show ((0, 6) : Nat × Nat) ≠ (5, 0) by decide)) h_t
  have h_up : h3 up = some (.inr (4, [.int w, .int d, .int tl, .int wd, .ref b])) := by rw [eh3]; exact hp_up_k (hp_ne h_up h0_ta (show ((0, 4) : Nat × Nat) ≠ (5, 0) by decide)) h_up
  have h_b : h3 b = some (k_lo (cA 1) n (q_sd d wd w f j left right)) := by rw [eh3]; exact hp_up_k (hp_ne h_b h0_ta (show ((2, 0) : Nat × Nat) ≠ (5, 0) by decide)) h_b
  have h_ta : h3 ta = some (k_rf (cA 4) 4 (va_up (va_up g 0 none) 1 none)) := by rw [eh3]; exact hp_up_s _ _ _
  refine lv_iinc (v := 2) (lv' := [(6, .int 2), (0, .ref t), (1, .int j), (2, .long left), (4, .long right)]) S.1 S.2.1 d_Sh_redraw_28 hl (k := 0) rfl (by decide) (by decide) rfl (fun ls hl => ?_)
  refine lv_goto (tgt := 14) S.1 S.2.1 d_Sh_redraw_31 (by decide) ?_
  refine lv_iload S.1 S.2.1 d_Sh_redraw_14 (lv_at hl 0 rfl) ?_
  refine lv_iconst (v := 4) S.1 S.2.1 d_Sh_redraw_16 (by decide) ?_
  refine lv_icmp_ge (tgt := 34) S.1 S.2.1 d_Sh_redraw_17 (by decide) (fun q => absurd q (by decide)) (fun _ => ?_)
  refine lv_aload_n S.1 S.2.1 d_Sh_redraw_20 rfl (lv_at hl 1 rfl) ?_
  refine hp_get S zz hJ h_t f_Sh_20 rfl d_Sh_redraw_21 ?_
  refine lv_iload S.1 S.2.1 d_Sh_redraw_24 (lv_at hl 0 rfl) ?_
  refine lv_null S.1 S.2.1 d_Sh_redraw_26 ?_
  refine hp_aastN S hJ 4 h_ta rfl (by unfold vp_in; decide) d_Sh_redraw_27 (fun H locs hJ => ?_)
  obtain ⟨h4, eh4⟩ : ∃ z, z = hp_up h3 ta (k_rf (cA 4) 4 (va_up (va_up (va_up g 0 none) 1 none) 2 none)) := ⟨_, rfl⟩
  have hJ := hJ.cast eh4
  have h0_ta := h_ta
  have h_t : h4 t = some (.inr (6, [.ref up, .ref ta, .int sd])) := by rw [eh4]; exact hp_up_k (hp_ne h_t h0_ta (show ((0, 6) : Nat × Nat) ≠ (5, 0) by decide)) h_t
  have h_up : h4 up = some (.inr (4, [.int w, .int d, .int tl, .int wd, .ref b])) := by rw [eh4]; exact hp_up_k (hp_ne h_up h0_ta (show ((0, 4) : Nat × Nat) ≠ (5, 0) by decide)) h_up
  have h_b : h4 b = some (k_lo (cA 1) n (q_sd d wd w f j left right)) := by rw [eh4]; exact hp_up_k (hp_ne h_b h0_ta (show ((2, 0) : Nat × Nat) ≠ (5, 0) by decide)) h_b
  have h_ta : h4 ta = some (k_rf (cA 4) 4 (va_up (va_up (va_up g 0 none) 1 none) 2 none)) := by rw [eh4]; exact hp_up_s _ _ _
  refine lv_iinc (v := 3) (lv' := [(6, .int 3), (0, .ref t), (1, .int j), (2, .long left), (4, .long right)]) S.1 S.2.1 d_Sh_redraw_28 hl (k := 0) rfl (by decide) (by decide) rfl (fun ls hl => ?_)
  refine lv_goto (tgt := 14) S.1 S.2.1 d_Sh_redraw_31 (by decide) ?_
  refine lv_iload S.1 S.2.1 d_Sh_redraw_14 (lv_at hl 0 rfl) ?_
  refine lv_iconst (v := 4) S.1 S.2.1 d_Sh_redraw_16 (by decide) ?_
  refine lv_icmp_ge (tgt := 34) S.1 S.2.1 d_Sh_redraw_17 (by decide) (fun q => absurd q (by decide)) (fun _ => ?_)
  refine lv_aload_n S.1 S.2.1 d_Sh_redraw_20 rfl (lv_at hl 1 rfl) ?_
  refine hp_get S zz hJ h_t f_Sh_20 rfl d_Sh_redraw_21 ?_
  refine lv_iload S.1 S.2.1 d_Sh_redraw_24 (lv_at hl 0 rfl) ?_
  refine lv_null S.1 S.2.1 d_Sh_redraw_26 ?_
  refine hp_aastN S hJ 4 h_ta rfl (by unfold vp_in; decide) d_Sh_redraw_27 (fun H locs hJ => ?_)
  obtain ⟨h5, eh5⟩ : ∃ z, z = hp_up h4 ta (k_rf (cA 4) 4 (va_up (va_up (va_up (va_up g 0 none) 1 none) 2 none) 3 none)) := ⟨_, rfl⟩
  have hJ := hJ.cast eh5
  have h0_ta := h_ta
  have h_t : h5 t = some (.inr (6, [.ref up, .ref ta, .int sd])) := by rw [eh5]; exact hp_up_k (hp_ne h_t h0_ta (show ((0, 6) : Nat × Nat) ≠ (5, 0) by decide)) h_t
  have h_up : h5 up = some (.inr (4, [.int w, .int d, .int tl, .int wd, .ref b])) := by rw [eh5]; exact hp_up_k (hp_ne h_up h0_ta (show ((0, 4) : Nat × Nat) ≠ (5, 0) by decide)) h_up
  have h_b : h5 b = some (k_lo (cA 1) n (q_sd d wd w f j left right)) := by rw [eh5]; exact hp_up_k (hp_ne h_b h0_ta (show ((2, 0) : Nat × Nat) ≠ (5, 0) by decide)) h_b
  have h_ta : h5 ta = some (k_rf (cA 4) 4 (va_up (va_up (va_up (va_up g 0 none) 1 none) 2 none) 3 none)) := by rw [eh5]; exact hp_up_s _ _ _
  refine lv_iinc (v := 4) (lv' := [(6, .int 4), (0, .ref t), (1, .int j), (2, .long left), (4, .long right)]) S.1 S.2.1 d_Sh_redraw_28 hl (k := 0) rfl (by decide) (by decide) rfl (fun ls hl => ?_)
  refine lv_goto (tgt := 14) S.1 S.2.1 d_Sh_redraw_31 (by decide) ?_
  refine lv_iload S.1 S.2.1 d_Sh_redraw_14 (lv_at hl 0 rfl) ?_
  refine lv_iconst (v := 4) S.1 S.2.1 d_Sh_redraw_16 (by decide) ?_
  refine lv_icmp_ge (tgt := 34) S.1 S.2.1 d_Sh_redraw_17 (by decide) (fun _ => ?_) (fun q => absurd (by decide) q)
  exact hp_retWv S hJ hr hlk d_Sh_redraw_34 (by decide) (by rw [eh5, eh4, eh3, eh2, eh1, hp_up_up, hp_up_up, hp_up_up]; rfl)

set_option maxHeartbeats 4000000 in
set_option maxRecDepth 100000 in
theorem cR_Sh_turnedBy (l : Launch) (dC : Nat → ClassId) (dI : Nat → Nat → Nat) (cA : Nat → ClassId) (A : Nat → Prop) (h : hp_T) (t up ta : Nat) (sd : Int32) (g : Nat → Option Nat) (k q : Nat) (hk : k < 4) (hg : g k = some q) (h_t : h t = some (k_Sh up ta sd)) (h_ta : h ta = some (k_rf (cA 4) 4 g)) : Met l y_Sh_turnedBy (.code y_Sh_turnedBy prog_7_method_3_code 2 (some (.object "BandPainter$Picture")) :: BIG) ({ frames := 5, cells := 0, slots := 0, locals := 115 }) (va_Pc [.ref t, .int (nI k)] (hp_I (gg dC dI cA) A h)) (hp_QR (some (.ref q))) 0 0 (fun _ => False) := by
  refine hp_enter (by decide) (Nat.le_of_ble_eq_true rfl) ?_
  intro p e s m below meth c ls S hr hlk hin hI hl
  have hl : lv_has ls 2 [(0, .ref t), (1, .int (nI k))] := hl
  have hJ := hI.J
  refine lv_iconst (v := 0) S.1 S.2.1 d_Sh_turnedBy_0 (by decide) ?_
  refine lv_iload_n S.1 S.2.1 d_Sh_turnedBy_1 rfl (lv_at hl 1 rfl) ?_
  refine lv_iconst (v := 3) S.1 S.2.1 d_Sh_turnedBy_2 (by decide) ?_
  refine hp_doneR (hp_runN S zz hJ.2.1 (c_BP_isWithin l _ _ _) l_Sh_28 (hp_pre0 _) (by decide) rfl hl.1 rfl (nl rfl) d_Sh_turnedBy_3 (by decide)) ?_
  refine lv_if_ne (tgt := 14) S.1 S.2.1 d_Sh_turnedBy_6 (by decide) (fun _ => ?_) (fun q => absurd q (q_is_ne.mpr ⟨nI_pos' (by omega), nI_le (a := k) (b := 3) (by omega) (by decide)⟩))
  refine lv_aload_n S.1 S.2.1 d_Sh_turnedBy_14 rfl (lv_at hl 0 rfl) ?_
  refine hp_get S zz hJ h_t f_Sh_20 rfl d_Sh_turnedBy_15 ?_
  refine lv_iload_n S.1 S.2.1 d_Sh_turnedBy_18 rfl (lv_at hl 1 rfl) ?_
  refine hp_aald S hJ 4 h_ta rfl (vp_in_nI hk (by decide)) d_Sh_turnedBy_19 ?_
  rw [nI_clamp (by omega), hg]
  refine lv_ifnonnull (tgt := 37) S.1 S.2.1 d_Sh_turnedBy_20 (by decide) ?_
  refine lv_aload_n S.1 S.2.1 d_Sh_turnedBy_37 rfl (lv_at hl 0 rfl) ?_
  refine hp_get S zz hJ h_t f_Sh_20 rfl d_Sh_turnedBy_38 ?_
  refine lv_iload_n S.1 S.2.1 d_Sh_turnedBy_41 rfl (lv_at hl 1 rfl) ?_
  refine hp_aald S hJ 4 h_ta rfl (vp_in_nI hk (by decide)) d_Sh_turnedBy_42 ?_
  rw [nI_clamp (by omega), hg]
  exact hp_retRa S hr hlk d_Sh_turnedBy_43 (Or.inr ⟨_, rfl⟩)

set_option maxHeartbeats 4000000 in
set_option maxRecDepth 100000 in
theorem c0_Sh_turnedBy (l : Launch) (dC : Nat → ClassId) (dI : Nat → Nat → Nat) (cA : Nat → ClassId) (A : Nat → Prop) (h : hp_T) (t up ta b : Nat) (sd w d tl wd : Int32) (g : Nat → Option Nat) (hg : g 0 = none) (h_t : h t = some (k_Sh up ta sd)) (h_ta : h ta = some (k_rf (cA 4) 4 g)) (h_up : h up = some (k_Pc w d tl wd b)) : Met l y_Sh_turnedBy (.code y_Sh_turnedBy prog_7_method_3_code 2 (some (.object "BandPainter$Picture")) :: BIG) ({ frames := 5, cells := 2, slots := 261, locals := 115 }) (va_Pc [.ref t, .int 0] (hp_I (gg dC dI cA) A h)) (hp_QW (gg dC dI cA) A hp_mr (fun r h' => r = up ∧ h' = hp_up h ta (k_rf (cA 4) 4 (va_up g 0 (some up))))) 2 261 A := by
  refine hp_enter (by decide) (Nat.le_of_ble_eq_true rfl) ?_
  intro p e s m below meth c ls S hr hlk hin hI hl
  have hl : lv_has ls 2 [(0, .ref t), (1, .int 0)] := hl
  have hJ := hI.J
  refine lv_iconst (v := 0) S.1 S.2.1 d_Sh_turnedBy_0 (by decide) ?_
  refine lv_iload_n S.1 S.2.1 d_Sh_turnedBy_1 rfl (lv_at hl 1 rfl) ?_
  refine lv_iconst (v := 3) S.1 S.2.1 d_Sh_turnedBy_2 (by decide) ?_
  refine hp_doneR (hp_runN S zz hJ.2.1 (c_BP_isWithin l _ _ _) l_Sh_28 (hp_pre0 _) (by decide) rfl hl.1 rfl (nl rfl) d_Sh_turnedBy_3 (by decide)) ?_
  refine lv_if_ne (tgt := 14) S.1 S.2.1 d_Sh_turnedBy_6 (by decide) (fun _ => ?_) (fun q => absurd q (q_is_ne.mpr ⟨by decide, by decide⟩))
  refine lv_aload_n S.1 S.2.1 d_Sh_turnedBy_14 rfl (lv_at hl 0 rfl) ?_
  refine hp_get S zz hJ h_t f_Sh_20 rfl d_Sh_turnedBy_15 ?_
  refine lv_iload_n S.1 S.2.1 d_Sh_turnedBy_18 rfl (lv_at hl 1 rfl) ?_
  refine hp_aald S hJ 4 h_ta rfl (by unfold vp_in; decide) d_Sh_turnedBy_19 ?_
  rw [show (0 : Int32).toNatClampNeg = 0 from rfl, hg]
  refine lv_ifnonnullN S.1 S.2.1 d_Sh_turnedBy_20 ?_
  refine lv_aload_n S.1 S.2.1 d_Sh_turnedBy_23 rfl (lv_at hl 0 rfl) ?_
  refine hp_get S zz hJ h_t f_Sh_20 rfl d_Sh_turnedBy_24 ?_
  refine lv_iload_n S.1 S.2.1 d_Sh_turnedBy_27 rfl (lv_at hl 1 rfl) ?_
  refine lv_aload_n S.1 S.2.1 d_Sh_turnedBy_28 rfl (lv_at hl 0 rfl) ?_
  refine hp_get S zz hJ h_t f_Sh_14 rfl d_Sh_turnedBy_29 ?_
  refine lv_iload_n S.1 S.2.1 d_Sh_turnedBy_32 rfl (lv_at hl 1 rfl) ?_
  refine hp_doneR (hp_runV S zz0 (c0_Pc_turnedBy l dC dI cA A _ up) l_Sh_32 (hJ.preV _ h_up rfl) (by decide) rfl hl.1 rfl (nl rfl) d_Sh_turnedBy_33 (by decide)) ?_
  refine hp_aast S hJ 4 4 h_ta rfl h_up rfl (by unfold vp_in; decide) d_Sh_turnedBy_36 (fun H locs hJ => ?_)
  obtain ⟨h1, eh1⟩ : ∃ z, z = hp_up h ta (k_rf (cA 4) 4 (va_up g 0 (some up))) := ⟨_, rfl⟩
  have hJ := hJ.cast eh1
  have h0_ta := h_ta
  have h_t : h1 t = some (.inr (6, [.ref up, .ref ta, .int sd])) := by rw [eh1]; exact hp_up_k (hp_ne h_t h0_ta (show ((0, 6) : Nat × Nat) ≠ (5, 0) by decide)) h_t
  have h_up : h1 up = some (.inr (4, [.int w, .int d, .int tl, .int wd, .ref b])) := by rw [eh1]; exact hp_up_k (hp_ne h_up h0_ta (show ((0, 4) : Nat × Nat) ≠ (5, 0) by decide)) h_up
  have h_ta : h1 ta = some (k_rf (cA 4) 4 (va_up g 0 (some up))) := by rw [eh1]; exact hp_up_s _ _ _
  refine lv_aload_n S.1 S.2.1 d_Sh_turnedBy_37 rfl (lv_at hl 0 rfl) ?_
  refine hp_get S zz hJ h_t f_Sh_20 rfl d_Sh_turnedBy_38 ?_
  refine lv_iload_n S.1 S.2.1 d_Sh_turnedBy_41 rfl (lv_at hl 1 rfl) ?_
  refine hp_aald S hJ 4 h_ta rfl (by unfold vp_in; decide) d_Sh_turnedBy_42 ?_
  rw [show va_up g 0 (some up) (0 : Int32).toNatClampNeg = some up from va_up_self _ _ _]
  exact hp_retWr S hJ hr hlk d_Sh_turnedBy_43 (by decide) ⟨rfl, eh1⟩

set_option maxHeartbeats 4000000 in
set_option maxRecDepth 100000 in
theorem c_Sh_turnedBy (l : Launch) (dC : Nat → ClassId) (dI : Nat → Nat → Nat) (cA : Nat → ClassId) (A : Nat → Prop) (h : hp_T) (t up ta b w d : Nat) (sd : Int32) (f : Nat → Int64) (g : Nat → Option Nat) (k : Nat) (hk : 1 ≤ k ∧ k < 4) (hg : g k = none) (hw : 1 ≤ w ∧ w ≤ 1024) (hd : 1 ≤ d ∧ d ≤ 1024) (hs : pw w * d ≤ 256) (hs2 : pw d * w ≤ 256) (h_t : h t = some (k_Sh up ta sd)) (h_ta : h ta = some (k_rf (cA 4) 4 g)) (h_up : h up = some (k_Pc (nI w) (nI d) (nI 1) (nI (pw w)) b)) (h_b : h b = some (k_lo (cA 1) (pw w * d) f)) : Met l y_Sh_turnedBy (.code y_Sh_turnedBy prog_7_method_3_code 2 (some (.object "BandPainter$Picture")) :: BIG) ({ frames := 5, cells := 2, slots := 261, locals := 115 }) (va_Pc [.ref t, .int (nI k)] (hp_I (gg dC dI cA) A h)) (hp_QW (gg dC dI cA) A hp_mr (fun r h' => ∃ b2, h r = none ∧ h b2 = none ∧ r ≠ b2 ∧ h' = hp_up (hp_up (hp_up h b2 (k_lo (cA 1) (pw (tw (nI k) w d) * tw (nI k) d w) (q_tF (nI k) w d f))) r (k_Pc (nI (tw (nI k) w d)) (nI (tw (nI k) d w)) (nI 1) (nI (pw (tw (nI k) w d))) b2)) ta (k_rf (cA 4) 4 (va_up g k (some r))))) 2 261 A := by
  refine hp_enter (by decide) (Nat.le_of_ble_eq_true rfl) ?_
  intro p e s m below meth c ls S hr hlk hin hI hl
  have hl : lv_has ls 2 [(0, .ref t), (1, .int (nI k))] := hl
  have hJ := hI.J
  refine lv_iconst (v := 0) S.1 S.2.1 d_Sh_turnedBy_0 (by decide) ?_
  refine lv_iload_n S.1 S.2.1 d_Sh_turnedBy_1 rfl (lv_at hl 1 rfl) ?_
  refine lv_iconst (v := 3) S.1 S.2.1 d_Sh_turnedBy_2 (by decide) ?_
  refine hp_doneR (hp_runN S zz hJ.2.1 (c_BP_isWithin l _ _ _) l_Sh_28 (hp_pre0 _) (by decide) rfl hl.1 rfl (nl rfl) d_Sh_turnedBy_3 (by decide)) ?_
  refine lv_if_ne (tgt := 14) S.1 S.2.1 d_Sh_turnedBy_6 (by decide) (fun _ => ?_) (fun q => absurd q (q_is_ne.mpr ⟨nI_pos' (by omega), nI_le (a := k) (b := 3) (by omega) (by decide)⟩))
  refine lv_aload_n S.1 S.2.1 d_Sh_turnedBy_14 rfl (lv_at hl 0 rfl) ?_
  refine hp_get S zz hJ h_t f_Sh_20 rfl d_Sh_turnedBy_15 ?_
  refine lv_iload_n S.1 S.2.1 d_Sh_turnedBy_18 rfl (lv_at hl 1 rfl) ?_
  refine hp_aald S hJ 4 h_ta rfl (vp_in_nI hk.2 (by decide)) d_Sh_turnedBy_19 ?_
  rw [nI_clamp (by omega), hg]
  refine lv_ifnonnullN S.1 S.2.1 d_Sh_turnedBy_20 ?_
  refine lv_aload_n S.1 S.2.1 d_Sh_turnedBy_23 rfl (lv_at hl 0 rfl) ?_
  refine hp_get S zz hJ h_t f_Sh_20 rfl d_Sh_turnedBy_24 ?_
  refine lv_iload_n S.1 S.2.1 d_Sh_turnedBy_27 rfl (lv_at hl 1 rfl) ?_
  refine lv_aload_n S.1 S.2.1 d_Sh_turnedBy_28 rfl (lv_at hl 0 rfl) ?_
  refine hp_get S zz hJ h_t f_Sh_14 rfl d_Sh_turnedBy_29 ?_
  refine lv_iload_n S.1 S.2.1 d_Sh_turnedBy_32 rfl (lv_at hl 1 rfl) ?_
  refine hp_doneWr hJ (hp_runV S zz0 (c_Pc_turnedBy l dC dI cA A _ up b w d 1 f (nI k) (nI_ne0 (by omega) (by omega)) hw hd (by decide) hs hs2 h_up h_b) l_Sh_32 (hJ.preV _ h_up rfl) (by decide) rfl hl.1 rfl (nl rfl) d_Sh_turnedBy_33 (by decide)) (fun q h9 H locs hx hJ => ?_)
  obtain ⟨b2, hq, hb2, hne, eh9⟩ := hx
  have h_q : h9 q = some (k_Pc (nI (tw (nI k) w d)) (nI (tw (nI k) d w)) (nI 1) (nI (pw (tw (nI k) w d))) b2) := by rw [eh9]; exact hp_up_s _ _ _
  have h_t : h9 t = some (k_Sh up ta sd) := by rw [eh9]; exact hp_up_k (hp_neN h_t hq) (hp_up_k (hp_neN h_t hb2) h_t)
  have h_ta : h9 ta = some (k_rf (cA 4) 4 g) := by rw [eh9]; exact hp_up_k (hp_neN h_ta hq) (hp_up_k (hp_neN h_ta hb2) h_ta)
  refine hp_aast S hJ 4 4 h_ta rfl h_q rfl (vp_in_nI hk.2 (by decide)) d_Sh_turnedBy_36 (fun H locs hJ => ?_)
  rw [nI_clamp (by omega)] at hJ
  obtain ⟨h1, eh1⟩ : ∃ z, z = hp_up h9 ta (k_rf (cA 4) 4 (va_up g k (some q))) := ⟨_, rfl⟩
  have hJ := hJ.cast eh1
  have h0_ta := h_ta
  have h_t : h1 t = some (.inr (6, [.ref up, .ref ta, .int sd])) := by rw [eh1]; exact hp_up_k (hp_ne h_t h0_ta (show ((0, 6) : Nat × Nat) ≠ (5, 0) by decide)) h_t
  have h_q : h1 q = some (k_Pc (nI (tw (nI k) w d)) (nI (tw (nI k) d w)) (nI 1) (nI (pw (tw (nI k) w d))) b2) := by rw [eh1]; exact hp_up_k (hp_ne h_q h0_ta (show ((0, 4) : Nat × Nat) ≠ (5, 0) by decide)) h_q
  have h_ta : h1 ta = some (k_rf (cA 4) 4 (va_up g k (some q))) := by rw [eh1]; exact hp_up_s _ _ _
  refine lv_aload_n S.1 S.2.1 d_Sh_turnedBy_37 rfl (lv_at hl 0 rfl) ?_
  refine hp_get S zz hJ h_t f_Sh_20 rfl d_Sh_turnedBy_38 ?_
  refine lv_iload_n S.1 S.2.1 d_Sh_turnedBy_41 rfl (lv_at hl 1 rfl) ?_
  refine hp_aald S hJ 4 h_ta rfl (vp_in_nI hk.2 (by decide)) d_Sh_turnedBy_42 ?_
  rw [nI_clamp (by omega), va_up_self]
  exact hp_retWr S hJ hr hlk d_Sh_turnedBy_43 (by decide) ⟨b2, hq, hb2, hne, by rw [eh1, eh9]⟩

set_option maxHeartbeats 4000000 in
set_option maxRecDepth 100000 in
theorem cN_Mk_init (l : Launch) (dC : Nat → ClassId) (dI : Nat → Nat → Nat) (cA : Nat → ClassId) (A : Nat → Prop) (h : hp_T) (t part ink : Nat) (left top so io : Int32) (hso : so = 0 ∨ so = 1) (hio : io = 0 ∨ io = 1) (h_t : h t = some (.inr (3, e0_Mk))) : Met l y_Mk_init (.code y_Mk_init prog_4_method_1_code 8 none :: BIG) ({ frames := 1, cells := 0, slots := 0, locals := 20 }) (va_Pc [.ref t, .null, .int left, .int top, .ref part, .ref ink, .int so, .int io] (hp_I (gg dC dI cA) A h)) (hp_QW (gg dC dI cA) A hp_mv (fun _ h' => h' = hp_up h t (k_Mk none left top part ink so io none none))) 0 0 A := by
  refine hp_enter (by decide) (Nat.le_of_ble_eq_true rfl) ?_
  intro p e s m below meth c ls S hr hlk hin hI hl
  have hl : lv_has ls 8 [(0, .ref t), (1, .null), (2, .int left), (3, .int top), (4, .ref part), (5, .ref ink), (6, .int so), (7, .int io)] := hl
  have hJ := hI.J
  refine lv_aload_n S.1 S.2.1 d_Mk_init_0 rfl (lv_at hl 0 rfl) ?_
  refine hp_obj S l_Mk_1 hl.1 d_Mk_init_1 ⟨nl rfl, nl rfl⟩ ?_
  refine lv_aload_n S.1 S.2.1 d_Mk_init_4 rfl (lv_at hl 0 rfl) ?_
  refine lv_aload_nN S.1 S.2.1 d_Mk_init_5 rfl (lv_at hl 1 rfl) ?_
  refine hp_putF S zz hJ hin h_t fp_Mk_7 rfl rfl rfl (nl rfl) d_Mk_init_6 (fun H locs hJ => ?_)
  obtain ⟨h1, eh1⟩ : ∃ z, z = hp_up h t (.inr (3, [.null, .int 0, .int 0, .null, .null, .int 0, .int 0, .null, .null])) := ⟨_, rfl⟩
  have hJ := hJ.cast eh1
  have h0_t := h_t
  have h_t : h1 t = some (.inr (3, [.null, .int 0, .int 0, .null, .null, .int 0, .int 0, .null, .null])) := by rw [eh1]; exact hp_up_s _ _ _
  refine lv_aload_n S.1 S.2.1 d_Mk_init_9 rfl (lv_at hl 0 rfl) ?_
  refine lv_iload_n S.1 S.2.1 d_Mk_init_10 rfl (lv_at hl 2 rfl) ?_
  refine hp_putF S zz hJ hin h_t fp_Mk_13 rfl rfl rfl (nl rfl) d_Mk_init_11 (fun H locs hJ => ?_)
  obtain ⟨h2, eh2⟩ : ∃ z, z = hp_up h1 t (.inr (3, [.null, .int left, .int 0, .null, .null, .int 0, .int 0, .null, .null])) := ⟨_, rfl⟩
  have hJ := hJ.cast eh2
  have h0_t := h_t
  have h_t : h2 t = some (.inr (3, [.null, .int left, .int 0, .null, .null, .int 0, .int 0, .null, .null])) := by rw [eh2]; exact hp_up_s _ _ _
  refine lv_aload_n S.1 S.2.1 d_Mk_init_14 rfl (lv_at hl 0 rfl) ?_
  refine lv_iload_n S.1 S.2.1 d_Mk_init_15 rfl (lv_at hl 3 rfl) ?_
  refine hp_putF S zz hJ hin h_t fp_Mk_17 rfl rfl rfl (nl rfl) d_Mk_init_16 (fun H locs hJ => ?_)
  obtain ⟨h3, eh3⟩ : ∃ z, z = hp_up h2 t (.inr (3, [.null, .int left, .int top, .null, .null, .int 0, .int 0, .null, .null])) := ⟨_, rfl⟩
  have hJ := hJ.cast eh3
  have h0_t := h_t
  have h_t : h3 t = some (.inr (3, [.null, .int left, .int top, .null, .null, .int 0, .int 0, .null, .null])) := by rw [eh3]; exact hp_up_s _ _ _
  refine lv_aload_n S.1 S.2.1 d_Mk_init_19 rfl (lv_at hl 0 rfl) ?_
  refine lv_aload S.1 S.2.1 d_Mk_init_20 (lv_at hl 4 rfl) ?_
  refine hp_putF S zz hJ hin h_t fp_Mk_20 rfl rfl rfl (nl rfl) d_Mk_init_22 (fun H locs hJ => ?_)
  obtain ⟨h4, eh4⟩ : ∃ z, z = hp_up h3 t (.inr (3, [.null, .int left, .int top, .ref part, .null, .int 0, .int 0, .null, .null])) := ⟨_, rfl⟩
  have hJ := hJ.cast eh4
  have h0_t := h_t
  have h_t : h4 t = some (.inr (3, [.null, .int left, .int top, .ref part, .null, .int 0, .int 0, .null, .null])) := by rw [eh4]; exact hp_up_s _ _ _
  refine lv_aload_n S.1 S.2.1 d_Mk_init_25 rfl (lv_at hl 0 rfl) ?_
  refine lv_aload S.1 S.2.1 d_Mk_init_26 (lv_at hl 5 rfl) ?_
  refine hp_putF S zz hJ hin h_t fp_Mk_24 rfl rfl rfl (nl rfl) d_Mk_init_28 (fun H locs hJ => ?_)
  obtain ⟨h5, eh5⟩ : ∃ z, z = hp_up h4 t (.inr (3, [.null, .int left, .int top, .ref part, .ref ink, .int 0, .int 0, .null, .null])) := ⟨_, rfl⟩
  have hJ := hJ.cast eh5
  have h0_t := h_t
  have h_t : h5 t = some (.inr (3, [.null, .int left, .int top, .ref part, .ref ink, .int 0, .int 0, .null, .null])) := by rw [eh5]; exact hp_up_s _ _ _
  refine lv_aload_n S.1 S.2.1 d_Mk_init_31 rfl (lv_at hl 0 rfl) ?_
  refine lv_iload S.1 S.2.1 d_Mk_init_32 (lv_at hl 6 rfl) ?_
  refine hp_putF S zz hJ hin h_t fp_Mk_28 rfl (z01 hso).1 (z01 hso).2 (nl rfl) d_Mk_init_34 (fun H locs hJ => ?_)
  obtain ⟨h6, eh6⟩ : ∃ z, z = hp_up h5 t (.inr (3, [.null, .int left, .int top, .ref part, .ref ink, .int so, .int 0, .null, .null])) := ⟨_, rfl⟩
  have hJ := hJ.cast eh6
  have h0_t := h_t
  have h_t : h6 t = some (.inr (3, [.null, .int left, .int top, .ref part, .ref ink, .int so, .int 0, .null, .null])) := by rw [eh6]; exact hp_up_s _ _ _
  refine lv_aload_n S.1 S.2.1 d_Mk_init_37 rfl (lv_at hl 0 rfl) ?_
  refine lv_iload S.1 S.2.1 d_Mk_init_38 (lv_at hl 7 rfl) ?_
  refine hp_putF S zz hJ hin h_t fp_Mk_32 rfl (z01 hio).1 (z01 hio).2 (nl rfl) d_Mk_init_40 (fun H locs hJ => ?_)
  obtain ⟨h7, eh7⟩ : ∃ z, z = hp_up h6 t (.inr (3, [.null, .int left, .int top, .ref part, .ref ink, .int so, .int io, .null, .null])) := ⟨_, rfl⟩
  have hJ := hJ.cast eh7
  have h0_t := h_t
  have h_t : h7 t = some (.inr (3, [.null, .int left, .int top, .ref part, .ref ink, .int so, .int io, .null, .null])) := by rw [eh7]; exact hp_up_s _ _ _
  exact hp_retWv S hJ hr hlk d_Mk_init_43 (by decide) (by rw [eh7, eh6, eh5, eh4, eh3, eh2, eh1]; simp only [hp_up_up]; rfl)

set_option maxHeartbeats 4000000 in
set_option maxRecDepth 100000 in
theorem cS_Mk_init (l : Launch) (dC : Nat → ClassId) (dI : Nat → Nat → Nat) (cA : Nat → ClassId) (A : Nat → Prop) (h : hp_T) (t pic part ink : Nat) (left top so io : Int32) (hso : so = 0 ∨ so = 1) (hio : io = 0 ∨ io = 1) (h_t : h t = some (.inr (3, e0_Mk))) : Met l y_Mk_init (.code y_Mk_init prog_4_method_1_code 8 none :: BIG) ({ frames := 1, cells := 0, slots := 0, locals := 20 }) (va_Pc [.ref t, .ref pic, .int left, .int top, .ref part, .ref ink, .int so, .int io] (hp_I (gg dC dI cA) A h)) (hp_QW (gg dC dI cA) A hp_mv (fun _ h' => h' = hp_up h t (k_Mk (some pic) left top part ink so io none none))) 0 0 A := by
  refine hp_enter (by decide) (Nat.le_of_ble_eq_true rfl) ?_
  intro p e s m below meth c ls S hr hlk hin hI hl
  have hl : lv_has ls 8 [(0, .ref t), (1, .ref pic), (2, .int left), (3, .int top), (4, .ref part), (5, .ref ink), (6, .int so), (7, .int io)] := hl
  have hJ := hI.J
  refine lv_aload_n S.1 S.2.1 d_Mk_init_0 rfl (lv_at hl 0 rfl) ?_
  refine hp_obj S l_Mk_1 hl.1 d_Mk_init_1 ⟨nl rfl, nl rfl⟩ ?_
  refine lv_aload_n S.1 S.2.1 d_Mk_init_4 rfl (lv_at hl 0 rfl) ?_
  refine lv_aload_n S.1 S.2.1 d_Mk_init_5 rfl (lv_at hl 1 rfl) ?_
  refine hp_putF S zz hJ hin h_t fp_Mk_7 rfl rfl rfl (nl rfl) d_Mk_init_6 (fun H locs hJ => ?_)
  obtain ⟨h1, eh1⟩ : ∃ z, z = hp_up h t (.inr (3, [.ref pic, .int 0, .int 0, .null, .null, .int 0, .int 0, .null, .null])) := ⟨_, rfl⟩
  have hJ := hJ.cast eh1
  have h0_t := h_t
  have h_t : h1 t = some (.inr (3, [.ref pic, .int 0, .int 0, .null, .null, .int 0, .int 0, .null, .null])) := by rw [eh1]; exact hp_up_s _ _ _
  refine lv_aload_n S.1 S.2.1 d_Mk_init_9 rfl (lv_at hl 0 rfl) ?_
  refine lv_iload_n S.1 S.2.1 d_Mk_init_10 rfl (lv_at hl 2 rfl) ?_
  refine hp_putF S zz hJ hin h_t fp_Mk_13 rfl rfl rfl (nl rfl) d_Mk_init_11 (fun H locs hJ => ?_)
  obtain ⟨h2, eh2⟩ : ∃ z, z = hp_up h1 t (.inr (3, [.ref pic, .int left, .int 0, .null, .null, .int 0, .int 0, .null, .null])) := ⟨_, rfl⟩
  have hJ := hJ.cast eh2
  have h0_t := h_t
  have h_t : h2 t = some (.inr (3, [.ref pic, .int left, .int 0, .null, .null, .int 0, .int 0, .null, .null])) := by rw [eh2]; exact hp_up_s _ _ _
  refine lv_aload_n S.1 S.2.1 d_Mk_init_14 rfl (lv_at hl 0 rfl) ?_
  refine lv_iload_n S.1 S.2.1 d_Mk_init_15 rfl (lv_at hl 3 rfl) ?_
  refine hp_putF S zz hJ hin h_t fp_Mk_17 rfl rfl rfl (nl rfl) d_Mk_init_16 (fun H locs hJ => ?_)
  obtain ⟨h3, eh3⟩ : ∃ z, z = hp_up h2 t (.inr (3, [.ref pic, .int left, .int top, .null, .null, .int 0, .int 0, .null, .null])) := ⟨_, rfl⟩
  have hJ := hJ.cast eh3
  have h0_t := h_t
  have h_t : h3 t = some (.inr (3, [.ref pic, .int left, .int top, .null, .null, .int 0, .int 0, .null, .null])) := by rw [eh3]; exact hp_up_s _ _ _
  refine lv_aload_n S.1 S.2.1 d_Mk_init_19 rfl (lv_at hl 0 rfl) ?_
  refine lv_aload S.1 S.2.1 d_Mk_init_20 (lv_at hl 4 rfl) ?_
  refine hp_putF S zz hJ hin h_t fp_Mk_20 rfl rfl rfl (nl rfl) d_Mk_init_22 (fun H locs hJ => ?_)
  obtain ⟨h4, eh4⟩ : ∃ z, z = hp_up h3 t (.inr (3, [.ref pic, .int left, .int top, .ref part, .null, .int 0, .int 0, .null, .null])) := ⟨_, rfl⟩
  have hJ := hJ.cast eh4
  have h0_t := h_t
  have h_t : h4 t = some (.inr (3, [.ref pic, .int left, .int top, .ref part, .null, .int 0, .int 0, .null, .null])) := by rw [eh4]; exact hp_up_s _ _ _
  refine lv_aload_n S.1 S.2.1 d_Mk_init_25 rfl (lv_at hl 0 rfl) ?_
  refine lv_aload S.1 S.2.1 d_Mk_init_26 (lv_at hl 5 rfl) ?_
  refine hp_putF S zz hJ hin h_t fp_Mk_24 rfl rfl rfl (nl rfl) d_Mk_init_28 (fun H locs hJ => ?_)
  obtain ⟨h5, eh5⟩ : ∃ z, z = hp_up h4 t (.inr (3, [.ref pic, .int left, .int top, .ref part, .ref ink, .int 0, .int 0, .null, .null])) := ⟨_, rfl⟩
  have hJ := hJ.cast eh5
  have h0_t := h_t
  have h_t : h5 t = some (.inr (3, [.ref pic, .int left, .int top, .ref part, .ref ink, .int 0, .int 0, .null, .null])) := by rw [eh5]; exact hp_up_s _ _ _
  refine lv_aload_n S.1 S.2.1 d_Mk_init_31 rfl (lv_at hl 0 rfl) ?_
  refine lv_iload S.1 S.2.1 d_Mk_init_32 (lv_at hl 6 rfl) ?_
  refine hp_putF S zz hJ hin h_t fp_Mk_28 rfl (z01 hso).1 (z01 hso).2 (nl rfl) d_Mk_init_34 (fun H locs hJ => ?_)
  obtain ⟨h6, eh6⟩ : ∃ z, z = hp_up h5 t (.inr (3, [.ref pic, .int left, .int top, .ref part, .ref ink, .int so, .int 0, .null, .null])) := ⟨_, rfl⟩
  have hJ := hJ.cast eh6
  have h0_t := h_t
  have h_t : h6 t = some (.inr (3, [.ref pic, .int left, .int top, .ref part, .ref ink, .int so, .int 0, .null, .null])) := by rw [eh6]; exact hp_up_s _ _ _
  refine lv_aload_n S.1 S.2.1 d_Mk_init_37 rfl (lv_at hl 0 rfl) ?_
  refine lv_iload S.1 S.2.1 d_Mk_init_38 (lv_at hl 7 rfl) ?_
  refine hp_putF S zz hJ hin h_t fp_Mk_32 rfl (z01 hio).1 (z01 hio).2 (nl rfl) d_Mk_init_40 (fun H locs hJ => ?_)
  obtain ⟨h7, eh7⟩ : ∃ z, z = hp_up h6 t (.inr (3, [.ref pic, .int left, .int top, .ref part, .ref ink, .int so, .int io, .null, .null])) := ⟨_, rfl⟩
  have hJ := hJ.cast eh7
  have h0_t := h_t
  have h_t : h7 t = some (.inr (3, [.ref pic, .int left, .int top, .ref part, .ref ink, .int so, .int io, .null, .null])) := by rw [eh7]; exact hp_up_s _ _ _
  exact hp_retWv S hJ hr hlk d_Mk_init_43 (by decide) (by rw [eh7, eh6, eh5, eh4, eh3, eh2, eh1]; simp only [hp_up_up]; rfl)

set_option maxHeartbeats 4000000 in
set_option maxRecDepth 100000 in
theorem c_Pl_init (l : Launch) (dC : Nat → ClassId) (dI : Nat → Nat → Nat) (cA : Nat → ClassId) (A : Nat → Prop) (h : hp_T) (t n : Nat) (hn : n ≤ 5100) (h_t : h t = some (.inr (5, e0_Pl))) : Met l y_Pl_init (.code y_Pl_init prog_6_method_1_code 2 none :: BIG) ({ frames := 1, cells := 2, slots := 10200, locals := 20 }) (va_Pc [.ref t, .int (nI n)] (hp_I (gg dC dI cA) A h)) (hp_QW (gg dC dI cA) A hp_mv (fun _ h' => ∃ bl st, h bl = none ∧ h st = none ∧ bl ≠ st ∧ h' = hp_up (hp_up (hp_up h bl (k_in (cA 0) n (fun _ => 0))) st (k_in (cA 2) n (fun _ => 0))) t (k_Pl (nI n) bl st 0 none))) 2 10200 A := by
  refine hp_enter (by decide) (Nat.le_of_ble_eq_true rfl) ?_
  intro p e s m below meth c ls S hr hlk hin hI hl
  have hl : lv_has ls 2 [(0, .ref t), (1, .int (nI n))] := hl
  have hJ := hI.J
  refine lv_aload_n S.1 S.2.1 d_Pl_init_0 rfl (lv_at hl 0 rfl) ?_
  refine hp_obj S l_Pl_3 hl.1 d_Pl_init_1 ⟨nl rfl, nl rfl⟩ ?_
  refine lv_aload_n S.1 S.2.1 d_Pl_init_4 rfl (lv_at hl 0 rfl) ?_
  refine lv_iload_n S.1 S.2.1 d_Pl_init_5 rfl (lv_at hl 1 rfl) ?_
  refine hp_putF S zz hJ hin h_t fp_Pl_9 rfl rfl rfl (nl rfl) d_Pl_init_6 (fun H locs hJ => ?_)
  obtain ⟨h1, eh1⟩ : ∃ z, z = hp_up h t (.inr (5, [.int (nI n), .null, .null, .int 0, .null])) := ⟨_, rfl⟩
  have hJ := hJ.cast eh1
  have h0_t := h_t
  have h_t : h1 t = some (.inr (5, [.int (nI n), .null, .null, .int 0, .null])) := by rw [eh1]; exact hp_up_s _ _ _
  refine lv_aload_n S.1 S.2.1 d_Pl_init_9 rfl (lv_at hl 0 rfl) ?_
  refine lv_iload_n S.1 S.2.1 d_Pl_init_10 rfl (lv_at hl 1 rfl) ?_
  refine hp_newa S hJ 0 (atype := .int) (a0 := (n, .inl (fun _ => 0))) (N' := n) t_83 rfl (by intro C hC; cases hC) rfl (nI_pos (by omega)) (nI_clamp (by omega)) (show n * 4 ≤ 536870912 by omega) (by decide) (show 0 + n ≤ 10200 by omega) d_Pl_init_11 (fun bl H hq_bl hs_bl hJ => ?_)
  refine W.widen (k := 1) (n := 5100) (by omega) (by omega) ?_
  have ne_t_bl : t ≠ bl := hp_neN h_t hq_bl
  obtain ⟨h2, eh2⟩ : ∃ z, z = hp_up h1 bl (k_in (cA 0) n (fun _ => 0)) := ⟨_, rfl⟩
  have hJ := hJ.cast eh2
  have h_t : h2 t = some (.inr (5, [.int (nI n), .null, .null, .int 0, .null])) := by rw [eh2]; exact hp_up_k (hp_neN h_t hq_bl) h_t
  have h_bl : h2 bl = some (k_in (cA 0) n (fun _ => 0)) := by rw [eh2]; exact hp_up_s _ _ _
  refine hp_putF S zz hJ hin h_t fp_Pl_15 rfl rfl rfl (nl rfl) d_Pl_init_13 (fun H locs hJ => ?_)
  obtain ⟨h3, eh3⟩ : ∃ z, z = hp_up h2 t (.inr (5, [.int (nI n), .ref bl, .null, .int 0, .null])) := ⟨_, rfl⟩
  have hJ := hJ.cast eh3
  have h0_t := h_t
  have h_bl : h3 bl = some (k_in (cA 0) n (fun _ => 0)) := by rw [eh3]; exact hp_up_k (hp_ne h_bl h0_t (show ((1, 0) : Nat × Nat) ≠ (0, 5) by decide)) h_bl
  have h_t : h3 t = some (.inr (5, [.int (nI n), .ref bl, .null, .int 0, .null])) := by rw [eh3]; exact hp_up_s _ _ _
  refine lv_aload_n S.1 S.2.1 d_Pl_init_16 rfl (lv_at hl 0 rfl) ?_
  refine lv_iload_n S.1 S.2.1 d_Pl_init_17 rfl (lv_at hl 1 rfl) ?_
  refine hp_newa S hJ 2 (atype := .boolean) (a0 := (n, .inl (fun _ => 0))) (N' := n) t_84 rfl (by intro C hC; cases hC) rfl (nI_pos (by omega)) (nI_clamp (by omega)) (show n * 1 ≤ 536870912 by omega) (by decide) (show 5100 + n ≤ 10200 by omega) d_Pl_init_18 (fun st H hq_st hs_st hJ => ?_)
  refine W.widen (k := 2) (n := 10200) (by omega) (by omega) ?_
  have ne_t_st : t ≠ st := hp_neN h_t hq_st
  have ne_bl_st : bl ≠ st := hp_neN h_bl hq_st
  obtain ⟨h4, eh4⟩ : ∃ z, z = hp_up h3 st (k_in (cA 2) n (fun _ => 0)) := ⟨_, rfl⟩
  have hJ := hJ.cast eh4
  have h_t : h4 t = some (.inr (5, [.int (nI n), .ref bl, .null, .int 0, .null])) := by rw [eh4]; exact hp_up_k (hp_neN h_t hq_st) h_t
  have h_bl : h4 bl = some (k_in (cA 0) n (fun _ => 0)) := by rw [eh4]; exact hp_up_k (hp_neN h_bl hq_st) h_bl
  have h_st : h4 st = some (k_in (cA 2) n (fun _ => 0)) := by rw [eh4]; exact hp_up_s _ _ _
  refine hp_putF S zz hJ hin h_t fp_Pl_19 rfl rfl rfl (nl rfl) d_Pl_init_20 (fun H locs hJ => ?_)
  obtain ⟨h5, eh5⟩ : ∃ z, z = hp_up h4 t (.inr (5, [.int (nI n), .ref bl, .ref st, .int 0, .null])) := ⟨_, rfl⟩
  have hJ := hJ.cast eh5
  have h0_t := h_t
  have h_bl : h5 bl = some (k_in (cA 0) n (fun _ => 0)) := by rw [eh5]; exact hp_up_k (hp_ne h_bl h0_t (show ((1, 0) : Nat × Nat) ≠ (0, 5) by decide)) h_bl
  have h_st : h5 st = some (k_in (cA 2) n (fun _ => 0)) := by rw [eh5]; exact hp_up_k (hp_ne h_st h0_t (show ((1, 0) : Nat × Nat) ≠ (0, 5) by decide)) h_st
  have h_t : h5 t = some (.inr (5, [.int (nI n), .ref bl, .ref st, .int 0, .null])) := by rw [eh5]; exact hp_up_s _ _ _
  exact hp_retWv S hJ hr hlk d_Pl_init_23 (by decide) ⟨bl, st, by rw [eh1, hp_up_n (Ne.symm ne_t_bl)] at hq_bl; exact hq_bl, by rw [eh3, hp_up_n (Ne.symm ne_t_st), eh2, hp_up_n (Ne.symm ne_bl_st), eh1, hp_up_n (Ne.symm ne_t_st)] at hq_st; exact hq_st, ne_bl_st, by rw [eh5, eh4, eh3, eh2, eh1, hp_up_comm _ _ _ ne_t_bl, hp_up_up, hp_tbt _ _ _ _ ne_t_st]; rfl⟩
end
section
/-! Piles: cleared, stirred, grown. -/
theorem mx0 {n : Nat} (h2 : n < 2 ^ 31) : (if (0 : Int32) < nI n then nI n else 0) = nI n := by
  split
  · rfl
  · rename_i q
    have h3 : ¬ (0 : Int32).toInt < (nI n).toInt := fun z => q (z_lt.mpr z)
    rw [z_nI h2, z_0] at h3
    have : n = 0 := by omega
    subst this
    rfl
theorem mnb {b n : Nat} (h : b < n) (hn : n < 2 ^ 31) : (if nI b + 1 < nI n then nI b + 1 else nI n) = nI (b + 1) := by
  rw [nI_1]
  split
  · rfl
  · rename_i q
    have h3 : ¬ (nI (b + 1)).toInt < (nI n).toInt := fun z => q (z_lt.mpr z)
    rw [z_nI (by omega), z_nI hn] at h3
    rw [show n = b + 1 by omega]
/-- the lines a .. y - 1 set to x; to 1 where they are stirred -/
def q_sa (f : Nat → Int32) (a y : Nat) : Nat → Int32 := fun i => if a ≤ i ∧ i < y then -1 else f i
def q_sz (pic : Bool) (g : Nat → Int32) (a y : Nat) : Nat → Int32 := fun i => if a ≤ i ∧ i < y ∧ (pic = true ∨ i = a) then 1 else g i
theorem q_sa_0 (f : Nat → Int32) (a : Nat) : q_sa f a a = f := by
  funext i
  exact if_neg (by omega)
theorem q_sz_0 (pic : Bool) (g : Nat → Int32) (a : Nat) : q_sz pic g a a = g := by
  funext i
  exact if_neg (by omega)
theorem q_sa_s (f : Nat → Int32) {a y : Nat} (h : a ≤ y) : upd (q_sa f a y) y (-1) = q_sa f a (y + 1) := by
  funext i
  unfold upd q_sa
  by_cases hi : i = y
  · rw [if_pos hi, if_pos (by omega)]
  · rw [if_neg hi]
    by_cases h2 : a ≤ i ∧ i < y
    · rw [if_pos h2, if_pos (by omega)]
    · rw [if_neg h2, if_neg (by omega)]
theorem q_sz_t {pic : Bool} (g : Nat → Int32) {a y : Nat} (h : a ≤ y) (hp : pic = true ∨ y = a) : upd (q_sz pic g a y) y 1 = q_sz pic g a (y + 1) := by
  funext i
  unfold upd q_sz
  by_cases hi : i = y
  · subst hi
    rw [if_pos rfl, if_pos ⟨h, by omega, hp⟩]
  · rw [if_neg hi]
    by_cases h2 : a ≤ i ∧ i < y ∧ (pic = true ∨ i = a)
    · rw [if_pos h2, if_pos ⟨h2.1, by omega, h2.2.2⟩]
    · rw [if_neg h2, if_neg (fun q => h2 ⟨q.1, by omega, q.2.2⟩)]
theorem q_sz_f {pic : Bool} (g : Nat → Int32) {a y : Nat} (hp : ¬ (pic = true ∨ y = a)) : q_sz pic g a y = q_sz pic g a (y + 1) := by
  funext i
  unfold q_sz
  by_cases h2 : a ≤ i ∧ i < y ∧ (pic = true ∨ i = a)
  · rw [if_pos h2, if_pos ⟨h2.1, by omega, h2.2.2⟩]
  · rw [if_neg h2, if_neg]
    intro q
    by_cases hi : i = y
    · exact hp (hi ▸ q.2.2)
    · exact h2 ⟨q.1, by omega, q.2.2⟩
/-- the line behind, if there is one -/
def q_sx (g : Nat → Int32) (n k : Nat) : Nat → Int32 := if k < n then upd g k 1 else g

set_option maxHeartbeats 4000000 in
set_option maxRecDepth 100000 in
theorem c_Pl_clear (l : Launch) (dC : Nat → ClassId) (dI : Nat → Nat → Nat) (cA : Nat → ClassId) (A : Nat → Prop) (h : hp_T) (t bl st n : Nat) (sz : Int32) (nw : Option Nat) (f g : Nat → Int32) (hn : n ≤ 5100) (ne_bl_st : bl ≠ st) (h_t : h t = some (k_Pl (nI n) bl st sz nw)) (h_bl : h bl = some (k_in (cA 0) n f)) (h_st : h st = some (k_in (cA 2) n g)) : Met l y_Pl_clear (.code y_Pl_clear prog_6_method_2_code 2 none :: BIG) ({ frames := 1, cells := 0, slots := 0, locals := 23 }) (va_Pc [.ref t] (hp_I (gg dC dI cA) A h)) (hp_QW (gg dC dI cA) A hp_mv (fun _ h' => h' = hp_up (hp_up (hp_up h t (k_Pl (nI n) bl st 0 none)) bl (k_in (cA 0) n (q_fl f 0 n))) st (k_in (cA 2) n (q_fl g 0 n)))) 0 0 A := by
  refine hp_enter (by decide) (Nat.le_of_ble_eq_true rfl) ?_
  intro p e s m below meth c ls S hr hlk hin hI hl
  have hl : lv_has ls 2 [(0, .ref t)] := hl
  have hJ := hI.J
  refine lv_aload_n S.1 S.2.1 d_Pl_clear_0 rfl (lv_at hl 0 rfl) ?_
  refine lv_iconst (v := 0) S.1 S.2.1 d_Pl_clear_1 (by decide) ?_
  refine hp_put S zz hJ h_t fp_Pl_23 rfl rfl (nl rfl) d_Pl_clear_2 (fun H locs hJ => ?_)
  obtain ⟨h1, eh1⟩ : ∃ z, z = hp_up h t (.inr (5, [.int (nI n), .ref bl, .ref st, .int 0, va_rf nw])) := ⟨_, rfl⟩
  have hJ := hJ.cast eh1
  have h0_t := h_t
  have h_bl : h1 bl = some (k_in (cA 0) n f) := by rw [eh1]; exact hp_up_k (hp_ne h_bl h0_t (show ((1, 0) : Nat × Nat) ≠ (0, 5) by decide)) h_bl
  have h_st : h1 st = some (k_in (cA 2) n g) := by rw [eh1]; exact hp_up_k (hp_ne h_st h0_t (show ((1, 0) : Nat × Nat) ≠ (0, 5) by decide)) h_st
  have h_t : h1 t = some (.inr (5, [.int (nI n), .ref bl, .ref st, .int 0, va_rf nw])) := by rw [eh1]; exact hp_up_s _ _ _
  refine lv_aload_n S.1 S.2.1 d_Pl_clear_5 rfl (lv_at hl 0 rfl) ?_
  refine lv_null S.1 S.2.1 d_Pl_clear_6 ?_
  refine hp_put S zz hJ h_t fp_Pl_26 rfl rfl (nl rfl) d_Pl_clear_7 (fun H locs hJ => ?_)
  obtain ⟨h2, eh2⟩ : ∃ z, z = hp_up h1 t (.inr (5, [.int (nI n), .ref bl, .ref st, .int 0, .null])) := ⟨_, rfl⟩
  have hJ := hJ.cast eh2
  have h0_t := h_t
  have h_bl : h2 bl = some (k_in (cA 0) n f) := by rw [eh2]; exact hp_up_k (hp_ne h_bl h0_t (show ((1, 0) : Nat × Nat) ≠ (0, 5) by decide)) h_bl
  have h_st : h2 st = some (k_in (cA 2) n g) := by rw [eh2]; exact hp_up_k (hp_ne h_st h0_t (show ((1, 0) : Nat × Nat) ≠ (0, 5) by decide)) h_st
  have h_t : h2 t = some (.inr (5, [.int (nI n), .ref bl, .ref st, .int 0, .null])) := by rw [eh2]; exact hp_up_s _ _ _
  refine lv_aload_n S.1 S.2.1 d_Pl_clear_10 rfl (lv_at hl 0 rfl) ?_
  refine hp_get S zz hJ h_t f_Pl_15 rfl d_Pl_clear_11 ?_
  refine lv_iconst (v := 0) S.1 S.2.1 d_Pl_clear_14 (by decide) ?_
  refine hp_doneWv hJ (hp_runS S zz0 (c_JA_fill l dC dI cA A _ bl 0 n f (by omega) h_bl) l_Pl_30 (hJ.pre _) (by decide) rfl hl.1 rfl (nl rfl) d_Pl_clear_15 (by decide)) (fun h3 H locs eh3 hJ => ?_)
  have h0_bl := h_bl
  have h_t : h3 t = some (.inr (5, [.int (nI n), .ref bl, .ref st, .int 0, .null])) := by rw [eh3]; exact hp_up_k (hp_ne h_t h0_bl (show ((0, 5) : Nat × Nat) ≠ (1, 0) by decide)) h_t
  have h_st : h3 st = some (k_in (cA 2) n g) := by rw [eh3]; exact hp_up_k (Ne.symm ne_bl_st) h_st
  have h_bl : h3 bl = some (k_in (cA 0) n (q_fl f 0 n)) := by rw [eh3]; exact hp_up_s _ _ _
  refine lv_iconst (v := 0) S.1 S.2.1 d_Pl_clear_18 (by decide) ?_
  refine lv_istore_n (lv' := [(1, .int 0), (0, .ref t)]) S.1 S.2.1 d_Pl_clear_19 rfl hl (by decide) rfl (fun ls hl => ?_)
  have h_t3 := h_t
  have h_st3 := h_st
  have LP : ∀ (n_ y : Nat) (hc : hp_T) (H : Heap) (locs : List Loc) (ls : Array Slot), y + n_ = n → hc = hp_up h3 st (k_in (cA 2) n (q_fl g 0 y)) → hp_J (gg dC dI cA) A hc s H locs → lv_has ls 2 [(1, .int (nI y)), (0, .ref t)] → W p l e ({ frames := 1, cells := 0, slots := 0, locals := 23 }) s m ([.ref t] : List Value).toArray below meth c H locs 0 0 (MQ below (hp_QW (gg dC dI cA) A hp_mv (fun _ h' => h' = hp_up (hp_up (hp_up h t (k_Pl (nI n) bl st 0 none)) bl (k_in (cA 0) n (q_fl f 0 n))) st (k_in (cA 2) n (q_fl g 0 n)))) ([.ref t] : List Value).toArray s 0 0 A) (F0 m 20 ls []) := by
    intro n_
    induction n_ with
    | zero =>
      intro y hc H locs ls hu_ ehc hJ hl
      have h_st : hc st = some (k_in (cA 2) n (q_fl g 0 y)) := by rw [ehc]; exact hp_up_s _ _ _
      have h_t : hc t = some (k_Pl (nI n) bl st 0 none) := by rw [ehc]; exact hp_up_k (hp_ne h_t3 h_st3 (show ((0, 5) : Nat × Nat) ≠ (1, 0) by decide)) h_t3
      refine lv_iload_n S.1 S.2.1 d_Pl_clear_20 rfl (lv_at hl 0 rfl) ?_
      refine lv_aload_n S.1 S.2.1 d_Pl_clear_21 rfl (lv_at hl 1 rfl) ?_
      refine hp_get S zz hJ h_t f_Pl_9 rfl d_Pl_clear_22 ?_
      obtain ⟨e_n, -⟩ : y = n ∧ True := ⟨by omega, trivial⟩
      refine lv_icmp_ge (tgt := 41) S.1 S.2.1 d_Pl_clear_25 (by decide) (fun _ => ?_) (fun q => absurd (by rw [e_n]; exact Int32.le_refl _) q)
      exact hp_retWv S hJ hr hlk d_Pl_clear_41 (by decide) (by rw [ehc, e_n, eh3, eh2, eh1, hp_up_up]; rfl)
    | succ n_ ih =>
      intro y hc H locs ls hu_ ehc hJ hl
      have h_st : hc st = some (k_in (cA 2) n (q_fl g 0 y)) := by rw [ehc]; exact hp_up_s _ _ _
      have h_t : hc t = some (k_Pl (nI n) bl st 0 none) := by rw [ehc]; exact hp_up_k (hp_ne h_t3 h_st3 (show ((0, 5) : Nat × Nat) ≠ (1, 0) by decide)) h_t3
      refine lv_iload_n S.1 S.2.1 d_Pl_clear_20 rfl (lv_at hl 0 rfl) ?_
      refine lv_aload_n S.1 S.2.1 d_Pl_clear_21 rfl (lv_at hl 1 rfl) ?_
      refine hp_get S zz hJ h_t f_Pl_9 rfl d_Pl_clear_22 ?_
      refine lv_icmp_ge (tgt := 41) S.1 S.2.1 d_Pl_clear_25 (by decide) (fun q => absurd q (nI_ge (a := y) (b := n) (by omega) (by omega))) (fun _ => ?_)
      refine lv_aload_n S.1 S.2.1 d_Pl_clear_28 rfl (lv_at hl 1 rfl) ?_
      refine hp_get S zz hJ h_t f_Pl_19 rfl d_Pl_clear_29 ?_
      refine lv_iload_n S.1 S.2.1 d_Pl_clear_32 rfl (lv_at hl 0 rfl) ?_
      refine lv_iconst (v := 0) S.1 S.2.1 d_Pl_clear_33 (by decide) ?_
      refine hp_zast S hJ 2 h_st rfl (vp_in_nI (by omega) (by omega)) d_Pl_clear_34 (fun H locs hJ => ?_)
      rw [nI_clamp (by omega), z_nar0, q_fl_s, ehc, hp_up_up] at hJ
      refine lv_iinc (v := nI (y + 1)) (lv' := [(1, .int (nI (y + 1))), (0, .ref t)]) S.1 S.2.1 d_Pl_clear_35 hl (k := 0) rfl (nI_1 _) (by decide) rfl (fun ls hl => ?_)
      refine lv_goto (tgt := 20) S.1 S.2.1 d_Pl_clear_38 (by decide) ?_
      exact ih (y + 1) _ _ _ ls (by omega) rfl hJ (lv_sub hl [0, 1] rfl)
  exact LP n 0 _ _ _ ls (by omega) (by rw [q_fl_0, hp_up_same h_st]) hJ (lv_sub hl [0, 1] rfl)

set_option maxHeartbeats 4000000 in
set_option maxRecDepth 100000 in
theorem cN_Pl_stir (l : Launch) (dC : Nat → ClassId) (dI : Nat → Nat → Nat) (cA : Nat → ClassId) (A : Nat → Prop) (h : hp_T) (t mk part ink bl st n a b : Nat) (sz left top x0 x1 so io : Int32) (nw bel bol : Option Nat) (f g : Nat → Int32) (hn : n ≤ 5100) (hab : a ≤ b ∧ b < n) (ne_bl_st : bl ≠ st) (h_t : h t = some (k_Pl (nI n) bl st sz nw)) (h_bl : h bl = some (k_in (cA 0) n f)) (h_st : h st = some (k_in (cA 2) n g)) (h_mk : h mk = some (k_Mk none left top part ink so io bel bol)) (h_part : h part = some (k_Bx x0 (nI a) x1 (nI b))) : Met l y_Pl_stir (.code y_Pl_stir prog_6_method_4_code 5 none :: BIG) ({ frames := 1, cells := 0, slots := 0, locals := 22 }) (va_Pc [.ref t, .ref mk] (hp_I (gg dC dI cA) A h)) (hp_QW (gg dC dI cA) A hp_mv (fun _ h' => h' = hp_up (hp_up h bl (k_in (cA 0) n (q_sa f a (b + 1)))) st (k_in (cA 2) n (q_sx (q_sz false g a (b + 1)) n (b + 1))))) 0 0 A := by
  refine hp_enter (by decide) (Nat.le_of_ble_eq_true rfl) ?_
  intro p e s m below meth c ls S hr hlk hin hI hl
  have hl : lv_has ls 5 [(0, .ref t), (1, .ref mk)] := hl
  have hJ := hI.J
  refine lv_iconst (v := 0) S.1 S.2.1 d_Pl_stir_0 (by decide) ?_
  refine lv_aload_n S.1 S.2.1 d_Pl_stir_1 rfl (lv_at hl 1 rfl) ?_
  refine hp_get S zz hJ h_mk f_Pl_36 rfl d_Pl_stir_2 ?_
  refine hp_get S zz hJ h_part f_Pl_55 rfl d_Pl_stir_5 ?_
  refine hp_max S l_Pl_58 hl.1 d_Pl_stir_8 ⟨nl rfl, nl rfl, nl rfl, nl rfl⟩ ?_
  rw [mx0 (by omega)]
  refine lv_istore_n (lv' := [(2, .int (nI a)), (0, .ref t), (1, .ref mk)]) S.1 S.2.1 d_Pl_stir_11 rfl hl (by decide) rfl (fun ls hl => ?_)
  refine lv_aload_n S.1 S.2.1 d_Pl_stir_12 rfl (lv_at hl 1 rfl) ?_
  refine hp_get S zz hJ h_t f_Pl_9 rfl d_Pl_stir_13 ?_
  refine lv_aload_n S.1 S.2.1 d_Pl_stir_16 rfl (lv_at hl 2 rfl) ?_
  refine hp_get S zz hJ h_mk f_Pl_36 rfl d_Pl_stir_17 ?_
  refine hp_get S zz hJ h_part f_Pl_64 rfl d_Pl_stir_20 ?_
  refine lv_iconst (v := 1) S.1 S.2.1 d_Pl_stir_23 (by decide) ?_
  refine lv_iadd S.1 S.2.1 d_Pl_stir_24 ?_
  refine hp_min S l_Pl_67 hl.1 d_Pl_stir_25 ⟨nl rfl, nl rfl, nl rfl, nl rfl⟩ ?_
  rw [mnb hab.2 (by omega)]
  refine lv_istore_n (lv' := [(3, .int (nI (b + 1))), (2, .int (nI a)), (0, .ref t), (1, .ref mk)]) S.1 S.2.1 d_Pl_stir_28 rfl hl (by decide) rfl (fun ls hl => ?_)
  refine lv_iload_n S.1 S.2.1 d_Pl_stir_29 rfl (lv_at hl 1 rfl) ?_
  refine lv_istore (lv' := [(4, .int (nI a)), (3, .int (nI (b + 1))), (2, .int (nI a)), (0, .ref t), (1, .ref mk)]) S.1 S.2.1 d_Pl_stir_30 hl (by decide) rfl (fun ls hl => ?_)
  have h_t0 := h_t
  have h_mk0 := h_mk
  have h_bl0 := h_bl
  have h_st0 := h_st
  have LP : ∀ (n_ y : Nat) (hc : hp_T) (H : Heap) (locs : List Loc) (ls : Array Slot), y + n_ = b + 1 → a ≤ y → hc = hp_up (hp_up h bl (k_in (cA 0) n (q_sa f a y))) st (k_in (cA 2) n (q_sz false g a y)) → hp_J (gg dC dI cA) A hc s H locs → lv_has ls 5 [(4, .int (nI y)), (3, .int (nI (b + 1))), (2, .int (nI a)), (0, .ref t), (1, .ref mk)] → W p l e ({ frames := 1, cells := 0, slots := 0, locals := 22 }) s m ([.ref t, .ref mk] : List Value).toArray below meth c H locs 0 0 (MQ below (hp_QW (gg dC dI cA) A hp_mv (fun _ h' => h' = hp_up (hp_up h bl (k_in (cA 0) n (q_sa f a (b + 1)))) st (k_in (cA 2) n (q_sx (q_sz false g a (b + 1)) n (b + 1))))) ([.ref t, .ref mk] : List Value).toArray s 0 0 A) (F0 m 32 ls []) := by
    intro n_
    induction n_ with
    | zero =>
      intro y hc H locs ls hu_ hay ehc hJ hl
      have h_st : hc st = some (k_in (cA 2) n (q_sz false g a y)) := by rw [ehc]; exact hp_up_s _ _ _
      have h_bl : hc bl = some (k_in (cA 0) n (q_sa f a y)) := by rw [ehc]; exact hp_up_k ne_bl_st (hp_up_s _ _ _)
      have h_t : hc t = some (k_Pl (nI n) bl st sz nw) := by rw [ehc]; exact hp_up_k (hp_ne h_t0 h_st0 (show ((0, 5) : Nat × Nat) ≠ (1, 0) by decide)) (hp_up_k (hp_ne h_t0 h_bl0 (show ((0, 5) : Nat × Nat) ≠ (1, 0) by decide)) h_t0)
      have h_mk : hc mk = some (k_Mk none left top part ink so io bel bol) := by rw [ehc]; exact hp_up_k (hp_ne h_mk0 h_st0 (show ((0, 3) : Nat × Nat) ≠ (1, 0) by decide)) (hp_up_k (hp_ne h_mk0 h_bl0 (show ((0, 3) : Nat × Nat) ≠ (1, 0) by decide)) h_mk0)
      refine lv_iload S.1 S.2.1 d_Pl_stir_32 (lv_at hl 0 rfl) ?_
      refine lv_iload_n S.1 S.2.1 d_Pl_stir_34 rfl (lv_at hl 1 rfl) ?_
      obtain ⟨e_n, -⟩ : y = b + 1 ∧ True := ⟨by omega, trivial⟩
      refine lv_icmp_ge (tgt := 73) S.1 S.2.1 d_Pl_stir_35 (by decide) (fun _ => ?_) (fun q => absurd (by rw [e_n]; exact Int32.le_refl _) q)
      refine lv_iconst (v := 0) S.1 S.2.1 d_Pl_stir_73 (by decide) ?_
      refine lv_iload_n S.1 S.2.1 d_Pl_stir_74 rfl (lv_at hl 1 rfl) ?_
      refine lv_aload_n S.1 S.2.1 d_Pl_stir_75 rfl (lv_at hl 3 rfl) ?_
      refine hp_get S zz hJ h_t f_Pl_9 rfl d_Pl_stir_76 ?_
      refine lv_iconst (v := 1) S.1 S.2.1 d_Pl_stir_79 (by decide) ?_
      refine lv_isub S.1 S.2.1 d_Pl_stir_80 ?_
      refine hp_doneR (hp_runN S zz hJ.2.1 (c_BP_isWithin l _ _ _) l_Pl_74 (hp_pre0 _) (by decide) rfl hl.1 rfl (nl rfl) d_Pl_stir_81 (by decide)) ?_
      refine lv_if_eq (tgt := 94) S.1 S.2.1 d_Pl_stir_84 (by decide) (fun c_84 => ?_) (fun c_84 => ?_)
      · exact hp_retWv S hJ hr hlk d_Pl_stir_94 (by decide) (by rw [ehc, e_n]; unfold q_sx; rw [if_neg (fun hbn => q_is_0.mp c_84 ⟨nI_pos' (by omega), by rw [show (1 : Int32) = nI 1 from rfl, pk_sub (by omega)]; exact nI_le (by omega) (by omega)⟩)])
      · refine lv_aload_n S.1 S.2.1 d_Pl_stir_87 rfl (lv_at hl 3 rfl) ?_
        refine hp_get S zz hJ h_t f_Pl_19 rfl d_Pl_stir_88 ?_
        refine lv_iload_n S.1 S.2.1 d_Pl_stir_91 rfl (lv_at hl 1 rfl) ?_
        refine lv_iconst (v := 1) S.1 S.2.1 d_Pl_stir_92 (by decide) ?_
        have hbn : b + 1 < n := by have q := (q_is_ne.mp c_84).2; rw [show (1 : Int32) = nI 1 from rfl, pk_sub (by omega)] at q; have q := (nI_leI (by omega) (by omega)).mp q; omega
        refine hp_zast S hJ 2 h_st rfl (vp_in_nI (by omega) (by omega)) d_Pl_stir_93 (fun H locs hJ => ?_)
        rw [nI_clamp (by omega), z_nar1, ehc, hp_up_up] at hJ
        exact hp_retWv S hJ hr hlk d_Pl_stir_94 (by decide) (by rw [e_n]; unfold q_sx; rw [if_pos hbn])
    | succ n_ ih =>
      intro y hc H locs ls hu_ hay ehc hJ hl
      have h_st : hc st = some (k_in (cA 2) n (q_sz false g a y)) := by rw [ehc]; exact hp_up_s _ _ _
      have h_bl : hc bl = some (k_in (cA 0) n (q_sa f a y)) := by rw [ehc]; exact hp_up_k ne_bl_st (hp_up_s _ _ _)
      have h_t : hc t = some (k_Pl (nI n) bl st sz nw) := by rw [ehc]; exact hp_up_k (hp_ne h_t0 h_st0 (show ((0, 5) : Nat × Nat) ≠ (1, 0) by decide)) (hp_up_k (hp_ne h_t0 h_bl0 (show ((0, 5) : Nat × Nat) ≠ (1, 0) by decide)) h_t0)
      have h_mk : hc mk = some (k_Mk none left top part ink so io bel bol) := by rw [ehc]; exact hp_up_k (hp_ne h_mk0 h_st0 (show ((0, 3) : Nat × Nat) ≠ (1, 0) by decide)) (hp_up_k (hp_ne h_mk0 h_bl0 (show ((0, 3) : Nat × Nat) ≠ (1, 0) by decide)) h_mk0)
      refine lv_iload S.1 S.2.1 d_Pl_stir_32 (lv_at hl 0 rfl) ?_
      refine lv_iload_n S.1 S.2.1 d_Pl_stir_34 rfl (lv_at hl 1 rfl) ?_
      refine lv_icmp_ge (tgt := 73) S.1 S.2.1 d_Pl_stir_35 (by decide) (fun q => absurd q (nI_ge (a := y) (b := b + 1) (by omega) (by omega))) (fun _ => ?_)
      refine lv_aload_n S.1 S.2.1 d_Pl_stir_38 rfl (lv_at hl 3 rfl) ?_
      refine hp_get S zz hJ h_t f_Pl_15 rfl d_Pl_stir_39 ?_
      refine lv_iload S.1 S.2.1 d_Pl_stir_42 (lv_at hl 0 rfl) ?_
      refine lv_iconst (v := (-1)) S.1 S.2.1 d_Pl_stir_44 (by decide) ?_
      refine hp_iast S hJ 0 h_bl rfl (vp_in_nI (by omega) (by omega)) d_Pl_stir_45 (fun H locs hJ => ?_)
      rw [nI_clamp (by omega), q_sa_s f hay, ehc, hp_up_comm _ _ _ (Ne.symm ne_bl_st), hp_up_up] at hJ
      obtain ⟨hd, ehd⟩ : ∃ z, z = hp_up (hp_up h bl (k_in (cA 0) n (q_sa f a (y + 1)))) st (k_in (cA 2) n (q_sz false g a y)) := ⟨_, rfl⟩
      have hJ := hJ.cast ehd
      have h_st : hd st = some (k_in (cA 2) n (q_sz false g a y)) := by rw [ehd]; exact hp_up_s _ _ _
      have h_t : hd t = some (k_Pl (nI n) bl st sz nw) := by rw [ehd]; exact hp_up_k (hp_ne h_t0 h_st0 (show ((0, 5) : Nat × Nat) ≠ (1, 0) by decide)) (hp_up_k (hp_ne h_t0 h_bl0 (show ((0, 5) : Nat × Nat) ≠ (1, 0) by decide)) h_t0)
      have h_mk : hd mk = some (k_Mk none left top part ink so io bel bol) := by rw [ehd]; exact hp_up_k (hp_ne h_mk0 h_st0 (show ((0, 3) : Nat × Nat) ≠ (1, 0) by decide)) (hp_up_k (hp_ne h_mk0 h_bl0 (show ((0, 3) : Nat × Nat) ≠ (1, 0) by decide)) h_mk0)
      refine lv_aload_n S.1 S.2.1 d_Pl_stir_46 rfl (lv_at hl 4 rfl) ?_
      refine hp_get S zz hJ h_mk f_Pl_70 rfl d_Pl_stir_47 ?_
      refine lv_ifnonnullN S.1 S.2.1 d_Pl_stir_50 ?_
      refine lv_iload S.1 S.2.1 d_Pl_stir_53 (lv_at hl 0 rfl) ?_
      refine lv_iload_n S.1 S.2.1 d_Pl_stir_55 rfl (lv_at hl 2 rfl) ?_
      refine lv_icmp_ne (tgt := 67) S.1 S.2.1 d_Pl_stir_56 (by decide) (fun c_56 => ?_) (fun c_56 => ?_)
      · refine lv_iinc (v := nI (y + 1)) (lv' := [(4, .int (nI (y + 1))), (3, .int (nI (b + 1))), (2, .int (nI a)), (0, .ref t), (1, .ref mk)]) S.1 S.2.1 d_Pl_stir_67 hl (k := 0) rfl (nI_1 _) (by decide) rfl (fun ls hl => ?_)
        refine lv_goto (tgt := 32) S.1 S.2.1 d_Pl_stir_70 (by decide) ?_
        exact ih (y + 1) _ _ _ ls (by omega) (by omega) (by rw [← q_sz_f g (fun q => q.elim (by decide) (fun z => c_56 (by rw [z])))]; exact ehd) hJ (lv_sub hl [0, 1, 2, 3, 4] rfl)
      · refine lv_aload_n S.1 S.2.1 d_Pl_stir_59 rfl (lv_at hl 3 rfl) ?_
        refine hp_get S zz hJ h_t f_Pl_19 rfl d_Pl_stir_60 ?_
        refine lv_iload S.1 S.2.1 d_Pl_stir_63 (lv_at hl 0 rfl) ?_
        refine lv_iconst (v := 1) S.1 S.2.1 d_Pl_stir_65 (by decide) ?_
        refine hp_zast S hJ 2 h_st rfl (vp_in_nI (by omega) (by omega)) d_Pl_stir_66 (fun H locs hJ => ?_)
        rw [nI_clamp (by omega), z_nar1, q_sz_t g hay (Or.inr ((nI_eq (by omega) (by omega)).mp c_56)), ehd, hp_up_up] at hJ
        refine lv_iinc (v := nI (y + 1)) (lv' := [(4, .int (nI (y + 1))), (3, .int (nI (b + 1))), (2, .int (nI a)), (0, .ref t), (1, .ref mk)]) S.1 S.2.1 d_Pl_stir_67 hl (k := 0) rfl (nI_1 _) (by decide) rfl (fun ls hl => ?_)
        refine lv_goto (tgt := 32) S.1 S.2.1 d_Pl_stir_70 (by decide) ?_
        exact ih (y + 1) _ _ _ ls (by omega) (by omega) rfl hJ (lv_sub hl [0, 1, 2, 3, 4] rfl)
  exact LP (b + 1 - a) a _ _ _ ls (by omega) (Nat.le_refl _) (by rw [q_sa_0, q_sz_0, hp_up_same h_bl, hp_up_same h_st]) hJ (lv_sub hl [0, 1, 2, 3, 4] rfl)

set_option maxHeartbeats 4000000 in
set_option maxRecDepth 100000 in
theorem cS_Pl_stir (l : Launch) (dC : Nat → ClassId) (dI : Nat → Nat → Nat) (cA : Nat → ClassId) (A : Nat → Prop) (h : hp_T) (t mk part ink bl st n a b : Nat) (pic : Nat) (sz left top x0 x1 so io : Int32) (nw bel bol : Option Nat) (f g : Nat → Int32) (hn : n ≤ 5100) (hab : a ≤ b ∧ b < n) (ne_bl_st : bl ≠ st) (h_t : h t = some (k_Pl (nI n) bl st sz nw)) (h_bl : h bl = some (k_in (cA 0) n f)) (h_st : h st = some (k_in (cA 2) n g)) (h_mk : h mk = some (k_Mk (some pic) left top part ink so io bel bol)) (h_part : h part = some (k_Bx x0 (nI a) x1 (nI b))) : Met l y_Pl_stir (.code y_Pl_stir prog_6_method_4_code 5 none :: BIG) ({ frames := 1, cells := 0, slots := 0, locals := 22 }) (va_Pc [.ref t, .ref mk] (hp_I (gg dC dI cA) A h)) (hp_QW (gg dC dI cA) A hp_mv (fun _ h' => h' = hp_up (hp_up h bl (k_in (cA 0) n (q_sa f a (b + 1)))) st (k_in (cA 2) n (q_sx (q_sz true g a (b + 1)) n (b + 1))))) 0 0 A := by
  refine hp_enter (by decide) (Nat.le_of_ble_eq_true rfl) ?_
  intro p e s m below meth c ls S hr hlk hin hI hl
  have hl : lv_has ls 5 [(0, .ref t), (1, .ref mk)] := hl
  have hJ := hI.J
  refine lv_iconst (v := 0) S.1 S.2.1 d_Pl_stir_0 (by decide) ?_
  refine lv_aload_n S.1 S.2.1 d_Pl_stir_1 rfl (lv_at hl 1 rfl) ?_
  refine hp_get S zz hJ h_mk f_Pl_36 rfl d_Pl_stir_2 ?_
  refine hp_get S zz hJ h_part f_Pl_55 rfl d_Pl_stir_5 ?_
  refine hp_max S l_Pl_58 hl.1 d_Pl_stir_8 ⟨nl rfl, nl rfl, nl rfl, nl rfl⟩ ?_
  rw [mx0 (by omega)]
  refine lv_istore_n (lv' := [(2, .int (nI a)), (0, .ref t), (1, .ref mk)]) S.1 S.2.1 d_Pl_stir_11 rfl hl (by decide) rfl (fun ls hl => ?_)
  refine lv_aload_n S.1 S.2.1 d_Pl_stir_12 rfl (lv_at hl 1 rfl) ?_
  refine hp_get S zz hJ h_t f_Pl_9 rfl d_Pl_stir_13 ?_
  refine lv_aload_n S.1 S.2.1 d_Pl_stir_16 rfl (lv_at hl 2 rfl) ?_
  refine hp_get S zz hJ h_mk f_Pl_36 rfl d_Pl_stir_17 ?_
  refine hp_get S zz hJ h_part f_Pl_64 rfl d_Pl_stir_20 ?_
  refine lv_iconst (v := 1) S.1 S.2.1 d_Pl_stir_23 (by decide) ?_
  refine lv_iadd S.1 S.2.1 d_Pl_stir_24 ?_
  refine hp_min S l_Pl_67 hl.1 d_Pl_stir_25 ⟨nl rfl, nl rfl, nl rfl, nl rfl⟩ ?_
  rw [mnb hab.2 (by omega)]
  refine lv_istore_n (lv' := [(3, .int (nI (b + 1))), (2, .int (nI a)), (0, .ref t), (1, .ref mk)]) S.1 S.2.1 d_Pl_stir_28 rfl hl (by decide) rfl (fun ls hl => ?_)
  refine lv_iload_n S.1 S.2.1 d_Pl_stir_29 rfl (lv_at hl 1 rfl) ?_
  refine lv_istore (lv' := [(4, .int (nI a)), (3, .int (nI (b + 1))), (2, .int (nI a)), (0, .ref t), (1, .ref mk)]) S.1 S.2.1 d_Pl_stir_30 hl (by decide) rfl (fun ls hl => ?_)
  have h_t0 := h_t
  have h_mk0 := h_mk
  have h_bl0 := h_bl
  have h_st0 := h_st
  have LP : ∀ (n_ y : Nat) (hc : hp_T) (H : Heap) (locs : List Loc) (ls : Array Slot), y + n_ = b + 1 → a ≤ y → hc = hp_up (hp_up h bl (k_in (cA 0) n (q_sa f a y))) st (k_in (cA 2) n (q_sz true g a y)) → hp_J (gg dC dI cA) A hc s H locs → lv_has ls 5 [(4, .int (nI y)), (3, .int (nI (b + 1))), (2, .int (nI a)), (0, .ref t), (1, .ref mk)] → W p l e ({ frames := 1, cells := 0, slots := 0, locals := 22 }) s m ([.ref t, .ref mk] : List Value).toArray below meth c H locs 0 0 (MQ below (hp_QW (gg dC dI cA) A hp_mv (fun _ h' => h' = hp_up (hp_up h bl (k_in (cA 0) n (q_sa f a (b + 1)))) st (k_in (cA 2) n (q_sx (q_sz true g a (b + 1)) n (b + 1))))) ([.ref t, .ref mk] : List Value).toArray s 0 0 A) (F0 m 32 ls []) := by
    intro n_
    induction n_ with
    | zero =>
      intro y hc H locs ls hu_ hay ehc hJ hl
      have h_st : hc st = some (k_in (cA 2) n (q_sz true g a y)) := by rw [ehc]; exact hp_up_s _ _ _
      have h_bl : hc bl = some (k_in (cA 0) n (q_sa f a y)) := by rw [ehc]; exact hp_up_k ne_bl_st (hp_up_s _ _ _)
      have h_t : hc t = some (k_Pl (nI n) bl st sz nw) := by rw [ehc]; exact hp_up_k (hp_ne h_t0 h_st0 (show ((0, 5) : Nat × Nat) ≠ (1, 0) by decide)) (hp_up_k (hp_ne h_t0 h_bl0 (show ((0, 5) : Nat × Nat) ≠ (1, 0) by decide)) h_t0)
      have h_mk : hc mk = some (k_Mk (some pic) left top part ink so io bel bol) := by rw [ehc]; exact hp_up_k (hp_ne h_mk0 h_st0 (show ((0, 3) : Nat × Nat) ≠ (1, 0) by decide)) (hp_up_k (hp_ne h_mk0 h_bl0 (show ((0, 3) : Nat × Nat) ≠ (1, 0) by decide)) h_mk0)
      refine lv_iload S.1 S.2.1 d_Pl_stir_32 (lv_at hl 0 rfl) ?_
      refine lv_iload_n S.1 S.2.1 d_Pl_stir_34 rfl (lv_at hl 1 rfl) ?_
      obtain ⟨e_n, -⟩ : y = b + 1 ∧ True := ⟨by omega, trivial⟩
      refine lv_icmp_ge (tgt := 73) S.1 S.2.1 d_Pl_stir_35 (by decide) (fun _ => ?_) (fun q => absurd (by rw [e_n]; exact Int32.le_refl _) q)
      refine lv_iconst (v := 0) S.1 S.2.1 d_Pl_stir_73 (by decide) ?_
      refine lv_iload_n S.1 S.2.1 d_Pl_stir_74 rfl (lv_at hl 1 rfl) ?_
      refine lv_aload_n S.1 S.2.1 d_Pl_stir_75 rfl (lv_at hl 3 rfl) ?_
      refine hp_get S zz hJ h_t f_Pl_9 rfl d_Pl_stir_76 ?_
      refine lv_iconst (v := 1) S.1 S.2.1 d_Pl_stir_79 (by decide) ?_
      refine lv_isub S.1 S.2.1 d_Pl_stir_80 ?_
      refine hp_doneR (hp_runN S zz hJ.2.1 (c_BP_isWithin l _ _ _) l_Pl_74 (hp_pre0 _) (by decide) rfl hl.1 rfl (nl rfl) d_Pl_stir_81 (by decide)) ?_
      refine lv_if_eq (tgt := 94) S.1 S.2.1 d_Pl_stir_84 (by decide) (fun c_84 => ?_) (fun c_84 => ?_)
      · exact hp_retWv S hJ hr hlk d_Pl_stir_94 (by decide) (by rw [ehc, e_n]; unfold q_sx; rw [if_neg (fun hbn => q_is_0.mp c_84 ⟨nI_pos' (by omega), by rw [show (1 : Int32) = nI 1 from rfl, pk_sub (by omega)]; exact nI_le (by omega) (by omega)⟩)])
      · refine lv_aload_n S.1 S.2.1 d_Pl_stir_87 rfl (lv_at hl 3 rfl) ?_
        refine hp_get S zz hJ h_t f_Pl_19 rfl d_Pl_stir_88 ?_
        refine lv_iload_n S.1 S.2.1 d_Pl_stir_91 rfl (lv_at hl 1 rfl) ?_
        refine lv_iconst (v := 1) S.1 S.2.1 d_Pl_stir_92 (by decide) ?_
        have hbn : b + 1 < n := by have q := (q_is_ne.mp c_84).2; rw [show (1 : Int32) = nI 1 from rfl, pk_sub (by omega)] at q; have q := (nI_leI (by omega) (by omega)).mp q; omega
        refine hp_zast S hJ 2 h_st rfl (vp_in_nI (by omega) (by omega)) d_Pl_stir_93 (fun H locs hJ => ?_)
        rw [nI_clamp (by omega), z_nar1, ehc, hp_up_up] at hJ
        exact hp_retWv S hJ hr hlk d_Pl_stir_94 (by decide) (by rw [e_n]; unfold q_sx; rw [if_pos hbn])
    | succ n_ ih =>
      intro y hc H locs ls hu_ hay ehc hJ hl
      have h_st : hc st = some (k_in (cA 2) n (q_sz true g a y)) := by rw [ehc]; exact hp_up_s _ _ _
      have h_bl : hc bl = some (k_in (cA 0) n (q_sa f a y)) := by rw [ehc]; exact hp_up_k ne_bl_st (hp_up_s _ _ _)
      have h_t : hc t = some (k_Pl (nI n) bl st sz nw) := by rw [ehc]; exact hp_up_k (hp_ne h_t0 h_st0 (show ((0, 5) : Nat × Nat) ≠ (1, 0) by decide)) (hp_up_k (hp_ne h_t0 h_bl0 (show ((0, 5) : Nat × Nat) ≠ (1, 0) by decide)) h_t0)
      have h_mk : hc mk = some (k_Mk (some pic) left top part ink so io bel bol) := by rw [ehc]; exact hp_up_k (hp_ne h_mk0 h_st0 (show ((0, 3) : Nat × Nat) ≠ (1, 0) by decide)) (hp_up_k (hp_ne h_mk0 h_bl0 (show ((0, 3) : Nat × Nat) ≠ (1, 0) by decide)) h_mk0)
      refine lv_iload S.1 S.2.1 d_Pl_stir_32 (lv_at hl 0 rfl) ?_
      refine lv_iload_n S.1 S.2.1 d_Pl_stir_34 rfl (lv_at hl 1 rfl) ?_
      refine lv_icmp_ge (tgt := 73) S.1 S.2.1 d_Pl_stir_35 (by decide) (fun q => absurd q (nI_ge (a := y) (b := b + 1) (by omega) (by omega))) (fun _ => ?_)
      refine lv_aload_n S.1 S.2.1 d_Pl_stir_38 rfl (lv_at hl 3 rfl) ?_
      refine hp_get S zz hJ h_t f_Pl_15 rfl d_Pl_stir_39 ?_
      refine lv_iload S.1 S.2.1 d_Pl_stir_42 (lv_at hl 0 rfl) ?_
      refine lv_iconst (v := (-1)) S.1 S.2.1 d_Pl_stir_44 (by decide) ?_
      refine hp_iast S hJ 0 h_bl rfl (vp_in_nI (by omega) (by omega)) d_Pl_stir_45 (fun H locs hJ => ?_)
      rw [nI_clamp (by omega), q_sa_s f hay, ehc, hp_up_comm _ _ _ (Ne.symm ne_bl_st), hp_up_up] at hJ
      obtain ⟨hd, ehd⟩ : ∃ z, z = hp_up (hp_up h bl (k_in (cA 0) n (q_sa f a (y + 1)))) st (k_in (cA 2) n (q_sz true g a y)) := ⟨_, rfl⟩
      have hJ := hJ.cast ehd
      have h_st : hd st = some (k_in (cA 2) n (q_sz true g a y)) := by rw [ehd]; exact hp_up_s _ _ _
      have h_t : hd t = some (k_Pl (nI n) bl st sz nw) := by rw [ehd]; exact hp_up_k (hp_ne h_t0 h_st0 (show ((0, 5) : Nat × Nat) ≠ (1, 0) by decide)) (hp_up_k (hp_ne h_t0 h_bl0 (show ((0, 5) : Nat × Nat) ≠ (1, 0) by decide)) h_t0)
      have h_mk : hd mk = some (k_Mk (some pic) left top part ink so io bel bol) := by rw [ehd]; exact hp_up_k (hp_ne h_mk0 h_st0 (show ((0, 3) : Nat × Nat) ≠ (1, 0) by decide)) (hp_up_k (hp_ne h_mk0 h_bl0 (show ((0, 3) : Nat × Nat) ≠ (1, 0) by decide)) h_mk0)
      refine lv_aload_n S.1 S.2.1 d_Pl_stir_46 rfl (lv_at hl 4 rfl) ?_
      refine hp_get S zz hJ h_mk f_Pl_70 rfl d_Pl_stir_47 ?_
      refine lv_ifnonnull (tgt := 59) S.1 S.2.1 d_Pl_stir_50 (by decide) ?_
      refine lv_aload_n S.1 S.2.1 d_Pl_stir_59 rfl (lv_at hl 3 rfl) ?_
      refine hp_get S zz hJ h_t f_Pl_19 rfl d_Pl_stir_60 ?_
      refine lv_iload S.1 S.2.1 d_Pl_stir_63 (lv_at hl 0 rfl) ?_
      refine lv_iconst (v := 1) S.1 S.2.1 d_Pl_stir_65 (by decide) ?_
      refine hp_zast S hJ 2 h_st rfl (vp_in_nI (by omega) (by omega)) d_Pl_stir_66 (fun H locs hJ => ?_)
      rw [nI_clamp (by omega), z_nar1, q_sz_t g hay (Or.inl rfl), ehd, hp_up_up] at hJ
      refine lv_iinc (v := nI (y + 1)) (lv' := [(4, .int (nI (y + 1))), (3, .int (nI (b + 1))), (2, .int (nI a)), (0, .ref t), (1, .ref mk)]) S.1 S.2.1 d_Pl_stir_67 hl (k := 0) rfl (nI_1 _) (by decide) rfl (fun ls hl => ?_)
      refine lv_goto (tgt := 32) S.1 S.2.1 d_Pl_stir_70 (by decide) ?_
      exact ih (y + 1) _ _ _ ls (by omega) (by omega) rfl hJ (lv_sub hl [0, 1, 2, 3, 4] rfl)
  exact LP (b + 1 - a) a _ _ _ ls (by omega) (Nat.le_refl _) (by rw [q_sa_0, q_sz_0, hp_up_same h_bl, hp_up_same h_st]) hJ (lv_sub hl [0, 1, 2, 3, 4] rfl)
end
section
/-! Piles: a mark added; whether a line is like the one above. -/
theorem rf_n {ty : String} (r : Option Nat) : narrow (.object ty) (va_rf r) = va_rf r := by cases r <;> rfl
theorem rf_f {ty : String} (r : Option Nat) : fits (.object ty) (va_rf r) = true := by cases r <;> rfl
/-- no stirred line among y, y - 1, .. y - k + 1 -/
def q_la (g : Nat → Int32) (y : Nat) : Nat → Bool
  | 0 => true
  | k + 1 => q_la g y k && decide (g (y - k) = 0)

set_option maxHeartbeats 4000000 in
set_option maxRecDepth 100000 in
theorem cE_Pl_add (l : Launch) (dC : Nat → ClassId) (dI : Nat → Nat → Nat) (cA : Nat → ClassId) (A : Nat → Prop) (h : hp_T) (t mk part ink bl st n : Nat) (pic : Option Nat) (sz left top x0 y0 x1 y1 so io : Int32) (nw bel bol : Option Nat) (hE : x1 < x0 ∨ y1 < y0) (h_t : h t = some (k_Pl (nI n) bl st sz nw)) (h_mk : h mk = some (k_Mk pic left top part ink so io bel bol)) (h_part : h part = some (k_Bx x0 y0 x1 y1)) : Met l y_Pl_add (.code y_Pl_add prog_6_method_3_code 2 none :: BIG) ({ frames := 2, cells := 0, slots := 0, locals := 46 }) (va_Pc [.ref t, .ref mk] (hp_I (gg dC dI cA) A h)) (hp_QW (gg dC dI cA) A hp_mv (fun _ h' => h' = hp_up h t (k_Pl (nI n) bl st (sz + 1) nw))) 0 0 A := by
  refine hp_enter (by decide) (Nat.le_of_ble_eq_true rfl) ?_
  intro p e s m below meth c ls S hr hlk hin hI hl
  have hl : lv_has ls 2 [(0, .ref t), (1, .ref mk)] := hl
  have hJ := hI.J
  refine lv_aload_n S.1 S.2.1 d_Pl_add_0 rfl (lv_at hl 0 rfl) ?_
  refine lv_dup S.1 S.2.1 d_Pl_add_1 rfl ?_
  refine hp_get S zz hJ h_t f_Pl_23 rfl d_Pl_add_2 ?_
  refine lv_iconst (v := 1) S.1 S.2.1 d_Pl_add_5 (by decide) ?_
  refine lv_iadd S.1 S.2.1 d_Pl_add_6 ?_
  refine hp_put S zz hJ h_t fp_Pl_23 rfl rfl (nl rfl) d_Pl_add_7 (fun H locs hJ => ?_)
  obtain ⟨h1, eh1⟩ : ∃ z, z = hp_up h t (.inr (5, [.int (nI n), .ref bl, .ref st, .int (sz + (1 : Int32)), va_rf nw])) := ⟨_, rfl⟩
  have hJ := hJ.cast eh1
  have h0_t := h_t
  have h_mk : h1 mk = some (.inr (3, [va_rf pic, .int left, .int top, .ref part, .ref ink, .int so, .int io, va_rf bel, va_rf bol])) := by rw [eh1]; exact hp_up_k (hp_ne h_mk h0_t (show ((0, 3) : Nat × Nat) ≠ (0, 5) by decide)) h_mk
  have h_part : h1 part = some (.inr (1, [.int x0, .int y0, .int x1, .int y1])) := by rw [eh1]; exact hp_up_k (hp_ne h_part h0_t (show ((0, 1) : Nat × Nat) ≠ (0, 5) by decide)) h_part
  have h_t : h1 t = some (.inr (5, [.int (nI n), .ref bl, .ref st, .int (sz + (1 : Int32)), va_rf nw])) := by rw [eh1]; exact hp_up_s _ _ _
  refine lv_aload_n S.1 S.2.1 d_Pl_add_10 rfl (lv_at hl 1 rfl) ?_
  refine hp_get S zz hJ h_mk f_Pl_36 rfl d_Pl_add_11 ?_
  refine hp_doneR (hp_runV S zz0 (c_Bx_isEmpty l dC dI cA A _ part _ _ _ _ h_part) l_Pl_42 (hJ.preV _ h_part rfl) (by decide) rfl hl.1 rfl (nl rfl) d_Pl_add_14 (by decide)) ?_
  refine lv_if_eq (tgt := 21) S.1 S.2.1 d_Pl_add_17 (by decide) (fun q => absurd hE (q_is_0.mp q)) (fun _ => ?_)
  exact hp_retWv S hJ hr hlk d_Pl_add_20 (by decide) eh1

set_option maxHeartbeats 4000000 in
set_option maxRecDepth 100000 in
theorem cN_Pl_add (l : Launch) (dC : Nat → ClassId) (dI : Nat → Nat → Nat) (cA : Nat → ClassId) (A : Nat → Prop) (h : hp_T) (t mk part ink bl st n a b : Nat) (sz left top x0 x1 so io : Int32) (nw bel bol : Option Nat) (f g : Nat → Int32) (hn : n ≤ 5100) (hab : a ≤ b ∧ b < n) (hx : ¬ x1 < x0) (ne_bl_st : bl ≠ st) (h_t : h t = some (k_Pl (nI n) bl st sz nw)) (h_bl : h bl = some (k_in (cA 0) n f)) (h_st : h st = some (k_in (cA 2) n g)) (h_mk : h mk = some (k_Mk none left top part ink so io bel bol)) (h_part : h part = some (k_Bx x0 (nI a) x1 (nI b))) : Met l y_Pl_add (.code y_Pl_add prog_6_method_3_code 2 none :: BIG) ({ frames := 2, cells := 0, slots := 0, locals := 46 }) (va_Pc [.ref t, .ref mk] (hp_I (gg dC dI cA) A h)) (hp_QW (gg dC dI cA) A hp_mv (fun _ h' => h' = hp_up (hp_up (hp_up (hp_up h mk (k_Mk none left top part ink so io nw bol)) t (k_Pl (nI n) bl st (sz + 1) (some mk))) bl (k_in (cA 0) n (q_sa f a (b + 1)))) st (k_in (cA 2) n (q_sx (q_sz false g a (b + 1)) n (b + 1))))) 0 0 A := by
  refine hp_enter (by decide) (Nat.le_of_ble_eq_true rfl) ?_
  intro p e s m below meth c ls S hr hlk hin hI hl
  have hl : lv_has ls 2 [(0, .ref t), (1, .ref mk)] := hl
  have hJ := hI.J
  refine lv_aload_n S.1 S.2.1 d_Pl_add_0 rfl (lv_at hl 0 rfl) ?_
  refine lv_dup S.1 S.2.1 d_Pl_add_1 rfl ?_
  refine hp_get S zz hJ h_t f_Pl_23 rfl d_Pl_add_2 ?_
  refine lv_iconst (v := 1) S.1 S.2.1 d_Pl_add_5 (by decide) ?_
  refine lv_iadd S.1 S.2.1 d_Pl_add_6 ?_
  refine hp_put S zz hJ h_t fp_Pl_23 rfl rfl (nl rfl) d_Pl_add_7 (fun H locs hJ => ?_)
  obtain ⟨h1, eh1⟩ : ∃ z, z = hp_up h t (.inr (5, [.int (nI n), .ref bl, .ref st, .int (sz + (1 : Int32)), va_rf nw])) := ⟨_, rfl⟩
  have hJ := hJ.cast eh1
  have h0_t := h_t
  have h_mk : h1 mk = some (.inr (3, [.null, .int left, .int top, .ref part, .ref ink, .int so, .int io, va_rf bel, va_rf bol])) := by rw [eh1]; exact hp_up_k (hp_ne h_mk h0_t (show ((0, 3) : Nat × Nat) ≠ (0, 5) by decide)) h_mk
  have h_part : h1 part = some (.inr (1, [.int x0, .int (nI a), .int x1, .int (nI b)])) := by rw [eh1]; exact hp_up_k (hp_ne h_part h0_t (show ((0, 1) : Nat × Nat) ≠ (0, 5) by decide)) h_part
  have h_bl : h1 bl = some (k_in (cA 0) n f) := by rw [eh1]; exact hp_up_k (hp_ne h_bl h0_t (show ((1, 0) : Nat × Nat) ≠ (0, 5) by decide)) h_bl
  have h_st : h1 st = some (k_in (cA 2) n g) := by rw [eh1]; exact hp_up_k (hp_ne h_st h0_t (show ((1, 0) : Nat × Nat) ≠ (0, 5) by decide)) h_st
  have h_t : h1 t = some (.inr (5, [.int (nI n), .ref bl, .ref st, .int (sz + (1 : Int32)), va_rf nw])) := by rw [eh1]; exact hp_up_s _ _ _
  refine lv_aload_n S.1 S.2.1 d_Pl_add_10 rfl (lv_at hl 1 rfl) ?_
  refine hp_get S zz hJ h_mk f_Pl_36 rfl d_Pl_add_11 ?_
  refine hp_doneR (hp_runV S zz0 (c_Bx_isEmpty l dC dI cA A _ part _ _ _ _ h_part) l_Pl_42 (hJ.preV _ h_part rfl) (by decide) rfl hl.1 rfl (nl rfl) d_Pl_add_14 (by decide)) ?_
  refine lv_if_eq (tgt := 21) S.1 S.2.1 d_Pl_add_17 (by decide) (fun _ => ?_) (fun q => absurd (q_is_ne.mp q) (fun z => z.elim hx (fun z => nI_nlt hab.1 (by omega) z)))
  refine lv_aload_n S.1 S.2.1 d_Pl_add_21 rfl (lv_at hl 1 rfl) ?_
  refine lv_aload_n S.1 S.2.1 d_Pl_add_22 rfl (lv_at hl 0 rfl) ?_
  refine hp_get S zz hJ h_t f_Pl_26 rfl d_Pl_add_23 ?_
  refine hp_put S zz hJ h_mk fp_Pl_48 (rf_n _) (rf_f _) (nl rfl) d_Pl_add_26 (fun H locs hJ => ?_)
  obtain ⟨h2, eh2⟩ : ∃ z, z = hp_up h1 mk (.inr (3, [.null, .int left, .int top, .ref part, .ref ink, .int so, .int io, va_rf nw, va_rf bol])) := ⟨_, rfl⟩
  have hJ := hJ.cast eh2
  have h0_mk := h_mk
  have h_t : h2 t = some (.inr (5, [.int (nI n), .ref bl, .ref st, .int (sz + (1 : Int32)), va_rf nw])) := by rw [eh2]; exact hp_up_k (hp_ne h_t h0_mk (show ((0, 5) : Nat × Nat) ≠ (0, 3) by decide)) h_t
  have h_part : h2 part = some (.inr (1, [.int x0, .int (nI a), .int x1, .int (nI b)])) := by rw [eh2]; exact hp_up_k (hp_ne h_part h0_mk (show ((0, 1) : Nat × Nat) ≠ (0, 3) by decide)) h_part
  have h_bl : h2 bl = some (k_in (cA 0) n f) := by rw [eh2]; exact hp_up_k (hp_ne h_bl h0_mk (show ((1, 0) : Nat × Nat) ≠ (0, 3) by decide)) h_bl
  have h_st : h2 st = some (k_in (cA 2) n g) := by rw [eh2]; exact hp_up_k (hp_ne h_st h0_mk (show ((1, 0) : Nat × Nat) ≠ (0, 3) by decide)) h_st
  have h_mk : h2 mk = some (.inr (3, [.null, .int left, .int top, .ref part, .ref ink, .int so, .int io, va_rf nw, va_rf bol])) := by rw [eh2]; exact hp_up_s _ _ _
  refine lv_aload_n S.1 S.2.1 d_Pl_add_29 rfl (lv_at hl 0 rfl) ?_
  refine lv_aload_n S.1 S.2.1 d_Pl_add_30 rfl (lv_at hl 1 rfl) ?_
  refine hp_put S zz hJ h_t fp_Pl_26 rfl rfl (nl rfl) d_Pl_add_31 (fun H locs hJ => ?_)
  obtain ⟨h3, eh3⟩ : ∃ z, z = hp_up h2 t (.inr (5, [.int (nI n), .ref bl, .ref st, .int (sz + (1 : Int32)), .ref mk])) := ⟨_, rfl⟩
  have hJ := hJ.cast eh3
  have h0_t := h_t
  have h_mk : h3 mk = some (.inr (3, [.null, .int left, .int top, .ref part, .ref ink, .int so, .int io, va_rf nw, va_rf bol])) := by rw [eh3]; exact hp_up_k (hp_ne h_mk h0_t (show ((0, 3) : Nat × Nat) ≠ (0, 5) by decide)) h_mk
  have h_part : h3 part = some (.inr (1, [.int x0, .int (nI a), .int x1, .int (nI b)])) := by rw [eh3]; exact hp_up_k (hp_ne h_part h0_t (show ((0, 1) : Nat × Nat) ≠ (0, 5) by decide)) h_part
  have h_bl : h3 bl = some (k_in (cA 0) n f) := by rw [eh3]; exact hp_up_k (hp_ne h_bl h0_t (show ((1, 0) : Nat × Nat) ≠ (0, 5) by decide)) h_bl
  have h_st : h3 st = some (k_in (cA 2) n g) := by rw [eh3]; exact hp_up_k (hp_ne h_st h0_t (show ((1, 0) : Nat × Nat) ≠ (0, 5) by decide)) h_st
  have h_t : h3 t = some (.inr (5, [.int (nI n), .ref bl, .ref st, .int (sz + (1 : Int32)), .ref mk])) := by rw [eh3]; exact hp_up_s _ _ _
  refine lv_aload_n S.1 S.2.1 d_Pl_add_34 rfl (lv_at hl 0 rfl) ?_
  refine lv_aload_n S.1 S.2.1 d_Pl_add_35 rfl (lv_at hl 1 rfl) ?_
  refine hp_doneWv hJ (hp_runV S zz0 (cN_Pl_stir l dC dI cA A _ t mk part ink bl st n a b _ _ _ _ _ _ _ (some mk) _ _ f g hn hab ne_bl_st h_t h_bl h_st h_mk h_part) l_Pl_51 (hJ.preV _ h_t rfl) (by decide) rfl hl.1 rfl (nl rfl) d_Pl_add_36 (by decide)) (fun h9 H locs eh9 hJ => ?_)
  exact hp_retWv S hJ hr hlk d_Pl_add_39 (by decide) (by rw [eh9, eh3, eh2, eh1, hp_tbt _ _ _ _ (hp_ne h_t h_mk (show ((0, 5) : Nat × Nat) ≠ (0, 3) by decide))]; rfl)

set_option maxHeartbeats 4000000 in
set_option maxRecDepth 100000 in
theorem cS_Pl_add (l : Launch) (dC : Nat → ClassId) (dI : Nat → Nat → Nat) (cA : Nat → ClassId) (A : Nat → Prop) (h : hp_T) (t mk part ink bl st n a b : Nat) (pic : Nat) (sz left top x0 x1 so io : Int32) (nw bel bol : Option Nat) (f g : Nat → Int32) (hn : n ≤ 5100) (hab : a ≤ b ∧ b < n) (hx : ¬ x1 < x0) (ne_bl_st : bl ≠ st) (h_t : h t = some (k_Pl (nI n) bl st sz nw)) (h_bl : h bl = some (k_in (cA 0) n f)) (h_st : h st = some (k_in (cA 2) n g)) (h_mk : h mk = some (k_Mk (some pic) left top part ink so io bel bol)) (h_part : h part = some (k_Bx x0 (nI a) x1 (nI b))) : Met l y_Pl_add (.code y_Pl_add prog_6_method_3_code 2 none :: BIG) ({ frames := 2, cells := 0, slots := 0, locals := 46 }) (va_Pc [.ref t, .ref mk] (hp_I (gg dC dI cA) A h)) (hp_QW (gg dC dI cA) A hp_mv (fun _ h' => h' = hp_up (hp_up (hp_up (hp_up h mk (k_Mk (some pic) left top part ink so io nw bol)) t (k_Pl (nI n) bl st (sz + 1) (some mk))) bl (k_in (cA 0) n (q_sa f a (b + 1)))) st (k_in (cA 2) n (q_sx (q_sz true g a (b + 1)) n (b + 1))))) 0 0 A := by
  refine hp_enter (by decide) (Nat.le_of_ble_eq_true rfl) ?_
  intro p e s m below meth c ls S hr hlk hin hI hl
  have hl : lv_has ls 2 [(0, .ref t), (1, .ref mk)] := hl
  have hJ := hI.J
  refine lv_aload_n S.1 S.2.1 d_Pl_add_0 rfl (lv_at hl 0 rfl) ?_
  refine lv_dup S.1 S.2.1 d_Pl_add_1 rfl ?_
  refine hp_get S zz hJ h_t f_Pl_23 rfl d_Pl_add_2 ?_
  refine lv_iconst (v := 1) S.1 S.2.1 d_Pl_add_5 (by decide) ?_
  refine lv_iadd S.1 S.2.1 d_Pl_add_6 ?_
  refine hp_put S zz hJ h_t fp_Pl_23 rfl rfl (nl rfl) d_Pl_add_7 (fun H locs hJ => ?_)
  obtain ⟨h1, eh1⟩ : ∃ z, z = hp_up h t (.inr (5, [.int (nI n), .ref bl, .ref st, .int (sz + (1 : Int32)), va_rf nw])) := ⟨_, rfl⟩
  have hJ := hJ.cast eh1
  have h0_t := h_t
  have h_mk : h1 mk = some (.inr (3, [.ref pic, .int left, .int top, .ref part, .ref ink, .int so, .int io, va_rf bel, va_rf bol])) := by rw [eh1]; exact hp_up_k (hp_ne h_mk h0_t (show ((0, 3) : Nat × Nat) ≠ (0, 5) by decide)) h_mk
  have h_part : h1 part = some (.inr (1, [.int x0, .int (nI a), .int x1, .int (nI b)])) := by rw [eh1]; exact hp_up_k (hp_ne h_part h0_t (show ((0, 1) : Nat × Nat) ≠ (0, 5) by decide)) h_part
  have h_bl : h1 bl = some (k_in (cA 0) n f) := by rw [eh1]; exact hp_up_k (hp_ne h_bl h0_t (show ((1, 0) : Nat × Nat) ≠ (0, 5) by decide)) h_bl
  have h_st : h1 st = some (k_in (cA 2) n g) := by rw [eh1]; exact hp_up_k (hp_ne h_st h0_t (show ((1, 0) : Nat × Nat) ≠ (0, 5) by decide)) h_st
  have h_t : h1 t = some (.inr (5, [.int (nI n), .ref bl, .ref st, .int (sz + (1 : Int32)), va_rf nw])) := by rw [eh1]; exact hp_up_s _ _ _
  refine lv_aload_n S.1 S.2.1 d_Pl_add_10 rfl (lv_at hl 1 rfl) ?_
  refine hp_get S zz hJ h_mk f_Pl_36 rfl d_Pl_add_11 ?_
  refine hp_doneR (hp_runV S zz0 (c_Bx_isEmpty l dC dI cA A _ part _ _ _ _ h_part) l_Pl_42 (hJ.preV _ h_part rfl) (by decide) rfl hl.1 rfl (nl rfl) d_Pl_add_14 (by decide)) ?_
  refine lv_if_eq (tgt := 21) S.1 S.2.1 d_Pl_add_17 (by decide) (fun _ => ?_) (fun q => absurd (q_is_ne.mp q) (fun z => z.elim hx (fun z => nI_nlt hab.1 (by omega) z)))
  refine lv_aload_n S.1 S.2.1 d_Pl_add_21 rfl (lv_at hl 1 rfl) ?_
  refine lv_aload_n S.1 S.2.1 d_Pl_add_22 rfl (lv_at hl 0 rfl) ?_
  refine hp_get S zz hJ h_t f_Pl_26 rfl d_Pl_add_23 ?_
  refine hp_put S zz hJ h_mk fp_Pl_48 (rf_n _) (rf_f _) (nl rfl) d_Pl_add_26 (fun H locs hJ => ?_)
  obtain ⟨h2, eh2⟩ : ∃ z, z = hp_up h1 mk (.inr (3, [.ref pic, .int left, .int top, .ref part, .ref ink, .int so, .int io, va_rf nw, va_rf bol])) := ⟨_, rfl⟩
  have hJ := hJ.cast eh2
  have h0_mk := h_mk
  have h_t : h2 t = some (.inr (5, [.int (nI n), .ref bl, .ref st, .int (sz + (1 : Int32)), va_rf nw])) := by rw [eh2]; exact hp_up_k (hp_ne h_t h0_mk (show ((0, 5) : Nat × Nat) ≠ (0, 3) by decide)) h_t
  have h_part : h2 part = some (.inr (1, [.int x0, .int (nI a), .int x1, .int (nI b)])) := by rw [eh2]; exact hp_up_k (hp_ne h_part h0_mk (show ((0, 1) : Nat × Nat) ≠ (0, 3) by decide)) h_part
  have h_bl : h2 bl = some (k_in (cA 0) n f) := by rw [eh2]; exact hp_up_k (hp_ne h_bl h0_mk (show ((1, 0) : Nat × Nat) ≠ (0, 3) by decide)) h_bl
  have h_st : h2 st = some (k_in (cA 2) n g) := by rw [eh2]; exact hp_up_k (hp_ne h_st h0_mk (show ((1, 0) : Nat × Nat) ≠ (0, 3) by decide)) h_st
  have h_mk : h2 mk = some (.inr (3, [.ref pic, .int left, .int top, .ref part, .ref ink, .int so, .int io, va_rf nw, va_rf bol])) := by rw [eh2]; exact hp_up_s _ _ _
  refine lv_aload_n S.1 S.2.1 d_Pl_add_29 rfl (lv_at hl 0 rfl) ?_
  refine lv_aload_n S.1 S.2.1 d_Pl_add_30 rfl (lv_at hl 1 rfl) ?_
  refine hp_put S zz hJ h_t fp_Pl_26 rfl rfl (nl rfl) d_Pl_add_31 (fun H locs hJ => ?_)
  obtain ⟨h3, eh3⟩ : ∃ z, z = hp_up h2 t (.inr (5, [.int (nI n), .ref bl, .ref st, .int (sz + (1 : Int32)), .ref mk])) := ⟨_, rfl⟩
  have hJ := hJ.cast eh3
  have h0_t := h_t
  have h_mk : h3 mk = some (.inr (3, [.ref pic, .int left, .int top, .ref part, .ref ink, .int so, .int io, va_rf nw, va_rf bol])) := by rw [eh3]; exact hp_up_k (hp_ne h_mk h0_t (show ((0, 3) : Nat × Nat) ≠ (0, 5) by decide)) h_mk
  have h_part : h3 part = some (.inr (1, [.int x0, .int (nI a), .int x1, .int (nI b)])) := by rw [eh3]; exact hp_up_k (hp_ne h_part h0_t (show ((0, 1) : Nat × Nat) ≠ (0, 5) by decide)) h_part
  have h_bl : h3 bl = some (k_in (cA 0) n f) := by rw [eh3]; exact hp_up_k (hp_ne h_bl h0_t (show ((1, 0) : Nat × Nat) ≠ (0, 5) by decide)) h_bl
  have h_st : h3 st = some (k_in (cA 2) n g) := by rw [eh3]; exact hp_up_k (hp_ne h_st h0_t (show ((1, 0) : Nat × Nat) ≠ (0, 5) by decide)) h_st
  have h_t : h3 t = some (.inr (5, [.int (nI n), .ref bl, .ref st, .int (sz + (1 : Int32)), .ref mk])) := by rw [eh3]; exact hp_up_s _ _ _
  refine lv_aload_n S.1 S.2.1 d_Pl_add_34 rfl (lv_at hl 0 rfl) ?_
  refine lv_aload_n S.1 S.2.1 d_Pl_add_35 rfl (lv_at hl 1 rfl) ?_
  refine hp_doneWv hJ (hp_runV S zz0 (cS_Pl_stir l dC dI cA A _ t mk part ink bl st n a b pic _ _ _ _ _ _ _ (some mk) _ _ f g hn hab ne_bl_st h_t h_bl h_st h_mk h_part) l_Pl_51 (hJ.preV _ h_t rfl) (by decide) rfl hl.1 rfl (nl rfl) d_Pl_add_36 (by decide)) (fun h9 H locs eh9 hJ => ?_)
  exact hp_retWv S hJ hr hlk d_Pl_add_39 (by decide) (by rw [eh9, eh3, eh2, eh1, hp_tbt _ _ _ _ (hp_ne h_t h_mk (show ((0, 5) : Nat × Nat) ≠ (0, 3) by decide))]; rfl)

theorem la_w {n y : Nat} (hn : 1 ≤ n ∧ n ≤ 5100) (hy : y ≤ 10000) : (16 ≤ nI y ∧ nI y ≤ nI n - 1) ↔ (16 ≤ y ∧ y < n) := by
  rw [show (1 : Int32) = nI 1 from rfl, show (16 : Int32) = nI 16 from rfl, pk_sub hn.1, nI_leI (by omega) (by omega), nI_leI (by omega) (by omega)]
  omega
theorem q_la_f {g : Nat → Int32} {y k : Nat} (h : ¬ g (y - k) = 0) : ∀ j, k + 1 ≤ j → q_la g y j = false := by
  intro j hj
  induction j with
  | zero => omega
  | succ j ih =>
    by_cases hk : j = k
    · subst hk
      unfold q_la
      rw [decide_eq_false h, Bool.and_false]
    · unfold q_la
      rw [ih (by omega), Bool.false_and]
theorem nI_m1 {n : Nat} (h : 1 ≤ n) : nI n + (-1) = nI (n - 1) := sb_m1 (by omega)

set_option maxHeartbeats 4000000 in
set_option maxRecDepth 100000 in
theorem c_Pl_isLikeAbove (l : Launch) (dC : Nat → ClassId) (dI : Nat → Nat → Nat) (cA : Nat → ClassId) (A : Nat → Prop) (h : hp_T) (t bl st n y : Nat) (sz : Int32) (nw : Option Nat) (g : Nat → Int32) (hn : 1 ≤ n ∧ n ≤ 5100) (hy : y ≤ 10000) (h_t : h t = some (k_Pl (nI n) bl st sz nw)) (h_st : h st = some (k_in (cA 2) n g)) : Met l y_Pl_isLikeAbove (.code y_Pl_isLikeAbove prog_6_method_7_code 3 (some .boolean) :: BIG) ({ frames := 1, cells := 0, slots := 0, locals := 22 }) (va_Pc [.ref t, .int (nI y)] (hp_I (gg dC dI cA) A h)) (hp_QR (some (.int (q_is (16 ≤ y ∧ y < n ∧ q_la g y 16 = true))))) 0 0 (fun _ => False) := by
  refine hp_enter (by decide) (Nat.le_of_ble_eq_true rfl) ?_
  intro p e s m below meth c ls S hr hlk hin hI hl
  have hl : lv_has ls 3 [(0, .ref t), (1, .int (nI y))] := hl
  have hJ := hI.J
  refine lv_bipush (v := 16) S.1 S.2.1 d_Pl_isLikeAbove_0 (by decide) ?_
  refine lv_iload_n S.1 S.2.1 d_Pl_isLikeAbove_2 rfl (lv_at hl 1 rfl) ?_
  refine lv_aload_n S.1 S.2.1 d_Pl_isLikeAbove_3 rfl (lv_at hl 0 rfl) ?_
  refine hp_get S zz hJ h_t f_Pl_9 rfl d_Pl_isLikeAbove_4 ?_
  refine lv_iconst (v := 1) S.1 S.2.1 d_Pl_isLikeAbove_7 (by decide) ?_
  refine lv_isub S.1 S.2.1 d_Pl_isLikeAbove_8 ?_
  refine hp_doneR (hp_runN S zz hJ.2.1 (c_BP_isWithin l _ _ _) l_Pl_74 (hp_pre0 _) (by decide) rfl hl.1 rfl (nl rfl) d_Pl_isLikeAbove_9 (by decide)) ?_
  refine lv_if_ne (tgt := 17) S.1 S.2.1 d_Pl_isLikeAbove_12 (by decide) (fun c_12 => ?_) (fun c_12 => ?_)
  · refine lv_iload_n S.1 S.2.1 d_Pl_isLikeAbove_17 rfl (lv_at hl 1 rfl) ?_
    refine lv_istore_n (lv' := [(2, .int (nI y)), (0, .ref t), (1, .int (nI y))]) S.1 S.2.1 d_Pl_isLikeAbove_18 rfl hl (by decide) rfl (fun ls hl => ?_)
    have hyn : 16 ≤ y ∧ y < n := (la_w hn hy).mp (q_is_ne.mp c_12)
    have LP : ∀ (m_ k : Nat) (ls : Array Slot), k + m_ = 16 → q_la g y k = true → lv_has ls 3 [(2, .int (nI (y - k))), (0, .ref t), (1, .int (nI y))] → W p l e ({ frames := 1, cells := 0, slots := 0, locals := 22 }) s m ([.ref t, .int (nI y)] : List Value).toArray below meth c s.heap [] 0 0 (MQ below (hp_QR (some (.int (q_is (16 ≤ y ∧ y < n ∧ q_la g y 16 = true))))) ([.ref t, .int (nI y)] : List Value).toArray s 0 0 (fun _ => False)) (F0 m 19 ls []) := by
      intro m_
      induction m_ with
      | zero =>
        intro k ls hu hk hl
        refine lv_iload_n S.1 S.2.1 d_Pl_isLikeAbove_19 rfl (lv_at hl 0 rfl) ?_
        refine lv_iload_n S.1 S.2.1 d_Pl_isLikeAbove_20 rfl (lv_at hl 2 rfl) ?_
        refine lv_bipush (v := 16) S.1 S.2.1 d_Pl_isLikeAbove_21 (by decide) ?_
        refine lv_isub S.1 S.2.1 d_Pl_isLikeAbove_23 ?_
        rw [show nI y - 16 = nI (y - 16) from pk_sub (a := y) (b := 16) hyn.1]
        refine lv_icmp_le (tgt := 44) S.1 S.2.1 d_Pl_isLikeAbove_24 (by decide) (fun _ => ?_) (fun q => absurd (nI_le (by omega) (by omega)) q)
        refine lv_iconst (v := 1) S.1 S.2.1 d_Pl_isLikeAbove_44 (by decide) ?_
        exact hp_retRz S hr hlk d_Pl_isLikeAbove_45 (by decide) (q_is_t ⟨hyn.1, hyn.2, by rw [show k = 16 by omega] at hk; exact hk⟩)
      | succ m_ ih =>
        intro k ls hu hk hl
        refine lv_iload_n S.1 S.2.1 d_Pl_isLikeAbove_19 rfl (lv_at hl 0 rfl) ?_
        refine lv_iload_n S.1 S.2.1 d_Pl_isLikeAbove_20 rfl (lv_at hl 2 rfl) ?_
        refine lv_bipush (v := 16) S.1 S.2.1 d_Pl_isLikeAbove_21 (by decide) ?_
        refine lv_isub S.1 S.2.1 d_Pl_isLikeAbove_23 ?_
        rw [show nI y - 16 = nI (y - 16) from pk_sub (a := y) (b := 16) hyn.1]
        refine lv_icmp_le (tgt := 44) S.1 S.2.1 d_Pl_isLikeAbove_24 (by decide) (fun q => absurd ((nI_leI (by omega) (by omega)).mp q) (by omega)) (fun _ => ?_)
        refine lv_aload_n S.1 S.2.1 d_Pl_isLikeAbove_27 rfl (lv_at hl 1 rfl) ?_
        refine hp_get S zz hJ h_t f_Pl_19 rfl d_Pl_isLikeAbove_28 ?_
        refine lv_iload_n S.1 S.2.1 d_Pl_isLikeAbove_31 rfl (lv_at hl 0 rfl) ?_
        refine hp_zald S hJ 2 h_st rfl (vp_in_nI (by omega) (by omega)) d_Pl_isLikeAbove_32 ?_
        rw [nI_clamp (by omega)]
        refine lv_if_eq (tgt := 38) S.1 S.2.1 d_Pl_isLikeAbove_33 (by decide) (fun c_33 => ?_) (fun c_33 => ?_)
        · refine lv_iinc (v := nI (y - (k + 1))) (lv' := [(2, .int (nI (y - (k + 1)))), (0, .ref t), (1, .int (nI y))]) S.1 S.2.1 d_Pl_isLikeAbove_38 hl (k := 0) rfl ((nI_m1 (by omega)).trans (congrArg nI (by omega))) (by decide) rfl (fun ls hl => ?_)
          refine lv_goto (tgt := 19) S.1 S.2.1 d_Pl_isLikeAbove_41 (by decide) ?_
          exact ih (k + 1) ls (by omega) (by unfold q_la; rw [hk, decide_eq_true c_33]; rfl) (lv_sub hl [0, 1, 2] rfl)
        · refine lv_iconst (v := 0) S.1 S.2.1 d_Pl_isLikeAbove_36 (by decide) ?_
          exact hp_retRz S hr hlk d_Pl_isLikeAbove_37 (by decide) (q_is_f (fun q => by rw [q_la_f c_33 16 (by omega)] at q; exact absurd q.2.2 (by decide)))
    exact LP 16 0 ls rfl rfl (lv_sub hl [0, 1, 2] rfl)
  · refine lv_iconst (v := 0) S.1 S.2.1 d_Pl_isLikeAbove_15 (by decide) ?_
    exact hp_retRz S hr hlk d_Pl_isLikeAbove_16 (by decide) (q_is_f (fun q => q_is_0.mp c_12 ((la_w hn hy).mpr ⟨q.1, q.2.1⟩)))
end
section
/-! The marks of a pile, and those of a line. -/
abbrev mD : Type := Option Nat × Int32 × Int32 × Nat × Nat × Int32 × Int32
abbrev k_MD (d : mD) (below bol : Option Nat) : va_E := k_Mk d.1 d.2.1 d.2.2.1 d.2.2.2.1 d.2.2.2.2.1 d.2.2.2.2.2.1 d.2.2.2.2.2.2 below bol
/-- as: the marks' addresses, newest first -/
def mc (h : hp_T) (D : Nat → mD) (bol : Nat → Option Nat) (as : List Nat) : Prop := ∀ (P : List Nat) (a : Nat) (r : List Nat), as = P ++ a :: r → h a = some (k_MD (D a) r.head? (bol a))
def lk (bol : Nat → Option Nat) (fs : List Nat) : Prop := ∀ (P : List Nat) (a : Nat) (r : List Nat), fs = P ++ a :: r → bol a = r.head?
theorem nd_split : ∀ (P P' : List Nat) (a : Nat) (r r' : List Nat), (P ++ a :: r).Nodup → P ++ a :: r = P' ++ a :: r' → r = r'
  | [], [], a, r, r', _, h => (List.cons.inj h).2
  | [], b :: P', a, r, r', hn, h => by
    obtain ⟨h1, h2⟩ := List.cons.inj h
    have hn := List.nodup_cons.mp hn
    exact absurd (by rw [h2]; exact List.mem_append_right _ List.mem_cons_self) hn.1
  | b :: P, [], a, r, r', hn, h => by
    obtain ⟨h1, h2⟩ := List.cons.inj h
    have hn := List.nodup_cons.mp hn
    exact absurd (by rw [h1]; exact List.mem_append_right _ List.mem_cons_self) hn.1
  | b :: P, b' :: P', a, r, r', hn, h => nd_split P P' a r r' (List.nodup_cons.mp hn).2 (List.cons.inj h).2
theorem mc_set {h : hp_T} {D : Nat → mD} {bol : Nat → Option Nat} {as : List Nat} (hm : mc h D bol as) (hd : as.Nodup) {P : List Nat} {a : Nat} {r : List Nat} (he : as = P ++ a :: r) (v : Option Nat) : mc (hp_up h a (k_MD (D a) r.head? v)) D (va_up bol a v) as := by
  intro P' a' r' he'
  by_cases ha : a' = a
  · subst ha
    have := nd_split P P' a' r r' (he ▸ hd) (he.symm.trans he')
    rw [hp_up_s, va_up_self, this]
  · rw [hp_up_n ha, va_up_ne _ _ ha]
    exact hm P' a' r' he'
theorem lk_1 (bol : Nat → Option Nat) (m : Nat) : lk (va_up bol m none) [m] := by
  intro P a r h
  cases P with
  | nil =>
    obtain ⟨h1, h2⟩ := List.cons.inj h
    subst h1
    rw [← h2, va_up_self]
    rfl
  | cons b P => simp at h
theorem snoc_cases (r : List Nat) : r = [] ∨ ∃ r0 m, r = r0 ++ [m] := by
  cases hr : r.getLast? with
  | none => exact Or.inl (List.getLast?_eq_none_iff.mp hr)
  | some m => exact Or.inr ((List.getLast?_eq_some_iff.mp hr).imp fun r0 h => ⟨m, h⟩)
theorem lk_snoc {bol : Nat → Option Nat} {F : List Nat} {b m : Nat} (hl : lk bol (F ++ [b])) (hn : (F ++ [b]).Nodup) (hm : m ∉ F ++ [b]) : lk (va_up (va_up bol m none) b (some m)) (F ++ [b] ++ [m]) := by
  intro P a r h
  have hbm : m ≠ b := fun q => hm (by rw [q]; exact List.mem_append_right _ List.mem_cons_self)
  rcases snoc_cases r with hr | ⟨r0, m', hr⟩
  · subst hr
    have h2 := List.append_inj' h rfl
    obtain ⟨h3, -⟩ := List.cons.inj h2.2
    subst h3
    rw [va_up_ne _ _ hbm, va_up_self]
    rfl
  · subst hr
    rw [show P ++ a :: (r0 ++ [m']) = (P ++ a :: r0) ++ [m'] by simp] at h
    have h2 := List.append_inj' h rfl
    obtain ⟨h3, -⟩ := List.cons.inj h2.2
    subst h3
    have h4 := h2.1
    rcases snoc_cases r0 with hr | ⟨r1, m1, hr⟩
    · subst hr
      have h5 := List.append_inj' h4 rfl
      obtain ⟨h6, -⟩ := List.cons.inj h5.2
      subst h6
      rw [va_up_self]
      rfl
    · have ha : a ∈ F ++ [b] := by rw [h4]; exact List.mem_append_right _ List.mem_cons_self
      have hab : a ≠ b := by
        subst hr
        rw [show P ++ a :: (r1 ++ [m1]) = (P ++ a :: r1) ++ [m1] by simp] at h4
        have h5 := List.append_inj' h4 rfl
        obtain ⟨h6, -⟩ := List.cons.inj h5.2
        subst h6
        have h7 : a ∈ F := by rw [h5.1]; exact List.mem_append_right _ List.mem_cons_self
        have h8 := (List.nodup_append.mp hn).2.2
        exact h8 a h7 b List.mem_cons_self
      have ham : a ≠ m := fun q => hm (q ▸ ha)
      rw [va_up_ne _ _ hab, va_up_ne _ _ ham, hl P a r0 h4]
      subst hr
      cases r1 <;> rfl

def q_me (B : Nat → Int32 × Int32 × Int32 × Int32) (y : Int32) (a : Nat) : Bool := decide ((B a).2.1 ≤ y ∧ y ≤ (B a).2.2.2)
set_option maxHeartbeats 4000000 in
set_option maxRecDepth 100000 in
theorem c_Pl_newestOnLine (l : Launch) (dC : Nat → ClassId) (dI : Nat → Nat → Nat) (cA : Nat → ClassId) (A : Nat → Prop) (h : hp_T) (t bl st n : Nat) (sz y : Int32) (as : List Nat) (D : Nat → mD) (bol : Nat → Option Nat) (B : Nat → Int32 × Int32 × Int32 × Int32) (hnd : as.Nodup) (hm : mc h D bol as) (hB : ∀ a ∈ as, h (D a).2.2.2.1 = some (k_Bx (B a).1 (B a).2.1 (B a).2.2.1 (B a).2.2.2)) (h_t : h t = some (k_Pl (nI n) bl st sz as.head?)) : Met l y_Pl_newestOnLine (.code y_Pl_newestOnLine prog_6_method_9_code 5 (some (.object "BandPainter$Mark")) :: BIG) ({ frames := 1, cells := 0, slots := 0, locals := 21 }) (va_Pc [.ref t, .int y] (hp_I (gg dC dI cA) A h)) (hp_QW (gg dC dI cA) A hp_mq (fun r h' => ∃ bol', r = (as.filter (q_me B y)).head? ∧ lk bol' (as.filter (q_me B y)) ∧ mc h' D bol' as ∧ ∀ a, a ∉ as → h' a = h a)) 0 0 A := by
  refine hp_enter (by decide) (Nat.le_of_ble_eq_true rfl) ?_
  intro p e s m below meth c ls S hr hlk hin hI hl
  have hl : lv_has ls 5 [(0, .ref t), (1, .int y)] := hl
  have hJ := hI.J
  refine lv_null S.1 S.2.1 d_Pl_newestOnLine_0 ?_
  refine lv_astore_nN (lv' := [(2, .null), (0, .ref t), (1, .int y)]) S.1 S.2.1 d_Pl_newestOnLine_1 rfl hl (by decide) rfl (fun ls hl => ?_)
  refine lv_null S.1 S.2.1 d_Pl_newestOnLine_2 ?_
  refine lv_astore_nN (lv' := [(3, .null), (2, .null), (0, .ref t), (1, .int y)]) S.1 S.2.1 d_Pl_newestOnLine_3 rfl hl (by decide) rfl (fun ls hl => ?_)
  refine lv_aload_n S.1 S.2.1 d_Pl_newestOnLine_4 rfl (lv_at hl 2 rfl) ?_
  refine hp_get S zz hJ h_t f_Pl_26 rfl d_Pl_newestOnLine_5 ?_
  have hmem : ∀ a ∈ as, ∃ P r, as = P ++ a :: r := fun a ha => List.append_of_mem ha
  have hpn : ∀ a ∈ as, (D a).2.2.2.1 ∉ as := by
    intro a ha hp
    obtain ⟨P, r, he⟩ := hmem _ hp
    have h1 := hm P _ r he
    rw [hB a ha] at h1
    cases h1
  have htn : t ∉ as := by
    intro hp
    obtain ⟨P, r, he⟩ := hmem _ hp
    have h1 := hm P _ r he
    rw [h_t] at h1
    cases h1
  have LP : ∀ (R P : List Nat) (bol : Nat → Option Nat) (hc : hp_T) (H : Heap) (locs : List Loc) (ls : Array Slot), as = P ++ R → mc hc D bol as → (∀ a, a ∉ as → hc a = h a) → lk bol (P.filter (q_me B y)) → hp_J (gg dC dI cA) A hc s H locs → lv_has ls 5 [(4, va_rf R.head?), (3, va_rf (P.filter (q_me B y)).getLast?), (2, va_rf (P.filter (q_me B y)).head?), (0, .ref t), (1, .int y)] → W p l e ({ frames := 1, cells := 0, slots := 0, locals := 21 }) s m ([.ref t, .int y] : List Value).toArray below meth c H locs 0 0 (MQ below (hp_QW (gg dC dI cA) A hp_mq (fun r h' => ∃ bol', r = (as.filter (q_me B y)).head? ∧ lk bol' (as.filter (q_me B y)) ∧ mc h' D bol' as ∧ ∀ a, a ∉ as → h' a = h a)) ([.ref t, .int y] : List Value).toArray s 0 0 A) (F0 m 10 ls []) := by
    intro R
    induction R with
    | nil =>
      intro P bol hc H locs ls he hm ho hk hJ hl
      rw [List.append_nil] at he
      subst he
      have hpost := (⟨bol, rfl, hk, hm, ho⟩ : ∃ bol', (as.filter (q_me B y)).head? = (as.filter (q_me B y)).head? ∧ lk bol' (as.filter (q_me B y)) ∧ mc hc D bol' as ∧ ∀ a, a ∉ as → hc a = h a)
      refine lv_aloadN S.1 S.2.1 d_Pl_newestOnLine_10 (lv_at hl 0 rfl) ?_
      refine lv_ifnullN (tgt := 62) S.1 S.2.1 d_Pl_newestOnLine_12 (by decide) ?_
      generalize hq : (as.filter (q_me B y)).head? = q at hl hpost
      cases q with
      | none =>
        refine lv_aload_nN S.1 S.2.1 d_Pl_newestOnLine_62 rfl (lv_at hl 2 rfl) ?_
        exact hp_retWq (r := none) S hJ hr hlk d_Pl_newestOnLine_63 (by decide) (by rw [hq] at *; exact hpost)
      | some q =>
        refine lv_aload_n S.1 S.2.1 d_Pl_newestOnLine_62 rfl (lv_at hl 2 rfl) ?_
        exact hp_retWq (r := some q) S hJ hr hlk d_Pl_newestOnLine_63 (by decide) (by rw [hq] at *; exact hpost)
    | cons a r ih =>
      intro P bol hc H locs ls he hm ho hk hJ hl
      have ha : a ∈ as := by rw [he]; exact List.mem_append_right _ List.mem_cons_self
      have haP : a ∉ P := fun q => by
        have hn := hnd
        rw [he] at hn
        exact (List.nodup_append.mp hn).2.2 a q a List.mem_cons_self rfl
      have hnP : P.Nodup := by
        have hn := hnd
        rw [he] at hn
        exact (List.nodup_append.mp hn).1
      have h_a := hm P a r he
      have h_pt : hc (D a).2.2.2.1 = some (k_Bx (B a).1 (B a).2.1 (B a).2.2.1 (B a).2.2.2) := by rw [ho _ (hpn a ha)]; exact hB a ha
      have eP : P ++ a :: r = (P ++ [a]) ++ r := by simp
      have fP : (P ++ [a]).filter (q_me B y) = P.filter (q_me B y) ++ (if q_me B y a = true then [a] else []) := by
        rw [List.filter_append]
        cases hq : q_me B y a <;> simp [List.filter, hq]
      have h_a0 := h_a
      rcases hDa : D a with ⟨pc, lf, tp, pt, ik, so, io⟩
      rw [hDa] at h_a h_pt
      replace h_a : hc a = some (.inr (3, [va_rf pc, .int lf, .int tp, .ref pt, .ref ik, .int so, .int io, va_rf r.head?, va_rf (bol a)])) := h_a
      replace h_pt : hc pt = some (k_Bx (B a).1 (B a).2.1 (B a).2.2.1 (B a).2.2.2) := h_pt
      rcases snoc_cases (P.filter (q_me B y)) with hF | ⟨F, b, hF⟩
      · have hF0 := hF
        rw [hF] at hl hk
        replace hl : lv_has ls 5 [(4, .ref a), (3, .null), (2, .null), (0, .ref t), (1, .int y)] := hl
        refine lv_aload S.1 S.2.1 d_Pl_newestOnLine_10 (lv_at hl 0 rfl) ?_
        refine lv_ifnull S.1 S.2.1 d_Pl_newestOnLine_12 ?_
        refine lv_aload S.1 S.2.1 d_Pl_newestOnLine_15 (lv_at hl 0 rfl) ?_
        refine hp_get S zz hJ h_a f_Pl_36 rfl d_Pl_newestOnLine_17 ?_
        refine lv_iload_n S.1 S.2.1 d_Pl_newestOnLine_20 rfl (lv_at hl 4 rfl) ?_
        refine hp_doneR (hp_runV S zz0 (c_Bx_meetsLine l dC dI cA A _ pt _ _ _ _ y h_pt) l_Pl_109 (hJ.preV _ h_pt rfl) (by decide) rfl hl.1 rfl (nl rfl) d_Pl_newestOnLine_21 (by decide)) ?_
        refine lv_if_eq (tgt := 52) S.1 S.2.1 d_Pl_newestOnLine_24 (by decide) (fun c_24 => ?_) (fun c_24 => ?_)
        · refine lv_aload S.1 S.2.1 d_Pl_newestOnLine_52 (lv_at hl 0 rfl) ?_
          cases r with
          | nil =>
            refine hp_get S zz hJ h_a f_Pl_48 rfl d_Pl_newestOnLine_54 ?_
            refine lv_astoreN (lv' := [(4, .null), (3, .null), (2, .null), (0, .ref t), (1, .int y)]) S.1 S.2.1 d_Pl_newestOnLine_57 hl (by decide) rfl (fun ls hl => ?_)
            refine lv_goto (tgt := 10) S.1 S.2.1 d_Pl_newestOnLine_59 (by decide) ?_
            have hq : ¬ q_me B y a = true := fun q => q_is_0.mp c_24 (of_decide_eq_true q)
            rw [if_neg hq, List.append_nil] at fP
            exact ih (P ++ [a]) _ _ _ _ ls (he.trans eP) hm ho (by rw [fP, hF0]; exact hk) hJ (by rw [fP, hF0]; exact lv_sub hl [0, 1, 2, 3, 4] rfl)
          | cons c0 r0 =>
            refine hp_get S zz hJ h_a f_Pl_48 rfl d_Pl_newestOnLine_54 ?_
            refine lv_astore (lv' := [(4, .ref c0), (3, .null), (2, .null), (0, .ref t), (1, .int y)]) S.1 S.2.1 d_Pl_newestOnLine_57 hl (by decide) rfl (fun ls hl => ?_)
            refine lv_goto (tgt := 10) S.1 S.2.1 d_Pl_newestOnLine_59 (by decide) ?_
            have hq : ¬ q_me B y a = true := fun q => q_is_0.mp c_24 (of_decide_eq_true q)
            rw [if_neg hq, List.append_nil] at fP
            exact ih (P ++ [a]) _ _ _ _ ls (he.trans eP) hm ho (by rw [fP, hF0]; exact hk) hJ (by rw [fP, hF0]; exact lv_sub hl [0, 1, 2, 3, 4] rfl)
        · refine lv_aload S.1 S.2.1 d_Pl_newestOnLine_27 (lv_at hl 0 rfl) ?_
          refine lv_null S.1 S.2.1 d_Pl_newestOnLine_29 ?_
          refine hp_put S zz hJ h_a fp_Pl_100 rfl rfl (nl rfl) d_Pl_newestOnLine_30 (fun H locs hJ => ?_)
          have hm1 : mc (hp_up hc a (k_MD (D a) r.head? none)) D (va_up bol a none) as := mc_set hm hnd he none
          rw [hDa] at hm1
          obtain ⟨h1, eh1⟩ : ∃ z, z = hp_up hc a (k_MD (pc, lf, tp, pt, ik, so, io) r.head? none) := ⟨_, rfl⟩
          replace hJ := hJ.cast eh1
          rw [← eh1] at hm1
          have ho1 : ∀ a, a ∉ as → h1 a = h a := fun z hz => by rw [eh1, hp_up_n (q := z) (fun q9 => hz (by rw [q9]; exact ha))]; exact ho z hz
          replace h_a : h1 a = some (.inr (3, [va_rf pc, .int lf, .int tp, .ref pt, .ref ik, .int so, .int io, va_rf r.head?, .null])) := by rw [eh1]; exact hp_up_s _ _ _
          refine lv_aload_nN S.1 S.2.1 d_Pl_newestOnLine_33 rfl (lv_at hl 1 rfl) ?_
          refine lv_ifnonnullN S.1 S.2.1 d_Pl_newestOnLine_34 ?_
          refine lv_aload S.1 S.2.1 d_Pl_newestOnLine_37 (lv_at hl 0 rfl) ?_
          refine lv_astore_n (lv' := [(2, .ref a), (4, .ref a), (3, .null), (0, .ref t), (1, .int y)]) S.1 S.2.1 d_Pl_newestOnLine_39 rfl hl (by decide) rfl (fun ls hl => ?_)
          refine lv_goto (tgt := 49) S.1 S.2.1 d_Pl_newestOnLine_40 (by decide) ?_
          refine lv_aload S.1 S.2.1 d_Pl_newestOnLine_49 (lv_at hl 1 rfl) ?_
          refine lv_astore_n (lv' := [(3, .ref a), (2, .ref a), (4, .ref a), (0, .ref t), (1, .int y)]) S.1 S.2.1 d_Pl_newestOnLine_51 rfl hl (by decide) rfl (fun ls hl => ?_)
          refine lv_aload S.1 S.2.1 d_Pl_newestOnLine_52 (lv_at hl 2 rfl) ?_
          cases r with
          | nil =>
            refine hp_get S zz hJ h_a f_Pl_48 rfl d_Pl_newestOnLine_54 ?_
            refine lv_astoreN (lv' := [(4, .null), (3, .ref a), (2, .ref a), (0, .ref t), (1, .int y)]) S.1 S.2.1 d_Pl_newestOnLine_57 hl (by decide) rfl (fun ls hl => ?_)
            refine lv_goto (tgt := 10) S.1 S.2.1 d_Pl_newestOnLine_59 (by decide) ?_
            have hq : q_me B y a = true := decide_eq_true (q_is_ne.mp c_24)
            rw [if_pos hq] at fP
            exact ih (P ++ [a]) _ _ _ _ ls (he.trans eP) hm1 ho1 (by rw [fP, hF0]; exact lk_1 bol a) hJ (by rw [fP, hF0]; exact lv_sub hl [0, 1, 2, 3, 4] rfl)
          | cons c0 r0 =>
            refine hp_get S zz hJ h_a f_Pl_48 rfl d_Pl_newestOnLine_54 ?_
            refine lv_astore (lv' := [(4, .ref c0), (3, .ref a), (2, .ref a), (0, .ref t), (1, .int y)]) S.1 S.2.1 d_Pl_newestOnLine_57 hl (by decide) rfl (fun ls hl => ?_)
            refine lv_goto (tgt := 10) S.1 S.2.1 d_Pl_newestOnLine_59 (by decide) ?_
            have hq : q_me B y a = true := decide_eq_true (q_is_ne.mp c_24)
            rw [if_pos hq] at fP
            exact ih (P ++ [a]) _ _ _ _ ls (he.trans eP) hm1 ho1 (by rw [fP, hF0]; exact lk_1 bol a) hJ (by rw [fP, hF0]; exact lv_sub hl [0, 1, 2, 3, 4] rfl)
      · have hF0 := hF
        rw [hF] at hl hk
        obtain ⟨f0, hf0⟩ : ∃ f0, (F ++ [b]).head? = some f0 := by cases F <;> exact ⟨_, rfl⟩
        have hlb : (F ++ [b]).getLast? = some b := by simp
        rw [hf0, hlb] at hl
        replace hl : lv_has ls 5 [(4, .ref a), (3, .ref b), (2, .ref f0), (0, .ref t), (1, .int y)] := hl
        have hbP : b ∈ P := (List.mem_filter.mp (show b ∈ P.filter (q_me B y) by rw [hF]; exact List.mem_append_right _ List.mem_cons_self)).1
        have ne_a_b : a ≠ b := fun q => haP (q ▸ hbP)
        refine lv_aload S.1 S.2.1 d_Pl_newestOnLine_10 (lv_at hl 0 rfl) ?_
        refine lv_ifnull S.1 S.2.1 d_Pl_newestOnLine_12 ?_
        refine lv_aload S.1 S.2.1 d_Pl_newestOnLine_15 (lv_at hl 0 rfl) ?_
        refine hp_get S zz hJ h_a f_Pl_36 rfl d_Pl_newestOnLine_17 ?_
        refine lv_iload_n S.1 S.2.1 d_Pl_newestOnLine_20 rfl (lv_at hl 4 rfl) ?_
        refine hp_doneR (hp_runV S zz0 (c_Bx_meetsLine l dC dI cA A _ pt _ _ _ _ y h_pt) l_Pl_109 (hJ.preV _ h_pt rfl) (by decide) rfl hl.1 rfl (nl rfl) d_Pl_newestOnLine_21 (by decide)) ?_
        refine lv_if_eq (tgt := 52) S.1 S.2.1 d_Pl_newestOnLine_24 (by decide) (fun c_24 => ?_) (fun c_24 => ?_)
        · refine lv_aload S.1 S.2.1 d_Pl_newestOnLine_52 (lv_at hl 0 rfl) ?_
          cases r with
          | nil =>
            refine hp_get S zz hJ h_a f_Pl_48 rfl d_Pl_newestOnLine_54 ?_
            refine lv_astoreN (lv' := [(4, .null), (3, .ref b), (2, .ref f0), (0, .ref t), (1, .int y)]) S.1 S.2.1 d_Pl_newestOnLine_57 hl (by decide) rfl (fun ls hl => ?_)
            refine lv_goto (tgt := 10) S.1 S.2.1 d_Pl_newestOnLine_59 (by decide) ?_
            have hq : ¬ q_me B y a = true := fun q => q_is_0.mp c_24 (of_decide_eq_true q)
            rw [if_neg hq, List.append_nil] at fP
            exact ih (P ++ [a]) _ _ _ _ ls (he.trans eP) hm ho (by rw [fP, hF0]; exact hk) hJ (by rw [fP, hF0]; rw [hf0, hlb]; exact lv_sub hl [0, 1, 2, 3, 4] rfl)
          | cons c0 r0 =>
            refine hp_get S zz hJ h_a f_Pl_48 rfl d_Pl_newestOnLine_54 ?_
            refine lv_astore (lv' := [(4, .ref c0), (3, .ref b), (2, .ref f0), (0, .ref t), (1, .int y)]) S.1 S.2.1 d_Pl_newestOnLine_57 hl (by decide) rfl (fun ls hl => ?_)
            refine lv_goto (tgt := 10) S.1 S.2.1 d_Pl_newestOnLine_59 (by decide) ?_
            have hq : ¬ q_me B y a = true := fun q => q_is_0.mp c_24 (of_decide_eq_true q)
            rw [if_neg hq, List.append_nil] at fP
            exact ih (P ++ [a]) _ _ _ _ ls (he.trans eP) hm ho (by rw [fP, hF0]; exact hk) hJ (by rw [fP, hF0]; rw [hf0, hlb]; exact lv_sub hl [0, 1, 2, 3, 4] rfl)
        · refine lv_aload S.1 S.2.1 d_Pl_newestOnLine_27 (lv_at hl 0 rfl) ?_
          refine lv_null S.1 S.2.1 d_Pl_newestOnLine_29 ?_
          refine hp_put S zz hJ h_a fp_Pl_100 rfl rfl (nl rfl) d_Pl_newestOnLine_30 (fun H locs hJ => ?_)
          have hm1 : mc (hp_up hc a (k_MD (D a) r.head? none)) D (va_up bol a none) as := mc_set hm hnd he none
          rw [hDa] at hm1
          obtain ⟨h1, eh1⟩ : ∃ z, z = hp_up hc a (k_MD (pc, lf, tp, pt, ik, so, io) r.head? none) := ⟨_, rfl⟩
          replace hJ := hJ.cast eh1
          rw [← eh1] at hm1
          have ho1 : ∀ a, a ∉ as → h1 a = h a := fun z hz => by rw [eh1, hp_up_n (q := z) (fun q9 => hz (by rw [q9]; exact ha))]; exact ho z hz
          replace h_a : h1 a = some (.inr (3, [va_rf pc, .int lf, .int tp, .ref pt, .ref ik, .int so, .int io, va_rf r.head?, .null])) := by rw [eh1]; exact hp_up_s _ _ _
          refine lv_aload_n S.1 S.2.1 d_Pl_newestOnLine_33 rfl (lv_at hl 1 rfl) ?_
          refine lv_ifnonnull (tgt := 43) S.1 S.2.1 d_Pl_newestOnLine_34 (by decide) ?_
          refine lv_aload_n S.1 S.2.1 d_Pl_newestOnLine_43 rfl (lv_at hl 1 rfl) ?_
          refine lv_aload S.1 S.2.1 d_Pl_newestOnLine_44 (lv_at hl 0 rfl) ?_
          obtain ⟨Pb, rb, heb⟩ := hmem b (by rw [he]; exact List.mem_append_left _ hbP)
          have h_b := hm1 Pb b rb heb
          rcases hDb : D b with ⟨pcb, lfb, tpb, ptb, ikb, sob, iob⟩
          rw [hDb] at h_b
          have h_b : h1 b = some (.inr (3, [va_rf pcb, .int lfb, .int tpb, .ref ptb, .ref ikb, .int sob, .int iob, va_rf rb.head?, va_rf (va_up bol a none b)])) := h_b
          refine hp_put S zz hJ h_b fp_Pl_100 rfl rfl (nl rfl) d_Pl_newestOnLine_46 (fun H locs hJ => ?_)
          have hm2 : mc (hp_up h1 b (k_MD (D b) rb.head? (some a))) D (va_up (va_up bol a none) b (some a)) as := mc_set hm1 hnd heb (some a)
          rw [hDb] at hm2
          obtain ⟨h2, eh2⟩ : ∃ z, z = hp_up h1 b (k_MD (pcb, lfb, tpb, ptb, ikb, sob, iob) rb.head? (some a)) := ⟨_, rfl⟩
          replace hJ := hJ.cast eh2
          rw [← eh2] at hm2
          have ho2 : ∀ a, a ∉ as → h2 a = h a := fun z hz => by rw [eh2, hp_up_n (q := z) (fun q9 => hz (by rw [q9, he]; exact List.mem_append_left _ hbP))]; exact ho1 z hz
          replace h_a : h2 a = some (.inr (3, [va_rf pc, .int lf, .int tp, .ref pt, .ref ik, .int so, .int io, va_rf r.head?, .null])) := by rw [eh2]; exact hp_up_k ne_a_b h_a
          refine lv_aload S.1 S.2.1 d_Pl_newestOnLine_49 (lv_at hl 0 rfl) ?_
          refine lv_astore_n (lv' := [(3, .ref a), (4, .ref a), (2, .ref f0), (0, .ref t), (1, .int y)]) S.1 S.2.1 d_Pl_newestOnLine_51 rfl hl (by decide) rfl (fun ls hl => ?_)
          refine lv_aload S.1 S.2.1 d_Pl_newestOnLine_52 (lv_at hl 1 rfl) ?_
          cases r with
          | nil =>
            refine hp_get S zz hJ h_a f_Pl_48 rfl d_Pl_newestOnLine_54 ?_
            refine lv_astoreN (lv' := [(4, .null), (3, .ref a), (2, .ref f0), (0, .ref t), (1, .int y)]) S.1 S.2.1 d_Pl_newestOnLine_57 hl (by decide) rfl (fun ls hl => ?_)
            refine lv_goto (tgt := 10) S.1 S.2.1 d_Pl_newestOnLine_59 (by decide) ?_
            have hq : q_me B y a = true := decide_eq_true (q_is_ne.mp c_24)
            rw [if_pos hq] at fP
            exact ih (P ++ [a]) _ _ _ _ ls (he.trans eP) hm2 ho2 (by rw [fP, hF0]; exact lk_snoc hk (hF0 ▸ hnP.filter _) (fun q => haP (List.mem_filter.mp (show a ∈ P.filter (q_me B y) by rw [hF0]; exact q)).1)) hJ (by rw [fP, hF0, show (F ++ [b] ++ [a]).head? = some f0 by rw [← hf0]; cases F <;> rfl, show (F ++ [b] ++ [a]).getLast? = some a by simp]; exact lv_sub hl [0, 1, 2, 3, 4] rfl)
          | cons c0 r0 =>
            refine hp_get S zz hJ h_a f_Pl_48 rfl d_Pl_newestOnLine_54 ?_
            refine lv_astore (lv' := [(4, .ref c0), (3, .ref a), (2, .ref f0), (0, .ref t), (1, .int y)]) S.1 S.2.1 d_Pl_newestOnLine_57 hl (by decide) rfl (fun ls hl => ?_)
            refine lv_goto (tgt := 10) S.1 S.2.1 d_Pl_newestOnLine_59 (by decide) ?_
            have hq : q_me B y a = true := decide_eq_true (q_is_ne.mp c_24)
            rw [if_pos hq] at fP
            exact ih (P ++ [a]) _ _ _ _ ls (he.trans eP) hm2 ho2 (by rw [fP, hF0]; exact lk_snoc hk (hF0 ▸ hnP.filter _) (fun q => haP (List.mem_filter.mp (show a ∈ P.filter (q_me B y) by rw [hF0]; exact q)).1)) hJ (by rw [fP, hF0, show (F ++ [b] ++ [a]).head? = some f0 by rw [← hf0]; cases F <;> rfl, show (F ++ [b] ++ [a]).getLast? = some a by simp]; exact lv_sub hl [0, 1, 2, 3, 4] rfl)
  generalize hq9 : as.head? = q9
  cases q9 with
  | none =>
    refine lv_astoreN (lv' := [(4, .null), (3, .null), (2, .null), (0, .ref t), (1, .int y)]) S.1 S.2.1 d_Pl_newestOnLine_8 hl (by decide) rfl (fun ls hl => ?_)
    exact LP as [] bol _ _ _ ls rfl hm (fun _ _ => rfl) (fun P a r q => by simp at q) hJ (by rw [hq9]; exact lv_sub hl [0, 1, 2, 3, 4] rfl)
  | some c0 =>
    refine lv_astore (lv' := [(4, .ref c0), (3, .null), (2, .null), (0, .ref t), (1, .int y)]) S.1 S.2.1 d_Pl_newestOnLine_8 hl (by decide) rfl (fun ls hl => ?_)
    exact LP as [] bol _ _ _ ls rfl hm (fun _ _ => rfl) (fun P a r q => by simp at q) hJ (by rw [hq9]; exact lv_sub hl [0, 1, 2, 3, 4] rfl)
end
section
/-! A word of a line, under its marks. -/
abbrev wX : Type := Int64 × Option Int64 × Int64 × Int32 × Int32
def q_src (met : Int64) : Option Int64 → Int64
  | none => met
  | some d => d &&& met
def q_op (op met src il : Int64) (so io : Int32) : Int64 := op &&& ((src &&& il) ^^^ (-1)) &&& (if io = 0 then -1 else src ^^^ (-1)) &&& (if so = 0 then -1 else (met &&& (src ^^^ (-1))) ^^^ (-1))
def q_wu (X : Nat → wX) : List Nat → Int64 → Int64 → Int64
  | [], _, bl => bl
  | a :: r, op, bl => if op = 0 then bl else if (X a).1 &&& op = 0 then q_wu X r op bl else q_wu X r (q_op op ((X a).1 &&& op) (q_src ((X a).1 &&& op) (X a).2.1) (X a).2.2.1 (X a).2.2.2.1 (X a).2.2.2.2) (bl ||| (q_src ((X a).1 &&& op) (X a).2.1 &&& (X a).2.2.1))
theorem q_wu_0 (X : Nat → wX) (a : Nat) (r : List Nat) {op : Int64} (bl : Int64) (h : op = 0) : q_wu X (a :: r) op bl = bl := if_pos h
theorem q_wu_n (X : Nat → wX) {a : Nat} (r : List Nat) {op : Int64} (bl : Int64) (h : ¬ op = 0) (h2 : (X a).1 &&& op = 0) : q_wu X (a :: r) op bl = q_wu X r op bl := (if_neg h).trans (if_pos h2)
theorem q_wu_m (X : Nat → wX) {a : Nat} (r : List Nat) {op : Int64} (bl : Int64) (h : ¬ op = 0) (h2 : ¬ (X a).1 &&& op = 0) : q_wu X (a :: r) op bl = q_wu X r (q_op op ((X a).1 &&& op) (q_src ((X a).1 &&& op) (X a).2.1) (X a).2.2.1 (X a).2.2.2.1 (X a).2.2.2.2) (bl ||| (q_src ((X a).1 &&& op) (X a).2.1 &&& (X a).2.2.1)) := (if_neg h).trans (if_neg h2)
/-- what a mark says of the word k of line y -/
def wu_ok (h : hp_T) (c1 : ClassId) (y k : Int32) (a : Nat) (nx : Option Nat) (x : wX) : Prop :=
  ∃ (pc : Option Nat) (lf tp : Int32) (pt ik : Nat) (so io : Int32) (bel : Option Nat) (x0 y0 x1 y1 kd val : Int32) (ib : Nat) (fi : Nat → Int64), h a = some (k_Mk pc lf tp pt ik so io bel nx) ∧ h pt = some (k_Bx x0 y0 x1 y1) ∧ h ik = some (k_In kd val ib) ∧ h ib = some (k_lo c1 16 fi) ∧ x.1 = q_bw x0 x1 k ∧ x.2.2 = (fi (y &&& 15).toNatClampNeg, so, io) ∧
  ((pc = none ∧ x.2.1 = none) ∨ ∃ (q : Nat) (w d tl wd : Int32) (b n : Nat) (f : Nat → Int64), pc = some q ∧ h q = some (k_Pc w d tl wd b) ∧ h b = some (k_lo c1 n f) ∧ (∀ j k : Int32, 0 ≤ j ∧ j < d ∧ 0 ≤ k ∧ k < wd → vp_in (j * wd + k) n) ∧ x.2.1 = some (q_df (q_wa d wd f (q_ln tl (y - tp))) (q_fdiv (k * 64 - lf) 64) (q_fmod (k * 64 - lf) 64)))

set_option maxHeartbeats 4000000 in
set_option maxRecDepth 100000 in
theorem cS_Pl_wordUnder (l : Launch) (dC : Nat → ClassId) (dI : Nat → Nat → Nat) (cA : Nat → ClassId) (A : Nat → Prop) (h : hp_T) (a0 : Nat) (r0 : List Nat) (X : Nat → wX) (y k : Int32) (hF : ∀ (P : List Nat) (a : Nat) (r : List Nat), a0 :: r0 = P ++ a :: r → wu_ok h (cA 1) y k a r.head? (X a)) : Met l y_Pl_wordUnder (.code y_Pl_wordUnder prog_6_method_10_code 15 (some .long) :: BIG) ({ frames := 3, cells := 0, slots := 0, locals := 71 }) (va_Pc [.ref a0, .int y, .int k] (hp_I (gg dC dI cA) A h)) (hp_QR (some (.long (q_wu X (a0 :: r0) (-1) 0)))) 0 0 (fun _ => False) := by
  refine hp_enter (by decide) (Nat.le_of_ble_eq_true rfl) ?_
  intro p e s m below meth c ls S hr hlk hin hI hl
  have hl : lv_has ls 15 [(0, .ref a0), (1, .int y), (2, .int k)] := hl
  have hJ := hI.J
  refine lv_ldc2 (v := (-1)) S.1 S.2.1 S.2.2.2.1 (S.2.2.2.2 _ t_383) d_Pl_wordUnder_0 ?_
  refine lv_lstore_n (lv' := [(3, .long ((-1))), (0, .ref a0), (1, .int y), (2, .int k)]) S.1 S.2.1 d_Pl_wordUnder_3 rfl hl (by decide) rfl (fun ls hl => ?_)
  refine lv_lconst (v := 0) S.1 S.2.1 d_Pl_wordUnder_4 (by decide) ?_
  refine lv_lstore (lv' := [(5, .long 0), (3, .long ((-1))), (0, .ref a0), (1, .int y), (2, .int k)]) S.1 S.2.1 d_Pl_wordUnder_5 hl (by decide) rfl (fun ls hl => ?_)
  refine lv_aload_n S.1 S.2.1 d_Pl_wordUnder_7 rfl (lv_at hl 2 rfl) ?_
  refine lv_astore (lv' := [(7, .ref a0), (5, .long 0), (3, .long ((-1))), (0, .ref a0), (1, .int y), (2, .int k)]) S.1 S.2.1 d_Pl_wordUnder_8 hl (by decide) rfl (fun ls hl => ?_)
  have LP : ∀ (R : List Nat), (∀ (P : List Nat) (a : Nat) (r : List Nat), R = P ++ a :: r → wu_ok h (cA 1) y k a r.head? (X a)) → ∀ (op bl : Int64) (ls : Array Slot), q_wu X R op bl = q_wu X (a0 :: r0) (-1) 0 → lv_has ls 15 [(7, va_rf R.head?), (3, .long op), (5, .long bl), (1, .int y), (2, .int k)] → W p l e ({ frames := 3, cells := 0, slots := 0, locals := 71 }) s m ([.ref a0, .int y, .int k] : List Value).toArray below meth c s.heap [] 0 0 (MQ below (hp_QR (some (.long (q_wu X (a0 :: r0) (-1) 0)))) ([.ref a0, .int y, .int k] : List Value).toArray s 0 0 (fun _ => False)) (F0 m 10 ls []) := by
    intro R
    induction R with
    | nil =>
      intro hF op bl ls hv hl
      replace hl : lv_has ls 15 [(7, .null), (3, .long op), (5, .long bl), (1, .int y), (2, .int k)] := hl
      refine lv_aloadN S.1 S.2.1 d_Pl_wordUnder_10 (lv_at hl 0 rfl) ?_
      refine lv_ifnullN (tgt := 178) S.1 S.2.1 d_Pl_wordUnder_12 (by decide) ?_
      refine lv_lload S.1 S.2.1 d_Pl_wordUnder_178 (lv_at hl 2 rfl) ?_
      exact hp_retRl S hr hlk d_Pl_wordUnder_180 hv
    | cons a r ih =>
      intro hF op bl ls hv hl
      replace hl : lv_has ls 15 [(7, .ref a), (3, .long op), (5, .long bl), (1, .int y), (2, .int k)] := hl
      obtain ⟨pc, lf, tp, pt, ik, so, io, bel, x0, y0, x1, y1, kd, val, ib, fi, h_a, h_pt, h_ik, h_ib, ex1, ex2, hpc⟩ := hF [] a r rfl
      have hF2 : ∀ (P : List Nat) (a : Nat) (r9 : List Nat), r = P ++ a :: r9 → wu_ok h (cA 1) y k a r9.head? (X a) := fun P b r9 q => hF (a :: P) b r9 (by rw [q]; rfl)
      have ex3 : (X a).2.2.1 = fi (y &&& 15).toNatClampNeg := by rw [ex2]
      have ex4 : (X a).2.2.2.1 = so := by rw [ex2]
      have ex5 : (X a).2.2.2.2 = io := by rw [ex2]
      refine lv_aload S.1 S.2.1 d_Pl_wordUnder_10 (lv_at hl 0 rfl) ?_
      refine lv_ifnull S.1 S.2.1 d_Pl_wordUnder_12 ?_
      refine lv_lload_n S.1 S.2.1 d_Pl_wordUnder_15 rfl (lv_at hl 1 rfl) ?_
      refine lv_lconst (v := 0) S.1 S.2.1 d_Pl_wordUnder_16 (by decide) ?_
      refine W.lcmp S.1 S.2.1 d_Pl_wordUnder_17 ?_
      refine lv_if_eq (tgt := 178) S.1 S.2.1 d_Pl_wordUnder_18 (by decide) (fun c_18 => ?_) (fun c_18 => ?_)
      · refine lv_lload S.1 S.2.1 d_Pl_wordUnder_178 (lv_at hl 2 rfl) ?_
        exact hp_retRl S hr hlk d_Pl_wordUnder_180 (by rw [← hv]; exact (q_wu_0 X a r bl ((lg_cmp_0 _).mp c_18)).symm)
      · refine lv_aload S.1 S.2.1 d_Pl_wordUnder_21 (lv_at hl 0 rfl) ?_
        refine hp_get S zz hJ h_a f_Pl_36 rfl d_Pl_wordUnder_23 ?_
        refine lv_iload_n S.1 S.2.1 d_Pl_wordUnder_26 rfl (lv_at hl 4 rfl) ?_
        refine hp_doneR (hp_runV S zz0 (c_Bx_dotsOfWord l dC dI cA A _ pt _ _ _ _ k h_pt) l_Pl_114 (hJ.preV _ h_pt rfl) (by decide) rfl hl.1 rfl (nl rfl) d_Pl_wordUnder_27 (by decide)) ?_
        refine lv_lload_n S.1 S.2.1 d_Pl_wordUnder_30 rfl (lv_at hl 1 rfl) ?_
        refine lv_land S.1 S.2.1 d_Pl_wordUnder_31 ?_
        refine lv_topl (fun met emet => ?_)
        refine lv_lstore (lv' := [(8, .long met), (7, .ref a), (3, .long op), (5, .long bl), (1, .int y), (2, .int k)]) S.1 S.2.1 d_Pl_wordUnder_32 hl (by decide) rfl (fun ls hl => ?_)
        refine lv_lload S.1 S.2.1 d_Pl_wordUnder_34 (lv_at hl 0 rfl) ?_
        refine lv_lconst (v := 0) S.1 S.2.1 d_Pl_wordUnder_36 (by decide) ?_
        refine W.lcmp S.1 S.2.1 d_Pl_wordUnder_37 ?_
        refine lv_if_eq (tgt := 168) S.1 S.2.1 d_Pl_wordUnder_38 (by decide) (fun c_38 => ?_) (fun c_38 => ?_)
        · refine lv_aload S.1 S.2.1 d_Pl_wordUnder_168 (lv_at hl 1 rfl) ?_
          have hv2 : q_wu X r op bl = q_wu X (a0 :: r0) (-1) 0 := by rw [← hv]; exact (q_wu_n X r bl (fun z => c_18 ((lg_cmp_0 _).mpr z)) (by rw [ex1, ← emet]; exact (lg_cmp_0 _).mp c_38)).symm
          generalize hr9 : r.head? = r9 at h_a
          cases r9 with
          | none =>
            refine hp_get S zz hJ h_a f_Pl_100 rfl d_Pl_wordUnder_170 ?_
            refine lv_astoreN (lv' := [(7, .null), (8, .long met), (3, .long op), (5, .long bl), (1, .int y), (2, .int k)]) S.1 S.2.1 d_Pl_wordUnder_173 hl (by decide) rfl (fun ls hl => ?_)
            refine lv_goto (tgt := 10) S.1 S.2.1 d_Pl_wordUnder_175 (by decide) ?_
            exact ih hF2 op bl ls hv2 (by rw [hr9]; exact lv_sub hl [0, 2, 3, 4, 5] rfl)
          | some c0 =>
            refine hp_get S zz hJ h_a f_Pl_100 rfl d_Pl_wordUnder_170 ?_
            refine lv_astore (lv' := [(7, .ref c0), (8, .long met), (3, .long op), (5, .long bl), (1, .int y), (2, .int k)]) S.1 S.2.1 d_Pl_wordUnder_173 hl (by decide) rfl (fun ls hl => ?_)
            refine lv_goto (tgt := 10) S.1 S.2.1 d_Pl_wordUnder_175 (by decide) ?_
            exact ih hF2 op bl ls hv2 (by rw [hr9]; exact lv_sub hl [0, 2, 3, 4, 5] rfl)
        · refine lv_aload S.1 S.2.1 d_Pl_wordUnder_41 (lv_at hl 1 rfl) ?_
          rcases hpc with ⟨rfl, hx9⟩ | ⟨q, w9, d9, tl9, wd9, b9, n9, f9, rfl, h_q, h_b9, hix, hx9⟩
          · refine hp_get S zz hJ h_a f_Pl_70 rfl d_Pl_wordUnder_43 ?_
            refine lv_astoreN (lv' := [(10, .null), (8, .long met), (7, .ref a), (3, .long op), (5, .long bl), (1, .int y), (2, .int k)]) S.1 S.2.1 d_Pl_wordUnder_46 hl (by decide) rfl (fun ls hl => ?_)
            refine lv_aloadN S.1 S.2.1 d_Pl_wordUnder_48 (lv_at hl 0 rfl) ?_
            refine lv_ifnonnullN S.1 S.2.1 d_Pl_wordUnder_50 ?_
            refine lv_lload S.1 S.2.1 d_Pl_wordUnder_53 (lv_at hl 1 rfl) ?_
            refine lv_goto (tgt := 83) S.1 S.2.1 d_Pl_wordUnder_55 (by decide) ?_
            refine lv_topl (fun src esrc => ?_)
            refine lv_lstore (lv' := [(11, .long src), (10, .null), (8, .long met), (7, .ref a), (3, .long op), (5, .long bl), (1, .int y), (2, .int k)]) S.1 S.2.1 d_Pl_wordUnder_83 hl (by decide) rfl (fun ls hl => ?_)
            refine lv_lload S.1 S.2.1 d_Pl_wordUnder_85 (lv_at hl 0 rfl) ?_
            refine lv_aload S.1 S.2.1 d_Pl_wordUnder_87 (lv_at hl 3 rfl) ?_
            refine hp_get S zz hJ h_a f_Pl_130 rfl d_Pl_wordUnder_89 ?_
            refine lv_iload_n S.1 S.2.1 d_Pl_wordUnder_92 rfl (lv_at hl 6 rfl) ?_
            refine hp_doneR (hp_runV S zz0 (c_In_dotsAt l dC dI cA A _ ik ib _ _ fi y h_ik h_ib) l_Pl_134 (hJ.preV _ h_ik rfl) (by decide) rfl hl.1 rfl (nl rfl) d_Pl_wordUnder_93 (by decide)) ?_
            refine lv_land S.1 S.2.1 d_Pl_wordUnder_96 ?_
            refine lv_topl (fun ink1 eink1 => ?_)
            refine lv_lstore (lv' := [(13, .long ink1), (11, .long src), (10, .null), (8, .long met), (7, .ref a), (3, .long op), (5, .long bl), (1, .int y), (2, .int k)]) S.1 S.2.1 d_Pl_wordUnder_97 hl (by decide) rfl (fun ls hl => ?_)
            refine lv_lload S.1 S.2.1 d_Pl_wordUnder_99 (lv_at hl 6 rfl) ?_
            refine lv_lload S.1 S.2.1 d_Pl_wordUnder_101 (lv_at hl 0 rfl) ?_
            refine lv_lor S.1 S.2.1 d_Pl_wordUnder_103 ?_
            refine lv_topl (fun bl2 ebl2 => ?_)
            refine lv_lstore (lv' := [(5, .long bl2), (13, .long ink1), (11, .long src), (10, .null), (8, .long met), (7, .ref a), (3, .long op), (1, .int y), (2, .int k)]) S.1 S.2.1 d_Pl_wordUnder_104 hl (by decide) rfl (fun ls hl => ?_)
            refine lv_lload_n S.1 S.2.1 d_Pl_wordUnder_106 rfl (lv_at hl 6 rfl) ?_
            refine lv_lload S.1 S.2.1 d_Pl_wordUnder_107 (lv_at hl 1 rfl) ?_
            refine lv_ldc2 (v := (-1)) S.1 S.2.1 S.2.2.2.1 (S.2.2.2.2 _ t_383) d_Pl_wordUnder_109 ?_
            refine lv_lxor S.1 S.2.1 d_Pl_wordUnder_112 ?_
            refine lv_land S.1 S.2.1 d_Pl_wordUnder_113 ?_
            refine lv_topl (fun op1 eop1 => ?_)
            refine lv_lstore_n (lv' := [(3, .long op1), (5, .long bl2), (13, .long ink1), (11, .long src), (10, .null), (8, .long met), (7, .ref a), (1, .int y), (2, .int k)]) S.1 S.2.1 d_Pl_wordUnder_114 rfl hl (by decide) rfl (fun ls hl => ?_)
            refine lv_lload_n S.1 S.2.1 d_Pl_wordUnder_115 rfl (lv_at hl 0 rfl) ?_
            refine hp_cutL (fun v => v = (if io = 0 then (-1 : Int64) else src ^^^ (-1))) 136 [.long op1] (fun J => ?_) (fun vio e_vio => ?_)
            · refine lv_aload S.1 S.2.1 d_Pl_wordUnder_116 (lv_at hl 6 rfl) ?_
              refine hp_get S zz hJ h_a f_Pl_139 rfl d_Pl_wordUnder_118 ?_
              refine lv_if_eq (tgt := 133) S.1 S.2.1 d_Pl_wordUnder_121 (by decide) (fun c_121 => ?_) (fun c_121 => ?_)
              · refine lv_ldc2 (v := (-1)) S.1 S.2.1 S.2.2.2.1 (S.2.2.2.2 _ t_383) d_Pl_wordUnder_133 ?_
                exact J _ (if_pos c_121).symm
              · refine lv_lload S.1 S.2.1 d_Pl_wordUnder_124 (lv_at hl 3 rfl) ?_
                refine lv_ldc2 (v := (-1)) S.1 S.2.1 S.2.2.2.1 (S.2.2.2.2 _ t_383) d_Pl_wordUnder_126 ?_
                refine lv_lxor S.1 S.2.1 d_Pl_wordUnder_129 ?_
                refine lv_goto (tgt := 136) S.1 S.2.1 d_Pl_wordUnder_130 (by decide) ?_
                exact J _ (if_neg c_121).symm
            · refine lv_land S.1 S.2.1 d_Pl_wordUnder_136 ?_
              refine lv_topl (fun op2 eop2 => ?_)
              refine lv_lstore_n (lv' := [(3, .long op2), (5, .long bl2), (13, .long ink1), (11, .long src), (10, .null), (8, .long met), (7, .ref a), (1, .int y), (2, .int k)]) S.1 S.2.1 d_Pl_wordUnder_137 rfl hl (by decide) rfl (fun ls hl => ?_)
              refine lv_lload_n S.1 S.2.1 d_Pl_wordUnder_138 rfl (lv_at hl 0 rfl) ?_
              refine hp_cutL (fun v => v = (if so = 0 then (-1 : Int64) else (met &&& (src ^^^ (-1))) ^^^ (-1))) 166 [.long op2] (fun J => ?_) (fun vso e_vso => ?_)
              · refine lv_aload S.1 S.2.1 d_Pl_wordUnder_139 (lv_at hl 6 rfl) ?_
                refine hp_get S zz hJ h_a f_Pl_143 rfl d_Pl_wordUnder_141 ?_
                refine lv_if_eq (tgt := 163) S.1 S.2.1 d_Pl_wordUnder_144 (by decide) (fun c_144 => ?_) (fun c_144 => ?_)
                · refine lv_ldc2 (v := (-1)) S.1 S.2.1 S.2.2.2.1 (S.2.2.2.2 _ t_383) d_Pl_wordUnder_163 ?_
                  exact J _ (if_pos c_144).symm
                · refine lv_lload S.1 S.2.1 d_Pl_wordUnder_147 (lv_at hl 5 rfl) ?_
                  refine lv_lload S.1 S.2.1 d_Pl_wordUnder_149 (lv_at hl 3 rfl) ?_
                  refine lv_ldc2 (v := (-1)) S.1 S.2.1 S.2.2.2.1 (S.2.2.2.2 _ t_383) d_Pl_wordUnder_151 ?_
                  refine lv_lxor S.1 S.2.1 d_Pl_wordUnder_154 ?_
                  refine lv_land S.1 S.2.1 d_Pl_wordUnder_155 ?_
                  refine lv_ldc2 (v := (-1)) S.1 S.2.1 S.2.2.2.1 (S.2.2.2.2 _ t_383) d_Pl_wordUnder_156 ?_
                  refine lv_lxor S.1 S.2.1 d_Pl_wordUnder_159 ?_
                  refine lv_goto (tgt := 166) S.1 S.2.1 d_Pl_wordUnder_160 (by decide) ?_
                  exact J _ (if_neg c_144).symm
              · refine lv_land S.1 S.2.1 d_Pl_wordUnder_166 ?_
                refine lv_topl (fun op3 eop3 => ?_)
                refine lv_lstore_n (lv' := [(3, .long op3), (5, .long bl2), (13, .long ink1), (11, .long src), (10, .null), (8, .long met), (7, .ref a), (1, .int y), (2, .int k)]) S.1 S.2.1 d_Pl_wordUnder_167 rfl hl (by decide) rfl (fun ls hl => ?_)
                refine lv_aload S.1 S.2.1 d_Pl_wordUnder_168 (lv_at hl 6 rfl) ?_
                have em : (X a).1 &&& op = met := by rw [ex1, emet]
                have es : q_src met (X a).2.1 = src := by rw [hx9, esrc]; rfl
                have hv2 : q_wu X r op3 bl2 = q_wu X (a0 :: r0) (-1) 0 := by
                  rw [q_wu_m X r bl (fun z => c_18 ((lg_cmp_0 _).mpr z)) (by rw [em]; exact fun z => c_38 ((lg_cmp_0 _).mpr z)), em, es, ex3, ex4, ex5] at hv
                  rw [← hv, eop3, eop2, eop1, e_vso, e_vio, ebl2, eink1]
                  rfl
                generalize hr9 : r.head? = r9 at h_a
                cases r9 with
                | none =>
                  refine hp_get S zz hJ h_a f_Pl_100 rfl d_Pl_wordUnder_170 ?_
                  refine lv_astoreN (lv' := [(7, .null), (3, .long op3), (5, .long bl2), (13, .long ink1), (11, .long src), (10, .null), (8, .long met), (1, .int y), (2, .int k)]) S.1 S.2.1 d_Pl_wordUnder_173 hl (by decide) rfl (fun ls hl => ?_)
                  refine lv_goto (tgt := 10) S.1 S.2.1 d_Pl_wordUnder_175 (by decide) ?_
                  exact ih hF2 op3 bl2 ls hv2 (by rw [hr9]; exact lv_sub hl [0, 1, 2, 7, 8] rfl)
                | some c0 =>
                  refine hp_get S zz hJ h_a f_Pl_100 rfl d_Pl_wordUnder_170 ?_
                  refine lv_astore (lv' := [(7, .ref c0), (3, .long op3), (5, .long bl2), (13, .long ink1), (11, .long src), (10, .null), (8, .long met), (1, .int y), (2, .int k)]) S.1 S.2.1 d_Pl_wordUnder_173 hl (by decide) rfl (fun ls hl => ?_)
                  refine lv_goto (tgt := 10) S.1 S.2.1 d_Pl_wordUnder_175 (by decide) ?_
                  exact ih hF2 op3 bl2 ls hv2 (by rw [hr9]; exact lv_sub hl [0, 1, 2, 7, 8] rfl)
          · refine hp_get S zz hJ h_a f_Pl_70 rfl d_Pl_wordUnder_43 ?_
            refine lv_astore (lv' := [(10, .ref q), (8, .long met), (7, .ref a), (3, .long op), (5, .long bl), (1, .int y), (2, .int k)]) S.1 S.2.1 d_Pl_wordUnder_46 hl (by decide) rfl (fun ls hl => ?_)
            refine lv_aload S.1 S.2.1 d_Pl_wordUnder_48 (lv_at hl 0 rfl) ?_
            refine lv_ifnonnull (tgt := 58) S.1 S.2.1 d_Pl_wordUnder_50 (by decide) ?_
            refine lv_aload S.1 S.2.1 d_Pl_wordUnder_58 (lv_at hl 0 rfl) ?_
            refine lv_iload_n S.1 S.2.1 d_Pl_wordUnder_60 rfl (lv_at hl 5 rfl) ?_
            refine lv_aload S.1 S.2.1 d_Pl_wordUnder_61 (lv_at hl 2 rfl) ?_
            refine hp_get S zz hJ h_a f_Pl_118 rfl d_Pl_wordUnder_63 ?_
            refine lv_isub S.1 S.2.1 d_Pl_wordUnder_66 ?_
            refine lv_iload_n S.1 S.2.1 d_Pl_wordUnder_67 rfl (lv_at hl 6 rfl) ?_
            refine lv_bipush (v := 64) S.1 S.2.1 d_Pl_wordUnder_68 (by decide) ?_
            refine lv_imul S.1 S.2.1 d_Pl_wordUnder_70 ?_
            refine lv_aload S.1 S.2.1 d_Pl_wordUnder_71 (lv_at hl 2 rfl) ?_
            refine hp_get S zz hJ h_a f_Pl_121 rfl d_Pl_wordUnder_73 ?_
            refine lv_isub S.1 S.2.1 d_Pl_wordUnder_76 ?_
            refine hp_doneR (hp_runV S zz0 (c_Pc_dotsFrom l dC dI cA A _ q b9 _ _ _ _ _ _ _ _ h_q h_b9 hix) l_Pl_124 (hJ.preV _ h_q rfl) (by decide) rfl hl.1 rfl (nl rfl) d_Pl_wordUnder_77 (by decide)) ?_
            refine lv_lload S.1 S.2.1 d_Pl_wordUnder_80 (lv_at hl 1 rfl) ?_
            refine lv_land S.1 S.2.1 d_Pl_wordUnder_82 ?_
            refine lv_topl (fun src esrc => ?_)
            refine lv_lstore (lv' := [(11, .long src), (10, .ref q), (8, .long met), (7, .ref a), (3, .long op), (5, .long bl), (1, .int y), (2, .int k)]) S.1 S.2.1 d_Pl_wordUnder_83 hl (by decide) rfl (fun ls hl => ?_)
            refine lv_lload S.1 S.2.1 d_Pl_wordUnder_85 (lv_at hl 0 rfl) ?_
            refine lv_aload S.1 S.2.1 d_Pl_wordUnder_87 (lv_at hl 3 rfl) ?_
            refine hp_get S zz hJ h_a f_Pl_130 rfl d_Pl_wordUnder_89 ?_
            refine lv_iload_n S.1 S.2.1 d_Pl_wordUnder_92 rfl (lv_at hl 6 rfl) ?_
            refine hp_doneR (hp_runV S zz0 (c_In_dotsAt l dC dI cA A _ ik ib _ _ fi y h_ik h_ib) l_Pl_134 (hJ.preV _ h_ik rfl) (by decide) rfl hl.1 rfl (nl rfl) d_Pl_wordUnder_93 (by decide)) ?_
            refine lv_land S.1 S.2.1 d_Pl_wordUnder_96 ?_
            refine lv_topl (fun ink1 eink1 => ?_)
            refine lv_lstore (lv' := [(13, .long ink1), (11, .long src), (10, .ref q), (8, .long met), (7, .ref a), (3, .long op), (5, .long bl), (1, .int y), (2, .int k)]) S.1 S.2.1 d_Pl_wordUnder_97 hl (by decide) rfl (fun ls hl => ?_)
            refine lv_lload S.1 S.2.1 d_Pl_wordUnder_99 (lv_at hl 6 rfl) ?_
            refine lv_lload S.1 S.2.1 d_Pl_wordUnder_101 (lv_at hl 0 rfl) ?_
            refine lv_lor S.1 S.2.1 d_Pl_wordUnder_103 ?_
            refine lv_topl (fun bl2 ebl2 => ?_)
            refine lv_lstore (lv' := [(5, .long bl2), (13, .long ink1), (11, .long src), (10, .ref q), (8, .long met), (7, .ref a), (3, .long op), (1, .int y), (2, .int k)]) S.1 S.2.1 d_Pl_wordUnder_104 hl (by decide) rfl (fun ls hl => ?_)
            refine lv_lload_n S.1 S.2.1 d_Pl_wordUnder_106 rfl (lv_at hl 6 rfl) ?_
            refine lv_lload S.1 S.2.1 d_Pl_wordUnder_107 (lv_at hl 1 rfl) ?_
            refine lv_ldc2 (v := (-1)) S.1 S.2.1 S.2.2.2.1 (S.2.2.2.2 _ t_383) d_Pl_wordUnder_109 ?_
            refine lv_lxor S.1 S.2.1 d_Pl_wordUnder_112 ?_
            refine lv_land S.1 S.2.1 d_Pl_wordUnder_113 ?_
            refine lv_topl (fun op1 eop1 => ?_)
            refine lv_lstore_n (lv' := [(3, .long op1), (5, .long bl2), (13, .long ink1), (11, .long src), (10, .ref q), (8, .long met), (7, .ref a), (1, .int y), (2, .int k)]) S.1 S.2.1 d_Pl_wordUnder_114 rfl hl (by decide) rfl (fun ls hl => ?_)
            refine lv_lload_n S.1 S.2.1 d_Pl_wordUnder_115 rfl (lv_at hl 0 rfl) ?_
            refine hp_cutL (fun v => v = (if io = 0 then (-1 : Int64) else src ^^^ (-1))) 136 [.long op1] (fun J => ?_) (fun vio e_vio => ?_)
            · refine lv_aload S.1 S.2.1 d_Pl_wordUnder_116 (lv_at hl 6 rfl) ?_
              refine hp_get S zz hJ h_a f_Pl_139 rfl d_Pl_wordUnder_118 ?_
              refine lv_if_eq (tgt := 133) S.1 S.2.1 d_Pl_wordUnder_121 (by decide) (fun c_121 => ?_) (fun c_121 => ?_)
              · refine lv_ldc2 (v := (-1)) S.1 S.2.1 S.2.2.2.1 (S.2.2.2.2 _ t_383) d_Pl_wordUnder_133 ?_
                exact J _ (if_pos c_121).symm
              · refine lv_lload S.1 S.2.1 d_Pl_wordUnder_124 (lv_at hl 3 rfl) ?_
                refine lv_ldc2 (v := (-1)) S.1 S.2.1 S.2.2.2.1 (S.2.2.2.2 _ t_383) d_Pl_wordUnder_126 ?_
                refine lv_lxor S.1 S.2.1 d_Pl_wordUnder_129 ?_
                refine lv_goto (tgt := 136) S.1 S.2.1 d_Pl_wordUnder_130 (by decide) ?_
                exact J _ (if_neg c_121).symm
            · refine lv_land S.1 S.2.1 d_Pl_wordUnder_136 ?_
              refine lv_topl (fun op2 eop2 => ?_)
              refine lv_lstore_n (lv' := [(3, .long op2), (5, .long bl2), (13, .long ink1), (11, .long src), (10, .ref q), (8, .long met), (7, .ref a), (1, .int y), (2, .int k)]) S.1 S.2.1 d_Pl_wordUnder_137 rfl hl (by decide) rfl (fun ls hl => ?_)
              refine lv_lload_n S.1 S.2.1 d_Pl_wordUnder_138 rfl (lv_at hl 0 rfl) ?_
              refine hp_cutL (fun v => v = (if so = 0 then (-1 : Int64) else (met &&& (src ^^^ (-1))) ^^^ (-1))) 166 [.long op2] (fun J => ?_) (fun vso e_vso => ?_)
              · refine lv_aload S.1 S.2.1 d_Pl_wordUnder_139 (lv_at hl 6 rfl) ?_
                refine hp_get S zz hJ h_a f_Pl_143 rfl d_Pl_wordUnder_141 ?_
                refine lv_if_eq (tgt := 163) S.1 S.2.1 d_Pl_wordUnder_144 (by decide) (fun c_144 => ?_) (fun c_144 => ?_)
                · refine lv_ldc2 (v := (-1)) S.1 S.2.1 S.2.2.2.1 (S.2.2.2.2 _ t_383) d_Pl_wordUnder_163 ?_
                  exact J _ (if_pos c_144).symm
                · refine lv_lload S.1 S.2.1 d_Pl_wordUnder_147 (lv_at hl 5 rfl) ?_
                  refine lv_lload S.1 S.2.1 d_Pl_wordUnder_149 (lv_at hl 3 rfl) ?_
                  refine lv_ldc2 (v := (-1)) S.1 S.2.1 S.2.2.2.1 (S.2.2.2.2 _ t_383) d_Pl_wordUnder_151 ?_
                  refine lv_lxor S.1 S.2.1 d_Pl_wordUnder_154 ?_
                  refine lv_land S.1 S.2.1 d_Pl_wordUnder_155 ?_
                  refine lv_ldc2 (v := (-1)) S.1 S.2.1 S.2.2.2.1 (S.2.2.2.2 _ t_383) d_Pl_wordUnder_156 ?_
                  refine lv_lxor S.1 S.2.1 d_Pl_wordUnder_159 ?_
                  refine lv_goto (tgt := 166) S.1 S.2.1 d_Pl_wordUnder_160 (by decide) ?_
                  exact J _ (if_neg c_144).symm
              · refine lv_land S.1 S.2.1 d_Pl_wordUnder_166 ?_
                refine lv_topl (fun op3 eop3 => ?_)
                refine lv_lstore_n (lv' := [(3, .long op3), (5, .long bl2), (13, .long ink1), (11, .long src), (10, .ref q), (8, .long met), (7, .ref a), (1, .int y), (2, .int k)]) S.1 S.2.1 d_Pl_wordUnder_167 rfl hl (by decide) rfl (fun ls hl => ?_)
                refine lv_aload S.1 S.2.1 d_Pl_wordUnder_168 (lv_at hl 6 rfl) ?_
                have em : (X a).1 &&& op = met := by rw [ex1, emet]
                have es : q_src met (X a).2.1 = src := by rw [hx9, esrc]; rfl
                have hv2 : q_wu X r op3 bl2 = q_wu X (a0 :: r0) (-1) 0 := by
                  rw [q_wu_m X r bl (fun z => c_18 ((lg_cmp_0 _).mpr z)) (by rw [em]; exact fun z => c_38 ((lg_cmp_0 _).mpr z)), em, es, ex3, ex4, ex5] at hv
                  rw [← hv, eop3, eop2, eop1, e_vso, e_vio, ebl2, eink1]
                  rfl
                generalize hr9 : r.head? = r9 at h_a
                cases r9 with
                | none =>
                  refine hp_get S zz hJ h_a f_Pl_100 rfl d_Pl_wordUnder_170 ?_
                  refine lv_astoreN (lv' := [(7, .null), (3, .long op3), (5, .long bl2), (13, .long ink1), (11, .long src), (10, .ref q), (8, .long met), (1, .int y), (2, .int k)]) S.1 S.2.1 d_Pl_wordUnder_173 hl (by decide) rfl (fun ls hl => ?_)
                  refine lv_goto (tgt := 10) S.1 S.2.1 d_Pl_wordUnder_175 (by decide) ?_
                  exact ih hF2 op3 bl2 ls hv2 (by rw [hr9]; exact lv_sub hl [0, 1, 2, 7, 8] rfl)
                | some c0 =>
                  refine hp_get S zz hJ h_a f_Pl_100 rfl d_Pl_wordUnder_170 ?_
                  refine lv_astore (lv' := [(7, .ref c0), (3, .long op3), (5, .long bl2), (13, .long ink1), (11, .long src), (10, .ref q), (8, .long met), (1, .int y), (2, .int k)]) S.1 S.2.1 d_Pl_wordUnder_173 hl (by decide) rfl (fun ls hl => ?_)
                  refine lv_goto (tgt := 10) S.1 S.2.1 d_Pl_wordUnder_175 (by decide) ?_
                  exact ih hF2 op3 bl2 ls hv2 (by rw [hr9]; exact lv_sub hl [0, 1, 2, 7, 8] rfl)
  exact LP (a0 :: r0) hF (-1) 0 ls rfl (lv_sub hl [0, 2, 1, 4, 5] rfl)

set_option maxHeartbeats 4000000 in
set_option maxRecDepth 100000 in
theorem cN_Pl_wordUnder (l : Launch) (dC : Nat → ClassId) (dI : Nat → Nat → Nat) (cA : Nat → ClassId) (A : Nat → Prop) (h : hp_T) (y k : Int32)  : Met l y_Pl_wordUnder (.code y_Pl_wordUnder prog_6_method_10_code 15 (some .long) :: BIG) ({ frames := 3, cells := 0, slots := 0, locals := 71 }) (va_Pc [.null, .int y, .int k] (hp_I (gg dC dI cA) A h)) (hp_QR (some (.long 0))) 0 0 (fun _ => False) := by
  refine hp_enter (by decide) (Nat.le_of_ble_eq_true rfl) ?_
  intro p e s m below meth c ls S hr hlk hin hI hl
  have hl : lv_has ls 15 [(0, .null), (1, .int y), (2, .int k)] := hl
  have hJ := hI.J
  refine lv_ldc2 (v := (-1)) S.1 S.2.1 S.2.2.2.1 (S.2.2.2.2 _ t_383) d_Pl_wordUnder_0 ?_
  refine lv_lstore_n (lv' := [(3, .long ((-1))), (0, .null), (1, .int y), (2, .int k)]) S.1 S.2.1 d_Pl_wordUnder_3 rfl hl (by decide) rfl (fun ls hl => ?_)
  refine lv_lconst (v := 0) S.1 S.2.1 d_Pl_wordUnder_4 (by decide) ?_
  refine lv_lstore (lv' := [(5, .long 0), (3, .long ((-1))), (0, .null), (1, .int y), (2, .int k)]) S.1 S.2.1 d_Pl_wordUnder_5 hl (by decide) rfl (fun ls hl => ?_)
  refine lv_aload_nN S.1 S.2.1 d_Pl_wordUnder_7 rfl (lv_at hl 2 rfl) ?_
  refine lv_astoreN (lv' := [(7, .null), (5, .long 0), (3, .long ((-1))), (0, .null), (1, .int y), (2, .int k)]) S.1 S.2.1 d_Pl_wordUnder_8 hl (by decide) rfl (fun ls hl => ?_)
  refine lv_aloadN S.1 S.2.1 d_Pl_wordUnder_10 (lv_at hl 0 rfl) ?_
  refine lv_ifnullN (tgt := 178) S.1 S.2.1 d_Pl_wordUnder_12 (by decide) ?_
  refine lv_lload S.1 S.2.1 d_Pl_wordUnder_178 (lv_at hl 1 rfl) ?_
  exact hp_retRl S hr hlk d_Pl_wordUnder_180 rfl
end
section
/-! A line's words and how many black dots it has. -/
abbrev pI : Type := Int32 × Int32 × Int32 × Int32 × Nat × (Nat → Int64)
def mk_ok (h : hp_T) (c1 : ClassId) (d : mD) (B : Int32 × Int32 × Int32 × Int32) (fi : Nat → Int64) (pi : Option pI) : Prop :=
  h d.2.2.2.1 = some (k_Bx B.1 B.2.1 B.2.2.1 B.2.2.2) ∧ (∃ (kd val : Int32) (ib : Nat), h d.2.2.2.2.1 = some (k_In kd val ib) ∧ h ib = some (k_lo c1 16 fi)) ∧
  ((d.1 = none ∧ pi = none) ∨ ∃ (q b : Nat) (p : pI), d.1 = some q ∧ pi = some p ∧ h q = some (k_Pc p.1 p.2.1 p.2.2.1 p.2.2.2.1 b) ∧ h b = some (k_lo c1 p.2.2.2.2.1 p.2.2.2.2.2) ∧ ∀ j k : Int32, 0 ≤ j ∧ j < p.2.1 ∧ 0 ≤ k ∧ k < p.2.2.2.1 → vp_in (j * p.2.2.2.1 + k) p.2.2.2.2.1)
/-- all cells but marks stay -/
def nm (h h' : hp_T) : Prop := ∀ (x : Nat) (e : va_E), h x = some e → hp_kind e ≠ (0, 3) → h' x = some e
theorem nm_of {h h' : hp_T} {D : Nat → mD} {bol : Nat → Option Nat} {as : List Nat} (hm : mc h D bol as) (ho : ∀ a, a ∉ as → h' a = h a) : nm h h' := by
  intro x e he hk
  by_cases hx : x ∈ as
  · obtain ⟨P, r, hP⟩ := List.append_of_mem hx
    have h1 := hm P x r hP
    rw [he] at h1
    exact absurd (by rw [Option.some.inj h1]; rfl) hk
  · rw [ho x hx]
    exact he
theorem mk_ok.keep {h h' : hp_T} {c1 : ClassId} {d : mD} {B : Int32 × Int32 × Int32 × Int32} {fi : Nat → Int64} {pi : Option pI} (hn : nm h h') (ho : mk_ok h c1 d B fi pi) : mk_ok h' c1 d B fi pi := by
  obtain ⟨h1, ⟨kd, val, ib, h2, h3⟩, h4⟩ := ho
  refine ⟨hn _ _ h1 (show ((0, 1) : Nat × Nat) ≠ (0, 3) by decide), ⟨kd, val, ib, hn _ _ h2 (show ((0, 2) : Nat × Nat) ≠ (0, 3) by decide), hn _ _ h3 (show ((2, 0) : Nat × Nat) ≠ (0, 3) by decide)⟩, ?_⟩
  rcases h4 with h4 | ⟨q, b, p, a1, a2, a3, a4, a5⟩
  · exact Or.inl h4
  · exact Or.inr ⟨q, b, p, a1, a2, hn _ _ a3 (show ((0, 4) : Nat × Nat) ≠ (0, 3) by decide), hn _ _ a4 (show ((2, 0) : Nat × Nat) ≠ (0, 3) by decide), a5⟩
def q_X (D : Nat → mD) (B : Nat → Int32 × Int32 × Int32 × Int32) (FI : Nat → Nat → Int64) (PI : Nat → Option pI) (y k : Int32) (a : Nat) : wX :=
  (q_bw (B a).1 (B a).2.2.1 k, (PI a).map (fun p => q_df (q_wa p.2.1 p.2.2.2.1 p.2.2.2.2.2 (q_ln p.2.2.1 (y - (D a).2.2.1))) (q_fdiv (k * 64 - (D a).2.1) 64) (q_fmod (k * 64 - (D a).2.1) 64)), FI a (y &&& 15).toNatClampNeg, (D a).2.2.2.2.2.1, (D a).2.2.2.2.2.2)
theorem wu_of {h' : hp_T} {c1 : ClassId} {D : Nat → mD} {bol' : Nat → Option Nat} {as fs : List Nat} {B : Nat → Int32 × Int32 × Int32 × Int32} {FI : Nat → Nat → Int64} {PI : Nat → Option pI} (hm : mc h' D bol' as) (hl : lk bol' fs) (hs : ∀ a ∈ fs, a ∈ as) (hok : ∀ a ∈ as, mk_ok h' c1 (D a) (B a) (FI a) (PI a)) (y k : Int32) : ∀ (P : List Nat) (a : Nat) (r : List Nat), fs = P ++ a :: r → wu_ok h' c1 y k a r.head? (q_X D B FI PI y k a) := by
  intro P a r he
  have ha : a ∈ as := hs a (by rw [he]; exact List.mem_append_right _ List.mem_cons_self)
  obtain ⟨P', r', he'⟩ := List.append_of_mem ha
  have hc := hm P' a r' he'
  rw [hl P a r he] at hc
  obtain ⟨h1, ⟨kd, val, ib, h2, h3⟩, h4⟩ := hok a ha
  refine ⟨_, _, _, _, _, _, _, _, _, _, _, _, kd, val, ib, FI a, hc, h1, h2, h3, rfl, rfl, ?_⟩
  rcases h4 with ⟨a1, a2⟩ | ⟨q, b, p, a1, a2, a3, a4, a5⟩
  · exact Or.inl ⟨a1, by unfold q_X; rw [a2]; rfl⟩
  · exact Or.inr ⟨q, _, _, _, _, b, _, _, a1, a3, a4, a5, by unfold q_X; rw [a2]; rfl⟩

set_option maxHeartbeats 4000000 in
set_option maxRecDepth 100000 in
theorem c_Pl_wordOf (l : Launch) (dC : Nat → ClassId) (dI : Nat → Nat → Nat) (cA : Nat → ClassId) (A : Nat → Prop) (h : hp_T) (t bl st n : Nat) (sz : Int32) (as : List Nat) (D : Nat → mD) (bol : Nat → Option Nat) (B : Nat → Int32 × Int32 × Int32 × Int32) (FI : Nat → Nat → Int64) (PI : Nat → Option pI) (y k : Int32) (hnd : as.Nodup) (hm : mc h D bol as) (hok : ∀ a ∈ as, mk_ok h (cA 1) (D a) (B a) (FI a) (PI a)) (h_t : h t = some (k_Pl (nI n) bl st sz as.head?)) : Met l y_Pl_wordOf (.code y_Pl_wordOf prog_6_method_5_code 3 (some .long) :: BIG) ({ frames := 4, cells := 0, slots := 0, locals := 105 }) (va_Pc [.ref t, .int y, .int k] (hp_I (gg dC dI cA) A h)) (hp_QW (gg dC dI cA) A hp_ml (fun r h' => r = q_wu (q_X D B FI PI y k) (as.filter (q_me B y)) (-1) 0 ∧ ∃ bol', mc h' D bol' as ∧ ∀ a, a ∉ as → h' a = h a)) 0 0 A := by
  refine hp_enter (by decide) (Nat.le_of_ble_eq_true rfl) ?_
  intro p e s m below meth c ls S hr hlk hin hI hl
  have hl : lv_has ls 3 [(0, .ref t), (1, .int y), (2, .int k)] := hl
  have hJ := hI.J
  refine lv_aload_n S.1 S.2.1 d_Pl_wordOf_0 rfl (lv_at hl 0 rfl) ?_
  refine lv_iload_n S.1 S.2.1 d_Pl_wordOf_1 rfl (lv_at hl 1 rfl) ?_
  refine hp_doneWq hJ (hp_runV S zz0 (c_Pl_newestOnLine l dC dI cA A h t bl st n sz y as D bol B hnd hm (fun a ha => (hok a ha).1) h_t) l_Pl_78 (hJ.preV _ h_t rfl) (by decide) rfl hl.1 rfl (nl rfl) d_Pl_wordOf_2 (by decide)) (fun rq h1 H locs hx hJ => ?_)
  obtain ⟨bol', erq, hlk', hm1, ho1⟩ := hx
  subst erq
  have hok1 : ∀ a ∈ as, mk_ok h1 (cA 1) (D a) (B a) (FI a) (PI a) := fun a ha => (hok a ha).keep (nm_of hm ho1)
  obtain ⟨fs, hfs⟩ : ∃ z, z = as.filter (q_me B y) := ⟨_, rfl⟩
  rw [← hfs] at hlk'
  have hwu := fun k => wu_of hm1 hlk' (fun a ha => (List.mem_filter.mp (hfs ▸ ha)).1) hok1 y k
  have h_t : h1 t = some (k_Pl (nI n) bl st sz as.head?) := nm_of hm ho1 _ _ h_t (show ((0, 5) : Nat × Nat) ≠ (0, 3) by decide)
  rw [show (as.filter (q_me B y)).head? = fs.head? by rw [hfs]]
  cases fs with
  | nil =>
    replace hfs := hfs.symm
    rw [show va_rf ([] : List Nat).head? = .null from rfl]
    refine lv_iload_n S.1 S.2.1 d_Pl_wordOf_5 rfl (lv_at hl 1 rfl) ?_
    refine lv_iload_n S.1 S.2.1 d_Pl_wordOf_6 rfl (lv_at hl 2 rfl) ?_
    refine hp_doneR (hp_runS S zz0 (cN_Pl_wordUnder l dC dI cA A h1 _ _) l_Pl_82 (hJ.pre _) (by decide) rfl hl.1 rfl (nl rfl) d_Pl_wordOf_7 (by decide)) ?_
    exact hp_retWl S hJ hr hlk d_Pl_wordOf_10 (by decide) ⟨by rw [hfs]; rfl, bol', hm1, ho1⟩
  | cons a0 r0 =>
    replace hfs := hfs.symm
    rw [show va_rf (a0 :: r0).head? = .ref a0 from rfl]
    refine lv_iload_n S.1 S.2.1 d_Pl_wordOf_5 rfl (lv_at hl 1 rfl) ?_
    refine lv_iload_n S.1 S.2.1 d_Pl_wordOf_6 rfl (lv_at hl 2 rfl) ?_
    refine hp_doneR (hp_runS S zz0 (cS_Pl_wordUnder l dC dI cA A h1 a0 r0 (q_X D B FI PI y k) y k (hwu k)) l_Pl_82 (hJ.pre _) (by decide) rfl hl.1 rfl (nl rfl) d_Pl_wordOf_7 (by decide)) ?_
    exact hp_retWl S hJ hr hlk d_Pl_wordOf_10 (by decide) ⟨by rw [hfs], bol', hm1, ho1⟩

def q_fr (B : Nat → Int32 × Int32 × Int32 × Int32) : List Nat → Int32 → Int32
  | [], x => x
  | a :: r, x => q_fr B r (q_min x (B a).1)
def q_tx (B : Nat → Int32 × Int32 × Int32 × Int32) : List Nat → Int32 → Int32
  | [], x => x
  | a :: r, x => q_tx B r (q_max x (B a).2.2.1)
def q_sm (g : Nat → Int32) (lo : Nat) : Nat → Int32
  | 0 => 0
  | n + 1 => q_sm g lo n + g (lo + n)

set_option maxHeartbeats 4000000 in
set_option maxRecDepth 100000 in
theorem c_Pl_countedBlacks (l : Launch) (dC : Nat → ClassId) (dI : Nat → Nat → Nat) (cA : Nat → ClassId) (A : Nat → Prop) (h : hp_T) (t bl st n : Nat) (sz : Int32) (as : List Nat) (D : Nat → mD) (bol : Nat → Option Nat) (B : Nat → Int32 × Int32 × Int32 × Int32) (FI : Nat → Nat → Int64) (PI : Nat → Option pI) (y : Int32) (f1 t1 : Nat) (hnd : as.Nodup) (hm : mc h D bol as) (hok : ∀ a ∈ as, mk_ok h (cA 1) (D a) (B a) (FI a) (PI a)) (h_t : h t = some (k_Pl (nI n) bl st sz as.head?)) (hf1 : f1 ≤ 5100 ∧ q_fr B (as.filter (q_me B y)) 5100 / 64 = nI f1) (ht1 : t1 ≤ 5100 ∧ q_tx B (as.filter (q_me B y)) 0 / 64 = nI t1) : Met l y_Pl_countedBlacks (.code y_Pl_countedBlacks prog_6_method_8_code 7 (some .int) :: BIG) ({ frames := 4, cells := 0, slots := 0, locals := 105 }) (va_Pc [.ref t, .int y] (hp_I (gg dC dI cA) A h)) (hp_QW (gg dC dI cA) A hp_mi (fun r h' => r = q_sm (fun k => q_bc (q_wu (q_X D B FI PI y (nI k)) (as.filter (q_me B y)) (-1) 0)) f1 (t1 + 1 - f1) ∧ ∃ bol', mc h' D bol' as ∧ ∀ a, a ∉ as → h' a = h a)) 0 0 A := by
  refine hp_enter (by decide) (Nat.le_of_ble_eq_true rfl) ?_
  intro p e s m below meth c ls S hr hlk hin hI hl
  have hl : lv_has ls 7 [(0, .ref t), (1, .int y)] := hl
  have hJ := hI.J
  refine lv_aload_n S.1 S.2.1 d_Pl_countedBlacks_0 rfl (lv_at hl 0 rfl) ?_
  refine lv_iload_n S.1 S.2.1 d_Pl_countedBlacks_1 rfl (lv_at hl 1 rfl) ?_
  refine hp_doneWq hJ (hp_runV S zz0 (c_Pl_newestOnLine l dC dI cA A h t bl st n sz y as D bol B hnd hm (fun a ha => (hok a ha).1) h_t) l_Pl_78 (hJ.preV _ h_t rfl) (by decide) rfl hl.1 rfl (nl rfl) d_Pl_countedBlacks_2 (by decide)) (fun rq h1 H locs hx hJ => ?_)
  obtain ⟨bol', erq, hlk', hm1, ho1⟩ := hx
  subst erq
  have hok1 : ∀ a ∈ as, mk_ok h1 (cA 1) (D a) (B a) (FI a) (PI a) := fun a ha => (hok a ha).keep (nm_of hm ho1)
  obtain ⟨fs, hfs⟩ : ∃ z, z = as.filter (q_me B y) := ⟨_, rfl⟩
  rw [← hfs] at hlk'
  have hwu := fun k => wu_of hm1 hlk' (fun a ha => (List.mem_filter.mp (hfs ▸ ha)).1) hok1 y k
  have h_t : h1 t = some (k_Pl (nI n) bl st sz as.head?) := nm_of hm ho1 _ _ h_t (show ((0, 5) : Nat × Nat) ≠ (0, 3) by decide)
  rw [show (as.filter (q_me B y)).head? = fs.head? by rw [hfs]]
  cases fs with
  | nil =>
    replace hfs := hfs.symm
    rw [show va_rf ([] : List Nat).head? = .null from rfl]
    refine lv_astore_nN (lv' := [(2, .null), (0, .ref t), (1, .int y)]) S.1 S.2.1 d_Pl_countedBlacks_5 rfl hl (by decide) rfl (fun ls hl => ?_)
    refine lv_sipush (v := 5100) S.1 S.2.1 d_Pl_countedBlacks_6 (by decide) ?_
    refine lv_istore_n (lv' := [(3, .int 5100), (2, .null), (0, .ref t), (1, .int y)]) S.1 S.2.1 d_Pl_countedBlacks_9 rfl hl (by decide) rfl (fun ls hl => ?_)
    refine lv_iconst (v := 0) S.1 S.2.1 d_Pl_countedBlacks_10 (by decide) ?_
    refine lv_istore (lv' := [(4, .int 0), (3, .int 5100), (2, .null), (0, .ref t), (1, .int y)]) S.1 S.2.1 d_Pl_countedBlacks_11 hl (by decide) rfl (fun ls hl => ?_)
    refine lv_aload_nN S.1 S.2.1 d_Pl_countedBlacks_13 rfl (lv_at hl 2 rfl) ?_
    refine lv_astoreN (lv' := [(5, .null), (4, .int 0), (3, .int 5100), (2, .null), (0, .ref t), (1, .int y)]) S.1 S.2.1 d_Pl_countedBlacks_14 hl (by decide) rfl (fun ls hl => ?_)
    refine lv_aloadN S.1 S.2.1 d_Pl_countedBlacks_16 (lv_at hl 0 rfl) ?_
    refine lv_ifnullN (tgt := 59) S.1 S.2.1 d_Pl_countedBlacks_18 (by decide) ?_
    refine lv_iconst (v := 0) S.1 S.2.1 d_Pl_countedBlacks_59 (by decide) ?_
    refine lv_istore (lv' := [(5, .int 0), (4, .int 0), (3, .int 5100), (2, .null), (0, .ref t), (1, .int y)]) S.1 S.2.1 d_Pl_countedBlacks_60 hl (by decide) rfl (fun ls hl => ?_)
    refine lv_iload_n S.1 S.2.1 d_Pl_countedBlacks_62 rfl (lv_at hl 2 rfl) ?_
    refine lv_bipush (v := 64) S.1 S.2.1 d_Pl_countedBlacks_63 (by decide) ?_
    rw [hfs] at hf1 ht1
    have hfr1 : (5100 : Int32) / 64 = nI f1 := hf1.2
    have hto1 : (0 : Int32) / 64 = nI t1 := ht1.2
    refine lv_idiv S.1 S.2.1 d_Pl_countedBlacks_65 (by decide) ?_
    rw [hfr1]
    refine lv_istore (lv' := [(6, .int (nI f1)), (5, .int 0), (4, .int 0), (3, .int 5100), (2, .null), (0, .ref t), (1, .int y)]) S.1 S.2.1 d_Pl_countedBlacks_66 hl (by decide) rfl (fun ls hl => ?_)
    have LQ : ∀ (m_ j : Nat) (ls : Array Slot), j + m_ = t1 + 1 - f1 → lv_has ls 7 [(6, .int (nI (f1 + j))), (5, .int (q_sm (fun k => q_bc (q_wu (q_X D B FI PI y (nI k)) [] (-1) 0)) f1 j)), (4, .int 0), (2, .null), (0, .ref t), (1, .int y)] → W p l e ({ frames := 4, cells := 0, slots := 0, locals := 105 }) s m ([.ref t, .int y] : List Value).toArray below meth c H locs 0 0 (MQ below (hp_QW (gg dC dI cA) A hp_mi (fun r h' => r = q_sm (fun k => q_bc (q_wu (q_X D B FI PI y (nI k)) (as.filter (q_me B y)) (-1) 0)) f1 (t1 + 1 - f1) ∧ ∃ bol', mc h' D bol' as ∧ ∀ a, a ∉ as → h' a = h a)) ([.ref t, .int y] : List Value).toArray s 0 0 A) (F0 m 68 ls []) := by
      intro m_
      induction m_ with
      | zero =>
        intro j ls hu hl
        refine lv_iload S.1 S.2.1 d_Pl_countedBlacks_68 (lv_at hl 0 rfl) ?_
        refine lv_iload S.1 S.2.1 d_Pl_countedBlacks_70 (lv_at hl 2 rfl) ?_
        refine lv_bipush (v := 64) S.1 S.2.1 d_Pl_countedBlacks_72 (by decide) ?_
        refine lv_idiv S.1 S.2.1 d_Pl_countedBlacks_74 (by decide) ?_
        rw [hto1]
        refine lv_icmp_gt (tgt := 99) S.1 S.2.1 d_Pl_countedBlacks_75 (by decide) (fun _ => ?_) (fun q => absurd (nI_lt (by omega) (by omega)) q)
        refine lv_iload S.1 S.2.1 d_Pl_countedBlacks_99 (lv_at hl 1 rfl) ?_
        exact hp_retWi S hJ hr hlk d_Pl_countedBlacks_101 (by decide) ⟨by rw [hfs, ← show j = t1 + 1 - f1 by omega], bol', hm1, ho1⟩
      | succ m_ ihq =>
        intro j ls hu hl
        refine lv_iload S.1 S.2.1 d_Pl_countedBlacks_68 (lv_at hl 0 rfl) ?_
        refine lv_iload S.1 S.2.1 d_Pl_countedBlacks_70 (lv_at hl 2 rfl) ?_
        refine lv_bipush (v := 64) S.1 S.2.1 d_Pl_countedBlacks_72 (by decide) ?_
        refine lv_idiv S.1 S.2.1 d_Pl_countedBlacks_74 (by decide) ?_
        rw [hto1]
        refine lv_icmp_gt (tgt := 99) S.1 S.2.1 d_Pl_countedBlacks_75 (by decide) (fun q => absurd ((nI_ltI (by omega) (by omega)).mp q) (by omega)) (fun _ => ?_)
        refine lv_iload S.1 S.2.1 d_Pl_countedBlacks_78 (lv_at hl 1 rfl) ?_
        refine lv_aload_nN S.1 S.2.1 d_Pl_countedBlacks_80 rfl (lv_at hl 3 rfl) ?_
        refine lv_iload_n S.1 S.2.1 d_Pl_countedBlacks_81 rfl (lv_at hl 5 rfl) ?_
        refine lv_iload S.1 S.2.1 d_Pl_countedBlacks_82 (lv_at hl 0 rfl) ?_
        refine hp_doneR (hp_runS S zz0 (cN_Pl_wordUnder l dC dI cA A h1 _ _) l_Pl_82 (hJ.pre _) (by decide) rfl hl.1 rfl (nl rfl) d_Pl_countedBlacks_84 (by decide)) ?_
        refine hp_doneR (hp_runS S zz0 (c_JL_bitCount l _) l_Pl_103 (hp_pre0 _) (by decide) rfl hl.1 rfl (nl rfl) d_Pl_countedBlacks_87 (by decide)) ?_
        refine lv_iadd S.1 S.2.1 d_Pl_countedBlacks_90 ?_
        refine lv_istore (lv' := [(5, .int _), (6, .int (nI (f1 + j))), (4, .int 0), (2, .null), (0, .ref t), (1, .int y)]) S.1 S.2.1 d_Pl_countedBlacks_91 hl (by decide) rfl (fun ls hl => ?_)
        refine lv_iinc (v := nI (f1 + (j + 1))) (lv' := [(6, .int (nI (f1 + (j + 1)))), (5, .int _), (4, .int 0), (2, .null), (0, .ref t), (1, .int y)]) S.1 S.2.1 d_Pl_countedBlacks_93 hl (k := 1) rfl (nI_1 _) (by decide) rfl (fun ls hl => ?_)
        refine lv_goto (tgt := 68) S.1 S.2.1 d_Pl_countedBlacks_96 (by decide) ?_
        exact ihq (j + 1) ls (by omega) (lv_sub hl [0, 1, 2, 3, 4, 5] rfl)
    exact LQ (t1 + 1 - f1) 0 ls (by omega) (lv_sub hl [0, 1, 2, 4, 5, 6] rfl)
  | cons a0 r0 =>
    replace hfs := hfs.symm
    rw [show va_rf (a0 :: r0).head? = .ref a0 from rfl]
    refine lv_astore_n (lv' := [(2, .ref a0), (0, .ref t), (1, .int y)]) S.1 S.2.1 d_Pl_countedBlacks_5 rfl hl (by decide) rfl (fun ls hl => ?_)
    refine lv_sipush (v := 5100) S.1 S.2.1 d_Pl_countedBlacks_6 (by decide) ?_
    refine lv_istore_n (lv' := [(3, .int 5100), (2, .ref a0), (0, .ref t), (1, .int y)]) S.1 S.2.1 d_Pl_countedBlacks_9 rfl hl (by decide) rfl (fun ls hl => ?_)
    refine lv_iconst (v := 0) S.1 S.2.1 d_Pl_countedBlacks_10 (by decide) ?_
    refine lv_istore (lv' := [(4, .int 0), (3, .int 5100), (2, .ref a0), (0, .ref t), (1, .int y)]) S.1 S.2.1 d_Pl_countedBlacks_11 hl (by decide) rfl (fun ls hl => ?_)
    refine lv_aload_n S.1 S.2.1 d_Pl_countedBlacks_13 rfl (lv_at hl 2 rfl) ?_
    refine lv_astore (lv' := [(5, .ref a0), (4, .int 0), (3, .int 5100), (2, .ref a0), (0, .ref t), (1, .int y)]) S.1 S.2.1 d_Pl_countedBlacks_14 hl (by decide) rfl (fun ls hl => ?_)
    have LP : ∀ (R P : List Nat), a0 :: r0 = P ++ R → ∀ (fr to : Int32) (ls : Array Slot), q_fr B R fr = q_fr B (a0 :: r0) 5100 → q_tx B R to = q_tx B (a0 :: r0) 0 → lv_has ls 7 [(5, va_rf R.head?), (3, .int fr), (4, .int to), (2, .ref a0), (0, .ref t), (1, .int y)] → W p l e ({ frames := 4, cells := 0, slots := 0, locals := 105 }) s m ([.ref t, .int y] : List Value).toArray below meth c H locs 0 0 (MQ below (hp_QW (gg dC dI cA) A hp_mi (fun r h' => r = q_sm (fun k => q_bc (q_wu (q_X D B FI PI y (nI k)) (as.filter (q_me B y)) (-1) 0)) f1 (t1 + 1 - f1) ∧ ∃ bol', mc h' D bol' as ∧ ∀ a, a ∉ as → h' a = h a)) ([.ref t, .int y] : List Value).toArray s 0 0 A) (F0 m 16 ls []) := by
      intro R
      induction R with
      | nil =>
        intro P heR fr to ls hfr hto hl
        replace hl : lv_has ls 7 [(5, .null), (3, .int fr), (4, .int to), (2, .ref a0), (0, .ref t), (1, .int y)] := hl
        replace hfr : fr = q_fr B (a0 :: r0) 5100 := hfr
        replace hto : to = q_tx B (a0 :: r0) 0 := hto
        refine lv_aloadN S.1 S.2.1 d_Pl_countedBlacks_16 (lv_at hl 0 rfl) ?_
        refine lv_ifnullN (tgt := 59) S.1 S.2.1 d_Pl_countedBlacks_18 (by decide) ?_
        refine lv_iconst (v := 0) S.1 S.2.1 d_Pl_countedBlacks_59 (by decide) ?_
        refine lv_istore (lv' := [(5, .int 0), (3, .int fr), (4, .int to), (2, .ref a0), (0, .ref t), (1, .int y)]) S.1 S.2.1 d_Pl_countedBlacks_60 hl (by decide) rfl (fun ls hl => ?_)
        refine lv_iload_n S.1 S.2.1 d_Pl_countedBlacks_62 rfl (lv_at hl 1 rfl) ?_
        refine lv_bipush (v := 64) S.1 S.2.1 d_Pl_countedBlacks_63 (by decide) ?_
        rw [hfs] at hf1 ht1
        have hfr1 : fr / 64 = nI f1 := by rw [hfr]; exact hf1.2
        have hto1 : to / 64 = nI t1 := by rw [hto]; exact ht1.2
        refine lv_idiv S.1 S.2.1 d_Pl_countedBlacks_65 (by decide) ?_
        rw [hfr1]
        refine lv_istore (lv' := [(6, .int (nI f1)), (5, .int 0), (3, .int fr), (4, .int to), (2, .ref a0), (0, .ref t), (1, .int y)]) S.1 S.2.1 d_Pl_countedBlacks_66 hl (by decide) rfl (fun ls hl => ?_)
        have LQ : ∀ (m_ j : Nat) (ls : Array Slot), j + m_ = t1 + 1 - f1 → lv_has ls 7 [(6, .int (nI (f1 + j))), (5, .int (q_sm (fun k => q_bc (q_wu (q_X D B FI PI y (nI k)) (a0 :: r0) (-1) 0)) f1 j)), (4, .int to), (2, .ref a0), (0, .ref t), (1, .int y)] → W p l e ({ frames := 4, cells := 0, slots := 0, locals := 105 }) s m ([.ref t, .int y] : List Value).toArray below meth c H locs 0 0 (MQ below (hp_QW (gg dC dI cA) A hp_mi (fun r h' => r = q_sm (fun k => q_bc (q_wu (q_X D B FI PI y (nI k)) (as.filter (q_me B y)) (-1) 0)) f1 (t1 + 1 - f1) ∧ ∃ bol', mc h' D bol' as ∧ ∀ a, a ∉ as → h' a = h a)) ([.ref t, .int y] : List Value).toArray s 0 0 A) (F0 m 68 ls []) := by
          intro m_
          induction m_ with
          | zero =>
            intro j ls hu hl
            refine lv_iload S.1 S.2.1 d_Pl_countedBlacks_68 (lv_at hl 0 rfl) ?_
            refine lv_iload S.1 S.2.1 d_Pl_countedBlacks_70 (lv_at hl 2 rfl) ?_
            refine lv_bipush (v := 64) S.1 S.2.1 d_Pl_countedBlacks_72 (by decide) ?_
            refine lv_idiv S.1 S.2.1 d_Pl_countedBlacks_74 (by decide) ?_
            rw [hto1]
            refine lv_icmp_gt (tgt := 99) S.1 S.2.1 d_Pl_countedBlacks_75 (by decide) (fun _ => ?_) (fun q => absurd (nI_lt (by omega) (by omega)) q)
            refine lv_iload S.1 S.2.1 d_Pl_countedBlacks_99 (lv_at hl 1 rfl) ?_
            exact hp_retWi S hJ hr hlk d_Pl_countedBlacks_101 (by decide) ⟨by rw [hfs, ← show j = t1 + 1 - f1 by omega], bol', hm1, ho1⟩
          | succ m_ ihq =>
            intro j ls hu hl
            refine lv_iload S.1 S.2.1 d_Pl_countedBlacks_68 (lv_at hl 0 rfl) ?_
            refine lv_iload S.1 S.2.1 d_Pl_countedBlacks_70 (lv_at hl 2 rfl) ?_
            refine lv_bipush (v := 64) S.1 S.2.1 d_Pl_countedBlacks_72 (by decide) ?_
            refine lv_idiv S.1 S.2.1 d_Pl_countedBlacks_74 (by decide) ?_
            rw [hto1]
            refine lv_icmp_gt (tgt := 99) S.1 S.2.1 d_Pl_countedBlacks_75 (by decide) (fun q => absurd ((nI_ltI (by omega) (by omega)).mp q) (by omega)) (fun _ => ?_)
            refine lv_iload S.1 S.2.1 d_Pl_countedBlacks_78 (lv_at hl 1 rfl) ?_
            refine lv_aload_n S.1 S.2.1 d_Pl_countedBlacks_80 rfl (lv_at hl 3 rfl) ?_
            refine lv_iload_n S.1 S.2.1 d_Pl_countedBlacks_81 rfl (lv_at hl 5 rfl) ?_
            refine lv_iload S.1 S.2.1 d_Pl_countedBlacks_82 (lv_at hl 0 rfl) ?_
            refine hp_doneR (hp_runS S zz0 (cS_Pl_wordUnder l dC dI cA A h1 a0 r0 (q_X D B FI PI y (nI (f1 + j))) y (nI (f1 + j)) (hwu (nI (f1 + j)))) l_Pl_82 (hJ.pre _) (by decide) rfl hl.1 rfl (nl rfl) d_Pl_countedBlacks_84 (by decide)) ?_
            refine hp_doneR (hp_runS S zz0 (c_JL_bitCount l _) l_Pl_103 (hp_pre0 _) (by decide) rfl hl.1 rfl (nl rfl) d_Pl_countedBlacks_87 (by decide)) ?_
            refine lv_iadd S.1 S.2.1 d_Pl_countedBlacks_90 ?_
            refine lv_istore (lv' := [(5, .int _), (6, .int (nI (f1 + j))), (4, .int to), (2, .ref a0), (0, .ref t), (1, .int y)]) S.1 S.2.1 d_Pl_countedBlacks_91 hl (by decide) rfl (fun ls hl => ?_)
            refine lv_iinc (v := nI (f1 + (j + 1))) (lv' := [(6, .int (nI (f1 + (j + 1)))), (5, .int _), (4, .int to), (2, .ref a0), (0, .ref t), (1, .int y)]) S.1 S.2.1 d_Pl_countedBlacks_93 hl (k := 1) rfl (nI_1 _) (by decide) rfl (fun ls hl => ?_)
            refine lv_goto (tgt := 68) S.1 S.2.1 d_Pl_countedBlacks_96 (by decide) ?_
            exact ihq (j + 1) ls (by omega) (lv_sub hl [0, 1, 2, 3, 4, 5] rfl)
        exact LQ (t1 + 1 - f1) 0 ls (by omega) (lv_sub hl [0, 1, 3, 4, 5, 6] rfl)
      | cons a r ih =>
        intro P heR fr to ls hfr hto hl
        replace hl : lv_has ls 7 [(5, .ref a), (3, .int fr), (4, .int to), (2, .ref a0), (0, .ref t), (1, .int y)] := hl
        have haf : a ∈ as := (List.mem_filter.mp (show a ∈ as.filter (q_me B y) by rw [hfs, heR]; exact List.mem_append_right _ List.mem_cons_self)).1
        obtain ⟨P9, r9, he9⟩ := List.append_of_mem haf
        have h_a := hm1 P9 a r9 he9
        rw [hlk' P a r heR] at h_a
        have h_pt := (hok1 a haf).1
        rcases hDa : D a with ⟨pc, lf, tp, pt, ik, so, io⟩
        rw [hDa] at h_a h_pt
        replace h_a : h1 a = some (.inr (3, [va_rf pc, .int lf, .int tp, .ref pt, .ref ik, .int so, .int io, va_rf r9.head?, va_rf r.head?])) := h_a
        replace h_pt : h1 pt = some (k_Bx (B a).1 (B a).2.1 (B a).2.2.1 (B a).2.2.2) := h_pt
        refine lv_aload S.1 S.2.1 d_Pl_countedBlacks_16 (lv_at hl 0 rfl) ?_
        refine lv_ifnull S.1 S.2.1 d_Pl_countedBlacks_18 ?_
        refine lv_iload_n S.1 S.2.1 d_Pl_countedBlacks_21 rfl (lv_at hl 1 rfl) ?_
        refine lv_aload S.1 S.2.1 d_Pl_countedBlacks_22 (lv_at hl 0 rfl) ?_
        refine hp_get S zz hJ h_a f_Pl_36 rfl d_Pl_countedBlacks_24 ?_
        refine hp_get S zz hJ h_pt f_Pl_94 rfl d_Pl_countedBlacks_27 ?_
        refine hp_min S l_Pl_67 hl.1 d_Pl_countedBlacks_30 ⟨nl rfl, nl rfl, nl rfl, nl rfl⟩ ?_
        refine lv_istore_n (lv' := [(3, .int (if (B a).1 < fr then (B a).1 else fr)), (5, .ref a), (4, .int to), (2, .ref a0), (0, .ref t), (1, .int y)]) S.1 S.2.1 d_Pl_countedBlacks_33 rfl hl (by decide) rfl (fun ls hl => ?_)
        refine lv_iload S.1 S.2.1 d_Pl_countedBlacks_34 (lv_at hl 2 rfl) ?_
        refine lv_aload S.1 S.2.1 d_Pl_countedBlacks_36 (lv_at hl 1 rfl) ?_
        refine hp_get S zz hJ h_a f_Pl_36 rfl d_Pl_countedBlacks_38 ?_
        refine hp_get S zz hJ h_pt f_Pl_97 rfl d_Pl_countedBlacks_41 ?_
        refine hp_max S l_Pl_58 hl.1 d_Pl_countedBlacks_44 ⟨nl rfl, nl rfl, nl rfl, nl rfl⟩ ?_
        refine lv_istore (lv' := [(4, .int _), (3, .int (if (B a).1 < fr then (B a).1 else fr)), (5, .ref a), (2, .ref a0), (0, .ref t), (1, .int y)]) S.1 S.2.1 d_Pl_countedBlacks_47 hl (by decide) rfl (fun ls hl => ?_)
        refine lv_aload S.1 S.2.1 d_Pl_countedBlacks_49 (lv_at hl 2 rfl) ?_
        generalize hr8 : r.head? = r8 at h_a
        cases r8 with
        | none =>
          refine hp_get S zz hJ h_a f_Pl_100 rfl d_Pl_countedBlacks_51 ?_
          refine lv_astoreN (lv' := [(5, .null), (4, .int _), (3, .int (if (B a).1 < fr then (B a).1 else fr)), (2, .ref a0), (0, .ref t), (1, .int y)]) S.1 S.2.1 d_Pl_countedBlacks_54 hl (by decide) rfl (fun ls hl => ?_)
          refine lv_goto (tgt := 16) S.1 S.2.1 d_Pl_countedBlacks_56 (by decide) ?_
          exact ih (P ++ [a]) (by rw [heR]; simp) _ _ ls hfr hto (by rw [hr8]; exact lv_sub hl [0, 2, 1, 3, 4, 5] rfl)
        | some c0 =>
          refine hp_get S zz hJ h_a f_Pl_100 rfl d_Pl_countedBlacks_51 ?_
          refine lv_astore (lv' := [(5, .ref c0), (4, .int _), (3, .int (if (B a).1 < fr then (B a).1 else fr)), (2, .ref a0), (0, .ref t), (1, .int y)]) S.1 S.2.1 d_Pl_countedBlacks_54 hl (by decide) rfl (fun ls hl => ?_)
          refine lv_goto (tgt := 16) S.1 S.2.1 d_Pl_countedBlacks_56 (by decide) ?_
          exact ih (P ++ [a]) (by rw [heR]; simp) _ _ ls hfr hto (by rw [hr8]; exact lv_sub hl [0, 2, 1, 3, 4, 5] rfl)
    exact LP (a0 :: r0) [] rfl 5100 0 ls rfl rfl (lv_sub hl [0, 2, 1, 3, 4, 5] rfl)
end
section
/-! How many black dots a line has, remembered. -/
def q_al (f g : Nat → Int32) (n : Nat) : Nat → Nat → Nat
  | 0, y => y
  | k + 1, y => if 16 ≤ y ∧ f y = -1 ∧ y < n ∧ q_la g y 16 = true then q_al f g n k (y - 16) else y
theorem q_al_t {f g : Nat → Int32} {n k y : Nat} (h : 16 ≤ y ∧ f y = -1 ∧ y < n ∧ q_la g y 16 = true) : q_al f g n (k + 1) y = q_al f g n k (y - 16) := if_pos h
theorem q_al_f {f g : Nat → Int32} {n k y : Nat} (h : ¬ (16 ≤ y ∧ f y = -1 ∧ y < n ∧ q_la g y 16 = true)) : q_al f g n k y = y := by
  cases k with
  | zero => rfl
  | succ k => exact if_neg h
def q_bv (f cb : Nat → Int32) (m : Nat) : Int32 := if f m = -1 then cb m else f m
def q_bu (f : Nat → Int32) (m y : Nat) (r : Int32) : Nat → Int32 := upd (if f m = -1 then upd f m r else f) y r
def q_cb (D : Nat → mD) (B : Nat → Int32 × Int32 × Int32 × Int32) (FI : Nat → Nat → Int64) (PI : Nat → Option pI) (as : List Nat) (FR TX : Nat → Nat) (a : Nat) : Int32 := q_sm (fun k => q_bc (q_wu (q_X D B FI PI (nI a) (nI k)) (as.filter (q_me B (nI a))) (-1) 0)) (FR a) (TX a + 1 - FR a)
theorem mc.keep {h h' : hp_T} {D : Nat → mD} {bol : Nat → Option Nat} {as : List Nat} (hm : mc h D bol as) (hk : ∀ a ∈ as, h' a = h a) : mc h' D bol as := by
  intro P a r he
  rw [hk a (by rw [he]; exact List.mem_append_right _ List.mem_cons_self)]
  exact hm P a r he
theorem mc.notin {h : hp_T} {D : Nat → mD} {bol : Nat → Option Nat} {as : List Nat} (hm : mc h D bol as) {x : Nat} {e : va_E} (hx : h x = some e) (hk : hp_kind e ≠ (0, 3)) : x ∉ as := by
  intro ha
  obtain ⟨P, r, he⟩ := List.append_of_mem ha
  have := hm P x r he
  rw [hx] at this
  exact hk (by rw [Option.some.inj this]; rfl)

theorem nI_m16 {a : Nat} (h : 16 ≤ a) : nI a + (-16) = nI (a - 16) := by
  have : nI a - nI 16 = nI (a - 16) := pk_sub h
  rw [← this, Int32.sub_eq_add_neg]
  rfl

set_option maxHeartbeats 4000000 in
set_option maxRecDepth 100000 in
theorem c_Pl_blacksOf (l : Launch) (dC : Nat → ClassId) (dI : Nat → Nat → Nat) (cA : Nat → ClassId) (A : Nat → Prop) (h : hp_T) (t bl st n : Nat) (sz : Int32) (as : List Nat) (D : Nat → mD) (bol : Nat → Option Nat) (B : Nat → Int32 × Int32 × Int32 × Int32) (FI : Nat → Nat → Int64) (PI : Nat → Option pI) (f g : Nat → Int32) (FR TX : Nat → Nat) (y : Nat) (hnd : as.Nodup) (hm : mc h D bol as) (hok : ∀ a ∈ as, mk_ok h (cA 1) (D a) (B a) (FI a) (PI a)) (h_t : h t = some (k_Pl (nI n) bl st sz as.head?)) (hn : 1 ≤ n ∧ n ≤ 5100) (hy : y < n) (ne_bl_st : bl ≠ st) (h_bl : h bl = some (k_in (cA 0) n f)) (h_st : h st = some (k_in (cA 2) n g)) (hFR : ∀ a, a < n → FR a ≤ 5100 ∧ q_fr B (as.filter (q_me B (nI a))) 5100 / 64 = nI (FR a)) (hTX : ∀ a, a < n → TX a ≤ 5100 ∧ q_tx B (as.filter (q_me B (nI a))) 0 / 64 = nI (TX a)) : Met l y_Pl_blacksOf (.code y_Pl_blacksOf prog_6_method_6_code 3 (some .int) :: BIG) ({ frames := 5, cells := 0, slots := 0, locals := 131 }) (va_Pc [.ref t, .int (nI y)] (hp_I (gg dC dI cA) A h)) (hp_QW (gg dC dI cA) A hp_mi (fun r h' => r = q_bv f (q_cb D B FI PI as FR TX) (q_al f g n y y) ∧ h' bl = some (k_in (cA 0) n (q_bu f (q_al f g n y y) y r)) ∧ (∃ bol', mc h' D bol' as) ∧ ∀ a, a ∉ as → a ≠ bl → h' a = h a)) 0 0 A := by
  refine hp_enter (by decide) (Nat.le_of_ble_eq_true rfl) ?_
  intro p e s m below meth c ls S hr hlk hin hI hl
  have hl : lv_has ls 3 [(0, .ref t), (1, .int (nI y))] := hl
  have hJ := hI.J
  refine lv_iconst (v := 0) S.1 S.2.1 d_Pl_blacksOf_0 (by decide) ?_
  refine lv_iload_n S.1 S.2.1 d_Pl_blacksOf_1 rfl (lv_at hl 1 rfl) ?_
  refine lv_aload_n S.1 S.2.1 d_Pl_blacksOf_2 rfl (lv_at hl 0 rfl) ?_
  refine hp_get S zz hJ h_t f_Pl_9 rfl d_Pl_blacksOf_3 ?_
  refine lv_iconst (v := 1) S.1 S.2.1 d_Pl_blacksOf_6 (by decide) ?_
  refine lv_isub S.1 S.2.1 d_Pl_blacksOf_7 ?_
  refine hp_doneR (hp_runN S zz hJ.2.1 (c_BP_isWithin l _ _ _) l_Pl_74 (hp_pre0 _) (by decide) rfl hl.1 rfl (nl rfl) d_Pl_blacksOf_8 (by decide)) ?_
  refine lv_if_ne (tgt := 16) S.1 S.2.1 d_Pl_blacksOf_11 (by decide) (fun _ => ?_) (fun q => absurd q (q_is_ne.mpr ⟨nI_pos' (by omega), by rw [show (1 : Int32) = nI 1 from rfl, pk_sub hn.1]; exact nI_le (by omega) (by omega)⟩))
  refine lv_iload_n S.1 S.2.1 d_Pl_blacksOf_16 rfl (lv_at hl 1 rfl) ?_
  refine lv_istore_n (lv' := [(2, .int (nI y)), (0, .ref t), (1, .int (nI y))]) S.1 S.2.1 d_Pl_blacksOf_17 rfl hl (by decide) rfl (fun ls hl => ?_)
  obtain ⟨m_, em_⟩ : ∃ z, z = q_al f g n y y := ⟨_, rfl⟩
  have EX : ∀ (a : Nat) (ls : Array Slot), a < n → a = m_ → lv_has ls 3 [(2, .int (nI a)), (0, .ref t), (1, .int (nI y))] → W p l e ({ frames := 5, cells := 0, slots := 0, locals := 131 }) s m ([.ref t, .int (nI y)] : List Value).toArray below meth c s.heap [] 0 0 (MQ below (hp_QW (gg dC dI cA) A hp_mi (fun r h' => r = q_bv f (q_cb D B FI PI as FR TX) (q_al f g n y y) ∧ h' bl = some (k_in (cA 0) n (q_bu f (q_al f g n y y) y r)) ∧ (∃ bol', mc h' D bol' as) ∧ ∀ a, a ∉ as → a ≠ bl → h' a = h a)) ([.ref t, .int (nI y)] : List Value).toArray s 0 0 A) (F0 m 48 ls []) := by
    intro a ls han ha hl
    refine lv_aload_n S.1 S.2.1 d_Pl_blacksOf_48 rfl (lv_at hl 1 rfl) ?_
    refine hp_get S zz hJ h_t f_Pl_15 rfl d_Pl_blacksOf_49 ?_
    refine lv_iload_n S.1 S.2.1 d_Pl_blacksOf_52 rfl (lv_at hl 0 rfl) ?_
    refine hp_iald S hJ 0 h_bl rfl (vp_in_nI (by omega) (by omega)) d_Pl_blacksOf_53 ?_
    rw [nI_clamp (by omega)]
    refine lv_iconst (v := (-1)) S.1 S.2.1 d_Pl_blacksOf_54 (by decide) ?_
    refine lv_icmp_ne (tgt := 69) S.1 S.2.1 d_Pl_blacksOf_55 (by decide) (fun c_55 => ?_) (fun c_55 => ?_)
    · refine lv_aload_n S.1 S.2.1 d_Pl_blacksOf_69 rfl (lv_at hl 1 rfl) ?_
      refine hp_get S zz hJ h_t f_Pl_15 rfl d_Pl_blacksOf_70 ?_
      refine lv_iload_n S.1 S.2.1 d_Pl_blacksOf_73 rfl (lv_at hl 2 rfl) ?_
      refine lv_aload_n S.1 S.2.1 d_Pl_blacksOf_74 rfl (lv_at hl 1 rfl) ?_
      refine hp_get S zz hJ h_t f_Pl_15 rfl d_Pl_blacksOf_75 ?_
      refine lv_iload_n S.1 S.2.1 d_Pl_blacksOf_78 rfl (lv_at hl 0 rfl) ?_
      refine hp_iald S hJ 0 h_bl rfl (vp_in_nI (by omega) (by omega)) d_Pl_blacksOf_79 ?_
      rw [nI_clamp (by omega)]
      refine hp_iast S hJ 0 h_bl rfl (vp_in_nI (by omega) (by omega)) d_Pl_blacksOf_80 (fun H locs hJ => ?_)
      rw [nI_clamp (by omega)] at hJ
      obtain ⟨h3, eh3⟩ : ∃ z, z = hp_up h bl (k_in (cA 0) n (upd f y (f a))) := ⟨_, rfl⟩
      have hJ := hJ.cast eh3
      have h0_bl := h_bl
      have h_t : h3 t = some (.inr (5, [.int (nI n), .ref bl, .ref st, .int sz, va_rf (as.head?)])) := by rw [eh3]; exact hp_up_k (hp_ne h_t h0_bl (show ((0, 5) : Nat × Nat) ≠ (1, 0) by decide)) h_t
      have h_st : h3 st = some (k_in (cA 2) n g) := by rw [eh3]; exact hp_up_k (Ne.symm ne_bl_st) h_st
      have h_bl : h3 bl = some (k_in (cA 0) n (upd f y (f a))) := by rw [eh3]; exact hp_up_s _ _ _
      refine lv_aload_n S.1 S.2.1 d_Pl_blacksOf_81 rfl (lv_at hl 1 rfl) ?_
      refine hp_get S zz hJ h_t f_Pl_15 rfl d_Pl_blacksOf_82 ?_
      refine lv_iload_n S.1 S.2.1 d_Pl_blacksOf_85 rfl (lv_at hl 2 rfl) ?_
      refine hp_iald S hJ 0 h_bl rfl (vp_in_nI (by omega) (by omega)) d_Pl_blacksOf_86 ?_
      rw [nI_clamp (by omega), pk_us]
      refine hp_retWi S hJ hr hlk d_Pl_blacksOf_87 (by decide) ⟨?_, ?_, ⟨bol, ?_⟩, ?_⟩
      · rw [← em_, ← ha]; unfold q_bv; rw [if_neg c_55]
      · rw [h_bl, ← em_, ← ha]; unfold q_bu; rw [if_neg c_55]
      · have hbn : bl ∉ as := hm.notin h0_bl (show ((1, 0) : Nat × Nat) ≠ (0, 3) by decide)
        exact hm.keep (fun z hz => by have hzb : z ≠ bl := (fun q9 => hbn (q9 ▸ hz)); rw [eh3, hp_up_n hzb])
      · intro z hz hzb
        rw [eh3, hp_up_n hzb]
    · refine lv_aload_n S.1 S.2.1 d_Pl_blacksOf_58 rfl (lv_at hl 1 rfl) ?_
      refine hp_get S zz hJ h_t f_Pl_15 rfl d_Pl_blacksOf_59 ?_
      refine lv_iload_n S.1 S.2.1 d_Pl_blacksOf_62 rfl (lv_at hl 0 rfl) ?_
      refine lv_aload_n S.1 S.2.1 d_Pl_blacksOf_63 rfl (lv_at hl 1 rfl) ?_
      refine lv_iload_n S.1 S.2.1 d_Pl_blacksOf_64 rfl (lv_at hl 0 rfl) ?_
      refine hp_doneWi hJ (hp_runV S zz0 (c_Pl_countedBlacks l dC dI cA A h t bl st n sz as D bol B FI PI (nI a) (FR a) (TX a) hnd hm hok h_t (hFR a han) (hTX a han)) l_Pl_90 (hJ.preV _ h_t rfl) (by decide) rfl hl.1 rfl (nl rfl) d_Pl_blacksOf_65 (by decide)) (fun rc h1 H locs hx hJ => ?_)
      obtain ⟨erc, bol', hm1, ho1⟩ := hx
      have h_t0 := h_t
      have h_bl0 := h_bl
      have hbn : bl ∉ as := hm.notin h_bl (show ((1, 0) : Nat × Nat) ≠ (0, 3) by decide)
      have h_t : h1 t = some (k_Pl (nI n) bl st sz as.head?) := nm_of hm ho1 _ _ h_t (show ((0, 5) : Nat × Nat) ≠ (0, 3) by decide)
      have h_bl : h1 bl = some (k_in (cA 0) n f) := nm_of hm ho1 _ _ h_bl (show ((1, 0) : Nat × Nat) ≠ (0, 3) by decide)
      refine hp_iast S hJ 0 h_bl rfl (vp_in_nI (by omega) (by omega)) d_Pl_blacksOf_68 (fun H locs hJ => ?_)
      rw [nI_clamp (by omega)] at hJ
      obtain ⟨h2, eh2⟩ : ∃ z, z = hp_up h1 bl (k_in (cA 0) n (upd f a rc)) := ⟨_, rfl⟩
      have hJ := hJ.cast eh2
      have h0_bl := h_bl
      have h_t : h2 t = some (.inr (5, [.int (nI n), .ref bl, .ref st, .int sz, va_rf (as.head?)])) := by rw [eh2]; exact hp_up_k (hp_ne h_t h0_bl (show ((0, 5) : Nat × Nat) ≠ (1, 0) by decide)) h_t
      have h_bl : h2 bl = some (k_in (cA 0) n (upd f a rc)) := by rw [eh2]; exact hp_up_s _ _ _
      refine lv_aload_n S.1 S.2.1 d_Pl_blacksOf_69 rfl (lv_at hl 1 rfl) ?_
      refine hp_get S zz hJ h_t f_Pl_15 rfl d_Pl_blacksOf_70 ?_
      refine lv_iload_n S.1 S.2.1 d_Pl_blacksOf_73 rfl (lv_at hl 2 rfl) ?_
      refine lv_aload_n S.1 S.2.1 d_Pl_blacksOf_74 rfl (lv_at hl 1 rfl) ?_
      refine hp_get S zz hJ h_t f_Pl_15 rfl d_Pl_blacksOf_75 ?_
      refine lv_iload_n S.1 S.2.1 d_Pl_blacksOf_78 rfl (lv_at hl 0 rfl) ?_
      refine hp_iald S hJ 0 h_bl rfl (vp_in_nI (by omega) (by omega)) d_Pl_blacksOf_79 ?_
      rw [nI_clamp (by omega)]
      refine hp_iast S hJ 0 h_bl rfl (vp_in_nI (by omega) (by omega)) d_Pl_blacksOf_80 (fun H locs hJ => ?_)
      rw [nI_clamp (by omega)] at hJ
      obtain ⟨h3, eh3⟩ : ∃ z, z = hp_up h2 bl (k_in (cA 0) n (upd (upd f a rc) y (upd f a rc a))) := ⟨_, rfl⟩
      have hJ := hJ.cast eh3
      have h0_bl := h_bl
      have h_t : h3 t = some (.inr (5, [.int (nI n), .ref bl, .ref st, .int sz, va_rf (as.head?)])) := by rw [eh3]; exact hp_up_k (hp_ne h_t h0_bl (show ((0, 5) : Nat × Nat) ≠ (1, 0) by decide)) h_t
      have h_bl : h3 bl = some (k_in (cA 0) n (upd (upd f a rc) y (upd f a rc a))) := by rw [eh3]; exact hp_up_s _ _ _
      refine lv_aload_n S.1 S.2.1 d_Pl_blacksOf_81 rfl (lv_at hl 1 rfl) ?_
      refine hp_get S zz hJ h_t f_Pl_15 rfl d_Pl_blacksOf_82 ?_
      refine lv_iload_n S.1 S.2.1 d_Pl_blacksOf_85 rfl (lv_at hl 2 rfl) ?_
      refine hp_iald S hJ 0 h_bl rfl (vp_in_nI (by omega) (by omega)) d_Pl_blacksOf_86 ?_
      rw [nI_clamp (by omega), pk_us]
      refine hp_retWi S hJ hr hlk d_Pl_blacksOf_87 (by decide) ⟨?_, ?_, ⟨bol', ?_⟩, ?_⟩
      · rw [← em_, ← ha, pk_us, erc]; unfold q_bv q_cb; rw [if_pos c_55]
      · rw [h_bl, ← em_, ← ha, pk_us]; unfold q_bu; rw [if_pos c_55]
      · exact hm1.keep (fun z hz => by have hzb : z ≠ bl := (fun q9 => hbn (q9 ▸ hz)); rw [eh3, hp_up_n hzb, eh2, hp_up_n hzb])
      · intro z hz hzb
        rw [eh3, hp_up_n hzb, eh2, hp_up_n hzb]
        exact ho1 z hz
  have LP : ∀ (k a : Nat) (ls : Array Slot), a ≤ k → a < n → q_al f g n k a = m_ → lv_has ls 3 [(2, .int (nI a)), (0, .ref t), (1, .int (nI y))] → W p l e ({ frames := 5, cells := 0, slots := 0, locals := 131 }) s m ([.ref t, .int (nI y)] : List Value).toArray below meth c s.heap [] 0 0 (MQ below (hp_QW (gg dC dI cA) A hp_mi (fun r h' => r = q_bv f (q_cb D B FI PI as FR TX) (q_al f g n y y) ∧ h' bl = some (k_in (cA 0) n (q_bu f (q_al f g n y y) y r)) ∧ (∃ bol', mc h' D bol' as) ∧ ∀ a, a ∉ as → a ≠ bl → h' a = h a)) ([.ref t, .int (nI y)] : List Value).toArray s 0 0 A) (F0 m 18 ls []) := by
    intro k
    induction k with
    | zero =>
      intro a ls hak han hq hl
      refine lv_iload_n S.1 S.2.1 d_Pl_blacksOf_18 rfl (lv_at hl 0 rfl) ?_
      refine lv_bipush (v := 16) S.1 S.2.1 d_Pl_blacksOf_19 (by decide) ?_
      refine lv_icmp_lt (tgt := 48) S.1 S.2.1 d_Pl_blacksOf_21 (by decide) (fun _ => ?_) (fun q => absurd (nI_lt (a := a) (b := 16) (by omega) (by decide)) q)
      exact EX a ls han hq (lv_sub hl [0, 1, 2] rfl)
    | succ k ih =>
      intro a ls hak han hq hl
      refine lv_iload_n S.1 S.2.1 d_Pl_blacksOf_18 rfl (lv_at hl 0 rfl) ?_
      refine lv_bipush (v := 16) S.1 S.2.1 d_Pl_blacksOf_19 (by decide) ?_
      refine lv_icmp_lt (tgt := 48) S.1 S.2.1 d_Pl_blacksOf_21 (by decide) (fun c_21 => ?_) (fun c_21 => ?_)
      · exact EX a ls han ((q_al_f (fun q => absurd ((nI_ltI (a := a) (b := 16) (by omega) (by decide)).mp c_21) (by omega))).symm.trans hq) (lv_sub hl [0, 1, 2] rfl)
      · refine lv_aload_n S.1 S.2.1 d_Pl_blacksOf_24 rfl (lv_at hl 1 rfl) ?_
        refine hp_get S zz hJ h_t f_Pl_15 rfl d_Pl_blacksOf_25 ?_
        refine lv_iload_n S.1 S.2.1 d_Pl_blacksOf_28 rfl (lv_at hl 0 rfl) ?_
        refine hp_iald S hJ 0 h_bl rfl (vp_in_nI (by omega) (by omega)) d_Pl_blacksOf_29 ?_
        rw [nI_clamp (by omega)]
        refine lv_iconst (v := (-1)) S.1 S.2.1 d_Pl_blacksOf_30 (by decide) ?_
        refine lv_icmp_ne (tgt := 48) S.1 S.2.1 d_Pl_blacksOf_31 (by decide) (fun c_31 => ?_) (fun c_31 => ?_)
        · exact EX a ls han ((q_al_f (fun q => c_31 q.2.1)).symm.trans hq) (lv_sub hl [0, 1, 2] rfl)
        · refine lv_aload_n S.1 S.2.1 d_Pl_blacksOf_34 rfl (lv_at hl 1 rfl) ?_
          refine lv_iload_n S.1 S.2.1 d_Pl_blacksOf_35 rfl (lv_at hl 0 rfl) ?_
          refine hp_doneR (hp_runV S zz0 (c_Pl_isLikeAbove l dC dI cA A _ t bl st n a sz _ g hn (by omega) h_t h_st) l_Pl_86 (hJ.preV _ h_t rfl) (by decide) rfl hl.1 rfl (nl rfl) d_Pl_blacksOf_36 (by decide)) ?_
          refine lv_if_eq (tgt := 48) S.1 S.2.1 d_Pl_blacksOf_39 (by decide) (fun c_39 => ?_) (fun c_39 => ?_)
          · exact EX a ls han ((q_al_f (fun q => q_is_0.mp c_39 ⟨q.1, q.2.2.1, q.2.2.2⟩)).symm.trans hq) (lv_sub hl [0, 1, 2] rfl)
          · have hla := q_is_ne.mp c_39
            refine lv_iinc (v := nI (a - 16)) (lv' := [(2, .int (nI (a - 16))), (0, .ref t), (1, .int (nI y))]) S.1 S.2.1 d_Pl_blacksOf_42 hl (k := 0) rfl (nI_m16 hla.1) (by decide) rfl (fun ls hl => ?_)
            refine lv_goto (tgt := 18) S.1 S.2.1 d_Pl_blacksOf_45 (by decide) ?_
            exact ih (a - 16) ls (by omega) (by omega) ((q_al_t ⟨hla.1, c_31, hla.2.1, hla.2.2⟩).symm.trans hq) (lv_sub hl [0, 1, 2] rfl)
  exact LP y y ls (Nat.le_refl _) hy em_.symm (lv_sub hl [0, 1, 2] rfl)
end
section
/-! The reference's leaves. mf: its whole numbers by their places; sh ac dn fr sp dt: its arrays. -/
abbrev k_Mo (mf : Nat → Int32) (sh ac dn fr sp dt : Nat) : va_E := .inr (7, [.int (mf 0), .int (mf 1), .int (mf 2), .int (mf 3), .ref sh, .int (mf 5), .ref ac, .ref dn, .ref fr, .ref sp, .int (mf 10), .ref dt, .int (mf 12), .int (mf 13), .int (mf 14), .int (mf 15), .int (mf 16), .int (mf 17), .int (mf 18), .int (mf 19), .int (mf 20), .int (mf 21), .int (mf 22)])
def q_tb (i j b s : Int32) : Int32 := s + ((if (i >>> (b &&& 31) &&& 1) = (j >>> (b &&& 31) &&& 1) then 0 else (32 : Int32) >>> (2 * b &&& 31)) + (j >>> (b &&& 31) &&& 1) * ((16 : Int32) >>> (2 * b &&& 31)))
def q_th (i j : Int32) : Int32 := q_tb i j 2 (q_tb i j 1 (q_tb i j 0 0))
abbrev q_hm (k u v : Int32) : Prop := (k = 1 ∧ q_ly v) ∨ (k = 2 ∧ q_ly u) ∨ (k = 3 ∧ q_ri u v) ∨ (k = 4 ∧ q_fa u v) ∨ (k = 5 ∧ (q_ly v ∨ q_ly u)) ∨ ((¬ k = 1 ∧ ¬ k = 2 ∧ ¬ k = 3 ∧ ¬ k = 4 ∧ ¬ k = 5) ∧ (q_ri u v ∨ q_fa u v))
def q_r16 (x : Int32) : Int32 := x - x / 16 * 16
def q_r8 (x : Int32) : Int32 := x - x / 8 * 8
abbrev q_ik (kd val x y : Int32) : Prop := (kd < 2 ∧ kd = 0) ∨ (¬ kd < 2 ∧ kd = 2 ∧ q_th (q_r8 x) (q_r8 y) < (64 * val + 99) / 100) ∨ (¬ kd < 2 ∧ ¬ kd = 2 ∧ q_hm val (q_r16 x) (q_r16 y))

set_option maxHeartbeats 4000000 in
set_option maxRecDepth 100000 in
theorem c_Mo_isIn (l : Launch) (dC : Nat → ClassId) (dI : Nat → Nat → Nat) (cA : Nat → ClassId) (A : Nat → Prop) (h : hp_T) (t sh ac dn fr sp dt : Nat) (mf : Nat → Int32) (x y : Int32) (h_t : h t = some (k_Mo mf sh ac dn fr sp dt)) : Met l y_Mo_isIn (.code y_Mo_isIn prog_9_method_3_code 3 (some .boolean) :: BIG) ({ frames := 0, cells := 0, slots := 0, locals := 0 }) (va_Pc [.ref t, .int x, .int y] (hp_I (gg dC dI cA) A h)) (hp_QR (some (.int (q_is (0 ≤ x ∧ x < mf 1 ∧ 0 ≤ y ∧ y < mf 2))))) 0 0 (fun _ => False) := by
  refine hp_enter (by decide) (Nat.le_of_ble_eq_true rfl) ?_
  intro p e s m below meth c ls S hr hlk hin hI hl
  have hl : lv_has ls 3 [(0, .ref t), (1, .int x), (2, .int y)] := hl
  have hJ := hI.J
  refine lv_iload_n S.1 S.2.1 d_Mo_isIn_0 rfl (lv_at hl 1 rfl) ?_
  refine lv_if_lt (tgt := 28) S.1 S.2.1 d_Mo_isIn_1 (by decide) (fun c_1 => ?_) (fun c_1 => ?_)
  · refine lv_iconst (v := 0) S.1 S.2.1 d_Mo_isIn_28 (by decide) ?_
    exact hp_retRz S hr hlk d_Mo_isIn_29 (by decide) (q_is_f (by simp only [z_lt, z_le, z_eq, z_0] at c_1 ⊢; omega))
  · refine lv_iload_n S.1 S.2.1 d_Mo_isIn_4 rfl (lv_at hl 1 rfl) ?_
    refine lv_aload_n S.1 S.2.1 d_Mo_isIn_5 rfl (lv_at hl 0 rfl) ?_
    refine hp_get S zz hJ h_t f_Mo_27 rfl d_Mo_isIn_6 ?_
    refine lv_icmp_ge (tgt := 28) S.1 S.2.1 d_Mo_isIn_9 (by decide) (fun c_9 => ?_) (fun c_9 => ?_)
    · refine lv_iconst (v := 0) S.1 S.2.1 d_Mo_isIn_28 (by decide) ?_
      exact hp_retRz S hr hlk d_Mo_isIn_29 (by decide) (q_is_f (by simp only [z_lt, z_le, z_eq, z_0] at c_1 c_9 ⊢; omega))
    · refine lv_iload_n S.1 S.2.1 d_Mo_isIn_12 rfl (lv_at hl 2 rfl) ?_
      refine lv_if_lt (tgt := 28) S.1 S.2.1 d_Mo_isIn_13 (by decide) (fun c_13 => ?_) (fun c_13 => ?_)
      · refine lv_iconst (v := 0) S.1 S.2.1 d_Mo_isIn_28 (by decide) ?_
        exact hp_retRz S hr hlk d_Mo_isIn_29 (by decide) (q_is_f (by simp only [z_lt, z_le, z_eq, z_0] at c_1 c_9 c_13 ⊢; omega))
      · refine lv_iload_n S.1 S.2.1 d_Mo_isIn_16 rfl (lv_at hl 2 rfl) ?_
        refine lv_aload_n S.1 S.2.1 d_Mo_isIn_17 rfl (lv_at hl 0 rfl) ?_
        refine hp_get S zz hJ h_t f_Mo_31 rfl d_Mo_isIn_18 ?_
        refine lv_icmp_ge (tgt := 28) S.1 S.2.1 d_Mo_isIn_21 (by decide) (fun c_21 => ?_) (fun c_21 => ?_)
        · refine lv_iconst (v := 0) S.1 S.2.1 d_Mo_isIn_28 (by decide) ?_
          exact hp_retRz S hr hlk d_Mo_isIn_29 (by decide) (q_is_f (by simp only [z_lt, z_le, z_eq, z_0] at c_1 c_9 c_13 c_21 ⊢; omega))
        · refine lv_iconst (v := 1) S.1 S.2.1 d_Mo_isIn_24 (by decide) ?_
          refine lv_goto (tgt := 29) S.1 S.2.1 d_Mo_isIn_25 (by decide) ?_
          exact hp_retRz S hr hlk d_Mo_isIn_29 (by decide) (q_is_t (by simp only [z_lt, z_le, z_eq, z_0] at c_1 c_9 c_13 c_21 ⊢; omega))

set_option maxHeartbeats 4000000 in
set_option maxRecDepth 100000 in
theorem c_Mo_isShape (l : Launch) (dC : Nat → ClassId) (dI : Nat → Nat → Nat) (cA : Nat → ClassId) (A : Nat → Prop) (h : hp_T) (t sh ac dn fr sp dt : Nat) (mf : Nat → Int32) (x : Int32) (h_t : h t = some (k_Mo mf sh ac dn fr sp dt)) : Met l y_Mo_isShape (.code y_Mo_isShape prog_9_method_12_code 2 (some .boolean) :: BIG) ({ frames := 0, cells := 0, slots := 0, locals := 0 }) (va_Pc [.ref t, .int x] (hp_I (gg dC dI cA) A h)) (hp_QR (some (.int (q_is (0 ≤ x ∧ x < mf 5))))) 0 0 (fun _ => False) := by
  refine hp_enter (by decide) (Nat.le_of_ble_eq_true rfl) ?_
  intro p e s m below meth c ls S hr hlk hin hI hl
  have hl : lv_has ls 2 [(0, .ref t), (1, .int x)] := hl
  have hJ := hI.J
  refine lv_iload_n S.1 S.2.1 d_Mo_isShape_0 rfl (lv_at hl 1 rfl) ?_
  refine lv_if_lt (tgt := 16) S.1 S.2.1 d_Mo_isShape_1 (by decide) (fun c_1 => ?_) (fun c_1 => ?_)
  · refine lv_iconst (v := 0) S.1 S.2.1 d_Mo_isShape_16 (by decide) ?_
    exact hp_retRz S hr hlk d_Mo_isShape_17 (by decide) (q_is_f (by simp only [z_lt, z_le, z_eq, z_0] at c_1 ⊢; omega))
  · refine lv_iload_n S.1 S.2.1 d_Mo_isShape_4 rfl (lv_at hl 1 rfl) ?_
    refine lv_aload_n S.1 S.2.1 d_Mo_isShape_5 rfl (lv_at hl 0 rfl) ?_
    refine hp_get S zz hJ h_t f_Mo_95 rfl d_Mo_isShape_6 ?_
    refine lv_icmp_ge (tgt := 16) S.1 S.2.1 d_Mo_isShape_9 (by decide) (fun c_9 => ?_) (fun c_9 => ?_)
    · refine lv_iconst (v := 0) S.1 S.2.1 d_Mo_isShape_16 (by decide) ?_
      exact hp_retRz S hr hlk d_Mo_isShape_17 (by decide) (q_is_f (by simp only [z_lt, z_le, z_eq, z_0] at c_1 c_9 ⊢; omega))
    · refine lv_iconst (v := 1) S.1 S.2.1 d_Mo_isShape_12 (by decide) ?_
      refine lv_goto (tgt := 17) S.1 S.2.1 d_Mo_isShape_13 (by decide) ?_
      exact hp_retRz S hr hlk d_Mo_isShape_17 (by decide) (q_is_t (by simp only [z_lt, z_le, z_eq, z_0] at c_1 c_9 ⊢; omega))

set_option maxHeartbeats 4000000 in
set_option maxRecDepth 100000 in
theorem c_Mo_isPlace (l : Launch) (x : Int32)  : Met l y_Mo_isPlace (.code y_Mo_isPlace prog_9_method_20_code 1 (some .boolean) :: BIG) ({ frames := 0, cells := 0, slots := 0, locals := 0 }) (va_Pc [.int x] (fun _ => True)) (hp_QR (some (.int (q_is (-10000 ≤ x ∧ x ≤ 10000))))) 0 0 (fun _ => False) := by
  refine hp_enter (by decide) (Nat.le_of_ble_eq_true rfl) ?_
  intro p e s m below meth c ls S hr hlk hin hI hl
  have hl : lv_has ls 1 [(0, .int x)] := hl
  refine lv_iload_n S.1 S.2.1 d_Mo_isPlace_0 rfl (lv_at hl 0 rfl) ?_
  refine lv_sipush (v := (-10000)) S.1 S.2.1 d_Mo_isPlace_1 (by decide) ?_
  refine lv_icmp_lt (tgt := 18) S.1 S.2.1 d_Mo_isPlace_4 (by decide) (fun c_4 => ?_) (fun c_4 => ?_)
  · refine lv_iconst (v := 0) S.1 S.2.1 d_Mo_isPlace_18 (by decide) ?_
    exact hp_retRz S hr hlk d_Mo_isPlace_19 (by decide) (q_is_f (by simp only [z_lt, z_le, z_eq, z_0] at c_4 ⊢; omega))
  · refine lv_iload_n S.1 S.2.1 d_Mo_isPlace_7 rfl (lv_at hl 0 rfl) ?_
    refine lv_sipush (v := 10000) S.1 S.2.1 d_Mo_isPlace_8 (by decide) ?_
    refine lv_icmp_gt (tgt := 18) S.1 S.2.1 d_Mo_isPlace_11 (by decide) (fun c_11 => ?_) (fun c_11 => ?_)
    · refine lv_iconst (v := 0) S.1 S.2.1 d_Mo_isPlace_18 (by decide) ?_
      exact hp_retRz S hr hlk d_Mo_isPlace_19 (by decide) (q_is_f (by simp only [z_lt, z_le, z_eq, z_0] at c_4 c_11 ⊢; omega))
    · refine lv_iconst (v := 1) S.1 S.2.1 d_Mo_isPlace_14 (by decide) ?_
      refine lv_goto (tgt := 19) S.1 S.2.1 d_Mo_isPlace_15 (by decide) ?_
      exact hp_retRz S hr hlk d_Mo_isPlace_19 (by decide) (q_is_t (by simp only [z_lt, z_le, z_eq, z_0] at c_4 c_11 ⊢; omega))

set_option maxHeartbeats 4000000 in
set_option maxRecDepth 100000 in
theorem c_Mo_most (l : Launch) (x y : Int32)  : Met l y_Mo_most (.code y_Mo_most prog_9_method_22_code 2 (some .int) :: BIG) ({ frames := 0, cells := 0, slots := 0, locals := 0 }) (va_Pc [.int x, .int y] (fun _ => True)) (hp_QR (some (.int (q_max y x)))) 0 0 (fun _ => False) := by
  refine hp_enter (by decide) (Nat.le_of_ble_eq_true rfl) ?_
  intro p e s m below meth c ls S hr hlk hin hI hl
  have hl : lv_has ls 2 [(0, .int x), (1, .int y)] := hl
  refine lv_iload_n S.1 S.2.1 d_Mo_most_0 rfl (lv_at hl 0 rfl) ?_
  refine lv_iload_n S.1 S.2.1 d_Mo_most_1 rfl (lv_at hl 1 rfl) ?_
  refine lv_icmp_le (tgt := 9) S.1 S.2.1 d_Mo_most_2 (by decide) (fun c_2 => ?_) (fun c_2 => ?_)
  · refine lv_iload_n S.1 S.2.1 d_Mo_most_9 rfl (lv_at hl 1 rfl) ?_
    exact hp_retRi S hr hlk d_Mo_most_10 (by unfold q_max; rw [if_neg (by simp only [z_lt, z_le] at c_2 ⊢; omega)])
  · refine lv_iload_n S.1 S.2.1 d_Mo_most_5 rfl (lv_at hl 0 rfl) ?_
    refine lv_goto (tgt := 10) S.1 S.2.1 d_Mo_most_6 (by decide) ?_
    exact hp_retRi S hr hlk d_Mo_most_10 (by unfold q_max; rw [if_pos (by simp only [z_lt, z_le] at c_2 ⊢; omega)])

set_option maxHeartbeats 4000000 in
set_option maxRecDepth 100000 in
theorem c_Mo_least (l : Launch) (x y : Int32)  : Met l y_Mo_least (.code y_Mo_least prog_9_method_23_code 2 (some .int) :: BIG) ({ frames := 0, cells := 0, slots := 0, locals := 0 }) (va_Pc [.int x, .int y] (fun _ => True)) (hp_QR (some (.int (q_min y x)))) 0 0 (fun _ => False) := by
  refine hp_enter (by decide) (Nat.le_of_ble_eq_true rfl) ?_
  intro p e s m below meth c ls S hr hlk hin hI hl
  have hl : lv_has ls 2 [(0, .int x), (1, .int y)] := hl
  refine lv_iload_n S.1 S.2.1 d_Mo_least_0 rfl (lv_at hl 0 rfl) ?_
  refine lv_iload_n S.1 S.2.1 d_Mo_least_1 rfl (lv_at hl 1 rfl) ?_
  refine lv_icmp_ge (tgt := 9) S.1 S.2.1 d_Mo_least_2 (by decide) (fun c_2 => ?_) (fun c_2 => ?_)
  · refine lv_iload_n S.1 S.2.1 d_Mo_least_9 rfl (lv_at hl 1 rfl) ?_
    exact hp_retRi S hr hlk d_Mo_least_10 (by unfold q_min; rw [if_neg (by simp only [z_lt, z_le] at c_2 ⊢; omega)])
  · refine lv_iload_n S.1 S.2.1 d_Mo_least_5 rfl (lv_at hl 0 rfl) ?_
    refine lv_goto (tgt := 10) S.1 S.2.1 d_Mo_least_6 (by decide) ?_
    exact hp_retRi S hr hlk d_Mo_least_10 (by unfold q_min; rw [if_pos (by simp only [z_lt, z_le] at c_2 ⊢; omega)])

def q_hi (v : Int64) (n : Int32) : Int64 := if 64 ≤ n then v else if n ≤ 0 then 0 else v &&& ((-1) <<< ((64 - n).toInt64 &&& 63))
set_option maxHeartbeats 4000000 in
set_option maxRecDepth 100000 in
theorem c_Mo_highest (l : Launch) (v : Int64) (n : Int32)  : Met l y_Mo_highest (.code y_Mo_highest prog_9_method_13_code 3 (some .long) :: BIG) ({ frames := 0, cells := 0, slots := 0, locals := 0 }) (va_Pc [.long v, .int n] (fun _ => True)) (hp_QR (some (.long (q_hi v n)))) 0 0 (fun _ => False) := by
  refine hp_enter (by decide) (Nat.le_of_ble_eq_true rfl) ?_
  intro p e s m below meth c ls S hr hlk hin hI hl
  have hl : lv_has ls 3 [(0, .long v), (2, .int n)] := hl
  refine lv_iload_n S.1 S.2.1 d_Mo_highest_0 rfl (lv_at hl 1 rfl) ?_
  refine lv_bipush (v := 64) S.1 S.2.1 d_Mo_highest_1 (by decide) ?_
  refine lv_icmp_lt (tgt := 10) S.1 S.2.1 d_Mo_highest_3 (by decide) (fun c_3 => ?_) (fun c_3 => ?_)
  · refine lv_iload_n S.1 S.2.1 d_Mo_highest_10 rfl (lv_at hl 1 rfl) ?_
    refine lv_if_gt (tgt := 18) S.1 S.2.1 d_Mo_highest_11 (by decide) (fun c_11 => ?_) (fun c_11 => ?_)
    · refine lv_lload_n S.1 S.2.1 d_Mo_highest_18 rfl (lv_at hl 0 rfl) ?_
      refine lv_ldc2 (v := (-1)) S.1 S.2.1 S.2.2.2.1 (S.2.2.2.2 _ t_681) d_Mo_highest_19 ?_
      refine lv_bipush (v := 64) S.1 S.2.1 d_Mo_highest_22 (by decide) ?_
      refine lv_iload_n S.1 S.2.1 d_Mo_highest_24 rfl (lv_at hl 1 rfl) ?_
      refine lv_isub S.1 S.2.1 d_Mo_highest_25 ?_
      refine lv_lshl S.1 S.2.1 d_Mo_highest_26 rfl ?_
      refine lv_land S.1 S.2.1 d_Mo_highest_27 ?_
      exact hp_retRl S hr hlk d_Mo_highest_28 (by unfold q_hi; rw [if_neg (by simp only [z_lt, z_le] at c_3 ⊢; omega), if_neg (by simp only [z_lt, z_le, z_0] at c_11 ⊢; omega)])
    · refine lv_lconst (v := 0) S.1 S.2.1 d_Mo_highest_14 (by decide) ?_
      refine lv_goto (tgt := 28) S.1 S.2.1 d_Mo_highest_15 (by decide) ?_
      exact hp_retRl S hr hlk d_Mo_highest_28 (by unfold q_hi; rw [if_neg (by simp only [z_lt, z_le] at c_3 ⊢; omega), if_pos (by simp only [z_lt, z_le, z_0] at c_11 ⊢; omega)])
  · refine lv_lload_n S.1 S.2.1 d_Mo_highest_6 rfl (lv_at hl 0 rfl) ?_
    refine lv_goto (tgt := 28) S.1 S.2.1 d_Mo_highest_7 (by decide) ?_
    exact hp_retRl S hr hlk d_Mo_highest_28 (by unfold q_hi; rw [if_pos (by simp only [z_lt, z_le] at c_3 ⊢; omega)])

set_option maxHeartbeats 4000000 in
set_option maxRecDepth 100000 in
theorem c_Mo_threshold (l : Launch) (i j : Int32)  : Met l y_Mo_threshold (.code y_Mo_threshold prog_9_method_6_code 6 (some .int) :: BIG) ({ frames := 0, cells := 0, slots := 0, locals := 0 }) (va_Pc [.int i, .int j] (fun _ => True)) (hp_QR (some (.int (q_th i j)))) 0 0 (fun _ => False) := by
  refine hp_enter (by decide) (Nat.le_of_ble_eq_true rfl) ?_
  intro p e s m below meth c ls S hr hlk hin hI hl
  have hl : lv_has ls 6 [(0, .int i), (1, .int j)] := hl
  refine lv_iconst (v := 0) S.1 S.2.1 d_Mo_threshold_0 (by decide) ?_
  refine lv_istore_n (lv' := [(2, .int 0), (0, .int i), (1, .int j)]) S.1 S.2.1 d_Mo_threshold_1 rfl hl (by decide) rfl (fun ls hl => ?_)
  refine lv_iconst (v := 0) S.1 S.2.1 d_Mo_threshold_2 (by decide) ?_
  refine lv_istore_n (lv' := [(3, .int 0), (2, .int 0), (0, .int i), (1, .int j)]) S.1 S.2.1 d_Mo_threshold_3 rfl hl (by decide) rfl (fun ls hl => ?_)
  refine lv_iload_n S.1 S.2.1 d_Mo_threshold_4 rfl (lv_at hl 0 rfl) ?_
  refine lv_iconst (v := 3) S.1 S.2.1 d_Mo_threshold_5 (by decide) ?_
  refine lv_icmp_ge (tgt := 59) S.1 S.2.1 d_Mo_threshold_6 (by decide) (fun q => absurd q (by decide)) (fun _ => ?_)
  refine lv_iload_n S.1 S.2.1 d_Mo_threshold_9 rfl (lv_at hl 2 rfl) ?_
  refine lv_iload_n S.1 S.2.1 d_Mo_threshold_10 rfl (lv_at hl 0 rfl) ?_
  refine lv_ishr S.1 S.2.1 d_Mo_threshold_11 ?_
  refine lv_iconst (v := 1) S.1 S.2.1 d_Mo_threshold_12 (by decide) ?_
  refine lv_iand S.1 S.2.1 d_Mo_threshold_13 ?_
  refine lv_istore (lv' := [(4, .int _), (3, .int 0), (2, .int 0), (0, .int i), (1, .int j)]) S.1 S.2.1 d_Mo_threshold_14 hl (by decide) rfl (fun ls hl => ?_)
  refine lv_iload_n S.1 S.2.1 d_Mo_threshold_16 rfl (lv_at hl 4 rfl) ?_
  refine lv_iload_n S.1 S.2.1 d_Mo_threshold_17 rfl (lv_at hl 1 rfl) ?_
  refine lv_ishr S.1 S.2.1 d_Mo_threshold_18 ?_
  refine lv_iconst (v := 1) S.1 S.2.1 d_Mo_threshold_19 (by decide) ?_
  refine lv_iand S.1 S.2.1 d_Mo_threshold_20 ?_
  refine lv_istore (lv' := [(5, .int _), (4, .int _), (3, .int 0), (2, .int 0), (0, .int i), (1, .int j)]) S.1 S.2.1 d_Mo_threshold_21 hl (by decide) rfl (fun ls hl => ?_)
  refine lv_iload_n S.1 S.2.1 d_Mo_threshold_23 rfl (lv_at hl 3 rfl) ?_
  refine lv_topi (fun d0 ed0 => ?_)
  refine hp_cut (fun v => v = (if (i >>> ((0 : Int32) &&& 31) &&& 1) = (j >>> ((0 : Int32) &&& 31) &&& 1) then 0 else (32 : Int32) >>> (2 * (0 : Int32) &&& 31))) 41 [.int d0] (fun J => ?_) (fun a1 e_a1 => ?_)
  · refine lv_iload S.1 S.2.1 d_Mo_threshold_24 (lv_at hl 1 rfl) ?_
    refine lv_iload S.1 S.2.1 d_Mo_threshold_26 (lv_at hl 0 rfl) ?_
    refine lv_icmp_ne (tgt := 35) S.1 S.2.1 d_Mo_threshold_28 (by decide) (fun c_28 => ?_) (fun c_28 => ?_)
    · refine lv_bipush (v := 32) S.1 S.2.1 d_Mo_threshold_35 (by decide) ?_
      refine lv_iconst (v := 2) S.1 S.2.1 d_Mo_threshold_37 (by decide) ?_
      refine lv_iload_n S.1 S.2.1 d_Mo_threshold_38 rfl (lv_at hl 2 rfl) ?_
      refine lv_imul S.1 S.2.1 d_Mo_threshold_39 ?_
      refine lv_ishr S.1 S.2.1 d_Mo_threshold_40 ?_
      exact J _ (if_neg c_28).symm
    · refine lv_iconst (v := 0) S.1 S.2.1 d_Mo_threshold_31 (by decide) ?_
      refine lv_goto (tgt := 41) S.1 S.2.1 d_Mo_threshold_32 (by decide) ?_
      exact J _ (if_pos c_28).symm
  · subst e_a1
    refine lv_iload S.1 S.2.1 d_Mo_threshold_41 (lv_at hl 0 rfl) ?_
    refine lv_bipush (v := 16) S.1 S.2.1 d_Mo_threshold_43 (by decide) ?_
    refine lv_iconst (v := 2) S.1 S.2.1 d_Mo_threshold_45 (by decide) ?_
    refine lv_iload_n S.1 S.2.1 d_Mo_threshold_46 rfl (lv_at hl 2 rfl) ?_
    refine lv_imul S.1 S.2.1 d_Mo_threshold_47 ?_
    refine lv_ishr S.1 S.2.1 d_Mo_threshold_48 ?_
    refine lv_imul S.1 S.2.1 d_Mo_threshold_49 ?_
    refine lv_iadd S.1 S.2.1 d_Mo_threshold_50 ?_
    refine lv_iadd S.1 S.2.1 d_Mo_threshold_51 ?_
    refine lv_istore_n (lv' := [(2, .int _), (5, .int _), (4, .int _), (3, .int 0), (0, .int i), (1, .int j)]) S.1 S.2.1 d_Mo_threshold_52 rfl hl (by decide) rfl (fun ls hl => ?_)
    refine lv_iinc (v := 1) (lv' := [(3, .int 1), (2, .int _), (5, .int _), (4, .int _), (0, .int i), (1, .int j)]) S.1 S.2.1 d_Mo_threshold_53 hl (k := 3) rfl (by decide) (by decide) rfl (fun ls hl => ?_)
    refine lv_goto (tgt := 4) S.1 S.2.1 d_Mo_threshold_56 (by decide) ?_
    refine lv_iload_n S.1 S.2.1 d_Mo_threshold_4 rfl (lv_at hl 0 rfl) ?_
    refine lv_iconst (v := 3) S.1 S.2.1 d_Mo_threshold_5 (by decide) ?_
    refine lv_icmp_ge (tgt := 59) S.1 S.2.1 d_Mo_threshold_6 (by decide) (fun q => absurd q (by decide)) (fun _ => ?_)
    refine lv_iload_n S.1 S.2.1 d_Mo_threshold_9 rfl (lv_at hl 4 rfl) ?_
    refine lv_iload_n S.1 S.2.1 d_Mo_threshold_10 rfl (lv_at hl 0 rfl) ?_
    refine lv_ishr S.1 S.2.1 d_Mo_threshold_11 ?_
    refine lv_iconst (v := 1) S.1 S.2.1 d_Mo_threshold_12 (by decide) ?_
    refine lv_iand S.1 S.2.1 d_Mo_threshold_13 ?_
    refine lv_istore (lv' := [(4, .int _), (3, .int 1), (2, .int _), (5, .int _), (0, .int i), (1, .int j)]) S.1 S.2.1 d_Mo_threshold_14 hl (by decide) rfl (fun ls hl => ?_)
    refine lv_iload_n S.1 S.2.1 d_Mo_threshold_16 rfl (lv_at hl 5 rfl) ?_
    refine lv_iload_n S.1 S.2.1 d_Mo_threshold_17 rfl (lv_at hl 1 rfl) ?_
    refine lv_ishr S.1 S.2.1 d_Mo_threshold_18 ?_
    refine lv_iconst (v := 1) S.1 S.2.1 d_Mo_threshold_19 (by decide) ?_
    refine lv_iand S.1 S.2.1 d_Mo_threshold_20 ?_
    refine lv_istore (lv' := [(5, .int _), (4, .int _), (3, .int 1), (2, .int _), (0, .int i), (1, .int j)]) S.1 S.2.1 d_Mo_threshold_21 hl (by decide) rfl (fun ls hl => ?_)
    refine lv_iload_n S.1 S.2.1 d_Mo_threshold_23 rfl (lv_at hl 3 rfl) ?_
    refine lv_topi (fun d1 ed1 => ?_)
    refine hp_cut (fun v => v = (if (i >>> ((1 : Int32) &&& 31) &&& 1) = (j >>> ((1 : Int32) &&& 31) &&& 1) then 0 else (32 : Int32) >>> (2 * (1 : Int32) &&& 31))) 41 [.int d1] (fun J => ?_) (fun a1 e_a1 => ?_)
    · refine lv_iload S.1 S.2.1 d_Mo_threshold_24 (lv_at hl 1 rfl) ?_
      refine lv_iload S.1 S.2.1 d_Mo_threshold_26 (lv_at hl 0 rfl) ?_
      refine lv_icmp_ne (tgt := 35) S.1 S.2.1 d_Mo_threshold_28 (by decide) (fun c_28 => ?_) (fun c_28 => ?_)
      · refine lv_bipush (v := 32) S.1 S.2.1 d_Mo_threshold_35 (by decide) ?_
        refine lv_iconst (v := 2) S.1 S.2.1 d_Mo_threshold_37 (by decide) ?_
        refine lv_iload_n S.1 S.2.1 d_Mo_threshold_38 rfl (lv_at hl 2 rfl) ?_
        refine lv_imul S.1 S.2.1 d_Mo_threshold_39 ?_
        refine lv_ishr S.1 S.2.1 d_Mo_threshold_40 ?_
        exact J _ (if_neg c_28).symm
      · refine lv_iconst (v := 0) S.1 S.2.1 d_Mo_threshold_31 (by decide) ?_
        refine lv_goto (tgt := 41) S.1 S.2.1 d_Mo_threshold_32 (by decide) ?_
        exact J _ (if_pos c_28).symm
    · subst e_a1
      refine lv_iload S.1 S.2.1 d_Mo_threshold_41 (lv_at hl 0 rfl) ?_
      refine lv_bipush (v := 16) S.1 S.2.1 d_Mo_threshold_43 (by decide) ?_
      refine lv_iconst (v := 2) S.1 S.2.1 d_Mo_threshold_45 (by decide) ?_
      refine lv_iload_n S.1 S.2.1 d_Mo_threshold_46 rfl (lv_at hl 2 rfl) ?_
      refine lv_imul S.1 S.2.1 d_Mo_threshold_47 ?_
      refine lv_ishr S.1 S.2.1 d_Mo_threshold_48 ?_
      refine lv_imul S.1 S.2.1 d_Mo_threshold_49 ?_
      refine lv_iadd S.1 S.2.1 d_Mo_threshold_50 ?_
      refine lv_iadd S.1 S.2.1 d_Mo_threshold_51 ?_
      refine lv_istore_n (lv' := [(2, .int _), (5, .int _), (4, .int _), (3, .int 1), (0, .int i), (1, .int j)]) S.1 S.2.1 d_Mo_threshold_52 rfl hl (by decide) rfl (fun ls hl => ?_)
      refine lv_iinc (v := 2) (lv' := [(3, .int 2), (2, .int _), (5, .int _), (4, .int _), (0, .int i), (1, .int j)]) S.1 S.2.1 d_Mo_threshold_53 hl (k := 3) rfl (by decide) (by decide) rfl (fun ls hl => ?_)
      refine lv_goto (tgt := 4) S.1 S.2.1 d_Mo_threshold_56 (by decide) ?_
      refine lv_iload_n S.1 S.2.1 d_Mo_threshold_4 rfl (lv_at hl 0 rfl) ?_
      refine lv_iconst (v := 3) S.1 S.2.1 d_Mo_threshold_5 (by decide) ?_
      refine lv_icmp_ge (tgt := 59) S.1 S.2.1 d_Mo_threshold_6 (by decide) (fun q => absurd q (by decide)) (fun _ => ?_)
      refine lv_iload_n S.1 S.2.1 d_Mo_threshold_9 rfl (lv_at hl 4 rfl) ?_
      refine lv_iload_n S.1 S.2.1 d_Mo_threshold_10 rfl (lv_at hl 0 rfl) ?_
      refine lv_ishr S.1 S.2.1 d_Mo_threshold_11 ?_
      refine lv_iconst (v := 1) S.1 S.2.1 d_Mo_threshold_12 (by decide) ?_
      refine lv_iand S.1 S.2.1 d_Mo_threshold_13 ?_
      refine lv_istore (lv' := [(4, .int _), (3, .int 2), (2, .int _), (5, .int _), (0, .int i), (1, .int j)]) S.1 S.2.1 d_Mo_threshold_14 hl (by decide) rfl (fun ls hl => ?_)
      refine lv_iload_n S.1 S.2.1 d_Mo_threshold_16 rfl (lv_at hl 5 rfl) ?_
      refine lv_iload_n S.1 S.2.1 d_Mo_threshold_17 rfl (lv_at hl 1 rfl) ?_
      refine lv_ishr S.1 S.2.1 d_Mo_threshold_18 ?_
      refine lv_iconst (v := 1) S.1 S.2.1 d_Mo_threshold_19 (by decide) ?_
      refine lv_iand S.1 S.2.1 d_Mo_threshold_20 ?_
      refine lv_istore (lv' := [(5, .int _), (4, .int _), (3, .int 2), (2, .int _), (0, .int i), (1, .int j)]) S.1 S.2.1 d_Mo_threshold_21 hl (by decide) rfl (fun ls hl => ?_)
      refine lv_iload_n S.1 S.2.1 d_Mo_threshold_23 rfl (lv_at hl 3 rfl) ?_
      refine lv_topi (fun d2 ed2 => ?_)
      refine hp_cut (fun v => v = (if (i >>> ((2 : Int32) &&& 31) &&& 1) = (j >>> ((2 : Int32) &&& 31) &&& 1) then 0 else (32 : Int32) >>> (2 * (2 : Int32) &&& 31))) 41 [.int d2] (fun J => ?_) (fun a1 e_a1 => ?_)
      · refine lv_iload S.1 S.2.1 d_Mo_threshold_24 (lv_at hl 1 rfl) ?_
        refine lv_iload S.1 S.2.1 d_Mo_threshold_26 (lv_at hl 0 rfl) ?_
        refine lv_icmp_ne (tgt := 35) S.1 S.2.1 d_Mo_threshold_28 (by decide) (fun c_28 => ?_) (fun c_28 => ?_)
        · refine lv_bipush (v := 32) S.1 S.2.1 d_Mo_threshold_35 (by decide) ?_
          refine lv_iconst (v := 2) S.1 S.2.1 d_Mo_threshold_37 (by decide) ?_
          refine lv_iload_n S.1 S.2.1 d_Mo_threshold_38 rfl (lv_at hl 2 rfl) ?_
          refine lv_imul S.1 S.2.1 d_Mo_threshold_39 ?_
          refine lv_ishr S.1 S.2.1 d_Mo_threshold_40 ?_
          exact J _ (if_neg c_28).symm
        · refine lv_iconst (v := 0) S.1 S.2.1 d_Mo_threshold_31 (by decide) ?_
          refine lv_goto (tgt := 41) S.1 S.2.1 d_Mo_threshold_32 (by decide) ?_
          exact J _ (if_pos c_28).symm
      · subst e_a1
        refine lv_iload S.1 S.2.1 d_Mo_threshold_41 (lv_at hl 0 rfl) ?_
        refine lv_bipush (v := 16) S.1 S.2.1 d_Mo_threshold_43 (by decide) ?_
        refine lv_iconst (v := 2) S.1 S.2.1 d_Mo_threshold_45 (by decide) ?_
        refine lv_iload_n S.1 S.2.1 d_Mo_threshold_46 rfl (lv_at hl 2 rfl) ?_
        refine lv_imul S.1 S.2.1 d_Mo_threshold_47 ?_
        refine lv_ishr S.1 S.2.1 d_Mo_threshold_48 ?_
        refine lv_imul S.1 S.2.1 d_Mo_threshold_49 ?_
        refine lv_iadd S.1 S.2.1 d_Mo_threshold_50 ?_
        refine lv_iadd S.1 S.2.1 d_Mo_threshold_51 ?_
        refine lv_istore_n (lv' := [(2, .int _), (5, .int _), (4, .int _), (3, .int 2), (0, .int i), (1, .int j)]) S.1 S.2.1 d_Mo_threshold_52 rfl hl (by decide) rfl (fun ls hl => ?_)
        refine lv_iinc (v := 3) (lv' := [(3, .int 3), (2, .int _), (5, .int _), (4, .int _), (0, .int i), (1, .int j)]) S.1 S.2.1 d_Mo_threshold_53 hl (k := 3) rfl (by decide) (by decide) rfl (fun ls hl => ?_)
        refine lv_goto (tgt := 4) S.1 S.2.1 d_Mo_threshold_56 (by decide) ?_
        refine lv_iload_n S.1 S.2.1 d_Mo_threshold_4 rfl (lv_at hl 0 rfl) ?_
        refine lv_iconst (v := 3) S.1 S.2.1 d_Mo_threshold_5 (by decide) ?_
        refine lv_icmp_ge (tgt := 59) S.1 S.2.1 d_Mo_threshold_6 (by decide) (fun _ => ?_) (fun q => absurd (by decide) q)
        refine lv_iload_n S.1 S.2.1 d_Mo_threshold_59 rfl (lv_at hl 1 rfl) ?_
        exact hp_retRi S hr hlk d_Mo_threshold_60 (by rw [ed2, ed1, ed0]; rfl)
end
section
set_option maxHeartbeats 4000000 in
set_option maxRecDepth 100000 in
theorem c_Mo_hatch (l : Launch) (hk x y : Int32)  : Met l y_Mo_hatch (.code y_Mo_hatch prog_9_method_7_code 9 (some .boolean) :: BIG) ({ frames := 0, cells := 0, slots := 0, locals := 0 }) (va_Pc [.int hk, .int x, .int y] (fun _ => True)) (hp_QR (some (.int (q_is (q_hm hk (q_r16 x) (q_r16 y)))))) 0 0 (fun _ => False) := by
  refine hp_enter (by decide) (Nat.le_of_ble_eq_true rfl) ?_
  intro p e s m below meth c ls S hr hlk hin hI hl
  have hl : lv_has ls 9 [(0, .int hk), (1, .int x), (2, .int y)] := hl
  refine lv_iload_n S.1 S.2.1 d_Mo_hatch_0 rfl (lv_at hl 1 rfl) ?_
  refine lv_bipush (v := 16) S.1 S.2.1 d_Mo_hatch_1 (by decide) ?_
  refine lv_irem S.1 S.2.1 d_Mo_hatch_3 (by decide) ?_
  refine lv_topi (fun u eu => ?_)
  refine lv_istore_n (lv' := [(3, .int u), (0, .int hk), (1, .int x), (2, .int y)]) S.1 S.2.1 d_Mo_hatch_4 rfl hl (by decide) rfl (fun ls hl => ?_)
  refine lv_iload_n S.1 S.2.1 d_Mo_hatch_5 rfl (lv_at hl 3 rfl) ?_
  refine lv_bipush (v := 16) S.1 S.2.1 d_Mo_hatch_6 (by decide) ?_
  refine lv_irem S.1 S.2.1 d_Mo_hatch_8 (by decide) ?_
  refine lv_topi (fun vv evv => ?_)
  refine lv_istore (lv' := [(4, .int vv), (3, .int u), (0, .int hk), (1, .int x), (2, .int y)]) S.1 S.2.1 d_Mo_hatch_9 hl (by decide) rfl (fun ls hl => ?_)
  refine hp_cut (fun v => v = q_is (q_ly vv)) 30 [] (fun J => ?_) (fun a1 e_a1 => ?_)
  · refine lv_iload S.1 S.2.1 d_Mo_hatch_11 (lv_at hl 0 rfl) ?_
    refine lv_bipush (v := 7) S.1 S.2.1 d_Mo_hatch_13 (by decide) ?_
    refine lv_icmp_eq (tgt := 25) S.1 S.2.1 d_Mo_hatch_15 (by decide) (fun c_15 => ?_) (fun c_15 => ?_)
    · refine lv_iconst (v := 1) S.1 S.2.1 d_Mo_hatch_25 (by decide) ?_
      refine lv_goto (tgt := 30) S.1 S.2.1 d_Mo_hatch_26 (by decide) ?_
      exact J _ (q_is_t (Or.inl c_15))
    · refine lv_iload S.1 S.2.1 d_Mo_hatch_18 (lv_at hl 0 rfl) ?_
      refine lv_bipush (v := 8) S.1 S.2.1 d_Mo_hatch_20 (by decide) ?_
      refine lv_icmp_ne (tgt := 29) S.1 S.2.1 d_Mo_hatch_22 (by decide) (fun c_22 => ?_) (fun c_22 => ?_)
      · refine lv_iconst (v := 0) S.1 S.2.1 d_Mo_hatch_29 (by decide) ?_
        exact J _ (q_is_f (fun q => q.elim c_15 c_22))
      · refine lv_iconst (v := 1) S.1 S.2.1 d_Mo_hatch_25 (by decide) ?_
        refine lv_goto (tgt := 30) S.1 S.2.1 d_Mo_hatch_26 (by decide) ?_
        exact J _ (q_is_t (Or.inr c_22))
  · refine lv_istore (lv' := [(5, .int a1), (4, .int vv), (3, .int u), (0, .int hk), (1, .int x), (2, .int y)]) S.1 S.2.1 d_Mo_hatch_30 hl (by decide) rfl (fun ls hl => ?_)
    refine hp_cut (fun v => v = q_is (q_ly u)) 49 [] (fun J => ?_) (fun a2 e_a2 => ?_)
    · refine lv_iload_n S.1 S.2.1 d_Mo_hatch_32 rfl (lv_at hl 2 rfl) ?_
      refine lv_bipush (v := 7) S.1 S.2.1 d_Mo_hatch_33 (by decide) ?_
      refine lv_icmp_eq (tgt := 44) S.1 S.2.1 d_Mo_hatch_35 (by decide) (fun c_35 => ?_) (fun c_35 => ?_)
      · refine lv_iconst (v := 1) S.1 S.2.1 d_Mo_hatch_44 (by decide) ?_
        refine lv_goto (tgt := 49) S.1 S.2.1 d_Mo_hatch_45 (by decide) ?_
        exact J _ (q_is_t (Or.inl c_35))
      · refine lv_iload_n S.1 S.2.1 d_Mo_hatch_38 rfl (lv_at hl 2 rfl) ?_
        refine lv_bipush (v := 8) S.1 S.2.1 d_Mo_hatch_39 (by decide) ?_
        refine lv_icmp_ne (tgt := 48) S.1 S.2.1 d_Mo_hatch_41 (by decide) (fun c_41 => ?_) (fun c_41 => ?_)
        · refine lv_iconst (v := 0) S.1 S.2.1 d_Mo_hatch_48 (by decide) ?_
          exact J _ (q_is_f (fun q => q.elim c_35 c_41))
        · refine lv_iconst (v := 1) S.1 S.2.1 d_Mo_hatch_44 (by decide) ?_
          refine lv_goto (tgt := 49) S.1 S.2.1 d_Mo_hatch_45 (by decide) ?_
          exact J _ (q_is_t (Or.inr c_41))
    · refine lv_istore (lv' := [(6, .int a2), (5, .int a1), (4, .int vv), (3, .int u), (0, .int hk), (1, .int x), (2, .int y)]) S.1 S.2.1 d_Mo_hatch_49 hl (by decide) rfl (fun ls hl => ?_)
      refine hp_cut (fun v => v = q_is (q_ri u vv)) 67 [] (fun J => ?_) (fun a3 e_a3 => ?_)
      · refine lv_iload_n S.1 S.2.1 d_Mo_hatch_51 rfl (lv_at hl 3 rfl) ?_
        refine lv_iload S.1 S.2.1 d_Mo_hatch_52 (lv_at hl 2 rfl) ?_
        refine lv_iadd S.1 S.2.1 d_Mo_hatch_54 ?_
        refine lv_bipush (v := 16) S.1 S.2.1 d_Mo_hatch_55 (by decide) ?_
        refine lv_irem S.1 S.2.1 d_Mo_hatch_57 (by decide) ?_
        refine lv_iconst (v := 2) S.1 S.2.1 d_Mo_hatch_58 (by decide) ?_
        refine lv_icmp_ge (tgt := 66) S.1 S.2.1 d_Mo_hatch_59 (by decide) (fun c_59 => ?_) (fun c_59 => ?_)
        · refine lv_iconst (v := 0) S.1 S.2.1 d_Mo_hatch_66 (by decide) ?_
          exact J _ (q_is_f (by simp only [z_lt, z_le] at c_59 ⊢; exact Int.not_lt.mpr c_59))
        · refine lv_iconst (v := 1) S.1 S.2.1 d_Mo_hatch_62 (by decide) ?_
          refine lv_goto (tgt := 67) S.1 S.2.1 d_Mo_hatch_63 (by decide) ?_
          exact J _ (q_is_t (by simp only [z_lt, z_le] at c_59 ⊢; exact Int.not_le.mp c_59))
      · refine lv_istore (lv' := [(7, .int a3), (6, .int a2), (5, .int a1), (4, .int vv), (3, .int u), (0, .int hk), (1, .int x), (2, .int y)]) S.1 S.2.1 d_Mo_hatch_67 hl (by decide) rfl (fun ls hl => ?_)
        refine hp_cut (fun v => v = q_is (q_fa u vv)) 88 [] (fun J => ?_) (fun a4 e_a4 => ?_)
        · refine lv_iload_n S.1 S.2.1 d_Mo_hatch_69 rfl (lv_at hl 4 rfl) ?_
          refine lv_iload S.1 S.2.1 d_Mo_hatch_70 (lv_at hl 3 rfl) ?_
          refine lv_isub S.1 S.2.1 d_Mo_hatch_72 ?_
          refine lv_bipush (v := 16) S.1 S.2.1 d_Mo_hatch_73 (by decide) ?_
          refine lv_iadd S.1 S.2.1 d_Mo_hatch_75 ?_
          refine lv_bipush (v := 16) S.1 S.2.1 d_Mo_hatch_76 (by decide) ?_
          refine lv_irem S.1 S.2.1 d_Mo_hatch_78 (by decide) ?_
          refine lv_iconst (v := 2) S.1 S.2.1 d_Mo_hatch_79 (by decide) ?_
          refine lv_icmp_ge (tgt := 87) S.1 S.2.1 d_Mo_hatch_80 (by decide) (fun c_80 => ?_) (fun c_80 => ?_)
          · refine lv_iconst (v := 0) S.1 S.2.1 d_Mo_hatch_87 (by decide) ?_
            exact J _ (q_is_f (by simp only [z_lt, z_le] at c_80 ⊢; exact Int.not_lt.mpr c_80))
          · refine lv_iconst (v := 1) S.1 S.2.1 d_Mo_hatch_83 (by decide) ?_
            refine lv_goto (tgt := 88) S.1 S.2.1 d_Mo_hatch_84 (by decide) ?_
            exact J _ (q_is_t (by simp only [z_lt, z_le] at c_80 ⊢; exact Int.not_le.mp c_80))
        · refine lv_istore (lv' := [(8, .int a4), (7, .int a3), (6, .int a2), (5, .int a1), (4, .int vv), (3, .int u), (0, .int hk), (1, .int x), (2, .int y)]) S.1 S.2.1 d_Mo_hatch_88 hl (by decide) rfl (fun ls hl => ?_)
          rw [show q_r16 x = u from eu.symm, show q_r16 y = vv from evv.symm]
          refine lv_iload_n S.1 S.2.1 d_Mo_hatch_90 rfl (lv_at hl 6 rfl) ?_
          by_cases k_1 : hk = 1
          · refine lv_tableIn (off := 33) (tgt := 124) S.1 S.2.1 d_Mo_hatch_91 (by rw [k_1]; decide) (by rw [k_1]; decide) (by rw [k_1]; rfl) (by decide) ?_
            refine lv_iload S.1 S.2.1 d_Mo_hatch_124 (lv_at hl 3 rfl) ?_
            exact hp_retRz S hr hlk d_Mo_hatch_126 (by first | decide | (rw [e_a1]; exact q_is_n) | (rw [e_a2]; exact q_is_n) | (rw [e_a3]; exact q_is_n) | (rw [e_a4]; exact q_is_n)) (by rw [e_a1]; exact q_is_c ⟨fun q => Or.inl ⟨k_1, q⟩, fun q => by rcases q with q | q | q | q | q | q <;> first | exact q.2 | (exfalso; have := k_1.symm.trans q.1; revert this; decide) | exact absurd k_1 q.1.1⟩)
          · by_cases k_2 : hk = 2
            · refine lv_tableIn (off := 36) (tgt := 127) S.1 S.2.1 d_Mo_hatch_91 (by rw [k_2]; decide) (by rw [k_2]; decide) (by rw [k_2]; rfl) (by decide) ?_
              refine lv_iload S.1 S.2.1 d_Mo_hatch_127 (lv_at hl 2 rfl) ?_
              exact hp_retRz S hr hlk d_Mo_hatch_129 (by first | decide | (rw [e_a1]; exact q_is_n) | (rw [e_a2]; exact q_is_n) | (rw [e_a3]; exact q_is_n) | (rw [e_a4]; exact q_is_n)) (by rw [e_a2]; exact q_is_c ⟨fun q => Or.inr (Or.inl ⟨k_2, q⟩), fun q => by rcases q with q | q | q | q | q | q <;> first | exact q.2 | (exfalso; have := k_2.symm.trans q.1; revert this; decide) | exact absurd k_2 q.1.2.1⟩)
            · by_cases k_3 : hk = 3
              · refine lv_tableIn (off := 39) (tgt := 130) S.1 S.2.1 d_Mo_hatch_91 (by rw [k_3]; decide) (by rw [k_3]; decide) (by rw [k_3]; rfl) (by decide) ?_
                refine lv_iload S.1 S.2.1 d_Mo_hatch_130 (lv_at hl 1 rfl) ?_
                exact hp_retRz S hr hlk d_Mo_hatch_132 (by first | decide | (rw [e_a1]; exact q_is_n) | (rw [e_a2]; exact q_is_n) | (rw [e_a3]; exact q_is_n) | (rw [e_a4]; exact q_is_n)) (by rw [e_a3]; exact q_is_c ⟨fun q => Or.inr (Or.inr (Or.inl ⟨k_3, q⟩)), fun q => by rcases q with q | q | q | q | q | q <;> first | exact q.2 | (exfalso; have := k_3.symm.trans q.1; revert this; decide) | exact absurd k_3 q.1.2.2.1⟩)
              · by_cases k_4 : hk = 4
                · refine lv_tableIn (off := 42) (tgt := 133) S.1 S.2.1 d_Mo_hatch_91 (by rw [k_4]; decide) (by rw [k_4]; decide) (by rw [k_4]; rfl) (by decide) ?_
                  refine lv_iload S.1 S.2.1 d_Mo_hatch_133 (lv_at hl 0 rfl) ?_
                  exact hp_retRz S hr hlk d_Mo_hatch_135 (by first | decide | (rw [e_a1]; exact q_is_n) | (rw [e_a2]; exact q_is_n) | (rw [e_a3]; exact q_is_n) | (rw [e_a4]; exact q_is_n)) (by rw [e_a4]; exact q_is_c ⟨fun q => Or.inr (Or.inr (Or.inr (Or.inl ⟨k_4, q⟩))), fun q => by rcases q with q | q | q | q | q | q <;> first | exact q.2 | (exfalso; have := k_4.symm.trans q.1; revert this; decide) | exact absurd k_4 q.1.2.2.2.1⟩)
                · by_cases k_5 : hk = 5
                  · refine lv_tableIn (off := 45) (tgt := 136) S.1 S.2.1 d_Mo_hatch_91 (by rw [k_5]; decide) (by rw [k_5]; decide) (by rw [k_5]; rfl) (by decide) ?_
                    refine lv_iload S.1 S.2.1 d_Mo_hatch_136 (lv_at hl 3 rfl) ?_
                    refine lv_if_ne (tgt := 146) S.1 S.2.1 d_Mo_hatch_138 (by decide) (fun c_138 => ?_) (fun c_138 => ?_)
                    · refine lv_iconst (v := 1) S.1 S.2.1 d_Mo_hatch_146 (by decide) ?_
                      refine lv_goto (tgt := 151) S.1 S.2.1 d_Mo_hatch_147 (by decide) ?_
                      exact hp_retRz S hr hlk d_Mo_hatch_151 (by first | decide | (rw [e_a1]; exact q_is_n) | (rw [e_a2]; exact q_is_n) | (rw [e_a3]; exact q_is_n) | (rw [e_a4]; exact q_is_n)) (q_is_t (Or.inr (Or.inr (Or.inr (Or.inr (Or.inl ⟨k_5, Or.inl (q_is_ne.mp (e_a1 ▸ c_138))⟩))))))
                    · refine lv_iload S.1 S.2.1 d_Mo_hatch_141 (lv_at hl 2 rfl) ?_
                      refine lv_if_eq (tgt := 150) S.1 S.2.1 d_Mo_hatch_143 (by decide) (fun c_143 => ?_) (fun c_143 => ?_)
                      · refine lv_iconst (v := 0) S.1 S.2.1 d_Mo_hatch_150 (by decide) ?_
                        exact hp_retRz S hr hlk d_Mo_hatch_151 (by first | decide | (rw [e_a1]; exact q_is_n) | (rw [e_a2]; exact q_is_n) | (rw [e_a3]; exact q_is_n) | (rw [e_a4]; exact q_is_n)) (q_is_f (fun q => by rcases q with q | q | q | q | q | q <;> first | exact k_1 q.1 | exact k_2 q.1 | exact k_3 q.1 | exact k_4 q.1 | exact q.1.2.2.2.2 k_5 | exact q.2.elim (q_is_0.mp (e_a1 ▸ c_138)) (q_is_0.mp (e_a2 ▸ c_143))))
                      · refine lv_iconst (v := 1) S.1 S.2.1 d_Mo_hatch_146 (by decide) ?_
                        refine lv_goto (tgt := 151) S.1 S.2.1 d_Mo_hatch_147 (by decide) ?_
                        exact hp_retRz S hr hlk d_Mo_hatch_151 (by first | decide | (rw [e_a1]; exact q_is_n) | (rw [e_a2]; exact q_is_n) | (rw [e_a3]; exact q_is_n) | (rw [e_a4]; exact q_is_n)) (q_is_t (Or.inr (Or.inr (Or.inr (Or.inr (Or.inl ⟨k_5, Or.inr (q_is_ne.mp (e_a2 ▸ c_143))⟩))))))
                  · have n_1 : ¬ hk.toInt = 1 := lv_neT k_1 rfl
                    have n_2 : ¬ hk.toInt = 2 := lv_neT k_2 rfl
                    have n_3 : ¬ hk.toInt = 3 := lv_neT k_3 rfl
                    have n_4 : ¬ hk.toInt = 4 := lv_neT k_4 rfl
                    have n_5 : ¬ hk.toInt = 5 := lv_neT k_5 rfl
                    refine lv_tableOut (tgt := 152) S.1 S.2.1 d_Mo_hatch_91 (by omega) (by decide) ?_
                    refine lv_iload S.1 S.2.1 d_Mo_hatch_152 (lv_at hl 1 rfl) ?_
                    refine lv_if_ne (tgt := 162) S.1 S.2.1 d_Mo_hatch_154 (by decide) (fun c_154 => ?_) (fun c_154 => ?_)
                    · refine lv_iconst (v := 1) S.1 S.2.1 d_Mo_hatch_162 (by decide) ?_
                      refine lv_goto (tgt := 167) S.1 S.2.1 d_Mo_hatch_163 (by decide) ?_
                      exact hp_retRz S hr hlk d_Mo_hatch_167 (by first | decide | (rw [e_a1]; exact q_is_n) | (rw [e_a2]; exact q_is_n) | (rw [e_a3]; exact q_is_n) | (rw [e_a4]; exact q_is_n)) (q_is_t (Or.inr (Or.inr (Or.inr (Or.inr (Or.inr ⟨⟨k_1, k_2, k_3, k_4, k_5⟩, Or.inl (q_is_ne.mp (e_a3 ▸ c_154))⟩))))))
                    · refine lv_iload S.1 S.2.1 d_Mo_hatch_157 (lv_at hl 0 rfl) ?_
                      refine lv_if_eq (tgt := 166) S.1 S.2.1 d_Mo_hatch_159 (by decide) (fun c_159 => ?_) (fun c_159 => ?_)
                      · refine lv_iconst (v := 0) S.1 S.2.1 d_Mo_hatch_166 (by decide) ?_
                        exact hp_retRz S hr hlk d_Mo_hatch_167 (by first | decide | (rw [e_a1]; exact q_is_n) | (rw [e_a2]; exact q_is_n) | (rw [e_a3]; exact q_is_n) | (rw [e_a4]; exact q_is_n)) (q_is_f (fun q => by rcases q with q | q | q | q | q | q <;> first | exact k_1 q.1 | exact k_2 q.1 | exact k_3 q.1 | exact k_4 q.1 | exact k_5 q.1 | exact q.2.elim (q_is_0.mp (e_a3 ▸ c_154)) (q_is_0.mp (e_a4 ▸ c_159))))
                      · refine lv_iconst (v := 1) S.1 S.2.1 d_Mo_hatch_162 (by decide) ?_
                        refine lv_goto (tgt := 167) S.1 S.2.1 d_Mo_hatch_163 (by decide) ?_
                        exact hp_retRz S hr hlk d_Mo_hatch_167 (by first | decide | (rw [e_a1]; exact q_is_n) | (rw [e_a2]; exact q_is_n) | (rw [e_a3]; exact q_is_n) | (rw [e_a4]; exact q_is_n)) (q_is_t (Or.inr (Or.inr (Or.inr (Or.inr (Or.inr ⟨⟨k_1, k_2, k_3, k_4, k_5⟩, Or.inr (q_is_ne.mp (e_a4 ▸ c_159))⟩))))))
end
section
/-! The reference's sheet: dots read and set. -/
theorem lg_cmp_e (x y : Int64) : lg_cmp x y = 0 ↔ x = y := by
  unfold lg_cmp
  split
  · rename_i h
    exact ⟨fun q => absurd q (by decide), fun q => by rw [q] at h; exact absurd h (by simp)⟩
  · split
    · rename_i h
      exact ⟨fun _ => h, fun _ => rfl⟩
    · rename_i h
      exact ⟨fun q => absurd q (by decide), fun q => absurd q h⟩
/-- the dot p of a long's 64, alone, as the reference makes it -/
def q_b1d (p : Nat) : Int64 := (1 : Int64) <<< ((nI (63 - p)).toInt64 &&& 63)
theorem tb_one {q : Nat} (hq : q < 64) : tb 1 q = decide (q = 63) := by
  revert q
  decide +kernel
theorem tb_b1d {p q : Nat} (hp : p < 64) (hq : q < 64) : tb (q_b1d p) q = decide (q = p) := by
  unfold q_b1d
  rw [tb_shl _ (by omega)]
  by_cases h : q + (63 - p) < 64
  · rw [tb_one h]
    by_cases h2 : q = p
    · rw [decide_eq_true h2, decide_eq_true (by omega)]
    · rw [decide_eq_false h2, decide_eq_false (by omega)]
  · rw [tb_big (by omega), decide_eq_false (by omega)]
theorem tb_asr (w : Int64) {p : Nat} (hp : p < 64) : (w >>> ((nI (63 - p)).toInt64 &&& 63) &&& 1) = 1 ↔ tb w p = true := by
  have hk : tb (w >>> ((nI (63 - p)).toInt64 &&& 63)) 63 = tb w p := by
    unfold tb
    rw [Int64.toBitVec_shiftRight, tb_c (63 - p) (by omega), BitVec.sshiftRight_eq', BitVec.toNat_ofNat, Nat.mod_eq_of_lt (by omega), BitVec.getMsbD_eq_getLsbD, BitVec.getMsbD_eq_getLsbD, BitVec.getLsbD_sshiftRight]
    simp only [show (63 : Nat) < 64 by omega, decide_true, Bool.true_and, hp]
    rw [if_pos (by omega)]
    simp
  constructor
  · intro h
    have := congrArg (fun z => tb z 63) h
    simp only [tb_and] at this
    rw [hk, tb_one (by omega)] at this
    simpa using this
  · intro h
    refine tb_ext fun q hq => ?_
    rw [tb_and, tb_one hq]
    by_cases h2 : q = 63
    · subst h2
      rw [hk, h]
      rfl
    · rw [decide_eq_false h2, Bool.and_false]
theorem ix80 {x y : Nat} (hx : x < 5120) (hy : y < 5100) : (80 : Int32) * nI y + nI x / 64 = nI (80 * y + x / 64) := by
  rw [div64 (by omega), show (80 : Int32) = nI 80 from rfl, pk_mul, nI_add]
theorem sh63 {x : Nat} (hx : x < 2 ^ 31) : (63 : Int32) - (nI x - nI x / 64 * 64) = nI (63 - x % 64) := by
  rw [← n64, pk_rem hx (by decide) (by decide), show (63 : Int32) = nI 63 from rfl, pk_sub (by omega)]
def q_st (f : Nat → Int64) (x y : Nat) (b : Bool) : Nat → Int64 := vp_updL f (80 * y + x / 64) (if b = true then f (80 * y + x / 64) ||| q_b1d (x % 64) else f (80 * y + x / 64) &&& (q_b1d (x % 64) ^^^ (-1)))

set_option maxHeartbeats 4000000 in
set_option maxRecDepth 100000 in
theorem c_Mo_isInk (l : Launch) (dC : Nat → ClassId) (dI : Nat → Nat → Nat) (cA : Nat → ClassId) (A : Nat → Prop) (h : hp_T) (t sh ac dn fr sp dt : Nat) (mf : Nat → Int32) (x y : Int32) (h_t : h t = some (k_Mo mf sh ac dn fr sp dt)) : Met l y_Mo_isInk (.code y_Mo_isInk prog_9_method_8_code 3 (some .boolean) :: BIG) ({ frames := 1, cells := 0, slots := 0, locals := 28 }) (va_Pc [.ref t, .int x, .int y] (hp_I (gg dC dI cA) A h)) (hp_QR (some (.int (q_is (q_ik (mf 14) (mf 15) x y))))) 0 0 (fun _ => False) := by
  refine hp_enter (by decide) (Nat.le_of_ble_eq_true rfl) ?_
  intro p e s m below meth c ls S hr hlk hin hI hl
  have hl : lv_has ls 3 [(0, .ref t), (1, .int x), (2, .int y)] := hl
  have hJ := hI.J
  refine lv_aload_n S.1 S.2.1 d_Mo_isInk_0 rfl (lv_at hl 0 rfl) ?_
  refine hp_get S zz hJ h_t f_Mo_51 rfl d_Mo_isInk_1 ?_
  refine lv_iconst (v := 2) S.1 S.2.1 d_Mo_isInk_4 (by decide) ?_
  refine lv_icmp_ge (tgt := 21) S.1 S.2.1 d_Mo_isInk_5 (by decide) (fun c_5 => ?_) (fun c_5 => ?_)
  · refine lv_aload_n S.1 S.2.1 d_Mo_isInk_21 rfl (lv_at hl 0 rfl) ?_
    refine hp_get S zz hJ h_t f_Mo_51 rfl d_Mo_isInk_22 ?_
    refine lv_iconst (v := 2) S.1 S.2.1 d_Mo_isInk_25 (by decide) ?_
    refine lv_icmp_ne (tgt := 64) S.1 S.2.1 d_Mo_isInk_26 (by decide) (fun c_26 => ?_) (fun c_26 => ?_)
    · refine lv_aload_n S.1 S.2.1 d_Mo_isInk_64 rfl (lv_at hl 0 rfl) ?_
      refine hp_get S zz hJ h_t f_Mo_58 rfl d_Mo_isInk_65 ?_
      refine lv_iload_n S.1 S.2.1 d_Mo_isInk_68 rfl (lv_at hl 1 rfl) ?_
      refine lv_iload_n S.1 S.2.1 d_Mo_isInk_69 rfl (lv_at hl 2 rfl) ?_
      refine hp_doneR (hp_runS S zz0 (c_Mo_hatch l _ _ _) l_Mo_61 (hp_pre0 _) (by decide) rfl hl.1 rfl (nl rfl) d_Mo_isInk_70 (by decide)) ?_
      exact hp_retRz S hr hlk d_Mo_isInk_73 (by first | decide | exact q_is_n) (q_is_c ⟨fun q => Or.inr (Or.inr ⟨(by simp only [z_lt, z_le] at c_5 ⊢; omega), c_26, q⟩), fun q => by rcases q with q | q | q; exact absurd q.1 (by simp only [z_lt, z_le] at c_5 ⊢; omega); exact absurd q.2.1 c_26; exact q.2.2⟩)
    · refine lv_iload_n S.1 S.2.1 d_Mo_isInk_29 rfl (lv_at hl 1 rfl) ?_
      refine lv_bipush (v := 8) S.1 S.2.1 d_Mo_isInk_30 (by decide) ?_
      refine lv_irem S.1 S.2.1 d_Mo_isInk_32 (by decide) ?_
      refine lv_iload_n S.1 S.2.1 d_Mo_isInk_33 rfl (lv_at hl 2 rfl) ?_
      refine lv_bipush (v := 8) S.1 S.2.1 d_Mo_isInk_34 (by decide) ?_
      refine lv_irem S.1 S.2.1 d_Mo_isInk_36 (by decide) ?_
      refine hp_doneR (hp_runS S zz0 (c_Mo_threshold l _ _) l_Mo_54 (hp_pre0 _) (by decide) rfl hl.1 rfl (nl rfl) d_Mo_isInk_37 (by decide)) ?_
      refine lv_bipush (v := 64) S.1 S.2.1 d_Mo_isInk_40 (by decide) ?_
      refine lv_aload_n S.1 S.2.1 d_Mo_isInk_42 rfl (lv_at hl 0 rfl) ?_
      refine hp_get S zz hJ h_t f_Mo_58 rfl d_Mo_isInk_43 ?_
      refine lv_imul S.1 S.2.1 d_Mo_isInk_46 ?_
      refine lv_bipush (v := 99) S.1 S.2.1 d_Mo_isInk_47 (by decide) ?_
      refine lv_iadd S.1 S.2.1 d_Mo_isInk_49 ?_
      refine lv_bipush (v := 100) S.1 S.2.1 d_Mo_isInk_50 (by decide) ?_
      refine lv_idiv S.1 S.2.1 d_Mo_isInk_52 (by decide) ?_
      refine lv_icmp_ge (tgt := 60) S.1 S.2.1 d_Mo_isInk_53 (by decide) (fun c_53 => ?_) (fun c_53 => ?_)
      · refine lv_iconst (v := 0) S.1 S.2.1 d_Mo_isInk_60 (by decide) ?_
        refine lv_goto (tgt := 73) S.1 S.2.1 d_Mo_isInk_61 (by decide) ?_
        exact hp_retRz S hr hlk d_Mo_isInk_73 (by first | decide | exact q_is_n) (q_is_f (fun q => by rcases q with q | q | q; exact absurd q.1 (by simp only [z_lt, z_le] at c_5 ⊢; omega); exact absurd (z_lt.mp q.2.2) (Int.not_lt.mpr (z_le.mp c_53)); exact q.2.1 c_26))
      · refine lv_iconst (v := 1) S.1 S.2.1 d_Mo_isInk_56 (by decide) ?_
        refine lv_goto (tgt := 73) S.1 S.2.1 d_Mo_isInk_57 (by decide) ?_
        exact hp_retRz S hr hlk d_Mo_isInk_73 (by first | decide | exact q_is_n) (q_is_t (Or.inr (Or.inl ⟨(by simp only [z_lt, z_le] at c_5 ⊢; omega), c_26, by simp only [z_lt, z_le] at c_53 ⊢; exact Int.not_le.mp c_53⟩)))
  · refine lv_aload_n S.1 S.2.1 d_Mo_isInk_8 rfl (lv_at hl 0 rfl) ?_
    refine hp_get S zz hJ h_t f_Mo_51 rfl d_Mo_isInk_9 ?_
    refine lv_if_ne (tgt := 19) S.1 S.2.1 d_Mo_isInk_12 (by decide) (fun c_12 => ?_) (fun c_12 => ?_)
    · refine lv_iconst (v := 0) S.1 S.2.1 d_Mo_isInk_19 (by decide) ?_
      exact hp_retRz S hr hlk d_Mo_isInk_20 (by first | decide | exact q_is_n) (q_is_f (fun q => by rcases q with q | q | q; exact c_12 q.2; exact q.1 (by simp only [z_lt, z_le] at c_5 ⊢; omega); exact q.1 (by simp only [z_lt, z_le] at c_5 ⊢; omega)))
    · refine lv_iconst (v := 1) S.1 S.2.1 d_Mo_isInk_15 (by decide) ?_
      refine lv_goto (tgt := 20) S.1 S.2.1 d_Mo_isInk_16 (by decide) ?_
      exact hp_retRz S hr hlk d_Mo_isInk_20 (by first | decide | exact q_is_n) (q_is_t (Or.inl ⟨(by simp only [z_lt, z_le] at c_5 ⊢; omega), c_12⟩))

set_option maxHeartbeats 4000000 in
set_option maxRecDepth 100000 in
theorem c_Mo_isBlack (l : Launch) (dC : Nat → ClassId) (dI : Nat → Nat → Nat) (cA : Nat → ClassId) (A : Nat → Prop) (h : hp_T) (t sh ac dn fr sp dt : Nat) (mf : Nat → Int32) (n x y : Nat) (f : Nat → Int64) (h_t : h t = some (k_Mo mf sh ac dn fr sp dt)) (h_sh : h sh = some (k_lo (cA 1) n f)) (hx : x < 5120) (hy : y < 5100) (hn : 80 * y + x / 64 < n ∧ n ≤ 408000) : Met l y_Mo_isBlack (.code y_Mo_isBlack prog_9_method_4_code 3 (some .boolean) :: BIG) ({ frames := 0, cells := 0, slots := 0, locals := 0 }) (va_Pc [.ref t, .int (nI x), .int (nI y)] (hp_I (gg dC dI cA) A h)) (hp_QR (some (.int (q_is (tb (f (80 * y + x / 64)) (x % 64) = true))))) 0 0 (fun _ => False) := by
  refine hp_enter (by decide) (Nat.le_of_ble_eq_true rfl) ?_
  intro p e s m below meth c ls S hr hlk hin hI hl
  have hl : lv_has ls 3 [(0, .ref t), (1, .int (nI x)), (2, .int (nI y))] := hl
  have hJ := hI.J
  refine lv_aload_n S.1 S.2.1 d_Mo_isBlack_0 rfl (lv_at hl 0 rfl) ?_
  refine hp_get S zz hJ h_t f_Mo_37 rfl d_Mo_isBlack_1 ?_
  refine lv_bipush (v := 80) S.1 S.2.1 d_Mo_isBlack_4 (by decide) ?_
  refine lv_iload_n S.1 S.2.1 d_Mo_isBlack_6 rfl (lv_at hl 2 rfl) ?_
  refine lv_imul S.1 S.2.1 d_Mo_isBlack_7 ?_
  refine lv_iload_n S.1 S.2.1 d_Mo_isBlack_8 rfl (lv_at hl 1 rfl) ?_
  refine lv_bipush (v := 64) S.1 S.2.1 d_Mo_isBlack_9 (by decide) ?_
  refine lv_idiv S.1 S.2.1 d_Mo_isBlack_11 (by decide) ?_
  refine lv_iadd S.1 S.2.1 d_Mo_isBlack_12 ?_
  rw [ix80 hx hy]
  refine hp_lald S hJ 1 h_sh rfl (vp_in_nI hn.1 (by omega)) d_Mo_isBlack_13 ?_
  rw [nI_clamp (by omega)]
  refine lv_bipush (v := 63) S.1 S.2.1 d_Mo_isBlack_14 (by decide) ?_
  refine lv_iload_n S.1 S.2.1 d_Mo_isBlack_16 rfl (lv_at hl 1 rfl) ?_
  refine lv_bipush (v := 64) S.1 S.2.1 d_Mo_isBlack_17 (by decide) ?_
  refine lv_irem S.1 S.2.1 d_Mo_isBlack_19 (by decide) ?_
  refine lv_isub S.1 S.2.1 d_Mo_isBlack_20 ?_
  rw [sh63 (by omega)]
  refine lv_lshr S.1 S.2.1 d_Mo_isBlack_21 rfl ?_
  refine lv_lconst (v := 1) S.1 S.2.1 d_Mo_isBlack_22 (by decide) ?_
  refine lv_land S.1 S.2.1 d_Mo_isBlack_23 ?_
  refine lv_lconst (v := 1) S.1 S.2.1 d_Mo_isBlack_24 (by decide) ?_
  refine W.lcmp S.1 S.2.1 d_Mo_isBlack_25 ?_
  refine lv_if_ne (tgt := 33) S.1 S.2.1 d_Mo_isBlack_26 (by decide) (fun c_26 => ?_) (fun c_26 => ?_)
  · refine lv_iconst (v := 0) S.1 S.2.1 d_Mo_isBlack_33 (by decide) ?_
    exact hp_retRz S hr hlk d_Mo_isBlack_34 (by decide) (q_is_f (fun q => c_26 ((lg_cmp_e _ _).mpr ((tb_asr _ (by omega)).mpr q))))
  · refine lv_iconst (v := 1) S.1 S.2.1 d_Mo_isBlack_29 (by decide) ?_
    refine lv_goto (tgt := 34) S.1 S.2.1 d_Mo_isBlack_30 (by decide) ?_
    exact hp_retRz S hr hlk d_Mo_isBlack_34 (by decide) (q_is_t ((tb_asr _ (by omega)).mp ((lg_cmp_e _ _).mp c_26)))

set_option maxHeartbeats 4000000 in
set_option maxRecDepth 100000 in
theorem c_Mo_set (l : Launch) (dC : Nat → ClassId) (dI : Nat → Nat → Nat) (cA : Nat → ClassId) (A : Nat → Prop) (h : hp_T) (t sh ac dn fr sp dt : Nat) (mf : Nat → Int32) (n x y : Nat) (f : Nat → Int64) (b : Int32) (bb : Bool) (h_t : h t = some (k_Mo mf sh ac dn fr sp dt)) (h_sh : h sh = some (k_lo (cA 1) n f)) (hx : x < 5120) (hy : y < 5100) (hn : 80 * y + x / 64 < n ∧ n ≤ 408000) (hb : bb = true ↔ ¬ b = 0) : Met l y_Mo_set (.code y_Mo_set prog_9_method_5_code 7 none :: BIG) ({ frames := 0, cells := 0, slots := 0, locals := 0 }) (va_Pc [.ref t, .int (nI x), .int (nI y), .int b] (hp_I (gg dC dI cA) A h)) (hp_QW (gg dC dI cA) A hp_mv (fun _ h' => h' = hp_up h sh (k_lo (cA 1) n (q_st f x y bb)))) 0 0 A := by
  refine hp_enter (by decide) (Nat.le_of_ble_eq_true rfl) ?_
  intro p e s m below meth c ls S hr hlk hin hI hl
  have hl : lv_has ls 7 [(0, .ref t), (1, .int (nI x)), (2, .int (nI y)), (3, .int b)] := hl
  have hJ := hI.J
  refine lv_bipush (v := 80) S.1 S.2.1 d_Mo_set_0 (by decide) ?_
  refine lv_iload_n S.1 S.2.1 d_Mo_set_2 rfl (lv_at hl 2 rfl) ?_
  refine lv_imul S.1 S.2.1 d_Mo_set_3 ?_
  refine lv_iload_n S.1 S.2.1 d_Mo_set_4 rfl (lv_at hl 1 rfl) ?_
  refine lv_bipush (v := 64) S.1 S.2.1 d_Mo_set_5 (by decide) ?_
  refine lv_idiv S.1 S.2.1 d_Mo_set_7 (by decide) ?_
  refine lv_iadd S.1 S.2.1 d_Mo_set_8 ?_
  rw [ix80 hx hy]
  refine lv_istore (lv' := [(4, .int (nI (80 * y + x / 64))), (0, .ref t), (1, .int (nI x)), (2, .int (nI y)), (3, .int b)]) S.1 S.2.1 d_Mo_set_9 hl (by decide) rfl (fun ls hl => ?_)
  refine lv_lconst (v := 1) S.1 S.2.1 d_Mo_set_11 (by decide) ?_
  refine lv_bipush (v := 63) S.1 S.2.1 d_Mo_set_12 (by decide) ?_
  refine lv_iload_n S.1 S.2.1 d_Mo_set_14 rfl (lv_at hl 2 rfl) ?_
  refine lv_bipush (v := 64) S.1 S.2.1 d_Mo_set_15 (by decide) ?_
  refine lv_irem S.1 S.2.1 d_Mo_set_17 (by decide) ?_
  refine lv_isub S.1 S.2.1 d_Mo_set_18 ?_
  rw [sh63 (by omega)]
  refine lv_lshl S.1 S.2.1 d_Mo_set_19 rfl ?_
  rw [show (1 : Int64) <<< ((nI (63 - x % 64)).toInt64 &&& 63) = q_b1d (x % 64) from rfl]
  refine lv_lstore (lv' := [(5, .long (q_b1d (x % 64))), (4, .int (nI (80 * y + x / 64))), (0, .ref t), (1, .int (nI x)), (2, .int (nI y)), (3, .int b)]) S.1 S.2.1 d_Mo_set_20 hl (by decide) rfl (fun ls hl => ?_)
  refine lv_aload_n S.1 S.2.1 d_Mo_set_22 rfl (lv_at hl 2 rfl) ?_
  refine hp_get S zz hJ h_t f_Mo_37 rfl d_Mo_set_23 ?_
  refine lv_iload S.1 S.2.1 d_Mo_set_26 (lv_at hl 1 rfl) ?_
  refine hp_cutL (fun v => v = (if bb = true then f (80 * y + x / 64) ||| q_b1d (x % 64) else f (80 * y + x / 64) &&& (q_b1d (x % 64) ^^^ (-1)))) 59 [.int (nI (80 * y + x / 64)), .ref sh] (fun J => ?_) (fun v1 e_v1 => ?_)
  · refine lv_iload_n S.1 S.2.1 d_Mo_set_28 rfl (lv_at hl 5 rfl) ?_
    refine lv_if_eq (tgt := 45) S.1 S.2.1 d_Mo_set_29 (by decide) (fun c_29 => ?_) (fun c_29 => ?_)
    · refine lv_aload_n S.1 S.2.1 d_Mo_set_45 rfl (lv_at hl 2 rfl) ?_
      refine hp_get S zz hJ h_t f_Mo_37 rfl d_Mo_set_46 ?_
      refine lv_iload S.1 S.2.1 d_Mo_set_49 (lv_at hl 1 rfl) ?_
      refine hp_lald S hJ 1 h_sh rfl (vp_in_nI hn.1 (by omega)) d_Mo_set_51 ?_
      rw [nI_clamp (by omega)]
      refine lv_lload S.1 S.2.1 d_Mo_set_52 (lv_at hl 0 rfl) ?_
      refine lv_ldc2 (v := (-1)) S.1 S.2.1 S.2.2.2.1 (S.2.2.2.2 _ t_681) d_Mo_set_54 ?_
      refine lv_lxor S.1 S.2.1 d_Mo_set_57 ?_
      refine lv_land S.1 S.2.1 d_Mo_set_58 ?_
      exact J _ ((if_neg (fun q => hb.mp q c_29)).symm)
    · refine lv_aload_n S.1 S.2.1 d_Mo_set_32 rfl (lv_at hl 2 rfl) ?_
      refine hp_get S zz hJ h_t f_Mo_37 rfl d_Mo_set_33 ?_
      refine lv_iload S.1 S.2.1 d_Mo_set_36 (lv_at hl 1 rfl) ?_
      refine hp_lald S hJ 1 h_sh rfl (vp_in_nI hn.1 (by omega)) d_Mo_set_38 ?_
      rw [nI_clamp (by omega)]
      refine lv_lload S.1 S.2.1 d_Mo_set_39 (lv_at hl 0 rfl) ?_
      refine lv_lor S.1 S.2.1 d_Mo_set_41 ?_
      refine lv_goto (tgt := 59) S.1 S.2.1 d_Mo_set_42 (by decide) ?_
      exact J _ ((if_pos (hb.mpr c_29)).symm)
  · refine hp_last S hJ 1 h_sh rfl (vp_in_nI hn.1 (by omega)) d_Mo_set_59 (fun H locs hJ => ?_)
    rw [nI_clamp (by omega), e_v1] at hJ
    obtain ⟨h1, eh1⟩ : ∃ z, z = hp_up h sh (k_lo (cA 1) n (q_st f x y bb)) := ⟨_, rfl⟩
    have hJ := hJ.cast eh1
    have h0_sh := h_sh
    have h_t : h1 t = some (.inr (7, [.int (mf 0), .int (mf 1), .int (mf 2), .int (mf 3), .ref sh, .int (mf 5), .ref ac, .ref dn, .ref fr, .ref sp, .int (mf 10), .ref dt, .int (mf 12), .int (mf 13), .int (mf 14), .int (mf 15), .int (mf 16), .int (mf 17), .int (mf 18), .int (mf 19), .int (mf 20), .int (mf 21), .int (mf 22)])) := by rw [eh1]; exact hp_up_k (hp_ne h_t h0_sh (show ((0, 7) : Nat × Nat) ≠ (2, 0) by decide)) h_t
    have h_sh : h1 sh = some (k_lo (cA 1) n (q_st f x y bb)) := by rw [eh1]; exact hp_up_s _ _ _
    exact hp_retWv S hJ hr hlk d_Mo_set_60 (by decide) eh1
end
section
/-! The reference paints. -/
abbrev q_pin (mf : Nat → Int32) (x y : Int32) : Prop := (0 ≤ x ∧ x < mf 1 ∧ 0 ≤ y ∧ y < mf 2) ∧ mf 19 ≤ x ∧ x ≤ mf 21 ∧ mf 20 ≤ y ∧ y ≤ mf 22
/-- what a dot of a mark does to the sheet: some colour, or none -/
def q_pc (mf : Nat → Int32) (x y s : Int32) : Option Bool := if q_pin mf x y then (if s = 0 then (if mf 16 = 0 then none else some false) else if q_ik (mf 14) (mf 15) x y then some true else if mf 17 = 0 then none else some false) else none
def q_pt (mf : Nat → Int32) (f : Nat → Int64) (x y s : Int32) : Nat → Int64 := match q_pc mf x y s with
  | none => f
  | some b => q_st f x.toInt.toNat y.toInt.toNat b
def q_lx (tn x i j : Int32) : Int32 := if tn = 0 then x + i else if tn = 1 then x + j else if tn = 2 then x - i else x - j
def q_lyy (tn y i j : Int32) : Int32 := if tn = 0 then y + j else if tn = 1 then y - i else if tn = 2 then y - j else y + i

set_option maxHeartbeats 4000000 in
set_option maxRecDepth 100000 in
theorem c_Mo_paint (l : Launch) (dC : Nat → ClassId) (dI : Nat → Nat → Nat) (cA : Nat → ClassId) (A : Nat → Prop) (h : hp_T) (t sh ac dn fr sp dt : Nat) (mf : Nat → Int32) (ww hh : Nat) (f : Nat → Int64) (x y sc : Int32) (h_t : h t = some (k_Mo mf sh ac dn fr sp dt)) (h_sh : h sh = some (k_lo (cA 1) (80 * hh) f)) (hw : ww ≤ 5100 ∧ mf 1 = nI ww) (hh2 : hh ≤ 5100 ∧ mf 2 = nI hh) : Met l y_Mo_paint (.code y_Mo_paint prog_9_method_9_code 4 none :: BIG) ({ frames := 2, cells := 0, slots := 0, locals := 50 }) (va_Pc [.ref t, .int x, .int y, .int sc] (hp_I (gg dC dI cA) A h)) (hp_QW (gg dC dI cA) A hp_mv (fun _ h' => h' = hp_up h sh (k_lo (cA 1) (80 * hh) (q_pt mf f x y sc)))) 0 0 A := by
  refine hp_enter (by decide) (Nat.le_of_ble_eq_true rfl) ?_
  intro p e s m below meth c ls S hr hlk hin hI hl
  have hl : lv_has ls 4 [(0, .ref t), (1, .int x), (2, .int y), (3, .int sc)] := hl
  have hJ := hI.J
  refine lv_aload_n S.1 S.2.1 d_Mo_paint_0 rfl (lv_at hl 0 rfl) ?_
  refine lv_iload_n S.1 S.2.1 d_Mo_paint_1 rfl (lv_at hl 1 rfl) ?_
  refine lv_iload_n S.1 S.2.1 d_Mo_paint_2 rfl (lv_at hl 2 rfl) ?_
  refine hp_doneR (hp_runV S zz0 (c_Mo_isIn l dC dI cA A h t sh ac dn fr sp dt mf x y h_t) l_Mo_65 (hJ.preV _ h_t rfl) (by decide) rfl hl.1 rfl (nl rfl) d_Mo_paint_3 (by decide)) ?_
  refine lv_if_eq (tgt := 41) S.1 S.2.1 d_Mo_paint_6 (by decide) (fun c_6 => ?_) (fun c_6 => ?_)
  · exact hp_retWv S hJ hr hlk d_Mo_paint_41 (by decide) (by unfold q_pt q_pc; rw [if_neg (fun q => q_is_0.mp c_6 q.1), hp_up_same h_sh])
  · refine lv_iload_n S.1 S.2.1 d_Mo_paint_9 rfl (lv_at hl 1 rfl) ?_
    refine lv_aload_n S.1 S.2.1 d_Mo_paint_10 rfl (lv_at hl 0 rfl) ?_
    refine hp_get S zz hJ h_t f_Mo_69 rfl d_Mo_paint_11 ?_
    refine lv_icmp_lt (tgt := 41) S.1 S.2.1 d_Mo_paint_14 (by decide) (fun c_14 => ?_) (fun c_14 => ?_)
    · exact hp_retWv S hJ hr hlk d_Mo_paint_41 (by decide) (by unfold q_pt q_pc; rw [if_neg (fun q => by have q2 := q.2; simp only [z_lt, z_le] at q2 c_14; omega), hp_up_same h_sh])
    · refine lv_iload_n S.1 S.2.1 d_Mo_paint_17 rfl (lv_at hl 1 rfl) ?_
      refine lv_aload_n S.1 S.2.1 d_Mo_paint_18 rfl (lv_at hl 0 rfl) ?_
      refine hp_get S zz hJ h_t f_Mo_40 rfl d_Mo_paint_19 ?_
      refine lv_icmp_gt (tgt := 41) S.1 S.2.1 d_Mo_paint_22 (by decide) (fun c_22 => ?_) (fun c_22 => ?_)
      · exact hp_retWv S hJ hr hlk d_Mo_paint_41 (by decide) (by unfold q_pt q_pc; rw [if_neg (fun q => by have q2 := q.2; simp only [z_lt, z_le] at q2 c_22; omega), hp_up_same h_sh])
      · refine lv_iload_n S.1 S.2.1 d_Mo_paint_25 rfl (lv_at hl 2 rfl) ?_
        refine lv_aload_n S.1 S.2.1 d_Mo_paint_26 rfl (lv_at hl 0 rfl) ?_
        refine hp_get S zz hJ h_t f_Mo_72 rfl d_Mo_paint_27 ?_
        refine lv_icmp_lt (tgt := 41) S.1 S.2.1 d_Mo_paint_30 (by decide) (fun c_30 => ?_) (fun c_30 => ?_)
        · exact hp_retWv S hJ hr hlk d_Mo_paint_41 (by decide) (by unfold q_pt q_pc; rw [if_neg (fun q => by have q2 := q.2; simp only [z_lt, z_le] at q2 c_30; omega), hp_up_same h_sh])
        · refine lv_iload_n S.1 S.2.1 d_Mo_paint_33 rfl (lv_at hl 2 rfl) ?_
          refine lv_aload_n S.1 S.2.1 d_Mo_paint_34 rfl (lv_at hl 0 rfl) ?_
          refine hp_get S zz hJ h_t f_Mo_43 rfl d_Mo_paint_35 ?_
          refine lv_icmp_le (tgt := 42) S.1 S.2.1 d_Mo_paint_38 (by decide) (fun c_38 => ?_) (fun c_38 => ?_)
          · refine lv_iload_n S.1 S.2.1 d_Mo_paint_42 rfl (lv_at hl 3 rfl) ?_
            refine lv_if_ne (tgt := 63) S.1 S.2.1 d_Mo_paint_43 (by decide) (fun c_43 => ?_) (fun c_43 => ?_)
            · refine lv_aload_n S.1 S.2.1 d_Mo_paint_63 rfl (lv_at hl 0 rfl) ?_
              refine lv_iload_n S.1 S.2.1 d_Mo_paint_64 rfl (lv_at hl 1 rfl) ?_
              refine lv_iload_n S.1 S.2.1 d_Mo_paint_65 rfl (lv_at hl 2 rfl) ?_
              refine hp_doneR (hp_runV S zz0 (c_Mo_isInk l dC dI cA A h t sh ac dn fr sp dt mf x y h_t) l_Mo_83 (hJ.preV _ h_t rfl) (by decide) rfl hl.1 rfl (nl rfl) d_Mo_paint_66 (by decide)) ?_
              refine lv_if_eq (tgt := 82) S.1 S.2.1 d_Mo_paint_69 (by decide) (fun c_69 => ?_) (fun c_69 => ?_)
              · refine lv_aload_n S.1 S.2.1 d_Mo_paint_82 rfl (lv_at hl 0 rfl) ?_
                refine hp_get S zz hJ h_t f_Mo_86 rfl d_Mo_paint_83 ?_
                refine lv_if_eq (tgt := 96) S.1 S.2.1 d_Mo_paint_86 (by decide) (fun c_86 => ?_) (fun c_86 => ?_)
                · exact hp_retWv S hJ hr hlk d_Mo_paint_96 (by decide) (by have hq : q_pin mf x y := ⟨q_is_ne.mp c_6, by simp only [z_lt, z_le] at c_14 c_22 c_30 c_38 ⊢; omega⟩; unfold q_pt q_pc; rw [if_pos hq, if_neg c_43, if_neg (q_is_0.mp c_69), if_pos c_86, hp_up_same h_sh])
                · refine lv_aload_n S.1 S.2.1 d_Mo_paint_89 rfl (lv_at hl 0 rfl) ?_
                  refine lv_iload_n S.1 S.2.1 d_Mo_paint_90 rfl (lv_at hl 1 rfl) ?_
                  refine lv_iload_n S.1 S.2.1 d_Mo_paint_91 rfl (lv_at hl 2 rfl) ?_
                  refine lv_iconst (v := 0) S.1 S.2.1 d_Mo_paint_92 (by decide) ?_
                  have hP := q_is_ne.mp c_6
                  have hx0 : 0 ≤ x.toInt ∧ x.toInt < ww ∧ 0 ≤ y.toInt ∧ y.toInt < hh := by have q := hP; rw [hw.2, hh2.2] at q; simp only [z_lt, z_le, z_0] at q; rw [z_nI (by omega), z_nI (by omega)] at q; exact q
                  have ex := z_ofN hx0.1
                  have ey := z_ofN hx0.2.2.1
                  have hq : q_pin mf x y := ⟨hP, by simp only [z_lt, z_le] at c_14 c_22 c_30 c_38 ⊢; omega⟩
                  obtain ⟨xn, hxn⟩ : ∃ z, z = x.toInt.toNat := ⟨_, rfl⟩
                  obtain ⟨yn, hyn⟩ : ∃ z, z = y.toInt.toNat := ⟨_, rfl⟩
                  rw [← hxn] at ex
                  rw [← hyn] at ey
                  refine hp_doneWv hJ (hp_runV S zz0 (c_Mo_set l dC dI cA A h t sh ac dn fr sp dt mf (80 * hh) xn yn f 0 false h_t h_sh (by omega) (by omega) (by omega) (by decide)) l_Mo_79 (hJ.preV [.int (nI xn), .int (nI yn), .int 0] h_t rfl) (by decide) rfl hl.1 (by rw [← ex, ← ey]; rfl) (nl rfl) d_Mo_paint_93 (by decide)) (fun h1 H locs eh1 hJ => ?_)
                  exact hp_retWv S hJ hr hlk d_Mo_paint_96 (by decide) (by unfold q_pt q_pc; rw [if_pos hq, if_neg c_43, if_neg (q_is_0.mp c_69), if_neg c_86]; rw [eh1, hxn, hyn])
              · refine lv_aload_n S.1 S.2.1 d_Mo_paint_72 rfl (lv_at hl 0 rfl) ?_
                refine lv_iload_n S.1 S.2.1 d_Mo_paint_73 rfl (lv_at hl 1 rfl) ?_
                refine lv_iload_n S.1 S.2.1 d_Mo_paint_74 rfl (lv_at hl 2 rfl) ?_
                refine lv_iconst (v := 1) S.1 S.2.1 d_Mo_paint_75 (by decide) ?_
                have hP := q_is_ne.mp c_6
                have hx0 : 0 ≤ x.toInt ∧ x.toInt < ww ∧ 0 ≤ y.toInt ∧ y.toInt < hh := by have q := hP; rw [hw.2, hh2.2] at q; simp only [z_lt, z_le, z_0] at q; rw [z_nI (by omega), z_nI (by omega)] at q; exact q
                have ex := z_ofN hx0.1
                have ey := z_ofN hx0.2.2.1
                have hq : q_pin mf x y := ⟨hP, by simp only [z_lt, z_le] at c_14 c_22 c_30 c_38 ⊢; omega⟩
                obtain ⟨xn, hxn⟩ : ∃ z, z = x.toInt.toNat := ⟨_, rfl⟩
                obtain ⟨yn, hyn⟩ : ∃ z, z = y.toInt.toNat := ⟨_, rfl⟩
                rw [← hxn] at ex
                rw [← hyn] at ey
                refine hp_doneWv hJ (hp_runV S zz0 (c_Mo_set l dC dI cA A h t sh ac dn fr sp dt mf (80 * hh) xn yn f 1 true h_t h_sh (by omega) (by omega) (by omega) (by decide)) l_Mo_79 (hJ.preV [.int (nI xn), .int (nI yn), .int 1] h_t rfl) (by decide) rfl hl.1 (by rw [← ex, ← ey]; rfl) (nl rfl) d_Mo_paint_76 (by decide)) (fun h1 H locs eh1 hJ => ?_)
                refine lv_goto (tgt := 96) S.1 S.2.1 d_Mo_paint_79 (by decide) ?_
                exact hp_retWv S hJ hr hlk d_Mo_paint_96 (by decide) (by unfold q_pt q_pc; rw [if_pos hq, if_neg c_43, if_pos (q_is_ne.mp c_69)]; rw [eh1, hxn, hyn])
            · refine lv_aload_n S.1 S.2.1 d_Mo_paint_46 rfl (lv_at hl 0 rfl) ?_
              refine hp_get S zz hJ h_t f_Mo_75 rfl d_Mo_paint_47 ?_
              refine lv_if_eq (tgt := 96) S.1 S.2.1 d_Mo_paint_50 (by decide) (fun c_50 => ?_) (fun c_50 => ?_)
              · exact hp_retWv S hJ hr hlk d_Mo_paint_96 (by decide) (by have hq : q_pin mf x y := ⟨q_is_ne.mp c_6, by simp only [z_lt, z_le] at c_14 c_22 c_30 c_38 ⊢; omega⟩; unfold q_pt q_pc; rw [if_pos hq, if_pos c_43, if_pos c_50, hp_up_same h_sh])
              · refine lv_aload_n S.1 S.2.1 d_Mo_paint_53 rfl (lv_at hl 0 rfl) ?_
                refine lv_iload_n S.1 S.2.1 d_Mo_paint_54 rfl (lv_at hl 1 rfl) ?_
                refine lv_iload_n S.1 S.2.1 d_Mo_paint_55 rfl (lv_at hl 2 rfl) ?_
                refine lv_iconst (v := 0) S.1 S.2.1 d_Mo_paint_56 (by decide) ?_
                have hP := q_is_ne.mp c_6
                have hx0 : 0 ≤ x.toInt ∧ x.toInt < ww ∧ 0 ≤ y.toInt ∧ y.toInt < hh := by have q := hP; rw [hw.2, hh2.2] at q; simp only [z_lt, z_le, z_0] at q; rw [z_nI (by omega), z_nI (by omega)] at q; exact q
                have ex := z_ofN hx0.1
                have ey := z_ofN hx0.2.2.1
                have hq : q_pin mf x y := ⟨hP, by simp only [z_lt, z_le] at c_14 c_22 c_30 c_38 ⊢; omega⟩
                obtain ⟨xn, hxn⟩ : ∃ z, z = x.toInt.toNat := ⟨_, rfl⟩
                obtain ⟨yn, hyn⟩ : ∃ z, z = y.toInt.toNat := ⟨_, rfl⟩
                rw [← hxn] at ex
                rw [← hyn] at ey
                refine hp_doneWv hJ (hp_runV S zz0 (c_Mo_set l dC dI cA A h t sh ac dn fr sp dt mf (80 * hh) xn yn f 0 false h_t h_sh (by omega) (by omega) (by omega) (by decide)) l_Mo_79 (hJ.preV [.int (nI xn), .int (nI yn), .int 0] h_t rfl) (by decide) rfl hl.1 (by rw [← ex, ← ey]; rfl) (nl rfl) d_Mo_paint_57 (by decide)) (fun h1 H locs eh1 hJ => ?_)
                refine lv_goto (tgt := 96) S.1 S.2.1 d_Mo_paint_60 (by decide) ?_
                exact hp_retWv S hJ hr hlk d_Mo_paint_96 (by decide) (by unfold q_pt q_pc; rw [if_pos hq, if_pos c_43, if_neg c_50]; rw [eh1, hxn, hyn])
          · exact hp_retWv S hJ hr hlk d_Mo_paint_41 (by decide) (by unfold q_pt q_pc; rw [if_neg (fun q => by have q2 := q.2; simp only [z_lt, z_le] at q2 c_38; omega), hp_up_same h_sh])

set_option maxHeartbeats 4000000 in
set_option maxRecDepth 100000 in
theorem c_Mo_lay (l : Launch) (dC : Nat → ClassId) (dI : Nat → Nat → Nat) (cA : Nat → ClassId) (A : Nat → Prop) (h : hp_T) (t sh ac dn fr sp dt : Nat) (mf : Nat → Int32) (ww hh : Nat) (f : Nat → Int64) (x y i j sc : Int32) (h_t : h t = some (k_Mo mf sh ac dn fr sp dt)) (h_sh : h sh = some (k_lo (cA 1) (80 * hh) f)) (hw : ww ≤ 5100 ∧ mf 1 = nI ww) (hh2 : hh ≤ 5100 ∧ mf 2 = nI hh) : Met l y_Mo_lay (.code y_Mo_lay prog_9_method_10_code 8 none :: BIG) ({ frames := 3, cells := 0, slots := 0, locals := 73 }) (va_Pc [.ref t, .int x, .int y, .int i, .int j, .int sc] (hp_I (gg dC dI cA) A h)) (hp_QW (gg dC dI cA) A hp_mv (fun _ h' => h' = hp_up h sh (k_lo (cA 1) (80 * hh) (q_pt mf f (q_lx (mf 18) x i j) (q_lyy (mf 18) y i j) sc)))) 0 0 A := by
  refine hp_enter (by decide) (Nat.le_of_ble_eq_true rfl) ?_
  intro p e s m below meth c ls S hr hlk hin hI hl
  have hl : lv_has ls 8 [(0, .ref t), (1, .int x), (2, .int y), (3, .int i), (4, .int j), (5, .int sc)] := hl
  have hJ := hI.J
  refine hp_cut (fun v => v = q_lx (mf 18) x i j) 46 [] (fun J => ?_) (fun u e_u => ?_)
  · refine lv_aload_n S.1 S.2.1 d_Mo_lay_0 rfl (lv_at hl 0 rfl) ?_
    refine hp_get S zz hJ h_t f_Mo_89 rfl d_Mo_lay_1 ?_
    refine lv_if_ne (tgt := 13) S.1 S.2.1 d_Mo_lay_4 (by decide) (fun c_4 => ?_) (fun c_4 => ?_)
    · refine lv_aload_n S.1 S.2.1 d_Mo_lay_13 rfl (lv_at hl 0 rfl) ?_
      refine hp_get S zz hJ h_t f_Mo_89 rfl d_Mo_lay_14 ?_
      refine lv_iconst (v := 1) S.1 S.2.1 d_Mo_lay_17 (by decide) ?_
      refine lv_icmp_ne (tgt := 28) S.1 S.2.1 d_Mo_lay_18 (by decide) (fun c_18 => ?_) (fun c_18 => ?_)
      · refine lv_aload_n S.1 S.2.1 d_Mo_lay_28 rfl (lv_at hl 0 rfl) ?_
        refine hp_get S zz hJ h_t f_Mo_89 rfl d_Mo_lay_29 ?_
        refine lv_iconst (v := 2) S.1 S.2.1 d_Mo_lay_32 (by decide) ?_
        refine lv_icmp_ne (tgt := 42) S.1 S.2.1 d_Mo_lay_33 (by decide) (fun c_33 => ?_) (fun c_33 => ?_)
        · refine lv_iload_n S.1 S.2.1 d_Mo_lay_42 rfl (lv_at hl 1 rfl) ?_
          refine lv_iload S.1 S.2.1 d_Mo_lay_43 (lv_at hl 4 rfl) ?_
          refine lv_isub S.1 S.2.1 d_Mo_lay_45 ?_
          exact J _ (by unfold q_lx; rw [if_neg c_4, if_neg c_18, if_neg c_33])
        · refine lv_iload_n S.1 S.2.1 d_Mo_lay_36 rfl (lv_at hl 1 rfl) ?_
          refine lv_iload_n S.1 S.2.1 d_Mo_lay_37 rfl (lv_at hl 3 rfl) ?_
          refine lv_isub S.1 S.2.1 d_Mo_lay_38 ?_
          refine lv_goto (tgt := 46) S.1 S.2.1 d_Mo_lay_39 (by decide) ?_
          exact J _ (by unfold q_lx; rw [if_neg c_4, if_neg c_18, if_pos c_33])
      · refine lv_iload_n S.1 S.2.1 d_Mo_lay_21 rfl (lv_at hl 1 rfl) ?_
        refine lv_iload S.1 S.2.1 d_Mo_lay_22 (lv_at hl 4 rfl) ?_
        refine lv_iadd S.1 S.2.1 d_Mo_lay_24 ?_
        refine lv_goto (tgt := 46) S.1 S.2.1 d_Mo_lay_25 (by decide) ?_
        exact J _ (by unfold q_lx; rw [if_neg c_4, if_pos c_18])
    · refine lv_iload_n S.1 S.2.1 d_Mo_lay_7 rfl (lv_at hl 1 rfl) ?_
      refine lv_iload_n S.1 S.2.1 d_Mo_lay_8 rfl (lv_at hl 3 rfl) ?_
      refine lv_iadd S.1 S.2.1 d_Mo_lay_9 ?_
      refine lv_goto (tgt := 46) S.1 S.2.1 d_Mo_lay_10 (by decide) ?_
      exact J _ (by unfold q_lx; rw [if_pos c_4])
  · refine lv_istore (lv' := [(6, .int u), (0, .ref t), (1, .int x), (2, .int y), (3, .int i), (4, .int j), (5, .int sc)]) S.1 S.2.1 d_Mo_lay_46 hl (by decide) rfl (fun ls hl => ?_)
    refine hp_cut (fun v => v = q_lyy (mf 18) y i j) 94 [] (fun J => ?_) (fun v9 e_v9 => ?_)
    · refine lv_aload_n S.1 S.2.1 d_Mo_lay_48 rfl (lv_at hl 1 rfl) ?_
      refine hp_get S zz hJ h_t f_Mo_89 rfl d_Mo_lay_49 ?_
      refine lv_if_ne (tgt := 62) S.1 S.2.1 d_Mo_lay_52 (by decide) (fun c_52 => ?_) (fun c_52 => ?_)
      · refine lv_aload_n S.1 S.2.1 d_Mo_lay_62 rfl (lv_at hl 1 rfl) ?_
        refine hp_get S zz hJ h_t f_Mo_89 rfl d_Mo_lay_63 ?_
        refine lv_iconst (v := 1) S.1 S.2.1 d_Mo_lay_66 (by decide) ?_
        refine lv_icmp_ne (tgt := 76) S.1 S.2.1 d_Mo_lay_67 (by decide) (fun c_67 => ?_) (fun c_67 => ?_)
        · refine lv_aload_n S.1 S.2.1 d_Mo_lay_76 rfl (lv_at hl 1 rfl) ?_
          refine hp_get S zz hJ h_t f_Mo_89 rfl d_Mo_lay_77 ?_
          refine lv_iconst (v := 2) S.1 S.2.1 d_Mo_lay_80 (by decide) ?_
          refine lv_icmp_ne (tgt := 91) S.1 S.2.1 d_Mo_lay_81 (by decide) (fun c_81 => ?_) (fun c_81 => ?_)
          · refine lv_iload_n S.1 S.2.1 d_Mo_lay_91 rfl (lv_at hl 3 rfl) ?_
            refine lv_iload_n S.1 S.2.1 d_Mo_lay_92 rfl (lv_at hl 4 rfl) ?_
            refine lv_iadd S.1 S.2.1 d_Mo_lay_93 ?_
            exact J _ (by unfold q_lyy; rw [if_neg c_52, if_neg c_67, if_neg c_81])
          · refine lv_iload_n S.1 S.2.1 d_Mo_lay_84 rfl (lv_at hl 3 rfl) ?_
            refine lv_iload S.1 S.2.1 d_Mo_lay_85 (lv_at hl 5 rfl) ?_
            refine lv_isub S.1 S.2.1 d_Mo_lay_87 ?_
            refine lv_goto (tgt := 94) S.1 S.2.1 d_Mo_lay_88 (by decide) ?_
            exact J _ (by unfold q_lyy; rw [if_neg c_52, if_neg c_67, if_pos c_81])
        · refine lv_iload_n S.1 S.2.1 d_Mo_lay_70 rfl (lv_at hl 3 rfl) ?_
          refine lv_iload_n S.1 S.2.1 d_Mo_lay_71 rfl (lv_at hl 4 rfl) ?_
          refine lv_isub S.1 S.2.1 d_Mo_lay_72 ?_
          refine lv_goto (tgt := 94) S.1 S.2.1 d_Mo_lay_73 (by decide) ?_
          exact J _ (by unfold q_lyy; rw [if_neg c_52, if_pos c_67])
      · refine lv_iload_n S.1 S.2.1 d_Mo_lay_55 rfl (lv_at hl 3 rfl) ?_
        refine lv_iload S.1 S.2.1 d_Mo_lay_56 (lv_at hl 5 rfl) ?_
        refine lv_iadd S.1 S.2.1 d_Mo_lay_58 ?_
        refine lv_goto (tgt := 94) S.1 S.2.1 d_Mo_lay_59 (by decide) ?_
        exact J _ (by unfold q_lyy; rw [if_pos c_52])
    · refine lv_istore (lv' := [(7, .int v9), (6, .int u), (0, .ref t), (1, .int x), (2, .int y), (3, .int i), (4, .int j), (5, .int sc)]) S.1 S.2.1 d_Mo_lay_94 hl (by decide) rfl (fun ls hl => ?_)
      refine lv_aload_n S.1 S.2.1 d_Mo_lay_96 rfl (lv_at hl 2 rfl) ?_
      refine lv_iload S.1 S.2.1 d_Mo_lay_97 (lv_at hl 1 rfl) ?_
      refine lv_iload S.1 S.2.1 d_Mo_lay_99 (lv_at hl 0 rfl) ?_
      refine lv_iload S.1 S.2.1 d_Mo_lay_101 (lv_at hl 7 rfl) ?_
      refine hp_doneWv hJ (hp_runV S zz0 (c_Mo_paint l dC dI cA A h t sh ac dn fr sp dt mf ww hh f u v9 sc h_t h_sh hw hh2) l_Mo_92 (hJ.preV _ h_t rfl) (by decide) rfl hl.1 rfl (nl rfl) d_Mo_lay_103 (by decide)) (fun h1 H locs eh1 hJ => ?_)
      exact hp_retWv S hJ hr hlk d_Mo_lay_106 (by decide) (by rw [eh1, e_u, e_v9])
end
