/-! The class's calls that throw. -/
abbrev tx65 : String := "a shape is 1 .. 128 across and 1 .. 128 down"
abbrev tx78 : String := "there is no room for the shape"
abbrev tx157 : String := "the sheet has no such dot"
def ex_X (U : State) : Prop := ex_I U ∧ (∃ cS cA, U.vm.findClass ex_S = some cS ∧ U.vm.findClass ex_A = some cA ∧ U.vm.assignable cS cA = false) ∧ (∃ q, vk_R "BandPainter" 65 tx65 q U) ∧ (∃ q, vk_R "BandPainter" 78 tx78 q U) ∧ ∃ q, vk_R "BandPainter" 157 tx157 q U
theorem ex_X.mv {s U : State} (hW : s.WarmedH U.vm) (hk : ∀ (a : Nat) (cell : Cell), s.heap[a]? = some cell → U.heap[a]? = some cell) (h : ex_X s) : ex_X U := by
  obtain ⟨h1, ⟨cS, cA, h2, h3, h4⟩, ⟨q1, h5⟩, ⟨q2, h6⟩, q3, h7⟩ := h
  exact ⟨ex_mv hW hk h1, ⟨cS, cA, by rw [hW.alike.findClass]; exact h2, by rw [hW.alike.findClass]; exact h3, by rw [hW.alike.assignable]; exact h4⟩, ⟨q1, h5.warm hW⟩, ⟨q2, h6.warm hW⟩, q3, h7.warm hW⟩
theorem ex_X.bl {U : State} {g : JFrame} {mk : MethodId} {a : Array Value} (h : ex_X U) : ex_X (U.calling g mk a) := by
  obtain ⟨h1, h2, ⟨q1, h5⟩, ⟨q2, h6⟩, q3, h7⟩ := h
  exact ⟨ex_bl h1, h2, ⟨q1, vk_R.same (u := U) rfl h5⟩, ⟨q2, vk_R.same (u := U) rfl h6⟩, q3, vk_R.same (u := U) rfl h7⟩
abbrev hp_IX (G : hp_G) (A : Nat → Prop) (h : hp_T) (U : State) : Prop := hp_I G A h U ∧ ex_X U
theorem hp_blindX {G : hp_G} {A : Nat → Prop} {h : hp_T} {av : List Value} : FrameBlind (va_Pc av (hp_IX G A h)) := fun _ _ _ _ q => ⟨q.1, ⟨q.2.1.1, q.2.1.2.1.blind, q.2.1.2.2⟩, q.2.2.bl⟩
theorem ex_l63 : Cond.classLink "BandPainter" 63 ex_A ∈ BIG ∧ Cond.instantiable ex_A 6 ∈ BIG ∧ Cond.initialized ex_A ∈ BIG := by decide +kernel
theorem ex_l76 : Cond.classLink "BandPainter" 76 ex_S ∈ BIG ∧ Cond.instantiable ex_S 6 ∈ BIG ∧ Cond.initialized ex_S ∈ BIG := by decide +kernel
theorem ex_l155 : Cond.classLink "BandPainter" 155 ex_B ∈ BIG ∧ Cond.instantiable ex_B 6 ∈ BIG ∧ Cond.initialized ex_B ∈ BIG := by decide +kernel
theorem ct_shapeA (l : Launch) (hst : l.stackTraces = false) (dC : Nat → ClassId) (dI : Nat → Nat → Nat) (cA : Nat → ClassId) (A : Nat → Prop) (h : hp_T) (x : Nat) (w d : Int32) (hF : ¬ ((1 ≤ w ∧ w ≤ 128) ∧ 1 ≤ d ∧ d ≤ 128)) : t_M l y_BP_shape (.code y_BP_shape prog_1_method_2_code 4 (some .int) :: BIG) ({ frames := 6, cells := 1, slots := 6, locals := 82 }) (va_Pc [.ref x, .int w, .int d] (hp_IX (gg dC dI cA) A h)) (t_Q1 (gg dC dI cA) A h ex_A) 1 6 A := by
  refine t_enter (by decide) (Nat.le_of_ble_eq_true rfl) ?_
  intro p e s m below meth c ls S hlk hexc hB hl
  have hl : lv_has ls 4 [(0, .ref x), (1, .int w), (2, .int d)] := hl
  obtain ⟨hI, hX1, hX2, ⟨q, hX3⟩, hX4, hX5⟩ := hB
  have hth := t_throw (A := A) (R := { frames := 6, cells := 1, slots := 6, locals := 82 }) (e := e) (below := below) (pc := 22) S hI.1 hst hlk hexc hX1 (cls := ex_A) (names := ex_N) (by decide +kernel) (by decide +kernel) ex_at1 ex_l63 hX3 hl.1 d_BP_shape_22 d_BP_shape_25 d_BP_shape_26 d_BP_shape_28 d_BP_shape_31 (by decide)
  refine lv_iconst (v := 1) S.1 S.2.1 d_BP_shape_0 (by decide) ?_
  refine lv_iload_n S.1 S.2.1 d_BP_shape_1 rfl (lv_at hl 1 rfl) ?_
  refine lv_sipush (v := 128) S.1 S.2.1 d_BP_shape_2 (by decide) ?_
  refine hp_doneR (hp_runS S zz0 (c_BP_isWithin l _ _ _) l_BP_59 (hp_pre0 _) (by decide) rfl hl.1 rfl (nl rfl) d_BP_shape_5 (by decide)) ?_
  refine lv_if_eq (tgt := 22) S.1 S.2.1 d_BP_shape_8 (by decide) (fun _ => hth) (fun q1 => ?_)
  refine lv_iconst (v := 1) S.1 S.2.1 d_BP_shape_11 (by decide) ?_
  refine lv_iload_n S.1 S.2.1 d_BP_shape_12 rfl (lv_at hl 2 rfl) ?_
  refine lv_sipush (v := 128) S.1 S.2.1 d_BP_shape_13 (by decide) ?_
  refine hp_doneR (hp_runS S zz0 (c_BP_isWithin l _ _ _) l_BP_59 (hp_pre0 _) (by decide) rfl hl.1 rfl (nl rfl) d_BP_shape_16 (by decide)) ?_
  exact lv_if_ne (tgt := 32) S.1 S.2.1 d_BP_shape_19 (by decide) (fun q2 => absurd ⟨q_is_ne.mp q1, q_is_ne.mp q2⟩ hF) (fun _ => hth)
theorem ct_shapeS (l : Launch) (hst : l.stackTraces = false) (dC : Nat → ClassId) (dI : Nat → Nat → Nat) (cA : Nat → ClassId) (A : Nat → Prop) (h : hp_T) (x sheet shp pil ink clip : Nat) (bf : Nat → Int32) (w d : Int32) (h_x : h x = some (k_BP bf sheet shp pil ink clip)) (hw : (1 ≤ w ∧ w ≤ 128) ∧ 1 ≤ d ∧ d ≤ 128) (hF : 64 ≤ bf 6 ∨ ¬ bf 7 + d ≤ 4096) : t_M l y_BP_shape (.code y_BP_shape prog_1_method_2_code 4 (some .int) :: BIG) ({ frames := 6, cells := 1, slots := 6, locals := 82 }) (va_Pc [.ref x, .int w, .int d] (hp_IX (gg dC dI cA) A h)) (t_Q1 (gg dC dI cA) A h ex_S) 1 6 A := by
  refine t_enter (by decide) (Nat.le_of_ble_eq_true rfl) ?_
  intro p e s m below meth c ls S hlk hexc hB hl
  have hl : lv_has ls 4 [(0, .ref x), (1, .int w), (2, .int d)] := hl
  obtain ⟨hI, hX1, hX2, hX3, ⟨q, hX4⟩, hX5⟩ := hB
  have hJ := hI.J
  have hth := t_throw (A := A) (R := { frames := 6, cells := 1, slots := 6, locals := 82 }) (e := e) (below := below) (pc := 53) S hI.1 hst hlk hexc hX1 (cls := ex_S) (names := ex_N) (by decide +kernel) (by decide +kernel) ex_at2 ex_l76 hX4 hl.1 d_BP_shape_53 d_BP_shape_56 d_BP_shape_57 d_BP_shape_59 d_BP_shape_62 (by decide)
  refine lv_iconst (v := 1) S.1 S.2.1 d_BP_shape_0 (by decide) ?_
  refine lv_iload_n S.1 S.2.1 d_BP_shape_1 rfl (lv_at hl 1 rfl) ?_
  refine lv_sipush (v := 128) S.1 S.2.1 d_BP_shape_2 (by decide) ?_
  refine hp_doneR (hp_runS S zz0 (c_BP_isWithin l _ _ _) l_BP_59 (hp_pre0 _) (by decide) rfl hl.1 rfl (nl rfl) d_BP_shape_5 (by decide)) ?_
  refine lv_if_eq (tgt := 22) S.1 S.2.1 d_BP_shape_8 (by decide) (fun q1 => absurd hw.1 (q_is_0.mp q1)) (fun _ => ?_)
  refine lv_iconst (v := 1) S.1 S.2.1 d_BP_shape_11 (by decide) ?_
  refine lv_iload_n S.1 S.2.1 d_BP_shape_12 rfl (lv_at hl 2 rfl) ?_
  refine lv_sipush (v := 128) S.1 S.2.1 d_BP_shape_13 (by decide) ?_
  refine hp_doneR (hp_runS S zz0 (c_BP_isWithin l _ _ _) l_BP_59 (hp_pre0 _) (by decide) rfl hl.1 rfl (nl rfl) d_BP_shape_16 (by decide)) ?_
  refine lv_if_ne (tgt := 32) S.1 S.2.1 d_BP_shape_19 (by decide) (fun _ => ?_) (fun q1 => absurd q1 (q_is_ne.mpr hw.2))
  refine lv_aload_n S.1 S.2.1 d_BP_shape_32 rfl (lv_at hl 0 rfl) ?_
  refine hp_get S zz hJ h_x f_BP_70 rfl d_BP_shape_33 ?_
  refine lv_bipush (v := 64) S.1 S.2.1 d_BP_shape_36 (by decide) ?_
  refine lv_icmp_ge (tgt := 53) S.1 S.2.1 d_BP_shape_38 (by decide) (fun _ => hth) (fun q1 => ?_)
  refine lv_aload_n S.1 S.2.1 d_BP_shape_41 rfl (lv_at hl 0 rfl) ?_
  refine hp_get S zz hJ h_x f_BP_73 rfl d_BP_shape_42 ?_
  refine lv_iload_n S.1 S.2.1 d_BP_shape_45 rfl (lv_at hl 2 rfl) ?_
  refine lv_iadd S.1 S.2.1 d_BP_shape_46 ?_
  refine lv_sipush (v := 4096) S.1 S.2.1 d_BP_shape_47 (by decide) ?_
  exact lv_icmp_le (tgt := 63) S.1 S.2.1 d_BP_shape_50 (by decide) (fun q2 => absurd hF (fun q3 => q3.elim (fun q4 => q1 q4) (fun q4 => q4 q2))) (fun _ => hth)
theorem ct_black (l : Launch) (hst : l.stackTraces = false) (dC : Nat → ClassId) (dI : Nat → Nat → Nat) (cA : Nat → ClassId) (A : Nat → Prop) (h : hp_T) (x sheet shp pil ink clip : Nat) (bf : Nat → Int32) (px py : Int32) (h_x : h x = some (k_BP bf sheet shp pil ink clip)) (hF : ¬ ((0 ≤ px ∧ px ≤ bf 0 - 1) ∧ 0 ≤ py ∧ py ≤ bf 1 - 1)) : t_M l y_BP_black (.code y_BP_black prog_1_method_13_code 3 (some .boolean) :: BIG) ({ frames := 6, cells := 1, slots := 6, locals := 82 }) (va_Pc [.ref x, .int px, .int py] (hp_IX (gg dC dI cA) A h)) (t_Q1 (gg dC dI cA) A h ex_B) 1 6 A := by
  refine t_enter (by decide) (Nat.le_of_ble_eq_true rfl) ?_
  intro p e s m below meth c ls S hlk hexc hB hl
  have hl : lv_has ls 3 [(0, .ref x), (1, .int px), (2, .int py)] := hl
  obtain ⟨hI, hX1, hX2, hX3, hX4, q, hX5⟩ := hB
  have hJ := hI.J
  have hth := t_throw (A := A) (R := { frames := 6, cells := 1, slots := 6, locals := 82 }) (e := e) (below := below) (pc := 28) S hI.1 hst hlk hexc hX1 (cls := ex_B) (names := ex_N) (by decide +kernel) (by decide +kernel) ex_at3 ex_l155 hX5 hl.1 d_BP_black_28 d_BP_black_31 d_BP_black_32 d_BP_black_34 d_BP_black_37 (by decide)
  refine lv_iconst (v := 0) S.1 S.2.1 d_BP_black_0 (by decide) ?_
  refine lv_iload_n S.1 S.2.1 d_BP_black_1 rfl (lv_at hl 1 rfl) ?_
  refine lv_aload_n S.1 S.2.1 d_BP_black_2 rfl (lv_at hl 0 rfl) ?_
  refine hp_get S zz hJ h_x f_BP_13 rfl d_BP_black_3 ?_
  refine lv_iconst (v := 1) S.1 S.2.1 d_BP_black_6 (by decide) ?_
  refine lv_isub S.1 S.2.1 d_BP_black_7 ?_
  refine hp_doneR (hp_runS S zz0 (c_BP_isWithin l _ _ _) l_BP_59 (hp_pre0 _) (by decide) rfl hl.1 rfl (nl rfl) d_BP_black_8 (by decide)) ?_
  refine lv_if_eq (tgt := 28) S.1 S.2.1 d_BP_black_11 (by decide) (fun _ => hth) (fun q1 => ?_)
  refine lv_iconst (v := 0) S.1 S.2.1 d_BP_black_14 (by decide) ?_
  refine lv_iload_n S.1 S.2.1 d_BP_black_15 rfl (lv_at hl 2 rfl) ?_
  refine lv_aload_n S.1 S.2.1 d_BP_black_16 rfl (lv_at hl 0 rfl) ?_
  refine hp_get S zz hJ h_x f_BP_17 rfl d_BP_black_17 ?_
  refine lv_iconst (v := 1) S.1 S.2.1 d_BP_black_20 (by decide) ?_
  refine lv_isub S.1 S.2.1 d_BP_black_21 ?_
  refine hp_doneR (hp_runS S zz0 (c_BP_isWithin l _ _ _) l_BP_59 (hp_pre0 _) (by decide) rfl hl.1 rfl (nl rfl) d_BP_black_22 (by decide)) ?_
  exact lv_if_ne (tgt := 38) S.1 S.2.1 d_BP_black_25 (by decide) (fun q2 => absurd ⟨q_is_ne.mp q1, q_is_ne.mp q2⟩ hF) (fun _ => hth)
