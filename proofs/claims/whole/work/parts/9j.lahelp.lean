/-! The law's helpers shape and black. -/
theorem ex_two {α β : Type} {f : α → β} {L : List α} {a b : β} (h : L.map f = [a, b]) : ∃ x y, L = [x, y] ∧ f x = a ∧ f y = b := by
  match L, h with
  | [x, y], h => exact ⟨x, y, rfl, by injection h, by injection h with _ h2; injection h2⟩
theorem ex_one {α β : Type} {f : α → β} {L : List α} {a : β} (h : L.map f = [a]) : ∃ x, L = [x] ∧ f x = a := by
  match L, h with
  | [x], h => exact ⟨x, rfl, by injection h⟩
theorem ex_cv {x : ExceptionTableEntry} {a b c d pc : Nat} (h : (x.startPc, x.endPc, x.handlerPc, x.catchType) = (a, b, c, d)) (hp : a ≤ pc ∧ pc < b) (hd : d ≠ 0) : covers x pc = true ∧ x.catchType ≠ 0 ∧ x.handlerPc = c ∧ x.catchType = d := by
  injection h with h1 h2
  injection h2 with h2 h3
  injection h3 with h3 h4
  refine ⟨?_, by rw [h4]; exact hd, h3, h4⟩
  show (decide (x.startPc ≤ pc) && decide (pc < x.endPc)) = true
  rw [h1, h2, decide_eq_true hp.1, decide_eq_true hp.2]
  rfl
theorem ex_sA {U : State} (h : ex_I U) : ∃ cX, U.vm.findClass ex_A = some cX ∧ U.vm.assignable cX cX = true := by
  obtain ⟨c3, cT, h1, h2, h3⟩ := Cond.castable_spec (h (.castable ex_A ex_A) (by decide +kernel))
  cases h1.symm.trans h2
  exact ⟨_, h1, h3⟩
theorem ex_sS {U : State} (h : ex_I U) : ∃ cX, U.vm.findClass ex_S = some cX ∧ U.vm.assignable cX cX = true := by
  obtain ⟨c3, cT, h1, h2, h3⟩ := Cond.castable_spec (h (.castable ex_S ex_S) (by decide +kernel))
  cases h1.symm.trans h2
  exact ⟨_, h1, h3⟩
theorem ex_sB {U : State} (h : ex_I U) : ∃ cX, U.vm.findClass ex_B = some cX ∧ U.vm.assignable cX cX = true := by
  obtain ⟨c3, cT, h1, h2, h3⟩ := Cond.castable_spec (h (.castable ex_B ex_B) (by decide +kernel))
  cases h1.symm.trans h2
  exact ⟨_, h1, h3⟩
theorem ex_k13 : Cond.classLink "BandPainterLaw" 13 ex_A ∈ BIG := by decide +kernel
theorem ex_k15 : Cond.classLink "BandPainterLaw" 15 ex_S ∈ BIG := by decide +kernel
theorem ex_k21 : Cond.classLink "BandPainterLaw" 21 ex_B ∈ BIG := by decide +kernel
abbrev w_La_shape : List Cond := .codeWith y_La_shape method_3_code 5 (some .int) [(0, 10, 13, 13), (0, 10, 17, 15)] :: BIG
abbrev w_La_black : List Cond := .codeWith y_La_black method_4_code 5 (some .int) [(0, 17, 20, 21)] :: BIG
abbrev r_La_shape : Room := { frames := 7, cells := 4, slots := 268, locals := 127 }
abbrev r_La_black : Room := { frames := 7, cells := 2, slots := 40, locals := 149 }
section CL
variable (l : Launch) (dC : Nat → ClassId) (dI : Nat → Nat → Nat) (cA : Nat → ClassId) (A : Nat → Prop) (h : hp_T) (x out sheet shp pil ink clip : Nat) (bf : Nat → Int32)
theorem cl_shapeA (hst : l.stackTraces = false) (w d : Int32) (h_x : h x = some (k_BP bf sheet shp pil ink clip)) (hF : ¬ ((1 ≤ w ∧ w ≤ 128) ∧ 1 ≤ d ∧ d ≤ 128)) : Met l y_La_shape w_La_shape r_La_shape (va_Pc [.ref x, .int w, .int d, .ref out] (hp_IX (gg dC dI cA) A h)) (hp_QW (gg dC dI cA) A hp_mi (fun k h' => k = 1 ∧ h' = h)) 4 268 A := by
  refine tx_enter (by decide) (Nat.le_of_ble_eq_true rfl) ?_
  intro p e s m below meth c ls S hr hlk hexc hB hl
  have hl : lv_has ls 5 [(0, .ref x), (1, .int w), (2, .int d), (3, .ref out)] := hl
  obtain ⟨hI, hX⟩ := hB
  have hJ := hI.J
  have hXm : ∀ U : State, U.heap = s.heap → s.WarmedH U.vm → ex_X U := fun U hU hW => hX.mv hW (fun a cell q => by rw [hU]; exact q)
  obtain ⟨x1, x2, he, h1, h2⟩ := ex_two hexc
  obtain ⟨g1, g2, g3, g4⟩ := ex_cv (pc := 5) h1 (by decide) (by decide)
  refine lv_aload_n S.1 S.2.1 d_La_shape_0 rfl (lv_at hl 3 rfl) ?_
  refine lv_iconst (v := 0) S.1 S.2.1 d_La_shape_1 (by decide) ?_
  refine lv_aload_n S.1 S.2.1 d_La_shape_2 rfl (lv_at hl 0 rfl) ?_
  refine lv_iload_n S.1 S.2.1 d_La_shape_3 rfl (lv_at hl 1 rfl) ?_
  refine lv_iload_n S.1 S.2.1 d_La_shape_4 rfl (lv_at hl 2 rfl) ?_
  refine tx_d1 (mc := 1) (ms := 6) S hJ (ex_sA hX.1) he g1 g2 (by rw [g4]; exact ex_k13) (tx_rV S zz0 (ct_shapeA l hst dC dI cA A h x w d hF) l_La_7 (hJ.preVX hXm [.int w, .int d] h_x rfl) (by decide) rfl hl.1 rfl (nl rfl) d_La_shape_5 (by decide)) (fun xa H' locs' hJ' => ?_)
  rw [g3]
  refine lv_astore (lv' := [(4, .ref xa), (0, .ref x), (1, .int w), (2, .int d), (3, .ref out)]) S.1 S.2.1 d_La_shape_13 hl (by decide) rfl (fun ls hl => ?_)
  refine lv_iconst (v := 1) S.1 S.2.1 d_La_shape_15 (by decide) ?_
  exact hp_retWi S hJ' hr hlk d_La_shape_16 (by decide) ⟨rfl, rfl⟩
theorem cl_shapeS (hst : l.stackTraces = false) (w d : Int32) (h_x : h x = some (k_BP bf sheet shp pil ink clip)) (hw : (1 ≤ w ∧ w ≤ 128) ∧ 1 ≤ d ∧ d ≤ 128) (hF : 64 ≤ bf 6 ∨ ¬ bf 7 + d ≤ 4096) : Met l y_La_shape w_La_shape r_La_shape (va_Pc [.ref x, .int w, .int d, .ref out] (hp_IX (gg dC dI cA) A h)) (hp_QW (gg dC dI cA) A hp_mi (fun k h' => k = 2 ∧ h' = h)) 4 268 A := by
  refine tx_enter (by decide) (Nat.le_of_ble_eq_true rfl) ?_
  intro p e s m below meth c ls S hr hlk hexc hB hl
  have hl : lv_has ls 5 [(0, .ref x), (1, .int w), (2, .int d), (3, .ref out)] := hl
  obtain ⟨hI, hX⟩ := hB
  have hJ := hI.J
  have hXm : ∀ U : State, U.heap = s.heap → s.WarmedH U.vm → ex_X U := fun U hU hW => hX.mv hW (fun a cell q => by rw [hU]; exact q)
  obtain ⟨x1, x2, he, h1, h2⟩ := ex_two hexc
  obtain ⟨g1, g2, g3, g4⟩ := ex_cv (pc := 5) h1 (by decide) (by decide)
  obtain ⟨k1, k2, k3, k4⟩ := ex_cv (pc := 5) h2 (by decide) (by decide)
  have hcast : ∃ cX cT, s.vm.findClass ex_S = some cX ∧ s.vm.findClass ex_A = some cT ∧ s.vm.assignable cX cT = false ∧ s.vm.assignable cX cX = true := by
    obtain ⟨cS, cA', q1, q2, q3⟩ := hX.2.1
    obtain ⟨cX, q4, q5⟩ := ex_sS hX.1
    cases q1.symm.trans q4
    exact ⟨_, _, q1, q2, q3, q5⟩
  refine lv_aload_n S.1 S.2.1 d_La_shape_0 rfl (lv_at hl 3 rfl) ?_
  refine lv_iconst (v := 0) S.1 S.2.1 d_La_shape_1 (by decide) ?_
  refine lv_aload_n S.1 S.2.1 d_La_shape_2 rfl (lv_at hl 0 rfl) ?_
  refine lv_iload_n S.1 S.2.1 d_La_shape_3 rfl (lv_at hl 1 rfl) ?_
  refine lv_iload_n S.1 S.2.1 d_La_shape_4 rfl (lv_at hl 2 rfl) ?_
  refine tx_d2 (mc := 1) (ms := 6) S hJ hcast he g1 g2 (by rw [g4]; exact ex_k13) k1 k2 (by rw [k4]; exact ex_k15) (tx_rV S zz0 (ct_shapeS l hst dC dI cA A h x sheet shp pil ink clip bf w d h_x hw hF) l_La_7 (hJ.preVX hXm [.int w, .int d] h_x rfl) (by decide) rfl hl.1 rfl (nl rfl) d_La_shape_5 (by decide)) (fun xa H' locs' hJ' => ?_)
  rw [k3]
  refine lv_astore (lv' := [(4, .ref xa), (0, .ref x), (1, .int w), (2, .int d), (3, .ref out)]) S.1 S.2.1 d_La_shape_17 hl (by decide) rfl (fun ls hl => ?_)
  refine lv_iconst (v := 2) S.1 S.2.1 d_La_shape_19 (by decide) ?_
  exact hp_retWi S hJ' hr hlk d_La_shape_20 (by decide) ⟨rfl, rfl⟩
theorem cl_shape0 (w d : Int32) (h_x : h x = some (k_BP bf sheet shp pil ink clip)) {P : Int32 → hp_T → Prop} (hM : Met l y_BP_shape (.code y_BP_shape prog_1_method_2_code 4 (some .int) :: BIG) ({ frames := 5, cells := 4, slots := 268, locals := 104 }) (va_Pc [.ref x, .int w, .int d] (hp_I (gg dC dI cA) A h)) (hp_QW (gg dC dI cA) A hp_mi P) 4 268 A) (hP : ∀ r h1, P r h1 → ∃ fo, h1 out = some (k_lo (cA 1) 1 fo)) : Met l y_La_shape w_La_shape r_La_shape (va_Pc [.ref x, .int w, .int d, .ref out] (hp_IX (gg dC dI cA) A h)) (hp_QW (gg dC dI cA) A hp_mi (fun k h' => k = 0 ∧ ∃ r h1 fo, P r h1 ∧ h1 out = some (k_lo (cA 1) 1 fo) ∧ h' = hp_up h1 out (k_lo (cA 1) 1 (vp_updL fo 0 r.toInt64)))) 4 268 A := by
  refine tx_enter (by decide) (Nat.le_of_ble_eq_true rfl) ?_
  intro p e s m below meth c ls S hr hlk hexc hB hl
  have hl : lv_has ls 5 [(0, .ref x), (1, .int w), (2, .int d), (3, .ref out)] := hl
  obtain ⟨hI, hX⟩ := hB
  have hJ := hI.J
  refine lv_aload_n S.1 S.2.1 d_La_shape_0 rfl (lv_at hl 3 rfl) ?_
  refine lv_iconst (v := 0) S.1 S.2.1 d_La_shape_1 (by decide) ?_
  refine lv_aload_n S.1 S.2.1 d_La_shape_2 rfl (lv_at hl 0 rfl) ?_
  refine lv_iload_n S.1 S.2.1 d_La_shape_3 rfl (lv_at hl 1 rfl) ?_
  refine lv_iload_n S.1 S.2.1 d_La_shape_4 rfl (lv_at hl 2 rfl) ?_
  refine hp_doneWi hJ (hp_runV S zz0 hM l_La_7 (hJ.preV [.int w, .int d] h_x rfl) (by decide) rfl hl.1 rfl (nl rfl) d_La_shape_5 (by decide)) (fun r h1 H1 locs1 hp1 hJ1 => ?_)
  obtain ⟨fo, h_o⟩ := hP r h1 hp1
  refine lv_i2l S.1 S.2.1 d_La_shape_8 rfl ?_
  refine hp_last S hJ1 1 h_o rfl (vp_in_nI (n := 0) (by decide) (by decide)) d_La_shape_9 (fun H2 locs2 hJ2 => ?_)
  refine lv_goto (tgt := 21) S.1 S.2.1 d_La_shape_10 (by decide) ?_
  refine lv_iconst (v := 0) S.1 S.2.1 d_La_shape_21 (by decide) ?_
  exact hp_retWi S hJ2 hr hlk d_La_shape_22 (by decide) ⟨rfl, r, h1, fo, hp1, h_o, rfl⟩
theorem cl_blackB (hst : l.stackTraces = false) (px py : Int32) (h_x : h x = some (k_BP bf sheet shp pil ink clip)) (hF : ¬ ((0 ≤ px ∧ px ≤ bf 0 - 1) ∧ 0 ≤ py ∧ py ≤ bf 1 - 1)) : Met l y_La_black w_La_black r_La_black (va_Pc [.ref x, .int px, .int py, .ref out] (hp_IX (gg dC dI cA) A h)) (hp_QW (gg dC dI cA) A hp_mi (fun k h' => k = 1 ∧ h' = h)) 2 40 A := by
  refine tx_enter (by decide) (Nat.le_of_ble_eq_true rfl) ?_
  intro p e s m below meth c ls S hr hlk hexc hB hl
  have hl : lv_has ls 5 [(0, .ref x), (1, .int px), (2, .int py), (3, .ref out)] := hl
  obtain ⟨hI, hX⟩ := hB
  have hJ := hI.J
  have hXm : ∀ U : State, U.heap = s.heap → s.WarmedH U.vm → ex_X U := fun U hU hW => hX.mv hW (fun a cell q => by rw [hU]; exact q)
  obtain ⟨x1, he, h1⟩ := ex_one hexc
  obtain ⟨g1, g2, g3, g4⟩ := ex_cv (pc := 5) h1 (by decide) (by decide)
  refine lv_aload_n S.1 S.2.1 d_La_black_0 rfl (lv_at hl 3 rfl) ?_
  refine lv_iconst (v := 0) S.1 S.2.1 d_La_black_1 (by decide) ?_
  refine lv_aload_n S.1 S.2.1 d_La_black_2 rfl (lv_at hl 0 rfl) ?_
  refine lv_iload_n S.1 S.2.1 d_La_black_3 rfl (lv_at hl 1 rfl) ?_
  refine lv_iload_n S.1 S.2.1 d_La_black_4 rfl (lv_at hl 2 rfl) ?_
  refine tx_d1 (mc := 1) (ms := 6) S hJ (ex_sB hX.1) he g1 g2 (by rw [g4]; exact ex_k21) (tx_rV S zz0 (ct_black l hst dC dI cA A h x sheet shp pil ink clip bf px py h_x hF) l_La_17 (hJ.preVX hXm [.int px, .int py] h_x rfl) (by decide) rfl hl.1 rfl (nl rfl) d_La_black_5 (by decide)) (fun xa H' locs' hJ' => ?_)
  rw [g3]
  refine lv_astore (lv' := [(4, .ref xa), (0, .ref x), (1, .int px), (2, .int py), (3, .ref out)]) S.1 S.2.1 d_La_black_20 hl (by decide) rfl (fun ls hl => ?_)
  refine lv_iconst (v := 1) S.1 S.2.1 d_La_black_22 (by decide) ?_
  exact hp_retWi S hJ' hr hlk d_La_black_23 (by decide) ⟨rfl, rfl⟩
theorem cl_black0 (px py : Int32) (h_x : h x = some (k_BP bf sheet shp pil ink clip)) {P : Int32 → hp_T → Prop} (hM : Met l y_BP_black (.code y_BP_black prog_1_method_13_code 3 (some .boolean) :: BIG) ({ frames := 5, cells := 2, slots := 40, locals := 127 }) (va_Pc [.ref x, .int px, .int py] (hp_I (gg dC dI cA) A h)) (hp_QW (gg dC dI cA) A hp_mi P) 2 40 A) (hP : ∀ r h1, P r h1 → ∃ fo, h1 out = some (k_lo (cA 1) 1 fo)) : Met l y_La_black w_La_black r_La_black (va_Pc [.ref x, .int px, .int py, .ref out] (hp_IX (gg dC dI cA) A h)) (hp_QW (gg dC dI cA) A hp_mi (fun k h' => k = 0 ∧ ∃ r h1 fo, P r h1 ∧ h1 out = some (k_lo (cA 1) 1 fo) ∧ h' = hp_up h1 out (k_lo (cA 1) 1 (vp_updL fo 0 (if r = 0 then 0 else 1))))) 2 40 A := by
  refine tx_enter (by decide) (Nat.le_of_ble_eq_true rfl) ?_
  intro p e s m below meth c ls S hr hlk hexc hB hl
  have hl : lv_has ls 5 [(0, .ref x), (1, .int px), (2, .int py), (3, .ref out)] := hl
  obtain ⟨hI, hX⟩ := hB
  have hJ := hI.J
  refine lv_aload_n S.1 S.2.1 d_La_black_0 rfl (lv_at hl 3 rfl) ?_
  refine lv_iconst (v := 0) S.1 S.2.1 d_La_black_1 (by decide) ?_
  refine lv_aload_n S.1 S.2.1 d_La_black_2 rfl (lv_at hl 0 rfl) ?_
  refine lv_iload_n S.1 S.2.1 d_La_black_3 rfl (lv_at hl 1 rfl) ?_
  refine lv_iload_n S.1 S.2.1 d_La_black_4 rfl (lv_at hl 2 rfl) ?_
  refine hp_doneWi hJ (hp_runV S zz0 hM l_La_17 (hJ.preV [.int px, .int py] h_x rfl) (by decide) rfl hl.1 rfl (nl rfl) d_La_black_5 (by decide)) (fun r h1 H1 locs1 hp1 hJ1 => ?_)
  obtain ⟨fo, h_o⟩ := hP r h1 hp1
  refine lv_if_eq (tgt := 15) S.1 S.2.1 d_La_black_8 (by decide) (fun q => ?_) (fun q => ?_)
  · refine lv_lconst (v := 0) S.1 S.2.1 d_La_black_15 (by decide) ?_
    refine hp_last S hJ1 1 h_o rfl (vp_in_nI (n := 0) (by decide) (by decide)) d_La_black_16 (fun H2 locs2 hJ2 => ?_)
    refine lv_goto (tgt := 24) S.1 S.2.1 d_La_black_17 (by decide) ?_
    refine lv_iconst (v := 0) S.1 S.2.1 d_La_black_24 (by decide) ?_
    exact hp_retWi S hJ2 hr hlk d_La_black_25 (by decide) ⟨rfl, r, h1, fo, hp1, h_o, by rw [if_pos q]; rfl⟩
  · refine lv_lconst (v := 1) S.1 S.2.1 d_La_black_11 (by decide) ?_
    refine lv_goto (tgt := 16) S.1 S.2.1 d_La_black_12 (by decide) ?_
    refine hp_last S hJ1 1 h_o rfl (vp_in_nI (n := 0) (by decide) (by decide)) d_La_black_16 (fun H2 locs2 hJ2 => ?_)
    refine lv_goto (tgt := 24) S.1 S.2.1 d_La_black_17 (by decide) ?_
    refine lv_iconst (v := 0) S.1 S.2.1 d_La_black_24 (by decide) ?_
    exact hp_retWi S hJ2 hr hlk d_La_black_25 (by decide) ⟨rfl, r, h1, fo, hp1, h_o, by rw [if_neg q]; rfl⟩
end CL
