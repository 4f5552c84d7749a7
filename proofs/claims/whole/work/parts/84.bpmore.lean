/-! The painter: draw, of, line, rule. -/

set_option maxHeartbeats 4000000 in
set_option maxRecDepth 100000 in
theorem cN_BP_draw (l : Launch) (dC : Nat → ClassId) (dI : Nat → Nat → Nat) (cA : Nat → ClassId) (A : Nat → Prop) (h : hp_T) (x sheet shp pil ink clip : Nat) (bf : Nat → Int32) (s9 j : Int32) (left right : Int64) (h_x : h x = some (k_BP bf sheet shp pil ink clip)) (hF : ¬ (0 ≤ s9 ∧ s9 ≤ bf 6 - 1)) : Met l y_BP_draw (.code y_BP_draw prog_1_method_3_code 8 (some .boolean) :: BIG) ({ frames := 4, cells := 0, slots := 0, locals := 97 }) (va_Pc [.ref x, .int s9, .int j, .long left, .long right] (hp_I (gg dC dI cA) A h)) (hp_QW (gg dC dI cA) A hp_mi (fun r h' => r = 0 ∧ h' = h)) 0 0 A := by
  refine hp_enter (by decide) (Nat.le_of_ble_eq_true rfl) ?_
  intro p e s m below meth c ls S hr hlk hin hI hl
  have hl : lv_has ls 8 [(0, .ref x), (1, .int s9), (2, .int j), (3, .long left), (5, .long right)] := hl
  have hJ := hI.J
  refine lv_aload_n S.1 S.2.1 d_BP_draw_0 rfl (lv_at hl 0 rfl) ?_
  refine lv_iload_n S.1 S.2.1 d_BP_draw_1 rfl (lv_at hl 1 rfl) ?_
  refine hp_doneR (hp_runV S zz0 (cN_BP_shapeOf l dC dI cA A _ x sheet shp pil ink clip bf s9 h_x hF) l_BP_82 (hJ.preV _ h_x rfl) (by decide) rfl hl.1 rfl (nl rfl) d_BP_draw_2 (by decide)) ?_
  refine lv_astoreN (lv' := [(7, .null), (0, .ref x), (1, .int s9), (2, .int j), (3, .long left), (5, .long right)]) S.1 S.2.1 d_BP_draw_5 hl (by decide) rfl (fun ls hl => ?_)
  refine lv_aloadN S.1 S.2.1 d_BP_draw_7 (lv_at hl 0 rfl) ?_
  refine lv_ifnullN (tgt := 38) S.1 S.2.1 d_BP_draw_9 (by decide) ?_
  refine lv_iconst (v := 0) S.1 S.2.1 d_BP_draw_38 (by decide) ?_
  exact hp_retWz S hJ hr hlk d_BP_draw_39 (by decide) (by decide) ⟨rfl, rfl⟩

set_option maxHeartbeats 4000000 in
set_option maxRecDepth 100000 in
theorem cS_BP_draw (l : Launch) (dC : Nat → ClassId) (dI : Nat → Nat → Nat) (cA : Nat → ClassId) (A : Nat → Prop) (h : hp_T) (x sheet shp pil ink clip : Nat) (bf : Nat → Int32) (ss q up ta b : Nat) (go : Nat → Option Nat) (sd w d tl wd : Int32) (n : Nat) (f : Nat → Int64) (g : Nat → Option Nat) (j : Int32) (left right : Int64) (h_x : h x = some (k_BP bf sheet shp pil ink clip)) (hF : 0 ≤ nI ss ∧ nI ss ≤ bf 6 - 1) (hs : ss < 64) (hg : go ss = some q) (h_shp : h shp = some (k_rf (cA 3) 64 go)) (h_q : h q = some (k_Sh up ta sd)) (h_up : h up = some (k_Pc w d tl wd b)) (h_b : h b = some (k_lo (cA 1) n f)) (h_ta : h ta = some (k_rf (cA 4) 4 g)) (hix : ∀ j k : Int32, 0 ≤ j ∧ j < d ∧ 0 ≤ k ∧ k < wd → vp_in (j * wd + k) n) : Met l y_BP_draw (.code y_BP_draw prog_1_method_3_code 8 (some .boolean) :: BIG) ({ frames := 4, cells := 0, slots := 0, locals := 97 }) (va_Pc [.ref x, .int (nI ss), .int j, .long left, .long right] (hp_I (gg dC dI cA) A h)) (hp_QW (gg dC dI cA) A hp_mi (fun r h' => (¬ (sd = 0 ∧ 0 ≤ j ∧ j ≤ d - 1) ∧ r = 0 ∧ h' = h) ∨ ((sd = 0 ∧ 0 ≤ j ∧ j ≤ d - 1) ∧ r = 1 ∧ h' = hp_up (hp_up h b (k_lo (cA 1) n (q_sd d wd w f j left right))) ta (k_rf (cA 4) 4 (q_n4 g))))) 0 0 A := by
  refine hp_enter (by decide) (Nat.le_of_ble_eq_true rfl) ?_
  intro p e s m below meth c ls S hr hlk hin hI hl
  have hl : lv_has ls 8 [(0, .ref x), (1, .int (nI ss)), (2, .int j), (3, .long left), (5, .long right)] := hl
  have hJ := hI.J
  refine lv_aload_n S.1 S.2.1 d_BP_draw_0 rfl (lv_at hl 0 rfl) ?_
  refine lv_iload_n S.1 S.2.1 d_BP_draw_1 rfl (lv_at hl 1 rfl) ?_
  refine hp_doneR (hp_runV S zz0 (cS_BP_shapeOf l dC dI cA A _ x sheet shp pil ink clip bf ss q go h_x hF hs hg h_shp) l_BP_82 (hJ.preV _ h_x rfl) (by decide) rfl hl.1 rfl (nl rfl) d_BP_draw_2 (by decide)) ?_
  refine lv_astore (lv' := [(7, .ref q), (0, .ref x), (1, .int (nI ss)), (2, .int j), (3, .long left), (5, .long right)]) S.1 S.2.1 d_BP_draw_5 hl (by decide) rfl (fun ls hl => ?_)
  refine lv_aload S.1 S.2.1 d_BP_draw_7 (lv_at hl 0 rfl) ?_
  refine lv_ifnull S.1 S.2.1 d_BP_draw_9 ?_
  refine lv_aload S.1 S.2.1 d_BP_draw_12 (lv_at hl 0 rfl) ?_
  refine hp_get S zz hJ h_q f_BP_86 rfl d_BP_draw_14 ?_
  refine lv_if_ne (tgt := 38) S.1 S.2.1 d_BP_draw_17 (by decide) (fun c_17 => ?_) (fun c_17 => ?_)
  · refine lv_iconst (v := 0) S.1 S.2.1 d_BP_draw_38 (by decide) ?_
    exact hp_retWz S hJ hr hlk d_BP_draw_39 (by decide) (by decide) (Or.inl ⟨fun z => c_17 z.1, rfl, rfl⟩)
  · refine lv_iconst (v := 0) S.1 S.2.1 d_BP_draw_20 (by decide) ?_
    refine lv_iload_n S.1 S.2.1 d_BP_draw_21 rfl (lv_at hl 3 rfl) ?_
    refine lv_aload S.1 S.2.1 d_BP_draw_22 (lv_at hl 0 rfl) ?_
    refine hp_get S zz hJ h_q f_BP_90 rfl d_BP_draw_24 ?_
    refine hp_get S zz hJ h_up f_BP_94 rfl d_BP_draw_27 ?_
    refine lv_iconst (v := 1) S.1 S.2.1 d_BP_draw_30 (by decide) ?_
    refine lv_isub S.1 S.2.1 d_BP_draw_31 ?_
    refine hp_doneR (hp_runS S zz0 (c_BP_isWithin l _ _ _) l_BP_59 (hp_pre0 _) (by decide) rfl hl.1 rfl (nl rfl) d_BP_draw_32 (by decide)) ?_
    refine lv_if_ne (tgt := 40) S.1 S.2.1 d_BP_draw_35 (by decide) (fun c_35 => ?_) (fun c_35 => ?_)
    · refine lv_aload S.1 S.2.1 d_BP_draw_40 (lv_at hl 0 rfl) ?_
      refine lv_iload_n S.1 S.2.1 d_BP_draw_42 rfl (lv_at hl 3 rfl) ?_
      refine lv_lload_n S.1 S.2.1 d_BP_draw_43 rfl (lv_at hl 4 rfl) ?_
      refine lv_lload S.1 S.2.1 d_BP_draw_44 (lv_at hl 5 rfl) ?_
      refine hp_doneWv hJ (hp_runV S zz0 (c_Sh_redraw l dC dI cA A _ q up ta b sd w d tl wd n f g j left right h_q h_up h_b h_ta hix) l_BP_99 (hJ.preV _ h_q rfl) (by decide) rfl hl.1 rfl (nl rfl) d_BP_draw_46 (by decide)) (fun h9 H locs eh9 hJ => ?_)
      refine lv_iconst (v := 1) S.1 S.2.1 d_BP_draw_49 (by decide) ?_
      exact hp_retWz S hJ hr hlk d_BP_draw_50 (by decide) (by decide) (Or.inr ⟨⟨c_17, (q_is_ne.mp c_35).1, (q_is_ne.mp c_35).2⟩, rfl, eh9⟩)
    · refine lv_iconst (v := 0) S.1 S.2.1 d_BP_draw_38 (by decide) ?_
      exact hp_retWz S hJ hr hlk d_BP_draw_39 (by decide) (by decide) (Or.inl ⟨fun z => q_is_0.mp c_35 ⟨z.2.1, z.2.2⟩, rfl, rfl⟩)

set_option maxHeartbeats 4000000 in
set_option maxRecDepth 100000 in
theorem cN_BP_of (l : Launch) (dC : Nat → ClassId) (dI : Nat → Nat → Nat) (cA : Nat → ClassId) (A : Nat → Prop) (h : hp_T) (x sheet shp pil ink clip : Nat) (bf : Nat → Int32) (s9 wh : Int32) (h_x : h x = some (k_BP bf sheet shp pil ink clip)) (hF : ¬ (0 ≤ s9 ∧ s9 ≤ bf 6 - 1)) : Met l y_BP_of (.code y_BP_of prog_1_method_16_code 4 (some .int) :: BIG) ({ frames := 2, cells := 0, slots := 0, locals := 43 }) (va_Pc [.ref x, .int s9, .int wh] (hp_I (gg dC dI cA) A h)) (hp_QR (some (.int (-1)))) 0 0 (fun _ => False) := by
  refine hp_enter (by decide) (Nat.le_of_ble_eq_true rfl) ?_
  intro p e s m below meth c ls S hr hlk hin hI hl
  have hl : lv_has ls 4 [(0, .ref x), (1, .int s9), (2, .int wh)] := hl
  have hJ := hI.J
  refine lv_aload_n S.1 S.2.1 d_BP_of_0 rfl (lv_at hl 0 rfl) ?_
  refine lv_iload_n S.1 S.2.1 d_BP_of_1 rfl (lv_at hl 1 rfl) ?_
  refine hp_doneR (hp_runV S zz0 (cN_BP_shapeOf l dC dI cA A _ x sheet shp pil ink clip bf s9 h_x hF) l_BP_82 (hJ.preV _ h_x rfl) (by decide) rfl hl.1 rfl (nl rfl) d_BP_of_2 (by decide)) ?_
  refine lv_astore_nN (lv' := [(3, .null), (0, .ref x), (1, .int s9), (2, .int wh)]) S.1 S.2.1 d_BP_of_5 rfl hl (by decide) rfl (fun ls hl => ?_)
  refine lv_aload_nN S.1 S.2.1 d_BP_of_6 rfl (lv_at hl 0 rfl) ?_
  refine lv_ifnonnullN S.1 S.2.1 d_BP_of_7 ?_
  refine lv_iconst (v := (-1)) S.1 S.2.1 d_BP_of_10 (by decide) ?_
  exact hp_retRi S hr hlk d_BP_of_11 rfl

def q_ob (w d sd : Int32) (f : Nat → Int64) (n : Nat) (wh : Int32) : Int32 := if wh = 0 then w else if wh = 1 then d else if wh = 2 then q_bs f n else if wh = 3 then q_is (¬ sd = 0) else -1
set_option maxHeartbeats 4000000 in
set_option maxRecDepth 100000 in
theorem cS_BP_of (l : Launch) (dC : Nat → ClassId) (dI : Nat → Nat → Nat) (cA : Nat → ClassId) (A : Nat → Prop) (h : hp_T) (x sheet shp pil ink clip : Nat) (bf : Nat → Int32) (ss q up ta b : Nat) (go : Nat → Option Nat) (sd w d tl wd : Int32) (n : Nat) (f : Nat → Int64) (g : Nat → Option Nat) (wh : Int32) (h_x : h x = some (k_BP bf sheet shp pil ink clip)) (hF : 0 ≤ nI ss ∧ nI ss ≤ bf 6 - 1) (hs : ss < 64) (hg : go ss = some q) (h_shp : h shp = some (k_rf (cA 3) 64 go)) (h_q : h q = some (k_Sh up ta sd)) (h_up : h up = some (k_Pc w d tl wd b)) (h_b : h b = some (k_lo (cA 1) n f)) (h_ta : h ta = some (k_rf (cA 4) 4 g)) (hix : ∀ j k : Int32, 0 ≤ j ∧ j < d ∧ 0 ≤ k ∧ k < wd → vp_in (j * wd + k) n) (hn : n ≤ 65536) : Met l y_BP_of (.code y_BP_of prog_1_method_16_code 4 (some .int) :: BIG) ({ frames := 2, cells := 0, slots := 0, locals := 43 }) (va_Pc [.ref x, .int (nI ss), .int wh] (hp_I (gg dC dI cA) A h)) (hp_QR (some (.int (q_ob w d sd f n wh)))) 0 0 (fun _ => False) := by
  refine hp_enter (by decide) (Nat.le_of_ble_eq_true rfl) ?_
  intro p e s m below meth c ls S hr hlk hin hI hl
  have hl : lv_has ls 4 [(0, .ref x), (1, .int (nI ss)), (2, .int wh)] := hl
  have hJ := hI.J
  refine lv_aload_n S.1 S.2.1 d_BP_of_0 rfl (lv_at hl 0 rfl) ?_
  refine lv_iload_n S.1 S.2.1 d_BP_of_1 rfl (lv_at hl 1 rfl) ?_
  refine hp_doneR (hp_runV S zz0 (cS_BP_shapeOf l dC dI cA A _ x sheet shp pil ink clip bf ss q go h_x hF hs hg h_shp) l_BP_82 (hJ.preV _ h_x rfl) (by decide) rfl hl.1 rfl (nl rfl) d_BP_of_2 (by decide)) ?_
  refine lv_astore_n (lv' := [(3, .ref q), (0, .ref x), (1, .int (nI ss)), (2, .int wh)]) S.1 S.2.1 d_BP_of_5 rfl hl (by decide) rfl (fun ls hl => ?_)
  refine lv_aload_n S.1 S.2.1 d_BP_of_6 rfl (lv_at hl 0 rfl) ?_
  refine lv_ifnonnull (tgt := 12) S.1 S.2.1 d_BP_of_7 (by decide) ?_
  refine lv_iload_n S.1 S.2.1 d_BP_of_12 rfl (lv_at hl 3 rfl) ?_
  by_cases k_0 : wh = 0
  · refine lv_tableIn (off := 31) (tgt := 44) S.1 S.2.1 d_BP_of_13 (by rw [k_0]; decide) (by rw [k_0]; decide) (by rw [k_0]; rfl) (by decide) ?_
    refine lv_aload_n S.1 S.2.1 d_BP_of_44 rfl (lv_at hl 0 rfl) ?_
    refine hp_get S zz hJ h_q f_BP_90 rfl d_BP_of_45 ?_
    refine hp_get S zz hJ h_up f_BP_127 rfl d_BP_of_48 ?_
    exact hp_retRi S hr hlk d_BP_of_51 (by unfold q_ob; rw [if_pos k_0])
  · by_cases k_1 : wh = 1
    · refine lv_tableIn (off := 39) (tgt := 52) S.1 S.2.1 d_BP_of_13 (by rw [k_1]; decide) (by rw [k_1]; decide) (by rw [k_1]; rfl) (by decide) ?_
      refine lv_aload_n S.1 S.2.1 d_BP_of_52 rfl (lv_at hl 0 rfl) ?_
      refine hp_get S zz hJ h_q f_BP_90 rfl d_BP_of_53 ?_
      refine hp_get S zz hJ h_up f_BP_94 rfl d_BP_of_56 ?_
      exact hp_retRi S hr hlk d_BP_of_59 (by unfold q_ob; rw [if_neg k_0, if_pos k_1])
    · by_cases k_2 : wh = 2
      · refine lv_tableIn (off := 47) (tgt := 60) S.1 S.2.1 d_BP_of_13 (by rw [k_2]; decide) (by rw [k_2]; decide) (by rw [k_2]; rfl) (by decide) ?_
        refine lv_aload_n S.1 S.2.1 d_BP_of_60 rfl (lv_at hl 0 rfl) ?_
        refine hp_get S zz hJ h_q f_BP_90 rfl d_BP_of_61 ?_
        refine hp_doneR (hp_runV S zz0 (c_Pc_blacks l dC dI cA A _ up b w d tl wd n f hn h_up h_b) l_BP_175 (hJ.preV _ h_up rfl) (by decide) rfl hl.1 rfl (nl rfl) d_BP_of_64 (by decide)) ?_
        exact hp_retRi S hr hlk d_BP_of_67 (by unfold q_ob; rw [if_neg k_0, if_neg k_1, if_pos k_2])
      · by_cases k_3 : wh = 3
        · refine lv_tableIn (off := 55) (tgt := 68) S.1 S.2.1 d_BP_of_13 (by rw [k_3]; decide) (by rw [k_3]; decide) (by rw [k_3]; rfl) (by decide) ?_
          refine lv_aload_n S.1 S.2.1 d_BP_of_68 rfl (lv_at hl 0 rfl) ?_
          refine hp_get S zz hJ h_q f_BP_86 rfl d_BP_of_69 ?_
          refine hp_doneR (hp_runS S zz0 (c_BP_oneIf l _) l_BP_179 (hp_pre0 _) (by decide) rfl hl.1 rfl (nl rfl) d_BP_of_72 (by decide)) ?_
          exact hp_retRi S hr hlk d_BP_of_75 (by unfold q_ob; rw [if_neg k_0, if_neg k_1, if_neg k_2, if_pos k_3])
        · have n_0 : ¬ wh.toInt = 0 := lv_neT k_0 rfl
          have n_1 : ¬ wh.toInt = 1 := lv_neT k_1 rfl
          have n_2 : ¬ wh.toInt = 2 := lv_neT k_2 rfl
          have n_3 : ¬ wh.toInt = 3 := lv_neT k_3 rfl
          refine lv_tableOut (tgt := 76) S.1 S.2.1 d_BP_of_13 (by omega) (by decide) ?_
          refine lv_iconst (v := (-1)) S.1 S.2.1 d_BP_of_76 (by decide) ?_
          exact hp_retRi S hr hlk d_BP_of_77 (by unfold q_ob; rw [if_neg k_0, if_neg k_1, if_neg k_2, if_neg k_3])

set_option maxHeartbeats 4000000 in
set_option maxRecDepth 100000 in
theorem c_BP_line (l : Launch) (dC : Nat → ClassId) (dI : Nat → Nat → Nat) (cA : Nat → ClassId) (A : Nat → Prop) (h : hp_T) (x sheet shp pil ink clip : Nat) (bf : Nat → Int32) (bl st n : Nat) (sz : Int32) (as : List Nat) (D : Nat → mD) (bol : Nat → Option Nat) (B : Nat → Int32 × Int32 × Int32 × Int32) (FI : Nat → Nat → Int64) (PI : Nat → Option pI) (y k : Int32) (h_x : h x = some (k_BP bf sheet shp pil ink clip)) (hnd : as.Nodup) (hm : mc h D bol as) (hok : ∀ a ∈ as, mk_ok h (cA 1) (D a) (B a) (FI a) (PI a)) (h_pil : h pil = some (k_Pl (nI n) bl st sz as.head?)) : Met l y_BP_line (.code y_BP_line prog_1_method_12_code 3 (some .long) :: BIG) ({ frames := 5, cells := 0, slots := 0, locals := 127 }) (va_Pc [.ref x, .int y, .int k] (hp_I (gg dC dI cA) A h)) (hp_QW (gg dC dI cA) A hp_ml (fun r h' => (¬ ((0 ≤ y ∧ y ≤ bf 1 - 1) ∧ (0 ≤ k ∧ k ≤ (bf 0 - 1) / 64)) ∧ r = 0 ∧ h' = h) ∨ (((0 ≤ y ∧ y ≤ bf 1 - 1) ∧ (0 ≤ k ∧ k ≤ (bf 0 - 1) / 64)) ∧ r = q_wu (q_X D B FI PI y k) (as.filter (q_me B y)) (-1) 0 ∧ ∃ bol', mc h' D bol' as ∧ ∀ a, a ∉ as → h' a = h a))) 0 0 A := by
  refine hp_enter (by decide) (Nat.le_of_ble_eq_true rfl) ?_
  intro p e s m below meth c ls S hr hlk hin hI hl
  have hl : lv_has ls 3 [(0, .ref x), (1, .int y), (2, .int k)] := hl
  have hJ := hI.J
  refine lv_iconst (v := 0) S.1 S.2.1 d_BP_line_0 (by decide) ?_
  refine lv_iload_n S.1 S.2.1 d_BP_line_1 rfl (lv_at hl 1 rfl) ?_
  refine lv_aload_n S.1 S.2.1 d_BP_line_2 rfl (lv_at hl 0 rfl) ?_
  refine hp_get S zz hJ h_x f_BP_17 rfl d_BP_line_3 ?_
  refine lv_iconst (v := 1) S.1 S.2.1 d_BP_line_6 (by decide) ?_
  refine lv_isub S.1 S.2.1 d_BP_line_7 ?_
  refine hp_doneR (hp_runS S zz0 (c_BP_isWithin l _ _ _) l_BP_59 (hp_pre0 _) (by decide) rfl hl.1 rfl (nl rfl) d_BP_line_8 (by decide)) ?_
  refine lv_if_eq (tgt := 31) S.1 S.2.1 d_BP_line_11 (by decide) (fun c_11 => ?_) (fun c_11 => ?_)
  · refine lv_lconst (v := 0) S.1 S.2.1 d_BP_line_31 (by decide) ?_
    exact hp_retWl S hJ hr hlk d_BP_line_32 (by decide) (Or.inl ⟨fun z => q_is_0.mp c_11 z.1, rfl, rfl⟩)
  · refine lv_iconst (v := 0) S.1 S.2.1 d_BP_line_14 (by decide) ?_
    refine lv_iload_n S.1 S.2.1 d_BP_line_15 rfl (lv_at hl 2 rfl) ?_
    refine lv_aload_n S.1 S.2.1 d_BP_line_16 rfl (lv_at hl 0 rfl) ?_
    refine hp_get S zz hJ h_x f_BP_13 rfl d_BP_line_17 ?_
    refine lv_iconst (v := 1) S.1 S.2.1 d_BP_line_20 (by decide) ?_
    refine lv_isub S.1 S.2.1 d_BP_line_21 ?_
    refine lv_bipush (v := 64) S.1 S.2.1 d_BP_line_22 (by decide) ?_
    refine lv_idiv S.1 S.2.1 d_BP_line_24 (by decide) ?_
    refine hp_doneR (hp_runS S zz0 (c_BP_isWithin l _ _ _) l_BP_59 (hp_pre0 _) (by decide) rfl hl.1 rfl (nl rfl) d_BP_line_25 (by decide)) ?_
    refine lv_if_ne (tgt := 33) S.1 S.2.1 d_BP_line_28 (by decide) (fun c_28 => ?_) (fun c_28 => ?_)
    · refine lv_aload_n S.1 S.2.1 d_BP_line_33 rfl (lv_at hl 0 rfl) ?_
      refine hp_get S zz hJ h_x f_BP_43 rfl d_BP_line_34 ?_
      refine lv_iload_n S.1 S.2.1 d_BP_line_37 rfl (lv_at hl 1 rfl) ?_
      refine lv_iload_n S.1 S.2.1 d_BP_line_38 rfl (lv_at hl 2 rfl) ?_
      refine hp_doneWl hJ (hp_runV S zz0 (c_Pl_wordOf l dC dI cA A _ pil bl st n sz as D bol B FI PI y k hnd hm hok h_pil) l_BP_151 (hJ.preV _ h_pil rfl) (by decide) rfl hl.1 rfl (nl rfl) d_BP_line_39 (by decide)) (fun r9 h9 H locs eh9 hJ => ?_)
      exact hp_retWl S hJ hr hlk d_BP_line_42 (by decide) (Or.inr ⟨⟨q_is_ne.mp c_11, q_is_ne.mp c_28⟩, eh9⟩)
    · refine lv_lconst (v := 0) S.1 S.2.1 d_BP_line_31 (by decide) ?_
      exact hp_retWl S hJ hr hlk d_BP_line_32 (by decide) (Or.inl ⟨fun z => q_is_0.mp c_28 z.2, rfl, rfl⟩)

set_option maxHeartbeats 4000000 in
set_option maxRecDepth 100000 in
theorem c_BP_rule (l : Launch) (dC : Nat → ClassId) (dI : Nat → Nat → Nat) (cA : Nat → ClassId) (A : Nat → Prop) (h : hp_T) (x sheet shp pil ink clip : Nat) (bf : Nat → Int32) (bl st n : Nat) (sz w d px py c0 c1 c2 c3 : Int32) (nw : Option Nat) (f g : Nat → Int32) (h_x : h x = some (k_BP bf sheet shp pil ink clip)) (hso : bf 10 = 0 ∨ bf 10 = 1) (hio : bf 11 = 0 ∨ bf 11 = 1) (hn : n ≤ 5100) (hc : 0 ≤ c1.toInt ∧ c3.toInt < n) (ne_bl_st : bl ≠ st) (h_pil : h pil = some (k_Pl (nI n) bl st sz nw)) (h_bl : h bl = some (k_in (cA 0) n f)) (h_st : h st = some (k_in (cA 2) n g)) (h_clip : h clip = some (k_Bx c0 c1 c2 c3)) : Met l y_BP_rule (.code y_BP_rule prog_1_method_9_code 5 (some .boolean) :: BIG) ({ frames := 4, cells := 3, slots := 17, locals := 98 }) (va_Pc [.ref x, .int px, .int py, .int w, .int d] (hp_I (gg dC dI cA) A h)) (hp_QW (gg dC dI cA) A hp_mi (fun r h' => (¬ (((-10000 ≤ px ∧ px ≤ 10000) ∧ (-10000 ≤ py ∧ py ≤ 10000) ∧ sz < 4096) ∧ (1 ≤ w ∧ w ≤ 10000) ∧ (1 ≤ d ∧ d ≤ 10000)) ∧ r = 0 ∧ h' = h) ∨ ((((-10000 ≤ px ∧ px ≤ 10000) ∧ (-10000 ≤ py ∧ py ≤ 10000) ∧ sz < 4096) ∧ (1 ≤ w ∧ w ≤ 10000) ∧ (1 ≤ d ∧ d ≤ 10000)) ∧ r = 1 ∧ lP cA h h' pil bl st n ink sz (bf 10) (bf 11) nw none f g (q_le (bf 12) px (q_ra (bf 12) w d)) (q_ty (bf 12) py (q_rd (bf 12) w d)) (q_ra (bf 12) w d) (q_rd (bf 12) w d) (q_max (q_le (bf 12) px (q_ra (bf 12) w d)) c0) (q_max (q_ty (bf 12) py (q_rd (bf 12) w d)) c1) (q_min (q_le (bf 12) px (q_ra (bf 12) w d) + q_ra (bf 12) w d) c2) (q_min (q_ty (bf 12) py (q_rd (bf 12) w d) + q_rd (bf 12) w d) c3)))) 3 17 A := by
  refine hp_enter (by decide) (Nat.le_of_ble_eq_true rfl) ?_
  intro p e s m below meth c ls S hr hlk hin hI hl
  have hl : lv_has ls 5 [(0, .ref x), (1, .int px), (2, .int py), (3, .int w), (4, .int d)] := hl
  have hJ := hI.J
  refine lv_aload_n S.1 S.2.1 d_BP_rule_0 rfl (lv_at hl 0 rfl) ?_
  refine lv_iload_n S.1 S.2.1 d_BP_rule_1 rfl (lv_at hl 1 rfl) ?_
  refine lv_iload_n S.1 S.2.1 d_BP_rule_2 rfl (lv_at hl 2 rfl) ?_
  refine hp_doneR (hp_runV S zz0 (c_BP_canLayAt l dC dI cA A _ x sheet shp pil ink clip bf bl st (nI n) sz nw px py h_x h_pil) l_BP_120 (hJ.preV _ h_x rfl) (by decide) rfl hl.1 rfl (nl rfl) d_BP_rule_3 (by decide)) ?_
  refine lv_if_eq (tgt := 32) S.1 S.2.1 d_BP_rule_6 (by decide) (fun c_6 => ?_) (fun c_6 => ?_)
  · refine lv_iconst (v := 0) S.1 S.2.1 d_BP_rule_32 (by decide) ?_
    exact hp_retWz S hJ hr hlk d_BP_rule_33 (by decide) (by decide) (Or.inl ⟨fun z => q_is_0.mp c_6 z.1, rfl, rfl⟩)
  · refine lv_iconst (v := 1) S.1 S.2.1 d_BP_rule_9 (by decide) ?_
    refine lv_iload_n S.1 S.2.1 d_BP_rule_10 rfl (lv_at hl 3 rfl) ?_
    refine lv_sipush (v := 10000) S.1 S.2.1 d_BP_rule_11 (by decide) ?_
    refine hp_doneR (hp_runS S zz0 (c_BP_isWithin l _ _ _) l_BP_59 (hp_pre0 _) (by decide) rfl hl.1 rfl (nl rfl) d_BP_rule_14 (by decide)) ?_
    refine lv_if_eq (tgt := 32) S.1 S.2.1 d_BP_rule_17 (by decide) (fun c_17 => ?_) (fun c_17 => ?_)
    · refine lv_iconst (v := 0) S.1 S.2.1 d_BP_rule_32 (by decide) ?_
      exact hp_retWz S hJ hr hlk d_BP_rule_33 (by decide) (by decide) (Or.inl ⟨fun z => q_is_0.mp c_17 z.2.1, rfl, rfl⟩)
    · refine lv_iconst (v := 1) S.1 S.2.1 d_BP_rule_20 (by decide) ?_
      refine lv_iload S.1 S.2.1 d_BP_rule_21 (lv_at hl 4 rfl) ?_
      refine lv_sipush (v := 10000) S.1 S.2.1 d_BP_rule_23 (by decide) ?_
      refine hp_doneR (hp_runS S zz0 (c_BP_isWithin l _ _ _) l_BP_59 (hp_pre0 _) (by decide) rfl hl.1 rfl (nl rfl) d_BP_rule_26 (by decide)) ?_
      refine lv_if_ne (tgt := 34) S.1 S.2.1 d_BP_rule_29 (by decide) (fun c_29 => ?_) (fun c_29 => ?_)
      · refine lv_aload_n S.1 S.2.1 d_BP_rule_34 rfl (lv_at hl 0 rfl) ?_
        refine lv_null S.1 S.2.1 d_BP_rule_35 ?_
        refine lv_iload_n S.1 S.2.1 d_BP_rule_36 rfl (lv_at hl 1 rfl) ?_
        refine lv_iload_n S.1 S.2.1 d_BP_rule_37 rfl (lv_at hl 2 rfl) ?_
        refine lv_iload_n S.1 S.2.1 d_BP_rule_38 rfl (lv_at hl 3 rfl) ?_
        refine lv_iload S.1 S.2.1 d_BP_rule_39 (lv_at hl 4 rfl) ?_
        refine hp_doneWv hJ (hp_runV S zz0 (cN_BP_lay l dC dI cA A _ x sheet shp pil ink clip bf bl st n sz w d px py c0 c1 c2 c3 nw f g h_x hso hio hn hc ne_bl_st h_pil h_bl h_st h_clip) l_BP_130 (hJ.preV _ h_x rfl) (by decide) rfl hl.1 rfl (nl rfl) d_BP_rule_41 (by decide)) (fun h9 H locs eh9 hJ => ?_)
        refine lv_iconst (v := 1) S.1 S.2.1 d_BP_rule_44 (by decide) ?_
        exact hp_retWz S hJ hr hlk d_BP_rule_45 (by decide) (by decide) (Or.inr ⟨⟨q_is_ne.mp c_6, q_is_ne.mp c_17, q_is_ne.mp c_29⟩, rfl, eh9⟩)
      · refine lv_iconst (v := 0) S.1 S.2.1 d_BP_rule_32 (by decide) ?_
        exact hp_retWz S hJ hr hlk d_BP_rule_33 (by decide) (by decide) (Or.inl ⟨fun z => q_is_0.mp c_29 z.2.2, rfl, rfl⟩)

