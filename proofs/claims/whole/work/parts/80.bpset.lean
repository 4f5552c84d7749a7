/-! The painter itself: its leaves and its settings. bf: its whole numbers by their places. -/
abbrev k_BP (bf : Nat → Int32) (sheet shp pil ink clip : Nat) : va_E := .inr (0, [.int (bf 0), .int (bf 1), .int (bf 2), .ref sheet, .ref shp, .ref pil, .int (bf 6), .int (bf 7), .int (bf 8), .ref ink, .int (bf 10), .int (bf 11), .int (bf 12), .ref clip])

set_option maxHeartbeats 4000000 in
set_option maxRecDepth 100000 in
theorem cN_BP_shapeOf (l : Launch) (dC : Nat → ClassId) (dI : Nat → Nat → Nat) (cA : Nat → ClassId) (A : Nat → Prop) (h : hp_T) (x sheet shp pil ink clip : Nat) (bf : Nat → Int32) (s9 : Int32) (h_x : h x = some (k_BP bf sheet shp pil ink clip)) (hF : ¬ (0 ≤ s9 ∧ s9 ≤ bf 6 - 1)) : Met l y_BP_shapeOf (.code y_BP_shapeOf prog_1_method_18_code 2 (some (.object "BandPainter$Shape")) :: BIG) ({ frames := 1, cells := 0, slots := 0, locals := 22 }) (va_Pc [.ref x, .int s9] (hp_I (gg dC dI cA) A h)) (hp_QR (some (.null))) 0 0 (fun _ => False) := by
  refine hp_enter (by decide) (Nat.le_of_ble_eq_true rfl) ?_
  intro p e s m below meth c ls S hr hlk hin hI hl
  have hl : lv_has ls 2 [(0, .ref x), (1, .int s9)] := hl
  have hJ := hI.J
  refine lv_iconst (v := 0) S.1 S.2.1 d_BP_shapeOf_0 (by decide) ?_
  refine lv_iload_n S.1 S.2.1 d_BP_shapeOf_1 rfl (lv_at hl 1 rfl) ?_
  refine lv_aload_n S.1 S.2.1 d_BP_shapeOf_2 rfl (lv_at hl 0 rfl) ?_
  refine hp_get S zz hJ h_x f_BP_70 rfl d_BP_shapeOf_3 ?_
  refine lv_iconst (v := 1) S.1 S.2.1 d_BP_shapeOf_6 (by decide) ?_
  refine lv_isub S.1 S.2.1 d_BP_shapeOf_7 ?_
  refine hp_doneR (hp_runS S zz0 (c_BP_isWithin l _ _ _) l_BP_59 (hp_pre0 _) (by decide) rfl hl.1 rfl (nl rfl) d_BP_shapeOf_8 (by decide)) ?_
  refine lv_if_eq (tgt := 23) S.1 S.2.1 d_BP_shapeOf_11 (by decide) (fun _ => ?_) (fun q => absurd (q_is_ne.mp q) hF)
  refine lv_null S.1 S.2.1 d_BP_shapeOf_23 ?_
  exact hp_retRa S hr hlk d_BP_shapeOf_24 (Or.inl rfl)

set_option maxHeartbeats 4000000 in
set_option maxRecDepth 100000 in
theorem cS_BP_shapeOf (l : Launch) (dC : Nat → ClassId) (dI : Nat → Nat → Nat) (cA : Nat → ClassId) (A : Nat → Prop) (h : hp_T) (x sheet shp pil ink clip : Nat) (bf : Nat → Int32) (ss q : Nat) (g : Nat → Option Nat) (h_x : h x = some (k_BP bf sheet shp pil ink clip)) (hF : 0 ≤ nI ss ∧ nI ss ≤ bf 6 - 1) (hs : ss < 64) (hg : g ss = some q) (h_shp : h shp = some (k_rf (cA 3) 64 g)) : Met l y_BP_shapeOf (.code y_BP_shapeOf prog_1_method_18_code 2 (some (.object "BandPainter$Shape")) :: BIG) ({ frames := 1, cells := 0, slots := 0, locals := 22 }) (va_Pc [.ref x, .int (nI ss)] (hp_I (gg dC dI cA) A h)) (hp_QR (some (.ref q))) 0 0 (fun _ => False) := by
  refine hp_enter (by decide) (Nat.le_of_ble_eq_true rfl) ?_
  intro p e s m below meth c ls S hr hlk hin hI hl
  have hl : lv_has ls 2 [(0, .ref x), (1, .int (nI ss))] := hl
  have hJ := hI.J
  refine lv_iconst (v := 0) S.1 S.2.1 d_BP_shapeOf_0 (by decide) ?_
  refine lv_iload_n S.1 S.2.1 d_BP_shapeOf_1 rfl (lv_at hl 1 rfl) ?_
  refine lv_aload_n S.1 S.2.1 d_BP_shapeOf_2 rfl (lv_at hl 0 rfl) ?_
  refine hp_get S zz hJ h_x f_BP_70 rfl d_BP_shapeOf_3 ?_
  refine lv_iconst (v := 1) S.1 S.2.1 d_BP_shapeOf_6 (by decide) ?_
  refine lv_isub S.1 S.2.1 d_BP_shapeOf_7 ?_
  refine hp_doneR (hp_runS S zz0 (c_BP_isWithin l _ _ _) l_BP_59 (hp_pre0 _) (by decide) rfl hl.1 rfl (nl rfl) d_BP_shapeOf_8 (by decide)) ?_
  refine lv_if_eq (tgt := 23) S.1 S.2.1 d_BP_shapeOf_11 (by decide) (fun q => absurd hF (q_is_0.mp q)) (fun _ => ?_)
  refine lv_aload_n S.1 S.2.1 d_BP_shapeOf_14 rfl (lv_at hl 0 rfl) ?_
  refine hp_get S zz hJ h_x f_BP_34 rfl d_BP_shapeOf_15 ?_
  refine lv_iload_n S.1 S.2.1 d_BP_shapeOf_18 rfl (lv_at hl 1 rfl) ?_
  refine hp_aald S hJ 3 h_shp rfl (vp_in_nI hs (by decide)) d_BP_shapeOf_19 ?_
  rw [nI_clamp (by omega), hg]
  refine lv_goto (tgt := 24) S.1 S.2.1 d_BP_shapeOf_20 (by decide) ?_
  exact hp_retRa S hr hlk d_BP_shapeOf_24 (Or.inr ⟨_, rfl⟩)

set_option maxHeartbeats 4000000 in
set_option maxRecDepth 100000 in
theorem c_BP_canLayAt (l : Launch) (dC : Nat → ClassId) (dI : Nat → Nat → Nat) (cA : Nat → ClassId) (A : Nat → Prop) (h : hp_T) (x sheet shp pil ink clip : Nat) (bf : Nat → Int32) (bl st : Nat) (n sz : Int32) (nw : Option Nat) (px py : Int32) (h_x : h x = some (k_BP bf sheet shp pil ink clip)) (h_pil : h pil = some (k_Pl n bl st sz nw)) : Met l y_BP_canLayAt (.code y_BP_canLayAt prog_1_method_19_code 3 (some .boolean) :: BIG) ({ frames := 1, cells := 0, slots := 0, locals := 22 }) (va_Pc [.ref x, .int px, .int py] (hp_I (gg dC dI cA) A h)) (hp_QR (some (.int (q_is ((-10000 ≤ px ∧ px ≤ 10000) ∧ (-10000 ≤ py ∧ py ≤ 10000) ∧ sz < 4096))))) 0 0 (fun _ => False) := by
  refine hp_enter (by decide) (Nat.le_of_ble_eq_true rfl) ?_
  intro p e s m below meth c ls S hr hlk hin hI hl
  have hl : lv_has ls 3 [(0, .ref x), (1, .int px), (2, .int py)] := hl
  have hJ := hI.J
  refine lv_sipush (v := (-10000)) S.1 S.2.1 d_BP_canLayAt_0 (by decide) ?_
  refine lv_iload_n S.1 S.2.1 d_BP_canLayAt_3 rfl (lv_at hl 1 rfl) ?_
  refine lv_sipush (v := 10000) S.1 S.2.1 d_BP_canLayAt_4 (by decide) ?_
  refine hp_doneR (hp_runS S zz0 (c_BP_isWithin l _ _ _) l_BP_59 (hp_pre0 _) (by decide) rfl hl.1 rfl (nl rfl) d_BP_canLayAt_7 (by decide)) ?_
  refine lv_if_eq (tgt := 43) S.1 S.2.1 d_BP_canLayAt_10 (by decide) (fun c_10 => ?_) (fun c_10 => ?_)
  · refine lv_iconst (v := 0) S.1 S.2.1 d_BP_canLayAt_43 (by decide) ?_
    exact hp_retRz S hr hlk d_BP_canLayAt_44 (by decide) (q_is_f (fun q => q_is_0.mp c_10 q.1))
  · refine lv_sipush (v := (-10000)) S.1 S.2.1 d_BP_canLayAt_13 (by decide) ?_
    refine lv_iload_n S.1 S.2.1 d_BP_canLayAt_16 rfl (lv_at hl 2 rfl) ?_
    refine lv_sipush (v := 10000) S.1 S.2.1 d_BP_canLayAt_17 (by decide) ?_
    refine hp_doneR (hp_runS S zz0 (c_BP_isWithin l _ _ _) l_BP_59 (hp_pre0 _) (by decide) rfl hl.1 rfl (nl rfl) d_BP_canLayAt_20 (by decide)) ?_
    refine lv_if_eq (tgt := 43) S.1 S.2.1 d_BP_canLayAt_23 (by decide) (fun c_23 => ?_) (fun c_23 => ?_)
    · refine lv_iconst (v := 0) S.1 S.2.1 d_BP_canLayAt_43 (by decide) ?_
      exact hp_retRz S hr hlk d_BP_canLayAt_44 (by decide) (q_is_f (fun q => q_is_0.mp c_23 q.2.1))
    · refine lv_aload_n S.1 S.2.1 d_BP_canLayAt_26 rfl (lv_at hl 0 rfl) ?_
      refine hp_get S zz hJ h_x f_BP_43 rfl d_BP_canLayAt_27 ?_
      refine hp_get S zz hJ h_pil f_BP_183 rfl d_BP_canLayAt_30 ?_
      refine lv_sipush (v := 4096) S.1 S.2.1 d_BP_canLayAt_33 (by decide) ?_
      refine lv_icmp_ge (tgt := 43) S.1 S.2.1 d_BP_canLayAt_36 (by decide) (fun c_36 => ?_) (fun c_36 => ?_)
      · refine lv_iconst (v := 0) S.1 S.2.1 d_BP_canLayAt_43 (by decide) ?_
        exact hp_retRz S hr hlk d_BP_canLayAt_44 (by decide) (q_is_f (fun q => by have q2 := q.2.2; simp only [z_lt, z_le] at c_36 q2; omega))
      · refine lv_iconst (v := 1) S.1 S.2.1 d_BP_canLayAt_39 (by decide) ?_
        refine lv_goto (tgt := 44) S.1 S.2.1 d_BP_canLayAt_40 (by decide) ?_
        exact hp_retRz S hr hlk d_BP_canLayAt_44 (by decide) (q_is_t ⟨q_is_ne.mp c_10, q_is_ne.mp c_23, by simp only [z_lt, z_le] at c_36 ⊢; omega⟩)

set_option maxHeartbeats 4000000 in
set_option maxRecDepth 100000 in
theorem c_BP_mode (l : Launch) (dC : Nat → ClassId) (dI : Nat → Nat → Nat) (cA : Nat → ClassId) (A : Nat → Prop) (h : hp_T) (x sheet shp pil ink clip : Nat) (bf : Nat → Int32) (a b : Int32) (ha : a = 0 ∨ a = 1) (hb : b = 0 ∨ b = 1) (h_x : h x = some (k_BP bf sheet shp pil ink clip)) : Met l y_BP_mode (.code y_BP_mode prog_1_method_5_code 3 none :: BIG) ({ frames := 0, cells := 0, slots := 0, locals := 0 }) (va_Pc [.ref x, .int a, .int b] (hp_I (gg dC dI cA) A h)) (hp_QW (gg dC dI cA) A hp_mv (fun _ h' => h' = hp_up h x (k_BP (upd (upd bf 10 a) 11 b) sheet shp pil ink clip))) 0 0 A := by
  refine hp_enter (by decide) (Nat.le_of_ble_eq_true rfl) ?_
  intro p e s m below meth c ls S hr hlk hin hI hl
  have hl : lv_has ls 3 [(0, .ref x), (1, .int a), (2, .int b)] := hl
  have hJ := hI.J
  refine lv_aload_n S.1 S.2.1 d_BP_mode_0 rfl (lv_at hl 0 rfl) ?_
  refine lv_iload_n S.1 S.2.1 d_BP_mode_1 rfl (lv_at hl 1 rfl) ?_
  refine hp_put S zz hJ h_x fp_BP_107 (z01 ha).1 (z01 ha).2 (nl rfl) d_BP_mode_2 (fun H locs hJ => ?_)
  obtain ⟨h1, eh1⟩ : ∃ z, z = hp_up h x (.inr (0, [.int (bf 0), .int (bf 1), .int (bf 2), .ref sheet, .ref shp, .ref pil, .int (bf 6), .int (bf 7), .int (bf 8), .ref ink, .int a, .int (bf 11), .int (bf 12), .ref clip])) := ⟨_, rfl⟩
  have hJ := hJ.cast eh1
  have h0_x := h_x
  have h_x : h1 x = some (.inr (0, [.int (bf 0), .int (bf 1), .int (bf 2), .ref sheet, .ref shp, .ref pil, .int (bf 6), .int (bf 7), .int (bf 8), .ref ink, .int a, .int (bf 11), .int (bf 12), .ref clip])) := by rw [eh1]; exact hp_up_s _ _ _
  refine lv_aload_n S.1 S.2.1 d_BP_mode_5 rfl (lv_at hl 0 rfl) ?_
  refine lv_iload_n S.1 S.2.1 d_BP_mode_6 rfl (lv_at hl 2 rfl) ?_
  refine hp_put S zz hJ h_x fp_BP_110 (z01 hb).1 (z01 hb).2 (nl rfl) d_BP_mode_7 (fun H locs hJ => ?_)
  obtain ⟨h2, eh2⟩ : ∃ z, z = hp_up h1 x (.inr (0, [.int (bf 0), .int (bf 1), .int (bf 2), .ref sheet, .ref shp, .ref pil, .int (bf 6), .int (bf 7), .int (bf 8), .ref ink, .int a, .int b, .int (bf 12), .ref clip])) := ⟨_, rfl⟩
  have hJ := hJ.cast eh2
  have h0_x := h_x
  have h_x : h2 x = some (.inr (0, [.int (bf 0), .int (bf 1), .int (bf 2), .ref sheet, .ref shp, .ref pil, .int (bf 6), .int (bf 7), .int (bf 8), .ref ink, .int a, .int b, .int (bf 12), .ref clip])) := by rw [eh2]; exact hp_up_s _ _ _
  exact hp_retWv S hJ hr hlk d_BP_mode_10 (by decide) (by rw [eh2, eh1]; (try simp only [hp_up_up]); rfl)

set_option maxHeartbeats 4000000 in
set_option maxRecDepth 100000 in
theorem c_BP_turn (l : Launch) (dC : Nat → ClassId) (dI : Nat → Nat → Nat) (cA : Nat → ClassId) (A : Nat → Prop) (h : hp_T) (x sheet shp pil ink clip : Nat) (bf : Nat → Int32) (k : Int32) (h_x : h x = some (k_BP bf sheet shp pil ink clip)) : Met l y_BP_turn (.code y_BP_turn prog_1_method_6_code 2 (some .boolean) :: BIG) ({ frames := 1, cells := 0, slots := 0, locals := 22 }) (va_Pc [.ref x, .int k] (hp_I (gg dC dI cA) A h)) (hp_QW (gg dC dI cA) A hp_mi (fun r h' => r = q_is (0 ≤ k ∧ k ≤ 3) ∧ h' = hp_up h x (k_BP (if 0 ≤ k ∧ k ≤ 3 then upd bf 12 k else bf) sheet shp pil ink clip))) 0 0 A := by
  refine hp_enter (by decide) (Nat.le_of_ble_eq_true rfl) ?_
  intro p e s m below meth c ls S hr hlk hin hI hl
  have hl : lv_has ls 2 [(0, .ref x), (1, .int k)] := hl
  have hJ := hI.J
  refine lv_iconst (v := 0) S.1 S.2.1 d_BP_turn_0 (by decide) ?_
  refine lv_iload_n S.1 S.2.1 d_BP_turn_1 rfl (lv_at hl 1 rfl) ?_
  refine lv_iconst (v := 3) S.1 S.2.1 d_BP_turn_2 (by decide) ?_
  refine hp_doneR (hp_runS S zz0 (c_BP_isWithin l _ _ _) l_BP_59 (hp_pre0 _) (by decide) rfl hl.1 rfl (nl rfl) d_BP_turn_3 (by decide)) ?_
  refine lv_if_ne (tgt := 11) S.1 S.2.1 d_BP_turn_6 (by decide) (fun c_6 => ?_) (fun c_6 => ?_)
  · refine lv_aload_n S.1 S.2.1 d_BP_turn_11 rfl (lv_at hl 0 rfl) ?_
    refine lv_iload_n S.1 S.2.1 d_BP_turn_12 rfl (lv_at hl 1 rfl) ?_
    refine hp_put S zz hJ h_x fp_BP_113 rfl rfl (nl rfl) d_BP_turn_13 (fun H locs hJ => ?_)
    obtain ⟨h1, eh1⟩ : ∃ z, z = hp_up h x (.inr (0, [.int (bf 0), .int (bf 1), .int (bf 2), .ref sheet, .ref shp, .ref pil, .int (bf 6), .int (bf 7), .int (bf 8), .ref ink, .int (bf 10), .int (bf 11), .int k, .ref clip])) := ⟨_, rfl⟩
    have hJ := hJ.cast eh1
    have h0_x := h_x
    have h_x : h1 x = some (.inr (0, [.int (bf 0), .int (bf 1), .int (bf 2), .ref sheet, .ref shp, .ref pil, .int (bf 6), .int (bf 7), .int (bf 8), .ref ink, .int (bf 10), .int (bf 11), .int k, .ref clip])) := by rw [eh1]; exact hp_up_s _ _ _
    refine lv_iconst (v := 1) S.1 S.2.1 d_BP_turn_16 (by decide) ?_
    exact hp_retWz S hJ hr hlk d_BP_turn_17 (by decide) (by decide) ⟨q_is_t (q_is_ne.mp c_6), by rw [if_pos (q_is_ne.mp c_6)]; rw [eh1]; (try simp only [hp_up_up]); rfl⟩
  · refine lv_iconst (v := 0) S.1 S.2.1 d_BP_turn_9 (by decide) ?_
    exact hp_retWz S hJ hr hlk d_BP_turn_10 (by decide) (by decide) ⟨q_is_f (q_is_0.mp c_6), by rw [if_neg (q_is_0.mp c_6)]; exact (hp_up_same h_x).symm⟩

set_option maxHeartbeats 4000000 in
set_option maxRecDepth 100000 in
theorem c_BP_clip (l : Launch) (dC : Nat → ClassId) (dI : Nat → Nat → Nat) (cA : Nat → ClassId) (A : Nat → Prop) (h : hp_T) (x sheet shp pil ink clip : Nat) (bf : Nat → Int32) (a0 b0 a1 b1 : Int32) (x0 y0 x1 y1 : Int32) (h_x : h x = some (k_BP bf sheet shp pil ink clip)) (h_sheet : h sheet = some (k_Bx a0 b0 a1 b1)) : Met l y_BP_clip (.code y_BP_clip prog_1_method_7_code 5 (some .boolean) :: BIG) ({ frames := 3, cells := 2, slots := 8, locals := 65 }) (va_Pc [.ref x, .int x0, .int y0, .int x1, .int y1] (hp_I (gg dC dI cA) A h)) (hp_QW (gg dC dI cA) A hp_mi (fun r h' => (¬ (x0 ≤ x1 ∧ y0 ≤ y1) ∧ r = 0 ∧ h' = h) ∨ ((x0 ≤ x1 ∧ y0 ≤ y1) ∧ r = 1 ∧ ∃ wb pb, h wb = none ∧ h pb = none ∧ wb ≠ pb ∧ h' = hp_up (hp_up (hp_up h wb (k_Bx x0 y0 x1 y1)) pb (k_Bx (q_max x0 a0) (q_max y0 b0) (q_min x1 a1) (q_min y1 b1))) x (k_BP bf sheet shp pil ink pb)))) 2 8 A := by
  refine hp_enter (by decide) (Nat.le_of_ble_eq_true rfl) ?_
  intro p e s m below meth c ls S hr hlk hin hI hl
  have hl : lv_has ls 5 [(0, .ref x), (1, .int x0), (2, .int y0), (3, .int x1), (4, .int y1)] := hl
  have hJ := hI.J
  refine lv_iload_n S.1 S.2.1 d_BP_clip_0 rfl (lv_at hl 1 rfl) ?_
  refine lv_iload_n S.1 S.2.1 d_BP_clip_1 rfl (lv_at hl 3 rfl) ?_
  refine lv_icmp_gt (tgt := 11) S.1 S.2.1 d_BP_clip_2 (by decide) (fun c_2 => ?_) (fun c_2 => ?_)
  · refine lv_iconst (v := 0) S.1 S.2.1 d_BP_clip_11 (by decide) ?_
    exact hp_retWz S hJ hr hlk d_BP_clip_12 (by decide) (by decide) (Or.inl ⟨by simp only [z_lt, z_le] at c_2 ⊢; omega, rfl, rfl⟩)
  · refine lv_iload_n S.1 S.2.1 d_BP_clip_5 rfl (lv_at hl 2 rfl) ?_
    refine lv_iload S.1 S.2.1 d_BP_clip_6 (lv_at hl 4 rfl) ?_
    refine lv_icmp_le (tgt := 13) S.1 S.2.1 d_BP_clip_8 (by decide) (fun c_8 => ?_) (fun c_8 => ?_)
    · refine lv_aload_n S.1 S.2.1 d_BP_clip_13 rfl (lv_at hl 0 rfl) ?_
      refine hp_new S zz hJ (ci := 1) rfl n_BP_23 e0_Bx_ok (by decide) (by decide) d_BP_clip_14 (fun wb H hq_wb hs_wb hJ => ?_)
      have ne_sheet_wb : sheet ≠ wb := hp_neN h_sheet hq_wb
      obtain ⟨h1, eh1⟩ : ∃ z, z = hp_up h wb (.inr (1, [.int 0, .int 0, .int 0, .int 0])) := ⟨_, rfl⟩
      have hJ := hJ.cast eh1
      have h_x : h1 x = some (.inr (0, [.int (bf 0), .int (bf 1), .int (bf 2), .ref sheet, .ref shp, .ref pil, .int (bf 6), .int (bf 7), .int (bf 8), .ref ink, .int (bf 10), .int (bf 11), .int (bf 12), .ref clip])) := by rw [eh1]; exact hp_up_k (hp_neN h_x hq_wb) h_x
      have h_sheet : h1 sheet = some (.inr (1, [.int a0, .int b0, .int a1, .int b1])) := by rw [eh1]; exact hp_up_k (hp_neN h_sheet hq_wb) h_sheet
      have h_wb : h1 wb = some (.inr (1, [.int 0, .int 0, .int 0, .int 0])) := by rw [eh1]; exact hp_up_s _ _ _
      refine lv_dup S.1 S.2.1 d_BP_clip_17 rfl ?_
      refine lv_iload_n S.1 S.2.1 d_BP_clip_18 rfl (lv_at hl 1 rfl) ?_
      refine lv_iload_n S.1 S.2.1 d_BP_clip_19 rfl (lv_at hl 2 rfl) ?_
      refine lv_iload_n S.1 S.2.1 d_BP_clip_20 rfl (lv_at hl 3 rfl) ?_
      refine lv_iload S.1 S.2.1 d_BP_clip_21 (lv_at hl 4 rfl) ?_
      refine hp_doneWv hJ (hp_runI S zz0 (c_Bx_init l dC dI cA A _ wb x0 y0 x1 y1 _ _ _ _ h_wb) l_BP_25 (hJ.pre _) (by decide) rfl hl.1 rfl (nl rfl) d_BP_clip_23 (by decide)) (fun h2 H locs eh2 hJ => ?_)
      have h0_wb := h_wb
      have h_x : h2 x = some (.inr (0, [.int (bf 0), .int (bf 1), .int (bf 2), .ref sheet, .ref shp, .ref pil, .int (bf 6), .int (bf 7), .int (bf 8), .ref ink, .int (bf 10), .int (bf 11), .int (bf 12), .ref clip])) := by rw [eh2]; exact hp_up_k (hp_ne h_x h0_wb (show ((0, 0) : Nat × Nat) ≠ (0, 1) by decide)) h_x
      have h_sheet : h2 sheet = some (.inr (1, [.int a0, .int b0, .int a1, .int b1])) := by rw [eh2]; exact hp_up_k (ne_sheet_wb) h_sheet
      have h_wb : h2 wb = some (.inr (1, [.int x0, .int y0, .int x1, .int y1])) := by rw [eh2]; exact hp_up_s _ _ _
      refine lv_aload_n S.1 S.2.1 d_BP_clip_26 rfl (lv_at hl 0 rfl) ?_
      refine hp_get S zz hJ h_x f_BP_28 rfl d_BP_clip_27 ?_
      refine hp_doneWr hJ (hp_runV S zz0 (c_Bx_common l dC dI cA A _ wb sheet _ _ _ _ _ _ _ _ h_wb h_sheet) l_BP_116 (hJ.preV _ h_wb rfl) (by decide) rfl hl.1 rfl (nl rfl) d_BP_clip_30 (by decide)) (fun pb h9 H locs hx hJ => ?_)
      obtain ⟨hq_pb, eh9⟩ := hx
      have ne_wb_pb : wb ≠ pb := hp_neN h_wb hq_pb
      have ne_sheet_pb : sheet ≠ pb := hp_neN h_sheet hq_pb
      have h_x : h9 x = some (.inr (0, [.int (bf 0), .int (bf 1), .int (bf 2), .ref sheet, .ref shp, .ref pil, .int (bf 6), .int (bf 7), .int (bf 8), .ref ink, .int (bf 10), .int (bf 11), .int (bf 12), .ref clip])) := by rw [eh9]; exact hp_up_k (hp_neN h_x hq_pb) h_x
      have h_sheet : h9 sheet = some (.inr (1, [.int a0, .int b0, .int a1, .int b1])) := by rw [eh9]; exact hp_up_k (hp_neN h_sheet hq_pb) h_sheet
      have h_wb : h9 wb = some (.inr (1, [.int x0, .int y0, .int x1, .int y1])) := by rw [eh9]; exact hp_up_k (hp_neN h_wb hq_pb) h_wb
      have h_pb : h9 pb = some (k_Bx (q_max x0 a0) (q_max y0 b0) (q_min x1 a1) (q_min y1 b1)) := by rw [eh9]; exact hp_up_s _ _ _
      refine hp_put S zz hJ h_x fp_BP_56 rfl rfl (nl rfl) d_BP_clip_33 (fun H locs hJ => ?_)
      obtain ⟨h3, eh3⟩ : ∃ z, z = hp_up h9 x (.inr (0, [.int (bf 0), .int (bf 1), .int (bf 2), .ref sheet, .ref shp, .ref pil, .int (bf 6), .int (bf 7), .int (bf 8), .ref ink, .int (bf 10), .int (bf 11), .int (bf 12), .ref pb])) := ⟨_, rfl⟩
      have hJ := hJ.cast eh3
      have h0_x := h_x
      have h_sheet : h3 sheet = some (.inr (1, [.int a0, .int b0, .int a1, .int b1])) := by rw [eh3]; exact hp_up_k (hp_ne h_sheet h0_x (show ((0, 1) : Nat × Nat) ≠ (0, 0) by decide)) h_sheet
      have h_wb : h3 wb = some (.inr (1, [.int x0, .int y0, .int x1, .int y1])) := by rw [eh3]; exact hp_up_k (hp_ne h_wb h0_x (show ((0, 1) : Nat × Nat) ≠ (0, 0) by decide)) h_wb
      have h_pb : h3 pb = some (k_Bx (q_max x0 a0) (q_max y0 b0) (q_min x1 a1) (q_min y1 b1)) := by rw [eh3]; exact hp_up_k (hp_ne h_pb h0_x (show ((0, 1) : Nat × Nat) ≠ (0, 0) by decide)) h_pb
      have h_x : h3 x = some (.inr (0, [.int (bf 0), .int (bf 1), .int (bf 2), .ref sheet, .ref shp, .ref pil, .int (bf 6), .int (bf 7), .int (bf 8), .ref ink, .int (bf 10), .int (bf 11), .int (bf 12), .ref pb])) := by rw [eh3]; exact hp_up_s _ _ _
      refine lv_iconst (v := 1) S.1 S.2.1 d_BP_clip_36 (by decide) ?_
      exact hp_retWz S hJ hr hlk d_BP_clip_37 (by decide) (by decide) (Or.inr ⟨by simp only [z_lt, z_le] at c_2 c_8 ⊢; omega, rfl, wb, pb, hq_wb, by rw [eh2, eh1, hp_up_up] at hq_pb; exact hp_up_none hq_pb, ne_wb_pb, by rw [eh3, eh9, eh2, eh1, hp_up_up]⟩)
    · refine lv_iconst (v := 0) S.1 S.2.1 d_BP_clip_11 (by decide) ?_
      exact hp_retWz S hJ hr hlk d_BP_clip_12 (by decide) (by decide) (Or.inl ⟨by simp only [z_lt, z_le] at c_2 c_8 ⊢; omega, rfl, rfl⟩)

set_option maxHeartbeats 4000000 in
set_option maxRecDepth 100000 in
theorem c_BP_ink (l : Launch) (dC : Nat → ClassId) (dI : Nat → Nat → Nat) (cA : Nat → ClassId) (A : Nat → Prop) (h : hp_T) (x sheet shp pil ink clip : Nat) (bf : Nat → Int32) (kd val : Int32) (h_x : h x = some (k_BP bf sheet shp pil ink clip)) : Met l y_BP_ink (.code y_BP_ink prog_1_method_4_code 3 (some .boolean) :: BIG) ({ frames := 3, cells := 2, slots := 19, locals := 74 }) (va_Pc [.ref x, .int kd, .int val] (hp_I (gg dC dI cA) A h)) (hp_QW (gg dC dI cA) A hp_mi (fun r h' => (q_ix kd val = 0 ∧ r = 0 ∧ h' = h) ∨ (¬ q_ix kd val = 0 ∧ r = 1 ∧ ∃ q b, h q = none ∧ h b = none ∧ q ≠ b ∧ h' = hp_up (hp_up (hp_up h b (k_lo (cA 1) 16 (q_ia kd val 16))) q (k_In kd (q_iv kd val) b)) x (k_BP bf sheet shp pil q clip)))) 2 19 A := by
  refine hp_enter (by decide) (Nat.le_of_ble_eq_true rfl) ?_
  intro p e s m below meth c ls S hr hlk hin hI hl
  have hl : lv_has ls 3 [(0, .ref x), (1, .int kd), (2, .int val)] := hl
  have hJ := hI.J
  refine lv_iload_n S.1 S.2.1 d_BP_ink_0 rfl (lv_at hl 1 rfl) ?_
  refine lv_iload_n S.1 S.2.1 d_BP_ink_1 rfl (lv_at hl 2 rfl) ?_
  refine hp_doneR (hp_runS S zz0 (c_In_exists l dC dI cA _ _) l_BP_103 (hJ.preK _) (by decide) rfl hl.1 rfl (nl rfl) d_BP_ink_2 (by decide)) ?_
  refine lv_if_ne (tgt := 10) S.1 S.2.1 d_BP_ink_5 (by decide) (fun c_5 => ?_) (fun c_5 => ?_)
  · refine lv_aload_n S.1 S.2.1 d_BP_ink_10 rfl (lv_at hl 0 rfl) ?_
    refine hp_new S zz hJ (ci := 2) rfl n_BP_47 e0_In_ok (by decide) (by decide) d_BP_ink_11 (fun q H hq_q hs_q hJ => ?_)
    obtain ⟨h1, eh1⟩ : ∃ z, z = hp_up h q (.inr (2, [.int 0, .int 0, .null])) := ⟨_, rfl⟩
    have hJ := hJ.cast eh1
    have h_x : h1 x = some (.inr (0, [.int (bf 0), .int (bf 1), .int (bf 2), .ref sheet, .ref shp, .ref pil, .int (bf 6), .int (bf 7), .int (bf 8), .ref ink, .int (bf 10), .int (bf 11), .int (bf 12), .ref clip])) := by rw [eh1]; exact hp_up_k (hp_neN h_x hq_q) h_x
    have h_q : h1 q = some (.inr (2, [.int 0, .int 0, .null])) := by rw [eh1]; exact hp_up_s _ _ _
    refine lv_dup S.1 S.2.1 d_BP_ink_14 rfl ?_
    refine lv_iload_n S.1 S.2.1 d_BP_ink_15 rfl (lv_at hl 1 rfl) ?_
    refine lv_iload_n S.1 S.2.1 d_BP_ink_16 rfl (lv_at hl 2 rfl) ?_
    have h_x0 := h_x
    refine hp_doneWv hJ (hp_runI S zz0 (c_In_init l dC dI cA A _ q kd val h_q) l_BP_49 (hJ.pre _) (by decide) rfl hl.1 rfl (nl rfl) d_BP_ink_17 (by decide)) (fun h9 H locs hx hJ => ?_)
    obtain ⟨b, hq_b, eh9⟩ := hx
    have ne_q_b : q ≠ b := hp_neN h_q hq_b
    have h_x : h9 x = some (k_BP bf sheet shp pil ink clip) := by rw [eh9]; exact hp_up_k (hp_ne h_x0 h_q (show ((0, 0) : Nat × Nat) ≠ (0, 2) by decide)) (hp_up_k (hp_neN h_x0 hq_b) h_x0)
    have h_q : h9 q = some (k_In kd (q_iv kd val) b) := by rw [eh9]; exact hp_up_s _ _ _
    refine hp_put S zz hJ h_x fp_BP_52 rfl rfl (nl rfl) d_BP_ink_20 (fun H locs hJ => ?_)
    obtain ⟨h2, eh2⟩ : ∃ z, z = hp_up h9 x (.inr (0, [.int (bf 0), .int (bf 1), .int (bf 2), .ref sheet, .ref shp, .ref pil, .int (bf 6), .int (bf 7), .int (bf 8), .ref q, .int (bf 10), .int (bf 11), .int (bf 12), .ref clip])) := ⟨_, rfl⟩
    have hJ := hJ.cast eh2
    have h0_x := h_x
    have h_q : h2 q = some (.inr (2, [.int kd, .int (q_iv kd val), .ref b])) := by rw [eh2]; exact hp_up_k (hp_ne h_q h0_x (show ((0, 2) : Nat × Nat) ≠ (0, 0) by decide)) h_q
    have h_x : h2 x = some (.inr (0, [.int (bf 0), .int (bf 1), .int (bf 2), .ref sheet, .ref shp, .ref pil, .int (bf 6), .int (bf 7), .int (bf 8), .ref q, .int (bf 10), .int (bf 11), .int (bf 12), .ref clip])) := by rw [eh2]; exact hp_up_s _ _ _
    refine lv_iconst (v := 1) S.1 S.2.1 d_BP_ink_23 (by decide) ?_
    exact hp_retWz S hJ hr hlk d_BP_ink_24 (by decide) (by decide) (Or.inr ⟨c_5, rfl, q, b, hq_q, by rw [eh1] at hq_b; exact hp_up_none hq_b, ne_q_b, by rw [eh2, eh9, eh1, hp_tbt _ _ _ _ ne_q_b]⟩)
  · refine lv_iconst (v := 0) S.1 S.2.1 d_BP_ink_8 (by decide) ?_
    exact hp_retWz S hJ hr hlk d_BP_ink_9 (by decide) (by decide) (Or.inl ⟨c_5, rfl, rfl⟩)

def q_lb (bf : Nat → Int32) (sz kd val : Int32) (w : Int32) : Int32 := if w = 0 then bf 0 else if w = 1 then bf 1 else if w = 2 then bf 2 else if w = 3 then sz else if w = 4 then bf 8 else if w = 5 then bf 6 else if w = 6 then bf 7 else if w = 7 then kd else if w = 8 then val else if w = 9 then q_is (¬ bf 10 = 0) else if w = 10 then q_is (¬ bf 11 = 0) else if w = 11 then bf 12 else -1
set_option maxHeartbeats 4000000 in
set_option maxRecDepth 100000 in
theorem c_BP_look (l : Launch) (dC : Nat → ClassId) (dI : Nat → Nat → Nat) (cA : Nat → ClassId) (A : Nat → Prop) (h : hp_T) (x sheet shp pil ink clip : Nat) (bf : Nat → Int32) (bl st ib : Nat) (n sz kd val : Int32) (nw : Option Nat) (wh : Int32) (h_x : h x = some (k_BP bf sheet shp pil ink clip)) (h_pil : h pil = some (k_Pl n bl st sz nw)) (h_ink : h ink = some (k_In kd val ib)) : Met l y_BP_look (.code y_BP_look prog_1_method_17_code 2 (some .int) :: BIG) ({ frames := 1, cells := 0, slots := 0, locals := 20 }) (va_Pc [.ref x, .int wh] (hp_I (gg dC dI cA) A h)) (hp_QR (some (.int (q_lb bf sz kd val wh)))) 0 0 (fun _ => False) := by
  refine hp_enter (by decide) (Nat.le_of_ble_eq_true rfl) ?_
  intro p e s m below meth c ls S hr hlk hin hI hl
  have hl : lv_has ls 2 [(0, .ref x), (1, .int wh)] := hl
  have hJ := hI.J
  refine lv_iload_n S.1 S.2.1 d_BP_look_0 rfl (lv_at hl 1 rfl) ?_
  by_cases k_0 : wh = 0
  · refine lv_tableIn (off := 63) (tgt := 64) S.1 S.2.1 d_BP_look_1 (by rw [k_0]; decide) (by rw [k_0]; decide) (by rw [k_0]; rfl) (by decide) ?_
    refine lv_aload_n S.1 S.2.1 d_BP_look_64 rfl (lv_at hl 0 rfl) ?_
    refine hp_get S zz hJ h_x f_BP_13 rfl d_BP_look_65 ?_
    exact hp_retRi S hr hlk d_BP_look_68 (by unfold q_lb; rw [if_pos k_0])
  · by_cases k_1 : wh = 1
    · refine lv_tableIn (off := 68) (tgt := 69) S.1 S.2.1 d_BP_look_1 (by rw [k_1]; decide) (by rw [k_1]; decide) (by rw [k_1]; rfl) (by decide) ?_
      refine lv_aload_n S.1 S.2.1 d_BP_look_69 rfl (lv_at hl 0 rfl) ?_
      refine hp_get S zz hJ h_x f_BP_17 rfl d_BP_look_70 ?_
      exact hp_retRi S hr hlk d_BP_look_73 (by unfold q_lb; rw [if_neg k_0, if_pos k_1])
    · by_cases k_2 : wh = 2
      · refine lv_tableIn (off := 73) (tgt := 74) S.1 S.2.1 d_BP_look_1 (by rw [k_2]; decide) (by rw [k_2]; decide) (by rw [k_2]; rfl) (by decide) ?_
        refine lv_aload_n S.1 S.2.1 d_BP_look_74 rfl (lv_at hl 0 rfl) ?_
        refine hp_get S zz hJ h_x f_BP_20 rfl d_BP_look_75 ?_
        exact hp_retRi S hr hlk d_BP_look_78 (by unfold q_lb; rw [if_neg k_0, if_neg k_1, if_pos k_2])
      · by_cases k_3 : wh = 3
        · refine lv_tableIn (off := 78) (tgt := 79) S.1 S.2.1 d_BP_look_1 (by rw [k_3]; decide) (by rw [k_3]; decide) (by rw [k_3]; rfl) (by decide) ?_
          refine lv_aload_n S.1 S.2.1 d_BP_look_79 rfl (lv_at hl 0 rfl) ?_
          refine hp_get S zz hJ h_x f_BP_43 rfl d_BP_look_80 ?_
          refine hp_get S zz hJ h_pil f_BP_183 rfl d_BP_look_83 ?_
          exact hp_retRi S hr hlk d_BP_look_86 (by unfold q_lb; rw [if_neg k_0, if_neg k_1, if_neg k_2, if_pos k_3])
        · by_cases k_4 : wh = 4
          · refine lv_tableIn (off := 86) (tgt := 87) S.1 S.2.1 d_BP_look_1 (by rw [k_4]; decide) (by rw [k_4]; decide) (by rw [k_4]; rfl) (by decide) ?_
            refine lv_aload_n S.1 S.2.1 d_BP_look_87 rfl (lv_at hl 0 rfl) ?_
            refine hp_get S zz hJ h_x f_BP_134 rfl d_BP_look_88 ?_
            exact hp_retRi S hr hlk d_BP_look_91 (by unfold q_lb; rw [if_neg k_0, if_neg k_1, if_neg k_2, if_neg k_3, if_pos k_4])
          · by_cases k_5 : wh = 5
            · refine lv_tableIn (off := 91) (tgt := 92) S.1 S.2.1 d_BP_look_1 (by rw [k_5]; decide) (by rw [k_5]; decide) (by rw [k_5]; rfl) (by decide) ?_
              refine lv_aload_n S.1 S.2.1 d_BP_look_92 rfl (lv_at hl 0 rfl) ?_
              refine hp_get S zz hJ h_x f_BP_70 rfl d_BP_look_93 ?_
              exact hp_retRi S hr hlk d_BP_look_96 (by unfold q_lb; rw [if_neg k_0, if_neg k_1, if_neg k_2, if_neg k_3, if_neg k_4, if_pos k_5])
            · by_cases k_6 : wh = 6
              · refine lv_tableIn (off := 96) (tgt := 97) S.1 S.2.1 d_BP_look_1 (by rw [k_6]; decide) (by rw [k_6]; decide) (by rw [k_6]; rfl) (by decide) ?_
                refine lv_aload_n S.1 S.2.1 d_BP_look_97 rfl (lv_at hl 0 rfl) ?_
                refine hp_get S zz hJ h_x f_BP_73 rfl d_BP_look_98 ?_
                exact hp_retRi S hr hlk d_BP_look_101 (by unfold q_lb; rw [if_neg k_0, if_neg k_1, if_neg k_2, if_neg k_3, if_neg k_4, if_neg k_5, if_pos k_6])
              · by_cases k_7 : wh = 7
                · refine lv_tableIn (off := 101) (tgt := 102) S.1 S.2.1 d_BP_look_1 (by rw [k_7]; decide) (by rw [k_7]; decide) (by rw [k_7]; rfl) (by decide) ?_
                  refine lv_aload_n S.1 S.2.1 d_BP_look_102 rfl (lv_at hl 0 rfl) ?_
                  refine hp_get S zz hJ h_x f_BP_52 rfl d_BP_look_103 ?_
                  refine hp_get S zz hJ h_ink f_BP_186 rfl d_BP_look_106 ?_
                  exact hp_retRi S hr hlk d_BP_look_109 (by unfold q_lb; rw [if_neg k_0, if_neg k_1, if_neg k_2, if_neg k_3, if_neg k_4, if_neg k_5, if_neg k_6, if_pos k_7])
                · by_cases k_8 : wh = 8
                  · refine lv_tableIn (off := 109) (tgt := 110) S.1 S.2.1 d_BP_look_1 (by rw [k_8]; decide) (by rw [k_8]; decide) (by rw [k_8]; rfl) (by decide) ?_
                    refine lv_aload_n S.1 S.2.1 d_BP_look_110 rfl (lv_at hl 0 rfl) ?_
                    refine hp_get S zz hJ h_x f_BP_52 rfl d_BP_look_111 ?_
                    refine hp_get S zz hJ h_ink f_BP_189 rfl d_BP_look_114 ?_
                    exact hp_retRi S hr hlk d_BP_look_117 (by unfold q_lb; rw [if_neg k_0, if_neg k_1, if_neg k_2, if_neg k_3, if_neg k_4, if_neg k_5, if_neg k_6, if_neg k_7, if_pos k_8])
                  · by_cases k_9 : wh = 9
                    · refine lv_tableIn (off := 117) (tgt := 118) S.1 S.2.1 d_BP_look_1 (by rw [k_9]; decide) (by rw [k_9]; decide) (by rw [k_9]; rfl) (by decide) ?_
                      refine lv_aload_n S.1 S.2.1 d_BP_look_118 rfl (lv_at hl 0 rfl) ?_
                      refine hp_get S zz hJ h_x f_BP_107 rfl d_BP_look_119 ?_
                      refine hp_doneR (hp_runS S zz0 (c_BP_oneIf l _) l_BP_179 (hp_pre0 _) (by decide) rfl hl.1 rfl (nl rfl) d_BP_look_122 (by decide)) ?_
                      exact hp_retRi S hr hlk d_BP_look_125 (by unfold q_lb; rw [if_neg k_0, if_neg k_1, if_neg k_2, if_neg k_3, if_neg k_4, if_neg k_5, if_neg k_6, if_neg k_7, if_neg k_8, if_pos k_9])
                    · by_cases k_10 : wh = 10
                      · refine lv_tableIn (off := 125) (tgt := 126) S.1 S.2.1 d_BP_look_1 (by rw [k_10]; decide) (by rw [k_10]; decide) (by rw [k_10]; rfl) (by decide) ?_
                        refine lv_aload_n S.1 S.2.1 d_BP_look_126 rfl (lv_at hl 0 rfl) ?_
                        refine hp_get S zz hJ h_x f_BP_110 rfl d_BP_look_127 ?_
                        refine hp_doneR (hp_runS S zz0 (c_BP_oneIf l _) l_BP_179 (hp_pre0 _) (by decide) rfl hl.1 rfl (nl rfl) d_BP_look_130 (by decide)) ?_
                        exact hp_retRi S hr hlk d_BP_look_133 (by unfold q_lb; rw [if_neg k_0, if_neg k_1, if_neg k_2, if_neg k_3, if_neg k_4, if_neg k_5, if_neg k_6, if_neg k_7, if_neg k_8, if_neg k_9, if_pos k_10])
                      · by_cases k_11 : wh = 11
                        · refine lv_tableIn (off := 133) (tgt := 134) S.1 S.2.1 d_BP_look_1 (by rw [k_11]; decide) (by rw [k_11]; decide) (by rw [k_11]; rfl) (by decide) ?_
                          refine lv_aload_n S.1 S.2.1 d_BP_look_134 rfl (lv_at hl 0 rfl) ?_
                          refine hp_get S zz hJ h_x f_BP_113 rfl d_BP_look_135 ?_
                          exact hp_retRi S hr hlk d_BP_look_138 (by unfold q_lb; rw [if_neg k_0, if_neg k_1, if_neg k_2, if_neg k_3, if_neg k_4, if_neg k_5, if_neg k_6, if_neg k_7, if_neg k_8, if_neg k_9, if_neg k_10, if_pos k_11])
                        · have n_0 : ¬ wh.toInt = 0 := lv_neT k_0 rfl
                          have n_1 : ¬ wh.toInt = 1 := lv_neT k_1 rfl
                          have n_2 : ¬ wh.toInt = 2 := lv_neT k_2 rfl
                          have n_3 : ¬ wh.toInt = 3 := lv_neT k_3 rfl
                          have n_4 : ¬ wh.toInt = 4 := lv_neT k_4 rfl
                          have n_5 : ¬ wh.toInt = 5 := lv_neT k_5 rfl
                          have n_6 : ¬ wh.toInt = 6 := lv_neT k_6 rfl
                          have n_7 : ¬ wh.toInt = 7 := lv_neT k_7 rfl
                          have n_8 : ¬ wh.toInt = 8 := lv_neT k_8 rfl
                          have n_9 : ¬ wh.toInt = 9 := lv_neT k_9 rfl
                          have n_10 : ¬ wh.toInt = 10 := lv_neT k_10 rfl
                          have n_11 : ¬ wh.toInt = 11 := lv_neT k_11 rfl
                          refine lv_tableOut (tgt := 139) S.1 S.2.1 d_BP_look_1 (by omega) (by decide) ?_
                          refine lv_iconst (v := (-1)) S.1 S.2.1 d_BP_look_139 (by decide) ?_
                          exact hp_retRi S hr hlk d_BP_look_140 (by unfold q_lb; rw [if_neg k_0, if_neg k_1, if_neg k_2, if_neg k_3, if_neg k_4, if_neg k_5, if_neg k_6, if_neg k_7, if_neg k_8, if_neg k_9, if_neg k_10, if_neg k_11])

