/-! The painter stamps. -/
def tP (cA : Nat → ClassId) (h h' : hp_T) (up ta w d : Nat) (g : Nat → Option Nat) (f : Nat → Int64) (k q : Nat) : Prop :=
  (g k = some q ∧ h' = h) ∨ (k = 0 ∧ g 0 = none ∧ q = up ∧ h' = hp_up h ta (k_rf (cA 4) 4 (va_up g 0 (some up)))) ∨
  (1 ≤ k ∧ g k = none ∧ ∃ b2, h q = none ∧ h b2 = none ∧ q ≠ b2 ∧ h' = hp_up (hp_up (hp_up h b2 (k_lo (cA 1) (pw (tw (nI k) w d) * tw (nI k) d w) (q_tF (nI k) w d f))) q (k_Pc (nI (tw (nI k) w d)) (nI (tw (nI k) d w)) (nI 1) (nI (pw (tw (nI k) w d))) b2)) ta (k_rf (cA 4) 4 (va_up g k (some q))))

set_option maxHeartbeats 4000000 in
set_option maxRecDepth 100000 in
theorem cN_BP_stamp (l : Launch) (dC : Nat → ClassId) (dI : Nat → Nat → Nat) (cA : Nat → ClassId) (A : Nat → Prop) (h : hp_T) (x sheet shp pil ink clip : Nat) (bf : Nat → Int32) (s9 px py : Int32) (h_x : h x = some (k_BP bf sheet shp pil ink clip)) (hF : ¬ (0 ≤ s9 ∧ s9 ≤ bf 6 - 1)) : Met l y_BP_stamp (.code y_BP_stamp prog_1_method_8_code 5 (some .boolean) :: BIG) ({ frames := 6, cells := 5, slots := 278, locals := 136 }) (va_Pc [.ref x, .int s9, .int px, .int py] (hp_I (gg dC dI cA) A h)) (hp_QW (gg dC dI cA) A hp_mi (fun r h' => r = 0 ∧ h' = h)) 5 278 A := by
  refine hp_enter (by decide) (Nat.le_of_ble_eq_true rfl) ?_
  intro p e s m below meth c ls S hr hlk hin hI hl
  have hl : lv_has ls 5 [(0, .ref x), (1, .int s9), (2, .int px), (3, .int py)] := hl
  have hJ := hI.J
  refine lv_aload_n S.1 S.2.1 d_BP_stamp_0 rfl (lv_at hl 0 rfl) ?_
  refine lv_iload_n S.1 S.2.1 d_BP_stamp_1 rfl (lv_at hl 1 rfl) ?_
  refine hp_doneR (hp_runV S zz0 (cN_BP_shapeOf l dC dI cA A _ x sheet shp pil ink clip bf s9 h_x hF) l_BP_82 (hJ.preV _ h_x rfl) (by decide) rfl hl.1 rfl (nl rfl) d_BP_stamp_2 (by decide)) ?_
  refine lv_astoreN (lv' := [(4, .null), (0, .ref x), (1, .int s9), (2, .int px), (3, .int py)]) S.1 S.2.1 d_BP_stamp_5 hl (by decide) rfl (fun ls hl => ?_)
  refine lv_aloadN S.1 S.2.1 d_BP_stamp_7 (lv_at hl 0 rfl) ?_
  refine lv_ifnullN (tgt := 21) S.1 S.2.1 d_BP_stamp_9 (by decide) ?_
  refine lv_iconst (v := 0) S.1 S.2.1 d_BP_stamp_21 (by decide) ?_
  exact hp_retWz S hJ hr hlk d_BP_stamp_22 (by decide) (by decide) ⟨rfl, rfl⟩

set_option maxHeartbeats 4000000 in
set_option maxRecDepth 100000 in
theorem cS_BP_stamp (l : Launch) (dC : Nat → ClassId) (dI : Nat → Nat → Nat) (cA : Nat → ClassId) (A : Nat → Prop) (h : hp_T) (x sheet shp pil ink clip : Nat) (bf : Nat → Int32) (bl st n : Nat) (sz px py c0 c1 c2 c3 : Int32) (nw : Option Nat) (f g : Nat → Int32) (ss q up ta b w d k9 : Nat) (go gt : Nat → Option Nat) (sd : Int32) (ff : Nat → Int64) (h_x : h x = some (k_BP bf sheet shp pil ink clip)) (hso : bf 10 = 0 ∨ bf 10 = 1) (hio : bf 11 = 0 ∨ bf 11 = 1) (hn : n ≤ 5100) (hc : 0 ≤ c1.toInt ∧ c3.toInt < n) (ne_bl_st : bl ≠ st) (h_pil : h pil = some (k_Pl (nI n) bl st sz nw)) (h_bl : h bl = some (k_in (cA 0) n f)) (h_st : h st = some (k_in (cA 2) n g)) (h_clip : h clip = some (k_Bx c0 c1 c2 c3)) (hF : 0 ≤ nI ss ∧ nI ss ≤ bf 6 - 1) (hs : ss < 64) (hg : go ss = some q) (h_shp : h shp = some (k_rf (cA 3) 64 go)) (hk9 : k9 < 4 ∧ bf 12 = nI k9) (hw : 1 ≤ w ∧ w ≤ 1024) (hd : 1 ≤ d ∧ d ≤ 1024) (hsw : pw w * d ≤ 256) (hsd : pw d * w ≤ 256) (h_q : h q = some (k_Sh up ta sd)) (h_ta : h ta = some (k_rf (cA 4) 4 gt)) (h_up : h up = some (k_Pc (nI w) (nI d) (nI 1) (nI (pw w)) b)) (h_b : h b = some (k_lo (cA 1) (pw w * d) ff)) : Met l y_BP_stamp (.code y_BP_stamp prog_1_method_8_code 5 (some .boolean) :: BIG) ({ frames := 6, cells := 5, slots := 278, locals := 136 }) (va_Pc [.ref x, .int (nI ss), .int px, .int py] (hp_I (gg dC dI cA) A h)) (hp_QW (gg dC dI cA) A hp_mi (fun r h' => (¬ ((-10000 ≤ px ∧ px ≤ 10000) ∧ (-10000 ≤ py ∧ py ≤ 10000) ∧ sz < 4096) ∧ r = 0 ∧ h' = h) ∨ (((-10000 ≤ px ∧ px ≤ 10000) ∧ (-10000 ≤ py ∧ py ≤ 10000) ∧ sz < 4096) ∧ r = 1 ∧ ∃ q8 h8, tP cA (hp_up h q (k_Sh up ta 1)) h8 up ta w d gt ff k9 q8 ∧ lP cA h8 h' pil bl st n ink sz (bf 10) (bf 11) nw (some q8) f g (q_le (bf 12) px (q_ra (bf 12) (nI w) (nI d))) (q_ty (bf 12) py (q_rd (bf 12) (nI w) (nI d))) (q_ra (bf 12) (nI w) (nI d)) (q_rd (bf 12) (nI w) (nI d)) (q_max (q_le (bf 12) px (q_ra (bf 12) (nI w) (nI d))) c0) (q_max (q_ty (bf 12) py (q_rd (bf 12) (nI w) (nI d))) c1) (q_min (q_le (bf 12) px (q_ra (bf 12) (nI w) (nI d)) + q_ra (bf 12) (nI w) (nI d)) c2) (q_min (q_ty (bf 12) py (q_rd (bf 12) (nI w) (nI d)) + q_rd (bf 12) (nI w) (nI d)) c3)))) 5 278 A := by
  refine hp_enter (by decide) (Nat.le_of_ble_eq_true rfl) ?_
  intro p e s m below meth c ls S hr hlk hin hI hl
  have hl : lv_has ls 5 [(0, .ref x), (1, .int (nI ss)), (2, .int px), (3, .int py)] := hl
  have hJ := hI.J
  refine lv_aload_n S.1 S.2.1 d_BP_stamp_0 rfl (lv_at hl 0 rfl) ?_
  refine lv_iload_n S.1 S.2.1 d_BP_stamp_1 rfl (lv_at hl 1 rfl) ?_
  refine hp_doneR (hp_runV S zz0 (cS_BP_shapeOf l dC dI cA A _ x sheet shp pil ink clip bf ss q go h_x hF hs hg h_shp) l_BP_82 (hJ.preV _ h_x rfl) (by decide) rfl hl.1 rfl (nl rfl) d_BP_stamp_2 (by decide)) ?_
  refine lv_astore (lv' := [(4, .ref q), (0, .ref x), (1, .int (nI ss)), (2, .int px), (3, .int py)]) S.1 S.2.1 d_BP_stamp_5 hl (by decide) rfl (fun ls hl => ?_)
  refine lv_aload S.1 S.2.1 d_BP_stamp_7 (lv_at hl 0 rfl) ?_
  refine lv_ifnull S.1 S.2.1 d_BP_stamp_9 ?_
  refine lv_aload_n S.1 S.2.1 d_BP_stamp_12 rfl (lv_at hl 1 rfl) ?_
  refine lv_iload_n S.1 S.2.1 d_BP_stamp_13 rfl (lv_at hl 3 rfl) ?_
  refine lv_iload_n S.1 S.2.1 d_BP_stamp_14 rfl (lv_at hl 4 rfl) ?_
  refine hp_doneR (hp_runV S zz0 (c_BP_canLayAt l dC dI cA A _ x sheet shp pil ink clip bf bl st (nI n) sz nw px py h_x h_pil) l_BP_120 (hJ.preV _ h_x rfl) (by decide) rfl hl.1 rfl (nl rfl) d_BP_stamp_15 (by decide)) ?_
  refine lv_if_ne (tgt := 23) S.1 S.2.1 d_BP_stamp_18 (by decide) (fun c_18 => ?_) (fun c_18 => ?_)
  · refine lv_aload S.1 S.2.1 d_BP_stamp_23 (lv_at hl 0 rfl) ?_
    refine lv_iconst (v := 1) S.1 S.2.1 d_BP_stamp_25 (by decide) ?_
    refine hp_put S zz hJ h_q fp_BP_86 rfl rfl (nl rfl) d_BP_stamp_26 (fun H locs hJ => ?_)
    obtain ⟨h1, eh1⟩ : ∃ z, z = hp_up h q (.inr (6, [.ref up, .ref ta, .int 1])) := ⟨_, rfl⟩
    have hJ := hJ.cast eh1
    have h0_q := h_q
    have h_x : h1 x = some (.inr (0, [.int (bf 0), .int (bf 1), .int (bf 2), .ref sheet, .ref shp, .ref pil, .int (bf 6), .int (bf 7), .int (bf 8), .ref ink, .int (bf 10), .int (bf 11), .int (bf 12), .ref clip])) := by rw [eh1]; exact hp_up_k (hp_ne h_x h0_q (show ((0, 0) : Nat × Nat) ≠ (0, 6) by decide)) h_x
    have h_pil : h1 pil = some (.inr (5, [.int (nI n), .ref bl, .ref st, .int sz, va_rf nw])) := by rw [eh1]; exact hp_up_k (hp_ne h_pil h0_q (show ((0, 5) : Nat × Nat) ≠ (0, 6) by decide)) h_pil
    have h_bl : h1 bl = some (k_in (cA 0) n f) := by rw [eh1]; exact hp_up_k (hp_ne h_bl h0_q (show ((1, 0) : Nat × Nat) ≠ (0, 6) by decide)) h_bl
    have h_st : h1 st = some (k_in (cA 2) n g) := by rw [eh1]; exact hp_up_k (hp_ne h_st h0_q (show ((1, 0) : Nat × Nat) ≠ (0, 6) by decide)) h_st
    have h_clip : h1 clip = some (.inr (1, [.int c0, .int c1, .int c2, .int c3])) := by rw [eh1]; exact hp_up_k (hp_ne h_clip h0_q (show ((0, 1) : Nat × Nat) ≠ (0, 6) by decide)) h_clip
    have h_up : h1 up = some (.inr (4, [.int (nI w), .int (nI d), .int (nI 1), .int (nI (pw w)), .ref b])) := by rw [eh1]; exact hp_up_k (hp_ne h_up h0_q (show ((0, 4) : Nat × Nat) ≠ (0, 6) by decide)) h_up
    have h_b : h1 b = some (k_lo (cA 1) (pw w * d) ff) := by rw [eh1]; exact hp_up_k (hp_ne h_b h0_q (show ((2, 0) : Nat × Nat) ≠ (0, 6) by decide)) h_b
    have h_ta : h1 ta = some (k_rf (cA 4) 4 gt) := by rw [eh1]; exact hp_up_k (hp_ne h_ta h0_q (show ((5, 0) : Nat × Nat) ≠ (0, 6) by decide)) h_ta
    have h_q : h1 q = some (.inr (6, [.ref up, .ref ta, .int 1])) := by rw [eh1]; exact hp_up_s _ _ _
    refine lv_aload_n S.1 S.2.1 d_BP_stamp_29 rfl (lv_at hl 1 rfl) ?_
    refine lv_aload S.1 S.2.1 d_BP_stamp_30 (lv_at hl 0 rfl) ?_
    refine lv_aload_n S.1 S.2.1 d_BP_stamp_32 rfl (lv_at hl 1 rfl) ?_
    refine hp_get S zz hJ h_x f_BP_113 rfl d_BP_stamp_33 ?_
    obtain ⟨hs1, ehs1⟩ : ∃ z, z = h1 := ⟨_, rfl⟩
    by_cases z8 : ∃ q8, gt k9 = some q8
    · obtain ⟨q8, hq8⟩ := z8
      refine hp_doneR (hp_runV S zz0 (cR_Sh_turnedBy l dC dI cA A _ q up ta 1 gt k9 q8 hk9.1 hq8 h_q h_ta) l_BP_123 (hJ.preV [.int (nI k9)] h_q rfl) (by decide) rfl hl.1 (by rw [hk9.2]; rfl) (nl rfl) d_BP_stamp_36 (by decide)) ?_
      have hT : tP cA h1 h1 up ta w d gt ff k9 q8 := Or.inl ⟨hq8, rfl⟩
      refine lv_iload_n S.1 S.2.1 d_BP_stamp_39 rfl (lv_at hl 3 rfl) ?_
      refine lv_iload_n S.1 S.2.1 d_BP_stamp_40 rfl (lv_at hl 4 rfl) ?_
      refine lv_aload S.1 S.2.1 d_BP_stamp_41 (lv_at hl 0 rfl) ?_
      refine hp_get S zz hJ h_q f_BP_90 rfl d_BP_stamp_43 ?_
      refine hp_get S zz hJ h_up f_BP_127 rfl d_BP_stamp_46 ?_
      refine lv_aload S.1 S.2.1 d_BP_stamp_49 (lv_at hl 0 rfl) ?_
      refine hp_get S zz hJ h_q f_BP_90 rfl d_BP_stamp_51 ?_
      refine hp_get S zz hJ h_up f_BP_94 rfl d_BP_stamp_54 ?_
      refine hp_doneWv hJ (hp_runV S zz0 (cS_BP_lay l dC dI cA A _ x sheet shp pil ink clip bf bl st n sz (nI w) (nI d) px py c0 c1 c2 c3 nw f g q8 h_x hso hio hn hc ne_bl_st h_pil h_bl h_st h_clip) l_BP_130 (hJ.preV _ h_x rfl) (by decide) rfl hl.1 rfl (nl rfl) d_BP_stamp_57 (by decide)) (fun h9 H locs eh9 hJ => ?_)
      refine lv_iconst (v := 1) S.1 S.2.1 d_BP_stamp_60 (by decide) ?_
      exact hp_retWz S hJ hr hlk d_BP_stamp_61 (by decide) (by decide) (Or.inr ⟨q_is_ne.mp c_18, rfl, q8, _, eh1 ▸ hT, eh9⟩)
    · have hg8 : gt k9 = none := by cases z7 : gt k9 with | none => rfl | some q7 => exact absurd ⟨q7, z7⟩ z8
      by_cases z9 : k9 = 0
      · have hg0 : gt 0 = none := z9 ▸ hg8
        refine hp_doneWr hJ (hp_runV S zz0 (c0_Sh_turnedBy l dC dI cA A _ q up ta b 1 _ _ _ _ gt hg0 h_q h_ta h_up) l_BP_123 (hJ.preV [.int 0] h_q rfl) (by decide) rfl hl.1 (by rw [hk9.2, z9]; rfl) (nl rfl) d_BP_stamp_36 (by decide)) (fun q8 h8 H locs hx hJ => ?_)
        obtain ⟨e_q8, eh8⟩ := hx
        have hT : tP cA h1 h8 up ta w d gt ff k9 q8 := Or.inr (Or.inl ⟨z9, hg0, e_q8, eh8⟩)
        have h0_ta := h_ta
        have h_x : h8 x = some (.inr (0, [.int (bf 0), .int (bf 1), .int (bf 2), .ref sheet, .ref shp, .ref pil, .int (bf 6), .int (bf 7), .int (bf 8), .ref ink, .int (bf 10), .int (bf 11), .int (bf 12), .ref clip])) := by rw [eh8]; exact hp_up_k (hp_ne h_x h0_ta (show ((0, 0) : Nat × Nat) ≠ (5, 0) by decide)) h_x
        have h_pil : h8 pil = some (.inr (5, [.int (nI n), .ref bl, .ref st, .int sz, va_rf nw])) := by rw [eh8]; exact hp_up_k (hp_ne h_pil h0_ta (show ((0, 5) : Nat × Nat) ≠ (5, 0) by decide)) h_pil
        have h_bl : h8 bl = some (k_in (cA 0) n f) := by rw [eh8]; exact hp_up_k (hp_ne h_bl h0_ta (show ((1, 0) : Nat × Nat) ≠ (5, 0) by decide)) h_bl
        have h_st : h8 st = some (k_in (cA 2) n g) := by rw [eh8]; exact hp_up_k (hp_ne h_st h0_ta (show ((1, 0) : Nat × Nat) ≠ (5, 0) by decide)) h_st
        have h_clip : h8 clip = some (.inr (1, [.int c0, .int c1, .int c2, .int c3])) := by rw [eh8]; exact hp_up_k (hp_ne h_clip h0_ta (show ((0, 1) : Nat × Nat) ≠ (5, 0) by decide)) h_clip
        have h_q : h8 q = some (.inr (6, [.ref up, .ref ta, .int 1])) := by rw [eh8]; exact hp_up_k (hp_ne h_q h0_ta (show ((0, 6) : Nat × Nat) ≠ (5, 0) by decide)) h_q
        have h_up : h8 up = some (.inr (4, [.int (nI w), .int (nI d), .int (nI 1), .int (nI (pw w)), .ref b])) := by rw [eh8]; exact hp_up_k (hp_ne h_up h0_ta (show ((0, 4) : Nat × Nat) ≠ (5, 0) by decide)) h_up
        have h_b : h8 b = some (k_lo (cA 1) (pw w * d) ff) := by rw [eh8]; exact hp_up_k (hp_ne h_b h0_ta (show ((2, 0) : Nat × Nat) ≠ (5, 0) by decide)) h_b
        have h_ta : h8 ta = some (k_rf (cA 4) 4 (va_up gt 0 (some up))) := by rw [eh8]; exact hp_up_s _ _ _
        refine lv_iload_n S.1 S.2.1 d_BP_stamp_39 rfl (lv_at hl 3 rfl) ?_
        refine lv_iload_n S.1 S.2.1 d_BP_stamp_40 rfl (lv_at hl 4 rfl) ?_
        refine lv_aload S.1 S.2.1 d_BP_stamp_41 (lv_at hl 0 rfl) ?_
        refine hp_get S zz hJ h_q f_BP_90 rfl d_BP_stamp_43 ?_
        refine hp_get S zz hJ h_up f_BP_127 rfl d_BP_stamp_46 ?_
        refine lv_aload S.1 S.2.1 d_BP_stamp_49 (lv_at hl 0 rfl) ?_
        refine hp_get S zz hJ h_q f_BP_90 rfl d_BP_stamp_51 ?_
        refine hp_get S zz hJ h_up f_BP_94 rfl d_BP_stamp_54 ?_
        refine hp_doneWv hJ (hp_runV S zz0 (cS_BP_lay l dC dI cA A _ x sheet shp pil ink clip bf bl st n sz (nI w) (nI d) px py c0 c1 c2 c3 nw f g q8 h_x hso hio hn hc ne_bl_st h_pil h_bl h_st h_clip) l_BP_130 (hJ.preV _ h_x rfl) (by decide) rfl hl.1 rfl (nl rfl) d_BP_stamp_57 (by decide)) (fun h9 H locs eh9 hJ => ?_)
        refine lv_iconst (v := 1) S.1 S.2.1 d_BP_stamp_60 (by decide) ?_
        exact hp_retWz S hJ hr hlk d_BP_stamp_61 (by decide) (by decide) (Or.inr ⟨q_is_ne.mp c_18, rfl, q8, _, eh1 ▸ hT, eh9⟩)
      · refine hp_doneWr hJ (hp_runV S zz0 (c_Sh_turnedBy l dC dI cA A _ q up ta b w d 1 ff gt k9 ⟨by omega, hk9.1⟩ hg8 hw hd hsw hsd h_q h_ta h_up h_b) l_BP_123 (hJ.preV [.int (nI k9)] h_q rfl) (by decide) rfl hl.1 (by rw [hk9.2]; rfl) (nl rfl) d_BP_stamp_36 (by decide)) (fun q8 h8 H locs hx hJ => ?_)
        have hT : tP cA h1 h8 up ta w d gt ff k9 q8 := Or.inr (Or.inr ⟨by omega, hg8, hx⟩)
        obtain ⟨b2, hN_q8, hN_b2, ne_q8_b2, eh8⟩ := hx
        have h_x : h8 x = some (.inr (0, [.int (bf 0), .int (bf 1), .int (bf 2), .ref sheet, .ref shp, .ref pil, .int (bf 6), .int (bf 7), .int (bf 8), .ref ink, .int (bf 10), .int (bf 11), .int (bf 12), .ref clip])) := by rw [eh8]; exact hp_up_k (hp_ne h_x h_ta (show ((0, 0) : Nat × Nat) ≠ (5, 0) by decide)) (hp_up_k (hp_neN h_x hN_q8) (hp_up_k (hp_neN h_x hN_b2) h_x))
        have h_pil : h8 pil = some (.inr (5, [.int (nI n), .ref bl, .ref st, .int sz, va_rf nw])) := by rw [eh8]; exact hp_up_k (hp_ne h_pil h_ta (show ((0, 5) : Nat × Nat) ≠ (5, 0) by decide)) (hp_up_k (hp_neN h_pil hN_q8) (hp_up_k (hp_neN h_pil hN_b2) h_pil))
        have h_bl : h8 bl = some (k_in (cA 0) n f) := by rw [eh8]; exact hp_up_k (hp_ne h_bl h_ta (show ((1, 0) : Nat × Nat) ≠ (5, 0) by decide)) (hp_up_k (hp_neN h_bl hN_q8) (hp_up_k (hp_neN h_bl hN_b2) h_bl))
        have h_st : h8 st = some (k_in (cA 2) n g) := by rw [eh8]; exact hp_up_k (hp_ne h_st h_ta (show ((1, 0) : Nat × Nat) ≠ (5, 0) by decide)) (hp_up_k (hp_neN h_st hN_q8) (hp_up_k (hp_neN h_st hN_b2) h_st))
        have h_clip : h8 clip = some (.inr (1, [.int c0, .int c1, .int c2, .int c3])) := by rw [eh8]; exact hp_up_k (hp_ne h_clip h_ta (show ((0, 1) : Nat × Nat) ≠ (5, 0) by decide)) (hp_up_k (hp_neN h_clip hN_q8) (hp_up_k (hp_neN h_clip hN_b2) h_clip))
        have h_q : h8 q = some (.inr (6, [.ref up, .ref ta, .int 1])) := by rw [eh8]; exact hp_up_k (hp_ne h_q h_ta (show ((0, 6) : Nat × Nat) ≠ (5, 0) by decide)) (hp_up_k (hp_neN h_q hN_q8) (hp_up_k (hp_neN h_q hN_b2) h_q))
        have h_up : h8 up = some (.inr (4, [.int (nI w), .int (nI d), .int (nI 1), .int (nI (pw w)), .ref b])) := by rw [eh8]; exact hp_up_k (hp_ne h_up h_ta (show ((0, 4) : Nat × Nat) ≠ (5, 0) by decide)) (hp_up_k (hp_neN h_up hN_q8) (hp_up_k (hp_neN h_up hN_b2) h_up))
        refine lv_iload_n S.1 S.2.1 d_BP_stamp_39 rfl (lv_at hl 3 rfl) ?_
        refine lv_iload_n S.1 S.2.1 d_BP_stamp_40 rfl (lv_at hl 4 rfl) ?_
        refine lv_aload S.1 S.2.1 d_BP_stamp_41 (lv_at hl 0 rfl) ?_
        refine hp_get S zz hJ h_q f_BP_90 rfl d_BP_stamp_43 ?_
        refine hp_get S zz hJ h_up f_BP_127 rfl d_BP_stamp_46 ?_
        refine lv_aload S.1 S.2.1 d_BP_stamp_49 (lv_at hl 0 rfl) ?_
        refine hp_get S zz hJ h_q f_BP_90 rfl d_BP_stamp_51 ?_
        refine hp_get S zz hJ h_up f_BP_94 rfl d_BP_stamp_54 ?_
        refine hp_doneWv hJ (hp_runV S zz0 (cS_BP_lay l dC dI cA A _ x sheet shp pil ink clip bf bl st n sz (nI w) (nI d) px py c0 c1 c2 c3 nw f g q8 h_x hso hio hn hc ne_bl_st h_pil h_bl h_st h_clip) l_BP_130 (hJ.preV _ h_x rfl) (by decide) rfl hl.1 rfl (nl rfl) d_BP_stamp_57 (by decide)) (fun h9 H locs eh9 hJ => ?_)
        refine lv_iconst (v := 1) S.1 S.2.1 d_BP_stamp_60 (by decide) ?_
        exact hp_retWz S hJ hr hlk d_BP_stamp_61 (by decide) (by decide) (Or.inr ⟨q_is_ne.mp c_18, rfl, q8, _, eh1 ▸ hT, eh9⟩)
  · refine lv_iconst (v := 0) S.1 S.2.1 d_BP_stamp_21 (by decide) ?_
    exact hp_retWz S hJ hr hlk d_BP_stamp_22 (by decide) (by decide) (Or.inl ⟨q_is_0.mp c_18, rfl, rfl⟩)

