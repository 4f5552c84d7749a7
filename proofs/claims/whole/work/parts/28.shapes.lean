/-! Shapes drawn and turned; marks and piles made. -/
def q_sd (d wd w : Int32) (f : Nat → Int64) (j : Int32) (left right : Int64) : Nat → Int64 := q_sw d wd (q_sw d wd f j 0 (left &&& q_fd w)) j 1 (right &&& q_fd (w - 64))
def q_n4 (g : Nat → Option Nat) : Nat → Option Nat := va_up (va_up (va_up (va_up g 0 none) 1 none) 2 none) 3 none
abbrev k_Pl (lines : Int32) (bl st : Nat) (size : Int32) (nw : Option Nat) : va_E := .inr (5, [.int lines, .ref bl, .ref st, .int size, va_rf nw])
theorem z_nar1 : vp_nar .boolean 1 = 1 := rfl
theorem z_nar0 : vp_nar .boolean 0 = 0 := rfl

set_option maxHeartbeats 4000000 in
set_option maxRecDepth 100000 in
theorem c_Sh_redraw (l : Launch) (dC : Nat → ClassId) (dI : Nat → Nat → Nat) (cA : Nat → ClassId) (A : Nat → Prop) (h : hp_T) (t up ta b : Nat) (sd w d tl wd : Int32) (n : Nat) (f : Nat → Int64) (g : Nat → Option Nat) (j : Int32) (left right : Int64) (h_t : h t = some (k_Sh up ta sd)) (h_up : h up = some (k_Pc w d tl wd b)) (h_b : h b = some (k_lo (cA 1) n f)) (h_ta : h ta = some (k_rf (cA 4) 4 g)) (hix : ∀ j k : Int32, 0 ≤ j ∧ j < d ∧ 0 ≤ k ∧ k < wd → vp_in (j * wd + k) n) : Met l y_Sh_redraw (.code y_Sh_redraw prog_7_method_2_code 7 none :: BIG) ({ frames := 3, cells := 0, slots := 0, locals := 71 }) (va_Pc [.ref t, .int j, .long left, .long right] (hp_I (gg dC dI cA) A h)) (hp_QW (gg dC dI cA) A hp_mv (fun _ h' => h' = hp_up (hp_up h b (k_lo (cA 1) n (q_sd d wd w f j left right))) ta (k_rf (cA 4) 4 (q_n4 g)))) 0 0 A := by
  refine hp_enter (by decide) (Nat.le_of_ble_eq_true rfl) ?_
  intro p e s m below meth c ls S hr hlk hin hI hl
  have hl : lv_has ls 7 [(0, .ref t), (1, .int j), (2, .long left), (4, .long right)] := hl
  have hJ := hI.J
  refine lv_aload_n S.1 S.2.1 d_Sh_redraw_0 rfl (lv_at hl 0 rfl) ?_
  refine hp_get S zz hJ h_t f_Sh_14 rfl d_Sh_redraw_1 ?_
  refine lv_iload_n S.1 S.2.1 d_Sh_redraw_4 rfl (lv_at hl 1 rfl) ?_
  refine lv_lload_n S.1 S.2.1 d_Sh_redraw_5 rfl (lv_at hl 2 rfl) ?_
  refine lv_lload S.1 S.2.1 d_Sh_redraw_6 (lv_at hl 3 rfl) ?_
  refine hp_doneWv hJ (hp_runV S zz0 (c_Pc_setDots l dC dI cA A _ up b _ _ _ _ _ _ j left right h_up h_b hix) l_Sh_24 (hJ.preV _ h_up rfl) (by decide) rfl hl.1 rfl (nl rfl) d_Sh_redraw_8 (by decide)) (fun h1 H locs eh1 hJ => ?_)
  have h0_b := h_b
  have h_t : h1 t = some (.inr (6, [.ref up, .ref ta, .int sd])) := by rw [eh1]; exact hp_up_k (hp_ne h_t h0_b (show ((0, 6) : Nat × Nat) ≠ (2, 0) by decide)) h_t
  have h_up : h1 up = some (.inr (4, [.int w, .int d, .int tl, .int wd, .ref b])) := by rw [eh1]; exact hp_up_k (hp_ne h_up h0_b (show ((0, 4) : Nat × Nat) ≠ (2, 0) by decide)) h_up
  have h_ta : h1 ta = some (k_rf (cA 4) 4 g) := by rw [eh1]; exact hp_up_k (hp_ne h_ta h0_b (show ((5, 0) : Nat × Nat) ≠ (2, 0) by decide)) h_ta
  have h_b : h1 b = some (k_lo (cA 1) n (q_sd d wd w f j left right)) := by rw [eh1]; exact hp_up_s _ _ _
  refine lv_iconst (v := 0) S.1 S.2.1 d_Sh_redraw_11 (by decide) ?_
  refine lv_istore (lv' := [(6, .int 0), (0, .ref t), (1, .int j), (2, .long left), (4, .long right)]) S.1 S.2.1 d_Sh_redraw_12 hl (by decide) rfl (fun ls hl => ?_)
  refine lv_iload S.1 S.2.1 d_Sh_redraw_14 (lv_at hl 0 rfl) ?_
  refine lv_iconst (v := 4) S.1 S.2.1 d_Sh_redraw_16 (by decide) ?_
  refine lv_icmp_ge (tgt := 34) S.1 S.2.1 d_Sh_redraw_17 (by decide) (fun q => absurd q (by decide)) (fun _ => ?_)
  refine lv_aload_n S.1 S.2.1 d_Sh_redraw_20 rfl (lv_at hl 1 rfl) ?_
  refine hp_get S zz hJ h_t f_Sh_20 rfl d_Sh_redraw_21 ?_
  refine lv_iload S.1 S.2.1 d_Sh_redraw_24 (lv_at hl 0 rfl) ?_
  refine lv_null S.1 S.2.1 d_Sh_redraw_26 ?_
  refine hp_aastN S hJ 4 h_ta rfl (by unfold vp_in; decide) d_Sh_redraw_27 (fun H locs hJ => ?_)
  obtain ⟨h2, eh2⟩ : ∃ z, z = hp_up h1 ta (k_rf (cA 4) 4 (va_up g 0 none)) := ⟨_, rfl⟩
  have hJ := hJ.cast eh2
  have h0_ta := h_ta
  have h_t : h2 t = some (.inr (6, [.ref up, .ref ta, .int sd])) := by rw [eh2]; exact hp_up_k (hp_ne h_t h0_ta (show ((0, 6) : Nat × Nat) ≠ (5, 0) by decide)) h_t
  have h_up : h2 up = some (.inr (4, [.int w, .int d, .int tl, .int wd, .ref b])) := by rw [eh2]; exact hp_up_k (hp_ne h_up h0_ta (show ((0, 4) : Nat × Nat) ≠ (5, 0) by decide)) h_up
  have h_b : h2 b = some (k_lo (cA 1) n (q_sd d wd w f j left right)) := by rw [eh2]; exact hp_up_k (hp_ne h_b h0_ta (show ((2, 0) : Nat × Nat) ≠ (5, 0) by decide)) h_b
  have h_ta : h2 ta = some (k_rf (cA 4) 4 (va_up g 0 none)) := by rw [eh2]; exact hp_up_s _ _ _
  refine lv_iinc (v := 1) (lv' := [(6, .int 1), (0, .ref t), (1, .int j), (2, .long left), (4, .long right)]) S.1 S.2.1 d_Sh_redraw_28 hl (k := 0) rfl (by decide) (by decide) rfl (fun ls hl => ?_)
  refine lv_goto (tgt := 14) S.1 S.2.1 d_Sh_redraw_31 (by decide) ?_
  refine lv_iload S.1 S.2.1 d_Sh_redraw_14 (lv_at hl 0 rfl) ?_
  refine lv_iconst (v := 4) S.1 S.2.1 d_Sh_redraw_16 (by decide) ?_
  refine lv_icmp_ge (tgt := 34) S.1 S.2.1 d_Sh_redraw_17 (by decide) (fun q => absurd q (by decide)) (fun _ => ?_)
  refine lv_aload_n S.1 S.2.1 d_Sh_redraw_20 rfl (lv_at hl 1 rfl) ?_
  refine hp_get S zz hJ h_t f_Sh_20 rfl d_Sh_redraw_21 ?_
  refine lv_iload S.1 S.2.1 d_Sh_redraw_24 (lv_at hl 0 rfl) ?_
  refine lv_null S.1 S.2.1 d_Sh_redraw_26 ?_
  refine hp_aastN S hJ 4 h_ta rfl (by unfold vp_in; decide) d_Sh_redraw_27 (fun H locs hJ => ?_)
  obtain ⟨h3, eh3⟩ : ∃ z, z = hp_up h2 ta (k_rf (cA 4) 4 (va_up (va_up g 0 none) 1 none)) := ⟨_, rfl⟩
  have hJ := hJ.cast eh3
  have h0_ta := h_ta
  have h_t : h3 t = some (.inr (6, [.ref up, .ref ta, .int sd])) := by rw [eh3]; exact hp_up_k (hp_ne h_t h0_ta (show ((0, 6) : Nat × Nat) ≠ (5, 0) by decide)) h_t
  have h_up : h3 up = some (.inr (4, [.int w, .int d, .int tl, .int wd, .ref b])) := by rw [eh3]; exact hp_up_k (hp_ne h_up h0_ta (show ((0, 4) : Nat × Nat) ≠ (5, 0) by decide)) h_up
  have h_b : h3 b = some (k_lo (cA 1) n (q_sd d wd w f j left right)) := by rw [eh3]; exact hp_up_k (hp_ne h_b h0_ta (show ((2, 0) : Nat × Nat) ≠ (5, 0) by decide)) h_b
  have h_ta : h3 ta = some (k_rf (cA 4) 4 (va_up (va_up g 0 none) 1 none)) := by rw [eh3]; exact hp_up_s _ _ _
  refine lv_iinc (v := 2) (lv' := [(6, .int 2), (0, .ref t), (1, .int j), (2, .long left), (4, .long right)]) S.1 S.2.1 d_Sh_redraw_28 hl (k := 0) rfl (by decide) (by decide) rfl (fun ls hl => ?_)
  refine lv_goto (tgt := 14) S.1 S.2.1 d_Sh_redraw_31 (by decide) ?_
  refine lv_iload S.1 S.2.1 d_Sh_redraw_14 (lv_at hl 0 rfl) ?_
  refine lv_iconst (v := 4) S.1 S.2.1 d_Sh_redraw_16 (by decide) ?_
  refine lv_icmp_ge (tgt := 34) S.1 S.2.1 d_Sh_redraw_17 (by decide) (fun q => absurd q (by decide)) (fun _ => ?_)
  refine lv_aload_n S.1 S.2.1 d_Sh_redraw_20 rfl (lv_at hl 1 rfl) ?_
  refine hp_get S zz hJ h_t f_Sh_20 rfl d_Sh_redraw_21 ?_
  refine lv_iload S.1 S.2.1 d_Sh_redraw_24 (lv_at hl 0 rfl) ?_
  refine lv_null S.1 S.2.1 d_Sh_redraw_26 ?_
  refine hp_aastN S hJ 4 h_ta rfl (by unfold vp_in; decide) d_Sh_redraw_27 (fun H locs hJ => ?_)
  obtain ⟨h4, eh4⟩ : ∃ z, z = hp_up h3 ta (k_rf (cA 4) 4 (va_up (va_up (va_up g 0 none) 1 none) 2 none)) := ⟨_, rfl⟩
  have hJ := hJ.cast eh4
  have h0_ta := h_ta
  have h_t : h4 t = some (.inr (6, [.ref up, .ref ta, .int sd])) := by rw [eh4]; exact hp_up_k (hp_ne h_t h0_ta (show ((0, 6) : Nat × Nat) ≠ (5, 0) by decide)) h_t
  have h_up : h4 up = some (.inr (4, [.int w, .int d, .int tl, .int wd, .ref b])) := by rw [eh4]; exact hp_up_k (hp_ne h_up h0_ta (show ((0, 4) : Nat × Nat) ≠ (5, 0) by decide)) h_up
  have h_b : h4 b = some (k_lo (cA 1) n (q_sd d wd w f j left right)) := by rw [eh4]; exact hp_up_k (hp_ne h_b h0_ta (show ((2, 0) : Nat × Nat) ≠ (5, 0) by decide)) h_b
  have h_ta : h4 ta = some (k_rf (cA 4) 4 (va_up (va_up (va_up g 0 none) 1 none) 2 none)) := by rw [eh4]; exact hp_up_s _ _ _
  refine lv_iinc (v := 3) (lv' := [(6, .int 3), (0, .ref t), (1, .int j), (2, .long left), (4, .long right)]) S.1 S.2.1 d_Sh_redraw_28 hl (k := 0) rfl (by decide) (by decide) rfl (fun ls hl => ?_)
  refine lv_goto (tgt := 14) S.1 S.2.1 d_Sh_redraw_31 (by decide) ?_
  refine lv_iload S.1 S.2.1 d_Sh_redraw_14 (lv_at hl 0 rfl) ?_
  refine lv_iconst (v := 4) S.1 S.2.1 d_Sh_redraw_16 (by decide) ?_
  refine lv_icmp_ge (tgt := 34) S.1 S.2.1 d_Sh_redraw_17 (by decide) (fun q => absurd q (by decide)) (fun _ => ?_)
  refine lv_aload_n S.1 S.2.1 d_Sh_redraw_20 rfl (lv_at hl 1 rfl) ?_
  refine hp_get S zz hJ h_t f_Sh_20 rfl d_Sh_redraw_21 ?_
  refine lv_iload S.1 S.2.1 d_Sh_redraw_24 (lv_at hl 0 rfl) ?_
  refine lv_null S.1 S.2.1 d_Sh_redraw_26 ?_
  refine hp_aastN S hJ 4 h_ta rfl (by unfold vp_in; decide) d_Sh_redraw_27 (fun H locs hJ => ?_)
  obtain ⟨h5, eh5⟩ : ∃ z, z = hp_up h4 ta (k_rf (cA 4) 4 (va_up (va_up (va_up (va_up g 0 none) 1 none) 2 none) 3 none)) := ⟨_, rfl⟩
  have hJ := hJ.cast eh5
  have h0_ta := h_ta
  have h_t : h5 t = some (.inr (6, [.ref up, .ref ta, .int sd])) := by rw [eh5]; exact hp_up_k (hp_ne h_t h0_ta (show ((0, 6) : Nat × Nat) ≠ (5, 0) by decide)) h_t
  have h_up : h5 up = some (.inr (4, [.int w, .int d, .int tl, .int wd, .ref b])) := by rw [eh5]; exact hp_up_k (hp_ne h_up h0_ta (show ((0, 4) : Nat × Nat) ≠ (5, 0) by decide)) h_up
  have h_b : h5 b = some (k_lo (cA 1) n (q_sd d wd w f j left right)) := by rw [eh5]; exact hp_up_k (hp_ne h_b h0_ta (show ((2, 0) : Nat × Nat) ≠ (5, 0) by decide)) h_b
  have h_ta : h5 ta = some (k_rf (cA 4) 4 (va_up (va_up (va_up (va_up g 0 none) 1 none) 2 none) 3 none)) := by rw [eh5]; exact hp_up_s _ _ _
  refine lv_iinc (v := 4) (lv' := [(6, .int 4), (0, .ref t), (1, .int j), (2, .long left), (4, .long right)]) S.1 S.2.1 d_Sh_redraw_28 hl (k := 0) rfl (by decide) (by decide) rfl (fun ls hl => ?_)
  refine lv_goto (tgt := 14) S.1 S.2.1 d_Sh_redraw_31 (by decide) ?_
  refine lv_iload S.1 S.2.1 d_Sh_redraw_14 (lv_at hl 0 rfl) ?_
  refine lv_iconst (v := 4) S.1 S.2.1 d_Sh_redraw_16 (by decide) ?_
  refine lv_icmp_ge (tgt := 34) S.1 S.2.1 d_Sh_redraw_17 (by decide) (fun _ => ?_) (fun q => absurd (by decide) q)
  exact hp_retWv S hJ hr hlk d_Sh_redraw_34 (by decide) (by rw [eh5, eh4, eh3, eh2, eh1, hp_up_up, hp_up_up, hp_up_up]; rfl)

set_option maxHeartbeats 4000000 in
set_option maxRecDepth 100000 in
theorem cR_Sh_turnedBy (l : Launch) (dC : Nat → ClassId) (dI : Nat → Nat → Nat) (cA : Nat → ClassId) (A : Nat → Prop) (h : hp_T) (t up ta : Nat) (sd : Int32) (g : Nat → Option Nat) (k q : Nat) (hk : k < 4) (hg : g k = some q) (h_t : h t = some (k_Sh up ta sd)) (h_ta : h ta = some (k_rf (cA 4) 4 g)) : Met l y_Sh_turnedBy (.code y_Sh_turnedBy prog_7_method_3_code 2 (some (.object "BandPainter$Picture")) :: BIG) ({ frames := 5, cells := 0, slots := 0, locals := 115 }) (va_Pc [.ref t, .int (nI k)] (hp_I (gg dC dI cA) A h)) (hp_QR (some (.ref q))) 0 0 (fun _ => False) := by
  refine hp_enter (by decide) (Nat.le_of_ble_eq_true rfl) ?_
  intro p e s m below meth c ls S hr hlk hin hI hl
  have hl : lv_has ls 2 [(0, .ref t), (1, .int (nI k))] := hl
  have hJ := hI.J
  refine lv_iconst (v := 0) S.1 S.2.1 d_Sh_turnedBy_0 (by decide) ?_
  refine lv_iload_n S.1 S.2.1 d_Sh_turnedBy_1 rfl (lv_at hl 1 rfl) ?_
  refine lv_iconst (v := 3) S.1 S.2.1 d_Sh_turnedBy_2 (by decide) ?_
  refine hp_doneR (hp_runN S zz hJ.2.1 (c_BP_isWithin l _ _ _) l_Sh_28 (hp_pre0 _) (by decide) rfl hl.1 rfl (nl rfl) d_Sh_turnedBy_3 (by decide)) ?_
  refine lv_if_ne (tgt := 14) S.1 S.2.1 d_Sh_turnedBy_6 (by decide) (fun _ => ?_) (fun q => absurd q (q_is_ne.mpr ⟨nI_pos' (by omega), nI_le (a := k) (b := 3) (by omega) (by decide)⟩))
  refine lv_aload_n S.1 S.2.1 d_Sh_turnedBy_14 rfl (lv_at hl 0 rfl) ?_
  refine hp_get S zz hJ h_t f_Sh_20 rfl d_Sh_turnedBy_15 ?_
  refine lv_iload_n S.1 S.2.1 d_Sh_turnedBy_18 rfl (lv_at hl 1 rfl) ?_
  refine hp_aald S hJ 4 h_ta rfl (vp_in_nI hk (by decide)) d_Sh_turnedBy_19 ?_
  rw [nI_clamp (by omega), hg]
  refine lv_ifnonnull (tgt := 37) S.1 S.2.1 d_Sh_turnedBy_20 (by decide) ?_
  refine lv_aload_n S.1 S.2.1 d_Sh_turnedBy_37 rfl (lv_at hl 0 rfl) ?_
  refine hp_get S zz hJ h_t f_Sh_20 rfl d_Sh_turnedBy_38 ?_
  refine lv_iload_n S.1 S.2.1 d_Sh_turnedBy_41 rfl (lv_at hl 1 rfl) ?_
  refine hp_aald S hJ 4 h_ta rfl (vp_in_nI hk (by decide)) d_Sh_turnedBy_42 ?_
  rw [nI_clamp (by omega), hg]
  exact hp_retRa S hr hlk d_Sh_turnedBy_43 (Or.inr ⟨_, rfl⟩)

set_option maxHeartbeats 4000000 in
set_option maxRecDepth 100000 in
theorem c0_Sh_turnedBy (l : Launch) (dC : Nat → ClassId) (dI : Nat → Nat → Nat) (cA : Nat → ClassId) (A : Nat → Prop) (h : hp_T) (t up ta b : Nat) (sd w d tl wd : Int32) (g : Nat → Option Nat) (hg : g 0 = none) (h_t : h t = some (k_Sh up ta sd)) (h_ta : h ta = some (k_rf (cA 4) 4 g)) (h_up : h up = some (k_Pc w d tl wd b)) : Met l y_Sh_turnedBy (.code y_Sh_turnedBy prog_7_method_3_code 2 (some (.object "BandPainter$Picture")) :: BIG) ({ frames := 5, cells := 2, slots := 261, locals := 115 }) (va_Pc [.ref t, .int 0] (hp_I (gg dC dI cA) A h)) (hp_QW (gg dC dI cA) A hp_mr (fun r h' => r = up ∧ h' = hp_up h ta (k_rf (cA 4) 4 (va_up g 0 (some up))))) 2 261 A := by
  refine hp_enter (by decide) (Nat.le_of_ble_eq_true rfl) ?_
  intro p e s m below meth c ls S hr hlk hin hI hl
  have hl : lv_has ls 2 [(0, .ref t), (1, .int 0)] := hl
  have hJ := hI.J
  refine lv_iconst (v := 0) S.1 S.2.1 d_Sh_turnedBy_0 (by decide) ?_
  refine lv_iload_n S.1 S.2.1 d_Sh_turnedBy_1 rfl (lv_at hl 1 rfl) ?_
  refine lv_iconst (v := 3) S.1 S.2.1 d_Sh_turnedBy_2 (by decide) ?_
  refine hp_doneR (hp_runN S zz hJ.2.1 (c_BP_isWithin l _ _ _) l_Sh_28 (hp_pre0 _) (by decide) rfl hl.1 rfl (nl rfl) d_Sh_turnedBy_3 (by decide)) ?_
  refine lv_if_ne (tgt := 14) S.1 S.2.1 d_Sh_turnedBy_6 (by decide) (fun _ => ?_) (fun q => absurd q (q_is_ne.mpr ⟨by decide, by decide⟩))
  refine lv_aload_n S.1 S.2.1 d_Sh_turnedBy_14 rfl (lv_at hl 0 rfl) ?_
  refine hp_get S zz hJ h_t f_Sh_20 rfl d_Sh_turnedBy_15 ?_
  refine lv_iload_n S.1 S.2.1 d_Sh_turnedBy_18 rfl (lv_at hl 1 rfl) ?_
  refine hp_aald S hJ 4 h_ta rfl (by unfold vp_in; decide) d_Sh_turnedBy_19 ?_
  rw [show (0 : Int32).toNatClampNeg = 0 from rfl, hg]
  refine lv_ifnonnullN S.1 S.2.1 d_Sh_turnedBy_20 ?_
  refine lv_aload_n S.1 S.2.1 d_Sh_turnedBy_23 rfl (lv_at hl 0 rfl) ?_
  refine hp_get S zz hJ h_t f_Sh_20 rfl d_Sh_turnedBy_24 ?_
  refine lv_iload_n S.1 S.2.1 d_Sh_turnedBy_27 rfl (lv_at hl 1 rfl) ?_
  refine lv_aload_n S.1 S.2.1 d_Sh_turnedBy_28 rfl (lv_at hl 0 rfl) ?_
  refine hp_get S zz hJ h_t f_Sh_14 rfl d_Sh_turnedBy_29 ?_
  refine lv_iload_n S.1 S.2.1 d_Sh_turnedBy_32 rfl (lv_at hl 1 rfl) ?_
  refine hp_doneR (hp_runV S zz0 (c0_Pc_turnedBy l dC dI cA A _ up) l_Sh_32 (hJ.preV _ h_up rfl) (by decide) rfl hl.1 rfl (nl rfl) d_Sh_turnedBy_33 (by decide)) ?_
  refine hp_aast S hJ 4 4 h_ta rfl h_up rfl (by unfold vp_in; decide) d_Sh_turnedBy_36 (fun H locs hJ => ?_)
  obtain ⟨h1, eh1⟩ : ∃ z, z = hp_up h ta (k_rf (cA 4) 4 (va_up g 0 (some up))) := ⟨_, rfl⟩
  have hJ := hJ.cast eh1
  have h0_ta := h_ta
  have h_t : h1 t = some (.inr (6, [.ref up, .ref ta, .int sd])) := by rw [eh1]; exact hp_up_k (hp_ne h_t h0_ta (show ((0, 6) : Nat × Nat) ≠ (5, 0) by decide)) h_t
  have h_up : h1 up = some (.inr (4, [.int w, .int d, .int tl, .int wd, .ref b])) := by rw [eh1]; exact hp_up_k (hp_ne h_up h0_ta (show ((0, 4) : Nat × Nat) ≠ (5, 0) by decide)) h_up
  have h_ta : h1 ta = some (k_rf (cA 4) 4 (va_up g 0 (some up))) := by rw [eh1]; exact hp_up_s _ _ _
  refine lv_aload_n S.1 S.2.1 d_Sh_turnedBy_37 rfl (lv_at hl 0 rfl) ?_
  refine hp_get S zz hJ h_t f_Sh_20 rfl d_Sh_turnedBy_38 ?_
  refine lv_iload_n S.1 S.2.1 d_Sh_turnedBy_41 rfl (lv_at hl 1 rfl) ?_
  refine hp_aald S hJ 4 h_ta rfl (by unfold vp_in; decide) d_Sh_turnedBy_42 ?_
  rw [show va_up g 0 (some up) (0 : Int32).toNatClampNeg = some up from va_up_self _ _ _]
  exact hp_retWr S hJ hr hlk d_Sh_turnedBy_43 (by decide) ⟨rfl, eh1⟩

set_option maxHeartbeats 4000000 in
set_option maxRecDepth 100000 in
theorem c_Sh_turnedBy (l : Launch) (dC : Nat → ClassId) (dI : Nat → Nat → Nat) (cA : Nat → ClassId) (A : Nat → Prop) (h : hp_T) (t up ta b w d : Nat) (sd : Int32) (f : Nat → Int64) (g : Nat → Option Nat) (k : Nat) (hk : 1 ≤ k ∧ k < 4) (hg : g k = none) (hw : 1 ≤ w ∧ w ≤ 1024) (hd : 1 ≤ d ∧ d ≤ 1024) (hs : pw w * d ≤ 256) (hs2 : pw d * w ≤ 256) (h_t : h t = some (k_Sh up ta sd)) (h_ta : h ta = some (k_rf (cA 4) 4 g)) (h_up : h up = some (k_Pc (nI w) (nI d) (nI 1) (nI (pw w)) b)) (h_b : h b = some (k_lo (cA 1) (pw w * d) f)) : Met l y_Sh_turnedBy (.code y_Sh_turnedBy prog_7_method_3_code 2 (some (.object "BandPainter$Picture")) :: BIG) ({ frames := 5, cells := 2, slots := 261, locals := 115 }) (va_Pc [.ref t, .int (nI k)] (hp_I (gg dC dI cA) A h)) (hp_QW (gg dC dI cA) A hp_mr (fun r h' => ∃ b2, h r = none ∧ h b2 = none ∧ r ≠ b2 ∧ h' = hp_up (hp_up (hp_up h b2 (k_lo (cA 1) (pw (tw (nI k) w d) * tw (nI k) d w) (q_tF (nI k) w d f))) r (k_Pc (nI (tw (nI k) w d)) (nI (tw (nI k) d w)) (nI 1) (nI (pw (tw (nI k) w d))) b2)) ta (k_rf (cA 4) 4 (va_up g k (some r))))) 2 261 A := by
  refine hp_enter (by decide) (Nat.le_of_ble_eq_true rfl) ?_
  intro p e s m below meth c ls S hr hlk hin hI hl
  have hl : lv_has ls 2 [(0, .ref t), (1, .int (nI k))] := hl
  have hJ := hI.J
  refine lv_iconst (v := 0) S.1 S.2.1 d_Sh_turnedBy_0 (by decide) ?_
  refine lv_iload_n S.1 S.2.1 d_Sh_turnedBy_1 rfl (lv_at hl 1 rfl) ?_
  refine lv_iconst (v := 3) S.1 S.2.1 d_Sh_turnedBy_2 (by decide) ?_
  refine hp_doneR (hp_runN S zz hJ.2.1 (c_BP_isWithin l _ _ _) l_Sh_28 (hp_pre0 _) (by decide) rfl hl.1 rfl (nl rfl) d_Sh_turnedBy_3 (by decide)) ?_
  refine lv_if_ne (tgt := 14) S.1 S.2.1 d_Sh_turnedBy_6 (by decide) (fun _ => ?_) (fun q => absurd q (q_is_ne.mpr ⟨nI_pos' (by omega), nI_le (a := k) (b := 3) (by omega) (by decide)⟩))
  refine lv_aload_n S.1 S.2.1 d_Sh_turnedBy_14 rfl (lv_at hl 0 rfl) ?_
  refine hp_get S zz hJ h_t f_Sh_20 rfl d_Sh_turnedBy_15 ?_
  refine lv_iload_n S.1 S.2.1 d_Sh_turnedBy_18 rfl (lv_at hl 1 rfl) ?_
  refine hp_aald S hJ 4 h_ta rfl (vp_in_nI hk.2 (by decide)) d_Sh_turnedBy_19 ?_
  rw [nI_clamp (by omega), hg]
  refine lv_ifnonnullN S.1 S.2.1 d_Sh_turnedBy_20 ?_
  refine lv_aload_n S.1 S.2.1 d_Sh_turnedBy_23 rfl (lv_at hl 0 rfl) ?_
  refine hp_get S zz hJ h_t f_Sh_20 rfl d_Sh_turnedBy_24 ?_
  refine lv_iload_n S.1 S.2.1 d_Sh_turnedBy_27 rfl (lv_at hl 1 rfl) ?_
  refine lv_aload_n S.1 S.2.1 d_Sh_turnedBy_28 rfl (lv_at hl 0 rfl) ?_
  refine hp_get S zz hJ h_t f_Sh_14 rfl d_Sh_turnedBy_29 ?_
  refine lv_iload_n S.1 S.2.1 d_Sh_turnedBy_32 rfl (lv_at hl 1 rfl) ?_
  refine hp_doneWr hJ (hp_runV S zz0 (c_Pc_turnedBy l dC dI cA A _ up b w d 1 f (nI k) (nI_ne0 (by omega) (by omega)) hw hd (by decide) hs hs2 h_up h_b) l_Sh_32 (hJ.preV _ h_up rfl) (by decide) rfl hl.1 rfl (nl rfl) d_Sh_turnedBy_33 (by decide)) (fun q h9 H locs hx hJ => ?_)
  obtain ⟨b2, hq, hb2, hne, eh9⟩ := hx
  have h_q : h9 q = some (k_Pc (nI (tw (nI k) w d)) (nI (tw (nI k) d w)) (nI 1) (nI (pw (tw (nI k) w d))) b2) := by rw [eh9]; exact hp_up_s _ _ _
  have h_t : h9 t = some (k_Sh up ta sd) := by rw [eh9]; exact hp_up_k (hp_neN h_t hq) (hp_up_k (hp_neN h_t hb2) h_t)
  have h_ta : h9 ta = some (k_rf (cA 4) 4 g) := by rw [eh9]; exact hp_up_k (hp_neN h_ta hq) (hp_up_k (hp_neN h_ta hb2) h_ta)
  refine hp_aast S hJ 4 4 h_ta rfl h_q rfl (vp_in_nI hk.2 (by decide)) d_Sh_turnedBy_36 (fun H locs hJ => ?_)
  rw [nI_clamp (by omega)] at hJ
  obtain ⟨h1, eh1⟩ : ∃ z, z = hp_up h9 ta (k_rf (cA 4) 4 (va_up g k (some q))) := ⟨_, rfl⟩
  have hJ := hJ.cast eh1
  have h0_ta := h_ta
  have h_t : h1 t = some (.inr (6, [.ref up, .ref ta, .int sd])) := by rw [eh1]; exact hp_up_k (hp_ne h_t h0_ta (show ((0, 6) : Nat × Nat) ≠ (5, 0) by decide)) h_t
  have h_q : h1 q = some (k_Pc (nI (tw (nI k) w d)) (nI (tw (nI k) d w)) (nI 1) (nI (pw (tw (nI k) w d))) b2) := by rw [eh1]; exact hp_up_k (hp_ne h_q h0_ta (show ((0, 4) : Nat × Nat) ≠ (5, 0) by decide)) h_q
  have h_ta : h1 ta = some (k_rf (cA 4) 4 (va_up g k (some q))) := by rw [eh1]; exact hp_up_s _ _ _
  refine lv_aload_n S.1 S.2.1 d_Sh_turnedBy_37 rfl (lv_at hl 0 rfl) ?_
  refine hp_get S zz hJ h_t f_Sh_20 rfl d_Sh_turnedBy_38 ?_
  refine lv_iload_n S.1 S.2.1 d_Sh_turnedBy_41 rfl (lv_at hl 1 rfl) ?_
  refine hp_aald S hJ 4 h_ta rfl (vp_in_nI hk.2 (by decide)) d_Sh_turnedBy_42 ?_
  rw [nI_clamp (by omega), va_up_self]
  exact hp_retWr S hJ hr hlk d_Sh_turnedBy_43 (by decide) ⟨b2, hq, hb2, hne, by rw [eh1, eh9]⟩

set_option maxHeartbeats 4000000 in
set_option maxRecDepth 100000 in
theorem cN_Mk_init (l : Launch) (dC : Nat → ClassId) (dI : Nat → Nat → Nat) (cA : Nat → ClassId) (A : Nat → Prop) (h : hp_T) (t part ink : Nat) (left top so io : Int32) (hso : so = 0 ∨ so = 1) (hio : io = 0 ∨ io = 1) (h_t : h t = some (.inr (3, e0_Mk))) : Met l y_Mk_init (.code y_Mk_init prog_4_method_1_code 8 none :: BIG) ({ frames := 1, cells := 0, slots := 0, locals := 20 }) (va_Pc [.ref t, .null, .int left, .int top, .ref part, .ref ink, .int so, .int io] (hp_I (gg dC dI cA) A h)) (hp_QW (gg dC dI cA) A hp_mv (fun _ h' => h' = hp_up h t (k_Mk none left top part ink so io none none))) 0 0 A := by
  refine hp_enter (by decide) (Nat.le_of_ble_eq_true rfl) ?_
  intro p e s m below meth c ls S hr hlk hin hI hl
  have hl : lv_has ls 8 [(0, .ref t), (1, .null), (2, .int left), (3, .int top), (4, .ref part), (5, .ref ink), (6, .int so), (7, .int io)] := hl
  have hJ := hI.J
  refine lv_aload_n S.1 S.2.1 d_Mk_init_0 rfl (lv_at hl 0 rfl) ?_
  refine hp_obj S l_Mk_1 hl.1 d_Mk_init_1 ⟨nl rfl, nl rfl⟩ ?_
  refine lv_aload_n S.1 S.2.1 d_Mk_init_4 rfl (lv_at hl 0 rfl) ?_
  refine lv_aload_nN S.1 S.2.1 d_Mk_init_5 rfl (lv_at hl 1 rfl) ?_
  refine hp_putF S zz hJ hin h_t fp_Mk_7 rfl rfl rfl (nl rfl) d_Mk_init_6 (fun H locs hJ => ?_)
  obtain ⟨h1, eh1⟩ : ∃ z, z = hp_up h t (.inr (3, [.null, .int 0, .int 0, .null, .null, .int 0, .int 0, .null, .null])) := ⟨_, rfl⟩
  have hJ := hJ.cast eh1
  have h0_t := h_t
  have h_t : h1 t = some (.inr (3, [.null, .int 0, .int 0, .null, .null, .int 0, .int 0, .null, .null])) := by rw [eh1]; exact hp_up_s _ _ _
  refine lv_aload_n S.1 S.2.1 d_Mk_init_9 rfl (lv_at hl 0 rfl) ?_
  refine lv_iload_n S.1 S.2.1 d_Mk_init_10 rfl (lv_at hl 2 rfl) ?_
  refine hp_putF S zz hJ hin h_t fp_Mk_13 rfl rfl rfl (nl rfl) d_Mk_init_11 (fun H locs hJ => ?_)
  obtain ⟨h2, eh2⟩ : ∃ z, z = hp_up h1 t (.inr (3, [.null, .int left, .int 0, .null, .null, .int 0, .int 0, .null, .null])) := ⟨_, rfl⟩
  have hJ := hJ.cast eh2
  have h0_t := h_t
  have h_t : h2 t = some (.inr (3, [.null, .int left, .int 0, .null, .null, .int 0, .int 0, .null, .null])) := by rw [eh2]; exact hp_up_s _ _ _
  refine lv_aload_n S.1 S.2.1 d_Mk_init_14 rfl (lv_at hl 0 rfl) ?_
  refine lv_iload_n S.1 S.2.1 d_Mk_init_15 rfl (lv_at hl 3 rfl) ?_
  refine hp_putF S zz hJ hin h_t fp_Mk_17 rfl rfl rfl (nl rfl) d_Mk_init_16 (fun H locs hJ => ?_)
  obtain ⟨h3, eh3⟩ : ∃ z, z = hp_up h2 t (.inr (3, [.null, .int left, .int top, .null, .null, .int 0, .int 0, .null, .null])) := ⟨_, rfl⟩
  have hJ := hJ.cast eh3
  have h0_t := h_t
  have h_t : h3 t = some (.inr (3, [.null, .int left, .int top, .null, .null, .int 0, .int 0, .null, .null])) := by rw [eh3]; exact hp_up_s _ _ _
  refine lv_aload_n S.1 S.2.1 d_Mk_init_19 rfl (lv_at hl 0 rfl) ?_
  refine lv_aload S.1 S.2.1 d_Mk_init_20 (lv_at hl 4 rfl) ?_
  refine hp_putF S zz hJ hin h_t fp_Mk_20 rfl rfl rfl (nl rfl) d_Mk_init_22 (fun H locs hJ => ?_)
  obtain ⟨h4, eh4⟩ : ∃ z, z = hp_up h3 t (.inr (3, [.null, .int left, .int top, .ref part, .null, .int 0, .int 0, .null, .null])) := ⟨_, rfl⟩
  have hJ := hJ.cast eh4
  have h0_t := h_t
  have h_t : h4 t = some (.inr (3, [.null, .int left, .int top, .ref part, .null, .int 0, .int 0, .null, .null])) := by rw [eh4]; exact hp_up_s _ _ _
  refine lv_aload_n S.1 S.2.1 d_Mk_init_25 rfl (lv_at hl 0 rfl) ?_
  refine lv_aload S.1 S.2.1 d_Mk_init_26 (lv_at hl 5 rfl) ?_
  refine hp_putF S zz hJ hin h_t fp_Mk_24 rfl rfl rfl (nl rfl) d_Mk_init_28 (fun H locs hJ => ?_)
  obtain ⟨h5, eh5⟩ : ∃ z, z = hp_up h4 t (.inr (3, [.null, .int left, .int top, .ref part, .ref ink, .int 0, .int 0, .null, .null])) := ⟨_, rfl⟩
  have hJ := hJ.cast eh5
  have h0_t := h_t
  have h_t : h5 t = some (.inr (3, [.null, .int left, .int top, .ref part, .ref ink, .int 0, .int 0, .null, .null])) := by rw [eh5]; exact hp_up_s _ _ _
  refine lv_aload_n S.1 S.2.1 d_Mk_init_31 rfl (lv_at hl 0 rfl) ?_
  refine lv_iload S.1 S.2.1 d_Mk_init_32 (lv_at hl 6 rfl) ?_
  refine hp_putF S zz hJ hin h_t fp_Mk_28 rfl (z01 hso).1 (z01 hso).2 (nl rfl) d_Mk_init_34 (fun H locs hJ => ?_)
  obtain ⟨h6, eh6⟩ : ∃ z, z = hp_up h5 t (.inr (3, [.null, .int left, .int top, .ref part, .ref ink, .int so, .int 0, .null, .null])) := ⟨_, rfl⟩
  have hJ := hJ.cast eh6
  have h0_t := h_t
  have h_t : h6 t = some (.inr (3, [.null, .int left, .int top, .ref part, .ref ink, .int so, .int 0, .null, .null])) := by rw [eh6]; exact hp_up_s _ _ _
  refine lv_aload_n S.1 S.2.1 d_Mk_init_37 rfl (lv_at hl 0 rfl) ?_
  refine lv_iload S.1 S.2.1 d_Mk_init_38 (lv_at hl 7 rfl) ?_
  refine hp_putF S zz hJ hin h_t fp_Mk_32 rfl (z01 hio).1 (z01 hio).2 (nl rfl) d_Mk_init_40 (fun H locs hJ => ?_)
  obtain ⟨h7, eh7⟩ : ∃ z, z = hp_up h6 t (.inr (3, [.null, .int left, .int top, .ref part, .ref ink, .int so, .int io, .null, .null])) := ⟨_, rfl⟩
  have hJ := hJ.cast eh7
  have h0_t := h_t
  have h_t : h7 t = some (.inr (3, [.null, .int left, .int top, .ref part, .ref ink, .int so, .int io, .null, .null])) := by rw [eh7]; exact hp_up_s _ _ _
  exact hp_retWv S hJ hr hlk d_Mk_init_43 (by decide) (by rw [eh7, eh6, eh5, eh4, eh3, eh2, eh1]; simp only [hp_up_up]; rfl)

set_option maxHeartbeats 4000000 in
set_option maxRecDepth 100000 in
theorem cS_Mk_init (l : Launch) (dC : Nat → ClassId) (dI : Nat → Nat → Nat) (cA : Nat → ClassId) (A : Nat → Prop) (h : hp_T) (t pic part ink : Nat) (left top so io : Int32) (hso : so = 0 ∨ so = 1) (hio : io = 0 ∨ io = 1) (h_t : h t = some (.inr (3, e0_Mk))) : Met l y_Mk_init (.code y_Mk_init prog_4_method_1_code 8 none :: BIG) ({ frames := 1, cells := 0, slots := 0, locals := 20 }) (va_Pc [.ref t, .ref pic, .int left, .int top, .ref part, .ref ink, .int so, .int io] (hp_I (gg dC dI cA) A h)) (hp_QW (gg dC dI cA) A hp_mv (fun _ h' => h' = hp_up h t (k_Mk (some pic) left top part ink so io none none))) 0 0 A := by
  refine hp_enter (by decide) (Nat.le_of_ble_eq_true rfl) ?_
  intro p e s m below meth c ls S hr hlk hin hI hl
  have hl : lv_has ls 8 [(0, .ref t), (1, .ref pic), (2, .int left), (3, .int top), (4, .ref part), (5, .ref ink), (6, .int so), (7, .int io)] := hl
  have hJ := hI.J
  refine lv_aload_n S.1 S.2.1 d_Mk_init_0 rfl (lv_at hl 0 rfl) ?_
  refine hp_obj S l_Mk_1 hl.1 d_Mk_init_1 ⟨nl rfl, nl rfl⟩ ?_
  refine lv_aload_n S.1 S.2.1 d_Mk_init_4 rfl (lv_at hl 0 rfl) ?_
  refine lv_aload_n S.1 S.2.1 d_Mk_init_5 rfl (lv_at hl 1 rfl) ?_
  refine hp_putF S zz hJ hin h_t fp_Mk_7 rfl rfl rfl (nl rfl) d_Mk_init_6 (fun H locs hJ => ?_)
  obtain ⟨h1, eh1⟩ : ∃ z, z = hp_up h t (.inr (3, [.ref pic, .int 0, .int 0, .null, .null, .int 0, .int 0, .null, .null])) := ⟨_, rfl⟩
  have hJ := hJ.cast eh1
  have h0_t := h_t
  have h_t : h1 t = some (.inr (3, [.ref pic, .int 0, .int 0, .null, .null, .int 0, .int 0, .null, .null])) := by rw [eh1]; exact hp_up_s _ _ _
  refine lv_aload_n S.1 S.2.1 d_Mk_init_9 rfl (lv_at hl 0 rfl) ?_
  refine lv_iload_n S.1 S.2.1 d_Mk_init_10 rfl (lv_at hl 2 rfl) ?_
  refine hp_putF S zz hJ hin h_t fp_Mk_13 rfl rfl rfl (nl rfl) d_Mk_init_11 (fun H locs hJ => ?_)
  obtain ⟨h2, eh2⟩ : ∃ z, z = hp_up h1 t (.inr (3, [.ref pic, .int left, .int 0, .null, .null, .int 0, .int 0, .null, .null])) := ⟨_, rfl⟩
  have hJ := hJ.cast eh2
  have h0_t := h_t
  have h_t : h2 t = some (.inr (3, [.ref pic, .int left, .int 0, .null, .null, .int 0, .int 0, .null, .null])) := by rw [eh2]; exact hp_up_s _ _ _
  refine lv_aload_n S.1 S.2.1 d_Mk_init_14 rfl (lv_at hl 0 rfl) ?_
  refine lv_iload_n S.1 S.2.1 d_Mk_init_15 rfl (lv_at hl 3 rfl) ?_
  refine hp_putF S zz hJ hin h_t fp_Mk_17 rfl rfl rfl (nl rfl) d_Mk_init_16 (fun H locs hJ => ?_)
  obtain ⟨h3, eh3⟩ : ∃ z, z = hp_up h2 t (.inr (3, [.ref pic, .int left, .int top, .null, .null, .int 0, .int 0, .null, .null])) := ⟨_, rfl⟩
  have hJ := hJ.cast eh3
  have h0_t := h_t
  have h_t : h3 t = some (.inr (3, [.ref pic, .int left, .int top, .null, .null, .int 0, .int 0, .null, .null])) := by rw [eh3]; exact hp_up_s _ _ _
  refine lv_aload_n S.1 S.2.1 d_Mk_init_19 rfl (lv_at hl 0 rfl) ?_
  refine lv_aload S.1 S.2.1 d_Mk_init_20 (lv_at hl 4 rfl) ?_
  refine hp_putF S zz hJ hin h_t fp_Mk_20 rfl rfl rfl (nl rfl) d_Mk_init_22 (fun H locs hJ => ?_)
  obtain ⟨h4, eh4⟩ : ∃ z, z = hp_up h3 t (.inr (3, [.ref pic, .int left, .int top, .ref part, .null, .int 0, .int 0, .null, .null])) := ⟨_, rfl⟩
  have hJ := hJ.cast eh4
  have h0_t := h_t
  have h_t : h4 t = some (.inr (3, [.ref pic, .int left, .int top, .ref part, .null, .int 0, .int 0, .null, .null])) := by rw [eh4]; exact hp_up_s _ _ _
  refine lv_aload_n S.1 S.2.1 d_Mk_init_25 rfl (lv_at hl 0 rfl) ?_
  refine lv_aload S.1 S.2.1 d_Mk_init_26 (lv_at hl 5 rfl) ?_
  refine hp_putF S zz hJ hin h_t fp_Mk_24 rfl rfl rfl (nl rfl) d_Mk_init_28 (fun H locs hJ => ?_)
  obtain ⟨h5, eh5⟩ : ∃ z, z = hp_up h4 t (.inr (3, [.ref pic, .int left, .int top, .ref part, .ref ink, .int 0, .int 0, .null, .null])) := ⟨_, rfl⟩
  have hJ := hJ.cast eh5
  have h0_t := h_t
  have h_t : h5 t = some (.inr (3, [.ref pic, .int left, .int top, .ref part, .ref ink, .int 0, .int 0, .null, .null])) := by rw [eh5]; exact hp_up_s _ _ _
  refine lv_aload_n S.1 S.2.1 d_Mk_init_31 rfl (lv_at hl 0 rfl) ?_
  refine lv_iload S.1 S.2.1 d_Mk_init_32 (lv_at hl 6 rfl) ?_
  refine hp_putF S zz hJ hin h_t fp_Mk_28 rfl (z01 hso).1 (z01 hso).2 (nl rfl) d_Mk_init_34 (fun H locs hJ => ?_)
  obtain ⟨h6, eh6⟩ : ∃ z, z = hp_up h5 t (.inr (3, [.ref pic, .int left, .int top, .ref part, .ref ink, .int so, .int 0, .null, .null])) := ⟨_, rfl⟩
  have hJ := hJ.cast eh6
  have h0_t := h_t
  have h_t : h6 t = some (.inr (3, [.ref pic, .int left, .int top, .ref part, .ref ink, .int so, .int 0, .null, .null])) := by rw [eh6]; exact hp_up_s _ _ _
  refine lv_aload_n S.1 S.2.1 d_Mk_init_37 rfl (lv_at hl 0 rfl) ?_
  refine lv_iload S.1 S.2.1 d_Mk_init_38 (lv_at hl 7 rfl) ?_
  refine hp_putF S zz hJ hin h_t fp_Mk_32 rfl (z01 hio).1 (z01 hio).2 (nl rfl) d_Mk_init_40 (fun H locs hJ => ?_)
  obtain ⟨h7, eh7⟩ : ∃ z, z = hp_up h6 t (.inr (3, [.ref pic, .int left, .int top, .ref part, .ref ink, .int so, .int io, .null, .null])) := ⟨_, rfl⟩
  have hJ := hJ.cast eh7
  have h0_t := h_t
  have h_t : h7 t = some (.inr (3, [.ref pic, .int left, .int top, .ref part, .ref ink, .int so, .int io, .null, .null])) := by rw [eh7]; exact hp_up_s _ _ _
  exact hp_retWv S hJ hr hlk d_Mk_init_43 (by decide) (by rw [eh7, eh6, eh5, eh4, eh3, eh2, eh1]; simp only [hp_up_up]; rfl)

set_option maxHeartbeats 4000000 in
set_option maxRecDepth 100000 in
theorem c_Pl_init (l : Launch) (dC : Nat → ClassId) (dI : Nat → Nat → Nat) (cA : Nat → ClassId) (A : Nat → Prop) (h : hp_T) (t n : Nat) (hn : n ≤ 5100) (h_t : h t = some (.inr (5, e0_Pl))) : Met l y_Pl_init (.code y_Pl_init prog_6_method_1_code 2 none :: BIG) ({ frames := 1, cells := 2, slots := 10200, locals := 20 }) (va_Pc [.ref t, .int (nI n)] (hp_I (gg dC dI cA) A h)) (hp_QW (gg dC dI cA) A hp_mv (fun _ h' => ∃ bl st, h bl = none ∧ h st = none ∧ bl ≠ st ∧ h' = hp_up (hp_up (hp_up h bl (k_in (cA 0) n (fun _ => 0))) st (k_in (cA 2) n (fun _ => 0))) t (k_Pl (nI n) bl st 0 none))) 2 10200 A := by
  refine hp_enter (by decide) (Nat.le_of_ble_eq_true rfl) ?_
  intro p e s m below meth c ls S hr hlk hin hI hl
  have hl : lv_has ls 2 [(0, .ref t), (1, .int (nI n))] := hl
  have hJ := hI.J
  refine lv_aload_n S.1 S.2.1 d_Pl_init_0 rfl (lv_at hl 0 rfl) ?_
  refine hp_obj S l_Pl_3 hl.1 d_Pl_init_1 ⟨nl rfl, nl rfl⟩ ?_
  refine lv_aload_n S.1 S.2.1 d_Pl_init_4 rfl (lv_at hl 0 rfl) ?_
  refine lv_iload_n S.1 S.2.1 d_Pl_init_5 rfl (lv_at hl 1 rfl) ?_
  refine hp_putF S zz hJ hin h_t fp_Pl_9 rfl rfl rfl (nl rfl) d_Pl_init_6 (fun H locs hJ => ?_)
  obtain ⟨h1, eh1⟩ : ∃ z, z = hp_up h t (.inr (5, [.int (nI n), .null, .null, .int 0, .null])) := ⟨_, rfl⟩
  have hJ := hJ.cast eh1
  have h0_t := h_t
  have h_t : h1 t = some (.inr (5, [.int (nI n), .null, .null, .int 0, .null])) := by rw [eh1]; exact hp_up_s _ _ _
  refine lv_aload_n S.1 S.2.1 d_Pl_init_9 rfl (lv_at hl 0 rfl) ?_
  refine lv_iload_n S.1 S.2.1 d_Pl_init_10 rfl (lv_at hl 1 rfl) ?_
  refine hp_newa S hJ 0 (atype := .int) (a0 := (n, .inl (fun _ => 0))) (N' := n) t_83 rfl (by intro C hC; cases hC) rfl (nI_pos (by omega)) (nI_clamp (by omega)) (show n * 4 ≤ 536870912 by omega) (by decide) (show 0 + n ≤ 10200 by omega) d_Pl_init_11 (fun bl H hq_bl hs_bl hJ => ?_)
  refine W.widen (k := 1) (n := 5100) (by omega) (by omega) ?_
  have ne_t_bl : t ≠ bl := hp_neN h_t hq_bl
  obtain ⟨h2, eh2⟩ : ∃ z, z = hp_up h1 bl (k_in (cA 0) n (fun _ => 0)) := ⟨_, rfl⟩
  have hJ := hJ.cast eh2
  have h_t : h2 t = some (.inr (5, [.int (nI n), .null, .null, .int 0, .null])) := by rw [eh2]; exact hp_up_k (hp_neN h_t hq_bl) h_t
  have h_bl : h2 bl = some (k_in (cA 0) n (fun _ => 0)) := by rw [eh2]; exact hp_up_s _ _ _
  refine hp_putF S zz hJ hin h_t fp_Pl_15 rfl rfl rfl (nl rfl) d_Pl_init_13 (fun H locs hJ => ?_)
  obtain ⟨h3, eh3⟩ : ∃ z, z = hp_up h2 t (.inr (5, [.int (nI n), .ref bl, .null, .int 0, .null])) := ⟨_, rfl⟩
  have hJ := hJ.cast eh3
  have h0_t := h_t
  have h_bl : h3 bl = some (k_in (cA 0) n (fun _ => 0)) := by rw [eh3]; exact hp_up_k (hp_ne h_bl h0_t (show ((1, 0) : Nat × Nat) ≠ (0, 5) by decide)) h_bl
  have h_t : h3 t = some (.inr (5, [.int (nI n), .ref bl, .null, .int 0, .null])) := by rw [eh3]; exact hp_up_s _ _ _
  refine lv_aload_n S.1 S.2.1 d_Pl_init_16 rfl (lv_at hl 0 rfl) ?_
  refine lv_iload_n S.1 S.2.1 d_Pl_init_17 rfl (lv_at hl 1 rfl) ?_
  refine hp_newa S hJ 2 (atype := .boolean) (a0 := (n, .inl (fun _ => 0))) (N' := n) t_84 rfl (by intro C hC; cases hC) rfl (nI_pos (by omega)) (nI_clamp (by omega)) (show n * 1 ≤ 536870912 by omega) (by decide) (show 5100 + n ≤ 10200 by omega) d_Pl_init_18 (fun st H hq_st hs_st hJ => ?_)
  refine W.widen (k := 2) (n := 10200) (by omega) (by omega) ?_
  have ne_t_st : t ≠ st := hp_neN h_t hq_st
  have ne_bl_st : bl ≠ st := hp_neN h_bl hq_st
  obtain ⟨h4, eh4⟩ : ∃ z, z = hp_up h3 st (k_in (cA 2) n (fun _ => 0)) := ⟨_, rfl⟩
  have hJ := hJ.cast eh4
  have h_t : h4 t = some (.inr (5, [.int (nI n), .ref bl, .null, .int 0, .null])) := by rw [eh4]; exact hp_up_k (hp_neN h_t hq_st) h_t
  have h_bl : h4 bl = some (k_in (cA 0) n (fun _ => 0)) := by rw [eh4]; exact hp_up_k (hp_neN h_bl hq_st) h_bl
  have h_st : h4 st = some (k_in (cA 2) n (fun _ => 0)) := by rw [eh4]; exact hp_up_s _ _ _
  refine hp_putF S zz hJ hin h_t fp_Pl_19 rfl rfl rfl (nl rfl) d_Pl_init_20 (fun H locs hJ => ?_)
  obtain ⟨h5, eh5⟩ : ∃ z, z = hp_up h4 t (.inr (5, [.int (nI n), .ref bl, .ref st, .int 0, .null])) := ⟨_, rfl⟩
  have hJ := hJ.cast eh5
  have h0_t := h_t
  have h_bl : h5 bl = some (k_in (cA 0) n (fun _ => 0)) := by rw [eh5]; exact hp_up_k (hp_ne h_bl h0_t (show ((1, 0) : Nat × Nat) ≠ (0, 5) by decide)) h_bl
  have h_st : h5 st = some (k_in (cA 2) n (fun _ => 0)) := by rw [eh5]; exact hp_up_k (hp_ne h_st h0_t (show ((1, 0) : Nat × Nat) ≠ (0, 5) by decide)) h_st
  have h_t : h5 t = some (.inr (5, [.int (nI n), .ref bl, .ref st, .int 0, .null])) := by rw [eh5]; exact hp_up_s _ _ _
  exact hp_retWv S hJ hr hlk d_Pl_init_23 (by decide) ⟨bl, st, by rw [eh1, hp_up_n (Ne.symm ne_t_bl)] at hq_bl; exact hq_bl, by rw [eh3, hp_up_n (Ne.symm ne_t_st), eh2, hp_up_n (Ne.symm ne_bl_st), eh1, hp_up_n (Ne.symm ne_t_st)] at hq_st; exact hq_st, ne_bl_st, by rw [eh5, eh4, eh3, eh2, eh1, hp_up_comm _ _ _ ne_t_bl, hp_up_up, hp_tbt _ _ _ _ ne_t_st]; rfl⟩

