/-! Piles: a mark added; whether a line is like the one above. -/
theorem rf_n {ty : String} (r : Option Nat) : narrow (.object ty) (va_rf r) = va_rf r := by cases r <;> rfl
theorem rf_f {ty : String} (r : Option Nat) : fits (.object ty) (va_rf r) = true := by cases r <;> rfl
/-- no stirred line among y, y - 1, .. y - k + 1 -/
def q_la (g : Nat → Int32) (y : Nat) : Nat → Bool
  | 0 => true
  | k + 1 => q_la g y k && decide (g (y - k) = 0)

set_option maxHeartbeats 4000000 in
set_option maxRecDepth 100000 in
theorem cE_Pl_add (l : Launch) (dC : Nat → ClassId) (dI : Nat → Nat → Nat) (cA : Nat → ClassId) (A : Nat → Prop) (h : hp_T) (t mk part ink bl st n : Nat) (pic : Option Nat) (sz left top x0 y0 x1 y1 so io : Int32) (nw bel bol : Option Nat) (hE : x1 < x0 ∨ y1 < y0) (h_t : h t = some (k_Pl (nI n) bl st sz nw)) (h_mk : h mk = some (k_Mk pic left top part ink so io bel bol)) (h_part : h part = some (k_Bx x0 y0 x1 y1)) : Met l y_Pl_add (.code y_Pl_add prog_6_method_3_code 2 none :: BIG) ({ frames := 2, cells := 0, slots := 0, locals := 46 }) (va_Pc [.ref t, .ref mk] (hp_I (gg dC dI cA) A h)) (hp_QW (gg dC dI cA) A hp_mv (fun _ h' => h' = hp_up h t (k_Pl (nI n) bl st (sz + 1) nw))) 0 0 A := by
  refine hp_enter (by decide) (Nat.le_of_ble_eq_true rfl) ?_
  intro p e s m below meth c ls S hr hlk hin hI hl
  have hl : lv_has ls 2 [(0, .ref t), (1, .ref mk)] := hl
  have hJ := hI.J
  refine lv_aload_n S.1 S.2.1 d_Pl_add_0 rfl (lv_at hl 0 rfl) ?_
  refine lv_dup S.1 S.2.1 d_Pl_add_1 rfl ?_
  refine hp_get S zz hJ h_t f_Pl_23 rfl d_Pl_add_2 ?_
  refine lv_iconst (v := 1) S.1 S.2.1 d_Pl_add_5 (by decide) ?_
  refine lv_iadd S.1 S.2.1 d_Pl_add_6 ?_
  refine hp_put S zz hJ h_t fp_Pl_23 rfl rfl (nl rfl) d_Pl_add_7 (fun H locs hJ => ?_)
  obtain ⟨h1, eh1⟩ : ∃ z, z = hp_up h t (.inr (5, [.int (nI n), .ref bl, .ref st, .int (sz + (1 : Int32)), va_rf nw])) := ⟨_, rfl⟩
  have hJ := hJ.cast eh1
  have h0_t := h_t
  have h_mk : h1 mk = some (.inr (3, [va_rf pic, .int left, .int top, .ref part, .ref ink, .int so, .int io, va_rf bel, va_rf bol])) := by rw [eh1]; exact hp_up_k (hp_ne h_mk h0_t (show ((0, 3) : Nat × Nat) ≠ (0, 5) by decide)) h_mk
  have h_part : h1 part = some (.inr (1, [.int x0, .int y0, .int x1, .int y1])) := by rw [eh1]; exact hp_up_k (hp_ne h_part h0_t (show ((0, 1) : Nat × Nat) ≠ (0, 5) by decide)) h_part
  have h_t : h1 t = some (.inr (5, [.int (nI n), .ref bl, .ref st, .int (sz + (1 : Int32)), va_rf nw])) := by rw [eh1]; exact hp_up_s _ _ _
  refine lv_aload_n S.1 S.2.1 d_Pl_add_10 rfl (lv_at hl 1 rfl) ?_
  refine hp_get S zz hJ h_mk f_Pl_36 rfl d_Pl_add_11 ?_
  refine hp_doneR (hp_runV S zz0 (c_Bx_isEmpty l dC dI cA A _ part _ _ _ _ h_part) l_Pl_42 (hJ.preV _ h_part rfl) (by decide) rfl hl.1 rfl (nl rfl) d_Pl_add_14 (by decide)) ?_
  refine lv_if_eq (tgt := 21) S.1 S.2.1 d_Pl_add_17 (by decide) (fun q => absurd hE (q_is_0.mp q)) (fun _ => ?_)
  exact hp_retWv S hJ hr hlk d_Pl_add_20 (by decide) eh1

set_option maxHeartbeats 4000000 in
set_option maxRecDepth 100000 in
theorem cN_Pl_add (l : Launch) (dC : Nat → ClassId) (dI : Nat → Nat → Nat) (cA : Nat → ClassId) (A : Nat → Prop) (h : hp_T) (t mk part ink bl st n a b : Nat) (sz left top x0 x1 so io : Int32) (nw bel bol : Option Nat) (f g : Nat → Int32) (hn : n ≤ 5100) (hab : a ≤ b ∧ b < n) (hx : ¬ x1 < x0) (ne_bl_st : bl ≠ st) (h_t : h t = some (k_Pl (nI n) bl st sz nw)) (h_bl : h bl = some (k_in (cA 0) n f)) (h_st : h st = some (k_in (cA 2) n g)) (h_mk : h mk = some (k_Mk none left top part ink so io bel bol)) (h_part : h part = some (k_Bx x0 (nI a) x1 (nI b))) : Met l y_Pl_add (.code y_Pl_add prog_6_method_3_code 2 none :: BIG) ({ frames := 2, cells := 0, slots := 0, locals := 46 }) (va_Pc [.ref t, .ref mk] (hp_I (gg dC dI cA) A h)) (hp_QW (gg dC dI cA) A hp_mv (fun _ h' => h' = hp_up (hp_up (hp_up (hp_up h mk (k_Mk none left top part ink so io nw bol)) t (k_Pl (nI n) bl st (sz + 1) (some mk))) bl (k_in (cA 0) n (q_sa f a (b + 1)))) st (k_in (cA 2) n (q_sx (q_sz false g a (b + 1)) n (b + 1))))) 0 0 A := by
  refine hp_enter (by decide) (Nat.le_of_ble_eq_true rfl) ?_
  intro p e s m below meth c ls S hr hlk hin hI hl
  have hl : lv_has ls 2 [(0, .ref t), (1, .ref mk)] := hl
  have hJ := hI.J
  refine lv_aload_n S.1 S.2.1 d_Pl_add_0 rfl (lv_at hl 0 rfl) ?_
  refine lv_dup S.1 S.2.1 d_Pl_add_1 rfl ?_
  refine hp_get S zz hJ h_t f_Pl_23 rfl d_Pl_add_2 ?_
  refine lv_iconst (v := 1) S.1 S.2.1 d_Pl_add_5 (by decide) ?_
  refine lv_iadd S.1 S.2.1 d_Pl_add_6 ?_
  refine hp_put S zz hJ h_t fp_Pl_23 rfl rfl (nl rfl) d_Pl_add_7 (fun H locs hJ => ?_)
  obtain ⟨h1, eh1⟩ : ∃ z, z = hp_up h t (.inr (5, [.int (nI n), .ref bl, .ref st, .int (sz + (1 : Int32)), va_rf nw])) := ⟨_, rfl⟩
  have hJ := hJ.cast eh1
  have h0_t := h_t
  have h_mk : h1 mk = some (.inr (3, [.null, .int left, .int top, .ref part, .ref ink, .int so, .int io, va_rf bel, va_rf bol])) := by rw [eh1]; exact hp_up_k (hp_ne h_mk h0_t (show ((0, 3) : Nat × Nat) ≠ (0, 5) by decide)) h_mk
  have h_part : h1 part = some (.inr (1, [.int x0, .int (nI a), .int x1, .int (nI b)])) := by rw [eh1]; exact hp_up_k (hp_ne h_part h0_t (show ((0, 1) : Nat × Nat) ≠ (0, 5) by decide)) h_part
  have h_bl : h1 bl = some (k_in (cA 0) n f) := by rw [eh1]; exact hp_up_k (hp_ne h_bl h0_t (show ((1, 0) : Nat × Nat) ≠ (0, 5) by decide)) h_bl
  have h_st : h1 st = some (k_in (cA 2) n g) := by rw [eh1]; exact hp_up_k (hp_ne h_st h0_t (show ((1, 0) : Nat × Nat) ≠ (0, 5) by decide)) h_st
  have h_t : h1 t = some (.inr (5, [.int (nI n), .ref bl, .ref st, .int (sz + (1 : Int32)), va_rf nw])) := by rw [eh1]; exact hp_up_s _ _ _
  refine lv_aload_n S.1 S.2.1 d_Pl_add_10 rfl (lv_at hl 1 rfl) ?_
  refine hp_get S zz hJ h_mk f_Pl_36 rfl d_Pl_add_11 ?_
  refine hp_doneR (hp_runV S zz0 (c_Bx_isEmpty l dC dI cA A _ part _ _ _ _ h_part) l_Pl_42 (hJ.preV _ h_part rfl) (by decide) rfl hl.1 rfl (nl rfl) d_Pl_add_14 (by decide)) ?_
  refine lv_if_eq (tgt := 21) S.1 S.2.1 d_Pl_add_17 (by decide) (fun _ => ?_) (fun q => absurd (q_is_ne.mp q) (fun z => z.elim hx (fun z => nI_nlt hab.1 (by omega) z)))
  refine lv_aload_n S.1 S.2.1 d_Pl_add_21 rfl (lv_at hl 1 rfl) ?_
  refine lv_aload_n S.1 S.2.1 d_Pl_add_22 rfl (lv_at hl 0 rfl) ?_
  refine hp_get S zz hJ h_t f_Pl_26 rfl d_Pl_add_23 ?_
  refine hp_put S zz hJ h_mk fp_Pl_48 (rf_n _) (rf_f _) (nl rfl) d_Pl_add_26 (fun H locs hJ => ?_)
  obtain ⟨h2, eh2⟩ : ∃ z, z = hp_up h1 mk (.inr (3, [.null, .int left, .int top, .ref part, .ref ink, .int so, .int io, va_rf nw, va_rf bol])) := ⟨_, rfl⟩
  have hJ := hJ.cast eh2
  have h0_mk := h_mk
  have h_t : h2 t = some (.inr (5, [.int (nI n), .ref bl, .ref st, .int (sz + (1 : Int32)), va_rf nw])) := by rw [eh2]; exact hp_up_k (hp_ne h_t h0_mk (show ((0, 5) : Nat × Nat) ≠ (0, 3) by decide)) h_t
  have h_part : h2 part = some (.inr (1, [.int x0, .int (nI a), .int x1, .int (nI b)])) := by rw [eh2]; exact hp_up_k (hp_ne h_part h0_mk (show ((0, 1) : Nat × Nat) ≠ (0, 3) by decide)) h_part
  have h_bl : h2 bl = some (k_in (cA 0) n f) := by rw [eh2]; exact hp_up_k (hp_ne h_bl h0_mk (show ((1, 0) : Nat × Nat) ≠ (0, 3) by decide)) h_bl
  have h_st : h2 st = some (k_in (cA 2) n g) := by rw [eh2]; exact hp_up_k (hp_ne h_st h0_mk (show ((1, 0) : Nat × Nat) ≠ (0, 3) by decide)) h_st
  have h_mk : h2 mk = some (.inr (3, [.null, .int left, .int top, .ref part, .ref ink, .int so, .int io, va_rf nw, va_rf bol])) := by rw [eh2]; exact hp_up_s _ _ _
  refine lv_aload_n S.1 S.2.1 d_Pl_add_29 rfl (lv_at hl 0 rfl) ?_
  refine lv_aload_n S.1 S.2.1 d_Pl_add_30 rfl (lv_at hl 1 rfl) ?_
  refine hp_put S zz hJ h_t fp_Pl_26 rfl rfl (nl rfl) d_Pl_add_31 (fun H locs hJ => ?_)
  obtain ⟨h3, eh3⟩ : ∃ z, z = hp_up h2 t (.inr (5, [.int (nI n), .ref bl, .ref st, .int (sz + (1 : Int32)), .ref mk])) := ⟨_, rfl⟩
  have hJ := hJ.cast eh3
  have h0_t := h_t
  have h_mk : h3 mk = some (.inr (3, [.null, .int left, .int top, .ref part, .ref ink, .int so, .int io, va_rf nw, va_rf bol])) := by rw [eh3]; exact hp_up_k (hp_ne h_mk h0_t (show ((0, 3) : Nat × Nat) ≠ (0, 5) by decide)) h_mk
  have h_part : h3 part = some (.inr (1, [.int x0, .int (nI a), .int x1, .int (nI b)])) := by rw [eh3]; exact hp_up_k (hp_ne h_part h0_t (show ((0, 1) : Nat × Nat) ≠ (0, 5) by decide)) h_part
  have h_bl : h3 bl = some (k_in (cA 0) n f) := by rw [eh3]; exact hp_up_k (hp_ne h_bl h0_t (show ((1, 0) : Nat × Nat) ≠ (0, 5) by decide)) h_bl
  have h_st : h3 st = some (k_in (cA 2) n g) := by rw [eh3]; exact hp_up_k (hp_ne h_st h0_t (show ((1, 0) : Nat × Nat) ≠ (0, 5) by decide)) h_st
  have h_t : h3 t = some (.inr (5, [.int (nI n), .ref bl, .ref st, .int (sz + (1 : Int32)), .ref mk])) := by rw [eh3]; exact hp_up_s _ _ _
  refine lv_aload_n S.1 S.2.1 d_Pl_add_34 rfl (lv_at hl 0 rfl) ?_
  refine lv_aload_n S.1 S.2.1 d_Pl_add_35 rfl (lv_at hl 1 rfl) ?_
  refine hp_doneWv hJ (hp_runV S zz0 (cN_Pl_stir l dC dI cA A _ t mk part ink bl st n a b _ _ _ _ _ _ _ (some mk) _ _ f g hn hab ne_bl_st h_t h_bl h_st h_mk h_part) l_Pl_51 (hJ.preV _ h_t rfl) (by decide) rfl hl.1 rfl (nl rfl) d_Pl_add_36 (by decide)) (fun h9 H locs eh9 hJ => ?_)
  exact hp_retWv S hJ hr hlk d_Pl_add_39 (by decide) (by rw [eh9, eh3, eh2, eh1, hp_tbt _ _ _ _ (hp_ne h_t h_mk (show ((0, 5) : Nat × Nat) ≠ (0, 3) by decide))]; rfl)

set_option maxHeartbeats 4000000 in
set_option maxRecDepth 100000 in
theorem cS_Pl_add (l : Launch) (dC : Nat → ClassId) (dI : Nat → Nat → Nat) (cA : Nat → ClassId) (A : Nat → Prop) (h : hp_T) (t mk part ink bl st n a b : Nat) (pic : Nat) (sz left top x0 x1 so io : Int32) (nw bel bol : Option Nat) (f g : Nat → Int32) (hn : n ≤ 5100) (hab : a ≤ b ∧ b < n) (hx : ¬ x1 < x0) (ne_bl_st : bl ≠ st) (h_t : h t = some (k_Pl (nI n) bl st sz nw)) (h_bl : h bl = some (k_in (cA 0) n f)) (h_st : h st = some (k_in (cA 2) n g)) (h_mk : h mk = some (k_Mk (some pic) left top part ink so io bel bol)) (h_part : h part = some (k_Bx x0 (nI a) x1 (nI b))) : Met l y_Pl_add (.code y_Pl_add prog_6_method_3_code 2 none :: BIG) ({ frames := 2, cells := 0, slots := 0, locals := 46 }) (va_Pc [.ref t, .ref mk] (hp_I (gg dC dI cA) A h)) (hp_QW (gg dC dI cA) A hp_mv (fun _ h' => h' = hp_up (hp_up (hp_up (hp_up h mk (k_Mk (some pic) left top part ink so io nw bol)) t (k_Pl (nI n) bl st (sz + 1) (some mk))) bl (k_in (cA 0) n (q_sa f a (b + 1)))) st (k_in (cA 2) n (q_sx (q_sz true g a (b + 1)) n (b + 1))))) 0 0 A := by
  refine hp_enter (by decide) (Nat.le_of_ble_eq_true rfl) ?_
  intro p e s m below meth c ls S hr hlk hin hI hl
  have hl : lv_has ls 2 [(0, .ref t), (1, .ref mk)] := hl
  have hJ := hI.J
  refine lv_aload_n S.1 S.2.1 d_Pl_add_0 rfl (lv_at hl 0 rfl) ?_
  refine lv_dup S.1 S.2.1 d_Pl_add_1 rfl ?_
  refine hp_get S zz hJ h_t f_Pl_23 rfl d_Pl_add_2 ?_
  refine lv_iconst (v := 1) S.1 S.2.1 d_Pl_add_5 (by decide) ?_
  refine lv_iadd S.1 S.2.1 d_Pl_add_6 ?_
  refine hp_put S zz hJ h_t fp_Pl_23 rfl rfl (nl rfl) d_Pl_add_7 (fun H locs hJ => ?_)
  obtain ⟨h1, eh1⟩ : ∃ z, z = hp_up h t (.inr (5, [.int (nI n), .ref bl, .ref st, .int (sz + (1 : Int32)), va_rf nw])) := ⟨_, rfl⟩
  have hJ := hJ.cast eh1
  have h0_t := h_t
  have h_mk : h1 mk = some (.inr (3, [.ref pic, .int left, .int top, .ref part, .ref ink, .int so, .int io, va_rf bel, va_rf bol])) := by rw [eh1]; exact hp_up_k (hp_ne h_mk h0_t (show ((0, 3) : Nat × Nat) ≠ (0, 5) by decide)) h_mk
  have h_part : h1 part = some (.inr (1, [.int x0, .int (nI a), .int x1, .int (nI b)])) := by rw [eh1]; exact hp_up_k (hp_ne h_part h0_t (show ((0, 1) : Nat × Nat) ≠ (0, 5) by decide)) h_part
  have h_bl : h1 bl = some (k_in (cA 0) n f) := by rw [eh1]; exact hp_up_k (hp_ne h_bl h0_t (show ((1, 0) : Nat × Nat) ≠ (0, 5) by decide)) h_bl
  have h_st : h1 st = some (k_in (cA 2) n g) := by rw [eh1]; exact hp_up_k (hp_ne h_st h0_t (show ((1, 0) : Nat × Nat) ≠ (0, 5) by decide)) h_st
  have h_t : h1 t = some (.inr (5, [.int (nI n), .ref bl, .ref st, .int (sz + (1 : Int32)), va_rf nw])) := by rw [eh1]; exact hp_up_s _ _ _
  refine lv_aload_n S.1 S.2.1 d_Pl_add_10 rfl (lv_at hl 1 rfl) ?_
  refine hp_get S zz hJ h_mk f_Pl_36 rfl d_Pl_add_11 ?_
  refine hp_doneR (hp_runV S zz0 (c_Bx_isEmpty l dC dI cA A _ part _ _ _ _ h_part) l_Pl_42 (hJ.preV _ h_part rfl) (by decide) rfl hl.1 rfl (nl rfl) d_Pl_add_14 (by decide)) ?_
  refine lv_if_eq (tgt := 21) S.1 S.2.1 d_Pl_add_17 (by decide) (fun _ => ?_) (fun q => absurd (q_is_ne.mp q) (fun z => z.elim hx (fun z => nI_nlt hab.1 (by omega) z)))
  refine lv_aload_n S.1 S.2.1 d_Pl_add_21 rfl (lv_at hl 1 rfl) ?_
  refine lv_aload_n S.1 S.2.1 d_Pl_add_22 rfl (lv_at hl 0 rfl) ?_
  refine hp_get S zz hJ h_t f_Pl_26 rfl d_Pl_add_23 ?_
  refine hp_put S zz hJ h_mk fp_Pl_48 (rf_n _) (rf_f _) (nl rfl) d_Pl_add_26 (fun H locs hJ => ?_)
  obtain ⟨h2, eh2⟩ : ∃ z, z = hp_up h1 mk (.inr (3, [.ref pic, .int left, .int top, .ref part, .ref ink, .int so, .int io, va_rf nw, va_rf bol])) := ⟨_, rfl⟩
  have hJ := hJ.cast eh2
  have h0_mk := h_mk
  have h_t : h2 t = some (.inr (5, [.int (nI n), .ref bl, .ref st, .int (sz + (1 : Int32)), va_rf nw])) := by rw [eh2]; exact hp_up_k (hp_ne h_t h0_mk (show ((0, 5) : Nat × Nat) ≠ (0, 3) by decide)) h_t
  have h_part : h2 part = some (.inr (1, [.int x0, .int (nI a), .int x1, .int (nI b)])) := by rw [eh2]; exact hp_up_k (hp_ne h_part h0_mk (show ((0, 1) : Nat × Nat) ≠ (0, 3) by decide)) h_part
  have h_bl : h2 bl = some (k_in (cA 0) n f) := by rw [eh2]; exact hp_up_k (hp_ne h_bl h0_mk (show ((1, 0) : Nat × Nat) ≠ (0, 3) by decide)) h_bl
  have h_st : h2 st = some (k_in (cA 2) n g) := by rw [eh2]; exact hp_up_k (hp_ne h_st h0_mk (show ((1, 0) : Nat × Nat) ≠ (0, 3) by decide)) h_st
  have h_mk : h2 mk = some (.inr (3, [.ref pic, .int left, .int top, .ref part, .ref ink, .int so, .int io, va_rf nw, va_rf bol])) := by rw [eh2]; exact hp_up_s _ _ _
  refine lv_aload_n S.1 S.2.1 d_Pl_add_29 rfl (lv_at hl 0 rfl) ?_
  refine lv_aload_n S.1 S.2.1 d_Pl_add_30 rfl (lv_at hl 1 rfl) ?_
  refine hp_put S zz hJ h_t fp_Pl_26 rfl rfl (nl rfl) d_Pl_add_31 (fun H locs hJ => ?_)
  obtain ⟨h3, eh3⟩ : ∃ z, z = hp_up h2 t (.inr (5, [.int (nI n), .ref bl, .ref st, .int (sz + (1 : Int32)), .ref mk])) := ⟨_, rfl⟩
  have hJ := hJ.cast eh3
  have h0_t := h_t
  have h_mk : h3 mk = some (.inr (3, [.ref pic, .int left, .int top, .ref part, .ref ink, .int so, .int io, va_rf nw, va_rf bol])) := by rw [eh3]; exact hp_up_k (hp_ne h_mk h0_t (show ((0, 3) : Nat × Nat) ≠ (0, 5) by decide)) h_mk
  have h_part : h3 part = some (.inr (1, [.int x0, .int (nI a), .int x1, .int (nI b)])) := by rw [eh3]; exact hp_up_k (hp_ne h_part h0_t (show ((0, 1) : Nat × Nat) ≠ (0, 5) by decide)) h_part
  have h_bl : h3 bl = some (k_in (cA 0) n f) := by rw [eh3]; exact hp_up_k (hp_ne h_bl h0_t (show ((1, 0) : Nat × Nat) ≠ (0, 5) by decide)) h_bl
  have h_st : h3 st = some (k_in (cA 2) n g) := by rw [eh3]; exact hp_up_k (hp_ne h_st h0_t (show ((1, 0) : Nat × Nat) ≠ (0, 5) by decide)) h_st
  have h_t : h3 t = some (.inr (5, [.int (nI n), .ref bl, .ref st, .int (sz + (1 : Int32)), .ref mk])) := by rw [eh3]; exact hp_up_s _ _ _
  refine lv_aload_n S.1 S.2.1 d_Pl_add_34 rfl (lv_at hl 0 rfl) ?_
  refine lv_aload_n S.1 S.2.1 d_Pl_add_35 rfl (lv_at hl 1 rfl) ?_
  refine hp_doneWv hJ (hp_runV S zz0 (cS_Pl_stir l dC dI cA A _ t mk part ink bl st n a b pic _ _ _ _ _ _ _ (some mk) _ _ f g hn hab ne_bl_st h_t h_bl h_st h_mk h_part) l_Pl_51 (hJ.preV _ h_t rfl) (by decide) rfl hl.1 rfl (nl rfl) d_Pl_add_36 (by decide)) (fun h9 H locs eh9 hJ => ?_)
  exact hp_retWv S hJ hr hlk d_Pl_add_39 (by decide) (by rw [eh9, eh3, eh2, eh1, hp_tbt _ _ _ _ (hp_ne h_t h_mk (show ((0, 5) : Nat × Nat) ≠ (0, 3) by decide))]; rfl)

theorem la_w {n y : Nat} (hn : 1 ≤ n ∧ n ≤ 5100) (hy : y ≤ 10000) : (16 ≤ nI y ∧ nI y ≤ nI n - 1) ↔ (16 ≤ y ∧ y < n) := by
  rw [show (1 : Int32) = nI 1 from rfl, show (16 : Int32) = nI 16 from rfl, pk_sub hn.1, nI_leI (by omega) (by omega), nI_leI (by omega) (by omega)]
  omega
theorem q_la_f {g : Nat → Int32} {y k : Nat} (h : ¬ g (y - k) = 0) : ∀ j, k + 1 ≤ j → q_la g y j = false := by
  intro j hj
  induction j with
  | zero => omega
  | succ j ih =>
    by_cases hk : j = k
    · subst hk
      unfold q_la
      rw [decide_eq_false h, Bool.and_false]
    · unfold q_la
      rw [ih (by omega), Bool.false_and]
theorem nI_m1 {n : Nat} (h : 1 ≤ n) : nI n + (-1) = nI (n - 1) := sb_m1 (by omega)

set_option maxHeartbeats 4000000 in
set_option maxRecDepth 100000 in
theorem c_Pl_isLikeAbove (l : Launch) (dC : Nat → ClassId) (dI : Nat → Nat → Nat) (cA : Nat → ClassId) (A : Nat → Prop) (h : hp_T) (t bl st n y : Nat) (sz : Int32) (nw : Option Nat) (g : Nat → Int32) (hn : 1 ≤ n ∧ n ≤ 5100) (hy : y ≤ 10000) (h_t : h t = some (k_Pl (nI n) bl st sz nw)) (h_st : h st = some (k_in (cA 2) n g)) : Met l y_Pl_isLikeAbove (.code y_Pl_isLikeAbove prog_6_method_7_code 3 (some .boolean) :: BIG) ({ frames := 1, cells := 0, slots := 0, locals := 22 }) (va_Pc [.ref t, .int (nI y)] (hp_I (gg dC dI cA) A h)) (hp_QR (some (.int (q_is (16 ≤ y ∧ y < n ∧ q_la g y 16 = true))))) 0 0 (fun _ => False) := by
  refine hp_enter (by decide) (Nat.le_of_ble_eq_true rfl) ?_
  intro p e s m below meth c ls S hr hlk hin hI hl
  have hl : lv_has ls 3 [(0, .ref t), (1, .int (nI y))] := hl
  have hJ := hI.J
  refine lv_bipush (v := 16) S.1 S.2.1 d_Pl_isLikeAbove_0 (by decide) ?_
  refine lv_iload_n S.1 S.2.1 d_Pl_isLikeAbove_2 rfl (lv_at hl 1 rfl) ?_
  refine lv_aload_n S.1 S.2.1 d_Pl_isLikeAbove_3 rfl (lv_at hl 0 rfl) ?_
  refine hp_get S zz hJ h_t f_Pl_9 rfl d_Pl_isLikeAbove_4 ?_
  refine lv_iconst (v := 1) S.1 S.2.1 d_Pl_isLikeAbove_7 (by decide) ?_
  refine lv_isub S.1 S.2.1 d_Pl_isLikeAbove_8 ?_
  refine hp_doneR (hp_runN S zz hJ.2.1 (c_BP_isWithin l _ _ _) l_Pl_74 (hp_pre0 _) (by decide) rfl hl.1 rfl (nl rfl) d_Pl_isLikeAbove_9 (by decide)) ?_
  refine lv_if_ne (tgt := 17) S.1 S.2.1 d_Pl_isLikeAbove_12 (by decide) (fun c_12 => ?_) (fun c_12 => ?_)
  · refine lv_iload_n S.1 S.2.1 d_Pl_isLikeAbove_17 rfl (lv_at hl 1 rfl) ?_
    refine lv_istore_n (lv' := [(2, .int (nI y)), (0, .ref t), (1, .int (nI y))]) S.1 S.2.1 d_Pl_isLikeAbove_18 rfl hl (by decide) rfl (fun ls hl => ?_)
    have hyn : 16 ≤ y ∧ y < n := (la_w hn hy).mp (q_is_ne.mp c_12)
    have LP : ∀ (m_ k : Nat) (ls : Array Slot), k + m_ = 16 → q_la g y k = true → lv_has ls 3 [(2, .int (nI (y - k))), (0, .ref t), (1, .int (nI y))] → W p l e ({ frames := 1, cells := 0, slots := 0, locals := 22 }) s m ([.ref t, .int (nI y)] : List Value).toArray below meth c s.heap [] 0 0 (MQ below (hp_QR (some (.int (q_is (16 ≤ y ∧ y < n ∧ q_la g y 16 = true))))) ([.ref t, .int (nI y)] : List Value).toArray s 0 0 (fun _ => False)) (F0 m 19 ls []) := by
      intro m_
      induction m_ with
      | zero =>
        intro k ls hu hk hl
        refine lv_iload_n S.1 S.2.1 d_Pl_isLikeAbove_19 rfl (lv_at hl 0 rfl) ?_
        refine lv_iload_n S.1 S.2.1 d_Pl_isLikeAbove_20 rfl (lv_at hl 2 rfl) ?_
        refine lv_bipush (v := 16) S.1 S.2.1 d_Pl_isLikeAbove_21 (by decide) ?_
        refine lv_isub S.1 S.2.1 d_Pl_isLikeAbove_23 ?_
        rw [show nI y - 16 = nI (y - 16) from pk_sub (a := y) (b := 16) hyn.1]
        refine lv_icmp_le (tgt := 44) S.1 S.2.1 d_Pl_isLikeAbove_24 (by decide) (fun _ => ?_) (fun q => absurd (nI_le (by omega) (by omega)) q)
        refine lv_iconst (v := 1) S.1 S.2.1 d_Pl_isLikeAbove_44 (by decide) ?_
        exact hp_retRz S hr hlk d_Pl_isLikeAbove_45 (by decide) (q_is_t ⟨hyn.1, hyn.2, by rw [show k = 16 by omega] at hk; exact hk⟩)
      | succ m_ ih =>
        intro k ls hu hk hl
        refine lv_iload_n S.1 S.2.1 d_Pl_isLikeAbove_19 rfl (lv_at hl 0 rfl) ?_
        refine lv_iload_n S.1 S.2.1 d_Pl_isLikeAbove_20 rfl (lv_at hl 2 rfl) ?_
        refine lv_bipush (v := 16) S.1 S.2.1 d_Pl_isLikeAbove_21 (by decide) ?_
        refine lv_isub S.1 S.2.1 d_Pl_isLikeAbove_23 ?_
        rw [show nI y - 16 = nI (y - 16) from pk_sub (a := y) (b := 16) hyn.1]
        refine lv_icmp_le (tgt := 44) S.1 S.2.1 d_Pl_isLikeAbove_24 (by decide) (fun q => absurd ((nI_leI (by omega) (by omega)).mp q) (by omega)) (fun _ => ?_)
        refine lv_aload_n S.1 S.2.1 d_Pl_isLikeAbove_27 rfl (lv_at hl 1 rfl) ?_
        refine hp_get S zz hJ h_t f_Pl_19 rfl d_Pl_isLikeAbove_28 ?_
        refine lv_iload_n S.1 S.2.1 d_Pl_isLikeAbove_31 rfl (lv_at hl 0 rfl) ?_
        refine hp_zald S hJ 2 h_st rfl (vp_in_nI (by omega) (by omega)) d_Pl_isLikeAbove_32 ?_
        rw [nI_clamp (by omega)]
        refine lv_if_eq (tgt := 38) S.1 S.2.1 d_Pl_isLikeAbove_33 (by decide) (fun c_33 => ?_) (fun c_33 => ?_)
        · refine lv_iinc (v := nI (y - (k + 1))) (lv' := [(2, .int (nI (y - (k + 1)))), (0, .ref t), (1, .int (nI y))]) S.1 S.2.1 d_Pl_isLikeAbove_38 hl (k := 0) rfl ((nI_m1 (by omega)).trans (congrArg nI (by omega))) (by decide) rfl (fun ls hl => ?_)
          refine lv_goto (tgt := 19) S.1 S.2.1 d_Pl_isLikeAbove_41 (by decide) ?_
          exact ih (k + 1) ls (by omega) (by unfold q_la; rw [hk, decide_eq_true c_33]; rfl) (lv_sub hl [0, 1, 2] rfl)
        · refine lv_iconst (v := 0) S.1 S.2.1 d_Pl_isLikeAbove_36 (by decide) ?_
          exact hp_retRz S hr hlk d_Pl_isLikeAbove_37 (by decide) (q_is_f (fun q => by rw [q_la_f c_33 16 (by omega)] at q; exact absurd q.2.2 (by decide)))
    exact LP 16 0 ls rfl rfl (lv_sub hl [0, 1, 2] rfl)
  · refine lv_iconst (v := 0) S.1 S.2.1 d_Pl_isLikeAbove_15 (by decide) ?_
    exact hp_retRz S hr hlk d_Pl_isLikeAbove_16 (by decide) (q_is_f (fun q => q_is_0.mp c_12 ((la_w hn hy).mpr ⟨q.1, q.2.1⟩)))

