/-! The painter's rows of dots. -/
/-- what a row's picture is, by its turn -/
def q_r0 (n : Nat) (bits : Int64) : Nat → Int64 := q_sw (nI 1) (nI (pw n)) (q_sw (nI 1) (nI (pw n)) (fun _ => 0) 0 0 (bits &&& q_fd (nI n))) 0 1 (0 &&& q_fd (nI n - 64))
def rw_w (k9 n : Nat) : Nat := if k9 = 0 then n else tw (nI k9) n 1
def rw_d (k9 n : Nat) : Nat := if k9 = 0 then 1 else tw (nI k9) 1 n
def rw_f (k9 n : Nat) (bits : Int64) : Nat → Int64 := if k9 = 0 then q_r0 n bits else q_tF (nI k9) n 1 (q_r0 n bits)
/-- a picture was made, nothing else changed -/
def rP (cA : Nat → ClassId) (h h' : hp_T) (k9 n sc : Nat) (bits : Int64) (q : Nat) : Prop :=
  (∀ (a : Nat) (e : va_E), h a = some e → h' a = some e) ∧ ∃ b2, h q = none ∧ h b2 = none ∧ h' q = some (k_Pc (nI (rw_w k9 n * sc)) (nI (rw_d k9 n)) (nI sc) (nI (pw (rw_w k9 n * sc))) b2) ∧ h' b2 = some (k_lo (cA 1) (pw (rw_w k9 n * sc) * rw_d k9 n) (q_eF (rw_w k9 n) (rw_d k9 n) sc (rw_f k9 n bits)))
theorem ext_up {h : hp_T} {q : Nat} {e0 : va_E} (hq : h q = none) : ∀ (a : Nat) (e : va_E), h a = some e → hp_up h q e0 a = some e := fun _ _ ha => hp_up_k (hp_neN ha hq) ha
theorem ext_tr {h h1 h2 : hp_T} (h01 : ∀ (a : Nat) (e : va_E), h a = some e → h1 a = some e) (h12 : ∀ (a : Nat) (e : va_E), h1 a = some e → h2 a = some e) : ∀ (a : Nat) (e : va_E), h a = some e → h2 a = some e := fun a e ha => h12 a e (h01 a e ha)
theorem ext_none {h h1 : hp_T} (h01 : ∀ (a : Nat) (e : va_E), h a = some e → h1 a = some e) {q : Nat} (hq : h1 q = none) : h q = none := by
  cases z : h q with
  | none => rfl
  | some e => rw [h01 q e z] at hq; cases hq
theorem rw_1 {k9 n : Nat} (hk : k9 < 4) (hn : 1 ≤ n ∧ n ≤ 64) : (1 ≤ rw_w k9 n ∧ rw_w k9 n ≤ 64) ∧ (1 ≤ rw_d k9 n ∧ rw_d k9 n ≤ 64) ∧ (rw_w k9 n = 1 ∨ rw_d k9 n = 1) := by
  unfold rw_w rw_d tw
  by_cases h0 : k9 = 0
  · rw [if_pos h0, if_pos h0]; omega
  · rw [if_neg h0, if_neg h0]
    split <;> omega
theorem rw_2 {k9 n sc : Nat} (hk : k9 < 4) (hn : 1 ≤ n ∧ n ≤ 64) (hsc : 1 ≤ sc ∧ sc ≤ 8) : rw_w k9 n * sc ≤ 1024 ∧ pw (rw_w k9 n * sc) * rw_d k9 n ≤ 256 := by
  obtain ⟨h1, h2, h3⟩ := rw_1 hk hn
  have h4 : rw_w k9 n * sc ≤ 64 * 8 := Nat.mul_le_mul h1.2 hsc.2
  refine ⟨by omega, ?_⟩
  rcases h3 with h3 | h3
  · rw [h3, Nat.one_mul]
    have : pw sc = 1 := by unfold pw; omega
    rw [this]; omega
  · rw [h3, Nat.mul_one]
    unfold pw; omega

set_option maxHeartbeats 4000000 in
set_option maxRecDepth 100000 in
theorem cF_BP_row (l : Launch) (dC : Nat → ClassId) (dI : Nat → Nat → Nat) (cA : Nat → ClassId) (A : Nat → Prop) (h : hp_T) (x sheet shp pil ink clip : Nat) (bf : Nat → Int32) (bl st n : Nat) (sz px py sc n9 : Int32) (bits : Int64) (nw : Option Nat) (h_x : h x = some (k_BP bf sheet shp pil ink clip)) (h_pil : h pil = some (k_Pl (nI n) bl st sz nw)) (hF : ¬ (((-10000 ≤ px ∧ px ≤ 10000) ∧ (-10000 ≤ py ∧ py ≤ 10000) ∧ sz < 4096) ∧ (1 ≤ sc ∧ sc ≤ 8) ∧ (1 ≤ n9 ∧ n9 ≤ 64) ∧ bf 8 + (n9 + 7) / 8 ≤ 65536)) : Met l y_BP_row (.code y_BP_row prog_1_method_10_code 9 (some .boolean) :: BIG) ({ frames := 5, cells := 9, slots := 800, locals := 115 }) (va_Pc [.ref x, .int px, .int py, .int sc, .int n9, .long bits] (hp_I (gg dC dI cA) A h)) (hp_QW (gg dC dI cA) A hp_mi (fun r h' => r = 0 ∧ h' = h)) 9 800 A := by
  refine hp_enter (by decide) (Nat.le_of_ble_eq_true rfl) ?_
  intro p e s m below meth c ls S hr hlk hin hI hl
  have hl : lv_has ls 9 [(0, .ref x), (1, .int px), (2, .int py), (3, .int sc), (4, .int n9), (5, .long bits)] := hl
  have hJ := hI.J
  refine lv_aload_n S.1 S.2.1 d_BP_row_0 rfl (lv_at hl 0 rfl) ?_
  refine lv_iload_n S.1 S.2.1 d_BP_row_1 rfl (lv_at hl 1 rfl) ?_
  refine lv_iload_n S.1 S.2.1 d_BP_row_2 rfl (lv_at hl 2 rfl) ?_
  refine hp_doneR (hp_runV S zz0 (c_BP_canLayAt l dC dI cA A _ x sheet shp pil ink clip bf bl st (nI n) sz nw px py h_x h_pil) l_BP_120 (hJ.preV _ h_x rfl) (by decide) rfl hl.1 rfl (nl rfl) d_BP_row_3 (by decide)) ?_
  refine lv_if_eq (tgt := 30) S.1 S.2.1 d_BP_row_6 (by decide) (fun c_6 => ?_) (fun c_6 => ?_)
  · refine lv_iconst (v := 0) S.1 S.2.1 d_BP_row_30 (by decide) ?_
    exact hp_retWz S hJ hr hlk d_BP_row_31 (by decide) (by decide) ⟨rfl, rfl⟩
  · refine lv_iconst (v := 1) S.1 S.2.1 d_BP_row_9 (by decide) ?_
    refine lv_iload_n S.1 S.2.1 d_BP_row_10 rfl (lv_at hl 3 rfl) ?_
    refine lv_bipush (v := 8) S.1 S.2.1 d_BP_row_11 (by decide) ?_
    refine hp_doneR (hp_runS S zz0 (c_BP_isWithin l _ _ _) l_BP_59 (hp_pre0 _) (by decide) rfl hl.1 rfl (nl rfl) d_BP_row_13 (by decide)) ?_
    refine lv_if_eq (tgt := 30) S.1 S.2.1 d_BP_row_16 (by decide) (fun c_16 => ?_) (fun c_16 => ?_)
    · refine lv_iconst (v := 0) S.1 S.2.1 d_BP_row_30 (by decide) ?_
      exact hp_retWz S hJ hr hlk d_BP_row_31 (by decide) (by decide) ⟨rfl, rfl⟩
    · refine lv_iconst (v := 1) S.1 S.2.1 d_BP_row_19 (by decide) ?_
      refine lv_iload S.1 S.2.1 d_BP_row_20 (lv_at hl 4 rfl) ?_
      refine lv_bipush (v := 64) S.1 S.2.1 d_BP_row_22 (by decide) ?_
      refine hp_doneR (hp_runS S zz0 (c_BP_isWithin l _ _ _) l_BP_59 (hp_pre0 _) (by decide) rfl hl.1 rfl (nl rfl) d_BP_row_24 (by decide)) ?_
      refine lv_if_ne (tgt := 32) S.1 S.2.1 d_BP_row_27 (by decide) (fun c_27 => ?_) (fun c_27 => ?_)
      · refine lv_iload S.1 S.2.1 d_BP_row_32 (lv_at hl 4 rfl) ?_
        refine lv_bipush (v := 7) S.1 S.2.1 d_BP_row_34 (by decide) ?_
        refine lv_iadd S.1 S.2.1 d_BP_row_36 ?_
        refine lv_bipush (v := 8) S.1 S.2.1 d_BP_row_37 (by decide) ?_
        refine lv_idiv S.1 S.2.1 d_BP_row_39 (by decide) ?_
        refine lv_istore (lv' := [(7, .int ((n9 + (7 : Int32)) / (8 : Int32))), (0, .ref x), (1, .int px), (2, .int py), (3, .int sc), (4, .int n9), (5, .long bits)]) S.1 S.2.1 d_BP_row_40 hl (by decide) rfl (fun ls hl => ?_)
        refine lv_aload_n S.1 S.2.1 d_BP_row_42 rfl (lv_at hl 1 rfl) ?_
        refine hp_get S zz hJ h_x f_BP_134 rfl d_BP_row_43 ?_
        refine lv_iload S.1 S.2.1 d_BP_row_46 (lv_at hl 0 rfl) ?_
        refine lv_iadd S.1 S.2.1 d_BP_row_48 ?_
        refine lv_ldc (v := 65536) S.1 S.2.1 S.2.2.2.1 (S.2.2.2.2 _ t_344) d_BP_row_49 ?_
        refine lv_icmp_le (tgt := 56) S.1 S.2.1 d_BP_row_51 (by decide) (fun q => absurd ⟨q_is_ne.mp c_6, q_is_ne.mp c_16, q_is_ne.mp c_27, q⟩ hF) (fun _ => ?_)
        refine lv_iconst (v := 0) S.1 S.2.1 d_BP_row_54 (by decide) ?_
        exact hp_retWz S hJ hr hlk d_BP_row_55 (by decide) (by decide) ⟨rfl, rfl⟩
      · refine lv_iconst (v := 0) S.1 S.2.1 d_BP_row_30 (by decide) ?_
        exact hp_retWz S hJ hr hlk d_BP_row_31 (by decide) (by decide) ⟨rfl, rfl⟩

set_option maxHeartbeats 4000000 in
set_option maxRecDepth 100000 in
theorem c_BP_row (l : Launch) (dC : Nat → ClassId) (dI : Nat → Nat → Nat) (cA : Nat → ClassId) (A : Nat → Prop) (h : hp_T) (x sheet shp pil ink clip : Nat) (bf : Nat → Int32) (bl st n : Nat) (sz px py c0 c1 c2 c3 : Int32) (nw : Option Nat) (f g : Nat → Int32) (sc n9 k9 : Nat) (bits : Int64) (h_x : h x = some (k_BP bf sheet shp pil ink clip)) (hso : bf 10 = 0 ∨ bf 10 = 1) (hio : bf 11 = 0 ∨ bf 11 = 1) (hn : n ≤ 5100) (hc : 0 ≤ c1.toInt ∧ c3.toInt < n) (ne_bl_st : bl ≠ st) (h_pil : h pil = some (k_Pl (nI n) bl st sz nw)) (h_bl : h bl = some (k_in (cA 0) n f)) (h_st : h st = some (k_in (cA 2) n g)) (h_clip : h clip = some (k_Bx c0 c1 c2 c3)) (hF : ((-10000 ≤ px ∧ px ≤ 10000) ∧ (-10000 ≤ py ∧ py ≤ 10000) ∧ sz < 4096) ∧ (1 ≤ nI sc ∧ nI sc ≤ 8) ∧ (1 ≤ nI n9 ∧ nI n9 ≤ 64) ∧ bf 8 + (nI n9 + 7) / 8 ≤ 65536) (hk9 : k9 < 4 ∧ bf 12 = nI k9) (hsc : 1 ≤ sc ∧ sc ≤ 8) (hn9 : 1 ≤ n9 ∧ n9 ≤ 64) : Met l y_BP_row (.code y_BP_row prog_1_method_10_code 9 (some .boolean) :: BIG) ({ frames := 5, cells := 9, slots := 800, locals := 115 }) (va_Pc [.ref x, .int px, .int py, .int (nI sc), .int (nI n9), .long bits] (hp_I (gg dC dI cA) A h)) (hp_QW (gg dC dI cA) A hp_mi (fun r h' => r = 1 ∧ ∃ q6 h6, rP cA (hp_up h x (k_BP (upd bf 8 (bf 8 + (nI n9 + 7) / 8)) sheet shp pil ink clip)) h6 k9 n9 sc bits q6 ∧ lP cA h6 h' pil bl st n ink sz (bf 10) (bf 11) nw (some q6) f g (q_le (bf 12) px (q_ra (bf 12) (nI n9 * nI sc) (nI sc))) (q_ty (bf 12) py (q_rd (bf 12) (nI n9 * nI sc) (nI sc))) (q_ra (bf 12) (nI n9 * nI sc) (nI sc)) (q_rd (bf 12) (nI n9 * nI sc) (nI sc)) (q_max (q_le (bf 12) px (q_ra (bf 12) (nI n9 * nI sc) (nI sc))) c0) (q_max (q_ty (bf 12) py (q_rd (bf 12) (nI n9 * nI sc) (nI sc))) c1) (q_min (q_le (bf 12) px (q_ra (bf 12) (nI n9 * nI sc) (nI sc)) + q_ra (bf 12) (nI n9 * nI sc) (nI sc)) c2) (q_min (q_ty (bf 12) py (q_rd (bf 12) (nI n9 * nI sc) (nI sc)) + q_rd (bf 12) (nI n9 * nI sc) (nI sc)) c3))) 9 800 A := by
  refine hp_enter (by decide) (Nat.le_of_ble_eq_true rfl) ?_
  intro p e s m below meth c ls S hr hlk hin hI hl
  have hl : lv_has ls 9 [(0, .ref x), (1, .int px), (2, .int py), (3, .int (nI sc)), (4, .int (nI n9)), (5, .long bits)] := hl
  have hJ := hI.J
  refine lv_aload_n S.1 S.2.1 d_BP_row_0 rfl (lv_at hl 0 rfl) ?_
  refine lv_iload_n S.1 S.2.1 d_BP_row_1 rfl (lv_at hl 1 rfl) ?_
  refine lv_iload_n S.1 S.2.1 d_BP_row_2 rfl (lv_at hl 2 rfl) ?_
  refine hp_doneR (hp_runV S zz0 (c_BP_canLayAt l dC dI cA A _ x sheet shp pil ink clip bf bl st (nI n) sz nw px py h_x h_pil) l_BP_120 (hJ.preV _ h_x rfl) (by decide) rfl hl.1 rfl (nl rfl) d_BP_row_3 (by decide)) ?_
  refine lv_if_eq (tgt := 30) S.1 S.2.1 d_BP_row_6 (by decide) (fun q => absurd hF.1 (q_is_0.mp q)) (fun _ => ?_)
  refine lv_iconst (v := 1) S.1 S.2.1 d_BP_row_9 (by decide) ?_
  refine lv_iload_n S.1 S.2.1 d_BP_row_10 rfl (lv_at hl 3 rfl) ?_
  refine lv_bipush (v := 8) S.1 S.2.1 d_BP_row_11 (by decide) ?_
  refine hp_doneR (hp_runS S zz0 (c_BP_isWithin l _ _ _) l_BP_59 (hp_pre0 _) (by decide) rfl hl.1 rfl (nl rfl) d_BP_row_13 (by decide)) ?_
  refine lv_if_eq (tgt := 30) S.1 S.2.1 d_BP_row_16 (by decide) (fun q => absurd hF.2.1 (q_is_0.mp q)) (fun _ => ?_)
  refine lv_iconst (v := 1) S.1 S.2.1 d_BP_row_19 (by decide) ?_
  refine lv_iload S.1 S.2.1 d_BP_row_20 (lv_at hl 4 rfl) ?_
  refine lv_bipush (v := 64) S.1 S.2.1 d_BP_row_22 (by decide) ?_
  refine hp_doneR (hp_runS S zz0 (c_BP_isWithin l _ _ _) l_BP_59 (hp_pre0 _) (by decide) rfl hl.1 rfl (nl rfl) d_BP_row_24 (by decide)) ?_
  refine lv_if_ne (tgt := 32) S.1 S.2.1 d_BP_row_27 (by decide) (fun _ => ?_) (fun q => absurd hF.2.2.1 (fun z => absurd q (q_is_ne.mpr z)))
  refine lv_iload S.1 S.2.1 d_BP_row_32 (lv_at hl 4 rfl) ?_
  refine lv_bipush (v := 7) S.1 S.2.1 d_BP_row_34 (by decide) ?_
  refine lv_iadd S.1 S.2.1 d_BP_row_36 ?_
  refine lv_bipush (v := 8) S.1 S.2.1 d_BP_row_37 (by decide) ?_
  refine lv_idiv S.1 S.2.1 d_BP_row_39 (by decide) ?_
  refine lv_istore (lv' := [(7, .int (((nI n9) + (7 : Int32)) / (8 : Int32))), (0, .ref x), (1, .int px), (2, .int py), (3, .int (nI sc)), (4, .int (nI n9)), (5, .long bits)]) S.1 S.2.1 d_BP_row_40 hl (by decide) rfl (fun ls hl => ?_)
  refine lv_aload_n S.1 S.2.1 d_BP_row_42 rfl (lv_at hl 1 rfl) ?_
  refine hp_get S zz hJ h_x f_BP_134 rfl d_BP_row_43 ?_
  refine lv_iload S.1 S.2.1 d_BP_row_46 (lv_at hl 0 rfl) ?_
  refine lv_iadd S.1 S.2.1 d_BP_row_48 ?_
  refine lv_ldc (v := 65536) S.1 S.2.1 S.2.2.2.1 (S.2.2.2.2 _ t_344) d_BP_row_49 ?_
  refine lv_icmp_le (tgt := 56) S.1 S.2.1 d_BP_row_51 (by decide) (fun _ => ?_) (fun q => absurd hF.2.2.2 q)
  refine lv_aload_n S.1 S.2.1 d_BP_row_56 rfl (lv_at hl 1 rfl) ?_
  refine lv_dup S.1 S.2.1 d_BP_row_57 rfl ?_
  refine hp_get S zz hJ h_x f_BP_134 rfl d_BP_row_58 ?_
  refine lv_iload S.1 S.2.1 d_BP_row_61 (lv_at hl 0 rfl) ?_
  refine lv_iadd S.1 S.2.1 d_BP_row_63 ?_
  refine hp_put S zz hJ h_x fp_BP_134 rfl rfl (nl rfl) d_BP_row_64 (fun H locs hJ => ?_)
  obtain ⟨h1, eh1⟩ : ∃ z, z = hp_up h x (.inr (0, [.int (bf 0), .int (bf 1), .int (bf 2), .ref sheet, .ref shp, .ref pil, .int (bf 6), .int (bf 7), .int ((bf 8) + (((nI n9) + (7 : Int32)) / (8 : Int32))), .ref ink, .int (bf 10), .int (bf 11), .int (bf 12), .ref clip])) := ⟨_, rfl⟩
  have hJ := hJ.cast eh1
  have h0_x := h_x
  have h_pil : h1 pil = some (.inr (5, [.int (nI n), .ref bl, .ref st, .int sz, va_rf nw])) := by rw [eh1]; exact hp_up_k (hp_ne h_pil h0_x (show ((0, 5) : Nat × Nat) ≠ (0, 0) by decide)) h_pil
  have h_bl : h1 bl = some (k_in (cA 0) n f) := by rw [eh1]; exact hp_up_k (hp_ne h_bl h0_x (show ((1, 0) : Nat × Nat) ≠ (0, 0) by decide)) h_bl
  have h_st : h1 st = some (k_in (cA 2) n g) := by rw [eh1]; exact hp_up_k (hp_ne h_st h0_x (show ((1, 0) : Nat × Nat) ≠ (0, 0) by decide)) h_st
  have h_clip : h1 clip = some (.inr (1, [.int c0, .int c1, .int c2, .int c3])) := by rw [eh1]; exact hp_up_k (hp_ne h_clip h0_x (show ((0, 1) : Nat × Nat) ≠ (0, 0) by decide)) h_clip
  have h_x : h1 x = some (.inr (0, [.int (bf 0), .int (bf 1), .int (bf 2), .ref sheet, .ref shp, .ref pil, .int (bf 6), .int (bf 7), .int ((bf 8) + (((nI n9) + (7 : Int32)) / (8 : Int32))), .ref ink, .int (bf 10), .int (bf 11), .int (bf 12), .ref clip])) := by rw [eh1]; exact hp_up_s _ _ _
  refine hp_new S zz hJ (ci := 4) rfl n_BP_95 e0_Pc_ok (by decide) (by decide) d_BP_row_67 (fun q0 H hq_q0 hs_q0 hJ => ?_)
  obtain ⟨h2, eh2⟩ : ∃ z, z = hp_up h1 q0 (.inr (4, [.int 0, .int 0, .int 0, .int 0, .null])) := ⟨_, rfl⟩
  have hJ := hJ.cast eh2
  have h_x : h2 x = some (.inr (0, [.int (bf 0), .int (bf 1), .int (bf 2), .ref sheet, .ref shp, .ref pil, .int (bf 6), .int (bf 7), .int ((bf 8) + (((nI n9) + (7 : Int32)) / (8 : Int32))), .ref ink, .int (bf 10), .int (bf 11), .int (bf 12), .ref clip])) := by rw [eh2]; exact hp_up_k (hp_neN h_x hq_q0) h_x
  have h_pil : h2 pil = some (.inr (5, [.int (nI n), .ref bl, .ref st, .int sz, va_rf nw])) := by rw [eh2]; exact hp_up_k (hp_neN h_pil hq_q0) h_pil
  have h_bl : h2 bl = some (k_in (cA 0) n f) := by rw [eh2]; exact hp_up_k (hp_neN h_bl hq_q0) h_bl
  have h_st : h2 st = some (k_in (cA 2) n g) := by rw [eh2]; exact hp_up_k (hp_neN h_st hq_q0) h_st
  have h_clip : h2 clip = some (.inr (1, [.int c0, .int c1, .int c2, .int c3])) := by rw [eh2]; exact hp_up_k (hp_neN h_clip hq_q0) h_clip
  have h_q0 : h2 q0 = some (.inr (4, [.int 0, .int 0, .int 0, .int 0, .null])) := by rw [eh2]; exact hp_up_s _ _ _
  refine lv_dup S.1 S.2.1 d_BP_row_70 rfl ?_
  refine lv_iload S.1 S.2.1 d_BP_row_71 (lv_at hl 5 rfl) ?_
  refine lv_iconst (v := 1) S.1 S.2.1 d_BP_row_73 (by decide) ?_
  refine lv_iconst (v := 1) S.1 S.2.1 d_BP_row_74 (by decide) ?_
  have hx0 := ext_up (e0 := .inr (4, e0_Pc)) hq_q0
  refine hp_doneWv hJ (hp_runI S zz0 (c_Pc_init l dC dI cA A _ q0 n9 1 1 (by omega) (by decide) (by decide) (by unfold pw; omega) h_q0) l_BP_138 (hJ.pre _) (by decide) rfl hl.1 rfl (nl rfl) d_BP_row_75 (by decide)) (fun h3 H locs hx hJ => ?_)
  obtain ⟨b0, hN_b0, eh3⟩ := hx
  have ne_q0_b0 : q0 ≠ b0 := hp_neN h_q0 hN_b0
  have x13 : ∀ (a : Nat) (e : va_E), h1 a = some e → h3 a = some e := by rw [eh3, eh2, hp_tbt _ _ _ _ ne_q0_b0]; rw [eh2] at hN_b0; exact ext_tr (ext_up (hp_up_none hN_b0)) (ext_up (by rw [hp_up_n ne_q0_b0]; exact hq_q0))
  replace h_x : h3 x = some (.inr (0, [.int (bf 0), .int (bf 1), .int (bf 2), .ref sheet, .ref shp, .ref pil, .int (bf 6), .int (bf 7), .int ((bf 8) + (((nI n9) + (7 : Int32)) / (8 : Int32))), .ref ink, .int (bf 10), .int (bf 11), .int (bf 12), .ref clip])) := by rw [eh3]; exact hp_up_k (hp_neN (h := h1) (by have z := h_x; rw [eh2, hp_up_n (hp_ne h_x h_q0 (show ((0, 0) : Nat × Nat) ≠ (0, 4) by decide))] at z; exact z) hq_q0) (hp_up_k (hp_neN h_x hN_b0) h_x)
  replace h_pil : h3 pil = some (.inr (5, [.int (nI n), .ref bl, .ref st, .int sz, va_rf nw])) := by rw [eh3]; exact hp_up_k (hp_neN (h := h1) (by have z := h_pil; rw [eh2, hp_up_n (hp_ne h_pil h_q0 (show ((0, 5) : Nat × Nat) ≠ (0, 4) by decide))] at z; exact z) hq_q0) (hp_up_k (hp_neN h_pil hN_b0) h_pil)
  replace h_bl : h3 bl = some (k_in (cA 0) n f) := by rw [eh3]; exact hp_up_k (hp_neN (h := h1) (by have z := h_bl; rw [eh2, hp_up_n (hp_ne h_bl h_q0 (show ((1, 0) : Nat × Nat) ≠ (0, 4) by decide))] at z; exact z) hq_q0) (hp_up_k (hp_neN h_bl hN_b0) h_bl)
  replace h_st : h3 st = some (k_in (cA 2) n g) := by rw [eh3]; exact hp_up_k (hp_neN (h := h1) (by have z := h_st; rw [eh2, hp_up_n (hp_ne h_st h_q0 (show ((1, 0) : Nat × Nat) ≠ (0, 4) by decide))] at z; exact z) hq_q0) (hp_up_k (hp_neN h_st hN_b0) h_st)
  replace h_clip : h3 clip = some (.inr (1, [.int c0, .int c1, .int c2, .int c3])) := by rw [eh3]; exact hp_up_k (hp_neN (h := h1) (by have z := h_clip; rw [eh2, hp_up_n (hp_ne h_clip h_q0 (show ((0, 1) : Nat × Nat) ≠ (0, 4) by decide))] at z; exact z) hq_q0) (hp_up_k (hp_neN h_clip hN_b0) h_clip)
  have h_b0 : h3 b0 = some (k_lo (cA 1) (pw n9 * 1) (fun _ => 0)) := by rw [eh3]; exact hp_up_k (Ne.symm ne_q0_b0) (hp_up_s _ _ _)
  replace h_q0 : h3 q0 = some (k_Pc (nI n9) (nI 1) (nI 1) (nI (pw n9)) b0) := by rw [eh3]; exact hp_up_s _ _ _
  refine lv_astore (lv' := [(8, .ref q0), (7, .int (((nI n9) + (7 : Int32)) / (8 : Int32))), (0, .ref x), (1, .int px), (2, .int py), (3, .int (nI sc)), (4, .int (nI n9)), (5, .long bits)]) S.1 S.2.1 d_BP_row_78 hl (by decide) rfl (fun ls hl => ?_)
  refine lv_aload S.1 S.2.1 d_BP_row_80 (lv_at hl 0 rfl) ?_
  refine lv_iconst (v := 0) S.1 S.2.1 d_BP_row_82 (by decide) ?_
  refine lv_lload S.1 S.2.1 d_BP_row_83 (lv_at hl 7 rfl) ?_
  refine lv_lconst (v := 0) S.1 S.2.1 d_BP_row_85 (by decide) ?_
  refine hp_doneWv hJ (hp_runV S zz0 (c_Pc_setDots l dC dI cA A _ q0 b0 _ _ _ _ _ _ 0 bits 0 h_q0 h_b0 (ix_ok (wd := pw n9) (d := 1) (by unfold pw; omega) (by decide))) l_BP_141 (hJ.preV _ h_q0 rfl) (by decide) rfl hl.1 rfl (nl rfl) d_BP_row_86 (by decide)) (fun h4 H locs eh4 hJ => ?_)
  have h0_b0 := h_b0
  have h_x : h4 x = some (.inr (0, [.int (bf 0), .int (bf 1), .int (bf 2), .ref sheet, .ref shp, .ref pil, .int (bf 6), .int (bf 7), .int ((bf 8) + (((nI n9) + (7 : Int32)) / (8 : Int32))), .ref ink, .int (bf 10), .int (bf 11), .int (bf 12), .ref clip])) := by rw [eh4]; exact hp_up_k (hp_ne h_x h0_b0 (show ((0, 0) : Nat × Nat) ≠ (2, 0) by decide)) h_x
  have h_pil : h4 pil = some (.inr (5, [.int (nI n), .ref bl, .ref st, .int sz, va_rf nw])) := by rw [eh4]; exact hp_up_k (hp_ne h_pil h0_b0 (show ((0, 5) : Nat × Nat) ≠ (2, 0) by decide)) h_pil
  have h_bl : h4 bl = some (k_in (cA 0) n f) := by rw [eh4]; exact hp_up_k (hp_ne h_bl h0_b0 (show ((1, 0) : Nat × Nat) ≠ (2, 0) by decide)) h_bl
  have h_st : h4 st = some (k_in (cA 2) n g) := by rw [eh4]; exact hp_up_k (hp_ne h_st h0_b0 (show ((1, 0) : Nat × Nat) ≠ (2, 0) by decide)) h_st
  have h_clip : h4 clip = some (.inr (1, [.int c0, .int c1, .int c2, .int c3])) := by rw [eh4]; exact hp_up_k (hp_ne h_clip h0_b0 (show ((0, 1) : Nat × Nat) ≠ (2, 0) by decide)) h_clip
  have h_q0 : h4 q0 = some (.inr (4, [.int (nI n9), .int (nI 1), .int (nI 1), .int (nI (pw n9)), .ref b0])) := by rw [eh4]; exact hp_up_k (hp_ne h_q0 h0_b0 (show ((0, 4) : Nat × Nat) ≠ (2, 0) by decide)) h_q0
  have h_b0 : h4 b0 = some (k_lo (cA 1) (pw n9 * 1) (q_r0 n9 bits)) := by rw [eh4]; exact hp_up_s _ _ _
  have hN1_q0 : h1 q0 = none := hq_q0
  have hN1_b0 : h1 b0 = none := by rw [eh2] at hN_b0; exact hp_up_none hN_b0
  have x14 : ∀ (a : Nat) (e : va_E), h1 a = some e → h4 a = some e := fun a e ha => by rw [eh4]; exact hp_up_k (hp_neN ha hN1_b0) (x13 a e ha)
  refine lv_aload_n S.1 S.2.1 d_BP_row_89 rfl (lv_at hl 2 rfl) ?_
  refine lv_aload S.1 S.2.1 d_BP_row_90 (lv_at hl 0 rfl) ?_
  refine lv_aload_n S.1 S.2.1 d_BP_row_92 rfl (lv_at hl 2 rfl) ?_
  refine hp_get S zz hJ h_x f_BP_113 rfl d_BP_row_93 ?_
  by_cases z9 : k9 = 0
  · refine hp_doneR (hp_runV S zz0 (c0_Pc_turnedBy l dC dI cA A _ q0) l_BP_144 (hJ.preV [.int 0] h_q0 rfl) (by decide) rfl hl.1 (by rw [hk9.2, z9]; rfl) (nl rfl) d_BP_row_96 (by decide)) ?_
    have h_p : h4 q0 = some (k_Pc (nI (rw_w k9 n9)) (nI (rw_d k9 n9)) (nI 1) (nI (pw (rw_w k9 n9))) b0) := by unfold rw_w rw_d; rw [if_pos z9, if_pos z9]; exact h_q0
    have h_pb : h4 b0 = some (k_lo (cA 1) (pw (rw_w k9 n9) * rw_d k9 n9) (rw_f k9 n9 bits)) := by unfold rw_w rw_d rw_f; rw [if_pos z9, if_pos z9, if_pos z9]; exact h_b0
    refine lv_iload_n S.1 S.2.1 d_BP_row_99 rfl (lv_at hl 5 rfl) ?_
    refine hp_doneWr hJ (hp_runV S zz0 (c_Pc_enlarged l dC dI cA A _ q0 b0 (rw_w k9 n9) (rw_d k9 n9) 1 sc (rw_f k9 n9 bits) (by have z := (rw_1 hk9.1 hn9).1; omega) (by have z := (rw_1 hk9.1 hn9).2.1; omega) hsc (rw_2 hk9.1 hn9 hsc).1 (rw_2 hk9.1 hn9 hsc).2 h_p h_pb) l_BP_145 (hJ.preV _ h_p rfl) (by decide) rfl hl.1 rfl (nl rfl) d_BP_row_100 (by decide)) (fun q6 h6 H locs hx hJ => ?_)
    obtain ⟨b6, hN_q6, hN_b6, ne_q6_b6, eh6⟩ := hx
    have x56 : ∀ (a : Nat) (e : va_E), h4 a = some e → h6 a = some e := by rw [eh6]; exact ext_tr (ext_up hN_b6) (ext_up (by rw [hp_up_n ne_q6_b6]; exact hN_q6))
    have hR : rP cA h1 h6 k9 n9 sc bits q6 := ⟨ext_tr x14 x56, b6, ext_none x14 hN_q6, ext_none x14 hN_b6, by rw [eh6]; exact hp_up_s _ _ _, by rw [eh6]; exact hp_up_k (Ne.symm ne_q6_b6) (hp_up_s _ _ _)⟩
    replace h_x := x56 _ _ h_x
    replace h_pil := x56 _ _ h_pil
    replace h_bl := x56 _ _ h_bl
    replace h_st := x56 _ _ h_st
    replace h_clip := x56 _ _ h_clip
    refine lv_iload_n S.1 S.2.1 d_BP_row_103 rfl (lv_at hl 3 rfl) ?_
    refine lv_iload_n S.1 S.2.1 d_BP_row_104 rfl (lv_at hl 4 rfl) ?_
    refine lv_iload S.1 S.2.1 d_BP_row_105 (lv_at hl 6 rfl) ?_
    refine lv_iload_n S.1 S.2.1 d_BP_row_107 rfl (lv_at hl 5 rfl) ?_
    refine lv_imul S.1 S.2.1 d_BP_row_108 ?_
    refine lv_iload_n S.1 S.2.1 d_BP_row_109 rfl (lv_at hl 5 rfl) ?_
    refine hp_doneWv hJ (hp_runV S zz0 (cS_BP_lay l dC dI cA A _ x sheet shp pil ink clip (upd bf 8 (bf 8 + (nI n9 + 7) / 8)) bl st n sz (nI n9 * nI sc) (nI sc) px py c0 c1 c2 c3 nw f g q6 h_x hso hio hn hc ne_bl_st h_pil h_bl h_st h_clip) l_BP_130 (hJ.preV _ h_x rfl) (by decide) rfl hl.1 rfl (nl rfl) d_BP_row_110 (by decide)) (fun h9 H locs eh9 hJ => ?_)
    refine lv_iconst (v := 1) S.1 S.2.1 d_BP_row_113 (by decide) ?_
    exact hp_retWz S hJ hr hlk d_BP_row_114 (by decide) (by decide) ⟨rfl, q6, h6, eh1 ▸ hR, eh9⟩
  · refine hp_doneWr hJ (hp_runV S zz0 (c_Pc_turnedBy l dC dI cA A _ q0 b0 n9 1 1 _ (nI k9) (nI_ne0 (by omega) (by omega)) (by omega) (by decide) (by decide) (by unfold pw; omega) (by unfold pw; omega) h_q0 h_b0) l_BP_144 (hJ.preV [.int (nI k9)] h_q0 rfl) (by decide) rfl hl.1 (by rw [hk9.2]; rfl) (nl rfl) d_BP_row_96 (by decide)) (fun q5 h5 H locs hx hJ => ?_)
    obtain ⟨b5, hN_q5, hN_b5, ne_q5_b5, eh5⟩ := hx
    have x45 : ∀ (a : Nat) (e : va_E), h4 a = some e → h5 a = some e := by rw [eh5]; exact ext_tr (ext_up hN_b5) (ext_up (by rw [hp_up_n ne_q5_b5]; exact hN_q5))
    have x15 := ext_tr x14 x45
    replace h_x := x45 _ _ h_x
    replace h_pil := x45 _ _ h_pil
    replace h_bl := x45 _ _ h_bl
    replace h_st := x45 _ _ h_st
    replace h_clip := x45 _ _ h_clip
    have h_p : h5 q5 = some (k_Pc (nI (rw_w k9 n9)) (nI (rw_d k9 n9)) (nI 1) (nI (pw (rw_w k9 n9))) b5) := by unfold rw_w rw_d; rw [if_neg z9, if_neg z9, eh5]; exact hp_up_s _ _ _
    have h_pb : h5 b5 = some (k_lo (cA 1) (pw (rw_w k9 n9) * rw_d k9 n9) (rw_f k9 n9 bits)) := by unfold rw_w rw_d rw_f; rw [if_neg z9, if_neg z9, if_neg z9, eh5]; exact hp_up_k (Ne.symm ne_q5_b5) (hp_up_s _ _ _)
    refine lv_iload_n S.1 S.2.1 d_BP_row_99 rfl (lv_at hl 5 rfl) ?_
    refine hp_doneWr hJ (hp_runV S zz0 (c_Pc_enlarged l dC dI cA A _ q5 b5 (rw_w k9 n9) (rw_d k9 n9) 1 sc (rw_f k9 n9 bits) (by have z := (rw_1 hk9.1 hn9).1; omega) (by have z := (rw_1 hk9.1 hn9).2.1; omega) hsc (rw_2 hk9.1 hn9 hsc).1 (rw_2 hk9.1 hn9 hsc).2 h_p h_pb) l_BP_145 (hJ.preV _ h_p rfl) (by decide) rfl hl.1 rfl (nl rfl) d_BP_row_100 (by decide)) (fun q6 h6 H locs hx hJ => ?_)
    obtain ⟨b6, hN_q6, hN_b6, ne_q6_b6, eh6⟩ := hx
    have x56 : ∀ (a : Nat) (e : va_E), h5 a = some e → h6 a = some e := by rw [eh6]; exact ext_tr (ext_up hN_b6) (ext_up (by rw [hp_up_n ne_q6_b6]; exact hN_q6))
    have hR : rP cA h1 h6 k9 n9 sc bits q6 := ⟨ext_tr x15 x56, b6, ext_none x15 hN_q6, ext_none x15 hN_b6, by rw [eh6]; exact hp_up_s _ _ _, by rw [eh6]; exact hp_up_k (Ne.symm ne_q6_b6) (hp_up_s _ _ _)⟩
    replace h_x := x56 _ _ h_x
    replace h_pil := x56 _ _ h_pil
    replace h_bl := x56 _ _ h_bl
    replace h_st := x56 _ _ h_st
    replace h_clip := x56 _ _ h_clip
    refine lv_iload_n S.1 S.2.1 d_BP_row_103 rfl (lv_at hl 3 rfl) ?_
    refine lv_iload_n S.1 S.2.1 d_BP_row_104 rfl (lv_at hl 4 rfl) ?_
    refine lv_iload S.1 S.2.1 d_BP_row_105 (lv_at hl 6 rfl) ?_
    refine lv_iload_n S.1 S.2.1 d_BP_row_107 rfl (lv_at hl 5 rfl) ?_
    refine lv_imul S.1 S.2.1 d_BP_row_108 ?_
    refine lv_iload_n S.1 S.2.1 d_BP_row_109 rfl (lv_at hl 5 rfl) ?_
    refine hp_doneWv hJ (hp_runV S zz0 (cS_BP_lay l dC dI cA A _ x sheet shp pil ink clip (upd bf 8 (bf 8 + (nI n9 + 7) / 8)) bl st n sz (nI n9 * nI sc) (nI sc) px py c0 c1 c2 c3 nw f g q6 h_x hso hio hn hc ne_bl_st h_pil h_bl h_st h_clip) l_BP_130 (hJ.preV _ h_x rfl) (by decide) rfl hl.1 rfl (nl rfl) d_BP_row_110 (by decide)) (fun h9 H locs eh9 hJ => ?_)
    refine lv_iconst (v := 1) S.1 S.2.1 d_BP_row_113 (by decide) ?_
    exact hp_retWz S hJ hr hlk d_BP_row_114 (by decide) (by decide) ⟨rfl, q6, h6, eh1 ▸ hR, eh9⟩

