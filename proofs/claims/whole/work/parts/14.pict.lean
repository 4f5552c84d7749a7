/-! Pictures: made, read and written. -/
def pw (w : Nat) : Nat := (w + 63) / 64
theorem lg_cmp_0 (x : Int64) : lg_cmp x 0 = 0 ↔ x = 0 := by
  unfold lg_cmp
  split
  · rename_i h
    exact ⟨fun q => absurd q (by decide), fun q => by rw [q] at h; exact absurd h (by decide)⟩
  · split
    · rename_i h
      exact ⟨fun _ => h, fun _ => rfl⟩
    · rename_i h
      exact ⟨fun q => absurd q (by decide), fun q => absurd q h⟩
theorem ix_ok {wd d : Nat} (hw : wd ≤ 1024) (hd : d ≤ 1024) (j k : Int32) (h : 0 ≤ j ∧ j < nI d ∧ 0 ≤ k ∧ k < nI wd) : vp_in (j * nI wd + k) (wd * d) := by
  obtain ⟨h1, h2, h3, h4⟩ := h
  simp only [z_lt, z_le, z_0] at h1 h2 h3 h4
  rw [z_nI (by omega)] at h2 h4
  obtain ⟨j', hj'⟩ : ∃ j' : Nat, j.toInt = (j' : Int) := ⟨j.toInt.toNat, by omega⟩
  obtain ⟨k', hk'⟩ : ∃ k' : Nat, k.toInt = (k' : Int) := ⟨k.toInt.toNat, by omega⟩
  have ej := z_of hj'
  have ek := z_of hk'
  subst ej
  subst ek
  have hj : j' < d := by omega
  have hk : k' < wd := by omega
  have h5 : j' * wd + k' < wd * d := by
    have : (j' + 1) * wd ≤ d * wd := Nat.mul_le_mul_right _ hj
    rw [Nat.add_mul, Nat.one_mul] at this
    rw [Nat.mul_comm wd d]
    omega
  have h6 : wd * d ≤ 1024 * 1024 := Nat.mul_le_mul hw hd
  rw [pk_mul, nI_add]
  exact vp_in_nI h5 (by omega)
theorem wa_in {wd d : Nat} (hw : wd ≤ 1024) (hd : d ≤ 1024) (f : Nat → Int64) {j k : Nat} (hj : j < d) (hk : k < wd) : q_wa (nI d) (nI wd) f (nI j) (nI k) = f (j * wd + k) := by
  have h5 : j * wd + k < wd * d := by
    have : (j + 1) * wd ≤ d * wd := Nat.mul_le_mul_right _ hj
    rw [Nat.add_mul, Nat.one_mul] at this
    rw [Nat.mul_comm wd d]
    omega
  have h6 : wd * d ≤ 1024 * 1024 := Nat.mul_le_mul hw hd
  unfold q_wa
  rw [if_pos ⟨nI_pos' (by omega), nI_lt hj (by omega), nI_pos' (by omega), nI_lt hk (by omega)⟩, pk_mul, nI_add, nI_clamp (by omega)]
theorem wa_out {wd d : Nat} (hw : wd ≤ 1024) (hd : d ≤ 1024) (f : Nat → Int64) {j k : Int32} (h : ¬ (0 ≤ j.toInt ∧ j.toInt < d ∧ 0 ≤ k.toInt ∧ k.toInt < wd)) : q_wa (nI d) (nI wd) f j k = 0 := by
  unfold q_wa
  rw [if_neg]
  intro q
  simp only [z_lt, z_le, z_0] at q
  rw [z_nI (by omega), z_nI (by omega)] at q
  exact h q
theorem sw_in {wd d : Nat} (hw : wd ≤ 1024) (hd : d ≤ 1024) (f : Nat → Int64) {j k : Nat} (hj : j < d) (hk : k < wd) (x : Int64) : q_sw (nI d) (nI wd) f (nI j) (nI k) x = vp_updL f (j * wd + k) x := by
  have h5 : j * wd + k < wd * d := by
    have : (j + 1) * wd ≤ d * wd := Nat.mul_le_mul_right _ hj
    rw [Nat.add_mul, Nat.one_mul] at this
    rw [Nat.mul_comm wd d]
    omega
  have h6 : wd * d ≤ 1024 * 1024 := Nat.mul_le_mul hw hd
  unfold q_sw
  rw [if_pos ⟨nI_pos' (by omega), nI_lt hj (by omega), nI_pos' (by omega), nI_lt hk (by omega)⟩, pk_mul, nI_add, nI_clamp (by omega)]
theorem sw_out {wd d : Nat} (hw : wd ≤ 1024) (hd : d ≤ 1024) (f : Nat → Int64) {j k : Int32} (x : Int64) (h : ¬ (0 ≤ j.toInt ∧ j.toInt < d ∧ 0 ≤ k.toInt ∧ k.toInt < wd)) : q_sw (nI d) (nI wd) f j k x = f := by
  unfold q_sw
  rw [if_neg]
  intro q
  simp only [z_lt, z_le, z_0] at q
  rw [z_nI (by omega), z_nI (by omega)] at q
  exact h q
/-- the dot i of a long's 64, alone -/
def q_dot (i : Int32) : Int64 := ((-9223372036854775808 : Int64).toUInt64 >>> ((i - i / 64 * 64).toInt64.toUInt64 &&& Int64.toUInt64 63)).toInt64
theorem tb_top {p : Nat} (hp : p < 64) : tb (-9223372036854775808) p = decide (p = 0) := by
  revert p
  decide +kernel
theorem n64 : nI 64 = 64 := rfl
theorem dot_i {i : Nat} (hi : i < 2 ^ 31) {p : Nat} (hp : p < 64) : tb (q_dot (nI i)) p = decide (p = i % 64) := by
  unfold q_dot
  rw [← n64, pk_rem hi (by decide) (by decide), tb_ushr _ (by omega) hp, tb_top (by omega)]
  by_cases h : p = i % 64
  · rw [decide_eq_true h, decide_eq_false (by omega), decide_eq_true (by omega)]; rfl
  · rw [decide_eq_false h]
    by_cases h2 : p < i % 64
    · rw [decide_eq_true h2]; rfl
    · rw [decide_eq_false h2, decide_eq_false (by omega)]; rfl
theorem dot_and {i : Nat} (hi : i < 2 ^ 31) (x : Int64) : ¬ x &&& q_dot (nI i) = 0 ↔ tb x (i % 64) = true := by
  constructor
  · intro h
    cases hb : tb x (i % 64) with
    | true => rfl
    | false =>
      refine absurd (tb_ext fun p hp => ?_) h
      rw [tb_and, dot_i hi hp, tb_0]
      by_cases hq : p = i % 64
      · rw [hq, hb]; rfl
      · rw [decide_eq_false hq, Bool.and_false]
  · intro h q
    have := congrArg (fun z => tb z (i % 64)) q
    simp only [tb_and, tb_0] at this
    rw [dot_i hi (by omega), h, decide_eq_true rfl] at this
    exact absurd this (by decide)
/-- a picture's dots, out of its words -/
def pd (f : Nat → Int64) (wd i j : Nat) : Bool := tb (f (j * wd + i / 64)) (i % 64)
theorem div64 {i : Nat} (hi : i < 2 ^ 31) : nI i / 64 = nI (i / 64) := by rw [← n64, pk_div hi (by decide) (by decide)]

set_option maxHeartbeats 4000000 in
set_option maxRecDepth 100000 in
theorem c_Pc_isBlack (l : Launch) (dC : Nat → ClassId) (dI : Nat → Nat → Nat) (cA : Nat → ClassId) (A : Nat → Prop) (h : hp_T) (t b : Nat) (w d tl wd : Int32) (n : Nat) (f : Nat → Int64) (i j : Int32) (h_t : h t = some (k_Pc w d tl wd b)) (h_b : h b = some (k_lo (cA 1) n f)) (hix : ∀ j k : Int32, 0 ≤ j ∧ j < d ∧ 0 ≤ k ∧ k < wd → vp_in (j * wd + k) n) : Met l y_Pc_isBlack (.code y_Pc_isBlack prog_5_method_8_code 3 (some .boolean) :: BIG) ({ frames := 2, cells := 0, slots := 0, locals := 44 }) (va_Pc [.ref t, .int i, .int j] (hp_I (gg dC dI cA) A h)) (hp_QR (some (.int (q_is (¬ q_wa d wd f j (i / 64) &&& q_dot i = 0))))) 0 0 (fun _ => False) := by
  refine hp_enter (by decide) (Nat.le_of_ble_eq_true rfl) ?_
  intro p e s m below meth c ls S hr hlk hin hI hl
  have hl : lv_has ls 3 [(0, .ref t), (1, .int i), (2, .int j)] := hl
  have hJ := hI.J
  refine lv_aload_n S.1 S.2.1 d_Pc_isBlack_0 rfl (lv_at hl 0 rfl) ?_
  refine lv_iload_n S.1 S.2.1 d_Pc_isBlack_1 rfl (lv_at hl 2 rfl) ?_
  refine lv_iload_n S.1 S.2.1 d_Pc_isBlack_2 rfl (lv_at hl 1 rfl) ?_
  refine lv_bipush (v := 64) S.1 S.2.1 d_Pc_isBlack_3 (by decide) ?_
  refine lv_idiv S.1 S.2.1 d_Pc_isBlack_5 (by decide) ?_
  refine hp_doneR (hp_runV S zz0 (c_Pc_wordAt l dC dI cA A h t b w d tl wd n f _ _ h_t h_b hix) l_Pc_54 (hJ.preV _ h_t rfl) (by decide) rfl hl.1 rfl (nl rfl) d_Pc_isBlack_6 (by decide)) ?_
  refine lv_ldc2 (v := (-9223372036854775808)) S.1 S.2.1 S.2.2.2.1 (S.2.2.2.2 _ t_267) d_Pc_isBlack_9 ?_
  refine lv_iload_n S.1 S.2.1 d_Pc_isBlack_12 rfl (lv_at hl 1 rfl) ?_
  refine lv_bipush (v := 64) S.1 S.2.1 d_Pc_isBlack_13 (by decide) ?_
  refine lv_irem S.1 S.2.1 d_Pc_isBlack_15 (by decide) ?_
  refine lv_lushr S.1 S.2.1 d_Pc_isBlack_16 rfl ?_
  refine lv_land S.1 S.2.1 d_Pc_isBlack_17 ?_
  refine lv_lconst (v := 0) S.1 S.2.1 d_Pc_isBlack_18 (by decide) ?_
  refine W.lcmp S.1 S.2.1 d_Pc_isBlack_19 ?_
  refine lv_if_eq (tgt := 27) S.1 S.2.1 d_Pc_isBlack_20 (by decide) (fun c_20 => ?_) (fun c_20 => ?_)
  · refine lv_iconst (v := 0) S.1 S.2.1 d_Pc_isBlack_27 (by decide) ?_
    exact hp_retRz S hr hlk d_Pc_isBlack_28 (by decide) (q_is_f (fun q => q ((lg_cmp_0 _).mp c_20)))
  · refine lv_iconst (v := 1) S.1 S.2.1 d_Pc_isBlack_23 (by decide) ?_
    refine lv_goto (tgt := 28) S.1 S.2.1 d_Pc_isBlack_24 (by decide) ?_
    exact hp_retRz S hr hlk d_Pc_isBlack_28 (by decide) (q_is_t (fun q => c_20 ((lg_cmp_0 _).mpr q)))

set_option maxHeartbeats 4000000 in
set_option maxRecDepth 100000 in
theorem c_Pc_blacken (l : Launch) (dC : Nat → ClassId) (dI : Nat → Nat → Nat) (cA : Nat → ClassId) (A : Nat → Prop) (h : hp_T) (t b : Nat) (w d tl wd : Int32) (n : Nat) (f : Nat → Int64) (i j : Int32) (h_t : h t = some (k_Pc w d tl wd b)) (h_b : h b = some (k_lo (cA 1) n f)) (hix : ∀ j k : Int32, 0 ≤ j ∧ j < d ∧ 0 ≤ k ∧ k < wd → vp_in (j * wd + k) n) : Met l y_Pc_blacken (.code y_Pc_blacken prog_5_method_9_code 3 none :: BIG) ({ frames := 2, cells := 0, slots := 0, locals := 46 }) (va_Pc [.ref t, .int i, .int j] (hp_I (gg dC dI cA) A h)) (hp_QW (gg dC dI cA) A hp_mv (fun _ h' => h' = hp_up h b (k_lo (cA 1) n (q_sw d wd f j (i / 64) (q_wa d wd f j (i / 64) ||| q_dot i))))) 0 0 A := by
  refine hp_enter (by decide) (Nat.le_of_ble_eq_true rfl) ?_
  intro p e s m below meth c ls S hr hlk hin hI hl
  have hl : lv_has ls 3 [(0, .ref t), (1, .int i), (2, .int j)] := hl
  have hJ := hI.J
  refine lv_aload_n S.1 S.2.1 d_Pc_blacken_0 rfl (lv_at hl 0 rfl) ?_
  refine lv_iload_n S.1 S.2.1 d_Pc_blacken_1 rfl (lv_at hl 2 rfl) ?_
  refine lv_iload_n S.1 S.2.1 d_Pc_blacken_2 rfl (lv_at hl 1 rfl) ?_
  refine lv_bipush (v := 64) S.1 S.2.1 d_Pc_blacken_3 (by decide) ?_
  refine lv_idiv S.1 S.2.1 d_Pc_blacken_5 (by decide) ?_
  refine lv_aload_n S.1 S.2.1 d_Pc_blacken_6 rfl (lv_at hl 0 rfl) ?_
  refine lv_iload_n S.1 S.2.1 d_Pc_blacken_7 rfl (lv_at hl 2 rfl) ?_
  refine lv_iload_n S.1 S.2.1 d_Pc_blacken_8 rfl (lv_at hl 1 rfl) ?_
  refine lv_bipush (v := 64) S.1 S.2.1 d_Pc_blacken_9 (by decide) ?_
  refine lv_idiv S.1 S.2.1 d_Pc_blacken_11 (by decide) ?_
  refine hp_doneR (hp_runV S zz0 (c_Pc_wordAt l dC dI cA A h t b w d tl wd n f _ _ h_t h_b hix) l_Pc_54 (hJ.preV _ h_t rfl) (by decide) rfl hl.1 rfl (nl rfl) d_Pc_blacken_12 (by decide)) ?_
  refine lv_ldc2 (v := (-9223372036854775808)) S.1 S.2.1 S.2.2.2.1 (S.2.2.2.2 _ t_267) d_Pc_blacken_15 ?_
  refine lv_iload_n S.1 S.2.1 d_Pc_blacken_18 rfl (lv_at hl 1 rfl) ?_
  refine lv_bipush (v := 64) S.1 S.2.1 d_Pc_blacken_19 (by decide) ?_
  refine lv_irem S.1 S.2.1 d_Pc_blacken_21 (by decide) ?_
  refine lv_lushr S.1 S.2.1 d_Pc_blacken_22 rfl ?_
  refine lv_lor S.1 S.2.1 d_Pc_blacken_23 ?_
  refine hp_doneWv hJ (hp_runV S zz0 (c_Pc_setWord l dC dI cA A h t b w d tl wd n f _ _ _ h_t h_b hix) l_Pc_38 (hJ.preV _ h_t rfl) (by decide) rfl hl.1 rfl (nl rfl) d_Pc_blacken_24 (by decide)) (fun h1 H locs eh1 hJ => ?_)
  have h0_b := h_b
  have h_t : h1 t = some (.inr (4, [.int w, .int d, .int tl, .int wd, .ref b])) := by rw [eh1]; exact hp_up_k (hp_ne h_t h0_b (show ((0, 4) : Nat × Nat) ≠ (2, 0) by decide)) h_t
  have h_b : h1 b = some (k_lo (cA 1) n (q_sw d wd f j (i / 64) (q_wa d wd f j (i / 64) ||| q_dot i))) := by rw [eh1]; exact hp_up_s _ _ _
  exact hp_retWv S hJ hr hlk d_Pc_blacken_27 (by decide) eh1

def q_df (wa : Int32 → Int64) (k sh : Int32) : Int64 := if sh = 0 then wa k <<< (sh.toInt64 &&& 63) else wa k <<< (sh.toInt64 &&& 63) ||| ((wa (k + 1)).toUInt64 >>> ((64 - sh).toInt64.toUInt64 &&& Int64.toUInt64 63)).toInt64
def q_ln (tl line : Int32) : Int32 := if tl ≤ 1 then line else line / tl
set_option maxHeartbeats 4000000 in
set_option maxRecDepth 100000 in
theorem c_Pc_dotsFrom (l : Launch) (dC : Nat → ClassId) (dI : Nat → Nat → Nat) (cA : Nat → ClassId) (A : Nat → Prop) (h : hp_T) (t b : Nat) (w d tl wd : Int32) (n : Nat) (f : Nat → Int64) (line first : Int32) (h_t : h t = some (k_Pc w d tl wd b)) (h_b : h b = some (k_lo (cA 1) n f)) (hix : ∀ j k : Int32, 0 ≤ j ∧ j < d ∧ 0 ≤ k ∧ k < wd → vp_in (j * wd + k) n) : Met l y_Pc_dotsFrom (.code y_Pc_dotsFrom prog_5_method_4_code 8 (some .long) :: BIG) ({ frames := 2, cells := 0, slots := 0, locals := 44 }) (va_Pc [.ref t, .int line, .int first] (hp_I (gg dC dI cA) A h)) (hp_QR (some (.long (q_df (q_wa d wd f (q_ln tl line)) (q_fdiv first 64) (q_fmod first 64))))) 0 0 (fun _ => False) := by
  refine hp_enter (by decide) (Nat.le_of_ble_eq_true rfl) ?_
  intro p e s m below meth c ls S hr hlk hin hI hl
  have hl : lv_has ls 8 [(0, .ref t), (1, .int line), (2, .int first)] := hl
  have hJ := hI.J
  refine lv_aload_n S.1 S.2.1 d_Pc_dotsFrom_0 rfl (lv_at hl 0 rfl) ?_
  refine hp_get S zz hJ h_t f_Pc_24 rfl d_Pc_dotsFrom_1 ?_
  refine lv_iconst (v := 1) S.1 S.2.1 d_Pc_dotsFrom_4 (by decide) ?_
  refine lv_icmp_le (tgt := 17) S.1 S.2.1 d_Pc_dotsFrom_5 (by decide) (fun c_5 => ?_) (fun c_5 => ?_)
  · refine lv_iload_n S.1 S.2.1 d_Pc_dotsFrom_17 rfl (lv_at hl 1 rfl) ?_
    refine lv_istore_n (lv' := [(3, .int line), (0, .ref t), (1, .int line), (2, .int first)]) S.1 S.2.1 d_Pc_dotsFrom_18 rfl hl (by decide) rfl (fun ls hl => ?_)
    refine lv_iload_n S.1 S.2.1 d_Pc_dotsFrom_19 rfl (lv_at hl 3 rfl) ?_
    refine lv_bipush (v := 64) S.1 S.2.1 d_Pc_dotsFrom_20 (by decide) ?_
    refine hp_doneR (hp_runS S zz0 (c_JM_floorDiv l _ _ (by decide)) l_Pc_48 (hp_pre0 _) (by decide) rfl hl.1 rfl (nl rfl) d_Pc_dotsFrom_22 (by decide)) ?_
    refine lv_istore (lv' := [(4, .int (q_fdiv first 64)), (3, .int line), (0, .ref t), (1, .int line), (2, .int first)]) S.1 S.2.1 d_Pc_dotsFrom_25 hl (by decide) rfl (fun ls hl => ?_)
    refine lv_iload_n S.1 S.2.1 d_Pc_dotsFrom_27 rfl (lv_at hl 4 rfl) ?_
    refine lv_bipush (v := 64) S.1 S.2.1 d_Pc_dotsFrom_28 (by decide) ?_
    refine hp_doneR (hp_runS S zz0 (c_JM_floorMod l _ _ (by decide)) l_Pc_51 (hp_pre0 _) (by decide) rfl hl.1 rfl (nl rfl) d_Pc_dotsFrom_30 (by decide)) ?_
    refine lv_istore (lv' := [(5, .int (q_fmod first 64)), (4, .int (q_fdiv first 64)), (3, .int line), (0, .ref t), (1, .int line), (2, .int first)]) S.1 S.2.1 d_Pc_dotsFrom_33 hl (by decide) rfl (fun ls hl => ?_)
    refine lv_aload_n S.1 S.2.1 d_Pc_dotsFrom_35 rfl (lv_at hl 3 rfl) ?_
    refine lv_iload_n S.1 S.2.1 d_Pc_dotsFrom_36 rfl (lv_at hl 2 rfl) ?_
    refine lv_iload S.1 S.2.1 d_Pc_dotsFrom_37 (lv_at hl 1 rfl) ?_
    refine hp_doneR (hp_runV S zz0 (c_Pc_wordAt l dC dI cA A h t b w d tl wd n f _ _ h_t h_b hix) l_Pc_54 (hJ.preV _ h_t rfl) (by decide) rfl hl.1 rfl (nl rfl) d_Pc_dotsFrom_39 (by decide)) ?_
    refine lv_iload S.1 S.2.1 d_Pc_dotsFrom_42 (lv_at hl 0 rfl) ?_
    refine lv_lshl S.1 S.2.1 d_Pc_dotsFrom_44 rfl ?_
    refine lv_lstore (lv' := [(6, .long _), (5, .int (q_fmod first 64)), (4, .int (q_fdiv first 64)), (3, .int line), (0, .ref t), (1, .int line), (2, .int first)]) S.1 S.2.1 d_Pc_dotsFrom_45 hl (by decide) rfl (fun ls hl => ?_)
    refine lv_iload S.1 S.2.1 d_Pc_dotsFrom_47 (lv_at hl 1 rfl) ?_
    refine lv_if_ne (tgt := 57) S.1 S.2.1 d_Pc_dotsFrom_49 (by decide) (fun c_49 => ?_) (fun c_49 => ?_)
    · refine lv_lload S.1 S.2.1 d_Pc_dotsFrom_57 (lv_at hl 0 rfl) ?_
      refine lv_aload_n S.1 S.2.1 d_Pc_dotsFrom_59 rfl (lv_at hl 4 rfl) ?_
      refine lv_iload_n S.1 S.2.1 d_Pc_dotsFrom_60 rfl (lv_at hl 3 rfl) ?_
      refine lv_iload S.1 S.2.1 d_Pc_dotsFrom_61 (lv_at hl 2 rfl) ?_
      refine lv_iconst (v := 1) S.1 S.2.1 d_Pc_dotsFrom_63 (by decide) ?_
      refine lv_iadd S.1 S.2.1 d_Pc_dotsFrom_64 ?_
      refine hp_doneR (hp_runV S zz0 (c_Pc_wordAt l dC dI cA A h t b w d tl wd n f _ _ h_t h_b hix) l_Pc_54 (hJ.preV _ h_t rfl) (by decide) rfl hl.1 rfl (nl rfl) d_Pc_dotsFrom_65 (by decide)) ?_
      refine lv_bipush (v := 64) S.1 S.2.1 d_Pc_dotsFrom_68 (by decide) ?_
      refine lv_iload S.1 S.2.1 d_Pc_dotsFrom_70 (lv_at hl 1 rfl) ?_
      refine lv_isub S.1 S.2.1 d_Pc_dotsFrom_72 ?_
      refine lv_lushr S.1 S.2.1 d_Pc_dotsFrom_73 rfl ?_
      refine lv_lor S.1 S.2.1 d_Pc_dotsFrom_74 ?_
      exact hp_retRl S hr hlk d_Pc_dotsFrom_75 (by unfold q_df q_ln; rw [if_pos c_5, if_neg c_49])
    · refine lv_lload S.1 S.2.1 d_Pc_dotsFrom_52 (lv_at hl 0 rfl) ?_
      refine lv_goto (tgt := 75) S.1 S.2.1 d_Pc_dotsFrom_54 (by decide) ?_
      exact hp_retRl S hr hlk d_Pc_dotsFrom_75 (by unfold q_df q_ln; rw [if_pos c_5, if_pos c_49])
  · refine lv_iload_n S.1 S.2.1 d_Pc_dotsFrom_8 rfl (lv_at hl 1 rfl) ?_
    refine lv_aload_n S.1 S.2.1 d_Pc_dotsFrom_9 rfl (lv_at hl 0 rfl) ?_
    refine hp_get S zz hJ h_t f_Pc_24 rfl d_Pc_dotsFrom_10 ?_
    refine lv_idiv S.1 S.2.1 d_Pc_dotsFrom_13 (fun q => c_5 (by rw [q]; decide)) ?_
    refine lv_goto (tgt := 18) S.1 S.2.1 d_Pc_dotsFrom_14 (by decide) ?_
    refine lv_istore_n (lv' := [(3, .int (line / tl)), (0, .ref t), (1, .int line), (2, .int first)]) S.1 S.2.1 d_Pc_dotsFrom_18 rfl hl (by decide) rfl (fun ls hl => ?_)
    refine lv_iload_n S.1 S.2.1 d_Pc_dotsFrom_19 rfl (lv_at hl 3 rfl) ?_
    refine lv_bipush (v := 64) S.1 S.2.1 d_Pc_dotsFrom_20 (by decide) ?_
    refine hp_doneR (hp_runS S zz0 (c_JM_floorDiv l _ _ (by decide)) l_Pc_48 (hp_pre0 _) (by decide) rfl hl.1 rfl (nl rfl) d_Pc_dotsFrom_22 (by decide)) ?_
    refine lv_istore (lv' := [(4, .int (q_fdiv first 64)), (3, .int (line / tl)), (0, .ref t), (1, .int line), (2, .int first)]) S.1 S.2.1 d_Pc_dotsFrom_25 hl (by decide) rfl (fun ls hl => ?_)
    refine lv_iload_n S.1 S.2.1 d_Pc_dotsFrom_27 rfl (lv_at hl 4 rfl) ?_
    refine lv_bipush (v := 64) S.1 S.2.1 d_Pc_dotsFrom_28 (by decide) ?_
    refine hp_doneR (hp_runS S zz0 (c_JM_floorMod l _ _ (by decide)) l_Pc_51 (hp_pre0 _) (by decide) rfl hl.1 rfl (nl rfl) d_Pc_dotsFrom_30 (by decide)) ?_
    refine lv_istore (lv' := [(5, .int (q_fmod first 64)), (4, .int (q_fdiv first 64)), (3, .int (line / tl)), (0, .ref t), (1, .int line), (2, .int first)]) S.1 S.2.1 d_Pc_dotsFrom_33 hl (by decide) rfl (fun ls hl => ?_)
    refine lv_aload_n S.1 S.2.1 d_Pc_dotsFrom_35 rfl (lv_at hl 3 rfl) ?_
    refine lv_iload_n S.1 S.2.1 d_Pc_dotsFrom_36 rfl (lv_at hl 2 rfl) ?_
    refine lv_iload S.1 S.2.1 d_Pc_dotsFrom_37 (lv_at hl 1 rfl) ?_
    refine hp_doneR (hp_runV S zz0 (c_Pc_wordAt l dC dI cA A h t b w d tl wd n f _ _ h_t h_b hix) l_Pc_54 (hJ.preV _ h_t rfl) (by decide) rfl hl.1 rfl (nl rfl) d_Pc_dotsFrom_39 (by decide)) ?_
    refine lv_iload S.1 S.2.1 d_Pc_dotsFrom_42 (lv_at hl 0 rfl) ?_
    refine lv_lshl S.1 S.2.1 d_Pc_dotsFrom_44 rfl ?_
    refine lv_lstore (lv' := [(6, .long _), (5, .int (q_fmod first 64)), (4, .int (q_fdiv first 64)), (3, .int (line / tl)), (0, .ref t), (1, .int line), (2, .int first)]) S.1 S.2.1 d_Pc_dotsFrom_45 hl (by decide) rfl (fun ls hl => ?_)
    refine lv_iload S.1 S.2.1 d_Pc_dotsFrom_47 (lv_at hl 1 rfl) ?_
    refine lv_if_ne (tgt := 57) S.1 S.2.1 d_Pc_dotsFrom_49 (by decide) (fun c_49 => ?_) (fun c_49 => ?_)
    · refine lv_lload S.1 S.2.1 d_Pc_dotsFrom_57 (lv_at hl 0 rfl) ?_
      refine lv_aload_n S.1 S.2.1 d_Pc_dotsFrom_59 rfl (lv_at hl 4 rfl) ?_
      refine lv_iload_n S.1 S.2.1 d_Pc_dotsFrom_60 rfl (lv_at hl 3 rfl) ?_
      refine lv_iload S.1 S.2.1 d_Pc_dotsFrom_61 (lv_at hl 2 rfl) ?_
      refine lv_iconst (v := 1) S.1 S.2.1 d_Pc_dotsFrom_63 (by decide) ?_
      refine lv_iadd S.1 S.2.1 d_Pc_dotsFrom_64 ?_
      refine hp_doneR (hp_runV S zz0 (c_Pc_wordAt l dC dI cA A h t b w d tl wd n f _ _ h_t h_b hix) l_Pc_54 (hJ.preV _ h_t rfl) (by decide) rfl hl.1 rfl (nl rfl) d_Pc_dotsFrom_65 (by decide)) ?_
      refine lv_bipush (v := 64) S.1 S.2.1 d_Pc_dotsFrom_68 (by decide) ?_
      refine lv_iload S.1 S.2.1 d_Pc_dotsFrom_70 (lv_at hl 1 rfl) ?_
      refine lv_isub S.1 S.2.1 d_Pc_dotsFrom_72 ?_
      refine lv_lushr S.1 S.2.1 d_Pc_dotsFrom_73 rfl ?_
      refine lv_lor S.1 S.2.1 d_Pc_dotsFrom_74 ?_
      exact hp_retRl S hr hlk d_Pc_dotsFrom_75 (by unfold q_df q_ln; rw [if_neg c_5, if_neg c_49])
    · refine lv_lload S.1 S.2.1 d_Pc_dotsFrom_52 (lv_at hl 0 rfl) ?_
      refine lv_goto (tgt := 75) S.1 S.2.1 d_Pc_dotsFrom_54 (by decide) ?_
      exact hp_retRl S hr hlk d_Pc_dotsFrom_75 (by unfold q_df q_ln; rw [if_neg c_5, if_pos c_49])

theorem hp_tbt (h : hp_T) {t b : Nat} (e1 eb e2 : va_E) (hn : t ≠ b) : hp_up (hp_up (hp_up h t e1) b eb) t e2 = hp_up (hp_up h b eb) t e2 := by
  rw [hp_up_comm h e1 eb hn, hp_up_up]
theorem mx1 {n : Nat} (h : 1 ≤ n) (h2 : n < 2 ^ 31) : (if (1 : Int32) < nI n then nI n else 1) = nI n := by
  split
  · rfl
  · rename_i q
    have h3 : ¬ (1 : Int32).toInt < (nI n).toInt := fun z => q (z_lt.mpr z)
    rw [z_nI h2, z_1] at h3
    have : n = 1 := by omega
    subst this
    rfl
theorem pw_div {w : Nat} (h : w < 2 ^ 30) : (nI w + 64 - 1) / 64 = nI (pw w) := by
  have h1 : (nI w + 64 - 1 : Int32) = nI (w + 63) := by
    rw [← n64, nI_add]
    exact nI_pred (w + 63)
  rw [h1, ← n64, pk_div (by omega) (by decide) (by decide)]
  rfl

set_option maxHeartbeats 4000000 in
set_option maxRecDepth 100000 in
theorem c_Pc_init (l : Launch) (dC : Nat → ClassId) (dI : Nat → Nat → Nat) (cA : Nat → ClassId) (A : Nat → Prop) (h : hp_T) (t : Nat) (w d tl : Nat) (hw : 1 ≤ w ∧ w ≤ 1024) (hd : 1 ≤ d ∧ d ≤ 1024) (htl : 1 ≤ tl ∧ tl ≤ 1024) (hwd : pw w * d ≤ 256) (h_t : h t = some (.inr (4, e0_Pc))) : Met l y_Pc_init (.code y_Pc_init prog_5_method_1_code 4 none :: BIG) ({ frames := 1, cells := 1, slots := 256, locals := 21 }) (va_Pc [.ref t, .int (nI w), .int (nI d), .int (nI tl)] (hp_I (gg dC dI cA) A h)) (hp_QW (gg dC dI cA) A hp_mv (fun _ h' => ∃ b, h b = none ∧ h' = hp_up (hp_up h b (k_lo (cA 1) (pw w * d) (fun _ => 0))) t (k_Pc (nI w) (nI d) (nI tl) (nI (pw w)) b))) 1 256 A := by
  refine hp_enter (by decide) (Nat.le_of_ble_eq_true rfl) ?_
  intro p e s m below meth c ls S hr hlk hin hI hl
  have hl : lv_has ls 4 [(0, .ref t), (1, .int (nI w)), (2, .int (nI d)), (3, .int (nI tl))] := hl
  have hJ := hI.J
  refine lv_aload_n S.1 S.2.1 d_Pc_init_0 rfl (lv_at hl 0 rfl) ?_
  refine hp_obj S l_Pc_3 hl.1 d_Pc_init_1 ⟨nl rfl, nl rfl⟩ ?_
  refine lv_aload_n S.1 S.2.1 d_Pc_init_4 rfl (lv_at hl 0 rfl) ?_
  refine lv_iconst (v := 1) S.1 S.2.1 d_Pc_init_5 (by decide) ?_
  refine lv_iload_n S.1 S.2.1 d_Pc_init_6 rfl (lv_at hl 1 rfl) ?_
  refine hp_max S l_Pc_9 hl.1 d_Pc_init_7 ⟨nl rfl, nl rfl, nl rfl, nl rfl⟩ ?_
  rw [mx1 hw.1 (by omega)]
  refine hp_putF S zz hJ hin h_t fp_Pc_15 rfl rfl rfl (nl rfl) d_Pc_init_10 (fun H locs hJ => ?_)
  obtain ⟨h1, eh1⟩ : ∃ z, z = hp_up h t (.inr (4, [.int (nI w), .int 0, .int 0, .int 0, .null])) := ⟨_, rfl⟩
  have hJ := hJ.cast eh1
  have h0_t := h_t
  have h_t : h1 t = some (.inr (4, [.int (nI w), .int 0, .int 0, .int 0, .null])) := by rw [eh1]; exact hp_up_s _ _ _
  refine lv_aload_n S.1 S.2.1 d_Pc_init_13 rfl (lv_at hl 0 rfl) ?_
  refine lv_iconst (v := 1) S.1 S.2.1 d_Pc_init_14 (by decide) ?_
  refine lv_iload_n S.1 S.2.1 d_Pc_init_15 rfl (lv_at hl 2 rfl) ?_
  refine hp_max S l_Pc_9 hl.1 d_Pc_init_16 ⟨nl rfl, nl rfl, nl rfl, nl rfl⟩ ?_
  rw [mx1 hd.1 (by omega)]
  refine hp_putF S zz hJ hin h_t fp_Pc_21 rfl rfl rfl (nl rfl) d_Pc_init_19 (fun H locs hJ => ?_)
  obtain ⟨h2, eh2⟩ : ∃ z, z = hp_up h1 t (.inr (4, [.int (nI w), .int (nI d), .int 0, .int 0, .null])) := ⟨_, rfl⟩
  have hJ := hJ.cast eh2
  have h0_t := h_t
  have h_t : h2 t = some (.inr (4, [.int (nI w), .int (nI d), .int 0, .int 0, .null])) := by rw [eh2]; exact hp_up_s _ _ _
  refine lv_aload_n S.1 S.2.1 d_Pc_init_22 rfl (lv_at hl 0 rfl) ?_
  refine lv_iconst (v := 1) S.1 S.2.1 d_Pc_init_23 (by decide) ?_
  refine lv_iload_n S.1 S.2.1 d_Pc_init_24 rfl (lv_at hl 3 rfl) ?_
  refine hp_max S l_Pc_9 hl.1 d_Pc_init_25 ⟨nl rfl, nl rfl, nl rfl, nl rfl⟩ ?_
  rw [mx1 htl.1 (by omega)]
  refine hp_putF S zz hJ hin h_t fp_Pc_24 rfl rfl rfl (nl rfl) d_Pc_init_28 (fun H locs hJ => ?_)
  obtain ⟨h3, eh3⟩ : ∃ z, z = hp_up h2 t (.inr (4, [.int (nI w), .int (nI d), .int (nI tl), .int 0, .null])) := ⟨_, rfl⟩
  have hJ := hJ.cast eh3
  have h0_t := h_t
  have h_t : h3 t = some (.inr (4, [.int (nI w), .int (nI d), .int (nI tl), .int 0, .null])) := by rw [eh3]; exact hp_up_s _ _ _
  refine lv_aload_n S.1 S.2.1 d_Pc_init_31 rfl (lv_at hl 0 rfl) ?_
  refine lv_aload_n S.1 S.2.1 d_Pc_init_32 rfl (lv_at hl 0 rfl) ?_
  refine hp_get S zz hJ h_t f_Pc_15 rfl d_Pc_init_33 ?_
  refine lv_bipush (v := 64) S.1 S.2.1 d_Pc_init_36 (by decide) ?_
  refine lv_iadd S.1 S.2.1 d_Pc_init_38 ?_
  refine lv_iconst (v := 1) S.1 S.2.1 d_Pc_init_39 (by decide) ?_
  refine lv_isub S.1 S.2.1 d_Pc_init_40 ?_
  refine lv_bipush (v := 64) S.1 S.2.1 d_Pc_init_41 (by decide) ?_
  refine lv_idiv S.1 S.2.1 d_Pc_init_43 (by decide) ?_
  rw [pw_div (by omega)]
  refine hp_putF S zz hJ hin h_t fp_Pc_27 rfl rfl rfl (nl rfl) d_Pc_init_44 (fun H locs hJ => ?_)
  obtain ⟨h4, eh4⟩ : ∃ z, z = hp_up h3 t (.inr (4, [.int (nI w), .int (nI d), .int (nI tl), .int (nI (pw w)), .null])) := ⟨_, rfl⟩
  have hJ := hJ.cast eh4
  have h0_t := h_t
  have h_t : h4 t = some (.inr (4, [.int (nI w), .int (nI d), .int (nI tl), .int (nI (pw w)), .null])) := by rw [eh4]; exact hp_up_s _ _ _
  refine lv_aload_n S.1 S.2.1 d_Pc_init_47 rfl (lv_at hl 0 rfl) ?_
  refine lv_aload_n S.1 S.2.1 d_Pc_init_48 rfl (lv_at hl 0 rfl) ?_
  refine hp_get S zz hJ h_t f_Pc_27 rfl d_Pc_init_49 ?_
  refine lv_aload_n S.1 S.2.1 d_Pc_init_52 rfl (lv_at hl 0 rfl) ?_
  refine hp_get S zz hJ h_t f_Pc_21 rfl d_Pc_init_53 ?_
  refine lv_imul S.1 S.2.1 d_Pc_init_56 ?_
  rw [pk_mul]
  refine hp_newa S hJ 1 (atype := .long) (a0 := (pw w * d, .inr (.inl (fun _ => 0)))) (N' := pw w * d) t_114 rfl (by intro C hC; cases hC) rfl (nI_pos (by omega)) (nI_clamp (by omega)) (show pw w * d * 8 ≤ 536870912 by omega) (nl rfl) (show 0 + pw w * d ≤ 256 by omega) d_Pc_init_57 (fun b H hq_b hs_b hJ => ?_)
  refine W.widen (k := 1) (n := 256) (by omega) (by omega) ?_
  have ne_t_b : t ≠ b := hp_neN h_t hq_b
  obtain ⟨h5, eh5⟩ : ∃ z, z = hp_up h4 b (k_lo (cA 1) (pw w * d) (fun _ => 0)) := ⟨_, rfl⟩
  have hJ := hJ.cast eh5
  have h_t : h5 t = some (.inr (4, [.int (nI w), .int (nI d), .int (nI tl), .int (nI (pw w)), .null])) := by rw [eh5]; exact hp_up_k (hp_neN h_t hq_b) h_t
  have h_b : h5 b = some (k_lo (cA 1) (pw w * d) (fun _ => 0)) := by rw [eh5]; exact hp_up_s _ _ _
  refine hp_putF S zz hJ hin h_t fp_Pc_30 rfl rfl rfl (nl rfl) d_Pc_init_59 (fun H locs hJ => ?_)
  obtain ⟨h6, eh6⟩ : ∃ z, z = hp_up h5 t (.inr (4, [.int (nI w), .int (nI d), .int (nI tl), .int (nI (pw w)), .ref b])) := ⟨_, rfl⟩
  have hJ := hJ.cast eh6
  have h0_t := h_t
  have h_b : h6 b = some (k_lo (cA 1) (pw w * d) (fun _ => 0)) := by rw [eh6]; exact hp_up_k (Ne.symm ne_t_b) h_b
  have h_t : h6 t = some (.inr (4, [.int (nI w), .int (nI d), .int (nI tl), .int (nI (pw w)), .ref b])) := by rw [eh6]; exact hp_up_s _ _ _
  exact hp_retWv S hJ hr hlk d_Pc_init_62 (by decide) ⟨b, by rw [eh4, eh3, eh2, eh1, hp_up_n (Ne.symm ne_t_b), hp_up_n (Ne.symm ne_t_b), hp_up_n (Ne.symm ne_t_b), hp_up_n (Ne.symm ne_t_b)] at hq_b; exact hq_b, by rw [eh6, eh5, eh4, eh3, eh2, eh1, hp_up_up, hp_up_up, hp_up_up, hp_tbt _ _ _ _ ne_t_b]⟩

set_option maxHeartbeats 4000000 in
set_option maxRecDepth 100000 in
theorem c_Pc_setDots (l : Launch) (dC : Nat → ClassId) (dI : Nat → Nat → Nat) (cA : Nat → ClassId) (A : Nat → Prop) (h : hp_T) (t b : Nat) (w d tl wd : Int32) (n : Nat) (f : Nat → Int64) (j : Int32) (left right : Int64) (h_t : h t = some (k_Pc w d tl wd b)) (h_b : h b = some (k_lo (cA 1) n f)) (hix : ∀ j k : Int32, 0 ≤ j ∧ j < d ∧ 0 ≤ k ∧ k < wd → vp_in (j * wd + k) n) : Met l y_Pc_setDots (.code y_Pc_setDots prog_5_method_2_code 6 none :: BIG) ({ frames := 2, cells := 0, slots := 0, locals := 46 }) (va_Pc [.ref t, .int j, .long left, .long right] (hp_I (gg dC dI cA) A h)) (hp_QW (gg dC dI cA) A hp_mv (fun _ h' => h' = hp_up h b (k_lo (cA 1) n (q_sw d wd (q_sw d wd f j 0 (left &&& q_fd w)) j 1 (right &&& q_fd (w - 64)))))) 0 0 A := by
  refine hp_enter (by decide) (Nat.le_of_ble_eq_true rfl) ?_
  intro p e s m below meth c ls S hr hlk hin hI hl
  have hl : lv_has ls 6 [(0, .ref t), (1, .int j), (2, .long left), (4, .long right)] := hl
  have hJ := hI.J
  refine lv_aload_n S.1 S.2.1 d_Pc_setDots_0 rfl (lv_at hl 0 rfl) ?_
  refine lv_iload_n S.1 S.2.1 d_Pc_setDots_1 rfl (lv_at hl 1 rfl) ?_
  refine lv_iconst (v := 0) S.1 S.2.1 d_Pc_setDots_2 (by decide) ?_
  refine lv_lload_n S.1 S.2.1 d_Pc_setDots_3 rfl (lv_at hl 2 rfl) ?_
  refine lv_aload_n S.1 S.2.1 d_Pc_setDots_4 rfl (lv_at hl 0 rfl) ?_
  refine hp_get S zz hJ h_t f_Pc_15 rfl d_Pc_setDots_5 ?_
  refine hp_doneR (hp_runN S zz hJ.2.1 (c_BP_firstDots l _) l_Pc_34 (hp_pre0 _) (by decide) rfl hl.1 rfl (nl rfl) d_Pc_setDots_8 (by decide)) ?_
  refine lv_land S.1 S.2.1 d_Pc_setDots_11 ?_
  refine hp_doneWv hJ (hp_runV S zz0 (c_Pc_setWord l dC dI cA A _ t b w d tl wd n _ _ _ _ h_t h_b hix) l_Pc_38 (hJ.preV _ h_t rfl) (by decide) rfl hl.1 rfl (nl rfl) d_Pc_setDots_12 (by decide)) (fun h1 H locs eh1 hJ => ?_)
  have h0_b := h_b
  have h_t : h1 t = some (.inr (4, [.int w, .int d, .int tl, .int wd, .ref b])) := by rw [eh1]; exact hp_up_k (hp_ne h_t h0_b (show ((0, 4) : Nat × Nat) ≠ (2, 0) by decide)) h_t
  have h_b : h1 b = some (k_lo (cA 1) n (q_sw d wd f j 0 (left &&& q_fd w))) := by rw [eh1]; exact hp_up_s _ _ _
  refine lv_aload_n S.1 S.2.1 d_Pc_setDots_15 rfl (lv_at hl 0 rfl) ?_
  refine lv_iload_n S.1 S.2.1 d_Pc_setDots_16 rfl (lv_at hl 1 rfl) ?_
  refine lv_iconst (v := 1) S.1 S.2.1 d_Pc_setDots_17 (by decide) ?_
  refine lv_lload S.1 S.2.1 d_Pc_setDots_18 (lv_at hl 3 rfl) ?_
  refine lv_aload_n S.1 S.2.1 d_Pc_setDots_20 rfl (lv_at hl 0 rfl) ?_
  refine hp_get S zz hJ h_t f_Pc_15 rfl d_Pc_setDots_21 ?_
  refine lv_bipush (v := 64) S.1 S.2.1 d_Pc_setDots_24 (by decide) ?_
  refine lv_isub S.1 S.2.1 d_Pc_setDots_26 ?_
  refine hp_doneR (hp_runN S zz hJ.2.1 (c_BP_firstDots l _) l_Pc_34 (hp_pre0 _) (by decide) rfl hl.1 rfl (nl rfl) d_Pc_setDots_27 (by decide)) ?_
  refine lv_land S.1 S.2.1 d_Pc_setDots_30 ?_
  refine hp_doneWv hJ (hp_runV S zz0 (c_Pc_setWord l dC dI cA A _ t b w d tl wd n _ _ _ _ h_t h_b hix) l_Pc_38 (hJ.preV _ h_t rfl) (by decide) rfl hl.1 rfl (nl rfl) d_Pc_setDots_31 (by decide)) (fun h2 H locs eh2 hJ => ?_)
  have h0_b := h_b
  have h_t : h2 t = some (.inr (4, [.int w, .int d, .int tl, .int wd, .ref b])) := by rw [eh2]; exact hp_up_k (hp_ne h_t h0_b (show ((0, 4) : Nat × Nat) ≠ (2, 0) by decide)) h_t
  have h_b : h2 b = some (k_lo (cA 1) n (q_sw d wd (q_sw d wd f j 0 (left &&& q_fd w)) j 1 (right &&& q_fd (w - 64)))) := by rw [eh2]; exact hp_up_s _ _ _
  exact hp_retWv S hJ hr hlk d_Pc_setDots_34 (by decide) (by rw [eh2, eh1, hp_up_up])

