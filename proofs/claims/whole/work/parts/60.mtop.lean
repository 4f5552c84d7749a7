/-! The reference: black, count, top, eject, a shape's dot. -/
def csum (f : Nat → Int64) (lo : Nat) : Nat → Nat
  | 0 => 0
  | j + 1 => csum f lo j + psum f (80 * (lo + j)) 80
def q_tp (g : Nat → Nat) : Nat → Nat → Int32
  | _, 0 => -1
  | lo, k + 1 => if 0 < g lo then nI lo else q_tp g (lo + 1) k
theorem q_tp_t {g : Nat → Nat} {lo k : Nat} (h : 0 < g lo) : q_tp g lo (k + 1) = nI lo := if_pos h
theorem q_tp_f {g : Nat → Nat} {lo k : Nat} (h : ¬ 0 < g lo) : q_tp g lo (k + 1) = q_tp g (lo + 1) k := if_neg h
def q_fz (f : Nat → Int64) (k : Nat) : Nat → Int64 := fun i => if i < k then 0 else f i
theorem q_fz_0 (f : Nat → Int64) : q_fz f 0 = f := by
  funext i
  exact if_neg (by omega)
theorem q_fz_s (f : Nat → Int64) (k : Nat) : vp_updL (q_fz f k) k 0 = q_fz f (k + 1) := by
  funext i
  unfold vp_updL q_fz
  by_cases h : i = k
  · rw [if_pos h, if_pos (by omega)]
  · rw [if_neg h]
    by_cases h2 : i < k
    · rw [if_pos h2, if_pos (by omega)]
    · rw [if_neg h2, if_neg (by omega)]

set_option maxHeartbeats 4000000 in
set_option maxRecDepth 100000 in
theorem c_Mo_black (l : Launch) (dC : Nat → ClassId) (dI : Nat → Nat → Nat) (cA : Nat → ClassId) (A : Nat → Prop) (h : hp_T) (t sh ac dn fr sp dt : Nat) (mf : Nat → Int32) (ww hh : Nat) (f : Nat → Int64) (x y : Int32) (h_t : h t = some (k_Mo mf sh ac dn fr sp dt)) (h_sh : h sh = some (k_lo (cA 1) (80 * hh) f)) (hw : ww ≤ 5100 ∧ mf 1 = nI ww) (hh2 : hh ≤ 5100 ∧ mf 2 = nI hh) : Met l y_Mo_black (.code y_Mo_black prog_9_method_28_code 3 (some .boolean) :: BIG) ({ frames := 1, cells := 0, slots := 0, locals := 22 }) (va_Pc [.ref t, .int x, .int y] (hp_I (gg dC dI cA) A h)) (hp_QW (gg dC dI cA) A hp_mi (fun r h' => r = q_is ((0 ≤ x ∧ x < mf 1 ∧ 0 ≤ y ∧ y < mf 2) ∧ tb (f (80 * y.toInt.toNat + x.toInt.toNat / 64)) (x.toInt.toNat % 64) = true) ∧ h' = hp_up h t (k_Mo (if 0 ≤ x ∧ x < mf 1 ∧ 0 ≤ y ∧ y < mf 2 then upd mf 0 0 else upd mf 0 1) sh ac dn fr sp dt))) 0 0 A := by
  refine hp_enter (by decide) (Nat.le_of_ble_eq_true rfl) ?_
  intro p e s m below meth c ls S hr hlk hin hI hl
  have hl : lv_has ls 3 [(0, .ref t), (1, .int x), (2, .int y)] := hl
  have hJ := hI.J
  refine lv_aload_n S.1 S.2.1 d_Mo_black_0 rfl (lv_at hl 0 rfl) ?_
  refine lv_aload_n S.1 S.2.1 d_Mo_black_1 rfl (lv_at hl 0 rfl) ?_
  refine lv_iload_n S.1 S.2.1 d_Mo_black_2 rfl (lv_at hl 1 rfl) ?_
  refine lv_iload_n S.1 S.2.1 d_Mo_black_3 rfl (lv_at hl 2 rfl) ?_
  refine hp_doneR (hp_runV S zz0 (c_Mo_isIn l dC dI cA A h t sh ac dn fr sp dt mf x y h_t) l_Mo_65 (hJ.preV _ h_t rfl) (by decide) rfl hl.1 rfl (nl rfl) d_Mo_black_4 (by decide)) ?_
  refine lv_if_eq (tgt := 14) S.1 S.2.1 d_Mo_black_7 (by decide) (fun c_7 => ?_) (fun c_7 => ?_)
  · refine lv_iconst (v := 1) S.1 S.2.1 d_Mo_black_14 (by decide) ?_
    refine hp_put S zz hJ h_t fp_Mo_46 rfl rfl (nl rfl) d_Mo_black_15 (fun H locs hJ => ?_)
    obtain ⟨h1, eh1⟩ : ∃ z, z = hp_up h t (.inr (7, [.int 1, .int (mf 1), .int (mf 2), .int (mf 3), .ref sh, .int (mf 5), .ref ac, .ref dn, .ref fr, .ref sp, .int (mf 10), .ref dt, .int (mf 12), .int (mf 13), .int (mf 14), .int (mf 15), .int (mf 16), .int (mf 17), .int (mf 18), .int (mf 19), .int (mf 20), .int (mf 21), .int (mf 22)])) := ⟨_, rfl⟩
    have hJ := hJ.cast eh1
    have h0_t := h_t
    have h_sh : h1 sh = some (k_lo (cA 1) (80 * hh) f) := by rw [eh1]; exact hp_up_k (hp_ne h_sh h0_t (show ((2, 0) : Nat × Nat) ≠ (0, 7) by decide)) h_sh
    have h_t : h1 t = some (.inr (7, [.int 1, .int (mf 1), .int (mf 2), .int (mf 3), .ref sh, .int (mf 5), .ref ac, .ref dn, .ref fr, .ref sp, .int (mf 10), .ref dt, .int (mf 12), .int (mf 13), .int (mf 14), .int (mf 15), .int (mf 16), .int (mf 17), .int (mf 18), .int (mf 19), .int (mf 20), .int (mf 21), .int (mf 22)])) := by rw [eh1]; exact hp_up_s _ _ _
    refine lv_aload_n S.1 S.2.1 d_Mo_black_18 rfl (lv_at hl 0 rfl) ?_
    refine hp_get S zz hJ h_t f_Mo_46 rfl d_Mo_black_19 ?_
    refine lv_if_ne (tgt := 38) S.1 S.2.1 d_Mo_black_22 (by decide) (fun _ => ?_) (fun q => absurd q (by decide))
    refine lv_iconst (v := 0) S.1 S.2.1 d_Mo_black_38 (by decide) ?_
    exact hp_retWz S hJ hr hlk d_Mo_black_39 (by decide) (by decide) ⟨q_is_f (fun q => q_is_0.mp c_7 q.1), by rw [if_neg (q_is_0.mp c_7)]; rw [eh1]; (try simp only [hp_up_up]); rfl⟩
  · refine lv_iconst (v := 0) S.1 S.2.1 d_Mo_black_10 (by decide) ?_
    refine lv_goto (tgt := 15) S.1 S.2.1 d_Mo_black_11 (by decide) ?_
    refine hp_put S zz hJ h_t fp_Mo_46 rfl rfl (nl rfl) d_Mo_black_15 (fun H locs hJ => ?_)
    obtain ⟨h2, eh2⟩ : ∃ z, z = hp_up h t (.inr (7, [.int 0, .int (mf 1), .int (mf 2), .int (mf 3), .ref sh, .int (mf 5), .ref ac, .ref dn, .ref fr, .ref sp, .int (mf 10), .ref dt, .int (mf 12), .int (mf 13), .int (mf 14), .int (mf 15), .int (mf 16), .int (mf 17), .int (mf 18), .int (mf 19), .int (mf 20), .int (mf 21), .int (mf 22)])) := ⟨_, rfl⟩
    have hJ := hJ.cast eh2
    have h0_t := h_t
    have h_sh : h2 sh = some (k_lo (cA 1) (80 * hh) f) := by rw [eh2]; exact hp_up_k (hp_ne h_sh h0_t (show ((2, 0) : Nat × Nat) ≠ (0, 7) by decide)) h_sh
    have h_t : h2 t = some (.inr (7, [.int 0, .int (mf 1), .int (mf 2), .int (mf 3), .ref sh, .int (mf 5), .ref ac, .ref dn, .ref fr, .ref sp, .int (mf 10), .ref dt, .int (mf 12), .int (mf 13), .int (mf 14), .int (mf 15), .int (mf 16), .int (mf 17), .int (mf 18), .int (mf 19), .int (mf 20), .int (mf 21), .int (mf 22)])) := by rw [eh2]; exact hp_up_s _ _ _
    refine lv_aload_n S.1 S.2.1 d_Mo_black_18 rfl (lv_at hl 0 rfl) ?_
    refine hp_get S zz hJ h_t f_Mo_46 rfl d_Mo_black_19 ?_
    refine lv_if_ne (tgt := 38) S.1 S.2.1 d_Mo_black_22 (by decide) (fun q => absurd rfl q) (fun _ => ?_)
    refine lv_aload_n S.1 S.2.1 d_Mo_black_25 rfl (lv_at hl 0 rfl) ?_
    refine lv_iload_n S.1 S.2.1 d_Mo_black_26 rfl (lv_at hl 1 rfl) ?_
    refine lv_iload_n S.1 S.2.1 d_Mo_black_27 rfl (lv_at hl 2 rfl) ?_
    have hP := q_is_ne.mp c_7
    have hx0 : 0 ≤ x.toInt ∧ x.toInt < ww ∧ 0 ≤ y.toInt ∧ y.toInt < hh := by have q := hP; rw [hw.2, hh2.2] at q; simp only [z_lt, z_le, z_0] at q; rw [z_nI (by omega), z_nI (by omega)] at q; exact q
    have ex := z_ofN hx0.1
    have ey := z_ofN hx0.2.2.1
    obtain ⟨xn, hxn⟩ : ∃ z, z = x.toInt.toNat := ⟨_, rfl⟩
    obtain ⟨yn, hyn⟩ : ∃ z, z = y.toInt.toNat := ⟨_, rfl⟩
    rw [← hxn] at ex
    rw [← hyn] at ey
    refine hp_doneR (hp_runV S zz0 (c_Mo_isBlack l dC dI cA A _ t sh ac dn fr sp dt (upd mf 0 0) (80 * hh) xn yn f h_t h_sh (by omega) (by omega) (by omega)) l_Mo_132 (hJ.preV [.int (nI xn), .int (nI yn)] h_t rfl) (by decide) rfl hl.1 (by rw [← ex, ← ey]; rfl) (nl rfl) d_Mo_black_28 (by decide)) ?_
    refine lv_if_eq (tgt := 38) S.1 S.2.1 d_Mo_black_31 (by decide) (fun c_31 => ?_) (fun c_31 => ?_)
    · refine lv_iconst (v := 0) S.1 S.2.1 d_Mo_black_38 (by decide) ?_
      exact hp_retWz S hJ hr hlk d_Mo_black_39 (by decide) (by decide) ⟨q_is_f (fun q => q_is_0.mp c_31 (by rw [hxn, hyn]; exact q.2)), by rw [if_pos hP]; rw [eh2]; (try simp only [hp_up_up]); rfl⟩
    · refine lv_iconst (v := 1) S.1 S.2.1 d_Mo_black_34 (by decide) ?_
      refine lv_goto (tgt := 39) S.1 S.2.1 d_Mo_black_35 (by decide) ?_
      exact hp_retWz S hJ hr hlk d_Mo_black_39 (by decide) (by decide) ⟨q_is_t ⟨hP, by rw [← hxn, ← hyn]; exact q_is_ne.mp c_31⟩, by rw [if_pos hP]; rw [eh2]; (try simp only [hp_up_up]); rfl⟩

set_option maxHeartbeats 4000000 in
set_option maxRecDepth 100000 in
theorem c_Mo_count (l : Launch) (dC : Nat → ClassId) (dI : Nat → Nat → Nat) (cA : Nat → ClassId) (A : Nat → Prop) (h : hp_T) (t sh ac dn fr sp dt : Nat) (mf : Nat → Int32) (hh lo mm : Nat) (f : Nat → Int64) (y0 y1 : Int32) (h_t : h t = some (k_Mo mf sh ac dn fr sp dt)) (h_sh : h sh = some (k_lo (cA 1) (80 * hh) f)) (hh2 : hh ≤ 5100) (hlo : q_max 0 y0 = nI lo) (hm : ∀ j, j ≤ mm → (q_min (mf 2 - 1) y1 < nI (lo + j) ↔ j = mm)) (hb : ∀ j, j < mm → lo + j < hh) : Met l y_Mo_count (.code y_Mo_count prog_9_method_31_code 5 (some .int) :: BIG) ({ frames := 2, cells := 0, slots := 0, locals := 47 }) (va_Pc [.ref t, .int y0, .int y1] (hp_I (gg dC dI cA) A h)) (hp_QW (gg dC dI cA) A hp_mi (fun r h' => r = nI (csum f lo mm) ∧ h' = hp_up h t (k_Mo (upd mf 0 0) sh ac dn fr sp dt))) 0 0 A := by
  refine hp_enter (by decide) (Nat.le_of_ble_eq_true rfl) ?_
  intro p e s m below meth c ls S hr hlk hin hI hl
  have hl : lv_has ls 5 [(0, .ref t), (1, .int y0), (2, .int y1)] := hl
  have hJ := hI.J
  refine lv_aload_n S.1 S.2.1 d_Mo_count_0 rfl (lv_at hl 0 rfl) ?_
  refine lv_iconst (v := 0) S.1 S.2.1 d_Mo_count_1 (by decide) ?_
  refine hp_put S zz hJ h_t fp_Mo_46 rfl rfl (nl rfl) d_Mo_count_2 (fun H locs hJ => ?_)
  obtain ⟨h1, eh1⟩ : ∃ z, z = hp_up h t (.inr (7, [.int 0, .int (mf 1), .int (mf 2), .int (mf 3), .ref sh, .int (mf 5), .ref ac, .ref dn, .ref fr, .ref sp, .int (mf 10), .ref dt, .int (mf 12), .int (mf 13), .int (mf 14), .int (mf 15), .int (mf 16), .int (mf 17), .int (mf 18), .int (mf 19), .int (mf 20), .int (mf 21), .int (mf 22)])) := ⟨_, rfl⟩
  have hJ := hJ.cast eh1
  have h0_t := h_t
  have h_sh : h1 sh = some (k_lo (cA 1) (80 * hh) f) := by rw [eh1]; exact hp_up_k (hp_ne h_sh h0_t (show ((2, 0) : Nat × Nat) ≠ (0, 7) by decide)) h_sh
  have h_t : h1 t = some (.inr (7, [.int 0, .int (mf 1), .int (mf 2), .int (mf 3), .ref sh, .int (mf 5), .ref ac, .ref dn, .ref fr, .ref sp, .int (mf 10), .ref dt, .int (mf 12), .int (mf 13), .int (mf 14), .int (mf 15), .int (mf 16), .int (mf 17), .int (mf 18), .int (mf 19), .int (mf 20), .int (mf 21), .int (mf 22)])) := by rw [eh1]; exact hp_up_s _ _ _
  refine lv_iconst (v := 0) S.1 S.2.1 d_Mo_count_5 (by decide) ?_
  refine lv_istore_n (lv' := [(3, .int 0), (0, .ref t), (1, .int y0), (2, .int y1)]) S.1 S.2.1 d_Mo_count_6 rfl hl (by decide) rfl (fun ls hl => ?_)
  refine lv_iload_n S.1 S.2.1 d_Mo_count_7 rfl (lv_at hl 2 rfl) ?_
  refine lv_iconst (v := 0) S.1 S.2.1 d_Mo_count_8 (by decide) ?_
  refine hp_doneR (hp_runS S zz0 (c_Mo_most l _ _) l_Mo_122 (hp_pre0 _) (by decide) rfl hl.1 rfl (nl rfl) d_Mo_count_9 (by decide)) ?_
  rw [hlo]
  refine lv_istore (lv' := [(4, .int (nI lo)), (3, .int 0), (0, .ref t), (1, .int y0), (2, .int y1)]) S.1 S.2.1 d_Mo_count_12 hl (by decide) rfl (fun ls hl => ?_)
  have LP : ∀ (m_ j : Nat) (ls : Array Slot), j + m_ = mm → lv_has ls 5 [(4, .int (nI (lo + j))), (3, .int (nI (csum f lo j))), (0, .ref t), (1, .int y0), (2, .int y1)] → W p l e ({ frames := 2, cells := 0, slots := 0, locals := 47 }) s m ([.ref t, .int y0, .int y1] : List Value).toArray below meth c H locs 0 0 (MQ below (hp_QW (gg dC dI cA) A hp_mi (fun r h' => r = nI (csum f lo mm) ∧ h' = hp_up h t (k_Mo (upd mf 0 0) sh ac dn fr sp dt))) ([.ref t, .int y0, .int y1] : List Value).toArray s 0 0 A) (F0 m 14 ls []) := by
    intro m_
    induction m_ with
    | zero =>
      intro j ls hu hl
      refine lv_iload S.1 S.2.1 d_Mo_count_14 (lv_at hl 0 rfl) ?_
      refine lv_iload_n S.1 S.2.1 d_Mo_count_16 rfl (lv_at hl 4 rfl) ?_
      refine lv_aload_n S.1 S.2.1 d_Mo_count_17 rfl (lv_at hl 2 rfl) ?_
      refine hp_get S zz hJ h_t f_Mo_31 rfl d_Mo_count_18 ?_
      refine lv_iconst (v := 1) S.1 S.2.1 d_Mo_count_21 (by decide) ?_
      refine lv_isub S.1 S.2.1 d_Mo_count_22 ?_
      refine hp_doneR (hp_runS S zz0 (c_Mo_least l _ _) l_Mo_125 (hp_pre0 _) (by decide) rfl hl.1 rfl (nl rfl) d_Mo_count_23 (by decide)) ?_
      refine lv_icmp_gt (tgt := 44) S.1 S.2.1 d_Mo_count_26 (by decide) (fun _ => ?_) (fun q => absurd ((hm j (by omega)).mpr (by omega)) q)
      refine lv_iload_n S.1 S.2.1 d_Mo_count_44 rfl (lv_at hl 1 rfl) ?_
      exact hp_retWi S hJ hr hlk d_Mo_count_45 (by decide) ⟨congrArg (fun z => nI (csum f lo z)) (by omega), by rw [eh1]; (try simp only [hp_up_up]); rfl⟩
    | succ m_ ih =>
      intro j ls hu hl
      refine lv_iload S.1 S.2.1 d_Mo_count_14 (lv_at hl 0 rfl) ?_
      refine lv_iload_n S.1 S.2.1 d_Mo_count_16 rfl (lv_at hl 4 rfl) ?_
      refine lv_aload_n S.1 S.2.1 d_Mo_count_17 rfl (lv_at hl 2 rfl) ?_
      refine hp_get S zz hJ h_t f_Mo_31 rfl d_Mo_count_18 ?_
      refine lv_iconst (v := 1) S.1 S.2.1 d_Mo_count_21 (by decide) ?_
      refine lv_isub S.1 S.2.1 d_Mo_count_22 ?_
      refine hp_doneR (hp_runS S zz0 (c_Mo_least l _ _) l_Mo_125 (hp_pre0 _) (by decide) rfl hl.1 rfl (nl rfl) d_Mo_count_23 (by decide)) ?_
      refine lv_icmp_gt (tgt := 44) S.1 S.2.1 d_Mo_count_26 (by decide) (fun q => absurd ((hm j (by omega)).mp q) (by omega)) (fun _ => ?_)
      refine lv_iload_n S.1 S.2.1 d_Mo_count_29 rfl (lv_at hl 1 rfl) ?_
      refine lv_aload_n S.1 S.2.1 d_Mo_count_30 rfl (lv_at hl 2 rfl) ?_
      refine lv_iload S.1 S.2.1 d_Mo_count_31 (lv_at hl 0 rfl) ?_
      have hjb := hb j (by omega)
      refine hp_doneR (hp_runV S zz0 (c_Mo_blacksOf l dC dI cA A _ t sh ac dn fr sp dt (upd mf 0 0) (80 * hh) (lo + j) f h_t h_sh (by omega) (by omega)) l_Mo_139 (hJ.preV _ h_t rfl) (by decide) rfl hl.1 rfl (nl rfl) d_Mo_count_33 (by decide)) ?_
      refine lv_iadd S.1 S.2.1 d_Mo_count_36 ?_
      rw [nI_add]
      refine lv_istore_n (lv' := [(3, .int (nI (csum f lo (j + 1)))), (4, .int (nI (lo + j))), (0, .ref t), (1, .int y0), (2, .int y1)]) S.1 S.2.1 d_Mo_count_37 rfl hl (by decide) rfl (fun ls hl => ?_)
      refine lv_iinc (v := nI (lo + (j + 1))) (lv' := [(4, .int (nI (lo + (j + 1)))), (3, .int (nI (csum f lo (j + 1)))), (0, .ref t), (1, .int y0), (2, .int y1)]) S.1 S.2.1 d_Mo_count_38 hl (k := 1) rfl (nI_1 _) (by decide) rfl (fun ls hl => ?_)
      refine lv_goto (tgt := 14) S.1 S.2.1 d_Mo_count_41 (by decide) ?_
      exact ih (j + 1) ls (by omega) (lv_sub hl [0, 1, 2, 3, 4] rfl)
  exact LP mm 0 ls (by omega) (lv_sub hl [0, 1, 2, 3, 4] rfl)

theorem psum_le (f : Nat → Int64) (lo : Nat) : ∀ k, psum f lo k ≤ 64 * k := by
  have hp : ∀ (x : Int64) (k : Nat), popn x k ≤ k := by
    intro x k
    induction k with
    | zero => exact Nat.le_refl _
    | succ k ih =>
      unfold popn
      split <;> omega
  intro k
  induction k with
  | zero => exact Nat.le_refl _
  | succ k ih =>
    have := hp (f (lo + k)) 64
    unfold psum pop
    omega

set_option maxHeartbeats 4000000 in
set_option maxRecDepth 100000 in
theorem c_Mo_top (l : Launch) (dC : Nat → ClassId) (dI : Nat → Nat → Nat) (cA : Nat → ClassId) (A : Nat → Prop) (h : hp_T) (t sh ac dn fr sp dt : Nat) (mf : Nat → Int32) (hh lo : Nat) (f : Nat → Int64) (y0 : Int32) (h_t : h t = some (k_Mo mf sh ac dn fr sp dt)) (h_sh : h sh = some (k_lo (cA 1) (80 * hh) f)) (hh2 : hh ≤ 5100 ∧ mf 2 = nI hh) (hlo : q_max 0 y0 = nI lo ∧ lo < 2147483648) : Met l y_Mo_top (.code y_Mo_top prog_9_method_32_code 3 (some .int) :: BIG) ({ frames := 2, cells := 0, slots := 0, locals := 47 }) (va_Pc [.ref t, .int y0] (hp_I (gg dC dI cA) A h)) (hp_QW (gg dC dI cA) A hp_mi (fun r h' => r = q_tp (fun z => psum f (80 * z) 80) lo (hh - lo) ∧ h' = hp_up h t (k_Mo (upd mf 0 0) sh ac dn fr sp dt))) 0 0 A := by
  refine hp_enter (by decide) (Nat.le_of_ble_eq_true rfl) ?_
  intro p e s m below meth c ls S hr hlk hin hI hl
  have hl : lv_has ls 3 [(0, .ref t), (1, .int y0)] := hl
  have hJ := hI.J
  refine lv_aload_n S.1 S.2.1 d_Mo_top_0 rfl (lv_at hl 0 rfl) ?_
  refine lv_iconst (v := 0) S.1 S.2.1 d_Mo_top_1 (by decide) ?_
  refine hp_put S zz hJ h_t fp_Mo_46 rfl rfl (nl rfl) d_Mo_top_2 (fun H locs hJ => ?_)
  obtain ⟨h1, eh1⟩ : ∃ z, z = hp_up h t (.inr (7, [.int 0, .int (mf 1), .int (mf 2), .int (mf 3), .ref sh, .int (mf 5), .ref ac, .ref dn, .ref fr, .ref sp, .int (mf 10), .ref dt, .int (mf 12), .int (mf 13), .int (mf 14), .int (mf 15), .int (mf 16), .int (mf 17), .int (mf 18), .int (mf 19), .int (mf 20), .int (mf 21), .int (mf 22)])) := ⟨_, rfl⟩
  have hJ := hJ.cast eh1
  have h0_t := h_t
  have h_sh : h1 sh = some (k_lo (cA 1) (80 * hh) f) := by rw [eh1]; exact hp_up_k (hp_ne h_sh h0_t (show ((2, 0) : Nat × Nat) ≠ (0, 7) by decide)) h_sh
  have h_t : h1 t = some (.inr (7, [.int 0, .int (mf 1), .int (mf 2), .int (mf 3), .ref sh, .int (mf 5), .ref ac, .ref dn, .ref fr, .ref sp, .int (mf 10), .ref dt, .int (mf 12), .int (mf 13), .int (mf 14), .int (mf 15), .int (mf 16), .int (mf 17), .int (mf 18), .int (mf 19), .int (mf 20), .int (mf 21), .int (mf 22)])) := by rw [eh1]; exact hp_up_s _ _ _
  refine lv_iload_n S.1 S.2.1 d_Mo_top_5 rfl (lv_at hl 1 rfl) ?_
  refine lv_iconst (v := 0) S.1 S.2.1 d_Mo_top_6 (by decide) ?_
  refine hp_doneR (hp_runS S zz0 (c_Mo_most l _ _) l_Mo_122 (hp_pre0 _) (by decide) rfl hl.1 rfl (nl rfl) d_Mo_top_7 (by decide)) ?_
  rw [hlo.1]
  refine lv_istore_n (lv' := [(2, .int (nI lo)), (0, .ref t), (1, .int y0)]) S.1 S.2.1 d_Mo_top_10 rfl hl (by decide) rfl (fun ls hl => ?_)
  have LP : ∀ (m_ y : Nat) (ls : Array Slot), hh - y = m_ → y < 2147483648 → q_tp (fun z => psum f (80 * z) 80) y m_ = q_tp (fun z => psum f (80 * z) 80) lo (hh - lo) → lv_has ls 3 [(2, .int (nI y)), (0, .ref t), (1, .int y0)] → W p l e ({ frames := 2, cells := 0, slots := 0, locals := 47 }) s m ([.ref t, .int y0] : List Value).toArray below meth c H locs 0 0 (MQ below (hp_QW (gg dC dI cA) A hp_mi (fun r h' => r = q_tp (fun z => psum f (80 * z) 80) lo (hh - lo) ∧ h' = hp_up h t (k_Mo (upd mf 0 0) sh ac dn fr sp dt))) ([.ref t, .int y0] : List Value).toArray s 0 0 A) (F0 m 11 ls []) := by
    intro m_
    induction m_ with
    | zero =>
      intro y ls hu hy hq hl
      refine lv_iload_n S.1 S.2.1 d_Mo_top_11 rfl (lv_at hl 0 rfl) ?_
      refine lv_aload_n S.1 S.2.1 d_Mo_top_12 rfl (lv_at hl 1 rfl) ?_
      refine hp_get S zz hJ h_t f_Mo_31 rfl d_Mo_top_13 ?_
      rw [hh2.2]
      refine lv_icmp_ge (tgt := 35) S.1 S.2.1 d_Mo_top_16 (by decide) (fun _ => ?_) (fun q => absurd (nI_le (by omega) (by omega)) q)
      refine lv_iconst (v := (-1)) S.1 S.2.1 d_Mo_top_35 (by decide) ?_
      exact hp_retWi S hJ hr hlk d_Mo_top_36 (by decide) ⟨by rw [← hq]; rfl, by rw [eh1]; (try simp only [hp_up_up]); rfl⟩
    | succ m_ ih =>
      intro y ls hu hy hq hl
      refine lv_iload_n S.1 S.2.1 d_Mo_top_11 rfl (lv_at hl 0 rfl) ?_
      refine lv_aload_n S.1 S.2.1 d_Mo_top_12 rfl (lv_at hl 1 rfl) ?_
      refine hp_get S zz hJ h_t f_Mo_31 rfl d_Mo_top_13 ?_
      rw [hh2.2]
      refine lv_icmp_ge (tgt := 35) S.1 S.2.1 d_Mo_top_16 (by decide) (fun q => absurd q (nI_ge (by omega) (by omega))) (fun _ => ?_)
      refine lv_aload_n S.1 S.2.1 d_Mo_top_19 rfl (lv_at hl 1 rfl) ?_
      refine lv_iload_n S.1 S.2.1 d_Mo_top_20 rfl (lv_at hl 0 rfl) ?_
      refine hp_doneR (hp_runV S zz0 (c_Mo_blacksOf l dC dI cA A _ t sh ac dn fr sp dt (upd mf 0 0) (80 * hh) y f h_t h_sh (by omega) (by omega)) l_Mo_139 (hJ.preV _ h_t rfl) (by decide) rfl hl.1 rfl (nl rfl) d_Mo_top_21 (by decide)) ?_
      have hps := psum_le f (80 * y) 80
      refine lv_if_le (tgt := 29) S.1 S.2.1 d_Mo_top_24 (by decide) (fun c_24 => ?_) (fun c_24 => ?_)
      · refine lv_iinc (v := nI (y + 1)) (lv' := [(2, .int (nI (y + 1))), (0, .ref t), (1, .int y0)]) S.1 S.2.1 d_Mo_top_29 hl (k := 0) rfl (nI_1 _) (by decide) rfl (fun ls hl => ?_)
        refine lv_goto (tgt := 11) S.1 S.2.1 d_Mo_top_32 (by decide) ?_
        exact ih (y + 1) ls (by omega) (by omega) (by rw [← hq]; exact (q_tp_f (g := fun z => psum f (80 * z) 80) (lo := y) (fun z => absurd c_24 (nI_nle (n := psum f (80 * y) 80) z (by omega)))).symm) (lv_sub hl [0, 1, 2] rfl)
      · refine lv_iload_n S.1 S.2.1 d_Mo_top_27 rfl (lv_at hl 0 rfl) ?_
        exact hp_retWi S hJ hr hlk d_Mo_top_28 (by decide) ⟨by rw [← hq]; exact (q_tp_t (Nat.pos_of_ne_zero (fun z => c_24 (by rw [show psum f (80 * y) 80 = 0 from z]; decide)))).symm, by rw [eh1]; (try simp only [hp_up_up]); rfl⟩
  exact LP (hh - lo) lo ls rfl hlo.2 rfl (lv_sub hl [0, 1, 2] rfl)

