/-! The reference: its settings and its plain answers. -/
set_option maxHeartbeats 4000000 in
set_option maxRecDepth 100000 in
theorem c_Mo_thrown (l : Launch) (dC : Nat → ClassId) (dI : Nat → Nat → Nat) (cA : Nat → ClassId) (A : Nat → Prop) (h : hp_T) (t sh ac dn fr sp dt : Nat) (mf : Nat → Int32) (h_t : h t = some (k_Mo mf sh ac dn fr sp dt)) : Met l y_Mo_thrown (.code y_Mo_thrown prog_9_method_2_code 1 (some .int) :: BIG) ({ frames := 0, cells := 0, slots := 0, locals := 0 }) (va_Pc [.ref t] (hp_I (gg dC dI cA) A h)) (hp_QR (some (.int (mf 0)))) 0 0 (fun _ => False) := by
  refine hp_enter (by decide) (Nat.le_of_ble_eq_true rfl) ?_
  intro p e s m below meth c ls S hr hlk hin hI hl
  have hl : lv_has ls 1 [(0, .ref t)] := hl
  have hJ := hI.J
  refine lv_aload_n S.1 S.2.1 d_Mo_thrown_0 rfl (lv_at hl 0 rfl) ?_
  refine hp_get S zz hJ h_t f_Mo_46 rfl d_Mo_thrown_1 ?_
  exact hp_retRi S hr hlk d_Mo_thrown_4 rfl

set_option maxHeartbeats 4000000 in
set_option maxRecDepth 100000 in
theorem c_Mo_mode (l : Launch) (dC : Nat → ClassId) (dI : Nat → Nat → Nat) (cA : Nat → ClassId) (A : Nat → Prop) (h : hp_T) (t sh ac dn fr sp dt : Nat) (mf : Nat → Int32) (a b : Int32) (ha : a = 0 ∨ a = 1) (hb : b = 0 ∨ b = 1) (h_t : h t = some (k_Mo mf sh ac dn fr sp dt)) : Met l y_Mo_mode (.code y_Mo_mode prog_9_method_17_code 3 none :: BIG) ({ frames := 0, cells := 0, slots := 0, locals := 0 }) (va_Pc [.ref t, .int a, .int b] (hp_I (gg dC dI cA) A h)) (hp_QW (gg dC dI cA) A hp_mv (fun _ h' => h' = hp_up h t (k_Mo (upd (upd (upd mf 0 0) 16 a) 17 b) sh ac dn fr sp dt))) 0 0 A := by
  refine hp_enter (by decide) (Nat.le_of_ble_eq_true rfl) ?_
  intro p e s m below meth c ls S hr hlk hin hI hl
  have hl : lv_has ls 3 [(0, .ref t), (1, .int a), (2, .int b)] := hl
  have hJ := hI.J
  refine lv_aload_n S.1 S.2.1 d_Mo_mode_0 rfl (lv_at hl 0 rfl) ?_
  refine lv_iconst (v := 0) S.1 S.2.1 d_Mo_mode_1 (by decide) ?_
  refine hp_put S zz hJ h_t fp_Mo_46 rfl rfl (nl rfl) d_Mo_mode_2 (fun H locs hJ => ?_)
  obtain ⟨h1, eh1⟩ : ∃ z, z = hp_up h t (.inr (7, [.int 0, .int (mf 1), .int (mf 2), .int (mf 3), .ref sh, .int (mf 5), .ref ac, .ref dn, .ref fr, .ref sp, .int (mf 10), .ref dt, .int (mf 12), .int (mf 13), .int (mf 14), .int (mf 15), .int (mf 16), .int (mf 17), .int (mf 18), .int (mf 19), .int (mf 20), .int (mf 21), .int (mf 22)])) := ⟨_, rfl⟩
  have hJ := hJ.cast eh1
  have h0_t := h_t
  have h_t : h1 t = some (.inr (7, [.int 0, .int (mf 1), .int (mf 2), .int (mf 3), .ref sh, .int (mf 5), .ref ac, .ref dn, .ref fr, .ref sp, .int (mf 10), .ref dt, .int (mf 12), .int (mf 13), .int (mf 14), .int (mf 15), .int (mf 16), .int (mf 17), .int (mf 18), .int (mf 19), .int (mf 20), .int (mf 21), .int (mf 22)])) := by rw [eh1]; exact hp_up_s _ _ _
  refine lv_aload_n S.1 S.2.1 d_Mo_mode_5 rfl (lv_at hl 0 rfl) ?_
  refine lv_iload_n S.1 S.2.1 d_Mo_mode_6 rfl (lv_at hl 1 rfl) ?_
  refine hp_put S zz hJ h_t fp_Mo_75 (z01 ha).1 (z01 ha).2 (nl rfl) d_Mo_mode_7 (fun H locs hJ => ?_)
  obtain ⟨h2, eh2⟩ : ∃ z, z = hp_up h1 t (.inr (7, [.int 0, .int (mf 1), .int (mf 2), .int (mf 3), .ref sh, .int (mf 5), .ref ac, .ref dn, .ref fr, .ref sp, .int (mf 10), .ref dt, .int (mf 12), .int (mf 13), .int (mf 14), .int (mf 15), .int a, .int (mf 17), .int (mf 18), .int (mf 19), .int (mf 20), .int (mf 21), .int (mf 22)])) := ⟨_, rfl⟩
  have hJ := hJ.cast eh2
  have h0_t := h_t
  have h_t : h2 t = some (.inr (7, [.int 0, .int (mf 1), .int (mf 2), .int (mf 3), .ref sh, .int (mf 5), .ref ac, .ref dn, .ref fr, .ref sp, .int (mf 10), .ref dt, .int (mf 12), .int (mf 13), .int (mf 14), .int (mf 15), .int a, .int (mf 17), .int (mf 18), .int (mf 19), .int (mf 20), .int (mf 21), .int (mf 22)])) := by rw [eh2]; exact hp_up_s _ _ _
  refine lv_aload_n S.1 S.2.1 d_Mo_mode_10 rfl (lv_at hl 0 rfl) ?_
  refine lv_iload_n S.1 S.2.1 d_Mo_mode_11 rfl (lv_at hl 2 rfl) ?_
  refine hp_put S zz hJ h_t fp_Mo_86 (z01 hb).1 (z01 hb).2 (nl rfl) d_Mo_mode_12 (fun H locs hJ => ?_)
  obtain ⟨h3, eh3⟩ : ∃ z, z = hp_up h2 t (.inr (7, [.int 0, .int (mf 1), .int (mf 2), .int (mf 3), .ref sh, .int (mf 5), .ref ac, .ref dn, .ref fr, .ref sp, .int (mf 10), .ref dt, .int (mf 12), .int (mf 13), .int (mf 14), .int (mf 15), .int a, .int b, .int (mf 18), .int (mf 19), .int (mf 20), .int (mf 21), .int (mf 22)])) := ⟨_, rfl⟩
  have hJ := hJ.cast eh3
  have h0_t := h_t
  have h_t : h3 t = some (.inr (7, [.int 0, .int (mf 1), .int (mf 2), .int (mf 3), .ref sh, .int (mf 5), .ref ac, .ref dn, .ref fr, .ref sp, .int (mf 10), .ref dt, .int (mf 12), .int (mf 13), .int (mf 14), .int (mf 15), .int a, .int b, .int (mf 18), .int (mf 19), .int (mf 20), .int (mf 21), .int (mf 22)])) := by rw [eh3]; exact hp_up_s _ _ _
  exact hp_retWv S hJ hr hlk d_Mo_mode_15 (by decide) (by rw [eh3, eh2, eh1]; (try simp only [hp_up_up]); rfl)

set_option maxHeartbeats 4000000 in
set_option maxRecDepth 100000 in
theorem c_Mo_turn (l : Launch) (dC : Nat → ClassId) (dI : Nat → Nat → Nat) (cA : Nat → ClassId) (A : Nat → Prop) (h : hp_T) (t sh ac dn fr sp dt : Nat) (mf : Nat → Int32) (k : Int32) (h_t : h t = some (k_Mo mf sh ac dn fr sp dt)) : Met l y_Mo_turn (.code y_Mo_turn prog_9_method_18_code 2 (some .boolean) :: BIG) ({ frames := 0, cells := 0, slots := 0, locals := 0 }) (va_Pc [.ref t, .int k] (hp_I (gg dC dI cA) A h)) (hp_QW (gg dC dI cA) A hp_mi (fun r h' => r = q_is (0 ≤ k ∧ k ≤ 3) ∧ h' = hp_up h t (k_Mo (if 0 ≤ k ∧ k ≤ 3 then upd (upd mf 0 0) 18 k else upd mf 0 0) sh ac dn fr sp dt))) 0 0 A := by
  refine hp_enter (by decide) (Nat.le_of_ble_eq_true rfl) ?_
  intro p e s m below meth c ls S hr hlk hin hI hl
  have hl : lv_has ls 2 [(0, .ref t), (1, .int k)] := hl
  have hJ := hI.J
  refine lv_aload_n S.1 S.2.1 d_Mo_turn_0 rfl (lv_at hl 0 rfl) ?_
  refine lv_iconst (v := 0) S.1 S.2.1 d_Mo_turn_1 (by decide) ?_
  refine hp_put S zz hJ h_t fp_Mo_46 rfl rfl (nl rfl) d_Mo_turn_2 (fun H locs hJ => ?_)
  obtain ⟨h1, eh1⟩ : ∃ z, z = hp_up h t (.inr (7, [.int 0, .int (mf 1), .int (mf 2), .int (mf 3), .ref sh, .int (mf 5), .ref ac, .ref dn, .ref fr, .ref sp, .int (mf 10), .ref dt, .int (mf 12), .int (mf 13), .int (mf 14), .int (mf 15), .int (mf 16), .int (mf 17), .int (mf 18), .int (mf 19), .int (mf 20), .int (mf 21), .int (mf 22)])) := ⟨_, rfl⟩
  have hJ := hJ.cast eh1
  have h0_t := h_t
  have h_t : h1 t = some (.inr (7, [.int 0, .int (mf 1), .int (mf 2), .int (mf 3), .ref sh, .int (mf 5), .ref ac, .ref dn, .ref fr, .ref sp, .int (mf 10), .ref dt, .int (mf 12), .int (mf 13), .int (mf 14), .int (mf 15), .int (mf 16), .int (mf 17), .int (mf 18), .int (mf 19), .int (mf 20), .int (mf 21), .int (mf 22)])) := by rw [eh1]; exact hp_up_s _ _ _
  refine lv_iload_n S.1 S.2.1 d_Mo_turn_5 rfl (lv_at hl 1 rfl) ?_
  refine lv_if_lt (tgt := 14) S.1 S.2.1 d_Mo_turn_6 (by decide) (fun c_6 => ?_) (fun c_6 => ?_)
  · refine lv_iconst (v := 0) S.1 S.2.1 d_Mo_turn_14 (by decide) ?_
    exact hp_retWz S hJ hr hlk d_Mo_turn_15 (by decide) (by decide) ⟨q_is_f (by simp only [z_lt, z_le, z_eq, z_0] at c_6 ⊢; omega), by rw [if_neg (by simp only [z_lt, z_le, z_eq, z_0] at c_6 ⊢; omega)]; rw [eh1]; (try simp only [hp_up_up]); rfl⟩
  · refine lv_iload_n S.1 S.2.1 d_Mo_turn_9 rfl (lv_at hl 1 rfl) ?_
    refine lv_iconst (v := 3) S.1 S.2.1 d_Mo_turn_10 (by decide) ?_
    refine lv_icmp_le (tgt := 16) S.1 S.2.1 d_Mo_turn_11 (by decide) (fun c_11 => ?_) (fun c_11 => ?_)
    · refine lv_aload_n S.1 S.2.1 d_Mo_turn_16 rfl (lv_at hl 0 rfl) ?_
      refine lv_iload_n S.1 S.2.1 d_Mo_turn_17 rfl (lv_at hl 1 rfl) ?_
      refine hp_put S zz hJ h_t fp_Mo_89 rfl rfl (nl rfl) d_Mo_turn_18 (fun H locs hJ => ?_)
      obtain ⟨h2, eh2⟩ : ∃ z, z = hp_up h1 t (.inr (7, [.int 0, .int (mf 1), .int (mf 2), .int (mf 3), .ref sh, .int (mf 5), .ref ac, .ref dn, .ref fr, .ref sp, .int (mf 10), .ref dt, .int (mf 12), .int (mf 13), .int (mf 14), .int (mf 15), .int (mf 16), .int (mf 17), .int k, .int (mf 19), .int (mf 20), .int (mf 21), .int (mf 22)])) := ⟨_, rfl⟩
      have hJ := hJ.cast eh2
      have h0_t := h_t
      have h_t : h2 t = some (.inr (7, [.int 0, .int (mf 1), .int (mf 2), .int (mf 3), .ref sh, .int (mf 5), .ref ac, .ref dn, .ref fr, .ref sp, .int (mf 10), .ref dt, .int (mf 12), .int (mf 13), .int (mf 14), .int (mf 15), .int (mf 16), .int (mf 17), .int k, .int (mf 19), .int (mf 20), .int (mf 21), .int (mf 22)])) := by rw [eh2]; exact hp_up_s _ _ _
      refine lv_iconst (v := 1) S.1 S.2.1 d_Mo_turn_21 (by decide) ?_
      exact hp_retWz S hJ hr hlk d_Mo_turn_22 (by decide) (by decide) ⟨q_is_t (by simp only [z_lt, z_le, z_eq, z_0] at c_6 c_11 ⊢; omega), by rw [if_pos (by simp only [z_lt, z_le, z_eq, z_0] at c_6 c_11 ⊢; omega)]; rw [eh2, eh1]; (try simp only [hp_up_up]); rfl⟩
    · refine lv_iconst (v := 0) S.1 S.2.1 d_Mo_turn_14 (by decide) ?_
      exact hp_retWz S hJ hr hlk d_Mo_turn_15 (by decide) (by decide) ⟨q_is_f (by simp only [z_lt, z_le, z_eq, z_0] at c_6 c_11 ⊢; omega), by rw [if_neg (by simp only [z_lt, z_le, z_eq, z_0] at c_6 c_11 ⊢; omega)]; rw [eh1]; (try simp only [hp_up_up]); rfl⟩

set_option maxHeartbeats 4000000 in
set_option maxRecDepth 100000 in
theorem c_Mo_clip (l : Launch) (dC : Nat → ClassId) (dI : Nat → Nat → Nat) (cA : Nat → ClassId) (A : Nat → Prop) (h : hp_T) (t sh ac dn fr sp dt : Nat) (mf : Nat → Int32) (x0 y0 x1 y1 : Int32) (h_t : h t = some (k_Mo mf sh ac dn fr sp dt)) : Met l y_Mo_clip (.code y_Mo_clip prog_9_method_19_code 5 (some .boolean) :: BIG) ({ frames := 0, cells := 0, slots := 0, locals := 0 }) (va_Pc [.ref t, .int x0, .int y0, .int x1, .int y1] (hp_I (gg dC dI cA) A h)) (hp_QW (gg dC dI cA) A hp_mi (fun r h' => r = q_is (x0 ≤ x1 ∧ y0 ≤ y1) ∧ h' = hp_up h t (k_Mo (if x0 ≤ x1 ∧ y0 ≤ y1 then upd (upd (upd (upd (upd mf 0 0) 19 x0) 20 y0) 21 x1) 22 y1 else upd mf 0 0) sh ac dn fr sp dt))) 0 0 A := by
  refine hp_enter (by decide) (Nat.le_of_ble_eq_true rfl) ?_
  intro p e s m below meth c ls S hr hlk hin hI hl
  have hl : lv_has ls 5 [(0, .ref t), (1, .int x0), (2, .int y0), (3, .int x1), (4, .int y1)] := hl
  have hJ := hI.J
  refine lv_aload_n S.1 S.2.1 d_Mo_clip_0 rfl (lv_at hl 0 rfl) ?_
  refine lv_iconst (v := 0) S.1 S.2.1 d_Mo_clip_1 (by decide) ?_
  refine hp_put S zz hJ h_t fp_Mo_46 rfl rfl (nl rfl) d_Mo_clip_2 (fun H locs hJ => ?_)
  obtain ⟨h1, eh1⟩ : ∃ z, z = hp_up h t (.inr (7, [.int 0, .int (mf 1), .int (mf 2), .int (mf 3), .ref sh, .int (mf 5), .ref ac, .ref dn, .ref fr, .ref sp, .int (mf 10), .ref dt, .int (mf 12), .int (mf 13), .int (mf 14), .int (mf 15), .int (mf 16), .int (mf 17), .int (mf 18), .int (mf 19), .int (mf 20), .int (mf 21), .int (mf 22)])) := ⟨_, rfl⟩
  have hJ := hJ.cast eh1
  have h0_t := h_t
  have h_t : h1 t = some (.inr (7, [.int 0, .int (mf 1), .int (mf 2), .int (mf 3), .ref sh, .int (mf 5), .ref ac, .ref dn, .ref fr, .ref sp, .int (mf 10), .ref dt, .int (mf 12), .int (mf 13), .int (mf 14), .int (mf 15), .int (mf 16), .int (mf 17), .int (mf 18), .int (mf 19), .int (mf 20), .int (mf 21), .int (mf 22)])) := by rw [eh1]; exact hp_up_s _ _ _
  refine lv_iload_n S.1 S.2.1 d_Mo_clip_5 rfl (lv_at hl 1 rfl) ?_
  refine lv_iload_n S.1 S.2.1 d_Mo_clip_6 rfl (lv_at hl 3 rfl) ?_
  refine lv_icmp_gt (tgt := 16) S.1 S.2.1 d_Mo_clip_7 (by decide) (fun c_7 => ?_) (fun c_7 => ?_)
  · refine lv_iconst (v := 0) S.1 S.2.1 d_Mo_clip_16 (by decide) ?_
    exact hp_retWz S hJ hr hlk d_Mo_clip_17 (by decide) (by decide) ⟨q_is_f (by simp only [z_lt, z_le, z_eq, z_0] at c_7 ⊢; omega), by rw [if_neg (by simp only [z_lt, z_le, z_eq, z_0] at c_7 ⊢; omega)]; rw [eh1]; (try simp only [hp_up_up]); rfl⟩
  · refine lv_iload_n S.1 S.2.1 d_Mo_clip_10 rfl (lv_at hl 2 rfl) ?_
    refine lv_iload S.1 S.2.1 d_Mo_clip_11 (lv_at hl 4 rfl) ?_
    refine lv_icmp_le (tgt := 18) S.1 S.2.1 d_Mo_clip_13 (by decide) (fun c_13 => ?_) (fun c_13 => ?_)
    · refine lv_aload_n S.1 S.2.1 d_Mo_clip_18 rfl (lv_at hl 0 rfl) ?_
      refine lv_iload_n S.1 S.2.1 d_Mo_clip_19 rfl (lv_at hl 1 rfl) ?_
      refine hp_put S zz hJ h_t fp_Mo_69 rfl rfl (nl rfl) d_Mo_clip_20 (fun H locs hJ => ?_)
      obtain ⟨h2, eh2⟩ : ∃ z, z = hp_up h1 t (.inr (7, [.int 0, .int (mf 1), .int (mf 2), .int (mf 3), .ref sh, .int (mf 5), .ref ac, .ref dn, .ref fr, .ref sp, .int (mf 10), .ref dt, .int (mf 12), .int (mf 13), .int (mf 14), .int (mf 15), .int (mf 16), .int (mf 17), .int (mf 18), .int x0, .int (mf 20), .int (mf 21), .int (mf 22)])) := ⟨_, rfl⟩
      have hJ := hJ.cast eh2
      have h0_t := h_t
      have h_t : h2 t = some (.inr (7, [.int 0, .int (mf 1), .int (mf 2), .int (mf 3), .ref sh, .int (mf 5), .ref ac, .ref dn, .ref fr, .ref sp, .int (mf 10), .ref dt, .int (mf 12), .int (mf 13), .int (mf 14), .int (mf 15), .int (mf 16), .int (mf 17), .int (mf 18), .int x0, .int (mf 20), .int (mf 21), .int (mf 22)])) := by rw [eh2]; exact hp_up_s _ _ _
      refine lv_aload_n S.1 S.2.1 d_Mo_clip_23 rfl (lv_at hl 0 rfl) ?_
      refine lv_iload_n S.1 S.2.1 d_Mo_clip_24 rfl (lv_at hl 2 rfl) ?_
      refine hp_put S zz hJ h_t fp_Mo_72 rfl rfl (nl rfl) d_Mo_clip_25 (fun H locs hJ => ?_)
      obtain ⟨h3, eh3⟩ : ∃ z, z = hp_up h2 t (.inr (7, [.int 0, .int (mf 1), .int (mf 2), .int (mf 3), .ref sh, .int (mf 5), .ref ac, .ref dn, .ref fr, .ref sp, .int (mf 10), .ref dt, .int (mf 12), .int (mf 13), .int (mf 14), .int (mf 15), .int (mf 16), .int (mf 17), .int (mf 18), .int x0, .int y0, .int (mf 21), .int (mf 22)])) := ⟨_, rfl⟩
      have hJ := hJ.cast eh3
      have h0_t := h_t
      have h_t : h3 t = some (.inr (7, [.int 0, .int (mf 1), .int (mf 2), .int (mf 3), .ref sh, .int (mf 5), .ref ac, .ref dn, .ref fr, .ref sp, .int (mf 10), .ref dt, .int (mf 12), .int (mf 13), .int (mf 14), .int (mf 15), .int (mf 16), .int (mf 17), .int (mf 18), .int x0, .int y0, .int (mf 21), .int (mf 22)])) := by rw [eh3]; exact hp_up_s _ _ _
      refine lv_aload_n S.1 S.2.1 d_Mo_clip_28 rfl (lv_at hl 0 rfl) ?_
      refine lv_iload_n S.1 S.2.1 d_Mo_clip_29 rfl (lv_at hl 3 rfl) ?_
      refine hp_put S zz hJ h_t fp_Mo_40 rfl rfl (nl rfl) d_Mo_clip_30 (fun H locs hJ => ?_)
      obtain ⟨h4, eh4⟩ : ∃ z, z = hp_up h3 t (.inr (7, [.int 0, .int (mf 1), .int (mf 2), .int (mf 3), .ref sh, .int (mf 5), .ref ac, .ref dn, .ref fr, .ref sp, .int (mf 10), .ref dt, .int (mf 12), .int (mf 13), .int (mf 14), .int (mf 15), .int (mf 16), .int (mf 17), .int (mf 18), .int x0, .int y0, .int x1, .int (mf 22)])) := ⟨_, rfl⟩
      have hJ := hJ.cast eh4
      have h0_t := h_t
      have h_t : h4 t = some (.inr (7, [.int 0, .int (mf 1), .int (mf 2), .int (mf 3), .ref sh, .int (mf 5), .ref ac, .ref dn, .ref fr, .ref sp, .int (mf 10), .ref dt, .int (mf 12), .int (mf 13), .int (mf 14), .int (mf 15), .int (mf 16), .int (mf 17), .int (mf 18), .int x0, .int y0, .int x1, .int (mf 22)])) := by rw [eh4]; exact hp_up_s _ _ _
      refine lv_aload_n S.1 S.2.1 d_Mo_clip_33 rfl (lv_at hl 0 rfl) ?_
      refine lv_iload S.1 S.2.1 d_Mo_clip_34 (lv_at hl 4 rfl) ?_
      refine hp_put S zz hJ h_t fp_Mo_43 rfl rfl (nl rfl) d_Mo_clip_36 (fun H locs hJ => ?_)
      obtain ⟨h5, eh5⟩ : ∃ z, z = hp_up h4 t (.inr (7, [.int 0, .int (mf 1), .int (mf 2), .int (mf 3), .ref sh, .int (mf 5), .ref ac, .ref dn, .ref fr, .ref sp, .int (mf 10), .ref dt, .int (mf 12), .int (mf 13), .int (mf 14), .int (mf 15), .int (mf 16), .int (mf 17), .int (mf 18), .int x0, .int y0, .int x1, .int y1])) := ⟨_, rfl⟩
      have hJ := hJ.cast eh5
      have h0_t := h_t
      have h_t : h5 t = some (.inr (7, [.int 0, .int (mf 1), .int (mf 2), .int (mf 3), .ref sh, .int (mf 5), .ref ac, .ref dn, .ref fr, .ref sp, .int (mf 10), .ref dt, .int (mf 12), .int (mf 13), .int (mf 14), .int (mf 15), .int (mf 16), .int (mf 17), .int (mf 18), .int x0, .int y0, .int x1, .int y1])) := by rw [eh5]; exact hp_up_s _ _ _
      refine lv_iconst (v := 1) S.1 S.2.1 d_Mo_clip_39 (by decide) ?_
      exact hp_retWz S hJ hr hlk d_Mo_clip_40 (by decide) (by decide) ⟨q_is_t (by simp only [z_lt, z_le, z_eq, z_0] at c_7 c_13 ⊢; omega), by rw [if_pos (by simp only [z_lt, z_le, z_eq, z_0] at c_7 c_13 ⊢; omega)]; rw [eh5, eh4, eh3, eh2, eh1]; (try simp only [hp_up_up]); rfl⟩
    · refine lv_iconst (v := 0) S.1 S.2.1 d_Mo_clip_16 (by decide) ?_
      exact hp_retWz S hJ hr hlk d_Mo_clip_17 (by decide) (by decide) ⟨q_is_f (by simp only [z_lt, z_le, z_eq, z_0] at c_7 c_13 ⊢; omega), by rw [if_neg (by simp only [z_lt, z_le, z_eq, z_0] at c_7 c_13 ⊢; omega)]; rw [eh1]; (try simp only [hp_up_up]); rfl⟩

theorem zk2 : (2 : Int32).toInt = 2 := rfl
theorem zk3 : (3 : Int32).toInt = 3 := rfl
theorem zk6 : (6 : Int32).toInt = 6 := rfl
theorem zk100 : (100 : Int32).toInt = 100 := rfl
set_option maxHeartbeats 4000000 in
set_option maxRecDepth 100000 in
theorem c_Mo_ink (l : Launch) (dC : Nat → ClassId) (dI : Nat → Nat → Nat) (cA : Nat → ClassId) (A : Nat → Prop) (h : hp_T) (t sh ac dn fr sp dt : Nat) (mf : Nat → Int32) (kd val : Int32) (h_t : h t = some (k_Mo mf sh ac dn fr sp dt)) : Met l y_Mo_ink (.code y_Mo_ink prog_9_method_16_code 4 (some .boolean) :: BIG) ({ frames := 0, cells := 0, slots := 0, locals := 0 }) (va_Pc [.ref t, .int kd, .int val] (hp_I (gg dC dI cA) A h)) (hp_QW (gg dC dI cA) A hp_mi (fun r h' => r = q_is (kd = 0 ∨ kd = 1 ∨ (kd = 2 ∧ 1 ≤ val ∧ val ≤ 100) ∨ (kd = 3 ∧ 1 ≤ val ∧ val ≤ 6)) ∧ h' = hp_up h t (k_Mo (if kd = 0 ∨ kd = 1 ∨ (kd = 2 ∧ 1 ≤ val ∧ val ≤ 100) ∨ (kd = 3 ∧ 1 ≤ val ∧ val ≤ 6) then upd (upd (upd mf 0 0) 14 kd) 15 (if kd < 2 then 0 else val) else upd mf 0 0) sh ac dn fr sp dt))) 0 0 A := by
  refine hp_enter (by decide) (Nat.le_of_ble_eq_true rfl) ?_
  intro p e s m below meth c ls S hr hlk hin hI hl
  have hl : lv_has ls 4 [(0, .ref t), (1, .int kd), (2, .int val)] := hl
  have hJ := hI.J
  refine lv_aload_n S.1 S.2.1 d_Mo_ink_0 rfl (lv_at hl 0 rfl) ?_
  refine lv_iconst (v := 0) S.1 S.2.1 d_Mo_ink_1 (by decide) ?_
  refine hp_put S zz hJ h_t fp_Mo_46 rfl rfl (nl rfl) d_Mo_ink_2 (fun H locs hJ => ?_)
  obtain ⟨h1, eh1⟩ : ∃ z, z = hp_up h t (.inr (7, [.int 0, .int (mf 1), .int (mf 2), .int (mf 3), .ref sh, .int (mf 5), .ref ac, .ref dn, .ref fr, .ref sp, .int (mf 10), .ref dt, .int (mf 12), .int (mf 13), .int (mf 14), .int (mf 15), .int (mf 16), .int (mf 17), .int (mf 18), .int (mf 19), .int (mf 20), .int (mf 21), .int (mf 22)])) := ⟨_, rfl⟩
  have hJ := hJ.cast eh1
  have h0_t := h_t
  have h_t : h1 t = some (.inr (7, [.int 0, .int (mf 1), .int (mf 2), .int (mf 3), .ref sh, .int (mf 5), .ref ac, .ref dn, .ref fr, .ref sp, .int (mf 10), .ref dt, .int (mf 12), .int (mf 13), .int (mf 14), .int (mf 15), .int (mf 16), .int (mf 17), .int (mf 18), .int (mf 19), .int (mf 20), .int (mf 21), .int (mf 22)])) := by rw [eh1]; exact hp_up_s _ _ _
  refine hp_cut (fun v => v = q_is (kd = 0 ∨ kd = 1 ∨ (kd = 2 ∧ 1 ≤ val ∧ val ≤ 100) ∨ (kd = 3 ∧ 1 ≤ val ∧ val ≤ 6))) 51 [] (fun J => ?_) (fun is e_is => ?_)
  · refine lv_iload_n S.1 S.2.1 d_Mo_ink_5 rfl (lv_at hl 1 rfl) ?_
    refine lv_if_eq (tgt := 46) S.1 S.2.1 d_Mo_ink_6 (by decide) (fun c_6 => ?_) (fun c_6 => ?_)
    · refine lv_iconst (v := 1) S.1 S.2.1 d_Mo_ink_46 (by decide) ?_
      refine lv_goto (tgt := 51) S.1 S.2.1 d_Mo_ink_47 (by decide) ?_
      exact J _ (q_is_t (by simp only [z_lt, z_le, z_eq, z_0, z_1, zk2, zk3, zk6, zk100] at c_6 ⊢; omega))
    · refine lv_iload_n S.1 S.2.1 d_Mo_ink_9 rfl (lv_at hl 1 rfl) ?_
      refine lv_iconst (v := 1) S.1 S.2.1 d_Mo_ink_10 (by decide) ?_
      refine lv_icmp_eq (tgt := 46) S.1 S.2.1 d_Mo_ink_11 (by decide) (fun c_11 => ?_) (fun c_11 => ?_)
      · refine lv_iconst (v := 1) S.1 S.2.1 d_Mo_ink_46 (by decide) ?_
        refine lv_goto (tgt := 51) S.1 S.2.1 d_Mo_ink_47 (by decide) ?_
        exact J _ (q_is_t (by simp only [z_lt, z_le, z_eq, z_0, z_1, zk2, zk3, zk6, zk100] at c_6 c_11 ⊢; omega))
      · refine lv_iload_n S.1 S.2.1 d_Mo_ink_14 rfl (lv_at hl 1 rfl) ?_
        refine lv_iconst (v := 2) S.1 S.2.1 d_Mo_ink_15 (by decide) ?_
        refine lv_icmp_ne (tgt := 30) S.1 S.2.1 d_Mo_ink_16 (by decide) (fun c_16 => ?_) (fun c_16 => ?_)
        · refine lv_iload_n S.1 S.2.1 d_Mo_ink_30 rfl (lv_at hl 1 rfl) ?_
          refine lv_iconst (v := 3) S.1 S.2.1 d_Mo_ink_31 (by decide) ?_
          refine lv_icmp_ne (tgt := 50) S.1 S.2.1 d_Mo_ink_32 (by decide) (fun c_32 => ?_) (fun c_32 => ?_)
          · refine lv_iconst (v := 0) S.1 S.2.1 d_Mo_ink_50 (by decide) ?_
            exact J _ (q_is_f (by simp only [z_lt, z_le, z_eq, z_0, z_1, zk2, zk3, zk6, zk100] at c_6 c_11 c_16 c_32 ⊢; omega))
          · refine lv_iload_n S.1 S.2.1 d_Mo_ink_35 rfl (lv_at hl 2 rfl) ?_
            refine lv_iconst (v := 1) S.1 S.2.1 d_Mo_ink_36 (by decide) ?_
            refine lv_icmp_lt (tgt := 50) S.1 S.2.1 d_Mo_ink_37 (by decide) (fun c_37 => ?_) (fun c_37 => ?_)
            · refine lv_iconst (v := 0) S.1 S.2.1 d_Mo_ink_50 (by decide) ?_
              exact J _ (q_is_f (by simp only [z_lt, z_le, z_eq, z_0, z_1, zk2, zk3, zk6, zk100] at c_6 c_11 c_16 c_32 c_37 ⊢; omega))
            · refine lv_iload_n S.1 S.2.1 d_Mo_ink_40 rfl (lv_at hl 2 rfl) ?_
              refine lv_bipush (v := 6) S.1 S.2.1 d_Mo_ink_41 (by decide) ?_
              refine lv_icmp_gt (tgt := 50) S.1 S.2.1 d_Mo_ink_43 (by decide) (fun c_43 => ?_) (fun c_43 => ?_)
              · refine lv_iconst (v := 0) S.1 S.2.1 d_Mo_ink_50 (by decide) ?_
                exact J _ (q_is_f (by simp only [z_lt, z_le, z_eq, z_0, z_1, zk2, zk3, zk6, zk100] at c_6 c_11 c_16 c_32 c_37 c_43 ⊢; omega))
              · refine lv_iconst (v := 1) S.1 S.2.1 d_Mo_ink_46 (by decide) ?_
                refine lv_goto (tgt := 51) S.1 S.2.1 d_Mo_ink_47 (by decide) ?_
                exact J _ (q_is_t (by simp only [z_lt, z_le, z_eq, z_0, z_1, zk2, zk3, zk6, zk100] at c_6 c_11 c_16 c_32 c_37 c_43 ⊢; omega))
        · refine lv_iload_n S.1 S.2.1 d_Mo_ink_19 rfl (lv_at hl 2 rfl) ?_
          refine lv_iconst (v := 1) S.1 S.2.1 d_Mo_ink_20 (by decide) ?_
          refine lv_icmp_lt (tgt := 30) S.1 S.2.1 d_Mo_ink_21 (by decide) (fun c_21 => ?_) (fun c_21 => ?_)
          · refine lv_iload_n S.1 S.2.1 d_Mo_ink_30 rfl (lv_at hl 1 rfl) ?_
            refine lv_iconst (v := 3) S.1 S.2.1 d_Mo_ink_31 (by decide) ?_
            refine lv_icmp_ne (tgt := 50) S.1 S.2.1 d_Mo_ink_32 (by decide) (fun c_32 => ?_) (fun c_32 => ?_)
            · refine lv_iconst (v := 0) S.1 S.2.1 d_Mo_ink_50 (by decide) ?_
              exact J _ (q_is_f (by simp only [z_lt, z_le, z_eq, z_0, z_1, zk2, zk3, zk6, zk100] at c_6 c_11 c_16 c_21 c_32 ⊢; omega))
            · refine lv_iload_n S.1 S.2.1 d_Mo_ink_35 rfl (lv_at hl 2 rfl) ?_
              refine lv_iconst (v := 1) S.1 S.2.1 d_Mo_ink_36 (by decide) ?_
              refine lv_icmp_lt (tgt := 50) S.1 S.2.1 d_Mo_ink_37 (by decide) (fun c_37 => ?_) (fun c_37 => ?_)
              · refine lv_iconst (v := 0) S.1 S.2.1 d_Mo_ink_50 (by decide) ?_
                exact J _ (q_is_f (by simp only [z_lt, z_le, z_eq, z_0, z_1, zk2, zk3, zk6, zk100] at c_6 c_11 c_16 c_21 c_32 c_37 ⊢; omega))
              · refine lv_iload_n S.1 S.2.1 d_Mo_ink_40 rfl (lv_at hl 2 rfl) ?_
                refine lv_bipush (v := 6) S.1 S.2.1 d_Mo_ink_41 (by decide) ?_
                refine lv_icmp_gt (tgt := 50) S.1 S.2.1 d_Mo_ink_43 (by decide) (fun c_43 => ?_) (fun c_43 => ?_)
                · refine lv_iconst (v := 0) S.1 S.2.1 d_Mo_ink_50 (by decide) ?_
                  exact J _ (q_is_f (by simp only [z_lt, z_le, z_eq, z_0, z_1, zk2, zk3, zk6, zk100] at c_6 c_11 c_16 c_21 c_32 c_37 c_43 ⊢; omega))
                · refine lv_iconst (v := 1) S.1 S.2.1 d_Mo_ink_46 (by decide) ?_
                  refine lv_goto (tgt := 51) S.1 S.2.1 d_Mo_ink_47 (by decide) ?_
                  exact J _ (q_is_t (by simp only [z_lt, z_le, z_eq, z_0, z_1, zk2, zk3, zk6, zk100] at c_6 c_11 c_16 c_21 c_32 c_37 c_43 ⊢; omega))
          · refine lv_iload_n S.1 S.2.1 d_Mo_ink_24 rfl (lv_at hl 2 rfl) ?_
            refine lv_bipush (v := 100) S.1 S.2.1 d_Mo_ink_25 (by decide) ?_
            refine lv_icmp_le (tgt := 46) S.1 S.2.1 d_Mo_ink_27 (by decide) (fun c_27 => ?_) (fun c_27 => ?_)
            · refine lv_iconst (v := 1) S.1 S.2.1 d_Mo_ink_46 (by decide) ?_
              refine lv_goto (tgt := 51) S.1 S.2.1 d_Mo_ink_47 (by decide) ?_
              exact J _ (q_is_t (by simp only [z_lt, z_le, z_eq, z_0, z_1, zk2, zk3, zk6, zk100] at c_6 c_11 c_16 c_21 c_27 ⊢; omega))
            · refine lv_iload_n S.1 S.2.1 d_Mo_ink_30 rfl (lv_at hl 1 rfl) ?_
              refine lv_iconst (v := 3) S.1 S.2.1 d_Mo_ink_31 (by decide) ?_
              refine lv_icmp_ne (tgt := 50) S.1 S.2.1 d_Mo_ink_32 (by decide) (fun c_32 => ?_) (fun c_32 => ?_)
              · refine lv_iconst (v := 0) S.1 S.2.1 d_Mo_ink_50 (by decide) ?_
                exact J _ (q_is_f (by simp only [z_lt, z_le, z_eq, z_0, z_1, zk2, zk3, zk6, zk100] at c_6 c_11 c_16 c_21 c_27 c_32 ⊢; omega))
              · refine lv_iload_n S.1 S.2.1 d_Mo_ink_35 rfl (lv_at hl 2 rfl) ?_
                refine lv_iconst (v := 1) S.1 S.2.1 d_Mo_ink_36 (by decide) ?_
                refine lv_icmp_lt (tgt := 50) S.1 S.2.1 d_Mo_ink_37 (by decide) (fun c_37 => ?_) (fun c_37 => ?_)
                · refine lv_iconst (v := 0) S.1 S.2.1 d_Mo_ink_50 (by decide) ?_
                  exact J _ (q_is_f (by simp only [z_lt, z_le, z_eq, z_0, z_1, zk2, zk3, zk6, zk100] at c_6 c_11 c_16 c_21 c_27 c_32 c_37 ⊢; omega))
                · refine lv_iload_n S.1 S.2.1 d_Mo_ink_40 rfl (lv_at hl 2 rfl) ?_
                  refine lv_bipush (v := 6) S.1 S.2.1 d_Mo_ink_41 (by decide) ?_
                  refine lv_icmp_gt (tgt := 50) S.1 S.2.1 d_Mo_ink_43 (by decide) (fun c_43 => ?_) (fun c_43 => ?_)
                  · refine lv_iconst (v := 0) S.1 S.2.1 d_Mo_ink_50 (by decide) ?_
                    exact J _ (q_is_f (by simp only [z_lt, z_le, z_eq, z_0, z_1, zk2, zk3, zk6, zk100] at c_6 c_11 c_16 c_21 c_27 c_32 c_37 c_43 ⊢; omega))
                  · refine lv_iconst (v := 1) S.1 S.2.1 d_Mo_ink_46 (by decide) ?_
                    refine lv_goto (tgt := 51) S.1 S.2.1 d_Mo_ink_47 (by decide) ?_
                    exact J _ (q_is_t (by simp only [z_lt, z_le, z_eq, z_0, z_1, zk2, zk3, zk6, zk100] at c_6 c_11 c_16 c_21 c_27 c_32 c_37 c_43 ⊢; omega))
  · refine lv_istore_n (lv' := [(3, .int is), (0, .ref t), (1, .int kd), (2, .int val)]) S.1 S.2.1 d_Mo_ink_51 rfl hl (by decide) rfl (fun ls hl => ?_)
    refine lv_iload_n S.1 S.2.1 d_Mo_ink_52 rfl (lv_at hl 0 rfl) ?_
    refine lv_if_eq (tgt := 75) S.1 S.2.1 d_Mo_ink_53 (by decide) (fun c_53 => ?_) (fun c_53 => ?_)
    · refine lv_iload_n S.1 S.2.1 d_Mo_ink_75 rfl (lv_at hl 0 rfl) ?_
      exact hp_retWz S hJ hr hlk d_Mo_ink_76 (by rw [e_is]; exact q_is_n) (by decide) ⟨e_is, by rw [if_neg (q_is_0.mp (e_is ▸ c_53))]; rw [eh1]; (try simp only [hp_up_up]); rfl⟩
    · refine lv_aload_n S.1 S.2.1 d_Mo_ink_56 rfl (lv_at hl 1 rfl) ?_
      refine lv_iload_n S.1 S.2.1 d_Mo_ink_57 rfl (lv_at hl 2 rfl) ?_
      refine hp_put S zz hJ h_t fp_Mo_51 rfl rfl (nl rfl) d_Mo_ink_58 (fun H locs hJ => ?_)
      obtain ⟨h2, eh2⟩ : ∃ z, z = hp_up h1 t (.inr (7, [.int 0, .int (mf 1), .int (mf 2), .int (mf 3), .ref sh, .int (mf 5), .ref ac, .ref dn, .ref fr, .ref sp, .int (mf 10), .ref dt, .int (mf 12), .int (mf 13), .int kd, .int (mf 15), .int (mf 16), .int (mf 17), .int (mf 18), .int (mf 19), .int (mf 20), .int (mf 21), .int (mf 22)])) := ⟨_, rfl⟩
      have hJ := hJ.cast eh2
      have h0_t := h_t
      have h_t : h2 t = some (.inr (7, [.int 0, .int (mf 1), .int (mf 2), .int (mf 3), .ref sh, .int (mf 5), .ref ac, .ref dn, .ref fr, .ref sp, .int (mf 10), .ref dt, .int (mf 12), .int (mf 13), .int kd, .int (mf 15), .int (mf 16), .int (mf 17), .int (mf 18), .int (mf 19), .int (mf 20), .int (mf 21), .int (mf 22)])) := by rw [eh2]; exact hp_up_s _ _ _
      refine lv_aload_n S.1 S.2.1 d_Mo_ink_61 rfl (lv_at hl 1 rfl) ?_
      refine hp_cut (fun v => v = (if kd < 2 then 0 else val)) 72 [.ref t] (fun J => ?_) (fun vv e_vv => ?_)
      · refine lv_iload_n S.1 S.2.1 d_Mo_ink_62 rfl (lv_at hl 2 rfl) ?_
        refine lv_iconst (v := 2) S.1 S.2.1 d_Mo_ink_63 (by decide) ?_
        refine lv_icmp_ge (tgt := 71) S.1 S.2.1 d_Mo_ink_64 (by decide) (fun c_64 => ?_) (fun c_64 => ?_)
        · refine lv_iload_n S.1 S.2.1 d_Mo_ink_71 rfl (lv_at hl 3 rfl) ?_
          exact J _ ((if_neg (fun q => absurd (z_lt.mp q) (Int.not_lt.mpr (z_le.mp c_64)))).symm)
        · refine lv_iconst (v := 0) S.1 S.2.1 d_Mo_ink_67 (by decide) ?_
          refine lv_goto (tgt := 72) S.1 S.2.1 d_Mo_ink_68 (by decide) ?_
          exact J _ ((if_pos (by simp only [z_lt, z_le] at c_64 ⊢; omega)).symm)
      · subst e_vv
        refine hp_put S zz hJ h_t fp_Mo_58 rfl rfl (nl rfl) d_Mo_ink_72 (fun H locs hJ => ?_)
        obtain ⟨h3, eh3⟩ : ∃ z, z = hp_up h2 t (.inr (7, [.int 0, .int (mf 1), .int (mf 2), .int (mf 3), .ref sh, .int (mf 5), .ref ac, .ref dn, .ref fr, .ref sp, .int (mf 10), .ref dt, .int (mf 12), .int (mf 13), .int kd, .int (if kd < 2 then 0 else val), .int (mf 16), .int (mf 17), .int (mf 18), .int (mf 19), .int (mf 20), .int (mf 21), .int (mf 22)])) := ⟨_, rfl⟩
        have hJ := hJ.cast eh3
        have h0_t := h_t
        have h_t : h3 t = some (.inr (7, [.int 0, .int (mf 1), .int (mf 2), .int (mf 3), .ref sh, .int (mf 5), .ref ac, .ref dn, .ref fr, .ref sp, .int (mf 10), .ref dt, .int (mf 12), .int (mf 13), .int kd, .int (if kd < 2 then 0 else val), .int (mf 16), .int (mf 17), .int (mf 18), .int (mf 19), .int (mf 20), .int (mf 21), .int (mf 22)])) := by rw [eh3]; exact hp_up_s _ _ _
        refine lv_iload_n S.1 S.2.1 d_Mo_ink_75 rfl (lv_at hl 0 rfl) ?_
        exact hp_retWz S hJ hr hlk d_Mo_ink_76 (by rw [e_is]; exact q_is_n) (by decide) ⟨e_is, by rw [if_pos (q_is_ne.mp (e_is ▸ c_53))]; rw [eh3, eh2, eh1]; (try simp only [hp_up_up]); rfl⟩

set_option maxHeartbeats 4000000 in
set_option maxRecDepth 100000 in
theorem c_Mo_line (l : Launch) (dC : Nat → ClassId) (dI : Nat → Nat → Nat) (cA : Nat → ClassId) (A : Nat → Prop) (h : hp_T) (t sh ac dn fr sp dt : Nat) (mf : Nat → Int32) (n : Nat) (f : Nat → Int64) (y k : Int32) (h_t : h t = some (k_Mo mf sh ac dn fr sp dt)) (h_sh : h sh = some (k_lo (cA 1) n f)) (hix : 0 ≤ y ∧ y < mf 2 ∧ 0 ≤ k ∧ k ≤ 79 → vp_in (80 * y + k) n) : Met l y_Mo_line (.code y_Mo_line prog_9_method_27_code 3 (some .long) :: BIG) ({ frames := 0, cells := 0, slots := 0, locals := 0 }) (va_Pc [.ref t, .int y, .int k] (hp_I (gg dC dI cA) A h)) (hp_QW (gg dC dI cA) A hp_ml (fun r h' => r = (if 0 ≤ y ∧ y < mf 2 ∧ 0 ≤ k ∧ k ≤ 79 then f (80 * y + k).toNatClampNeg else 0) ∧ h' = hp_up h t (k_Mo (upd mf 0 0) sh ac dn fr sp dt))) 0 0 A := by
  refine hp_enter (by decide) (Nat.le_of_ble_eq_true rfl) ?_
  intro p e s m below meth c ls S hr hlk hin hI hl
  have hl : lv_has ls 3 [(0, .ref t), (1, .int y), (2, .int k)] := hl
  have hJ := hI.J
  refine lv_aload_n S.1 S.2.1 d_Mo_line_0 rfl (lv_at hl 0 rfl) ?_
  refine lv_iconst (v := 0) S.1 S.2.1 d_Mo_line_1 (by decide) ?_
  refine hp_put S zz hJ h_t fp_Mo_46 rfl rfl (nl rfl) d_Mo_line_2 (fun H locs hJ => ?_)
  obtain ⟨h1, eh1⟩ : ∃ z, z = hp_up h t (.inr (7, [.int 0, .int (mf 1), .int (mf 2), .int (mf 3), .ref sh, .int (mf 5), .ref ac, .ref dn, .ref fr, .ref sp, .int (mf 10), .ref dt, .int (mf 12), .int (mf 13), .int (mf 14), .int (mf 15), .int (mf 16), .int (mf 17), .int (mf 18), .int (mf 19), .int (mf 20), .int (mf 21), .int (mf 22)])) := ⟨_, rfl⟩
  have hJ := hJ.cast eh1
  have h0_t := h_t
  have h_sh : h1 sh = some (k_lo (cA 1) n f) := by rw [eh1]; exact hp_up_k (hp_ne h_sh h0_t (show ((2, 0) : Nat × Nat) ≠ (0, 7) by decide)) h_sh
  have h_t : h1 t = some (.inr (7, [.int 0, .int (mf 1), .int (mf 2), .int (mf 3), .ref sh, .int (mf 5), .ref ac, .ref dn, .ref fr, .ref sp, .int (mf 10), .ref dt, .int (mf 12), .int (mf 13), .int (mf 14), .int (mf 15), .int (mf 16), .int (mf 17), .int (mf 18), .int (mf 19), .int (mf 20), .int (mf 21), .int (mf 22)])) := by rw [eh1]; exact hp_up_s _ _ _
  refine lv_iload_n S.1 S.2.1 d_Mo_line_5 rfl (lv_at hl 1 rfl) ?_
  refine lv_if_lt (tgt := 27) S.1 S.2.1 d_Mo_line_6 (by decide) (fun c_6 => ?_) (fun c_6 => ?_)
  · refine lv_lconst (v := 0) S.1 S.2.1 d_Mo_line_27 (by decide) ?_
    refine lv_goto (tgt := 42) S.1 S.2.1 d_Mo_line_28 (by decide) ?_
    exact hp_retWl S hJ hr hlk d_Mo_line_42 (by decide) ⟨(if_neg (by simp only [z_lt, z_le, z_0] at c_6 ⊢; omega)).symm, by rw [eh1]; (try simp only [hp_up_up]); rfl⟩
  · refine lv_iload_n S.1 S.2.1 d_Mo_line_9 rfl (lv_at hl 1 rfl) ?_
    refine lv_aload_n S.1 S.2.1 d_Mo_line_10 rfl (lv_at hl 0 rfl) ?_
    refine hp_get S zz hJ h_t f_Mo_31 rfl d_Mo_line_11 ?_
    refine lv_icmp_ge (tgt := 27) S.1 S.2.1 d_Mo_line_14 (by decide) (fun c_14 => ?_) (fun c_14 => ?_)
    · refine lv_lconst (v := 0) S.1 S.2.1 d_Mo_line_27 (by decide) ?_
      refine lv_goto (tgt := 42) S.1 S.2.1 d_Mo_line_28 (by decide) ?_
      exact hp_retWl S hJ hr hlk d_Mo_line_42 (by decide) ⟨(if_neg (by simp only [z_lt, z_le, z_0] at c_6 c_14 ⊢; omega)).symm, by rw [eh1]; (try simp only [hp_up_up]); rfl⟩
    · refine lv_iload_n S.1 S.2.1 d_Mo_line_17 rfl (lv_at hl 2 rfl) ?_
      refine lv_if_lt (tgt := 27) S.1 S.2.1 d_Mo_line_18 (by decide) (fun c_18 => ?_) (fun c_18 => ?_)
      · refine lv_lconst (v := 0) S.1 S.2.1 d_Mo_line_27 (by decide) ?_
        refine lv_goto (tgt := 42) S.1 S.2.1 d_Mo_line_28 (by decide) ?_
        exact hp_retWl S hJ hr hlk d_Mo_line_42 (by decide) ⟨(if_neg (by simp only [z_lt, z_le, z_0] at c_6 c_14 c_18 ⊢; omega)).symm, by rw [eh1]; (try simp only [hp_up_up]); rfl⟩
      · refine lv_iload_n S.1 S.2.1 d_Mo_line_21 rfl (lv_at hl 2 rfl) ?_
        refine lv_bipush (v := 79) S.1 S.2.1 d_Mo_line_22 (by decide) ?_
        refine lv_icmp_le (tgt := 31) S.1 S.2.1 d_Mo_line_24 (by decide) (fun c_24 => ?_) (fun c_24 => ?_)
        · refine lv_aload_n S.1 S.2.1 d_Mo_line_31 rfl (lv_at hl 0 rfl) ?_
          refine hp_get S zz hJ h_t f_Mo_37 rfl d_Mo_line_32 ?_
          refine lv_bipush (v := 80) S.1 S.2.1 d_Mo_line_35 (by decide) ?_
          refine lv_iload_n S.1 S.2.1 d_Mo_line_37 rfl (lv_at hl 1 rfl) ?_
          refine lv_imul S.1 S.2.1 d_Mo_line_38 ?_
          refine lv_iload_n S.1 S.2.1 d_Mo_line_39 rfl (lv_at hl 2 rfl) ?_
          refine lv_iadd S.1 S.2.1 d_Mo_line_40 ?_
          have hq : 0 ≤ y ∧ y < mf 2 ∧ 0 ≤ k ∧ k ≤ 79 := by simp only [z_lt, z_le, z_0] at c_6 c_14 c_18 c_24 ⊢; omega
          refine hp_lald S hJ 1 h_sh rfl (hix hq) d_Mo_line_41 ?_
          exact hp_retWl S hJ hr hlk d_Mo_line_42 (by decide) ⟨(if_pos hq).symm, by rw [eh1]; (try simp only [hp_up_up]); rfl⟩
        · refine lv_lconst (v := 0) S.1 S.2.1 d_Mo_line_27 (by decide) ?_
          refine lv_goto (tgt := 42) S.1 S.2.1 d_Mo_line_28 (by decide) ?_
          exact hp_retWl S hJ hr hlk d_Mo_line_42 (by decide) ⟨(if_neg (by simp only [z_lt, z_le, z_0] at c_6 c_14 c_18 c_24 ⊢; omega)).symm, by rw [eh1]; (try simp only [hp_up_up]); rfl⟩

