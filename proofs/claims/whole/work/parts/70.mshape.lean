/-! The reference's shapes. -/
def q_shc (mf : Nat → Int32) (w hgt : Int32) : Int32 := if w < 1 ∨ 128 < w ∨ hgt < 1 ∨ 128 < hgt then 1 else if mf 5 = 64 ∨ 4096 < mf 10 + hgt then 2 else 0
def q_zr (f : Nat → Int64) (lo k : Nat) : Nat → Int64 := fun i => if lo ≤ i ∧ i < lo + k then 0 else f i
theorem q_zr_0 (f : Nat → Int64) (lo : Nat) : q_zr f lo 0 = f := by
  funext i
  unfold q_zr
  rw [if_neg (by omega)]
theorem q_zr_s (f : Nat → Int64) (lo k : Nat) : vp_updL (q_zr f lo k) (lo + k) 0 = q_zr f lo (k + 1) := by
  funext i
  unfold vp_updL q_zr
  by_cases h : i = lo + k
  · rw [if_pos h, if_pos (by omega)]
  · rw [if_neg h]
    by_cases h2 : lo ≤ i ∧ i < lo + k
    · rw [if_pos h2, if_pos (by omega)]
    · rw [if_neg h2, if_neg (by omega)]
theorem q_shc_c (mf : Nat → Int32) (w hgt : Int32) : q_shc mf w hgt = 1 ∨ q_shc mf w hgt = 2 ∨ q_shc mf w hgt = 0 := by
  unfold q_shc
  split
  · exact Or.inl rfl
  · split
    · exact Or.inr (Or.inl rfl)
    · exact Or.inr (Or.inr rfl)
theorem z_4096 : (4096 : Int32).toInt = 4096 := rfl
theorem z_128 : (128 : Int32).toInt = 128 := rfl

set_option maxHeartbeats 4000000 in
set_option maxRecDepth 100000 in
theorem cF_Mo_shape (l : Launch) (dC : Nat → ClassId) (dI : Nat → Nat → Nat) (cA : Nat → ClassId) (A : Nat → Prop) (h : hp_T) (t sh ac dn fr sp dt : Nat) (mf : Nat → Int32) (w hgt : Int32) (h_t : h t = some (k_Mo mf sh ac dn fr sp dt)) (hF : ¬ q_shc mf w hgt = 0) : Met l y_Mo_shape (.code y_Mo_shape prog_9_method_11_code 4 (some .int) :: BIG) ({ frames := 0, cells := 0, slots := 0, locals := 0 }) (va_Pc [.ref t, .int w, .int hgt] (hp_I (gg dC dI cA) A h)) (hp_QW (gg dC dI cA) A hp_mi (fun r h' => r = 0 ∧ h' = hp_up h t (k_Mo (upd mf 0 (q_shc mf w hgt)) sh ac dn fr sp dt))) 0 0 A := by
  refine hp_enter (by decide) (Nat.le_of_ble_eq_true rfl) ?_
  intro p e s m below meth c ls S hr hlk hin hI hl
  have hl : lv_has ls 4 [(0, .ref t), (1, .int w), (2, .int hgt)] := hl
  have hJ := hI.J
  refine lv_aload_n S.1 S.2.1 d_Mo_shape_0 rfl (lv_at hl 0 rfl) ?_
  refine hp_cut (fun v => v = q_shc mf w hgt) 55 [.ref t] (fun J => ?_) (fun th e_th => ?_)
  · refine lv_iload_n S.1 S.2.1 d_Mo_shape_1 rfl (lv_at hl 1 rfl) ?_
    refine lv_iconst (v := 1) S.1 S.2.1 d_Mo_shape_2 (by decide) ?_
    refine lv_icmp_lt (tgt := 25) S.1 S.2.1 d_Mo_shape_3 (by decide) (fun c_3 => ?_) (fun c_3 => ?_)
    · refine lv_iconst (v := 1) S.1 S.2.1 d_Mo_shape_25 (by decide) ?_
      refine lv_goto (tgt := 55) S.1 S.2.1 d_Mo_shape_26 (by decide) ?_
      exact J _ (by unfold q_shc; rw [if_pos (by simp only [z_lt, z_le] at c_3 ⊢; omega)])
    · refine lv_iload_n S.1 S.2.1 d_Mo_shape_6 rfl (lv_at hl 1 rfl) ?_
      refine lv_sipush (v := 128) S.1 S.2.1 d_Mo_shape_7 (by decide) ?_
      refine lv_icmp_gt (tgt := 25) S.1 S.2.1 d_Mo_shape_10 (by decide) (fun c_10 => ?_) (fun c_10 => ?_)
      · refine lv_iconst (v := 1) S.1 S.2.1 d_Mo_shape_25 (by decide) ?_
        refine lv_goto (tgt := 55) S.1 S.2.1 d_Mo_shape_26 (by decide) ?_
        exact J _ (by unfold q_shc; rw [if_pos (by simp only [z_lt, z_le] at c_3 c_10 ⊢; omega)])
      · refine lv_iload_n S.1 S.2.1 d_Mo_shape_13 rfl (lv_at hl 2 rfl) ?_
        refine lv_iconst (v := 1) S.1 S.2.1 d_Mo_shape_14 (by decide) ?_
        refine lv_icmp_lt (tgt := 25) S.1 S.2.1 d_Mo_shape_15 (by decide) (fun c_15 => ?_) (fun c_15 => ?_)
        · refine lv_iconst (v := 1) S.1 S.2.1 d_Mo_shape_25 (by decide) ?_
          refine lv_goto (tgt := 55) S.1 S.2.1 d_Mo_shape_26 (by decide) ?_
          exact J _ (by unfold q_shc; rw [if_pos (by simp only [z_lt, z_le] at c_3 c_10 c_15 ⊢; omega)])
        · refine lv_iload_n S.1 S.2.1 d_Mo_shape_18 rfl (lv_at hl 2 rfl) ?_
          refine lv_sipush (v := 128) S.1 S.2.1 d_Mo_shape_19 (by decide) ?_
          refine lv_icmp_le (tgt := 29) S.1 S.2.1 d_Mo_shape_22 (by decide) (fun c_22 => ?_) (fun c_22 => ?_)
          · refine lv_aload_n S.1 S.2.1 d_Mo_shape_29 rfl (lv_at hl 0 rfl) ?_
            refine hp_get S zz hJ h_t f_Mo_95 rfl d_Mo_shape_30 ?_
            refine lv_bipush (v := 64) S.1 S.2.1 d_Mo_shape_33 (by decide) ?_
            refine lv_icmp_eq (tgt := 50) S.1 S.2.1 d_Mo_shape_35 (by decide) (fun c_35 => ?_) (fun c_35 => ?_)
            · refine lv_iconst (v := 2) S.1 S.2.1 d_Mo_shape_50 (by decide) ?_
              refine lv_goto (tgt := 55) S.1 S.2.1 d_Mo_shape_51 (by decide) ?_
              exact J _ (by unfold q_shc; rw [if_neg (by simp only [z_lt, z_le] at c_3 c_10 c_15 c_22 ⊢; omega), if_pos (Or.inl c_35)])
            · refine lv_aload_n S.1 S.2.1 d_Mo_shape_38 rfl (lv_at hl 0 rfl) ?_
              refine hp_get S zz hJ h_t f_Mo_98 rfl d_Mo_shape_39 ?_
              refine lv_iload_n S.1 S.2.1 d_Mo_shape_42 rfl (lv_at hl 2 rfl) ?_
              refine lv_iadd S.1 S.2.1 d_Mo_shape_43 ?_
              refine lv_sipush (v := 4096) S.1 S.2.1 d_Mo_shape_44 (by decide) ?_
              refine lv_icmp_le (tgt := 54) S.1 S.2.1 d_Mo_shape_47 (by decide) (fun c_47 => ?_) (fun c_47 => ?_)
              · refine lv_iconst (v := 0) S.1 S.2.1 d_Mo_shape_54 (by decide) ?_
                exact J _ (by unfold q_shc; rw [if_neg (by simp only [z_lt, z_le] at c_3 c_10 c_15 c_22 ⊢; omega), if_neg (fun q => q.elim c_35 (fun q2 => by simp only [z_lt, z_le] at c_47 q2; omega))])
              · refine lv_iconst (v := 2) S.1 S.2.1 d_Mo_shape_50 (by decide) ?_
                refine lv_goto (tgt := 55) S.1 S.2.1 d_Mo_shape_51 (by decide) ?_
                exact J _ (by unfold q_shc; rw [if_neg (by simp only [z_lt, z_le] at c_3 c_10 c_15 c_22 ⊢; omega), if_pos (Or.inr (by simp only [z_lt, z_le] at c_47 ⊢; omega))])
          · refine lv_iconst (v := 1) S.1 S.2.1 d_Mo_shape_25 (by decide) ?_
            refine lv_goto (tgt := 55) S.1 S.2.1 d_Mo_shape_26 (by decide) ?_
            exact J _ (by unfold q_shc; rw [if_pos (by simp only [z_lt, z_le] at c_3 c_10 c_15 c_22 ⊢; omega)])
  · subst e_th
    refine hp_put S zz hJ h_t fp_Mo_46 rfl rfl (nl rfl) d_Mo_shape_55 (fun H locs hJ => ?_)
    obtain ⟨h1, eh1⟩ : ∃ z, z = hp_up h t (.inr (7, [.int (q_shc mf w hgt), .int (mf 1), .int (mf 2), .int (mf 3), .ref sh, .int (mf 5), .ref ac, .ref dn, .ref fr, .ref sp, .int (mf 10), .ref dt, .int (mf 12), .int (mf 13), .int (mf 14), .int (mf 15), .int (mf 16), .int (mf 17), .int (mf 18), .int (mf 19), .int (mf 20), .int (mf 21), .int (mf 22)])) := ⟨_, rfl⟩
    have hJ := hJ.cast eh1
    have h0_t := h_t
    have h_t : h1 t = some (.inr (7, [.int (q_shc mf w hgt), .int (mf 1), .int (mf 2), .int (mf 3), .ref sh, .int (mf 5), .ref ac, .ref dn, .ref fr, .ref sp, .int (mf 10), .ref dt, .int (mf 12), .int (mf 13), .int (mf 14), .int (mf 15), .int (mf 16), .int (mf 17), .int (mf 18), .int (mf 19), .int (mf 20), .int (mf 21), .int (mf 22)])) := by rw [eh1]; exact hp_up_s _ _ _
    refine lv_aload_n S.1 S.2.1 d_Mo_shape_58 rfl (lv_at hl 0 rfl) ?_
    refine hp_get S zz hJ h_t f_Mo_46 rfl d_Mo_shape_59 ?_
    refine lv_if_le (tgt := 67) S.1 S.2.1 d_Mo_shape_62 (by decide) (fun q => absurd q (by rcases q_shc_c mf w hgt with z | z | z <;> first | exact absurd z hF | (show ¬ q_shc mf w hgt ≤ 0; rw [z]; decide))) (fun _ => ?_)
    refine lv_iconst (v := 0) S.1 S.2.1 d_Mo_shape_65 (by decide) ?_
    exact hp_retWi S hJ hr hlk d_Mo_shape_66 (by decide) ⟨rfl, by rw [eh1]; (try simp only [hp_up_up]); rfl⟩

set_option maxHeartbeats 4000000 in
set_option maxRecDepth 100000 in
theorem c_Mo_shape (l : Launch) (dC : Nat → ClassId) (dI : Nat → Nat → Nat) (cA : Nat → ClassId) (A : Nat → Prop) (h : hp_T) (t sh ac dn fr sp dt : Nat) (mf : Nat → Int32) (n r hg : Nat) (w : Int32) (ds : Nat → Int64) (ga gd gf gs : Nat → Int32) (h_t : h t = some (k_Mo mf sh ac dn fr sp dt)) (hF : q_shc mf w (nI hg) = 0) (hn : n < 64 ∧ mf 5 = nI n) (hr9 : r + hg ≤ 4096 ∧ mf 10 = nI r) (h_ac : h ac = some (k_in (cA 0) 64 ga)) (h_dn : h dn = some (k_in (cA 0) 64 gd)) (h_fr : h fr = some (k_in (cA 0) 64 gf)) (h_sp : h sp = some (k_in (cA 2) 64 gs)) (h_dt : h dt = some (k_lo (cA 1) 8192 ds)) (ne_ac_dn : ac ≠ dn) (ne_ac_fr : ac ≠ fr) (ne_ac_sp : ac ≠ sp) (ne_dn_fr : dn ≠ fr) (ne_dn_sp : dn ≠ sp) (ne_fr_sp : fr ≠ sp) : Met l y_Mo_shape (.code y_Mo_shape prog_9_method_11_code 4 (some .int) :: BIG) ({ frames := 0, cells := 0, slots := 0, locals := 0 }) (va_Pc [.ref t, .int w, .int (nI hg)] (hp_I (gg dC dI cA) A h)) (hp_QW (gg dC dI cA) A hp_mi (fun r9 h' => r9 = nI n ∧ h' = hp_up (hp_up (hp_up (hp_up (hp_up (hp_up h ac (k_in (cA 0) 64 (upd ga n w))) dn (k_in (cA 0) 64 (upd gd n (nI hg)))) fr (k_in (cA 0) 64 (upd gf n (nI r)))) sp (k_in (cA 2) 64 (upd gs n 0))) dt (k_lo (cA 1) 8192 (q_zr ds (2 * r) (2 * hg)))) t (k_Mo (upd (upd (upd mf 0 0) 10 (nI (r + hg))) 5 (nI (n + 1))) sh ac dn fr sp dt))) 0 0 A := by
  refine hp_enter (by decide) (Nat.le_of_ble_eq_true rfl) ?_
  intro p e s m below meth c ls S hr hlk hin hI hl
  have hl : lv_has ls 4 [(0, .ref t), (1, .int w), (2, .int (nI hg))] := hl
  have hJ := hI.J
  refine lv_aload_n S.1 S.2.1 d_Mo_shape_0 rfl (lv_at hl 0 rfl) ?_
  refine hp_cut (fun v => v = q_shc mf w (nI hg)) 55 [.ref t] (fun J => ?_) (fun th e_th => ?_)
  · refine lv_iload_n S.1 S.2.1 d_Mo_shape_1 rfl (lv_at hl 1 rfl) ?_
    refine lv_iconst (v := 1) S.1 S.2.1 d_Mo_shape_2 (by decide) ?_
    refine lv_icmp_lt (tgt := 25) S.1 S.2.1 d_Mo_shape_3 (by decide) (fun c_3 => ?_) (fun c_3 => ?_)
    · refine lv_iconst (v := 1) S.1 S.2.1 d_Mo_shape_25 (by decide) ?_
      refine lv_goto (tgt := 55) S.1 S.2.1 d_Mo_shape_26 (by decide) ?_
      exact J _ (by unfold q_shc; rw [if_pos (by simp only [z_lt, z_le] at c_3 ⊢; omega)])
    · refine lv_iload_n S.1 S.2.1 d_Mo_shape_6 rfl (lv_at hl 1 rfl) ?_
      refine lv_sipush (v := 128) S.1 S.2.1 d_Mo_shape_7 (by decide) ?_
      refine lv_icmp_gt (tgt := 25) S.1 S.2.1 d_Mo_shape_10 (by decide) (fun c_10 => ?_) (fun c_10 => ?_)
      · refine lv_iconst (v := 1) S.1 S.2.1 d_Mo_shape_25 (by decide) ?_
        refine lv_goto (tgt := 55) S.1 S.2.1 d_Mo_shape_26 (by decide) ?_
        exact J _ (by unfold q_shc; rw [if_pos (by simp only [z_lt, z_le] at c_3 c_10 ⊢; omega)])
      · refine lv_iload_n S.1 S.2.1 d_Mo_shape_13 rfl (lv_at hl 2 rfl) ?_
        refine lv_iconst (v := 1) S.1 S.2.1 d_Mo_shape_14 (by decide) ?_
        refine lv_icmp_lt (tgt := 25) S.1 S.2.1 d_Mo_shape_15 (by decide) (fun c_15 => ?_) (fun c_15 => ?_)
        · refine lv_iconst (v := 1) S.1 S.2.1 d_Mo_shape_25 (by decide) ?_
          refine lv_goto (tgt := 55) S.1 S.2.1 d_Mo_shape_26 (by decide) ?_
          exact J _ (by unfold q_shc; rw [if_pos (by simp only [z_lt, z_le] at c_3 c_10 c_15 ⊢; omega)])
        · refine lv_iload_n S.1 S.2.1 d_Mo_shape_18 rfl (lv_at hl 2 rfl) ?_
          refine lv_sipush (v := 128) S.1 S.2.1 d_Mo_shape_19 (by decide) ?_
          refine lv_icmp_le (tgt := 29) S.1 S.2.1 d_Mo_shape_22 (by decide) (fun c_22 => ?_) (fun c_22 => ?_)
          · refine lv_aload_n S.1 S.2.1 d_Mo_shape_29 rfl (lv_at hl 0 rfl) ?_
            refine hp_get S zz hJ h_t f_Mo_95 rfl d_Mo_shape_30 ?_
            refine lv_bipush (v := 64) S.1 S.2.1 d_Mo_shape_33 (by decide) ?_
            refine lv_icmp_eq (tgt := 50) S.1 S.2.1 d_Mo_shape_35 (by decide) (fun c_35 => ?_) (fun c_35 => ?_)
            · refine lv_iconst (v := 2) S.1 S.2.1 d_Mo_shape_50 (by decide) ?_
              refine lv_goto (tgt := 55) S.1 S.2.1 d_Mo_shape_51 (by decide) ?_
              exact J _ (by unfold q_shc; rw [if_neg (by simp only [z_lt, z_le] at c_3 c_10 c_15 c_22 ⊢; omega), if_pos (Or.inl c_35)])
            · refine lv_aload_n S.1 S.2.1 d_Mo_shape_38 rfl (lv_at hl 0 rfl) ?_
              refine hp_get S zz hJ h_t f_Mo_98 rfl d_Mo_shape_39 ?_
              refine lv_iload_n S.1 S.2.1 d_Mo_shape_42 rfl (lv_at hl 2 rfl) ?_
              refine lv_iadd S.1 S.2.1 d_Mo_shape_43 ?_
              refine lv_sipush (v := 4096) S.1 S.2.1 d_Mo_shape_44 (by decide) ?_
              refine lv_icmp_le (tgt := 54) S.1 S.2.1 d_Mo_shape_47 (by decide) (fun c_47 => ?_) (fun c_47 => ?_)
              · refine lv_iconst (v := 0) S.1 S.2.1 d_Mo_shape_54 (by decide) ?_
                exact J _ (by unfold q_shc; rw [if_neg (by simp only [z_lt, z_le] at c_3 c_10 c_15 c_22 ⊢; omega), if_neg (fun q => q.elim c_35 (fun q2 => by simp only [z_lt, z_le] at c_47 q2; omega))])
              · refine lv_iconst (v := 2) S.1 S.2.1 d_Mo_shape_50 (by decide) ?_
                refine lv_goto (tgt := 55) S.1 S.2.1 d_Mo_shape_51 (by decide) ?_
                exact J _ (by unfold q_shc; rw [if_neg (by simp only [z_lt, z_le] at c_3 c_10 c_15 c_22 ⊢; omega), if_pos (Or.inr (by simp only [z_lt, z_le] at c_47 ⊢; omega))])
          · refine lv_iconst (v := 1) S.1 S.2.1 d_Mo_shape_25 (by decide) ?_
            refine lv_goto (tgt := 55) S.1 S.2.1 d_Mo_shape_26 (by decide) ?_
            exact J _ (by unfold q_shc; rw [if_pos (by simp only [z_lt, z_le] at c_3 c_10 c_15 c_22 ⊢; omega)])
  · subst e_th
    rw [hF]
    refine hp_put S zz hJ h_t fp_Mo_46 rfl rfl (nl rfl) d_Mo_shape_55 (fun H locs hJ => ?_)
    obtain ⟨h1, eh1⟩ : ∃ z, z = hp_up h t (.inr (7, [.int 0, .int (mf 1), .int (mf 2), .int (mf 3), .ref sh, .int (mf 5), .ref ac, .ref dn, .ref fr, .ref sp, .int (mf 10), .ref dt, .int (mf 12), .int (mf 13), .int (mf 14), .int (mf 15), .int (mf 16), .int (mf 17), .int (mf 18), .int (mf 19), .int (mf 20), .int (mf 21), .int (mf 22)])) := ⟨_, rfl⟩
    have hJ := hJ.cast eh1
    have h0_t := h_t
    have h_ac : h1 ac = some (k_in (cA 0) 64 ga) := by rw [eh1]; exact hp_up_k (hp_ne h_ac h0_t (show ((1, 0) : Nat × Nat) ≠ (0, 7) by decide)) h_ac
    have h_dn : h1 dn = some (k_in (cA 0) 64 gd) := by rw [eh1]; exact hp_up_k (hp_ne h_dn h0_t (show ((1, 0) : Nat × Nat) ≠ (0, 7) by decide)) h_dn
    have h_fr : h1 fr = some (k_in (cA 0) 64 gf) := by rw [eh1]; exact hp_up_k (hp_ne h_fr h0_t (show ((1, 0) : Nat × Nat) ≠ (0, 7) by decide)) h_fr
    have h_sp : h1 sp = some (k_in (cA 2) 64 gs) := by rw [eh1]; exact hp_up_k (hp_ne h_sp h0_t (show ((1, 0) : Nat × Nat) ≠ (0, 7) by decide)) h_sp
    have h_dt : h1 dt = some (k_lo (cA 1) 8192 ds) := by rw [eh1]; exact hp_up_k (hp_ne h_dt h0_t (show ((2, 0) : Nat × Nat) ≠ (0, 7) by decide)) h_dt
    have h_t : h1 t = some (.inr (7, [.int 0, .int (mf 1), .int (mf 2), .int (mf 3), .ref sh, .int (mf 5), .ref ac, .ref dn, .ref fr, .ref sp, .int (mf 10), .ref dt, .int (mf 12), .int (mf 13), .int (mf 14), .int (mf 15), .int (mf 16), .int (mf 17), .int (mf 18), .int (mf 19), .int (mf 20), .int (mf 21), .int (mf 22)])) := by rw [eh1]; exact hp_up_s _ _ _
    refine lv_aload_n S.1 S.2.1 d_Mo_shape_58 rfl (lv_at hl 0 rfl) ?_
    refine hp_get S zz hJ h_t f_Mo_46 rfl d_Mo_shape_59 ?_
    refine lv_if_le (tgt := 67) S.1 S.2.1 d_Mo_shape_62 (by decide) (fun _ => ?_) (fun q => absurd (by decide) q)
    refine lv_aload_n S.1 S.2.1 d_Mo_shape_67 rfl (lv_at hl 0 rfl) ?_
    refine hp_get S zz hJ h_t f_Mo_7 rfl d_Mo_shape_68 ?_
    refine lv_aload_n S.1 S.2.1 d_Mo_shape_71 rfl (lv_at hl 0 rfl) ?_
    refine hp_get S zz hJ h_t f_Mo_95 rfl d_Mo_shape_72 ?_
    refine lv_iload_n S.1 S.2.1 d_Mo_shape_75 rfl (lv_at hl 1 rfl) ?_
    rw [hn.2]
    refine hp_iast S hJ 0 h_ac rfl (vp_in_nI hn.1 (by decide)) d_Mo_shape_76 (fun H locs hJ => ?_)
    rw [nI_clamp (by omega)] at hJ
    obtain ⟨h2, eh2⟩ : ∃ z, z = hp_up h1 ac (k_in (cA 0) 64 (upd ga n w)) := ⟨_, rfl⟩
    have hJ := hJ.cast eh2
    have h0_ac := h_ac
    have h_t : h2 t = some (.inr (7, [.int 0, .int (mf 1), .int (mf 2), .int (mf 3), .ref sh, .int (mf 5), .ref ac, .ref dn, .ref fr, .ref sp, .int (mf 10), .ref dt, .int (mf 12), .int (mf 13), .int (mf 14), .int (mf 15), .int (mf 16), .int (mf 17), .int (mf 18), .int (mf 19), .int (mf 20), .int (mf 21), .int (mf 22)])) := by rw [eh2]; exact hp_up_k (hp_ne h_t h0_ac (show ((0, 7) : Nat × Nat) ≠ (1, 0) by decide)) h_t
    have h_dn : h2 dn = some (k_in (cA 0) 64 gd) := by rw [eh2]; exact hp_up_k (Ne.symm ne_ac_dn) h_dn
    have h_fr : h2 fr = some (k_in (cA 0) 64 gf) := by rw [eh2]; exact hp_up_k (Ne.symm ne_ac_fr) h_fr
    have h_sp : h2 sp = some (k_in (cA 2) 64 gs) := by rw [eh2]; exact hp_up_k (Ne.symm ne_ac_sp) h_sp
    have h_dt : h2 dt = some (k_lo (cA 1) 8192 ds) := by rw [eh2]; exact hp_up_k (hp_ne h_dt h0_ac (show ((2, 0) : Nat × Nat) ≠ (1, 0) by decide)) h_dt
    have h_ac : h2 ac = some (k_in (cA 0) 64 (upd ga n w)) := by rw [eh2]; exact hp_up_s _ _ _
    refine lv_aload_n S.1 S.2.1 d_Mo_shape_77 rfl (lv_at hl 0 rfl) ?_
    refine hp_get S zz hJ h_t f_Mo_13 rfl d_Mo_shape_78 ?_
    refine lv_aload_n S.1 S.2.1 d_Mo_shape_81 rfl (lv_at hl 0 rfl) ?_
    refine hp_get S zz hJ h_t f_Mo_95 rfl d_Mo_shape_82 ?_
    refine lv_iload_n S.1 S.2.1 d_Mo_shape_85 rfl (lv_at hl 2 rfl) ?_
    rw [hn.2]
    refine hp_iast S hJ 0 h_dn rfl (vp_in_nI hn.1 (by decide)) d_Mo_shape_86 (fun H locs hJ => ?_)
    rw [nI_clamp (by omega)] at hJ
    obtain ⟨h3, eh3⟩ : ∃ z, z = hp_up h2 dn (k_in (cA 0) 64 (upd gd n (nI hg))) := ⟨_, rfl⟩
    have hJ := hJ.cast eh3
    have h0_dn := h_dn
    have h_t : h3 t = some (.inr (7, [.int 0, .int (mf 1), .int (mf 2), .int (mf 3), .ref sh, .int (mf 5), .ref ac, .ref dn, .ref fr, .ref sp, .int (mf 10), .ref dt, .int (mf 12), .int (mf 13), .int (mf 14), .int (mf 15), .int (mf 16), .int (mf 17), .int (mf 18), .int (mf 19), .int (mf 20), .int (mf 21), .int (mf 22)])) := by rw [eh3]; exact hp_up_k (hp_ne h_t h0_dn (show ((0, 7) : Nat × Nat) ≠ (1, 0) by decide)) h_t
    have h_ac : h3 ac = some (k_in (cA 0) 64 (upd ga n w)) := by rw [eh3]; exact hp_up_k (ne_ac_dn) h_ac
    have h_fr : h3 fr = some (k_in (cA 0) 64 gf) := by rw [eh3]; exact hp_up_k (Ne.symm ne_dn_fr) h_fr
    have h_sp : h3 sp = some (k_in (cA 2) 64 gs) := by rw [eh3]; exact hp_up_k (Ne.symm ne_dn_sp) h_sp
    have h_dt : h3 dt = some (k_lo (cA 1) 8192 ds) := by rw [eh3]; exact hp_up_k (hp_ne h_dt h0_dn (show ((2, 0) : Nat × Nat) ≠ (1, 0) by decide)) h_dt
    have h_dn : h3 dn = some (k_in (cA 0) 64 (upd gd n (nI hg))) := by rw [eh3]; exact hp_up_s _ _ _
    refine lv_aload_n S.1 S.2.1 d_Mo_shape_87 rfl (lv_at hl 0 rfl) ?_
    refine hp_get S zz hJ h_t f_Mo_16 rfl d_Mo_shape_88 ?_
    refine lv_aload_n S.1 S.2.1 d_Mo_shape_91 rfl (lv_at hl 0 rfl) ?_
    refine hp_get S zz hJ h_t f_Mo_95 rfl d_Mo_shape_92 ?_
    refine lv_aload_n S.1 S.2.1 d_Mo_shape_95 rfl (lv_at hl 0 rfl) ?_
    refine hp_get S zz hJ h_t f_Mo_98 rfl d_Mo_shape_96 ?_
    rw [hn.2, hr9.2]
    refine hp_iast S hJ 0 h_fr rfl (vp_in_nI hn.1 (by decide)) d_Mo_shape_99 (fun H locs hJ => ?_)
    rw [nI_clamp (by omega)] at hJ
    obtain ⟨h4, eh4⟩ : ∃ z, z = hp_up h3 fr (k_in (cA 0) 64 (upd gf n (nI r))) := ⟨_, rfl⟩
    have hJ := hJ.cast eh4
    have h0_fr := h_fr
    have h_t : h4 t = some (.inr (7, [.int 0, .int (mf 1), .int (mf 2), .int (mf 3), .ref sh, .int (mf 5), .ref ac, .ref dn, .ref fr, .ref sp, .int (mf 10), .ref dt, .int (mf 12), .int (mf 13), .int (mf 14), .int (mf 15), .int (mf 16), .int (mf 17), .int (mf 18), .int (mf 19), .int (mf 20), .int (mf 21), .int (mf 22)])) := by rw [eh4]; exact hp_up_k (hp_ne h_t h0_fr (show ((0, 7) : Nat × Nat) ≠ (1, 0) by decide)) h_t
    have h_ac : h4 ac = some (k_in (cA 0) 64 (upd ga n w)) := by rw [eh4]; exact hp_up_k (ne_ac_fr) h_ac
    have h_dn : h4 dn = some (k_in (cA 0) 64 (upd gd n (nI hg))) := by rw [eh4]; exact hp_up_k (ne_dn_fr) h_dn
    have h_sp : h4 sp = some (k_in (cA 2) 64 gs) := by rw [eh4]; exact hp_up_k (Ne.symm ne_fr_sp) h_sp
    have h_dt : h4 dt = some (k_lo (cA 1) 8192 ds) := by rw [eh4]; exact hp_up_k (hp_ne h_dt h0_fr (show ((2, 0) : Nat × Nat) ≠ (1, 0) by decide)) h_dt
    have h_fr : h4 fr = some (k_in (cA 0) 64 (upd gf n (nI r))) := by rw [eh4]; exact hp_up_s _ _ _
    refine lv_aload_n S.1 S.2.1 d_Mo_shape_100 rfl (lv_at hl 0 rfl) ?_
    refine hp_get S zz hJ h_t f_Mo_19 rfl d_Mo_shape_101 ?_
    refine lv_aload_n S.1 S.2.1 d_Mo_shape_104 rfl (lv_at hl 0 rfl) ?_
    refine hp_get S zz hJ h_t f_Mo_95 rfl d_Mo_shape_105 ?_
    refine lv_iconst (v := 0) S.1 S.2.1 d_Mo_shape_108 (by decide) ?_
    rw [hn.2]
    refine hp_zast S hJ 2 h_sp rfl (vp_in_nI hn.1 (by decide)) d_Mo_shape_109 (fun H locs hJ => ?_)
    rw [nI_clamp (by omega), z_nar0] at hJ
    obtain ⟨h5, eh5⟩ : ∃ z, z = hp_up h4 sp (k_in (cA 2) 64 (upd gs n 0)) := ⟨_, rfl⟩
    have hJ := hJ.cast eh5
    have h0_sp := h_sp
    have h_t : h5 t = some (.inr (7, [.int 0, .int (mf 1), .int (mf 2), .int (mf 3), .ref sh, .int (mf 5), .ref ac, .ref dn, .ref fr, .ref sp, .int (mf 10), .ref dt, .int (mf 12), .int (mf 13), .int (mf 14), .int (mf 15), .int (mf 16), .int (mf 17), .int (mf 18), .int (mf 19), .int (mf 20), .int (mf 21), .int (mf 22)])) := by rw [eh5]; exact hp_up_k (hp_ne h_t h0_sp (show ((0, 7) : Nat × Nat) ≠ (1, 0) by decide)) h_t
    have h_ac : h5 ac = some (k_in (cA 0) 64 (upd ga n w)) := by rw [eh5]; exact hp_up_k (ne_ac_sp) h_ac
    have h_dn : h5 dn = some (k_in (cA 0) 64 (upd gd n (nI hg))) := by rw [eh5]; exact hp_up_k (ne_dn_sp) h_dn
    have h_fr : h5 fr = some (k_in (cA 0) 64 (upd gf n (nI r))) := by rw [eh5]; exact hp_up_k (ne_fr_sp) h_fr
    have h_dt : h5 dt = some (k_lo (cA 1) 8192 ds) := by rw [eh5]; exact hp_up_k (hp_ne h_dt h0_sp (show ((2, 0) : Nat × Nat) ≠ (1, 0) by decide)) h_dt
    have h_sp : h5 sp = some (k_in (cA 2) 64 (upd gs n 0)) := by rw [eh5]; exact hp_up_s _ _ _
    refine lv_iconst (v := 2) S.1 S.2.1 d_Mo_shape_110 (by decide) ?_
    refine lv_aload_n S.1 S.2.1 d_Mo_shape_111 rfl (lv_at hl 0 rfl) ?_
    refine hp_get S zz hJ h_t f_Mo_98 rfl d_Mo_shape_112 ?_
    refine lv_imul S.1 S.2.1 d_Mo_shape_115 ?_
    rw [hr9.2, show (2 : Int32) * nI r = nI (2 * r + 0) from pk_mul 2 r]
    refine lv_istore_n (lv' := [(3, .int (nI (2 * r + 0))), (0, .ref t), (1, .int w), (2, .int (nI hg))]) S.1 S.2.1 d_Mo_shape_116 rfl hl (by decide) rfl (fun ls hl => ?_)
    have h_t0 := h_t
    have h_dt0 := h_dt
    have LP : ∀ (n_ k : Nat) (hc : hp_T) (H : Heap) (locs : List Loc) (ls : Array Slot), k + n_ = 2 * hg → hc = hp_up h5 dt (k_lo (cA 1) 8192 (q_zr ds (2 * r) k)) → hp_J (gg dC dI cA) A hc s H locs → lv_has ls 4 [(3, .int (nI (2 * r + k))), (0, .ref t), (1, .int w), (2, .int (nI hg))] → W p l e ({ frames := 0, cells := 0, slots := 0, locals := 0 }) s m ([.ref t, .int w, .int (nI hg)] : List Value).toArray below meth c H locs 0 0 (MQ below (hp_QW (gg dC dI cA) A hp_mi (fun r9 h' => r9 = nI n ∧ h' = hp_up (hp_up (hp_up (hp_up (hp_up (hp_up h ac (k_in (cA 0) 64 (upd ga n w))) dn (k_in (cA 0) 64 (upd gd n (nI hg)))) fr (k_in (cA 0) 64 (upd gf n (nI r)))) sp (k_in (cA 2) 64 (upd gs n 0))) dt (k_lo (cA 1) 8192 (q_zr ds (2 * r) (2 * hg)))) t (k_Mo (upd (upd (upd mf 0 0) 10 (nI (r + hg))) 5 (nI (n + 1))) sh ac dn fr sp dt))) ([.ref t, .int w, .int (nI hg)] : List Value).toArray s 0 0 A) (F0 m 117 ls []) := by
      intro n_
      induction n_ with
      | zero =>
        intro k hc H locs ls hu_ ehc hJ hl
        have h_dt : hc dt = some (k_lo (cA 1) 8192 (q_zr ds (2 * r) k)) := by rw [ehc]; exact hp_up_s _ _ _
        have h_t : hc t = some (k_Mo (upd mf 0 0) sh ac dn fr sp dt) := by rw [ehc]; exact hp_up_k (hp_ne h_t0 h_dt0 (show ((0, 7) : Nat × Nat) ≠ (2, 0) by decide)) h_t0
        refine lv_iload_n S.1 S.2.1 d_Mo_shape_117 rfl (lv_at hl 0 rfl) ?_
        refine lv_iconst (v := 2) S.1 S.2.1 d_Mo_shape_118 (by decide) ?_
        refine lv_aload_n S.1 S.2.1 d_Mo_shape_119 rfl (lv_at hl 1 rfl) ?_
        refine hp_get S zz hJ h_t f_Mo_98 rfl d_Mo_shape_120 ?_
        refine lv_iload_n S.1 S.2.1 d_Mo_shape_123 rfl (lv_at hl 3 rfl) ?_
        refine lv_iadd S.1 S.2.1 d_Mo_shape_124 ?_
        refine lv_imul S.1 S.2.1 d_Mo_shape_125 ?_
        rw [show (upd mf 0 0) 10 = mf 10 from rfl, hr9.2, nI_add, show (2 : Int32) * nI (r + hg) = nI (2 * (r + hg)) from pk_mul 2 (r + hg)]
        obtain ⟨e_n, -⟩ : k = 2 * hg ∧ True := ⟨by omega, trivial⟩
        refine lv_icmp_ge (tgt := 142) S.1 S.2.1 d_Mo_shape_126 (by decide) (fun _ => ?_) (fun q => absurd (by rw [e_n]; exact (by rw [Nat.mul_add]; exact Int32.le_refl _)) q)
        refine lv_aload_n S.1 S.2.1 d_Mo_shape_142 rfl (lv_at hl 1 rfl) ?_
        refine lv_dup S.1 S.2.1 d_Mo_shape_143 rfl ?_
        refine hp_get S zz hJ h_t f_Mo_98 rfl d_Mo_shape_144 ?_
        refine lv_iload_n S.1 S.2.1 d_Mo_shape_147 rfl (lv_at hl 3 rfl) ?_
        refine lv_iadd S.1 S.2.1 d_Mo_shape_148 ?_
        rw [show (upd mf 0 0) 10 = mf 10 from rfl, hr9.2, nI_add]
        refine hp_put S zz hJ h_t fp_Mo_98 rfl rfl (nl rfl) d_Mo_shape_149 (fun H locs hJ => ?_)
        obtain ⟨h6, eh6⟩ : ∃ z, z = hp_up hc t (.inr (7, [.int 0, .int (mf 1), .int (mf 2), .int (mf 3), .ref sh, .int (mf 5), .ref ac, .ref dn, .ref fr, .ref sp, .int (nI (r + hg)), .ref dt, .int (mf 12), .int (mf 13), .int (mf 14), .int (mf 15), .int (mf 16), .int (mf 17), .int (mf 18), .int (mf 19), .int (mf 20), .int (mf 21), .int (mf 22)])) := ⟨_, rfl⟩
        have hJ := hJ.cast eh6
        have h0_t := h_t
        have h_t : h6 t = some (.inr (7, [.int 0, .int (mf 1), .int (mf 2), .int (mf 3), .ref sh, .int (mf 5), .ref ac, .ref dn, .ref fr, .ref sp, .int (nI (r + hg)), .ref dt, .int (mf 12), .int (mf 13), .int (mf 14), .int (mf 15), .int (mf 16), .int (mf 17), .int (mf 18), .int (mf 19), .int (mf 20), .int (mf 21), .int (mf 22)])) := by rw [eh6]; exact hp_up_s _ _ _
        refine lv_aload_n S.1 S.2.1 d_Mo_shape_152 rfl (lv_at hl 1 rfl) ?_
        refine lv_dup S.1 S.2.1 d_Mo_shape_153 rfl ?_
        refine hp_get S zz hJ h_t f_Mo_95 rfl d_Mo_shape_154 ?_
        refine lv_iconst (v := 1) S.1 S.2.1 d_Mo_shape_157 (by decide) ?_
        refine lv_iadd S.1 S.2.1 d_Mo_shape_158 ?_
        rw [hn.2, show nI n + 1 = nI (n + 1) from nI_add n 1]
        refine hp_put S zz hJ h_t fp_Mo_95 rfl rfl (nl rfl) d_Mo_shape_159 (fun H locs hJ => ?_)
        obtain ⟨h7, eh7⟩ : ∃ z, z = hp_up h6 t (.inr (7, [.int 0, .int (mf 1), .int (mf 2), .int (mf 3), .ref sh, .int (nI (n + 1)), .ref ac, .ref dn, .ref fr, .ref sp, .int (nI (r + hg)), .ref dt, .int (mf 12), .int (mf 13), .int (mf 14), .int (mf 15), .int (mf 16), .int (mf 17), .int (mf 18), .int (mf 19), .int (mf 20), .int (mf 21), .int (mf 22)])) := ⟨_, rfl⟩
        have hJ := hJ.cast eh7
        have h0_t := h_t
        have h_t : h7 t = some (.inr (7, [.int 0, .int (mf 1), .int (mf 2), .int (mf 3), .ref sh, .int (nI (n + 1)), .ref ac, .ref dn, .ref fr, .ref sp, .int (nI (r + hg)), .ref dt, .int (mf 12), .int (mf 13), .int (mf 14), .int (mf 15), .int (mf 16), .int (mf 17), .int (mf 18), .int (mf 19), .int (mf 20), .int (mf 21), .int (mf 22)])) := by rw [eh7]; exact hp_up_s _ _ _
        refine lv_aload_n S.1 S.2.1 d_Mo_shape_162 rfl (lv_at hl 1 rfl) ?_
        refine hp_get S zz hJ h_t f_Mo_95 rfl d_Mo_shape_163 ?_
        refine lv_iconst (v := 1) S.1 S.2.1 d_Mo_shape_166 (by decide) ?_
        refine lv_isub S.1 S.2.1 d_Mo_shape_167 ?_
        rw [show nI (n + 1) - 1 = nI n from pk_sub (a := n + 1) (b := 1) (by omega)]
        refine hp_retWi S hJ hr hlk d_Mo_shape_168 (by decide) ⟨rfl, ?_⟩
        rw [eh7, eh6, ehc, e_n, eh5, eh4, eh3, eh2, eh1]
        funext q9
        by_cases z9 : q9 = t
        · subst z9; simp only [hp_up, if_pos]; rfl
        · simp only [hp_up, if_neg z9]
      | succ n_ ih =>
        intro k hc H locs ls hu_ ehc hJ hl
        have h_dt : hc dt = some (k_lo (cA 1) 8192 (q_zr ds (2 * r) k)) := by rw [ehc]; exact hp_up_s _ _ _
        have h_t : hc t = some (k_Mo (upd mf 0 0) sh ac dn fr sp dt) := by rw [ehc]; exact hp_up_k (hp_ne h_t0 h_dt0 (show ((0, 7) : Nat × Nat) ≠ (2, 0) by decide)) h_t0
        refine lv_iload_n S.1 S.2.1 d_Mo_shape_117 rfl (lv_at hl 0 rfl) ?_
        refine lv_iconst (v := 2) S.1 S.2.1 d_Mo_shape_118 (by decide) ?_
        refine lv_aload_n S.1 S.2.1 d_Mo_shape_119 rfl (lv_at hl 1 rfl) ?_
        refine hp_get S zz hJ h_t f_Mo_98 rfl d_Mo_shape_120 ?_
        refine lv_iload_n S.1 S.2.1 d_Mo_shape_123 rfl (lv_at hl 3 rfl) ?_
        refine lv_iadd S.1 S.2.1 d_Mo_shape_124 ?_
        refine lv_imul S.1 S.2.1 d_Mo_shape_125 ?_
        rw [show (upd mf 0 0) 10 = mf 10 from rfl, hr9.2, nI_add, show (2 : Int32) * nI (r + hg) = nI (2 * (r + hg)) from pk_mul 2 (r + hg)]
        refine lv_icmp_ge (tgt := 142) S.1 S.2.1 d_Mo_shape_126 (by decide) (fun q => absurd q (nI_ge (by omega) (by omega))) (fun _ => ?_)
        refine lv_aload_n S.1 S.2.1 d_Mo_shape_129 rfl (lv_at hl 1 rfl) ?_
        refine hp_get S zz hJ h_t f_Mo_23 rfl d_Mo_shape_130 ?_
        refine lv_iload_n S.1 S.2.1 d_Mo_shape_133 rfl (lv_at hl 0 rfl) ?_
        refine lv_lconst (v := 0) S.1 S.2.1 d_Mo_shape_134 (by decide) ?_
        refine hp_last S hJ 1 h_dt rfl (vp_in_nI (by omega) (by decide)) d_Mo_shape_135 (fun H locs hJ => ?_)
        rw [nI_clamp (by omega), q_zr_s, ehc, hp_up_up] at hJ
        refine lv_iinc (v := nI (2 * r + (k + 1))) (lv' := [(3, .int (nI (2 * r + (k + 1)))), (0, .ref t), (1, .int w), (2, .int (nI hg))]) S.1 S.2.1 d_Mo_shape_136 hl (k := 0) rfl (nI_1 _) (by decide) rfl (fun ls hl => ?_)
        refine lv_goto (tgt := 117) S.1 S.2.1 d_Mo_shape_139 (by decide) ?_
        exact ih (k + 1) _ _ _ ls (by omega) rfl hJ (lv_sub hl [0, 1, 2, 3] rfl)
    exact LP (2 * hg) 0 _ _ _ ls (by omega) (by rw [q_zr_0, hp_up_same h_dt]) hJ (lv_sub hl [0, 1, 2, 3] rfl)

