/-! The reference: draw, of. -/

set_option maxHeartbeats 4000000 in
set_option maxRecDepth 100000 in
theorem cF_Mo_draw (l : Launch) (dC : Nat → ClassId) (dI : Nat → Nat → Nat) (cA : Nat → ClassId) (A : Nat → Prop) (h : hp_T) (t sh ac dn fr sp dt : Nat) (mf : Nat → Int32) (s9 j : Int32) (left right : Int64) (gd gs : Nat → Int32) (h_t : h t = some (k_Mo mf sh ac dn fr sp dt)) (hF : ¬ ((0 ≤ s9 ∧ s9 < mf 5) ∧ 0 ≤ j ∧ j < gd s9.toNatClampNeg ∧ gs s9.toNatClampNeg = 0)) (hv : (0 ≤ s9 ∧ s9 < mf 5) → vp_in s9 64) (h_dn : h dn = some (k_in (cA 0) 64 gd)) (h_sp : h sp = some (k_in (cA 2) 64 gs)) (ne_dn_sp : dn ≠ sp) : Met l y_Mo_draw (.code y_Mo_draw prog_9_method_14_code 8 (some .boolean) :: BIG) ({ frames := 1, cells := 0, slots := 0, locals := 22 }) (va_Pc [.ref t, .int s9, .int j, .long left, .long right] (hp_I (gg dC dI cA) A h)) (hp_QW (gg dC dI cA) A hp_mi (fun r h' => r = 0 ∧ h' = hp_up h t (k_Mo (upd mf 0 0) sh ac dn fr sp dt))) 0 0 A := by
  refine hp_enter (by decide) (Nat.le_of_ble_eq_true rfl) ?_
  intro p e s m below meth c ls S hr hlk hin hI hl
  have hl : lv_has ls 8 [(0, .ref t), (1, .int s9), (2, .int j), (3, .long left), (5, .long right)] := hl
  have hJ := hI.J
  refine lv_aload_n S.1 S.2.1 d_Mo_draw_0 rfl (lv_at hl 0 rfl) ?_
  refine lv_iconst (v := 0) S.1 S.2.1 d_Mo_draw_1 (by decide) ?_
  refine hp_put S zz hJ h_t fp_Mo_46 rfl rfl (nl rfl) d_Mo_draw_2 (fun H locs hJ => ?_)
  obtain ⟨h1, eh1⟩ : ∃ z, z = hp_up h t (.inr (7, [.int 0, .int (mf 1), .int (mf 2), .int (mf 3), .ref sh, .int (mf 5), .ref ac, .ref dn, .ref fr, .ref sp, .int (mf 10), .ref dt, .int (mf 12), .int (mf 13), .int (mf 14), .int (mf 15), .int (mf 16), .int (mf 17), .int (mf 18), .int (mf 19), .int (mf 20), .int (mf 21), .int (mf 22)])) := ⟨_, rfl⟩
  have hJ := hJ.cast eh1
  have h0_t := h_t
  have h_dn : h1 dn = some (k_in (cA 0) 64 gd) := by rw [eh1]; exact hp_up_k (hp_ne h_dn h0_t (show ((1, 0) : Nat × Nat) ≠ (0, 7) by decide)) h_dn
  have h_sp : h1 sp = some (k_in (cA 2) 64 gs) := by rw [eh1]; exact hp_up_k (hp_ne h_sp h0_t (show ((1, 0) : Nat × Nat) ≠ (0, 7) by decide)) h_sp
  have h_t : h1 t = some (.inr (7, [.int 0, .int (mf 1), .int (mf 2), .int (mf 3), .ref sh, .int (mf 5), .ref ac, .ref dn, .ref fr, .ref sp, .int (mf 10), .ref dt, .int (mf 12), .int (mf 13), .int (mf 14), .int (mf 15), .int (mf 16), .int (mf 17), .int (mf 18), .int (mf 19), .int (mf 20), .int (mf 21), .int (mf 22)])) := by rw [eh1]; exact hp_up_s _ _ _
  refine lv_aload_n S.1 S.2.1 d_Mo_draw_5 rfl (lv_at hl 0 rfl) ?_
  refine lv_iload_n S.1 S.2.1 d_Mo_draw_6 rfl (lv_at hl 1 rfl) ?_
  refine hp_doneR (hp_runV S zz0 (c_Mo_isShape l dC dI cA A _ t sh ac dn fr sp dt (upd mf 0 0) _ h_t) l_Mo_101 (hJ.preV _ h_t rfl) (by decide) rfl hl.1 rfl (nl rfl) d_Mo_draw_7 (by decide)) ?_
  refine lv_if_eq (tgt := 60) S.1 S.2.1 d_Mo_draw_10 (by decide) (fun c_10 => ?_) (fun c_10 => ?_)
  · refine lv_iconst (v := 0) S.1 S.2.1 d_Mo_draw_60 (by decide) ?_
    exact hp_retWz S hJ hr hlk d_Mo_draw_61 (by decide) (by decide) ⟨rfl, by rw [eh1]; (try simp only [hp_up_up]); rfl⟩
  · refine lv_iload_n S.1 S.2.1 d_Mo_draw_13 rfl (lv_at hl 2 rfl) ?_
    refine lv_if_lt (tgt := 60) S.1 S.2.1 d_Mo_draw_14 (by decide) (fun c_14 => ?_) (fun c_14 => ?_)
    · refine lv_iconst (v := 0) S.1 S.2.1 d_Mo_draw_60 (by decide) ?_
      exact hp_retWz S hJ hr hlk d_Mo_draw_61 (by decide) (by decide) ⟨rfl, by rw [eh1]; (try simp only [hp_up_up]); rfl⟩
    · refine lv_iload_n S.1 S.2.1 d_Mo_draw_17 rfl (lv_at hl 2 rfl) ?_
      refine lv_aload_n S.1 S.2.1 d_Mo_draw_18 rfl (lv_at hl 0 rfl) ?_
      refine hp_get S zz hJ h_t f_Mo_13 rfl d_Mo_draw_19 ?_
      refine lv_aload_n S.1 S.2.1 d_Mo_draw_22 rfl (lv_at hl 0 rfl) ?_
      refine lv_iload_n S.1 S.2.1 d_Mo_draw_23 rfl (lv_at hl 1 rfl) ?_
      refine hp_doneR (hp_runV S zz0 (c_Mo_isShape l dC dI cA A _ t sh ac dn fr sp dt (upd mf 0 0) _ h_t) l_Mo_101 (hJ.preV _ h_t rfl) (by decide) rfl hl.1 rfl (nl rfl) d_Mo_draw_24 (by decide)) ?_
      refine lv_if_eq (tgt := 34) S.1 S.2.1 d_Mo_draw_27 (by decide) (fun q => absurd q c_10) (fun _ => ?_)
      refine lv_iload_n S.1 S.2.1 d_Mo_draw_30 rfl (lv_at hl 1 rfl) ?_
      refine lv_goto (tgt := 35) S.1 S.2.1 d_Mo_draw_31 (by decide) ?_
      refine hp_iald S hJ 0 h_dn rfl (hv (q_is_ne.mp c_10)) d_Mo_draw_35 ?_
      refine lv_icmp_ge (tgt := 60) S.1 S.2.1 d_Mo_draw_36 (by decide) (fun c_36 => ?_) (fun c_36 => ?_)
      · refine lv_iconst (v := 0) S.1 S.2.1 d_Mo_draw_60 (by decide) ?_
        exact hp_retWz S hJ hr hlk d_Mo_draw_61 (by decide) (by decide) ⟨rfl, by rw [eh1]; (try simp only [hp_up_up]); rfl⟩
      · refine lv_aload_n S.1 S.2.1 d_Mo_draw_39 rfl (lv_at hl 0 rfl) ?_
        refine hp_get S zz hJ h_t f_Mo_19 rfl d_Mo_draw_40 ?_
        refine lv_aload_n S.1 S.2.1 d_Mo_draw_43 rfl (lv_at hl 0 rfl) ?_
        refine lv_iload_n S.1 S.2.1 d_Mo_draw_44 rfl (lv_at hl 1 rfl) ?_
        refine hp_doneR (hp_runV S zz0 (c_Mo_isShape l dC dI cA A _ t sh ac dn fr sp dt (upd mf 0 0) _ h_t) l_Mo_101 (hJ.preV _ h_t rfl) (by decide) rfl hl.1 rfl (nl rfl) d_Mo_draw_45 (by decide)) ?_
        refine lv_if_eq (tgt := 55) S.1 S.2.1 d_Mo_draw_48 (by decide) (fun q => absurd q c_10) (fun _ => ?_)
        refine lv_iload_n S.1 S.2.1 d_Mo_draw_51 rfl (lv_at hl 1 rfl) ?_
        refine lv_goto (tgt := 56) S.1 S.2.1 d_Mo_draw_52 (by decide) ?_
        refine hp_zald S hJ 2 h_sp rfl (hv (q_is_ne.mp c_10)) d_Mo_draw_56 ?_
        refine lv_if_eq (tgt := 62) S.1 S.2.1 d_Mo_draw_57 (by decide) (fun q => absurd ⟨q_is_ne.mp c_10, by simp only [z_lt, z_le, z_0] at c_14 ⊢; omega, by simp only [z_lt, z_le] at c_36 ⊢; omega, q⟩ hF) (fun _ => ?_)
        refine lv_iconst (v := 0) S.1 S.2.1 d_Mo_draw_60 (by decide) ?_
        exact hp_retWz S hJ hr hlk d_Mo_draw_61 (by decide) (by decide) ⟨rfl, by rw [eh1]; (try simp only [hp_up_up]); rfl⟩

set_option maxHeartbeats 4000000 in
set_option maxRecDepth 100000 in
theorem c_Mo_draw (l : Launch) (dC : Nat → ClassId) (dI : Nat → Nat → Nat) (cA : Nat → ClassId) (A : Nat → Prop) (h : hp_T) (t sh ac dn fr sp dt : Nat) (mf : Nat → Int32) (ss jj r : Nat) (left right : Int64) (ds : Nat → Int64) (ga gd gf gs : Nat → Int32) (h_t : h t = some (k_Mo mf sh ac dn fr sp dt)) (hF : (0 ≤ nI ss ∧ nI ss < mf 5) ∧ 0 ≤ nI jj ∧ nI jj < gd ss ∧ gs ss = 0) (hs : ss < 64) (hr0 : gf ss = nI r) (hrj : r + jj < 4096) (h_ac : h ac = some (k_in (cA 0) 64 ga)) (h_dn : h dn = some (k_in (cA 0) 64 gd)) (h_fr : h fr = some (k_in (cA 0) 64 gf)) (h_sp : h sp = some (k_in (cA 2) 64 gs)) (h_dt : h dt = some (k_lo (cA 1) 8192 ds)) (ne_ac_dn : ac ≠ dn) (ne_ac_fr : ac ≠ fr) (ne_ac_sp : ac ≠ sp) (ne_dn_fr : dn ≠ fr) (ne_dn_sp : dn ≠ sp) (ne_fr_sp : fr ≠ sp) : Met l y_Mo_draw (.code y_Mo_draw prog_9_method_14_code 8 (some .boolean) :: BIG) ({ frames := 1, cells := 0, slots := 0, locals := 22 }) (va_Pc [.ref t, .int (nI ss), .int (nI jj), .long left, .long right] (hp_I (gg dC dI cA) A h)) (hp_QW (gg dC dI cA) A hp_mi (fun r9 h' => r9 = 1 ∧ h' = hp_up (hp_up h t (k_Mo (upd mf 0 0) sh ac dn fr sp dt)) dt (k_lo (cA 1) 8192 (vp_updL (vp_updL ds (2 * (r + jj)) (q_hi left (ga ss))) (2 * (r + jj) + 1) (q_hi right (ga ss - 64)))))) 0 0 A := by
  refine hp_enter (by decide) (Nat.le_of_ble_eq_true rfl) ?_
  intro p e s m below meth c ls S hr hlk hin hI hl
  have hl : lv_has ls 8 [(0, .ref t), (1, .int (nI ss)), (2, .int (nI jj)), (3, .long left), (5, .long right)] := hl
  have hJ := hI.J
  refine lv_aload_n S.1 S.2.1 d_Mo_draw_0 rfl (lv_at hl 0 rfl) ?_
  refine lv_iconst (v := 0) S.1 S.2.1 d_Mo_draw_1 (by decide) ?_
  refine hp_put S zz hJ h_t fp_Mo_46 rfl rfl (nl rfl) d_Mo_draw_2 (fun H locs hJ => ?_)
  obtain ⟨h1, eh1⟩ : ∃ z, z = hp_up h t (.inr (7, [.int 0, .int (mf 1), .int (mf 2), .int (mf 3), .ref sh, .int (mf 5), .ref ac, .ref dn, .ref fr, .ref sp, .int (mf 10), .ref dt, .int (mf 12), .int (mf 13), .int (mf 14), .int (mf 15), .int (mf 16), .int (mf 17), .int (mf 18), .int (mf 19), .int (mf 20), .int (mf 21), .int (mf 22)])) := ⟨_, rfl⟩
  have hJ := hJ.cast eh1
  have h0_t := h_t
  have h_ac : h1 ac = some (k_in (cA 0) 64 ga) := by rw [eh1]; exact hp_up_k (hp_ne h_ac h0_t (show ((1, 0) : Nat × Nat) ≠ (0, 7) by decide)) h_ac
  have h_dn : h1 dn = some (k_in (cA 0) 64 gd) := by rw [eh1]; exact hp_up_k (hp_ne h_dn h0_t (show ((1, 0) : Nat × Nat) ≠ (0, 7) by decide)) h_dn
  have h_fr : h1 fr = some (k_in (cA 0) 64 gf) := by rw [eh1]; exact hp_up_k (hp_ne h_fr h0_t (show ((1, 0) : Nat × Nat) ≠ (0, 7) by decide)) h_fr
  have h_sp : h1 sp = some (k_in (cA 2) 64 gs) := by rw [eh1]; exact hp_up_k (hp_ne h_sp h0_t (show ((1, 0) : Nat × Nat) ≠ (0, 7) by decide)) h_sp
  have h_dt : h1 dt = some (k_lo (cA 1) 8192 ds) := by rw [eh1]; exact hp_up_k (hp_ne h_dt h0_t (show ((2, 0) : Nat × Nat) ≠ (0, 7) by decide)) h_dt
  have h_t : h1 t = some (.inr (7, [.int 0, .int (mf 1), .int (mf 2), .int (mf 3), .ref sh, .int (mf 5), .ref ac, .ref dn, .ref fr, .ref sp, .int (mf 10), .ref dt, .int (mf 12), .int (mf 13), .int (mf 14), .int (mf 15), .int (mf 16), .int (mf 17), .int (mf 18), .int (mf 19), .int (mf 20), .int (mf 21), .int (mf 22)])) := by rw [eh1]; exact hp_up_s _ _ _
  refine lv_aload_n S.1 S.2.1 d_Mo_draw_5 rfl (lv_at hl 0 rfl) ?_
  refine lv_iload_n S.1 S.2.1 d_Mo_draw_6 rfl (lv_at hl 1 rfl) ?_
  refine hp_doneR (hp_runV S zz0 (c_Mo_isShape l dC dI cA A _ t sh ac dn fr sp dt (upd mf 0 0) _ h_t) l_Mo_101 (hJ.preV _ h_t rfl) (by decide) rfl hl.1 rfl (nl rfl) d_Mo_draw_7 (by decide)) ?_
  refine lv_if_eq (tgt := 60) S.1 S.2.1 d_Mo_draw_10 (by decide) (fun q => absurd q (q_is_ne.mpr hF.1)) (fun _ => ?_)
  refine lv_iload_n S.1 S.2.1 d_Mo_draw_13 rfl (lv_at hl 2 rfl) ?_
  refine lv_if_lt (tgt := 60) S.1 S.2.1 d_Mo_draw_14 (by decide) (fun q => absurd q (by have z := hF.2.1; simp only [z_lt, z_le, z_0] at z ⊢; omega)) (fun _ => ?_)
  refine lv_iload_n S.1 S.2.1 d_Mo_draw_17 rfl (lv_at hl 2 rfl) ?_
  refine lv_aload_n S.1 S.2.1 d_Mo_draw_18 rfl (lv_at hl 0 rfl) ?_
  refine hp_get S zz hJ h_t f_Mo_13 rfl d_Mo_draw_19 ?_
  refine lv_aload_n S.1 S.2.1 d_Mo_draw_22 rfl (lv_at hl 0 rfl) ?_
  refine lv_iload_n S.1 S.2.1 d_Mo_draw_23 rfl (lv_at hl 1 rfl) ?_
  refine hp_doneR (hp_runV S zz0 (c_Mo_isShape l dC dI cA A _ t sh ac dn fr sp dt (upd mf 0 0) _ h_t) l_Mo_101 (hJ.preV _ h_t rfl) (by decide) rfl hl.1 rfl (nl rfl) d_Mo_draw_24 (by decide)) ?_
  refine lv_if_eq (tgt := 34) S.1 S.2.1 d_Mo_draw_27 (by decide) (fun q => absurd q (q_is_ne.mpr hF.1)) (fun _ => ?_)
  refine lv_iload_n S.1 S.2.1 d_Mo_draw_30 rfl (lv_at hl 1 rfl) ?_
  refine lv_goto (tgt := 35) S.1 S.2.1 d_Mo_draw_31 (by decide) ?_
  refine hp_iald S hJ 0 h_dn rfl (vp_in_nI hs (by decide)) d_Mo_draw_35 ?_
  rw [nI_clamp (by omega)]
  refine lv_icmp_ge (tgt := 60) S.1 S.2.1 d_Mo_draw_36 (by decide) (fun q => absurd q (by have z := hF.2.2.1; simp only [z_lt, z_le] at z ⊢; omega)) (fun _ => ?_)
  refine lv_aload_n S.1 S.2.1 d_Mo_draw_39 rfl (lv_at hl 0 rfl) ?_
  refine hp_get S zz hJ h_t f_Mo_19 rfl d_Mo_draw_40 ?_
  refine lv_aload_n S.1 S.2.1 d_Mo_draw_43 rfl (lv_at hl 0 rfl) ?_
  refine lv_iload_n S.1 S.2.1 d_Mo_draw_44 rfl (lv_at hl 1 rfl) ?_
  refine hp_doneR (hp_runV S zz0 (c_Mo_isShape l dC dI cA A _ t sh ac dn fr sp dt (upd mf 0 0) _ h_t) l_Mo_101 (hJ.preV _ h_t rfl) (by decide) rfl hl.1 rfl (nl rfl) d_Mo_draw_45 (by decide)) ?_
  refine lv_if_eq (tgt := 55) S.1 S.2.1 d_Mo_draw_48 (by decide) (fun q => absurd q (q_is_ne.mpr hF.1)) (fun _ => ?_)
  refine lv_iload_n S.1 S.2.1 d_Mo_draw_51 rfl (lv_at hl 1 rfl) ?_
  refine lv_goto (tgt := 56) S.1 S.2.1 d_Mo_draw_52 (by decide) ?_
  refine hp_zald S hJ 2 h_sp rfl (vp_in_nI hs (by decide)) d_Mo_draw_56 ?_
  rw [nI_clamp (by omega)]
  refine lv_if_eq (tgt := 62) S.1 S.2.1 d_Mo_draw_57 (by decide) (fun _ => ?_) (fun q => absurd hF.2.2.2 q)
  refine lv_iconst (v := 2) S.1 S.2.1 d_Mo_draw_62 (by decide) ?_
  refine lv_aload_n S.1 S.2.1 d_Mo_draw_63 rfl (lv_at hl 0 rfl) ?_
  refine hp_get S zz hJ h_t f_Mo_16 rfl d_Mo_draw_64 ?_
  refine lv_iload_n S.1 S.2.1 d_Mo_draw_67 rfl (lv_at hl 1 rfl) ?_
  refine hp_iald S hJ 0 h_fr rfl (vp_in_nI hs (by decide)) d_Mo_draw_68 ?_
  rw [nI_clamp (by omega), hr0]
  refine lv_iload_n S.1 S.2.1 d_Mo_draw_69 rfl (lv_at hl 2 rfl) ?_
  refine lv_iadd S.1 S.2.1 d_Mo_draw_70 ?_
  refine lv_imul S.1 S.2.1 d_Mo_draw_71 ?_
  rw [nI_add, show (2 : Int32) * nI (r + jj) = nI (2 * (r + jj)) from pk_mul 2 (r + jj)]
  refine lv_istore (lv' := [(7, .int (nI (2 * (r + jj)))), (0, .ref t), (1, .int (nI ss)), (2, .int (nI jj)), (3, .long left), (5, .long right)]) S.1 S.2.1 d_Mo_draw_72 hl (by decide) rfl (fun ls hl => ?_)
  refine lv_aload_n S.1 S.2.1 d_Mo_draw_74 rfl (lv_at hl 1 rfl) ?_
  refine hp_get S zz hJ h_t f_Mo_23 rfl d_Mo_draw_75 ?_
  refine lv_iload S.1 S.2.1 d_Mo_draw_78 (lv_at hl 0 rfl) ?_
  refine lv_lload_n S.1 S.2.1 d_Mo_draw_80 rfl (lv_at hl 4 rfl) ?_
  refine lv_aload_n S.1 S.2.1 d_Mo_draw_81 rfl (lv_at hl 1 rfl) ?_
  refine hp_get S zz hJ h_t f_Mo_7 rfl d_Mo_draw_82 ?_
  refine lv_iload_n S.1 S.2.1 d_Mo_draw_85 rfl (lv_at hl 2 rfl) ?_
  refine hp_iald S hJ 0 h_ac rfl (vp_in_nI hs (by decide)) d_Mo_draw_86 ?_
  rw [nI_clamp (by omega)]
  refine hp_doneR (hp_runS S zz0 (c_Mo_highest l _ _) l_Mo_105 (hp_pre0 _) (by decide) rfl hl.1 rfl (nl rfl) d_Mo_draw_87 (by decide)) ?_
  refine hp_last S hJ 1 h_dt rfl (vp_in_nI (by omega) (by decide)) d_Mo_draw_90 (fun H locs hJ => ?_)
  rw [nI_clamp (by omega)] at hJ
  obtain ⟨h2, eh2⟩ : ∃ z, z = hp_up h1 dt (k_lo (cA 1) 8192 (vp_updL ds (2 * (r + jj)) (q_hi left (ga ss)))) := ⟨_, rfl⟩
  have hJ := hJ.cast eh2
  have h0_dt := h_dt
  have h_t : h2 t = some (.inr (7, [.int 0, .int (mf 1), .int (mf 2), .int (mf 3), .ref sh, .int (mf 5), .ref ac, .ref dn, .ref fr, .ref sp, .int (mf 10), .ref dt, .int (mf 12), .int (mf 13), .int (mf 14), .int (mf 15), .int (mf 16), .int (mf 17), .int (mf 18), .int (mf 19), .int (mf 20), .int (mf 21), .int (mf 22)])) := by rw [eh2]; exact hp_up_k (hp_ne h_t h0_dt (show ((0, 7) : Nat × Nat) ≠ (2, 0) by decide)) h_t
  have h_ac : h2 ac = some (k_in (cA 0) 64 ga) := by rw [eh2]; exact hp_up_k (hp_ne h_ac h0_dt (show ((1, 0) : Nat × Nat) ≠ (2, 0) by decide)) h_ac
  have h_dn : h2 dn = some (k_in (cA 0) 64 gd) := by rw [eh2]; exact hp_up_k (hp_ne h_dn h0_dt (show ((1, 0) : Nat × Nat) ≠ (2, 0) by decide)) h_dn
  have h_fr : h2 fr = some (k_in (cA 0) 64 gf) := by rw [eh2]; exact hp_up_k (hp_ne h_fr h0_dt (show ((1, 0) : Nat × Nat) ≠ (2, 0) by decide)) h_fr
  have h_sp : h2 sp = some (k_in (cA 2) 64 gs) := by rw [eh2]; exact hp_up_k (hp_ne h_sp h0_dt (show ((1, 0) : Nat × Nat) ≠ (2, 0) by decide)) h_sp
  have h_dt : h2 dt = some (k_lo (cA 1) 8192 (vp_updL ds (2 * (r + jj)) (q_hi left (ga ss)))) := by rw [eh2]; exact hp_up_s _ _ _
  refine lv_aload_n S.1 S.2.1 d_Mo_draw_91 rfl (lv_at hl 1 rfl) ?_
  refine hp_get S zz hJ h_t f_Mo_23 rfl d_Mo_draw_92 ?_
  refine lv_iload S.1 S.2.1 d_Mo_draw_95 (lv_at hl 0 rfl) ?_
  refine lv_iconst (v := 1) S.1 S.2.1 d_Mo_draw_97 (by decide) ?_
  refine lv_iadd S.1 S.2.1 d_Mo_draw_98 ?_
  rw [show nI (2 * (r + jj)) + 1 = nI (2 * (r + jj) + 1) from nI_add _ 1]
  refine lv_lload S.1 S.2.1 d_Mo_draw_99 (lv_at hl 5 rfl) ?_
  refine lv_aload_n S.1 S.2.1 d_Mo_draw_101 rfl (lv_at hl 1 rfl) ?_
  refine hp_get S zz hJ h_t f_Mo_7 rfl d_Mo_draw_102 ?_
  refine lv_iload_n S.1 S.2.1 d_Mo_draw_105 rfl (lv_at hl 2 rfl) ?_
  refine hp_iald S hJ 0 h_ac rfl (vp_in_nI hs (by decide)) d_Mo_draw_106 ?_
  rw [nI_clamp (by omega)]
  refine lv_bipush (v := 64) S.1 S.2.1 d_Mo_draw_107 (by decide) ?_
  refine lv_isub S.1 S.2.1 d_Mo_draw_109 ?_
  refine hp_doneR (hp_runS S zz0 (c_Mo_highest l _ _) l_Mo_105 (hp_pre0 _) (by decide) rfl hl.1 rfl (nl rfl) d_Mo_draw_110 (by decide)) ?_
  refine hp_last S hJ 1 h_dt rfl (vp_in_nI (by omega) (by decide)) d_Mo_draw_113 (fun H locs hJ => ?_)
  rw [nI_clamp (by omega)] at hJ
  obtain ⟨h3, eh3⟩ : ∃ z, z = hp_up h2 dt (k_lo (cA 1) 8192 (vp_updL (vp_updL ds (2 * (r + jj)) (q_hi left (ga ss))) (2 * (r + jj) + 1) (q_hi right (ga ss - 64)))) := ⟨_, rfl⟩
  have hJ := hJ.cast eh3
  have h0_dt := h_dt
  have h_t : h3 t = some (.inr (7, [.int 0, .int (mf 1), .int (mf 2), .int (mf 3), .ref sh, .int (mf 5), .ref ac, .ref dn, .ref fr, .ref sp, .int (mf 10), .ref dt, .int (mf 12), .int (mf 13), .int (mf 14), .int (mf 15), .int (mf 16), .int (mf 17), .int (mf 18), .int (mf 19), .int (mf 20), .int (mf 21), .int (mf 22)])) := by rw [eh3]; exact hp_up_k (hp_ne h_t h0_dt (show ((0, 7) : Nat × Nat) ≠ (2, 0) by decide)) h_t
  have h_ac : h3 ac = some (k_in (cA 0) 64 ga) := by rw [eh3]; exact hp_up_k (hp_ne h_ac h0_dt (show ((1, 0) : Nat × Nat) ≠ (2, 0) by decide)) h_ac
  have h_dn : h3 dn = some (k_in (cA 0) 64 gd) := by rw [eh3]; exact hp_up_k (hp_ne h_dn h0_dt (show ((1, 0) : Nat × Nat) ≠ (2, 0) by decide)) h_dn
  have h_fr : h3 fr = some (k_in (cA 0) 64 gf) := by rw [eh3]; exact hp_up_k (hp_ne h_fr h0_dt (show ((1, 0) : Nat × Nat) ≠ (2, 0) by decide)) h_fr
  have h_sp : h3 sp = some (k_in (cA 2) 64 gs) := by rw [eh3]; exact hp_up_k (hp_ne h_sp h0_dt (show ((1, 0) : Nat × Nat) ≠ (2, 0) by decide)) h_sp
  have h_dt : h3 dt = some (k_lo (cA 1) 8192 (vp_updL (vp_updL ds (2 * (r + jj)) (q_hi left (ga ss))) (2 * (r + jj) + 1) (q_hi right (ga ss - 64)))) := by rw [eh3]; exact hp_up_s _ _ _
  refine lv_iconst (v := 1) S.1 S.2.1 d_Mo_draw_114 (by decide) ?_
  exact hp_retWz S hJ hr hlk d_Mo_draw_115 (by decide) (by decide) ⟨rfl, by rw [eh3, eh2, eh1]; (try simp only [hp_up_up]); rfl⟩

set_option maxHeartbeats 4000000 in
set_option maxRecDepth 100000 in
theorem cF_Mo_of (l : Launch) (dC : Nat → ClassId) (dI : Nat → Nat → Nat) (cA : Nat → ClassId) (A : Nat → Prop) (h : hp_T) (t sh ac dn fr sp dt : Nat) (mf : Nat → Int32) (s9 w : Int32) (h_t : h t = some (k_Mo mf sh ac dn fr sp dt)) (hF : ¬ ((0 ≤ s9 ∧ s9 < mf 5) ∧ 0 ≤ w ∧ w ≤ 3)) : Met l y_Mo_of (.code y_Mo_of prog_9_method_33_code 5 (some .int) :: BIG) ({ frames := 1, cells := 0, slots := 0, locals := 24 }) (va_Pc [.ref t, .int s9, .int w] (hp_I (gg dC dI cA) A h)) (hp_QW (gg dC dI cA) A hp_mi (fun r h' => r = -1 ∧ h' = hp_up h t (k_Mo (upd mf 0 0) sh ac dn fr sp dt))) 0 0 A := by
  refine hp_enter (by decide) (Nat.le_of_ble_eq_true rfl) ?_
  intro p e s m below meth c ls S hr hlk hin hI hl
  have hl : lv_has ls 5 [(0, .ref t), (1, .int s9), (2, .int w)] := hl
  have hJ := hI.J
  refine lv_aload_n S.1 S.2.1 d_Mo_of_0 rfl (lv_at hl 0 rfl) ?_
  refine lv_iconst (v := 0) S.1 S.2.1 d_Mo_of_1 (by decide) ?_
  refine hp_put S zz hJ h_t fp_Mo_46 rfl rfl (nl rfl) d_Mo_of_2 (fun H locs hJ => ?_)
  obtain ⟨h1, eh1⟩ : ∃ z, z = hp_up h t (.inr (7, [.int 0, .int (mf 1), .int (mf 2), .int (mf 3), .ref sh, .int (mf 5), .ref ac, .ref dn, .ref fr, .ref sp, .int (mf 10), .ref dt, .int (mf 12), .int (mf 13), .int (mf 14), .int (mf 15), .int (mf 16), .int (mf 17), .int (mf 18), .int (mf 19), .int (mf 20), .int (mf 21), .int (mf 22)])) := ⟨_, rfl⟩
  have hJ := hJ.cast eh1
  have h0_t := h_t
  have h_t : h1 t = some (.inr (7, [.int 0, .int (mf 1), .int (mf 2), .int (mf 3), .ref sh, .int (mf 5), .ref ac, .ref dn, .ref fr, .ref sp, .int (mf 10), .ref dt, .int (mf 12), .int (mf 13), .int (mf 14), .int (mf 15), .int (mf 16), .int (mf 17), .int (mf 18), .int (mf 19), .int (mf 20), .int (mf 21), .int (mf 22)])) := by rw [eh1]; exact hp_up_s _ _ _
  refine lv_aload_n S.1 S.2.1 d_Mo_of_5 rfl (lv_at hl 0 rfl) ?_
  refine lv_iload_n S.1 S.2.1 d_Mo_of_6 rfl (lv_at hl 1 rfl) ?_
  refine hp_doneR (hp_runV S zz0 (c_Mo_isShape l dC dI cA A _ t sh ac dn fr sp dt (upd mf 0 0) _ h_t) l_Mo_101 (hJ.preV _ h_t rfl) (by decide) rfl hl.1 rfl (nl rfl) d_Mo_of_7 (by decide)) ?_
  refine lv_if_eq (tgt := 22) S.1 S.2.1 d_Mo_of_10 (by decide) (fun c_10 => ?_) (fun c_10 => ?_)
  · refine lv_iconst (v := (-1)) S.1 S.2.1 d_Mo_of_22 (by decide) ?_
    exact hp_retWi S hJ hr hlk d_Mo_of_23 (by decide) ⟨rfl, by rw [eh1]; (try simp only [hp_up_up]); rfl⟩
  · refine lv_iload_n S.1 S.2.1 d_Mo_of_13 rfl (lv_at hl 2 rfl) ?_
    refine lv_if_lt (tgt := 22) S.1 S.2.1 d_Mo_of_14 (by decide) (fun c_14 => ?_) (fun c_14 => ?_)
    · refine lv_iconst (v := (-1)) S.1 S.2.1 d_Mo_of_22 (by decide) ?_
      exact hp_retWi S hJ hr hlk d_Mo_of_23 (by decide) ⟨rfl, by rw [eh1]; (try simp only [hp_up_up]); rfl⟩
    · refine lv_iload_n S.1 S.2.1 d_Mo_of_17 rfl (lv_at hl 2 rfl) ?_
      refine lv_iconst (v := 3) S.1 S.2.1 d_Mo_of_18 (by decide) ?_
      refine lv_icmp_le (tgt := 24) S.1 S.2.1 d_Mo_of_19 (by decide) (fun q => absurd ⟨q_is_ne.mp c_10, by simp only [z_lt, z_le, z_0] at c_14 ⊢; omega, q⟩ hF) (fun _ => ?_)
      refine lv_iconst (v := (-1)) S.1 S.2.1 d_Mo_of_22 (by decide) ?_
      exact hp_retWi S hJ hr hlk d_Mo_of_23 (by decide) ⟨rfl, by rw [eh1]; (try simp only [hp_up_up]); rfl⟩

def q_om (ga gd gs : Nat → Int32) (ds : Nat → Int64) (ss r d : Nat) (w : Int32) : Int32 := if w = 2 then nI (psum ds (2 * r) (2 * d)) else if w = 0 then ga ss else if w = 1 then gd ss else q_is (¬ gs ss = 0)
set_option maxHeartbeats 4000000 in
set_option maxRecDepth 100000 in
theorem c_Mo_of (l : Launch) (dC : Nat → ClassId) (dI : Nat → Nat → Nat) (cA : Nat → ClassId) (A : Nat → Prop) (h : hp_T) (t sh ac dn fr sp dt : Nat) (mf : Nat → Int32) (ss r d : Nat) (w : Int32) (ds : Nat → Int64) (ga gd gf gs : Nat → Int32) (h_t : h t = some (k_Mo mf sh ac dn fr sp dt)) (hF : (0 ≤ nI ss ∧ nI ss < mf 5) ∧ 0 ≤ w ∧ w ≤ 3) (hs : ss < 64) (hr0 : gf ss = nI r) (hd : gd ss = nI d) (hrd : r + d ≤ 4096) (h_ac : h ac = some (k_in (cA 0) 64 ga)) (h_dn : h dn = some (k_in (cA 0) 64 gd)) (h_fr : h fr = some (k_in (cA 0) 64 gf)) (h_sp : h sp = some (k_in (cA 2) 64 gs)) (h_dt : h dt = some (k_lo (cA 1) 8192 ds)) (ne_ac_dn : ac ≠ dn) (ne_ac_fr : ac ≠ fr) (ne_ac_sp : ac ≠ sp) (ne_dn_fr : dn ≠ fr) (ne_dn_sp : dn ≠ sp) (ne_fr_sp : fr ≠ sp) : Met l y_Mo_of (.code y_Mo_of prog_9_method_33_code 5 (some .int) :: BIG) ({ frames := 1, cells := 0, slots := 0, locals := 24 }) (va_Pc [.ref t, .int (nI ss), .int w] (hp_I (gg dC dI cA) A h)) (hp_QW (gg dC dI cA) A hp_mi (fun r9 h' => r9 = q_om ga gd gs ds ss r d w ∧ h' = hp_up h t (k_Mo (upd mf 0 0) sh ac dn fr sp dt))) 0 0 A := by
  refine hp_enter (by decide) (Nat.le_of_ble_eq_true rfl) ?_
  intro p e s m below meth c ls S hr hlk hin hI hl
  have hl : lv_has ls 5 [(0, .ref t), (1, .int (nI ss)), (2, .int w)] := hl
  have hJ := hI.J
  refine lv_aload_n S.1 S.2.1 d_Mo_of_0 rfl (lv_at hl 0 rfl) ?_
  refine lv_iconst (v := 0) S.1 S.2.1 d_Mo_of_1 (by decide) ?_
  refine hp_put S zz hJ h_t fp_Mo_46 rfl rfl (nl rfl) d_Mo_of_2 (fun H locs hJ => ?_)
  obtain ⟨h1, eh1⟩ : ∃ z, z = hp_up h t (.inr (7, [.int 0, .int (mf 1), .int (mf 2), .int (mf 3), .ref sh, .int (mf 5), .ref ac, .ref dn, .ref fr, .ref sp, .int (mf 10), .ref dt, .int (mf 12), .int (mf 13), .int (mf 14), .int (mf 15), .int (mf 16), .int (mf 17), .int (mf 18), .int (mf 19), .int (mf 20), .int (mf 21), .int (mf 22)])) := ⟨_, rfl⟩
  have hJ := hJ.cast eh1
  have h0_t := h_t
  have h_ac : h1 ac = some (k_in (cA 0) 64 ga) := by rw [eh1]; exact hp_up_k (hp_ne h_ac h0_t (show ((1, 0) : Nat × Nat) ≠ (0, 7) by decide)) h_ac
  have h_dn : h1 dn = some (k_in (cA 0) 64 gd) := by rw [eh1]; exact hp_up_k (hp_ne h_dn h0_t (show ((1, 0) : Nat × Nat) ≠ (0, 7) by decide)) h_dn
  have h_fr : h1 fr = some (k_in (cA 0) 64 gf) := by rw [eh1]; exact hp_up_k (hp_ne h_fr h0_t (show ((1, 0) : Nat × Nat) ≠ (0, 7) by decide)) h_fr
  have h_sp : h1 sp = some (k_in (cA 2) 64 gs) := by rw [eh1]; exact hp_up_k (hp_ne h_sp h0_t (show ((1, 0) : Nat × Nat) ≠ (0, 7) by decide)) h_sp
  have h_dt : h1 dt = some (k_lo (cA 1) 8192 ds) := by rw [eh1]; exact hp_up_k (hp_ne h_dt h0_t (show ((2, 0) : Nat × Nat) ≠ (0, 7) by decide)) h_dt
  have h_t : h1 t = some (.inr (7, [.int 0, .int (mf 1), .int (mf 2), .int (mf 3), .ref sh, .int (mf 5), .ref ac, .ref dn, .ref fr, .ref sp, .int (mf 10), .ref dt, .int (mf 12), .int (mf 13), .int (mf 14), .int (mf 15), .int (mf 16), .int (mf 17), .int (mf 18), .int (mf 19), .int (mf 20), .int (mf 21), .int (mf 22)])) := by rw [eh1]; exact hp_up_s _ _ _
  refine lv_aload_n S.1 S.2.1 d_Mo_of_5 rfl (lv_at hl 0 rfl) ?_
  refine lv_iload_n S.1 S.2.1 d_Mo_of_6 rfl (lv_at hl 1 rfl) ?_
  refine hp_doneR (hp_runV S zz0 (c_Mo_isShape l dC dI cA A _ t sh ac dn fr sp dt (upd mf 0 0) _ h_t) l_Mo_101 (hJ.preV _ h_t rfl) (by decide) rfl hl.1 rfl (nl rfl) d_Mo_of_7 (by decide)) ?_
  refine lv_if_eq (tgt := 22) S.1 S.2.1 d_Mo_of_10 (by decide) (fun q => absurd q (q_is_ne.mpr hF.1)) (fun _ => ?_)
  refine lv_iload_n S.1 S.2.1 d_Mo_of_13 rfl (lv_at hl 2 rfl) ?_
  refine lv_if_lt (tgt := 22) S.1 S.2.1 d_Mo_of_14 (by decide) (fun q => absurd q (by have z := hF.2.1; simp only [z_lt, z_le, z_0] at z ⊢; omega)) (fun _ => ?_)
  refine lv_iload_n S.1 S.2.1 d_Mo_of_17 rfl (lv_at hl 2 rfl) ?_
  refine lv_iconst (v := 3) S.1 S.2.1 d_Mo_of_18 (by decide) ?_
  refine lv_icmp_le (tgt := 24) S.1 S.2.1 d_Mo_of_19 (by decide) (fun _ => ?_) (fun q => absurd hF.2.2 q)
  refine lv_iload_n S.1 S.2.1 d_Mo_of_24 rfl (lv_at hl 2 rfl) ?_
  refine lv_iconst (v := 2) S.1 S.2.1 d_Mo_of_25 (by decide) ?_
  refine lv_icmp_ne (tgt := 82) S.1 S.2.1 d_Mo_of_26 (by decide) (fun c_26 => ?_) (fun c_26 => ?_)
  · refine lv_iload_n S.1 S.2.1 d_Mo_of_82 rfl (lv_at hl 2 rfl) ?_
    refine lv_if_ne (tgt := 95) S.1 S.2.1 d_Mo_of_83 (by decide) (fun c_83 => ?_) (fun c_83 => ?_)
    · refine lv_iload_n S.1 S.2.1 d_Mo_of_95 rfl (lv_at hl 2 rfl) ?_
      refine lv_iconst (v := 1) S.1 S.2.1 d_Mo_of_96 (by decide) ?_
      refine lv_icmp_ne (tgt := 109) S.1 S.2.1 d_Mo_of_97 (by decide) (fun c_97 => ?_) (fun c_97 => ?_)
      · refine lv_aload_n S.1 S.2.1 d_Mo_of_109 rfl (lv_at hl 0 rfl) ?_
        refine hp_get S zz hJ h_t f_Mo_19 rfl d_Mo_of_110 ?_
        refine lv_iload_n S.1 S.2.1 d_Mo_of_113 rfl (lv_at hl 1 rfl) ?_
        refine hp_zald S hJ 2 h_sp rfl (vp_in_nI hs (by decide)) d_Mo_of_114 ?_
        rw [nI_clamp (by omega)]
        refine lv_if_eq (tgt := 122) S.1 S.2.1 d_Mo_of_115 (by decide) (fun c_115 => ?_) (fun c_115 => ?_)
        · refine lv_iconst (v := 0) S.1 S.2.1 d_Mo_of_122 (by decide) ?_
          exact hp_retWi S hJ hr hlk d_Mo_of_123 (by decide) ⟨by unfold q_om; rw [if_neg c_26, if_neg c_83, if_neg c_97]; exact q_is_f (fun q => q c_115), by rw [eh1]; (try simp only [hp_up_up]); rfl⟩
        · refine lv_iconst (v := 1) S.1 S.2.1 d_Mo_of_118 (by decide) ?_
          refine lv_goto (tgt := 123) S.1 S.2.1 d_Mo_of_119 (by decide) ?_
          exact hp_retWi S hJ hr hlk d_Mo_of_123 (by decide) ⟨by unfold q_om; rw [if_neg c_26, if_neg c_83, if_neg c_97]; exact q_is_t c_115, by rw [eh1]; (try simp only [hp_up_up]); rfl⟩
      · refine lv_aload_n S.1 S.2.1 d_Mo_of_100 rfl (lv_at hl 0 rfl) ?_
        refine hp_get S zz hJ h_t f_Mo_13 rfl d_Mo_of_101 ?_
        refine lv_iload_n S.1 S.2.1 d_Mo_of_104 rfl (lv_at hl 1 rfl) ?_
        refine hp_iald S hJ 0 h_dn rfl (vp_in_nI hs (by decide)) d_Mo_of_105 ?_
        rw [nI_clamp (by omega)]
        refine lv_goto (tgt := 123) S.1 S.2.1 d_Mo_of_106 (by decide) ?_
        exact hp_retWi S hJ hr hlk d_Mo_of_123 (by decide) ⟨by unfold q_om; rw [if_neg c_26, if_neg c_83, if_pos c_97], by rw [eh1]; (try simp only [hp_up_up]); rfl⟩
    · refine lv_aload_n S.1 S.2.1 d_Mo_of_86 rfl (lv_at hl 0 rfl) ?_
      refine hp_get S zz hJ h_t f_Mo_7 rfl d_Mo_of_87 ?_
      refine lv_iload_n S.1 S.2.1 d_Mo_of_90 rfl (lv_at hl 1 rfl) ?_
      refine hp_iald S hJ 0 h_ac rfl (vp_in_nI hs (by decide)) d_Mo_of_91 ?_
      rw [nI_clamp (by omega)]
      refine lv_goto (tgt := 123) S.1 S.2.1 d_Mo_of_92 (by decide) ?_
      exact hp_retWi S hJ hr hlk d_Mo_of_123 (by decide) ⟨by unfold q_om; rw [if_neg c_26, if_pos c_83], by rw [eh1]; (try simp only [hp_up_up]); rfl⟩
  · refine lv_iconst (v := 0) S.1 S.2.1 d_Mo_of_29 (by decide) ?_
    refine lv_istore_n (lv' := [(3, .int 0), (0, .ref t), (1, .int (nI ss)), (2, .int w)]) S.1 S.2.1 d_Mo_of_30 rfl hl (by decide) rfl (fun ls hl => ?_)
    refine lv_iconst (v := 2) S.1 S.2.1 d_Mo_of_31 (by decide) ?_
    refine lv_aload_n S.1 S.2.1 d_Mo_of_32 rfl (lv_at hl 1 rfl) ?_
    refine hp_get S zz hJ h_t f_Mo_16 rfl d_Mo_of_33 ?_
    refine lv_iload_n S.1 S.2.1 d_Mo_of_36 rfl (lv_at hl 2 rfl) ?_
    refine hp_iald S hJ 0 h_fr rfl (vp_in_nI hs (by decide)) d_Mo_of_37 ?_
    rw [nI_clamp (by omega), hr0]
    refine lv_imul S.1 S.2.1 d_Mo_of_38 ?_
    rw [show (2 : Int32) * nI r = nI (2 * r + 0) from pk_mul 2 r]
    refine lv_istore (lv' := [(4, .int (nI (2 * r + 0))), (3, .int 0), (0, .ref t), (1, .int (nI ss)), (2, .int w)]) S.1 S.2.1 d_Mo_of_39 hl (by decide) rfl (fun ls hl => ?_)
    have LP : ∀ (n_ k : Nat)  (ls : Array Slot), k + n_ = 2 * d → lv_has ls 5 [(4, .int (nI (2 * r + k))), (3, .int (nI (psum ds (2 * r) k))), (0, .ref t), (1, .int (nI ss))] → W p l e ({ frames := 1, cells := 0, slots := 0, locals := 24 }) s m ([.ref t, .int (nI ss), .int w] : List Value).toArray below meth c H locs 0 0 (MQ below (hp_QW (gg dC dI cA) A hp_mi (fun r9 h' => r9 = q_om ga gd gs ds ss r d w ∧ h' = hp_up h t (k_Mo (upd mf 0 0) sh ac dn fr sp dt))) ([.ref t, .int (nI ss), .int w] : List Value).toArray s 0 0 A) (F0 m 41 ls []) := by
      intro n_
      induction n_ with
      | zero =>
        intro k  ls hu_  hl
        refine lv_iload S.1 S.2.1 d_Mo_of_41 (lv_at hl 0 rfl) ?_
        refine lv_iconst (v := 2) S.1 S.2.1 d_Mo_of_43 (by decide) ?_
        refine lv_aload_n S.1 S.2.1 d_Mo_of_44 rfl (lv_at hl 2 rfl) ?_
        refine hp_get S zz hJ h_t f_Mo_16 rfl d_Mo_of_45 ?_
        refine lv_iload_n S.1 S.2.1 d_Mo_of_48 rfl (lv_at hl 3 rfl) ?_
        refine hp_iald S hJ 0 h_fr rfl (vp_in_nI hs (by decide)) d_Mo_of_49 ?_
        rw [nI_clamp (by omega), hr0]
        refine lv_aload_n S.1 S.2.1 d_Mo_of_50 rfl (lv_at hl 2 rfl) ?_
        refine hp_get S zz hJ h_t f_Mo_13 rfl d_Mo_of_51 ?_
        refine lv_iload_n S.1 S.2.1 d_Mo_of_54 rfl (lv_at hl 3 rfl) ?_
        refine hp_iald S hJ 0 h_dn rfl (vp_in_nI hs (by decide)) d_Mo_of_55 ?_
        rw [nI_clamp (by omega), hd]
        refine lv_iadd S.1 S.2.1 d_Mo_of_56 ?_
        refine lv_imul S.1 S.2.1 d_Mo_of_57 ?_
        rw [nI_add, show (2 : Int32) * nI (r + d) = nI (2 * (r + d)) from pk_mul 2 (r + d)]
        obtain ⟨e_n, -⟩ : k = 2 * d ∧ True := ⟨by omega, trivial⟩
        refine lv_icmp_ge (tgt := 80) S.1 S.2.1 d_Mo_of_58 (by decide) (fun _ => ?_) (fun q => absurd (by rw [e_n]; exact (by rw [Nat.mul_add]; exact Int32.le_refl _)) q)
        refine lv_iload_n S.1 S.2.1 d_Mo_of_80 rfl (lv_at hl 1 rfl) ?_
        exact hp_retWi S hJ hr hlk d_Mo_of_81 (by decide) ⟨by unfold q_om; rw [if_pos c_26, e_n], by rw [eh1]; (try simp only [hp_up_up]); rfl⟩
      | succ n_ ih =>
        intro k  ls hu_  hl
        refine lv_iload S.1 S.2.1 d_Mo_of_41 (lv_at hl 0 rfl) ?_
        refine lv_iconst (v := 2) S.1 S.2.1 d_Mo_of_43 (by decide) ?_
        refine lv_aload_n S.1 S.2.1 d_Mo_of_44 rfl (lv_at hl 2 rfl) ?_
        refine hp_get S zz hJ h_t f_Mo_16 rfl d_Mo_of_45 ?_
        refine lv_iload_n S.1 S.2.1 d_Mo_of_48 rfl (lv_at hl 3 rfl) ?_
        refine hp_iald S hJ 0 h_fr rfl (vp_in_nI hs (by decide)) d_Mo_of_49 ?_
        rw [nI_clamp (by omega), hr0]
        refine lv_aload_n S.1 S.2.1 d_Mo_of_50 rfl (lv_at hl 2 rfl) ?_
        refine hp_get S zz hJ h_t f_Mo_13 rfl d_Mo_of_51 ?_
        refine lv_iload_n S.1 S.2.1 d_Mo_of_54 rfl (lv_at hl 3 rfl) ?_
        refine hp_iald S hJ 0 h_dn rfl (vp_in_nI hs (by decide)) d_Mo_of_55 ?_
        rw [nI_clamp (by omega), hd]
        refine lv_iadd S.1 S.2.1 d_Mo_of_56 ?_
        refine lv_imul S.1 S.2.1 d_Mo_of_57 ?_
        rw [nI_add, show (2 : Int32) * nI (r + d) = nI (2 * (r + d)) from pk_mul 2 (r + d)]
        refine lv_icmp_ge (tgt := 80) S.1 S.2.1 d_Mo_of_58 (by decide) (fun q => absurd q (nI_ge (by omega) (by omega))) (fun _ => ?_)
        refine lv_iload_n S.1 S.2.1 d_Mo_of_61 rfl (lv_at hl 1 rfl) ?_
        refine lv_aload_n S.1 S.2.1 d_Mo_of_62 rfl (lv_at hl 2 rfl) ?_
        refine hp_get S zz hJ h_t f_Mo_23 rfl d_Mo_of_63 ?_
        refine lv_iload S.1 S.2.1 d_Mo_of_66 (lv_at hl 0 rfl) ?_
        refine hp_lald S hJ 1 h_dt rfl (vp_in_nI (by omega) (by decide)) d_Mo_of_68 ?_
        rw [nI_clamp (by omega)]
        refine hp_doneR (hp_runS S zz0 (c_Mo_ones l _) l_Mo_135 (hp_pre0 _) (by decide) rfl hl.1 rfl (nl rfl) d_Mo_of_69 (by decide)) ?_
        refine lv_iadd S.1 S.2.1 d_Mo_of_72 ?_
        rw [nI_add]
        refine lv_istore_n (lv' := [(3, .int (nI (psum ds (2 * r) (k + 1)))), (4, .int (nI (2 * r + k))), (0, .ref t), (1, .int (nI ss))]) S.1 S.2.1 d_Mo_of_73 rfl hl (by decide) rfl (fun ls hl => ?_)
        refine lv_iinc (v := nI (2 * r + (k + 1))) (lv' := [(4, .int (nI (2 * r + (k + 1)))), (3, .int (nI (psum ds (2 * r) (k + 1)))), (0, .ref t), (1, .int (nI ss))]) S.1 S.2.1 d_Mo_of_74 hl (k := 1) rfl (nI_1 _) (by decide) rfl (fun ls hl => ?_)
        refine lv_goto (tgt := 41) S.1 S.2.1 d_Mo_of_77 (by decide) ?_
        exact ih (k + 1) ls (by omega) (lv_sub hl [0, 1, 2, 3] rfl)
    exact LP (2 * d) 0 ls (by omega) (lv_sub hl [0, 1, 2, 3] rfl)

