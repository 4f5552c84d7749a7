/-! The reference's beginning. -/
theorem hp_arL (c : ClassId) (N : Nat) : vp_cell c (N, .inr (.inl (fun _ => 0))) = arrV c N (fun _ => defaultValue (newarray.typeOf .long)) := rfl
theorem hp_arI (c : ClassId) (N : Nat) : vp_cell c (N, .inl (fun _ => 0)) = arrV c N (fun _ => defaultValue (newarray.typeOf .int)) := rfl
theorem hp_arZ (c : ClassId) (N : Nat) : vp_cell c (N, .inl (fun _ => 0)) = arrV c N (fun _ => defaultValue (newarray.typeOf .boolean)) := rfl
def q_cl (x m : Int32) : Int32 := if x < 1 then 1 else if m < x then m else x
theorem q_cl1 {x m : Int32} (h : ¬ 1 ≤ x) : 1 = q_cl x m := (if_pos (by simp only [z_lt, z_le] at h ⊢; omega)).symm
theorem q_cl2 {x m : Int32} (h : 1 ≤ x) (h2 : ¬ x ≤ m) : m = q_cl x m := by
  unfold q_cl
  rw [if_neg (by simp only [z_lt, z_le] at h ⊢; omega), if_pos (by simp only [z_lt, z_le] at h2 ⊢; omega)]
theorem q_cl3 {x m : Int32} (h : 1 ≤ x) (h2 : x ≤ m) : x = q_cl x m := by
  unfold q_cl
  rw [if_neg (by simp only [z_lt, z_le] at h ⊢; omega), if_neg (by simp only [z_lt, z_le] at h2 ⊢; omega)]
def q_m0 (w hgt b : Int32) : Nat → Int32 := fun k => if k = 1 then q_cl w 5100 else if k = 2 then q_cl hgt 5100 else if k = 3 then q_cl b (q_cl hgt 5100) else if k = 21 then q_cl w 5100 - 1 else if k = 22 then q_cl hgt 5100 - 1 else 0
theorem q_m0_k (w hgt b : Int32) (sh ac dn fr sp dt : Nat) : k_Mo (q_m0 w hgt b) sh ac dn fr sp dt = .inr (7, [.int 0, .int (q_cl w 5100), .int (q_cl hgt 5100), .int (q_cl b (q_cl hgt 5100)), .ref sh, .int 0, .ref ac, .ref dn, .ref fr, .ref sp, .int 0, .ref dt, .int 0, .int 0, .int 0, .int 0, .int 0, .int 0, .int 0, .int 0, .int 0, .int (q_cl w 5100 - 1), .int (q_cl hgt 5100 - 1)]) := by
  simp [k_Mo, q_m0]

set_option maxHeartbeats 4000000 in
set_option maxRecDepth 100000 in
theorem c_Mo_init (l : Launch) (dC : Nat → ClassId) (dI : Nat → Nat → Nat) (cA : Nat → ClassId) (A : Nat → Prop) (h : hp_T) (t hh : Nat) (w hgt b : Int32) (hhv : (1 ≤ hh ∧ hh ≤ 5100) ∧ q_cl hgt 5100 = nI hh) (h_t : h t = some (.inr (7, e0_Mo))) : Met l y_Mo_init (.code y_Mo_init prog_9_method_1_code 4 none :: BIG) ({ frames := 1, cells := 6, slots := 416448, locals := 20 }) (va_Pc [.ref t, .int w, .int hgt, .int b] (hp_I (gg dC dI cA) A h)) (hp_QW (gg dC dI cA) A hp_mv (fun _ h' => ∃ sh ac dn fr sp dt, h sh = none ∧ h ac = none ∧ h dn = none ∧ h fr = none ∧ h sp = none ∧ h dt = none ∧ (ac ≠ dn ∧ ac ≠ fr ∧ ac ≠ sp ∧ dn ≠ fr ∧ dn ≠ sp ∧ fr ≠ sp ∧ dt ≠ sh) ∧ (h' sh = some (k_lo (cA 1) (80 * hh) (fun _ => 0)) ∧ h' ac = some (k_in (cA 0) 64 (fun _ => 0)) ∧ h' dn = some (k_in (cA 0) 64 (fun _ => 0)) ∧ h' fr = some (k_in (cA 0) 64 (fun _ => 0)) ∧ h' sp = some (k_in (cA 2) 64 (fun _ => 0)) ∧ h' dt = some (k_lo (cA 1) 8192 (fun _ => 0))) ∧ h' = hp_up (hp_up (hp_up (hp_up (hp_up (hp_up (hp_up h ac (k_in (cA 0) 64 (fun _ => 0))) dn (k_in (cA 0) 64 (fun _ => 0))) fr (k_in (cA 0) 64 (fun _ => 0))) sp (k_in (cA 2) 64 (fun _ => 0))) dt (k_lo (cA 1) 8192 (fun _ => 0))) sh (k_lo (cA 1) (80 * hh) (fun _ => 0))) t (k_Mo (q_m0 w hgt b) sh ac dn fr sp dt))) 6 416448 A := by
  refine hp_enter (by decide) (Nat.le_of_ble_eq_true rfl) ?_
  intro p e s m below meth c ls S hr hlk hin hI hl
  have hl : lv_has ls 4 [(0, .ref t), (1, .int w), (2, .int hgt), (3, .int b)] := hl
  have hJ := hI.J
  refine lv_aload_n S.1 S.2.1 d_Mo_init_0 rfl (lv_at hl 0 rfl) ?_
  refine hp_obj S l_Mo_1 hl.1 d_Mo_init_1 ⟨nl rfl, nl rfl⟩ ?_
  refine lv_aload_n S.1 S.2.1 d_Mo_init_4 rfl (lv_at hl 0 rfl) ?_
  refine lv_bipush (v := 64) S.1 S.2.1 d_Mo_init_5 (by decide) ?_
  refine hp_newa S hJ 0 (atype := .int) (a0 := (64, .inl (fun _ => 0))) (N' := 64) t_83 rfl (by intro C hC; cases hC) (hp_arI _ _) (by decide) (nI_clamp (n := 64) (by omega)) (by decide) (by decide) (by decide) d_Mo_init_7 (fun ac H hq_ac hs_ac hJ => ?_)
  have ne_t_ac : t ≠ ac := hp_neN h_t hq_ac
  have hz_ac := hq_ac
  have hN_ac : h ac = none := hz_ac
  obtain ⟨h1, eh1⟩ : ∃ z, z = hp_up h ac (k_in (cA 0) 64 (fun _ => 0)) := ⟨_, rfl⟩
  have hJ := hJ.cast eh1
  have h_t : h1 t = some (.inr (7, [.int 0, .int 0, .int 0, .int 0, .null, .int 0, .null, .null, .null, .null, .int 0, .null, .int 0, .int 0, .int 0, .int 0, .int 0, .int 0, .int 0, .int 0, .int 0, .int 0, .int 0])) := by rw [eh1]; exact hp_up_k (hp_neN h_t hq_ac) h_t
  have h_ac : h1 ac = some (k_in (cA 0) 64 (fun _ => 0)) := by rw [eh1]; exact hp_up_s _ _ _
  refine hp_putF S zz hJ hin h_t fp_Mo_7 rfl rfl rfl (nl rfl) d_Mo_init_9 (fun H locs hJ => ?_)
  obtain ⟨h2, eh2⟩ : ∃ z, z = hp_up h1 t (.inr (7, [.int 0, .int 0, .int 0, .int 0, .null, .int 0, .ref ac, .null, .null, .null, .int 0, .null, .int 0, .int 0, .int 0, .int 0, .int 0, .int 0, .int 0, .int 0, .int 0, .int 0, .int 0])) := ⟨_, rfl⟩
  have hJ := hJ.cast eh2
  have h0_t := h_t
  have h_ac : h2 ac = some (k_in (cA 0) 64 (fun _ => 0)) := by rw [eh2]; exact hp_up_k (Ne.symm ne_t_ac) h_ac
  have h_t : h2 t = some (.inr (7, [.int 0, .int 0, .int 0, .int 0, .null, .int 0, .ref ac, .null, .null, .null, .int 0, .null, .int 0, .int 0, .int 0, .int 0, .int 0, .int 0, .int 0, .int 0, .int 0, .int 0, .int 0])) := by rw [eh2]; exact hp_up_s _ _ _
  refine lv_aload_n S.1 S.2.1 d_Mo_init_12 rfl (lv_at hl 0 rfl) ?_
  refine lv_bipush (v := 64) S.1 S.2.1 d_Mo_init_13 (by decide) ?_
  refine hp_newa S hJ 0 (atype := .int) (a0 := (64, .inl (fun _ => 0))) (N' := 64) t_83 rfl (by intro C hC; cases hC) (hp_arI _ _) (by decide) (nI_clamp (n := 64) (by omega)) (by decide) (by decide) (by decide) d_Mo_init_15 (fun dn H hq_dn hs_dn hJ => ?_)
  have ne_t_dn : t ≠ dn := hp_neN h_t hq_dn
  have ne_ac_dn : ac ≠ dn := hp_neN h_ac hq_dn
  have hz_dn := hq_dn
  rw [eh2, eh1] at hz_dn
  have hN_dn : h dn = none := hp_up_none (hp_up_none (hz_dn))
  obtain ⟨h3, eh3⟩ : ∃ z, z = hp_up h2 dn (k_in (cA 0) 64 (fun _ => 0)) := ⟨_, rfl⟩
  have hJ := hJ.cast eh3
  have h_t : h3 t = some (.inr (7, [.int 0, .int 0, .int 0, .int 0, .null, .int 0, .ref ac, .null, .null, .null, .int 0, .null, .int 0, .int 0, .int 0, .int 0, .int 0, .int 0, .int 0, .int 0, .int 0, .int 0, .int 0])) := by rw [eh3]; exact hp_up_k (hp_neN h_t hq_dn) h_t
  have h_ac : h3 ac = some (k_in (cA 0) 64 (fun _ => 0)) := by rw [eh3]; exact hp_up_k (hp_neN h_ac hq_dn) h_ac
  have h_dn : h3 dn = some (k_in (cA 0) 64 (fun _ => 0)) := by rw [eh3]; exact hp_up_s _ _ _
  refine hp_putF S zz hJ hin h_t fp_Mo_13 rfl rfl rfl (nl rfl) d_Mo_init_17 (fun H locs hJ => ?_)
  obtain ⟨h4, eh4⟩ : ∃ z, z = hp_up h3 t (.inr (7, [.int 0, .int 0, .int 0, .int 0, .null, .int 0, .ref ac, .ref dn, .null, .null, .int 0, .null, .int 0, .int 0, .int 0, .int 0, .int 0, .int 0, .int 0, .int 0, .int 0, .int 0, .int 0])) := ⟨_, rfl⟩
  have hJ := hJ.cast eh4
  have h0_t := h_t
  have h_ac : h4 ac = some (k_in (cA 0) 64 (fun _ => 0)) := by rw [eh4]; exact hp_up_k (Ne.symm ne_t_ac) h_ac
  have h_dn : h4 dn = some (k_in (cA 0) 64 (fun _ => 0)) := by rw [eh4]; exact hp_up_k (Ne.symm ne_t_dn) h_dn
  have h_t : h4 t = some (.inr (7, [.int 0, .int 0, .int 0, .int 0, .null, .int 0, .ref ac, .ref dn, .null, .null, .int 0, .null, .int 0, .int 0, .int 0, .int 0, .int 0, .int 0, .int 0, .int 0, .int 0, .int 0, .int 0])) := by rw [eh4]; exact hp_up_s _ _ _
  refine lv_aload_n S.1 S.2.1 d_Mo_init_20 rfl (lv_at hl 0 rfl) ?_
  refine lv_bipush (v := 64) S.1 S.2.1 d_Mo_init_21 (by decide) ?_
  refine hp_newa S hJ 0 (atype := .int) (a0 := (64, .inl (fun _ => 0))) (N' := 64) t_83 rfl (by intro C hC; cases hC) (hp_arI _ _) (by decide) (nI_clamp (n := 64) (by omega)) (by decide) (by decide) (by decide) d_Mo_init_23 (fun fr H hq_fr hs_fr hJ => ?_)
  have ne_t_fr : t ≠ fr := hp_neN h_t hq_fr
  have ne_ac_fr : ac ≠ fr := hp_neN h_ac hq_fr
  have ne_dn_fr : dn ≠ fr := hp_neN h_dn hq_fr
  have hz_fr := hq_fr
  rw [eh4, eh3, eh2, eh1] at hz_fr
  have hN_fr : h fr = none := hp_up_none (hp_up_none (hp_up_none (hp_up_none (hz_fr))))
  obtain ⟨h5, eh5⟩ : ∃ z, z = hp_up h4 fr (k_in (cA 0) 64 (fun _ => 0)) := ⟨_, rfl⟩
  have hJ := hJ.cast eh5
  have h_t : h5 t = some (.inr (7, [.int 0, .int 0, .int 0, .int 0, .null, .int 0, .ref ac, .ref dn, .null, .null, .int 0, .null, .int 0, .int 0, .int 0, .int 0, .int 0, .int 0, .int 0, .int 0, .int 0, .int 0, .int 0])) := by rw [eh5]; exact hp_up_k (hp_neN h_t hq_fr) h_t
  have h_ac : h5 ac = some (k_in (cA 0) 64 (fun _ => 0)) := by rw [eh5]; exact hp_up_k (hp_neN h_ac hq_fr) h_ac
  have h_dn : h5 dn = some (k_in (cA 0) 64 (fun _ => 0)) := by rw [eh5]; exact hp_up_k (hp_neN h_dn hq_fr) h_dn
  have h_fr : h5 fr = some (k_in (cA 0) 64 (fun _ => 0)) := by rw [eh5]; exact hp_up_s _ _ _
  refine hp_putF S zz hJ hin h_t fp_Mo_16 rfl rfl rfl (nl rfl) d_Mo_init_25 (fun H locs hJ => ?_)
  obtain ⟨h6, eh6⟩ : ∃ z, z = hp_up h5 t (.inr (7, [.int 0, .int 0, .int 0, .int 0, .null, .int 0, .ref ac, .ref dn, .ref fr, .null, .int 0, .null, .int 0, .int 0, .int 0, .int 0, .int 0, .int 0, .int 0, .int 0, .int 0, .int 0, .int 0])) := ⟨_, rfl⟩
  have hJ := hJ.cast eh6
  have h0_t := h_t
  have h_ac : h6 ac = some (k_in (cA 0) 64 (fun _ => 0)) := by rw [eh6]; exact hp_up_k (Ne.symm ne_t_ac) h_ac
  have h_dn : h6 dn = some (k_in (cA 0) 64 (fun _ => 0)) := by rw [eh6]; exact hp_up_k (Ne.symm ne_t_dn) h_dn
  have h_fr : h6 fr = some (k_in (cA 0) 64 (fun _ => 0)) := by rw [eh6]; exact hp_up_k (Ne.symm ne_t_fr) h_fr
  have h_t : h6 t = some (.inr (7, [.int 0, .int 0, .int 0, .int 0, .null, .int 0, .ref ac, .ref dn, .ref fr, .null, .int 0, .null, .int 0, .int 0, .int 0, .int 0, .int 0, .int 0, .int 0, .int 0, .int 0, .int 0, .int 0])) := by rw [eh6]; exact hp_up_s _ _ _
  refine lv_aload_n S.1 S.2.1 d_Mo_init_28 rfl (lv_at hl 0 rfl) ?_
  refine lv_bipush (v := 64) S.1 S.2.1 d_Mo_init_29 (by decide) ?_
  refine hp_newa S hJ 2 (atype := .boolean) (a0 := (64, .inl (fun _ => 0))) (N' := 64) t_84 rfl (by intro C hC; cases hC) (hp_arZ _ _) (by decide) (nI_clamp (n := 64) (by omega)) (by decide) (by decide) (by decide) d_Mo_init_31 (fun sp H hq_sp hs_sp hJ => ?_)
  have ne_t_sp : t ≠ sp := hp_neN h_t hq_sp
  have ne_ac_sp : ac ≠ sp := hp_neN h_ac hq_sp
  have ne_dn_sp : dn ≠ sp := hp_neN h_dn hq_sp
  have ne_fr_sp : fr ≠ sp := hp_neN h_fr hq_sp
  have hz_sp := hq_sp
  rw [eh6, eh5, eh4, eh3, eh2, eh1] at hz_sp
  have hN_sp : h sp = none := hp_up_none (hp_up_none (hp_up_none (hp_up_none (hp_up_none (hp_up_none (hz_sp))))))
  obtain ⟨h7, eh7⟩ : ∃ z, z = hp_up h6 sp (k_in (cA 2) 64 (fun _ => 0)) := ⟨_, rfl⟩
  have hJ := hJ.cast eh7
  have h_t : h7 t = some (.inr (7, [.int 0, .int 0, .int 0, .int 0, .null, .int 0, .ref ac, .ref dn, .ref fr, .null, .int 0, .null, .int 0, .int 0, .int 0, .int 0, .int 0, .int 0, .int 0, .int 0, .int 0, .int 0, .int 0])) := by rw [eh7]; exact hp_up_k (hp_neN h_t hq_sp) h_t
  have h_ac : h7 ac = some (k_in (cA 0) 64 (fun _ => 0)) := by rw [eh7]; exact hp_up_k (hp_neN h_ac hq_sp) h_ac
  have h_dn : h7 dn = some (k_in (cA 0) 64 (fun _ => 0)) := by rw [eh7]; exact hp_up_k (hp_neN h_dn hq_sp) h_dn
  have h_fr : h7 fr = some (k_in (cA 0) 64 (fun _ => 0)) := by rw [eh7]; exact hp_up_k (hp_neN h_fr hq_sp) h_fr
  have h_sp : h7 sp = some (k_in (cA 2) 64 (fun _ => 0)) := by rw [eh7]; exact hp_up_s _ _ _
  refine hp_putF S zz hJ hin h_t fp_Mo_19 rfl rfl rfl (nl rfl) d_Mo_init_33 (fun H locs hJ => ?_)
  obtain ⟨h8, eh8⟩ : ∃ z, z = hp_up h7 t (.inr (7, [.int 0, .int 0, .int 0, .int 0, .null, .int 0, .ref ac, .ref dn, .ref fr, .ref sp, .int 0, .null, .int 0, .int 0, .int 0, .int 0, .int 0, .int 0, .int 0, .int 0, .int 0, .int 0, .int 0])) := ⟨_, rfl⟩
  have hJ := hJ.cast eh8
  have h0_t := h_t
  have h_ac : h8 ac = some (k_in (cA 0) 64 (fun _ => 0)) := by rw [eh8]; exact hp_up_k (Ne.symm ne_t_ac) h_ac
  have h_dn : h8 dn = some (k_in (cA 0) 64 (fun _ => 0)) := by rw [eh8]; exact hp_up_k (Ne.symm ne_t_dn) h_dn
  have h_fr : h8 fr = some (k_in (cA 0) 64 (fun _ => 0)) := by rw [eh8]; exact hp_up_k (Ne.symm ne_t_fr) h_fr
  have h_sp : h8 sp = some (k_in (cA 2) 64 (fun _ => 0)) := by rw [eh8]; exact hp_up_k (Ne.symm ne_t_sp) h_sp
  have h_t : h8 t = some (.inr (7, [.int 0, .int 0, .int 0, .int 0, .null, .int 0, .ref ac, .ref dn, .ref fr, .ref sp, .int 0, .null, .int 0, .int 0, .int 0, .int 0, .int 0, .int 0, .int 0, .int 0, .int 0, .int 0, .int 0])) := by rw [eh8]; exact hp_up_s _ _ _
  refine lv_aload_n S.1 S.2.1 d_Mo_init_36 rfl (lv_at hl 0 rfl) ?_
  refine lv_sipush (v := 8192) S.1 S.2.1 d_Mo_init_37 (by decide) ?_
  refine hp_newa S hJ 1 (atype := .long) (a0 := (8192, .inr (.inl (fun _ => 0)))) (N' := 8192) t_114 rfl (by intro C hC; cases hC) (hp_arL _ _) (by decide) (nI_clamp (n := 8192) (by omega)) (by decide) (by decide) (by decide) d_Mo_init_40 (fun dt H hq_dt hs_dt hJ => ?_)
  have ne_t_dt : t ≠ dt := hp_neN h_t hq_dt
  have ne_ac_dt : ac ≠ dt := hp_neN h_ac hq_dt
  have ne_dn_dt : dn ≠ dt := hp_neN h_dn hq_dt
  have ne_fr_dt : fr ≠ dt := hp_neN h_fr hq_dt
  have ne_sp_dt : sp ≠ dt := hp_neN h_sp hq_dt
  have hz_dt := hq_dt
  rw [eh8, eh7, eh6, eh5, eh4, eh3, eh2, eh1] at hz_dt
  have hN_dt : h dt = none := hp_up_none (hp_up_none (hp_up_none (hp_up_none (hp_up_none (hp_up_none (hp_up_none (hp_up_none (hz_dt))))))))
  obtain ⟨h9, eh9⟩ : ∃ z, z = hp_up h8 dt (k_lo (cA 1) 8192 (fun _ => 0)) := ⟨_, rfl⟩
  have hJ := hJ.cast eh9
  have h_t : h9 t = some (.inr (7, [.int 0, .int 0, .int 0, .int 0, .null, .int 0, .ref ac, .ref dn, .ref fr, .ref sp, .int 0, .null, .int 0, .int 0, .int 0, .int 0, .int 0, .int 0, .int 0, .int 0, .int 0, .int 0, .int 0])) := by rw [eh9]; exact hp_up_k (hp_neN h_t hq_dt) h_t
  have h_ac : h9 ac = some (k_in (cA 0) 64 (fun _ => 0)) := by rw [eh9]; exact hp_up_k (hp_neN h_ac hq_dt) h_ac
  have h_dn : h9 dn = some (k_in (cA 0) 64 (fun _ => 0)) := by rw [eh9]; exact hp_up_k (hp_neN h_dn hq_dt) h_dn
  have h_fr : h9 fr = some (k_in (cA 0) 64 (fun _ => 0)) := by rw [eh9]; exact hp_up_k (hp_neN h_fr hq_dt) h_fr
  have h_sp : h9 sp = some (k_in (cA 2) 64 (fun _ => 0)) := by rw [eh9]; exact hp_up_k (hp_neN h_sp hq_dt) h_sp
  have h_dt : h9 dt = some (k_lo (cA 1) 8192 (fun _ => 0)) := by rw [eh9]; exact hp_up_s _ _ _
  refine hp_putF S zz hJ hin h_t fp_Mo_23 rfl rfl rfl (nl rfl) d_Mo_init_42 (fun H locs hJ => ?_)
  obtain ⟨h10, eh10⟩ : ∃ z, z = hp_up h9 t (.inr (7, [.int 0, .int 0, .int 0, .int 0, .null, .int 0, .ref ac, .ref dn, .ref fr, .ref sp, .int 0, .ref dt, .int 0, .int 0, .int 0, .int 0, .int 0, .int 0, .int 0, .int 0, .int 0, .int 0, .int 0])) := ⟨_, rfl⟩
  have hJ := hJ.cast eh10
  have h0_t := h_t
  have h_ac : h10 ac = some (k_in (cA 0) 64 (fun _ => 0)) := by rw [eh10]; exact hp_up_k (Ne.symm ne_t_ac) h_ac
  have h_dn : h10 dn = some (k_in (cA 0) 64 (fun _ => 0)) := by rw [eh10]; exact hp_up_k (Ne.symm ne_t_dn) h_dn
  have h_fr : h10 fr = some (k_in (cA 0) 64 (fun _ => 0)) := by rw [eh10]; exact hp_up_k (Ne.symm ne_t_fr) h_fr
  have h_sp : h10 sp = some (k_in (cA 2) 64 (fun _ => 0)) := by rw [eh10]; exact hp_up_k (Ne.symm ne_t_sp) h_sp
  have h_dt : h10 dt = some (k_lo (cA 1) 8192 (fun _ => 0)) := by rw [eh10]; exact hp_up_k (Ne.symm ne_t_dt) h_dt
  have h_t : h10 t = some (.inr (7, [.int 0, .int 0, .int 0, .int 0, .null, .int 0, .ref ac, .ref dn, .ref fr, .ref sp, .int 0, .ref dt, .int 0, .int 0, .int 0, .int 0, .int 0, .int 0, .int 0, .int 0, .int 0, .int 0, .int 0])) := by rw [eh10]; exact hp_up_s _ _ _
  refine lv_aload_n S.1 S.2.1 d_Mo_init_45 rfl (lv_at hl 0 rfl) ?_
  refine hp_cut (fun v => v = q_cl w 5100) 69 [.ref t] (fun J => ?_) (fun wv e_wv => ?_)
  · refine lv_iload_n S.1 S.2.1 d_Mo_init_46 rfl (lv_at hl 1 rfl) ?_
    refine lv_iconst (v := 1) S.1 S.2.1 d_Mo_init_47 (by decide) ?_
    refine lv_icmp_ge (tgt := 55) S.1 S.2.1 d_Mo_init_48 (by decide) (fun c_48 => ?_) (fun c_48 => ?_)
    · refine lv_iload_n S.1 S.2.1 d_Mo_init_55 rfl (lv_at hl 1 rfl) ?_
      refine lv_sipush (v := 5100) S.1 S.2.1 d_Mo_init_56 (by decide) ?_
      refine lv_icmp_le (tgt := 68) S.1 S.2.1 d_Mo_init_59 (by decide) (fun c_59 => ?_) (fun c_59 => ?_)
      · refine lv_iload_n S.1 S.2.1 d_Mo_init_68 rfl (lv_at hl 1 rfl) ?_
        exact J _ (q_cl3 c_48 c_59)
      · refine lv_sipush (v := 5100) S.1 S.2.1 d_Mo_init_62 (by decide) ?_
        refine lv_goto (tgt := 69) S.1 S.2.1 d_Mo_init_65 (by decide) ?_
        exact J _ (q_cl2 c_48 c_59)
    · refine lv_iconst (v := 1) S.1 S.2.1 d_Mo_init_51 (by decide) ?_
      refine lv_goto (tgt := 69) S.1 S.2.1 d_Mo_init_52 (by decide) ?_
      exact J _ (q_cl1 c_48)
  · subst e_wv
    refine hp_putF S zz hJ hin h_t fp_Mo_27 rfl rfl rfl (nl rfl) d_Mo_init_69 (fun H locs hJ => ?_)
    obtain ⟨h11, eh11⟩ : ∃ z, z = hp_up h10 t (.inr (7, [.int 0, .int (q_cl w 5100), .int 0, .int 0, .null, .int 0, .ref ac, .ref dn, .ref fr, .ref sp, .int 0, .ref dt, .int 0, .int 0, .int 0, .int 0, .int 0, .int 0, .int 0, .int 0, .int 0, .int 0, .int 0])) := ⟨_, rfl⟩
    have hJ := hJ.cast eh11
    have h0_t := h_t
    have h_ac : h11 ac = some (k_in (cA 0) 64 (fun _ => 0)) := by rw [eh11]; exact hp_up_k (Ne.symm ne_t_ac) h_ac
    have h_dn : h11 dn = some (k_in (cA 0) 64 (fun _ => 0)) := by rw [eh11]; exact hp_up_k (Ne.symm ne_t_dn) h_dn
    have h_fr : h11 fr = some (k_in (cA 0) 64 (fun _ => 0)) := by rw [eh11]; exact hp_up_k (Ne.symm ne_t_fr) h_fr
    have h_sp : h11 sp = some (k_in (cA 2) 64 (fun _ => 0)) := by rw [eh11]; exact hp_up_k (Ne.symm ne_t_sp) h_sp
    have h_dt : h11 dt = some (k_lo (cA 1) 8192 (fun _ => 0)) := by rw [eh11]; exact hp_up_k (Ne.symm ne_t_dt) h_dt
    have h_t : h11 t = some (.inr (7, [.int 0, .int (q_cl w 5100), .int 0, .int 0, .null, .int 0, .ref ac, .ref dn, .ref fr, .ref sp, .int 0, .ref dt, .int 0, .int 0, .int 0, .int 0, .int 0, .int 0, .int 0, .int 0, .int 0, .int 0, .int 0])) := by rw [eh11]; exact hp_up_s _ _ _
    refine lv_aload_n S.1 S.2.1 d_Mo_init_72 rfl (lv_at hl 0 rfl) ?_
    refine hp_cut (fun v => v = q_cl hgt 5100) 96 [.ref t] (fun J => ?_) (fun hv e_hv => ?_)
    · refine lv_iload_n S.1 S.2.1 d_Mo_init_73 rfl (lv_at hl 2 rfl) ?_
      refine lv_iconst (v := 1) S.1 S.2.1 d_Mo_init_74 (by decide) ?_
      refine lv_icmp_ge (tgt := 82) S.1 S.2.1 d_Mo_init_75 (by decide) (fun c_75 => ?_) (fun c_75 => ?_)
      · refine lv_iload_n S.1 S.2.1 d_Mo_init_82 rfl (lv_at hl 2 rfl) ?_
        refine lv_sipush (v := 5100) S.1 S.2.1 d_Mo_init_83 (by decide) ?_
        refine lv_icmp_le (tgt := 95) S.1 S.2.1 d_Mo_init_86 (by decide) (fun c_86 => ?_) (fun c_86 => ?_)
        · refine lv_iload_n S.1 S.2.1 d_Mo_init_95 rfl (lv_at hl 2 rfl) ?_
          exact J _ (q_cl3 c_75 c_86)
        · refine lv_sipush (v := 5100) S.1 S.2.1 d_Mo_init_89 (by decide) ?_
          refine lv_goto (tgt := 96) S.1 S.2.1 d_Mo_init_92 (by decide) ?_
          exact J _ (q_cl2 c_75 c_86)
      · refine lv_iconst (v := 1) S.1 S.2.1 d_Mo_init_78 (by decide) ?_
        refine lv_goto (tgt := 96) S.1 S.2.1 d_Mo_init_79 (by decide) ?_
        exact J _ (q_cl1 c_75)
    · subst e_hv
      refine hp_putF S zz hJ hin h_t fp_Mo_31 rfl rfl rfl (nl rfl) d_Mo_init_96 (fun H locs hJ => ?_)
      obtain ⟨h12, eh12⟩ : ∃ z, z = hp_up h11 t (.inr (7, [.int 0, .int (q_cl w 5100), .int (q_cl hgt 5100), .int 0, .null, .int 0, .ref ac, .ref dn, .ref fr, .ref sp, .int 0, .ref dt, .int 0, .int 0, .int 0, .int 0, .int 0, .int 0, .int 0, .int 0, .int 0, .int 0, .int 0])) := ⟨_, rfl⟩
      have hJ := hJ.cast eh12
      have h0_t := h_t
      have h_ac : h12 ac = some (k_in (cA 0) 64 (fun _ => 0)) := by rw [eh12]; exact hp_up_k (Ne.symm ne_t_ac) h_ac
      have h_dn : h12 dn = some (k_in (cA 0) 64 (fun _ => 0)) := by rw [eh12]; exact hp_up_k (Ne.symm ne_t_dn) h_dn
      have h_fr : h12 fr = some (k_in (cA 0) 64 (fun _ => 0)) := by rw [eh12]; exact hp_up_k (Ne.symm ne_t_fr) h_fr
      have h_sp : h12 sp = some (k_in (cA 2) 64 (fun _ => 0)) := by rw [eh12]; exact hp_up_k (Ne.symm ne_t_sp) h_sp
      have h_dt : h12 dt = some (k_lo (cA 1) 8192 (fun _ => 0)) := by rw [eh12]; exact hp_up_k (Ne.symm ne_t_dt) h_dt
      have h_t : h12 t = some (.inr (7, [.int 0, .int (q_cl w 5100), .int (q_cl hgt 5100), .int 0, .null, .int 0, .ref ac, .ref dn, .ref fr, .ref sp, .int 0, .ref dt, .int 0, .int 0, .int 0, .int 0, .int 0, .int 0, .int 0, .int 0, .int 0, .int 0, .int 0])) := by rw [eh12]; exact hp_up_s _ _ _
      refine lv_aload_n S.1 S.2.1 d_Mo_init_99 rfl (lv_at hl 0 rfl) ?_
      refine hp_cut (fun v => v = q_cl b (q_cl hgt 5100)) 125 [.ref t] (fun J => ?_) (fun bv e_bv => ?_)
      · refine lv_iload_n S.1 S.2.1 d_Mo_init_100 rfl (lv_at hl 3 rfl) ?_
        refine lv_iconst (v := 1) S.1 S.2.1 d_Mo_init_101 (by decide) ?_
        refine lv_icmp_ge (tgt := 109) S.1 S.2.1 d_Mo_init_102 (by decide) (fun c_102 => ?_) (fun c_102 => ?_)
        · refine lv_iload_n S.1 S.2.1 d_Mo_init_109 rfl (lv_at hl 3 rfl) ?_
          refine lv_aload_n S.1 S.2.1 d_Mo_init_110 rfl (lv_at hl 0 rfl) ?_
          refine hp_get S zz hJ h_t f_Mo_31 rfl d_Mo_init_111 ?_
          refine lv_icmp_le (tgt := 124) S.1 S.2.1 d_Mo_init_114 (by decide) (fun c_114 => ?_) (fun c_114 => ?_)
          · refine lv_iload_n S.1 S.2.1 d_Mo_init_124 rfl (lv_at hl 3 rfl) ?_
            exact J _ (q_cl3 c_102 c_114)
          · refine lv_aload_n S.1 S.2.1 d_Mo_init_117 rfl (lv_at hl 0 rfl) ?_
            refine hp_get S zz hJ h_t f_Mo_31 rfl d_Mo_init_118 ?_
            refine lv_goto (tgt := 125) S.1 S.2.1 d_Mo_init_121 (by decide) ?_
            exact J _ (q_cl2 c_102 c_114)
        · refine lv_iconst (v := 1) S.1 S.2.1 d_Mo_init_105 (by decide) ?_
          refine lv_goto (tgt := 125) S.1 S.2.1 d_Mo_init_106 (by decide) ?_
          exact J _ (q_cl1 c_102)
      · subst e_bv
        refine hp_putF S zz hJ hin h_t fp_Mo_34 rfl rfl rfl (nl rfl) d_Mo_init_125 (fun H locs hJ => ?_)
        obtain ⟨h13, eh13⟩ : ∃ z, z = hp_up h12 t (.inr (7, [.int 0, .int (q_cl w 5100), .int (q_cl hgt 5100), .int (q_cl b (q_cl hgt 5100)), .null, .int 0, .ref ac, .ref dn, .ref fr, .ref sp, .int 0, .ref dt, .int 0, .int 0, .int 0, .int 0, .int 0, .int 0, .int 0, .int 0, .int 0, .int 0, .int 0])) := ⟨_, rfl⟩
        have hJ := hJ.cast eh13
        have h0_t := h_t
        have h_ac : h13 ac = some (k_in (cA 0) 64 (fun _ => 0)) := by rw [eh13]; exact hp_up_k (Ne.symm ne_t_ac) h_ac
        have h_dn : h13 dn = some (k_in (cA 0) 64 (fun _ => 0)) := by rw [eh13]; exact hp_up_k (Ne.symm ne_t_dn) h_dn
        have h_fr : h13 fr = some (k_in (cA 0) 64 (fun _ => 0)) := by rw [eh13]; exact hp_up_k (Ne.symm ne_t_fr) h_fr
        have h_sp : h13 sp = some (k_in (cA 2) 64 (fun _ => 0)) := by rw [eh13]; exact hp_up_k (Ne.symm ne_t_sp) h_sp
        have h_dt : h13 dt = some (k_lo (cA 1) 8192 (fun _ => 0)) := by rw [eh13]; exact hp_up_k (Ne.symm ne_t_dt) h_dt
        have h_t : h13 t = some (.inr (7, [.int 0, .int (q_cl w 5100), .int (q_cl hgt 5100), .int (q_cl b (q_cl hgt 5100)), .null, .int 0, .ref ac, .ref dn, .ref fr, .ref sp, .int 0, .ref dt, .int 0, .int 0, .int 0, .int 0, .int 0, .int 0, .int 0, .int 0, .int 0, .int 0, .int 0])) := by rw [eh13]; exact hp_up_s _ _ _
        refine lv_aload_n S.1 S.2.1 d_Mo_init_128 rfl (lv_at hl 0 rfl) ?_
        refine lv_bipush (v := 80) S.1 S.2.1 d_Mo_init_129 (by decide) ?_
        refine lv_aload_n S.1 S.2.1 d_Mo_init_131 rfl (lv_at hl 0 rfl) ?_
        refine hp_get S zz hJ h_t f_Mo_31 rfl d_Mo_init_132 ?_
        refine lv_imul S.1 S.2.1 d_Mo_init_135 ?_
        rw [show (80 : Int32) * q_cl hgt 5100 = nI (80 * hh) by rw [hhv.2]; exact pk_mul 80 hh]
        refine hp_newa S hJ 1 (atype := .long) (a0 := (80 * hh, .inr (.inl (fun _ => 0)))) (N' := 80 * hh) t_114 rfl (by intro C hC; cases hC) rfl (nI_pos (by omega)) (nI_clamp (by omega)) (show 80 * hh * 8 ≤ 536870912 by omega) (nl rfl) (show 8448 + 80 * hh ≤ 416448 by omega) d_Mo_init_136 (fun sh H hq_sh hs_sh hJ => ?_)
        refine W.widen (k := 6) (n := 416448) (by omega) (by omega) ?_
        have ne_t_sh : t ≠ sh := hp_neN h_t hq_sh
        have ne_ac_sh : ac ≠ sh := hp_neN h_ac hq_sh
        have ne_dn_sh : dn ≠ sh := hp_neN h_dn hq_sh
        have ne_fr_sh : fr ≠ sh := hp_neN h_fr hq_sh
        have ne_sp_sh : sp ≠ sh := hp_neN h_sp hq_sh
        have ne_dt_sh : dt ≠ sh := hp_neN h_dt hq_sh
        have hz_sh := hq_sh
        rw [eh13, eh12, eh11, eh10, eh9, eh8, eh7, eh6, eh5, eh4, eh3, eh2, eh1] at hz_sh
        have hN_sh : h sh = none := hp_up_none (hp_up_none (hp_up_none (hp_up_none (hp_up_none (hp_up_none (hp_up_none (hp_up_none (hp_up_none (hp_up_none (hp_up_none (hp_up_none (hp_up_none (hz_sh)))))))))))))
        obtain ⟨h14, eh14⟩ : ∃ z, z = hp_up h13 sh (k_lo (cA 1) (80 * hh) (fun _ => 0)) := ⟨_, rfl⟩
        have hJ := hJ.cast eh14
        have h_t : h14 t = some (.inr (7, [.int 0, .int (q_cl w 5100), .int (q_cl hgt 5100), .int (q_cl b (q_cl hgt 5100)), .null, .int 0, .ref ac, .ref dn, .ref fr, .ref sp, .int 0, .ref dt, .int 0, .int 0, .int 0, .int 0, .int 0, .int 0, .int 0, .int 0, .int 0, .int 0, .int 0])) := by rw [eh14]; exact hp_up_k (hp_neN h_t hq_sh) h_t
        have h_ac : h14 ac = some (k_in (cA 0) 64 (fun _ => 0)) := by rw [eh14]; exact hp_up_k (hp_neN h_ac hq_sh) h_ac
        have h_dn : h14 dn = some (k_in (cA 0) 64 (fun _ => 0)) := by rw [eh14]; exact hp_up_k (hp_neN h_dn hq_sh) h_dn
        have h_fr : h14 fr = some (k_in (cA 0) 64 (fun _ => 0)) := by rw [eh14]; exact hp_up_k (hp_neN h_fr hq_sh) h_fr
        have h_sp : h14 sp = some (k_in (cA 2) 64 (fun _ => 0)) := by rw [eh14]; exact hp_up_k (hp_neN h_sp hq_sh) h_sp
        have h_dt : h14 dt = some (k_lo (cA 1) 8192 (fun _ => 0)) := by rw [eh14]; exact hp_up_k (hp_neN h_dt hq_sh) h_dt
        have h_sh : h14 sh = some (k_lo (cA 1) (80 * hh) (fun _ => 0)) := by rw [eh14]; exact hp_up_s _ _ _
        refine hp_putF S zz hJ hin h_t fp_Mo_37 rfl rfl rfl (nl rfl) d_Mo_init_138 (fun H locs hJ => ?_)
        obtain ⟨h15, eh15⟩ : ∃ z, z = hp_up h14 t (.inr (7, [.int 0, .int (q_cl w 5100), .int (q_cl hgt 5100), .int (q_cl b (q_cl hgt 5100)), .ref sh, .int 0, .ref ac, .ref dn, .ref fr, .ref sp, .int 0, .ref dt, .int 0, .int 0, .int 0, .int 0, .int 0, .int 0, .int 0, .int 0, .int 0, .int 0, .int 0])) := ⟨_, rfl⟩
        have hJ := hJ.cast eh15
        have h0_t := h_t
        have h_ac : h15 ac = some (k_in (cA 0) 64 (fun _ => 0)) := by rw [eh15]; exact hp_up_k (Ne.symm ne_t_ac) h_ac
        have h_dn : h15 dn = some (k_in (cA 0) 64 (fun _ => 0)) := by rw [eh15]; exact hp_up_k (Ne.symm ne_t_dn) h_dn
        have h_fr : h15 fr = some (k_in (cA 0) 64 (fun _ => 0)) := by rw [eh15]; exact hp_up_k (Ne.symm ne_t_fr) h_fr
        have h_sp : h15 sp = some (k_in (cA 2) 64 (fun _ => 0)) := by rw [eh15]; exact hp_up_k (Ne.symm ne_t_sp) h_sp
        have h_dt : h15 dt = some (k_lo (cA 1) 8192 (fun _ => 0)) := by rw [eh15]; exact hp_up_k (Ne.symm ne_t_dt) h_dt
        have h_sh : h15 sh = some (k_lo (cA 1) (80 * hh) (fun _ => 0)) := by rw [eh15]; exact hp_up_k (Ne.symm ne_t_sh) h_sh
        have h_t : h15 t = some (.inr (7, [.int 0, .int (q_cl w 5100), .int (q_cl hgt 5100), .int (q_cl b (q_cl hgt 5100)), .ref sh, .int 0, .ref ac, .ref dn, .ref fr, .ref sp, .int 0, .ref dt, .int 0, .int 0, .int 0, .int 0, .int 0, .int 0, .int 0, .int 0, .int 0, .int 0, .int 0])) := by rw [eh15]; exact hp_up_s _ _ _
        refine lv_aload_n S.1 S.2.1 d_Mo_init_141 rfl (lv_at hl 0 rfl) ?_
        refine lv_aload_n S.1 S.2.1 d_Mo_init_142 rfl (lv_at hl 0 rfl) ?_
        refine hp_get S zz hJ h_t f_Mo_27 rfl d_Mo_init_143 ?_
        refine lv_iconst (v := 1) S.1 S.2.1 d_Mo_init_146 (by decide) ?_
        refine lv_isub S.1 S.2.1 d_Mo_init_147 ?_
        refine hp_put S zz hJ h_t fp_Mo_40 rfl rfl (nl rfl) d_Mo_init_148 (fun H locs hJ => ?_)
        obtain ⟨h16, eh16⟩ : ∃ z, z = hp_up h15 t (.inr (7, [.int 0, .int (q_cl w 5100), .int (q_cl hgt 5100), .int (q_cl b (q_cl hgt 5100)), .ref sh, .int 0, .ref ac, .ref dn, .ref fr, .ref sp, .int 0, .ref dt, .int 0, .int 0, .int 0, .int 0, .int 0, .int 0, .int 0, .int 0, .int 0, .int ((q_cl w 5100) - (1 : Int32)), .int 0])) := ⟨_, rfl⟩
        have hJ := hJ.cast eh16
        have h0_t := h_t
        have h_ac : h16 ac = some (k_in (cA 0) 64 (fun _ => 0)) := by rw [eh16]; exact hp_up_k (Ne.symm ne_t_ac) h_ac
        have h_dn : h16 dn = some (k_in (cA 0) 64 (fun _ => 0)) := by rw [eh16]; exact hp_up_k (Ne.symm ne_t_dn) h_dn
        have h_fr : h16 fr = some (k_in (cA 0) 64 (fun _ => 0)) := by rw [eh16]; exact hp_up_k (Ne.symm ne_t_fr) h_fr
        have h_sp : h16 sp = some (k_in (cA 2) 64 (fun _ => 0)) := by rw [eh16]; exact hp_up_k (Ne.symm ne_t_sp) h_sp
        have h_dt : h16 dt = some (k_lo (cA 1) 8192 (fun _ => 0)) := by rw [eh16]; exact hp_up_k (Ne.symm ne_t_dt) h_dt
        have h_sh : h16 sh = some (k_lo (cA 1) (80 * hh) (fun _ => 0)) := by rw [eh16]; exact hp_up_k (Ne.symm ne_t_sh) h_sh
        have h_t : h16 t = some (.inr (7, [.int 0, .int (q_cl w 5100), .int (q_cl hgt 5100), .int (q_cl b (q_cl hgt 5100)), .ref sh, .int 0, .ref ac, .ref dn, .ref fr, .ref sp, .int 0, .ref dt, .int 0, .int 0, .int 0, .int 0, .int 0, .int 0, .int 0, .int 0, .int 0, .int ((q_cl w 5100) - (1 : Int32)), .int 0])) := by rw [eh16]; exact hp_up_s _ _ _
        refine lv_aload_n S.1 S.2.1 d_Mo_init_151 rfl (lv_at hl 0 rfl) ?_
        refine lv_aload_n S.1 S.2.1 d_Mo_init_152 rfl (lv_at hl 0 rfl) ?_
        refine hp_get S zz hJ h_t f_Mo_31 rfl d_Mo_init_153 ?_
        refine lv_iconst (v := 1) S.1 S.2.1 d_Mo_init_156 (by decide) ?_
        refine lv_isub S.1 S.2.1 d_Mo_init_157 ?_
        refine hp_put S zz hJ h_t fp_Mo_43 rfl rfl (nl rfl) d_Mo_init_158 (fun H locs hJ => ?_)
        obtain ⟨h17, eh17⟩ : ∃ z, z = hp_up h16 t (.inr (7, [.int 0, .int (q_cl w 5100), .int (q_cl hgt 5100), .int (q_cl b (q_cl hgt 5100)), .ref sh, .int 0, .ref ac, .ref dn, .ref fr, .ref sp, .int 0, .ref dt, .int 0, .int 0, .int 0, .int 0, .int 0, .int 0, .int 0, .int 0, .int 0, .int ((q_cl w 5100) - (1 : Int32)), .int ((q_cl hgt 5100) - (1 : Int32))])) := ⟨_, rfl⟩
        have hJ := hJ.cast eh17
        have h0_t := h_t
        have h_ac : h17 ac = some (k_in (cA 0) 64 (fun _ => 0)) := by rw [eh17]; exact hp_up_k (Ne.symm ne_t_ac) h_ac
        have h_dn : h17 dn = some (k_in (cA 0) 64 (fun _ => 0)) := by rw [eh17]; exact hp_up_k (Ne.symm ne_t_dn) h_dn
        have h_fr : h17 fr = some (k_in (cA 0) 64 (fun _ => 0)) := by rw [eh17]; exact hp_up_k (Ne.symm ne_t_fr) h_fr
        have h_sp : h17 sp = some (k_in (cA 2) 64 (fun _ => 0)) := by rw [eh17]; exact hp_up_k (Ne.symm ne_t_sp) h_sp
        have h_dt : h17 dt = some (k_lo (cA 1) 8192 (fun _ => 0)) := by rw [eh17]; exact hp_up_k (Ne.symm ne_t_dt) h_dt
        have h_sh : h17 sh = some (k_lo (cA 1) (80 * hh) (fun _ => 0)) := by rw [eh17]; exact hp_up_k (Ne.symm ne_t_sh) h_sh
        have h_t : h17 t = some (.inr (7, [.int 0, .int (q_cl w 5100), .int (q_cl hgt 5100), .int (q_cl b (q_cl hgt 5100)), .ref sh, .int 0, .ref ac, .ref dn, .ref fr, .ref sp, .int 0, .ref dt, .int 0, .int 0, .int 0, .int 0, .int 0, .int 0, .int 0, .int 0, .int 0, .int ((q_cl w 5100) - (1 : Int32)), .int ((q_cl hgt 5100) - (1 : Int32))])) := by rw [eh17]; exact hp_up_s _ _ _
        refine hp_retWv S hJ hr hlk d_Mo_init_161 (by decide) ⟨sh, ac, dn, fr, sp, dt, hN_sh, hN_ac, hN_dn, hN_fr, hN_sp, hN_dt, ⟨ne_ac_dn, ne_ac_fr, ne_ac_sp, ne_dn_fr, ne_dn_sp, ne_fr_sp, ne_dt_sh⟩, ⟨h_sh, h_ac, h_dn, h_fr, h_sp, h_dt⟩, ?_⟩
        rw [eh17, eh16, eh15, eh14, eh13, eh12, eh11, eh10, eh9, eh8, eh7, eh6, eh5, eh4, eh3, eh2, eh1, q_m0_k]
        funext q9
        by_cases z9 : q9 = t
        · rw [z9, hp_up_s, hp_up_s]
        · simp only [hp_up, if_neg z9]

