/-! The reference stamps. -/
def q_mi (S : (Nat → Int64) → Nat → Nat → Int64) (F : Nat → Int64) : Nat → Nat → Int64
  | 0 => F
  | i + 1 => S (q_mi S F i) i
/-- a mark's dots laid one behind the other: w across, then down -/
def q_sp (mf : Nat → Int32) (x y : Int32) (dot : Nat → Nat → Int32) (w : Nat) (f : Nat → Int64) : Nat → Nat → Int64 := q_mi (fun F j => q_mi (fun F i => q_pt mf F (q_lx (mf 18) x (nI i) (nI j)) (q_lyy (mf 18) y (nI i) (nI j)) (dot i j)) F w) f

set_option maxHeartbeats 4000000 in
set_option maxRecDepth 100000 in
theorem cF_Mo_stamp (l : Launch) (dC : Nat → ClassId) (dI : Nat → Nat → Nat) (cA : Nat → ClassId) (A : Nat → Prop) (h : hp_T) (t sh ac dn fr sp dt : Nat) (mf : Nat → Int32) (s9 x y : Int32) (h_t : h t = some (k_Mo mf sh ac dn fr sp dt)) (hF : ¬ ((0 ≤ s9 ∧ s9 < mf 5) ∧ (-10000 ≤ x ∧ x ≤ 10000) ∧ (-10000 ≤ y ∧ y ≤ 10000) ∧ ¬ mf 12 = 4096)) : Met l y_Mo_stamp (.code y_Mo_stamp prog_9_method_21_code 6 (some .boolean) :: BIG) ({ frames := 4, cells := 0, slots := 0, locals := 100 }) (va_Pc [.ref t, .int s9, .int x, .int y] (hp_I (gg dC dI cA) A h)) (hp_QW (gg dC dI cA) A hp_mi (fun r h' => r = 0 ∧ h' = hp_up h t (k_Mo (upd mf 0 0) sh ac dn fr sp dt))) 0 0 A := by
  refine hp_enter (by decide) (Nat.le_of_ble_eq_true rfl) ?_
  intro p e s m below meth c ls S hr hlk hin hI hl
  have hl : lv_has ls 6 [(0, .ref t), (1, .int s9), (2, .int x), (3, .int y)] := hl
  have hJ := hI.J
  refine lv_aload_n S.1 S.2.1 d_Mo_stamp_0 rfl (lv_at hl 0 rfl) ?_
  refine lv_iconst (v := 0) S.1 S.2.1 d_Mo_stamp_1 (by decide) ?_
  refine hp_put S zz hJ h_t fp_Mo_46 rfl rfl (nl rfl) d_Mo_stamp_2 (fun H locs hJ => ?_)
  obtain ⟨h1, eh1⟩ : ∃ z, z = hp_up h t (.inr (7, [.int 0, .int (mf 1), .int (mf 2), .int (mf 3), .ref sh, .int (mf 5), .ref ac, .ref dn, .ref fr, .ref sp, .int (mf 10), .ref dt, .int (mf 12), .int (mf 13), .int (mf 14), .int (mf 15), .int (mf 16), .int (mf 17), .int (mf 18), .int (mf 19), .int (mf 20), .int (mf 21), .int (mf 22)])) := ⟨_, rfl⟩
  have hJ := hJ.cast eh1
  have h0_t := h_t
  have h_t : h1 t = some (.inr (7, [.int 0, .int (mf 1), .int (mf 2), .int (mf 3), .ref sh, .int (mf 5), .ref ac, .ref dn, .ref fr, .ref sp, .int (mf 10), .ref dt, .int (mf 12), .int (mf 13), .int (mf 14), .int (mf 15), .int (mf 16), .int (mf 17), .int (mf 18), .int (mf 19), .int (mf 20), .int (mf 21), .int (mf 22)])) := by rw [eh1]; exact hp_up_s _ _ _
  refine lv_aload_n S.1 S.2.1 d_Mo_stamp_5 rfl (lv_at hl 0 rfl) ?_
  refine lv_iload_n S.1 S.2.1 d_Mo_stamp_6 rfl (lv_at hl 1 rfl) ?_
  refine hp_doneR (hp_runV S zz0 (c_Mo_isShape l dC dI cA A _ t sh ac dn fr sp dt (upd mf 0 0) _ h_t) l_Mo_101 (hJ.preV _ h_t rfl) (by decide) rfl hl.1 rfl (nl rfl) d_Mo_stamp_7 (by decide)) ?_
  refine lv_if_eq (tgt := 37) S.1 S.2.1 d_Mo_stamp_10 (by decide) (fun c_10 => ?_) (fun c_10 => ?_)
  · refine lv_iconst (v := 0) S.1 S.2.1 d_Mo_stamp_37 (by decide) ?_
    exact hp_retWz S hJ hr hlk d_Mo_stamp_38 (by decide) (by decide) ⟨rfl, by rw [eh1]; (try simp only [hp_up_up]); rfl⟩
  · refine lv_iload_n S.1 S.2.1 d_Mo_stamp_13 rfl (lv_at hl 2 rfl) ?_
    refine hp_doneR (hp_runS S zz0 (c_Mo_isPlace l _) l_Mo_109 (hp_pre0 _) (by decide) rfl hl.1 rfl (nl rfl) d_Mo_stamp_14 (by decide)) ?_
    refine lv_if_eq (tgt := 37) S.1 S.2.1 d_Mo_stamp_17 (by decide) (fun c_17 => ?_) (fun c_17 => ?_)
    · refine lv_iconst (v := 0) S.1 S.2.1 d_Mo_stamp_37 (by decide) ?_
      exact hp_retWz S hJ hr hlk d_Mo_stamp_38 (by decide) (by decide) ⟨rfl, by rw [eh1]; (try simp only [hp_up_up]); rfl⟩
    · refine lv_iload_n S.1 S.2.1 d_Mo_stamp_20 rfl (lv_at hl 3 rfl) ?_
      refine hp_doneR (hp_runS S zz0 (c_Mo_isPlace l _) l_Mo_109 (hp_pre0 _) (by decide) rfl hl.1 rfl (nl rfl) d_Mo_stamp_21 (by decide)) ?_
      refine lv_if_eq (tgt := 37) S.1 S.2.1 d_Mo_stamp_24 (by decide) (fun c_24 => ?_) (fun c_24 => ?_)
      · refine lv_iconst (v := 0) S.1 S.2.1 d_Mo_stamp_37 (by decide) ?_
        exact hp_retWz S hJ hr hlk d_Mo_stamp_38 (by decide) (by decide) ⟨rfl, by rw [eh1]; (try simp only [hp_up_up]); rfl⟩
      · refine lv_aload_n S.1 S.2.1 d_Mo_stamp_27 rfl (lv_at hl 0 rfl) ?_
        refine hp_get S zz hJ h_t f_Mo_112 rfl d_Mo_stamp_28 ?_
        refine lv_sipush (v := 4096) S.1 S.2.1 d_Mo_stamp_31 (by decide) ?_
        refine lv_icmp_ne (tgt := 39) S.1 S.2.1 d_Mo_stamp_34 (by decide) (fun q => absurd ⟨q_is_ne.mp c_10, q_is_ne.mp c_17, q_is_ne.mp c_24, q⟩ hF) (fun _ => ?_)
        refine lv_iconst (v := 0) S.1 S.2.1 d_Mo_stamp_37 (by decide) ?_
        exact hp_retWz S hJ hr hlk d_Mo_stamp_38 (by decide) (by decide) ⟨rfl, by rw [eh1]; (try simp only [hp_up_up]); rfl⟩

set_option maxHeartbeats 4000000 in
set_option maxRecDepth 100000 in
theorem c_Mo_stamp (l : Launch) (dC : Nat → ClassId) (dI : Nat → Nat → Nat) (cA : Nat → ClassId) (A : Nat → Prop) (h : hp_T) (t sh ac dn fr sp dt : Nat) (mf : Nat → Int32) (ss hh ww w d r : Nat) (x y : Int32) (f ds : Nat → Int64) (ga gd gf gs : Nat → Int32) (h_t : h t = some (k_Mo mf sh ac dn fr sp dt)) (hF : (0 ≤ nI ss ∧ nI ss < mf 5) ∧ (-10000 ≤ x ∧ x ≤ 10000) ∧ (-10000 ≤ y ∧ y ≤ 10000) ∧ ¬ mf 12 = 4096) (hs : ss < 64) (hw : ww ≤ 5100 ∧ mf 1 = nI ww) (hh2 : hh ≤ 5100 ∧ mf 2 = nI hh) (ha : ga ss = nI w ∧ w ≤ 128) (hd : gd ss = nI d ∧ d ≤ 128) (hr0 : gf ss = nI r) (hrd : r + d ≤ 4096) (h_sh : h sh = some (k_lo (cA 1) (80 * hh) f)) (h_ac : h ac = some (k_in (cA 0) 64 ga)) (h_dn : h dn = some (k_in (cA 0) 64 gd)) (h_fr : h fr = some (k_in (cA 0) 64 gf)) (h_sp : h sp = some (k_in (cA 2) 64 gs)) (h_dt : h dt = some (k_lo (cA 1) 8192 ds)) (ne_ac_sp : ac ≠ sp) (ne_dn_sp : dn ≠ sp) (ne_fr_sp : fr ≠ sp) (ne_sh_dt : sh ≠ dt) : Met l y_Mo_stamp (.code y_Mo_stamp prog_9_method_21_code 6 (some .boolean) :: BIG) ({ frames := 4, cells := 0, slots := 0, locals := 100 }) (va_Pc [.ref t, .int (nI ss), .int x, .int y] (hp_I (gg dC dI cA) A h)) (hp_QW (gg dC dI cA) A hp_mi (fun r9 h' => r9 = 1 ∧ h' = hp_up (hp_up (hp_up h t (k_Mo (upd (upd mf 0 0) 12 (mf 12 + 1)) sh ac dn fr sp dt)) sp (k_in (cA 2) 64 (upd gs ss 1))) sh (k_lo (cA 1) (80 * hh) (q_sp (upd (upd mf 0 0) 12 (mf 12 + 1)) x y (fun i j => q_is (tb (ds (2 * (r + j) + i / 64)) (i % 64) = true)) w f d)))) 0 0 A := by
  refine hp_enter (by decide) (Nat.le_of_ble_eq_true rfl) ?_
  intro p e s m below meth c ls S hr hlk hin hI hl
  have hl : lv_has ls 6 [(0, .ref t), (1, .int (nI ss)), (2, .int x), (3, .int y)] := hl
  have hJ := hI.J
  refine lv_aload_n S.1 S.2.1 d_Mo_stamp_0 rfl (lv_at hl 0 rfl) ?_
  refine lv_iconst (v := 0) S.1 S.2.1 d_Mo_stamp_1 (by decide) ?_
  refine hp_put S zz hJ h_t fp_Mo_46 rfl rfl (nl rfl) d_Mo_stamp_2 (fun H locs hJ => ?_)
  obtain ⟨h1, eh1⟩ : ∃ z, z = hp_up h t (.inr (7, [.int 0, .int (mf 1), .int (mf 2), .int (mf 3), .ref sh, .int (mf 5), .ref ac, .ref dn, .ref fr, .ref sp, .int (mf 10), .ref dt, .int (mf 12), .int (mf 13), .int (mf 14), .int (mf 15), .int (mf 16), .int (mf 17), .int (mf 18), .int (mf 19), .int (mf 20), .int (mf 21), .int (mf 22)])) := ⟨_, rfl⟩
  have hJ := hJ.cast eh1
  have h0_t := h_t
  have h_sh : h1 sh = some (k_lo (cA 1) (80 * hh) f) := by rw [eh1]; exact hp_up_k (hp_ne h_sh h0_t (show ((2, 0) : Nat × Nat) ≠ (0, 7) by decide)) h_sh
  have h_ac : h1 ac = some (k_in (cA 0) 64 ga) := by rw [eh1]; exact hp_up_k (hp_ne h_ac h0_t (show ((1, 0) : Nat × Nat) ≠ (0, 7) by decide)) h_ac
  have h_dn : h1 dn = some (k_in (cA 0) 64 gd) := by rw [eh1]; exact hp_up_k (hp_ne h_dn h0_t (show ((1, 0) : Nat × Nat) ≠ (0, 7) by decide)) h_dn
  have h_fr : h1 fr = some (k_in (cA 0) 64 gf) := by rw [eh1]; exact hp_up_k (hp_ne h_fr h0_t (show ((1, 0) : Nat × Nat) ≠ (0, 7) by decide)) h_fr
  have h_sp : h1 sp = some (k_in (cA 2) 64 gs) := by rw [eh1]; exact hp_up_k (hp_ne h_sp h0_t (show ((1, 0) : Nat × Nat) ≠ (0, 7) by decide)) h_sp
  have h_dt : h1 dt = some (k_lo (cA 1) 8192 ds) := by rw [eh1]; exact hp_up_k (hp_ne h_dt h0_t (show ((2, 0) : Nat × Nat) ≠ (0, 7) by decide)) h_dt
  have h_t : h1 t = some (.inr (7, [.int 0, .int (mf 1), .int (mf 2), .int (mf 3), .ref sh, .int (mf 5), .ref ac, .ref dn, .ref fr, .ref sp, .int (mf 10), .ref dt, .int (mf 12), .int (mf 13), .int (mf 14), .int (mf 15), .int (mf 16), .int (mf 17), .int (mf 18), .int (mf 19), .int (mf 20), .int (mf 21), .int (mf 22)])) := by rw [eh1]; exact hp_up_s _ _ _
  refine lv_aload_n S.1 S.2.1 d_Mo_stamp_5 rfl (lv_at hl 0 rfl) ?_
  refine lv_iload_n S.1 S.2.1 d_Mo_stamp_6 rfl (lv_at hl 1 rfl) ?_
  refine hp_doneR (hp_runV S zz0 (c_Mo_isShape l dC dI cA A _ t sh ac dn fr sp dt (upd mf 0 0) _ h_t) l_Mo_101 (hJ.preV _ h_t rfl) (by decide) rfl hl.1 rfl (nl rfl) d_Mo_stamp_7 (by decide)) ?_
  refine lv_if_eq (tgt := 37) S.1 S.2.1 d_Mo_stamp_10 (by decide) (fun q => absurd hF.1 (q_is_0.mp q)) (fun _ => ?_)
  refine lv_iload_n S.1 S.2.1 d_Mo_stamp_13 rfl (lv_at hl 2 rfl) ?_
  refine hp_doneR (hp_runS S zz0 (c_Mo_isPlace l _) l_Mo_109 (hp_pre0 _) (by decide) rfl hl.1 rfl (nl rfl) d_Mo_stamp_14 (by decide)) ?_
  refine lv_if_eq (tgt := 37) S.1 S.2.1 d_Mo_stamp_17 (by decide) (fun q => absurd hF.2.1 (q_is_0.mp q)) (fun _ => ?_)
  refine lv_iload_n S.1 S.2.1 d_Mo_stamp_20 rfl (lv_at hl 3 rfl) ?_
  refine hp_doneR (hp_runS S zz0 (c_Mo_isPlace l _) l_Mo_109 (hp_pre0 _) (by decide) rfl hl.1 rfl (nl rfl) d_Mo_stamp_21 (by decide)) ?_
  refine lv_if_eq (tgt := 37) S.1 S.2.1 d_Mo_stamp_24 (by decide) (fun q => absurd hF.2.2.1 (q_is_0.mp q)) (fun _ => ?_)
  refine lv_aload_n S.1 S.2.1 d_Mo_stamp_27 rfl (lv_at hl 0 rfl) ?_
  refine hp_get S zz hJ h_t f_Mo_112 rfl d_Mo_stamp_28 ?_
  refine lv_sipush (v := 4096) S.1 S.2.1 d_Mo_stamp_31 (by decide) ?_
  refine lv_icmp_ne (tgt := 39) S.1 S.2.1 d_Mo_stamp_34 (by decide) (fun _ => ?_) (fun q => absurd q hF.2.2.2)
  refine lv_aload_n S.1 S.2.1 d_Mo_stamp_39 rfl (lv_at hl 0 rfl) ?_
  refine lv_dup S.1 S.2.1 d_Mo_stamp_40 rfl ?_
  refine hp_get S zz hJ h_t f_Mo_112 rfl d_Mo_stamp_41 ?_
  refine lv_iconst (v := 1) S.1 S.2.1 d_Mo_stamp_44 (by decide) ?_
  refine lv_iadd S.1 S.2.1 d_Mo_stamp_45 ?_
  refine hp_put S zz hJ h_t fp_Mo_112 rfl rfl (nl rfl) d_Mo_stamp_46 (fun H locs hJ => ?_)
  obtain ⟨h2, eh2⟩ : ∃ z, z = hp_up h1 t (.inr (7, [.int 0, .int (mf 1), .int (mf 2), .int (mf 3), .ref sh, .int (mf 5), .ref ac, .ref dn, .ref fr, .ref sp, .int (mf 10), .ref dt, .int ((mf 12) + (1 : Int32)), .int (mf 13), .int (mf 14), .int (mf 15), .int (mf 16), .int (mf 17), .int (mf 18), .int (mf 19), .int (mf 20), .int (mf 21), .int (mf 22)])) := ⟨_, rfl⟩
  have hJ := hJ.cast eh2
  have h0_t := h_t
  have h_sh : h2 sh = some (k_lo (cA 1) (80 * hh) f) := by rw [eh2]; exact hp_up_k (hp_ne h_sh h0_t (show ((2, 0) : Nat × Nat) ≠ (0, 7) by decide)) h_sh
  have h_ac : h2 ac = some (k_in (cA 0) 64 ga) := by rw [eh2]; exact hp_up_k (hp_ne h_ac h0_t (show ((1, 0) : Nat × Nat) ≠ (0, 7) by decide)) h_ac
  have h_dn : h2 dn = some (k_in (cA 0) 64 gd) := by rw [eh2]; exact hp_up_k (hp_ne h_dn h0_t (show ((1, 0) : Nat × Nat) ≠ (0, 7) by decide)) h_dn
  have h_fr : h2 fr = some (k_in (cA 0) 64 gf) := by rw [eh2]; exact hp_up_k (hp_ne h_fr h0_t (show ((1, 0) : Nat × Nat) ≠ (0, 7) by decide)) h_fr
  have h_sp : h2 sp = some (k_in (cA 2) 64 gs) := by rw [eh2]; exact hp_up_k (hp_ne h_sp h0_t (show ((1, 0) : Nat × Nat) ≠ (0, 7) by decide)) h_sp
  have h_dt : h2 dt = some (k_lo (cA 1) 8192 ds) := by rw [eh2]; exact hp_up_k (hp_ne h_dt h0_t (show ((2, 0) : Nat × Nat) ≠ (0, 7) by decide)) h_dt
  have h_t : h2 t = some (.inr (7, [.int 0, .int (mf 1), .int (mf 2), .int (mf 3), .ref sh, .int (mf 5), .ref ac, .ref dn, .ref fr, .ref sp, .int (mf 10), .ref dt, .int ((mf 12) + (1 : Int32)), .int (mf 13), .int (mf 14), .int (mf 15), .int (mf 16), .int (mf 17), .int (mf 18), .int (mf 19), .int (mf 20), .int (mf 21), .int (mf 22)])) := by rw [eh2]; exact hp_up_s _ _ _
  refine lv_aload_n S.1 S.2.1 d_Mo_stamp_49 rfl (lv_at hl 0 rfl) ?_
  refine hp_get S zz hJ h_t f_Mo_19 rfl d_Mo_stamp_50 ?_
  refine lv_iload_n S.1 S.2.1 d_Mo_stamp_53 rfl (lv_at hl 1 rfl) ?_
  refine lv_iconst (v := 1) S.1 S.2.1 d_Mo_stamp_54 (by decide) ?_
  refine hp_zast S hJ 2 h_sp rfl (vp_in_nI hs (by decide)) d_Mo_stamp_55 (fun H locs hJ => ?_)
  rw [nI_clamp (by omega), z_nar1] at hJ
  obtain ⟨h3, eh3⟩ : ∃ z, z = hp_up h2 sp (k_in (cA 2) 64 (upd gs ss 1)) := ⟨_, rfl⟩
  have hJ := hJ.cast eh3
  have h0_sp := h_sp
  have h_t : h3 t = some (.inr (7, [.int 0, .int (mf 1), .int (mf 2), .int (mf 3), .ref sh, .int (mf 5), .ref ac, .ref dn, .ref fr, .ref sp, .int (mf 10), .ref dt, .int ((mf 12) + (1 : Int32)), .int (mf 13), .int (mf 14), .int (mf 15), .int (mf 16), .int (mf 17), .int (mf 18), .int (mf 19), .int (mf 20), .int (mf 21), .int (mf 22)])) := by rw [eh3]; exact hp_up_k (hp_ne h_t h0_sp (show ((0, 7) : Nat × Nat) ≠ (1, 0) by decide)) h_t
  have h_sh : h3 sh = some (k_lo (cA 1) (80 * hh) f) := by rw [eh3]; exact hp_up_k (hp_ne h_sh h0_sp (show ((2, 0) : Nat × Nat) ≠ (1, 0) by decide)) h_sh
  have h_ac : h3 ac = some (k_in (cA 0) 64 ga) := by rw [eh3]; exact hp_up_k (ne_ac_sp) h_ac
  have h_dn : h3 dn = some (k_in (cA 0) 64 gd) := by rw [eh3]; exact hp_up_k (ne_dn_sp) h_dn
  have h_fr : h3 fr = some (k_in (cA 0) 64 gf) := by rw [eh3]; exact hp_up_k (ne_fr_sp) h_fr
  have h_dt : h3 dt = some (k_lo (cA 1) 8192 ds) := by rw [eh3]; exact hp_up_k (hp_ne h_dt h0_sp (show ((2, 0) : Nat × Nat) ≠ (1, 0) by decide)) h_dt
  have h_sp : h3 sp = some (k_in (cA 2) 64 (upd gs ss 1)) := by rw [eh3]; exact hp_up_s _ _ _
  refine lv_iconst (v := 0) S.1 S.2.1 d_Mo_stamp_56 (by decide) ?_
  refine lv_istore (lv' := [(4, .int 0), (0, .ref t), (1, .int (nI ss)), (2, .int x), (3, .int y)]) S.1 S.2.1 d_Mo_stamp_57 hl (by decide) rfl (fun ls hl => ?_)
  have h_t0 := h_t
  have h_sh0 := h_sh
  have h_ac0 := h_ac
  have h_dn0 := h_dn
  have h_fr0 := h_fr
  have h_dt0 := h_dt
  have LP : ∀ (n_ j : Nat) (hc : hp_T) (H : Heap) (locs : List Loc) (ls : Array Slot), j + n_ = d → hc = hp_up h3 sh (k_lo (cA 1) (80 * hh) (q_sp (upd (upd mf 0 0) 12 (mf 12 + 1)) x y (fun i j => q_is (tb (ds (2 * (r + j) + i / 64)) (i % 64) = true)) w f j)) → hp_J (gg dC dI cA) A hc s H locs → lv_has ls 6 [(4, .int (nI j)), (0, .ref t), (1, .int (nI ss)), (2, .int x), (3, .int y)] → W p l e ({ frames := 4, cells := 0, slots := 0, locals := 100 }) s m ([.ref t, .int (nI ss), .int x, .int y] : List Value).toArray below meth c H locs 0 0 (MQ below (hp_QW (gg dC dI cA) A hp_mi (fun r9 h' => r9 = 1 ∧ h' = hp_up (hp_up (hp_up h t (k_Mo (upd (upd mf 0 0) 12 (mf 12 + 1)) sh ac dn fr sp dt)) sp (k_in (cA 2) 64 (upd gs ss 1))) sh (k_lo (cA 1) (80 * hh) (q_sp (upd (upd mf 0 0) 12 (mf 12 + 1)) x y (fun i j => q_is (tb (ds (2 * (r + j) + i / 64)) (i % 64) = true)) w f d)))) ([.ref t, .int (nI ss), .int x, .int y] : List Value).toArray s 0 0 A) (F0 m 59 ls []) := by
    intro n_
    induction n_ with
    | zero =>
      intro j hc H locs ls hu_ ehc hJ hl
      have h_sh : hc sh = some (k_lo (cA 1) (80 * hh) (q_sp (upd (upd mf 0 0) 12 (mf 12 + 1)) x y (fun i j => q_is (tb (ds (2 * (r + j) + i / 64)) (i % 64) = true)) w f j)) := by rw [ehc]; exact hp_up_s _ _ _
      have h_t : hc t = some (k_Mo (upd (upd mf 0 0) 12 (mf 12 + 1)) sh ac dn fr sp dt) := by rw [ehc]; exact hp_up_k (hp_ne h_t0 h_sh0 (show ((0, 7) : Nat × Nat) ≠ (2, 0) by decide)) h_t0
      have h_ac : hc ac = some (k_in (cA 0) 64 ga) := by rw [ehc]; exact hp_up_k (hp_ne h_ac0 h_sh0 (show ((1, 0) : Nat × Nat) ≠ (2, 0) by decide)) h_ac0
      have h_dn : hc dn = some (k_in (cA 0) 64 gd) := by rw [ehc]; exact hp_up_k (hp_ne h_dn0 h_sh0 (show ((1, 0) : Nat × Nat) ≠ (2, 0) by decide)) h_dn0
      have h_fr : hc fr = some (k_in (cA 0) 64 gf) := by rw [ehc]; exact hp_up_k (hp_ne h_fr0 h_sh0 (show ((1, 0) : Nat × Nat) ≠ (2, 0) by decide)) h_fr0
      have h_dt : hc dt = some (k_lo (cA 1) 8192 ds) := by rw [ehc]; exact hp_up_k (Ne.symm ne_sh_dt) h_dt0
      refine lv_iload S.1 S.2.1 d_Mo_stamp_59 (lv_at hl 0 rfl) ?_
      refine lv_aload_n S.1 S.2.1 d_Mo_stamp_61 rfl (lv_at hl 1 rfl) ?_
      refine hp_get S zz hJ h_t f_Mo_13 rfl d_Mo_stamp_62 ?_
      refine lv_iload_n S.1 S.2.1 d_Mo_stamp_65 rfl (lv_at hl 2 rfl) ?_
      refine hp_iald S hJ 0 h_dn rfl (vp_in_nI hs (by decide)) d_Mo_stamp_66 ?_
      rw [nI_clamp (by omega), hd.1]
      obtain ⟨e_n, -⟩ : j = d ∧ True := ⟨by omega, trivial⟩
      refine lv_icmp_ge (tgt := 115) S.1 S.2.1 d_Mo_stamp_67 (by decide) (fun _ => ?_) (fun q => absurd (by rw [e_n]; exact Int32.le_refl _) q)
      refine lv_iconst (v := 1) S.1 S.2.1 d_Mo_stamp_115 (by decide) ?_
      exact hp_retWz S hJ hr hlk d_Mo_stamp_116 (by decide) (by decide) ⟨rfl, by rw [ehc, e_n, eh3, eh2, eh1]; (try simp only [hp_up_up]); rfl⟩
    | succ n_ ih =>
      intro j hc H locs ls hu_ ehc hJ hl
      have h_sh : hc sh = some (k_lo (cA 1) (80 * hh) (q_sp (upd (upd mf 0 0) 12 (mf 12 + 1)) x y (fun i j => q_is (tb (ds (2 * (r + j) + i / 64)) (i % 64) = true)) w f j)) := by rw [ehc]; exact hp_up_s _ _ _
      have h_t : hc t = some (k_Mo (upd (upd mf 0 0) 12 (mf 12 + 1)) sh ac dn fr sp dt) := by rw [ehc]; exact hp_up_k (hp_ne h_t0 h_sh0 (show ((0, 7) : Nat × Nat) ≠ (2, 0) by decide)) h_t0
      have h_ac : hc ac = some (k_in (cA 0) 64 ga) := by rw [ehc]; exact hp_up_k (hp_ne h_ac0 h_sh0 (show ((1, 0) : Nat × Nat) ≠ (2, 0) by decide)) h_ac0
      have h_dn : hc dn = some (k_in (cA 0) 64 gd) := by rw [ehc]; exact hp_up_k (hp_ne h_dn0 h_sh0 (show ((1, 0) : Nat × Nat) ≠ (2, 0) by decide)) h_dn0
      have h_fr : hc fr = some (k_in (cA 0) 64 gf) := by rw [ehc]; exact hp_up_k (hp_ne h_fr0 h_sh0 (show ((1, 0) : Nat × Nat) ≠ (2, 0) by decide)) h_fr0
      have h_dt : hc dt = some (k_lo (cA 1) 8192 ds) := by rw [ehc]; exact hp_up_k (Ne.symm ne_sh_dt) h_dt0
      refine lv_iload S.1 S.2.1 d_Mo_stamp_59 (lv_at hl 0 rfl) ?_
      refine lv_aload_n S.1 S.2.1 d_Mo_stamp_61 rfl (lv_at hl 1 rfl) ?_
      refine hp_get S zz hJ h_t f_Mo_13 rfl d_Mo_stamp_62 ?_
      refine lv_iload_n S.1 S.2.1 d_Mo_stamp_65 rfl (lv_at hl 2 rfl) ?_
      refine hp_iald S hJ 0 h_dn rfl (vp_in_nI hs (by decide)) d_Mo_stamp_66 ?_
      rw [nI_clamp (by omega), hd.1]
      refine lv_icmp_ge (tgt := 115) S.1 S.2.1 d_Mo_stamp_67 (by decide) (fun q => absurd q (nI_ge (a := j) (b := d) (by omega) (by omega))) (fun _ => ?_)
      refine lv_iconst (v := 0) S.1 S.2.1 d_Mo_stamp_70 (by decide) ?_
      refine lv_istore (lv' := [(5, .int 0), (4, .int (nI j)), (0, .ref t), (1, .int (nI ss)), (2, .int x), (3, .int y)]) S.1 S.2.1 d_Mo_stamp_71 hl (by decide) rfl (fun ls hl => ?_)
      have LPi : ∀ (n_i i : Nat) (hc : hp_T) (H : Heap) (locs : List Loc) (ls : Array Slot), i + n_i = w → hc = hp_up h3 sh (k_lo (cA 1) (80 * hh) (q_mi (fun F i => q_pt (upd (upd mf 0 0) 12 (mf 12 + 1)) F (q_lx ((upd (upd mf 0 0) 12 (mf 12 + 1)) 18) x (nI i) (nI j)) (q_lyy ((upd (upd mf 0 0) 12 (mf 12 + 1)) 18) y (nI i) (nI j)) ((fun i j => q_is (tb (ds (2 * (r + j) + i / 64)) (i % 64) = true)) i j)) (q_sp (upd (upd mf 0 0) 12 (mf 12 + 1)) x y (fun i j => q_is (tb (ds (2 * (r + j) + i / 64)) (i % 64) = true)) w f j) i)) → hp_J (gg dC dI cA) A hc s H locs → lv_has ls 6 [(5, .int (nI i)), (4, .int (nI j)), (0, .ref t), (1, .int (nI ss)), (2, .int x), (3, .int y)] → W p l e ({ frames := 4, cells := 0, slots := 0, locals := 100 }) s m ([.ref t, .int (nI ss), .int x, .int y] : List Value).toArray below meth c H locs 0 0 (MQ below (hp_QW (gg dC dI cA) A hp_mi (fun r9 h' => r9 = 1 ∧ h' = hp_up (hp_up (hp_up h t (k_Mo (upd (upd mf 0 0) 12 (mf 12 + 1)) sh ac dn fr sp dt)) sp (k_in (cA 2) 64 (upd gs ss 1))) sh (k_lo (cA 1) (80 * hh) (q_sp (upd (upd mf 0 0) 12 (mf 12 + 1)) x y (fun i j => q_is (tb (ds (2 * (r + j) + i / 64)) (i % 64) = true)) w f d)))) ([.ref t, .int (nI ss), .int x, .int y] : List Value).toArray s 0 0 A) (F0 m 73 ls []) := by
        intro n_i
        induction n_i with
        | zero =>
          intro i hc H locs ls hu_i ehc hJ hl
          have h_sh : hc sh = some (k_lo (cA 1) (80 * hh) (q_mi (fun F i => q_pt (upd (upd mf 0 0) 12 (mf 12 + 1)) F (q_lx ((upd (upd mf 0 0) 12 (mf 12 + 1)) 18) x (nI i) (nI j)) (q_lyy ((upd (upd mf 0 0) 12 (mf 12 + 1)) 18) y (nI i) (nI j)) ((fun i j => q_is (tb (ds (2 * (r + j) + i / 64)) (i % 64) = true)) i j)) (q_sp (upd (upd mf 0 0) 12 (mf 12 + 1)) x y (fun i j => q_is (tb (ds (2 * (r + j) + i / 64)) (i % 64) = true)) w f j) i)) := by rw [ehc]; exact hp_up_s _ _ _
          have h_t : hc t = some (k_Mo (upd (upd mf 0 0) 12 (mf 12 + 1)) sh ac dn fr sp dt) := by rw [ehc]; exact hp_up_k (hp_ne h_t0 h_sh0 (show ((0, 7) : Nat × Nat) ≠ (2, 0) by decide)) h_t0
          have h_ac : hc ac = some (k_in (cA 0) 64 ga) := by rw [ehc]; exact hp_up_k (hp_ne h_ac0 h_sh0 (show ((1, 0) : Nat × Nat) ≠ (2, 0) by decide)) h_ac0
          have h_dn : hc dn = some (k_in (cA 0) 64 gd) := by rw [ehc]; exact hp_up_k (hp_ne h_dn0 h_sh0 (show ((1, 0) : Nat × Nat) ≠ (2, 0) by decide)) h_dn0
          have h_fr : hc fr = some (k_in (cA 0) 64 gf) := by rw [ehc]; exact hp_up_k (hp_ne h_fr0 h_sh0 (show ((1, 0) : Nat × Nat) ≠ (2, 0) by decide)) h_fr0
          have h_dt : hc dt = some (k_lo (cA 1) 8192 ds) := by rw [ehc]; exact hp_up_k (Ne.symm ne_sh_dt) h_dt0
          refine lv_iload S.1 S.2.1 d_Mo_stamp_73 (lv_at hl 0 rfl) ?_
          refine lv_aload_n S.1 S.2.1 d_Mo_stamp_75 rfl (lv_at hl 2 rfl) ?_
          refine hp_get S zz hJ h_t f_Mo_7 rfl d_Mo_stamp_76 ?_
          refine lv_iload_n S.1 S.2.1 d_Mo_stamp_79 rfl (lv_at hl 3 rfl) ?_
          refine hp_iald S hJ 0 h_ac rfl (vp_in_nI hs (by decide)) d_Mo_stamp_80 ?_
          rw [nI_clamp (by omega), ha.1]
          obtain ⟨e_ni, -⟩ : i = w ∧ True := ⟨by omega, trivial⟩
          refine lv_icmp_ge (tgt := 109) S.1 S.2.1 d_Mo_stamp_81 (by decide) (fun _ => ?_) (fun q => absurd (by rw [e_ni]; exact Int32.le_refl _) q)
          refine lv_iinc (v := nI (j + 1)) (lv' := [(4, .int (nI (j + 1))), (5, .int (nI i)), (0, .ref t), (1, .int (nI ss)), (2, .int x), (3, .int y)]) S.1 S.2.1 d_Mo_stamp_109 hl (k := 1) rfl (nI_1 _) (by decide) rfl (fun ls hl => ?_)
          refine lv_goto (tgt := 59) S.1 S.2.1 d_Mo_stamp_112 (by decide) ?_
          exact ih (j + 1) _ _ _ ls (by omega) (by rw [ehc, e_ni]; rfl) hJ (lv_sub hl [0, 2, 3, 4, 5] rfl)
        | succ n_i ihi =>
          intro i hc H locs ls hu_i ehc hJ hl
          have h_sh : hc sh = some (k_lo (cA 1) (80 * hh) (q_mi (fun F i => q_pt (upd (upd mf 0 0) 12 (mf 12 + 1)) F (q_lx ((upd (upd mf 0 0) 12 (mf 12 + 1)) 18) x (nI i) (nI j)) (q_lyy ((upd (upd mf 0 0) 12 (mf 12 + 1)) 18) y (nI i) (nI j)) ((fun i j => q_is (tb (ds (2 * (r + j) + i / 64)) (i % 64) = true)) i j)) (q_sp (upd (upd mf 0 0) 12 (mf 12 + 1)) x y (fun i j => q_is (tb (ds (2 * (r + j) + i / 64)) (i % 64) = true)) w f j) i)) := by rw [ehc]; exact hp_up_s _ _ _
          have h_t : hc t = some (k_Mo (upd (upd mf 0 0) 12 (mf 12 + 1)) sh ac dn fr sp dt) := by rw [ehc]; exact hp_up_k (hp_ne h_t0 h_sh0 (show ((0, 7) : Nat × Nat) ≠ (2, 0) by decide)) h_t0
          have h_ac : hc ac = some (k_in (cA 0) 64 ga) := by rw [ehc]; exact hp_up_k (hp_ne h_ac0 h_sh0 (show ((1, 0) : Nat × Nat) ≠ (2, 0) by decide)) h_ac0
          have h_dn : hc dn = some (k_in (cA 0) 64 gd) := by rw [ehc]; exact hp_up_k (hp_ne h_dn0 h_sh0 (show ((1, 0) : Nat × Nat) ≠ (2, 0) by decide)) h_dn0
          have h_fr : hc fr = some (k_in (cA 0) 64 gf) := by rw [ehc]; exact hp_up_k (hp_ne h_fr0 h_sh0 (show ((1, 0) : Nat × Nat) ≠ (2, 0) by decide)) h_fr0
          have h_dt : hc dt = some (k_lo (cA 1) 8192 ds) := by rw [ehc]; exact hp_up_k (Ne.symm ne_sh_dt) h_dt0
          refine lv_iload S.1 S.2.1 d_Mo_stamp_73 (lv_at hl 0 rfl) ?_
          refine lv_aload_n S.1 S.2.1 d_Mo_stamp_75 rfl (lv_at hl 2 rfl) ?_
          refine hp_get S zz hJ h_t f_Mo_7 rfl d_Mo_stamp_76 ?_
          refine lv_iload_n S.1 S.2.1 d_Mo_stamp_79 rfl (lv_at hl 3 rfl) ?_
          refine hp_iald S hJ 0 h_ac rfl (vp_in_nI hs (by decide)) d_Mo_stamp_80 ?_
          rw [nI_clamp (by omega), ha.1]
          refine lv_icmp_ge (tgt := 109) S.1 S.2.1 d_Mo_stamp_81 (by decide) (fun q => absurd q (nI_ge (a := i) (b := w) (by omega) (by omega))) (fun _ => ?_)
          refine lv_aload_n S.1 S.2.1 d_Mo_stamp_84 rfl (lv_at hl 2 rfl) ?_
          refine lv_iload_n S.1 S.2.1 d_Mo_stamp_85 rfl (lv_at hl 4 rfl) ?_
          refine lv_iload_n S.1 S.2.1 d_Mo_stamp_86 rfl (lv_at hl 5 rfl) ?_
          refine lv_iload S.1 S.2.1 d_Mo_stamp_87 (lv_at hl 0 rfl) ?_
          refine lv_iload S.1 S.2.1 d_Mo_stamp_89 (lv_at hl 1 rfl) ?_
          refine lv_aload_n S.1 S.2.1 d_Mo_stamp_91 rfl (lv_at hl 2 rfl) ?_
          refine lv_iload_n S.1 S.2.1 d_Mo_stamp_92 rfl (lv_at hl 3 rfl) ?_
          refine lv_iload S.1 S.2.1 d_Mo_stamp_93 (lv_at hl 0 rfl) ?_
          refine lv_iload S.1 S.2.1 d_Mo_stamp_95 (lv_at hl 1 rfl) ?_
          refine hp_doneR (hp_runV S zz0 (c_Mo_shapeDot l dC dI cA A _ t sh ac dn fr sp dt (upd (upd mf 0 0) 12 (mf 12 + 1)) ss i j r gf ds h_t hs (by omega) (by omega) hr0 (by omega) h_fr h_dt) l_Mo_115 (hJ.preV _ h_t rfl) (by decide) rfl hl.1 rfl (nl rfl) d_Mo_stamp_97 (by decide)) ?_
          refine hp_doneWv hJ (hp_runV S zz0 (c_Mo_lay l dC dI cA A _ t sh ac dn fr sp dt (upd (upd mf 0 0) 12 (mf 12 + 1)) ww hh _ x y (nI i) (nI j) _ h_t h_sh hw hh2) l_Mo_118 (hJ.preV _ h_t rfl) (by decide) rfl hl.1 rfl (nl rfl) d_Mo_stamp_100 (by decide)) (fun h9 H locs eh9 hJ => ?_)
          rw [ehc, hp_up_up] at eh9
          refine lv_iinc (v := nI (i + 1)) (lv' := [(5, .int (nI (i + 1))), (4, .int (nI j)), (0, .ref t), (1, .int (nI ss)), (2, .int x), (3, .int y)]) S.1 S.2.1 d_Mo_stamp_103 hl (k := 0) rfl (nI_1 _) (by decide) rfl (fun ls hl => ?_)
          refine lv_goto (tgt := 73) S.1 S.2.1 d_Mo_stamp_106 (by decide) ?_
          exact ihi (i + 1) _ _ _ ls (by omega) eh9 hJ (lv_sub hl [0, 1, 2, 3, 4, 5] rfl)
      exact LPi w 0 _ _ _ ls (by omega) ehc hJ (lv_sub hl [0, 1, 2, 3, 4, 5] rfl)
  exact LP d 0 _ _ _ ls (by omega) (by rw [show q_sp (upd (upd mf 0 0) 12 (mf 12 + 1)) x y (fun i j => q_is (tb (ds (2 * (r + j) + i / 64)) (i % 64) = true)) w f 0 = f from rfl, hp_up_same h_sh]) hJ (lv_sub hl [0, 1, 2, 3, 4] rfl)

