/-! The reference: eject, a shape's dot. -/
set_option maxHeartbeats 4000000 in
set_option maxRecDepth 100000 in
theorem c_Mo_eject (l : Launch) (dC : Nat → ClassId) (dI : Nat → Nat → Nat) (cA : Nat → ClassId) (A : Nat → Prop) (h : hp_T) (t sh ac dn fr sp dt : Nat) (mf : Nat → Int32) (n : Nat) (f : Nat → Int64) (g : Nat → Int32) (h_t : h t = some (k_Mo mf sh ac dn fr sp dt)) (hn : n ≤ 408000) (h_sh : h sh = some (k_lo (cA 1) n f)) (h_sp : h sp = some (k_in (cA 2) 64 g)) : Met l y_Mo_eject (.code y_Mo_eject prog_9_method_26_code 2 none :: BIG) ({ frames := 0, cells := 0, slots := 0, locals := 0 }) (va_Pc [.ref t] (hp_I (gg dC dI cA) A h)) (hp_QW (gg dC dI cA) A hp_mv (fun _ h' => h' = hp_up (hp_up (hp_up h sh (k_lo (cA 1) n (q_fz f n))) t (k_Mo (upd (upd (upd mf 0 0) 12 0) 13 0) sh ac dn fr sp dt)) sp (k_in (cA 2) 64 (q_fl g 0 64)))) 0 0 A := by
  refine hp_enter (by decide) (Nat.le_of_ble_eq_true rfl) ?_
  intro p e s m below meth c ls S hr hlk hin hI hl
  have hl : lv_has ls 2 [(0, .ref t)] := hl
  have hJ := hI.J
  refine lv_aload_n S.1 S.2.1 d_Mo_eject_0 rfl (lv_at hl 0 rfl) ?_
  refine lv_iconst (v := 0) S.1 S.2.1 d_Mo_eject_1 (by decide) ?_
  refine hp_put S zz hJ h_t fp_Mo_46 rfl rfl (nl rfl) d_Mo_eject_2 (fun H locs hJ => ?_)
  obtain ⟨h1, eh1⟩ : ∃ z, z = hp_up h t (.inr (7, [.int 0, .int (mf 1), .int (mf 2), .int (mf 3), .ref sh, .int (mf 5), .ref ac, .ref dn, .ref fr, .ref sp, .int (mf 10), .ref dt, .int (mf 12), .int (mf 13), .int (mf 14), .int (mf 15), .int (mf 16), .int (mf 17), .int (mf 18), .int (mf 19), .int (mf 20), .int (mf 21), .int (mf 22)])) := ⟨_, rfl⟩
  have hJ := hJ.cast eh1
  have h0_t := h_t
  have h_sh : h1 sh = some (k_lo (cA 1) n f) := by rw [eh1]; exact hp_up_k (hp_ne h_sh h0_t (show ((2, 0) : Nat × Nat) ≠ (0, 7) by decide)) h_sh
  have h_sp : h1 sp = some (k_in (cA 2) 64 g) := by rw [eh1]; exact hp_up_k (hp_ne h_sp h0_t (show ((1, 0) : Nat × Nat) ≠ (0, 7) by decide)) h_sp
  have h_t : h1 t = some (.inr (7, [.int 0, .int (mf 1), .int (mf 2), .int (mf 3), .ref sh, .int (mf 5), .ref ac, .ref dn, .ref fr, .ref sp, .int (mf 10), .ref dt, .int (mf 12), .int (mf 13), .int (mf 14), .int (mf 15), .int (mf 16), .int (mf 17), .int (mf 18), .int (mf 19), .int (mf 20), .int (mf 21), .int (mf 22)])) := by rw [eh1]; exact hp_up_s _ _ _
  refine lv_iconst (v := 0) S.1 S.2.1 d_Mo_eject_5 (by decide) ?_
  refine lv_istore_n (lv' := [(1, .int 0), (0, .ref t)]) S.1 S.2.1 d_Mo_eject_6 rfl hl (by decide) rfl (fun ls hl => ?_)
  have h_t1 := h_t
  have h_sh1 := h_sh
  have h_sp1 := h_sp
  have LP : ∀ (n_ k : Nat) (hc : hp_T) (H : Heap) (locs : List Loc) (ls : Array Slot), k + n_ = n → hc = hp_up h1 sh (k_lo (cA 1) n (q_fz f k)) → hp_J (gg dC dI cA) A hc s H locs → lv_has ls 2 [(1, .int (nI k)), (0, .ref t)] → W p l e ({ frames := 0, cells := 0, slots := 0, locals := 0 }) s m ([.ref t] : List Value).toArray below meth c H locs 0 0 (MQ below (hp_QW (gg dC dI cA) A hp_mv (fun _ h' => h' = hp_up (hp_up (hp_up h sh (k_lo (cA 1) n (q_fz f n))) t (k_Mo (upd (upd (upd mf 0 0) 12 0) 13 0) sh ac dn fr sp dt)) sp (k_in (cA 2) 64 (q_fl g 0 64)))) ([.ref t] : List Value).toArray s 0 0 A) (F0 m 7 ls []) := by
    intro n_
    induction n_ with
    | zero =>
      intro k hc H locs ls hu_ ehc hJ hl
      have h_sh : hc sh = some (k_lo (cA 1) n (q_fz f k)) := by rw [ehc]; exact hp_up_s _ _ _
      have h_t : hc t = some (k_Mo (upd mf 0 0) sh ac dn fr sp dt) := by rw [ehc]; exact hp_up_k (hp_ne h_t1 h_sh1 (show ((0, 7) : Nat × Nat) ≠ (2, 0) by decide)) h_t1
      have h_sp : hc sp = some (k_in (cA 2) 64 g) := by rw [ehc]; exact hp_up_k (hp_ne h_sp1 h_sh1 (show ((1, 0) : Nat × Nat) ≠ (2, 0) by decide)) h_sp1
      refine lv_iload_n S.1 S.2.1 d_Mo_eject_7 rfl (lv_at hl 0 rfl) ?_
      refine lv_aload_n S.1 S.2.1 d_Mo_eject_8 rfl (lv_at hl 1 rfl) ?_
      refine hp_get S zz hJ h_t f_Mo_37 rfl d_Mo_eject_9 ?_
      refine hp_alen S hJ 1 h_sh rfl d_Mo_eject_12 ?_
      obtain ⟨e_n, -⟩ : k = n ∧ True := ⟨by omega, trivial⟩
      refine lv_icmp_ge (tgt := 29) S.1 S.2.1 d_Mo_eject_13 (by decide) (fun _ => ?_) (fun q => absurd (by rw [e_n]; exact Int32.le_refl _) q)
      refine lv_aload_n S.1 S.2.1 d_Mo_eject_29 rfl (lv_at hl 1 rfl) ?_
      refine lv_iconst (v := 0) S.1 S.2.1 d_Mo_eject_30 (by decide) ?_
      refine hp_put S zz hJ h_t fp_Mo_112 rfl rfl (nl rfl) d_Mo_eject_31 (fun H locs hJ => ?_)
      obtain ⟨h2, eh2⟩ : ∃ z, z = hp_up hc t (.inr (7, [.int 0, .int (mf 1), .int (mf 2), .int (mf 3), .ref sh, .int (mf 5), .ref ac, .ref dn, .ref fr, .ref sp, .int (mf 10), .ref dt, .int 0, .int (mf 13), .int (mf 14), .int (mf 15), .int (mf 16), .int (mf 17), .int (mf 18), .int (mf 19), .int (mf 20), .int (mf 21), .int (mf 22)])) := ⟨_, rfl⟩
      have hJ := hJ.cast eh2
      have h0_t := h_t
      have h_sh : h2 sh = some (k_lo (cA 1) n (q_fz f k)) := by rw [eh2]; exact hp_up_k (hp_ne h_sh h0_t (show ((2, 0) : Nat × Nat) ≠ (0, 7) by decide)) h_sh
      have h_sp : h2 sp = some (k_in (cA 2) 64 g) := by rw [eh2]; exact hp_up_k (hp_ne h_sp h0_t (show ((1, 0) : Nat × Nat) ≠ (0, 7) by decide)) h_sp
      have h_t : h2 t = some (.inr (7, [.int 0, .int (mf 1), .int (mf 2), .int (mf 3), .ref sh, .int (mf 5), .ref ac, .ref dn, .ref fr, .ref sp, .int (mf 10), .ref dt, .int 0, .int (mf 13), .int (mf 14), .int (mf 15), .int (mf 16), .int (mf 17), .int (mf 18), .int (mf 19), .int (mf 20), .int (mf 21), .int (mf 22)])) := by rw [eh2]; exact hp_up_s _ _ _
      refine lv_aload_n S.1 S.2.1 d_Mo_eject_34 rfl (lv_at hl 1 rfl) ?_
      refine lv_iconst (v := 0) S.1 S.2.1 d_Mo_eject_35 (by decide) ?_
      refine hp_put S zz hJ h_t fp_Mo_128 rfl rfl (nl rfl) d_Mo_eject_36 (fun H locs hJ => ?_)
      obtain ⟨h3, eh3⟩ : ∃ z, z = hp_up h2 t (.inr (7, [.int 0, .int (mf 1), .int (mf 2), .int (mf 3), .ref sh, .int (mf 5), .ref ac, .ref dn, .ref fr, .ref sp, .int (mf 10), .ref dt, .int 0, .int 0, .int (mf 14), .int (mf 15), .int (mf 16), .int (mf 17), .int (mf 18), .int (mf 19), .int (mf 20), .int (mf 21), .int (mf 22)])) := ⟨_, rfl⟩
      have hJ := hJ.cast eh3
      have h0_t := h_t
      have h_sh : h3 sh = some (k_lo (cA 1) n (q_fz f k)) := by rw [eh3]; exact hp_up_k (hp_ne h_sh h0_t (show ((2, 0) : Nat × Nat) ≠ (0, 7) by decide)) h_sh
      have h_sp : h3 sp = some (k_in (cA 2) 64 g) := by rw [eh3]; exact hp_up_k (hp_ne h_sp h0_t (show ((1, 0) : Nat × Nat) ≠ (0, 7) by decide)) h_sp
      have h_t : h3 t = some (.inr (7, [.int 0, .int (mf 1), .int (mf 2), .int (mf 3), .ref sh, .int (mf 5), .ref ac, .ref dn, .ref fr, .ref sp, .int (mf 10), .ref dt, .int 0, .int 0, .int (mf 14), .int (mf 15), .int (mf 16), .int (mf 17), .int (mf 18), .int (mf 19), .int (mf 20), .int (mf 21), .int (mf 22)])) := by rw [eh3]; exact hp_up_s _ _ _
      refine lv_iconst (v := 0) S.1 S.2.1 d_Mo_eject_39 (by decide) ?_
      refine lv_istore_n (lv' := [(1, .int 0), (0, .ref t)]) S.1 S.2.1 d_Mo_eject_40 rfl hl (by decide) rfl (fun ls hl => ?_)
      have h_t3 := h_t
      have h_sp3 := h_sp
      have LP2 : ∀ (n_2 u : Nat) (hd : hp_T) (H : Heap) (locs : List Loc) (ls : Array Slot), u + n_2 = 64 → hd = hp_up h3 sp (k_in (cA 2) 64 (q_fl g 0 u)) → hp_J (gg dC dI cA) A hd s H locs → lv_has ls 2 [(1, .int (nI u)), (0, .ref t)] → W p l e ({ frames := 0, cells := 0, slots := 0, locals := 0 }) s m ([.ref t] : List Value).toArray below meth c H locs 0 0 (MQ below (hp_QW (gg dC dI cA) A hp_mv (fun _ h' => h' = hp_up (hp_up (hp_up h sh (k_lo (cA 1) n (q_fz f n))) t (k_Mo (upd (upd (upd mf 0 0) 12 0) 13 0) sh ac dn fr sp dt)) sp (k_in (cA 2) 64 (q_fl g 0 64)))) ([.ref t] : List Value).toArray s 0 0 A) (F0 m 41 ls []) := by
        intro n_2
        induction n_2 with
        | zero =>
          intro u hd H locs ls hu_2 ehd hJ hl
          have h_sp : hd sp = some (k_in (cA 2) 64 (q_fl g 0 u)) := by rw [ehd]; exact hp_up_s _ _ _
          have h_t : hd t = some (k_Mo (upd (upd (upd mf 0 0) 12 0) 13 0) sh ac dn fr sp dt) := by rw [ehd]; exact hp_up_k (hp_ne h_t3 h_sp3 (show ((0, 7) : Nat × Nat) ≠ (1, 0) by decide)) h_t3
          refine lv_iload_n S.1 S.2.1 d_Mo_eject_41 rfl (lv_at hl 0 rfl) ?_
          refine lv_bipush (v := 64) S.1 S.2.1 d_Mo_eject_42 (by decide) ?_
          obtain ⟨e_n2, -⟩ : u = 64 ∧ True := ⟨by omega, trivial⟩
          refine lv_icmp_ge (tgt := 60) S.1 S.2.1 d_Mo_eject_44 (by decide) (fun _ => ?_) (fun q => absurd (by rw [e_n2]; exact (by decide)) q)
          exact hp_retWv S hJ hr hlk d_Mo_eject_60 (by decide) (by rw [ehd, e_n2, eh3, eh2, hp_up_up, ehc, e_n, eh1, hp_tbt _ _ _ _ (hp_ne h_t1 h_sh1 (show ((0, 7) : Nat × Nat) ≠ (2, 0) by decide))]; rfl)
        | succ n_2 ih2 =>
          intro u hd H locs ls hu_2 ehd hJ hl
          have h_sp : hd sp = some (k_in (cA 2) 64 (q_fl g 0 u)) := by rw [ehd]; exact hp_up_s _ _ _
          have h_t : hd t = some (k_Mo (upd (upd (upd mf 0 0) 12 0) 13 0) sh ac dn fr sp dt) := by rw [ehd]; exact hp_up_k (hp_ne h_t3 h_sp3 (show ((0, 7) : Nat × Nat) ≠ (1, 0) by decide)) h_t3
          refine lv_iload_n S.1 S.2.1 d_Mo_eject_41 rfl (lv_at hl 0 rfl) ?_
          refine lv_bipush (v := 64) S.1 S.2.1 d_Mo_eject_42 (by decide) ?_
          refine lv_icmp_ge (tgt := 60) S.1 S.2.1 d_Mo_eject_44 (by decide) (fun q => absurd q (nI_ge (a := u) (b := 64) (by omega) (by decide))) (fun _ => ?_)
          refine lv_aload_n S.1 S.2.1 d_Mo_eject_47 rfl (lv_at hl 1 rfl) ?_
          refine hp_get S zz hJ h_t f_Mo_19 rfl d_Mo_eject_48 ?_
          refine lv_iload_n S.1 S.2.1 d_Mo_eject_51 rfl (lv_at hl 0 rfl) ?_
          refine lv_iconst (v := 0) S.1 S.2.1 d_Mo_eject_52 (by decide) ?_
          refine hp_zast S hJ 2 h_sp rfl (vp_in_nI (by omega) (by decide)) d_Mo_eject_53 (fun H locs hJ => ?_)
          rw [nI_clamp (by omega), z_nar0, q_fl_s, ehd, hp_up_up] at hJ
          refine lv_iinc (v := nI (u + 1)) (lv' := [(1, .int (nI (u + 1))), (0, .ref t)]) S.1 S.2.1 d_Mo_eject_54 hl (k := 0) rfl (nI_1 _) (by decide) rfl (fun ls hl => ?_)
          refine lv_goto (tgt := 41) S.1 S.2.1 d_Mo_eject_57 (by decide) ?_
          exact ih2 (u + 1) _ _ _ ls (by omega) rfl hJ (lv_sub hl [0, 1] rfl)
      exact LP2 64 0 _ _ _ ls rfl (by rw [q_fl_0, hp_up_same h_sp]) hJ (lv_sub hl [0, 1] rfl)
    | succ n_ ih =>
      intro k hc H locs ls hu_ ehc hJ hl
      have h_sh : hc sh = some (k_lo (cA 1) n (q_fz f k)) := by rw [ehc]; exact hp_up_s _ _ _
      have h_t : hc t = some (k_Mo (upd mf 0 0) sh ac dn fr sp dt) := by rw [ehc]; exact hp_up_k (hp_ne h_t1 h_sh1 (show ((0, 7) : Nat × Nat) ≠ (2, 0) by decide)) h_t1
      have h_sp : hc sp = some (k_in (cA 2) 64 g) := by rw [ehc]; exact hp_up_k (hp_ne h_sp1 h_sh1 (show ((1, 0) : Nat × Nat) ≠ (2, 0) by decide)) h_sp1
      refine lv_iload_n S.1 S.2.1 d_Mo_eject_7 rfl (lv_at hl 0 rfl) ?_
      refine lv_aload_n S.1 S.2.1 d_Mo_eject_8 rfl (lv_at hl 1 rfl) ?_
      refine hp_get S zz hJ h_t f_Mo_37 rfl d_Mo_eject_9 ?_
      refine hp_alen S hJ 1 h_sh rfl d_Mo_eject_12 ?_
      refine lv_icmp_ge (tgt := 29) S.1 S.2.1 d_Mo_eject_13 (by decide) (fun q => absurd q (nI_ge (a := k) (b := n) (by omega) (by omega))) (fun _ => ?_)
      refine lv_aload_n S.1 S.2.1 d_Mo_eject_16 rfl (lv_at hl 1 rfl) ?_
      refine hp_get S zz hJ h_t f_Mo_37 rfl d_Mo_eject_17 ?_
      refine lv_iload_n S.1 S.2.1 d_Mo_eject_20 rfl (lv_at hl 0 rfl) ?_
      refine lv_lconst (v := 0) S.1 S.2.1 d_Mo_eject_21 (by decide) ?_
      refine hp_last S hJ 1 h_sh rfl (vp_in_nI (by omega) (by omega)) d_Mo_eject_22 (fun H locs hJ => ?_)
      rw [nI_clamp (by omega), q_fz_s, ehc, hp_up_up] at hJ
      refine lv_iinc (v := nI (k + 1)) (lv' := [(1, .int (nI (k + 1))), (0, .ref t)]) S.1 S.2.1 d_Mo_eject_23 hl (k := 0) rfl (nI_1 _) (by decide) rfl (fun ls hl => ?_)
      refine lv_goto (tgt := 7) S.1 S.2.1 d_Mo_eject_26 (by decide) ?_
      exact ih (k + 1) _ _ _ ls (by omega) rfl hJ (lv_sub hl [0, 1] rfl)
  exact LP n 0 _ _ _ ls (by omega) (by rw [q_fz_0, hp_up_same h_sh]) hJ (lv_sub hl [0, 1] rfl)

set_option maxHeartbeats 4000000 in
set_option maxRecDepth 100000 in
theorem c_Mo_shapeDot (l : Launch) (dC : Nat → ClassId) (dI : Nat → Nat → Nat) (cA : Nat → ClassId) (A : Nat → Prop) (h : hp_T) (t sh ac dn fr sp dt : Nat) (mf : Nat → Int32) (ss i j r : Nat) (fg : Nat → Int32) (d : Nat → Int64) (h_t : h t = some (k_Mo mf sh ac dn fr sp dt)) (hs : ss < 64) (hi : i < 128) (hj : j < 128) (hr0 : fg ss = nI r) (hix : 2 * (r + j) + i / 64 < 8192) (h_fr : h fr = some (k_in (cA 0) 64 fg)) (h_dt : h dt = some (k_lo (cA 1) 8192 d)) : Met l y_Mo_shapeDot (.code y_Mo_shapeDot prog_9_method_15_code 4 (some .boolean) :: BIG) ({ frames := 0, cells := 0, slots := 0, locals := 0 }) (va_Pc [.ref t, .int (nI ss), .int (nI i), .int (nI j)] (hp_I (gg dC dI cA) A h)) (hp_QR (some (.int (q_is (tb (d (2 * (r + j) + i / 64)) (i % 64) = true))))) 0 0 (fun _ => False) := by
  refine hp_enter (by decide) (Nat.le_of_ble_eq_true rfl) ?_
  intro p e s m below meth c ls S hr hlk hin hI hl
  have hl : lv_has ls 4 [(0, .ref t), (1, .int (nI ss)), (2, .int (nI i)), (3, .int (nI j))] := hl
  have hJ := hI.J
  refine lv_aload_n S.1 S.2.1 d_Mo_shapeDot_0 rfl (lv_at hl 0 rfl) ?_
  refine hp_get S zz hJ h_t f_Mo_23 rfl d_Mo_shapeDot_1 ?_
  refine lv_iconst (v := 2) S.1 S.2.1 d_Mo_shapeDot_4 (by decide) ?_
  refine lv_aload_n S.1 S.2.1 d_Mo_shapeDot_5 rfl (lv_at hl 0 rfl) ?_
  refine hp_get S zz hJ h_t f_Mo_16 rfl d_Mo_shapeDot_6 ?_
  refine lv_iload_n S.1 S.2.1 d_Mo_shapeDot_9 rfl (lv_at hl 1 rfl) ?_
  refine hp_iald S hJ 0 h_fr rfl (vp_in_nI hs (by decide)) d_Mo_shapeDot_10 ?_
  rw [nI_clamp (by omega), hr0]
  refine lv_iload_n S.1 S.2.1 d_Mo_shapeDot_11 rfl (lv_at hl 3 rfl) ?_
  refine lv_iadd S.1 S.2.1 d_Mo_shapeDot_12 ?_
  refine lv_imul S.1 S.2.1 d_Mo_shapeDot_13 ?_
  refine lv_iload_n S.1 S.2.1 d_Mo_shapeDot_14 rfl (lv_at hl 2 rfl) ?_
  refine lv_bipush (v := 64) S.1 S.2.1 d_Mo_shapeDot_15 (by decide) ?_
  refine lv_idiv S.1 S.2.1 d_Mo_shapeDot_17 (by decide) ?_
  refine lv_iadd S.1 S.2.1 d_Mo_shapeDot_18 ?_
  rw [show (2 : Int32) * (nI r + nI j) + nI i / 64 = nI (2 * (r + j) + i / 64) by rw [div64 (by omega), nI_add, show (2 : Int32) = nI 2 from rfl, pk_mul, nI_add]]
  refine hp_lald S hJ 1 h_dt rfl (vp_in_nI hix (by decide)) d_Mo_shapeDot_19 ?_
  rw [nI_clamp (by omega)]
  refine lv_bipush (v := 63) S.1 S.2.1 d_Mo_shapeDot_20 (by decide) ?_
  refine lv_iload_n S.1 S.2.1 d_Mo_shapeDot_22 rfl (lv_at hl 2 rfl) ?_
  refine lv_bipush (v := 64) S.1 S.2.1 d_Mo_shapeDot_23 (by decide) ?_
  refine lv_irem S.1 S.2.1 d_Mo_shapeDot_25 (by decide) ?_
  refine lv_isub S.1 S.2.1 d_Mo_shapeDot_26 ?_
  rw [sh63 (by omega)]
  refine lv_lshr S.1 S.2.1 d_Mo_shapeDot_27 rfl ?_
  refine lv_lconst (v := 1) S.1 S.2.1 d_Mo_shapeDot_28 (by decide) ?_
  refine lv_land S.1 S.2.1 d_Mo_shapeDot_29 ?_
  refine lv_lconst (v := 1) S.1 S.2.1 d_Mo_shapeDot_30 (by decide) ?_
  refine W.lcmp S.1 S.2.1 d_Mo_shapeDot_31 ?_
  refine lv_if_ne (tgt := 39) S.1 S.2.1 d_Mo_shapeDot_32 (by decide) (fun c_32 => ?_) (fun c_32 => ?_)
  · refine lv_iconst (v := 0) S.1 S.2.1 d_Mo_shapeDot_39 (by decide) ?_
    exact hp_retRz S hr hlk d_Mo_shapeDot_40 (by decide) (q_is_f (fun q => c_32 ((lg_cmp_e _ _).mpr ((tb_asr _ (by omega)).mpr q))))
  · refine lv_iconst (v := 1) S.1 S.2.1 d_Mo_shapeDot_35 (by decide) ?_
    refine lv_goto (tgt := 40) S.1 S.2.1 d_Mo_shapeDot_36 (by decide) ?_
    exact hp_retRz S hr hlk d_Mo_shapeDot_40 (by decide) (q_is_t ((tb_asr _ (by omega)).mp ((lg_cmp_e _ _).mp c_32)))

