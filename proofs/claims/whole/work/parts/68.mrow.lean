/-! The reference's rows of dots. -/
def q_rw (mf : Nat → Int32) (x y : Int32) (sc : Nat) (bits : Int64) (f : Nat → Int64) : Nat → Nat → Int64 := q_mi (fun F k => q_mi (fun F i => q_mi (fun F j => q_pt mf F (q_lx (mf 18) x (nI (sc * k + i)) (nI j)) (q_lyy (mf 18) y (nI (sc * k + i)) (nI j)) (q_is (tb bits k = true))) F sc) F sc) f
theorem sb63 {k : Nat} (hk : k < 64) : (63 : Int32) - nI k = nI (63 - k) := by
  rw [show (63 : Int32) = nI 63 from rfl, pk_sub (by omega)]

set_option maxHeartbeats 4000000 in
set_option maxRecDepth 100000 in
theorem cF_Mo_row (l : Launch) (dC : Nat → ClassId) (dI : Nat → Nat → Nat) (cA : Nat → ClassId) (A : Nat → Prop) (h : hp_T) (t sh ac dn fr sp dt : Nat) (mf : Nat → Int32) (x y sc n : Int32) (bits : Int64) (h_t : h t = some (k_Mo mf sh ac dn fr sp dt)) (hF : ¬ ((-10000 ≤ x ∧ x ≤ 10000) ∧ (-10000 ≤ y ∧ y ≤ 10000) ∧ (1 ≤ sc ∧ sc ≤ 8) ∧ (1 ≤ n ∧ n ≤ 64) ∧ ¬ mf 12 = 4096 ∧ mf 13 + (n + 7) / 8 ≤ 65536)) : Met l y_Mo_row (.code y_Mo_row prog_9_method_25_code 12 (some .boolean) :: BIG) ({ frames := 4, cells := 0, slots := 0, locals := 100 }) (va_Pc [.ref t, .int x, .int y, .int sc, .int n, .long bits] (hp_I (gg dC dI cA) A h)) (hp_QW (gg dC dI cA) A hp_mi (fun r h' => r = 0 ∧ h' = hp_up h t (k_Mo (upd mf 0 0) sh ac dn fr sp dt))) 0 0 A := by
  refine hp_enter (by decide) (Nat.le_of_ble_eq_true rfl) ?_
  intro p e s m below meth c ls S hr hlk hin hI hl
  have hl : lv_has ls 12 [(0, .ref t), (1, .int x), (2, .int y), (3, .int sc), (4, .int n), (5, .long bits)] := hl
  have hJ := hI.J
  refine lv_aload_n S.1 S.2.1 d_Mo_row_0 rfl (lv_at hl 0 rfl) ?_
  refine lv_iconst (v := 0) S.1 S.2.1 d_Mo_row_1 (by decide) ?_
  refine hp_put S zz hJ h_t fp_Mo_46 rfl rfl (nl rfl) d_Mo_row_2 (fun H locs hJ => ?_)
  obtain ⟨h1, eh1⟩ : ∃ z, z = hp_up h t (.inr (7, [.int 0, .int (mf 1), .int (mf 2), .int (mf 3), .ref sh, .int (mf 5), .ref ac, .ref dn, .ref fr, .ref sp, .int (mf 10), .ref dt, .int (mf 12), .int (mf 13), .int (mf 14), .int (mf 15), .int (mf 16), .int (mf 17), .int (mf 18), .int (mf 19), .int (mf 20), .int (mf 21), .int (mf 22)])) := ⟨_, rfl⟩
  have hJ := hJ.cast eh1
  have h0_t := h_t
  have h_t : h1 t = some (.inr (7, [.int 0, .int (mf 1), .int (mf 2), .int (mf 3), .ref sh, .int (mf 5), .ref ac, .ref dn, .ref fr, .ref sp, .int (mf 10), .ref dt, .int (mf 12), .int (mf 13), .int (mf 14), .int (mf 15), .int (mf 16), .int (mf 17), .int (mf 18), .int (mf 19), .int (mf 20), .int (mf 21), .int (mf 22)])) := by rw [eh1]; exact hp_up_s _ _ _
  refine lv_iload_n S.1 S.2.1 d_Mo_row_5 rfl (lv_at hl 1 rfl) ?_
  refine hp_doneR (hp_runS S zz0 (c_Mo_isPlace l _) l_Mo_109 (hp_pre0 _) (by decide) rfl hl.1 rfl (nl rfl) d_Mo_row_6 (by decide)) ?_
  refine lv_if_eq (tgt := 43) S.1 S.2.1 d_Mo_row_9 (by decide) (fun c_9 => ?_) (fun c_9 => ?_)
  · refine lv_iconst (v := 0) S.1 S.2.1 d_Mo_row_43 (by decide) ?_
    exact hp_retWz S hJ hr hlk d_Mo_row_44 (by decide) (by decide) ⟨rfl, by rw [eh1]; (try simp only [hp_up_up]); rfl⟩
  · refine lv_iload_n S.1 S.2.1 d_Mo_row_12 rfl (lv_at hl 2 rfl) ?_
    refine hp_doneR (hp_runS S zz0 (c_Mo_isPlace l _) l_Mo_109 (hp_pre0 _) (by decide) rfl hl.1 rfl (nl rfl) d_Mo_row_13 (by decide)) ?_
    refine lv_if_eq (tgt := 43) S.1 S.2.1 d_Mo_row_16 (by decide) (fun c_16 => ?_) (fun c_16 => ?_)
    · refine lv_iconst (v := 0) S.1 S.2.1 d_Mo_row_43 (by decide) ?_
      exact hp_retWz S hJ hr hlk d_Mo_row_44 (by decide) (by decide) ⟨rfl, by rw [eh1]; (try simp only [hp_up_up]); rfl⟩
    · refine lv_iload_n S.1 S.2.1 d_Mo_row_19 rfl (lv_at hl 3 rfl) ?_
      refine lv_iconst (v := 1) S.1 S.2.1 d_Mo_row_20 (by decide) ?_
      refine lv_icmp_lt (tgt := 43) S.1 S.2.1 d_Mo_row_21 (by decide) (fun c_21 => ?_) (fun c_21 => ?_)
      · refine lv_iconst (v := 0) S.1 S.2.1 d_Mo_row_43 (by decide) ?_
        exact hp_retWz S hJ hr hlk d_Mo_row_44 (by decide) (by decide) ⟨rfl, by rw [eh1]; (try simp only [hp_up_up]); rfl⟩
      · refine lv_iload_n S.1 S.2.1 d_Mo_row_24 rfl (lv_at hl 3 rfl) ?_
        refine lv_bipush (v := 8) S.1 S.2.1 d_Mo_row_25 (by decide) ?_
        refine lv_icmp_gt (tgt := 43) S.1 S.2.1 d_Mo_row_27 (by decide) (fun c_27 => ?_) (fun c_27 => ?_)
        · refine lv_iconst (v := 0) S.1 S.2.1 d_Mo_row_43 (by decide) ?_
          exact hp_retWz S hJ hr hlk d_Mo_row_44 (by decide) (by decide) ⟨rfl, by rw [eh1]; (try simp only [hp_up_up]); rfl⟩
        · refine lv_iload S.1 S.2.1 d_Mo_row_30 (lv_at hl 4 rfl) ?_
          refine lv_iconst (v := 1) S.1 S.2.1 d_Mo_row_32 (by decide) ?_
          refine lv_icmp_lt (tgt := 43) S.1 S.2.1 d_Mo_row_33 (by decide) (fun c_33 => ?_) (fun c_33 => ?_)
          · refine lv_iconst (v := 0) S.1 S.2.1 d_Mo_row_43 (by decide) ?_
            exact hp_retWz S hJ hr hlk d_Mo_row_44 (by decide) (by decide) ⟨rfl, by rw [eh1]; (try simp only [hp_up_up]); rfl⟩
          · refine lv_iload S.1 S.2.1 d_Mo_row_36 (lv_at hl 4 rfl) ?_
            refine lv_bipush (v := 64) S.1 S.2.1 d_Mo_row_38 (by decide) ?_
            refine lv_icmp_le (tgt := 45) S.1 S.2.1 d_Mo_row_40 (by decide) (fun c_40 => ?_) (fun c_40 => ?_)
            · refine lv_iload S.1 S.2.1 d_Mo_row_45 (lv_at hl 4 rfl) ?_
              refine lv_bipush (v := 7) S.1 S.2.1 d_Mo_row_47 (by decide) ?_
              refine lv_iadd S.1 S.2.1 d_Mo_row_49 ?_
              refine lv_bipush (v := 8) S.1 S.2.1 d_Mo_row_50 (by decide) ?_
              refine lv_idiv S.1 S.2.1 d_Mo_row_52 (by decide) ?_
              refine lv_istore (lv' := [(7, .int ((n + (7 : Int32)) / (8 : Int32))), (0, .ref t), (1, .int x), (2, .int y), (3, .int sc), (4, .int n), (5, .long bits)]) S.1 S.2.1 d_Mo_row_53 hl (by decide) rfl (fun ls hl => ?_)
              refine lv_aload_n S.1 S.2.1 d_Mo_row_55 rfl (lv_at hl 1 rfl) ?_
              refine hp_get S zz hJ h_t f_Mo_112 rfl d_Mo_row_56 ?_
              refine lv_sipush (v := 4096) S.1 S.2.1 d_Mo_row_59 (by decide) ?_
              refine lv_icmp_eq (tgt := 77) S.1 S.2.1 d_Mo_row_62 (by decide) (fun c_62 => ?_) (fun c_62 => ?_)
              · refine lv_iconst (v := 0) S.1 S.2.1 d_Mo_row_77 (by decide) ?_
                exact hp_retWz S hJ hr hlk d_Mo_row_78 (by decide) (by decide) ⟨rfl, by rw [eh1]; (try simp only [hp_up_up]); rfl⟩
              · refine lv_aload_n S.1 S.2.1 d_Mo_row_65 rfl (lv_at hl 1 rfl) ?_
                refine hp_get S zz hJ h_t f_Mo_128 rfl d_Mo_row_66 ?_
                refine lv_iload S.1 S.2.1 d_Mo_row_69 (lv_at hl 0 rfl) ?_
                refine lv_iadd S.1 S.2.1 d_Mo_row_71 ?_
                refine lv_ldc (v := 65536) S.1 S.2.1 S.2.2.2.1 (S.2.2.2.2 _ t_749) d_Mo_row_72 ?_
                refine lv_icmp_le (tgt := 79) S.1 S.2.1 d_Mo_row_74 (by decide) (fun q => absurd ⟨q_is_ne.mp c_9, q_is_ne.mp c_16, by simp only [z_lt, z_le] at c_21 c_27 ⊢; omega, by simp only [z_lt, z_le] at c_33 c_40 ⊢; omega, c_62, q⟩ hF) (fun _ => ?_)
                refine lv_iconst (v := 0) S.1 S.2.1 d_Mo_row_77 (by decide) ?_
                exact hp_retWz S hJ hr hlk d_Mo_row_78 (by decide) (by decide) ⟨rfl, by rw [eh1]; (try simp only [hp_up_up]); rfl⟩
            · refine lv_iconst (v := 0) S.1 S.2.1 d_Mo_row_43 (by decide) ?_
              exact hp_retWz S hJ hr hlk d_Mo_row_44 (by decide) (by decide) ⟨rfl, by rw [eh1]; (try simp only [hp_up_up]); rfl⟩

set_option maxHeartbeats 4000000 in
set_option maxRecDepth 100000 in
theorem c_Mo_row (l : Launch) (dC : Nat → ClassId) (dI : Nat → Nat → Nat) (cA : Nat → ClassId) (A : Nat → Prop) (h : hp_T) (t sh ac dn fr sp dt : Nat) (mf : Nat → Int32) (hh ww sc n : Nat) (x y : Int32) (bits : Int64) (f : Nat → Int64) (h_t : h t = some (k_Mo mf sh ac dn fr sp dt)) (hF : (-10000 ≤ x ∧ x ≤ 10000) ∧ (-10000 ≤ y ∧ y ≤ 10000) ∧ (1 ≤ nI sc ∧ nI sc ≤ 8) ∧ (1 ≤ nI n ∧ nI n ≤ 64) ∧ ¬ mf 12 = 4096 ∧ mf 13 + (nI n + 7) / 8 ≤ 65536) (hsc : sc ≤ 8) (hn : n ≤ 64) (hw : ww ≤ 5100 ∧ mf 1 = nI ww) (hh2 : hh ≤ 5100 ∧ mf 2 = nI hh) (h_sh : h sh = some (k_lo (cA 1) (80 * hh) f)) : Met l y_Mo_row (.code y_Mo_row prog_9_method_25_code 12 (some .boolean) :: BIG) ({ frames := 4, cells := 0, slots := 0, locals := 100 }) (va_Pc [.ref t, .int x, .int y, .int (nI sc), .int (nI n), .long bits] (hp_I (gg dC dI cA) A h)) (hp_QW (gg dC dI cA) A hp_mi (fun r9 h' => r9 = 1 ∧ h' = hp_up (hp_up h t (k_Mo (upd (upd (upd mf 0 0) 12 (mf 12 + 1)) 13 (mf 13 + (nI n + 7) / 8)) sh ac dn fr sp dt)) sh (k_lo (cA 1) (80 * hh) (q_rw (upd (upd (upd mf 0 0) 12 (mf 12 + 1)) 13 (mf 13 + (nI n + 7) / 8)) x y sc bits f n)))) 0 0 A := by
  refine hp_enter (by decide) (Nat.le_of_ble_eq_true rfl) ?_
  intro p e s m below meth c ls S hr hlk hin hI hl
  have hl : lv_has ls 12 [(0, .ref t), (1, .int x), (2, .int y), (3, .int (nI sc)), (4, .int (nI n)), (5, .long bits)] := hl
  have hJ := hI.J
  refine lv_aload_n S.1 S.2.1 d_Mo_row_0 rfl (lv_at hl 0 rfl) ?_
  refine lv_iconst (v := 0) S.1 S.2.1 d_Mo_row_1 (by decide) ?_
  refine hp_put S zz hJ h_t fp_Mo_46 rfl rfl (nl rfl) d_Mo_row_2 (fun H locs hJ => ?_)
  obtain ⟨h1, eh1⟩ : ∃ z, z = hp_up h t (.inr (7, [.int 0, .int (mf 1), .int (mf 2), .int (mf 3), .ref sh, .int (mf 5), .ref ac, .ref dn, .ref fr, .ref sp, .int (mf 10), .ref dt, .int (mf 12), .int (mf 13), .int (mf 14), .int (mf 15), .int (mf 16), .int (mf 17), .int (mf 18), .int (mf 19), .int (mf 20), .int (mf 21), .int (mf 22)])) := ⟨_, rfl⟩
  have hJ := hJ.cast eh1
  have h0_t := h_t
  have h_sh : h1 sh = some (k_lo (cA 1) (80 * hh) f) := by rw [eh1]; exact hp_up_k (hp_ne h_sh h0_t (show ((2, 0) : Nat × Nat) ≠ (0, 7) by decide)) h_sh
  have h_t : h1 t = some (.inr (7, [.int 0, .int (mf 1), .int (mf 2), .int (mf 3), .ref sh, .int (mf 5), .ref ac, .ref dn, .ref fr, .ref sp, .int (mf 10), .ref dt, .int (mf 12), .int (mf 13), .int (mf 14), .int (mf 15), .int (mf 16), .int (mf 17), .int (mf 18), .int (mf 19), .int (mf 20), .int (mf 21), .int (mf 22)])) := by rw [eh1]; exact hp_up_s _ _ _
  refine lv_iload_n S.1 S.2.1 d_Mo_row_5 rfl (lv_at hl 1 rfl) ?_
  refine hp_doneR (hp_runS S zz0 (c_Mo_isPlace l _) l_Mo_109 (hp_pre0 _) (by decide) rfl hl.1 rfl (nl rfl) d_Mo_row_6 (by decide)) ?_
  refine lv_if_eq (tgt := 43) S.1 S.2.1 d_Mo_row_9 (by decide) (fun q => absurd hF.1 (q_is_0.mp q)) (fun _ => ?_)
  refine lv_iload_n S.1 S.2.1 d_Mo_row_12 rfl (lv_at hl 2 rfl) ?_
  refine hp_doneR (hp_runS S zz0 (c_Mo_isPlace l _) l_Mo_109 (hp_pre0 _) (by decide) rfl hl.1 rfl (nl rfl) d_Mo_row_13 (by decide)) ?_
  refine lv_if_eq (tgt := 43) S.1 S.2.1 d_Mo_row_16 (by decide) (fun q => absurd hF.2.1 (q_is_0.mp q)) (fun _ => ?_)
  refine lv_iload_n S.1 S.2.1 d_Mo_row_19 rfl (lv_at hl 3 rfl) ?_
  refine lv_iconst (v := 1) S.1 S.2.1 d_Mo_row_20 (by decide) ?_
  refine lv_icmp_lt (tgt := 43) S.1 S.2.1 d_Mo_row_21 (by decide) (fun q => absurd q (by have q2 := hF.2.2.1; simp only [z_lt, z_le] at q2 ⊢; omega)) (fun _ => ?_)
  refine lv_iload_n S.1 S.2.1 d_Mo_row_24 rfl (lv_at hl 3 rfl) ?_
  refine lv_bipush (v := 8) S.1 S.2.1 d_Mo_row_25 (by decide) ?_
  refine lv_icmp_gt (tgt := 43) S.1 S.2.1 d_Mo_row_27 (by decide) (fun q => absurd q (by have q2 := hF.2.2.1; simp only [z_lt, z_le] at q2 ⊢; omega)) (fun _ => ?_)
  refine lv_iload S.1 S.2.1 d_Mo_row_30 (lv_at hl 4 rfl) ?_
  refine lv_iconst (v := 1) S.1 S.2.1 d_Mo_row_32 (by decide) ?_
  refine lv_icmp_lt (tgt := 43) S.1 S.2.1 d_Mo_row_33 (by decide) (fun q => absurd q (by have q2 := hF.2.2.2.1; simp only [z_lt, z_le] at q2 ⊢; omega)) (fun _ => ?_)
  refine lv_iload S.1 S.2.1 d_Mo_row_36 (lv_at hl 4 rfl) ?_
  refine lv_bipush (v := 64) S.1 S.2.1 d_Mo_row_38 (by decide) ?_
  refine lv_icmp_le (tgt := 45) S.1 S.2.1 d_Mo_row_40 (by decide) (fun _ => ?_) (fun q => absurd (by have q2 := hF.2.2.2.1; simp only [z_lt, z_le] at q2 ⊢; omega) q)
  refine lv_iload S.1 S.2.1 d_Mo_row_45 (lv_at hl 4 rfl) ?_
  refine lv_bipush (v := 7) S.1 S.2.1 d_Mo_row_47 (by decide) ?_
  refine lv_iadd S.1 S.2.1 d_Mo_row_49 ?_
  refine lv_bipush (v := 8) S.1 S.2.1 d_Mo_row_50 (by decide) ?_
  refine lv_idiv S.1 S.2.1 d_Mo_row_52 (by decide) ?_
  refine lv_istore (lv' := [(7, .int (((nI n) + (7 : Int32)) / (8 : Int32))), (0, .ref t), (1, .int x), (2, .int y), (3, .int (nI sc)), (4, .int (nI n)), (5, .long bits)]) S.1 S.2.1 d_Mo_row_53 hl (by decide) rfl (fun ls hl => ?_)
  refine lv_aload_n S.1 S.2.1 d_Mo_row_55 rfl (lv_at hl 1 rfl) ?_
  refine hp_get S zz hJ h_t f_Mo_112 rfl d_Mo_row_56 ?_
  refine lv_sipush (v := 4096) S.1 S.2.1 d_Mo_row_59 (by decide) ?_
  refine lv_icmp_eq (tgt := 77) S.1 S.2.1 d_Mo_row_62 (by decide) (fun q => absurd q hF.2.2.2.2.1) (fun _ => ?_)
  refine lv_aload_n S.1 S.2.1 d_Mo_row_65 rfl (lv_at hl 1 rfl) ?_
  refine hp_get S zz hJ h_t f_Mo_128 rfl d_Mo_row_66 ?_
  refine lv_iload S.1 S.2.1 d_Mo_row_69 (lv_at hl 0 rfl) ?_
  refine lv_iadd S.1 S.2.1 d_Mo_row_71 ?_
  refine lv_ldc (v := 65536) S.1 S.2.1 S.2.2.2.1 (S.2.2.2.2 _ t_749) d_Mo_row_72 ?_
  refine lv_icmp_le (tgt := 79) S.1 S.2.1 d_Mo_row_74 (by decide) (fun _ => ?_) (fun q => absurd hF.2.2.2.2.2 q)
  refine lv_aload_n S.1 S.2.1 d_Mo_row_79 rfl (lv_at hl 1 rfl) ?_
  refine lv_dup S.1 S.2.1 d_Mo_row_80 rfl ?_
  refine hp_get S zz hJ h_t f_Mo_112 rfl d_Mo_row_81 ?_
  refine lv_iconst (v := 1) S.1 S.2.1 d_Mo_row_84 (by decide) ?_
  refine lv_iadd S.1 S.2.1 d_Mo_row_85 ?_
  refine hp_put S zz hJ h_t fp_Mo_112 rfl rfl (nl rfl) d_Mo_row_86 (fun H locs hJ => ?_)
  obtain ⟨h2, eh2⟩ : ∃ z, z = hp_up h1 t (.inr (7, [.int 0, .int (mf 1), .int (mf 2), .int (mf 3), .ref sh, .int (mf 5), .ref ac, .ref dn, .ref fr, .ref sp, .int (mf 10), .ref dt, .int ((mf 12) + (1 : Int32)), .int (mf 13), .int (mf 14), .int (mf 15), .int (mf 16), .int (mf 17), .int (mf 18), .int (mf 19), .int (mf 20), .int (mf 21), .int (mf 22)])) := ⟨_, rfl⟩
  have hJ := hJ.cast eh2
  have h0_t := h_t
  have h_sh : h2 sh = some (k_lo (cA 1) (80 * hh) f) := by rw [eh2]; exact hp_up_k (hp_ne h_sh h0_t (show ((2, 0) : Nat × Nat) ≠ (0, 7) by decide)) h_sh
  have h_t : h2 t = some (.inr (7, [.int 0, .int (mf 1), .int (mf 2), .int (mf 3), .ref sh, .int (mf 5), .ref ac, .ref dn, .ref fr, .ref sp, .int (mf 10), .ref dt, .int ((mf 12) + (1 : Int32)), .int (mf 13), .int (mf 14), .int (mf 15), .int (mf 16), .int (mf 17), .int (mf 18), .int (mf 19), .int (mf 20), .int (mf 21), .int (mf 22)])) := by rw [eh2]; exact hp_up_s _ _ _
  refine lv_aload_n S.1 S.2.1 d_Mo_row_89 rfl (lv_at hl 1 rfl) ?_
  refine lv_dup S.1 S.2.1 d_Mo_row_90 rfl ?_
  refine hp_get S zz hJ h_t f_Mo_128 rfl d_Mo_row_91 ?_
  refine lv_iload S.1 S.2.1 d_Mo_row_94 (lv_at hl 0 rfl) ?_
  refine lv_iadd S.1 S.2.1 d_Mo_row_96 ?_
  refine hp_put S zz hJ h_t fp_Mo_128 rfl rfl (nl rfl) d_Mo_row_97 (fun H locs hJ => ?_)
  obtain ⟨h3, eh3⟩ : ∃ z, z = hp_up h2 t (.inr (7, [.int 0, .int (mf 1), .int (mf 2), .int (mf 3), .ref sh, .int (mf 5), .ref ac, .ref dn, .ref fr, .ref sp, .int (mf 10), .ref dt, .int ((mf 12) + (1 : Int32)), .int ((mf 13) + (((nI n) + (7 : Int32)) / (8 : Int32))), .int (mf 14), .int (mf 15), .int (mf 16), .int (mf 17), .int (mf 18), .int (mf 19), .int (mf 20), .int (mf 21), .int (mf 22)])) := ⟨_, rfl⟩
  have hJ := hJ.cast eh3
  have h0_t := h_t
  have h_sh : h3 sh = some (k_lo (cA 1) (80 * hh) f) := by rw [eh3]; exact hp_up_k (hp_ne h_sh h0_t (show ((2, 0) : Nat × Nat) ≠ (0, 7) by decide)) h_sh
  have h_t : h3 t = some (.inr (7, [.int 0, .int (mf 1), .int (mf 2), .int (mf 3), .ref sh, .int (mf 5), .ref ac, .ref dn, .ref fr, .ref sp, .int (mf 10), .ref dt, .int ((mf 12) + (1 : Int32)), .int ((mf 13) + (((nI n) + (7 : Int32)) / (8 : Int32))), .int (mf 14), .int (mf 15), .int (mf 16), .int (mf 17), .int (mf 18), .int (mf 19), .int (mf 20), .int (mf 21), .int (mf 22)])) := by rw [eh3]; exact hp_up_s _ _ _
  refine lv_iconst (v := 0) S.1 S.2.1 d_Mo_row_100 (by decide) ?_
  refine lv_istore (lv' := [(8, .int 0), (7, .int (((nI n) + (7 : Int32)) / (8 : Int32))), (0, .ref t), (1, .int x), (2, .int y), (3, .int (nI sc)), (4, .int (nI n)), (5, .long bits)]) S.1 S.2.1 d_Mo_row_101 hl (by decide) rfl (fun ls hl => ?_)
  have h_t0 := h_t
  have h_sh0 := h_sh
  have LPk : ∀ (n_k k : Nat) (hc : hp_T) (H : Heap) (locs : List Loc) (ls : Array Slot), k + n_k = n → hc = hp_up h3 sh (k_lo (cA 1) (80 * hh) (q_rw (upd (upd (upd mf 0 0) 12 (mf 12 + 1)) 13 (mf 13 + (nI n + 7) / 8)) x y sc bits f k)) → hp_J (gg dC dI cA) A hc s H locs → lv_has ls 12 [(8, .int (nI k)), (0, .ref t), (1, .int x), (2, .int y), (3, .int (nI sc)), (4, .int (nI n)), (5, .long bits)] → W p l e ({ frames := 4, cells := 0, slots := 0, locals := 100 }) s m ([.ref t, .int x, .int y, .int (nI sc), .int (nI n), .long bits] : List Value).toArray below meth c H locs 0 0 (MQ below (hp_QW (gg dC dI cA) A hp_mi (fun r9 h' => r9 = 1 ∧ h' = hp_up (hp_up h t (k_Mo (upd (upd (upd mf 0 0) 12 (mf 12 + 1)) 13 (mf 13 + (nI n + 7) / 8)) sh ac dn fr sp dt)) sh (k_lo (cA 1) (80 * hh) (q_rw (upd (upd (upd mf 0 0) 12 (mf 12 + 1)) 13 (mf 13 + (nI n + 7) / 8)) x y sc bits f n)))) ([.ref t, .int x, .int y, .int (nI sc), .int (nI n), .long bits] : List Value).toArray s 0 0 A) (F0 m 103 ls []) := by
    intro n_k
    induction n_k with
    | zero =>
      intro k hc H locs ls hu_k ehc hJ hl
      have h_sh : hc sh = some (k_lo (cA 1) (80 * hh) (q_rw (upd (upd (upd mf 0 0) 12 (mf 12 + 1)) 13 (mf 13 + (nI n + 7) / 8)) x y sc bits f k)) := by rw [ehc]; exact hp_up_s _ _ _
      have h_t : hc t = some (k_Mo (upd (upd (upd mf 0 0) 12 (mf 12 + 1)) 13 (mf 13 + (nI n + 7) / 8)) sh ac dn fr sp dt) := by rw [ehc]; exact hp_up_k (hp_ne h_t0 h_sh0 (show ((0, 7) : Nat × Nat) ≠ (2, 0) by decide)) h_t0
      refine lv_iload S.1 S.2.1 d_Mo_row_103 (lv_at hl 0 rfl) ?_
      refine lv_iload S.1 S.2.1 d_Mo_row_105 (lv_at hl 5 rfl) ?_
      obtain ⟨e_nk, -⟩ : k = n ∧ True := ⟨by omega, trivial⟩
      refine lv_icmp_ge (tgt := 185) S.1 S.2.1 d_Mo_row_107 (by decide) (fun _ => ?_) (fun q => absurd (by rw [e_nk]; exact Int32.le_refl _) q)
      refine lv_iconst (v := 1) S.1 S.2.1 d_Mo_row_185 (by decide) ?_
      exact hp_retWz S hJ hr hlk d_Mo_row_186 (by decide) (by decide) ⟨rfl, by rw [ehc, e_nk, eh3, eh2, eh1]; (try simp only [hp_up_up]); rfl⟩
    | succ n_k ihk =>
      intro k hc H locs ls hu_k ehc hJ hl
      have h_sh : hc sh = some (k_lo (cA 1) (80 * hh) (q_rw (upd (upd (upd mf 0 0) 12 (mf 12 + 1)) 13 (mf 13 + (nI n + 7) / 8)) x y sc bits f k)) := by rw [ehc]; exact hp_up_s _ _ _
      have h_t : hc t = some (k_Mo (upd (upd (upd mf 0 0) 12 (mf 12 + 1)) 13 (mf 13 + (nI n + 7) / 8)) sh ac dn fr sp dt) := by rw [ehc]; exact hp_up_k (hp_ne h_t0 h_sh0 (show ((0, 7) : Nat × Nat) ≠ (2, 0) by decide)) h_t0
      refine lv_iload S.1 S.2.1 d_Mo_row_103 (lv_at hl 0 rfl) ?_
      refine lv_iload S.1 S.2.1 d_Mo_row_105 (lv_at hl 5 rfl) ?_
      refine lv_icmp_ge (tgt := 185) S.1 S.2.1 d_Mo_row_107 (by decide) (fun q => absurd q (nI_ge (a := k) (b := n) (by omega) (by omega))) (fun _ => ?_)
      refine hp_cut (fun v => v = q_is (tb bits k = true)) 130 [] (fun J => ?_) (fun bl e_bl => ?_)
      · refine lv_lload S.1 S.2.1 d_Mo_row_110 (lv_at hl 6 rfl) ?_
        refine lv_bipush (v := 63) S.1 S.2.1 d_Mo_row_112 (by decide) ?_
        refine lv_iload S.1 S.2.1 d_Mo_row_114 (lv_at hl 0 rfl) ?_
        refine lv_isub S.1 S.2.1 d_Mo_row_116 ?_
        rw [sb63 (by omega)]
        refine lv_lshr S.1 S.2.1 d_Mo_row_117 rfl ?_
        refine lv_lconst (v := 1) S.1 S.2.1 d_Mo_row_118 (by decide) ?_
        refine lv_land S.1 S.2.1 d_Mo_row_119 ?_
        refine lv_lconst (v := 1) S.1 S.2.1 d_Mo_row_120 (by decide) ?_
        refine W.lcmp S.1 S.2.1 d_Mo_row_121 ?_
        refine lv_if_ne (tgt := 129) S.1 S.2.1 d_Mo_row_122 (by decide) (fun c_122 => ?_) (fun c_122 => ?_)
        · refine lv_iconst (v := 0) S.1 S.2.1 d_Mo_row_129 (by decide) ?_
          exact J _ (q_is_f (fun q => c_122 ((lg_cmp_e _ _).mpr ((tb_asr _ (by omega)).mpr q))))
        · refine lv_iconst (v := 1) S.1 S.2.1 d_Mo_row_125 (by decide) ?_
          refine lv_goto (tgt := 130) S.1 S.2.1 d_Mo_row_126 (by decide) ?_
          exact J _ (q_is_t ((tb_asr _ (by omega)).mp ((lg_cmp_e _ _).mp c_122)))
      · subst e_bl
        refine lv_istore (lv' := [(9, .int (q_is (tb bits k = true))), (8, .int (nI k)), (0, .ref t), (1, .int x), (2, .int y), (3, .int (nI sc)), (4, .int (nI n)), (5, .long bits)]) S.1 S.2.1 d_Mo_row_130 hl (by decide) rfl (fun ls hl => ?_)
        refine lv_iconst (v := 0) S.1 S.2.1 d_Mo_row_132 (by decide) ?_
        refine lv_istore (lv' := [(10, .int 0), (9, .int (q_is (tb bits k = true))), (8, .int (nI k)), (0, .ref t), (1, .int x), (2, .int y), (3, .int (nI sc)), (4, .int (nI n)), (5, .long bits)]) S.1 S.2.1 d_Mo_row_133 hl (by decide) rfl (fun ls hl => ?_)
        have LPi : ∀ (n_i i : Nat) (hc : hp_T) (H : Heap) (locs : List Loc) (ls : Array Slot), i + n_i = sc → hc = hp_up h3 sh (k_lo (cA 1) (80 * hh) (q_mi (fun F i => q_mi (fun F j => q_pt (upd (upd (upd mf 0 0) 12 (mf 12 + 1)) 13 (mf 13 + (nI n + 7) / 8)) F (q_lx ((upd (upd (upd mf 0 0) 12 (mf 12 + 1)) 13 (mf 13 + (nI n + 7) / 8)) 18) x (nI (sc * k + i)) (nI j)) (q_lyy ((upd (upd (upd mf 0 0) 12 (mf 12 + 1)) 13 (mf 13 + (nI n + 7) / 8)) 18) y (nI (sc * k + i)) (nI j)) (q_is (tb bits k = true))) F sc) (q_rw (upd (upd (upd mf 0 0) 12 (mf 12 + 1)) 13 (mf 13 + (nI n + 7) / 8)) x y sc bits f k) i)) → hp_J (gg dC dI cA) A hc s H locs → lv_has ls 12 [(10, .int (nI i)), (9, .int (q_is (tb bits k = true))), (8, .int (nI k)), (0, .ref t), (1, .int x), (2, .int y), (3, .int (nI sc)), (4, .int (nI n)), (5, .long bits)] → W p l e ({ frames := 4, cells := 0, slots := 0, locals := 100 }) s m ([.ref t, .int x, .int y, .int (nI sc), .int (nI n), .long bits] : List Value).toArray below meth c H locs 0 0 (MQ below (hp_QW (gg dC dI cA) A hp_mi (fun r9 h' => r9 = 1 ∧ h' = hp_up (hp_up h t (k_Mo (upd (upd (upd mf 0 0) 12 (mf 12 + 1)) 13 (mf 13 + (nI n + 7) / 8)) sh ac dn fr sp dt)) sh (k_lo (cA 1) (80 * hh) (q_rw (upd (upd (upd mf 0 0) 12 (mf 12 + 1)) 13 (mf 13 + (nI n + 7) / 8)) x y sc bits f n)))) ([.ref t, .int x, .int y, .int (nI sc), .int (nI n), .long bits] : List Value).toArray s 0 0 A) (F0 m 135 ls []) := by
          intro n_i
          induction n_i with
          | zero =>
            intro i hc H locs ls hu_i ehc hJ hl
            have h_sh : hc sh = some (k_lo (cA 1) (80 * hh) (q_mi (fun F i => q_mi (fun F j => q_pt (upd (upd (upd mf 0 0) 12 (mf 12 + 1)) 13 (mf 13 + (nI n + 7) / 8)) F (q_lx ((upd (upd (upd mf 0 0) 12 (mf 12 + 1)) 13 (mf 13 + (nI n + 7) / 8)) 18) x (nI (sc * k + i)) (nI j)) (q_lyy ((upd (upd (upd mf 0 0) 12 (mf 12 + 1)) 13 (mf 13 + (nI n + 7) / 8)) 18) y (nI (sc * k + i)) (nI j)) (q_is (tb bits k = true))) F sc) (q_rw (upd (upd (upd mf 0 0) 12 (mf 12 + 1)) 13 (mf 13 + (nI n + 7) / 8)) x y sc bits f k) i)) := by rw [ehc]; exact hp_up_s _ _ _
            have h_t : hc t = some (k_Mo (upd (upd (upd mf 0 0) 12 (mf 12 + 1)) 13 (mf 13 + (nI n + 7) / 8)) sh ac dn fr sp dt) := by rw [ehc]; exact hp_up_k (hp_ne h_t0 h_sh0 (show ((0, 7) : Nat × Nat) ≠ (2, 0) by decide)) h_t0
            refine lv_iload S.1 S.2.1 d_Mo_row_135 (lv_at hl 0 rfl) ?_
            refine lv_iload_n S.1 S.2.1 d_Mo_row_137 rfl (lv_at hl 6 rfl) ?_
            obtain ⟨e_ni, -⟩ : i = sc ∧ True := ⟨by omega, trivial⟩
            refine lv_icmp_ge (tgt := 179) S.1 S.2.1 d_Mo_row_138 (by decide) (fun _ => ?_) (fun q => absurd (by rw [e_ni]; exact Int32.le_refl _) q)
            refine lv_iinc (v := nI (k + 1)) (lv' := [(8, .int (nI (k + 1))), (10, .int (nI i)), (9, .int (q_is (tb bits k = true))), (0, .ref t), (1, .int x), (2, .int y), (3, .int (nI sc)), (4, .int (nI n)), (5, .long bits)]) S.1 S.2.1 d_Mo_row_179 hl (k := 2) rfl (nI_1 _) (by decide) rfl (fun ls hl => ?_)
            refine lv_goto (tgt := 103) S.1 S.2.1 d_Mo_row_182 (by decide) ?_
            exact ihk (k + 1) _ _ _ ls (by omega) (by rw [ehc, e_ni]; rfl) hJ (lv_sub hl [0, 3, 4, 5, 6, 7, 8] rfl)
          | succ n_i ihi =>
            intro i hc H locs ls hu_i ehc hJ hl
            have h_sh : hc sh = some (k_lo (cA 1) (80 * hh) (q_mi (fun F i => q_mi (fun F j => q_pt (upd (upd (upd mf 0 0) 12 (mf 12 + 1)) 13 (mf 13 + (nI n + 7) / 8)) F (q_lx ((upd (upd (upd mf 0 0) 12 (mf 12 + 1)) 13 (mf 13 + (nI n + 7) / 8)) 18) x (nI (sc * k + i)) (nI j)) (q_lyy ((upd (upd (upd mf 0 0) 12 (mf 12 + 1)) 13 (mf 13 + (nI n + 7) / 8)) 18) y (nI (sc * k + i)) (nI j)) (q_is (tb bits k = true))) F sc) (q_rw (upd (upd (upd mf 0 0) 12 (mf 12 + 1)) 13 (mf 13 + (nI n + 7) / 8)) x y sc bits f k) i)) := by rw [ehc]; exact hp_up_s _ _ _
            have h_t : hc t = some (k_Mo (upd (upd (upd mf 0 0) 12 (mf 12 + 1)) 13 (mf 13 + (nI n + 7) / 8)) sh ac dn fr sp dt) := by rw [ehc]; exact hp_up_k (hp_ne h_t0 h_sh0 (show ((0, 7) : Nat × Nat) ≠ (2, 0) by decide)) h_t0
            refine lv_iload S.1 S.2.1 d_Mo_row_135 (lv_at hl 0 rfl) ?_
            refine lv_iload_n S.1 S.2.1 d_Mo_row_137 rfl (lv_at hl 6 rfl) ?_
            refine lv_icmp_ge (tgt := 179) S.1 S.2.1 d_Mo_row_138 (by decide) (fun q => absurd q (nI_ge (a := i) (b := sc) (by omega) (by omega))) (fun _ => ?_)
            refine lv_iconst (v := 0) S.1 S.2.1 d_Mo_row_141 (by decide) ?_
            refine lv_istore (lv' := [(11, .int 0), (10, .int (nI i)), (9, .int (q_is (tb bits k = true))), (8, .int (nI k)), (0, .ref t), (1, .int x), (2, .int y), (3, .int (nI sc)), (4, .int (nI n)), (5, .long bits)]) S.1 S.2.1 d_Mo_row_142 hl (by decide) rfl (fun ls hl => ?_)
            have LPj : ∀ (n_j j : Nat) (hc : hp_T) (H : Heap) (locs : List Loc) (ls : Array Slot), j + n_j = sc → hc = hp_up h3 sh (k_lo (cA 1) (80 * hh) (q_mi (fun F j => q_pt (upd (upd (upd mf 0 0) 12 (mf 12 + 1)) 13 (mf 13 + (nI n + 7) / 8)) F (q_lx ((upd (upd (upd mf 0 0) 12 (mf 12 + 1)) 13 (mf 13 + (nI n + 7) / 8)) 18) x (nI (sc * k + i)) (nI j)) (q_lyy ((upd (upd (upd mf 0 0) 12 (mf 12 + 1)) 13 (mf 13 + (nI n + 7) / 8)) 18) y (nI (sc * k + i)) (nI j)) (q_is (tb bits k = true))) (q_mi (fun F i => q_mi (fun F j => q_pt (upd (upd (upd mf 0 0) 12 (mf 12 + 1)) 13 (mf 13 + (nI n + 7) / 8)) F (q_lx ((upd (upd (upd mf 0 0) 12 (mf 12 + 1)) 13 (mf 13 + (nI n + 7) / 8)) 18) x (nI (sc * k + i)) (nI j)) (q_lyy ((upd (upd (upd mf 0 0) 12 (mf 12 + 1)) 13 (mf 13 + (nI n + 7) / 8)) 18) y (nI (sc * k + i)) (nI j)) (q_is (tb bits k = true))) F sc) (q_rw (upd (upd (upd mf 0 0) 12 (mf 12 + 1)) 13 (mf 13 + (nI n + 7) / 8)) x y sc bits f k) i) j)) → hp_J (gg dC dI cA) A hc s H locs → lv_has ls 12 [(11, .int (nI j)), (10, .int (nI i)), (9, .int (q_is (tb bits k = true))), (8, .int (nI k)), (0, .ref t), (1, .int x), (2, .int y), (3, .int (nI sc)), (4, .int (nI n)), (5, .long bits)] → W p l e ({ frames := 4, cells := 0, slots := 0, locals := 100 }) s m ([.ref t, .int x, .int y, .int (nI sc), .int (nI n), .long bits] : List Value).toArray below meth c H locs 0 0 (MQ below (hp_QW (gg dC dI cA) A hp_mi (fun r9 h' => r9 = 1 ∧ h' = hp_up (hp_up h t (k_Mo (upd (upd (upd mf 0 0) 12 (mf 12 + 1)) 13 (mf 13 + (nI n + 7) / 8)) sh ac dn fr sp dt)) sh (k_lo (cA 1) (80 * hh) (q_rw (upd (upd (upd mf 0 0) 12 (mf 12 + 1)) 13 (mf 13 + (nI n + 7) / 8)) x y sc bits f n)))) ([.ref t, .int x, .int y, .int (nI sc), .int (nI n), .long bits] : List Value).toArray s 0 0 A) (F0 m 144 ls []) := by
              intro n_j
              induction n_j with
              | zero =>
                intro j hc H locs ls hu_j ehc hJ hl
                have h_sh : hc sh = some (k_lo (cA 1) (80 * hh) (q_mi (fun F j => q_pt (upd (upd (upd mf 0 0) 12 (mf 12 + 1)) 13 (mf 13 + (nI n + 7) / 8)) F (q_lx ((upd (upd (upd mf 0 0) 12 (mf 12 + 1)) 13 (mf 13 + (nI n + 7) / 8)) 18) x (nI (sc * k + i)) (nI j)) (q_lyy ((upd (upd (upd mf 0 0) 12 (mf 12 + 1)) 13 (mf 13 + (nI n + 7) / 8)) 18) y (nI (sc * k + i)) (nI j)) (q_is (tb bits k = true))) (q_mi (fun F i => q_mi (fun F j => q_pt (upd (upd (upd mf 0 0) 12 (mf 12 + 1)) 13 (mf 13 + (nI n + 7) / 8)) F (q_lx ((upd (upd (upd mf 0 0) 12 (mf 12 + 1)) 13 (mf 13 + (nI n + 7) / 8)) 18) x (nI (sc * k + i)) (nI j)) (q_lyy ((upd (upd (upd mf 0 0) 12 (mf 12 + 1)) 13 (mf 13 + (nI n + 7) / 8)) 18) y (nI (sc * k + i)) (nI j)) (q_is (tb bits k = true))) F sc) (q_rw (upd (upd (upd mf 0 0) 12 (mf 12 + 1)) 13 (mf 13 + (nI n + 7) / 8)) x y sc bits f k) i) j)) := by rw [ehc]; exact hp_up_s _ _ _
                have h_t : hc t = some (k_Mo (upd (upd (upd mf 0 0) 12 (mf 12 + 1)) 13 (mf 13 + (nI n + 7) / 8)) sh ac dn fr sp dt) := by rw [ehc]; exact hp_up_k (hp_ne h_t0 h_sh0 (show ((0, 7) : Nat × Nat) ≠ (2, 0) by decide)) h_t0
                refine lv_iload S.1 S.2.1 d_Mo_row_144 (lv_at hl 0 rfl) ?_
                refine lv_iload_n S.1 S.2.1 d_Mo_row_146 rfl (lv_at hl 7 rfl) ?_
                obtain ⟨e_nj, -⟩ : j = sc ∧ True := ⟨by omega, trivial⟩
                refine lv_icmp_ge (tgt := 173) S.1 S.2.1 d_Mo_row_147 (by decide) (fun _ => ?_) (fun q => absurd (by rw [e_nj]; exact Int32.le_refl _) q)
                refine lv_iinc (v := nI (i + 1)) (lv' := [(10, .int (nI (i + 1))), (11, .int (nI j)), (9, .int (q_is (tb bits k = true))), (8, .int (nI k)), (0, .ref t), (1, .int x), (2, .int y), (3, .int (nI sc)), (4, .int (nI n)), (5, .long bits)]) S.1 S.2.1 d_Mo_row_173 hl (k := 1) rfl (nI_1 _) (by decide) rfl (fun ls hl => ?_)
                refine lv_goto (tgt := 135) S.1 S.2.1 d_Mo_row_176 (by decide) ?_
                exact ihi (i + 1) _ _ _ ls (by omega) (by rw [ehc, e_nj]; rfl) hJ (lv_sub hl [0, 2, 3, 4, 5, 6, 7, 8, 9] rfl)
              | succ n_j ihj =>
                intro j hc H locs ls hu_j ehc hJ hl
                have h_sh : hc sh = some (k_lo (cA 1) (80 * hh) (q_mi (fun F j => q_pt (upd (upd (upd mf 0 0) 12 (mf 12 + 1)) 13 (mf 13 + (nI n + 7) / 8)) F (q_lx ((upd (upd (upd mf 0 0) 12 (mf 12 + 1)) 13 (mf 13 + (nI n + 7) / 8)) 18) x (nI (sc * k + i)) (nI j)) (q_lyy ((upd (upd (upd mf 0 0) 12 (mf 12 + 1)) 13 (mf 13 + (nI n + 7) / 8)) 18) y (nI (sc * k + i)) (nI j)) (q_is (tb bits k = true))) (q_mi (fun F i => q_mi (fun F j => q_pt (upd (upd (upd mf 0 0) 12 (mf 12 + 1)) 13 (mf 13 + (nI n + 7) / 8)) F (q_lx ((upd (upd (upd mf 0 0) 12 (mf 12 + 1)) 13 (mf 13 + (nI n + 7) / 8)) 18) x (nI (sc * k + i)) (nI j)) (q_lyy ((upd (upd (upd mf 0 0) 12 (mf 12 + 1)) 13 (mf 13 + (nI n + 7) / 8)) 18) y (nI (sc * k + i)) (nI j)) (q_is (tb bits k = true))) F sc) (q_rw (upd (upd (upd mf 0 0) 12 (mf 12 + 1)) 13 (mf 13 + (nI n + 7) / 8)) x y sc bits f k) i) j)) := by rw [ehc]; exact hp_up_s _ _ _
                have h_t : hc t = some (k_Mo (upd (upd (upd mf 0 0) 12 (mf 12 + 1)) 13 (mf 13 + (nI n + 7) / 8)) sh ac dn fr sp dt) := by rw [ehc]; exact hp_up_k (hp_ne h_t0 h_sh0 (show ((0, 7) : Nat × Nat) ≠ (2, 0) by decide)) h_t0
                refine lv_iload S.1 S.2.1 d_Mo_row_144 (lv_at hl 0 rfl) ?_
                refine lv_iload_n S.1 S.2.1 d_Mo_row_146 rfl (lv_at hl 7 rfl) ?_
                refine lv_icmp_ge (tgt := 173) S.1 S.2.1 d_Mo_row_147 (by decide) (fun q => absurd q (nI_ge (a := j) (b := sc) (by omega) (by omega))) (fun _ => ?_)
                refine lv_aload_n S.1 S.2.1 d_Mo_row_150 rfl (lv_at hl 4 rfl) ?_
                refine lv_iload_n S.1 S.2.1 d_Mo_row_151 rfl (lv_at hl 5 rfl) ?_
                refine lv_iload_n S.1 S.2.1 d_Mo_row_152 rfl (lv_at hl 6 rfl) ?_
                refine lv_iload_n S.1 S.2.1 d_Mo_row_153 rfl (lv_at hl 7 rfl) ?_
                refine lv_iload S.1 S.2.1 d_Mo_row_154 (lv_at hl 3 rfl) ?_
                refine lv_imul S.1 S.2.1 d_Mo_row_156 ?_
                refine lv_iload S.1 S.2.1 d_Mo_row_157 (lv_at hl 1 rfl) ?_
                refine lv_iadd S.1 S.2.1 d_Mo_row_159 ?_
                refine lv_iload S.1 S.2.1 d_Mo_row_160 (lv_at hl 0 rfl) ?_
                refine lv_iload S.1 S.2.1 d_Mo_row_162 (lv_at hl 2 rfl) ?_
                refine hp_doneWv hJ (hp_runV S zz0 (c_Mo_lay l dC dI cA A _ t sh ac dn fr sp dt (upd (upd (upd mf 0 0) 12 (mf 12 + 1)) 13 (mf 13 + (nI n + 7) / 8)) ww hh _ x y (nI (sc * k + i)) (nI j) _ h_t h_sh hw hh2) l_Mo_118 (hJ.preV [.int x, .int y, .int (nI (sc * k + i)), .int (nI j), .int (q_is (tb bits k = true))] h_t rfl) (by decide) rfl hl.1 (by rw [← nI_add, ← pk_mul]; rfl) (nl rfl) d_Mo_row_164 (by decide)) (fun h9 H locs eh9 hJ => ?_)
                rw [ehc, hp_up_up] at eh9
                refine lv_iinc (v := nI (j + 1)) (lv' := [(11, .int (nI (j + 1))), (10, .int (nI i)), (9, .int (q_is (tb bits k = true))), (8, .int (nI k)), (0, .ref t), (1, .int x), (2, .int y), (3, .int (nI sc)), (4, .int (nI n)), (5, .long bits)]) S.1 S.2.1 d_Mo_row_167 hl (k := 0) rfl (nI_1 _) (by decide) rfl (fun ls hl => ?_)
                refine lv_goto (tgt := 144) S.1 S.2.1 d_Mo_row_170 (by decide) ?_
                exact ihj (j + 1) _ _ _ ls (by omega) eh9 hJ (lv_sub hl [0, 1, 2, 3, 4, 5, 6, 7, 8, 9] rfl)
            exact LPj sc 0 _ _ _ ls (by omega) ehc hJ (lv_sub hl [0, 1, 2, 3, 4, 5, 6, 7, 8, 9] rfl)
        exact LPi sc 0 _ _ _ ls (by omega) ehc hJ (lv_sub hl [0, 1, 2, 3, 4, 5, 6, 7, 8] rfl)
  exact LPk n 0 _ _ _ ls (by omega) (by rw [show q_rw (upd (upd (upd mf 0 0) 12 (mf 12 + 1)) 13 (mf 13 + (nI n + 7) / 8)) x y sc bits f 0 = f from rfl, hp_up_same h_sh]) hJ (lv_sub hl [0, 2, 3, 4, 5, 6, 7] rfl)

