/-! The reference's rules. -/
def q_rl (tn x w h : Int32) : Int32 := if tn = 0 ∨ tn = 1 then x else if tn = 2 then x - w + 1 else x - h + 1
def q_rr (tn x w h : Int32) : Int32 := if tn = 0 then x + w - 1 else if tn = 1 then x + h - 1 else x
def q_rt (tn y w h : Int32) : Int32 := if tn = 0 ∨ tn = 3 then y else if tn = 1 then y - w + 1 else y - h + 1
def q_rb (tn y w h : Int32) : Int32 := if tn = 0 then y + h - 1 else if tn = 3 then y + w - 1 else y
def q_rp (mf : Nat → Int32) (lu lv mu : Nat) (f : Nat → Int64) : Nat → Nat → Int64 := q_mi (fun F j => q_mi (fun F i => q_pt mf F (nI (lu + i)) (nI (lv + j)) 1) F mu) f

set_option maxHeartbeats 4000000 in
set_option maxRecDepth 100000 in
theorem cF_Mo_rule (l : Launch) (dC : Nat → ClassId) (dI : Nat → Nat → Nat) (cA : Nat → ClassId) (A : Nat → Prop) (h : hp_T) (t sh ac dn fr sp dt : Nat) (mf : Nat → Int32) (x y w hgt : Int32) (h_t : h t = some (k_Mo mf sh ac dn fr sp dt)) (hF : ¬ ((-10000 ≤ x ∧ x ≤ 10000) ∧ (-10000 ≤ y ∧ y ≤ 10000) ∧ (1 ≤ w ∧ w ≤ 10000) ∧ (1 ≤ hgt ∧ hgt ≤ 10000) ∧ ¬ mf 12 = 4096)) : Met l y_Mo_rule (.code y_Mo_rule prog_9_method_24_code 11 (some .boolean) :: BIG) ({ frames := 3, cells := 0, slots := 0, locals := 73 }) (va_Pc [.ref t, .int x, .int y, .int w, .int hgt] (hp_I (gg dC dI cA) A h)) (hp_QW (gg dC dI cA) A hp_mi (fun r h' => r = 0 ∧ h' = hp_up h t (k_Mo (upd mf 0 0) sh ac dn fr sp dt))) 0 0 A := by
  refine hp_enter (by decide) (Nat.le_of_ble_eq_true rfl) ?_
  intro p e s m below meth c ls S hr hlk hin hI hl
  have hl : lv_has ls 11 [(0, .ref t), (1, .int x), (2, .int y), (3, .int w), (4, .int hgt)] := hl
  have hJ := hI.J
  refine lv_aload_n S.1 S.2.1 d_Mo_rule_0 rfl (lv_at hl 0 rfl) ?_
  refine lv_iconst (v := 0) S.1 S.2.1 d_Mo_rule_1 (by decide) ?_
  refine hp_put S zz hJ h_t fp_Mo_46 rfl rfl (nl rfl) d_Mo_rule_2 (fun H locs hJ => ?_)
  obtain ⟨h1, eh1⟩ : ∃ z, z = hp_up h t (.inr (7, [.int 0, .int (mf 1), .int (mf 2), .int (mf 3), .ref sh, .int (mf 5), .ref ac, .ref dn, .ref fr, .ref sp, .int (mf 10), .ref dt, .int (mf 12), .int (mf 13), .int (mf 14), .int (mf 15), .int (mf 16), .int (mf 17), .int (mf 18), .int (mf 19), .int (mf 20), .int (mf 21), .int (mf 22)])) := ⟨_, rfl⟩
  have hJ := hJ.cast eh1
  have h0_t := h_t
  have h_t : h1 t = some (.inr (7, [.int 0, .int (mf 1), .int (mf 2), .int (mf 3), .ref sh, .int (mf 5), .ref ac, .ref dn, .ref fr, .ref sp, .int (mf 10), .ref dt, .int (mf 12), .int (mf 13), .int (mf 14), .int (mf 15), .int (mf 16), .int (mf 17), .int (mf 18), .int (mf 19), .int (mf 20), .int (mf 21), .int (mf 22)])) := by rw [eh1]; exact hp_up_s _ _ _
  refine lv_iload_n S.1 S.2.1 d_Mo_rule_5 rfl (lv_at hl 1 rfl) ?_
  refine hp_doneR (hp_runS S zz0 (c_Mo_isPlace l _) l_Mo_109 (hp_pre0 _) (by decide) rfl hl.1 rfl (nl rfl) d_Mo_rule_6 (by decide)) ?_
  refine lv_if_eq (tgt := 55) S.1 S.2.1 d_Mo_rule_9 (by decide) (fun c_9 => ?_) (fun c_9 => ?_)
  · refine lv_iconst (v := 0) S.1 S.2.1 d_Mo_rule_55 (by decide) ?_
    exact hp_retWz S hJ hr hlk d_Mo_rule_56 (by decide) (by decide) ⟨rfl, by rw [eh1]; (try simp only [hp_up_up]); rfl⟩
  · refine lv_iload_n S.1 S.2.1 d_Mo_rule_12 rfl (lv_at hl 2 rfl) ?_
    refine hp_doneR (hp_runS S zz0 (c_Mo_isPlace l _) l_Mo_109 (hp_pre0 _) (by decide) rfl hl.1 rfl (nl rfl) d_Mo_rule_13 (by decide)) ?_
    refine lv_if_eq (tgt := 55) S.1 S.2.1 d_Mo_rule_16 (by decide) (fun c_16 => ?_) (fun c_16 => ?_)
    · refine lv_iconst (v := 0) S.1 S.2.1 d_Mo_rule_55 (by decide) ?_
      exact hp_retWz S hJ hr hlk d_Mo_rule_56 (by decide) (by decide) ⟨rfl, by rw [eh1]; (try simp only [hp_up_up]); rfl⟩
    · refine lv_iload_n S.1 S.2.1 d_Mo_rule_19 rfl (lv_at hl 3 rfl) ?_
      refine lv_iconst (v := 1) S.1 S.2.1 d_Mo_rule_20 (by decide) ?_
      refine lv_icmp_lt (tgt := 55) S.1 S.2.1 d_Mo_rule_21 (by decide) (fun c_21 => ?_) (fun c_21 => ?_)
      · refine lv_iconst (v := 0) S.1 S.2.1 d_Mo_rule_55 (by decide) ?_
        exact hp_retWz S hJ hr hlk d_Mo_rule_56 (by decide) (by decide) ⟨rfl, by rw [eh1]; (try simp only [hp_up_up]); rfl⟩
      · refine lv_iload_n S.1 S.2.1 d_Mo_rule_24 rfl (lv_at hl 3 rfl) ?_
        refine lv_sipush (v := 10000) S.1 S.2.1 d_Mo_rule_25 (by decide) ?_
        refine lv_icmp_gt (tgt := 55) S.1 S.2.1 d_Mo_rule_28 (by decide) (fun c_28 => ?_) (fun c_28 => ?_)
        · refine lv_iconst (v := 0) S.1 S.2.1 d_Mo_rule_55 (by decide) ?_
          exact hp_retWz S hJ hr hlk d_Mo_rule_56 (by decide) (by decide) ⟨rfl, by rw [eh1]; (try simp only [hp_up_up]); rfl⟩
        · refine lv_iload S.1 S.2.1 d_Mo_rule_31 (lv_at hl 4 rfl) ?_
          refine lv_iconst (v := 1) S.1 S.2.1 d_Mo_rule_33 (by decide) ?_
          refine lv_icmp_lt (tgt := 55) S.1 S.2.1 d_Mo_rule_34 (by decide) (fun c_34 => ?_) (fun c_34 => ?_)
          · refine lv_iconst (v := 0) S.1 S.2.1 d_Mo_rule_55 (by decide) ?_
            exact hp_retWz S hJ hr hlk d_Mo_rule_56 (by decide) (by decide) ⟨rfl, by rw [eh1]; (try simp only [hp_up_up]); rfl⟩
          · refine lv_iload S.1 S.2.1 d_Mo_rule_37 (lv_at hl 4 rfl) ?_
            refine lv_sipush (v := 10000) S.1 S.2.1 d_Mo_rule_39 (by decide) ?_
            refine lv_icmp_gt (tgt := 55) S.1 S.2.1 d_Mo_rule_42 (by decide) (fun c_42 => ?_) (fun c_42 => ?_)
            · refine lv_iconst (v := 0) S.1 S.2.1 d_Mo_rule_55 (by decide) ?_
              exact hp_retWz S hJ hr hlk d_Mo_rule_56 (by decide) (by decide) ⟨rfl, by rw [eh1]; (try simp only [hp_up_up]); rfl⟩
            · refine lv_aload_n S.1 S.2.1 d_Mo_rule_45 rfl (lv_at hl 0 rfl) ?_
              refine hp_get S zz hJ h_t f_Mo_112 rfl d_Mo_rule_46 ?_
              refine lv_sipush (v := 4096) S.1 S.2.1 d_Mo_rule_49 (by decide) ?_
              refine lv_icmp_ne (tgt := 57) S.1 S.2.1 d_Mo_rule_52 (by decide) (fun q => absurd ⟨q_is_ne.mp c_9, q_is_ne.mp c_16, by simp only [z_lt, z_le] at c_21 c_28 ⊢; omega, by simp only [z_lt, z_le] at c_34 c_42 ⊢; omega, q⟩ hF) (fun _ => ?_)
              refine lv_iconst (v := 0) S.1 S.2.1 d_Mo_rule_55 (by decide) ?_
              exact hp_retWz S hJ hr hlk d_Mo_rule_56 (by decide) (by decide) ⟨rfl, by rw [eh1]; (try simp only [hp_up_up]); rfl⟩

set_option maxHeartbeats 4000000 in
set_option maxRecDepth 100000 in
theorem c_Mo_rule (l : Launch) (dC : Nat → ClassId) (dI : Nat → Nat → Nat) (cA : Nat → ClassId) (A : Nat → Prop) (h : hp_T) (t sh ac dn fr sp dt : Nat) (mf : Nat → Int32) (hh ww lu lv mu mv : Nat) (x y w hgt : Int32) (f : Nat → Int64) (h_t : h t = some (k_Mo mf sh ac dn fr sp dt)) (hF : (-10000 ≤ x ∧ x ≤ 10000) ∧ (-10000 ≤ y ∧ y ≤ 10000) ∧ (1 ≤ w ∧ w ≤ 10000) ∧ (1 ≤ hgt ∧ hgt ≤ 10000) ∧ ¬ mf 12 = 4096) (hw : ww ≤ 5100 ∧ mf 1 = nI ww) (hh2 : hh ≤ 5100 ∧ mf 2 = nI hh) (h_sh : h sh = some (k_lo (cA 1) (80 * hh) f)) (hlu : q_max 0 (q_rl (mf 18) x w hgt) = nI lu) (hlv : q_max 0 (q_rt (mf 18) y w hgt) = nI lv) (hmu : ∀ j, j ≤ mu → (q_min (mf 1 - 1) (q_rr (mf 18) x w hgt) < nI (lu + j) ↔ j = mu)) (hmv : ∀ j, j ≤ mv → (q_min (mf 2 - 1) (q_rb (mf 18) y w hgt) < nI (lv + j) ↔ j = mv)) : Met l y_Mo_rule (.code y_Mo_rule prog_9_method_24_code 11 (some .boolean) :: BIG) ({ frames := 3, cells := 0, slots := 0, locals := 73 }) (va_Pc [.ref t, .int x, .int y, .int w, .int hgt] (hp_I (gg dC dI cA) A h)) (hp_QW (gg dC dI cA) A hp_mi (fun r9 h' => r9 = 1 ∧ h' = hp_up (hp_up h t (k_Mo (upd (upd mf 0 0) 12 (mf 12 + 1)) sh ac dn fr sp dt)) sh (k_lo (cA 1) (80 * hh) (q_rp (upd (upd mf 0 0) 12 (mf 12 + 1)) lu lv mu f mv)))) 0 0 A := by
  refine hp_enter (by decide) (Nat.le_of_ble_eq_true rfl) ?_
  intro p e s m below meth c ls S hr hlk hin hI hl
  have hl : lv_has ls 11 [(0, .ref t), (1, .int x), (2, .int y), (3, .int w), (4, .int hgt)] := hl
  have hJ := hI.J
  refine lv_aload_n S.1 S.2.1 d_Mo_rule_0 rfl (lv_at hl 0 rfl) ?_
  refine lv_iconst (v := 0) S.1 S.2.1 d_Mo_rule_1 (by decide) ?_
  refine hp_put S zz hJ h_t fp_Mo_46 rfl rfl (nl rfl) d_Mo_rule_2 (fun H locs hJ => ?_)
  obtain ⟨h1, eh1⟩ : ∃ z, z = hp_up h t (.inr (7, [.int 0, .int (mf 1), .int (mf 2), .int (mf 3), .ref sh, .int (mf 5), .ref ac, .ref dn, .ref fr, .ref sp, .int (mf 10), .ref dt, .int (mf 12), .int (mf 13), .int (mf 14), .int (mf 15), .int (mf 16), .int (mf 17), .int (mf 18), .int (mf 19), .int (mf 20), .int (mf 21), .int (mf 22)])) := ⟨_, rfl⟩
  have hJ := hJ.cast eh1
  have h0_t := h_t
  have h_sh : h1 sh = some (k_lo (cA 1) (80 * hh) f) := by rw [eh1]; exact hp_up_k (hp_ne h_sh h0_t (show ((2, 0) : Nat × Nat) ≠ (0, 7) by decide)) h_sh
  have h_t : h1 t = some (.inr (7, [.int 0, .int (mf 1), .int (mf 2), .int (mf 3), .ref sh, .int (mf 5), .ref ac, .ref dn, .ref fr, .ref sp, .int (mf 10), .ref dt, .int (mf 12), .int (mf 13), .int (mf 14), .int (mf 15), .int (mf 16), .int (mf 17), .int (mf 18), .int (mf 19), .int (mf 20), .int (mf 21), .int (mf 22)])) := by rw [eh1]; exact hp_up_s _ _ _
  refine lv_iload_n S.1 S.2.1 d_Mo_rule_5 rfl (lv_at hl 1 rfl) ?_
  refine hp_doneR (hp_runS S zz0 (c_Mo_isPlace l _) l_Mo_109 (hp_pre0 _) (by decide) rfl hl.1 rfl (nl rfl) d_Mo_rule_6 (by decide)) ?_
  refine lv_if_eq (tgt := 55) S.1 S.2.1 d_Mo_rule_9 (by decide) (fun q => absurd hF.1 (q_is_0.mp q)) (fun _ => ?_)
  refine lv_iload_n S.1 S.2.1 d_Mo_rule_12 rfl (lv_at hl 2 rfl) ?_
  refine hp_doneR (hp_runS S zz0 (c_Mo_isPlace l _) l_Mo_109 (hp_pre0 _) (by decide) rfl hl.1 rfl (nl rfl) d_Mo_rule_13 (by decide)) ?_
  refine lv_if_eq (tgt := 55) S.1 S.2.1 d_Mo_rule_16 (by decide) (fun q => absurd hF.2.1 (q_is_0.mp q)) (fun _ => ?_)
  refine lv_iload_n S.1 S.2.1 d_Mo_rule_19 rfl (lv_at hl 3 rfl) ?_
  refine lv_iconst (v := 1) S.1 S.2.1 d_Mo_rule_20 (by decide) ?_
  refine lv_icmp_lt (tgt := 55) S.1 S.2.1 d_Mo_rule_21 (by decide) (fun q => absurd q (by have q2 := hF.2.2.1; simp only [z_lt, z_le] at q2 ⊢; omega)) (fun _ => ?_)
  refine lv_iload_n S.1 S.2.1 d_Mo_rule_24 rfl (lv_at hl 3 rfl) ?_
  refine lv_sipush (v := 10000) S.1 S.2.1 d_Mo_rule_25 (by decide) ?_
  refine lv_icmp_gt (tgt := 55) S.1 S.2.1 d_Mo_rule_28 (by decide) (fun q => absurd q (by have q2 := hF.2.2.1; simp only [z_lt, z_le] at q2 ⊢; omega)) (fun _ => ?_)
  refine lv_iload S.1 S.2.1 d_Mo_rule_31 (lv_at hl 4 rfl) ?_
  refine lv_iconst (v := 1) S.1 S.2.1 d_Mo_rule_33 (by decide) ?_
  refine lv_icmp_lt (tgt := 55) S.1 S.2.1 d_Mo_rule_34 (by decide) (fun q => absurd q (by have q2 := hF.2.2.2.1; simp only [z_lt, z_le] at q2 ⊢; omega)) (fun _ => ?_)
  refine lv_iload S.1 S.2.1 d_Mo_rule_37 (lv_at hl 4 rfl) ?_
  refine lv_sipush (v := 10000) S.1 S.2.1 d_Mo_rule_39 (by decide) ?_
  refine lv_icmp_gt (tgt := 55) S.1 S.2.1 d_Mo_rule_42 (by decide) (fun q => absurd q (by have q2 := hF.2.2.2.1; simp only [z_lt, z_le] at q2 ⊢; omega)) (fun _ => ?_)
  refine lv_aload_n S.1 S.2.1 d_Mo_rule_45 rfl (lv_at hl 0 rfl) ?_
  refine hp_get S zz hJ h_t f_Mo_112 rfl d_Mo_rule_46 ?_
  refine lv_sipush (v := 4096) S.1 S.2.1 d_Mo_rule_49 (by decide) ?_
  refine lv_icmp_ne (tgt := 57) S.1 S.2.1 d_Mo_rule_52 (by decide) (fun _ => ?_) (fun q => absurd q hF.2.2.2.2)
  refine lv_aload_n S.1 S.2.1 d_Mo_rule_57 rfl (lv_at hl 0 rfl) ?_
  refine lv_dup S.1 S.2.1 d_Mo_rule_58 rfl ?_
  refine hp_get S zz hJ h_t f_Mo_112 rfl d_Mo_rule_59 ?_
  refine lv_iconst (v := 1) S.1 S.2.1 d_Mo_rule_62 (by decide) ?_
  refine lv_iadd S.1 S.2.1 d_Mo_rule_63 ?_
  refine hp_put S zz hJ h_t fp_Mo_112 rfl rfl (nl rfl) d_Mo_rule_64 (fun H locs hJ => ?_)
  obtain ⟨h2, eh2⟩ : ∃ z, z = hp_up h1 t (.inr (7, [.int 0, .int (mf 1), .int (mf 2), .int (mf 3), .ref sh, .int (mf 5), .ref ac, .ref dn, .ref fr, .ref sp, .int (mf 10), .ref dt, .int ((mf 12) + (1 : Int32)), .int (mf 13), .int (mf 14), .int (mf 15), .int (mf 16), .int (mf 17), .int (mf 18), .int (mf 19), .int (mf 20), .int (mf 21), .int (mf 22)])) := ⟨_, rfl⟩
  have hJ := hJ.cast eh2
  have h0_t := h_t
  have h_sh : h2 sh = some (k_lo (cA 1) (80 * hh) f) := by rw [eh2]; exact hp_up_k (hp_ne h_sh h0_t (show ((2, 0) : Nat × Nat) ≠ (0, 7) by decide)) h_sh
  have h_t : h2 t = some (.inr (7, [.int 0, .int (mf 1), .int (mf 2), .int (mf 3), .ref sh, .int (mf 5), .ref ac, .ref dn, .ref fr, .ref sp, .int (mf 10), .ref dt, .int ((mf 12) + (1 : Int32)), .int (mf 13), .int (mf 14), .int (mf 15), .int (mf 16), .int (mf 17), .int (mf 18), .int (mf 19), .int (mf 20), .int (mf 21), .int (mf 22)])) := by rw [eh2]; exact hp_up_s _ _ _
  refine hp_cut (fun v => v = q_rl (mf 18) x w hgt) 108 [] (fun J => ?_) (fun l9 e_l9 => ?_)
  · refine lv_aload_n S.1 S.2.1 d_Mo_rule_67 rfl (lv_at hl 0 rfl) ?_
    refine hp_get S zz hJ h_t f_Mo_89 rfl d_Mo_rule_68 ?_
    refine lv_if_eq (tgt := 82) S.1 S.2.1 d_Mo_rule_71 (by decide) (fun c_71 => ?_) (fun c_71 => ?_)
    · refine lv_iload_n S.1 S.2.1 d_Mo_rule_82 rfl (lv_at hl 1 rfl) ?_
      refine lv_goto (tgt := 108) S.1 S.2.1 d_Mo_rule_83 (by decide) ?_
      exact J _ (by unfold q_rl; rw [if_pos (Or.inl c_71)])
    · refine lv_aload_n S.1 S.2.1 d_Mo_rule_74 rfl (lv_at hl 0 rfl) ?_
      refine hp_get S zz hJ h_t f_Mo_89 rfl d_Mo_rule_75 ?_
      refine lv_iconst (v := 1) S.1 S.2.1 d_Mo_rule_78 (by decide) ?_
      refine lv_icmp_ne (tgt := 86) S.1 S.2.1 d_Mo_rule_79 (by decide) (fun c_79 => ?_) (fun c_79 => ?_)
      · refine lv_aload_n S.1 S.2.1 d_Mo_rule_86 rfl (lv_at hl 0 rfl) ?_
        refine hp_get S zz hJ h_t f_Mo_89 rfl d_Mo_rule_87 ?_
        refine lv_iconst (v := 2) S.1 S.2.1 d_Mo_rule_90 (by decide) ?_
        refine lv_icmp_ne (tgt := 102) S.1 S.2.1 d_Mo_rule_91 (by decide) (fun c_91 => ?_) (fun c_91 => ?_)
        · refine lv_iload_n S.1 S.2.1 d_Mo_rule_102 rfl (lv_at hl 1 rfl) ?_
          refine lv_iload S.1 S.2.1 d_Mo_rule_103 (lv_at hl 4 rfl) ?_
          refine lv_isub S.1 S.2.1 d_Mo_rule_105 ?_
          refine lv_iconst (v := 1) S.1 S.2.1 d_Mo_rule_106 (by decide) ?_
          refine lv_iadd S.1 S.2.1 d_Mo_rule_107 ?_
          exact J _ (by unfold q_rl; rw [if_neg (fun q => q.elim c_71 c_79), if_neg c_91])
        · refine lv_iload_n S.1 S.2.1 d_Mo_rule_94 rfl (lv_at hl 1 rfl) ?_
          refine lv_iload_n S.1 S.2.1 d_Mo_rule_95 rfl (lv_at hl 3 rfl) ?_
          refine lv_isub S.1 S.2.1 d_Mo_rule_96 ?_
          refine lv_iconst (v := 1) S.1 S.2.1 d_Mo_rule_97 (by decide) ?_
          refine lv_iadd S.1 S.2.1 d_Mo_rule_98 ?_
          refine lv_goto (tgt := 108) S.1 S.2.1 d_Mo_rule_99 (by decide) ?_
          exact J _ (by unfold q_rl; rw [if_neg (fun q => q.elim c_71 c_79), if_pos c_91])
      · refine lv_iload_n S.1 S.2.1 d_Mo_rule_82 rfl (lv_at hl 1 rfl) ?_
        refine lv_goto (tgt := 108) S.1 S.2.1 d_Mo_rule_83 (by decide) ?_
        exact J _ (by unfold q_rl; rw [if_pos (Or.inr c_79)])
  · refine lv_istore (lv' := [(5, .int l9), (0, .ref t), (1, .int x), (2, .int y), (3, .int w), (4, .int hgt)]) S.1 S.2.1 d_Mo_rule_108 hl (by decide) rfl (fun ls hl => ?_)
    refine hp_cut (fun v => v = q_rr (mf 18) x w hgt) 143 [] (fun J => ?_) (fun r9 e_r9 => ?_)
    · refine lv_aload_n S.1 S.2.1 d_Mo_rule_110 rfl (lv_at hl 1 rfl) ?_
      refine hp_get S zz hJ h_t f_Mo_89 rfl d_Mo_rule_111 ?_
      refine lv_if_ne (tgt := 125) S.1 S.2.1 d_Mo_rule_114 (by decide) (fun c_114 => ?_) (fun c_114 => ?_)
      · refine lv_aload_n S.1 S.2.1 d_Mo_rule_125 rfl (lv_at hl 1 rfl) ?_
        refine hp_get S zz hJ h_t f_Mo_89 rfl d_Mo_rule_126 ?_
        refine lv_iconst (v := 1) S.1 S.2.1 d_Mo_rule_129 (by decide) ?_
        refine lv_icmp_ne (tgt := 142) S.1 S.2.1 d_Mo_rule_130 (by decide) (fun c_130 => ?_) (fun c_130 => ?_)
        · refine lv_iload_n S.1 S.2.1 d_Mo_rule_142 rfl (lv_at hl 2 rfl) ?_
          exact J _ (by unfold q_rr; rw [if_neg c_114, if_neg c_130])
        · refine lv_iload_n S.1 S.2.1 d_Mo_rule_133 rfl (lv_at hl 2 rfl) ?_
          refine lv_iload S.1 S.2.1 d_Mo_rule_134 (lv_at hl 5 rfl) ?_
          refine lv_iadd S.1 S.2.1 d_Mo_rule_136 ?_
          refine lv_iconst (v := 1) S.1 S.2.1 d_Mo_rule_137 (by decide) ?_
          refine lv_isub S.1 S.2.1 d_Mo_rule_138 ?_
          refine lv_goto (tgt := 143) S.1 S.2.1 d_Mo_rule_139 (by decide) ?_
          exact J _ (by unfold q_rr; rw [if_neg c_114, if_pos c_130])
      · refine lv_iload_n S.1 S.2.1 d_Mo_rule_117 rfl (lv_at hl 2 rfl) ?_
        refine lv_iload_n S.1 S.2.1 d_Mo_rule_118 rfl (lv_at hl 4 rfl) ?_
        refine lv_iadd S.1 S.2.1 d_Mo_rule_119 ?_
        refine lv_iconst (v := 1) S.1 S.2.1 d_Mo_rule_120 (by decide) ?_
        refine lv_isub S.1 S.2.1 d_Mo_rule_121 ?_
        refine lv_goto (tgt := 143) S.1 S.2.1 d_Mo_rule_122 (by decide) ?_
        exact J _ (by unfold q_rr; rw [if_pos c_114])
    · refine lv_istore (lv' := [(6, .int r9), (5, .int l9), (0, .ref t), (1, .int x), (2, .int y), (3, .int w), (4, .int hgt)]) S.1 S.2.1 d_Mo_rule_143 hl (by decide) rfl (fun ls hl => ?_)
      refine hp_cut (fun v => v = q_rt (mf 18) y w hgt) 186 [] (fun J => ?_) (fun t9 e_t9 => ?_)
      · refine lv_aload_n S.1 S.2.1 d_Mo_rule_145 rfl (lv_at hl 2 rfl) ?_
        refine hp_get S zz hJ h_t f_Mo_89 rfl d_Mo_rule_146 ?_
        refine lv_if_eq (tgt := 160) S.1 S.2.1 d_Mo_rule_149 (by decide) (fun c_149 => ?_) (fun c_149 => ?_)
        · refine lv_iload_n S.1 S.2.1 d_Mo_rule_160 rfl (lv_at hl 4 rfl) ?_
          refine lv_goto (tgt := 186) S.1 S.2.1 d_Mo_rule_161 (by decide) ?_
          exact J _ (by unfold q_rt; rw [if_pos (Or.inl c_149)])
        · refine lv_aload_n S.1 S.2.1 d_Mo_rule_152 rfl (lv_at hl 2 rfl) ?_
          refine hp_get S zz hJ h_t f_Mo_89 rfl d_Mo_rule_153 ?_
          refine lv_iconst (v := 3) S.1 S.2.1 d_Mo_rule_156 (by decide) ?_
          refine lv_icmp_ne (tgt := 164) S.1 S.2.1 d_Mo_rule_157 (by decide) (fun c_157 => ?_) (fun c_157 => ?_)
          · refine lv_aload_n S.1 S.2.1 d_Mo_rule_164 rfl (lv_at hl 2 rfl) ?_
            refine hp_get S zz hJ h_t f_Mo_89 rfl d_Mo_rule_165 ?_
            refine lv_iconst (v := 1) S.1 S.2.1 d_Mo_rule_168 (by decide) ?_
            refine lv_icmp_ne (tgt := 180) S.1 S.2.1 d_Mo_rule_169 (by decide) (fun c_169 => ?_) (fun c_169 => ?_)
            · refine lv_iload_n S.1 S.2.1 d_Mo_rule_180 rfl (lv_at hl 4 rfl) ?_
              refine lv_iload S.1 S.2.1 d_Mo_rule_181 (lv_at hl 6 rfl) ?_
              refine lv_isub S.1 S.2.1 d_Mo_rule_183 ?_
              refine lv_iconst (v := 1) S.1 S.2.1 d_Mo_rule_184 (by decide) ?_
              refine lv_iadd S.1 S.2.1 d_Mo_rule_185 ?_
              exact J _ (by unfold q_rt; rw [if_neg (fun q => q.elim c_149 c_157), if_neg c_169])
            · refine lv_iload_n S.1 S.2.1 d_Mo_rule_172 rfl (lv_at hl 4 rfl) ?_
              refine lv_iload_n S.1 S.2.1 d_Mo_rule_173 rfl (lv_at hl 5 rfl) ?_
              refine lv_isub S.1 S.2.1 d_Mo_rule_174 ?_
              refine lv_iconst (v := 1) S.1 S.2.1 d_Mo_rule_175 (by decide) ?_
              refine lv_iadd S.1 S.2.1 d_Mo_rule_176 ?_
              refine lv_goto (tgt := 186) S.1 S.2.1 d_Mo_rule_177 (by decide) ?_
              exact J _ (by unfold q_rt; rw [if_neg (fun q => q.elim c_149 c_157), if_pos c_169])
          · refine lv_iload_n S.1 S.2.1 d_Mo_rule_160 rfl (lv_at hl 4 rfl) ?_
            refine lv_goto (tgt := 186) S.1 S.2.1 d_Mo_rule_161 (by decide) ?_
            exact J _ (by unfold q_rt; rw [if_pos (Or.inr c_157)])
      · refine lv_istore (lv' := [(7, .int t9), (6, .int r9), (5, .int l9), (0, .ref t), (1, .int x), (2, .int y), (3, .int w), (4, .int hgt)]) S.1 S.2.1 d_Mo_rule_186 hl (by decide) rfl (fun ls hl => ?_)
        refine hp_cut (fun v => v = q_rb (mf 18) y w hgt) 221 [] (fun J => ?_) (fun b9 e_b9 => ?_)
        · refine lv_aload_n S.1 S.2.1 d_Mo_rule_188 rfl (lv_at hl 3 rfl) ?_
          refine hp_get S zz hJ h_t f_Mo_89 rfl d_Mo_rule_189 ?_
          refine lv_if_ne (tgt := 204) S.1 S.2.1 d_Mo_rule_192 (by decide) (fun c_192 => ?_) (fun c_192 => ?_)
          · refine lv_aload_n S.1 S.2.1 d_Mo_rule_204 rfl (lv_at hl 3 rfl) ?_
            refine hp_get S zz hJ h_t f_Mo_89 rfl d_Mo_rule_205 ?_
            refine lv_iconst (v := 3) S.1 S.2.1 d_Mo_rule_208 (by decide) ?_
            refine lv_icmp_ne (tgt := 220) S.1 S.2.1 d_Mo_rule_209 (by decide) (fun c_209 => ?_) (fun c_209 => ?_)
            · refine lv_iload_n S.1 S.2.1 d_Mo_rule_220 rfl (lv_at hl 5 rfl) ?_
              exact J _ (by unfold q_rb; rw [if_neg c_192, if_neg c_209])
            · refine lv_iload_n S.1 S.2.1 d_Mo_rule_212 rfl (lv_at hl 5 rfl) ?_
              refine lv_iload_n S.1 S.2.1 d_Mo_rule_213 rfl (lv_at hl 6 rfl) ?_
              refine lv_iadd S.1 S.2.1 d_Mo_rule_214 ?_
              refine lv_iconst (v := 1) S.1 S.2.1 d_Mo_rule_215 (by decide) ?_
              refine lv_isub S.1 S.2.1 d_Mo_rule_216 ?_
              refine lv_goto (tgt := 221) S.1 S.2.1 d_Mo_rule_217 (by decide) ?_
              exact J _ (by unfold q_rb; rw [if_neg c_192, if_pos c_209])
          · refine lv_iload_n S.1 S.2.1 d_Mo_rule_195 rfl (lv_at hl 5 rfl) ?_
            refine lv_iload S.1 S.2.1 d_Mo_rule_196 (lv_at hl 7 rfl) ?_
            refine lv_iadd S.1 S.2.1 d_Mo_rule_198 ?_
            refine lv_iconst (v := 1) S.1 S.2.1 d_Mo_rule_199 (by decide) ?_
            refine lv_isub S.1 S.2.1 d_Mo_rule_200 ?_
            refine lv_goto (tgt := 221) S.1 S.2.1 d_Mo_rule_201 (by decide) ?_
            exact J _ (by unfold q_rb; rw [if_pos c_192])
        · refine lv_istore (lv' := [(8, .int b9), (7, .int t9), (6, .int r9), (5, .int l9), (0, .ref t), (1, .int x), (2, .int y), (3, .int w), (4, .int hgt)]) S.1 S.2.1 d_Mo_rule_221 hl (by decide) rfl (fun ls hl => ?_)
          refine lv_iload S.1 S.2.1 d_Mo_rule_223 (lv_at hl 1 rfl) ?_
          refine lv_iconst (v := 0) S.1 S.2.1 d_Mo_rule_225 (by decide) ?_
          refine hp_doneR (hp_runS S zz0 (c_Mo_most l _ _) l_Mo_122 (hp_pre0 _) (by decide) rfl hl.1 rfl (nl rfl) d_Mo_rule_226 (by decide)) ?_
          rw [e_t9, hlv]
          refine lv_istore (lv' := [(9, .int (nI lv)), (8, .int b9), (7, .int t9), (6, .int r9), (5, .int l9), (0, .ref t), (1, .int x), (2, .int y), (3, .int w), (4, .int hgt)]) S.1 S.2.1 d_Mo_rule_229 hl (by decide) rfl (fun ls hl => ?_)
          have h_t0 := h_t
          have h_sh0 := h_sh
          have LP : ∀ (n_ j : Nat) (hc : hp_T) (H : Heap) (locs : List Loc) (ls : Array Slot), j + n_ = mv → hc = hp_up h2 sh (k_lo (cA 1) (80 * hh) (q_rp (upd (upd mf 0 0) 12 (mf 12 + 1)) lu lv mu f j)) → hp_J (gg dC dI cA) A hc s H locs → lv_has ls 11 [(9, .int (nI (lv + j))), (5, .int l9), (6, .int r9), (8, .int b9), (0, .ref t)] → W p l e ({ frames := 3, cells := 0, slots := 0, locals := 73 }) s m ([.ref t, .int x, .int y, .int w, .int hgt] : List Value).toArray below meth c H locs 0 0 (MQ below (hp_QW (gg dC dI cA) A hp_mi (fun r9 h' => r9 = 1 ∧ h' = hp_up (hp_up h t (k_Mo (upd (upd mf 0 0) 12 (mf 12 + 1)) sh ac dn fr sp dt)) sh (k_lo (cA 1) (80 * hh) (q_rp (upd (upd mf 0 0) 12 (mf 12 + 1)) lu lv mu f mv)))) ([.ref t, .int x, .int y, .int w, .int hgt] : List Value).toArray s 0 0 A) (F0 m 231 ls []) := by
            intro n_
            induction n_ with
            | zero =>
              intro j hc H locs ls hu_ ehc hJ hl
              have h_sh : hc sh = some (k_lo (cA 1) (80 * hh) (q_rp (upd (upd mf 0 0) 12 (mf 12 + 1)) lu lv mu f j)) := by rw [ehc]; exact hp_up_s _ _ _
              have h_t : hc t = some (k_Mo (upd (upd mf 0 0) 12 (mf 12 + 1)) sh ac dn fr sp dt) := by rw [ehc]; exact hp_up_k (hp_ne h_t0 h_sh0 (show ((0, 7) : Nat × Nat) ≠ (2, 0) by decide)) h_t0
              refine lv_iload S.1 S.2.1 d_Mo_rule_231 (lv_at hl 0 rfl) ?_
              refine lv_iload S.1 S.2.1 d_Mo_rule_233 (lv_at hl 3 rfl) ?_
              refine lv_aload_n S.1 S.2.1 d_Mo_rule_235 rfl (lv_at hl 4 rfl) ?_
              refine hp_get S zz hJ h_t f_Mo_31 rfl d_Mo_rule_236 ?_
              refine lv_iconst (v := 1) S.1 S.2.1 d_Mo_rule_239 (by decide) ?_
              refine lv_isub S.1 S.2.1 d_Mo_rule_240 ?_
              refine hp_doneR (hp_runS S zz0 (c_Mo_least l _ _) l_Mo_125 (hp_pre0 _) (by decide) rfl hl.1 rfl (nl rfl) d_Mo_rule_241 (by decide)) ?_
              rw [e_b9]
              refine lv_icmp_gt (tgt := 292) S.1 S.2.1 d_Mo_rule_244 (by decide) (fun _ => ?_) (fun q => absurd ((hmv j (by omega)).mpr (by omega)) q)
              refine lv_iconst (v := 1) S.1 S.2.1 d_Mo_rule_292 (by decide) ?_
              exact hp_retWz S hJ hr hlk d_Mo_rule_293 (by decide) (by decide) ⟨rfl, by rw [ehc, show j = mv by omega, eh2, eh1]; (try simp only [hp_up_up]); rfl⟩
            | succ n_ ih =>
              intro j hc H locs ls hu_ ehc hJ hl
              have h_sh : hc sh = some (k_lo (cA 1) (80 * hh) (q_rp (upd (upd mf 0 0) 12 (mf 12 + 1)) lu lv mu f j)) := by rw [ehc]; exact hp_up_s _ _ _
              have h_t : hc t = some (k_Mo (upd (upd mf 0 0) 12 (mf 12 + 1)) sh ac dn fr sp dt) := by rw [ehc]; exact hp_up_k (hp_ne h_t0 h_sh0 (show ((0, 7) : Nat × Nat) ≠ (2, 0) by decide)) h_t0
              refine lv_iload S.1 S.2.1 d_Mo_rule_231 (lv_at hl 0 rfl) ?_
              refine lv_iload S.1 S.2.1 d_Mo_rule_233 (lv_at hl 3 rfl) ?_
              refine lv_aload_n S.1 S.2.1 d_Mo_rule_235 rfl (lv_at hl 4 rfl) ?_
              refine hp_get S zz hJ h_t f_Mo_31 rfl d_Mo_rule_236 ?_
              refine lv_iconst (v := 1) S.1 S.2.1 d_Mo_rule_239 (by decide) ?_
              refine lv_isub S.1 S.2.1 d_Mo_rule_240 ?_
              refine hp_doneR (hp_runS S zz0 (c_Mo_least l _ _) l_Mo_125 (hp_pre0 _) (by decide) rfl hl.1 rfl (nl rfl) d_Mo_rule_241 (by decide)) ?_
              rw [e_b9]
              refine lv_icmp_gt (tgt := 292) S.1 S.2.1 d_Mo_rule_244 (by decide) (fun q => absurd ((hmv j (by omega)).mp q) (by omega)) (fun _ => ?_)
              refine lv_iload S.1 S.2.1 d_Mo_rule_247 (lv_at hl 1 rfl) ?_
              refine lv_iconst (v := 0) S.1 S.2.1 d_Mo_rule_249 (by decide) ?_
              refine hp_doneR (hp_runS S zz0 (c_Mo_most l _ _) l_Mo_122 (hp_pre0 _) (by decide) rfl hl.1 rfl (nl rfl) d_Mo_rule_250 (by decide)) ?_
              rw [e_l9, hlu]
              refine lv_istore (lv' := [(10, .int (nI lu)), (9, .int (nI (lv + j))), (5, .int l9), (6, .int r9), (8, .int b9), (0, .ref t)]) S.1 S.2.1 d_Mo_rule_253 hl (by decide) rfl (fun ls hl => ?_)
              have LPi : ∀ (n_i i : Nat) (hc : hp_T) (H : Heap) (locs : List Loc) (ls : Array Slot), i + n_i = mu → hc = hp_up h2 sh (k_lo (cA 1) (80 * hh) (q_mi (fun F i => q_pt (upd (upd mf 0 0) 12 (mf 12 + 1)) F (nI (lu + i)) (nI (lv + j)) 1) (q_rp (upd (upd mf 0 0) 12 (mf 12 + 1)) lu lv mu f j) i)) → hp_J (gg dC dI cA) A hc s H locs → lv_has ls 11 [(10, .int (nI (lu + i))), (9, .int (nI (lv + j))), (5, .int l9), (6, .int r9), (8, .int b9), (0, .ref t)] → W p l e ({ frames := 3, cells := 0, slots := 0, locals := 73 }) s m ([.ref t, .int x, .int y, .int w, .int hgt] : List Value).toArray below meth c H locs 0 0 (MQ below (hp_QW (gg dC dI cA) A hp_mi (fun r9 h' => r9 = 1 ∧ h' = hp_up (hp_up h t (k_Mo (upd (upd mf 0 0) 12 (mf 12 + 1)) sh ac dn fr sp dt)) sh (k_lo (cA 1) (80 * hh) (q_rp (upd (upd mf 0 0) 12 (mf 12 + 1)) lu lv mu f mv)))) ([.ref t, .int x, .int y, .int w, .int hgt] : List Value).toArray s 0 0 A) (F0 m 255 ls []) := by
                intro n_i
                induction n_i with
                | zero =>
                  intro i hc H locs ls hu_i ehc hJ hl
                  have h_sh : hc sh = some (k_lo (cA 1) (80 * hh) (q_mi (fun F i => q_pt (upd (upd mf 0 0) 12 (mf 12 + 1)) F (nI (lu + i)) (nI (lv + j)) 1) (q_rp (upd (upd mf 0 0) 12 (mf 12 + 1)) lu lv mu f j) i)) := by rw [ehc]; exact hp_up_s _ _ _
                  have h_t : hc t = some (k_Mo (upd (upd mf 0 0) 12 (mf 12 + 1)) sh ac dn fr sp dt) := by rw [ehc]; exact hp_up_k (hp_ne h_t0 h_sh0 (show ((0, 7) : Nat × Nat) ≠ (2, 0) by decide)) h_t0
                  refine lv_iload S.1 S.2.1 d_Mo_rule_255 (lv_at hl 0 rfl) ?_
                  refine lv_iload S.1 S.2.1 d_Mo_rule_257 (lv_at hl 3 rfl) ?_
                  refine lv_aload_n S.1 S.2.1 d_Mo_rule_259 rfl (lv_at hl 5 rfl) ?_
                  refine hp_get S zz hJ h_t f_Mo_27 rfl d_Mo_rule_260 ?_
                  refine lv_iconst (v := 1) S.1 S.2.1 d_Mo_rule_263 (by decide) ?_
                  refine lv_isub S.1 S.2.1 d_Mo_rule_264 ?_
                  refine hp_doneR (hp_runS S zz0 (c_Mo_least l _ _) l_Mo_125 (hp_pre0 _) (by decide) rfl hl.1 rfl (nl rfl) d_Mo_rule_265 (by decide)) ?_
                  rw [e_r9]
                  refine lv_icmp_gt (tgt := 286) S.1 S.2.1 d_Mo_rule_268 (by decide) (fun _ => ?_) (fun q => absurd ((hmu i (by omega)).mpr (by omega)) q)
                  refine lv_iinc (v := nI (lv + (j + 1))) (lv' := [(9, .int (nI (lv + (j + 1)))), (10, .int (nI (lu + i))), (5, .int l9), (6, .int r9), (8, .int b9), (0, .ref t)]) S.1 S.2.1 d_Mo_rule_286 hl (k := 1) rfl (nI_1 _) (by decide) rfl (fun ls hl => ?_)
                  refine lv_goto (tgt := 231) S.1 S.2.1 d_Mo_rule_289 (by decide) ?_
                  exact ih (j + 1) _ _ _ ls (by omega) (by rw [ehc, show i = mu by omega]; rfl) hJ (lv_sub hl [0, 2, 3, 4, 5] rfl)
                | succ n_i ihi =>
                  intro i hc H locs ls hu_i ehc hJ hl
                  have h_sh : hc sh = some (k_lo (cA 1) (80 * hh) (q_mi (fun F i => q_pt (upd (upd mf 0 0) 12 (mf 12 + 1)) F (nI (lu + i)) (nI (lv + j)) 1) (q_rp (upd (upd mf 0 0) 12 (mf 12 + 1)) lu lv mu f j) i)) := by rw [ehc]; exact hp_up_s _ _ _
                  have h_t : hc t = some (k_Mo (upd (upd mf 0 0) 12 (mf 12 + 1)) sh ac dn fr sp dt) := by rw [ehc]; exact hp_up_k (hp_ne h_t0 h_sh0 (show ((0, 7) : Nat × Nat) ≠ (2, 0) by decide)) h_t0
                  refine lv_iload S.1 S.2.1 d_Mo_rule_255 (lv_at hl 0 rfl) ?_
                  refine lv_iload S.1 S.2.1 d_Mo_rule_257 (lv_at hl 3 rfl) ?_
                  refine lv_aload_n S.1 S.2.1 d_Mo_rule_259 rfl (lv_at hl 5 rfl) ?_
                  refine hp_get S zz hJ h_t f_Mo_27 rfl d_Mo_rule_260 ?_
                  refine lv_iconst (v := 1) S.1 S.2.1 d_Mo_rule_263 (by decide) ?_
                  refine lv_isub S.1 S.2.1 d_Mo_rule_264 ?_
                  refine hp_doneR (hp_runS S zz0 (c_Mo_least l _ _) l_Mo_125 (hp_pre0 _) (by decide) rfl hl.1 rfl (nl rfl) d_Mo_rule_265 (by decide)) ?_
                  rw [e_r9]
                  refine lv_icmp_gt (tgt := 286) S.1 S.2.1 d_Mo_rule_268 (by decide) (fun q => absurd ((hmu i (by omega)).mp q) (by omega)) (fun _ => ?_)
                  refine lv_aload_n S.1 S.2.1 d_Mo_rule_271 rfl (lv_at hl 5 rfl) ?_
                  refine lv_iload S.1 S.2.1 d_Mo_rule_272 (lv_at hl 0 rfl) ?_
                  refine lv_iload S.1 S.2.1 d_Mo_rule_274 (lv_at hl 1 rfl) ?_
                  refine lv_iconst (v := 1) S.1 S.2.1 d_Mo_rule_276 (by decide) ?_
                  refine hp_doneWv hJ (hp_runV S zz0 (c_Mo_paint l dC dI cA A _ t sh ac dn fr sp dt (upd (upd mf 0 0) 12 (mf 12 + 1)) ww hh _ (nI (lu + i)) (nI (lv + j)) 1 h_t h_sh hw hh2) l_Mo_92 (hJ.preV _ h_t rfl) (by decide) rfl hl.1 rfl (nl rfl) d_Mo_rule_277 (by decide)) (fun h9 H locs eh9 hJ => ?_)
                  rw [ehc, hp_up_up] at eh9
                  refine lv_iinc (v := nI (lu + (i + 1))) (lv' := [(10, .int (nI (lu + (i + 1)))), (9, .int (nI (lv + j))), (5, .int l9), (6, .int r9), (8, .int b9), (0, .ref t)]) S.1 S.2.1 d_Mo_rule_280 hl (k := 0) rfl (nI_1 _) (by decide) rfl (fun ls hl => ?_)
                  refine lv_goto (tgt := 255) S.1 S.2.1 d_Mo_rule_283 (by decide) ?_
                  exact ihi (i + 1) _ _ _ ls (by omega) eh9 hJ (lv_sub hl [0, 1, 2, 3, 4, 5] rfl)
              exact LPi mu 0 _ _ _ ls (by omega) ehc hJ (lv_sub hl [0, 1, 2, 3, 4, 5] rfl)
          exact LP mv 0 _ _ _ ls (by omega) (by rw [show q_rp (upd (upd mf 0 0) 12 (mf 12 + 1)) lu lv mu f 0 = f from rfl, hp_up_same h_sh]) hJ (lv_sub hl [0, 4, 3, 1, 5] rfl)

