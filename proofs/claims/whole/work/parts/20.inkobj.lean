/-! Inks, made and asked. -/
abbrev k_In (kd val : Int32) (b : Nat) : va_E := .inr (2, [.int kd, .int val, .ref b])
def q_iv (kd val : Int32) : Int32 := if kd = 0 ∨ kd = 1 then 0 else val
def q_ia (kd val : Int32) (n : Nat) : Nat → Int64 := fun i => if i < n then q_il kd val (nI i) else 0
theorem q_ia_0 (kd val : Int32) : q_ia kd val 0 = fun _ => 0 := by
  funext i
  exact if_neg (by omega)
theorem q_ia_s (kd val : Int32) (n : Nat) : vp_updL (q_ia kd val n) n (q_il kd val (nI n)) = q_ia kd val (n + 1) := by
  funext i
  unfold vp_updL q_ia
  by_cases h : i = n
  · subst h
    rw [if_pos rfl, if_pos (by omega)]
  · rw [if_neg h]
    by_cases h2 : i < n
    · rw [if_pos h2, if_pos (by omega)]
    · rw [if_neg h2, if_neg (by omega)]
theorem hp_btb (h : hp_T) {t b : Nat} (e1 e2 e3 : va_E) (hn : t ≠ b) : hp_up (hp_up (hp_up h b e1) t e2) b e3 = hp_up (hp_up h b e3) t e2 := by
  rw [hp_tbt h e1 e2 e3 (Ne.symm hn), hp_up_comm h e2 e3 hn]

set_option maxHeartbeats 4000000 in
set_option maxRecDepth 100000 in
theorem c_In_init (l : Launch) (dC : Nat → ClassId) (dI : Nat → Nat → Nat) (cA : Nat → ClassId) (A : Nat → Prop) (h : hp_T) (t : Nat) (kd val : Int32) (h_t : h t = some (.inr (2, e0_In))) : Met l y_In_init (.code y_In_init prog_3_method_1_code 4 none :: BIG) ({ frames := 2, cells := 1, slots := 16, locals := 51 }) (va_Pc [.ref t, .int kd, .int val] (hp_I (gg dC dI cA) A h)) (hp_QW (gg dC dI cA) A hp_mv (fun _ h' => ∃ b, h b = none ∧ h' = hp_up (hp_up h b (k_lo (cA 1) 16 (q_ia kd val 16))) t (k_In kd (q_iv kd val) b))) 1 16 A := by
  refine hp_enter (by decide) (Nat.le_of_ble_eq_true rfl) ?_
  intro p e s m below meth c ls S hr hlk hin hI hl
  have hl : lv_has ls 4 [(0, .ref t), (1, .int kd), (2, .int val)] := hl
  have hJ := hI.J
  refine lv_aload_n S.1 S.2.1 d_In_init_0 rfl (lv_at hl 0 rfl) ?_
  refine hp_obj S l_In_3 hl.1 d_In_init_1 ⟨nl rfl, nl rfl⟩ ?_
  refine lv_aload_n S.1 S.2.1 d_In_init_4 rfl (lv_at hl 0 rfl) ?_
  refine lv_iload_n S.1 S.2.1 d_In_init_5 rfl (lv_at hl 1 rfl) ?_
  refine hp_putF S zz hJ hin h_t fp_In_9 rfl rfl rfl (nl rfl) d_In_init_6 (fun H locs hJ => ?_)
  obtain ⟨h1, eh1⟩ : ∃ z, z = hp_up h t (.inr (2, [.int kd, .int 0, .null])) := ⟨_, rfl⟩
  have hJ := hJ.cast eh1
  have h0_t := h_t
  have h_t : h1 t = some (.inr (2, [.int kd, .int 0, .null])) := by rw [eh1]; exact hp_up_s _ _ _
  refine lv_aload_n S.1 S.2.1 d_In_init_9 rfl (lv_at hl 0 rfl) ?_
  refine hp_cut (fun v => v = q_iv kd val) 24 [.ref t] (fun J => ?_) (fun v1 e_v1 => ?_)
  · refine lv_iload_n S.1 S.2.1 d_In_init_10 rfl (lv_at hl 1 rfl) ?_
    refine lv_if_eq (tgt := 19) S.1 S.2.1 d_In_init_11 (by decide) (fun c_11 => ?_) (fun c_11 => ?_)
    · refine lv_iconst (v := 0) S.1 S.2.1 d_In_init_19 (by decide) ?_
      refine lv_goto (tgt := 24) S.1 S.2.1 d_In_init_20 (by decide) ?_
      exact J _ ((if_pos (Or.inl c_11)).symm)
    · refine lv_iload_n S.1 S.2.1 d_In_init_14 rfl (lv_at hl 1 rfl) ?_
      refine lv_iconst (v := 1) S.1 S.2.1 d_In_init_15 (by decide) ?_
      refine lv_icmp_ne (tgt := 23) S.1 S.2.1 d_In_init_16 (by decide) (fun c_16 => ?_) (fun c_16 => ?_)
      · refine lv_iload_n S.1 S.2.1 d_In_init_23 rfl (lv_at hl 2 rfl) ?_
        exact J _ ((if_neg (fun q => q.elim c_11 c_16)).symm)
      · refine lv_iconst (v := 0) S.1 S.2.1 d_In_init_19 (by decide) ?_
        refine lv_goto (tgt := 24) S.1 S.2.1 d_In_init_20 (by decide) ?_
        exact J _ ((if_pos (Or.inr c_16)).symm)
  · subst e_v1
    refine hp_putF S zz hJ hin h_t fp_In_15 rfl rfl rfl (nl rfl) d_In_init_24 (fun H locs hJ => ?_)
    obtain ⟨h2, eh2⟩ : ∃ z, z = hp_up h1 t (.inr (2, [.int kd, .int (q_iv kd val), .null])) := ⟨_, rfl⟩
    have hJ := hJ.cast eh2
    have h0_t := h_t
    have h_t : h2 t = some (.inr (2, [.int kd, .int (q_iv kd val), .null])) := by rw [eh2]; exact hp_up_s _ _ _
    refine lv_aload_n S.1 S.2.1 d_In_init_27 rfl (lv_at hl 0 rfl) ?_
    refine lv_bipush (v := 16) S.1 S.2.1 d_In_init_28 (by decide) ?_
    refine hp_newa S hJ 1 (atype := .long) (a0 := (16, .inr (.inl (fun _ => 0)))) (N' := 16) t_114 rfl (by intro C hC; cases hC) rfl (by decide) rfl (by decide) (by decide) (by decide) d_In_init_30 (fun b H hq_b hs_b hJ => ?_)
    have ne_t_b : t ≠ b := hp_neN h_t hq_b
    obtain ⟨h3, eh3⟩ : ∃ z, z = hp_up h2 b (k_lo (cA 1) 16 (fun _ => 0)) := ⟨_, rfl⟩
    have hJ := hJ.cast eh3
    have h_t : h3 t = some (.inr (2, [.int kd, .int (q_iv kd val), .null])) := by rw [eh3]; exact hp_up_k (hp_neN h_t hq_b) h_t
    have h_b : h3 b = some (k_lo (cA 1) 16 (fun _ => 0)) := by rw [eh3]; exact hp_up_s _ _ _
    refine hp_putF S zz hJ hin h_t fp_In_18 rfl rfl rfl (nl rfl) d_In_init_32 (fun H locs hJ => ?_)
    obtain ⟨h4, eh4⟩ : ∃ z, z = hp_up h3 t (.inr (2, [.int kd, .int (q_iv kd val), .ref b])) := ⟨_, rfl⟩
    have hJ := hJ.cast eh4
    have h0_t := h_t
    have h_b : h4 b = some (k_lo (cA 1) 16 (fun _ => 0)) := by rw [eh4]; exact hp_up_k (Ne.symm ne_t_b) h_b
    have h_t : h4 t = some (.inr (2, [.int kd, .int (q_iv kd val), .ref b])) := by rw [eh4]; exact hp_up_s _ _ _
    refine lv_iconst (v := 0) S.1 S.2.1 d_In_init_35 (by decide) ?_
    refine lv_istore_n (lv' := [(3, .int 0), (0, .ref t), (1, .int kd), (2, .int val)]) S.1 S.2.1 d_In_init_36 rfl hl (by decide) rfl (fun ls hl => ?_)
    have hq0 : h b = none := by rw [eh2, eh1, hp_up_n (Ne.symm ne_t_b), hp_up_n (Ne.symm ne_t_b)] at hq_b; exact hq_b
    have LP : ∀ (n_ vv : Nat) (hc : hp_T) (H : Heap) (locs : List Loc) (ls : Array Slot), vv + n_ = 16 → hc = hp_up (hp_up h b (k_lo (cA 1) 16 (q_ia kd val vv))) t (k_In kd (q_iv kd val) b) → hp_J (gg dC dI cA) A hc s H locs → lv_has ls 4 [(3, .int (nI vv)), (0, .ref t), (1, .int kd), (2, .int val)] → W p l e ({ frames := 2, cells := 1, slots := 16, locals := 51 }) s m ([.ref t, .int kd, .int val] : List Value).toArray below meth c H locs 1 16 (MQ below (hp_QW (gg dC dI cA) A hp_mv (fun _ h' => ∃ b, h b = none ∧ h' = hp_up (hp_up h b (k_lo (cA 1) 16 (q_ia kd val 16))) t (k_In kd (q_iv kd val) b))) ([.ref t, .int kd, .int val] : List Value).toArray s 1 16 A) (F0 m 37 ls []) := by
      intro n_
      induction n_ with
      | zero =>
        intro vv hc H locs ls hu_ ehc hJ hl
        have h_t : hc t = some (k_In kd (q_iv kd val) b) := by rw [ehc]; exact hp_up_s _ _ _
        have h_b : hc b = some (k_lo (cA 1) 16 (q_ia kd val vv)) := by rw [ehc]; exact hp_up_k (Ne.symm ne_t_b) (hp_up_s _ _ _)
        refine lv_iload_n S.1 S.2.1 d_In_init_37 rfl (lv_at hl 0 rfl) ?_
        refine lv_bipush (v := 16) S.1 S.2.1 d_In_init_38 (by decide) ?_
        obtain ⟨e_n, -⟩ : vv = 16 ∧ True := ⟨by omega, trivial⟩
        refine lv_icmp_ge (tgt := 61) S.1 S.2.1 d_In_init_40 (by decide) (fun _ => ?_) (fun q => absurd (by rw [e_n]; exact (by decide)) q)
        refine hp_retWv S hJ hr hlk d_In_init_61 (by decide) ⟨b, hq0, by rw [ehc, e_n]⟩
      | succ n_ ih =>
        intro vv hc H locs ls hu_ ehc hJ hl
        have h_t : hc t = some (k_In kd (q_iv kd val) b) := by rw [ehc]; exact hp_up_s _ _ _
        have h_b : hc b = some (k_lo (cA 1) 16 (q_ia kd val vv)) := by rw [ehc]; exact hp_up_k (Ne.symm ne_t_b) (hp_up_s _ _ _)
        refine lv_iload_n S.1 S.2.1 d_In_init_37 rfl (lv_at hl 0 rfl) ?_
        refine lv_bipush (v := 16) S.1 S.2.1 d_In_init_38 (by decide) ?_
        refine lv_icmp_ge (tgt := 61) S.1 S.2.1 d_In_init_40 (by decide) (fun q => absurd q (nI_ge (a := vv) (b := 16) (by omega) (by decide))) (fun _ => ?_)
        refine lv_aload_n S.1 S.2.1 d_In_init_43 rfl (lv_at hl 1 rfl) ?_
        refine hp_get S zz hJ h_t f_In_18 rfl d_In_init_44 ?_
        refine lv_iload_n S.1 S.2.1 d_In_init_47 rfl (lv_at hl 0 rfl) ?_
        refine lv_iload_n S.1 S.2.1 d_In_init_48 rfl (lv_at hl 2 rfl) ?_
        refine lv_iload_n S.1 S.2.1 d_In_init_49 rfl (lv_at hl 3 rfl) ?_
        refine lv_iload_n S.1 S.2.1 d_In_init_50 rfl (lv_at hl 0 rfl) ?_
        refine hp_doneR (hp_runS S zz0 (c_In_dotsOfLine l _ _ _) l_In_22 (hp_pre0 _) (by decide) rfl hl.1 rfl (nl rfl) d_In_init_51 (by decide)) ?_
        refine hp_last S hJ 1 h_b rfl (vp_in_nI (by omega) (by decide)) d_In_init_54 (fun H locs hJ => ?_)
        rw [nI_clamp (by omega), q_ia_s, ehc, hp_btb _ _ _ _ ne_t_b] at hJ
        refine lv_iinc (v := nI (vv + 1)) (lv' := [(3, .int (nI (vv + 1))), (0, .ref t), (1, .int kd), (2, .int val)]) S.1 S.2.1 d_In_init_55 hl (k := 0) rfl (nI_1 _) (by decide) rfl (fun ls hl => ?_)
        refine lv_goto (tgt := 37) S.1 S.2.1 d_In_init_58 (by decide) ?_
        exact ih (vv + 1) _ _ _ ls (by omega) rfl hJ (lv_sub hl [0, 1, 2, 3] rfl)
    exact LP 16 0 _ _ _ ls rfl (by rw [eh4, eh3, eh2, eh1, hp_up_up, hp_tbt _ _ _ _ ne_t_b, q_ia_0]) hJ (lv_sub hl [0, 1, 2, 3] rfl)

def q_ix (kd val : Int32) : Int32 := q_is (kd = 0 ∨ kd = 1 ∨ (kd = 2 ∧ 1 ≤ val ∧ val ≤ 100) ∨ (kd = 3 ∧ 1 ≤ val ∧ val ≤ 6))
set_option maxHeartbeats 4000000 in
set_option maxRecDepth 100000 in
theorem c_In_exists (l : Launch) (dC : Nat → ClassId) (dI : Nat → Nat → Nat) (cA : Nat → ClassId) (kd val : Int32)  : Met l y_In_exists (.code y_In_exists prog_3_method_2_code 2 (some .boolean) :: BIG) ({ frames := 1, cells := 0, slots := 0, locals := 22 }) (va_Pc [.int kd, .int val] (hp_K (gg dC dI cA))) (hp_QR (some (.int (q_ix kd val)))) 0 0 (fun _ => False) := by
  refine hp_enter (by decide) (Nat.le_of_ble_eq_true rfl) ?_
  intro p e s m below meth c ls S hr hlk hin hI hl
  have hl : lv_has ls 2 [(0, .int kd), (1, .int val)] := hl
  refine lv_iload_n S.1 S.2.1 d_In_exists_0 rfl (lv_at hl 0 rfl) ?_
  by_cases k_0 : kd = 0
  · refine lv_tableIn (off := 31) (tgt := 32) S.1 S.2.1 d_In_exists_1 (by rw [k_0]; decide) (by rw [k_0]; decide) (by rw [k_0]; rfl) (by decide) ?_
    refine lv_iconst (v := 1) S.1 S.2.1 d_In_exists_32 (by decide) ?_
    exact hp_retRz S hr hlk d_In_exists_33 (by decide) (q_is_t (Or.inl k_0))
  · by_cases k_1 : kd = 1
    · refine lv_tableIn (off := 33) (tgt := 34) S.1 S.2.1 d_In_exists_1 (by rw [k_1]; decide) (by rw [k_1]; decide) (by rw [k_1]; rfl) (by decide) ?_
      refine lv_iconst (v := 1) S.1 S.2.1 d_In_exists_34 (by decide) ?_
      exact hp_retRz S hr hlk d_In_exists_35 (by decide) (q_is_t (Or.inr (Or.inl k_1)))
    · by_cases k_2 : kd = 2
      · refine lv_tableIn (off := 35) (tgt := 36) S.1 S.2.1 d_In_exists_1 (by rw [k_2]; decide) (by rw [k_2]; decide) (by rw [k_2]; rfl) (by decide) ?_
        refine lv_iconst (v := 1) S.1 S.2.1 d_In_exists_36 (by decide) ?_
        refine lv_iload_n S.1 S.2.1 d_In_exists_37 rfl (lv_at hl 1 rfl) ?_
        refine lv_bipush (v := 100) S.1 S.2.1 d_In_exists_38 (by decide) ?_
        refine hp_doneR (hp_runN S zz hI (c_BP_isWithin l _ _ _) l_In_26 (hp_pre0 _) (by decide) rfl hl.1 rfl (nl rfl) d_In_exists_40 (by decide)) ?_
        exact hp_retRz S hr hlk d_In_exists_43 q_is_n (q_is_c ⟨fun q => Or.inr (Or.inr (Or.inl ⟨k_2, q⟩)), fun q => by rcases q with q | q | q | q <;> first | exact q.2 | exact absurd q k_0 | exact absurd q k_1 | (exfalso; have := k_2.symm.trans q.1; revert this; decide)⟩)
      · by_cases k_3 : kd = 3
        · refine lv_tableIn (off := 43) (tgt := 44) S.1 S.2.1 d_In_exists_1 (by rw [k_3]; decide) (by rw [k_3]; decide) (by rw [k_3]; rfl) (by decide) ?_
          refine lv_iconst (v := 1) S.1 S.2.1 d_In_exists_44 (by decide) ?_
          refine lv_iload_n S.1 S.2.1 d_In_exists_45 rfl (lv_at hl 1 rfl) ?_
          refine lv_bipush (v := 6) S.1 S.2.1 d_In_exists_46 (by decide) ?_
          refine hp_doneR (hp_runN S zz hI (c_BP_isWithin l _ _ _) l_In_26 (hp_pre0 _) (by decide) rfl hl.1 rfl (nl rfl) d_In_exists_48 (by decide)) ?_
          exact hp_retRz S hr hlk d_In_exists_51 q_is_n (q_is_c ⟨fun q => Or.inr (Or.inr (Or.inr ⟨k_3, q⟩)), fun q => by rcases q with q | q | q | q <;> first | exact absurd q k_0 | exact absurd q k_1 | exact absurd q.1 k_2 | exact q.2⟩)
        · have n_0 : ¬ kd.toInt = 0 := lv_neT k_0 rfl
          have n_1 : ¬ kd.toInt = 1 := lv_neT k_1 rfl
          have n_2 : ¬ kd.toInt = 2 := lv_neT k_2 rfl
          have n_3 : ¬ kd.toInt = 3 := lv_neT k_3 rfl
          refine lv_tableOut (tgt := 52) S.1 S.2.1 d_In_exists_1 (by omega) (by decide) ?_
          refine lv_iconst (v := 0) S.1 S.2.1 d_In_exists_52 (by decide) ?_
          exact hp_retRz S hr hlk d_In_exists_53 (by decide) (q_is_f (fun q => by rcases q with q | q | q | q <;> first | exact k_0 q | exact k_1 q | exact k_2 q.1 | exact k_3 q.1))

set_option maxHeartbeats 4000000 in
set_option maxRecDepth 100000 in
theorem c_In_dotsAt (l : Launch) (dC : Nat → ClassId) (dI : Nat → Nat → Nat) (cA : Nat → ClassId) (A : Nat → Prop) (h : hp_T) (t b : Nat) (kd val : Int32) (f : Nat → Int64) (y : Int32) (h_t : h t = some (k_In kd val b)) (h_b : h b = some (k_lo (cA 1) 16 f)) : Met l y_In_dotsAt (.code y_In_dotsAt prog_3_method_3_code 2 (some .long) :: BIG) ({ frames := 0, cells := 0, slots := 0, locals := 0 }) (va_Pc [.ref t, .int y] (hp_I (gg dC dI cA) A h)) (hp_QR (some (.long (f (y &&& 15).toNatClampNeg)))) 0 0 (fun _ => False) := by
  refine hp_enter (by decide) (Nat.le_of_ble_eq_true rfl) ?_
  intro p e s m below meth c ls S hr hlk hin hI hl
  have hl : lv_has ls 2 [(0, .ref t), (1, .int y)] := hl
  have hJ := hI.J
  refine lv_aload_n S.1 S.2.1 d_In_dotsAt_0 rfl (lv_at hl 0 rfl) ?_
  refine hp_get S zz hJ h_t f_In_18 rfl d_In_dotsAt_1 ?_
  refine lv_iload_n S.1 S.2.1 d_In_dotsAt_4 rfl (lv_at hl 1 rfl) ?_
  refine lv_bipush (v := 15) S.1 S.2.1 d_In_dotsAt_5 (by decide) ?_
  refine lv_iand S.1 S.2.1 d_In_dotsAt_7 ?_
  refine hp_lald S hJ 1 h_b rfl (pk_andIn y 4 (by decide) (by decide)) d_In_dotsAt_8 ?_
  exact hp_retRl S hr hlk d_In_dotsAt_9 rfl

