/-! The reference's sheet: dots read and set. -/
theorem lg_cmp_e (x y : Int64) : lg_cmp x y = 0 ↔ x = y := by
  unfold lg_cmp
  split
  · rename_i h
    exact ⟨fun q => absurd q (by decide), fun q => by rw [q] at h; exact absurd h (by simp)⟩
  · split
    · rename_i h
      exact ⟨fun _ => h, fun _ => rfl⟩
    · rename_i h
      exact ⟨fun q => absurd q (by decide), fun q => absurd q h⟩
/-- the dot p of a long's 64, alone, as the reference makes it -/
def q_b1d (p : Nat) : Int64 := (1 : Int64) <<< ((nI (63 - p)).toInt64 &&& 63)
theorem tb_one {q : Nat} (hq : q < 64) : tb 1 q = decide (q = 63) := by
  revert q
  decide +kernel
theorem tb_b1d {p q : Nat} (hp : p < 64) (hq : q < 64) : tb (q_b1d p) q = decide (q = p) := by
  unfold q_b1d
  rw [tb_shl _ (by omega)]
  by_cases h : q + (63 - p) < 64
  · rw [tb_one h]
    by_cases h2 : q = p
    · rw [decide_eq_true h2, decide_eq_true (by omega)]
    · rw [decide_eq_false h2, decide_eq_false (by omega)]
  · rw [tb_big (by omega), decide_eq_false (by omega)]
theorem tb_asr (w : Int64) {p : Nat} (hp : p < 64) : (w >>> ((nI (63 - p)).toInt64 &&& 63) &&& 1) = 1 ↔ tb w p = true := by
  have hk : tb (w >>> ((nI (63 - p)).toInt64 &&& 63)) 63 = tb w p := by
    unfold tb
    rw [Int64.toBitVec_shiftRight, tb_c (63 - p) (by omega), BitVec.sshiftRight_eq', BitVec.toNat_ofNat, Nat.mod_eq_of_lt (by omega), BitVec.getMsbD_eq_getLsbD, BitVec.getMsbD_eq_getLsbD, BitVec.getLsbD_sshiftRight]
    simp only [show (63 : Nat) < 64 by omega, decide_true, Bool.true_and, hp]
    rw [if_pos (by omega)]
    simp
  constructor
  · intro h
    have := congrArg (fun z => tb z 63) h
    simp only [tb_and] at this
    rw [hk, tb_one (by omega)] at this
    simpa using this
  · intro h
    refine tb_ext fun q hq => ?_
    rw [tb_and, tb_one hq]
    by_cases h2 : q = 63
    · subst h2
      rw [hk, h]
      rfl
    · rw [decide_eq_false h2, Bool.and_false]
theorem ix80 {x y : Nat} (hx : x < 5120) (hy : y < 5100) : (80 : Int32) * nI y + nI x / 64 = nI (80 * y + x / 64) := by
  rw [div64 (by omega), show (80 : Int32) = nI 80 from rfl, pk_mul, nI_add]
theorem sh63 {x : Nat} (hx : x < 2 ^ 31) : (63 : Int32) - (nI x - nI x / 64 * 64) = nI (63 - x % 64) := by
  rw [← n64, pk_rem hx (by decide) (by decide), show (63 : Int32) = nI 63 from rfl, pk_sub (by omega)]
def q_st (f : Nat → Int64) (x y : Nat) (b : Bool) : Nat → Int64 := vp_updL f (80 * y + x / 64) (if b = true then f (80 * y + x / 64) ||| q_b1d (x % 64) else f (80 * y + x / 64) &&& (q_b1d (x % 64) ^^^ (-1)))

set_option maxHeartbeats 4000000 in
set_option maxRecDepth 100000 in
theorem c_Mo_isInk (l : Launch) (dC : Nat → ClassId) (dI : Nat → Nat → Nat) (cA : Nat → ClassId) (A : Nat → Prop) (h : hp_T) (t sh ac dn fr sp dt : Nat) (mf : Nat → Int32) (x y : Int32) (h_t : h t = some (k_Mo mf sh ac dn fr sp dt)) : Met l y_Mo_isInk (.code y_Mo_isInk prog_9_method_8_code 3 (some .boolean) :: BIG) ({ frames := 1, cells := 0, slots := 0, locals := 28 }) (va_Pc [.ref t, .int x, .int y] (hp_I (gg dC dI cA) A h)) (hp_QR (some (.int (q_is (q_ik (mf 14) (mf 15) x y))))) 0 0 (fun _ => False) := by
  refine hp_enter (by decide) (Nat.le_of_ble_eq_true rfl) ?_
  intro p e s m below meth c ls S hr hlk hin hI hl
  have hl : lv_has ls 3 [(0, .ref t), (1, .int x), (2, .int y)] := hl
  have hJ := hI.J
  refine lv_aload_n S.1 S.2.1 d_Mo_isInk_0 rfl (lv_at hl 0 rfl) ?_
  refine hp_get S zz hJ h_t f_Mo_51 rfl d_Mo_isInk_1 ?_
  refine lv_iconst (v := 2) S.1 S.2.1 d_Mo_isInk_4 (by decide) ?_
  refine lv_icmp_ge (tgt := 21) S.1 S.2.1 d_Mo_isInk_5 (by decide) (fun c_5 => ?_) (fun c_5 => ?_)
  · refine lv_aload_n S.1 S.2.1 d_Mo_isInk_21 rfl (lv_at hl 0 rfl) ?_
    refine hp_get S zz hJ h_t f_Mo_51 rfl d_Mo_isInk_22 ?_
    refine lv_iconst (v := 2) S.1 S.2.1 d_Mo_isInk_25 (by decide) ?_
    refine lv_icmp_ne (tgt := 64) S.1 S.2.1 d_Mo_isInk_26 (by decide) (fun c_26 => ?_) (fun c_26 => ?_)
    · refine lv_aload_n S.1 S.2.1 d_Mo_isInk_64 rfl (lv_at hl 0 rfl) ?_
      refine hp_get S zz hJ h_t f_Mo_58 rfl d_Mo_isInk_65 ?_
      refine lv_iload_n S.1 S.2.1 d_Mo_isInk_68 rfl (lv_at hl 1 rfl) ?_
      refine lv_iload_n S.1 S.2.1 d_Mo_isInk_69 rfl (lv_at hl 2 rfl) ?_
      refine hp_doneR (hp_runS S zz0 (c_Mo_hatch l _ _ _) l_Mo_61 (hp_pre0 _) (by decide) rfl hl.1 rfl (nl rfl) d_Mo_isInk_70 (by decide)) ?_
      exact hp_retRz S hr hlk d_Mo_isInk_73 (by first | decide | exact q_is_n) (q_is_c ⟨fun q => Or.inr (Or.inr ⟨(by simp only [z_lt, z_le] at c_5 ⊢; omega), c_26, q⟩), fun q => by rcases q with q | q | q; exact absurd q.1 (by simp only [z_lt, z_le] at c_5 ⊢; omega); exact absurd q.2.1 c_26; exact q.2.2⟩)
    · refine lv_iload_n S.1 S.2.1 d_Mo_isInk_29 rfl (lv_at hl 1 rfl) ?_
      refine lv_bipush (v := 8) S.1 S.2.1 d_Mo_isInk_30 (by decide) ?_
      refine lv_irem S.1 S.2.1 d_Mo_isInk_32 (by decide) ?_
      refine lv_iload_n S.1 S.2.1 d_Mo_isInk_33 rfl (lv_at hl 2 rfl) ?_
      refine lv_bipush (v := 8) S.1 S.2.1 d_Mo_isInk_34 (by decide) ?_
      refine lv_irem S.1 S.2.1 d_Mo_isInk_36 (by decide) ?_
      refine hp_doneR (hp_runS S zz0 (c_Mo_threshold l _ _) l_Mo_54 (hp_pre0 _) (by decide) rfl hl.1 rfl (nl rfl) d_Mo_isInk_37 (by decide)) ?_
      refine lv_bipush (v := 64) S.1 S.2.1 d_Mo_isInk_40 (by decide) ?_
      refine lv_aload_n S.1 S.2.1 d_Mo_isInk_42 rfl (lv_at hl 0 rfl) ?_
      refine hp_get S zz hJ h_t f_Mo_58 rfl d_Mo_isInk_43 ?_
      refine lv_imul S.1 S.2.1 d_Mo_isInk_46 ?_
      refine lv_bipush (v := 99) S.1 S.2.1 d_Mo_isInk_47 (by decide) ?_
      refine lv_iadd S.1 S.2.1 d_Mo_isInk_49 ?_
      refine lv_bipush (v := 100) S.1 S.2.1 d_Mo_isInk_50 (by decide) ?_
      refine lv_idiv S.1 S.2.1 d_Mo_isInk_52 (by decide) ?_
      refine lv_icmp_ge (tgt := 60) S.1 S.2.1 d_Mo_isInk_53 (by decide) (fun c_53 => ?_) (fun c_53 => ?_)
      · refine lv_iconst (v := 0) S.1 S.2.1 d_Mo_isInk_60 (by decide) ?_
        refine lv_goto (tgt := 73) S.1 S.2.1 d_Mo_isInk_61 (by decide) ?_
        exact hp_retRz S hr hlk d_Mo_isInk_73 (by first | decide | exact q_is_n) (q_is_f (fun q => by rcases q with q | q | q; exact absurd q.1 (by simp only [z_lt, z_le] at c_5 ⊢; omega); exact absurd (z_lt.mp q.2.2) (Int.not_lt.mpr (z_le.mp c_53)); exact q.2.1 c_26))
      · refine lv_iconst (v := 1) S.1 S.2.1 d_Mo_isInk_56 (by decide) ?_
        refine lv_goto (tgt := 73) S.1 S.2.1 d_Mo_isInk_57 (by decide) ?_
        exact hp_retRz S hr hlk d_Mo_isInk_73 (by first | decide | exact q_is_n) (q_is_t (Or.inr (Or.inl ⟨(by simp only [z_lt, z_le] at c_5 ⊢; omega), c_26, by simp only [z_lt, z_le] at c_53 ⊢; exact Int.not_le.mp c_53⟩)))
  · refine lv_aload_n S.1 S.2.1 d_Mo_isInk_8 rfl (lv_at hl 0 rfl) ?_
    refine hp_get S zz hJ h_t f_Mo_51 rfl d_Mo_isInk_9 ?_
    refine lv_if_ne (tgt := 19) S.1 S.2.1 d_Mo_isInk_12 (by decide) (fun c_12 => ?_) (fun c_12 => ?_)
    · refine lv_iconst (v := 0) S.1 S.2.1 d_Mo_isInk_19 (by decide) ?_
      exact hp_retRz S hr hlk d_Mo_isInk_20 (by first | decide | exact q_is_n) (q_is_f (fun q => by rcases q with q | q | q; exact c_12 q.2; exact q.1 (by simp only [z_lt, z_le] at c_5 ⊢; omega); exact q.1 (by simp only [z_lt, z_le] at c_5 ⊢; omega)))
    · refine lv_iconst (v := 1) S.1 S.2.1 d_Mo_isInk_15 (by decide) ?_
      refine lv_goto (tgt := 20) S.1 S.2.1 d_Mo_isInk_16 (by decide) ?_
      exact hp_retRz S hr hlk d_Mo_isInk_20 (by first | decide | exact q_is_n) (q_is_t (Or.inl ⟨(by simp only [z_lt, z_le] at c_5 ⊢; omega), c_12⟩))

set_option maxHeartbeats 4000000 in
set_option maxRecDepth 100000 in
theorem c_Mo_isBlack (l : Launch) (dC : Nat → ClassId) (dI : Nat → Nat → Nat) (cA : Nat → ClassId) (A : Nat → Prop) (h : hp_T) (t sh ac dn fr sp dt : Nat) (mf : Nat → Int32) (n x y : Nat) (f : Nat → Int64) (h_t : h t = some (k_Mo mf sh ac dn fr sp dt)) (h_sh : h sh = some (k_lo (cA 1) n f)) (hx : x < 5120) (hy : y < 5100) (hn : 80 * y + x / 64 < n ∧ n ≤ 408000) : Met l y_Mo_isBlack (.code y_Mo_isBlack prog_9_method_4_code 3 (some .boolean) :: BIG) ({ frames := 0, cells := 0, slots := 0, locals := 0 }) (va_Pc [.ref t, .int (nI x), .int (nI y)] (hp_I (gg dC dI cA) A h)) (hp_QR (some (.int (q_is (tb (f (80 * y + x / 64)) (x % 64) = true))))) 0 0 (fun _ => False) := by
  refine hp_enter (by decide) (Nat.le_of_ble_eq_true rfl) ?_
  intro p e s m below meth c ls S hr hlk hin hI hl
  have hl : lv_has ls 3 [(0, .ref t), (1, .int (nI x)), (2, .int (nI y))] := hl
  have hJ := hI.J
  refine lv_aload_n S.1 S.2.1 d_Mo_isBlack_0 rfl (lv_at hl 0 rfl) ?_
  refine hp_get S zz hJ h_t f_Mo_37 rfl d_Mo_isBlack_1 ?_
  refine lv_bipush (v := 80) S.1 S.2.1 d_Mo_isBlack_4 (by decide) ?_
  refine lv_iload_n S.1 S.2.1 d_Mo_isBlack_6 rfl (lv_at hl 2 rfl) ?_
  refine lv_imul S.1 S.2.1 d_Mo_isBlack_7 ?_
  refine lv_iload_n S.1 S.2.1 d_Mo_isBlack_8 rfl (lv_at hl 1 rfl) ?_
  refine lv_bipush (v := 64) S.1 S.2.1 d_Mo_isBlack_9 (by decide) ?_
  refine lv_idiv S.1 S.2.1 d_Mo_isBlack_11 (by decide) ?_
  refine lv_iadd S.1 S.2.1 d_Mo_isBlack_12 ?_
  rw [ix80 hx hy]
  refine hp_lald S hJ 1 h_sh rfl (vp_in_nI hn.1 (by omega)) d_Mo_isBlack_13 ?_
  rw [nI_clamp (by omega)]
  refine lv_bipush (v := 63) S.1 S.2.1 d_Mo_isBlack_14 (by decide) ?_
  refine lv_iload_n S.1 S.2.1 d_Mo_isBlack_16 rfl (lv_at hl 1 rfl) ?_
  refine lv_bipush (v := 64) S.1 S.2.1 d_Mo_isBlack_17 (by decide) ?_
  refine lv_irem S.1 S.2.1 d_Mo_isBlack_19 (by decide) ?_
  refine lv_isub S.1 S.2.1 d_Mo_isBlack_20 ?_
  rw [sh63 (by omega)]
  refine lv_lshr S.1 S.2.1 d_Mo_isBlack_21 rfl ?_
  refine lv_lconst (v := 1) S.1 S.2.1 d_Mo_isBlack_22 (by decide) ?_
  refine lv_land S.1 S.2.1 d_Mo_isBlack_23 ?_
  refine lv_lconst (v := 1) S.1 S.2.1 d_Mo_isBlack_24 (by decide) ?_
  refine W.lcmp S.1 S.2.1 d_Mo_isBlack_25 ?_
  refine lv_if_ne (tgt := 33) S.1 S.2.1 d_Mo_isBlack_26 (by decide) (fun c_26 => ?_) (fun c_26 => ?_)
  · refine lv_iconst (v := 0) S.1 S.2.1 d_Mo_isBlack_33 (by decide) ?_
    exact hp_retRz S hr hlk d_Mo_isBlack_34 (by decide) (q_is_f (fun q => c_26 ((lg_cmp_e _ _).mpr ((tb_asr _ (by omega)).mpr q))))
  · refine lv_iconst (v := 1) S.1 S.2.1 d_Mo_isBlack_29 (by decide) ?_
    refine lv_goto (tgt := 34) S.1 S.2.1 d_Mo_isBlack_30 (by decide) ?_
    exact hp_retRz S hr hlk d_Mo_isBlack_34 (by decide) (q_is_t ((tb_asr _ (by omega)).mp ((lg_cmp_e _ _).mp c_26)))

set_option maxHeartbeats 4000000 in
set_option maxRecDepth 100000 in
theorem c_Mo_set (l : Launch) (dC : Nat → ClassId) (dI : Nat → Nat → Nat) (cA : Nat → ClassId) (A : Nat → Prop) (h : hp_T) (t sh ac dn fr sp dt : Nat) (mf : Nat → Int32) (n x y : Nat) (f : Nat → Int64) (b : Int32) (bb : Bool) (h_t : h t = some (k_Mo mf sh ac dn fr sp dt)) (h_sh : h sh = some (k_lo (cA 1) n f)) (hx : x < 5120) (hy : y < 5100) (hn : 80 * y + x / 64 < n ∧ n ≤ 408000) (hb : bb = true ↔ ¬ b = 0) : Met l y_Mo_set (.code y_Mo_set prog_9_method_5_code 7 none :: BIG) ({ frames := 0, cells := 0, slots := 0, locals := 0 }) (va_Pc [.ref t, .int (nI x), .int (nI y), .int b] (hp_I (gg dC dI cA) A h)) (hp_QW (gg dC dI cA) A hp_mv (fun _ h' => h' = hp_up h sh (k_lo (cA 1) n (q_st f x y bb)))) 0 0 A := by
  refine hp_enter (by decide) (Nat.le_of_ble_eq_true rfl) ?_
  intro p e s m below meth c ls S hr hlk hin hI hl
  have hl : lv_has ls 7 [(0, .ref t), (1, .int (nI x)), (2, .int (nI y)), (3, .int b)] := hl
  have hJ := hI.J
  refine lv_bipush (v := 80) S.1 S.2.1 d_Mo_set_0 (by decide) ?_
  refine lv_iload_n S.1 S.2.1 d_Mo_set_2 rfl (lv_at hl 2 rfl) ?_
  refine lv_imul S.1 S.2.1 d_Mo_set_3 ?_
  refine lv_iload_n S.1 S.2.1 d_Mo_set_4 rfl (lv_at hl 1 rfl) ?_
  refine lv_bipush (v := 64) S.1 S.2.1 d_Mo_set_5 (by decide) ?_
  refine lv_idiv S.1 S.2.1 d_Mo_set_7 (by decide) ?_
  refine lv_iadd S.1 S.2.1 d_Mo_set_8 ?_
  rw [ix80 hx hy]
  refine lv_istore (lv' := [(4, .int (nI (80 * y + x / 64))), (0, .ref t), (1, .int (nI x)), (2, .int (nI y)), (3, .int b)]) S.1 S.2.1 d_Mo_set_9 hl (by decide) rfl (fun ls hl => ?_)
  refine lv_lconst (v := 1) S.1 S.2.1 d_Mo_set_11 (by decide) ?_
  refine lv_bipush (v := 63) S.1 S.2.1 d_Mo_set_12 (by decide) ?_
  refine lv_iload_n S.1 S.2.1 d_Mo_set_14 rfl (lv_at hl 2 rfl) ?_
  refine lv_bipush (v := 64) S.1 S.2.1 d_Mo_set_15 (by decide) ?_
  refine lv_irem S.1 S.2.1 d_Mo_set_17 (by decide) ?_
  refine lv_isub S.1 S.2.1 d_Mo_set_18 ?_
  rw [sh63 (by omega)]
  refine lv_lshl S.1 S.2.1 d_Mo_set_19 rfl ?_
  rw [show (1 : Int64) <<< ((nI (63 - x % 64)).toInt64 &&& 63) = q_b1d (x % 64) from rfl]
  refine lv_lstore (lv' := [(5, .long (q_b1d (x % 64))), (4, .int (nI (80 * y + x / 64))), (0, .ref t), (1, .int (nI x)), (2, .int (nI y)), (3, .int b)]) S.1 S.2.1 d_Mo_set_20 hl (by decide) rfl (fun ls hl => ?_)
  refine lv_aload_n S.1 S.2.1 d_Mo_set_22 rfl (lv_at hl 2 rfl) ?_
  refine hp_get S zz hJ h_t f_Mo_37 rfl d_Mo_set_23 ?_
  refine lv_iload S.1 S.2.1 d_Mo_set_26 (lv_at hl 1 rfl) ?_
  refine hp_cutL (fun v => v = (if bb = true then f (80 * y + x / 64) ||| q_b1d (x % 64) else f (80 * y + x / 64) &&& (q_b1d (x % 64) ^^^ (-1)))) 59 [.int (nI (80 * y + x / 64)), .ref sh] (fun J => ?_) (fun v1 e_v1 => ?_)
  · refine lv_iload_n S.1 S.2.1 d_Mo_set_28 rfl (lv_at hl 5 rfl) ?_
    refine lv_if_eq (tgt := 45) S.1 S.2.1 d_Mo_set_29 (by decide) (fun c_29 => ?_) (fun c_29 => ?_)
    · refine lv_aload_n S.1 S.2.1 d_Mo_set_45 rfl (lv_at hl 2 rfl) ?_
      refine hp_get S zz hJ h_t f_Mo_37 rfl d_Mo_set_46 ?_
      refine lv_iload S.1 S.2.1 d_Mo_set_49 (lv_at hl 1 rfl) ?_
      refine hp_lald S hJ 1 h_sh rfl (vp_in_nI hn.1 (by omega)) d_Mo_set_51 ?_
      rw [nI_clamp (by omega)]
      refine lv_lload S.1 S.2.1 d_Mo_set_52 (lv_at hl 0 rfl) ?_
      refine lv_ldc2 (v := (-1)) S.1 S.2.1 S.2.2.2.1 (S.2.2.2.2 _ t_681) d_Mo_set_54 ?_
      refine lv_lxor S.1 S.2.1 d_Mo_set_57 ?_
      refine lv_land S.1 S.2.1 d_Mo_set_58 ?_
      exact J _ ((if_neg (fun q => hb.mp q c_29)).symm)
    · refine lv_aload_n S.1 S.2.1 d_Mo_set_32 rfl (lv_at hl 2 rfl) ?_
      refine hp_get S zz hJ h_t f_Mo_37 rfl d_Mo_set_33 ?_
      refine lv_iload S.1 S.2.1 d_Mo_set_36 (lv_at hl 1 rfl) ?_
      refine hp_lald S hJ 1 h_sh rfl (vp_in_nI hn.1 (by omega)) d_Mo_set_38 ?_
      rw [nI_clamp (by omega)]
      refine lv_lload S.1 S.2.1 d_Mo_set_39 (lv_at hl 0 rfl) ?_
      refine lv_lor S.1 S.2.1 d_Mo_set_41 ?_
      refine lv_goto (tgt := 59) S.1 S.2.1 d_Mo_set_42 (by decide) ?_
      exact J _ ((if_pos (hb.mpr c_29)).symm)
  · refine hp_last S hJ 1 h_sh rfl (vp_in_nI hn.1 (by omega)) d_Mo_set_59 (fun H locs hJ => ?_)
    rw [nI_clamp (by omega), e_v1] at hJ
    obtain ⟨h1, eh1⟩ : ∃ z, z = hp_up h sh (k_lo (cA 1) n (q_st f x y bb)) := ⟨_, rfl⟩
    have hJ := hJ.cast eh1
    have h0_sh := h_sh
    have h_t : h1 t = some (.inr (7, [.int (mf 0), .int (mf 1), .int (mf 2), .int (mf 3), .ref sh, .int (mf 5), .ref ac, .ref dn, .ref fr, .ref sp, .int (mf 10), .ref dt, .int (mf 12), .int (mf 13), .int (mf 14), .int (mf 15), .int (mf 16), .int (mf 17), .int (mf 18), .int (mf 19), .int (mf 20), .int (mf 21), .int (mf 22)])) := by rw [eh1]; exact hp_up_k (hp_ne h_t h0_sh (show ((0, 7) : Nat × Nat) ≠ (2, 0) by decide)) h_t
    have h_sh : h1 sh = some (k_lo (cA 1) n (q_st f x y bb)) := by rw [eh1]; exact hp_up_s _ _ _
    exact hp_retWv S hJ hr hlk d_Mo_set_60 (by decide) eh1

