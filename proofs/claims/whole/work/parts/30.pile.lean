/-! Piles: cleared, stirred, grown. -/
theorem mx0 {n : Nat} (h2 : n < 2 ^ 31) : (if (0 : Int32) < nI n then nI n else 0) = nI n := by
  split
  · rfl
  · rename_i q
    have h3 : ¬ (0 : Int32).toInt < (nI n).toInt := fun z => q (z_lt.mpr z)
    rw [z_nI h2, z_0] at h3
    have : n = 0 := by omega
    subst this
    rfl
theorem mnb {b n : Nat} (h : b < n) (hn : n < 2 ^ 31) : (if nI b + 1 < nI n then nI b + 1 else nI n) = nI (b + 1) := by
  rw [nI_1]
  split
  · rfl
  · rename_i q
    have h3 : ¬ (nI (b + 1)).toInt < (nI n).toInt := fun z => q (z_lt.mpr z)
    rw [z_nI (by omega), z_nI hn] at h3
    rw [show n = b + 1 by omega]
/-- the lines a .. y - 1 set to x; to 1 where they are stirred -/
def q_sa (f : Nat → Int32) (a y : Nat) : Nat → Int32 := fun i => if a ≤ i ∧ i < y then -1 else f i
def q_sz (pic : Bool) (g : Nat → Int32) (a y : Nat) : Nat → Int32 := fun i => if a ≤ i ∧ i < y ∧ (pic = true ∨ i = a) then 1 else g i
theorem q_sa_0 (f : Nat → Int32) (a : Nat) : q_sa f a a = f := by
  funext i
  exact if_neg (by omega)
theorem q_sz_0 (pic : Bool) (g : Nat → Int32) (a : Nat) : q_sz pic g a a = g := by
  funext i
  exact if_neg (by omega)
theorem q_sa_s (f : Nat → Int32) {a y : Nat} (h : a ≤ y) : upd (q_sa f a y) y (-1) = q_sa f a (y + 1) := by
  funext i
  unfold upd q_sa
  by_cases hi : i = y
  · rw [if_pos hi, if_pos (by omega)]
  · rw [if_neg hi]
    by_cases h2 : a ≤ i ∧ i < y
    · rw [if_pos h2, if_pos (by omega)]
    · rw [if_neg h2, if_neg (by omega)]
theorem q_sz_t {pic : Bool} (g : Nat → Int32) {a y : Nat} (h : a ≤ y) (hp : pic = true ∨ y = a) : upd (q_sz pic g a y) y 1 = q_sz pic g a (y + 1) := by
  funext i
  unfold upd q_sz
  by_cases hi : i = y
  · subst hi
    rw [if_pos rfl, if_pos ⟨h, by omega, hp⟩]
  · rw [if_neg hi]
    by_cases h2 : a ≤ i ∧ i < y ∧ (pic = true ∨ i = a)
    · rw [if_pos h2, if_pos ⟨h2.1, by omega, h2.2.2⟩]
    · rw [if_neg h2, if_neg (fun q => h2 ⟨q.1, by omega, q.2.2⟩)]
theorem q_sz_f {pic : Bool} (g : Nat → Int32) {a y : Nat} (hp : ¬ (pic = true ∨ y = a)) : q_sz pic g a y = q_sz pic g a (y + 1) := by
  funext i
  unfold q_sz
  by_cases h2 : a ≤ i ∧ i < y ∧ (pic = true ∨ i = a)
  · rw [if_pos h2, if_pos ⟨h2.1, by omega, h2.2.2⟩]
  · rw [if_neg h2, if_neg]
    intro q
    by_cases hi : i = y
    · exact hp (hi ▸ q.2.2)
    · exact h2 ⟨q.1, by omega, q.2.2⟩
/-- the line behind, if there is one -/
def q_sx (g : Nat → Int32) (n k : Nat) : Nat → Int32 := if k < n then upd g k 1 else g

set_option maxHeartbeats 4000000 in
set_option maxRecDepth 100000 in
theorem c_Pl_clear (l : Launch) (dC : Nat → ClassId) (dI : Nat → Nat → Nat) (cA : Nat → ClassId) (A : Nat → Prop) (h : hp_T) (t bl st n : Nat) (sz : Int32) (nw : Option Nat) (f g : Nat → Int32) (hn : n ≤ 5100) (ne_bl_st : bl ≠ st) (h_t : h t = some (k_Pl (nI n) bl st sz nw)) (h_bl : h bl = some (k_in (cA 0) n f)) (h_st : h st = some (k_in (cA 2) n g)) : Met l y_Pl_clear (.code y_Pl_clear prog_6_method_2_code 2 none :: BIG) ({ frames := 1, cells := 0, slots := 0, locals := 23 }) (va_Pc [.ref t] (hp_I (gg dC dI cA) A h)) (hp_QW (gg dC dI cA) A hp_mv (fun _ h' => h' = hp_up (hp_up (hp_up h t (k_Pl (nI n) bl st 0 none)) bl (k_in (cA 0) n (q_fl f 0 n))) st (k_in (cA 2) n (q_fl g 0 n)))) 0 0 A := by
  refine hp_enter (by decide) (Nat.le_of_ble_eq_true rfl) ?_
  intro p e s m below meth c ls S hr hlk hin hI hl
  have hl : lv_has ls 2 [(0, .ref t)] := hl
  have hJ := hI.J
  refine lv_aload_n S.1 S.2.1 d_Pl_clear_0 rfl (lv_at hl 0 rfl) ?_
  refine lv_iconst (v := 0) S.1 S.2.1 d_Pl_clear_1 (by decide) ?_
  refine hp_put S zz hJ h_t fp_Pl_23 rfl rfl (nl rfl) d_Pl_clear_2 (fun H locs hJ => ?_)
  obtain ⟨h1, eh1⟩ : ∃ z, z = hp_up h t (.inr (5, [.int (nI n), .ref bl, .ref st, .int 0, va_rf nw])) := ⟨_, rfl⟩
  have hJ := hJ.cast eh1
  have h0_t := h_t
  have h_bl : h1 bl = some (k_in (cA 0) n f) := by rw [eh1]; exact hp_up_k (hp_ne h_bl h0_t (show ((1, 0) : Nat × Nat) ≠ (0, 5) by decide)) h_bl
  have h_st : h1 st = some (k_in (cA 2) n g) := by rw [eh1]; exact hp_up_k (hp_ne h_st h0_t (show ((1, 0) : Nat × Nat) ≠ (0, 5) by decide)) h_st
  have h_t : h1 t = some (.inr (5, [.int (nI n), .ref bl, .ref st, .int 0, va_rf nw])) := by rw [eh1]; exact hp_up_s _ _ _
  refine lv_aload_n S.1 S.2.1 d_Pl_clear_5 rfl (lv_at hl 0 rfl) ?_
  refine lv_null S.1 S.2.1 d_Pl_clear_6 ?_
  refine hp_put S zz hJ h_t fp_Pl_26 rfl rfl (nl rfl) d_Pl_clear_7 (fun H locs hJ => ?_)
  obtain ⟨h2, eh2⟩ : ∃ z, z = hp_up h1 t (.inr (5, [.int (nI n), .ref bl, .ref st, .int 0, .null])) := ⟨_, rfl⟩
  have hJ := hJ.cast eh2
  have h0_t := h_t
  have h_bl : h2 bl = some (k_in (cA 0) n f) := by rw [eh2]; exact hp_up_k (hp_ne h_bl h0_t (show ((1, 0) : Nat × Nat) ≠ (0, 5) by decide)) h_bl
  have h_st : h2 st = some (k_in (cA 2) n g) := by rw [eh2]; exact hp_up_k (hp_ne h_st h0_t (show ((1, 0) : Nat × Nat) ≠ (0, 5) by decide)) h_st
  have h_t : h2 t = some (.inr (5, [.int (nI n), .ref bl, .ref st, .int 0, .null])) := by rw [eh2]; exact hp_up_s _ _ _
  refine lv_aload_n S.1 S.2.1 d_Pl_clear_10 rfl (lv_at hl 0 rfl) ?_
  refine hp_get S zz hJ h_t f_Pl_15 rfl d_Pl_clear_11 ?_
  refine lv_iconst (v := 0) S.1 S.2.1 d_Pl_clear_14 (by decide) ?_
  refine hp_doneWv hJ (hp_runS S zz0 (c_JA_fill l dC dI cA A _ bl 0 n f (by omega) h_bl) l_Pl_30 (hJ.pre _) (by decide) rfl hl.1 rfl (nl rfl) d_Pl_clear_15 (by decide)) (fun h3 H locs eh3 hJ => ?_)
  have h0_bl := h_bl
  have h_t : h3 t = some (.inr (5, [.int (nI n), .ref bl, .ref st, .int 0, .null])) := by rw [eh3]; exact hp_up_k (hp_ne h_t h0_bl (show ((0, 5) : Nat × Nat) ≠ (1, 0) by decide)) h_t
  have h_st : h3 st = some (k_in (cA 2) n g) := by rw [eh3]; exact hp_up_k (Ne.symm ne_bl_st) h_st
  have h_bl : h3 bl = some (k_in (cA 0) n (q_fl f 0 n)) := by rw [eh3]; exact hp_up_s _ _ _
  refine lv_iconst (v := 0) S.1 S.2.1 d_Pl_clear_18 (by decide) ?_
  refine lv_istore_n (lv' := [(1, .int 0), (0, .ref t)]) S.1 S.2.1 d_Pl_clear_19 rfl hl (by decide) rfl (fun ls hl => ?_)
  have h_t3 := h_t
  have h_st3 := h_st
  have LP : ∀ (n_ y : Nat) (hc : hp_T) (H : Heap) (locs : List Loc) (ls : Array Slot), y + n_ = n → hc = hp_up h3 st (k_in (cA 2) n (q_fl g 0 y)) → hp_J (gg dC dI cA) A hc s H locs → lv_has ls 2 [(1, .int (nI y)), (0, .ref t)] → W p l e ({ frames := 1, cells := 0, slots := 0, locals := 23 }) s m ([.ref t] : List Value).toArray below meth c H locs 0 0 (MQ below (hp_QW (gg dC dI cA) A hp_mv (fun _ h' => h' = hp_up (hp_up (hp_up h t (k_Pl (nI n) bl st 0 none)) bl (k_in (cA 0) n (q_fl f 0 n))) st (k_in (cA 2) n (q_fl g 0 n)))) ([.ref t] : List Value).toArray s 0 0 A) (F0 m 20 ls []) := by
    intro n_
    induction n_ with
    | zero =>
      intro y hc H locs ls hu_ ehc hJ hl
      have h_st : hc st = some (k_in (cA 2) n (q_fl g 0 y)) := by rw [ehc]; exact hp_up_s _ _ _
      have h_t : hc t = some (k_Pl (nI n) bl st 0 none) := by rw [ehc]; exact hp_up_k (hp_ne h_t3 h_st3 (show ((0, 5) : Nat × Nat) ≠ (1, 0) by decide)) h_t3
      refine lv_iload_n S.1 S.2.1 d_Pl_clear_20 rfl (lv_at hl 0 rfl) ?_
      refine lv_aload_n S.1 S.2.1 d_Pl_clear_21 rfl (lv_at hl 1 rfl) ?_
      refine hp_get S zz hJ h_t f_Pl_9 rfl d_Pl_clear_22 ?_
      obtain ⟨e_n, -⟩ : y = n ∧ True := ⟨by omega, trivial⟩
      refine lv_icmp_ge (tgt := 41) S.1 S.2.1 d_Pl_clear_25 (by decide) (fun _ => ?_) (fun q => absurd (by rw [e_n]; exact Int32.le_refl _) q)
      exact hp_retWv S hJ hr hlk d_Pl_clear_41 (by decide) (by rw [ehc, e_n, eh3, eh2, eh1, hp_up_up]; rfl)
    | succ n_ ih =>
      intro y hc H locs ls hu_ ehc hJ hl
      have h_st : hc st = some (k_in (cA 2) n (q_fl g 0 y)) := by rw [ehc]; exact hp_up_s _ _ _
      have h_t : hc t = some (k_Pl (nI n) bl st 0 none) := by rw [ehc]; exact hp_up_k (hp_ne h_t3 h_st3 (show ((0, 5) : Nat × Nat) ≠ (1, 0) by decide)) h_t3
      refine lv_iload_n S.1 S.2.1 d_Pl_clear_20 rfl (lv_at hl 0 rfl) ?_
      refine lv_aload_n S.1 S.2.1 d_Pl_clear_21 rfl (lv_at hl 1 rfl) ?_
      refine hp_get S zz hJ h_t f_Pl_9 rfl d_Pl_clear_22 ?_
      refine lv_icmp_ge (tgt := 41) S.1 S.2.1 d_Pl_clear_25 (by decide) (fun q => absurd q (nI_ge (a := y) (b := n) (by omega) (by omega))) (fun _ => ?_)
      refine lv_aload_n S.1 S.2.1 d_Pl_clear_28 rfl (lv_at hl 1 rfl) ?_
      refine hp_get S zz hJ h_t f_Pl_19 rfl d_Pl_clear_29 ?_
      refine lv_iload_n S.1 S.2.1 d_Pl_clear_32 rfl (lv_at hl 0 rfl) ?_
      refine lv_iconst (v := 0) S.1 S.2.1 d_Pl_clear_33 (by decide) ?_
      refine hp_zast S hJ 2 h_st rfl (vp_in_nI (by omega) (by omega)) d_Pl_clear_34 (fun H locs hJ => ?_)
      rw [nI_clamp (by omega), z_nar0, q_fl_s, ehc, hp_up_up] at hJ
      refine lv_iinc (v := nI (y + 1)) (lv' := [(1, .int (nI (y + 1))), (0, .ref t)]) S.1 S.2.1 d_Pl_clear_35 hl (k := 0) rfl (nI_1 _) (by decide) rfl (fun ls hl => ?_)
      refine lv_goto (tgt := 20) S.1 S.2.1 d_Pl_clear_38 (by decide) ?_
      exact ih (y + 1) _ _ _ ls (by omega) rfl hJ (lv_sub hl [0, 1] rfl)
  exact LP n 0 _ _ _ ls (by omega) (by rw [q_fl_0, hp_up_same h_st]) hJ (lv_sub hl [0, 1] rfl)

set_option maxHeartbeats 4000000 in
set_option maxRecDepth 100000 in
theorem cN_Pl_stir (l : Launch) (dC : Nat → ClassId) (dI : Nat → Nat → Nat) (cA : Nat → ClassId) (A : Nat → Prop) (h : hp_T) (t mk part ink bl st n a b : Nat) (sz left top x0 x1 so io : Int32) (nw bel bol : Option Nat) (f g : Nat → Int32) (hn : n ≤ 5100) (hab : a ≤ b ∧ b < n) (ne_bl_st : bl ≠ st) (h_t : h t = some (k_Pl (nI n) bl st sz nw)) (h_bl : h bl = some (k_in (cA 0) n f)) (h_st : h st = some (k_in (cA 2) n g)) (h_mk : h mk = some (k_Mk none left top part ink so io bel bol)) (h_part : h part = some (k_Bx x0 (nI a) x1 (nI b))) : Met l y_Pl_stir (.code y_Pl_stir prog_6_method_4_code 5 none :: BIG) ({ frames := 1, cells := 0, slots := 0, locals := 22 }) (va_Pc [.ref t, .ref mk] (hp_I (gg dC dI cA) A h)) (hp_QW (gg dC dI cA) A hp_mv (fun _ h' => h' = hp_up (hp_up h bl (k_in (cA 0) n (q_sa f a (b + 1)))) st (k_in (cA 2) n (q_sx (q_sz false g a (b + 1)) n (b + 1))))) 0 0 A := by
  refine hp_enter (by decide) (Nat.le_of_ble_eq_true rfl) ?_
  intro p e s m below meth c ls S hr hlk hin hI hl
  have hl : lv_has ls 5 [(0, .ref t), (1, .ref mk)] := hl
  have hJ := hI.J
  refine lv_iconst (v := 0) S.1 S.2.1 d_Pl_stir_0 (by decide) ?_
  refine lv_aload_n S.1 S.2.1 d_Pl_stir_1 rfl (lv_at hl 1 rfl) ?_
  refine hp_get S zz hJ h_mk f_Pl_36 rfl d_Pl_stir_2 ?_
  refine hp_get S zz hJ h_part f_Pl_55 rfl d_Pl_stir_5 ?_
  refine hp_max S l_Pl_58 hl.1 d_Pl_stir_8 ⟨nl rfl, nl rfl, nl rfl, nl rfl⟩ ?_
  rw [mx0 (by omega)]
  refine lv_istore_n (lv' := [(2, .int (nI a)), (0, .ref t), (1, .ref mk)]) S.1 S.2.1 d_Pl_stir_11 rfl hl (by decide) rfl (fun ls hl => ?_)
  refine lv_aload_n S.1 S.2.1 d_Pl_stir_12 rfl (lv_at hl 1 rfl) ?_
  refine hp_get S zz hJ h_t f_Pl_9 rfl d_Pl_stir_13 ?_
  refine lv_aload_n S.1 S.2.1 d_Pl_stir_16 rfl (lv_at hl 2 rfl) ?_
  refine hp_get S zz hJ h_mk f_Pl_36 rfl d_Pl_stir_17 ?_
  refine hp_get S zz hJ h_part f_Pl_64 rfl d_Pl_stir_20 ?_
  refine lv_iconst (v := 1) S.1 S.2.1 d_Pl_stir_23 (by decide) ?_
  refine lv_iadd S.1 S.2.1 d_Pl_stir_24 ?_
  refine hp_min S l_Pl_67 hl.1 d_Pl_stir_25 ⟨nl rfl, nl rfl, nl rfl, nl rfl⟩ ?_
  rw [mnb hab.2 (by omega)]
  refine lv_istore_n (lv' := [(3, .int (nI (b + 1))), (2, .int (nI a)), (0, .ref t), (1, .ref mk)]) S.1 S.2.1 d_Pl_stir_28 rfl hl (by decide) rfl (fun ls hl => ?_)
  refine lv_iload_n S.1 S.2.1 d_Pl_stir_29 rfl (lv_at hl 1 rfl) ?_
  refine lv_istore (lv' := [(4, .int (nI a)), (3, .int (nI (b + 1))), (2, .int (nI a)), (0, .ref t), (1, .ref mk)]) S.1 S.2.1 d_Pl_stir_30 hl (by decide) rfl (fun ls hl => ?_)
  have h_t0 := h_t
  have h_mk0 := h_mk
  have h_bl0 := h_bl
  have h_st0 := h_st
  have LP : ∀ (n_ y : Nat) (hc : hp_T) (H : Heap) (locs : List Loc) (ls : Array Slot), y + n_ = b + 1 → a ≤ y → hc = hp_up (hp_up h bl (k_in (cA 0) n (q_sa f a y))) st (k_in (cA 2) n (q_sz false g a y)) → hp_J (gg dC dI cA) A hc s H locs → lv_has ls 5 [(4, .int (nI y)), (3, .int (nI (b + 1))), (2, .int (nI a)), (0, .ref t), (1, .ref mk)] → W p l e ({ frames := 1, cells := 0, slots := 0, locals := 22 }) s m ([.ref t, .ref mk] : List Value).toArray below meth c H locs 0 0 (MQ below (hp_QW (gg dC dI cA) A hp_mv (fun _ h' => h' = hp_up (hp_up h bl (k_in (cA 0) n (q_sa f a (b + 1)))) st (k_in (cA 2) n (q_sx (q_sz false g a (b + 1)) n (b + 1))))) ([.ref t, .ref mk] : List Value).toArray s 0 0 A) (F0 m 32 ls []) := by
    intro n_
    induction n_ with
    | zero =>
      intro y hc H locs ls hu_ hay ehc hJ hl
      have h_st : hc st = some (k_in (cA 2) n (q_sz false g a y)) := by rw [ehc]; exact hp_up_s _ _ _
      have h_bl : hc bl = some (k_in (cA 0) n (q_sa f a y)) := by rw [ehc]; exact hp_up_k ne_bl_st (hp_up_s _ _ _)
      have h_t : hc t = some (k_Pl (nI n) bl st sz nw) := by rw [ehc]; exact hp_up_k (hp_ne h_t0 h_st0 (show ((0, 5) : Nat × Nat) ≠ (1, 0) by decide)) (hp_up_k (hp_ne h_t0 h_bl0 (show ((0, 5) : Nat × Nat) ≠ (1, 0) by decide)) h_t0)
      have h_mk : hc mk = some (k_Mk none left top part ink so io bel bol) := by rw [ehc]; exact hp_up_k (hp_ne h_mk0 h_st0 (show ((0, 3) : Nat × Nat) ≠ (1, 0) by decide)) (hp_up_k (hp_ne h_mk0 h_bl0 (show ((0, 3) : Nat × Nat) ≠ (1, 0) by decide)) h_mk0)
      refine lv_iload S.1 S.2.1 d_Pl_stir_32 (lv_at hl 0 rfl) ?_
      refine lv_iload_n S.1 S.2.1 d_Pl_stir_34 rfl (lv_at hl 1 rfl) ?_
      obtain ⟨e_n, -⟩ : y = b + 1 ∧ True := ⟨by omega, trivial⟩
      refine lv_icmp_ge (tgt := 73) S.1 S.2.1 d_Pl_stir_35 (by decide) (fun _ => ?_) (fun q => absurd (by rw [e_n]; exact Int32.le_refl _) q)
      refine lv_iconst (v := 0) S.1 S.2.1 d_Pl_stir_73 (by decide) ?_
      refine lv_iload_n S.1 S.2.1 d_Pl_stir_74 rfl (lv_at hl 1 rfl) ?_
      refine lv_aload_n S.1 S.2.1 d_Pl_stir_75 rfl (lv_at hl 3 rfl) ?_
      refine hp_get S zz hJ h_t f_Pl_9 rfl d_Pl_stir_76 ?_
      refine lv_iconst (v := 1) S.1 S.2.1 d_Pl_stir_79 (by decide) ?_
      refine lv_isub S.1 S.2.1 d_Pl_stir_80 ?_
      refine hp_doneR (hp_runN S zz hJ.2.1 (c_BP_isWithin l _ _ _) l_Pl_74 (hp_pre0 _) (by decide) rfl hl.1 rfl (nl rfl) d_Pl_stir_81 (by decide)) ?_
      refine lv_if_eq (tgt := 94) S.1 S.2.1 d_Pl_stir_84 (by decide) (fun c_84 => ?_) (fun c_84 => ?_)
      · exact hp_retWv S hJ hr hlk d_Pl_stir_94 (by decide) (by rw [ehc, e_n]; unfold q_sx; rw [if_neg (fun hbn => q_is_0.mp c_84 ⟨nI_pos' (by omega), by rw [show (1 : Int32) = nI 1 from rfl, pk_sub (by omega)]; exact nI_le (by omega) (by omega)⟩)])
      · refine lv_aload_n S.1 S.2.1 d_Pl_stir_87 rfl (lv_at hl 3 rfl) ?_
        refine hp_get S zz hJ h_t f_Pl_19 rfl d_Pl_stir_88 ?_
        refine lv_iload_n S.1 S.2.1 d_Pl_stir_91 rfl (lv_at hl 1 rfl) ?_
        refine lv_iconst (v := 1) S.1 S.2.1 d_Pl_stir_92 (by decide) ?_
        have hbn : b + 1 < n := by have q := (q_is_ne.mp c_84).2; rw [show (1 : Int32) = nI 1 from rfl, pk_sub (by omega)] at q; have q := (nI_leI (by omega) (by omega)).mp q; omega
        refine hp_zast S hJ 2 h_st rfl (vp_in_nI (by omega) (by omega)) d_Pl_stir_93 (fun H locs hJ => ?_)
        rw [nI_clamp (by omega), z_nar1, ehc, hp_up_up] at hJ
        exact hp_retWv S hJ hr hlk d_Pl_stir_94 (by decide) (by rw [e_n]; unfold q_sx; rw [if_pos hbn])
    | succ n_ ih =>
      intro y hc H locs ls hu_ hay ehc hJ hl
      have h_st : hc st = some (k_in (cA 2) n (q_sz false g a y)) := by rw [ehc]; exact hp_up_s _ _ _
      have h_bl : hc bl = some (k_in (cA 0) n (q_sa f a y)) := by rw [ehc]; exact hp_up_k ne_bl_st (hp_up_s _ _ _)
      have h_t : hc t = some (k_Pl (nI n) bl st sz nw) := by rw [ehc]; exact hp_up_k (hp_ne h_t0 h_st0 (show ((0, 5) : Nat × Nat) ≠ (1, 0) by decide)) (hp_up_k (hp_ne h_t0 h_bl0 (show ((0, 5) : Nat × Nat) ≠ (1, 0) by decide)) h_t0)
      have h_mk : hc mk = some (k_Mk none left top part ink so io bel bol) := by rw [ehc]; exact hp_up_k (hp_ne h_mk0 h_st0 (show ((0, 3) : Nat × Nat) ≠ (1, 0) by decide)) (hp_up_k (hp_ne h_mk0 h_bl0 (show ((0, 3) : Nat × Nat) ≠ (1, 0) by decide)) h_mk0)
      refine lv_iload S.1 S.2.1 d_Pl_stir_32 (lv_at hl 0 rfl) ?_
      refine lv_iload_n S.1 S.2.1 d_Pl_stir_34 rfl (lv_at hl 1 rfl) ?_
      refine lv_icmp_ge (tgt := 73) S.1 S.2.1 d_Pl_stir_35 (by decide) (fun q => absurd q (nI_ge (a := y) (b := b + 1) (by omega) (by omega))) (fun _ => ?_)
      refine lv_aload_n S.1 S.2.1 d_Pl_stir_38 rfl (lv_at hl 3 rfl) ?_
      refine hp_get S zz hJ h_t f_Pl_15 rfl d_Pl_stir_39 ?_
      refine lv_iload S.1 S.2.1 d_Pl_stir_42 (lv_at hl 0 rfl) ?_
      refine lv_iconst (v := (-1)) S.1 S.2.1 d_Pl_stir_44 (by decide) ?_
      refine hp_iast S hJ 0 h_bl rfl (vp_in_nI (by omega) (by omega)) d_Pl_stir_45 (fun H locs hJ => ?_)
      rw [nI_clamp (by omega), q_sa_s f hay, ehc, hp_up_comm _ _ _ (Ne.symm ne_bl_st), hp_up_up] at hJ
      obtain ⟨hd, ehd⟩ : ∃ z, z = hp_up (hp_up h bl (k_in (cA 0) n (q_sa f a (y + 1)))) st (k_in (cA 2) n (q_sz false g a y)) := ⟨_, rfl⟩
      have hJ := hJ.cast ehd
      have h_st : hd st = some (k_in (cA 2) n (q_sz false g a y)) := by rw [ehd]; exact hp_up_s _ _ _
      have h_t : hd t = some (k_Pl (nI n) bl st sz nw) := by rw [ehd]; exact hp_up_k (hp_ne h_t0 h_st0 (show ((0, 5) : Nat × Nat) ≠ (1, 0) by decide)) (hp_up_k (hp_ne h_t0 h_bl0 (show ((0, 5) : Nat × Nat) ≠ (1, 0) by decide)) h_t0)
      have h_mk : hd mk = some (k_Mk none left top part ink so io bel bol) := by rw [ehd]; exact hp_up_k (hp_ne h_mk0 h_st0 (show ((0, 3) : Nat × Nat) ≠ (1, 0) by decide)) (hp_up_k (hp_ne h_mk0 h_bl0 (show ((0, 3) : Nat × Nat) ≠ (1, 0) by decide)) h_mk0)
      refine lv_aload_n S.1 S.2.1 d_Pl_stir_46 rfl (lv_at hl 4 rfl) ?_
      refine hp_get S zz hJ h_mk f_Pl_70 rfl d_Pl_stir_47 ?_
      refine lv_ifnonnullN S.1 S.2.1 d_Pl_stir_50 ?_
      refine lv_iload S.1 S.2.1 d_Pl_stir_53 (lv_at hl 0 rfl) ?_
      refine lv_iload_n S.1 S.2.1 d_Pl_stir_55 rfl (lv_at hl 2 rfl) ?_
      refine lv_icmp_ne (tgt := 67) S.1 S.2.1 d_Pl_stir_56 (by decide) (fun c_56 => ?_) (fun c_56 => ?_)
      · refine lv_iinc (v := nI (y + 1)) (lv' := [(4, .int (nI (y + 1))), (3, .int (nI (b + 1))), (2, .int (nI a)), (0, .ref t), (1, .ref mk)]) S.1 S.2.1 d_Pl_stir_67 hl (k := 0) rfl (nI_1 _) (by decide) rfl (fun ls hl => ?_)
        refine lv_goto (tgt := 32) S.1 S.2.1 d_Pl_stir_70 (by decide) ?_
        exact ih (y + 1) _ _ _ ls (by omega) (by omega) (by rw [← q_sz_f g (fun q => q.elim (by decide) (fun z => c_56 (by rw [z])))]; exact ehd) hJ (lv_sub hl [0, 1, 2, 3, 4] rfl)
      · refine lv_aload_n S.1 S.2.1 d_Pl_stir_59 rfl (lv_at hl 3 rfl) ?_
        refine hp_get S zz hJ h_t f_Pl_19 rfl d_Pl_stir_60 ?_
        refine lv_iload S.1 S.2.1 d_Pl_stir_63 (lv_at hl 0 rfl) ?_
        refine lv_iconst (v := 1) S.1 S.2.1 d_Pl_stir_65 (by decide) ?_
        refine hp_zast S hJ 2 h_st rfl (vp_in_nI (by omega) (by omega)) d_Pl_stir_66 (fun H locs hJ => ?_)
        rw [nI_clamp (by omega), z_nar1, q_sz_t g hay (Or.inr ((nI_eq (by omega) (by omega)).mp c_56)), ehd, hp_up_up] at hJ
        refine lv_iinc (v := nI (y + 1)) (lv' := [(4, .int (nI (y + 1))), (3, .int (nI (b + 1))), (2, .int (nI a)), (0, .ref t), (1, .ref mk)]) S.1 S.2.1 d_Pl_stir_67 hl (k := 0) rfl (nI_1 _) (by decide) rfl (fun ls hl => ?_)
        refine lv_goto (tgt := 32) S.1 S.2.1 d_Pl_stir_70 (by decide) ?_
        exact ih (y + 1) _ _ _ ls (by omega) (by omega) rfl hJ (lv_sub hl [0, 1, 2, 3, 4] rfl)
  exact LP (b + 1 - a) a _ _ _ ls (by omega) (Nat.le_refl _) (by rw [q_sa_0, q_sz_0, hp_up_same h_bl, hp_up_same h_st]) hJ (lv_sub hl [0, 1, 2, 3, 4] rfl)

set_option maxHeartbeats 4000000 in
set_option maxRecDepth 100000 in
theorem cS_Pl_stir (l : Launch) (dC : Nat → ClassId) (dI : Nat → Nat → Nat) (cA : Nat → ClassId) (A : Nat → Prop) (h : hp_T) (t mk part ink bl st n a b : Nat) (pic : Nat) (sz left top x0 x1 so io : Int32) (nw bel bol : Option Nat) (f g : Nat → Int32) (hn : n ≤ 5100) (hab : a ≤ b ∧ b < n) (ne_bl_st : bl ≠ st) (h_t : h t = some (k_Pl (nI n) bl st sz nw)) (h_bl : h bl = some (k_in (cA 0) n f)) (h_st : h st = some (k_in (cA 2) n g)) (h_mk : h mk = some (k_Mk (some pic) left top part ink so io bel bol)) (h_part : h part = some (k_Bx x0 (nI a) x1 (nI b))) : Met l y_Pl_stir (.code y_Pl_stir prog_6_method_4_code 5 none :: BIG) ({ frames := 1, cells := 0, slots := 0, locals := 22 }) (va_Pc [.ref t, .ref mk] (hp_I (gg dC dI cA) A h)) (hp_QW (gg dC dI cA) A hp_mv (fun _ h' => h' = hp_up (hp_up h bl (k_in (cA 0) n (q_sa f a (b + 1)))) st (k_in (cA 2) n (q_sx (q_sz true g a (b + 1)) n (b + 1))))) 0 0 A := by
  refine hp_enter (by decide) (Nat.le_of_ble_eq_true rfl) ?_
  intro p e s m below meth c ls S hr hlk hin hI hl
  have hl : lv_has ls 5 [(0, .ref t), (1, .ref mk)] := hl
  have hJ := hI.J
  refine lv_iconst (v := 0) S.1 S.2.1 d_Pl_stir_0 (by decide) ?_
  refine lv_aload_n S.1 S.2.1 d_Pl_stir_1 rfl (lv_at hl 1 rfl) ?_
  refine hp_get S zz hJ h_mk f_Pl_36 rfl d_Pl_stir_2 ?_
  refine hp_get S zz hJ h_part f_Pl_55 rfl d_Pl_stir_5 ?_
  refine hp_max S l_Pl_58 hl.1 d_Pl_stir_8 ⟨nl rfl, nl rfl, nl rfl, nl rfl⟩ ?_
  rw [mx0 (by omega)]
  refine lv_istore_n (lv' := [(2, .int (nI a)), (0, .ref t), (1, .ref mk)]) S.1 S.2.1 d_Pl_stir_11 rfl hl (by decide) rfl (fun ls hl => ?_)
  refine lv_aload_n S.1 S.2.1 d_Pl_stir_12 rfl (lv_at hl 1 rfl) ?_
  refine hp_get S zz hJ h_t f_Pl_9 rfl d_Pl_stir_13 ?_
  refine lv_aload_n S.1 S.2.1 d_Pl_stir_16 rfl (lv_at hl 2 rfl) ?_
  refine hp_get S zz hJ h_mk f_Pl_36 rfl d_Pl_stir_17 ?_
  refine hp_get S zz hJ h_part f_Pl_64 rfl d_Pl_stir_20 ?_
  refine lv_iconst (v := 1) S.1 S.2.1 d_Pl_stir_23 (by decide) ?_
  refine lv_iadd S.1 S.2.1 d_Pl_stir_24 ?_
  refine hp_min S l_Pl_67 hl.1 d_Pl_stir_25 ⟨nl rfl, nl rfl, nl rfl, nl rfl⟩ ?_
  rw [mnb hab.2 (by omega)]
  refine lv_istore_n (lv' := [(3, .int (nI (b + 1))), (2, .int (nI a)), (0, .ref t), (1, .ref mk)]) S.1 S.2.1 d_Pl_stir_28 rfl hl (by decide) rfl (fun ls hl => ?_)
  refine lv_iload_n S.1 S.2.1 d_Pl_stir_29 rfl (lv_at hl 1 rfl) ?_
  refine lv_istore (lv' := [(4, .int (nI a)), (3, .int (nI (b + 1))), (2, .int (nI a)), (0, .ref t), (1, .ref mk)]) S.1 S.2.1 d_Pl_stir_30 hl (by decide) rfl (fun ls hl => ?_)
  have h_t0 := h_t
  have h_mk0 := h_mk
  have h_bl0 := h_bl
  have h_st0 := h_st
  have LP : ∀ (n_ y : Nat) (hc : hp_T) (H : Heap) (locs : List Loc) (ls : Array Slot), y + n_ = b + 1 → a ≤ y → hc = hp_up (hp_up h bl (k_in (cA 0) n (q_sa f a y))) st (k_in (cA 2) n (q_sz true g a y)) → hp_J (gg dC dI cA) A hc s H locs → lv_has ls 5 [(4, .int (nI y)), (3, .int (nI (b + 1))), (2, .int (nI a)), (0, .ref t), (1, .ref mk)] → W p l e ({ frames := 1, cells := 0, slots := 0, locals := 22 }) s m ([.ref t, .ref mk] : List Value).toArray below meth c H locs 0 0 (MQ below (hp_QW (gg dC dI cA) A hp_mv (fun _ h' => h' = hp_up (hp_up h bl (k_in (cA 0) n (q_sa f a (b + 1)))) st (k_in (cA 2) n (q_sx (q_sz true g a (b + 1)) n (b + 1))))) ([.ref t, .ref mk] : List Value).toArray s 0 0 A) (F0 m 32 ls []) := by
    intro n_
    induction n_ with
    | zero =>
      intro y hc H locs ls hu_ hay ehc hJ hl
      have h_st : hc st = some (k_in (cA 2) n (q_sz true g a y)) := by rw [ehc]; exact hp_up_s _ _ _
      have h_bl : hc bl = some (k_in (cA 0) n (q_sa f a y)) := by rw [ehc]; exact hp_up_k ne_bl_st (hp_up_s _ _ _)
      have h_t : hc t = some (k_Pl (nI n) bl st sz nw) := by rw [ehc]; exact hp_up_k (hp_ne h_t0 h_st0 (show ((0, 5) : Nat × Nat) ≠ (1, 0) by decide)) (hp_up_k (hp_ne h_t0 h_bl0 (show ((0, 5) : Nat × Nat) ≠ (1, 0) by decide)) h_t0)
      have h_mk : hc mk = some (k_Mk (some pic) left top part ink so io bel bol) := by rw [ehc]; exact hp_up_k (hp_ne h_mk0 h_st0 (show ((0, 3) : Nat × Nat) ≠ (1, 0) by decide)) (hp_up_k (hp_ne h_mk0 h_bl0 (show ((0, 3) : Nat × Nat) ≠ (1, 0) by decide)) h_mk0)
      refine lv_iload S.1 S.2.1 d_Pl_stir_32 (lv_at hl 0 rfl) ?_
      refine lv_iload_n S.1 S.2.1 d_Pl_stir_34 rfl (lv_at hl 1 rfl) ?_
      obtain ⟨e_n, -⟩ : y = b + 1 ∧ True := ⟨by omega, trivial⟩
      refine lv_icmp_ge (tgt := 73) S.1 S.2.1 d_Pl_stir_35 (by decide) (fun _ => ?_) (fun q => absurd (by rw [e_n]; exact Int32.le_refl _) q)
      refine lv_iconst (v := 0) S.1 S.2.1 d_Pl_stir_73 (by decide) ?_
      refine lv_iload_n S.1 S.2.1 d_Pl_stir_74 rfl (lv_at hl 1 rfl) ?_
      refine lv_aload_n S.1 S.2.1 d_Pl_stir_75 rfl (lv_at hl 3 rfl) ?_
      refine hp_get S zz hJ h_t f_Pl_9 rfl d_Pl_stir_76 ?_
      refine lv_iconst (v := 1) S.1 S.2.1 d_Pl_stir_79 (by decide) ?_
      refine lv_isub S.1 S.2.1 d_Pl_stir_80 ?_
      refine hp_doneR (hp_runN S zz hJ.2.1 (c_BP_isWithin l _ _ _) l_Pl_74 (hp_pre0 _) (by decide) rfl hl.1 rfl (nl rfl) d_Pl_stir_81 (by decide)) ?_
      refine lv_if_eq (tgt := 94) S.1 S.2.1 d_Pl_stir_84 (by decide) (fun c_84 => ?_) (fun c_84 => ?_)
      · exact hp_retWv S hJ hr hlk d_Pl_stir_94 (by decide) (by rw [ehc, e_n]; unfold q_sx; rw [if_neg (fun hbn => q_is_0.mp c_84 ⟨nI_pos' (by omega), by rw [show (1 : Int32) = nI 1 from rfl, pk_sub (by omega)]; exact nI_le (by omega) (by omega)⟩)])
      · refine lv_aload_n S.1 S.2.1 d_Pl_stir_87 rfl (lv_at hl 3 rfl) ?_
        refine hp_get S zz hJ h_t f_Pl_19 rfl d_Pl_stir_88 ?_
        refine lv_iload_n S.1 S.2.1 d_Pl_stir_91 rfl (lv_at hl 1 rfl) ?_
        refine lv_iconst (v := 1) S.1 S.2.1 d_Pl_stir_92 (by decide) ?_
        have hbn : b + 1 < n := by have q := (q_is_ne.mp c_84).2; rw [show (1 : Int32) = nI 1 from rfl, pk_sub (by omega)] at q; have q := (nI_leI (by omega) (by omega)).mp q; omega
        refine hp_zast S hJ 2 h_st rfl (vp_in_nI (by omega) (by omega)) d_Pl_stir_93 (fun H locs hJ => ?_)
        rw [nI_clamp (by omega), z_nar1, ehc, hp_up_up] at hJ
        exact hp_retWv S hJ hr hlk d_Pl_stir_94 (by decide) (by rw [e_n]; unfold q_sx; rw [if_pos hbn])
    | succ n_ ih =>
      intro y hc H locs ls hu_ hay ehc hJ hl
      have h_st : hc st = some (k_in (cA 2) n (q_sz true g a y)) := by rw [ehc]; exact hp_up_s _ _ _
      have h_bl : hc bl = some (k_in (cA 0) n (q_sa f a y)) := by rw [ehc]; exact hp_up_k ne_bl_st (hp_up_s _ _ _)
      have h_t : hc t = some (k_Pl (nI n) bl st sz nw) := by rw [ehc]; exact hp_up_k (hp_ne h_t0 h_st0 (show ((0, 5) : Nat × Nat) ≠ (1, 0) by decide)) (hp_up_k (hp_ne h_t0 h_bl0 (show ((0, 5) : Nat × Nat) ≠ (1, 0) by decide)) h_t0)
      have h_mk : hc mk = some (k_Mk (some pic) left top part ink so io bel bol) := by rw [ehc]; exact hp_up_k (hp_ne h_mk0 h_st0 (show ((0, 3) : Nat × Nat) ≠ (1, 0) by decide)) (hp_up_k (hp_ne h_mk0 h_bl0 (show ((0, 3) : Nat × Nat) ≠ (1, 0) by decide)) h_mk0)
      refine lv_iload S.1 S.2.1 d_Pl_stir_32 (lv_at hl 0 rfl) ?_
      refine lv_iload_n S.1 S.2.1 d_Pl_stir_34 rfl (lv_at hl 1 rfl) ?_
      refine lv_icmp_ge (tgt := 73) S.1 S.2.1 d_Pl_stir_35 (by decide) (fun q => absurd q (nI_ge (a := y) (b := b + 1) (by omega) (by omega))) (fun _ => ?_)
      refine lv_aload_n S.1 S.2.1 d_Pl_stir_38 rfl (lv_at hl 3 rfl) ?_
      refine hp_get S zz hJ h_t f_Pl_15 rfl d_Pl_stir_39 ?_
      refine lv_iload S.1 S.2.1 d_Pl_stir_42 (lv_at hl 0 rfl) ?_
      refine lv_iconst (v := (-1)) S.1 S.2.1 d_Pl_stir_44 (by decide) ?_
      refine hp_iast S hJ 0 h_bl rfl (vp_in_nI (by omega) (by omega)) d_Pl_stir_45 (fun H locs hJ => ?_)
      rw [nI_clamp (by omega), q_sa_s f hay, ehc, hp_up_comm _ _ _ (Ne.symm ne_bl_st), hp_up_up] at hJ
      obtain ⟨hd, ehd⟩ : ∃ z, z = hp_up (hp_up h bl (k_in (cA 0) n (q_sa f a (y + 1)))) st (k_in (cA 2) n (q_sz true g a y)) := ⟨_, rfl⟩
      have hJ := hJ.cast ehd
      have h_st : hd st = some (k_in (cA 2) n (q_sz true g a y)) := by rw [ehd]; exact hp_up_s _ _ _
      have h_t : hd t = some (k_Pl (nI n) bl st sz nw) := by rw [ehd]; exact hp_up_k (hp_ne h_t0 h_st0 (show ((0, 5) : Nat × Nat) ≠ (1, 0) by decide)) (hp_up_k (hp_ne h_t0 h_bl0 (show ((0, 5) : Nat × Nat) ≠ (1, 0) by decide)) h_t0)
      have h_mk : hd mk = some (k_Mk (some pic) left top part ink so io bel bol) := by rw [ehd]; exact hp_up_k (hp_ne h_mk0 h_st0 (show ((0, 3) : Nat × Nat) ≠ (1, 0) by decide)) (hp_up_k (hp_ne h_mk0 h_bl0 (show ((0, 3) : Nat × Nat) ≠ (1, 0) by decide)) h_mk0)
      refine lv_aload_n S.1 S.2.1 d_Pl_stir_46 rfl (lv_at hl 4 rfl) ?_
      refine hp_get S zz hJ h_mk f_Pl_70 rfl d_Pl_stir_47 ?_
      refine lv_ifnonnull (tgt := 59) S.1 S.2.1 d_Pl_stir_50 (by decide) ?_
      refine lv_aload_n S.1 S.2.1 d_Pl_stir_59 rfl (lv_at hl 3 rfl) ?_
      refine hp_get S zz hJ h_t f_Pl_19 rfl d_Pl_stir_60 ?_
      refine lv_iload S.1 S.2.1 d_Pl_stir_63 (lv_at hl 0 rfl) ?_
      refine lv_iconst (v := 1) S.1 S.2.1 d_Pl_stir_65 (by decide) ?_
      refine hp_zast S hJ 2 h_st rfl (vp_in_nI (by omega) (by omega)) d_Pl_stir_66 (fun H locs hJ => ?_)
      rw [nI_clamp (by omega), z_nar1, q_sz_t g hay (Or.inl rfl), ehd, hp_up_up] at hJ
      refine lv_iinc (v := nI (y + 1)) (lv' := [(4, .int (nI (y + 1))), (3, .int (nI (b + 1))), (2, .int (nI a)), (0, .ref t), (1, .ref mk)]) S.1 S.2.1 d_Pl_stir_67 hl (k := 0) rfl (nI_1 _) (by decide) rfl (fun ls hl => ?_)
      refine lv_goto (tgt := 32) S.1 S.2.1 d_Pl_stir_70 (by decide) ?_
      exact ih (y + 1) _ _ _ ls (by omega) (by omega) rfl hJ (lv_sub hl [0, 1, 2, 3, 4] rfl)
  exact LP (b + 1 - a) a _ _ _ ls (by omega) (Nat.le_refl _) (by rw [q_sa_0, q_sz_0, hp_up_same h_bl, hp_up_same h_st]) hJ (lv_sub hl [0, 1, 2, 3, 4] rfl)

