/-! Boxes made; the JDK's floorDiv, floorMod, fill; pictures' words. -/
abbrev k_lo (c : ClassId) (n : Nat) (f : Nat → Int64) : va_E := .inl (c, n, .inr (.inl f))
abbrev k_in (c : ClassId) (n : Nat) (f : Nat → Int32) : va_E := .inl (c, n, .inl f)
abbrev k_rf (c : ClassId) (n : Nat) (f : Nat → Option Nat) : va_E := .inl (c, n, .inr (.inr (.inr (.inr f))))
abbrev k_Pc (w d t wd : Int32) (b : Nat) : va_E := .inr (4, [.int w, .int d, .int t, .int wd, .ref b])

set_option maxHeartbeats 4000000 in
set_option maxRecDepth 100000 in
theorem c_Bx_common (l : Launch) (dC : Nat → ClassId) (dI : Nat → Nat → Nat) (cA : Nat → ClassId) (A : Nat → Prop) (h : hp_T) (t u : Nat) (x0 y0 x1 y1 a0 b0 a1 b1 : Int32) (h_t : h t = some (k_Bx x0 y0 x1 y1)) (h_u : h u = some (k_Bx a0 b0 a1 b1)) : Met l y_Bx_common (.code y_Bx_common prog_2_method_2_code 2 (some (.object "BandPainter$Box")) :: BIG) ({ frames := 2, cells := 1, slots := 4, locals := 44 }) (va_Pc [.ref t, .ref u] (hp_I (gg dC dI cA) A h)) (hp_QW (gg dC dI cA) A hp_mr (fun q h' => h q = none ∧ h' = hp_up h q (k_Bx (q_max x0 a0) (q_max y0 b0) (q_min x1 a1) (q_min y1 b1)))) 1 4 A := by
  refine hp_enter (by decide) (Nat.le_of_ble_eq_true rfl) ?_
  intro p e s m below meth c ls S hr hlk hin hI hl
  have hl : lv_has ls 2 [(0, .ref t), (1, .ref u)] := hl
  have hJ := hI.J
  refine hp_new S zz hJ (ci := 1) rfl n_Bx_10 e0_Bx_ok (by decide) (by decide) d_Bx_common_0 (fun q H hq_q hs_q hJ => ?_)
  have ne_t_q : t ≠ q := hp_neN h_t hq_q
  have ne_u_q : u ≠ q := hp_neN h_u hq_q
  obtain ⟨h1, eh1⟩ : ∃ z, z = hp_up h q (.inr (1, [.int 0, .int 0, .int 0, .int 0])) := ⟨_, rfl⟩
  have hJ := hJ.cast eh1
  have h_t : h1 t = some (.inr (1, [.int x0, .int y0, .int x1, .int y1])) := by rw [eh1]; exact hp_up_k (hp_neN h_t hq_q) h_t
  have h_u : h1 u = some (.inr (1, [.int a0, .int b0, .int a1, .int b1])) := by rw [eh1]; exact hp_up_k (hp_neN h_u hq_q) h_u
  have h_q : h1 q = some (.inr (1, [.int 0, .int 0, .int 0, .int 0])) := by rw [eh1]; exact hp_up_s _ _ _
  refine lv_dup S.1 S.2.1 d_Bx_common_3 rfl ?_
  refine lv_aload_n S.1 S.2.1 d_Bx_common_4 rfl (lv_at hl 0 rfl) ?_
  refine hp_get S zz hJ h_t f_Bx_9 rfl d_Bx_common_5 ?_
  refine lv_aload_n S.1 S.2.1 d_Bx_common_8 rfl (lv_at hl 1 rfl) ?_
  refine hp_get S zz hJ h_u f_Bx_9 rfl d_Bx_common_9 ?_
  refine hp_max S l_Bx_24 hl.1 d_Bx_common_12 ⟨nl rfl, nl rfl, nl rfl, nl rfl⟩ ?_
  refine lv_aload_n S.1 S.2.1 d_Bx_common_15 rfl (lv_at hl 0 rfl) ?_
  refine hp_get S zz hJ h_t f_Bx_15 rfl d_Bx_common_16 ?_
  refine lv_aload_n S.1 S.2.1 d_Bx_common_19 rfl (lv_at hl 1 rfl) ?_
  refine hp_get S zz hJ h_u f_Bx_15 rfl d_Bx_common_20 ?_
  refine hp_max S l_Bx_24 hl.1 d_Bx_common_23 ⟨nl rfl, nl rfl, nl rfl, nl rfl⟩ ?_
  refine lv_aload_n S.1 S.2.1 d_Bx_common_26 rfl (lv_at hl 0 rfl) ?_
  refine hp_get S zz hJ h_t f_Bx_18 rfl d_Bx_common_27 ?_
  refine lv_aload_n S.1 S.2.1 d_Bx_common_30 rfl (lv_at hl 1 rfl) ?_
  refine hp_get S zz hJ h_u f_Bx_18 rfl d_Bx_common_31 ?_
  refine hp_min S l_Bx_30 hl.1 d_Bx_common_34 ⟨nl rfl, nl rfl, nl rfl, nl rfl⟩ ?_
  refine lv_aload_n S.1 S.2.1 d_Bx_common_37 rfl (lv_at hl 0 rfl) ?_
  refine hp_get S zz hJ h_t f_Bx_21 rfl d_Bx_common_38 ?_
  refine lv_aload_n S.1 S.2.1 d_Bx_common_41 rfl (lv_at hl 1 rfl) ?_
  refine hp_get S zz hJ h_u f_Bx_21 rfl d_Bx_common_42 ?_
  refine hp_min S l_Bx_30 hl.1 d_Bx_common_45 ⟨nl rfl, nl rfl, nl rfl, nl rfl⟩ ?_
  refine hp_doneWv hJ (hp_runI S zz0 (c_Bx_init l dC dI cA A _ _ _ _ _ _ _ _ _ _ h_q) l_Bx_33 (hJ.pre _) (by decide) rfl hl.1 rfl (nl rfl) d_Bx_common_48 (by decide)) (fun h2 H locs eh2 hJ => ?_)
  have h0_q := h_q
  have h_t : h2 t = some (.inr (1, [.int x0, .int y0, .int x1, .int y1])) := by rw [eh2]; exact hp_up_k (ne_t_q) h_t
  have h_u : h2 u = some (.inr (1, [.int a0, .int b0, .int a1, .int b1])) := by rw [eh2]; exact hp_up_k (ne_u_q) h_u
  have h_q : h2 q = some (.inr (1, [.int (q_max x0 a0), .int (q_max y0 b0), .int (q_min x1 a1), .int (q_min y1 b1)])) := by rw [eh2]; exact hp_up_s _ _ _
  exact hp_retWr S hJ hr hlk d_Bx_common_51 (by decide) ⟨hq_q, by rw [eh2, eh1, hp_up_up]; rfl⟩

def q_fdiv (x y : Int32) : Int32 := if 0 ≤ x ^^^ y then x / y else if x / y * y = x then x / y else x / y - 1
def q_fmod (x y : Int32) : Int32 := if 0 ≤ x ^^^ y then x - x / y * y else if x - x / y * y = 0 then x - x / y * y else x - x / y * y + y
set_option maxHeartbeats 4000000 in
set_option maxRecDepth 100000 in
theorem c_JM_floorDiv (l : Launch) (x y : Int32) (hy : ¬ y = 0) : Met l y_JM_floorDiv (.code y_JM_floorDiv prog_15_method_47_code 3 (some .int) :: BIG) ({ frames := 0, cells := 0, slots := 0, locals := 0 }) (va_Pc [.int x, .int y] (fun _ => True)) (hp_QR (some (.int (q_fdiv x y)))) 0 0 (fun _ => False) := by
  refine hp_enterF (by decide +kernel) (Nat.le_of_ble_eq_true rfl) ?_
  intro p e s m below meth c ls S hr hlk hin hI hl
  have hl : lv_has ls 3 [(0, .int x), (1, .int y)] := hl
  refine lv_iload_n S.1 S.2.1 d_JM_floorDiv_0 rfl (lv_at hl 0 rfl) ?_
  refine lv_iload_n S.1 S.2.1 d_JM_floorDiv_1 rfl (lv_at hl 1 rfl) ?_
  refine lv_idiv S.1 S.2.1 d_JM_floorDiv_2 hy ?_
  refine lv_istore_n (lv' := [(2, .int (x / y)), (0, .int x), (1, .int y)]) S.1 S.2.1 d_JM_floorDiv_3 rfl hl (by decide) rfl (fun ls hl => ?_)
  refine lv_iload_n S.1 S.2.1 d_JM_floorDiv_4 rfl (lv_at hl 1 rfl) ?_
  refine lv_iload_n S.1 S.2.1 d_JM_floorDiv_5 rfl (lv_at hl 2 rfl) ?_
  refine lv_ixor S.1 S.2.1 d_JM_floorDiv_6 ?_
  refine lv_if_ge (tgt := 21) S.1 S.2.1 d_JM_floorDiv_7 (by decide) (fun c_7 => ?_) (fun c_7 => ?_)
  · refine lv_iload_n S.1 S.2.1 d_JM_floorDiv_21 rfl (lv_at hl 0 rfl) ?_
    exact hp_retRi S hr hlk d_JM_floorDiv_22 (by unfold q_fdiv; rw [if_pos c_7])
  · refine lv_iload_n S.1 S.2.1 d_JM_floorDiv_10 rfl (lv_at hl 0 rfl) ?_
    refine lv_iload_n S.1 S.2.1 d_JM_floorDiv_11 rfl (lv_at hl 2 rfl) ?_
    refine lv_imul S.1 S.2.1 d_JM_floorDiv_12 ?_
    refine lv_iload_n S.1 S.2.1 d_JM_floorDiv_13 rfl (lv_at hl 1 rfl) ?_
    refine lv_icmp_eq (tgt := 21) S.1 S.2.1 d_JM_floorDiv_14 (by decide) (fun c_14 => ?_) (fun c_14 => ?_)
    · refine lv_iload_n S.1 S.2.1 d_JM_floorDiv_21 rfl (lv_at hl 0 rfl) ?_
      exact hp_retRi S hr hlk d_JM_floorDiv_22 (by unfold q_fdiv; rw [if_neg c_7, if_pos c_14])
    · refine lv_iload_n S.1 S.2.1 d_JM_floorDiv_17 rfl (lv_at hl 0 rfl) ?_
      refine lv_iconst (v := 1) S.1 S.2.1 d_JM_floorDiv_18 (by decide) ?_
      refine lv_isub S.1 S.2.1 d_JM_floorDiv_19 ?_
      exact hp_retRi S hr hlk d_JM_floorDiv_20 (by unfold q_fdiv; rw [if_neg c_7, if_neg c_14])

set_option maxHeartbeats 4000000 in
set_option maxRecDepth 100000 in
theorem c_JM_floorMod (l : Launch) (x y : Int32) (hy : ¬ y = 0) : Met l y_JM_floorMod (.code y_JM_floorMod prog_15_method_50_code 3 (some .int) :: BIG) ({ frames := 0, cells := 0, slots := 0, locals := 0 }) (va_Pc [.int x, .int y] (fun _ => True)) (hp_QR (some (.int (q_fmod x y)))) 0 0 (fun _ => False) := by
  refine hp_enterF (by decide +kernel) (Nat.le_of_ble_eq_true rfl) ?_
  intro p e s m below meth c ls S hr hlk hin hI hl
  have hl : lv_has ls 3 [(0, .int x), (1, .int y)] := hl
  refine lv_iload_n S.1 S.2.1 d_JM_floorMod_0 rfl (lv_at hl 0 rfl) ?_
  refine lv_iload_n S.1 S.2.1 d_JM_floorMod_1 rfl (lv_at hl 1 rfl) ?_
  refine lv_irem S.1 S.2.1 d_JM_floorMod_2 hy ?_
  refine lv_istore_n (lv' := [(2, .int (x - x / y * y)), (0, .int x), (1, .int y)]) S.1 S.2.1 d_JM_floorMod_3 rfl hl (by decide) rfl (fun ls hl => ?_)
  refine lv_iload_n S.1 S.2.1 d_JM_floorMod_4 rfl (lv_at hl 1 rfl) ?_
  refine lv_iload_n S.1 S.2.1 d_JM_floorMod_5 rfl (lv_at hl 2 rfl) ?_
  refine lv_ixor S.1 S.2.1 d_JM_floorMod_6 ?_
  refine lv_if_ge (tgt := 18) S.1 S.2.1 d_JM_floorMod_7 (by decide) (fun c_7 => ?_) (fun c_7 => ?_)
  · refine lv_iload_n S.1 S.2.1 d_JM_floorMod_18 rfl (lv_at hl 0 rfl) ?_
    exact hp_retRi S hr hlk d_JM_floorMod_19 (by unfold q_fmod; rw [if_pos c_7])
  · refine lv_iload_n S.1 S.2.1 d_JM_floorMod_10 rfl (lv_at hl 0 rfl) ?_
    refine lv_if_eq (tgt := 18) S.1 S.2.1 d_JM_floorMod_11 (by decide) (fun c_11 => ?_) (fun c_11 => ?_)
    · refine lv_iload_n S.1 S.2.1 d_JM_floorMod_18 rfl (lv_at hl 0 rfl) ?_
      exact hp_retRi S hr hlk d_JM_floorMod_19 (by unfold q_fmod; rw [if_neg c_7, if_pos c_11])
    · refine lv_iload_n S.1 S.2.1 d_JM_floorMod_14 rfl (lv_at hl 0 rfl) ?_
      refine lv_iload_n S.1 S.2.1 d_JM_floorMod_15 rfl (lv_at hl 2 rfl) ?_
      refine lv_iadd S.1 S.2.1 d_JM_floorMod_16 ?_
      exact hp_retRi S hr hlk d_JM_floorMod_17 (by unfold q_fmod; rw [if_neg c_7, if_neg c_11])

set_option maxHeartbeats 4000000 in
set_option maxRecDepth 100000 in
theorem c_Pc_hasWord (l : Launch) (dC : Nat → ClassId) (dI : Nat → Nat → Nat) (cA : Nat → ClassId) (A : Nat → Prop) (h : hp_T) (t b : Nat) (w d tl wd j k : Int32) (h_t : h t = some (k_Pc w d tl wd b)) : Met l y_Pc_hasWord (.code y_Pc_hasWord prog_5_method_12_code 3 (some .boolean) :: BIG) ({ frames := 0, cells := 0, slots := 0, locals := 0 }) (va_Pc [.ref t, .int j, .int k] (hp_I (gg dC dI cA) A h)) (hp_QR (some (.int (q_is (0 ≤ j ∧ j < d ∧ 0 ≤ k ∧ k < wd))))) 0 0 (fun _ => False) := by
  refine hp_enter (by decide) (Nat.le_of_ble_eq_true rfl) ?_
  intro p e s m below meth c ls S hr hlk hin hI hl
  have hl : lv_has ls 3 [(0, .ref t), (1, .int j), (2, .int k)] := hl
  have hJ := hI.J
  refine lv_iconst (v := 0) S.1 S.2.1 d_Pc_hasWord_0 (by decide) ?_
  refine lv_iload_n S.1 S.2.1 d_Pc_hasWord_1 rfl (lv_at hl 1 rfl) ?_
  refine lv_icmp_gt (tgt := 30) S.1 S.2.1 d_Pc_hasWord_2 (by decide) (fun c_2 => ?_) (fun c_2 => ?_)
  · refine lv_iconst (v := 0) S.1 S.2.1 d_Pc_hasWord_30 (by decide) ?_
    exact hp_retRz S hr hlk d_Pc_hasWord_31 (by decide) (q_is_f (by simp only [z_lt, z_le, z_eq, z_0] at c_2 ⊢; omega))
  · refine lv_iload_n S.1 S.2.1 d_Pc_hasWord_5 rfl (lv_at hl 1 rfl) ?_
    refine lv_aload_n S.1 S.2.1 d_Pc_hasWord_6 rfl (lv_at hl 0 rfl) ?_
    refine hp_get S zz hJ h_t f_Pc_21 rfl d_Pc_hasWord_7 ?_
    refine lv_icmp_ge (tgt := 30) S.1 S.2.1 d_Pc_hasWord_10 (by decide) (fun c_10 => ?_) (fun c_10 => ?_)
    · refine lv_iconst (v := 0) S.1 S.2.1 d_Pc_hasWord_30 (by decide) ?_
      exact hp_retRz S hr hlk d_Pc_hasWord_31 (by decide) (q_is_f (by simp only [z_lt, z_le, z_eq, z_0] at c_2 c_10 ⊢; omega))
    · refine lv_iconst (v := 0) S.1 S.2.1 d_Pc_hasWord_13 (by decide) ?_
      refine lv_iload_n S.1 S.2.1 d_Pc_hasWord_14 rfl (lv_at hl 2 rfl) ?_
      refine lv_icmp_gt (tgt := 30) S.1 S.2.1 d_Pc_hasWord_15 (by decide) (fun c_15 => ?_) (fun c_15 => ?_)
      · refine lv_iconst (v := 0) S.1 S.2.1 d_Pc_hasWord_30 (by decide) ?_
        exact hp_retRz S hr hlk d_Pc_hasWord_31 (by decide) (q_is_f (by simp only [z_lt, z_le, z_eq, z_0] at c_2 c_10 c_15 ⊢; omega))
      · refine lv_iload_n S.1 S.2.1 d_Pc_hasWord_18 rfl (lv_at hl 2 rfl) ?_
        refine lv_aload_n S.1 S.2.1 d_Pc_hasWord_19 rfl (lv_at hl 0 rfl) ?_
        refine hp_get S zz hJ h_t f_Pc_27 rfl d_Pc_hasWord_20 ?_
        refine lv_icmp_ge (tgt := 30) S.1 S.2.1 d_Pc_hasWord_23 (by decide) (fun c_23 => ?_) (fun c_23 => ?_)
        · refine lv_iconst (v := 0) S.1 S.2.1 d_Pc_hasWord_30 (by decide) ?_
          exact hp_retRz S hr hlk d_Pc_hasWord_31 (by decide) (q_is_f (by simp only [z_lt, z_le, z_eq, z_0] at c_2 c_10 c_15 c_23 ⊢; omega))
        · refine lv_iconst (v := 1) S.1 S.2.1 d_Pc_hasWord_26 (by decide) ?_
          refine lv_goto (tgt := 31) S.1 S.2.1 d_Pc_hasWord_27 (by decide) ?_
          exact hp_retRz S hr hlk d_Pc_hasWord_31 (by decide) (q_is_t (by simp only [z_lt, z_le, z_eq, z_0] at c_2 c_10 c_15 c_23 ⊢; omega))

def q_wa (d wd : Int32) (f : Nat → Int64) (j k : Int32) : Int64 := if 0 ≤ j ∧ j < d ∧ 0 ≤ k ∧ k < wd then f (j * wd + k).toNatClampNeg else 0
def q_sw (d wd : Int32) (f : Nat → Int64) (j k : Int32) (x : Int64) : Nat → Int64 := if 0 ≤ j ∧ j < d ∧ 0 ≤ k ∧ k < wd then vp_updL f (j * wd + k).toNatClampNeg x else f
set_option maxHeartbeats 4000000 in
set_option maxRecDepth 100000 in
theorem c_Pc_wordAt (l : Launch) (dC : Nat → ClassId) (dI : Nat → Nat → Nat) (cA : Nat → ClassId) (A : Nat → Prop) (h : hp_T) (t b : Nat) (w d tl wd : Int32) (n : Nat) (f : Nat → Int64) (j k : Int32) (h_t : h t = some (k_Pc w d tl wd b)) (h_b : h b = some (k_lo (cA 1) n f)) (hix : ∀ j k : Int32, 0 ≤ j ∧ j < d ∧ 0 ≤ k ∧ k < wd → vp_in (j * wd + k) n) : Met l y_Pc_wordAt (.code y_Pc_wordAt prog_5_method_10_code 3 (some .long) :: BIG) ({ frames := 1, cells := 0, slots := 0, locals := 22 }) (va_Pc [.ref t, .int j, .int k] (hp_I (gg dC dI cA) A h)) (hp_QR (some (.long (q_wa d wd f j k)))) 0 0 (fun _ => False) := by
  refine hp_enter (by decide) (Nat.le_of_ble_eq_true rfl) ?_
  intro p e s m below meth c ls S hr hlk hin hI hl
  have hl : lv_has ls 3 [(0, .ref t), (1, .int j), (2, .int k)] := hl
  have hJ := hI.J
  refine lv_aload_n S.1 S.2.1 d_Pc_wordAt_0 rfl (lv_at hl 0 rfl) ?_
  refine lv_iload_n S.1 S.2.1 d_Pc_wordAt_1 rfl (lv_at hl 1 rfl) ?_
  refine lv_iload_n S.1 S.2.1 d_Pc_wordAt_2 rfl (lv_at hl 2 rfl) ?_
  refine hp_doneR (hp_runV S zz0 (c_Pc_hasWord l dC dI cA A h t b w d tl wd j k h_t) l_Pc_74 (hJ.preV _ h_t rfl) (by decide) rfl hl.1 rfl (nl rfl) d_Pc_wordAt_3 (by decide)) ?_
  refine lv_if_eq (tgt := 25) S.1 S.2.1 d_Pc_wordAt_6 (by decide) (fun c_6 => ?_) (fun c_6 => ?_)
  · refine lv_lconst (v := 0) S.1 S.2.1 d_Pc_wordAt_25 (by decide) ?_
    exact hp_retRl S hr hlk d_Pc_wordAt_26 (if_neg (q_is_0.mp c_6)).symm
  · refine lv_aload_n S.1 S.2.1 d_Pc_wordAt_9 rfl (lv_at hl 0 rfl) ?_
    refine hp_get S zz hJ h_t f_Pc_30 rfl d_Pc_wordAt_10 ?_
    refine lv_iload_n S.1 S.2.1 d_Pc_wordAt_13 rfl (lv_at hl 1 rfl) ?_
    refine lv_aload_n S.1 S.2.1 d_Pc_wordAt_14 rfl (lv_at hl 0 rfl) ?_
    refine hp_get S zz hJ h_t f_Pc_27 rfl d_Pc_wordAt_15 ?_
    refine lv_imul S.1 S.2.1 d_Pc_wordAt_18 ?_
    refine lv_iload_n S.1 S.2.1 d_Pc_wordAt_19 rfl (lv_at hl 2 rfl) ?_
    refine lv_iadd S.1 S.2.1 d_Pc_wordAt_20 ?_
    refine hp_lald S hJ 1 h_b rfl (hix j k (q_is_ne.mp c_6)) d_Pc_wordAt_21 ?_
    refine lv_goto (tgt := 26) S.1 S.2.1 d_Pc_wordAt_22 (by decide) ?_
    exact hp_retRl S hr hlk d_Pc_wordAt_26 (if_pos (q_is_ne.mp c_6)).symm

set_option maxHeartbeats 4000000 in
set_option maxRecDepth 100000 in
theorem c_Pc_setWord (l : Launch) (dC : Nat → ClassId) (dI : Nat → Nat → Nat) (cA : Nat → ClassId) (A : Nat → Prop) (h : hp_T) (t b : Nat) (w d tl wd : Int32) (n : Nat) (f : Nat → Int64) (j k : Int32) (x : Int64) (h_t : h t = some (k_Pc w d tl wd b)) (h_b : h b = some (k_lo (cA 1) n f)) (hix : ∀ j k : Int32, 0 ≤ j ∧ j < d ∧ 0 ≤ k ∧ k < wd → vp_in (j * wd + k) n) : Met l y_Pc_setWord (.code y_Pc_setWord prog_5_method_11_code 5 none :: BIG) ({ frames := 1, cells := 0, slots := 0, locals := 22 }) (va_Pc [.ref t, .int j, .int k, .long x] (hp_I (gg dC dI cA) A h)) (hp_QW (gg dC dI cA) A hp_mv (fun _ h' => h' = hp_up h b (k_lo (cA 1) n (q_sw d wd f j k x)))) 0 0 A := by
  refine hp_enter (by decide) (Nat.le_of_ble_eq_true rfl) ?_
  intro p e s m below meth c ls S hr hlk hin hI hl
  have hl : lv_has ls 5 [(0, .ref t), (1, .int j), (2, .int k), (3, .long x)] := hl
  have hJ := hI.J
  refine lv_aload_n S.1 S.2.1 d_Pc_setWord_0 rfl (lv_at hl 0 rfl) ?_
  refine lv_iload_n S.1 S.2.1 d_Pc_setWord_1 rfl (lv_at hl 1 rfl) ?_
  refine lv_iload_n S.1 S.2.1 d_Pc_setWord_2 rfl (lv_at hl 2 rfl) ?_
  refine hp_doneR (hp_runV S zz0 (c_Pc_hasWord l dC dI cA A h t b w d tl wd j k h_t) l_Pc_74 (hJ.preV _ h_t rfl) (by decide) rfl hl.1 rfl (nl rfl) d_Pc_setWord_3 (by decide)) ?_
  refine lv_if_eq (tgt := 23) S.1 S.2.1 d_Pc_setWord_6 (by decide) (fun c_6 => ?_) (fun c_6 => ?_)
  · exact hp_retWv S hJ hr hlk d_Pc_setWord_23 (by decide) (by unfold q_sw; rw [if_neg (q_is_0.mp c_6), hp_up_same h_b])
  · refine lv_aload_n S.1 S.2.1 d_Pc_setWord_9 rfl (lv_at hl 0 rfl) ?_
    refine hp_get S zz hJ h_t f_Pc_30 rfl d_Pc_setWord_10 ?_
    refine lv_iload_n S.1 S.2.1 d_Pc_setWord_13 rfl (lv_at hl 1 rfl) ?_
    refine lv_aload_n S.1 S.2.1 d_Pc_setWord_14 rfl (lv_at hl 0 rfl) ?_
    refine hp_get S zz hJ h_t f_Pc_27 rfl d_Pc_setWord_15 ?_
    refine lv_imul S.1 S.2.1 d_Pc_setWord_18 ?_
    refine lv_iload_n S.1 S.2.1 d_Pc_setWord_19 rfl (lv_at hl 2 rfl) ?_
    refine lv_iadd S.1 S.2.1 d_Pc_setWord_20 ?_
    refine lv_lload_n S.1 S.2.1 d_Pc_setWord_21 rfl (lv_at hl 3 rfl) ?_
    refine hp_last S hJ 1 h_b rfl (hix j k (q_is_ne.mp c_6)) d_Pc_setWord_22 (fun H locs hJ => ?_)
    obtain ⟨h1, eh1⟩ : ∃ z, z = hp_up h b (k_lo (cA 1) n (vp_updL f (j * wd + k).toNatClampNeg x)) := ⟨_, rfl⟩
    have hJ := hJ.cast eh1
    have h0_b := h_b
    have h_t : h1 t = some (.inr (4, [.int w, .int d, .int tl, .int wd, .ref b])) := by rw [eh1]; exact hp_up_k (hp_ne h_t h0_b (show ((0, 4) : Nat × Nat) ≠ (2, 0) by decide)) h_t
    have h_b : h1 b = some (k_lo (cA 1) n (vp_updL f (j * wd + k).toNatClampNeg x)) := by rw [eh1]; exact hp_up_s _ _ _
    exact hp_retWv S hJ hr hlk d_Pc_setWord_23 (by decide) (by unfold q_sw; rw [if_pos (q_is_ne.mp c_6), eh1])

