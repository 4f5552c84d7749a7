/-! The reference's leaves. mf: its whole numbers by their places; sh ac dn fr sp dt: its arrays. -/
abbrev k_Mo (mf : Nat → Int32) (sh ac dn fr sp dt : Nat) : va_E := .inr (7, [.int (mf 0), .int (mf 1), .int (mf 2), .int (mf 3), .ref sh, .int (mf 5), .ref ac, .ref dn, .ref fr, .ref sp, .int (mf 10), .ref dt, .int (mf 12), .int (mf 13), .int (mf 14), .int (mf 15), .int (mf 16), .int (mf 17), .int (mf 18), .int (mf 19), .int (mf 20), .int (mf 21), .int (mf 22)])
def q_tb (i j b s : Int32) : Int32 := s + ((if (i >>> (b &&& 31) &&& 1) = (j >>> (b &&& 31) &&& 1) then 0 else (32 : Int32) >>> (2 * b &&& 31)) + (j >>> (b &&& 31) &&& 1) * ((16 : Int32) >>> (2 * b &&& 31)))
def q_th (i j : Int32) : Int32 := q_tb i j 2 (q_tb i j 1 (q_tb i j 0 0))
abbrev q_hm (k u v : Int32) : Prop := (k = 1 ∧ q_ly v) ∨ (k = 2 ∧ q_ly u) ∨ (k = 3 ∧ q_ri u v) ∨ (k = 4 ∧ q_fa u v) ∨ (k = 5 ∧ (q_ly v ∨ q_ly u)) ∨ ((¬ k = 1 ∧ ¬ k = 2 ∧ ¬ k = 3 ∧ ¬ k = 4 ∧ ¬ k = 5) ∧ (q_ri u v ∨ q_fa u v))
def q_r16 (x : Int32) : Int32 := x - x / 16 * 16
def q_r8 (x : Int32) : Int32 := x - x / 8 * 8
abbrev q_ik (kd val x y : Int32) : Prop := (kd < 2 ∧ kd = 0) ∨ (¬ kd < 2 ∧ kd = 2 ∧ q_th (q_r8 x) (q_r8 y) < (64 * val + 99) / 100) ∨ (¬ kd < 2 ∧ ¬ kd = 2 ∧ q_hm val (q_r16 x) (q_r16 y))

set_option maxHeartbeats 4000000 in
set_option maxRecDepth 100000 in
theorem c_Mo_isIn (l : Launch) (dC : Nat → ClassId) (dI : Nat → Nat → Nat) (cA : Nat → ClassId) (A : Nat → Prop) (h : hp_T) (t sh ac dn fr sp dt : Nat) (mf : Nat → Int32) (x y : Int32) (h_t : h t = some (k_Mo mf sh ac dn fr sp dt)) : Met l y_Mo_isIn (.code y_Mo_isIn prog_9_method_3_code 3 (some .boolean) :: BIG) ({ frames := 0, cells := 0, slots := 0, locals := 0 }) (va_Pc [.ref t, .int x, .int y] (hp_I (gg dC dI cA) A h)) (hp_QR (some (.int (q_is (0 ≤ x ∧ x < mf 1 ∧ 0 ≤ y ∧ y < mf 2))))) 0 0 (fun _ => False) := by
  refine hp_enter (by decide) (Nat.le_of_ble_eq_true rfl) ?_
  intro p e s m below meth c ls S hr hlk hin hI hl
  have hl : lv_has ls 3 [(0, .ref t), (1, .int x), (2, .int y)] := hl
  have hJ := hI.J
  refine lv_iload_n S.1 S.2.1 d_Mo_isIn_0 rfl (lv_at hl 1 rfl) ?_
  refine lv_if_lt (tgt := 28) S.1 S.2.1 d_Mo_isIn_1 (by decide) (fun c_1 => ?_) (fun c_1 => ?_)
  · refine lv_iconst (v := 0) S.1 S.2.1 d_Mo_isIn_28 (by decide) ?_
    exact hp_retRz S hr hlk d_Mo_isIn_29 (by decide) (q_is_f (by simp only [z_lt, z_le, z_eq, z_0] at c_1 ⊢; omega))
  · refine lv_iload_n S.1 S.2.1 d_Mo_isIn_4 rfl (lv_at hl 1 rfl) ?_
    refine lv_aload_n S.1 S.2.1 d_Mo_isIn_5 rfl (lv_at hl 0 rfl) ?_
    refine hp_get S zz hJ h_t f_Mo_27 rfl d_Mo_isIn_6 ?_
    refine lv_icmp_ge (tgt := 28) S.1 S.2.1 d_Mo_isIn_9 (by decide) (fun c_9 => ?_) (fun c_9 => ?_)
    · refine lv_iconst (v := 0) S.1 S.2.1 d_Mo_isIn_28 (by decide) ?_
      exact hp_retRz S hr hlk d_Mo_isIn_29 (by decide) (q_is_f (by simp only [z_lt, z_le, z_eq, z_0] at c_1 c_9 ⊢; omega))
    · refine lv_iload_n S.1 S.2.1 d_Mo_isIn_12 rfl (lv_at hl 2 rfl) ?_
      refine lv_if_lt (tgt := 28) S.1 S.2.1 d_Mo_isIn_13 (by decide) (fun c_13 => ?_) (fun c_13 => ?_)
      · refine lv_iconst (v := 0) S.1 S.2.1 d_Mo_isIn_28 (by decide) ?_
        exact hp_retRz S hr hlk d_Mo_isIn_29 (by decide) (q_is_f (by simp only [z_lt, z_le, z_eq, z_0] at c_1 c_9 c_13 ⊢; omega))
      · refine lv_iload_n S.1 S.2.1 d_Mo_isIn_16 rfl (lv_at hl 2 rfl) ?_
        refine lv_aload_n S.1 S.2.1 d_Mo_isIn_17 rfl (lv_at hl 0 rfl) ?_
        refine hp_get S zz hJ h_t f_Mo_31 rfl d_Mo_isIn_18 ?_
        refine lv_icmp_ge (tgt := 28) S.1 S.2.1 d_Mo_isIn_21 (by decide) (fun c_21 => ?_) (fun c_21 => ?_)
        · refine lv_iconst (v := 0) S.1 S.2.1 d_Mo_isIn_28 (by decide) ?_
          exact hp_retRz S hr hlk d_Mo_isIn_29 (by decide) (q_is_f (by simp only [z_lt, z_le, z_eq, z_0] at c_1 c_9 c_13 c_21 ⊢; omega))
        · refine lv_iconst (v := 1) S.1 S.2.1 d_Mo_isIn_24 (by decide) ?_
          refine lv_goto (tgt := 29) S.1 S.2.1 d_Mo_isIn_25 (by decide) ?_
          exact hp_retRz S hr hlk d_Mo_isIn_29 (by decide) (q_is_t (by simp only [z_lt, z_le, z_eq, z_0] at c_1 c_9 c_13 c_21 ⊢; omega))

set_option maxHeartbeats 4000000 in
set_option maxRecDepth 100000 in
theorem c_Mo_isShape (l : Launch) (dC : Nat → ClassId) (dI : Nat → Nat → Nat) (cA : Nat → ClassId) (A : Nat → Prop) (h : hp_T) (t sh ac dn fr sp dt : Nat) (mf : Nat → Int32) (x : Int32) (h_t : h t = some (k_Mo mf sh ac dn fr sp dt)) : Met l y_Mo_isShape (.code y_Mo_isShape prog_9_method_12_code 2 (some .boolean) :: BIG) ({ frames := 0, cells := 0, slots := 0, locals := 0 }) (va_Pc [.ref t, .int x] (hp_I (gg dC dI cA) A h)) (hp_QR (some (.int (q_is (0 ≤ x ∧ x < mf 5))))) 0 0 (fun _ => False) := by
  refine hp_enter (by decide) (Nat.le_of_ble_eq_true rfl) ?_
  intro p e s m below meth c ls S hr hlk hin hI hl
  have hl : lv_has ls 2 [(0, .ref t), (1, .int x)] := hl
  have hJ := hI.J
  refine lv_iload_n S.1 S.2.1 d_Mo_isShape_0 rfl (lv_at hl 1 rfl) ?_
  refine lv_if_lt (tgt := 16) S.1 S.2.1 d_Mo_isShape_1 (by decide) (fun c_1 => ?_) (fun c_1 => ?_)
  · refine lv_iconst (v := 0) S.1 S.2.1 d_Mo_isShape_16 (by decide) ?_
    exact hp_retRz S hr hlk d_Mo_isShape_17 (by decide) (q_is_f (by simp only [z_lt, z_le, z_eq, z_0] at c_1 ⊢; omega))
  · refine lv_iload_n S.1 S.2.1 d_Mo_isShape_4 rfl (lv_at hl 1 rfl) ?_
    refine lv_aload_n S.1 S.2.1 d_Mo_isShape_5 rfl (lv_at hl 0 rfl) ?_
    refine hp_get S zz hJ h_t f_Mo_95 rfl d_Mo_isShape_6 ?_
    refine lv_icmp_ge (tgt := 16) S.1 S.2.1 d_Mo_isShape_9 (by decide) (fun c_9 => ?_) (fun c_9 => ?_)
    · refine lv_iconst (v := 0) S.1 S.2.1 d_Mo_isShape_16 (by decide) ?_
      exact hp_retRz S hr hlk d_Mo_isShape_17 (by decide) (q_is_f (by simp only [z_lt, z_le, z_eq, z_0] at c_1 c_9 ⊢; omega))
    · refine lv_iconst (v := 1) S.1 S.2.1 d_Mo_isShape_12 (by decide) ?_
      refine lv_goto (tgt := 17) S.1 S.2.1 d_Mo_isShape_13 (by decide) ?_
      exact hp_retRz S hr hlk d_Mo_isShape_17 (by decide) (q_is_t (by simp only [z_lt, z_le, z_eq, z_0] at c_1 c_9 ⊢; omega))

set_option maxHeartbeats 4000000 in
set_option maxRecDepth 100000 in
theorem c_Mo_isPlace (l : Launch) (x : Int32)  : Met l y_Mo_isPlace (.code y_Mo_isPlace prog_9_method_20_code 1 (some .boolean) :: BIG) ({ frames := 0, cells := 0, slots := 0, locals := 0 }) (va_Pc [.int x] (fun _ => True)) (hp_QR (some (.int (q_is (-10000 ≤ x ∧ x ≤ 10000))))) 0 0 (fun _ => False) := by
  refine hp_enter (by decide) (Nat.le_of_ble_eq_true rfl) ?_
  intro p e s m below meth c ls S hr hlk hin hI hl
  have hl : lv_has ls 1 [(0, .int x)] := hl
  refine lv_iload_n S.1 S.2.1 d_Mo_isPlace_0 rfl (lv_at hl 0 rfl) ?_
  refine lv_sipush (v := (-10000)) S.1 S.2.1 d_Mo_isPlace_1 (by decide) ?_
  refine lv_icmp_lt (tgt := 18) S.1 S.2.1 d_Mo_isPlace_4 (by decide) (fun c_4 => ?_) (fun c_4 => ?_)
  · refine lv_iconst (v := 0) S.1 S.2.1 d_Mo_isPlace_18 (by decide) ?_
    exact hp_retRz S hr hlk d_Mo_isPlace_19 (by decide) (q_is_f (by simp only [z_lt, z_le, z_eq, z_0] at c_4 ⊢; omega))
  · refine lv_iload_n S.1 S.2.1 d_Mo_isPlace_7 rfl (lv_at hl 0 rfl) ?_
    refine lv_sipush (v := 10000) S.1 S.2.1 d_Mo_isPlace_8 (by decide) ?_
    refine lv_icmp_gt (tgt := 18) S.1 S.2.1 d_Mo_isPlace_11 (by decide) (fun c_11 => ?_) (fun c_11 => ?_)
    · refine lv_iconst (v := 0) S.1 S.2.1 d_Mo_isPlace_18 (by decide) ?_
      exact hp_retRz S hr hlk d_Mo_isPlace_19 (by decide) (q_is_f (by simp only [z_lt, z_le, z_eq, z_0] at c_4 c_11 ⊢; omega))
    · refine lv_iconst (v := 1) S.1 S.2.1 d_Mo_isPlace_14 (by decide) ?_
      refine lv_goto (tgt := 19) S.1 S.2.1 d_Mo_isPlace_15 (by decide) ?_
      exact hp_retRz S hr hlk d_Mo_isPlace_19 (by decide) (q_is_t (by simp only [z_lt, z_le, z_eq, z_0] at c_4 c_11 ⊢; omega))

set_option maxHeartbeats 4000000 in
set_option maxRecDepth 100000 in
theorem c_Mo_most (l : Launch) (x y : Int32)  : Met l y_Mo_most (.code y_Mo_most prog_9_method_22_code 2 (some .int) :: BIG) ({ frames := 0, cells := 0, slots := 0, locals := 0 }) (va_Pc [.int x, .int y] (fun _ => True)) (hp_QR (some (.int (q_max y x)))) 0 0 (fun _ => False) := by
  refine hp_enter (by decide) (Nat.le_of_ble_eq_true rfl) ?_
  intro p e s m below meth c ls S hr hlk hin hI hl
  have hl : lv_has ls 2 [(0, .int x), (1, .int y)] := hl
  refine lv_iload_n S.1 S.2.1 d_Mo_most_0 rfl (lv_at hl 0 rfl) ?_
  refine lv_iload_n S.1 S.2.1 d_Mo_most_1 rfl (lv_at hl 1 rfl) ?_
  refine lv_icmp_le (tgt := 9) S.1 S.2.1 d_Mo_most_2 (by decide) (fun c_2 => ?_) (fun c_2 => ?_)
  · refine lv_iload_n S.1 S.2.1 d_Mo_most_9 rfl (lv_at hl 1 rfl) ?_
    exact hp_retRi S hr hlk d_Mo_most_10 (by unfold q_max; rw [if_neg (by simp only [z_lt, z_le] at c_2 ⊢; omega)])
  · refine lv_iload_n S.1 S.2.1 d_Mo_most_5 rfl (lv_at hl 0 rfl) ?_
    refine lv_goto (tgt := 10) S.1 S.2.1 d_Mo_most_6 (by decide) ?_
    exact hp_retRi S hr hlk d_Mo_most_10 (by unfold q_max; rw [if_pos (by simp only [z_lt, z_le] at c_2 ⊢; omega)])

set_option maxHeartbeats 4000000 in
set_option maxRecDepth 100000 in
theorem c_Mo_least (l : Launch) (x y : Int32)  : Met l y_Mo_least (.code y_Mo_least prog_9_method_23_code 2 (some .int) :: BIG) ({ frames := 0, cells := 0, slots := 0, locals := 0 }) (va_Pc [.int x, .int y] (fun _ => True)) (hp_QR (some (.int (q_min y x)))) 0 0 (fun _ => False) := by
  refine hp_enter (by decide) (Nat.le_of_ble_eq_true rfl) ?_
  intro p e s m below meth c ls S hr hlk hin hI hl
  have hl : lv_has ls 2 [(0, .int x), (1, .int y)] := hl
  refine lv_iload_n S.1 S.2.1 d_Mo_least_0 rfl (lv_at hl 0 rfl) ?_
  refine lv_iload_n S.1 S.2.1 d_Mo_least_1 rfl (lv_at hl 1 rfl) ?_
  refine lv_icmp_ge (tgt := 9) S.1 S.2.1 d_Mo_least_2 (by decide) (fun c_2 => ?_) (fun c_2 => ?_)
  · refine lv_iload_n S.1 S.2.1 d_Mo_least_9 rfl (lv_at hl 1 rfl) ?_
    exact hp_retRi S hr hlk d_Mo_least_10 (by unfold q_min; rw [if_neg (by simp only [z_lt, z_le] at c_2 ⊢; omega)])
  · refine lv_iload_n S.1 S.2.1 d_Mo_least_5 rfl (lv_at hl 0 rfl) ?_
    refine lv_goto (tgt := 10) S.1 S.2.1 d_Mo_least_6 (by decide) ?_
    exact hp_retRi S hr hlk d_Mo_least_10 (by unfold q_min; rw [if_pos (by simp only [z_lt, z_le] at c_2 ⊢; omega)])

def q_hi (v : Int64) (n : Int32) : Int64 := if 64 ≤ n then v else if n ≤ 0 then 0 else v &&& ((-1) <<< ((64 - n).toInt64 &&& 63))
set_option maxHeartbeats 4000000 in
set_option maxRecDepth 100000 in
theorem c_Mo_highest (l : Launch) (v : Int64) (n : Int32)  : Met l y_Mo_highest (.code y_Mo_highest prog_9_method_13_code 3 (some .long) :: BIG) ({ frames := 0, cells := 0, slots := 0, locals := 0 }) (va_Pc [.long v, .int n] (fun _ => True)) (hp_QR (some (.long (q_hi v n)))) 0 0 (fun _ => False) := by
  refine hp_enter (by decide) (Nat.le_of_ble_eq_true rfl) ?_
  intro p e s m below meth c ls S hr hlk hin hI hl
  have hl : lv_has ls 3 [(0, .long v), (2, .int n)] := hl
  refine lv_iload_n S.1 S.2.1 d_Mo_highest_0 rfl (lv_at hl 1 rfl) ?_
  refine lv_bipush (v := 64) S.1 S.2.1 d_Mo_highest_1 (by decide) ?_
  refine lv_icmp_lt (tgt := 10) S.1 S.2.1 d_Mo_highest_3 (by decide) (fun c_3 => ?_) (fun c_3 => ?_)
  · refine lv_iload_n S.1 S.2.1 d_Mo_highest_10 rfl (lv_at hl 1 rfl) ?_
    refine lv_if_gt (tgt := 18) S.1 S.2.1 d_Mo_highest_11 (by decide) (fun c_11 => ?_) (fun c_11 => ?_)
    · refine lv_lload_n S.1 S.2.1 d_Mo_highest_18 rfl (lv_at hl 0 rfl) ?_
      refine lv_ldc2 (v := (-1)) S.1 S.2.1 S.2.2.2.1 (S.2.2.2.2 _ t_681) d_Mo_highest_19 ?_
      refine lv_bipush (v := 64) S.1 S.2.1 d_Mo_highest_22 (by decide) ?_
      refine lv_iload_n S.1 S.2.1 d_Mo_highest_24 rfl (lv_at hl 1 rfl) ?_
      refine lv_isub S.1 S.2.1 d_Mo_highest_25 ?_
      refine lv_lshl S.1 S.2.1 d_Mo_highest_26 rfl ?_
      refine lv_land S.1 S.2.1 d_Mo_highest_27 ?_
      exact hp_retRl S hr hlk d_Mo_highest_28 (by unfold q_hi; rw [if_neg (by simp only [z_lt, z_le] at c_3 ⊢; omega), if_neg (by simp only [z_lt, z_le, z_0] at c_11 ⊢; omega)])
    · refine lv_lconst (v := 0) S.1 S.2.1 d_Mo_highest_14 (by decide) ?_
      refine lv_goto (tgt := 28) S.1 S.2.1 d_Mo_highest_15 (by decide) ?_
      exact hp_retRl S hr hlk d_Mo_highest_28 (by unfold q_hi; rw [if_neg (by simp only [z_lt, z_le] at c_3 ⊢; omega), if_pos (by simp only [z_lt, z_le, z_0] at c_11 ⊢; omega)])
  · refine lv_lload_n S.1 S.2.1 d_Mo_highest_6 rfl (lv_at hl 0 rfl) ?_
    refine lv_goto (tgt := 28) S.1 S.2.1 d_Mo_highest_7 (by decide) ?_
    exact hp_retRl S hr hlk d_Mo_highest_28 (by unfold q_hi; rw [if_pos (by simp only [z_lt, z_le] at c_3 ⊢; omega)])

set_option maxHeartbeats 4000000 in
set_option maxRecDepth 100000 in
theorem c_Mo_threshold (l : Launch) (i j : Int32)  : Met l y_Mo_threshold (.code y_Mo_threshold prog_9_method_6_code 6 (some .int) :: BIG) ({ frames := 0, cells := 0, slots := 0, locals := 0 }) (va_Pc [.int i, .int j] (fun _ => True)) (hp_QR (some (.int (q_th i j)))) 0 0 (fun _ => False) := by
  refine hp_enter (by decide) (Nat.le_of_ble_eq_true rfl) ?_
  intro p e s m below meth c ls S hr hlk hin hI hl
  have hl : lv_has ls 6 [(0, .int i), (1, .int j)] := hl
  refine lv_iconst (v := 0) S.1 S.2.1 d_Mo_threshold_0 (by decide) ?_
  refine lv_istore_n (lv' := [(2, .int 0), (0, .int i), (1, .int j)]) S.1 S.2.1 d_Mo_threshold_1 rfl hl (by decide) rfl (fun ls hl => ?_)
  refine lv_iconst (v := 0) S.1 S.2.1 d_Mo_threshold_2 (by decide) ?_
  refine lv_istore_n (lv' := [(3, .int 0), (2, .int 0), (0, .int i), (1, .int j)]) S.1 S.2.1 d_Mo_threshold_3 rfl hl (by decide) rfl (fun ls hl => ?_)
  refine lv_iload_n S.1 S.2.1 d_Mo_threshold_4 rfl (lv_at hl 0 rfl) ?_
  refine lv_iconst (v := 3) S.1 S.2.1 d_Mo_threshold_5 (by decide) ?_
  refine lv_icmp_ge (tgt := 59) S.1 S.2.1 d_Mo_threshold_6 (by decide) (fun q => absurd q (by decide)) (fun _ => ?_)
  refine lv_iload_n S.1 S.2.1 d_Mo_threshold_9 rfl (lv_at hl 2 rfl) ?_
  refine lv_iload_n S.1 S.2.1 d_Mo_threshold_10 rfl (lv_at hl 0 rfl) ?_
  refine lv_ishr S.1 S.2.1 d_Mo_threshold_11 ?_
  refine lv_iconst (v := 1) S.1 S.2.1 d_Mo_threshold_12 (by decide) ?_
  refine lv_iand S.1 S.2.1 d_Mo_threshold_13 ?_
  refine lv_istore (lv' := [(4, .int _), (3, .int 0), (2, .int 0), (0, .int i), (1, .int j)]) S.1 S.2.1 d_Mo_threshold_14 hl (by decide) rfl (fun ls hl => ?_)
  refine lv_iload_n S.1 S.2.1 d_Mo_threshold_16 rfl (lv_at hl 4 rfl) ?_
  refine lv_iload_n S.1 S.2.1 d_Mo_threshold_17 rfl (lv_at hl 1 rfl) ?_
  refine lv_ishr S.1 S.2.1 d_Mo_threshold_18 ?_
  refine lv_iconst (v := 1) S.1 S.2.1 d_Mo_threshold_19 (by decide) ?_
  refine lv_iand S.1 S.2.1 d_Mo_threshold_20 ?_
  refine lv_istore (lv' := [(5, .int _), (4, .int _), (3, .int 0), (2, .int 0), (0, .int i), (1, .int j)]) S.1 S.2.1 d_Mo_threshold_21 hl (by decide) rfl (fun ls hl => ?_)
  refine lv_iload_n S.1 S.2.1 d_Mo_threshold_23 rfl (lv_at hl 3 rfl) ?_
  refine lv_topi (fun d0 ed0 => ?_)
  refine hp_cut (fun v => v = (if (i >>> ((0 : Int32) &&& 31) &&& 1) = (j >>> ((0 : Int32) &&& 31) &&& 1) then 0 else (32 : Int32) >>> (2 * (0 : Int32) &&& 31))) 41 [.int d0] (fun J => ?_) (fun a1 e_a1 => ?_)
  · refine lv_iload S.1 S.2.1 d_Mo_threshold_24 (lv_at hl 1 rfl) ?_
    refine lv_iload S.1 S.2.1 d_Mo_threshold_26 (lv_at hl 0 rfl) ?_
    refine lv_icmp_ne (tgt := 35) S.1 S.2.1 d_Mo_threshold_28 (by decide) (fun c_28 => ?_) (fun c_28 => ?_)
    · refine lv_bipush (v := 32) S.1 S.2.1 d_Mo_threshold_35 (by decide) ?_
      refine lv_iconst (v := 2) S.1 S.2.1 d_Mo_threshold_37 (by decide) ?_
      refine lv_iload_n S.1 S.2.1 d_Mo_threshold_38 rfl (lv_at hl 2 rfl) ?_
      refine lv_imul S.1 S.2.1 d_Mo_threshold_39 ?_
      refine lv_ishr S.1 S.2.1 d_Mo_threshold_40 ?_
      exact J _ (if_neg c_28).symm
    · refine lv_iconst (v := 0) S.1 S.2.1 d_Mo_threshold_31 (by decide) ?_
      refine lv_goto (tgt := 41) S.1 S.2.1 d_Mo_threshold_32 (by decide) ?_
      exact J _ (if_pos c_28).symm
  · subst e_a1
    refine lv_iload S.1 S.2.1 d_Mo_threshold_41 (lv_at hl 0 rfl) ?_
    refine lv_bipush (v := 16) S.1 S.2.1 d_Mo_threshold_43 (by decide) ?_
    refine lv_iconst (v := 2) S.1 S.2.1 d_Mo_threshold_45 (by decide) ?_
    refine lv_iload_n S.1 S.2.1 d_Mo_threshold_46 rfl (lv_at hl 2 rfl) ?_
    refine lv_imul S.1 S.2.1 d_Mo_threshold_47 ?_
    refine lv_ishr S.1 S.2.1 d_Mo_threshold_48 ?_
    refine lv_imul S.1 S.2.1 d_Mo_threshold_49 ?_
    refine lv_iadd S.1 S.2.1 d_Mo_threshold_50 ?_
    refine lv_iadd S.1 S.2.1 d_Mo_threshold_51 ?_
    refine lv_istore_n (lv' := [(2, .int _), (5, .int _), (4, .int _), (3, .int 0), (0, .int i), (1, .int j)]) S.1 S.2.1 d_Mo_threshold_52 rfl hl (by decide) rfl (fun ls hl => ?_)
    refine lv_iinc (v := 1) (lv' := [(3, .int 1), (2, .int _), (5, .int _), (4, .int _), (0, .int i), (1, .int j)]) S.1 S.2.1 d_Mo_threshold_53 hl (k := 3) rfl (by decide) (by decide) rfl (fun ls hl => ?_)
    refine lv_goto (tgt := 4) S.1 S.2.1 d_Mo_threshold_56 (by decide) ?_
    refine lv_iload_n S.1 S.2.1 d_Mo_threshold_4 rfl (lv_at hl 0 rfl) ?_
    refine lv_iconst (v := 3) S.1 S.2.1 d_Mo_threshold_5 (by decide) ?_
    refine lv_icmp_ge (tgt := 59) S.1 S.2.1 d_Mo_threshold_6 (by decide) (fun q => absurd q (by decide)) (fun _ => ?_)
    refine lv_iload_n S.1 S.2.1 d_Mo_threshold_9 rfl (lv_at hl 4 rfl) ?_
    refine lv_iload_n S.1 S.2.1 d_Mo_threshold_10 rfl (lv_at hl 0 rfl) ?_
    refine lv_ishr S.1 S.2.1 d_Mo_threshold_11 ?_
    refine lv_iconst (v := 1) S.1 S.2.1 d_Mo_threshold_12 (by decide) ?_
    refine lv_iand S.1 S.2.1 d_Mo_threshold_13 ?_
    refine lv_istore (lv' := [(4, .int _), (3, .int 1), (2, .int _), (5, .int _), (0, .int i), (1, .int j)]) S.1 S.2.1 d_Mo_threshold_14 hl (by decide) rfl (fun ls hl => ?_)
    refine lv_iload_n S.1 S.2.1 d_Mo_threshold_16 rfl (lv_at hl 5 rfl) ?_
    refine lv_iload_n S.1 S.2.1 d_Mo_threshold_17 rfl (lv_at hl 1 rfl) ?_
    refine lv_ishr S.1 S.2.1 d_Mo_threshold_18 ?_
    refine lv_iconst (v := 1) S.1 S.2.1 d_Mo_threshold_19 (by decide) ?_
    refine lv_iand S.1 S.2.1 d_Mo_threshold_20 ?_
    refine lv_istore (lv' := [(5, .int _), (4, .int _), (3, .int 1), (2, .int _), (0, .int i), (1, .int j)]) S.1 S.2.1 d_Mo_threshold_21 hl (by decide) rfl (fun ls hl => ?_)
    refine lv_iload_n S.1 S.2.1 d_Mo_threshold_23 rfl (lv_at hl 3 rfl) ?_
    refine lv_topi (fun d1 ed1 => ?_)
    refine hp_cut (fun v => v = (if (i >>> ((1 : Int32) &&& 31) &&& 1) = (j >>> ((1 : Int32) &&& 31) &&& 1) then 0 else (32 : Int32) >>> (2 * (1 : Int32) &&& 31))) 41 [.int d1] (fun J => ?_) (fun a1 e_a1 => ?_)
    · refine lv_iload S.1 S.2.1 d_Mo_threshold_24 (lv_at hl 1 rfl) ?_
      refine lv_iload S.1 S.2.1 d_Mo_threshold_26 (lv_at hl 0 rfl) ?_
      refine lv_icmp_ne (tgt := 35) S.1 S.2.1 d_Mo_threshold_28 (by decide) (fun c_28 => ?_) (fun c_28 => ?_)
      · refine lv_bipush (v := 32) S.1 S.2.1 d_Mo_threshold_35 (by decide) ?_
        refine lv_iconst (v := 2) S.1 S.2.1 d_Mo_threshold_37 (by decide) ?_
        refine lv_iload_n S.1 S.2.1 d_Mo_threshold_38 rfl (lv_at hl 2 rfl) ?_
        refine lv_imul S.1 S.2.1 d_Mo_threshold_39 ?_
        refine lv_ishr S.1 S.2.1 d_Mo_threshold_40 ?_
        exact J _ (if_neg c_28).symm
      · refine lv_iconst (v := 0) S.1 S.2.1 d_Mo_threshold_31 (by decide) ?_
        refine lv_goto (tgt := 41) S.1 S.2.1 d_Mo_threshold_32 (by decide) ?_
        exact J _ (if_pos c_28).symm
    · subst e_a1
      refine lv_iload S.1 S.2.1 d_Mo_threshold_41 (lv_at hl 0 rfl) ?_
      refine lv_bipush (v := 16) S.1 S.2.1 d_Mo_threshold_43 (by decide) ?_
      refine lv_iconst (v := 2) S.1 S.2.1 d_Mo_threshold_45 (by decide) ?_
      refine lv_iload_n S.1 S.2.1 d_Mo_threshold_46 rfl (lv_at hl 2 rfl) ?_
      refine lv_imul S.1 S.2.1 d_Mo_threshold_47 ?_
      refine lv_ishr S.1 S.2.1 d_Mo_threshold_48 ?_
      refine lv_imul S.1 S.2.1 d_Mo_threshold_49 ?_
      refine lv_iadd S.1 S.2.1 d_Mo_threshold_50 ?_
      refine lv_iadd S.1 S.2.1 d_Mo_threshold_51 ?_
      refine lv_istore_n (lv' := [(2, .int _), (5, .int _), (4, .int _), (3, .int 1), (0, .int i), (1, .int j)]) S.1 S.2.1 d_Mo_threshold_52 rfl hl (by decide) rfl (fun ls hl => ?_)
      refine lv_iinc (v := 2) (lv' := [(3, .int 2), (2, .int _), (5, .int _), (4, .int _), (0, .int i), (1, .int j)]) S.1 S.2.1 d_Mo_threshold_53 hl (k := 3) rfl (by decide) (by decide) rfl (fun ls hl => ?_)
      refine lv_goto (tgt := 4) S.1 S.2.1 d_Mo_threshold_56 (by decide) ?_
      refine lv_iload_n S.1 S.2.1 d_Mo_threshold_4 rfl (lv_at hl 0 rfl) ?_
      refine lv_iconst (v := 3) S.1 S.2.1 d_Mo_threshold_5 (by decide) ?_
      refine lv_icmp_ge (tgt := 59) S.1 S.2.1 d_Mo_threshold_6 (by decide) (fun q => absurd q (by decide)) (fun _ => ?_)
      refine lv_iload_n S.1 S.2.1 d_Mo_threshold_9 rfl (lv_at hl 4 rfl) ?_
      refine lv_iload_n S.1 S.2.1 d_Mo_threshold_10 rfl (lv_at hl 0 rfl) ?_
      refine lv_ishr S.1 S.2.1 d_Mo_threshold_11 ?_
      refine lv_iconst (v := 1) S.1 S.2.1 d_Mo_threshold_12 (by decide) ?_
      refine lv_iand S.1 S.2.1 d_Mo_threshold_13 ?_
      refine lv_istore (lv' := [(4, .int _), (3, .int 2), (2, .int _), (5, .int _), (0, .int i), (1, .int j)]) S.1 S.2.1 d_Mo_threshold_14 hl (by decide) rfl (fun ls hl => ?_)
      refine lv_iload_n S.1 S.2.1 d_Mo_threshold_16 rfl (lv_at hl 5 rfl) ?_
      refine lv_iload_n S.1 S.2.1 d_Mo_threshold_17 rfl (lv_at hl 1 rfl) ?_
      refine lv_ishr S.1 S.2.1 d_Mo_threshold_18 ?_
      refine lv_iconst (v := 1) S.1 S.2.1 d_Mo_threshold_19 (by decide) ?_
      refine lv_iand S.1 S.2.1 d_Mo_threshold_20 ?_
      refine lv_istore (lv' := [(5, .int _), (4, .int _), (3, .int 2), (2, .int _), (0, .int i), (1, .int j)]) S.1 S.2.1 d_Mo_threshold_21 hl (by decide) rfl (fun ls hl => ?_)
      refine lv_iload_n S.1 S.2.1 d_Mo_threshold_23 rfl (lv_at hl 3 rfl) ?_
      refine lv_topi (fun d2 ed2 => ?_)
      refine hp_cut (fun v => v = (if (i >>> ((2 : Int32) &&& 31) &&& 1) = (j >>> ((2 : Int32) &&& 31) &&& 1) then 0 else (32 : Int32) >>> (2 * (2 : Int32) &&& 31))) 41 [.int d2] (fun J => ?_) (fun a1 e_a1 => ?_)
      · refine lv_iload S.1 S.2.1 d_Mo_threshold_24 (lv_at hl 1 rfl) ?_
        refine lv_iload S.1 S.2.1 d_Mo_threshold_26 (lv_at hl 0 rfl) ?_
        refine lv_icmp_ne (tgt := 35) S.1 S.2.1 d_Mo_threshold_28 (by decide) (fun c_28 => ?_) (fun c_28 => ?_)
        · refine lv_bipush (v := 32) S.1 S.2.1 d_Mo_threshold_35 (by decide) ?_
          refine lv_iconst (v := 2) S.1 S.2.1 d_Mo_threshold_37 (by decide) ?_
          refine lv_iload_n S.1 S.2.1 d_Mo_threshold_38 rfl (lv_at hl 2 rfl) ?_
          refine lv_imul S.1 S.2.1 d_Mo_threshold_39 ?_
          refine lv_ishr S.1 S.2.1 d_Mo_threshold_40 ?_
          exact J _ (if_neg c_28).symm
        · refine lv_iconst (v := 0) S.1 S.2.1 d_Mo_threshold_31 (by decide) ?_
          refine lv_goto (tgt := 41) S.1 S.2.1 d_Mo_threshold_32 (by decide) ?_
          exact J _ (if_pos c_28).symm
      · subst e_a1
        refine lv_iload S.1 S.2.1 d_Mo_threshold_41 (lv_at hl 0 rfl) ?_
        refine lv_bipush (v := 16) S.1 S.2.1 d_Mo_threshold_43 (by decide) ?_
        refine lv_iconst (v := 2) S.1 S.2.1 d_Mo_threshold_45 (by decide) ?_
        refine lv_iload_n S.1 S.2.1 d_Mo_threshold_46 rfl (lv_at hl 2 rfl) ?_
        refine lv_imul S.1 S.2.1 d_Mo_threshold_47 ?_
        refine lv_ishr S.1 S.2.1 d_Mo_threshold_48 ?_
        refine lv_imul S.1 S.2.1 d_Mo_threshold_49 ?_
        refine lv_iadd S.1 S.2.1 d_Mo_threshold_50 ?_
        refine lv_iadd S.1 S.2.1 d_Mo_threshold_51 ?_
        refine lv_istore_n (lv' := [(2, .int _), (5, .int _), (4, .int _), (3, .int 2), (0, .int i), (1, .int j)]) S.1 S.2.1 d_Mo_threshold_52 rfl hl (by decide) rfl (fun ls hl => ?_)
        refine lv_iinc (v := 3) (lv' := [(3, .int 3), (2, .int _), (5, .int _), (4, .int _), (0, .int i), (1, .int j)]) S.1 S.2.1 d_Mo_threshold_53 hl (k := 3) rfl (by decide) (by decide) rfl (fun ls hl => ?_)
        refine lv_goto (tgt := 4) S.1 S.2.1 d_Mo_threshold_56 (by decide) ?_
        refine lv_iload_n S.1 S.2.1 d_Mo_threshold_4 rfl (lv_at hl 0 rfl) ?_
        refine lv_iconst (v := 3) S.1 S.2.1 d_Mo_threshold_5 (by decide) ?_
        refine lv_icmp_ge (tgt := 59) S.1 S.2.1 d_Mo_threshold_6 (by decide) (fun _ => ?_) (fun q => absurd (by decide) q)
        refine lv_iload_n S.1 S.2.1 d_Mo_threshold_59 rfl (lv_at hl 1 rfl) ?_
        exact hp_retRi S hr hlk d_Mo_threshold_60 (by rw [ed2, ed1, ed0]; rfl)

