/-! Leaves: numbers, boxes. -/
theorem nl {a b : Nat} (h : Nat.ble a b = true) : a ≤ b := Nat.le_of_ble_eq_true h
theorem z_0 : (0 : Int32).toInt = 0 := rfl
theorem z_1 : (1 : Int32).toInt = 1 := rfl
theorem z_m1 : (-1 : Int32).toInt = -1 := rfl
theorem z_64 : (64 : Int32).toInt = 64 := rfl
theorem z_16 : (16 : Int32).toInt = 16 := rfl
def q_is (b : Prop) [Decidable b] : Int32 := if b then 1 else 0
theorem q_is_t {b : Prop} [Decidable b] (h : b) : (1 : Int32) = q_is b := (if_pos h).symm
theorem q_is_f {b : Prop} [Decidable b] (h : ¬ b) : (0 : Int32) = q_is b := (if_neg h).symm
theorem q_is_ne {b : Prop} [Decidable b] : ¬ q_is b = 0 ↔ b := by
  unfold q_is
  split
  · exact ⟨fun _ => ‹b›, fun _ => by decide⟩
  · exact ⟨fun h => absurd rfl h, fun h => absurd h ‹¬ b›⟩
theorem q_is_0 {b : Prop} [Decidable b] : q_is b = 0 ↔ ¬ b := by
  unfold q_is
  split
  · exact ⟨fun h => absurd h (by decide), fun h => absurd ‹b› h⟩
  · exact ⟨fun _ => ‹¬ b›, fun _ => rfl⟩
theorem zz0 : hp_Z BIG (gg (fun _ => 0) (fun _ _ => 0) (fun _ => 0)) := zz
def q_max (x y : Int32) : Int32 := if x < y then y else x
def q_min (x y : Int32) : Int32 := if y < x then y else x
theorem q_max_z (x y : Int32) : (q_max x y).toInt = max x.toInt y.toInt := by
  unfold q_max
  split
  · rename_i h
    have h := z_lt.mp h
    omega
  · rename_i h
    have h : ¬ x.toInt < y.toInt := fun q => h (z_lt.mpr q)
    omega
theorem q_min_z (x y : Int32) : (q_min x y).toInt = min x.toInt y.toInt := by
  unfold q_min
  split
  · rename_i h
    have h := z_lt.mp h
    omega
  · rename_i h
    have h : ¬ y.toInt < x.toInt := fun q => h (z_lt.mpr q)
    omega

set_option maxHeartbeats 4000000 in
set_option maxRecDepth 100000 in
/-- low <= n <= high -/
theorem c_BP_isWithin (l : Launch) (lo n hi : Int32)  : Met l y_BP_isWithin (.code y_BP_isWithin prog_1_method_21_code 3 (some .boolean) :: BIG) ({ frames := 0, cells := 0, slots := 0, locals := 0 }) (va_Pc [.int lo, .int n, .int hi] (fun _ => True)) (hp_QR (some (.int (q_is (lo ≤ n ∧ n ≤ hi))))) 0 0 (fun _ => False) := by
  refine hp_enter (by decide) (Nat.le_of_ble_eq_true rfl) ?_
  intro p e s m below meth c ls S hr hlk hin hI hl
  have hl : lv_has ls 3 [(0, .int lo), (1, .int n), (2, .int hi)] := hl
  refine lv_iload_n S.1 S.2.1 d_BP_isWithin_0 rfl (lv_at hl 0 rfl) ?_
  refine lv_iload_n S.1 S.2.1 d_BP_isWithin_1 rfl (lv_at hl 1 rfl) ?_
  refine lv_icmp_gt (tgt := 14) S.1 S.2.1 d_BP_isWithin_2 (by decide) (fun c_2 => ?_) (fun c_2 => ?_)
  · refine lv_iconst (v := 0) S.1 S.2.1 d_BP_isWithin_14 (by decide) ?_
    exact hp_retRz S hr hlk d_BP_isWithin_15 (by decide) (q_is_f (by simp only [z_lt, z_le, z_eq, z_0] at c_2 ⊢; omega))
  · refine lv_iload_n S.1 S.2.1 d_BP_isWithin_5 rfl (lv_at hl 1 rfl) ?_
    refine lv_iload_n S.1 S.2.1 d_BP_isWithin_6 rfl (lv_at hl 2 rfl) ?_
    refine lv_icmp_gt (tgt := 14) S.1 S.2.1 d_BP_isWithin_7 (by decide) (fun c_7 => ?_) (fun c_7 => ?_)
    · refine lv_iconst (v := 0) S.1 S.2.1 d_BP_isWithin_14 (by decide) ?_
      exact hp_retRz S hr hlk d_BP_isWithin_15 (by decide) (q_is_f (by simp only [z_lt, z_le, z_eq, z_0] at c_2 c_7 ⊢; omega))
    · refine lv_iconst (v := 1) S.1 S.2.1 d_BP_isWithin_10 (by decide) ?_
      refine lv_goto (tgt := 15) S.1 S.2.1 d_BP_isWithin_11 (by decide) ?_
      exact hp_retRz S hr hlk d_BP_isWithin_15 (by decide) (q_is_t (by simp only [z_lt, z_le, z_eq, z_0] at c_2 c_7 ⊢; omega))

set_option maxHeartbeats 4000000 in
set_option maxRecDepth 100000 in
/-- n, but low .. high -/
theorem c_BP_within (l : Launch) (lo n hi : Int32)  : Met l y_BP_within (.code y_BP_within prog_1_method_22_code 3 (some .int) :: BIG) ({ frames := 1, cells := 0, slots := 0, locals := 21 }) (va_Pc [.int lo, .int n, .int hi] (fun _ => True)) (hp_QR (some (.int (q_max lo (q_min n hi))))) 0 0 (fun _ => False) := by
  refine hp_enter (by decide) (Nat.le_of_ble_eq_true rfl) ?_
  intro p e s m below meth c ls S hr hlk hin hI hl
  have hl : lv_has ls 3 [(0, .int lo), (1, .int n), (2, .int hi)] := hl
  refine lv_iload_n S.1 S.2.1 d_BP_within_0 rfl (lv_at hl 0 rfl) ?_
  refine lv_iload_n S.1 S.2.1 d_BP_within_1 rfl (lv_at hl 1 rfl) ?_
  refine lv_iload_n S.1 S.2.1 d_BP_within_2 rfl (lv_at hl 2 rfl) ?_
  refine hp_min S l_BP_162 hl.1 d_BP_within_3 ⟨nl rfl, nl rfl, nl rfl, nl rfl⟩ ?_
  refine hp_max S l_BP_168 hl.1 d_BP_within_6 ⟨nl rfl, nl rfl, nl rfl, nl rfl⟩ ?_
  exact hp_retRi S hr hlk d_BP_within_9 rfl

set_option maxHeartbeats 4000000 in
set_option maxRecDepth 100000 in
/-- 1 if so -/
theorem c_BP_oneIf (l : Launch) (b : Int32)  : Met l y_BP_oneIf (.code y_BP_oneIf prog_1_method_23_code 1 (some .int) :: BIG) ({ frames := 0, cells := 0, slots := 0, locals := 0 }) (va_Pc [.int b] (fun _ => True)) (hp_QR (some (.int (q_is (¬ b = 0))))) 0 0 (fun _ => False) := by
  refine hp_enter (by decide) (Nat.le_of_ble_eq_true rfl) ?_
  intro p e s m below meth c ls S hr hlk hin hI hl
  have hl : lv_has ls 1 [(0, .int b)] := hl
  refine lv_iload_n S.1 S.2.1 d_BP_oneIf_0 rfl (lv_at hl 0 rfl) ?_
  refine lv_if_eq (tgt := 8) S.1 S.2.1 d_BP_oneIf_1 (by decide) (fun c_1 => ?_) (fun c_1 => ?_)
  · refine lv_iconst (v := 0) S.1 S.2.1 d_BP_oneIf_8 (by decide) ?_
    exact hp_retRi S hr hlk d_BP_oneIf_9 (q_is_f (fun q => q c_1))
  · refine lv_iconst (v := 1) S.1 S.2.1 d_BP_oneIf_4 (by decide) ?_
    refine lv_goto (tgt := 9) S.1 S.2.1 d_BP_oneIf_5 (by decide) ?_
    exact hp_retRi S hr hlk d_BP_oneIf_9 (q_is_t c_1)

set_option maxHeartbeats 4000000 in
set_option maxRecDepth 100000 in
/-- a long's first n dots -/
theorem c_BP_firstDots (l : Launch) (n : Int32)  : Met l y_BP_firstDots (.code y_BP_firstDots prog_1_method_24_code 1 (some .long) :: BIG) ({ frames := 0, cells := 0, slots := 0, locals := 0 }) (va_Pc [.int n] (fun _ => True)) (hp_QR (some (.long (q_fd n)))) 0 0 (fun _ => False) := by
  refine hp_enter (by decide) (Nat.le_of_ble_eq_true rfl) ?_
  intro p e s m below meth c ls S hr hlk hin hI hl
  have hl : lv_has ls 1 [(0, .int n)] := hl
  refine lv_iload_n S.1 S.2.1 d_BP_firstDots_0 rfl (lv_at hl 0 rfl) ?_
  refine lv_if_gt (tgt := 6) S.1 S.2.1 d_BP_firstDots_1 (by decide) (fun c_1 => ?_) (fun c_1 => ?_)
  · refine lv_iload_n S.1 S.2.1 d_BP_firstDots_6 rfl (lv_at hl 0 rfl) ?_
    refine lv_bipush (v := 64) S.1 S.2.1 d_BP_firstDots_7 (by decide) ?_
    refine lv_icmp_lt (tgt := 18) S.1 S.2.1 d_BP_firstDots_9 (by decide) (fun c_9 => ?_) (fun c_9 => ?_)
    · refine lv_ldc2 (v := (-1)) S.1 S.2.1 S.2.2.2.1 (S.2.2.2.2 _ t_180) d_BP_firstDots_18 ?_
      refine lv_bipush (v := 64) S.1 S.2.1 d_BP_firstDots_21 (by decide) ?_
      refine lv_iload_n S.1 S.2.1 d_BP_firstDots_23 rfl (lv_at hl 0 rfl) ?_
      refine lv_isub S.1 S.2.1 d_BP_firstDots_24 ?_
      refine lv_lshl S.1 S.2.1 d_BP_firstDots_25 rfl ?_
      exact hp_retRl S hr hlk d_BP_firstDots_26 (by unfold q_fd; rw [if_neg (by simp only [z_lt, z_le, z_0] at c_1 ⊢; omega), if_neg (by simp only [z_lt, z_le] at c_9 ⊢; omega)])
    · refine lv_ldc2 (v := (-1)) S.1 S.2.1 S.2.2.2.1 (S.2.2.2.2 _ t_180) d_BP_firstDots_12 ?_
      refine lv_goto (tgt := 26) S.1 S.2.1 d_BP_firstDots_15 (by decide) ?_
      exact hp_retRl S hr hlk d_BP_firstDots_26 (by unfold q_fd; rw [if_neg (by simp only [z_lt, z_le, z_0] at c_1 ⊢; omega), if_pos (by simp only [z_lt, z_le] at c_9 ⊢; omega)])
  · refine lv_lconst (v := 0) S.1 S.2.1 d_BP_firstDots_4 (by decide) ?_
    exact hp_retRl S hr hlk d_BP_firstDots_5 (by unfold q_fd; rw [if_pos (by simp only [z_lt, z_le, z_0] at c_1 ⊢; omega)])

abbrev k_Bx (x0 y0 x1 y1 : Int32) : va_E := .inr (1, [.int x0, .int y0, .int x1, .int y1])
set_option maxHeartbeats 4000000 in
set_option maxRecDepth 100000 in
theorem c_Bx_init (l : Launch) (dC : Nat → ClassId) (dI : Nat → Nat → Nat) (cA : Nat → ClassId) (A : Nat → Prop) (h : hp_T) (t : Nat) (x0 y0 x1 y1 a0 a1 a2 a3 : Int32) (h_t : h t = some (k_Bx a0 a1 a2 a3)) : Met l y_Bx_init (.code y_Bx_init prog_2_method_1_code 5 none :: BIG) ({ frames := 1, cells := 0, slots := 0, locals := 20 }) (va_Pc [.ref t, .int x0, .int y0, .int x1, .int y1] (hp_I (gg dC dI cA) A h)) (hp_QW (gg dC dI cA) A hp_mv (fun _ h' => h' = hp_up h t (k_Bx x0 y0 x1 y1))) 0 0 A := by
  refine hp_enter (by decide) (Nat.le_of_ble_eq_true rfl) ?_
  intro p e s m below meth c ls S hr hlk hin hI hl
  have hl : lv_has ls 5 [(0, .ref t), (1, .int x0), (2, .int y0), (3, .int x1), (4, .int y1)] := hl
  have hJ := hI.J
  refine lv_aload_n S.1 S.2.1 d_Bx_init_0 rfl (lv_at hl 0 rfl) ?_
  refine hp_obj S l_Bx_3 hl.1 d_Bx_init_1 ⟨nl rfl, nl rfl⟩ ?_
  refine lv_aload_n S.1 S.2.1 d_Bx_init_4 rfl (lv_at hl 0 rfl) ?_
  refine lv_iload_n S.1 S.2.1 d_Bx_init_5 rfl (lv_at hl 1 rfl) ?_
  refine hp_putF S zz hJ hin h_t fp_Bx_9 rfl rfl rfl (nl rfl) d_Bx_init_6 (fun H locs hJ => ?_)
  have hJ := hJ
  have h_t : hp_up h t (.inr (1, [.int x0, .int a1, .int a2, .int a3])) t = some (.inr (1, [.int x0, .int a1, .int a2, .int a3])) := hp_up_s _ _ _
  refine lv_aload_n S.1 S.2.1 d_Bx_init_9 rfl (lv_at hl 0 rfl) ?_
  refine lv_iload_n S.1 S.2.1 d_Bx_init_10 rfl (lv_at hl 2 rfl) ?_
  refine hp_putF S zz hJ hin h_t fp_Bx_15 rfl rfl rfl (nl rfl) d_Bx_init_11 (fun H locs hJ => ?_)
  rw [hp_up_up] at hJ
  have h_t : hp_up h t (.inr (1, [.int x0, .int y0, .int a2, .int a3])) t = some (.inr (1, [.int x0, .int y0, .int a2, .int a3])) := hp_up_s _ _ _
  refine lv_aload_n S.1 S.2.1 d_Bx_init_14 rfl (lv_at hl 0 rfl) ?_
  refine lv_iload_n S.1 S.2.1 d_Bx_init_15 rfl (lv_at hl 3 rfl) ?_
  refine hp_putF S zz hJ hin h_t fp_Bx_18 rfl rfl rfl (nl rfl) d_Bx_init_16 (fun H locs hJ => ?_)
  rw [hp_up_up] at hJ
  have h_t : hp_up h t (.inr (1, [.int x0, .int y0, .int x1, .int a3])) t = some (.inr (1, [.int x0, .int y0, .int x1, .int a3])) := hp_up_s _ _ _
  refine lv_aload_n S.1 S.2.1 d_Bx_init_19 rfl (lv_at hl 0 rfl) ?_
  refine lv_iload S.1 S.2.1 d_Bx_init_20 (lv_at hl 4 rfl) ?_
  refine hp_putF S zz hJ hin h_t fp_Bx_21 rfl rfl rfl (nl rfl) d_Bx_init_22 (fun H locs hJ => ?_)
  rw [hp_up_up] at hJ
  have h_t : hp_up h t (.inr (1, [.int x0, .int y0, .int x1, .int y1])) t = some (.inr (1, [.int x0, .int y0, .int x1, .int y1])) := hp_up_s _ _ _
  exact hp_retWv S hJ hr hlk d_Bx_init_25 (by decide) rfl

set_option maxHeartbeats 4000000 in
set_option maxRecDepth 100000 in
theorem c_Bx_isEmpty (l : Launch) (dC : Nat → ClassId) (dI : Nat → Nat → Nat) (cA : Nat → ClassId) (A : Nat → Prop) (h : hp_T) (t : Nat) (x0 y0 x1 y1 : Int32) (h_t : h t = some (k_Bx x0 y0 x1 y1)) : Met l y_Bx_isEmpty (.code y_Bx_isEmpty prog_2_method_3_code 1 (some .boolean) :: BIG) ({ frames := 0, cells := 0, slots := 0, locals := 0 }) (va_Pc [.ref t] (hp_I (gg dC dI cA) A h)) (hp_QR (some (.int (q_is (x1 < x0 ∨ y1 < y0))))) 0 0 (fun _ => False) := by
  refine hp_enter (by decide) (Nat.le_of_ble_eq_true rfl) ?_
  intro p e s m below meth c ls S hr hlk hin hI hl
  have hl : lv_has ls 1 [(0, .ref t)] := hl
  have hJ := hI.J
  refine lv_aload_n S.1 S.2.1 d_Bx_isEmpty_0 rfl (lv_at hl 0 rfl) ?_
  refine hp_get S zz hJ h_t f_Bx_9 rfl d_Bx_isEmpty_1 ?_
  refine lv_aload_n S.1 S.2.1 d_Bx_isEmpty_4 rfl (lv_at hl 0 rfl) ?_
  refine hp_get S zz hJ h_t f_Bx_18 rfl d_Bx_isEmpty_5 ?_
  refine lv_icmp_gt (tgt := 22) S.1 S.2.1 d_Bx_isEmpty_8 (by decide) (fun c_8 => ?_) (fun c_8 => ?_)
  · refine lv_iconst (v := 1) S.1 S.2.1 d_Bx_isEmpty_22 (by decide) ?_
    refine lv_goto (tgt := 27) S.1 S.2.1 d_Bx_isEmpty_23 (by decide) ?_
    exact hp_retRz S hr hlk d_Bx_isEmpty_27 (by decide) (q_is_t (by simp only [z_lt, z_le, z_eq, z_0] at c_8 ⊢; omega))
  · refine lv_aload_n S.1 S.2.1 d_Bx_isEmpty_11 rfl (lv_at hl 0 rfl) ?_
    refine hp_get S zz hJ h_t f_Bx_15 rfl d_Bx_isEmpty_12 ?_
    refine lv_aload_n S.1 S.2.1 d_Bx_isEmpty_15 rfl (lv_at hl 0 rfl) ?_
    refine hp_get S zz hJ h_t f_Bx_21 rfl d_Bx_isEmpty_16 ?_
    refine lv_icmp_le (tgt := 26) S.1 S.2.1 d_Bx_isEmpty_19 (by decide) (fun c_19 => ?_) (fun c_19 => ?_)
    · refine lv_iconst (v := 0) S.1 S.2.1 d_Bx_isEmpty_26 (by decide) ?_
      exact hp_retRz S hr hlk d_Bx_isEmpty_27 (by decide) (q_is_f (by simp only [z_lt, z_le, z_eq, z_0] at c_8 c_19 ⊢; omega))
    · refine lv_iconst (v := 1) S.1 S.2.1 d_Bx_isEmpty_22 (by decide) ?_
      refine lv_goto (tgt := 27) S.1 S.2.1 d_Bx_isEmpty_23 (by decide) ?_
      exact hp_retRz S hr hlk d_Bx_isEmpty_27 (by decide) (q_is_t (by simp only [z_lt, z_le, z_eq, z_0] at c_8 c_19 ⊢; omega))

set_option maxHeartbeats 4000000 in
set_option maxRecDepth 100000 in
theorem c_Bx_meetsLine (l : Launch) (dC : Nat → ClassId) (dI : Nat → Nat → Nat) (cA : Nat → ClassId) (A : Nat → Prop) (h : hp_T) (t : Nat) (x0 y0 x1 y1 y : Int32) (h_t : h t = some (k_Bx x0 y0 x1 y1)) : Met l y_Bx_meetsLine (.code y_Bx_meetsLine prog_2_method_4_code 2 (some .boolean) :: BIG) ({ frames := 0, cells := 0, slots := 0, locals := 0 }) (va_Pc [.ref t, .int y] (hp_I (gg dC dI cA) A h)) (hp_QR (some (.int (q_is (y0 ≤ y ∧ y ≤ y1))))) 0 0 (fun _ => False) := by
  refine hp_enter (by decide) (Nat.le_of_ble_eq_true rfl) ?_
  intro p e s m below meth c ls S hr hlk hin hI hl
  have hl : lv_has ls 2 [(0, .ref t), (1, .int y)] := hl
  have hJ := hI.J
  refine lv_aload_n S.1 S.2.1 d_Bx_meetsLine_0 rfl (lv_at hl 0 rfl) ?_
  refine hp_get S zz hJ h_t f_Bx_15 rfl d_Bx_meetsLine_1 ?_
  refine lv_iload_n S.1 S.2.1 d_Bx_meetsLine_4 rfl (lv_at hl 1 rfl) ?_
  refine lv_icmp_gt (tgt := 20) S.1 S.2.1 d_Bx_meetsLine_5 (by decide) (fun c_5 => ?_) (fun c_5 => ?_)
  · refine lv_iconst (v := 0) S.1 S.2.1 d_Bx_meetsLine_20 (by decide) ?_
    exact hp_retRz S hr hlk d_Bx_meetsLine_21 (by decide) (q_is_f (by simp only [z_lt, z_le, z_eq, z_0] at c_5 ⊢; omega))
  · refine lv_iload_n S.1 S.2.1 d_Bx_meetsLine_8 rfl (lv_at hl 1 rfl) ?_
    refine lv_aload_n S.1 S.2.1 d_Bx_meetsLine_9 rfl (lv_at hl 0 rfl) ?_
    refine hp_get S zz hJ h_t f_Bx_21 rfl d_Bx_meetsLine_10 ?_
    refine lv_icmp_gt (tgt := 20) S.1 S.2.1 d_Bx_meetsLine_13 (by decide) (fun c_13 => ?_) (fun c_13 => ?_)
    · refine lv_iconst (v := 0) S.1 S.2.1 d_Bx_meetsLine_20 (by decide) ?_
      exact hp_retRz S hr hlk d_Bx_meetsLine_21 (by decide) (q_is_f (by simp only [z_lt, z_le, z_eq, z_0] at c_5 c_13 ⊢; omega))
    · refine lv_iconst (v := 1) S.1 S.2.1 d_Bx_meetsLine_16 (by decide) ?_
      refine lv_goto (tgt := 21) S.1 S.2.1 d_Bx_meetsLine_17 (by decide) ?_
      exact hp_retRz S hr hlk d_Bx_meetsLine_21 (by decide) (q_is_t (by simp only [z_lt, z_le, z_eq, z_0] at c_5 c_13 ⊢; omega))

def q_bw (x0 x1 k : Int32) : Int64 := q_fd (x1 + 1 - k * 64) &&& (q_fd (x0 - k * 64) ^^^ (-1))
set_option maxHeartbeats 4000000 in
set_option maxRecDepth 100000 in
theorem c_Bx_dotsOfWord (l : Launch) (dC : Nat → ClassId) (dI : Nat → Nat → Nat) (cA : Nat → ClassId) (A : Nat → Prop) (h : hp_T) (t : Nat) (x0 y0 x1 y1 k : Int32) (h_t : h t = some (k_Bx x0 y0 x1 y1)) : Met l y_Bx_dotsOfWord (.code y_Bx_dotsOfWord prog_2_method_5_code 3 (some .long) :: BIG) ({ frames := 1, cells := 0, slots := 0, locals := 20 }) (va_Pc [.ref t, .int k] (hp_I (gg dC dI cA) A h)) (hp_QR (some (.long (q_bw x0 x1 k)))) 0 0 (fun _ => False) := by
  refine hp_enter (by decide) (Nat.le_of_ble_eq_true rfl) ?_
  intro p e s m below meth c ls S hr hlk hin hI hl
  have hl : lv_has ls 3 [(0, .ref t), (1, .int k)] := hl
  have hJ := hI.J
  refine lv_iload_n S.1 S.2.1 d_Bx_dotsOfWord_0 rfl (lv_at hl 1 rfl) ?_
  refine lv_bipush (v := 64) S.1 S.2.1 d_Bx_dotsOfWord_1 (by decide) ?_
  refine lv_imul S.1 S.2.1 d_Bx_dotsOfWord_3 ?_
  refine lv_istore_n (lv' := [(2, .int (k * (64 : Int32))), (0, .ref t), (1, .int k)]) S.1 S.2.1 d_Bx_dotsOfWord_4 rfl hl (by decide) rfl (fun ls hl => ?_)
  refine lv_aload_n S.1 S.2.1 d_Bx_dotsOfWord_5 rfl (lv_at hl 1 rfl) ?_
  refine hp_get S zz hJ h_t f_Bx_18 rfl d_Bx_dotsOfWord_6 ?_
  refine lv_iconst (v := 1) S.1 S.2.1 d_Bx_dotsOfWord_9 (by decide) ?_
  refine lv_iadd S.1 S.2.1 d_Bx_dotsOfWord_10 ?_
  refine lv_iload_n S.1 S.2.1 d_Bx_dotsOfWord_11 rfl (lv_at hl 0 rfl) ?_
  refine lv_isub S.1 S.2.1 d_Bx_dotsOfWord_12 ?_
  refine hp_doneR (hp_runN S zz hJ.2.1 (c_BP_firstDots l _) l_Bx_36 (hp_pre0 _) (by decide) rfl hl.1 rfl (nl rfl) d_Bx_dotsOfWord_13 (by decide)) ?_
  refine lv_aload_n S.1 S.2.1 d_Bx_dotsOfWord_16 rfl (lv_at hl 1 rfl) ?_
  refine hp_get S zz hJ h_t f_Bx_9 rfl d_Bx_dotsOfWord_17 ?_
  refine lv_iload_n S.1 S.2.1 d_Bx_dotsOfWord_20 rfl (lv_at hl 0 rfl) ?_
  refine lv_isub S.1 S.2.1 d_Bx_dotsOfWord_21 ?_
  refine hp_doneR (hp_runN S zz hJ.2.1 (c_BP_firstDots l _) l_Bx_36 (hp_pre0 _) (by decide) rfl hl.1 rfl (nl rfl) d_Bx_dotsOfWord_22 (by decide)) ?_
  refine lv_ldc2 (v := (-1)) S.1 S.2.1 S.2.2.2.1 (S.2.2.2.2 _ t_389) d_Bx_dotsOfWord_25 ?_
  refine lv_lxor S.1 S.2.1 d_Bx_dotsOfWord_28 ?_
  refine lv_land S.1 S.2.1 d_Bx_dotsOfWord_29 ?_
  exact hp_retRl S hr hlk d_Bx_dotsOfWord_30 rfl

