/-! Inks. -/
theorem q_is_c {a b : Prop} [Decidable a] [Decidable b] (h : a ↔ b) : q_is a = q_is b := by
  unfold q_is
  by_cases ha : a
  · rw [if_pos ha, if_pos (h.mp ha)]
  · rw [if_neg ha, if_neg (fun q => ha (h.mpr q))]
theorem q_is_n {b : Prop} [Decidable b] : narrow .boolean (.int (q_is b)) = .int (q_is b) := by
  unfold q_is
  split <;> rfl
/-- the sum that a shade asks -/
def q_sb (u v b s : Int32) : Int32 := s + (((32 : Int32) >>> (2 * b &&& 31)) * ((u >>> (b &&& 31) &&& 1) ^^^ (v >>> (b &&& 31) &&& 1)) + ((16 : Int32) >>> (2 * b &&& 31)) * (v >>> (b &&& 31) &&& 1))
def q_sh (u v : Int32) : Int32 := q_sb u v 2 (q_sb u v 1 (q_sb u v 0 0))
abbrev q_ly (v : Int32) : Prop := v = 7 ∨ v = 8
abbrev q_ri (u v : Int32) : Prop := u + v - (u + v) / 16 * 16 < 2
abbrev q_fa (u v : Int32) : Prop := u - v + 16 - (u - v + 16) / 16 * 16 < 2
abbrev q_ha (k u v : Int32) : Prop := (k = 1 ∧ q_ly v) ∨ (k = 2 ∧ q_ly u) ∨ (k = 3 ∧ q_ri u v) ∨ (k = 4 ∧ q_fa u v) ∨ (k = 5 ∧ (q_ly v ∨ q_ly u)) ∨ (k = 6 ∧ (q_ri u v ∨ q_fa u v))

set_option maxHeartbeats 4000000 in
set_option maxRecDepth 100000 in
theorem c_In_isShaded (l : Launch) (sd u v : Int32)  : Met l y_In_isShaded (.code y_In_isShaded prog_3_method_5_code 7 (some .boolean) :: BIG) ({ frames := 0, cells := 0, slots := 0, locals := 0 }) (va_Pc [.int sd, .int u, .int v] (fun _ => True)) (hp_QR (some (.int (q_is (q_sh u v < (64 * sd + 99) / 100))))) 0 0 (fun _ => False) := by
  refine hp_enter (by decide) (Nat.le_of_ble_eq_true rfl) ?_
  intro p e s m below meth c ls S hr hlk hin hI hl
  have hl : lv_has ls 7 [(0, .int sd), (1, .int u), (2, .int v)] := hl
  refine lv_iconst (v := 0) S.1 S.2.1 d_In_isShaded_0 (by decide) ?_
  refine lv_istore_n (lv' := [(3, .int 0), (0, .int sd), (1, .int u), (2, .int v)]) S.1 S.2.1 d_In_isShaded_1 rfl hl (by decide) rfl (fun ls hl => ?_)
  refine lv_iconst (v := 0) S.1 S.2.1 d_In_isShaded_2 (by decide) ?_
  refine lv_istore (lv' := [(4, .int 0), (3, .int 0), (0, .int sd), (1, .int u), (2, .int v)]) S.1 S.2.1 d_In_isShaded_3 hl (by decide) rfl (fun ls hl => ?_)
  refine lv_iload S.1 S.2.1 d_In_isShaded_5 (lv_at hl 0 rfl) ?_
  refine lv_iconst (v := 3) S.1 S.2.1 d_In_isShaded_7 (by decide) ?_
  refine lv_icmp_ge (tgt := 60) S.1 S.2.1 d_In_isShaded_8 (by decide) (fun q => absurd q (by decide)) (fun _ => ?_)
  refine lv_iload_n S.1 S.2.1 d_In_isShaded_11 rfl (lv_at hl 3 rfl) ?_
  refine lv_iload S.1 S.2.1 d_In_isShaded_12 (lv_at hl 0 rfl) ?_
  refine lv_ishr S.1 S.2.1 d_In_isShaded_14 ?_
  refine lv_iconst (v := 1) S.1 S.2.1 d_In_isShaded_15 (by decide) ?_
  refine lv_iand S.1 S.2.1 d_In_isShaded_16 ?_
  refine lv_istore (lv' := [(5, .int _), (4, .int 0), (3, .int 0), (0, .int sd), (1, .int u), (2, .int v)]) S.1 S.2.1 d_In_isShaded_17 hl (by decide) rfl (fun ls hl => ?_)
  refine lv_iload_n S.1 S.2.1 d_In_isShaded_19 rfl (lv_at hl 5 rfl) ?_
  refine lv_iload S.1 S.2.1 d_In_isShaded_20 (lv_at hl 1 rfl) ?_
  refine lv_ishr S.1 S.2.1 d_In_isShaded_22 ?_
  refine lv_iconst (v := 1) S.1 S.2.1 d_In_isShaded_23 (by decide) ?_
  refine lv_iand S.1 S.2.1 d_In_isShaded_24 ?_
  refine lv_istore (lv' := [(6, .int _), (5, .int _), (4, .int 0), (3, .int 0), (0, .int sd), (1, .int u), (2, .int v)]) S.1 S.2.1 d_In_isShaded_25 hl (by decide) rfl (fun ls hl => ?_)
  refine lv_iload_n S.1 S.2.1 d_In_isShaded_27 rfl (lv_at hl 3 rfl) ?_
  refine lv_bipush (v := 32) S.1 S.2.1 d_In_isShaded_28 (by decide) ?_
  refine lv_iconst (v := 2) S.1 S.2.1 d_In_isShaded_30 (by decide) ?_
  refine lv_iload S.1 S.2.1 d_In_isShaded_31 (lv_at hl 2 rfl) ?_
  refine lv_imul S.1 S.2.1 d_In_isShaded_33 ?_
  refine lv_ishr S.1 S.2.1 d_In_isShaded_34 ?_
  refine lv_iload S.1 S.2.1 d_In_isShaded_35 (lv_at hl 1 rfl) ?_
  refine lv_iload S.1 S.2.1 d_In_isShaded_37 (lv_at hl 0 rfl) ?_
  refine lv_ixor S.1 S.2.1 d_In_isShaded_39 ?_
  refine lv_imul S.1 S.2.1 d_In_isShaded_40 ?_
  refine lv_bipush (v := 16) S.1 S.2.1 d_In_isShaded_41 (by decide) ?_
  refine lv_iconst (v := 2) S.1 S.2.1 d_In_isShaded_43 (by decide) ?_
  refine lv_iload S.1 S.2.1 d_In_isShaded_44 (lv_at hl 2 rfl) ?_
  refine lv_imul S.1 S.2.1 d_In_isShaded_46 ?_
  refine lv_ishr S.1 S.2.1 d_In_isShaded_47 ?_
  refine lv_iload S.1 S.2.1 d_In_isShaded_48 (lv_at hl 0 rfl) ?_
  refine lv_imul S.1 S.2.1 d_In_isShaded_50 ?_
  refine lv_iadd S.1 S.2.1 d_In_isShaded_51 ?_
  refine lv_iadd S.1 S.2.1 d_In_isShaded_52 ?_
  refine lv_istore_n (lv' := [(3, .int _), (6, .int _), (5, .int _), (4, .int 0), (0, .int sd), (1, .int u), (2, .int v)]) S.1 S.2.1 d_In_isShaded_53 rfl hl (by decide) rfl (fun ls hl => ?_)
  refine lv_iinc (v := 1) (lv' := [(4, .int 1), (3, .int _), (6, .int _), (5, .int _), (0, .int sd), (1, .int u), (2, .int v)]) S.1 S.2.1 d_In_isShaded_54 hl (k := 3) rfl (by decide) (by decide) rfl (fun ls hl => ?_)
  refine lv_goto (tgt := 5) S.1 S.2.1 d_In_isShaded_57 (by decide) ?_
  refine lv_iload S.1 S.2.1 d_In_isShaded_5 (lv_at hl 0 rfl) ?_
  refine lv_iconst (v := 3) S.1 S.2.1 d_In_isShaded_7 (by decide) ?_
  refine lv_icmp_ge (tgt := 60) S.1 S.2.1 d_In_isShaded_8 (by decide) (fun q => absurd q (by decide)) (fun _ => ?_)
  refine lv_iload_n S.1 S.2.1 d_In_isShaded_11 rfl (lv_at hl 5 rfl) ?_
  refine lv_iload S.1 S.2.1 d_In_isShaded_12 (lv_at hl 0 rfl) ?_
  refine lv_ishr S.1 S.2.1 d_In_isShaded_14 ?_
  refine lv_iconst (v := 1) S.1 S.2.1 d_In_isShaded_15 (by decide) ?_
  refine lv_iand S.1 S.2.1 d_In_isShaded_16 ?_
  refine lv_istore (lv' := [(5, .int _), (4, .int 1), (3, .int _), (6, .int _), (0, .int sd), (1, .int u), (2, .int v)]) S.1 S.2.1 d_In_isShaded_17 hl (by decide) rfl (fun ls hl => ?_)
  refine lv_iload_n S.1 S.2.1 d_In_isShaded_19 rfl (lv_at hl 6 rfl) ?_
  refine lv_iload S.1 S.2.1 d_In_isShaded_20 (lv_at hl 1 rfl) ?_
  refine lv_ishr S.1 S.2.1 d_In_isShaded_22 ?_
  refine lv_iconst (v := 1) S.1 S.2.1 d_In_isShaded_23 (by decide) ?_
  refine lv_iand S.1 S.2.1 d_In_isShaded_24 ?_
  refine lv_istore (lv' := [(6, .int _), (5, .int _), (4, .int 1), (3, .int _), (0, .int sd), (1, .int u), (2, .int v)]) S.1 S.2.1 d_In_isShaded_25 hl (by decide) rfl (fun ls hl => ?_)
  refine lv_iload_n S.1 S.2.1 d_In_isShaded_27 rfl (lv_at hl 3 rfl) ?_
  refine lv_bipush (v := 32) S.1 S.2.1 d_In_isShaded_28 (by decide) ?_
  refine lv_iconst (v := 2) S.1 S.2.1 d_In_isShaded_30 (by decide) ?_
  refine lv_iload S.1 S.2.1 d_In_isShaded_31 (lv_at hl 2 rfl) ?_
  refine lv_imul S.1 S.2.1 d_In_isShaded_33 ?_
  refine lv_ishr S.1 S.2.1 d_In_isShaded_34 ?_
  refine lv_iload S.1 S.2.1 d_In_isShaded_35 (lv_at hl 1 rfl) ?_
  refine lv_iload S.1 S.2.1 d_In_isShaded_37 (lv_at hl 0 rfl) ?_
  refine lv_ixor S.1 S.2.1 d_In_isShaded_39 ?_
  refine lv_imul S.1 S.2.1 d_In_isShaded_40 ?_
  refine lv_bipush (v := 16) S.1 S.2.1 d_In_isShaded_41 (by decide) ?_
  refine lv_iconst (v := 2) S.1 S.2.1 d_In_isShaded_43 (by decide) ?_
  refine lv_iload S.1 S.2.1 d_In_isShaded_44 (lv_at hl 2 rfl) ?_
  refine lv_imul S.1 S.2.1 d_In_isShaded_46 ?_
  refine lv_ishr S.1 S.2.1 d_In_isShaded_47 ?_
  refine lv_iload S.1 S.2.1 d_In_isShaded_48 (lv_at hl 0 rfl) ?_
  refine lv_imul S.1 S.2.1 d_In_isShaded_50 ?_
  refine lv_iadd S.1 S.2.1 d_In_isShaded_51 ?_
  refine lv_iadd S.1 S.2.1 d_In_isShaded_52 ?_
  refine lv_istore_n (lv' := [(3, .int _), (6, .int _), (5, .int _), (4, .int 1), (0, .int sd), (1, .int u), (2, .int v)]) S.1 S.2.1 d_In_isShaded_53 rfl hl (by decide) rfl (fun ls hl => ?_)
  refine lv_iinc (v := 2) (lv' := [(4, .int 2), (3, .int _), (6, .int _), (5, .int _), (0, .int sd), (1, .int u), (2, .int v)]) S.1 S.2.1 d_In_isShaded_54 hl (k := 3) rfl (by decide) (by decide) rfl (fun ls hl => ?_)
  refine lv_goto (tgt := 5) S.1 S.2.1 d_In_isShaded_57 (by decide) ?_
  refine lv_iload S.1 S.2.1 d_In_isShaded_5 (lv_at hl 0 rfl) ?_
  refine lv_iconst (v := 3) S.1 S.2.1 d_In_isShaded_7 (by decide) ?_
  refine lv_icmp_ge (tgt := 60) S.1 S.2.1 d_In_isShaded_8 (by decide) (fun q => absurd q (by decide)) (fun _ => ?_)
  refine lv_iload_n S.1 S.2.1 d_In_isShaded_11 rfl (lv_at hl 5 rfl) ?_
  refine lv_iload S.1 S.2.1 d_In_isShaded_12 (lv_at hl 0 rfl) ?_
  refine lv_ishr S.1 S.2.1 d_In_isShaded_14 ?_
  refine lv_iconst (v := 1) S.1 S.2.1 d_In_isShaded_15 (by decide) ?_
  refine lv_iand S.1 S.2.1 d_In_isShaded_16 ?_
  refine lv_istore (lv' := [(5, .int _), (4, .int 2), (3, .int _), (6, .int _), (0, .int sd), (1, .int u), (2, .int v)]) S.1 S.2.1 d_In_isShaded_17 hl (by decide) rfl (fun ls hl => ?_)
  refine lv_iload_n S.1 S.2.1 d_In_isShaded_19 rfl (lv_at hl 6 rfl) ?_
  refine lv_iload S.1 S.2.1 d_In_isShaded_20 (lv_at hl 1 rfl) ?_
  refine lv_ishr S.1 S.2.1 d_In_isShaded_22 ?_
  refine lv_iconst (v := 1) S.1 S.2.1 d_In_isShaded_23 (by decide) ?_
  refine lv_iand S.1 S.2.1 d_In_isShaded_24 ?_
  refine lv_istore (lv' := [(6, .int _), (5, .int _), (4, .int 2), (3, .int _), (0, .int sd), (1, .int u), (2, .int v)]) S.1 S.2.1 d_In_isShaded_25 hl (by decide) rfl (fun ls hl => ?_)
  refine lv_iload_n S.1 S.2.1 d_In_isShaded_27 rfl (lv_at hl 3 rfl) ?_
  refine lv_bipush (v := 32) S.1 S.2.1 d_In_isShaded_28 (by decide) ?_
  refine lv_iconst (v := 2) S.1 S.2.1 d_In_isShaded_30 (by decide) ?_
  refine lv_iload S.1 S.2.1 d_In_isShaded_31 (lv_at hl 2 rfl) ?_
  refine lv_imul S.1 S.2.1 d_In_isShaded_33 ?_
  refine lv_ishr S.1 S.2.1 d_In_isShaded_34 ?_
  refine lv_iload S.1 S.2.1 d_In_isShaded_35 (lv_at hl 1 rfl) ?_
  refine lv_iload S.1 S.2.1 d_In_isShaded_37 (lv_at hl 0 rfl) ?_
  refine lv_ixor S.1 S.2.1 d_In_isShaded_39 ?_
  refine lv_imul S.1 S.2.1 d_In_isShaded_40 ?_
  refine lv_bipush (v := 16) S.1 S.2.1 d_In_isShaded_41 (by decide) ?_
  refine lv_iconst (v := 2) S.1 S.2.1 d_In_isShaded_43 (by decide) ?_
  refine lv_iload S.1 S.2.1 d_In_isShaded_44 (lv_at hl 2 rfl) ?_
  refine lv_imul S.1 S.2.1 d_In_isShaded_46 ?_
  refine lv_ishr S.1 S.2.1 d_In_isShaded_47 ?_
  refine lv_iload S.1 S.2.1 d_In_isShaded_48 (lv_at hl 0 rfl) ?_
  refine lv_imul S.1 S.2.1 d_In_isShaded_50 ?_
  refine lv_iadd S.1 S.2.1 d_In_isShaded_51 ?_
  refine lv_iadd S.1 S.2.1 d_In_isShaded_52 ?_
  refine lv_istore_n (lv' := [(3, .int _), (6, .int _), (5, .int _), (4, .int 2), (0, .int sd), (1, .int u), (2, .int v)]) S.1 S.2.1 d_In_isShaded_53 rfl hl (by decide) rfl (fun ls hl => ?_)
  refine lv_iinc (v := 3) (lv' := [(4, .int 3), (3, .int _), (6, .int _), (5, .int _), (0, .int sd), (1, .int u), (2, .int v)]) S.1 S.2.1 d_In_isShaded_54 hl (k := 3) rfl (by decide) (by decide) rfl (fun ls hl => ?_)
  refine lv_goto (tgt := 5) S.1 S.2.1 d_In_isShaded_57 (by decide) ?_
  refine lv_iload S.1 S.2.1 d_In_isShaded_5 (lv_at hl 0 rfl) ?_
  refine lv_iconst (v := 3) S.1 S.2.1 d_In_isShaded_7 (by decide) ?_
  refine lv_icmp_ge (tgt := 60) S.1 S.2.1 d_In_isShaded_8 (by decide) (fun _ => ?_) (fun q => absurd (by decide) q)
  refine lv_iload_n S.1 S.2.1 d_In_isShaded_60 rfl (lv_at hl 1 rfl) ?_
  refine lv_bipush (v := 64) S.1 S.2.1 d_In_isShaded_61 (by decide) ?_
  refine lv_iload_n S.1 S.2.1 d_In_isShaded_63 rfl (lv_at hl 4 rfl) ?_
  refine lv_imul S.1 S.2.1 d_In_isShaded_64 ?_
  refine lv_bipush (v := 99) S.1 S.2.1 d_In_isShaded_65 (by decide) ?_
  refine lv_iadd S.1 S.2.1 d_In_isShaded_67 ?_
  refine lv_bipush (v := 100) S.1 S.2.1 d_In_isShaded_68 (by decide) ?_
  refine lv_idiv S.1 S.2.1 d_In_isShaded_70 (by decide) ?_
  refine lv_icmp_ge (tgt := 78) S.1 S.2.1 d_In_isShaded_71 (by decide) (fun c_71 => ?_) (fun c_71 => ?_)
  · refine lv_iconst (v := 0) S.1 S.2.1 d_In_isShaded_78 (by decide) ?_
    exact hp_retRz S hr hlk d_In_isShaded_79 (by decide) (q_is_f (by simp only [z_lt, z_le] at c_71 ⊢; exact Int.not_lt.mpr c_71))
  · refine lv_iconst (v := 1) S.1 S.2.1 d_In_isShaded_74 (by decide) ?_
    refine lv_goto (tgt := 79) S.1 S.2.1 d_In_isShaded_75 (by decide) ?_
    exact hp_retRz S hr hlk d_In_isShaded_79 (by decide) (q_is_t (by simp only [z_lt, z_le] at c_71 ⊢; exact Int.not_le.mp c_71))

set_option maxHeartbeats 4000000 in
set_option maxRecDepth 100000 in
theorem c_In_isHatched (l : Launch) (hk u vv : Int32)  : Met l y_In_isHatched (.code y_In_isHatched prog_3_method_6_code 7 (some .boolean) :: BIG) ({ frames := 0, cells := 0, slots := 0, locals := 0 }) (va_Pc [.int hk, .int u, .int vv] (fun _ => True)) (hp_QR (some (.int (q_is (q_ha hk u vv))))) 0 0 (fun _ => False) := by
  refine hp_enter (by decide) (Nat.le_of_ble_eq_true rfl) ?_
  intro p e s m below meth c ls S hr hlk hin hI hl
  have hl : lv_has ls 7 [(0, .int hk), (1, .int u), (2, .int vv)] := hl
  refine hp_cut (fun v => v = q_is (q_ly vv)) 17 [] (fun J => ?_) (fun a1 e_a1 => ?_)
  · refine lv_iload_n S.1 S.2.1 d_In_isHatched_0 rfl (lv_at hl 2 rfl) ?_
    refine lv_bipush (v := 7) S.1 S.2.1 d_In_isHatched_1 (by decide) ?_
    refine lv_icmp_eq (tgt := 12) S.1 S.2.1 d_In_isHatched_3 (by decide) (fun c_3 => ?_) (fun c_3 => ?_)
    · refine lv_iconst (v := 1) S.1 S.2.1 d_In_isHatched_12 (by decide) ?_
      refine lv_goto (tgt := 17) S.1 S.2.1 d_In_isHatched_13 (by decide) ?_
      exact J _ (q_is_t (Or.inl c_3))
    · refine lv_iload_n S.1 S.2.1 d_In_isHatched_6 rfl (lv_at hl 2 rfl) ?_
      refine lv_bipush (v := 8) S.1 S.2.1 d_In_isHatched_7 (by decide) ?_
      refine lv_icmp_ne (tgt := 16) S.1 S.2.1 d_In_isHatched_9 (by decide) (fun c_9 => ?_) (fun c_9 => ?_)
      · refine lv_iconst (v := 0) S.1 S.2.1 d_In_isHatched_16 (by decide) ?_
        exact J _ (q_is_f (fun q => q.elim c_3 c_9))
      · refine lv_iconst (v := 1) S.1 S.2.1 d_In_isHatched_12 (by decide) ?_
        refine lv_goto (tgt := 17) S.1 S.2.1 d_In_isHatched_13 (by decide) ?_
        exact J _ (q_is_t (Or.inr c_9))
  · refine lv_istore_n (lv' := [(3, .int a1), (0, .int hk), (1, .int u), (2, .int vv)]) S.1 S.2.1 d_In_isHatched_17 rfl hl (by decide) rfl (fun ls hl => ?_)
    refine hp_cut (fun v => v = q_is (q_ly u)) 35 [] (fun J => ?_) (fun a2 e_a2 => ?_)
    · refine lv_iload_n S.1 S.2.1 d_In_isHatched_18 rfl (lv_at hl 2 rfl) ?_
      refine lv_bipush (v := 7) S.1 S.2.1 d_In_isHatched_19 (by decide) ?_
      refine lv_icmp_eq (tgt := 30) S.1 S.2.1 d_In_isHatched_21 (by decide) (fun c_21 => ?_) (fun c_21 => ?_)
      · refine lv_iconst (v := 1) S.1 S.2.1 d_In_isHatched_30 (by decide) ?_
        refine lv_goto (tgt := 35) S.1 S.2.1 d_In_isHatched_31 (by decide) ?_
        exact J _ (q_is_t (Or.inl c_21))
      · refine lv_iload_n S.1 S.2.1 d_In_isHatched_24 rfl (lv_at hl 2 rfl) ?_
        refine lv_bipush (v := 8) S.1 S.2.1 d_In_isHatched_25 (by decide) ?_
        refine lv_icmp_ne (tgt := 34) S.1 S.2.1 d_In_isHatched_27 (by decide) (fun c_27 => ?_) (fun c_27 => ?_)
        · refine lv_iconst (v := 0) S.1 S.2.1 d_In_isHatched_34 (by decide) ?_
          exact J _ (q_is_f (fun q => q.elim c_21 c_27))
        · refine lv_iconst (v := 1) S.1 S.2.1 d_In_isHatched_30 (by decide) ?_
          refine lv_goto (tgt := 35) S.1 S.2.1 d_In_isHatched_31 (by decide) ?_
          exact J _ (q_is_t (Or.inr c_27))
    · refine lv_istore (lv' := [(4, .int a2), (3, .int a1), (0, .int hk), (1, .int u), (2, .int vv)]) S.1 S.2.1 d_In_isHatched_35 hl (by decide) rfl (fun ls hl => ?_)
      refine hp_cut (fun v => v = q_is (q_ri u vv)) 52 [] (fun J => ?_) (fun a3 e_a3 => ?_)
      · refine lv_iload_n S.1 S.2.1 d_In_isHatched_37 rfl (lv_at hl 3 rfl) ?_
        refine lv_iload_n S.1 S.2.1 d_In_isHatched_38 rfl (lv_at hl 4 rfl) ?_
        refine lv_iadd S.1 S.2.1 d_In_isHatched_39 ?_
        refine lv_bipush (v := 16) S.1 S.2.1 d_In_isHatched_40 (by decide) ?_
        refine lv_irem S.1 S.2.1 d_In_isHatched_42 (by decide) ?_
        refine lv_iconst (v := 2) S.1 S.2.1 d_In_isHatched_43 (by decide) ?_
        refine lv_icmp_ge (tgt := 51) S.1 S.2.1 d_In_isHatched_44 (by decide) (fun c_44 => ?_) (fun c_44 => ?_)
        · refine lv_iconst (v := 0) S.1 S.2.1 d_In_isHatched_51 (by decide) ?_
          exact J _ (q_is_f (by simp only [z_lt, z_le] at c_44 ⊢; exact Int.not_lt.mpr c_44))
        · refine lv_iconst (v := 1) S.1 S.2.1 d_In_isHatched_47 (by decide) ?_
          refine lv_goto (tgt := 52) S.1 S.2.1 d_In_isHatched_48 (by decide) ?_
          exact J _ (q_is_t (by simp only [z_lt, z_le] at c_44 ⊢; exact Int.not_le.mp c_44))
      · refine lv_istore (lv' := [(5, .int a3), (4, .int a2), (3, .int a1), (0, .int hk), (1, .int u), (2, .int vv)]) S.1 S.2.1 d_In_isHatched_52 hl (by decide) rfl (fun ls hl => ?_)
        refine hp_cut (fun v => v = q_is (q_fa u vv)) 72 [] (fun J => ?_) (fun a4 e_a4 => ?_)
        · refine lv_iload_n S.1 S.2.1 d_In_isHatched_54 rfl (lv_at hl 4 rfl) ?_
          refine lv_iload_n S.1 S.2.1 d_In_isHatched_55 rfl (lv_at hl 5 rfl) ?_
          refine lv_isub S.1 S.2.1 d_In_isHatched_56 ?_
          refine lv_bipush (v := 16) S.1 S.2.1 d_In_isHatched_57 (by decide) ?_
          refine lv_iadd S.1 S.2.1 d_In_isHatched_59 ?_
          refine lv_bipush (v := 16) S.1 S.2.1 d_In_isHatched_60 (by decide) ?_
          refine lv_irem S.1 S.2.1 d_In_isHatched_62 (by decide) ?_
          refine lv_iconst (v := 2) S.1 S.2.1 d_In_isHatched_63 (by decide) ?_
          refine lv_icmp_ge (tgt := 71) S.1 S.2.1 d_In_isHatched_64 (by decide) (fun c_64 => ?_) (fun c_64 => ?_)
          · refine lv_iconst (v := 0) S.1 S.2.1 d_In_isHatched_71 (by decide) ?_
            exact J _ (q_is_f (by simp only [z_lt, z_le] at c_64 ⊢; exact Int.not_lt.mpr c_64))
          · refine lv_iconst (v := 1) S.1 S.2.1 d_In_isHatched_67 (by decide) ?_
            refine lv_goto (tgt := 72) S.1 S.2.1 d_In_isHatched_68 (by decide) ?_
            exact J _ (q_is_t (by simp only [z_lt, z_le] at c_64 ⊢; exact Int.not_le.mp c_64))
        · refine lv_istore (lv' := [(6, .int a4), (5, .int a3), (4, .int a2), (3, .int a1), (0, .int hk), (1, .int u), (2, .int vv)]) S.1 S.2.1 d_In_isHatched_72 hl (by decide) rfl (fun ls hl => ?_)
          refine lv_iload_n S.1 S.2.1 d_In_isHatched_74 rfl (lv_at hl 4 rfl) ?_
          by_cases k_1 : hk = 1
          · refine lv_tableIn (off := 37) (tgt := 112) S.1 S.2.1 d_In_isHatched_75 (by rw [k_1]; decide) (by rw [k_1]; decide) (by rw [k_1]; rfl) (by decide) ?_
            refine lv_iload_n S.1 S.2.1 d_In_isHatched_112 rfl (lv_at hl 3 rfl) ?_
            exact hp_retRz S hr hlk d_In_isHatched_113 (by first | decide | (rw [e_a1]; exact q_is_n) | (rw [e_a2]; exact q_is_n) | (rw [e_a3]; exact q_is_n) | (rw [e_a4]; exact q_is_n)) (by rw [e_a1]; exact q_is_c ⟨fun q => Or.inl ⟨k_1, q⟩, fun q => by rcases q with q | q | q | q | q | q <;> first | exact q.2 | (exfalso; have := k_1.symm.trans q.1; revert this; decide)⟩)
          · by_cases k_2 : hk = 2
            · refine lv_tableIn (off := 39) (tgt := 114) S.1 S.2.1 d_In_isHatched_75 (by rw [k_2]; decide) (by rw [k_2]; decide) (by rw [k_2]; rfl) (by decide) ?_
              refine lv_iload S.1 S.2.1 d_In_isHatched_114 (lv_at hl 2 rfl) ?_
              exact hp_retRz S hr hlk d_In_isHatched_116 (by first | decide | (rw [e_a1]; exact q_is_n) | (rw [e_a2]; exact q_is_n) | (rw [e_a3]; exact q_is_n) | (rw [e_a4]; exact q_is_n)) (by rw [e_a2]; exact q_is_c ⟨fun q => Or.inr (Or.inl ⟨k_2, q⟩), fun q => by rcases q with q | q | q | q | q | q <;> first | exact q.2 | (exfalso; have := k_2.symm.trans q.1; revert this; decide)⟩)
            · by_cases k_3 : hk = 3
              · refine lv_tableIn (off := 42) (tgt := 117) S.1 S.2.1 d_In_isHatched_75 (by rw [k_3]; decide) (by rw [k_3]; decide) (by rw [k_3]; rfl) (by decide) ?_
                refine lv_iload S.1 S.2.1 d_In_isHatched_117 (lv_at hl 1 rfl) ?_
                exact hp_retRz S hr hlk d_In_isHatched_119 (by first | decide | (rw [e_a1]; exact q_is_n) | (rw [e_a2]; exact q_is_n) | (rw [e_a3]; exact q_is_n) | (rw [e_a4]; exact q_is_n)) (by rw [e_a3]; exact q_is_c ⟨fun q => Or.inr (Or.inr (Or.inl ⟨k_3, q⟩)), fun q => by rcases q with q | q | q | q | q | q <;> first | exact q.2 | (exfalso; have := k_3.symm.trans q.1; revert this; decide)⟩)
              · by_cases k_4 : hk = 4
                · refine lv_tableIn (off := 45) (tgt := 120) S.1 S.2.1 d_In_isHatched_75 (by rw [k_4]; decide) (by rw [k_4]; decide) (by rw [k_4]; rfl) (by decide) ?_
                  refine lv_iload S.1 S.2.1 d_In_isHatched_120 (lv_at hl 0 rfl) ?_
                  exact hp_retRz S hr hlk d_In_isHatched_122 (by first | decide | (rw [e_a1]; exact q_is_n) | (rw [e_a2]; exact q_is_n) | (rw [e_a3]; exact q_is_n) | (rw [e_a4]; exact q_is_n)) (by rw [e_a4]; exact q_is_c ⟨fun q => Or.inr (Or.inr (Or.inr (Or.inl ⟨k_4, q⟩))), fun q => by rcases q with q | q | q | q | q | q <;> first | exact q.2 | (exfalso; have := k_4.symm.trans q.1; revert this; decide)⟩)
                · by_cases k_5 : hk = 5
                  · refine lv_tableIn (off := 48) (tgt := 123) S.1 S.2.1 d_In_isHatched_75 (by rw [k_5]; decide) (by rw [k_5]; decide) (by rw [k_5]; rfl) (by decide) ?_
                    refine lv_iload_n S.1 S.2.1 d_In_isHatched_123 rfl (lv_at hl 3 rfl) ?_
                    refine lv_if_ne (tgt := 132) S.1 S.2.1 d_In_isHatched_124 (by decide) (fun c_124 => ?_) (fun c_124 => ?_)
                    · refine lv_iconst (v := 1) S.1 S.2.1 d_In_isHatched_132 (by decide) ?_
                      refine lv_goto (tgt := 137) S.1 S.2.1 d_In_isHatched_133 (by decide) ?_
                      exact hp_retRz S hr hlk d_In_isHatched_137 (by first | decide | (rw [e_a1]; exact q_is_n) | (rw [e_a2]; exact q_is_n) | (rw [e_a3]; exact q_is_n) | (rw [e_a4]; exact q_is_n)) (q_is_t (Or.inr (Or.inr (Or.inr (Or.inr (Or.inl ⟨k_5, Or.inl (q_is_ne.mp (e_a1 ▸ c_124))⟩))))))
                    · refine lv_iload S.1 S.2.1 d_In_isHatched_127 (lv_at hl 2 rfl) ?_
                      refine lv_if_eq (tgt := 136) S.1 S.2.1 d_In_isHatched_129 (by decide) (fun c_129 => ?_) (fun c_129 => ?_)
                      · refine lv_iconst (v := 0) S.1 S.2.1 d_In_isHatched_136 (by decide) ?_
                        exact hp_retRz S hr hlk d_In_isHatched_137 (by first | decide | (rw [e_a1]; exact q_is_n) | (rw [e_a2]; exact q_is_n) | (rw [e_a3]; exact q_is_n) | (rw [e_a4]; exact q_is_n)) (q_is_f (fun q => by rcases q with q | q | q | q | q | q <;> first | (exfalso; have := k_5.symm.trans q.1; revert this; decide) | exact q.2.elim (q_is_0.mp (e_a1 ▸ c_124)) (q_is_0.mp (e_a2 ▸ c_129))))
                      · refine lv_iconst (v := 1) S.1 S.2.1 d_In_isHatched_132 (by decide) ?_
                        refine lv_goto (tgt := 137) S.1 S.2.1 d_In_isHatched_133 (by decide) ?_
                        exact hp_retRz S hr hlk d_In_isHatched_137 (by first | decide | (rw [e_a1]; exact q_is_n) | (rw [e_a2]; exact q_is_n) | (rw [e_a3]; exact q_is_n) | (rw [e_a4]; exact q_is_n)) (q_is_t (Or.inr (Or.inr (Or.inr (Or.inr (Or.inl ⟨k_5, Or.inr (q_is_ne.mp (e_a2 ▸ c_129))⟩))))))
                  · by_cases k_6 : hk = 6
                    · refine lv_tableIn (off := 63) (tgt := 138) S.1 S.2.1 d_In_isHatched_75 (by rw [k_6]; decide) (by rw [k_6]; decide) (by rw [k_6]; rfl) (by decide) ?_
                      refine lv_iload S.1 S.2.1 d_In_isHatched_138 (lv_at hl 1 rfl) ?_
                      refine lv_if_ne (tgt := 148) S.1 S.2.1 d_In_isHatched_140 (by decide) (fun c_140 => ?_) (fun c_140 => ?_)
                      · refine lv_iconst (v := 1) S.1 S.2.1 d_In_isHatched_148 (by decide) ?_
                        refine lv_goto (tgt := 153) S.1 S.2.1 d_In_isHatched_149 (by decide) ?_
                        exact hp_retRz S hr hlk d_In_isHatched_153 (by first | decide | (rw [e_a1]; exact q_is_n) | (rw [e_a2]; exact q_is_n) | (rw [e_a3]; exact q_is_n) | (rw [e_a4]; exact q_is_n)) (q_is_t (Or.inr (Or.inr (Or.inr (Or.inr (Or.inr ⟨k_6, Or.inl (q_is_ne.mp (e_a3 ▸ c_140))⟩))))))
                      · refine lv_iload S.1 S.2.1 d_In_isHatched_143 (lv_at hl 0 rfl) ?_
                        refine lv_if_eq (tgt := 152) S.1 S.2.1 d_In_isHatched_145 (by decide) (fun c_145 => ?_) (fun c_145 => ?_)
                        · refine lv_iconst (v := 0) S.1 S.2.1 d_In_isHatched_152 (by decide) ?_
                          exact hp_retRz S hr hlk d_In_isHatched_153 (by first | decide | (rw [e_a1]; exact q_is_n) | (rw [e_a2]; exact q_is_n) | (rw [e_a3]; exact q_is_n) | (rw [e_a4]; exact q_is_n)) (q_is_f (fun q => by rcases q with q | q | q | q | q | q <;> first | (exfalso; have := k_6.symm.trans q.1; revert this; decide) | exact q.2.elim (q_is_0.mp (e_a3 ▸ c_140)) (q_is_0.mp (e_a4 ▸ c_145))))
                        · refine lv_iconst (v := 1) S.1 S.2.1 d_In_isHatched_148 (by decide) ?_
                          refine lv_goto (tgt := 153) S.1 S.2.1 d_In_isHatched_149 (by decide) ?_
                          exact hp_retRz S hr hlk d_In_isHatched_153 (by first | decide | (rw [e_a1]; exact q_is_n) | (rw [e_a2]; exact q_is_n) | (rw [e_a3]; exact q_is_n) | (rw [e_a4]; exact q_is_n)) (q_is_t (Or.inr (Or.inr (Or.inr (Or.inr (Or.inr ⟨k_6, Or.inr (q_is_ne.mp (e_a4 ▸ c_145))⟩))))))
                    · have n_1 : ¬ hk.toInt = 1 := lv_neT k_1 rfl
                      have n_2 : ¬ hk.toInt = 2 := lv_neT k_2 rfl
                      have n_3 : ¬ hk.toInt = 3 := lv_neT k_3 rfl
                      have n_4 : ¬ hk.toInt = 4 := lv_neT k_4 rfl
                      have n_5 : ¬ hk.toInt = 5 := lv_neT k_5 rfl
                      have n_6 : ¬ hk.toInt = 6 := lv_neT k_6 rfl
                      refine lv_tableOut (tgt := 154) S.1 S.2.1 d_In_isHatched_75 (by omega) (by decide) ?_
                      refine lv_iconst (v := 0) S.1 S.2.1 d_In_isHatched_154 (by decide) ?_
                      exact hp_retRz S hr hlk d_In_isHatched_155 (by first | decide | (rw [e_a1]; exact q_is_n) | (rw [e_a2]; exact q_is_n) | (rw [e_a3]; exact q_is_n) | (rw [e_a4]; exact q_is_n)) (q_is_f (fun q => by rcases q with q | q | q | q | q | q <;> first | exact k_1 q.1 | exact k_2 q.1 | exact k_3 q.1 | exact k_4 q.1 | exact k_5 q.1 | exact k_6 q.1))

