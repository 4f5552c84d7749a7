/-! Inks' lines. -/
def q_db (kd val vv : Int32) (u : Nat) : Bool := if kd = 2 then decide (q_sh (nI u) vv < (64 * val + 99) / 100) else decide (q_ha val (nI u) vv)
def q_td (u : Nat) : Int64 := ((-9223372036854775808 : Int64).toUInt64 >>> ((nI u).toInt64.toUInt64 &&& Int64.toUInt64 63)).toInt64
def q_dl (b : Nat → Bool) : Nat → Int64
  | 0 => 0
  | u + 1 => if b u = true then q_dl b u ||| q_td u else q_dl b u
def q_dx (d : Int64) : Int64 := d ||| (d.toUInt64 >>> ((16 : Int32).toInt64.toUInt64 &&& Int64.toUInt64 63)).toInt64
def q_dy (d : Int64) : Int64 := d ||| (d.toUInt64 >>> ((32 : Int32).toInt64.toUInt64 &&& Int64.toUInt64 63)).toInt64
/-- an ink's long of line vv -/
def q_il (kd val vv : Int32) : Int64 := if kd = 0 then -1 else if kd = 1 then 0 else q_dy (q_dx (q_dl (q_db kd val vv) 16))
theorem q_db_s {kd val vv : Int32} (hk : kd = 2) (u : Nat) : q_db kd val vv u = decide (q_sh (nI u) vv < (64 * val + 99) / 100) := if_pos hk
theorem q_db_h {kd val vv : Int32} (hk : ¬ kd = 2) (u : Nat) : q_db kd val vv u = decide (q_ha val (nI u) vv) := if_neg hk
theorem q_dl_t {b : Nat → Bool} {u : Nat} (h : b u = true) : q_dl b (u + 1) = q_dl b u ||| q_td u := if_pos h
theorem q_dl_f {b : Nat → Bool} {u : Nat} (h : ¬ b u = true) : q_dl b (u + 1) = q_dl b u := if_neg h
theorem nI_16 : nI 16 = 16 := rfl

set_option maxHeartbeats 4000000 in
set_option maxRecDepth 100000 in
theorem c_In_dotsOfLine (l : Launch) (kd val vv : Int32)  : Met l y_In_dotsOfLine (.code y_In_dotsOfLine prog_3_method_4_code 6 (some .long) :: BIG) ({ frames := 1, cells := 0, slots := 0, locals := 26 }) (va_Pc [.int kd, .int val, .int vv] (fun _ => True)) (hp_QR (some (.long (q_il kd val vv)))) 0 0 (fun _ => False) := by
  refine hp_enter (by decide) (Nat.le_of_ble_eq_true rfl) ?_
  intro p e s m below meth c ls S hr hlk hin hI hl
  have hl : lv_has ls 6 [(0, .int kd), (1, .int val), (2, .int vv)] := hl
  refine lv_iload_n S.1 S.2.1 d_In_dotsOfLine_0 rfl (lv_at hl 0 rfl) ?_
  refine lv_if_ne (tgt := 8) S.1 S.2.1 d_In_dotsOfLine_1 (by decide) (fun c_1 => ?_) (fun c_1 => ?_)
  · refine lv_iload_n S.1 S.2.1 d_In_dotsOfLine_8 rfl (lv_at hl 0 rfl) ?_
    refine lv_iconst (v := 1) S.1 S.2.1 d_In_dotsOfLine_9 (by decide) ?_
    refine lv_icmp_ne (tgt := 15) S.1 S.2.1 d_In_dotsOfLine_10 (by decide) (fun c_10 => ?_) (fun c_10 => ?_)
    · refine lv_lconst (v := 0) S.1 S.2.1 d_In_dotsOfLine_15 (by decide) ?_
      refine lv_lstore_n (lv' := [(3, .long 0), (0, .int kd), (1, .int val), (2, .int vv)]) S.1 S.2.1 d_In_dotsOfLine_16 rfl hl (by decide) rfl (fun ls hl => ?_)
      refine lv_iconst (v := 0) S.1 S.2.1 d_In_dotsOfLine_17 (by decide) ?_
      refine lv_istore (lv' := [(5, .int 0), (3, .long 0), (0, .int kd), (1, .int val), (2, .int vv)]) S.1 S.2.1 d_In_dotsOfLine_18 hl (by decide) rfl (fun ls hl => ?_)
      have LP : ∀ (n u : Nat) (ls : Array Slot), u + n = 16 → lv_has ls 6 [(5, .int (nI u)), (3, .long (q_dl (q_db kd val vv) u)), (0, .int kd), (1, .int val), (2, .int vv)] → W p l e ({ frames := 1, cells := 0, slots := 0, locals := 26 }) s m ([.int kd, .int val, .int vv] : List Value).toArray below meth c s.heap [] 0 0 (MQ below (hp_QR (some (.long (q_il kd val vv)))) ([.int kd, .int val, .int vv] : List Value).toArray s 0 0 (fun _ => False)) (F0 m 20 ls []) := by
        intro n
        induction n with
        | zero =>
          intro u ls hu hl
          obtain rfl : u = 16 := by omega
          refine lv_iload S.1 S.2.1 d_In_dotsOfLine_20 (lv_at hl 0 rfl) ?_
          refine lv_bipush (v := 16) S.1 S.2.1 d_In_dotsOfLine_22 (by decide) ?_
          refine lv_icmp_ge (tgt := 70) S.1 S.2.1 d_In_dotsOfLine_24 (by decide) (fun _ => ?_) (fun q => absurd (by decide) q)
          refine lv_lload_n S.1 S.2.1 d_In_dotsOfLine_70 rfl (lv_at hl 1 rfl) ?_
          refine lv_lload_n S.1 S.2.1 d_In_dotsOfLine_71 rfl (lv_at hl 1 rfl) ?_
          refine lv_bipush (v := 16) S.1 S.2.1 d_In_dotsOfLine_72 (by decide) ?_
          refine lv_lushr S.1 S.2.1 d_In_dotsOfLine_74 rfl ?_
          refine lv_lor S.1 S.2.1 d_In_dotsOfLine_75 ?_
          refine lv_lstore_n (lv' := [(3, .long _), (5, .int (nI 16)), (0, .int kd), (1, .int val), (2, .int vv)]) S.1 S.2.1 d_In_dotsOfLine_76 rfl hl (by decide) rfl (fun ls hl => ?_)
          refine lv_lload_n S.1 S.2.1 d_In_dotsOfLine_77 rfl (lv_at hl 0 rfl) ?_
          refine lv_lload_n S.1 S.2.1 d_In_dotsOfLine_78 rfl (lv_at hl 0 rfl) ?_
          refine lv_bipush (v := 32) S.1 S.2.1 d_In_dotsOfLine_79 (by decide) ?_
          refine lv_lushr S.1 S.2.1 d_In_dotsOfLine_81 rfl ?_
          refine lv_lor S.1 S.2.1 d_In_dotsOfLine_82 ?_
          exact hp_retRl S hr hlk d_In_dotsOfLine_83 (by unfold q_il; rw [if_neg c_1, if_neg c_10]; rfl)
        | succ n ih =>
          intro u ls hu hl
          refine lv_iload S.1 S.2.1 d_In_dotsOfLine_20 (lv_at hl 0 rfl) ?_
          refine lv_bipush (v := 16) S.1 S.2.1 d_In_dotsOfLine_22 (by decide) ?_
          refine lv_icmp_ge (tgt := 70) S.1 S.2.1 d_In_dotsOfLine_24 (by decide) (fun q => absurd q (nI_ge (a := u) (b := 16) (by omega) (by decide))) (fun _ => ?_)
          refine lv_iload_n S.1 S.2.1 d_In_dotsOfLine_27 rfl (lv_at hl 2 rfl) ?_
          refine lv_iconst (v := 2) S.1 S.2.1 d_In_dotsOfLine_28 (by decide) ?_
          refine lv_icmp_ne (tgt := 45) S.1 S.2.1 d_In_dotsOfLine_29 (by decide) (fun c_29 => ?_) (fun c_29 => ?_)
          · refine lv_iload_n S.1 S.2.1 d_In_dotsOfLine_45 rfl (lv_at hl 3 rfl) ?_
            refine lv_iload S.1 S.2.1 d_In_dotsOfLine_46 (lv_at hl 0 rfl) ?_
            refine lv_iload_n S.1 S.2.1 d_In_dotsOfLine_48 rfl (lv_at hl 4 rfl) ?_
            refine hp_doneR (hp_runS S zz0 (c_In_isHatched l _ _ _) l_In_35 (hp_pre0 _) (by decide) rfl hl.1 rfl (nl rfl) d_In_dotsOfLine_49 (by decide)) ?_
            refine lv_if_eq (tgt := 64) S.1 S.2.1 d_In_dotsOfLine_52 (by decide) (fun c_52 => ?_) (fun c_52 => ?_)
            · refine lv_iinc (v := nI (u + 1)) (lv' := [(5, .int (nI (u + 1))), (3, .long (q_dl (q_db kd val vv) u)), (0, .int kd), (1, .int val), (2, .int vv)]) S.1 S.2.1 d_In_dotsOfLine_64 hl (k := 0) rfl (nI_1 _) (by decide) rfl (fun ls hl => ?_)
              refine lv_goto (tgt := 20) S.1 S.2.1 d_In_dotsOfLine_67 (by decide) ?_
              exact ih (u + 1) ls (by omega) (by rw [q_dl_f (by rw [q_db_h c_29, decide_eq_true_eq]; exact q_is_0.mp c_52)]; exact lv_sub hl [0, 1, 2, 3, 4] rfl)
            · refine lv_lload_n S.1 S.2.1 d_In_dotsOfLine_55 rfl (lv_at hl 1 rfl) ?_
              refine lv_ldc2 (v := (-9223372036854775808)) S.1 S.2.1 S.2.2.2.1 (S.2.2.2.2 _ t_101) d_In_dotsOfLine_56 ?_
              refine lv_iload S.1 S.2.1 d_In_dotsOfLine_59 (lv_at hl 0 rfl) ?_
              refine lv_lushr S.1 S.2.1 d_In_dotsOfLine_61 rfl ?_
              refine lv_lor S.1 S.2.1 d_In_dotsOfLine_62 ?_
              refine lv_lstore_n (lv' := [(3, .long _), (5, .int (nI u)), (0, .int kd), (1, .int val), (2, .int vv)]) S.1 S.2.1 d_In_dotsOfLine_63 rfl hl (by decide) rfl (fun ls hl => ?_)
              refine lv_iinc (v := nI (u + 1)) (lv' := [(5, .int (nI (u + 1))), (3, .long _), (0, .int kd), (1, .int val), (2, .int vv)]) S.1 S.2.1 d_In_dotsOfLine_64 hl (k := 1) rfl (nI_1 _) (by decide) rfl (fun ls hl => ?_)
              refine lv_goto (tgt := 20) S.1 S.2.1 d_In_dotsOfLine_67 (by decide) ?_
              exact ih (u + 1) ls (by omega) (by rw [q_dl_t (by rw [q_db_h c_29]; exact decide_eq_true (q_is_ne.mp c_52))]; exact lv_sub hl [0, 1, 2, 3, 4] rfl)
          · refine lv_iload_n S.1 S.2.1 d_In_dotsOfLine_32 rfl (lv_at hl 3 rfl) ?_
            refine lv_iload S.1 S.2.1 d_In_dotsOfLine_33 (lv_at hl 0 rfl) ?_
            refine lv_iload_n S.1 S.2.1 d_In_dotsOfLine_35 rfl (lv_at hl 4 rfl) ?_
            refine hp_doneR (hp_runS S zz0 (c_In_isShaded l _ _ _) l_In_32 (hp_pre0 _) (by decide) rfl hl.1 rfl (nl rfl) d_In_dotsOfLine_36 (by decide)) ?_
            refine lv_if_eq (tgt := 64) S.1 S.2.1 d_In_dotsOfLine_39 (by decide) (fun c_39 => ?_) (fun c_39 => ?_)
            · refine lv_iinc (v := nI (u + 1)) (lv' := [(5, .int (nI (u + 1))), (3, .long (q_dl (q_db kd val vv) u)), (0, .int kd), (1, .int val), (2, .int vv)]) S.1 S.2.1 d_In_dotsOfLine_64 hl (k := 0) rfl (nI_1 _) (by decide) rfl (fun ls hl => ?_)
              refine lv_goto (tgt := 20) S.1 S.2.1 d_In_dotsOfLine_67 (by decide) ?_
              exact ih (u + 1) ls (by omega) (by rw [q_dl_f (by rw [q_db_s c_29, decide_eq_true_eq]; exact q_is_0.mp c_39)]; exact lv_sub hl [0, 1, 2, 3, 4] rfl)
            · refine lv_goto (tgt := 55) S.1 S.2.1 d_In_dotsOfLine_42 (by decide) ?_
              refine lv_lload_n S.1 S.2.1 d_In_dotsOfLine_55 rfl (lv_at hl 1 rfl) ?_
              refine lv_ldc2 (v := (-9223372036854775808)) S.1 S.2.1 S.2.2.2.1 (S.2.2.2.2 _ t_101) d_In_dotsOfLine_56 ?_
              refine lv_iload S.1 S.2.1 d_In_dotsOfLine_59 (lv_at hl 0 rfl) ?_
              refine lv_lushr S.1 S.2.1 d_In_dotsOfLine_61 rfl ?_
              refine lv_lor S.1 S.2.1 d_In_dotsOfLine_62 ?_
              refine lv_lstore_n (lv' := [(3, .long _), (5, .int (nI u)), (0, .int kd), (1, .int val), (2, .int vv)]) S.1 S.2.1 d_In_dotsOfLine_63 rfl hl (by decide) rfl (fun ls hl => ?_)
              refine lv_iinc (v := nI (u + 1)) (lv' := [(5, .int (nI (u + 1))), (3, .long _), (0, .int kd), (1, .int val), (2, .int vv)]) S.1 S.2.1 d_In_dotsOfLine_64 hl (k := 1) rfl (nI_1 _) (by decide) rfl (fun ls hl => ?_)
              refine lv_goto (tgt := 20) S.1 S.2.1 d_In_dotsOfLine_67 (by decide) ?_
              exact ih (u + 1) ls (by omega) (by rw [q_dl_t (by rw [q_db_s c_29]; exact decide_eq_true (q_is_ne.mp c_39))]; exact lv_sub hl [0, 1, 2, 3, 4] rfl)
      exact LP 16 0 ls rfl (lv_sub hl [0, 1, 2, 3, 4] rfl)
    · refine lv_lconst (v := 0) S.1 S.2.1 d_In_dotsOfLine_13 (by decide) ?_
      exact hp_retRl S hr hlk d_In_dotsOfLine_14 (by unfold q_il; rw [if_neg c_1, if_pos c_10])
  · refine lv_ldc2 (v := (-1)) S.1 S.2.1 S.2.2.2.1 (S.2.2.2.2 _ t_94) d_In_dotsOfLine_4 ?_
    exact hp_retRl S hr hlk d_In_dotsOfLine_7 (by unfold q_il; rw [if_pos c_1])

