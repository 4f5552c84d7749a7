/-! The JDK's bitCount and fill; pictures turned and enlarged. -/
def q_us (x : Int64) (n : Int32) : Int64 := (x.toUInt64 >>> (n.toInt64.toUInt64 &&& Int64.toUInt64 63)).toInt64
def q_b1 (x : Int64) : Int64 := x - (q_us x 1 &&& 6148914691236517205)
def q_b2 (x : Int64) : Int64 := (x &&& 3689348814741910323) + (q_us x 2 &&& 3689348814741910323)
def q_b3 (x : Int64) : Int64 := (x + q_us x 4) &&& 1085102592571150095
def q_b4 (x : Int64) : Int64 := x + q_us x 8
def q_b5 (x : Int64) : Int64 := x + q_us x 16
def q_b6 (x : Int64) : Int64 := x + q_us x 32
def q_bc (x : Int64) : Int32 := (q_b6 (q_b5 (q_b4 (q_b3 (q_b2 (q_b1 x)))))).toInt32 &&& 127
def q_bs (f : Nat → Int64) : Nat → Int32
  | 0 => 0
  | n + 1 => q_bs f n + q_bc (f n)
def q_fl (f : Nat → Int32) (x : Int32) (k : Nat) : Nat → Int32 := fun i => if i < k then x else f i
theorem q_fl_0 (f : Nat → Int32) (x : Int32) : q_fl f x 0 = f := by
  funext i
  exact if_neg (by omega)
theorem q_fl_s (f : Nat → Int32) (x : Int32) (k : Nat) : upd (q_fl f x k) k x = q_fl f x (k + 1) := by
  funext i
  unfold upd q_fl
  by_cases h : i = k
  · rw [if_pos h, if_pos (by omega)]
  · rw [if_neg h]
    by_cases h2 : i < k
    · rw [if_pos h2, if_pos (by omega)]
    · rw [if_neg h2, if_neg (by omega)]
abbrev q_pb (d wd : Int32) (f : Nat → Int64) (i j : Int32) : Prop := ¬ q_wa d wd f j (i / 64) &&& q_dot i = 0
def q_bl (d wd : Int32) (f : Nat → Int64) (i j : Int32) : Nat → Int64 := q_sw d wd f j (i / 64) (q_wa d wd f j (i / 64) ||| q_dot i)
def q_bt (tn w d wd : Int32) (f : Nat → Int64) (i j : Int32) : Nat → Int64 := if tn = 1 then q_bl d wd f j (d - 1 - i) else if tn = 2 then q_bl d wd f (w - 1 - i) (d - 1 - j) else q_bl d wd f (w - 1 - j) i

set_option maxHeartbeats 4000000 in
set_option maxRecDepth 100000 in
theorem c_JL_bitCount (l : Launch) (x : Int64)  : Met l y_JL_bitCount (.code y_JL_bitCount prog_14_method_50_code 2 (some .int) :: BIG) ({ frames := 0, cells := 0, slots := 0, locals := 0 }) (va_Pc [.long x] (fun _ => True)) (hp_QR (some (.int (q_bc x)))) 0 0 (fun _ => False) := by
  refine hp_enterF (by decide +kernel) (Nat.le_of_ble_eq_true rfl) ?_
  intro p e s m below meth c ls S hr hlk hin hI hl
  have hl : lv_has ls 2 [(0, .long x)] := hl
  refine lv_lload_n S.1 S.2.1 d_JL_bitCount_0 rfl (lv_at hl 0 rfl) ?_
  refine lv_lload_n S.1 S.2.1 d_JL_bitCount_1 rfl (lv_at hl 0 rfl) ?_
  refine lv_iconst (v := 1) S.1 S.2.1 d_JL_bitCount_2 (by decide) ?_
  refine lv_lushr S.1 S.2.1 d_JL_bitCount_3 rfl ?_
  refine lv_ldc2 (v := 6148914691236517205) S.1 S.2.1 S.2.2.2.1 (S.2.2.2.2 _ t_423) d_JL_bitCount_4 ?_
  refine lv_land S.1 S.2.1 d_JL_bitCount_7 ?_
  refine lv_lsub S.1 S.2.1 d_JL_bitCount_8 ?_
  refine lv_topl (fun y1 ey1 => ?_)
  refine lv_lstore_n (lv' := [(0, .long y1)]) S.1 S.2.1 d_JL_bitCount_9 rfl hl (by decide) rfl (fun ls hl => ?_)
  refine lv_lload_n S.1 S.2.1 d_JL_bitCount_10 rfl (lv_at hl 0 rfl) ?_
  refine lv_ldc2 (v := 3689348814741910323) S.1 S.2.1 S.2.2.2.1 (S.2.2.2.2 _ t_424) d_JL_bitCount_11 ?_
  refine lv_land S.1 S.2.1 d_JL_bitCount_14 ?_
  refine lv_lload_n S.1 S.2.1 d_JL_bitCount_15 rfl (lv_at hl 0 rfl) ?_
  refine lv_iconst (v := 2) S.1 S.2.1 d_JL_bitCount_16 (by decide) ?_
  refine lv_lushr S.1 S.2.1 d_JL_bitCount_17 rfl ?_
  refine lv_ldc2 (v := 3689348814741910323) S.1 S.2.1 S.2.2.2.1 (S.2.2.2.2 _ t_424) d_JL_bitCount_18 ?_
  refine lv_land S.1 S.2.1 d_JL_bitCount_21 ?_
  refine lv_ladd S.1 S.2.1 d_JL_bitCount_22 ?_
  refine lv_topl (fun y2 ey2 => ?_)
  refine lv_lstore_n (lv' := [(0, .long y2)]) S.1 S.2.1 d_JL_bitCount_23 rfl hl (by decide) rfl (fun ls hl => ?_)
  refine lv_lload_n S.1 S.2.1 d_JL_bitCount_24 rfl (lv_at hl 0 rfl) ?_
  refine lv_lload_n S.1 S.2.1 d_JL_bitCount_25 rfl (lv_at hl 0 rfl) ?_
  refine lv_iconst (v := 4) S.1 S.2.1 d_JL_bitCount_26 (by decide) ?_
  refine lv_lushr S.1 S.2.1 d_JL_bitCount_27 rfl ?_
  refine lv_ladd S.1 S.2.1 d_JL_bitCount_28 ?_
  refine lv_ldc2 (v := 1085102592571150095) S.1 S.2.1 S.2.2.2.1 (S.2.2.2.2 _ t_425) d_JL_bitCount_29 ?_
  refine lv_land S.1 S.2.1 d_JL_bitCount_32 ?_
  refine lv_topl (fun y3 ey3 => ?_)
  refine lv_lstore_n (lv' := [(0, .long y3)]) S.1 S.2.1 d_JL_bitCount_33 rfl hl (by decide) rfl (fun ls hl => ?_)
  refine lv_lload_n S.1 S.2.1 d_JL_bitCount_34 rfl (lv_at hl 0 rfl) ?_
  refine lv_lload_n S.1 S.2.1 d_JL_bitCount_35 rfl (lv_at hl 0 rfl) ?_
  refine lv_bipush (v := 8) S.1 S.2.1 d_JL_bitCount_36 (by decide) ?_
  refine lv_lushr S.1 S.2.1 d_JL_bitCount_38 rfl ?_
  refine lv_ladd S.1 S.2.1 d_JL_bitCount_39 ?_
  refine lv_topl (fun y4 ey4 => ?_)
  refine lv_lstore_n (lv' := [(0, .long y4)]) S.1 S.2.1 d_JL_bitCount_40 rfl hl (by decide) rfl (fun ls hl => ?_)
  refine lv_lload_n S.1 S.2.1 d_JL_bitCount_41 rfl (lv_at hl 0 rfl) ?_
  refine lv_lload_n S.1 S.2.1 d_JL_bitCount_42 rfl (lv_at hl 0 rfl) ?_
  refine lv_bipush (v := 16) S.1 S.2.1 d_JL_bitCount_43 (by decide) ?_
  refine lv_lushr S.1 S.2.1 d_JL_bitCount_45 rfl ?_
  refine lv_ladd S.1 S.2.1 d_JL_bitCount_46 ?_
  refine lv_topl (fun y5 ey5 => ?_)
  refine lv_lstore_n (lv' := [(0, .long y5)]) S.1 S.2.1 d_JL_bitCount_47 rfl hl (by decide) rfl (fun ls hl => ?_)
  refine lv_lload_n S.1 S.2.1 d_JL_bitCount_48 rfl (lv_at hl 0 rfl) ?_
  refine lv_lload_n S.1 S.2.1 d_JL_bitCount_49 rfl (lv_at hl 0 rfl) ?_
  refine lv_bipush (v := 32) S.1 S.2.1 d_JL_bitCount_50 (by decide) ?_
  refine lv_lushr S.1 S.2.1 d_JL_bitCount_52 rfl ?_
  refine lv_ladd S.1 S.2.1 d_JL_bitCount_53 ?_
  refine lv_topl (fun y6 ey6 => ?_)
  refine lv_lstore_n (lv' := [(0, .long y6)]) S.1 S.2.1 d_JL_bitCount_54 rfl hl (by decide) rfl (fun ls hl => ?_)
  refine lv_lload_n S.1 S.2.1 d_JL_bitCount_55 rfl (lv_at hl 0 rfl) ?_
  refine lv_l2i S.1 S.2.1 d_JL_bitCount_56 rfl ?_
  refine lv_bipush (v := 127) S.1 S.2.1 d_JL_bitCount_57 (by decide) ?_
  refine lv_iand S.1 S.2.1 d_JL_bitCount_59 ?_
  exact hp_retRi S hr hlk d_JL_bitCount_60 (by rw [ey6, ey5, ey4, ey3, ey2, ey1]; rfl)

set_option maxHeartbeats 4000000 in
set_option maxRecDepth 100000 in
theorem c_JA_fill (l : Launch) (dC : Nat → ClassId) (dI : Nat → Nat → Nat) (cA : Nat → ClassId) (A : Nat → Prop) (h : hp_T) (a : Nat) (x : Int32) (n : Nat) (f : Nat → Int32) (hn : n ≤ 65536) (h_a : h a = some (k_in (cA 0) n f)) : Met l y_JA_fill (.code y_JA_fill prog_19_method_103_code 4 none :: BIG) ({ frames := 0, cells := 0, slots := 0, locals := 0 }) (va_Pc [.ref a, .int x] (hp_I (gg dC dI cA) A h)) (hp_QW (gg dC dI cA) A hp_mv (fun _ h' => h' = hp_up h a (k_in (cA 0) n (q_fl f x n)))) 0 0 A := by
  refine hp_enterF (by decide +kernel) (Nat.le_of_ble_eq_true rfl) ?_
  intro p e s m below meth c ls S hr hlk hin hI hl
  have hl : lv_has ls 4 [(0, .ref a), (1, .int x)] := hl
  have hJ := hI.J
  refine lv_iconst (v := 0) S.1 S.2.1 d_JA_fill_0 (by decide) ?_
  refine lv_istore_n (lv' := [(2, .int 0), (0, .ref a), (1, .int x)]) S.1 S.2.1 d_JA_fill_1 rfl hl (by decide) rfl (fun ls hl => ?_)
  refine lv_aload_n S.1 S.2.1 d_JA_fill_2 rfl (lv_at hl 1 rfl) ?_
  refine hp_alen S hJ 0 h_a rfl d_JA_fill_3 ?_
  refine lv_istore_n (lv' := [(3, .int (nI n)), (2, .int 0), (0, .ref a), (1, .int x)]) S.1 S.2.1 d_JA_fill_4 rfl hl (by decide) rfl (fun ls hl => ?_)
  have LP : ∀ (n_ i : Nat) (hc : hp_T) (H : Heap) (locs : List Loc) (ls : Array Slot), i + n_ = n → hc = hp_up h a (k_in (cA 0) n (q_fl f x i)) → hp_J (gg dC dI cA) A hc s H locs → lv_has ls 4 [(2, .int (nI i)), (3, .int (nI n)), (0, .ref a), (1, .int x)] → W p l e ({ frames := 0, cells := 0, slots := 0, locals := 0 }) s m ([.ref a, .int x] : List Value).toArray below meth c H locs 0 0 (MQ below (hp_QW (gg dC dI cA) A hp_mv (fun _ h' => h' = hp_up h a (k_in (cA 0) n (q_fl f x n)))) ([.ref a, .int x] : List Value).toArray s 0 0 A) (F0 m 5 ls []) := by
    intro n_
    induction n_ with
    | zero =>
      intro i hc H locs ls hu_ ehc hJ hl
      have h_a : hc a = some (k_in (cA 0) n (q_fl f x i)) := by rw [ehc]; exact hp_up_s _ _ _
      refine lv_iload_n S.1 S.2.1 d_JA_fill_5 rfl (lv_at hl 0 rfl) ?_
      refine lv_iload_n S.1 S.2.1 d_JA_fill_6 rfl (lv_at hl 1 rfl) ?_
      obtain ⟨e_n, -⟩ : i = n ∧ True := ⟨by omega, trivial⟩
      refine lv_icmp_ge (tgt := 20) S.1 S.2.1 d_JA_fill_7 (by decide) (fun _ => ?_) (fun q => absurd (by rw [e_n]; exact Int32.le_refl _) q)
      exact hp_retWv S hJ hr hlk d_JA_fill_20 (by decide) (by rw [ehc, e_n])
    | succ n_ ih =>
      intro i hc H locs ls hu_ ehc hJ hl
      have h_a : hc a = some (k_in (cA 0) n (q_fl f x i)) := by rw [ehc]; exact hp_up_s _ _ _
      refine lv_iload_n S.1 S.2.1 d_JA_fill_5 rfl (lv_at hl 0 rfl) ?_
      refine lv_iload_n S.1 S.2.1 d_JA_fill_6 rfl (lv_at hl 1 rfl) ?_
      refine lv_icmp_ge (tgt := 20) S.1 S.2.1 d_JA_fill_7 (by decide) (fun q => absurd q (nI_ge (a := i) (b := n) (by omega) (by omega))) (fun _ => ?_)
      refine lv_aload_n S.1 S.2.1 d_JA_fill_10 rfl (lv_at hl 2 rfl) ?_
      refine lv_iload_n S.1 S.2.1 d_JA_fill_11 rfl (lv_at hl 0 rfl) ?_
      refine lv_iload_n S.1 S.2.1 d_JA_fill_12 rfl (lv_at hl 3 rfl) ?_
      refine hp_iast S hJ 0 h_a rfl (vp_in_nI (by omega) (by omega)) d_JA_fill_13 (fun H locs hJ => ?_)
      rw [nI_clamp (by omega), q_fl_s, ehc, hp_up_up] at hJ
      refine lv_iinc (v := nI (i + 1)) (lv' := [(2, .int (nI (i + 1))), (3, .int (nI n)), (0, .ref a), (1, .int x)]) S.1 S.2.1 d_JA_fill_14 hl (k := 0) rfl (nI_1 _) (by decide) rfl (fun ls hl => ?_)
      refine lv_goto (tgt := 5) S.1 S.2.1 d_JA_fill_17 (by decide) ?_
      exact ih (i + 1) _ _ _ ls (by omega) rfl hJ (lv_sub hl [0, 1, 2, 3] rfl)
  exact LP n 0 _ _ _ ls (by omega) (by rw [q_fl_0, hp_up_same h_a]) hJ (lv_sub hl [1, 0, 2, 3] rfl)

set_option maxHeartbeats 4000000 in
set_option maxRecDepth 100000 in
theorem c_Pc_blacks (l : Launch) (dC : Nat → ClassId) (dI : Nat → Nat → Nat) (cA : Nat → ClassId) (A : Nat → Prop) (h : hp_T) (t b : Nat) (w d tl wd : Int32) (n : Nat) (f : Nat → Int64) (hn : n ≤ 65536) (h_t : h t = some (k_Pc w d tl wd b)) (h_b : h b = some (k_lo (cA 1) n f)) : Met l y_Pc_blacks (.code y_Pc_blacks prog_5_method_3_code 3 (some .int) :: BIG) ({ frames := 1, cells := 0, slots := 0, locals := 21 }) (va_Pc [.ref t] (hp_I (gg dC dI cA) A h)) (hp_QR (some (.int (q_bs f n)))) 0 0 (fun _ => False) := by
  refine hp_enter (by decide) (Nat.le_of_ble_eq_true rfl) ?_
  intro p e s m below meth c ls S hr hlk hin hI hl
  have hl : lv_has ls 3 [(0, .ref t)] := hl
  have hJ := hI.J
  refine lv_iconst (v := 0) S.1 S.2.1 d_Pc_blacks_0 (by decide) ?_
  refine lv_istore_n (lv' := [(1, .int 0), (0, .ref t)]) S.1 S.2.1 d_Pc_blacks_1 rfl hl (by decide) rfl (fun ls hl => ?_)
  refine lv_iconst (v := 0) S.1 S.2.1 d_Pc_blacks_2 (by decide) ?_
  refine lv_istore_n (lv' := [(2, .int 0), (1, .int 0), (0, .ref t)]) S.1 S.2.1 d_Pc_blacks_3 rfl hl (by decide) rfl (fun ls hl => ?_)
  have LP : ∀ (n_ i : Nat)  (ls : Array Slot), i + n_ = n → lv_has ls 3 [(2, .int (nI i)), (1, .int (q_bs f i)), (0, .ref t)] → W p l e ({ frames := 1, cells := 0, slots := 0, locals := 21 }) s m ([.ref t] : List Value).toArray below meth c s.heap [] 0 0 (MQ below (hp_QR (some (.int (q_bs f n)))) ([.ref t] : List Value).toArray s 0 0 (fun _ => False)) (F0 m 4 ls []) := by
    intro n_
    induction n_ with
    | zero =>
      intro i  ls hu_  hl
      refine lv_iload_n S.1 S.2.1 d_Pc_blacks_4 rfl (lv_at hl 0 rfl) ?_
      refine lv_aload_n S.1 S.2.1 d_Pc_blacks_5 rfl (lv_at hl 2 rfl) ?_
      refine hp_get S zz hJ h_t f_Pc_30 rfl d_Pc_blacks_6 ?_
      refine hp_alen S hJ 1 h_b rfl d_Pc_blacks_9 ?_
      obtain ⟨e_n, -⟩ : i = n ∧ True := ⟨by omega, trivial⟩
      refine lv_icmp_ge (tgt := 31) S.1 S.2.1 d_Pc_blacks_10 (by decide) (fun _ => ?_) (fun q => absurd (by rw [e_n]; exact Int32.le_refl _) q)
      refine lv_iload_n S.1 S.2.1 d_Pc_blacks_31 rfl (lv_at hl 1 rfl) ?_
      exact hp_retRi S hr hlk d_Pc_blacks_32 (by rw [e_n])
    | succ n_ ih =>
      intro i  ls hu_  hl
      refine lv_iload_n S.1 S.2.1 d_Pc_blacks_4 rfl (lv_at hl 0 rfl) ?_
      refine lv_aload_n S.1 S.2.1 d_Pc_blacks_5 rfl (lv_at hl 2 rfl) ?_
      refine hp_get S zz hJ h_t f_Pc_30 rfl d_Pc_blacks_6 ?_
      refine hp_alen S hJ 1 h_b rfl d_Pc_blacks_9 ?_
      refine lv_icmp_ge (tgt := 31) S.1 S.2.1 d_Pc_blacks_10 (by decide) (fun q => absurd q (nI_ge (a := i) (b := n) (by omega) (by omega))) (fun _ => ?_)
      refine lv_iload_n S.1 S.2.1 d_Pc_blacks_13 rfl (lv_at hl 1 rfl) ?_
      refine lv_aload_n S.1 S.2.1 d_Pc_blacks_14 rfl (lv_at hl 2 rfl) ?_
      refine hp_get S zz hJ h_t f_Pc_30 rfl d_Pc_blacks_15 ?_
      refine lv_iload_n S.1 S.2.1 d_Pc_blacks_18 rfl (lv_at hl 0 rfl) ?_
      refine hp_lald S hJ 1 h_b rfl (vp_in_nI (by omega) (by omega)) d_Pc_blacks_19 ?_
      rw [nI_clamp (by omega)]
      refine hp_doneR (hp_runS S zz0 (c_JL_bitCount l _) l_Pc_42 (hp_pre0 _) (by decide) rfl hl.1 rfl (nl rfl) d_Pc_blacks_20 (by decide)) ?_
      refine lv_iadd S.1 S.2.1 d_Pc_blacks_23 ?_
      refine lv_istore_n (lv' := [(1, .int ((q_bs f i) + (q_bc (f i)))), (2, .int (nI i)), (0, .ref t)]) S.1 S.2.1 d_Pc_blacks_24 rfl hl (by decide) rfl (fun ls hl => ?_)
      refine lv_iinc (v := nI (i + 1)) (lv' := [(2, .int (nI (i + 1))), (1, .int ((q_bs f i) + (q_bc (f i)))), (0, .ref t)]) S.1 S.2.1 d_Pc_blacks_25 hl (k := 1) rfl (nI_1 _) (by decide) rfl (fun ls hl => ?_)
      refine lv_goto (tgt := 4) S.1 S.2.1 d_Pc_blacks_28 (by decide) ?_
      exact ih (i + 1) ls (by omega) (lv_sub hl [0, 1, 2] rfl)
  exact LP n 0 ls (by omega) (lv_sub hl [0, 1, 2] rfl)

set_option maxHeartbeats 4000000 in
set_option maxRecDepth 100000 in
theorem c_Pc_blackenTurned (l : Launch) (dC : Nat → ClassId) (dI : Nat → Nat → Nat) (cA : Nat → ClassId) (A : Nat → Prop) (h : hp_T) (t b : Nat) (w d tl wd : Int32) (n : Nat) (f : Nat → Int64) (tn i j : Int32) (h_t : h t = some (k_Pc w d tl wd b)) (h_b : h b = some (k_lo (cA 1) n f)) (hix : ∀ j k : Int32, 0 ≤ j ∧ j < d ∧ 0 ≤ k ∧ k < wd → vp_in (j * wd + k) n) : Met l y_Pc_blackenTurned (.code y_Pc_blackenTurned prog_5_method_7_code 4 none :: BIG) ({ frames := 3, cells := 0, slots := 0, locals := 68 }) (va_Pc [.ref t, .int tn, .int i, .int j] (hp_I (gg dC dI cA) A h)) (hp_QW (gg dC dI cA) A hp_mv (fun _ h' => h' = hp_up h b (k_lo (cA 1) n (q_bt tn w d wd f i j)))) 0 0 A := by
  refine hp_enter (by decide) (Nat.le_of_ble_eq_true rfl) ?_
  intro p e s m below meth c ls S hr hlk hin hI hl
  have hl : lv_has ls 4 [(0, .ref t), (1, .int tn), (2, .int i), (3, .int j)] := hl
  have hJ := hI.J
  refine lv_iload_n S.1 S.2.1 d_Pc_blackenTurned_0 rfl (lv_at hl 1 rfl) ?_
  by_cases k_1 : tn = 1
  · refine lv_lookup (off := 27) (tgt := 28) S.1 S.2.1 d_Pc_blackenTurned_1 (by decide) (by rw [k_1]; rfl) (by decide) ?_
    refine lv_aload_n S.1 S.2.1 d_Pc_blackenTurned_28 rfl (lv_at hl 0 rfl) ?_
    refine lv_iload_n S.1 S.2.1 d_Pc_blackenTurned_29 rfl (lv_at hl 3 rfl) ?_
    refine lv_aload_n S.1 S.2.1 d_Pc_blackenTurned_30 rfl (lv_at hl 0 rfl) ?_
    refine hp_get S zz hJ h_t f_Pc_21 rfl d_Pc_blackenTurned_31 ?_
    refine lv_iconst (v := 1) S.1 S.2.1 d_Pc_blackenTurned_34 (by decide) ?_
    refine lv_isub S.1 S.2.1 d_Pc_blackenTurned_35 ?_
    refine lv_iload_n S.1 S.2.1 d_Pc_blackenTurned_36 rfl (lv_at hl 2 rfl) ?_
    refine lv_isub S.1 S.2.1 d_Pc_blackenTurned_37 ?_
    refine hp_doneWv hJ (hp_runV S zz0 (c_Pc_blacken l dC dI cA A h t b w d tl wd n f _ _ h_t h_b hix) l_Pc_68 (hJ.preV _ h_t rfl) (by decide) rfl hl.1 rfl (nl rfl) d_Pc_blackenTurned_38 (by decide)) (fun h1 H locs eh1 hJ => ?_)
    have h0_b := h_b
    have h_t : h1 t = some (.inr (4, [.int w, .int d, .int tl, .int wd, .ref b])) := by rw [eh1]; exact hp_up_k (hp_ne h_t h0_b (show ((0, 4) : Nat × Nat) ≠ (2, 0) by decide)) h_t
    have h_b : h1 b = some (k_lo (cA 1) n (q_bl d wd f j (d - 1 - i))) := by rw [eh1]; exact hp_up_s _ _ _
    refine lv_goto (tgt := 80) S.1 S.2.1 d_Pc_blackenTurned_41 (by decide) ?_
    exact hp_retWv S hJ hr hlk d_Pc_blackenTurned_80 (by decide) (by unfold q_bt; rw [if_pos k_1]; exact eh1)
  · by_cases k_2 : tn = 2
    · refine lv_lookup (off := 43) (tgt := 44) S.1 S.2.1 d_Pc_blackenTurned_1 (by decide) (by rw [k_2]; rfl) (by decide) ?_
      refine lv_aload_n S.1 S.2.1 d_Pc_blackenTurned_44 rfl (lv_at hl 0 rfl) ?_
      refine lv_aload_n S.1 S.2.1 d_Pc_blackenTurned_45 rfl (lv_at hl 0 rfl) ?_
      refine hp_get S zz hJ h_t f_Pc_15 rfl d_Pc_blackenTurned_46 ?_
      refine lv_iconst (v := 1) S.1 S.2.1 d_Pc_blackenTurned_49 (by decide) ?_
      refine lv_isub S.1 S.2.1 d_Pc_blackenTurned_50 ?_
      refine lv_iload_n S.1 S.2.1 d_Pc_blackenTurned_51 rfl (lv_at hl 2 rfl) ?_
      refine lv_isub S.1 S.2.1 d_Pc_blackenTurned_52 ?_
      refine lv_aload_n S.1 S.2.1 d_Pc_blackenTurned_53 rfl (lv_at hl 0 rfl) ?_
      refine hp_get S zz hJ h_t f_Pc_21 rfl d_Pc_blackenTurned_54 ?_
      refine lv_iconst (v := 1) S.1 S.2.1 d_Pc_blackenTurned_57 (by decide) ?_
      refine lv_isub S.1 S.2.1 d_Pc_blackenTurned_58 ?_
      refine lv_iload_n S.1 S.2.1 d_Pc_blackenTurned_59 rfl (lv_at hl 3 rfl) ?_
      refine lv_isub S.1 S.2.1 d_Pc_blackenTurned_60 ?_
      refine hp_doneWv hJ (hp_runV S zz0 (c_Pc_blacken l dC dI cA A h t b w d tl wd n f _ _ h_t h_b hix) l_Pc_68 (hJ.preV _ h_t rfl) (by decide) rfl hl.1 rfl (nl rfl) d_Pc_blackenTurned_61 (by decide)) (fun h2 H locs eh2 hJ => ?_)
      have h0_b := h_b
      have h_t : h2 t = some (.inr (4, [.int w, .int d, .int tl, .int wd, .ref b])) := by rw [eh2]; exact hp_up_k (hp_ne h_t h0_b (show ((0, 4) : Nat × Nat) ≠ (2, 0) by decide)) h_t
      have h_b : h2 b = some (k_lo (cA 1) n (q_bl d wd f (w - 1 - i) (d - 1 - j))) := by rw [eh2]; exact hp_up_s _ _ _
      refine lv_goto (tgt := 80) S.1 S.2.1 d_Pc_blackenTurned_64 (by decide) ?_
      exact hp_retWv S hJ hr hlk d_Pc_blackenTurned_80 (by decide) (by unfold q_bt; rw [if_neg k_1, if_pos k_2]; exact eh2)
    · refine lv_lookup (off := 66) (tgt := 67) S.1 S.2.1 d_Pc_blackenTurned_1 (by decide) ((lv_osw k_1 rfl).trans ((lv_osw k_2 rfl).trans rfl)) (by decide) ?_
      refine lv_aload_n S.1 S.2.1 d_Pc_blackenTurned_67 rfl (lv_at hl 0 rfl) ?_
      refine lv_aload_n S.1 S.2.1 d_Pc_blackenTurned_68 rfl (lv_at hl 0 rfl) ?_
      refine hp_get S zz hJ h_t f_Pc_15 rfl d_Pc_blackenTurned_69 ?_
      refine lv_iconst (v := 1) S.1 S.2.1 d_Pc_blackenTurned_72 (by decide) ?_
      refine lv_isub S.1 S.2.1 d_Pc_blackenTurned_73 ?_
      refine lv_iload_n S.1 S.2.1 d_Pc_blackenTurned_74 rfl (lv_at hl 3 rfl) ?_
      refine lv_isub S.1 S.2.1 d_Pc_blackenTurned_75 ?_
      refine lv_iload_n S.1 S.2.1 d_Pc_blackenTurned_76 rfl (lv_at hl 2 rfl) ?_
      refine hp_doneWv hJ (hp_runV S zz0 (c_Pc_blacken l dC dI cA A h t b w d tl wd n f _ _ h_t h_b hix) l_Pc_68 (hJ.preV _ h_t rfl) (by decide) rfl hl.1 rfl (nl rfl) d_Pc_blackenTurned_77 (by decide)) (fun h3 H locs eh3 hJ => ?_)
      have h0_b := h_b
      have h_t : h3 t = some (.inr (4, [.int w, .int d, .int tl, .int wd, .ref b])) := by rw [eh3]; exact hp_up_k (hp_ne h_t h0_b (show ((0, 4) : Nat × Nat) ≠ (2, 0) by decide)) h_t
      have h_b : h3 b = some (k_lo (cA 1) n (q_bl d wd f (w - 1 - j) i)) := by rw [eh3]; exact hp_up_s _ _ _
      exact hp_retWv S hJ hr hlk d_Pc_blackenTurned_80 (by decide) (by unfold q_bt; rw [if_neg k_1, if_neg k_2]; exact eh3)

