/-! The painter tells a dot; its beginning. -/
def q_b0 (W H : Nat) (bd : Int32) : Nat → Int32 := fun k => if k = 0 then nI W else if k = 1 then nI H else if k = 2 then bd else 0
theorem q_b0_k (W H : Nat) (bd : Int32) (sheet shp pil ink clip : Nat) : k_BP (q_b0 W H bd) sheet shp pil ink clip = .inr (0, [.int (nI W), .int (nI H), .int bd, .ref sheet, .ref shp, .ref pil, .int 0, .int 0, .int 0, .ref ink, .int 0, .int 0, .int 0, .ref clip]) := by
  simp [k_BP, q_b0]

set_option maxHeartbeats 4000000 in
set_option maxRecDepth 100000 in
theorem c_BP_black (l : Launch) (dC : Nat → ClassId) (dI : Nat → Nat → Nat) (cA : Nat → ClassId) (A : Nat → Prop) (h : hp_T) (x sheet shp pil ink clip : Nat) (bf : Nat → Int32) (bl st n : Nat) (sz : Int32) (as : List Nat) (D : Nat → mD) (bol : Nat → Option Nat) (B : Nat → Int32 × Int32 × Int32 × Int32) (FI : Nat → Nat → Int64) (PI : Nat → Option pI) (xn : Nat) (y : Int32) (h_x : h x = some (k_BP bf sheet shp pil ink clip)) (hnd : as.Nodup) (hm : mc h D bol as) (hok : ∀ a ∈ as, mk_ok h (cA 1) (D a) (B a) (FI a) (PI a)) (h_pil : h pil = some (k_Pl (nI n) bl st sz as.head?)) (hxn : xn < 2147483648) (hF : (0 ≤ nI xn ∧ nI xn ≤ bf 0 - 1) ∧ (0 ≤ y ∧ y ≤ bf 1 - 1)) : Met l y_BP_black (.code y_BP_black prog_1_method_13_code 3 (some .boolean) :: BIG) ({ frames := 5, cells := 2, slots := 40, locals := 127 }) (va_Pc [.ref x, .int (nI xn), .int y] (hp_I (gg dC dI cA) A h)) (hp_QW (gg dC dI cA) A hp_mi (fun r h' => r = q_is (tb (q_wu (q_X D B FI PI y (nI (xn / 64))) (as.filter (q_me B y)) (-1) 0) (xn % 64) = true) ∧ ∃ bol', mc h' D bol' as ∧ ∀ a, a ∉ as → h' a = h a)) 2 40 A := by
  refine hp_enter (by decide) (Nat.le_of_ble_eq_true rfl) ?_
  intro p e s m below meth c ls S hr hlk hin hI hl
  have hl : lv_has ls 3 [(0, .ref x), (1, .int (nI xn)), (2, .int y)] := hl
  have hJ := hI.J
  refine lv_iconst (v := 0) S.1 S.2.1 d_BP_black_0 (by decide) ?_
  refine lv_iload_n S.1 S.2.1 d_BP_black_1 rfl (lv_at hl 1 rfl) ?_
  refine lv_aload_n S.1 S.2.1 d_BP_black_2 rfl (lv_at hl 0 rfl) ?_
  refine hp_get S zz hJ h_x f_BP_13 rfl d_BP_black_3 ?_
  refine lv_iconst (v := 1) S.1 S.2.1 d_BP_black_6 (by decide) ?_
  refine lv_isub S.1 S.2.1 d_BP_black_7 ?_
  refine hp_doneR (hp_runS S zz0 (c_BP_isWithin l _ _ _) l_BP_59 (hp_pre0 _) (by decide) rfl hl.1 rfl (nl rfl) d_BP_black_8 (by decide)) ?_
  refine lv_if_eq (tgt := 28) S.1 S.2.1 d_BP_black_11 (by decide) (fun q => absurd hF.1 (q_is_0.mp q)) (fun _ => ?_)
  refine lv_iconst (v := 0) S.1 S.2.1 d_BP_black_14 (by decide) ?_
  refine lv_iload_n S.1 S.2.1 d_BP_black_15 rfl (lv_at hl 2 rfl) ?_
  refine lv_aload_n S.1 S.2.1 d_BP_black_16 rfl (lv_at hl 0 rfl) ?_
  refine hp_get S zz hJ h_x f_BP_17 rfl d_BP_black_17 ?_
  refine lv_iconst (v := 1) S.1 S.2.1 d_BP_black_20 (by decide) ?_
  refine lv_isub S.1 S.2.1 d_BP_black_21 ?_
  refine hp_doneR (hp_runS S zz0 (c_BP_isWithin l _ _ _) l_BP_59 (hp_pre0 _) (by decide) rfl hl.1 rfl (nl rfl) d_BP_black_22 (by decide)) ?_
  refine lv_if_ne (tgt := 38) S.1 S.2.1 d_BP_black_25 (by decide) (fun _ => ?_) (fun q => absurd q (q_is_ne.mpr hF.2))
  refine lv_aload_n S.1 S.2.1 d_BP_black_38 rfl (lv_at hl 0 rfl) ?_
  refine hp_get S zz hJ h_x f_BP_43 rfl d_BP_black_39 ?_
  refine lv_iload_n S.1 S.2.1 d_BP_black_42 rfl (lv_at hl 2 rfl) ?_
  refine lv_iload_n S.1 S.2.1 d_BP_black_43 rfl (lv_at hl 1 rfl) ?_
  refine lv_bipush (v := 64) S.1 S.2.1 d_BP_black_44 (by decide) ?_
  refine lv_idiv S.1 S.2.1 d_BP_black_46 (by decide) ?_
  rw [div64 (by omega)]
  refine hp_doneWl hJ (hp_runV S zz0 (c_Pl_wordOf l dC dI cA A _ pil bl st n sz as D bol B FI PI y (nI (xn / 64)) hnd hm hok h_pil) l_BP_151 (hJ.preV _ h_pil rfl) (by decide) rfl hl.1 rfl (nl rfl) d_BP_black_47 (by decide)) (fun r9 h9 H locs eh9 hJ => ?_)
  refine lv_ldc2 (v := (-9223372036854775808)) S.1 S.2.1 S.2.2.2.1 (S.2.2.2.2 _ t_585) d_BP_black_50 ?_
  refine lv_iload_n S.1 S.2.1 d_BP_black_53 rfl (lv_at hl 1 rfl) ?_
  refine lv_bipush (v := 64) S.1 S.2.1 d_BP_black_54 (by decide) ?_
  refine lv_irem S.1 S.2.1 d_BP_black_56 (by decide) ?_
  refine lv_lushr S.1 S.2.1 d_BP_black_57 rfl ?_
  refine lv_land S.1 S.2.1 d_BP_black_58 ?_
  refine lv_lconst (v := 0) S.1 S.2.1 d_BP_black_59 (by decide) ?_
  refine W.lcmp S.1 S.2.1 d_BP_black_60 ?_
  refine lv_if_eq (tgt := 68) S.1 S.2.1 d_BP_black_61 (by decide) (fun c_61 => ?_) (fun c_61 => ?_)
  · refine lv_iconst (v := 0) S.1 S.2.1 d_BP_black_68 (by decide) ?_
    exact hp_retWz S hJ hr hlk d_BP_black_69 (by decide) (by decide) ⟨q_is_f (fun q => (dot_and (by omega) _).mpr q (eh9.1 ▸ (lg_cmp_0 _).mp c_61)), eh9.2⟩
  · refine lv_iconst (v := 1) S.1 S.2.1 d_BP_black_64 (by decide) ?_
    refine lv_goto (tgt := 69) S.1 S.2.1 d_BP_black_65 (by decide) ?_
    exact hp_retWz S hJ hr hlk d_BP_black_69 (by decide) (by decide) ⟨q_is_t ((dot_and (by omega) _).mp (eh9.1 ▸ fun z => c_61 ((lg_cmp_0 _).mpr z))), eh9.2⟩

set_option maxHeartbeats 4000000 in
set_option maxRecDepth 100000 in
theorem c_BP_init (l : Launch) (dC : Nat → ClassId) (dI : Nat → Nat → Nat) (cA : Nat → ClassId) (A : Nat → Prop) (h : hp_T) (x W HH : Nat) (w hgt b bd : Int32) (hW : (1 ≤ W ∧ W ≤ 5100) ∧ q_max 1 (q_min w 5100) = nI W) (hH : (1 ≤ HH ∧ HH ≤ 5100) ∧ q_max 1 (q_min hgt 5100) = nI HH) (hbd : q_max 1 (q_min b (nI HH)) = bd) (h_x : h x = some (.inr (0, e0_BP))) : Met l y_BP_init (.code y_BP_init prog_1_method_1_code 4 none :: BIG) ({ frames := 3, cells := 7, slots := 10292, locals := 74 }) (va_Pc [.ref x, .int w, .int hgt, .int b] (hp_I (gg dC dI cA) A h)) (hp_QW (gg dC dI cA) A hp_mv (fun _ h' => ∃ sheet shp bl st pil ib ink, h sheet = none ∧ h shp = none ∧ h bl = none ∧ h st = none ∧ h pil = none ∧ h ib = none ∧ h ink = none ∧ bl ≠ st ∧ (h' sheet = some (k_Bx 0 0 (nI W - 1) (nI HH - 1)) ∧ h' shp = some (k_rf (cA 3) 64 (fun _ => none)) ∧ h' bl = some (k_in (cA 0) HH (fun _ => 0)) ∧ h' st = some (k_in (cA 2) HH (fun _ => 0)) ∧ h' pil = some (k_Pl (nI HH) bl st 0 none) ∧ h' ib = some (k_lo (cA 1) 16 (q_ia 0 0 16)) ∧ h' ink = some (k_In 0 (q_iv 0 0) ib)) ∧ h' = hp_up (hp_up (hp_up (hp_up (hp_up (hp_up (hp_up (hp_up h sheet (k_Bx 0 0 (nI W - 1) (nI HH - 1))) shp (k_rf (cA 3) 64 (fun _ => none))) bl (k_in (cA 0) HH (fun _ => 0))) st (k_in (cA 2) HH (fun _ => 0))) pil (k_Pl (nI HH) bl st 0 none)) ib (k_lo (cA 1) 16 (q_ia 0 0 16))) ink (k_In 0 (q_iv 0 0) ib)) x (k_BP (q_b0 W HH bd) sheet shp pil ink sheet))) 7 10292 A := by
  refine hp_enter (by decide) (Nat.le_of_ble_eq_true rfl) ?_
  intro p e s m below meth c ls S hr hlk hin hI hl
  have hl : lv_has ls 4 [(0, .ref x), (1, .int w), (2, .int hgt), (3, .int b)] := hl
  have hJ := hI.J
  refine lv_aload_n S.1 S.2.1 d_BP_init_0 rfl (lv_at hl 0 rfl) ?_
  refine hp_obj S l_BP_1 hl.1 d_BP_init_1 ⟨nl rfl, nl rfl⟩ ?_
  refine lv_aload_n S.1 S.2.1 d_BP_init_4 rfl (lv_at hl 0 rfl) ?_
  refine lv_iconst (v := 1) S.1 S.2.1 d_BP_init_5 (by decide) ?_
  refine lv_iload_n S.1 S.2.1 d_BP_init_6 rfl (lv_at hl 1 rfl) ?_
  refine lv_sipush (v := 5100) S.1 S.2.1 d_BP_init_7 (by decide) ?_
  refine hp_doneR (hp_runS S zz0 (c_BP_within l _ _ _) l_BP_9 (hp_pre0 _) (by decide) rfl hl.1 rfl (nl rfl) d_BP_init_10 (by decide)) ?_
  rw [hW.2]
  refine hp_putF S zz hJ hin h_x fp_BP_13 rfl rfl rfl (nl rfl) d_BP_init_13 (fun H locs hJ => ?_)
  obtain ⟨h1, eh1⟩ : ∃ z, z = hp_up h x (.inr (0, [.int (nI W), .int 0, .int 0, .null, .null, .null, .int 0, .int 0, .int 0, .null, .int 0, .int 0, .int 0, .null])) := ⟨_, rfl⟩
  have hJ := hJ.cast eh1
  have h0_x := h_x
  have h_x : h1 x = some (.inr (0, [.int (nI W), .int 0, .int 0, .null, .null, .null, .int 0, .int 0, .int 0, .null, .int 0, .int 0, .int 0, .null])) := by rw [eh1]; exact hp_up_s _ _ _
  refine lv_aload_n S.1 S.2.1 d_BP_init_16 rfl (lv_at hl 0 rfl) ?_
  refine lv_iconst (v := 1) S.1 S.2.1 d_BP_init_17 (by decide) ?_
  refine lv_iload_n S.1 S.2.1 d_BP_init_18 rfl (lv_at hl 2 rfl) ?_
  refine lv_sipush (v := 5100) S.1 S.2.1 d_BP_init_19 (by decide) ?_
  refine hp_doneR (hp_runS S zz0 (c_BP_within l _ _ _) l_BP_9 (hp_pre0 _) (by decide) rfl hl.1 rfl (nl rfl) d_BP_init_22 (by decide)) ?_
  rw [hH.2]
  refine hp_putF S zz hJ hin h_x fp_BP_17 rfl rfl rfl (nl rfl) d_BP_init_25 (fun H locs hJ => ?_)
  obtain ⟨h2, eh2⟩ : ∃ z, z = hp_up h1 x (.inr (0, [.int (nI W), .int (nI HH), .int 0, .null, .null, .null, .int 0, .int 0, .int 0, .null, .int 0, .int 0, .int 0, .null])) := ⟨_, rfl⟩
  have hJ := hJ.cast eh2
  have h0_x := h_x
  have h_x : h2 x = some (.inr (0, [.int (nI W), .int (nI HH), .int 0, .null, .null, .null, .int 0, .int 0, .int 0, .null, .int 0, .int 0, .int 0, .null])) := by rw [eh2]; exact hp_up_s _ _ _
  refine lv_aload_n S.1 S.2.1 d_BP_init_28 rfl (lv_at hl 0 rfl) ?_
  refine lv_iconst (v := 1) S.1 S.2.1 d_BP_init_29 (by decide) ?_
  refine lv_iload_n S.1 S.2.1 d_BP_init_30 rfl (lv_at hl 3 rfl) ?_
  refine lv_aload_n S.1 S.2.1 d_BP_init_31 rfl (lv_at hl 0 rfl) ?_
  refine hp_get S zz hJ h_x f_BP_17 rfl d_BP_init_32 ?_
  refine hp_doneR (hp_runS S zz0 (c_BP_within l _ _ _) l_BP_9 (hp_pre0 _) (by decide) rfl hl.1 rfl (nl rfl) d_BP_init_35 (by decide)) ?_
  rw [hbd]
  refine hp_putF S zz hJ hin h_x fp_BP_20 rfl rfl rfl (nl rfl) d_BP_init_38 (fun H locs hJ => ?_)
  obtain ⟨h3, eh3⟩ : ∃ z, z = hp_up h2 x (.inr (0, [.int (nI W), .int (nI HH), .int bd, .null, .null, .null, .int 0, .int 0, .int 0, .null, .int 0, .int 0, .int 0, .null])) := ⟨_, rfl⟩
  have hJ := hJ.cast eh3
  have h0_x := h_x
  have h_x : h3 x = some (.inr (0, [.int (nI W), .int (nI HH), .int bd, .null, .null, .null, .int 0, .int 0, .int 0, .null, .int 0, .int 0, .int 0, .null])) := by rw [eh3]; exact hp_up_s _ _ _
  refine lv_aload_n S.1 S.2.1 d_BP_init_41 rfl (lv_at hl 0 rfl) ?_
  refine hp_new S zz hJ (ci := 1) rfl n_BP_23 e0_Bx_ok (by decide) (by decide) d_BP_init_42 (fun sheet H hq_sheet hs_sheet hJ => ?_)
  obtain ⟨h4, eh4⟩ : ∃ z, z = hp_up h3 sheet (.inr (1, [.int 0, .int 0, .int 0, .int 0])) := ⟨_, rfl⟩
  have hJ := hJ.cast eh4
  have h_x : h4 x = some (.inr (0, [.int (nI W), .int (nI HH), .int bd, .null, .null, .null, .int 0, .int 0, .int 0, .null, .int 0, .int 0, .int 0, .null])) := by rw [eh4]; exact hp_up_k (hp_neN h_x hq_sheet) h_x
  have h_sheet : h4 sheet = some (.inr (1, [.int 0, .int 0, .int 0, .int 0])) := by rw [eh4]; exact hp_up_s _ _ _
  have hz_sheet := hq_sheet
  rw [eh3, eh2, eh1] at hz_sheet
  have hN_sheet : h sheet = none := hp_up_none (hp_up_none (hp_up_none (hz_sheet)))
  refine lv_dup S.1 S.2.1 d_BP_init_45 rfl ?_
  refine lv_iconst (v := 0) S.1 S.2.1 d_BP_init_46 (by decide) ?_
  refine lv_iconst (v := 0) S.1 S.2.1 d_BP_init_47 (by decide) ?_
  refine lv_aload_n S.1 S.2.1 d_BP_init_48 rfl (lv_at hl 0 rfl) ?_
  refine hp_get S zz hJ h_x f_BP_13 rfl d_BP_init_49 ?_
  refine lv_iconst (v := 1) S.1 S.2.1 d_BP_init_52 (by decide) ?_
  refine lv_isub S.1 S.2.1 d_BP_init_53 ?_
  refine lv_aload_n S.1 S.2.1 d_BP_init_54 rfl (lv_at hl 0 rfl) ?_
  refine hp_get S zz hJ h_x f_BP_17 rfl d_BP_init_55 ?_
  refine lv_iconst (v := 1) S.1 S.2.1 d_BP_init_58 (by decide) ?_
  refine lv_isub S.1 S.2.1 d_BP_init_59 ?_
  refine hp_doneWv hJ (hp_runI S zz0 (c_Bx_init l dC dI cA A _ sheet 0 0 _ _ _ _ _ _ h_sheet) l_BP_25 (hJ.pre _) (by decide) rfl hl.1 rfl (nl rfl) d_BP_init_60 (by decide)) (fun h5 H locs eh5 hJ => ?_)
  have h0_sheet := h_sheet
  have h_x : h5 x = some (.inr (0, [.int (nI W), .int (nI HH), .int bd, .null, .null, .null, .int 0, .int 0, .int 0, .null, .int 0, .int 0, .int 0, .null])) := by rw [eh5]; exact hp_up_k (hp_ne h_x h0_sheet (show ((0, 0) : Nat × Nat) ≠ (0, 1) by decide)) h_x
  have h_sheet : h5 sheet = some (.inr (1, [.int 0, .int 0, .int (nI W - 1), .int (nI HH - 1)])) := by rw [eh5]; exact hp_up_s _ _ _
  refine hp_putF S zz hJ hin h_x fp_BP_28 rfl rfl rfl (nl rfl) d_BP_init_63 (fun H locs hJ => ?_)
  obtain ⟨h6, eh6⟩ : ∃ z, z = hp_up h5 x (.inr (0, [.int (nI W), .int (nI HH), .int bd, .ref sheet, .null, .null, .int 0, .int 0, .int 0, .null, .int 0, .int 0, .int 0, .null])) := ⟨_, rfl⟩
  have hJ := hJ.cast eh6
  have h0_x := h_x
  have h_sheet : h6 sheet = some (.inr (1, [.int 0, .int 0, .int (nI W - 1), .int (nI HH - 1)])) := by rw [eh6]; exact hp_up_k (hp_ne h_sheet h0_x (show ((0, 1) : Nat × Nat) ≠ (0, 0) by decide)) h_sheet
  have h_x : h6 x = some (.inr (0, [.int (nI W), .int (nI HH), .int bd, .ref sheet, .null, .null, .int 0, .int 0, .int 0, .null, .int 0, .int 0, .int 0, .null])) := by rw [eh6]; exact hp_up_s _ _ _
  refine lv_aload_n S.1 S.2.1 d_BP_init_66 rfl (lv_at hl 0 rfl) ?_
  refine lv_bipush (v := 64) S.1 S.2.1 d_BP_init_67 (by decide) ?_
  refine hp_newq S hJ 3 t_58 (List.mem_of_getElem? (i := 0) rfl) rfl (by decide) rfl (by decide) (by decide) (by decide) d_BP_init_69 (fun shp H hq_shp hJ => ?_)
  have hz_shp := hq_shp
  rw [eh6, eh5, eh4, eh3, eh2, eh1] at hz_shp
  have hN_shp : h shp = none := hp_up_none (hp_up_none (hp_up_none (hp_up_none (hp_up_none (hp_up_none (hz_shp))))))
  obtain ⟨h7, eh7⟩ : ∃ z, z = hp_up h6 shp (k_rf (cA 3) 64 (fun _ => none)) := ⟨_, rfl⟩
  have hJ := hJ.cast eh7
  have h_x : h7 x = some (.inr (0, [.int (nI W), .int (nI HH), .int bd, .ref sheet, .null, .null, .int 0, .int 0, .int 0, .null, .int 0, .int 0, .int 0, .null])) := by rw [eh7]; exact hp_up_k (hp_neN h_x hq_shp) h_x
  have h_sheet : h7 sheet = some (.inr (1, [.int 0, .int 0, .int (nI W - 1), .int (nI HH - 1)])) := by rw [eh7]; exact hp_up_k (hp_neN h_sheet hq_shp) h_sheet
  have h_shp : h7 shp = some (k_rf (cA 3) 64 (fun _ => none)) := by rw [eh7]; exact hp_up_s _ _ _
  refine hp_putF S zz hJ hin h_x fp_BP_34 rfl rfl rfl (nl rfl) d_BP_init_72 (fun H locs hJ => ?_)
  obtain ⟨h8, eh8⟩ : ∃ z, z = hp_up h7 x (.inr (0, [.int (nI W), .int (nI HH), .int bd, .ref sheet, .ref shp, .null, .int 0, .int 0, .int 0, .null, .int 0, .int 0, .int 0, .null])) := ⟨_, rfl⟩
  have hJ := hJ.cast eh8
  have h0_x := h_x
  have h_sheet : h8 sheet = some (.inr (1, [.int 0, .int 0, .int (nI W - 1), .int (nI HH - 1)])) := by rw [eh8]; exact hp_up_k (hp_ne h_sheet h0_x (show ((0, 1) : Nat × Nat) ≠ (0, 0) by decide)) h_sheet
  have h_shp : h8 shp = some (k_rf (cA 3) 64 (fun _ => none)) := by rw [eh8]; exact hp_up_k (hp_ne h_shp h0_x (show ((5, 0) : Nat × Nat) ≠ (0, 0) by decide)) h_shp
  have h_x : h8 x = some (.inr (0, [.int (nI W), .int (nI HH), .int bd, .ref sheet, .ref shp, .null, .int 0, .int 0, .int 0, .null, .int 0, .int 0, .int 0, .null])) := by rw [eh8]; exact hp_up_s _ _ _
  refine lv_aload_n S.1 S.2.1 d_BP_init_75 rfl (lv_at hl 0 rfl) ?_
  refine hp_new S zz hJ (ci := 5) rfl n_BP_38 e0_Pl_ok (by decide) (by decide) d_BP_init_76 (fun pil H hq_pil hs_pil hJ => ?_)
  obtain ⟨h9, eh9⟩ : ∃ z, z = hp_up h8 pil (.inr (5, [.int 0, .null, .null, .int 0, .null])) := ⟨_, rfl⟩
  have hJ := hJ.cast eh9
  have h_x : h9 x = some (.inr (0, [.int (nI W), .int (nI HH), .int bd, .ref sheet, .ref shp, .null, .int 0, .int 0, .int 0, .null, .int 0, .int 0, .int 0, .null])) := by rw [eh9]; exact hp_up_k (hp_neN h_x hq_pil) h_x
  have h_sheet : h9 sheet = some (.inr (1, [.int 0, .int 0, .int (nI W - 1), .int (nI HH - 1)])) := by rw [eh9]; exact hp_up_k (hp_neN h_sheet hq_pil) h_sheet
  have h_shp : h9 shp = some (k_rf (cA 3) 64 (fun _ => none)) := by rw [eh9]; exact hp_up_k (hp_neN h_shp hq_pil) h_shp
  have h_pil : h9 pil = some (.inr (5, [.int 0, .null, .null, .int 0, .null])) := by rw [eh9]; exact hp_up_s _ _ _
  have hz_pil := hq_pil
  rw [eh8, eh7, eh6, eh5, eh4, eh3, eh2, eh1] at hz_pil
  have hN_pil : h pil = none := hp_up_none (hp_up_none (hp_up_none (hp_up_none (hp_up_none (hp_up_none (hp_up_none (hp_up_none (hz_pil))))))))
  refine lv_dup S.1 S.2.1 d_BP_init_79 rfl ?_
  refine lv_aload_n S.1 S.2.1 d_BP_init_80 rfl (lv_at hl 0 rfl) ?_
  refine hp_get S zz hJ h_x f_BP_17 rfl d_BP_init_81 ?_
  refine hp_doneWv hJ (hp_runI S zz0 (c_Pl_init l dC dI cA A _ pil HH hH.1.2 h_pil) l_BP_40 (hJ.pre _) (by decide) rfl hl.1 rfl (nl rfl) d_BP_init_84 (by decide)) (fun h20 H locs hx hJ => ?_)
  obtain ⟨bl, st, hq_bl, hq_st, ne_bl_st, eh20⟩ := hx
  have hz_bl := hq_bl
  rw [eh9, eh8, eh7, eh6, eh5, eh4, eh3, eh2, eh1] at hz_bl
  have hN_bl : h bl = none := hp_up_none (hp_up_none (hp_up_none (hp_up_none (hp_up_none (hp_up_none (hp_up_none (hp_up_none (hp_up_none (hz_bl)))))))))
  have hz_st := hq_st
  rw [eh9, eh8, eh7, eh6, eh5, eh4, eh3, eh2, eh1] at hz_st
  have hN_st : h st = none := hp_up_none (hp_up_none (hp_up_none (hp_up_none (hp_up_none (hp_up_none (hp_up_none (hp_up_none (hp_up_none (hz_st)))))))))
  replace h_x : h20 x = some (.inr (0, [.int (nI W), .int (nI HH), .int bd, .ref sheet, .ref shp, .null, .int 0, .int 0, .int 0, .null, .int 0, .int 0, .int 0, .null])) := by rw [eh20]; exact hp_up_k (hp_ne h_x h_pil (show ((0, 0) : Nat × Nat) ≠ (0, 5) by decide)) (hp_up_k (hp_neN h_x hq_st) (hp_up_k (hp_neN h_x hq_bl) h_x))
  replace h_sheet : h20 sheet = some (.inr (1, [.int 0, .int 0, .int (nI W - 1), .int (nI HH - 1)])) := by rw [eh20]; exact hp_up_k (hp_ne h_sheet h_pil (show ((0, 1) : Nat × Nat) ≠ (0, 5) by decide)) (hp_up_k (hp_neN h_sheet hq_st) (hp_up_k (hp_neN h_sheet hq_bl) h_sheet))
  replace h_shp : h20 shp = some (k_rf (cA 3) 64 (fun _ => none)) := by rw [eh20]; exact hp_up_k (hp_ne h_shp h_pil (show ((5, 0) : Nat × Nat) ≠ (0, 5) by decide)) (hp_up_k (hp_neN h_shp hq_st) (hp_up_k (hp_neN h_shp hq_bl) h_shp))
  have h_bl : h20 bl = some (k_in (cA 0) HH (fun _ => 0)) := by rw [eh20]; exact hp_up_k (Ne.symm (hp_neN h_pil hq_bl)) (hp_up_k ne_bl_st (hp_up_s _ _ _))
  have h_st : h20 st = some (k_in (cA 2) HH (fun _ => 0)) := by rw [eh20]; exact hp_up_k (Ne.symm (hp_neN h_pil hq_st)) (hp_up_s _ _ _)
  replace h_pil : h20 pil = some (k_Pl (nI HH) bl st 0 none) := by rw [eh20]; exact hp_up_s _ _ _
  refine hp_putF S zz hJ hin h_x fp_BP_43 rfl rfl rfl (nl rfl) d_BP_init_87 (fun H locs hJ => ?_)
  obtain ⟨h21, eh21⟩ : ∃ z, z = hp_up h20 x (.inr (0, [.int (nI W), .int (nI HH), .int bd, .ref sheet, .ref shp, .ref pil, .int 0, .int 0, .int 0, .null, .int 0, .int 0, .int 0, .null])) := ⟨_, rfl⟩
  have hJ := hJ.cast eh21
  have h0_x := h_x
  have h_sheet : h21 sheet = some (.inr (1, [.int 0, .int 0, .int (nI W - 1), .int (nI HH - 1)])) := by rw [eh21]; exact hp_up_k (hp_ne h_sheet h0_x (show ((0, 1) : Nat × Nat) ≠ (0, 0) by decide)) h_sheet
  have h_shp : h21 shp = some (k_rf (cA 3) 64 (fun _ => none)) := by rw [eh21]; exact hp_up_k (hp_ne h_shp h0_x (show ((5, 0) : Nat × Nat) ≠ (0, 0) by decide)) h_shp
  have h_pil : h21 pil = some (k_Pl (nI HH) bl st 0 none) := by rw [eh21]; exact hp_up_k (hp_ne h_pil h0_x (show ((0, 5) : Nat × Nat) ≠ (0, 0) by decide)) h_pil
  have h_bl : h21 bl = some (k_in (cA 0) HH (fun _ => 0)) := by rw [eh21]; exact hp_up_k (hp_ne h_bl h0_x (show ((1, 0) : Nat × Nat) ≠ (0, 0) by decide)) h_bl
  have h_st : h21 st = some (k_in (cA 2) HH (fun _ => 0)) := by rw [eh21]; exact hp_up_k (hp_ne h_st h0_x (show ((1, 0) : Nat × Nat) ≠ (0, 0) by decide)) h_st
  have h_x : h21 x = some (.inr (0, [.int (nI W), .int (nI HH), .int bd, .ref sheet, .ref shp, .ref pil, .int 0, .int 0, .int 0, .null, .int 0, .int 0, .int 0, .null])) := by rw [eh21]; exact hp_up_s _ _ _
  refine lv_aload_n S.1 S.2.1 d_BP_init_90 rfl (lv_at hl 0 rfl) ?_
  refine hp_new S zz hJ (ci := 2) rfl n_BP_47 e0_In_ok (by decide) (by decide) d_BP_init_91 (fun ink H hq_ink hs_ink hJ => ?_)
  obtain ⟨h22, eh22⟩ : ∃ z, z = hp_up h21 ink (.inr (2, [.int 0, .int 0, .null])) := ⟨_, rfl⟩
  have hJ := hJ.cast eh22
  have h_x : h22 x = some (.inr (0, [.int (nI W), .int (nI HH), .int bd, .ref sheet, .ref shp, .ref pil, .int 0, .int 0, .int 0, .null, .int 0, .int 0, .int 0, .null])) := by rw [eh22]; exact hp_up_k (hp_neN h_x hq_ink) h_x
  have h_sheet : h22 sheet = some (.inr (1, [.int 0, .int 0, .int (nI W - 1), .int (nI HH - 1)])) := by rw [eh22]; exact hp_up_k (hp_neN h_sheet hq_ink) h_sheet
  have h_shp : h22 shp = some (k_rf (cA 3) 64 (fun _ => none)) := by rw [eh22]; exact hp_up_k (hp_neN h_shp hq_ink) h_shp
  have h_pil : h22 pil = some (k_Pl (nI HH) bl st 0 none) := by rw [eh22]; exact hp_up_k (hp_neN h_pil hq_ink) h_pil
  have h_bl : h22 bl = some (k_in (cA 0) HH (fun _ => 0)) := by rw [eh22]; exact hp_up_k (hp_neN h_bl hq_ink) h_bl
  have h_st : h22 st = some (k_in (cA 2) HH (fun _ => 0)) := by rw [eh22]; exact hp_up_k (hp_neN h_st hq_ink) h_st
  have h_ink : h22 ink = some (.inr (2, [.int 0, .int 0, .null])) := by rw [eh22]; exact hp_up_s _ _ _
  have hz_ink := hq_ink
  rw [eh21, eh20, eh9, eh8, eh7, eh6, eh5, eh4, eh3, eh2, eh1] at hz_ink
  have hN_ink : h ink = none := hp_up_none (hp_up_none (hp_up_none (hp_up_none (hp_up_none (hp_up_none (hp_up_none (hp_up_none (hp_up_none (hp_up_none (hp_up_none (hp_up_none (hp_up_none (hz_ink)))))))))))))
  refine lv_dup S.1 S.2.1 d_BP_init_94 rfl ?_
  refine lv_iconst (v := 0) S.1 S.2.1 d_BP_init_95 (by decide) ?_
  refine lv_iconst (v := 0) S.1 S.2.1 d_BP_init_96 (by decide) ?_
  refine hp_doneWv hJ (hp_runI S zz0 (c_In_init l dC dI cA A _ ink 0 0 h_ink) l_BP_49 (hJ.pre _) (by decide) rfl hl.1 rfl (nl rfl) d_BP_init_97 (by decide)) (fun h30 H locs hx hJ => ?_)
  obtain ⟨ib, hq_ib, eh30⟩ := hx
  have hz_ib := hq_ib
  rw [eh22, eh21, eh20, eh9, eh8, eh7, eh6, eh5, eh4, eh3, eh2, eh1] at hz_ib
  have hN_ib : h ib = none := hp_up_none (hp_up_none (hp_up_none (hp_up_none (hp_up_none (hp_up_none (hp_up_none (hp_up_none (hp_up_none (hp_up_none (hp_up_none (hp_up_none (hp_up_none (hp_up_none (hz_ib))))))))))))))
  have h_ib : h30 ib = some (k_lo (cA 1) 16 (q_ia 0 0 16)) := by rw [eh30]; exact hp_up_k (Ne.symm (hp_neN h_ink hq_ib)) (hp_up_s _ _ _)
  replace h_x : h30 x = some (.inr (0, [.int (nI W), .int (nI HH), .int bd, .ref sheet, .ref shp, .ref pil, .int 0, .int 0, .int 0, .null, .int 0, .int 0, .int 0, .null])) := by rw [eh30]; exact hp_up_k (hp_ne h_x h_ink (show ((0, 0) : Nat × Nat) ≠ (0, 2) by decide)) (hp_up_k (hp_neN h_x hq_ib) h_x)
  replace h_sheet : h30 sheet = some (.inr (1, [.int 0, .int 0, .int (nI W - 1), .int (nI HH - 1)])) := by rw [eh30]; exact hp_up_k (hp_ne h_sheet h_ink (show ((0, 1) : Nat × Nat) ≠ (0, 2) by decide)) (hp_up_k (hp_neN h_sheet hq_ib) h_sheet)
  replace h_shp : h30 shp = some (k_rf (cA 3) 64 (fun _ => none)) := by rw [eh30]; exact hp_up_k (hp_ne h_shp h_ink (show ((5, 0) : Nat × Nat) ≠ (0, 2) by decide)) (hp_up_k (hp_neN h_shp hq_ib) h_shp)
  replace h_pil : h30 pil = some (k_Pl (nI HH) bl st 0 none) := by rw [eh30]; exact hp_up_k (hp_ne h_pil h_ink (show ((0, 5) : Nat × Nat) ≠ (0, 2) by decide)) (hp_up_k (hp_neN h_pil hq_ib) h_pil)
  replace h_bl : h30 bl = some (k_in (cA 0) HH (fun _ => 0)) := by rw [eh30]; exact hp_up_k (hp_ne h_bl h_ink (show ((1, 0) : Nat × Nat) ≠ (0, 2) by decide)) (hp_up_k (hp_neN h_bl hq_ib) h_bl)
  replace h_st : h30 st = some (k_in (cA 2) HH (fun _ => 0)) := by rw [eh30]; exact hp_up_k (hp_ne h_st h_ink (show ((1, 0) : Nat × Nat) ≠ (0, 2) by decide)) (hp_up_k (hp_neN h_st hq_ib) h_st)
  replace h_ink : h30 ink = some (k_In 0 (q_iv 0 0) ib) := by rw [eh30]; exact hp_up_s _ _ _
  refine hp_put S zz hJ h_x fp_BP_52 rfl rfl (nl rfl) d_BP_init_100 (fun H locs hJ => ?_)
  obtain ⟨h31, eh31⟩ : ∃ z, z = hp_up h30 x (.inr (0, [.int (nI W), .int (nI HH), .int bd, .ref sheet, .ref shp, .ref pil, .int 0, .int 0, .int 0, .ref ink, .int 0, .int 0, .int 0, .null])) := ⟨_, rfl⟩
  have hJ := hJ.cast eh31
  have h0_x := h_x
  have h_sheet : h31 sheet = some (.inr (1, [.int 0, .int 0, .int (nI W - 1), .int (nI HH - 1)])) := by rw [eh31]; exact hp_up_k (hp_ne h_sheet h0_x (show ((0, 1) : Nat × Nat) ≠ (0, 0) by decide)) h_sheet
  have h_shp : h31 shp = some (k_rf (cA 3) 64 (fun _ => none)) := by rw [eh31]; exact hp_up_k (hp_ne h_shp h0_x (show ((5, 0) : Nat × Nat) ≠ (0, 0) by decide)) h_shp
  have h_pil : h31 pil = some (k_Pl (nI HH) bl st 0 none) := by rw [eh31]; exact hp_up_k (hp_ne h_pil h0_x (show ((0, 5) : Nat × Nat) ≠ (0, 0) by decide)) h_pil
  have h_bl : h31 bl = some (k_in (cA 0) HH (fun _ => 0)) := by rw [eh31]; exact hp_up_k (hp_ne h_bl h0_x (show ((1, 0) : Nat × Nat) ≠ (0, 0) by decide)) h_bl
  have h_st : h31 st = some (k_in (cA 2) HH (fun _ => 0)) := by rw [eh31]; exact hp_up_k (hp_ne h_st h0_x (show ((1, 0) : Nat × Nat) ≠ (0, 0) by decide)) h_st
  have h_ink : h31 ink = some (k_In 0 (q_iv 0 0) ib) := by rw [eh31]; exact hp_up_k (hp_ne h_ink h0_x (show ((0, 2) : Nat × Nat) ≠ (0, 0) by decide)) h_ink
  have h_ib : h31 ib = some (k_lo (cA 1) 16 (q_ia 0 0 16)) := by rw [eh31]; exact hp_up_k (hp_ne h_ib h0_x (show ((2, 0) : Nat × Nat) ≠ (0, 0) by decide)) h_ib
  have h_x : h31 x = some (.inr (0, [.int (nI W), .int (nI HH), .int bd, .ref sheet, .ref shp, .ref pil, .int 0, .int 0, .int 0, .ref ink, .int 0, .int 0, .int 0, .null])) := by rw [eh31]; exact hp_up_s _ _ _
  refine lv_aload_n S.1 S.2.1 d_BP_init_103 rfl (lv_at hl 0 rfl) ?_
  refine lv_aload_n S.1 S.2.1 d_BP_init_104 rfl (lv_at hl 0 rfl) ?_
  refine hp_get S zz hJ h_x f_BP_28 rfl d_BP_init_105 ?_
  refine hp_put S zz hJ h_x fp_BP_56 rfl rfl (nl rfl) d_BP_init_108 (fun H locs hJ => ?_)
  obtain ⟨h32, eh32⟩ : ∃ z, z = hp_up h31 x (.inr (0, [.int (nI W), .int (nI HH), .int bd, .ref sheet, .ref shp, .ref pil, .int 0, .int 0, .int 0, .ref ink, .int 0, .int 0, .int 0, .ref sheet])) := ⟨_, rfl⟩
  have hJ := hJ.cast eh32
  have h0_x := h_x
  have h_sheet : h32 sheet = some (.inr (1, [.int 0, .int 0, .int (nI W - 1), .int (nI HH - 1)])) := by rw [eh32]; exact hp_up_k (hp_ne h_sheet h0_x (show ((0, 1) : Nat × Nat) ≠ (0, 0) by decide)) h_sheet
  have h_shp : h32 shp = some (k_rf (cA 3) 64 (fun _ => none)) := by rw [eh32]; exact hp_up_k (hp_ne h_shp h0_x (show ((5, 0) : Nat × Nat) ≠ (0, 0) by decide)) h_shp
  have h_pil : h32 pil = some (k_Pl (nI HH) bl st 0 none) := by rw [eh32]; exact hp_up_k (hp_ne h_pil h0_x (show ((0, 5) : Nat × Nat) ≠ (0, 0) by decide)) h_pil
  have h_bl : h32 bl = some (k_in (cA 0) HH (fun _ => 0)) := by rw [eh32]; exact hp_up_k (hp_ne h_bl h0_x (show ((1, 0) : Nat × Nat) ≠ (0, 0) by decide)) h_bl
  have h_st : h32 st = some (k_in (cA 2) HH (fun _ => 0)) := by rw [eh32]; exact hp_up_k (hp_ne h_st h0_x (show ((1, 0) : Nat × Nat) ≠ (0, 0) by decide)) h_st
  have h_ink : h32 ink = some (k_In 0 (q_iv 0 0) ib) := by rw [eh32]; exact hp_up_k (hp_ne h_ink h0_x (show ((0, 2) : Nat × Nat) ≠ (0, 0) by decide)) h_ink
  have h_ib : h32 ib = some (k_lo (cA 1) 16 (q_ia 0 0 16)) := by rw [eh32]; exact hp_up_k (hp_ne h_ib h0_x (show ((2, 0) : Nat × Nat) ≠ (0, 0) by decide)) h_ib
  have h_x : h32 x = some (.inr (0, [.int (nI W), .int (nI HH), .int bd, .ref sheet, .ref shp, .ref pil, .int 0, .int 0, .int 0, .ref ink, .int 0, .int 0, .int 0, .ref sheet])) := by rw [eh32]; exact hp_up_s _ _ _
  refine hp_retWv S hJ hr hlk d_BP_init_111 (by decide) ⟨sheet, shp, bl, st, pil, ib, ink, hN_sheet, hN_shp, hN_bl, hN_st, hN_pil, hN_ib, hN_ink, ne_bl_st, ⟨h_sheet, h_shp, h_bl, h_st, h_pil, h_ib, h_ink⟩, ?_⟩
  rw [eh32, eh31, eh30, eh22, eh21, eh20, eh9, eh8, eh7, eh6, eh5, eh4, eh3, eh2, eh1, q_b0_k]
  funext q9
  by_cases z1 : q9 = x
  · rw [z1, hp_up_s, hp_up_s]
  simp only [hp_up, if_neg z1]
  by_cases z2 : q9 = ink
  · simp only [if_pos z2]
  simp only [if_neg z2]
  by_cases z3 : q9 = pil
  · simp only [if_pos z3]
  simp only [if_neg z3]
  by_cases z4 : q9 = sheet
  · simp only [if_pos z4]
  simp only [if_neg z4]

