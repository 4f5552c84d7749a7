/-! The reference paints. -/
abbrev q_pin (mf : Nat → Int32) (x y : Int32) : Prop := (0 ≤ x ∧ x < mf 1 ∧ 0 ≤ y ∧ y < mf 2) ∧ mf 19 ≤ x ∧ x ≤ mf 21 ∧ mf 20 ≤ y ∧ y ≤ mf 22
/-- what a dot of a mark does to the sheet: some colour, or none -/
def q_pc (mf : Nat → Int32) (x y s : Int32) : Option Bool := if q_pin mf x y then (if s = 0 then (if mf 16 = 0 then none else some false) else if q_ik (mf 14) (mf 15) x y then some true else if mf 17 = 0 then none else some false) else none
def q_pt (mf : Nat → Int32) (f : Nat → Int64) (x y s : Int32) : Nat → Int64 := match q_pc mf x y s with
  | none => f
  | some b => q_st f x.toInt.toNat y.toInt.toNat b
def q_lx (tn x i j : Int32) : Int32 := if tn = 0 then x + i else if tn = 1 then x + j else if tn = 2 then x - i else x - j
def q_lyy (tn y i j : Int32) : Int32 := if tn = 0 then y + j else if tn = 1 then y - i else if tn = 2 then y - j else y + i

set_option maxHeartbeats 4000000 in
set_option maxRecDepth 100000 in
theorem c_Mo_paint (l : Launch) (dC : Nat → ClassId) (dI : Nat → Nat → Nat) (cA : Nat → ClassId) (A : Nat → Prop) (h : hp_T) (t sh ac dn fr sp dt : Nat) (mf : Nat → Int32) (ww hh : Nat) (f : Nat → Int64) (x y sc : Int32) (h_t : h t = some (k_Mo mf sh ac dn fr sp dt)) (h_sh : h sh = some (k_lo (cA 1) (80 * hh) f)) (hw : ww ≤ 5100 ∧ mf 1 = nI ww) (hh2 : hh ≤ 5100 ∧ mf 2 = nI hh) : Met l y_Mo_paint (.code y_Mo_paint prog_9_method_9_code 4 none :: BIG) ({ frames := 2, cells := 0, slots := 0, locals := 50 }) (va_Pc [.ref t, .int x, .int y, .int sc] (hp_I (gg dC dI cA) A h)) (hp_QW (gg dC dI cA) A hp_mv (fun _ h' => h' = hp_up h sh (k_lo (cA 1) (80 * hh) (q_pt mf f x y sc)))) 0 0 A := by
  refine hp_enter (by decide) (Nat.le_of_ble_eq_true rfl) ?_
  intro p e s m below meth c ls S hr hlk hin hI hl
  have hl : lv_has ls 4 [(0, .ref t), (1, .int x), (2, .int y), (3, .int sc)] := hl
  have hJ := hI.J
  refine lv_aload_n S.1 S.2.1 d_Mo_paint_0 rfl (lv_at hl 0 rfl) ?_
  refine lv_iload_n S.1 S.2.1 d_Mo_paint_1 rfl (lv_at hl 1 rfl) ?_
  refine lv_iload_n S.1 S.2.1 d_Mo_paint_2 rfl (lv_at hl 2 rfl) ?_
  refine hp_doneR (hp_runV S zz0 (c_Mo_isIn l dC dI cA A h t sh ac dn fr sp dt mf x y h_t) l_Mo_65 (hJ.preV _ h_t rfl) (by decide) rfl hl.1 rfl (nl rfl) d_Mo_paint_3 (by decide)) ?_
  refine lv_if_eq (tgt := 41) S.1 S.2.1 d_Mo_paint_6 (by decide) (fun c_6 => ?_) (fun c_6 => ?_)
  · exact hp_retWv S hJ hr hlk d_Mo_paint_41 (by decide) (by unfold q_pt q_pc; rw [if_neg (fun q => q_is_0.mp c_6 q.1), hp_up_same h_sh])
  · refine lv_iload_n S.1 S.2.1 d_Mo_paint_9 rfl (lv_at hl 1 rfl) ?_
    refine lv_aload_n S.1 S.2.1 d_Mo_paint_10 rfl (lv_at hl 0 rfl) ?_
    refine hp_get S zz hJ h_t f_Mo_69 rfl d_Mo_paint_11 ?_
    refine lv_icmp_lt (tgt := 41) S.1 S.2.1 d_Mo_paint_14 (by decide) (fun c_14 => ?_) (fun c_14 => ?_)
    · exact hp_retWv S hJ hr hlk d_Mo_paint_41 (by decide) (by unfold q_pt q_pc; rw [if_neg (fun q => by have q2 := q.2; simp only [z_lt, z_le] at q2 c_14; omega), hp_up_same h_sh])
    · refine lv_iload_n S.1 S.2.1 d_Mo_paint_17 rfl (lv_at hl 1 rfl) ?_
      refine lv_aload_n S.1 S.2.1 d_Mo_paint_18 rfl (lv_at hl 0 rfl) ?_
      refine hp_get S zz hJ h_t f_Mo_40 rfl d_Mo_paint_19 ?_
      refine lv_icmp_gt (tgt := 41) S.1 S.2.1 d_Mo_paint_22 (by decide) (fun c_22 => ?_) (fun c_22 => ?_)
      · exact hp_retWv S hJ hr hlk d_Mo_paint_41 (by decide) (by unfold q_pt q_pc; rw [if_neg (fun q => by have q2 := q.2; simp only [z_lt, z_le] at q2 c_22; omega), hp_up_same h_sh])
      · refine lv_iload_n S.1 S.2.1 d_Mo_paint_25 rfl (lv_at hl 2 rfl) ?_
        refine lv_aload_n S.1 S.2.1 d_Mo_paint_26 rfl (lv_at hl 0 rfl) ?_
        refine hp_get S zz hJ h_t f_Mo_72 rfl d_Mo_paint_27 ?_
        refine lv_icmp_lt (tgt := 41) S.1 S.2.1 d_Mo_paint_30 (by decide) (fun c_30 => ?_) (fun c_30 => ?_)
        · exact hp_retWv S hJ hr hlk d_Mo_paint_41 (by decide) (by unfold q_pt q_pc; rw [if_neg (fun q => by have q2 := q.2; simp only [z_lt, z_le] at q2 c_30; omega), hp_up_same h_sh])
        · refine lv_iload_n S.1 S.2.1 d_Mo_paint_33 rfl (lv_at hl 2 rfl) ?_
          refine lv_aload_n S.1 S.2.1 d_Mo_paint_34 rfl (lv_at hl 0 rfl) ?_
          refine hp_get S zz hJ h_t f_Mo_43 rfl d_Mo_paint_35 ?_
          refine lv_icmp_le (tgt := 42) S.1 S.2.1 d_Mo_paint_38 (by decide) (fun c_38 => ?_) (fun c_38 => ?_)
          · refine lv_iload_n S.1 S.2.1 d_Mo_paint_42 rfl (lv_at hl 3 rfl) ?_
            refine lv_if_ne (tgt := 63) S.1 S.2.1 d_Mo_paint_43 (by decide) (fun c_43 => ?_) (fun c_43 => ?_)
            · refine lv_aload_n S.1 S.2.1 d_Mo_paint_63 rfl (lv_at hl 0 rfl) ?_
              refine lv_iload_n S.1 S.2.1 d_Mo_paint_64 rfl (lv_at hl 1 rfl) ?_
              refine lv_iload_n S.1 S.2.1 d_Mo_paint_65 rfl (lv_at hl 2 rfl) ?_
              refine hp_doneR (hp_runV S zz0 (c_Mo_isInk l dC dI cA A h t sh ac dn fr sp dt mf x y h_t) l_Mo_83 (hJ.preV _ h_t rfl) (by decide) rfl hl.1 rfl (nl rfl) d_Mo_paint_66 (by decide)) ?_
              refine lv_if_eq (tgt := 82) S.1 S.2.1 d_Mo_paint_69 (by decide) (fun c_69 => ?_) (fun c_69 => ?_)
              · refine lv_aload_n S.1 S.2.1 d_Mo_paint_82 rfl (lv_at hl 0 rfl) ?_
                refine hp_get S zz hJ h_t f_Mo_86 rfl d_Mo_paint_83 ?_
                refine lv_if_eq (tgt := 96) S.1 S.2.1 d_Mo_paint_86 (by decide) (fun c_86 => ?_) (fun c_86 => ?_)
                · exact hp_retWv S hJ hr hlk d_Mo_paint_96 (by decide) (by have hq : q_pin mf x y := ⟨q_is_ne.mp c_6, by simp only [z_lt, z_le] at c_14 c_22 c_30 c_38 ⊢; omega⟩; unfold q_pt q_pc; rw [if_pos hq, if_neg c_43, if_neg (q_is_0.mp c_69), if_pos c_86, hp_up_same h_sh])
                · refine lv_aload_n S.1 S.2.1 d_Mo_paint_89 rfl (lv_at hl 0 rfl) ?_
                  refine lv_iload_n S.1 S.2.1 d_Mo_paint_90 rfl (lv_at hl 1 rfl) ?_
                  refine lv_iload_n S.1 S.2.1 d_Mo_paint_91 rfl (lv_at hl 2 rfl) ?_
                  refine lv_iconst (v := 0) S.1 S.2.1 d_Mo_paint_92 (by decide) ?_
                  have hP := q_is_ne.mp c_6
                  have hx0 : 0 ≤ x.toInt ∧ x.toInt < ww ∧ 0 ≤ y.toInt ∧ y.toInt < hh := by have q := hP; rw [hw.2, hh2.2] at q; simp only [z_lt, z_le, z_0] at q; rw [z_nI (by omega), z_nI (by omega)] at q; exact q
                  have ex := z_ofN hx0.1
                  have ey := z_ofN hx0.2.2.1
                  have hq : q_pin mf x y := ⟨hP, by simp only [z_lt, z_le] at c_14 c_22 c_30 c_38 ⊢; omega⟩
                  obtain ⟨xn, hxn⟩ : ∃ z, z = x.toInt.toNat := ⟨_, rfl⟩
                  obtain ⟨yn, hyn⟩ : ∃ z, z = y.toInt.toNat := ⟨_, rfl⟩
                  rw [← hxn] at ex
                  rw [← hyn] at ey
                  refine hp_doneWv hJ (hp_runV S zz0 (c_Mo_set l dC dI cA A h t sh ac dn fr sp dt mf (80 * hh) xn yn f 0 false h_t h_sh (by omega) (by omega) (by omega) (by decide)) l_Mo_79 (hJ.preV [.int (nI xn), .int (nI yn), .int 0] h_t rfl) (by decide) rfl hl.1 (by rw [← ex, ← ey]; rfl) (nl rfl) d_Mo_paint_93 (by decide)) (fun h1 H locs eh1 hJ => ?_)
                  exact hp_retWv S hJ hr hlk d_Mo_paint_96 (by decide) (by unfold q_pt q_pc; rw [if_pos hq, if_neg c_43, if_neg (q_is_0.mp c_69), if_neg c_86]; rw [eh1, hxn, hyn])
              · refine lv_aload_n S.1 S.2.1 d_Mo_paint_72 rfl (lv_at hl 0 rfl) ?_
                refine lv_iload_n S.1 S.2.1 d_Mo_paint_73 rfl (lv_at hl 1 rfl) ?_
                refine lv_iload_n S.1 S.2.1 d_Mo_paint_74 rfl (lv_at hl 2 rfl) ?_
                refine lv_iconst (v := 1) S.1 S.2.1 d_Mo_paint_75 (by decide) ?_
                have hP := q_is_ne.mp c_6
                have hx0 : 0 ≤ x.toInt ∧ x.toInt < ww ∧ 0 ≤ y.toInt ∧ y.toInt < hh := by have q := hP; rw [hw.2, hh2.2] at q; simp only [z_lt, z_le, z_0] at q; rw [z_nI (by omega), z_nI (by omega)] at q; exact q
                have ex := z_ofN hx0.1
                have ey := z_ofN hx0.2.2.1
                have hq : q_pin mf x y := ⟨hP, by simp only [z_lt, z_le] at c_14 c_22 c_30 c_38 ⊢; omega⟩
                obtain ⟨xn, hxn⟩ : ∃ z, z = x.toInt.toNat := ⟨_, rfl⟩
                obtain ⟨yn, hyn⟩ : ∃ z, z = y.toInt.toNat := ⟨_, rfl⟩
                rw [← hxn] at ex
                rw [← hyn] at ey
                refine hp_doneWv hJ (hp_runV S zz0 (c_Mo_set l dC dI cA A h t sh ac dn fr sp dt mf (80 * hh) xn yn f 1 true h_t h_sh (by omega) (by omega) (by omega) (by decide)) l_Mo_79 (hJ.preV [.int (nI xn), .int (nI yn), .int 1] h_t rfl) (by decide) rfl hl.1 (by rw [← ex, ← ey]; rfl) (nl rfl) d_Mo_paint_76 (by decide)) (fun h1 H locs eh1 hJ => ?_)
                refine lv_goto (tgt := 96) S.1 S.2.1 d_Mo_paint_79 (by decide) ?_
                exact hp_retWv S hJ hr hlk d_Mo_paint_96 (by decide) (by unfold q_pt q_pc; rw [if_pos hq, if_neg c_43, if_pos (q_is_ne.mp c_69)]; rw [eh1, hxn, hyn])
            · refine lv_aload_n S.1 S.2.1 d_Mo_paint_46 rfl (lv_at hl 0 rfl) ?_
              refine hp_get S zz hJ h_t f_Mo_75 rfl d_Mo_paint_47 ?_
              refine lv_if_eq (tgt := 96) S.1 S.2.1 d_Mo_paint_50 (by decide) (fun c_50 => ?_) (fun c_50 => ?_)
              · exact hp_retWv S hJ hr hlk d_Mo_paint_96 (by decide) (by have hq : q_pin mf x y := ⟨q_is_ne.mp c_6, by simp only [z_lt, z_le] at c_14 c_22 c_30 c_38 ⊢; omega⟩; unfold q_pt q_pc; rw [if_pos hq, if_pos c_43, if_pos c_50, hp_up_same h_sh])
              · refine lv_aload_n S.1 S.2.1 d_Mo_paint_53 rfl (lv_at hl 0 rfl) ?_
                refine lv_iload_n S.1 S.2.1 d_Mo_paint_54 rfl (lv_at hl 1 rfl) ?_
                refine lv_iload_n S.1 S.2.1 d_Mo_paint_55 rfl (lv_at hl 2 rfl) ?_
                refine lv_iconst (v := 0) S.1 S.2.1 d_Mo_paint_56 (by decide) ?_
                have hP := q_is_ne.mp c_6
                have hx0 : 0 ≤ x.toInt ∧ x.toInt < ww ∧ 0 ≤ y.toInt ∧ y.toInt < hh := by have q := hP; rw [hw.2, hh2.2] at q; simp only [z_lt, z_le, z_0] at q; rw [z_nI (by omega), z_nI (by omega)] at q; exact q
                have ex := z_ofN hx0.1
                have ey := z_ofN hx0.2.2.1
                have hq : q_pin mf x y := ⟨hP, by simp only [z_lt, z_le] at c_14 c_22 c_30 c_38 ⊢; omega⟩
                obtain ⟨xn, hxn⟩ : ∃ z, z = x.toInt.toNat := ⟨_, rfl⟩
                obtain ⟨yn, hyn⟩ : ∃ z, z = y.toInt.toNat := ⟨_, rfl⟩
                rw [← hxn] at ex
                rw [← hyn] at ey
                refine hp_doneWv hJ (hp_runV S zz0 (c_Mo_set l dC dI cA A h t sh ac dn fr sp dt mf (80 * hh) xn yn f 0 false h_t h_sh (by omega) (by omega) (by omega) (by decide)) l_Mo_79 (hJ.preV [.int (nI xn), .int (nI yn), .int 0] h_t rfl) (by decide) rfl hl.1 (by rw [← ex, ← ey]; rfl) (nl rfl) d_Mo_paint_57 (by decide)) (fun h1 H locs eh1 hJ => ?_)
                refine lv_goto (tgt := 96) S.1 S.2.1 d_Mo_paint_60 (by decide) ?_
                exact hp_retWv S hJ hr hlk d_Mo_paint_96 (by decide) (by unfold q_pt q_pc; rw [if_pos hq, if_pos c_43, if_neg c_50]; rw [eh1, hxn, hyn])
          · exact hp_retWv S hJ hr hlk d_Mo_paint_41 (by decide) (by unfold q_pt q_pc; rw [if_neg (fun q => by have q2 := q.2; simp only [z_lt, z_le] at q2 c_38; omega), hp_up_same h_sh])

set_option maxHeartbeats 4000000 in
set_option maxRecDepth 100000 in
theorem c_Mo_lay (l : Launch) (dC : Nat → ClassId) (dI : Nat → Nat → Nat) (cA : Nat → ClassId) (A : Nat → Prop) (h : hp_T) (t sh ac dn fr sp dt : Nat) (mf : Nat → Int32) (ww hh : Nat) (f : Nat → Int64) (x y i j sc : Int32) (h_t : h t = some (k_Mo mf sh ac dn fr sp dt)) (h_sh : h sh = some (k_lo (cA 1) (80 * hh) f)) (hw : ww ≤ 5100 ∧ mf 1 = nI ww) (hh2 : hh ≤ 5100 ∧ mf 2 = nI hh) : Met l y_Mo_lay (.code y_Mo_lay prog_9_method_10_code 8 none :: BIG) ({ frames := 3, cells := 0, slots := 0, locals := 73 }) (va_Pc [.ref t, .int x, .int y, .int i, .int j, .int sc] (hp_I (gg dC dI cA) A h)) (hp_QW (gg dC dI cA) A hp_mv (fun _ h' => h' = hp_up h sh (k_lo (cA 1) (80 * hh) (q_pt mf f (q_lx (mf 18) x i j) (q_lyy (mf 18) y i j) sc)))) 0 0 A := by
  refine hp_enter (by decide) (Nat.le_of_ble_eq_true rfl) ?_
  intro p e s m below meth c ls S hr hlk hin hI hl
  have hl : lv_has ls 8 [(0, .ref t), (1, .int x), (2, .int y), (3, .int i), (4, .int j), (5, .int sc)] := hl
  have hJ := hI.J
  refine hp_cut (fun v => v = q_lx (mf 18) x i j) 46 [] (fun J => ?_) (fun u e_u => ?_)
  · refine lv_aload_n S.1 S.2.1 d_Mo_lay_0 rfl (lv_at hl 0 rfl) ?_
    refine hp_get S zz hJ h_t f_Mo_89 rfl d_Mo_lay_1 ?_
    refine lv_if_ne (tgt := 13) S.1 S.2.1 d_Mo_lay_4 (by decide) (fun c_4 => ?_) (fun c_4 => ?_)
    · refine lv_aload_n S.1 S.2.1 d_Mo_lay_13 rfl (lv_at hl 0 rfl) ?_
      refine hp_get S zz hJ h_t f_Mo_89 rfl d_Mo_lay_14 ?_
      refine lv_iconst (v := 1) S.1 S.2.1 d_Mo_lay_17 (by decide) ?_
      refine lv_icmp_ne (tgt := 28) S.1 S.2.1 d_Mo_lay_18 (by decide) (fun c_18 => ?_) (fun c_18 => ?_)
      · refine lv_aload_n S.1 S.2.1 d_Mo_lay_28 rfl (lv_at hl 0 rfl) ?_
        refine hp_get S zz hJ h_t f_Mo_89 rfl d_Mo_lay_29 ?_
        refine lv_iconst (v := 2) S.1 S.2.1 d_Mo_lay_32 (by decide) ?_
        refine lv_icmp_ne (tgt := 42) S.1 S.2.1 d_Mo_lay_33 (by decide) (fun c_33 => ?_) (fun c_33 => ?_)
        · refine lv_iload_n S.1 S.2.1 d_Mo_lay_42 rfl (lv_at hl 1 rfl) ?_
          refine lv_iload S.1 S.2.1 d_Mo_lay_43 (lv_at hl 4 rfl) ?_
          refine lv_isub S.1 S.2.1 d_Mo_lay_45 ?_
          exact J _ (by unfold q_lx; rw [if_neg c_4, if_neg c_18, if_neg c_33])
        · refine lv_iload_n S.1 S.2.1 d_Mo_lay_36 rfl (lv_at hl 1 rfl) ?_
          refine lv_iload_n S.1 S.2.1 d_Mo_lay_37 rfl (lv_at hl 3 rfl) ?_
          refine lv_isub S.1 S.2.1 d_Mo_lay_38 ?_
          refine lv_goto (tgt := 46) S.1 S.2.1 d_Mo_lay_39 (by decide) ?_
          exact J _ (by unfold q_lx; rw [if_neg c_4, if_neg c_18, if_pos c_33])
      · refine lv_iload_n S.1 S.2.1 d_Mo_lay_21 rfl (lv_at hl 1 rfl) ?_
        refine lv_iload S.1 S.2.1 d_Mo_lay_22 (lv_at hl 4 rfl) ?_
        refine lv_iadd S.1 S.2.1 d_Mo_lay_24 ?_
        refine lv_goto (tgt := 46) S.1 S.2.1 d_Mo_lay_25 (by decide) ?_
        exact J _ (by unfold q_lx; rw [if_neg c_4, if_pos c_18])
    · refine lv_iload_n S.1 S.2.1 d_Mo_lay_7 rfl (lv_at hl 1 rfl) ?_
      refine lv_iload_n S.1 S.2.1 d_Mo_lay_8 rfl (lv_at hl 3 rfl) ?_
      refine lv_iadd S.1 S.2.1 d_Mo_lay_9 ?_
      refine lv_goto (tgt := 46) S.1 S.2.1 d_Mo_lay_10 (by decide) ?_
      exact J _ (by unfold q_lx; rw [if_pos c_4])
  · refine lv_istore (lv' := [(6, .int u), (0, .ref t), (1, .int x), (2, .int y), (3, .int i), (4, .int j), (5, .int sc)]) S.1 S.2.1 d_Mo_lay_46 hl (by decide) rfl (fun ls hl => ?_)
    refine hp_cut (fun v => v = q_lyy (mf 18) y i j) 94 [] (fun J => ?_) (fun v9 e_v9 => ?_)
    · refine lv_aload_n S.1 S.2.1 d_Mo_lay_48 rfl (lv_at hl 1 rfl) ?_
      refine hp_get S zz hJ h_t f_Mo_89 rfl d_Mo_lay_49 ?_
      refine lv_if_ne (tgt := 62) S.1 S.2.1 d_Mo_lay_52 (by decide) (fun c_52 => ?_) (fun c_52 => ?_)
      · refine lv_aload_n S.1 S.2.1 d_Mo_lay_62 rfl (lv_at hl 1 rfl) ?_
        refine hp_get S zz hJ h_t f_Mo_89 rfl d_Mo_lay_63 ?_
        refine lv_iconst (v := 1) S.1 S.2.1 d_Mo_lay_66 (by decide) ?_
        refine lv_icmp_ne (tgt := 76) S.1 S.2.1 d_Mo_lay_67 (by decide) (fun c_67 => ?_) (fun c_67 => ?_)
        · refine lv_aload_n S.1 S.2.1 d_Mo_lay_76 rfl (lv_at hl 1 rfl) ?_
          refine hp_get S zz hJ h_t f_Mo_89 rfl d_Mo_lay_77 ?_
          refine lv_iconst (v := 2) S.1 S.2.1 d_Mo_lay_80 (by decide) ?_
          refine lv_icmp_ne (tgt := 91) S.1 S.2.1 d_Mo_lay_81 (by decide) (fun c_81 => ?_) (fun c_81 => ?_)
          · refine lv_iload_n S.1 S.2.1 d_Mo_lay_91 rfl (lv_at hl 3 rfl) ?_
            refine lv_iload_n S.1 S.2.1 d_Mo_lay_92 rfl (lv_at hl 4 rfl) ?_
            refine lv_iadd S.1 S.2.1 d_Mo_lay_93 ?_
            exact J _ (by unfold q_lyy; rw [if_neg c_52, if_neg c_67, if_neg c_81])
          · refine lv_iload_n S.1 S.2.1 d_Mo_lay_84 rfl (lv_at hl 3 rfl) ?_
            refine lv_iload S.1 S.2.1 d_Mo_lay_85 (lv_at hl 5 rfl) ?_
            refine lv_isub S.1 S.2.1 d_Mo_lay_87 ?_
            refine lv_goto (tgt := 94) S.1 S.2.1 d_Mo_lay_88 (by decide) ?_
            exact J _ (by unfold q_lyy; rw [if_neg c_52, if_neg c_67, if_pos c_81])
        · refine lv_iload_n S.1 S.2.1 d_Mo_lay_70 rfl (lv_at hl 3 rfl) ?_
          refine lv_iload_n S.1 S.2.1 d_Mo_lay_71 rfl (lv_at hl 4 rfl) ?_
          refine lv_isub S.1 S.2.1 d_Mo_lay_72 ?_
          refine lv_goto (tgt := 94) S.1 S.2.1 d_Mo_lay_73 (by decide) ?_
          exact J _ (by unfold q_lyy; rw [if_neg c_52, if_pos c_67])
      · refine lv_iload_n S.1 S.2.1 d_Mo_lay_55 rfl (lv_at hl 3 rfl) ?_
        refine lv_iload S.1 S.2.1 d_Mo_lay_56 (lv_at hl 5 rfl) ?_
        refine lv_iadd S.1 S.2.1 d_Mo_lay_58 ?_
        refine lv_goto (tgt := 94) S.1 S.2.1 d_Mo_lay_59 (by decide) ?_
        exact J _ (by unfold q_lyy; rw [if_pos c_52])
    · refine lv_istore (lv' := [(7, .int v9), (6, .int u), (0, .ref t), (1, .int x), (2, .int y), (3, .int i), (4, .int j), (5, .int sc)]) S.1 S.2.1 d_Mo_lay_94 hl (by decide) rfl (fun ls hl => ?_)
      refine lv_aload_n S.1 S.2.1 d_Mo_lay_96 rfl (lv_at hl 2 rfl) ?_
      refine lv_iload S.1 S.2.1 d_Mo_lay_97 (lv_at hl 1 rfl) ?_
      refine lv_iload S.1 S.2.1 d_Mo_lay_99 (lv_at hl 0 rfl) ?_
      refine lv_iload S.1 S.2.1 d_Mo_lay_101 (lv_at hl 7 rfl) ?_
      refine hp_doneWv hJ (hp_runV S zz0 (c_Mo_paint l dC dI cA A h t sh ac dn fr sp dt mf ww hh f u v9 sc h_t h_sh hw hh2) l_Mo_92 (hJ.preV _ h_t rfl) (by decide) rfl hl.1 rfl (nl rfl) d_Mo_lay_103 (by decide)) (fun h1 H locs eh1 hJ => ?_)
      exact hp_retWv S hJ hr hlk d_Mo_lay_106 (by decide) (by rw [eh1, e_u, e_v9])

