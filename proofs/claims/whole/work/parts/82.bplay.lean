/-! The painter lays a mark. -/
def q_ra (tn w d : Int32) : Int32 := (if tn = 1 ∨ tn = 3 then d else w) - 1
def q_rd (tn w d : Int32) : Int32 := (if tn = 1 ∨ tn = 3 then w else d) - 1
def q_le (tn px ra : Int32) : Int32 := if tn = 2 ∨ tn = 3 then px - ra else px
def q_ty (tn py rd : Int32) : Int32 := if tn = 1 ∨ tn = 2 then py - rd else py
/-- a mark was laid with the part x0 y0 x1 y1 -/
def lP (cA : Nat → ClassId) (h h' : hp_T) (pil bl st n ink : Nat) (sz so io : Int32) (nw pic : Option Nat) (f g : Nat → Int32) (lf tp r1 r2 x0 y0 x1 y1 : Int32) : Prop :=
  ∃ wb mk pb : Nat, h wb = none ∧ h mk = none ∧ h pb = none ∧ wb ≠ mk ∧ wb ≠ pb ∧ mk ≠ pb ∧
   (((x1 < x0 ∨ y1 < y0) ∧ h' = hp_up (hp_up (hp_up (hp_up h wb (k_Bx lf tp (lf + r1) (tp + r2))) pb (k_Bx x0 y0 x1 y1)) mk (k_Mk pic lf tp pb ink so io none none)) pil (k_Pl (nI n) bl st (sz + 1) nw)) ∨
    ∃ a b : Nat, a ≤ b ∧ b < n ∧ y0 = nI a ∧ y1 = nI b ∧ ¬ x1 < x0 ∧ h' = hp_up (hp_up (hp_up (hp_up (hp_up (hp_up h wb (k_Bx lf tp (lf + r1) (tp + r2))) pb (k_Bx x0 y0 x1 y1)) mk (k_Mk pic lf tp pb ink so io nw none)) pil (k_Pl (nI n) bl st (sz + 1) (some mk))) bl (k_in (cA 0) n (q_sa f a (b + 1)))) st (k_in (cA 2) n (q_sx (q_sz pic.isSome g a (b + 1)) n (b + 1))))
theorem z_min {x y : Int32} : (q_min x y).toInt = if y.toInt < x.toInt then y.toInt else x.toInt := by
  unfold q_min
  by_cases h : y < x
  · rw [if_pos h, if_pos (z_lt.mp h)]
  · rw [if_neg h, if_neg (fun q => h (z_lt.mpr q))]
theorem z_max {x y : Int32} : (q_max x y).toInt = if x.toInt < y.toInt then y.toInt else x.toInt := by
  unfold q_max
  by_cases h : x < y
  · rw [if_pos h, if_pos (z_lt.mp h)]
  · rw [if_neg h, if_neg (fun q => h (z_lt.mpr q))]
theorem lay_ab {x1 x0 y0 y1 c1 c3 : Int32} {n : Nat} (hn : n ≤ 5100) (hc : 0 ≤ c1.toInt ∧ c3.toInt < n) (hE : ¬ (x1 < x0 ∨ q_min y1 c3 < q_max y0 c1)) : ∃ a b : Nat, a ≤ b ∧ b < n ∧ q_max y0 c1 = nI a ∧ q_min y1 c3 = nI b := by
  have h1 : ¬ q_min y1 c3 < q_max y0 c1 := fun q => hE (Or.inr q)
  rw [z_lt] at h1
  have h2 : 0 ≤ (q_max y0 c1).toInt := by rw [z_max]; split <;> omega
  have h3 : (q_min y1 c3).toInt < n := by rw [z_min]; split <;> omega
  exact ⟨(q_max y0 c1).toInt.toNat, (q_min y1 c3).toInt.toNat, by omega, by omega, z_ofN h2, z_ofN (by omega)⟩

set_option maxHeartbeats 4000000 in
set_option maxRecDepth 100000 in
theorem cN_BP_lay (l : Launch) (dC : Nat → ClassId) (dI : Nat → Nat → Nat) (cA : Nat → ClassId) (A : Nat → Prop) (h : hp_T) (x sheet shp pil ink clip : Nat) (bf : Nat → Int32) (bl st n : Nat) (sz w d px py c0 c1 c2 c3 : Int32) (nw : Option Nat) (f g : Nat → Int32) (h_x : h x = some (k_BP bf sheet shp pil ink clip)) (hso : bf 10 = 0 ∨ bf 10 = 1) (hio : bf 11 = 0 ∨ bf 11 = 1) (hn : n ≤ 5100) (hc : 0 ≤ c1.toInt ∧ c3.toInt < n) (ne_bl_st : bl ≠ st) (h_pil : h pil = some (k_Pl (nI n) bl st sz nw)) (h_bl : h bl = some (k_in (cA 0) n f)) (h_st : h st = some (k_in (cA 2) n g)) (h_clip : h clip = some (k_Bx c0 c1 c2 c3)) : Met l y_BP_lay (.code y_BP_lay prog_1_method_20_code 12 none :: BIG) ({ frames := 3, cells := 3, slots := 17, locals := 67 }) (va_Pc [.ref x, .null, .int px, .int py, .int w, .int d] (hp_I (gg dC dI cA) A h)) (hp_QW (gg dC dI cA) A hp_mv (fun _ h' => lP cA h h' pil bl st n ink sz (bf 10) (bf 11) nw none f g (q_le (bf 12) px (q_ra (bf 12) w d)) (q_ty (bf 12) py (q_rd (bf 12) w d)) (q_ra (bf 12) w d) (q_rd (bf 12) w d) (q_max (q_le (bf 12) px (q_ra (bf 12) w d)) c0) (q_max (q_ty (bf 12) py (q_rd (bf 12) w d)) c1) (q_min (q_le (bf 12) px (q_ra (bf 12) w d) + q_ra (bf 12) w d) c2) (q_min (q_ty (bf 12) py (q_rd (bf 12) w d) + q_rd (bf 12) w d) c3))) 3 17 A := by
  refine hp_enter (by decide) (Nat.le_of_ble_eq_true rfl) ?_
  intro p e s m below meth c ls S hr hlk hin hI hl
  have hl : lv_has ls 12 [(0, .ref x), (1, .null), (2, .int px), (3, .int py), (4, .int w), (5, .int d)] := hl
  have hJ := hI.J
  refine hp_cut (fun v => v = q_is (bf 12 = 1 ∨ bf 12 = 3)) 21 [] (fun J => ?_) (fun u6 e_u6 => ?_)
  · refine lv_aload_n S.1 S.2.1 d_BP_lay_0 rfl (lv_at hl 0 rfl) ?_
    refine hp_get S zz hJ h_x f_BP_113 rfl d_BP_lay_1 ?_
    refine lv_iconst (v := 1) S.1 S.2.1 d_BP_lay_4 (by decide) ?_
    refine lv_icmp_eq (tgt := 16) S.1 S.2.1 d_BP_lay_5 (by decide) (fun c_5 => ?_) (fun c_5 => ?_)
    · refine lv_iconst (v := 1) S.1 S.2.1 d_BP_lay_16 (by decide) ?_
      refine lv_goto (tgt := 21) S.1 S.2.1 d_BP_lay_17 (by decide) ?_
      exact J _ (q_is_t (Or.inl c_5))
    · refine lv_aload_n S.1 S.2.1 d_BP_lay_8 rfl (lv_at hl 0 rfl) ?_
      refine hp_get S zz hJ h_x f_BP_113 rfl d_BP_lay_9 ?_
      refine lv_iconst (v := 3) S.1 S.2.1 d_BP_lay_12 (by decide) ?_
      refine lv_icmp_ne (tgt := 20) S.1 S.2.1 d_BP_lay_13 (by decide) (fun c_13 => ?_) (fun c_13 => ?_)
      · refine lv_iconst (v := 0) S.1 S.2.1 d_BP_lay_20 (by decide) ?_
        exact J _ (q_is_f (fun q => q.elim c_5 c_13))
      · refine lv_iconst (v := 1) S.1 S.2.1 d_BP_lay_16 (by decide) ?_
        refine lv_goto (tgt := 21) S.1 S.2.1 d_BP_lay_17 (by decide) ?_
        exact J _ (q_is_t (Or.inr c_13))
  · refine lv_istore (lv' := [(6, .int u6), (0, .ref x), (1, .null), (2, .int px), (3, .int py), (4, .int w), (5, .int d)]) S.1 S.2.1 d_BP_lay_21 hl (by decide) rfl (fun ls hl => ?_)
    refine hp_cut (fun v => v = (if bf 12 = 1 ∨ bf 12 = 3 then d else w)) 35 [] (fun J => ?_) (fun a6 e_a6 => ?_)
    · refine lv_iload S.1 S.2.1 d_BP_lay_23 (lv_at hl 0 rfl) ?_
      refine lv_if_eq (tgt := 33) S.1 S.2.1 d_BP_lay_25 (by decide) (fun c_25 => ?_) (fun c_25 => ?_)
      · refine lv_iload S.1 S.2.1 d_BP_lay_33 (lv_at hl 5 rfl) ?_
        exact J _ (by rw [if_neg (q_is_0.mp (e_u6 ▸ c_25))])
      · refine lv_iload S.1 S.2.1 d_BP_lay_28 (lv_at hl 6 rfl) ?_
        refine lv_goto (tgt := 35) S.1 S.2.1 d_BP_lay_30 (by decide) ?_
        exact J _ (by rw [if_pos (q_is_ne.mp (e_u6 ▸ c_25))])
    · refine lv_iconst (v := 1) S.1 S.2.1 d_BP_lay_35 (by decide) ?_
      refine lv_isub S.1 S.2.1 d_BP_lay_36 ?_
      refine lv_topi (fun r1 e9_r1 => ?_)
      have e_r1 : r1 = q_ra (bf 12) w d := by rw [e9_r1, e_a6]; rfl
      refine lv_istore (lv' := [(7, .int r1), (6, .int u6), (0, .ref x), (1, .null), (2, .int px), (3, .int py), (4, .int w), (5, .int d)]) S.1 S.2.1 d_BP_lay_37 hl (by decide) rfl (fun ls hl => ?_)
      refine hp_cut (fun v => v = (if bf 12 = 1 ∨ bf 12 = 3 then w else d)) 51 [] (fun J => ?_) (fun b6 e_b6 => ?_)
      · refine lv_iload S.1 S.2.1 d_BP_lay_39 (lv_at hl 1 rfl) ?_
        refine lv_if_eq (tgt := 49) S.1 S.2.1 d_BP_lay_41 (by decide) (fun c_41 => ?_) (fun c_41 => ?_)
        · refine lv_iload S.1 S.2.1 d_BP_lay_49 (lv_at hl 7 rfl) ?_
          exact J _ (by rw [if_neg (q_is_0.mp (e_u6 ▸ c_41))])
        · refine lv_iload S.1 S.2.1 d_BP_lay_44 (lv_at hl 6 rfl) ?_
          refine lv_goto (tgt := 51) S.1 S.2.1 d_BP_lay_46 (by decide) ?_
          exact J _ (by rw [if_pos (q_is_ne.mp (e_u6 ▸ c_41))])
      · refine lv_iconst (v := 1) S.1 S.2.1 d_BP_lay_51 (by decide) ?_
        refine lv_isub S.1 S.2.1 d_BP_lay_52 ?_
        refine lv_topi (fun r2 e9_r2 => ?_)
        have e_r2 : r2 = q_rd (bf 12) w d := by rw [e9_r2, e_b6]; rfl
        refine lv_istore (lv' := [(8, .int r2), (7, .int r1), (6, .int u6), (0, .ref x), (1, .null), (2, .int px), (3, .int py), (4, .int w), (5, .int d)]) S.1 S.2.1 d_BP_lay_53 hl (by decide) rfl (fun ls hl => ?_)
        refine hp_cut (fun v => v = q_le (bf 12) px r1) 79 [] (fun J => ?_) (fun lf e_lf => ?_)
        · refine lv_aload_n S.1 S.2.1 d_BP_lay_55 rfl (lv_at hl 3 rfl) ?_
          refine hp_get S zz hJ h_x f_BP_113 rfl d_BP_lay_56 ?_
          refine lv_iconst (v := 2) S.1 S.2.1 d_BP_lay_59 (by decide) ?_
          refine lv_icmp_eq (tgt := 71) S.1 S.2.1 d_BP_lay_60 (by decide) (fun c_60 => ?_) (fun c_60 => ?_)
          · refine lv_iload_n S.1 S.2.1 d_BP_lay_71 rfl (lv_at hl 5 rfl) ?_
            refine lv_iload S.1 S.2.1 d_BP_lay_72 (lv_at hl 1 rfl) ?_
            refine lv_isub S.1 S.2.1 d_BP_lay_74 ?_
            refine lv_goto (tgt := 79) S.1 S.2.1 d_BP_lay_75 (by decide) ?_
            exact J _ (if_pos (Or.inl c_60)).symm
          · refine lv_aload_n S.1 S.2.1 d_BP_lay_63 rfl (lv_at hl 3 rfl) ?_
            refine hp_get S zz hJ h_x f_BP_113 rfl d_BP_lay_64 ?_
            refine lv_iconst (v := 3) S.1 S.2.1 d_BP_lay_67 (by decide) ?_
            refine lv_icmp_ne (tgt := 78) S.1 S.2.1 d_BP_lay_68 (by decide) (fun c_68 => ?_) (fun c_68 => ?_)
            · refine lv_iload_n S.1 S.2.1 d_BP_lay_78 rfl (lv_at hl 5 rfl) ?_
              exact J _ (if_neg (fun q => q.elim c_60 c_68)).symm
            · refine lv_iload_n S.1 S.2.1 d_BP_lay_71 rfl (lv_at hl 5 rfl) ?_
              refine lv_iload S.1 S.2.1 d_BP_lay_72 (lv_at hl 1 rfl) ?_
              refine lv_isub S.1 S.2.1 d_BP_lay_74 ?_
              refine lv_goto (tgt := 79) S.1 S.2.1 d_BP_lay_75 (by decide) ?_
              exact J _ (if_pos (Or.inr c_68)).symm
        · refine lv_istore (lv' := [(9, .int lf), (8, .int r2), (7, .int r1), (6, .int u6), (0, .ref x), (1, .null), (2, .int px), (3, .int py), (4, .int w), (5, .int d)]) S.1 S.2.1 d_BP_lay_79 hl (by decide) rfl (fun ls hl => ?_)
          refine hp_cut (fun v => v = q_ty (bf 12) py r2) 105 [] (fun J => ?_) (fun tp e_tp => ?_)
          · refine lv_aload_n S.1 S.2.1 d_BP_lay_81 rfl (lv_at hl 4 rfl) ?_
            refine hp_get S zz hJ h_x f_BP_113 rfl d_BP_lay_82 ?_
            refine lv_iconst (v := 1) S.1 S.2.1 d_BP_lay_85 (by decide) ?_
            refine lv_icmp_eq (tgt := 97) S.1 S.2.1 d_BP_lay_86 (by decide) (fun c_86 => ?_) (fun c_86 => ?_)
            · refine lv_iload_n S.1 S.2.1 d_BP_lay_97 rfl (lv_at hl 7 rfl) ?_
              refine lv_iload S.1 S.2.1 d_BP_lay_98 (lv_at hl 1 rfl) ?_
              refine lv_isub S.1 S.2.1 d_BP_lay_100 ?_
              refine lv_goto (tgt := 105) S.1 S.2.1 d_BP_lay_101 (by decide) ?_
              exact J _ (if_pos (Or.inl c_86)).symm
            · refine lv_aload_n S.1 S.2.1 d_BP_lay_89 rfl (lv_at hl 4 rfl) ?_
              refine hp_get S zz hJ h_x f_BP_113 rfl d_BP_lay_90 ?_
              refine lv_iconst (v := 2) S.1 S.2.1 d_BP_lay_93 (by decide) ?_
              refine lv_icmp_ne (tgt := 104) S.1 S.2.1 d_BP_lay_94 (by decide) (fun c_94 => ?_) (fun c_94 => ?_)
              · refine lv_iload_n S.1 S.2.1 d_BP_lay_104 rfl (lv_at hl 7 rfl) ?_
                exact J _ (if_neg (fun q => q.elim c_86 c_94)).symm
              · refine lv_iload_n S.1 S.2.1 d_BP_lay_97 rfl (lv_at hl 7 rfl) ?_
                refine lv_iload S.1 S.2.1 d_BP_lay_98 (lv_at hl 1 rfl) ?_
                refine lv_isub S.1 S.2.1 d_BP_lay_100 ?_
                refine lv_goto (tgt := 105) S.1 S.2.1 d_BP_lay_101 (by decide) ?_
                exact J _ (if_pos (Or.inr c_94)).symm
          · refine lv_istore (lv' := [(10, .int tp), (9, .int lf), (8, .int r2), (7, .int r1), (6, .int u6), (0, .ref x), (1, .null), (2, .int px), (3, .int py), (4, .int w), (5, .int d)]) S.1 S.2.1 d_BP_lay_105 hl (by decide) rfl (fun ls hl => ?_)
            refine hp_new S zz hJ (ci := 1) rfl n_BP_23 e0_Bx_ok (by decide) (by decide) d_BP_lay_107 (fun wb H hq_wb hs_wb hJ => ?_)
            have ne_clip_wb : clip ≠ wb := hp_neN h_clip hq_wb
            obtain ⟨h1, eh1⟩ : ∃ z, z = hp_up h wb (.inr (1, [.int 0, .int 0, .int 0, .int 0])) := ⟨_, rfl⟩
            have hJ := hJ.cast eh1
            have h_x : h1 x = some (.inr (0, [.int (bf 0), .int (bf 1), .int (bf 2), .ref sheet, .ref shp, .ref pil, .int (bf 6), .int (bf 7), .int (bf 8), .ref ink, .int (bf 10), .int (bf 11), .int (bf 12), .ref clip])) := by rw [eh1]; exact hp_up_k (hp_neN h_x hq_wb) h_x
            have h_pil : h1 pil = some (.inr (5, [.int (nI n), .ref bl, .ref st, .int sz, va_rf nw])) := by rw [eh1]; exact hp_up_k (hp_neN h_pil hq_wb) h_pil
            have h_bl : h1 bl = some (k_in (cA 0) n f) := by rw [eh1]; exact hp_up_k (hp_neN h_bl hq_wb) h_bl
            have h_st : h1 st = some (k_in (cA 2) n g) := by rw [eh1]; exact hp_up_k (hp_neN h_st hq_wb) h_st
            have h_clip : h1 clip = some (.inr (1, [.int c0, .int c1, .int c2, .int c3])) := by rw [eh1]; exact hp_up_k (hp_neN h_clip hq_wb) h_clip
            have h_wb : h1 wb = some (.inr (1, [.int 0, .int 0, .int 0, .int 0])) := by rw [eh1]; exact hp_up_s _ _ _
            refine lv_dup S.1 S.2.1 d_BP_lay_110 rfl ?_
            refine lv_iload S.1 S.2.1 d_BP_lay_111 (lv_at hl 1 rfl) ?_
            refine lv_iload S.1 S.2.1 d_BP_lay_113 (lv_at hl 0 rfl) ?_
            refine lv_iload S.1 S.2.1 d_BP_lay_115 (lv_at hl 1 rfl) ?_
            refine lv_iload S.1 S.2.1 d_BP_lay_117 (lv_at hl 3 rfl) ?_
            refine lv_iadd S.1 S.2.1 d_BP_lay_119 ?_
            refine lv_iload S.1 S.2.1 d_BP_lay_120 (lv_at hl 0 rfl) ?_
            refine lv_iload S.1 S.2.1 d_BP_lay_122 (lv_at hl 2 rfl) ?_
            refine lv_iadd S.1 S.2.1 d_BP_lay_124 ?_
            refine hp_doneWv hJ (hp_runI S zz0 (c_Bx_init l dC dI cA A _ wb lf tp (lf + r1) (tp + r2) _ _ _ _ h_wb) l_BP_25 (hJ.pre _) (by decide) rfl hl.1 rfl (nl rfl) d_BP_lay_125 (by decide)) (fun h2 H locs eh2 hJ => ?_)
            have h0_wb := h_wb
            have h_x : h2 x = some (.inr (0, [.int (bf 0), .int (bf 1), .int (bf 2), .ref sheet, .ref shp, .ref pil, .int (bf 6), .int (bf 7), .int (bf 8), .ref ink, .int (bf 10), .int (bf 11), .int (bf 12), .ref clip])) := by rw [eh2]; exact hp_up_k (hp_ne h_x h0_wb (show ((0, 0) : Nat × Nat) ≠ (0, 1) by decide)) h_x
            have h_pil : h2 pil = some (.inr (5, [.int (nI n), .ref bl, .ref st, .int sz, va_rf nw])) := by rw [eh2]; exact hp_up_k (hp_ne h_pil h0_wb (show ((0, 5) : Nat × Nat) ≠ (0, 1) by decide)) h_pil
            have h_bl : h2 bl = some (k_in (cA 0) n f) := by rw [eh2]; exact hp_up_k (hp_ne h_bl h0_wb (show ((1, 0) : Nat × Nat) ≠ (0, 1) by decide)) h_bl
            have h_st : h2 st = some (k_in (cA 2) n g) := by rw [eh2]; exact hp_up_k (hp_ne h_st h0_wb (show ((1, 0) : Nat × Nat) ≠ (0, 1) by decide)) h_st
            have h_clip : h2 clip = some (.inr (1, [.int c0, .int c1, .int c2, .int c3])) := by rw [eh2]; exact hp_up_k (ne_clip_wb) h_clip
            have h_wb : h2 wb = some (.inr (1, [.int lf, .int tp, .int (lf + r1), .int (tp + r2)])) := by rw [eh2]; exact hp_up_s _ _ _
            refine lv_astore (lv' := [(11, .ref wb), (10, .int tp), (9, .int lf), (8, .int r2), (7, .int r1), (6, .int u6), (0, .ref x), (1, .null), (2, .int px), (3, .int py), (4, .int w), (5, .int d)]) S.1 S.2.1 d_BP_lay_128 hl (by decide) rfl (fun ls hl => ?_)
            refine lv_aload_n S.1 S.2.1 d_BP_lay_130 rfl (lv_at hl 6 rfl) ?_
            refine hp_get S zz hJ h_x f_BP_43 rfl d_BP_lay_131 ?_
            refine hp_new S zz hJ (ci := 3) rfl n_BP_192 e0_Mk_ok (by decide) (by decide) d_BP_lay_134 (fun mk H hq_mk hs_mk hJ => ?_)
            obtain ⟨h3, eh3⟩ : ∃ z, z = hp_up h2 mk (.inr (3, [.null, .int 0, .int 0, .null, .null, .int 0, .int 0, .null, .null])) := ⟨_, rfl⟩
            have hJ := hJ.cast eh3
            have h_x : h3 x = some (.inr (0, [.int (bf 0), .int (bf 1), .int (bf 2), .ref sheet, .ref shp, .ref pil, .int (bf 6), .int (bf 7), .int (bf 8), .ref ink, .int (bf 10), .int (bf 11), .int (bf 12), .ref clip])) := by rw [eh3]; exact hp_up_k (hp_neN h_x hq_mk) h_x
            have h_pil : h3 pil = some (.inr (5, [.int (nI n), .ref bl, .ref st, .int sz, va_rf nw])) := by rw [eh3]; exact hp_up_k (hp_neN h_pil hq_mk) h_pil
            have h_bl : h3 bl = some (k_in (cA 0) n f) := by rw [eh3]; exact hp_up_k (hp_neN h_bl hq_mk) h_bl
            have h_st : h3 st = some (k_in (cA 2) n g) := by rw [eh3]; exact hp_up_k (hp_neN h_st hq_mk) h_st
            have h_clip : h3 clip = some (.inr (1, [.int c0, .int c1, .int c2, .int c3])) := by rw [eh3]; exact hp_up_k (hp_neN h_clip hq_mk) h_clip
            have h_wb : h3 wb = some (.inr (1, [.int lf, .int tp, .int (lf + r1), .int (tp + r2)])) := by rw [eh3]; exact hp_up_k (hp_neN h_wb hq_mk) h_wb
            have h_mk : h3 mk = some (.inr (3, [.null, .int 0, .int 0, .null, .null, .int 0, .int 0, .null, .null])) := by rw [eh3]; exact hp_up_s _ _ _
            refine lv_dup S.1 S.2.1 d_BP_lay_137 rfl ?_
            refine lv_aload_nN S.1 S.2.1 d_BP_lay_138 rfl (lv_at hl 7 rfl) ?_
            refine lv_iload S.1 S.2.1 d_BP_lay_139 (lv_at hl 2 rfl) ?_
            refine lv_iload S.1 S.2.1 d_BP_lay_141 (lv_at hl 1 rfl) ?_
            refine lv_aload S.1 S.2.1 d_BP_lay_143 (lv_at hl 0 rfl) ?_
            refine lv_aload_n S.1 S.2.1 d_BP_lay_145 rfl (lv_at hl 6 rfl) ?_
            refine hp_get S zz hJ h_x f_BP_56 rfl d_BP_lay_146 ?_
            refine hp_doneWr hJ (hp_runV S zz0 (c_Bx_common l dC dI cA A _ wb clip _ _ _ _ _ _ _ _ h_wb h_clip) l_BP_116 (hJ.preV _ h_wb rfl) (by decide) rfl hl.1 rfl (nl rfl) d_BP_lay_149 (by decide)) (fun pb h9 H locs hx hJ => ?_)
            obtain ⟨hq_pb, eh9⟩ := hx
            have ne_wb_pb : wb ≠ pb := hp_neN h_wb hq_pb
            have ne_clip_pb : clip ≠ pb := hp_neN h_clip hq_pb
            have ne_mk_pb : mk ≠ pb := hp_neN h_mk hq_pb
            have h_x : h9 x = some (.inr (0, [.int (bf 0), .int (bf 1), .int (bf 2), .ref sheet, .ref shp, .ref pil, .int (bf 6), .int (bf 7), .int (bf 8), .ref ink, .int (bf 10), .int (bf 11), .int (bf 12), .ref clip])) := by rw [eh9]; exact hp_up_k (hp_neN h_x hq_pb) h_x
            have h_pil : h9 pil = some (.inr (5, [.int (nI n), .ref bl, .ref st, .int sz, va_rf nw])) := by rw [eh9]; exact hp_up_k (hp_neN h_pil hq_pb) h_pil
            have h_bl : h9 bl = some (k_in (cA 0) n f) := by rw [eh9]; exact hp_up_k (hp_neN h_bl hq_pb) h_bl
            have h_st : h9 st = some (k_in (cA 2) n g) := by rw [eh9]; exact hp_up_k (hp_neN h_st hq_pb) h_st
            have h_clip : h9 clip = some (.inr (1, [.int c0, .int c1, .int c2, .int c3])) := by rw [eh9]; exact hp_up_k (hp_neN h_clip hq_pb) h_clip
            have h_wb : h9 wb = some (.inr (1, [.int lf, .int tp, .int (lf + r1), .int (tp + r2)])) := by rw [eh9]; exact hp_up_k (hp_neN h_wb hq_pb) h_wb
            have h_mk : h9 mk = some (.inr (3, [.null, .int 0, .int 0, .null, .null, .int 0, .int 0, .null, .null])) := by rw [eh9]; exact hp_up_k (hp_neN h_mk hq_pb) h_mk
            have h_pb : h9 pb = some (k_Bx (q_max lf c0) (q_max tp c1) (q_min (lf + r1) c2) (q_min (tp + r2) c3)) := by rw [eh9]; exact hp_up_s _ _ _
            refine lv_aload_n S.1 S.2.1 d_BP_lay_152 rfl (lv_at hl 6 rfl) ?_
            refine hp_get S zz hJ h_x f_BP_52 rfl d_BP_lay_153 ?_
            refine lv_aload_n S.1 S.2.1 d_BP_lay_156 rfl (lv_at hl 6 rfl) ?_
            refine hp_get S zz hJ h_x f_BP_107 rfl d_BP_lay_157 ?_
            refine lv_aload_n S.1 S.2.1 d_BP_lay_160 rfl (lv_at hl 6 rfl) ?_
            refine hp_get S zz hJ h_x f_BP_110 rfl d_BP_lay_161 ?_
            refine hp_doneWv hJ (hp_runI S zz0 (cN_Mk_init l dC dI cA A _ mk pb ink lf tp (bf 10) (bf 11) hso hio h_mk) l_BP_194 (hJ.pre _) (by decide) rfl hl.1 rfl (nl rfl) d_BP_lay_164 (by decide)) (fun h4 H locs eh4 hJ => ?_)
            have h0_mk := h_mk
            have h_x : h4 x = some (.inr (0, [.int (bf 0), .int (bf 1), .int (bf 2), .ref sheet, .ref shp, .ref pil, .int (bf 6), .int (bf 7), .int (bf 8), .ref ink, .int (bf 10), .int (bf 11), .int (bf 12), .ref clip])) := by rw [eh4]; exact hp_up_k (hp_ne h_x h0_mk (show ((0, 0) : Nat × Nat) ≠ (0, 3) by decide)) h_x
            have h_pil : h4 pil = some (.inr (5, [.int (nI n), .ref bl, .ref st, .int sz, va_rf nw])) := by rw [eh4]; exact hp_up_k (hp_ne h_pil h0_mk (show ((0, 5) : Nat × Nat) ≠ (0, 3) by decide)) h_pil
            have h_bl : h4 bl = some (k_in (cA 0) n f) := by rw [eh4]; exact hp_up_k (hp_ne h_bl h0_mk (show ((1, 0) : Nat × Nat) ≠ (0, 3) by decide)) h_bl
            have h_st : h4 st = some (k_in (cA 2) n g) := by rw [eh4]; exact hp_up_k (hp_ne h_st h0_mk (show ((1, 0) : Nat × Nat) ≠ (0, 3) by decide)) h_st
            have h_clip : h4 clip = some (.inr (1, [.int c0, .int c1, .int c2, .int c3])) := by rw [eh4]; exact hp_up_k (hp_ne h_clip h0_mk (show ((0, 1) : Nat × Nat) ≠ (0, 3) by decide)) h_clip
            have h_wb : h4 wb = some (.inr (1, [.int lf, .int tp, .int (lf + r1), .int (tp + r2)])) := by rw [eh4]; exact hp_up_k (hp_ne h_wb h0_mk (show ((0, 1) : Nat × Nat) ≠ (0, 3) by decide)) h_wb
            have h_pb : h4 pb = some (k_Bx (q_max lf c0) (q_max tp c1) (q_min (lf + r1) c2) (q_min (tp + r2) c3)) := by rw [eh4]; exact hp_up_k (Ne.symm ne_mk_pb) h_pb
            have h_mk : h4 mk = some (.inr (3, [.null, .int lf, .int tp, .ref pb, .ref ink, .int (bf 10), .int (bf 11), .null, .null])) := by rw [eh4]; exact hp_up_s _ _ _
            have ne_wb_mk : wb ≠ mk := hp_ne h_wb h_mk (show ((0, 1) : Nat × Nat) ≠ (0, 3) by decide)
            have hN_mk : h mk = none := by have z := hq_mk; rw [eh2, eh1, hp_up_up] at z; exact hp_up_none z
            have hN_pb : h pb = none := by have z := hq_pb; rw [eh3, eh2, eh1, hp_up_up] at z; exact hp_up_none (hp_up_none z)
            have eh5 : h4 = hp_up (hp_up (hp_up h wb (k_Bx lf tp (lf + r1) (tp + r2))) pb (k_Bx (q_max lf c0) (q_max tp c1) (q_min (lf + r1) c2) (q_min (tp + r2) c3))) mk (k_Mk none lf tp pb ink (bf 10) (bf 11) none none) := by rw [eh4, eh9, eh3, eh2, eh1, hp_up_up, hp_tbt _ _ _ _ ne_mk_pb]
            by_cases hE : (q_min (lf + r1) c2) < q_max lf c0 ∨ (q_min (tp + r2) c3) < q_max tp c1
            · refine hp_doneWv hJ (hp_runV S zz0 (cE_Pl_add l dC dI cA A _ pil mk pb ink bl st n none sz lf tp _ _ _ _ _ _ nw none none hE h_pil h_mk h_pb) l_BP_197 (hJ.preV _ h_pil rfl) (by decide) rfl hl.1 rfl (nl rfl) d_BP_lay_167 (by decide)) (fun h7 H locs eh7 hJ => ?_)
              subst e_lf e_tp e_r1 e_r2
              exact hp_retWv S hJ hr hlk d_BP_lay_170 (by decide) ⟨wb, mk, pb, hq_wb, hN_mk, hN_pb, ne_wb_mk, ne_wb_pb, ne_mk_pb, Or.inl ⟨hE, by rw [eh7, eh5]⟩⟩
            · obtain ⟨a9, b9, h91, h92, h93, h94⟩ := lay_ab (x0 := q_max lf c0) (x1 := q_min (lf + r1) c2) hn hc hE
              have h_pb2 := h_pb
              rw [h93, h94] at h_pb2
              refine hp_doneWv hJ (hp_runV S zz0 (cN_Pl_add l dC dI cA A _ pil mk pb ink bl st n a9 b9 sz lf tp _ _ _ _ nw none none f g hn ⟨h91, h92⟩ (fun q => hE (Or.inl q)) ne_bl_st h_pil h_bl h_st h_mk h_pb2) l_BP_197 (hJ.preV _ h_pil rfl) (by decide) rfl hl.1 rfl (nl rfl) d_BP_lay_167 (by decide)) (fun h7 H locs eh7 hJ => ?_)
              subst e_lf e_tp e_r1 e_r2
              exact hp_retWv S hJ hr hlk d_BP_lay_170 (by decide) ⟨wb, mk, pb, hq_wb, hN_mk, hN_pb, ne_wb_mk, ne_wb_pb, ne_mk_pb, Or.inr ⟨a9, b9, h91, h92, h93, h94, fun q => hE (Or.inl q), by rw [eh7, eh5, hp_up_up]; rfl⟩⟩

set_option maxHeartbeats 4000000 in
set_option maxRecDepth 100000 in
theorem cS_BP_lay (l : Launch) (dC : Nat → ClassId) (dI : Nat → Nat → Nat) (cA : Nat → ClassId) (A : Nat → Prop) (h : hp_T) (x sheet shp pil ink clip : Nat) (bf : Nat → Int32) (bl st n : Nat) (sz w d px py c0 c1 c2 c3 : Int32) (nw : Option Nat) (f g : Nat → Int32) (pic : Nat) (h_x : h x = some (k_BP bf sheet shp pil ink clip)) (hso : bf 10 = 0 ∨ bf 10 = 1) (hio : bf 11 = 0 ∨ bf 11 = 1) (hn : n ≤ 5100) (hc : 0 ≤ c1.toInt ∧ c3.toInt < n) (ne_bl_st : bl ≠ st) (h_pil : h pil = some (k_Pl (nI n) bl st sz nw)) (h_bl : h bl = some (k_in (cA 0) n f)) (h_st : h st = some (k_in (cA 2) n g)) (h_clip : h clip = some (k_Bx c0 c1 c2 c3)) : Met l y_BP_lay (.code y_BP_lay prog_1_method_20_code 12 none :: BIG) ({ frames := 3, cells := 3, slots := 17, locals := 67 }) (va_Pc [.ref x, .ref pic, .int px, .int py, .int w, .int d] (hp_I (gg dC dI cA) A h)) (hp_QW (gg dC dI cA) A hp_mv (fun _ h' => lP cA h h' pil bl st n ink sz (bf 10) (bf 11) nw (some pic) f g (q_le (bf 12) px (q_ra (bf 12) w d)) (q_ty (bf 12) py (q_rd (bf 12) w d)) (q_ra (bf 12) w d) (q_rd (bf 12) w d) (q_max (q_le (bf 12) px (q_ra (bf 12) w d)) c0) (q_max (q_ty (bf 12) py (q_rd (bf 12) w d)) c1) (q_min (q_le (bf 12) px (q_ra (bf 12) w d) + q_ra (bf 12) w d) c2) (q_min (q_ty (bf 12) py (q_rd (bf 12) w d) + q_rd (bf 12) w d) c3))) 3 17 A := by
  refine hp_enter (by decide) (Nat.le_of_ble_eq_true rfl) ?_
  intro p e s m below meth c ls S hr hlk hin hI hl
  have hl : lv_has ls 12 [(0, .ref x), (1, .ref pic), (2, .int px), (3, .int py), (4, .int w), (5, .int d)] := hl
  have hJ := hI.J
  refine hp_cut (fun v => v = q_is (bf 12 = 1 ∨ bf 12 = 3)) 21 [] (fun J => ?_) (fun u6 e_u6 => ?_)
  · refine lv_aload_n S.1 S.2.1 d_BP_lay_0 rfl (lv_at hl 0 rfl) ?_
    refine hp_get S zz hJ h_x f_BP_113 rfl d_BP_lay_1 ?_
    refine lv_iconst (v := 1) S.1 S.2.1 d_BP_lay_4 (by decide) ?_
    refine lv_icmp_eq (tgt := 16) S.1 S.2.1 d_BP_lay_5 (by decide) (fun c_5 => ?_) (fun c_5 => ?_)
    · refine lv_iconst (v := 1) S.1 S.2.1 d_BP_lay_16 (by decide) ?_
      refine lv_goto (tgt := 21) S.1 S.2.1 d_BP_lay_17 (by decide) ?_
      exact J _ (q_is_t (Or.inl c_5))
    · refine lv_aload_n S.1 S.2.1 d_BP_lay_8 rfl (lv_at hl 0 rfl) ?_
      refine hp_get S zz hJ h_x f_BP_113 rfl d_BP_lay_9 ?_
      refine lv_iconst (v := 3) S.1 S.2.1 d_BP_lay_12 (by decide) ?_
      refine lv_icmp_ne (tgt := 20) S.1 S.2.1 d_BP_lay_13 (by decide) (fun c_13 => ?_) (fun c_13 => ?_)
      · refine lv_iconst (v := 0) S.1 S.2.1 d_BP_lay_20 (by decide) ?_
        exact J _ (q_is_f (fun q => q.elim c_5 c_13))
      · refine lv_iconst (v := 1) S.1 S.2.1 d_BP_lay_16 (by decide) ?_
        refine lv_goto (tgt := 21) S.1 S.2.1 d_BP_lay_17 (by decide) ?_
        exact J _ (q_is_t (Or.inr c_13))
  · refine lv_istore (lv' := [(6, .int u6), (0, .ref x), (1, .ref pic), (2, .int px), (3, .int py), (4, .int w), (5, .int d)]) S.1 S.2.1 d_BP_lay_21 hl (by decide) rfl (fun ls hl => ?_)
    refine hp_cut (fun v => v = (if bf 12 = 1 ∨ bf 12 = 3 then d else w)) 35 [] (fun J => ?_) (fun a6 e_a6 => ?_)
    · refine lv_iload S.1 S.2.1 d_BP_lay_23 (lv_at hl 0 rfl) ?_
      refine lv_if_eq (tgt := 33) S.1 S.2.1 d_BP_lay_25 (by decide) (fun c_25 => ?_) (fun c_25 => ?_)
      · refine lv_iload S.1 S.2.1 d_BP_lay_33 (lv_at hl 5 rfl) ?_
        exact J _ (by rw [if_neg (q_is_0.mp (e_u6 ▸ c_25))])
      · refine lv_iload S.1 S.2.1 d_BP_lay_28 (lv_at hl 6 rfl) ?_
        refine lv_goto (tgt := 35) S.1 S.2.1 d_BP_lay_30 (by decide) ?_
        exact J _ (by rw [if_pos (q_is_ne.mp (e_u6 ▸ c_25))])
    · refine lv_iconst (v := 1) S.1 S.2.1 d_BP_lay_35 (by decide) ?_
      refine lv_isub S.1 S.2.1 d_BP_lay_36 ?_
      refine lv_topi (fun r1 e9_r1 => ?_)
      have e_r1 : r1 = q_ra (bf 12) w d := by rw [e9_r1, e_a6]; rfl
      refine lv_istore (lv' := [(7, .int r1), (6, .int u6), (0, .ref x), (1, .ref pic), (2, .int px), (3, .int py), (4, .int w), (5, .int d)]) S.1 S.2.1 d_BP_lay_37 hl (by decide) rfl (fun ls hl => ?_)
      refine hp_cut (fun v => v = (if bf 12 = 1 ∨ bf 12 = 3 then w else d)) 51 [] (fun J => ?_) (fun b6 e_b6 => ?_)
      · refine lv_iload S.1 S.2.1 d_BP_lay_39 (lv_at hl 1 rfl) ?_
        refine lv_if_eq (tgt := 49) S.1 S.2.1 d_BP_lay_41 (by decide) (fun c_41 => ?_) (fun c_41 => ?_)
        · refine lv_iload S.1 S.2.1 d_BP_lay_49 (lv_at hl 7 rfl) ?_
          exact J _ (by rw [if_neg (q_is_0.mp (e_u6 ▸ c_41))])
        · refine lv_iload S.1 S.2.1 d_BP_lay_44 (lv_at hl 6 rfl) ?_
          refine lv_goto (tgt := 51) S.1 S.2.1 d_BP_lay_46 (by decide) ?_
          exact J _ (by rw [if_pos (q_is_ne.mp (e_u6 ▸ c_41))])
      · refine lv_iconst (v := 1) S.1 S.2.1 d_BP_lay_51 (by decide) ?_
        refine lv_isub S.1 S.2.1 d_BP_lay_52 ?_
        refine lv_topi (fun r2 e9_r2 => ?_)
        have e_r2 : r2 = q_rd (bf 12) w d := by rw [e9_r2, e_b6]; rfl
        refine lv_istore (lv' := [(8, .int r2), (7, .int r1), (6, .int u6), (0, .ref x), (1, .ref pic), (2, .int px), (3, .int py), (4, .int w), (5, .int d)]) S.1 S.2.1 d_BP_lay_53 hl (by decide) rfl (fun ls hl => ?_)
        refine hp_cut (fun v => v = q_le (bf 12) px r1) 79 [] (fun J => ?_) (fun lf e_lf => ?_)
        · refine lv_aload_n S.1 S.2.1 d_BP_lay_55 rfl (lv_at hl 3 rfl) ?_
          refine hp_get S zz hJ h_x f_BP_113 rfl d_BP_lay_56 ?_
          refine lv_iconst (v := 2) S.1 S.2.1 d_BP_lay_59 (by decide) ?_
          refine lv_icmp_eq (tgt := 71) S.1 S.2.1 d_BP_lay_60 (by decide) (fun c_60 => ?_) (fun c_60 => ?_)
          · refine lv_iload_n S.1 S.2.1 d_BP_lay_71 rfl (lv_at hl 5 rfl) ?_
            refine lv_iload S.1 S.2.1 d_BP_lay_72 (lv_at hl 1 rfl) ?_
            refine lv_isub S.1 S.2.1 d_BP_lay_74 ?_
            refine lv_goto (tgt := 79) S.1 S.2.1 d_BP_lay_75 (by decide) ?_
            exact J _ (if_pos (Or.inl c_60)).symm
          · refine lv_aload_n S.1 S.2.1 d_BP_lay_63 rfl (lv_at hl 3 rfl) ?_
            refine hp_get S zz hJ h_x f_BP_113 rfl d_BP_lay_64 ?_
            refine lv_iconst (v := 3) S.1 S.2.1 d_BP_lay_67 (by decide) ?_
            refine lv_icmp_ne (tgt := 78) S.1 S.2.1 d_BP_lay_68 (by decide) (fun c_68 => ?_) (fun c_68 => ?_)
            · refine lv_iload_n S.1 S.2.1 d_BP_lay_78 rfl (lv_at hl 5 rfl) ?_
              exact J _ (if_neg (fun q => q.elim c_60 c_68)).symm
            · refine lv_iload_n S.1 S.2.1 d_BP_lay_71 rfl (lv_at hl 5 rfl) ?_
              refine lv_iload S.1 S.2.1 d_BP_lay_72 (lv_at hl 1 rfl) ?_
              refine lv_isub S.1 S.2.1 d_BP_lay_74 ?_
              refine lv_goto (tgt := 79) S.1 S.2.1 d_BP_lay_75 (by decide) ?_
              exact J _ (if_pos (Or.inr c_68)).symm
        · refine lv_istore (lv' := [(9, .int lf), (8, .int r2), (7, .int r1), (6, .int u6), (0, .ref x), (1, .ref pic), (2, .int px), (3, .int py), (4, .int w), (5, .int d)]) S.1 S.2.1 d_BP_lay_79 hl (by decide) rfl (fun ls hl => ?_)
          refine hp_cut (fun v => v = q_ty (bf 12) py r2) 105 [] (fun J => ?_) (fun tp e_tp => ?_)
          · refine lv_aload_n S.1 S.2.1 d_BP_lay_81 rfl (lv_at hl 4 rfl) ?_
            refine hp_get S zz hJ h_x f_BP_113 rfl d_BP_lay_82 ?_
            refine lv_iconst (v := 1) S.1 S.2.1 d_BP_lay_85 (by decide) ?_
            refine lv_icmp_eq (tgt := 97) S.1 S.2.1 d_BP_lay_86 (by decide) (fun c_86 => ?_) (fun c_86 => ?_)
            · refine lv_iload_n S.1 S.2.1 d_BP_lay_97 rfl (lv_at hl 7 rfl) ?_
              refine lv_iload S.1 S.2.1 d_BP_lay_98 (lv_at hl 1 rfl) ?_
              refine lv_isub S.1 S.2.1 d_BP_lay_100 ?_
              refine lv_goto (tgt := 105) S.1 S.2.1 d_BP_lay_101 (by decide) ?_
              exact J _ (if_pos (Or.inl c_86)).symm
            · refine lv_aload_n S.1 S.2.1 d_BP_lay_89 rfl (lv_at hl 4 rfl) ?_
              refine hp_get S zz hJ h_x f_BP_113 rfl d_BP_lay_90 ?_
              refine lv_iconst (v := 2) S.1 S.2.1 d_BP_lay_93 (by decide) ?_
              refine lv_icmp_ne (tgt := 104) S.1 S.2.1 d_BP_lay_94 (by decide) (fun c_94 => ?_) (fun c_94 => ?_)
              · refine lv_iload_n S.1 S.2.1 d_BP_lay_104 rfl (lv_at hl 7 rfl) ?_
                exact J _ (if_neg (fun q => q.elim c_86 c_94)).symm
              · refine lv_iload_n S.1 S.2.1 d_BP_lay_97 rfl (lv_at hl 7 rfl) ?_
                refine lv_iload S.1 S.2.1 d_BP_lay_98 (lv_at hl 1 rfl) ?_
                refine lv_isub S.1 S.2.1 d_BP_lay_100 ?_
                refine lv_goto (tgt := 105) S.1 S.2.1 d_BP_lay_101 (by decide) ?_
                exact J _ (if_pos (Or.inr c_94)).symm
          · refine lv_istore (lv' := [(10, .int tp), (9, .int lf), (8, .int r2), (7, .int r1), (6, .int u6), (0, .ref x), (1, .ref pic), (2, .int px), (3, .int py), (4, .int w), (5, .int d)]) S.1 S.2.1 d_BP_lay_105 hl (by decide) rfl (fun ls hl => ?_)
            refine hp_new S zz hJ (ci := 1) rfl n_BP_23 e0_Bx_ok (by decide) (by decide) d_BP_lay_107 (fun wb H hq_wb hs_wb hJ => ?_)
            have ne_clip_wb : clip ≠ wb := hp_neN h_clip hq_wb
            obtain ⟨h1, eh1⟩ : ∃ z, z = hp_up h wb (.inr (1, [.int 0, .int 0, .int 0, .int 0])) := ⟨_, rfl⟩
            have hJ := hJ.cast eh1
            have h_x : h1 x = some (.inr (0, [.int (bf 0), .int (bf 1), .int (bf 2), .ref sheet, .ref shp, .ref pil, .int (bf 6), .int (bf 7), .int (bf 8), .ref ink, .int (bf 10), .int (bf 11), .int (bf 12), .ref clip])) := by rw [eh1]; exact hp_up_k (hp_neN h_x hq_wb) h_x
            have h_pil : h1 pil = some (.inr (5, [.int (nI n), .ref bl, .ref st, .int sz, va_rf nw])) := by rw [eh1]; exact hp_up_k (hp_neN h_pil hq_wb) h_pil
            have h_bl : h1 bl = some (k_in (cA 0) n f) := by rw [eh1]; exact hp_up_k (hp_neN h_bl hq_wb) h_bl
            have h_st : h1 st = some (k_in (cA 2) n g) := by rw [eh1]; exact hp_up_k (hp_neN h_st hq_wb) h_st
            have h_clip : h1 clip = some (.inr (1, [.int c0, .int c1, .int c2, .int c3])) := by rw [eh1]; exact hp_up_k (hp_neN h_clip hq_wb) h_clip
            have h_wb : h1 wb = some (.inr (1, [.int 0, .int 0, .int 0, .int 0])) := by rw [eh1]; exact hp_up_s _ _ _
            refine lv_dup S.1 S.2.1 d_BP_lay_110 rfl ?_
            refine lv_iload S.1 S.2.1 d_BP_lay_111 (lv_at hl 1 rfl) ?_
            refine lv_iload S.1 S.2.1 d_BP_lay_113 (lv_at hl 0 rfl) ?_
            refine lv_iload S.1 S.2.1 d_BP_lay_115 (lv_at hl 1 rfl) ?_
            refine lv_iload S.1 S.2.1 d_BP_lay_117 (lv_at hl 3 rfl) ?_
            refine lv_iadd S.1 S.2.1 d_BP_lay_119 ?_
            refine lv_iload S.1 S.2.1 d_BP_lay_120 (lv_at hl 0 rfl) ?_
            refine lv_iload S.1 S.2.1 d_BP_lay_122 (lv_at hl 2 rfl) ?_
            refine lv_iadd S.1 S.2.1 d_BP_lay_124 ?_
            refine hp_doneWv hJ (hp_runI S zz0 (c_Bx_init l dC dI cA A _ wb lf tp (lf + r1) (tp + r2) _ _ _ _ h_wb) l_BP_25 (hJ.pre _) (by decide) rfl hl.1 rfl (nl rfl) d_BP_lay_125 (by decide)) (fun h2 H locs eh2 hJ => ?_)
            have h0_wb := h_wb
            have h_x : h2 x = some (.inr (0, [.int (bf 0), .int (bf 1), .int (bf 2), .ref sheet, .ref shp, .ref pil, .int (bf 6), .int (bf 7), .int (bf 8), .ref ink, .int (bf 10), .int (bf 11), .int (bf 12), .ref clip])) := by rw [eh2]; exact hp_up_k (hp_ne h_x h0_wb (show ((0, 0) : Nat × Nat) ≠ (0, 1) by decide)) h_x
            have h_pil : h2 pil = some (.inr (5, [.int (nI n), .ref bl, .ref st, .int sz, va_rf nw])) := by rw [eh2]; exact hp_up_k (hp_ne h_pil h0_wb (show ((0, 5) : Nat × Nat) ≠ (0, 1) by decide)) h_pil
            have h_bl : h2 bl = some (k_in (cA 0) n f) := by rw [eh2]; exact hp_up_k (hp_ne h_bl h0_wb (show ((1, 0) : Nat × Nat) ≠ (0, 1) by decide)) h_bl
            have h_st : h2 st = some (k_in (cA 2) n g) := by rw [eh2]; exact hp_up_k (hp_ne h_st h0_wb (show ((1, 0) : Nat × Nat) ≠ (0, 1) by decide)) h_st
            have h_clip : h2 clip = some (.inr (1, [.int c0, .int c1, .int c2, .int c3])) := by rw [eh2]; exact hp_up_k (ne_clip_wb) h_clip
            have h_wb : h2 wb = some (.inr (1, [.int lf, .int tp, .int (lf + r1), .int (tp + r2)])) := by rw [eh2]; exact hp_up_s _ _ _
            refine lv_astore (lv' := [(11, .ref wb), (10, .int tp), (9, .int lf), (8, .int r2), (7, .int r1), (6, .int u6), (0, .ref x), (1, .ref pic), (2, .int px), (3, .int py), (4, .int w), (5, .int d)]) S.1 S.2.1 d_BP_lay_128 hl (by decide) rfl (fun ls hl => ?_)
            refine lv_aload_n S.1 S.2.1 d_BP_lay_130 rfl (lv_at hl 6 rfl) ?_
            refine hp_get S zz hJ h_x f_BP_43 rfl d_BP_lay_131 ?_
            refine hp_new S zz hJ (ci := 3) rfl n_BP_192 e0_Mk_ok (by decide) (by decide) d_BP_lay_134 (fun mk H hq_mk hs_mk hJ => ?_)
            obtain ⟨h3, eh3⟩ : ∃ z, z = hp_up h2 mk (.inr (3, [.null, .int 0, .int 0, .null, .null, .int 0, .int 0, .null, .null])) := ⟨_, rfl⟩
            have hJ := hJ.cast eh3
            have h_x : h3 x = some (.inr (0, [.int (bf 0), .int (bf 1), .int (bf 2), .ref sheet, .ref shp, .ref pil, .int (bf 6), .int (bf 7), .int (bf 8), .ref ink, .int (bf 10), .int (bf 11), .int (bf 12), .ref clip])) := by rw [eh3]; exact hp_up_k (hp_neN h_x hq_mk) h_x
            have h_pil : h3 pil = some (.inr (5, [.int (nI n), .ref bl, .ref st, .int sz, va_rf nw])) := by rw [eh3]; exact hp_up_k (hp_neN h_pil hq_mk) h_pil
            have h_bl : h3 bl = some (k_in (cA 0) n f) := by rw [eh3]; exact hp_up_k (hp_neN h_bl hq_mk) h_bl
            have h_st : h3 st = some (k_in (cA 2) n g) := by rw [eh3]; exact hp_up_k (hp_neN h_st hq_mk) h_st
            have h_clip : h3 clip = some (.inr (1, [.int c0, .int c1, .int c2, .int c3])) := by rw [eh3]; exact hp_up_k (hp_neN h_clip hq_mk) h_clip
            have h_wb : h3 wb = some (.inr (1, [.int lf, .int tp, .int (lf + r1), .int (tp + r2)])) := by rw [eh3]; exact hp_up_k (hp_neN h_wb hq_mk) h_wb
            have h_mk : h3 mk = some (.inr (3, [.null, .int 0, .int 0, .null, .null, .int 0, .int 0, .null, .null])) := by rw [eh3]; exact hp_up_s _ _ _
            refine lv_dup S.1 S.2.1 d_BP_lay_137 rfl ?_
            refine lv_aload_n S.1 S.2.1 d_BP_lay_138 rfl (lv_at hl 7 rfl) ?_
            refine lv_iload S.1 S.2.1 d_BP_lay_139 (lv_at hl 2 rfl) ?_
            refine lv_iload S.1 S.2.1 d_BP_lay_141 (lv_at hl 1 rfl) ?_
            refine lv_aload S.1 S.2.1 d_BP_lay_143 (lv_at hl 0 rfl) ?_
            refine lv_aload_n S.1 S.2.1 d_BP_lay_145 rfl (lv_at hl 6 rfl) ?_
            refine hp_get S zz hJ h_x f_BP_56 rfl d_BP_lay_146 ?_
            refine hp_doneWr hJ (hp_runV S zz0 (c_Bx_common l dC dI cA A _ wb clip _ _ _ _ _ _ _ _ h_wb h_clip) l_BP_116 (hJ.preV _ h_wb rfl) (by decide) rfl hl.1 rfl (nl rfl) d_BP_lay_149 (by decide)) (fun pb h9 H locs hx hJ => ?_)
            obtain ⟨hq_pb, eh9⟩ := hx
            have ne_wb_pb : wb ≠ pb := hp_neN h_wb hq_pb
            have ne_clip_pb : clip ≠ pb := hp_neN h_clip hq_pb
            have ne_mk_pb : mk ≠ pb := hp_neN h_mk hq_pb
            have h_x : h9 x = some (.inr (0, [.int (bf 0), .int (bf 1), .int (bf 2), .ref sheet, .ref shp, .ref pil, .int (bf 6), .int (bf 7), .int (bf 8), .ref ink, .int (bf 10), .int (bf 11), .int (bf 12), .ref clip])) := by rw [eh9]; exact hp_up_k (hp_neN h_x hq_pb) h_x
            have h_pil : h9 pil = some (.inr (5, [.int (nI n), .ref bl, .ref st, .int sz, va_rf nw])) := by rw [eh9]; exact hp_up_k (hp_neN h_pil hq_pb) h_pil
            have h_bl : h9 bl = some (k_in (cA 0) n f) := by rw [eh9]; exact hp_up_k (hp_neN h_bl hq_pb) h_bl
            have h_st : h9 st = some (k_in (cA 2) n g) := by rw [eh9]; exact hp_up_k (hp_neN h_st hq_pb) h_st
            have h_clip : h9 clip = some (.inr (1, [.int c0, .int c1, .int c2, .int c3])) := by rw [eh9]; exact hp_up_k (hp_neN h_clip hq_pb) h_clip
            have h_wb : h9 wb = some (.inr (1, [.int lf, .int tp, .int (lf + r1), .int (tp + r2)])) := by rw [eh9]; exact hp_up_k (hp_neN h_wb hq_pb) h_wb
            have h_mk : h9 mk = some (.inr (3, [.null, .int 0, .int 0, .null, .null, .int 0, .int 0, .null, .null])) := by rw [eh9]; exact hp_up_k (hp_neN h_mk hq_pb) h_mk
            have h_pb : h9 pb = some (k_Bx (q_max lf c0) (q_max tp c1) (q_min (lf + r1) c2) (q_min (tp + r2) c3)) := by rw [eh9]; exact hp_up_s _ _ _
            refine lv_aload_n S.1 S.2.1 d_BP_lay_152 rfl (lv_at hl 6 rfl) ?_
            refine hp_get S zz hJ h_x f_BP_52 rfl d_BP_lay_153 ?_
            refine lv_aload_n S.1 S.2.1 d_BP_lay_156 rfl (lv_at hl 6 rfl) ?_
            refine hp_get S zz hJ h_x f_BP_107 rfl d_BP_lay_157 ?_
            refine lv_aload_n S.1 S.2.1 d_BP_lay_160 rfl (lv_at hl 6 rfl) ?_
            refine hp_get S zz hJ h_x f_BP_110 rfl d_BP_lay_161 ?_
            refine hp_doneWv hJ (hp_runI S zz0 (cS_Mk_init l dC dI cA A _ mk pic pb ink lf tp (bf 10) (bf 11) hso hio h_mk) l_BP_194 (hJ.pre _) (by decide) rfl hl.1 rfl (nl rfl) d_BP_lay_164 (by decide)) (fun h4 H locs eh4 hJ => ?_)
            have h0_mk := h_mk
            have h_x : h4 x = some (.inr (0, [.int (bf 0), .int (bf 1), .int (bf 2), .ref sheet, .ref shp, .ref pil, .int (bf 6), .int (bf 7), .int (bf 8), .ref ink, .int (bf 10), .int (bf 11), .int (bf 12), .ref clip])) := by rw [eh4]; exact hp_up_k (hp_ne h_x h0_mk (show ((0, 0) : Nat × Nat) ≠ (0, 3) by decide)) h_x
            have h_pil : h4 pil = some (.inr (5, [.int (nI n), .ref bl, .ref st, .int sz, va_rf nw])) := by rw [eh4]; exact hp_up_k (hp_ne h_pil h0_mk (show ((0, 5) : Nat × Nat) ≠ (0, 3) by decide)) h_pil
            have h_bl : h4 bl = some (k_in (cA 0) n f) := by rw [eh4]; exact hp_up_k (hp_ne h_bl h0_mk (show ((1, 0) : Nat × Nat) ≠ (0, 3) by decide)) h_bl
            have h_st : h4 st = some (k_in (cA 2) n g) := by rw [eh4]; exact hp_up_k (hp_ne h_st h0_mk (show ((1, 0) : Nat × Nat) ≠ (0, 3) by decide)) h_st
            have h_clip : h4 clip = some (.inr (1, [.int c0, .int c1, .int c2, .int c3])) := by rw [eh4]; exact hp_up_k (hp_ne h_clip h0_mk (show ((0, 1) : Nat × Nat) ≠ (0, 3) by decide)) h_clip
            have h_wb : h4 wb = some (.inr (1, [.int lf, .int tp, .int (lf + r1), .int (tp + r2)])) := by rw [eh4]; exact hp_up_k (hp_ne h_wb h0_mk (show ((0, 1) : Nat × Nat) ≠ (0, 3) by decide)) h_wb
            have h_pb : h4 pb = some (k_Bx (q_max lf c0) (q_max tp c1) (q_min (lf + r1) c2) (q_min (tp + r2) c3)) := by rw [eh4]; exact hp_up_k (Ne.symm ne_mk_pb) h_pb
            have h_mk : h4 mk = some (.inr (3, [.ref pic, .int lf, .int tp, .ref pb, .ref ink, .int (bf 10), .int (bf 11), .null, .null])) := by rw [eh4]; exact hp_up_s _ _ _
            have ne_wb_mk : wb ≠ mk := hp_ne h_wb h_mk (show ((0, 1) : Nat × Nat) ≠ (0, 3) by decide)
            have hN_mk : h mk = none := by have z := hq_mk; rw [eh2, eh1, hp_up_up] at z; exact hp_up_none z
            have hN_pb : h pb = none := by have z := hq_pb; rw [eh3, eh2, eh1, hp_up_up] at z; exact hp_up_none (hp_up_none z)
            have eh5 : h4 = hp_up (hp_up (hp_up h wb (k_Bx lf tp (lf + r1) (tp + r2))) pb (k_Bx (q_max lf c0) (q_max tp c1) (q_min (lf + r1) c2) (q_min (tp + r2) c3))) mk (k_Mk (some pic) lf tp pb ink (bf 10) (bf 11) none none) := by rw [eh4, eh9, eh3, eh2, eh1, hp_up_up, hp_tbt _ _ _ _ ne_mk_pb]
            by_cases hE : (q_min (lf + r1) c2) < q_max lf c0 ∨ (q_min (tp + r2) c3) < q_max tp c1
            · refine hp_doneWv hJ (hp_runV S zz0 (cE_Pl_add l dC dI cA A _ pil mk pb ink bl st n (some pic) sz lf tp _ _ _ _ _ _ nw none none hE h_pil h_mk h_pb) l_BP_197 (hJ.preV _ h_pil rfl) (by decide) rfl hl.1 rfl (nl rfl) d_BP_lay_167 (by decide)) (fun h7 H locs eh7 hJ => ?_)
              subst e_lf e_tp e_r1 e_r2
              exact hp_retWv S hJ hr hlk d_BP_lay_170 (by decide) ⟨wb, mk, pb, hq_wb, hN_mk, hN_pb, ne_wb_mk, ne_wb_pb, ne_mk_pb, Or.inl ⟨hE, by rw [eh7, eh5]⟩⟩
            · obtain ⟨a9, b9, h91, h92, h93, h94⟩ := lay_ab (x0 := q_max lf c0) (x1 := q_min (lf + r1) c2) hn hc hE
              have h_pb2 := h_pb
              rw [h93, h94] at h_pb2
              refine hp_doneWv hJ (hp_runV S zz0 (cS_Pl_add l dC dI cA A _ pil mk pb ink bl st n a9 b9 pic sz lf tp _ _ _ _ nw none none f g hn ⟨h91, h92⟩ (fun q => hE (Or.inl q)) ne_bl_st h_pil h_bl h_st h_mk h_pb2) l_BP_197 (hJ.preV _ h_pil rfl) (by decide) rfl hl.1 rfl (nl rfl) d_BP_lay_167 (by decide)) (fun h7 H locs eh7 hJ => ?_)
              subst e_lf e_tp e_r1 e_r2
              exact hp_retWv S hJ hr hlk d_BP_lay_170 (by decide) ⟨wb, mk, pb, hq_wb, hN_mk, hN_pb, ne_wb_mk, ne_wb_pb, ne_mk_pb, Or.inr ⟨a9, b9, h91, h92, h93, h94, fun q => hE (Or.inl q), by rw [eh7, eh5, hp_up_up]; rfl⟩⟩

