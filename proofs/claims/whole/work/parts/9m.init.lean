/-! The beginning. -/
theorem cl_max {x m : Int32} (hm : 1 ≤ m.toInt) : q_cl x m = q_max 1 (q_min x m) := by
  apply z_eq.mpr
  rw [q_max_z, q_min_z, z_1]
  unfold q_cl
  by_cases h1 : x < 1
  · rw [if_pos h1, z_1]
    rw [z_lt, z_1] at h1
    omega
  · rw [if_neg h1]
    rw [z_lt, z_1] at h1
    by_cases h2 : m < x
    · rw [if_pos h2]
      rw [z_lt] at h2
      omega
    · rw [if_neg h2]
      rw [z_lt] at h2
      omega
theorem cl_ex (x : Int32) : ∃ W : Nat, (1 ≤ W ∧ W ≤ 5100) ∧ q_cl x 5100 = nI W ∧ q_max 1 (q_min x 5100) = nI W := by
  have e : (5100 : Int32).toInt = 5100 := rfl
  have h := cl_max (x := x) (m := 5100) (by rw [e]; omega)
  have hz : (q_max 1 (q_min x 5100)).toInt = max 1 (min x.toInt 5100) := by rw [q_max_z, q_min_z, z_1, e]
  exact ⟨(max 1 (min x.toInt 5100)).toNat, by omega, by rw [h]; exact z_of (by rw [hz]; omega), z_of (by rw [hz]; omega)⟩
theorem c00 : (0 : Int32).toInt = max (0 : Int32).toInt 0 := by decide
theorem iF_0 (H : Nat) (D : Nat → mD) (B : Nat → box4) (FI : Nat → Nat → Int64) (PI : Nat → Option pI) : iF H (fun _ => 0) (fun _ => 0) [] D B FI PI (fun _ => 0) := by
  refine ⟨fun x y hx hy => ?_, fun y h1 h2 h3 a ha => absurd ha List.not_mem_nil, fun y hy => Or.inr ?_⟩
  · unfold q_at
    rw [tb_0]
    rfl
  · have e0 : psum (fun _ => 0) (80 * y) 80 = 0 := psum_zero 80 (fun i hi => rfl)
    show (0 : Int32) = nI (psum (fun _ => 0) (80 * y) 80)
    rw [e0]
    rfl
theorem iN_0 {w hgt : Int32} {W H : Nat} (hW : (1 ≤ W ∧ W ≤ 5100) ∧ q_cl w 5100 = nI W) (hH : (1 ≤ H ∧ H ≤ 5100) ∧ q_cl hgt 5100 = nI H) (b : Int32) : iN W H 0 0 0 (q_b0 W H (q_max 1 (q_min b (nI H)))) (q_m0 w hgt b) 0 0 0 (0, 0, nI W - 1, nI H - 1) := by
  have m1 : q_m0 w hgt b 1 = q_cl w 5100 := rfl
  have m2 : q_m0 w hgt b 2 = q_cl hgt 5100 := rfl
  have m3 : q_m0 w hgt b 3 = q_cl b (q_cl hgt 5100) := by
    unfold q_m0
    rw [if_neg (by decide), if_neg (by decide), if_pos rfl]
  have m5 : q_m0 w hgt b 5 = 0 := rfl
  have m10 : q_m0 w hgt b 10 = 0 := rfl
  have m12 : q_m0 w hgt b 12 = 0 := rfl
  have m13 : q_m0 w hgt b 13 = 0 := rfl
  have m14 : q_m0 w hgt b 14 = 0 := rfl
  have m15 : q_m0 w hgt b 15 = 0 := rfl
  have m16 : q_m0 w hgt b 16 = 0 := rfl
  have m17 : q_m0 w hgt b 17 = 0 := rfl
  have m18 : q_m0 w hgt b 18 = 0 := rfl
  have m19 : q_m0 w hgt b 19 = 0 := rfl
  have m20 : q_m0 w hgt b 20 = 0 := rfl
  have m21 : q_m0 w hgt b 21 = q_cl w 5100 - 1 := rfl
  have m22 : q_m0 w hgt b 22 = q_cl hgt 5100 - 1 := rfl
  have hm1 := m1_z (n := W) (by omega)
  have hm2 := m1_z (n := H) (by omega)
  have z0 : nI 0 = 0 := rfl
  have i0 : q_iv 0 0 = 0 := rfl
  unfold iN q_clr
  rw [m1, m2, m3, m5, m10, m12, m13, m14, m15, m16, m17, m18, m19, m20, m21, m22, hW.2, hH.2, i0, z0, hm1, hm2]
  refine ⟨⟨hW.1, hH.1⟩, ⟨rfl, rfl⟩, ⟨rfl, rfl⟩, ?_, ⟨rfl, by decide, by decide⟩, rfl, ⟨by decide, rfl, rfl⟩, ⟨by decide, rfl, rfl⟩, ⟨rfl, rfl⟩, ⟨rfl, Or.inl rfl⟩, ⟨rfl, Or.inl rfl⟩, ⟨by decide, rfl, rfl⟩, c00, c00, ?_, ?_⟩
  · rw [cl_max (by rw [z_nI (by omega)]; omega)]
    rfl
  · omega
  · omega
theorem inv_0 {cA : Nat → ClassId} {x t out sc N : Nat} {fx : Nat → Int32} {w hgt b : Int32} {W H : Nat} (hW : (1 ≤ W ∧ W ≤ 5100) ∧ q_cl w 5100 = nI W) (hH : (1 ≤ H ∧ H ≤ 5100) ∧ q_cl hgt 5100 = nI H) {hB hD : hp_T} {sheet shp bl st pil ib ink sh ac dn fr sp dt : Nat} (ne_bl_st : bl ≠ st)
    (e_x : hB x = some (k_BP (q_b0 W H (q_max 1 (q_min b (nI H)))) sheet shp pil ink sheet)) (e_sheet : hB sheet = some (k_Bx 0 0 (nI W - 1) (nI H - 1))) (e_shp : hB shp = some (k_rf (cA 3) 64 (fun _ => none))) (e_bl : hB bl = some (k_in (cA 0) H (fun _ => 0))) (e_st : hB st = some (k_in (cA 2) H (fun _ => 0))) (e_pil : hB pil = some (k_Pl (nI H) bl st 0 none)) (e_ib : hB ib = some (k_lo (cA 1) 16 (q_ia 0 0 16))) (e_ink : hB ink = some (k_In 0 (q_iv 0 0) ib))
    (n_t : hB t = none) (n_sh : hB sh = none) (n_ac : hB ac = none) (n_dn : hB dn = none) (n_fr : hB fr = none) (n_sp : hB sp = none) (n_dt : hB dt = none) (hold : ∀ a e, hB a = some e → hD a = some e)
    (d_t : hD t = some (k_Mo (q_m0 w hgt b) sh ac dn fr sp dt)) (d_sh : hD sh = some (k_lo (cA 1) (80 * H) (fun _ => 0))) (d_ac : hD ac = some (k_in (cA 0) 64 (fun _ => 0))) (d_dn : hD dn = some (k_in (cA 0) 64 (fun _ => 0))) (d_fr : hD fr = some (k_in (cA 0) 64 (fun _ => 0))) (d_sp : hD sp = some (k_in (cA 2) 64 (fun _ => 0))) (d_dt : hD dt = some (k_lo (cA 1) 8192 (fun _ => 0))) (hdis : iD ac dn fr sp sh dt) (n_out : hD out = none) : bInv cA x t out sc N fx (hp_up hD out (k_lo (cA 1) 1 (fun _ => 0))) := by
  obtain ⟨tB, htB⟩ : ∃ tB : Nat → Nat, tB = fun a => if a = x then 3 else if a = pil then 4 else if a = bl then 5 else if a = st then 6 else if a = shp then 7 else 0 := ⟨_, rfl⟩
  have K : ∀ {a a' : Nat} {e e' : va_E}, hB a = some e → hB a' = some e' → decide (hp_kind e = hp_kind e') = false → a ≠ a' := fun h1 h2 hk => hp_ne h1 h2 (of_decide_eq_false hk)
  have b_x : at2 hB tB x (k_BP (q_b0 W H (q_max 1 (q_min b (nI H)))) sheet shp pil ink sheet) 3 := ⟨e_x, by rw [htB]; exact if_pos rfl⟩
  have b_pil : at2 hB tB pil (k_Pl (nI H) bl st 0 none) 4 := ⟨e_pil, by rw [htB]; show (if pil = x then 3 else _) = 4; rw [if_neg (K e_pil e_x rfl), if_pos rfl]⟩
  have b_bl : at2 hB tB bl (k_in (cA 0) H (fun _ => 0)) 5 := ⟨e_bl, by rw [htB]; show (if bl = x then 3 else _) = 5; rw [if_neg (K e_bl e_x rfl), if_neg (K e_bl e_pil rfl), if_pos rfl]⟩
  have b_st : at2 hB tB st (k_in (cA 2) H (fun _ => 0)) 6 := ⟨e_st, by rw [htB]; show (if st = x then 3 else _) = 6; rw [if_neg (K e_st e_x rfl), if_neg (K e_st e_pil rfl), if_neg (Ne.symm ne_bl_st), if_pos rfl]⟩
  have b_shp : at2 hB tB shp (k_rf (cA 3) 64 (fun _ => none)) 7 := ⟨e_shp, by rw [htB]; show (if shp = x then 3 else _) = 7; rw [if_neg (K e_shp e_x rfl), if_neg (K e_shp e_pil rfl), if_neg (K e_shp e_bl rfl), if_neg (K e_shp e_st rfl), if_pos rfl]⟩
  have b_sheet : at2 hB tB sheet (k_Bx 0 0 (nI W - 1) (nI H - 1)) 0 := ⟨e_sheet, by rw [htB]; show (if sheet = x then 3 else _) = 0; rw [if_neg (K e_sheet e_x rfl), if_neg (K e_sheet e_pil rfl), if_neg (K e_sheet e_bl rfl), if_neg (K e_sheet e_st rfl), if_neg (K e_sheet e_shp rfl)]⟩
  have b_ib : at2 hB tB ib (k_lo (cA 1) 16 (q_ia 0 0 16)) 0 := ⟨e_ib, by rw [htB]; show (if ib = x then 3 else _) = 0; rw [if_neg (K e_ib e_x rfl), if_neg (K e_ib e_pil rfl), if_neg (K e_ib e_bl rfl), if_neg (K e_ib e_st rfl), if_neg (K e_ib e_shp rfl)]⟩
  have b_ink : at2 hB tB ink (k_In 0 (q_iv 0 0) ib) 0 := ⟨e_ink, by rw [htB]; show (if ink = x then 3 else _) = 0; rw [if_neg (K e_ink e_x rfl), if_neg (K e_ink e_pil rfl), if_neg (K e_ink e_bl rfl), if_neg (K e_ink e_st rfl), if_neg (K e_ink e_shp rfl)]⟩
  have k1 : kp (tS []) tB (fun a => if (hB a).isNone = true then 1 else tB a) hB hD := fun a e ha => by
    refine ⟨?_, ⟨e, hold a e ha⟩, fun _ => hold a e ha⟩
    show (if (hB a).isNone = true then 1 else tB a) = tB a
    rw [ha]
    rfl
  have t1 : ∀ {a e}, hB a = none → hD a = some e → at2 hD (fun a => if (hB a).isNone = true then 1 else tB a) a e 1 := fun {a e} h1 h2 => ⟨h2, by show (if (hB a).isNone = true then 1 else tB a) = 1; rw [h1]; rfl⟩
  have k2 := (kp.refl (S := tS []) (fun a => if (hB a).isNone = true then 1 else tB a) hD).new (k_lo (cA 1) 1 (fun _ => 0)) 2 n_out
  have hm1 := m1_z (n := W) (by omega)
  have hm2 := m1_z (n := H) (by omega)
  refine ⟨va_up (fun a => if (hB a).isNone = true then 1 else tB a) out 2, sheet, shp, pil, bl, st, sh, ac, dn, fr, sp, dt, W, H, q_b0 W H (q_max 1 (q_min b (nI H))), q_m0 w hgt b, ink, sheet, ib, (0, 0, nI W - 1, nI H - 1), 0, 0, 0, fun _ => 0, fun _ => 0, [], fun _ => (none, 0, 0, 0, 0, 0, 0), fun _ => none, fun _ => (0, 0, 0, 0), fun _ _ => 0, fun _ => none, fun _ => 0, fun _ => 0, fun _ => 0, fun _ => 0, fun _ => 0, fun _ => 0, fun _ => none, 0, 0, 0, fun _ => 0, ?_, ?_, ?_, ?_, ?_, ?_, ?_, hdis⟩
  · exact ⟨(b_x.keep k1 (by decide)).keep k2 (by decide), (b_sheet.keep k1 (by decide)).keep k2 (by decide), (b_sheet.keep k1 (by decide)).keep k2 (by decide), (b_ink.keep k1 (by decide)).keep k2 (by decide), (b_ib.keep k1 (by decide)).keep k2 (by decide), Or.inl rfl⟩
  · exact ⟨(b_pil.keep k1 (by decide)).keep k2 (by decide), (b_bl.keep k1 (by decide)).keep k2 (by decide), (b_st.keep k1 (by decide)).keep k2 (by decide), List.nodup_nil, fun P a r he => absurd he (by cases P <;> exact fun q => by cases q), fun a ha => absurd ha List.not_mem_nil, fun a ha => absurd ha List.not_mem_nil, fun a ha => absurd ha List.not_mem_nil⟩
  · exact ⟨(b_shp.keep k1 (by decide)).keep k2 (by decide), fun i hi => absurd hi (by omega), fun i j _ hj => absurd hj (by omega)⟩
  · exact ⟨(t1 n_t d_t).keep k2 (by decide), (t1 n_sh d_sh).keep k2 (by decide), (t1 n_ac d_ac).keep k2 (by decide), (t1 n_dn d_dn).keep k2 (by decide), (t1 n_fr d_fr).keep k2 (by decide), (t1 n_sp d_sp).keep k2 (by decide), (t1 n_dt d_dt).keep k2 (by decide)⟩
  · exact ⟨at2.new _ _, rfl, rfl, rfl⟩
  · exact iN_0 hW hH b
  · exact iF_0 _ _ _ _ _
