/-! Calls that tell. -/
theorem m1_z {n : Nat} (h : n ≤ 100000) : (nI n - 1).toInt = (n : Int) - 1 := by rw [z_sub (by rw [z_nI (by omega), z_1]; omega) (by rw [z_nI (by omega), z_1]; omega), z_nI (by omega), z_1]
theorem line_ix {y k : Int32} {H : Nat} (hH : H ≤ 5100) (h : 0 ≤ y ∧ y < nI H ∧ 0 ≤ k ∧ k ≤ 79) : ∃ yn kn : Nat, y = nI yn ∧ k = nI kn ∧ yn < H ∧ kn < 80 ∧ 80 * y + k = nI (80 * yn + kn) ∧ vp_in (80 * y + k) (80 * H) ∧ (80 * y + k).toNatClampNeg = 80 * yn + kn := by
  have e79 : (79 : Int32).toInt = 79 := rfl
  have e80 : (80 : Int32).toInt = 80 := rfl
  obtain ⟨h1, h2, h3, h4⟩ := h
  rw [z_le, z_0] at h1 h3
  rw [z_lt, z_nI (by omega)] at h2
  rw [z_le, e79] at h4
  have hm : (80 * y).toInt = 80 * y.toInt := by rw [z_mul (by rw [e80]; omega) (by rw [e80]; omega), e80]
  have ha : (80 * y + k).toInt = 80 * y.toInt + k.toInt := by rw [z_add (by rw [hm]; omega) (by rw [hm]; omega), hm]
  have hc : (80 * y + k).toNatClampNeg = 80 * y.toInt.toNat + k.toInt.toNat := by
    show (80 * y + k).toInt.toNat = _
    rw [ha]
    omega
  refine ⟨y.toInt.toNat, k.toInt.toNat, z_ofN h1, z_ofN h3, by omega, by omega, z_of (by rw [ha]; omega), ?_, hc⟩
  rintro (q | q)
  · rw [z_lt, ha, z_0] at q
    omega
  · rw [hc] at q
    omega
theorem cnt_ex (y0 y1 : Int32) {H : Nat} (hH : 1 ≤ H ∧ H ≤ 5100) : ∃ lo mm : Nat, q_max y0 0 = nI lo ∧ q_max 0 y0 = nI lo ∧ lo < 2147483648 ∧ (∀ j, j ≤ mm → (q_min y1 (nI H - 1) < nI (lo + j) ↔ j = mm)) ∧ (∀ j, j ≤ mm → (q_min (nI H - 1) y1 < nI (lo + j) ↔ j = mm)) ∧ ∀ j, j < mm → lo + j < H := by
  have hh := m1_z (n := H) (by omega)
  have h0 := z_rg y0
  have h1 := z_rg y1
  have a1 : (q_max y0 0).toInt = max y0.toInt 0 := q_max_z _ _
  have a2 : (q_max 0 y0).toInt = max 0 y0.toInt := q_max_z _ _
  have a3 : (q_min y1 (nI H - 1)).toInt = min y1.toInt ((H : Int) - 1) := by rw [q_min_z, hh]
  have a4 : (q_min (nI H - 1) y1).toInt = min ((H : Int) - 1) y1.toInt := by rw [q_min_z, hh]
  refine ⟨(max y0.toInt 0).toNat, (min y1.toInt ((H : Int) - 1) + 1 - max y0.toInt 0).toNat, z_of (by rw [a1]; omega), z_of (by rw [a2]; omega), by omega, fun j hj => ?_, fun j hj => ?_, fun j hj => by omega⟩
  · rw [z_lt, a3, z_nI (by omega)]
    omega
  · rw [z_lt, a4, z_nI (by omega)]
    omega
theorem shp_iff {s9 : Int32} {cnt : Nat} (hc : cnt ≤ 64) : ((0 ≤ s9 ∧ s9 ≤ nI cnt - 1) ↔ (0 ≤ s9 ∧ s9 < nI cnt)) ∧ ((0 ≤ s9 ∧ s9 < nI cnt) → ∃ ss, ss < cnt ∧ s9 = nI ss ∧ s9.toNatClampNeg = ss ∧ vp_in s9 64) := by
  have hh := m1_z (n := cnt) (by omega)
  rw [z_le, z_le, z_lt, hh, z_0, z_nI (by omega)]
  refine ⟨by omega, fun h => ⟨s9.toInt.toNat, by omega, z_ofN h.1, rfl, ?_⟩⟩
  rintro (q | q)
  · rw [z_lt, z_0] at q
    omega
  · have : s9.toNatClampNeg = s9.toInt.toNat := rfl
    omega
section USE
variable {l : Launch} {dC : Nat → ClassId} {dI : Nat → Nat → Nat} {cA : Nat → ClassId} {A : Nat → Prop} {h : hp_T} {x t out sc N : Nat} {fx : Nat → Int32}
theorem u_line (hI : bInv cA x t out sc N fx h) (y k : Int32) : Met l y_BP_line (.code y_BP_line prog_1_method_12_code 3 (some .long) :: BIG) ({ frames := 5, cells := 0, slots := 0, locals := 127 }) (va_Pc [.ref x, .int y, .int k] (hp_I (gg dC dI cA) A h)) (hp_QW (gg dC dI cA) A hp_ml (fun r h' => (∃ fs : List Value, h' t = some (.inr (7, fs))) ∧ Met l y_Mo_line (.code y_Mo_line prog_9_method_27_code 3 (some .long) :: BIG) ({ frames := 0, cells := 0, slots := 0, locals := 0 }) (va_Pc [.ref t, .int y, .int k] (hp_I (gg dC dI cA) A h')) (hp_QW (gg dC dI cA) A hp_ml (fun r2 h'' => r2 = r ∧ bInv cA x t out sc N fx h'')) 0 0 A)) 0 0 A := by
  obtain ⟨tg, sheet, shp, pil, bl, st, sh, ac, dn, fr, sp, dt, W, H, bf, mf, ink, clip, ib, c, kd, val, sz, fb, fs, as, D, bol, B, FI, PI, F, ds, ga, gd, gr, gs, go, cnt, rows, k9, fo, hB, hP, hS, hM, hL, hN, hF, hD⟩ := hI
  obtain ⟨n1, n2, n3, n4, n5, n6, n7, n8, n9, n10, n11, n12, n13⟩ := hN
  have hok := fun a ha => (hP.2.2.2.2.2.2.1 a ha).ok
  have hB8 := hP.2.2.2.2.2.2.2
  refine Met_QW (c_BP_line l dC dI cA A h x sheet shp pil ink clip bf bl st H sz as D bol B FI PI y k hB.1.1 hP.2.2.2.1 hP.2.2.2.2.1 hok hP.1.1) (fun r h' hp => ?_)
  have hw64 : (bf 0 - 1) / 64 = nI ((W - 1) / 64) := by rw [n2.1, show nI W - 1 = nI (W - 1) from z_of (by rw [m1_z (by omega)]; omega), div64 (by omega)]
  have hcl : (0 ≤ y ∧ y < mf 2 ∧ 0 ≤ k ∧ k ≤ 79) → ∃ yn kn : Nat, y = nI yn ∧ k = nI kn ∧ yn < H ∧ kn < 80 ∧ 80 * y + k = nI (80 * yn + kn) ∧ vp_in (80 * y + k) (80 * H) ∧ (80 * y + k).toNatClampNeg = 80 * yn + kn := fun q => line_ix n1.2.2 (by rw [← n3.2]; exact q)
  have hcx : ∀ yn kn : Nat, y = nI yn → k = nI kn → yn < H → kn < 80 → (((0 ≤ y ∧ y ≤ bf 1 - 1) ∧ (0 ≤ k ∧ k ≤ (bf 0 - 1) / 64)) ↔ kn ≤ (W - 1) / 64) := fun yn kn hy hk hyn hkn => by
    rw [hw64, n3.1, hy, hk]
    simp only [z_le, z_0]
    rw [m1_z (by omega), z_nI (by omega), z_nI (by omega), z_nI (by omega)]
    omega
  rcases hp with ⟨hc, rfl, rfl⟩ | ⟨hc, rfl, bol', hm', ho'⟩
  · refine ⟨⟨_, hM.1.1⟩, ?_⟩
    refine Met_QW (c_Mo_line l dC dI cA A _ t sh ac dn fr sp dt mf (80 * H) F y k hM.1.1 hM.2.1.1 (fun q => by obtain ⟨yn, kn, -, -, -, -, -, e, -⟩ := hcl q; exact e)) (fun r2 h'' hp => ?_)
    obtain ⟨rfl, rfl⟩ := hp
    refine ⟨?_, fin_t hB hP hS hM hL hF hD (upd mf 0 0) ⟨n1, n2, n3, n4, n5, n6, n7, n8, n9, n10, n11, n12, n13⟩⟩
    split
    · rename_i hq
      obtain ⟨yn, kn, e1, e2, e3, e4, e5, e6, e7⟩ := hcl hq
      rw [e7]
      exact R_far n1.1 n1.2.2 hF.1 hB8 e3 e4 (by have : ¬ kn ≤ (W - 1) / 64 := fun q => hc ((hcx yn kn e1 e2 e3 e4).mpr q); omega)
    · rfl
  · have kx := kp.mc hP.2.2.2.2.1 hP.2.2.2.2.2.1 hm' ho'
    have kx : kp (tS [8]) tg tg h h' := kx.mono (fun n hn => by rw [hn]; decide)
    have hM1 := hM.keep kx (by decide)
    have hP1 : iP h' tg cA pil bl st W H sz fb fs as D bol' B FI PI (fun i => i < cnt ∧ ¬ gs i = 0) := ⟨hP.1.keep kx (by decide), hP.2.1.keep kx (by decide), hP.2.2.1.keep kx (by decide), hP.2.2.2.1, hm', hP.2.2.2.2.2.1, fun a ha => (hP.2.2.2.2.2.2.1 a ha).keep kx (by decide) (fun i _ => tS_big rfl (by omega)) (fun _ q => q), hB8⟩
    refine ⟨⟨_, hM1.1.1⟩, ?_⟩
    refine Met_QW (c_Mo_line l dC dI cA A _ t sh ac dn fr sp dt mf (80 * H) F y k hM1.1.1 hM1.2.1.1 (fun q => by obtain ⟨yn, kn, -, -, -, -, -, e, -⟩ := hcl q; exact e)) (fun r2 h'' hp => ?_)
    obtain ⟨rfl, rfl⟩ := hp
    refine ⟨?_, fin_t (hB.keep kx (by decide) (by decide)) hP1 (hS.keepS kx rfl (by decide)) hM1 (hL.keep kx (by decide)) hF hD (upd mf 0 0) ⟨n1, n2, n3, n4, n5, n6, n7, n8, n9, n10, n11, n12, n13⟩⟩
    have e79 : (79 : Int32).toInt = 79 := rfl
    have hq : 0 ≤ y ∧ y < mf 2 ∧ 0 ≤ k ∧ k ≤ 79 := by
      rw [hw64, n3.1] at hc
      rw [n3.2]
      simp only [z_le, z_lt, z_0] at hc ⊢
      rw [m1_z (by omega), z_nI (by omega)] at hc
      rw [z_nI (by omega), e79]
      omega
    rw [if_pos hq]
    obtain ⟨yn, kn, e1, e2, e3, e4, e5, e6, e7⟩ := hcl hq
    rw [e7, R_word hF.1 e3 e4, e1, e2]
theorem u_count (hI : bInv cA x t out sc N fx h) (y0 y1 : Int32) : Met l y_BP_count (.code y_BP_count prog_1_method_14_code 6 (some .int) :: BIG) ({ frames := 6, cells := 0, slots := 0, locals := 153 }) (va_Pc [.ref x, .int y0, .int y1] (hp_I (gg dC dI cA) A h)) (hp_QW (gg dC dI cA) A hp_mi (fun r h' => (∃ fs : List Value, h' t = some (.inr (7, fs))) ∧ Met l y_Mo_count (.code y_Mo_count prog_9_method_31_code 5 (some .int) :: BIG) ({ frames := 2, cells := 0, slots := 0, locals := 47 }) (va_Pc [.ref t, .int y0, .int y1] (hp_I (gg dC dI cA) A h')) (hp_QW (gg dC dI cA) A hp_mi (fun r2 h'' => r2 = r ∧ bInv cA x t out sc N fx h'')) 0 0 A)) 0 0 A := by
  obtain ⟨tg, sheet, shp, pil, bl, st, sh, ac, dn, fr, sp, dt, W, H, bf, mf, ink, clip, ib, c, kd, val, sz, fb, fs, as, D, bol, B, FI, PI, F, ds, ga, gd, gr, gs, go, cnt, rows, k9, fo, hB, hP, hS, hM, hL, hN, hF, hD⟩ := hI
  obtain ⟨n1, n2, n3, n4, n5, n6, n7, n8, n9, n10, n11, n12, n13⟩ := hN
  have hok := fun a ha => (hP.2.2.2.2.2.2.1 a ha).ok
  have hB8 := hP.2.2.2.2.2.2.2
  obtain ⟨FR, TX, hFR, hTX, hT⟩ := R_count n1.1 n1.2.2 hF.1 hB8
  obtain ⟨lo, mm, l1, l2, l3, l4, l5, l6⟩ := cnt_ex y0 y1 n1.2
  refine Met_QW (c_BP_count l dC dI cA A h x sheet shp pil ink clip bf bl st H sz as D bol B FI PI fb fs FR TX (fun y => psum F (80 * y) 80) lo mm y0 y1 hB.1.1 hP.2.2.2.1 hP.2.2.2.2.1 hok hP.1.1 n1.2 (hP.2.1.ne hP.2.2.1 (by decide)) hP.2.1.1 hP.2.2.1.1 hFR hTX hF.2.2 hT (fun y h1 h2 h3 => R_like n1.2.2 hF.1 hF.2.1 h1 h2 h3) n3.1 l1 (by rw [n3.1]; exact l4) l6) (fun r h' hp => ?_)
  obtain ⟨rfl, ⟨f', hf1, hf2⟩, ⟨bol', hm'⟩, ho'⟩ := hp
  have hTg := hP.2.2.2.2.2.1
  have kx : kp (tS [5, 8]) tg tg h h' := fun a e ha => by
    by_cases hin : a ∈ as
    · obtain ⟨P, r9, hp9⟩ := List.append_of_mem hin
      exact ⟨rfl, ⟨_, hm' P a r9 hp9⟩, fun hn => absurd (by show tg a ∈ [5, 8]; rw [hTg a hin]; decide) hn⟩
    · by_cases hbl : a = bl
      · subst hbl
        exact ⟨rfl, ⟨_, hf1⟩, fun hn => absurd (by show tg a ∈ [5, 8]; rw [hP.2.1.2]; decide) hn⟩
      · rw [ho' a hin hbl]
        exact ⟨rfl, ⟨e, ha⟩, fun _ => ha⟩
  have hM1 := hM.keep kx (by decide)
  have hP1 : iP h' tg cA pil bl st W H sz f' fs as D bol' B FI PI (fun i => i < cnt ∧ ¬ gs i = 0) := ⟨hP.1.keep kx (by decide), ⟨hf1, hP.2.1.2⟩, hP.2.2.1.keep kx (by decide), hP.2.2.2.1, hm', hTg, fun a ha => (hP.2.2.2.2.2.2.1 a ha).keep kx (by decide) (fun i _ => tS_big rfl (by omega)) (fun _ q => q), hB8⟩
  have fin := fun mf' hN' => fin_t (mf := mf) (k9 := k9) (hB.keep kx (by decide) (by decide)) hP1 (hS.keepS kx rfl (by decide)) hM1 (hL.keep kx (by decide)) ⟨hF.1, hF.2.1, hf2⟩ hD mf' hN'
  refine ⟨⟨_, hM1.1.1⟩, ?_⟩
  refine Met_QW (c_Mo_count l dC dI cA A _ t sh ac dn fr sp dt mf H lo mm F y0 y1 hM1.1.1 hM1.2.1.1 n1.2.2 l2 (by rw [n3.2]; exact l5) l6) (fun r2 h'' hp => ?_)
  obtain ⟨rfl, rfl⟩ := hp
  exact ⟨by rw [csum_tsum], fin (upd mf 0 0) ⟨n1, n2, n3, n4, n5, n6, n7, n8, n9, n10, n11, n12, n13⟩⟩
theorem u_top (hI : bInv cA x t out sc N fx h) (y0 : Int32) : Met l y_BP_top (.code y_BP_top prog_1_method_15_code 3 (some .int) :: BIG) ({ frames := 6, cells := 0, slots := 0, locals := 153 }) (va_Pc [.ref x, .int y0] (hp_I (gg dC dI cA) A h)) (hp_QW (gg dC dI cA) A hp_mi (fun r h' => (∃ fs : List Value, h' t = some (.inr (7, fs))) ∧ Met l y_Mo_top (.code y_Mo_top prog_9_method_32_code 3 (some .int) :: BIG) ({ frames := 2, cells := 0, slots := 0, locals := 47 }) (va_Pc [.ref t, .int y0] (hp_I (gg dC dI cA) A h')) (hp_QW (gg dC dI cA) A hp_mi (fun r2 h'' => r2 = r ∧ bInv cA x t out sc N fx h'')) 0 0 A)) 0 0 A := by
  obtain ⟨tg, sheet, shp, pil, bl, st, sh, ac, dn, fr, sp, dt, W, H, bf, mf, ink, clip, ib, c, kd, val, sz, fb, fs, as, D, bol, B, FI, PI, F, ds, ga, gd, gr, gs, go, cnt, rows, k9, fo, hB, hP, hS, hM, hL, hN, hF, hD⟩ := hI
  obtain ⟨n1, n2, n3, n4, n5, n6, n7, n8, n9, n10, n11, n12, n13⟩ := hN
  have hok := fun a ha => (hP.2.2.2.2.2.2.1 a ha).ok
  have hB8 := hP.2.2.2.2.2.2.2
  obtain ⟨FR, TX, hFR, hTX, hT⟩ := R_count n1.1 n1.2.2 hF.1 hB8
  obtain ⟨lo, mm, l1, l2, l3, l4, l5, l6⟩ := cnt_ex y0 y0 n1.2
  refine Met_QW (c_BP_top l dC dI cA A h x sheet shp pil ink clip bf bl st H sz as D bol B FI PI fb fs FR TX (fun y => psum F (80 * y) 80) lo y0 hB.1.1 hP.2.2.2.1 hP.2.2.2.2.1 hok hP.1.1 n1.2 (hP.2.1.ne hP.2.2.1 (by decide)) hP.2.1.1 hP.2.2.1.1 hFR hTX hF.2.2 hT (fun y h1 h2 h3 => R_like n1.2.2 hF.1 hF.2.1 h1 h2 h3) n3.1 (fun y _ => Nat.lt_of_le_of_lt (psum_le F (80 * y) 80) (by decide)) ⟨l1, l3⟩) (fun r h' hp => ?_)
  obtain ⟨rfl, ⟨f', hf1, hf2⟩, ⟨bol', hm'⟩, ho'⟩ := hp
  have hTg := hP.2.2.2.2.2.1
  have kx : kp (tS [5, 8]) tg tg h h' := fun a e ha => by
    by_cases hin : a ∈ as
    · obtain ⟨P, r9, hp9⟩ := List.append_of_mem hin
      exact ⟨rfl, ⟨_, hm' P a r9 hp9⟩, fun hn => absurd (by show tg a ∈ [5, 8]; rw [hTg a hin]; decide) hn⟩
    · by_cases hbl : a = bl
      · subst hbl
        exact ⟨rfl, ⟨_, hf1⟩, fun hn => absurd (by show tg a ∈ [5, 8]; rw [hP.2.1.2]; decide) hn⟩
      · rw [ho' a hin hbl]
        exact ⟨rfl, ⟨e, ha⟩, fun _ => ha⟩
  have hM1 := hM.keep kx (by decide)
  have hP1 : iP h' tg cA pil bl st W H sz f' fs as D bol' B FI PI (fun i => i < cnt ∧ ¬ gs i = 0) := ⟨hP.1.keep kx (by decide), ⟨hf1, hP.2.1.2⟩, hP.2.2.1.keep kx (by decide), hP.2.2.2.1, hm', hTg, fun a ha => (hP.2.2.2.2.2.2.1 a ha).keep kx (by decide) (fun i _ => tS_big rfl (by omega)) (fun _ q => q), hB8⟩
  have fin := fun mf' hN' => fin_t (mf := mf) (k9 := k9) (hB.keep kx (by decide) (by decide)) hP1 (hS.keepS kx rfl (by decide)) hM1 (hL.keep kx (by decide)) ⟨hF.1, hF.2.1, hf2⟩ hD mf' hN'
  refine ⟨⟨_, hM1.1.1⟩, ?_⟩
  refine Met_QW (c_Mo_top l dC dI cA A _ t sh ac dn fr sp dt mf H lo F y0 hM1.1.1 hM1.2.1.1 ⟨n1.2.2, n3.2⟩ ⟨l2, l3⟩) (fun r2 h'' hp => ?_)
  obtain ⟨rfl, rfl⟩ := hp
  exact ⟨rfl, fin (upd mf 0 0) ⟨n1, n2, n3, n4, n5, n6, n7, n8, n9, n10, n11, n12, n13⟩⟩
theorem u_of (hI : bInv cA x t out sc N fx h) (s9 wh : Int32) : ∃ r : Int32, Met l y_BP_of (.code y_BP_of prog_1_method_16_code 4 (some .int) :: BIG) ({ frames := 2, cells := 0, slots := 0, locals := 43 }) (va_Pc [.ref x, .int s9, .int wh] (hp_I (gg dC dI cA) A h)) (hp_QR (some (.int r))) 0 0 (fun _ => False) ∧ Met l y_Mo_of (.code y_Mo_of prog_9_method_33_code 5 (some .int) :: BIG) ({ frames := 1, cells := 0, slots := 0, locals := 24 }) (va_Pc [.ref t, .int s9, .int wh] (hp_I (gg dC dI cA) A h)) (hp_QW (gg dC dI cA) A hp_mi (fun r2 h'' => r2 = r ∧ bInv cA x t out sc N fx h'')) 0 0 A := by
  obtain ⟨tg, sheet, shp, pil, bl, st, sh, ac, dn, fr, sp, dt, W, H, bf, mf, ink, clip, ib, c, kd, val, sz, fb, fs, as, D, bol, B, FI, PI, F, ds, ga, gd, gr, gs, go, cnt, rows, k9, fo, hB, hP, hS, hM, hL, hN, hF, hD⟩ := hI
  obtain ⟨n1, n2, n3, n4, n5, n6, n7, n8, n9, n10, n11, n12, n13⟩ := hN
  obtain ⟨hi1, hi2⟩ := shp_iff (s9 := s9) n7.1
  rw [← n7.2.1] at hi1
  by_cases hs : 0 ≤ s9 ∧ s9 ≤ bf 6 - 1
  · have hs2 := hi1.mp hs
    rw [n7.2.1] at hs2
    obtain ⟨ss, hss, rfl, -, -⟩ := hi2 hs2
    obtain ⟨so, up, ta, b, w, d, r, sd, gt, ff, a1, a2, a3, a4, a5, a6, a7, ⟨g1, g2, g3, g4, g5⟩, a9, a10⟩ := hS.2.1 ss hss
    have hpw : pw w ≤ 2 := by have := pw_12 a6.1; omega
    have hpd : pw w * d ≤ 256 := Nat.mul_le_mul hpw a6.2.2
    have hix := ix_ok (wd := pw w) (d := d) (by omega) (by omega)
    refine ⟨_, cS_BP_of l dC dI cA A h x sheet shp pil ink clip bf ss so up ta b go sd (nI w) (nI d) (nI 1) (nI (pw w)) (pw w * d) ff gt wh hB.1.1 hs (by omega) a1 hS.1.1 a2.1 a3.1 a4.1 a5.1 hix (by omega), ?_⟩
    by_cases hw : 0 ≤ wh ∧ wh ≤ 3
    · refine Met_QW (c_Mo_of l dC dI cA A h t sh ac dn fr sp dt mf ss r d wh ds ga gd gr gs hM.1.1 ⟨by rw [n7.2.2]; exact hs2, hw⟩ (by omega) g3 g2 (by omega) hM.2.2.1.1 hM.2.2.2.1.1 hM.2.2.2.2.1.1 hM.2.2.2.2.2.1.1 hM.2.2.2.2.2.2.1 hD.1 hD.2.1 hD.2.2.1 hD.2.2.2.1 hD.2.2.2.2.1 hD.2.2.2.2.2.1) (fun r2 h'' hp => ?_)
      obtain ⟨rfl, rfl⟩ := hp
      refine ⟨?_, fin_t hB hP hS hM hL hF hD (upd mf 0 0) ⟨n1, n2, n3, n4, n5, n6, n7, n8, n9, n10, n11, n12, n13⟩⟩
      unfold q_om q_ob
      rw [g1, g2, g4, bs_psum, sr_sum a6.1 d a9]
      have hw2 := hw
      rw [z_le, z_le, z_0, zk3] at hw2
      have e1 : wh = 1 ↔ wh.toInt = 1 := by rw [z_eq, z_1]
      have e0 : wh = 0 ↔ wh.toInt = 0 := by rw [z_eq, z_0]
      have e2 : wh = 2 ↔ wh.toInt = 2 := by rw [z_eq, zk2]
      have e3 : wh = 3 ↔ wh.toInt = 3 := by rw [z_eq, zk3]
      rcases (by omega : wh.toInt = 0 ∨ wh.toInt = 1 ∨ wh.toInt = 2 ∨ wh.toInt = 3) with q | q | q | q
      · rw [if_neg (by rw [e2]; omega), if_pos (e0.mpr q), if_pos (e0.mpr q)]
      · rw [if_neg (by rw [e2]; omega), if_neg (by rw [e0]; omega), if_pos (e1.mpr q), if_neg (by rw [e0]; omega), if_pos (e1.mpr q)]
      · rw [if_pos (e2.mpr q), if_neg (by rw [e0]; omega), if_neg (by rw [e1]; omega), if_pos (e2.mpr q)]
      · rw [if_neg (by rw [e2]; omega), if_neg (by rw [e0]; omega), if_neg (by rw [e1]; omega), if_neg (by rw [e0]; omega), if_neg (by rw [e1]; omega), if_neg (by rw [e2]; omega), if_pos (e3.mpr q)]
    · refine Met_QW (cF_Mo_of l dC dI cA A h t sh ac dn fr sp dt mf (nI ss) wh hM.1.1 (fun q => hw q.2)) (fun r2 h'' hp => ?_)
      obtain ⟨rfl, rfl⟩ := hp
      refine ⟨?_, fin_t hB hP hS hM hL hF hD (upd mf 0 0) ⟨n1, n2, n3, n4, n5, n6, n7, n8, n9, n10, n11, n12, n13⟩⟩
      have hne : ∀ v : Int32, 0 ≤ v → v ≤ 3 → ¬ wh = v := fun v h1 h2 q => hw (by rw [q]; exact ⟨h1, h2⟩)
      unfold q_ob
      rw [if_neg (hne 0 (by decide) (by decide)), if_neg (hne 1 (by decide) (by decide)), if_neg (hne 2 (by decide) (by decide)), if_neg (hne 3 (by decide) (by decide))]
  · refine ⟨_, cN_BP_of l dC dI cA A h x sheet shp pil ink clip bf s9 wh hB.1.1 hs, ?_⟩
    refine Met_QW (cF_Mo_of l dC dI cA A h t sh ac dn fr sp dt mf s9 wh hM.1.1 (fun q => hs (hi1.mpr (by rw [n7.2.1, ← n7.2.2]; exact q.1)))) (fun r2 h'' hp => ?_)
    obtain ⟨rfl, rfl⟩ := hp
    exact ⟨rfl, fin_t hB hP hS hM hL hF hD (upd mf 0 0) ⟨n1, n2, n3, n4, n5, n6, n7, n8, n9, n10, n11, n12, n13⟩⟩
end USE
