/-! Drawing and ejecting. -/
theorem sT.ds {h : hp_T} {tg : Nat → Nat} {cA : Nat → ClassId} {go : Nat → Option Nat} {ga gd gr gs : Nat → Int32} {ds ds' : Nat → Int64} {rows i so up ta b w d r : Nat} {ss : Int32} {gt : Nat → Option Nat} {ff : Nat → Int64} (hm : sT h tg cA go ga gd gr gs ds rows i so up ta b w d r ss gt ff) (he : ∀ k, 2 * r ≤ k → k < 2 * (r + d) → ds' k = ds k) : sT h tg cA go ga gd gr gs ds' rows i so up ta b w d r ss gt ff := by
  obtain ⟨a1, a2, a3, a4, a5, a6, a7, a8, a9, a10⟩ := hm
  exact ⟨a1, a2, a3, a4, a5, a6, a7, a8, sr_keep a6.1 a9 he, a10⟩
theorem n4_none (g : Nat → Option Nat) {k : Nat} (hk : k < 4) : q_n4 g k = none := by
  unfold q_n4 va_up
  rcases (by omega : k = 0 ∨ k = 1 ∨ k = 2 ∨ k = 3) with q | q | q | q <;> subst q <;> rfl
theorem iM.t2 {h : hp_T} {tg : Nat → Nat} {cA : Nat → ClassId} {t sh ac dn fr sp dt H : Nat} {mf : Nat → Int32} {F ds : Nat → Int64} {ga gd gr gs : Nat → Int32} (hm : iM h tg cA t sh ac dn fr sp dt H mf F ds ga gd gr gs) (hd : dt ≠ sh) (ds' : Nat → Int64) : iM (hp_up h dt (k_lo (cA 1) 8192 ds')) tg cA t sh ac dn fr sp dt H mf F ds' ga gd gr gs := by
  obtain ⟨a1, a2, a3, a4, a5, a6, a7⟩ := hm
  exact ⟨a1.upn _ (a1.neK a7 rfl), a2.upn _ (Ne.symm hd), a3.upn _ (a3.neK a7 rfl), a4.upn _ (a4.neK a7 rfl), a5.upn _ (a5.neK a7 rfl), a6.upn _ (a6.neK a7 rfl), at2.up _ a7.2⟩
theorem iM.t3 {h : hp_T} {tg : Nat → Nat} {cA : Nat → ClassId} {t sh ac dn fr sp dt H : Nat} {mf : Nat → Int32} {F ds : Nat → Int64} {ga gd gr gs : Nat → Int32} (hm : iM h tg cA t sh ac dn fr sp dt H mf F ds ga gd gr gs) (hd : dt ≠ sh) (F' : Nat → Int64) : iM (hp_up h sh (k_lo (cA 1) (80 * H) F')) tg cA t sh ac dn fr sp dt H mf F' ds ga gd gr gs := by
  obtain ⟨a1, a2, a3, a4, a5, a6, a7⟩ := hm
  exact ⟨a1.upn _ (a1.neK a2 rfl), at2.up _ a2.2, a3.upn _ (a3.neK a2 rfl), a4.upn _ (a4.neK a2 rfl), a5.upn _ (a5.neK a2 rfl), a6.upn _ (a6.neK a2 rfl), a7.upn _ hd⟩
theorem iM.t4 {h : hp_T} {tg : Nat → Nat} {cA : Nat → ClassId} {t sh ac dn fr sp dt H : Nat} {mf : Nat → Int32} {F ds : Nat → Int64} {ga gd gr gs : Nat → Int32} (hm : iM h tg cA t sh ac dn fr sp dt H mf F ds ga gd gr gs) (hD : iD ac dn fr sp sh dt) (gs' : Nat → Int32) : iM (hp_up h sp (k_in (cA 2) 64 gs')) tg cA t sh ac dn fr sp dt H mf F ds ga gd gr gs' := by
  obtain ⟨a1, a2, a3, a4, a5, a6, a7⟩ := hm
  exact ⟨a1.upn _ (a1.neK a6 rfl), a2.upn _ (a2.neK a6 rfl), a3.upn _ hD.2.2.1, a4.upn _ hD.2.2.2.2.1, a5.upn _ hD.2.2.2.2.2.1, at2.up _ a6.2, a7.upn _ (a7.neK a6 rfl)⟩
/-- the cells of a shape's object, read -/
def q_shU (e : Option va_E) : Nat := match e with
  | some (.inr (_, .ref u :: _)) => u
  | _ => 0
def q_shV (e : Option va_E) : Nat := match e with
  | some (.inr (_, _ :: .ref u :: _)) => u
  | _ => 0
theorem fz_at (f : Nat → Int64) {H x y : Nat} (hx : x < 5120) (hy : y < H) : q_at (q_fz f (80 * H)) x y = false := by
  unfold q_at q_fz
  rw [if_pos (by omega), tb_0]
section USE
variable {l : Launch} {dC : Nat → ClassId} {dI : Nat → Nat → Nat} {cA : Nat → ClassId} {A : Nat → Prop} {h : hp_T} {x t out sc N : Nat} {fx : Nat → Int32}
theorem u_draw (hI : bInv cA x t out sc N fx h) (s9 j : Int32) (left right : Int64) : Met l y_BP_draw (.code y_BP_draw prog_1_method_3_code 8 (some .boolean) :: BIG) ({ frames := 4, cells := 0, slots := 0, locals := 97 }) (va_Pc [.ref x, .int s9, .int j, .long left, .long right] (hp_I (gg dC dI cA) A h)) (hp_QW (gg dC dI cA) A hp_mi (fun r h' => (∃ fs : List Value, h' t = some (.inr (7, fs))) ∧ Met l y_Mo_draw (.code y_Mo_draw prog_9_method_14_code 8 (some .boolean) :: BIG) ({ frames := 1, cells := 0, slots := 0, locals := 22 }) (va_Pc [.ref t, .int s9, .int j, .long left, .long right] (hp_I (gg dC dI cA) A h')) (hp_QW (gg dC dI cA) A hp_mi (fun r2 h'' => r2 = r ∧ bInv cA x t out sc N fx h'')) 0 0 A)) 0 0 A := by
  obtain ⟨tg, sheet, shp, pil, bl, st, sh, ac, dn, fr, sp, dt, W, H, bf, mf, ink, clip, ib, c, kd, val, sz, fb, fs, as, D, bol, B, FI, PI, F, ds, ga, gd, gr, gs, go, cnt, rows, k9, fo, hB, hP, hS, hM, hL, hN, hF, hD⟩ := hI
  obtain ⟨n1, n2, n3, n4, n5, n6, n7, n8, n9, n10, n11, n12, n13⟩ := hN
  obtain ⟨hi1, hi2⟩ := shp_iff (s9 := s9) n7.1
  rw [← n7.2.1] at hi1
  by_cases hs : 0 ≤ s9 ∧ s9 ≤ bf 6 - 1
  · have hs2 := hi1.mp hs
    rw [n7.2.1] at hs2
    obtain ⟨ss, hss, rfl, hcl, hvp⟩ := hi2 hs2
    obtain ⟨so, up, ta, b, w, d, r, sd, gt, ff, a1, a2, a3, a4, a5, a6, a7, ⟨g1, g2, g3, g4, g5⟩, a9, a10⟩ := hS.2.1 ss hss
    have hpw : pw w ≤ 2 := by have := pw_12 a6.1; omega
    have hix := ix_ok (wd := pw w) (d := d) (by omega) (by omega)
    have hji : (0 ≤ j ∧ j ≤ nI d - 1) ↔ (0 ≤ j ∧ j < gd ss) := by
      rw [g2]
      simp only [z_le, z_lt]
      rw [m1_z (by omega), z_nI (by omega), z_0]
      omega
    refine Met_QW (cS_BP_draw l dC dI cA A h x sheet shp pil ink clip bf ss so up ta b go sd (nI w) (nI d) (nI 1) (nI (pw w)) (pw w * d) ff gt j left right hB.1.1 hs (by omega) a1 hS.1.1 a2.1 a3.1 a4.1 a5.1 hix) (fun r9 h' hp => ?_)
    rcases hp with ⟨hc, rfl, rfl⟩ | ⟨hc, rfl, rfl⟩
    · refine ⟨⟨_, hM.1.1⟩, ?_⟩
      refine Met_QW (cF_Mo_draw l dC dI cA A _ t sh ac dn fr sp dt mf (nI ss) j left right gd gs hM.1.1 (fun q => hc ?_) (fun _ => hvp) hM.2.2.2.1.1 hM.2.2.2.2.2.1.1 hD.2.2.2.2.1) (fun r2 h'' hp => ?_)
      · rw [hcl] at q
        exact ⟨g4.symm.trans q.2.2.2, hji.mpr ⟨q.2.1, q.2.2.1⟩⟩
      · obtain ⟨rfl, rfl⟩ := hp
        exact ⟨rfl, fin_t hB hP hS hM hL hF hD (upd mf 0 0) ⟨n1, n2, n3, n4, n5, n6, n7, n8, n9, n10, n11, n12, n13⟩⟩
    · have hj2 := hji.mp hc.2
      have hjz : 0 ≤ j.toInt ∧ j.toInt < d := by
        rw [g2, z_le, z_lt, z_nI (by omega), z_0] at hj2
        exact hj2
      obtain ⟨jj, hjn, hjd⟩ : ∃ jj : Nat, j = nI jj ∧ jj < d := ⟨j.toInt.toNat, z_ofN hjz.1, by omega⟩
      subst hjn
      have k1 := (kp.refl (S := fun n => n = 102 + 4 * ss ∨ n = 101 + 4 * ss) tg h).up (k_lo (cA 1) (pw w * d) (q_sd (nI d) (nI (pw w)) (nI w) ff (nI jj) left right)) a4.1 (Or.inl a4.2)
      have hta1 := a5.upn (k_lo (cA 1) (pw w * d) (q_sd (nI d) (nI (pw w)) (nI w) ff (nI jj) left right)) (a5.neK a4 rfl)
      have k2 := k1.up (k_rf (cA 4) 4 (q_n4 gt)) hta1.1 (Or.inr hta1.2)
      have hM1 := hM.keep k2 (by omega)
      have hgs : gs ss = 0 := g4.trans hc.1
      refine ⟨⟨_, hM1.1.1⟩, ?_⟩
      refine Met_QW (c_Mo_draw l dC dI cA A _ t sh ac dn fr sp dt mf ss jj r left right ds ga gd gr gs hM1.1.1 ⟨by rw [n7.2.2]; exact hs2, hj2.1, hj2.2, hgs⟩ (by omega) g3 (by omega) hM1.2.2.1.1 hM1.2.2.2.1.1 hM1.2.2.2.2.1.1 hM1.2.2.2.2.2.1.1 hM1.2.2.2.2.2.2.1 hD.1 hD.2.1 hD.2.2.1 hD.2.2.2.1 hD.2.2.2.2.1 hD.2.2.2.2.2.1) (fun r2 h'' hp => ?_)
      obtain ⟨rfl, rfl⟩ := hp
      have hM2 := hM1.t (upd mf 0 0)
      have k3 := k2.mono (S' := fun n => n = 102 + 4 * ss ∨ n = 101 + 4 * ss ∨ n = 1) (fun n hn => by omega)
      have k4 := k3.up (k_Mo (upd mf 0 0) sh ac dn fr sp dt) hM1.1.1 (Or.inr (Or.inr hM1.1.2))
      have k5 := k4.up (k_lo (cA 1) 8192 (vp_updL (vp_updL ds (2 * (r + jj)) (q_hi left (ga ss))) (2 * (r + jj) + 1) (q_hi right (ga ss - 64)))) hM2.2.2.2.2.2.2.1 (Or.inr (Or.inr hM2.2.2.2.2.2.2.2))
      have kM := ((kp.refl (S := fun n => n = 1) tg _).up (k_Mo (upd mf 0 0) sh ac dn fr sp dt) hM1.1.1 hM1.1.2).up (k_lo (cA 1) 8192 (vp_updL (vp_updL ds (2 * (r + jj)) (q_hi left (ga ss))) (2 * (r + jj) + 1) (q_hi right (ga ss - 64)))) hM2.2.2.2.2.2.2.1 hM2.2.2.2.2.2.2.2
      have hb2 : at2 _ tg b (k_lo (cA 1) (pw w * d) (q_sd (nI d) (nI (pw w)) (nI w) ff (nI jj) left right)) (102 + 4 * ss) := ((at2.up (h := h) _ a4.2).upn (k_rf (cA 4) 4 (q_n4 gt)) (Ne.symm (a5.neK a4 rfl))).keep kM (by omega)
      have hta2 : at2 _ tg ta (k_rf (cA 4) 4 (q_n4 gt)) (101 + 4 * ss) := (at2.up (h := hp_up h b (k_lo (cA 1) (pw w * d) (q_sd (nI d) (nI (pw w)) (nI w) ff (nI jj) left right))) _ a5.2).keep kM (by omega)
      refine ⟨rfl, ⟨tg, sheet, shp, pil, bl, st, sh, ac, dn, fr, sp, dt, W, H, bf, upd mf 0 0, ink, clip, ib, c, kd, val, sz, fb, fs, as, D, bol, B, FI, PI, F, _, ga, gd, gr, gs, go, cnt, rows, k9, fo, hB.keep k5 (by omega) (by omega), hP.keep k5 (by omega) (by omega) (by omega) (by omega) (by omega) (fun i hi => ?_) (fun _ q => q), ⟨hS.1.keep k5 (by omega), fun i hi => ?_, hS.2.2⟩, hM2.t2 hD.2.2.2.2.2.2 _, hL.keep k5 (by omega), ⟨n1, n2, n3, n4, n5, n6, n7, n8, n9, n10, n11, n12, n13⟩, hF, hD⟩⟩
      · have : i ≠ ss := fun q => hi.2 (by rw [q]; exact hgs)
        omega
      · by_cases hq : i = ss
        · subst hq
          refine ⟨so, up, ta, b, w, d, r, sd, q_n4 gt, q_sd (nI d) (nI (pw w)) (nI w) ff (nI jj) left right, a1, a2.keep k5 (by omega), a3.keep k5 (by omega), hb2, hta2, a6, fun k q hk4 hq2 => ?_, ⟨g1, g2, g3, g4, g5⟩, ?_, a10⟩
          · rw [n4_none gt hk4] at hq2
            cases hq2
          · rw [g1]
            exact sr_draw a6.1 a6.2.2 a9 hjd left right
        · obtain ⟨so', up', ta', b', w', d', r', sd', gt', ff', hs'⟩ := hS.2.1 i hi
          refine ⟨so', up', ta', b', w', d', r', sd', gt', ff', (hs'.keep k5 (by omega) (by omega) (by omega) (by omega)).ds (fun k hk1 hk2 => ?_)⟩
          obtain ⟨-, -, -, -, -, e6, -, ⟨-, f2, f3, -, -⟩, -, e10⟩ := hs'
          have hor : r' + d' ≤ r ∨ r + d ≤ r' := by
            rcases Nat.lt_or_gt_of_ne hq with q | q
            · have h9 := hS.2.2 i ss q hss
              rw [f2, f3, g3, z_nI (by omega), z_nI (by omega), z_nI (by omega)] at h9
              omega
            · have h9 := hS.2.2 ss i q hi
              rw [f3, g2, g3, z_nI (by omega), z_nI (by omega), z_nI (by omega)] at h9
              omega
          unfold vp_updL
          rw [if_neg (by omega), if_neg (by omega)]
  · refine Met_QW (cN_BP_draw l dC dI cA A h x sheet shp pil ink clip bf s9 j left right hB.1.1 hs) (fun r9 h' hp => ?_)
    obtain ⟨rfl, rfl⟩ := hp
    have hns : ¬ (0 ≤ s9 ∧ s9 < mf 5) := fun q => hs (hi1.mpr (by rw [n7.2.1, ← n7.2.2]; exact q))
    refine ⟨⟨_, hM.1.1⟩, ?_⟩
    refine Met_QW (cF_Mo_draw l dC dI cA A _ t sh ac dn fr sp dt mf s9 j left right gd gs hM.1.1 (fun q => hns q.1) (fun q => absurd q hns) hM.2.2.2.1.1 hM.2.2.2.2.2.1.1 hD.2.2.2.2.1) (fun r2 h'' hp => ?_)
    obtain ⟨rfl, rfl⟩ := hp
    exact ⟨rfl, fin_t hB hP hS hM hL hF hD (upd mf 0 0) ⟨n1, n2, n3, n4, n5, n6, n7, n8, n9, n10, n11, n12, n13⟩⟩
theorem u_eject (hI : bInv cA x t out sc N fx h)  : Met l y_BP_eject (.code y_BP_eject prog_1_method_11_code 3 none :: BIG) ({ frames := 2, cells := 0, slots := 0, locals := 44 }) (va_Pc [.ref x] (hp_I (gg dC dI cA) A h)) (hp_QW (gg dC dI cA) A hp_mv (fun _ h' => (∃ fs : List Value, h' t = some (.inr (7, fs))) ∧ Met l y_Mo_eject (.code y_Mo_eject prog_9_method_26_code 2 none :: BIG) ({ frames := 0, cells := 0, slots := 0, locals := 0 }) (va_Pc [.ref t] (hp_I (gg dC dI cA) A h')) (hp_QW (gg dC dI cA) A hp_mv (fun _ h'' => bInv cA x t out sc N fx h'')) 0 0 A)) 0 0 A := by
  obtain ⟨tg, sheet, shp, pil, bl, st, sh, ac, dn, fr, sp, dt, W, H, bf, mf, ink, clip, ib, c, kd, val, sz, fb, fs, as, D, bol, B, FI, PI, F, ds, ga, gd, gr, gs, go, cnt, rows, k9, fo, hB, hP, hS, hM, hL, hN, hF, hD⟩ := hI
  obtain ⟨n1, n2, n3, n4, n5, n6, n7, n8, n9, n10, n11, n12, n13⟩ := hN
  have hso : ∀ i, i < cnt → ∃ (so up ta b w d r : Nat) (ss : Int32) (gt : Nat → Option Nat) (ff : Nat → Int64), sT h tg cA go ga gd gr gs ds rows i so up ta b w d r ss gt ff ∧ so = (go i).getD 0 ∧ up = q_shU (h ((go i).getD 0)) ∧ ta = q_shV (h ((go i).getD 0)) := fun i hi => by
    obtain ⟨so, up, ta, b, w, d, r, ss, gt, ff, hs⟩ := hS.2.1 i hi
    refine ⟨so, up, ta, b, w, d, r, ss, gt, ff, hs, ?_, ?_, ?_⟩
    · rw [hs.1]
      rfl
    · rw [hs.1, show h ((some so).getD 0) = some (k_Sh up ta ss) from hs.2.1.1]
      rfl
    · rw [hs.1, show h ((some so).getD 0) = some (k_Sh up ta ss) from hs.2.1.1]
      rfl
  have hs1 : ∀ i, i < cnt → go i = some ((go i).getD 0) := fun i hi => by
    obtain ⟨so, up, ta, b, w, d, r, ss, gt, ff, hs, e1, e2, e3⟩ := hso i hi
    rw [← e1]
    exact hs.1
  have hs2 : ∀ i, i < cnt → ∃ ss, at2 h tg ((go i).getD 0) (k_Sh (q_shU (h ((go i).getD 0))) (q_shV (h ((go i).getD 0))) ss) (100 + 4 * i) ∧ gs i = ss := fun i hi => by
    obtain ⟨so, up, ta, b, w, d, r, ss, gt, ff, hs, e1, e2, e3⟩ := hso i hi
    rw [← e2, ← e3, ← e1]
    exact ⟨ss, hs.2.1, hs.2.2.2.2.2.2.2.1.2.2.2.1⟩
  have hinj : ∀ i j, i < cnt → j < cnt → (go i).getD 0 = (go j).getD 0 → i = j := fun i j hi hj hq => by
    obtain ⟨s1, h1, -⟩ := hs2 i hi
    obtain ⟨s2, h2, -⟩ := hs2 j hj
    have := h1.2
    rw [hq, h2.2] at this
    omega
  refine Met_QW (c_BP_eject l dC dI cA A h x sheet shp pil ink clip bf bl st H cnt sz as.head? fb fs (fun i => (go i).getD 0) (fun i => q_shU (h ((go i).getD 0))) (fun i => q_shV (h ((go i).getD 0))) gs go hB.1.1 n1.2.2 (hP.2.1.ne hP.2.2.1 (by decide)) ⟨n7.1, n7.2.1⟩ hP.1.1 hP.2.1.1 hP.2.2.1.1 hS.1.1 hs1 (fun i hi => by obtain ⟨s1, h1, e⟩ := hs2 i hi; rw [e]; exact h1.1) hinj) (fun _ h' hp => ?_)
  obtain ⟨S, hSd⟩ : ∃ S : Nat → Prop, S = fun n => n = 3 ∨ n = 4 ∨ n = 5 ∨ n = 6 ∨ ∃ i, i < cnt ∧ n = 100 + 4 * i := ⟨_, rfl⟩
  have hn4 : h pil = _ := hP.1.1
  have k1 := (kp.refl (S := S) tg h).up (k_Pl (nI H) bl st 0 none) hP.1.1 (by rw [hP.1.2, hSd]; exact Or.inr (Or.inl rfl))
  have hb1 := hP.2.1.upn (k_Pl (nI H) bl st 0 none) (hP.2.1.neK hP.1 rfl)
  have k2 := k1.up (k_in (cA 0) H (q_fl fb 0 H)) hb1.1 (by rw [hb1.2, hSd]; exact Or.inr (Or.inr (Or.inl rfl)))
  have hs3 := (hP.2.2.1.upn (k_Pl (nI H) bl st 0 none) (hP.2.2.1.neK hP.1 rfl)).upn (k_in (cA 0) H (q_fl fb 0 H)) (hP.2.2.1.ne hP.2.1 (by decide))
  have k3 := k2.up (k_in (cA 2) H (q_fl fs 0 H)) hs3.1 (by rw [hs3.2, hSd]; exact Or.inr (Or.inr (Or.inr (Or.inl rfl))))
  have hx4 := ((hB.1.upn (k_Pl (nI H) bl st 0 none) (hB.1.neK hP.1 rfl)).upn (k_in (cA 0) H (q_fl fb 0 H)) (hB.1.neK hP.2.1 rfl)).upn (k_in (cA 2) H (q_fl fs 0 H)) (hB.1.neK hP.2.2.1 rfl)
  have k4 := k3.up (k_BP (upd bf 8 0) sheet shp pil ink clip) hx4.1 (by rw [hx4.2, hSd]; exact Or.inl rfl)
  obtain ⟨h4, hh4⟩ : ∃ h4, h4 = hp_up (hp_up (hp_up (hp_up h pil (k_Pl (nI H) bl st 0 none)) bl (k_in (cA 0) H (q_fl fb 0 H))) st (k_in (cA 2) H (q_fl fs 0 H))) x (k_BP (upd bf 8 0) sheet shp pil ink clip) := ⟨_, rfl⟩
  have e_x : at2 h4 tg x (k_BP (upd bf 8 0) sheet shp pil ink clip) 3 := by rw [hh4]; exact at2.up _ hB.1.2
  have e_st : at2 h4 tg st (k_in (cA 2) H (q_fl fs 0 H)) 6 := by rw [hh4]; exact (at2.up _ hP.2.2.1.2).upn _ (Ne.symm (hB.1.neK hP.2.2.1 rfl))
  have e_bl : at2 h4 tg bl (k_in (cA 0) H (q_fl fb 0 H)) 5 := by rw [hh4]; exact ((at2.up _ hP.2.1.2).upn _ (hP.2.1.ne hP.2.2.1 (by decide))).upn _ (Ne.symm (hB.1.neK hP.2.1 rfl))
  have e_pil : at2 h4 tg pil (k_Pl (nI H) bl st 0 none) 4 := by rw [hh4]; exact (((at2.up _ hP.1.2).upn _ (Ne.symm (hP.2.1.neK hP.1 rfl))).upn _ (Ne.symm (hP.2.2.1.neK hP.1 rfl))).upn _ (Ne.symm (hB.1.neK hP.1 rfl))
  have hne : ∀ {a n e}, at2 h4 tg a e n → (∀ i, n ≠ 100 + 4 * i) → ∀ i, i < cnt → a ≠ (go i).getD 0 := fun {a n e} ha hn i hi q => by
    obtain ⟨s1, h1, -⟩ := hs2 i hi
    exact hn i (by rw [← ha.2, q, h1.2])
  have hso4 : ∀ i, i < cnt → ∃ e, h4 ((go i).getD 0) = some e := fun i hi => by
    obtain ⟨s1, h1, -⟩ := hs2 i hi
    rw [hh4]
    exact (k4 _ _ h1.1).2.1
  have k5 : kp S tg tg h4 h' := fun a e ha => by
    rw [hp, ← hh4]
    by_cases hq : ∃ i, i < cnt ∧ a = (go i).getD 0
    · obtain ⟨i, hi, rfl⟩ := hq
      obtain ⟨s1, h1, -⟩ := hs2 i hi
      exact ⟨rfl, ⟨_, q_ej_s cnt hi hinj⟩, fun hn => absurd (by rw [h1.2, hSd]; exact Or.inr (Or.inr (Or.inr (Or.inr ⟨i, hi, rfl⟩)))) hn⟩
    · rw [q_ej_k cnt (fun i hi q => hq ⟨i, hi, q⟩)]
      exact ⟨rfl, ⟨e, ha⟩, fun _ => ha⟩
  have k6 : kp S tg tg h h' := (by rw [← hh4] at k4; exact k4.tr k5)
  have up5 : ∀ {a n e}, at2 h4 tg a e n → (∀ i, n ≠ 100 + 4 * i) → at2 h' tg a e n := fun {a n e} ha hn => by
    refine ⟨?_, ha.2⟩
    rw [hp, ← hh4, q_ej_k cnt (hne ha hn)]
    exact ha.1
  have nS0 : ¬ S 0 := by rw [hSd]; rintro (q | q | q | q | ⟨i, -, q⟩) <;> omega
  have nS1 : ¬ S 1 := by rw [hSd]; rintro (q | q | q | q | ⟨i, -, q⟩) <;> omega
  have nS2 : ¬ S 2 := by rw [hSd]; rintro (q | q | q | q | ⟨i, -, q⟩) <;> omega
  have nS7 : ¬ S 7 := by rw [hSd]; rintro (q | q | q | q | ⟨i, -, q⟩) <;> omega
  have nSa : ∀ i, ¬ S (101 + 4 * i) := fun i => by rw [hSd]; rintro (q | q | q | q | ⟨i, -, q⟩) <;> omega
  have nSb : ∀ i, ¬ S (102 + 4 * i) := fun i => by rw [hSd]; rintro (q | q | q | q | ⟨i, -, q⟩) <;> omega
  have hM1 := hM.keep k6 nS1
  refine ⟨⟨_, hM1.1.1⟩, ?_⟩
  refine Met_QW (c_Mo_eject l dC dI cA A h' t sh ac dn fr sp dt mf (80 * H) F gs hM1.1.1 (by omega) hM1.2.1.1 hM1.2.2.2.2.2.1.1) (fun _ h'' hp2 => ?_)
  have hM2 := hM1.t3 hD.2.2.2.2.2.2 (q_fz F (80 * H))
  have hM3 := hM2.t (upd (upd (upd mf 0 0) 12 0) 13 0)
  have kM := (((kp.refl (S := tS [1]) tg h').up (k_lo (cA 1) (80 * H) (q_fz F (80 * H))) hM1.2.1.1 (by rw [hM1.2.1.2]; decide)).up (k_Mo (upd (upd (upd mf 0 0) 12 0) 13 0) sh ac dn fr sp dt) hM2.1.1 (by rw [hM2.1.2]; decide)).up (k_in (cA 2) 64 (q_fl gs 0 64)) hM3.2.2.2.2.2.1.1 (by rw [hM3.2.2.2.2.2.1.2]; decide)
  rw [← hp2] at kM
  have hM4 := hM3.t4 hD (q_fl gs 0 64)
  rw [← hp2] at hM4
  have hgs0 : ∀ i, i < cnt → q_fl gs 0 64 i = 0 := fun i hi => if_pos (by omega)
  have hB2 : iB h' tg cA x sheet shp pil W H (upd bf 8 0) ink clip ib c kd val := ⟨up5 e_x (fun i => by omega), hB.2.1.keep k6 nS0, hB.2.2.1.keep k6 nS0, hB.2.2.2.1.keep k6 nS0, hB.2.2.2.2.1.keep k6 nS0, hB.2.2.2.2.2⟩
  refine ⟨tg, sheet, shp, pil, bl, st, sh, ac, dn, fr, sp, dt, W, H, upd bf 8 0, upd (upd (upd mf 0 0) 12 0) 13 0, ink, clip, ib, c, kd, val, 0, q_fl fb 0 H, q_fl fs 0 H, [], D, bol, B, FI, PI, q_fz F (80 * H), ds, ga, gd, gr, q_fl gs 0 64, go, cnt, rows, k9, fo, hB2.keep kM (by decide) (by decide), ⟨(up5 e_pil (fun i => by omega)).keep kM (by decide), (up5 e_bl (fun i => by omega)).keep kM (by decide), (up5 e_st (fun i => by omega)).keep kM (by decide), List.nodup_nil, fun P a r he => ?_, fun a ha => absurd ha List.not_mem_nil, fun a ha => absurd ha List.not_mem_nil, fun a ha => absurd ha List.not_mem_nil⟩, ⟨(hS.1.keep k6 nS7).keep kM (by decide), fun i hi => ?_, hS.2.2⟩, hM4, (hL.keep k6 nS2).keep kM (by decide), ⟨n1, n2, n3, n4, ⟨rfl, by decide, by decide⟩, rfl, n7, n8, n9, n10, n11, n12, n13⟩, ⟨fun x y hx hy => fz_at F hx hy, fun y h1 h2 h3 a ha => absurd ha List.not_mem_nil, fun y hy => Or.inr ?_⟩, hD⟩
  · exact absurd he (by cases P <;> exact fun q => by cases q)
  · obtain ⟨so, up, ta, b, w, d, r, ss, gt, ff, ⟨a1, a2, a3, a4, a5, a6, a7, ⟨g1, g2, g3, g4, g5⟩, a9, a10⟩, e1, e2, e3⟩ := hso i hi
    refine ⟨so, up, ta, b, w, d, r, 0, gt, ff, a1, at2.keep kM (fun q => tS_big rfl (by omega) q) ⟨?_, a2.2⟩, (a3.keep k6 nS0).keep kM (by decide), at2.keep kM (fun q => tS_big rfl (by omega) q) (a4.keep k6 (nSb i)), at2.keep kM (fun q => tS_big rfl (by omega) q) (a5.keep k6 (nSa i)), a6, fun k q hk4 hq => ?_, ⟨g1, g2, g3, hgs0 i hi, Or.inl rfl⟩, a9, a10⟩
    · rw [hp, e1, e2, e3]
      exact q_ej_s cnt hi hinj
    · rcases a7 k q hk4 hq with hz | ⟨hz, b2, b3, b4⟩
      · exact Or.inl hz
      · exact Or.inr ⟨hz, b2, (b3.keep k6 nS0).keep kM (by decide), (b4.keep k6 nS0).keep kM (by decide)⟩
  · show q_fl fb 0 H y = nI (psum (q_fz F (80 * H)) (80 * y) 80)
    have e0 : psum (q_fz F (80 * H)) (80 * y) 80 = 0 := psum_zero 80 (fun i hi => if_pos (by omega))
    rw [e0]
    exact if_pos hy
end USE
