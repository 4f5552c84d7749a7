/-! The two calls that may throw, of both sides. -/
def lwP (cA : Nat → ClassId) (t out : Nat) (h : hp_T) (k : Int32) (v : Int64) : Prop := (∃ (mf : Nat → Int32) (sh ac dn fr sp dt : Nat), h t = some (k_Mo mf sh ac dn fr sp dt) ∧ mf 0 = k) ∧ ∃ fo : Nat → Int64, h out = some (k_lo (cA 1) 1 fo) ∧ (k = 0 → fo 0 = v)
theorem sT.mod {h : hp_T} {tg : Nat → Nat} {cA : Nat → ClassId} {go go' : Nat → Option Nat} {ga gd gr gs ga' gd' gr' gs' : Nat → Int32} {ds ds' : Nat → Int64} {rows rows' i so up ta b w d r : Nat} {ss : Int32} {gt : Nat → Option Nat} {ff : Nat → Int64} (hm : sT h tg cA go ga gd gr gs ds rows i so up ta b w d r ss gt ff) (h1 : go' i = go i) (h2 : ga' i = ga i) (h3 : gd' i = gd i) (h4 : gr' i = gr i) (h5 : gs' i = gs i) (h6 : ∀ k, k < 2 * rows → ds' k = ds k) (h7 : rows ≤ rows') : sT h tg cA go' ga' gd' gr' gs' ds' rows' i so up ta b w d r ss gt ff := by
  obtain ⟨a1, a2, a3, a4, a5, a6, a7, ⟨g1, g2, g3, g4, g5⟩, a9, a10⟩ := hm
  exact ⟨h1.trans a1, a2, a3, a4, a5, a6, a7, ⟨h2.trans g1, h3.trans g2, h4.trans g3, h5.trans g4, g5⟩, sr_keep a6.1 a9 (fun k _ hk => h6 k (by omega)), by omega⟩
theorem iM.t5 {h : hp_T} {tg : Nat → Nat} {cA : Nat → ClassId} {t sh ac dn fr sp dt H : Nat} {mf : Nat → Int32} {F ds : Nat → Int64} {ga gd gr gs : Nat → Int32} (hm : iM h tg cA t sh ac dn fr sp dt H mf F ds ga gd gr gs) (hD : iD ac dn fr sp sh dt) (ga' : Nat → Int32) : iM (hp_up h ac (k_in (cA 0) 64 ga')) tg cA t sh ac dn fr sp dt H mf F ds ga' gd gr gs := by
  obtain ⟨a1, a2, a3, a4, a5, a6, a7⟩ := hm
  exact ⟨a1.upn _ (a1.neK a3 rfl), a2.upn _ (a2.neK a3 rfl), at2.up _ a3.2, a4.upn _ (Ne.symm hD.1), a5.upn _ (Ne.symm hD.2.1), a6.upn _ (Ne.symm hD.2.2.1), a7.upn _ (a7.neK a3 rfl)⟩
theorem iM.t6 {h : hp_T} {tg : Nat → Nat} {cA : Nat → ClassId} {t sh ac dn fr sp dt H : Nat} {mf : Nat → Int32} {F ds : Nat → Int64} {ga gd gr gs : Nat → Int32} (hm : iM h tg cA t sh ac dn fr sp dt H mf F ds ga gd gr gs) (hD : iD ac dn fr sp sh dt) (gd' : Nat → Int32) : iM (hp_up h dn (k_in (cA 0) 64 gd')) tg cA t sh ac dn fr sp dt H mf F ds ga gd' gr gs := by
  obtain ⟨a1, a2, a3, a4, a5, a6, a7⟩ := hm
  exact ⟨a1.upn _ (a1.neK a4 rfl), a2.upn _ (a2.neK a4 rfl), a3.upn _ hD.1, at2.up _ a4.2, a5.upn _ (Ne.symm hD.2.2.2.1), a6.upn _ (Ne.symm hD.2.2.2.2.1), a7.upn _ (a7.neK a4 rfl)⟩
theorem iM.t7 {h : hp_T} {tg : Nat → Nat} {cA : Nat → ClassId} {t sh ac dn fr sp dt H : Nat} {mf : Nat → Int32} {F ds : Nat → Int64} {ga gd gr gs : Nat → Int32} (hm : iM h tg cA t sh ac dn fr sp dt H mf F ds ga gd gr gs) (hD : iD ac dn fr sp sh dt) (gr' : Nat → Int32) : iM (hp_up h fr (k_in (cA 0) 64 gr')) tg cA t sh ac dn fr sp dt H mf F ds ga gd gr' gs := by
  obtain ⟨a1, a2, a3, a4, a5, a6, a7⟩ := hm
  exact ⟨a1.upn _ (a1.neK a5 rfl), a2.upn _ (a2.neK a5 rfl), a3.upn _ hD.2.1, a4.upn _ hD.2.2.2.1, at2.up _ a5.2, a6.upn _ (Ne.symm hD.2.2.2.2.2.1), a7.upn _ (a7.neK a5 rfl)⟩
section USE
variable {l : Launch} {dC : Nat → ClassId} {dI : Nat → Nat → Nat} {cA : Nat → ClassId} {A : Nat → Prop} {h : hp_T} {x t out sc N : Nat} {fx : Nat → Int32}
theorem u_shape (hst : l.stackTraces = false) (hI : bInv cA x t out sc N fx h) (p0 p1 : Int32) : Met l y_La_shape w_La_shape r_La_shape (va_Pc [.ref x, .int p0, .int p1, .ref out] (hp_IX (gg dC dI cA) A h)) (hp_QW (gg dC dI cA) A hp_mi (fun k h' => (∃ fs : List Value, h' t = some (.inr (7, fs))) ∧ Met l y_Mo_shape (.code y_Mo_shape prog_9_method_11_code 4 (some .int) :: BIG) ({ frames := 0, cells := 0, slots := 0, locals := 0 }) (va_Pc [.ref t, .int p0, .int p1] (hp_I (gg dC dI cA) A h')) (hp_QW (gg dC dI cA) A hp_mi (fun r2 h'' => bInv cA x t out sc N fx h'' ∧ lwP cA t out h'' k r2.toInt64)) 0 0 A)) 4 268 A := by
  obtain ⟨tg, sheet, shp, pil, bl, st, sh, ac, dn, fr, sp, dt, W, H, bf, mf, ink, clip, ib, c, kd, val, sz, fb, fs, as, D, bol, B, FI, PI, F, ds, ga, gd, gr, gs, go, cnt, rows, k9, fo, hB, hP, hS, hM, hL, hN, hF, hD⟩ := hI
  obtain ⟨n1, n2, n3, n4, n5, n6, n7, n8, n9, n10, n11, n12, n13⟩ := hN
  have z64 : (64 : Int32).toInt = 64 := rfl
  by_cases hw : (1 ≤ p0 ∧ p0 ≤ 128) ∧ 1 ≤ p1 ∧ p1 ≤ 128
  · have hz := hw
    simp only [z_le, z_1, z_128] at hz
    obtain ⟨w, rfl, hzw⟩ : ∃ w : Nat, p0 = nI w ∧ 1 ≤ w ∧ w ≤ 128 := ⟨p0.toInt.toNat, z_ofN (by omega), by omega⟩
    obtain ⟨d, rfl, hzd⟩ : ∃ d : Nat, p1 = nI d ∧ 1 ≤ d ∧ d ≤ 128 := ⟨p1.toInt.toNat, z_ofN (by omega), by omega⟩
    have hdim : ¬ (nI w < 1 ∨ 128 < nI w ∨ nI d < 1 ∨ 128 < nI d) := by
      simp only [z_lt, z_1, z_128]
      omega
    have hsum : (bf 7 + nI d).toInt = (rows : Int) + d := by
      rw [n8.2.1, z_add (by rw [z_nI (by omega), z_nI (by omega)]; omega) (by rw [z_nI (by omega), z_nI (by omega)]; omega), z_nI (by omega), z_nI (by omega)]
    by_cases hroom : 64 ≤ bf 6 ∨ ¬ bf 7 + nI d ≤ 4096
    · refine Met_QW (cl_shapeS l dC dI cA A h x out sheet shp pil ink clip bf hst (nI w) (nI d) hB.1.1 hw hroom) (fun k h' hp => ?_)
      obtain ⟨rfl, rfl⟩ := hp
      have hq : q_shc mf (nI w) (nI d) = 2 := by
        unfold q_shc
        rw [if_neg hdim, if_pos]
        rw [n7.2.1] at hroom
        rcases hroom with hr | hr
        · refine Or.inl ?_
          rw [z_le, z64, z_nI (by omega)] at hr
          rw [n7.2.2]
          exact z_eq.mpr (by rw [z_nI (by omega), z64]; omega)
        · refine Or.inr ?_
          rw [n8.2.2, ← n8.2.1, z_lt, z_4096]
          rw [z_le, z_4096] at hr
          omega
      refine ⟨⟨_, hM.1.1⟩, ?_⟩
      refine Met_QW (cF_Mo_shape l dC dI cA A _ t sh ac dn fr sp dt mf (nI w) (nI d) hM.1.1 (by rw [hq]; decide)) (fun r2 h'' hp => ?_)
      obtain ⟨rfl, rfl⟩ := hp
      rw [hq]
      exact ⟨fin_t hB hP hS hM hL hF hD (upd mf 0 2) ⟨n1, n2, n3, n4, n5, n6, n7, n8, n9, n10, n11, n12, n13⟩, ⟨_, _, _, _, _, _, _, hp_up_s _ _ _, rfl⟩, fo, hp_up_k (hL.1.neK hM.1 rfl) hL.1.1, fun q => absurd q (by decide)⟩
    · have hcnt : cnt < 64 := by
        have : ¬ (64 : Int32) ≤ bf 6 := fun q => hroom (Or.inl q)
        rw [n7.2.1, z_le, z64, z_nI (by omega)] at this
        omega
      have hrow : bf 7 + nI d ≤ 4096 := Classical.byContradiction fun q => hroom (Or.inr q)
      have hrows : rows + d ≤ 4096 := by
        rw [z_le, z_4096, hsum] at hrow
        omega
      have hkey : ∀ (r : Int32) (h1 : hp_T), (r = nI cnt ∧ ∃ q p b a, h q = none ∧ h p = none ∧ h b = none ∧ h a = none ∧ (q ≠ p ∧ q ≠ b ∧ q ≠ a ∧ p ≠ b ∧ p ≠ a ∧ b ≠ a) ∧ h1 = hp_up (hp_up (hp_up (hp_up (hp_up (hp_up h b (k_lo (cA 1) (pw w * d) (fun _ => 0))) p (k_Pc (nI w) (nI d) (nI 1) (nI (pw w)) b)) a (k_rf (cA 4) 4 (fun _ => none))) q (k_Sh p a 0)) shp (k_rf (cA 3) 64 (va_up go cnt (some q)))) x (k_BP (upd (upd bf 6 (nI (cnt + 1))) 7 (bf 7 + nI d)) sheet shp pil ink clip)) → ∃ q p b a tg', kp (tS [3, 7]) tg tg' h h1 ∧ at2 h1 tg' x (k_BP (upd (upd bf 6 (nI (cnt + 1))) 7 (bf 7 + nI d)) sheet shp pil ink clip) 3 ∧ at2 h1 tg' shp (k_rf (cA 3) 64 (va_up go cnt (some q))) 7 ∧ at2 h1 tg' q (k_Sh p a 0) (100 + 4 * cnt) ∧ at2 h1 tg' p (k_Pc (nI w) (nI d) (nI 1) (nI (pw w)) b) 0 ∧ at2 h1 tg' b (k_lo (cA 1) (pw w * d) (fun _ => 0)) (102 + 4 * cnt) ∧ at2 h1 tg' a (k_rf (cA 4) 4 (fun _ => none)) (101 + 4 * cnt) := by
        rintro r h1 ⟨-, q, p, b, a, w1, w2, w3, w4, ⟨m1, m2, m3, m4, m5, m6⟩, rfl⟩
        have k1 := (kp.refl (S := tS [3, 7]) tg h).new (k_lo (cA 1) (pw w * d) (fun _ => 0)) (102 + 4 * cnt) w3
        have v2 : hp_up h b (k_lo (cA 1) (pw w * d) (fun _ => 0)) p = none := hp_up_k m4 w2
        have k2 := k1.new (k_Pc (nI w) (nI d) (nI 1) (nI (pw w)) b) 0 v2
        have v3 : hp_up (hp_up h b (k_lo (cA 1) (pw w * d) (fun _ => 0))) p (k_Pc (nI w) (nI d) (nI 1) (nI (pw w)) b) a = none := hp_up_k (Ne.symm m5) (hp_up_k (Ne.symm m6) w4)
        have k3 := k2.new (k_rf (cA 4) 4 (fun _ => none)) (101 + 4 * cnt) v3
        have v4 : hp_up (hp_up (hp_up h b (k_lo (cA 1) (pw w * d) (fun _ => 0))) p (k_Pc (nI w) (nI d) (nI 1) (nI (pw w)) b)) a (k_rf (cA 4) 4 (fun _ => none)) q = none := hp_up_k m3 (hp_up_k m1 (hp_up_k m2 w1))
        have k4 := k3.new (k_Sh p a 0) (100 + 4 * cnt) v4
        have kn : kp (tS []) tg _ h _ := ((((kp.refl (S := tS []) tg h).new (k_lo (cA 1) (pw w * d) (fun _ => 0)) (102 + 4 * cnt) w3).new (k_Pc (nI w) (nI d) (nI 1) (nI (pw w)) b) 0 v2).new (k_rf (cA 4) 4 (fun _ => none)) (101 + 4 * cnt) v3).new (k_Sh p a 0) (100 + 4 * cnt) v4
        have s_x := hB.1.keep kn (by decide)
        have s_shp := hS.1.keep kn (by decide)
        have s_b := (((at2.new (h := h) (tg := tg) (a := b) (k_lo (cA 1) (pw w * d) (fun _ => 0)) (102 + 4 * cnt)).newn (k_Pc (nI w) (nI d) (nI 1) (nI (pw w)) b) 0 (Ne.symm m4)).newn (k_rf (cA 4) 4 (fun _ => none)) (101 + 4 * cnt) m6).newn (k_Sh p a 0) (100 + 4 * cnt) (Ne.symm m2)
        have s_p := ((at2.new (h := hp_up h b (k_lo (cA 1) (pw w * d) (fun _ => 0))) (tg := va_up tg b (102 + 4 * cnt)) (a := p) (k_Pc (nI w) (nI d) (nI 1) (nI (pw w)) b) 0).newn (k_rf (cA 4) 4 (fun _ => none)) (101 + 4 * cnt) m5).newn (k_Sh p a 0) (100 + 4 * cnt) (Ne.symm m1)
        have s_a := (at2.new (h := hp_up (hp_up h b (k_lo (cA 1) (pw w * d) (fun _ => 0))) p (k_Pc (nI w) (nI d) (nI 1) (nI (pw w)) b)) (tg := va_up (va_up tg b (102 + 4 * cnt)) p 0) (a := a) (k_rf (cA 4) 4 (fun _ => none)) (101 + 4 * cnt)).newn (k_Sh p a 0) (100 + 4 * cnt) (Ne.symm m3)
        have s_q := at2.new (h := hp_up (hp_up (hp_up h b (k_lo (cA 1) (pw w * d) (fun _ => 0))) p (k_Pc (nI w) (nI d) (nI 1) (nI (pw w)) b)) a (k_rf (cA 4) 4 (fun _ => none))) (tg := va_up (va_up (va_up tg b (102 + 4 * cnt)) p 0) a (101 + 4 * cnt)) (a := q) (k_Sh p a 0) (100 + 4 * cnt)
        have k5 := k4.up (k_rf (cA 3) 64 (va_up go cnt (some q))) s_shp.1 (by rw [s_shp.2]; decide)
        have x5 := s_x.upn (k_rf (cA 3) 64 (va_up go cnt (some q))) (s_x.neK s_shp rfl)
        have k6 := k5.up (k_BP (upd (upd bf 6 (nI (cnt + 1))) 7 (bf 7 + nI d)) sheet shp pil ink clip) x5.1 (by rw [x5.2]; decide)
        have up2 : ∀ {z e n}, at2 _ (va_up (va_up (va_up (va_up tg b (102 + 4 * cnt)) p 0) a (101 + 4 * cnt)) q (100 + 4 * cnt)) z e n → n ≠ 7 → n ≠ 3 → at2 _ _ z e n := fun {z e n} hz q7 q3 => (hz.upn (k_rf (cA 3) 64 (va_up go cnt (some q))) (hz.ne s_shp q7)).upn (k_BP (upd (upd bf 6 (nI (cnt + 1))) 7 (bf 7 + nI d)) sheet shp pil ink clip) (hz.ne s_x q3)
        exact ⟨q, p, b, a, _, k6, at2.up _ x5.2, (at2.up _ s_shp.2).upn _ (Ne.symm (s_x.neK s_shp rfl)), up2 s_q (by omega) (by omega), up2 s_p (by omega) (by omega), up2 s_b (by omega) (by omega), up2 s_a (by omega) (by omega)⟩
      refine Met_QW (cl_shape0 l dC dI cA A h x out sheet shp pil ink clip bf (nI w) (nI d) hB.1.1 (c_BP_shape l dC dI cA A h x sheet shp pil ink clip bf w d cnt go hB.1.1 hzw hzd ⟨hcnt, n7.2.1⟩ hrow hS.1.1) (fun r h1 hp => ?_)) (fun k h' hp => ?_)
      · obtain ⟨q, p, b, a, tg', kx, -⟩ := hkey r h1 hp
        exact ⟨fo, (hL.1.keep kx (by decide)).1⟩
      · obtain ⟨rfl, r, h1, fo', hp1, h_o, rfl⟩ := hp
        obtain ⟨q, p, b, a, tg', kx, ax, ashp, aq, ap, ab, aa⟩ := hkey r h1 hp1
        have hr := hp1.1
        subst hr
        have ho := hL.1.keep kx (by decide)
        have k2 := (kp.refl (S := tS [2]) tg' h1).up (k_lo (cA 1) 1 (vp_updL fo' 0 (nI cnt).toInt64)) ho.1 (by rw [ho.2]; decide)
        have hM1 := (hM.keep kx (by decide)).keep k2 (by decide)
        have hq0 : q_shc mf (nI w) (nI d) = 0 := by
          unfold q_shc
          rw [if_neg hdim, if_neg]
          rintro (z | z)
          · rw [n7.2.2, z_eq, z64, z_nI (by omega)] at z
            omega
          · rw [n8.2.2, ← n8.2.1, z_lt, z_4096, hsum] at z
            omega
        refine ⟨⟨_, hM1.1.1⟩, ?_⟩
        refine Met_QW (c_Mo_shape l dC dI cA A _ t sh ac dn fr sp dt mf cnt rows d (nI w) ds ga gd gr gs hM1.1.1 hq0 ⟨hcnt, n7.2.2⟩ ⟨hrows, n8.2.2⟩ hM1.2.2.1.1 hM1.2.2.2.1.1 hM1.2.2.2.2.1.1 hM1.2.2.2.2.2.1.1 hM1.2.2.2.2.2.2.1 hD.1 hD.2.1 hD.2.2.1 hD.2.2.2.1 hD.2.2.2.2.1 hD.2.2.2.2.2.1) (fun r2 h'' hp => ?_)
        obtain ⟨rfl, rfl⟩ := hp
        have hM2 := hM1.t5 hD (upd ga cnt (nI w))
        have hM3 := hM2.t6 hD (upd gd cnt (nI d))
        have hM4 := hM3.t7 hD (upd gr cnt (nI rows))
        have hM5 := hM4.t4 hD (upd gs cnt 0)
        have hM6 := hM5.t2 hD.2.2.2.2.2.2 (q_zr ds (2 * rows) (2 * d))
        have hM7 := hM6.t (upd (upd (upd mf 0 0) 10 (nI (rows + d))) 5 (nI (cnt + 1)))
        have kM := ((((((kp.refl (S := tS [1]) tg' _).up (k_in (cA 0) 64 (upd ga cnt (nI w))) hM1.2.2.1.1 (by rw [hM1.2.2.1.2]; decide)).up (k_in (cA 0) 64 (upd gd cnt (nI d))) hM2.2.2.2.1.1 (by rw [hM2.2.2.2.1.2]; decide)).up (k_in (cA 0) 64 (upd gr cnt (nI rows))) hM3.2.2.2.2.1.1 (by rw [hM3.2.2.2.2.1.2]; decide)).up (k_in (cA 2) 64 (upd gs cnt 0)) hM4.2.2.2.2.2.1.1 (by rw [hM4.2.2.2.2.2.1.2]; decide)).up (k_lo (cA 1) 8192 (q_zr ds (2 * rows) (2 * d))) hM5.2.2.2.2.2.2.1 (by rw [hM5.2.2.2.2.2.2.2]; decide)).up (k_Mo (upd (upd (upd mf 0 0) 10 (nI (rows + d))) 5 (nI (cnt + 1))) sh ac dn fr sp dt) hM6.1.1 (by rw [hM6.1.2]; decide)
        have hbig : ∀ {L : List Nat}, L.all (fun n => decide (n < 100)) = true → ∀ n, 100 ≤ n → ¬ tS L n := fun hL9 n hn => tS_big hL9 hn
        have o2 : at2 _ tg' out (k_lo (cA 1) 1 (vp_updL fo' 0 (nI cnt).toInt64)) 2 := (at2.up (h := h1) _ ho.2).keep kM (by decide)
        refine ⟨⟨tg', sheet, shp, pil, bl, st, sh, ac, dn, fr, sp, dt, W, H, upd (upd bf 6 (nI (cnt + 1))) 7 (bf 7 + nI d), upd (upd (upd mf 0 0) 10 (nI (rows + d))) 5 (nI (cnt + 1)), ink, clip, ib, c, kd, val, sz, fb, fs, as, D, bol, B, FI, PI, F, q_zr ds (2 * rows) (2 * d), upd ga cnt (nI w), upd gd cnt (nI d), upd gr cnt (nI rows), upd gs cnt 0, va_up go cnt (some q), cnt + 1, rows + d, k9, _, ⟨(ax.keep k2 (by decide)).keep kM (by decide), ((hB.2.1.keep kx (by decide)).keep k2 (by decide)).keep kM (by decide), ((hB.2.2.1.keep kx (by decide)).keep k2 (by decide)).keep kM (by decide), ((hB.2.2.2.1.keep kx (by decide)).keep k2 (by decide)).keep kM (by decide), ((hB.2.2.2.2.1.keep kx (by decide)).keep k2 (by decide)).keep kM (by decide), hB.2.2.2.2.2⟩, (((hP.keep kx (by decide) (by decide) (by decide) (by decide) (by decide) (fun i _ => tS_big rfl (by omega)) (fun i hi => ?_)).keepS k2 rfl (by decide)).keepS kM rfl (by decide)), ⟨(ashp.keep k2 (by decide)).keep kM (by decide), fun i hi => ?_, fun i j hij hj => ?_⟩, hM7, ⟨o2, hL.2⟩, ⟨n1, n2, n3, n4, n5, n6, ⟨by omega, rfl, rfl⟩, ⟨hrows, by show bf 7 + nI d = _; rw [n8.2.1, nI_ad2], rfl⟩, n9, n10, n11, n12, n13⟩, hF, hD⟩, ⟨_, _, _, _, _, _, _, hM7.1.1, rfl⟩, _, o2.1, fun _ => rfl⟩
        · refine ⟨by omega, ?_⟩
          show ¬ (if i = cnt then (0 : Int32) else gs i) = 0
          rw [if_neg (by omega)]
          exact hi.2
        · by_cases hq : i = cnt
          · subst hq
            refine ⟨q, p, a, b, w, d, rows, 0, fun _ => none, fun _ => 0, up_s _ _ _, (aq.keep k2 (tS_big rfl (by omega))).keep kM (tS_big rfl (by omega)), (ap.keep k2 (by decide)).keep kM (by decide), (ab.keep k2 (tS_big rfl (by omega))).keep kM (tS_big rfl (by omega)), (aa.keep k2 (tS_big rfl (by omega))).keep kM (tS_big rfl (by omega)), ⟨hzw, hzd⟩, (fun _ _ _ z => by cases z), ⟨if_pos rfl, if_pos rfl, if_pos rfl, if_pos rfl, Or.inl rfl⟩, sr_new hzw ds, Nat.le_refl _⟩
          · obtain ⟨so', up', ta', b', w', d', r', sd', gt', ff', hs'⟩ := hS.2.1 i (by omega)
            refine ⟨so', up', ta', b', w', d', r', sd', gt', ff', (((hs'.keep kx (by decide) (tS_big rfl (by omega)) (tS_big rfl (by omega)) (tS_big rfl (by omega))).keep k2 (by decide) (tS_big rfl (by omega)) (tS_big rfl (by omega)) (tS_big rfl (by omega))).keep kM (by decide) (tS_big rfl (by omega)) (tS_big rfl (by omega)) (tS_big rfl (by omega))).mod (up_n _ _ hq) (if_neg hq) (if_neg hq) (if_neg hq) (if_neg hq) (fun k hk => if_neg (by omega)) (by omega)⟩
        · by_cases hq : j = cnt
          · subst hq
            obtain ⟨so', up', ta', b', w', d', r', sd', gt', ff', -, -, -, -, -, e6, -, ⟨-, f2, f3, -, -⟩, -, e10⟩ := hS.2.1 i (by omega)
            show (if i = j then _ else gr i).toInt + (if i = j then _ else gd i).toInt ≤ (if j = j then nI rows else gr j).toInt
            rw [if_neg (by omega), if_neg (by omega), if_pos rfl, f2, f3, z_nI (by omega), z_nI (by omega), z_nI (by omega)]
            omega
          · show (if i = cnt then _ else gr i).toInt + (if i = cnt then _ else gd i).toInt ≤ (if j = cnt then _ else gr j).toInt
            rw [if_neg (by omega), if_neg (by omega), if_neg hq]
            exact hS.2.2 i j hij (by omega)
  · refine Met_QW (cl_shapeA l dC dI cA A h x out sheet shp pil ink clip bf hst p0 p1 hB.1.1 hw) (fun k h' hp => ?_)
    obtain ⟨rfl, rfl⟩ := hp
    have hq : q_shc mf p0 p1 = 1 := by
      unfold q_shc
      rw [if_pos]
      simp only [z_lt, z_1, z_128]
      simp only [z_le, z_1, z_128] at hw
      omega
    refine ⟨⟨_, hM.1.1⟩, ?_⟩
    refine Met_QW (cF_Mo_shape l dC dI cA A _ t sh ac dn fr sp dt mf p0 p1 hM.1.1 (by rw [hq]; decide)) (fun r2 h'' hp => ?_)
    obtain ⟨rfl, rfl⟩ := hp
    rw [hq]
    exact ⟨fin_t hB hP hS hM hL hF hD (upd mf 0 1) ⟨n1, n2, n3, n4, n5, n6, n7, n8, n9, n10, n11, n12, n13⟩, ⟨_, _, _, _, _, _, _, hp_up_s _ _ _, rfl⟩, fo, hp_up_k (hL.1.neK hM.1 rfl) hL.1.1, fun q => absurd q (by decide)⟩
theorem u_black (hst : l.stackTraces = false) (hI : bInv cA x t out sc N fx h) (px py : Int32) : Met l y_La_black w_La_black r_La_black (va_Pc [.ref x, .int px, .int py, .ref out] (hp_IX (gg dC dI cA) A h)) (hp_QW (gg dC dI cA) A hp_mi (fun k h' => (∃ fs : List Value, h' t = some (.inr (7, fs))) ∧ Met l y_Mo_black (.code y_Mo_black prog_9_method_28_code 3 (some .boolean) :: BIG) ({ frames := 1, cells := 0, slots := 0, locals := 22 }) (va_Pc [.ref t, .int px, .int py] (hp_I (gg dC dI cA) A h')) (hp_QW (gg dC dI cA) A hp_mi (fun r2 h'' => bInv cA x t out sc N fx h'' ∧ lwP cA t out h'' k (if r2 = 0 then 0 else 1))) 0 0 A)) 2 40 A := by
  obtain ⟨tg, sheet, shp, pil, bl, st, sh, ac, dn, fr, sp, dt, W, H, bf, mf, ink, clip, ib, c, kd, val, sz, fb, fs, as, D, bol, B, FI, PI, F, ds, ga, gd, gr, gs, go, cnt, rows, k9, fo, hB, hP, hS, hM, hL, hN, hF, hD⟩ := hI
  obtain ⟨n1, n2, n3, n4, n5, n6, n7, n8, n9, n10, n11, n12, n13⟩ := hN
  have hok := fun a ha => (hP.2.2.2.2.2.2.1 a ha).ok
  have hB8 := hP.2.2.2.2.2.2.2
  have hiff : ((0 ≤ px ∧ px ≤ bf 0 - 1) ∧ 0 ≤ py ∧ py ≤ bf 1 - 1) ↔ (0 ≤ px ∧ px < mf 1 ∧ 0 ≤ py ∧ py < mf 2) := by
    rw [n2.1, n2.2, n3.1, n3.2]
    simp only [z_le, z_lt, z_0]
    rw [m1_z (by omega), m1_z (by omega), z_nI (by omega), z_nI (by omega)]
    omega
  by_cases hin : (0 ≤ px ∧ px ≤ bf 0 - 1) ∧ 0 ≤ py ∧ py ≤ bf 1 - 1
  · have hin2 := hiff.mp hin
    have hz := hin2
    rw [n2.2, n3.2] at hz
    simp only [z_le, z_lt, z_0] at hz
    rw [z_nI (by omega), z_nI (by omega)] at hz
    obtain ⟨xn, rfl, hxn⟩ : ∃ xn : Nat, px = nI xn ∧ xn < W := ⟨px.toInt.toNat, z_ofN (by omega), by omega⟩
    obtain ⟨yn, rfl, hyn⟩ : ∃ yn : Nat, py = nI yn ∧ yn < H := ⟨py.toInt.toNat, z_ofN (by omega), by omega⟩
    have hkx : ∀ h1 : hp_T, (∃ bol', mc h1 D bol' as ∧ ∀ a, a ∉ as → h1 a = h a) → kp (tS [8]) tg tg h h1 := fun h1 ⟨bol', hm', ho'⟩ => (kp.mc hP.2.2.2.2.1 hP.2.2.2.2.2.1 hm' ho').mono (fun n hn => by rw [hn]; decide)
    refine Met_QW (cl_black0 l dC dI cA A h x out sheet shp pil ink clip bf (nI xn) (nI yn) hB.1.1 (c_BP_black l dC dI cA A h x sheet shp pil ink clip bf bl st H sz as D bol B FI PI xn (nI yn) hB.1.1 hP.2.2.2.1 hP.2.2.2.2.1 hok hP.1.1 (by omega) hin) (fun r h1 hp => ⟨fo, (hL.1.keep (hkx h1 hp.2) (by decide)).1⟩)) (fun k h' hp => ?_)
    obtain ⟨rfl, r, h1, fo', ⟨rfl, hp1⟩, h_o, rfl⟩ := hp
    have kx := hkx h1 hp1
    obtain ⟨bol', hm', ho'⟩ := hp1
    have ho := hL.1.keep kx (by decide)
    obtain ⟨vv, hvv⟩ : ∃ vv : Int64, vv = if q_is (tb (q_wu (q_X D B FI PI (nI yn) (nI (xn / 64))) (as.filter (q_me B (nI yn))) (-1) 0) (xn % 64) = true) = 0 then 0 else 1 := ⟨_, rfl⟩
    rw [← hvv]
    have k2 := (kp.refl (S := tS [2]) tg h1).up (k_lo (cA 1) 1 (vp_updL fo' 0 vv)) ho.1 (by rw [ho.2]; decide)
    have hP1 : iP h1 tg cA pil bl st W H sz fb fs as D bol' B FI PI (fun i => i < cnt ∧ ¬ gs i = 0) := ⟨hP.1.keep kx (by decide), hP.2.1.keep kx (by decide), hP.2.2.1.keep kx (by decide), hP.2.2.2.1, hm', hP.2.2.2.2.2.1, fun a ha => (hP.2.2.2.2.2.2.1 a ha).keep kx (by decide) (fun i _ => tS_big rfl (by omega)) (fun _ q => q), hB8⟩
    have hM1 := (hM.keep kx (by decide)).keep k2 (by decide)
    have hL1 : iL (hp_up h1 out (k_lo (cA 1) 1 (vp_updL fo' 0 vv))) tg cA out sc N (vp_updL fo' 0 vv) fx := ⟨at2.up _ ho.2, hL.2⟩
    refine ⟨⟨_, hM1.1.1⟩, ?_⟩
    refine Met_QW (c_Mo_black l dC dI cA A _ t sh ac dn fr sp dt mf W H F (nI xn) (nI yn) hM1.1.1 hM1.2.1.1 ⟨n1.1.2, n2.2⟩ ⟨n1.2.2, n3.2⟩) (fun r2 h'' hp => ?_)
    obtain ⟨rfl, rfl⟩ := hp
    rw [if_pos hin2]
    refine ⟨fin_t ((hB.keep kx (by decide) (by decide)).keep k2 (by decide) (by decide)) (hP1.keepS k2 rfl (by decide)) ((hS.keepS kx rfl (by decide)).keepS k2 rfl (by decide)) hM1 hL1 hF hD (upd mf 0 0) ⟨n1, n2, n3, n4, n5, n6, n7, n8, n9, n10, n11, n12, n13⟩, ⟨_, _, _, _, _, _, _, hp_up_s _ _ _, rfl⟩, _, hp_up_k (hL.1.neK hM.1 rfl) hL1.1.1, fun _ => ?_⟩
    show (if (0 : Nat) = 0 then vv else fo' 0) = _
    rw [if_pos rfl, hvv, z_nI (by omega), z_nI (by omega)]
    show (if q_is (tb (q_wu (q_X D B FI PI (nI yn) (nI (xn / 64))) (as.filter (q_me B (nI yn))) (-1) 0) (xn % 64) = true) = 0 then (0 : Int64) else 1) = if q_is ((0 ≤ nI xn ∧ nI xn < mf 1 ∧ 0 ≤ nI yn ∧ nI yn < mf 2) ∧ tb (F (80 * yn + xn / 64)) (xn % 64) = true) = 0 then 0 else 1
    rw [← R_word hF.1 hyn (show xn / 64 < 80 by omega)]
    congr 2
    exact q_is_c ⟨fun q => ⟨hin2, q⟩, fun q => q.2⟩
  · refine Met_QW (cl_blackB l dC dI cA A h x out sheet shp pil ink clip bf hst px py hB.1.1 hin) (fun k h' hp => ?_)
    obtain ⟨rfl, rfl⟩ := hp
    have hin2 := fun q => hin (hiff.mpr q)
    refine ⟨⟨_, hM.1.1⟩, ?_⟩
    refine Met_QW (c_Mo_black l dC dI cA A _ t sh ac dn fr sp dt mf W H F px py hM.1.1 hM.2.1.1 ⟨n1.1.2, n2.2⟩ ⟨n1.2.2, n3.2⟩) (fun r2 h'' hp => ?_)
    obtain ⟨rfl, rfl⟩ := hp
    rw [if_neg hin2]
    exact ⟨fin_t hB hP hS hM hL hF hD (upd mf 0 1) ⟨n1, n2, n3, n4, n5, n6, n7, n8, n9, n10, n11, n12, n13⟩, ⟨_, _, _, _, _, _, _, hp_up_s _ _ _, rfl⟩, fo, hp_up_k (hL.1.neK hM.1 rfl) hL.1.1, fun q => absurd q (by decide)⟩
end USE
