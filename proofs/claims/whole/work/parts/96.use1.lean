/-! Calls of class and model, one behind the other: what the law sees of them. -/
abbrev tS (L : List Nat) : Nat → Prop := fun n => n ∈ L
theorem tS_big {L : List Nat} (h : L.all (fun n => decide (n < 100)) = true) {n : Nat} (hn : 100 ≤ n) : ¬ tS L n := fun q => by
  have h2 := of_decide_eq_true (List.all_eq_true.mp h n q)
  omega
theorem tS_0 {L : List Nat} {n : Nat} (h : L.contains n = false) : ¬ tS L n := fun q => by
  rw [List.contains_iff_mem.mpr q] at h
  cases h
theorem iP.keepS {L : List Nat} {tg tg' : Nat → Nat} {h h' : hp_T} {cA : Nat → ClassId} {pil bl st W H : Nat} {sz : Int32} {fb fs : Nat → Int32} {as : List Nat} {D : Nat → mD} {bol : Nat → Option Nat} {B : Nat → box4} {FI : Nat → Nat → Int64} {PI : Nat → Option pI} {sd : Nat → Prop} (hk : kp (tS L) tg tg' h h') (hb : L.all (fun n => decide (n < 100)) = true) (hc : L.contains 0 = false ∧ L.contains 4 = false ∧ L.contains 5 = false ∧ L.contains 6 = false ∧ L.contains 8 = false) (hm : iP h tg cA pil bl st W H sz fb fs as D bol B FI PI sd) : iP h' tg' cA pil bl st W H sz fb fs as D bol B FI PI sd := hm.keep hk (tS_0 hc.1) (tS_0 hc.2.1) (tS_0 hc.2.2.1) (tS_0 hc.2.2.2.1) (tS_0 hc.2.2.2.2) (fun i _ => tS_big hb (by omega)) (fun _ q => q)
theorem iS.keepS {L : List Nat} {tg tg' : Nat → Nat} {h h' : hp_T} {cA : Nat → ClassId} {shp cnt rows : Nat} {go : Nat → Option Nat} {ga gd gr gs : Nat → Int32} {ds : Nat → Int64} (hk : kp (tS L) tg tg' h h') (hb : L.all (fun n => decide (n < 100)) = true) (hc : L.contains 0 = false ∧ L.contains 7 = false) (hm : iS h tg cA shp cnt rows go ga gd gr gs ds) : iS h' tg' cA shp cnt rows go ga gd gr gs ds := hm.keep hk (tS_0 hc.1) (tS_0 hc.2) (fun _ hn => tS_big hb hn)
theorem iM.t {h : hp_T} {tg : Nat → Nat} {cA : Nat → ClassId} {t sh ac dn fr sp dt H : Nat} {mf : Nat → Int32} {F ds : Nat → Int64} {ga gd gr gs : Nat → Int32} (hm : iM h tg cA t sh ac dn fr sp dt H mf F ds ga gd gr gs) (mf' : Nat → Int32) : iM (hp_up h t (k_Mo mf' sh ac dn fr sp dt)) tg cA t sh ac dn fr sp dt H mf' F ds ga gd gr gs := by
  obtain ⟨a1, a2, a3, a4, a5, a6, a7⟩ := hm
  exact ⟨at2.up _ a1.2, a2.upn _ (a2.neK a1 rfl), a3.upn _ (a3.neK a1 rfl), a4.upn _ (a4.neK a1 rfl), a5.upn _ (a5.neK a1 rfl), a6.upn _ (a6.neK a1 rfl), a7.upn _ (a7.neK a1 rfl)⟩
theorem iB.x {h : hp_T} {tg : Nat → Nat} {cA : Nat → ClassId} {x sheet shp pil W H : Nat} {bf : Nat → Int32} {ink clip ib : Nat} {c : box4} {kd val : Int32} (hm : iB h tg cA x sheet shp pil W H bf ink clip ib c kd val) (bf' : Nat → Int32) : iB (hp_up h x (k_BP bf' sheet shp pil ink clip)) tg cA x sheet shp pil W H bf' ink clip ib c kd val := by
  obtain ⟨a1, a2, a3, a4, a5, a6⟩ := hm
  exact ⟨at2.up _ a1.2, a2.upn _ (a2.neK a1 rfl), a3.upn _ (a3.neK a1 rfl), a4.upn _ (a4.neK a1 rfl), a5.upn _ (a5.neK a1 rfl), a6⟩
section USE
variable {l : Launch} {dC : Nat → ClassId} {dI : Nat → Nat → Nat} {cA : Nat → ClassId} {A : Nat → Prop} {h : hp_T} {x t out sc N : Nat} {fx : Nat → Int32}
section GHOST
variable {tg : Nat → Nat} {sheet : Nat} {shp : Nat} {pil : Nat} {bl : Nat} {st : Nat} {sh : Nat} {ac : Nat} {dn : Nat} {fr : Nat} {sp : Nat} {dt : Nat} {W : Nat} {H : Nat} {bf : Nat → Int32} {mf : Nat → Int32} {ink : Nat} {clip : Nat} {ib : Nat} {c : box4} {kd : Int32} {val : Int32} {sz : Int32} {fb : Nat → Int32} {fs : Nat → Int32} {as : List Nat} {D : Nat → mD} {bol : Nat → Option Nat} {B : Nat → box4} {FI : Nat → Nat → Int64} {PI : Nat → Option pI} {F : Nat → Int64} {ds : Nat → Int64} {ga : Nat → Int32} {gd : Nat → Int32} {gr : Nat → Int32} {gs : Nat → Int32} {go : Nat → Option Nat} {cnt : Nat} {rows : Nat} {k9 : Nat} {fo : Nat → Int64}
theorem fin_t (hB : iB h tg cA x sheet shp pil W H bf ink clip ib c kd val) (hP : iP h tg cA pil bl st W H sz fb fs as D bol B FI PI (fun i => i < cnt ∧ ¬ gs i = 0)) (hS : iS h tg cA shp cnt rows go ga gd gr gs ds) (hM : iM h tg cA t sh ac dn fr sp dt H mf F ds ga gd gr gs) (hL : iL h tg cA out sc N fo fx) (hF : iF H fb fs as D B FI PI F) (hD : iD ac dn fr sp sh dt) (mf' : Nat → Int32) (hN : iN W H cnt rows k9 bf mf' sz kd val c) : bInv cA x t out sc N fx (hp_up h t (k_Mo mf' sh ac dn fr sp dt)) := by
  have k : kp (tS [1]) tg tg h (hp_up h t (k_Mo mf' sh ac dn fr sp dt)) := (kp.refl tg h).up _ hM.1.1 (by rw [hM.1.2]; decide)
  exact ⟨tg, sheet, shp, pil, bl, st, sh, ac, dn, fr, sp, dt, W, H, bf, mf', ink, clip, ib, c, kd, val, sz, fb, fs, as, D, bol, B, FI, PI, F, ds, ga, gd, gr, gs, go, cnt, rows, k9, fo, hB.keep k (by decide) (by decide), hP.keepS k rfl (by decide), hS.keepS k rfl (by decide), hM.t _, hL.keep k (by decide), hN, hF, hD⟩
theorem fin_xt (hB : iB h tg cA x sheet shp pil W H bf ink clip ib c kd val) (hP : iP h tg cA pil bl st W H sz fb fs as D bol B FI PI (fun i => i < cnt ∧ ¬ gs i = 0)) (hS : iS h tg cA shp cnt rows go ga gd gr gs ds) (hM : iM h tg cA t sh ac dn fr sp dt H mf F ds ga gd gr gs) (hL : iL h tg cA out sc N fo fx) (hF : iF H fb fs as D B FI PI F) (hD : iD ac dn fr sp sh dt) (bf' mf' : Nat → Int32) (k9' : Nat) (hN : iN W H cnt rows k9' bf' mf' sz kd val c) : iM (hp_up h x (k_BP bf' sheet shp pil ink clip)) tg cA t sh ac dn fr sp dt H mf F ds ga gd gr gs ∧ bInv cA x t out sc N fx (hp_up (hp_up h x (k_BP bf' sheet shp pil ink clip)) t (k_Mo mf' sh ac dn fr sp dt)) := by
  have k : kp (tS [3]) tg tg h (hp_up h x (k_BP bf' sheet shp pil ink clip)) := (kp.refl tg h).up _ hB.1.1 (by rw [hB.1.2]; decide)
  have hM1 := hM.keep k (by decide)
  exact ⟨hM1, fin_t (hB.x bf') (hP.keepS k rfl (by decide)) (hS.keepS k rfl (by decide)) hM1 (hL.keep k (by decide)) hF hD mf' hN⟩
end GHOST
theorem u_mode (hI : bInv cA x t out sc N fx h) (a b : Int32) (ha : a = 0 ∨ a = 1) (hb : b = 0 ∨ b = 1) : Met l y_BP_mode (.code y_BP_mode prog_1_method_5_code 3 none :: BIG) ({ frames := 0, cells := 0, slots := 0, locals := 0 }) (va_Pc [.ref x, .int a, .int b] (hp_I (gg dC dI cA) A h)) (hp_QW (gg dC dI cA) A hp_mv (fun _ h' => (∃ fs : List Value, h' t = some (.inr (7, fs))) ∧ Met l y_Mo_mode (.code y_Mo_mode prog_9_method_17_code 3 none :: BIG) ({ frames := 0, cells := 0, slots := 0, locals := 0 }) (va_Pc [.ref t, .int a, .int b] (hp_I (gg dC dI cA) A h')) (hp_QW (gg dC dI cA) A hp_mv (fun _ h'' => bInv cA x t out sc N fx h'')) 0 0 A)) 0 0 A := by
  obtain ⟨tg, sheet, shp, pil, bl, st, sh, ac, dn, fr, sp, dt, W, H, bf, mf, ink, clip, ib, c, kd, val, sz, fb, fs, as, D, bol, B, FI, PI, F, ds, ga, gd, gr, gs, go, cnt, rows, k9, fo, hB, hP, hS, hM, hL, hN, hF, hD⟩ := hI
  obtain ⟨n1, n2, n3, n4, n5, n6, n7, n8, n9, n10, n11, n12, n13⟩ := hN
  obtain ⟨hM1, hI2⟩ := fin_xt hB hP hS hM hL hF hD (upd (upd bf 10 a) 11 b) (upd (upd (upd mf 0 0) 16 a) 17 b) k9 ⟨n1, n2, n3, n4, n5, n6, n7, n8, n9, ⟨rfl, ha⟩, ⟨rfl, hb⟩, n12, n13⟩
  refine Met_QW (c_BP_mode l dC dI cA A h x sheet shp pil ink clip bf a b ha hb hB.1.1) (fun _ h' hp => ?_)
  subst hp
  refine ⟨⟨_, hM1.1.1⟩, ?_⟩
  refine Met_QW (c_Mo_mode l dC dI cA A _ t sh ac dn fr sp dt mf a b ha hb hM1.1.1) (fun _ h'' hp => ?_)
  subst hp
  exact hI2
theorem u_turn (hI : bInv cA x t out sc N fx h) (k : Int32) : Met l y_BP_turn (.code y_BP_turn prog_1_method_6_code 2 (some .boolean) :: BIG) ({ frames := 1, cells := 0, slots := 0, locals := 22 }) (va_Pc [.ref x, .int k] (hp_I (gg dC dI cA) A h)) (hp_QW (gg dC dI cA) A hp_mi (fun r h' => (∃ fs : List Value, h' t = some (.inr (7, fs))) ∧ Met l y_Mo_turn (.code y_Mo_turn prog_9_method_18_code 2 (some .boolean) :: BIG) ({ frames := 0, cells := 0, slots := 0, locals := 0 }) (va_Pc [.ref t, .int k] (hp_I (gg dC dI cA) A h')) (hp_QW (gg dC dI cA) A hp_mi (fun r2 h'' => r2 = r ∧ bInv cA x t out sc N fx h'')) 0 0 A)) 0 0 A := by
  obtain ⟨tg, sheet, shp, pil, bl, st, sh, ac, dn, fr, sp, dt, W, H, bf, mf, ink, clip, ib, c, kd, val, sz, fb, fs, as, D, bol, B, FI, PI, F, ds, ga, gd, gr, gs, go, cnt, rows, k9, fo, hB, hP, hS, hM, hL, hN, hF, hD⟩ := hI
  obtain ⟨n1, n2, n3, n4, n5, n6, n7, n8, n9, n10, n11, n12, n13⟩ := hN
  by_cases hk : 0 ≤ k ∧ k ≤ 3
  · have hk2 := hk
    rw [z_le, z_le, z_0, zk3] at hk2
    have hkn := z_ofN hk2.1
    obtain ⟨hM1, hI2⟩ := fin_xt hB hP hS hM hL hF hD (upd bf 12 k) (upd (upd mf 0 0) 18 k) k.toInt.toNat ⟨n1, n2, n3, n4, n5, n6, n7, n8, n9, n10, n11, ⟨by omega, hkn, hkn⟩, n13⟩
    refine Met_QW (c_BP_turn l dC dI cA A h x sheet shp pil ink clip bf k hB.1.1) (fun r h' hp => ?_)
    obtain ⟨rfl, rfl⟩ := hp
    rw [if_pos hk]
    refine ⟨⟨_, hM1.1.1⟩, ?_⟩
    refine Met_QW (c_Mo_turn l dC dI cA A _ t sh ac dn fr sp dt mf k hM1.1.1) (fun r2 h'' hp => ?_)
    obtain ⟨rfl, rfl⟩ := hp
    rw [if_pos hk]
    exact ⟨rfl, hI2⟩
  · obtain ⟨hM1, hI2⟩ := fin_xt hB hP hS hM hL hF hD bf (upd mf 0 0) k9 ⟨n1, n2, n3, n4, n5, n6, n7, n8, n9, n10, n11, n12, n13⟩
    refine Met_QW (c_BP_turn l dC dI cA A h x sheet shp pil ink clip bf k hB.1.1) (fun r h' hp => ?_)
    obtain ⟨rfl, rfl⟩ := hp
    rw [if_neg hk]
    refine ⟨⟨_, hM1.1.1⟩, ?_⟩
    refine Met_QW (c_Mo_turn l dC dI cA A _ t sh ac dn fr sp dt mf k hM1.1.1) (fun r2 h'' hp => ?_)
    obtain ⟨rfl, rfl⟩ := hp
    rw [if_neg hk]
    exact ⟨rfl, hI2⟩
theorem u_look (hI : bInv cA x t out sc N fx h) (wh : Int32) : ∃ r : Int32, Met l y_BP_look (.code y_BP_look prog_1_method_17_code 2 (some .int) :: BIG) ({ frames := 1, cells := 0, slots := 0, locals := 20 }) (va_Pc [.ref x, .int wh] (hp_I (gg dC dI cA) A h)) (hp_QR (some (.int r))) 0 0 (fun _ => False) ∧ Met l y_Mo_look (.code y_Mo_look prog_9_method_34_code 2 (some .int) :: BIG) ({ frames := 0, cells := 0, slots := 0, locals := 0 }) (va_Pc [.ref t, .int wh] (hp_I (gg dC dI cA) A h)) (hp_QW (gg dC dI cA) A hp_mi (fun r2 h'' => r2 = r ∧ bInv cA x t out sc N fx h'')) 0 0 A := by
  obtain ⟨tg, sheet, shp, pil, bl, st, sh, ac, dn, fr, sp, dt, W, H, bf, mf, ink, clip, ib, c, kd, val, sz, fb, fs, as, D, bol, B, FI, PI, F, ds, ga, gd, gr, gs, go, cnt, rows, k9, fo, hB, hP, hS, hM, hL, hN, hF, hD⟩ := hI
  refine ⟨_, c_BP_look l dC dI cA A h x sheet shp pil ink clip bf bl st ib (nI H) sz kd (q_iv kd val) as.head? wh hB.1.1 hP.1.1 hB.2.2.2.1.1, ?_⟩
  refine Met_QW (c_Mo_look l dC dI cA A h t sh ac dn fr sp dt mf wh hM.1.1) (fun r2 h'' hp => ?_)
  obtain ⟨rfl, rfl⟩ := hp
  refine ⟨?_, fin_t hB hP hS hM hL hF hD (upd mf 0 0) hN⟩
  obtain ⟨n1, n2, n3, n4, n5, n6, n7, n8, n9, n10, n11, n12, n13⟩ := hN
  unfold q_lb q_lk
  rw [n2.1, n2.2, n3.1, n3.2, n4, n5.1, n6, n7.2.1, n7.2.2, n8.2.1, n8.2.2, n9.2, n9.1, n10.1, n11.1, n12.2.1, n12.2.2]
theorem u_clip (hI : bInv cA x t out sc N fx h) (x0 y0 x1 y1 : Int32) : Met l y_BP_clip (.code y_BP_clip prog_1_method_7_code 5 (some .boolean) :: BIG) ({ frames := 3, cells := 2, slots := 8, locals := 65 }) (va_Pc [.ref x, .int x0, .int y0, .int x1, .int y1] (hp_I (gg dC dI cA) A h)) (hp_QW (gg dC dI cA) A hp_mi (fun r h' => (∃ fs : List Value, h' t = some (.inr (7, fs))) ∧ Met l y_Mo_clip (.code y_Mo_clip prog_9_method_19_code 5 (some .boolean) :: BIG) ({ frames := 0, cells := 0, slots := 0, locals := 0 }) (va_Pc [.ref t, .int x0, .int y0, .int x1, .int y1] (hp_I (gg dC dI cA) A h')) (hp_QW (gg dC dI cA) A hp_mi (fun r2 h'' => r2 = r ∧ bInv cA x t out sc N fx h'')) 0 0 A)) 2 8 A := by
  obtain ⟨tg, sheet, shp, pil, bl, st, sh, ac, dn, fr, sp, dt, W, H, bf, mf, ink, clip, ib, c, kd, val, sz, fb, fs, as, D, bol, B, FI, PI, F, ds, ga, gd, gr, gs, go, cnt, rows, k9, fo, hB, hP, hS, hM, hL, hN, hF, hD⟩ := hI
  obtain ⟨n1, n2, n3, n4, n5, n6, n7, n8, n9, n10, n11, n12, n13⟩ := hN
  refine Met_QW (c_BP_clip l dC dI cA A h x sheet shp pil ink clip bf _ _ _ _ x0 y0 x1 y1 hB.1.1 hB.2.1.1) (fun r h' hp => ?_)
  rcases hp with ⟨hc, rfl, rfl⟩ | ⟨hc, rfl, wb, pb, w1, w2, w3, rfl⟩
  · refine ⟨⟨_, hM.1.1⟩, ?_⟩
    refine Met_QW (c_Mo_clip l dC dI cA A _ t sh ac dn fr sp dt mf x0 y0 x1 y1 hM.1.1) (fun r2 h'' hp => ?_)
    obtain ⟨rfl, rfl⟩ := hp
    rw [if_neg hc]
    exact ⟨(q_is_f hc).symm, fin_t hB hP hS hM hL hF hD (upd mf 0 0) ⟨n1, n2, n3, n4, n5, n6, n7, n8, n9, n10, n11, n12, n13⟩⟩
  · have e1 := (kp.refl (S := tS [3]) tg h).new (k_Bx x0 y0 x1 y1) 0 w1
    have w2' : hp_up h wb (k_Bx x0 y0 x1 y1) pb = none := hp_up_k (Ne.symm w3) w2
    have e2 := e1.new (k_Bx (q_max x0 0) (q_max y0 0) (q_min x1 (nI W - 1)) (q_min y1 (nI H - 1))) 0 w2'
    have hx2 := hB.1.1
    have hx3 : hp_up (hp_up h wb (k_Bx x0 y0 x1 y1)) pb (k_Bx (q_max x0 0) (q_max y0 0) (q_min x1 (nI W - 1)) (q_min y1 (nI H - 1))) x = some (k_BP bf sheet shp pil ink clip) := hp_up_k (hp_neN hx2 w2) (hp_up_k (hp_neN hx2 w1) hx2)
    have ht3 := at2.kept e2 hB.1
    have e3 := e2.up (k_BP bf sheet shp pil ink pb) hx3 (by rw [ht3]; decide)
    have hM1 := hM.keep e3 (by decide)
    have hpb : at2 (hp_up (hp_up (hp_up h wb (k_Bx x0 y0 x1 y1)) pb (k_Bx (q_max x0 0) (q_max y0 0) (q_min x1 (nI W - 1)) (q_min y1 (nI H - 1)))) x (k_BP bf sheet shp pil ink pb)) (va_up (va_up tg wb 0) pb 0) pb (k_Bx (q_max x0 0) (q_max y0 0) (q_min x1 (nI W - 1)) (q_min y1 (nI H - 1))) 0 := (at2.new _ _).upn _ (Ne.symm (hp_neN hx2 w2))
    have hB1 : iB (hp_up (hp_up (hp_up h wb (k_Bx x0 y0 x1 y1)) pb (k_Bx (q_max x0 0) (q_max y0 0) (q_min x1 (nI W - 1)) (q_min y1 (nI H - 1)))) x (k_BP bf sheet shp pil ink pb)) (va_up (va_up tg wb 0) pb 0) cA x sheet shp pil W H bf ink pb ib (q_max x0 0, q_max y0 0, q_min x1 (nI W - 1), q_min y1 (nI H - 1)) kd val := ⟨⟨hp_up_s _ _ _, ht3⟩, hB.2.1.keep e3 (by decide), hpb, hB.2.2.2.1.keep e3 (by decide), hB.2.2.2.2.1.keep e3 (by decide), hB.2.2.2.2.2⟩
    refine ⟨⟨_, hM1.1.1⟩, ?_⟩
    refine Met_QW (c_Mo_clip l dC dI cA A _ t sh ac dn fr sp dt mf x0 y0 x1 y1 hM1.1.1) (fun r2 h'' hp => ?_)
    obtain ⟨rfl, rfl⟩ := hp
    rw [if_pos hc]
    refine ⟨(q_is_t hc).symm, fin_t hB1 (hP.keepS e3 rfl (by decide)) (hS.keepS e3 rfl (by decide)) hM1 (hL.keep e3 (by decide)) hF hD _ ⟨n1, n2, n3, n4, n5, n6, n7, n8, n9, n10, n11, n12, ?_⟩⟩
    have hw1 : (nI W - 1).toInt = W - 1 := by rw [z_sub (by rw [z_nI (by omega), z_1]; omega) (by rw [z_nI (by omega), z_1]; omega), z_nI (by omega), z_1]
    have hh1 : (nI H - 1).toInt = H - 1 := by rw [z_sub (by rw [z_nI (by omega), z_1]; omega) (by rw [z_nI (by omega), z_1]; omega), z_nI (by omega), z_1]
    refine ⟨q_max_z _ _, q_max_z _ _, ?_, ?_⟩
    · exact (q_min_z _ _).trans (by rw [hw1]; rfl)
    · exact (q_min_z _ _).trans (by rw [hh1]; rfl)
theorem u_ink (hI : bInv cA x t out sc N fx h) (k v : Int32) : Met l y_BP_ink (.code y_BP_ink prog_1_method_4_code 3 (some .boolean) :: BIG) ({ frames := 3, cells := 2, slots := 19, locals := 74 }) (va_Pc [.ref x, .int k, .int v] (hp_I (gg dC dI cA) A h)) (hp_QW (gg dC dI cA) A hp_mi (fun r h' => (∃ fs : List Value, h' t = some (.inr (7, fs))) ∧ Met l y_Mo_ink (.code y_Mo_ink prog_9_method_16_code 4 (some .boolean) :: BIG) ({ frames := 0, cells := 0, slots := 0, locals := 0 }) (va_Pc [.ref t, .int k, .int v] (hp_I (gg dC dI cA) A h')) (hp_QW (gg dC dI cA) A hp_mi (fun r2 h'' => r2 = r ∧ bInv cA x t out sc N fx h'')) 0 0 A)) 2 19 A := by
  obtain ⟨tg, sheet, shp, pil, bl, st, sh, ac, dn, fr, sp, dt, W, H, bf, mf, ink, clip, ib, c, kd, val, sz, fb, fs, as, D, bol, B, FI, PI, F, ds, ga, gd, gr, gs, go, cnt, rows, k9, fo, hB, hP, hS, hM, hL, hN, hF, hD⟩ := hI
  obtain ⟨n1, n2, n3, n4, n5, n6, n7, n8, n9, n10, n11, n12, n13⟩ := hN
  refine Met_QW (c_BP_ink l dC dI cA A h x sheet shp pil ink clip bf k v hB.1.1) (fun r h' hp => ?_)
  rcases hp with ⟨hc, rfl, rfl⟩ | ⟨hc, rfl, q, b, w1, w2, w3, rfl⟩
  · have hc2 : ¬ q_iok k v := q_is_0.mp hc
    refine ⟨⟨_, hM.1.1⟩, ?_⟩
    refine Met_QW (c_Mo_ink l dC dI cA A _ t sh ac dn fr sp dt mf k v hM.1.1) (fun r2 h'' hp => ?_)
    obtain ⟨rfl, rfl⟩ := hp
    rw [if_neg hc2]
    exact ⟨(q_is_f hc2).symm, fin_t hB hP hS hM hL hF hD (upd mf 0 0) ⟨n1, n2, n3, n4, n5, n6, n7, n8, n9, n10, n11, n12, n13⟩⟩
  · have hc2 : q_iok k v := q_is_ne.mp hc
    have e1 := (kp.refl (S := tS [3]) tg h).new (k_lo (cA 1) 16 (q_ia k v 16)) 0 w2
    have w1' : hp_up h b (k_lo (cA 1) 16 (q_ia k v 16)) q = none := hp_up_k w3 w1
    have e2 := e1.new (k_In k (q_iv k v) b) 0 w1'
    have hx2 := hB.1.1
    have hx3 : hp_up (hp_up h b (k_lo (cA 1) 16 (q_ia k v 16))) q (k_In k (q_iv k v) b) x = some (k_BP bf sheet shp pil ink clip) := hp_up_k (hp_neN hx2 w1) (hp_up_k (hp_neN hx2 w2) hx2)
    have ht3 := at2.kept e2 hB.1
    have e3 := e2.up (k_BP bf sheet shp pil q clip) hx3 (by rw [ht3]; decide)
    have hM1 := hM.keep e3 (by decide)
    have hq1 : at2 (hp_up (hp_up (hp_up h b (k_lo (cA 1) 16 (q_ia k v 16))) q (k_In k (q_iv k v) b)) x (k_BP bf sheet shp pil q clip)) (va_up (va_up tg b 0) q 0) q (k_In k (q_iv k v) b) 0 := (at2.new _ _).upn _ (Ne.symm (hp_neN hx2 w1))
    have hb1 : at2 (hp_up (hp_up (hp_up h b (k_lo (cA 1) 16 (q_ia k v 16))) q (k_In k (q_iv k v) b)) x (k_BP bf sheet shp pil q clip)) (va_up (va_up tg b 0) q 0) b (k_lo (cA 1) 16 (q_ia k v 16)) 0 := ⟨hp_up_k (Ne.symm (hp_neN hx2 w2)) (hp_up_k (Ne.symm w3) (hp_up_s _ _ _)), by rw [up_n _ _ (Ne.symm w3), up_s]⟩
    have hB1 : iB (hp_up (hp_up (hp_up h b (k_lo (cA 1) 16 (q_ia k v 16))) q (k_In k (q_iv k v) b)) x (k_BP bf sheet shp pil q clip)) (va_up (va_up tg b 0) q 0) cA x sheet shp pil W H bf q clip b c k v := ⟨⟨hp_up_s _ _ _, ht3⟩, hB.2.1.keep e3 (by decide), hB.2.2.1.keep e3 (by decide), hq1, hb1, hc2⟩
    refine ⟨⟨_, hM1.1.1⟩, ?_⟩
    refine Met_QW (c_Mo_ink l dC dI cA A _ t sh ac dn fr sp dt mf k v hM1.1.1) (fun r2 h'' hp => ?_)
    obtain ⟨rfl, rfl⟩ := hp
    rw [if_pos hc2]
    have hv : q_iv k v = if k < 2 then 0 else v := by
      unfold q_iv
      rcases hc2 with hk | hk | ⟨hk, -⟩ | ⟨hk, -⟩ <;> subst hk <;> rfl
    exact ⟨(q_is_t hc2).symm, fin_t hB1 (hP.keepS e3 rfl (by decide)) (hS.keepS e3 rfl (by decide)) hM1 (hL.keep e3 (by decide)) hF hD _ ⟨n1, n2, n3, n4, n5, n6, n7, n8, ⟨rfl, hv⟩, n10, n11, n12, n13⟩⟩
end USE
