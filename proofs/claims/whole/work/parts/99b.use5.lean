/-! Stamps and rows. -/
/-- the pictures of turns that a shape has at hand -/
def caT (h : hp_T) (tg : Nat → Nat) (cA : Nat → ClassId) (up w d : Nat) (gt : Nat → Option Nat) (ff : Nat → Int64) : Prop := ∀ k q, k < 4 → gt k = some q → (k = 0 ∧ q = up) ∨ (1 ≤ k ∧ ∃ b2, at2 h tg q (k_Pc (nI (q_tw k w d)) (nI (q_tw k d w)) (nI 1) (nI (pw (q_tw k w d))) b2) 0 ∧ at2 h tg b2 (k_lo (cA 1) (pw (q_tw k w d) * q_tw k d w) (q_tF (nI k) w d ff)) 0)
theorem caT.keep {S : Nat → Prop} {tg tg' : Nat → Nat} {h h' : hp_T} {cA : Nat → ClassId} {up w d : Nat} {gt : Nat → Option Nat} {ff : Nat → Int64} (hk : kp S tg tg' h h') (h0 : ¬ S 0) (hm : caT h tg cA up w d gt ff) : caT h' tg' cA up w d gt ff := fun k q hk4 hq => by
  rcases hm k q hk4 hq with hz | ⟨hz, b2, b3, b4⟩
  · exact Or.inl hz
  · exact Or.inr ⟨hz, b2, b3.keep hk h0, b4.keep hk h0⟩
theorem sT.gs {h : hp_T} {tg : Nat → Nat} {cA : Nat → ClassId} {go : Nat → Option Nat} {ga gd gr gs gs' : Nat → Int32} {ds : Nat → Int64} {rows i so up ta b w d r : Nat} {ss : Int32} {gt : Nat → Option Nat} {ff : Nat → Int64} (hm : sT h tg cA go ga gd gr gs ds rows i so up ta b w d r ss gt ff) (he : gs' i = gs i) : sT h tg cA go ga gd gr gs' ds rows i so up ta b w d r ss gt ff := by
  obtain ⟨a1, a2, a3, a4, a5, a6, a7, ⟨g1, g2, g3, g4, g5⟩, a9, a10⟩ := hm
  exact ⟨a1, a2, a3, a4, a5, a6, a7, ⟨g1, g2, g3, he.trans g4, g5⟩, a9, a10⟩
theorem tw_128 {k w d : Nat} (hw : 1 ≤ w ∧ w ≤ 128) (hd : 1 ≤ d ∧ d ≤ 128) : 1 ≤ q_tw k w d ∧ q_tw k w d ≤ 128 := by
  unfold q_tw
  split <;> assumption
theorem turn_step {cA : Nat → ClassId} {h h8 : hp_T} {tg : Nat → Nat} {sd : Nat → Prop} {ss up ta b w d k q8 : Nat} {gt : Nat → Option Nat} {ff : Nat → Int64} (hk : k < 4) (hw : 1 ≤ w ∧ w ≤ 128) (hd : 1 ≤ d ∧ d ≤ 128) (a3 : at2 h tg up (k_Pc (nI w) (nI d) (nI 1) (nI (pw w)) b) 0) (a4 : at2 h tg b (k_lo (cA 1) (pw w * d) ff) (102 + 4 * ss)) (a5 : at2 h tg ta (k_rf (cA 4) 4 gt) (101 + 4 * ss)) (a7 : caT h tg cA up w d gt ff) (hsd : sd ss) (ht : tP cA h h8 up ta w d gt ff k q8) :
    ∃ (tg8 : Nat → Nat) (gt8 : Nat → Option Nat), kp (fun n => n = 101 + 4 * ss) tg tg8 h h8 ∧ at2 h8 tg8 ta (k_rf (cA 4) 4 gt8) (101 + 4 * ss) ∧ caT h8 tg8 cA up w d gt8 ff ∧ picT h8 tg8 sd (cA 1) (some q8) (some (nI (q_tw k w d), nI (q_tw k d w), nI 1, nI (pw (q_tw k w d)), pw (q_tw k w d) * q_tw k d w, if k = 0 then ff else q_tF (nI k) w d ff)) := by
  have t1 := tw_128 (k := k) hw hd
  have t2 := tw_128 (k := k) hd hw
  have hix := ix_ok (wd := pw (q_tw k w d)) (d := q_tw k d w) (pw_1024 (by omega)) (by omega)
  have up_pic : ∀ (h9 : hp_T) (tg9 : Nat → Nat), at2 h9 tg9 up (k_Pc (nI w) (nI d) (nI 1) (nI (pw w)) b) 0 → at2 h9 tg9 b (k_lo (cA 1) (pw w * d) ff) (102 + 4 * ss) → k = 0 → picT h9 tg9 sd (cA 1) (some up) (some (nI (q_tw k w d), nI (q_tw k d w), nI 1, nI (pw (q_tw k w d)), pw (q_tw k w d) * q_tw k d w, if k = 0 then ff else q_tF (nI k) w d ff)) := fun h9 tg9 u1 u2 hk0 => by
    subst hk0
    exact Or.inr ⟨up, b, _, _, rfl, rfl, u1, u2, Or.inr ⟨ss, hsd, rfl⟩, hix⟩
  rcases ht with ⟨hg, rfl⟩ | ⟨hk0, hg, rfl, rfl⟩ | ⟨hk1, hg, b2, w1, w2, w3, rfl⟩
  · refine ⟨tg, gt, kp.refl _ _, a5, a7, ?_⟩
    rcases a7 k q8 hk hg with ⟨hz, rfl⟩ | ⟨hz, b2, b3, b4⟩
    · exact up_pic _ _ a3 a4 hz
    · refine Or.inr ⟨q8, b2, 0, _, rfl, rfl, b3, ?_, Or.inl rfl, hix⟩
      rw [if_neg (by omega)]
      exact b4
  · have k1 := (kp.refl (S := fun n => n = 101 + 4 * ss) tg h).up (k_rf (cA 4) 4 (va_up gt 0 (some q8))) a5.1 a5.2
    refine ⟨tg, va_up gt 0 (some q8), k1, at2.up _ a5.2, fun j q hj hq => ?_, up_pic _ _ (a3.keep k1 (by omega)) (a4.keep k1 (by omega)) hk0⟩
    by_cases hj0 : j = 0
    · subst hj0
      rw [up_s] at hq
      cases hq
      exact Or.inl ⟨rfl, rfl⟩
    · rw [up_n _ _ hj0] at hq
      exact (a7.keep k1 (by omega)) j q hj hq
  · rw [tw_q ⟨hk1, hk⟩, tw_q ⟨hk1, hk⟩] at *
    have k1 := (kp.refl (S := fun n => n = 101 + 4 * ss) tg h).new (k_lo (cA 1) (pw (q_tw k w d) * q_tw k d w) (q_tF (nI k) w d ff)) 0 w2
    have w1' : hp_up h b2 (k_lo (cA 1) (pw (q_tw k w d) * q_tw k d w) (q_tF (nI k) w d ff)) q8 = none := hp_up_k w3 w1
    have k2 := k1.new (k_Pc (nI (q_tw k w d)) (nI (q_tw k d w)) (nI 1) (nI (pw (q_tw k w d))) b2) 0 w1'
    have c_b2 := (at2.new (h := h) (tg := tg) (a := b2) (k_lo (cA 1) (pw (q_tw k w d) * q_tw k d w) (q_tF (nI k) w d ff)) 0).newn (k_Pc (nI (q_tw k w d)) (nI (q_tw k d w)) (nI 1) (nI (pw (q_tw k w d))) b2) 0 (Ne.symm w3)
    have c_q := at2.new (h := hp_up h b2 (k_lo (cA 1) (pw (q_tw k w d) * q_tw k d w) (q_tF (nI k) w d ff))) (tg := va_up tg b2 0) (a := q8) (k_Pc (nI (q_tw k w d)) (nI (q_tw k d w)) (nI 1) (nI (pw (q_tw k w d))) b2) 0
    have c_ta : at2 _ (va_up (va_up tg b2 0) q8 0) ta (k_rf (cA 4) 4 gt) (101 + 4 * ss) := (a5.newn (k_lo (cA 1) (pw (q_tw k w d) * q_tw k d w) (q_tF (nI k) w d ff)) 0 (hp_neN a5.1 w2)).newn (k_Pc (nI (q_tw k w d)) (nI (q_tw k d w)) (nI 1) (nI (pw (q_tw k w d))) b2) 0 (hp_neN a5.1 w1)
    have k3 := k2.up (k_rf (cA 4) 4 (va_up gt k (some q8))) c_ta.1 c_ta.2
    have d_b2 := c_b2.upn (k_rf (cA 4) 4 (va_up gt k (some q8))) (c_b2.neK c_ta rfl)
    have d_q := c_q.upn (k_rf (cA 4) 4 (va_up gt k (some q8))) (c_q.neK c_ta rfl)
    refine ⟨_, va_up gt k (some q8), k3, at2.up _ c_ta.2, fun j q hj hq => ?_, Or.inr ⟨q8, b2, 0, _, rfl, rfl, d_q, ?_, Or.inl rfl, hix⟩⟩
    · by_cases hj0 : j = k
      · subst hj0
        rw [up_s] at hq
        cases hq
        exact Or.inr ⟨hk1, b2, d_q, d_b2⟩
      · rw [up_n _ _ hj0] at hq
        exact (a7.keep k3 (by omega)) j q hj hq
    · rw [if_neg (by omega)]
      exact d_b2
theorem nI_mu2 {a b : Nat} (h : a * b < 2 ^ 31) (ha : a < 2 ^ 31) (hb : b < 2 ^ 31) : nI a * nI b = nI (a * b) := by
  have e : (nI a).toInt * (nI b).toInt = ((a * b : Nat) : Int) := by rw [z_nI (by omega), z_nI (by omega), Int.natCast_mul]
  exact z_of (by rw [z_mul (by rw [e]; omega) (by rw [e]; omega), e])
section USE
variable {l : Launch} {dC : Nat → ClassId} {dI : Nat → Nat → Nat} {cA : Nat → ClassId} {A : Nat → Prop} {h : hp_T} {x t out sc N : Nat} {fx : Nat → Int32}
theorem u_stamp (hI : bInv cA x t out sc N fx h) (s9 px py : Int32) : Met l y_BP_stamp (.code y_BP_stamp prog_1_method_8_code 5 (some .boolean) :: BIG) ({ frames := 6, cells := 5, slots := 278, locals := 136 }) (va_Pc [.ref x, .int s9, .int px, .int py] (hp_I (gg dC dI cA) A h)) (hp_QW (gg dC dI cA) A hp_mi (fun r h' => (∃ fs : List Value, h' t = some (.inr (7, fs))) ∧ Met l y_Mo_stamp (.code y_Mo_stamp prog_9_method_21_code 6 (some .boolean) :: BIG) ({ frames := 4, cells := 0, slots := 0, locals := 100 }) (va_Pc [.ref t, .int s9, .int px, .int py] (hp_I (gg dC dI cA) A h')) (hp_QW (gg dC dI cA) A hp_mi (fun r2 h'' => r2 = r ∧ bInv cA x t out sc N fx h'')) 0 0 A)) 5 278 A := by
  obtain ⟨tg, sheet, shp, pil, bl, st, sh, ac, dn, fr, sp, dt, W, H, bf, mf, ink, clip, ib, c, kd, val, sz, fb, fs, as, D, bol, B, FI, PI, F, ds, ga, gd, gr, gs, go, cnt, rows, k9, fo, hB, hP, hS, hM, hL, hN, hF, hD⟩ := hI
  obtain ⟨n1, n2, n3, n4, n5, n6, n7, n8, n9, n10, n11, n12, n13⟩ := hN
  have e4 : (4096 : Int32).toInt = 4096 := rfl
  have hcl := n13
  obtain ⟨c0, c1, c2, c3⟩ := hcl
  have hc13 : 0 ≤ c.2.1.toInt ∧ c.2.2.2.toInt < H := by omega
  have hsz : sz < 4096 ↔ ¬ mf 12 = 4096 := by
    rw [← n5.1, z_eq, z_lt, e4]
    omega
  obtain ⟨hi1, hi2⟩ := shp_iff (s9 := s9) n7.1
  rw [← n7.2.1] at hi1
  by_cases hs : 0 ≤ s9 ∧ s9 ≤ bf 6 - 1
  · have hs2 := hi1.mp hs
    rw [n7.2.1] at hs2
    obtain ⟨ss, hss, rfl, -, -⟩ := hi2 hs2
    obtain ⟨so, up, ta, b, w, d, r, sd, gt, ff, a1, a2, a3, a4, a5, a6, a7, ⟨g1, g2, g3, g4, g5⟩, a9, a10⟩ := hS.2.1 ss hss
    have hpw := pw_12 a6.1
    have hpd := pw_12 a6.2
    have hpw1 : pw w * d ≤ 256 := Nat.mul_le_mul (by omega : pw w ≤ 2) a6.2.2
    have hpd1 : pw d * w ≤ 256 := Nat.mul_le_mul (by omega : pw d ≤ 2) a6.1.2
    refine Met_QW (cS_BP_stamp l dC dI cA A h x sheet shp pil ink clip bf bl st H sz px py c.1 c.2.1 c.2.2.1 c.2.2.2 as.head? fb fs ss so up ta b w d k9 go gt sd ff hB.1.1 n10.2 n11.2 n1.2.2 hc13 (hP.2.1.ne hP.2.2.1 (by decide)) hP.1.1 hP.2.1.1 hP.2.2.1.1 hB.2.2.1.1 hs (by omega) a1 hS.1.1 ⟨n12.1, n12.2.1⟩ (by omega) (by omega) hpw1 hpd1 a2.1 a5.1 a3.1 a4.1) (fun r9 h' hp => ?_)
    rcases hp with ⟨hc, rfl, rfl⟩ | ⟨hc, rfl, q8, h8, htp8, hlp⟩
    · refine ⟨⟨_, hM.1.1⟩, ?_⟩
      refine Met_QW (cF_Mo_stamp l dC dI cA A _ t sh ac dn fr sp dt mf (nI ss) px py hM.1.1 (fun q => hc ⟨q.2.1, q.2.2.1, hsz.mpr q.2.2.2⟩)) (fun r2 h'' hp => ?_)
      obtain ⟨rfl, rfl⟩ := hp
      exact ⟨rfl, fin_t hB hP hS hM hL hF hD (upd mf 0 0) ⟨n1, n2, n3, n4, n5, n6, n7, n8, n9, n10, n11, n12, n13⟩⟩
    · have hz := hc
      have e10 : (10000 : Int32).toInt = 10000 := rfl
      have e11 : (-10000 : Int32).toInt = -10000 := rfl
      simp only [z_le, z_lt, e10, e11, e4] at hz
      have k1 := (kp.refl (S := fun n => n = 100 + 4 * ss) tg h).up (k_Sh up ta 1) a2.1 a2.2
      have hsd' : (fun i => i < cnt ∧ ¬ upd gs ss 1 i = 0) ss := ⟨hss, by show ¬ (if ss = ss then (1 : Int32) else gs ss) = 0; rw [if_pos rfl]; decide⟩
      obtain ⟨tg8, gt8, k8, e5, e7, hpic⟩ := turn_step (sd := fun i => i < cnt ∧ ¬ upd gs ss 1 i = 0) n12.1 a6.1 a6.2 (a3.keep k1 (by omega)) (a4.keep k1 (by omega)) (a5.keep k1 (by omega)) (caT.keep k1 (by omega) a7) hsd' htp8
      have k9' : kp (fun n => n = 100 + 4 * ss ∨ n = 101 + 4 * ss) tg tg8 h h8 := (k1.mono (fun n hn => Or.inl hn)).tr (k8.mono (fun n hn => Or.inr hn))
      have hgmono : ∀ i, (i < cnt ∧ ¬ gs i = 0) → (i < cnt ∧ ¬ upd gs ss 1 i = 0) := fun i hi => ⟨hi.1, by
        unfold upd
        split
        · decide
        · exact hi.2⟩
      have hP8 := hP.keep (sd' := fun i => i < cnt ∧ ¬ upd gs ss 1 i = 0) k9' (by omega) (by omega) (by omega) (by omega) (by omega) (fun i _ => by omega) hgmono
      have hB8 := hB.keep k9' (by omega) (by omega)
      rw [n12.2.1] at hlp
      obtain ⟨⟨r1, r2, r3, r4⟩, -, -⟩ := reg_iff n12.1 (w := w) (d := d) (by omega) (by omega) (px := px) (py := py) (by omega) (by omega) 0 0
      have hreg := fun X Y => (reg_iff n12.1 (w := w) (d := d) (by omega) (by omega) (px := px) (py := py) (by omega) (by omega) X Y).2.1
      have hra := tw_128 (k := k9) a6.1 a6.2
      have hrd := tw_128 (k := k9) a6.2 a6.1
      obtain ⟨lf, hlf⟩ : ∃ lf, lf = q_le (nI k9) px (q_ra (nI k9) (nI w) (nI d)) := ⟨_, rfl⟩
      obtain ⟨tp, htp⟩ : ∃ tp, tp = q_ty (nI k9) py (q_rd (nI k9) (nI w) (nI d)) := ⟨_, rfl⟩
      have hlf0 := hlf
      have htp0 := htp
      obtain ⟨ra, hra2⟩ : ∃ ra, ra = q_ra (nI k9) (nI w) (nI d) := ⟨_, rfl⟩
      obtain ⟨rd, hrd2⟩ : ∃ rd, rd = q_rd (nI k9) (nI w) (nI d) := ⟨_, rfl⟩
      simp only [← hra2] at r1 r3 hlf hlp hreg
      simp only [← hrd2] at r2 r4 htp hlp hreg
      simp only [← hlf] at r1 hlp hreg
      simp only [← htp] at r2 hlp hreg
      have hE := lay_E (mf := mf) (mf1 := upd (upd mf 0 0) 12 (mf 12 + 1)) (F := F) (F' := q_sp (upd (upd mf 0 0) 12 (mf 12 + 1)) px py (fun i j => q_is (tb (ds (2 * (r + j) + i / 64)) (i % 64) = true)) w F d) n1.1 n1.2 n2.2 n3.2 n13 (fun _ _ _ => rfl) (lf := lf) (tp := tp) (ra := ra) (rd := rd) r1 r2 (by omega) (by omega) hB.2.2.2.2.2 n9 (pi := some (nI (q_tw k9 w d), nI (q_tw k9 d w), nI 1, nI (pw (q_tw k9 w d)), pw (q_tw k9 w d) * q_tw k9 d w, if k9 = 0 then ff else q_tF (nI k9) w d ff)) (fun x y => q_is (tb (ds (2 * (r + (q_jz (nI k9) px.toInt py.toInt x y).toNat) + (q_iz (nI k9) px.toInt py.toInt x y).toNat / 64)) ((q_iz (nI k9) px.toInt py.toInt x y).toNat % 64) = true)) (fun x y hx hy hr => by
        rw [stamp_s2 n12.1 a6.1 a6.2 (px := px) (py := py) (by omega) (by omega) rfl (fun j kk hj hkk => (a9 j hj).1 kk hkk) hx (by omega) hlf0 htp0 ((hreg x y).mp hr)]
        cases tb (ds (2 * (r + (q_jz (nI k9) px.toInt py.toInt x y).toNat) + (q_iz (nI k9) px.toInt py.toInt x y).toNat / 64)) ((q_iz (nI k9) px.toInt py.toInt x y).toNat % 64) <;> rfl) (fun x y hx hy => by
        rw [sp_at n1.1.2 (mf := upd (upd mf 0 0) 12 (mf 12 + 1)) n2.2 (x := px) (y := py) (by omega) (by omega) _ (w := w) (d := d) (by omega) (by omega) F hx]
        have h18 : (upd (upd mf 0 0) 12 (mf 12 + 1)) 18 = nI k9 := n12.2.2
        rw [h18]
        congr 1
        by_cases hq : 0 ≤ q_iz (nI k9) px.toInt py.toInt x y ∧ q_iz (nI k9) px.toInt py.toInt x y < w ∧ 0 ≤ q_jz (nI k9) px.toInt py.toInt x y ∧ q_jz (nI k9) px.toInt py.toInt x y < d
        · rw [if_pos hq, if_pos ((hreg x y).mpr hq)]
        · rw [if_neg hq, if_neg (fun q => hq ((hreg x y).mp q))])
      have hlp2 : lP cA h8 h' pil bl st H ink sz (mf 16) (mf 17) as.head? (some q8) fb fs lf tp ra rd (q_max lf c.1, q_max tp c.2.1, q_min (lf + ra) c.2.2.1, q_min (tp + rd) c.2.2.2).1 (q_max lf c.1, q_max tp c.2.1, q_min (lf + ra) c.2.2.1, q_min (tp + rd) c.2.2.2).2.1 (q_max lf c.1, q_max tp c.2.1, q_min (lf + ra) c.2.2.1, q_min (tp + rd) c.2.2.2).2.2.1 (q_max lf c.1, q_max tp c.2.1, q_min (lf + ra) c.2.2.1, q_min (tp + rd) c.2.2.2).2.2.2 := by
        rw [← n10.1, ← n11.1]
        exact hlp
      obtain ⟨tg', fb', fs', as', D', bol', B', FI', PI', kx, hP1, hF1⟩ := lay_step n1.2.2 hP8 hB8.2.2.2.1 hB8.2.2.2.2.1 hpic hlp2 hE.1 hF hE.2.1 hE.2.2
      have hM1 := (hM.keep k9' (by omega)).keep kx (by decide)
      refine ⟨⟨_, hM1.1.1⟩, ?_⟩
      refine Met_QW (c_Mo_stamp l dC dI cA A _ t sh ac dn fr sp dt mf ss H W w d r px py F ds ga gd gr gs hM1.1.1 ⟨by rw [n7.2.2]; exact hs2, hc.1, hc.2.1, hsz.mp hc.2.2⟩ (by omega) ⟨n1.1.2, n2.2⟩ ⟨n1.2.2, n3.2⟩ ⟨g1, a6.1.2⟩ ⟨g2, a6.2.2⟩ g3 (by omega) hM1.2.1.1 hM1.2.2.1.1 hM1.2.2.2.1.1 hM1.2.2.2.2.1.1 hM1.2.2.2.2.2.1.1 hM1.2.2.2.2.2.2.1 hD.2.2.1 hD.2.2.2.2.1 hD.2.2.2.2.2.1 (Ne.symm hD.2.2.2.2.2.2)) (fun r2 h'' hp => ?_)
      obtain ⟨rfl, rfl⟩ := hp
      have hM2 := hM1.t (upd (upd mf 0 0) 12 (mf 12 + 1))
      have hM3 := hM2.t4 hD (upd gs ss 1)
      have kM := (((kp.refl (S := tS [1]) tg' h').up (k_Mo (upd (upd mf 0 0) 12 (mf 12 + 1)) sh ac dn fr sp dt) hM1.1.1 (by rw [hM1.1.2]; decide)).up (k_in (cA 2) 64 (upd gs ss 1)) hM2.2.2.2.2.2.1.1 (by rw [hM2.2.2.2.2.2.1.2]; decide)).up (k_lo (cA 1) (80 * H) (q_sp (upd (upd mf 0 0) 12 (mf 12 + 1)) px py (fun i j => q_is (tb (ds (2 * (r + j) + i / 64)) (i % 64) = true)) w F d)) hM3.2.1.1 (by rw [hM3.2.1.2]; decide)
      have hszn : (sz + 1).toInt = sz.toInt + 1 := by rw [z_add (by rw [z_1]; omega) (by rw [z_1]; omega), z_1]
      refine ⟨rfl, ⟨tg', sheet, shp, pil, bl, st, sh, ac, dn, fr, sp, dt, W, H, bf, upd (upd mf 0 0) 12 (mf 12 + 1), ink, clip, ib, c, kd, val, sz + 1, fb', fs', as', D', bol', B', FI', PI', _, ds, ga, gd, gr, upd gs ss 1, go, cnt, rows, k9, fo, (hB8.keep kx (by decide) (by decide)).keep kM (by decide) (by decide), hP1.keepS kM rfl (by decide), ⟨((hS.1.keep k9' (by omega)).keep kx (by decide)).keep kM (by decide), fun i hi => ?_, hS.2.2⟩, hM3.t3 hD.2.2.2.2.2.2 _, ((hL.keep k9' (by omega)).keep kx (by decide)).keep kM (by decide), ⟨n1, n2, n3, n4, ⟨by rw [n5.1]; rfl, by omega, by omega⟩, n6, n7, n8, n9, n10, n11, n12, n13⟩, hF1, hD⟩⟩
      by_cases hq : i = ss
      · subst hq
        have a2' : at2 h8 tg8 so (k_Sh up ta 1) (100 + 4 * i) := (at2.up (h := h) (k_Sh up ta 1) a2.2).keep k8 (by omega)
        refine ⟨so, up, ta, b, w, d, r, 1, gt8, ff, a1, (a2'.keep kx (fun q => tS_big rfl (by omega) q)).keep kM (fun q => tS_big rfl (by omega) q), ((a3.keep k9' (by omega)).keep kx (by decide)).keep kM (by decide), ((a4.keep k9' (by omega)).keep kx (fun q => tS_big rfl (by omega) q)).keep kM (fun q => tS_big rfl (by omega) q), (e5.keep kx (fun q => tS_big rfl (by omega) q)).keep kM (fun q => tS_big rfl (by omega) q), a6, caT.keep kM (by decide) (caT.keep kx (by decide) e7), ⟨g1, g2, g3, if_pos rfl, Or.inr rfl⟩, a9, a10⟩
      · obtain ⟨so', up', ta', b', w', d', r', sd', gt', ff', hs'⟩ := hS.2.1 i hi
        exact ⟨so', up', ta', b', w', d', r', sd', gt', ff', (((hs'.keep k9' (by omega) (by omega) (by omega) (by omega)).keep kx (by decide) (tS_big rfl (by omega)) (tS_big rfl (by omega)) (tS_big rfl (by omega))).keep kM (by decide) (tS_big rfl (by omega)) (tS_big rfl (by omega)) (tS_big rfl (by omega))).gs (if_neg hq)⟩
  · refine Met_QW (cN_BP_stamp l dC dI cA A h x sheet shp pil ink clip bf s9 px py hB.1.1 hs) (fun r9 h' hp => ?_)
    obtain ⟨rfl, rfl⟩ := hp
    refine ⟨⟨_, hM.1.1⟩, ?_⟩
    refine Met_QW (cF_Mo_stamp l dC dI cA A _ t sh ac dn fr sp dt mf s9 px py hM.1.1 (fun q => hs (hi1.mpr (by rw [n7.2.1, ← n7.2.2]; exact q.1)))) (fun r2 h'' hp => ?_)
    obtain ⟨rfl, rfl⟩ := hp
    exact ⟨rfl, fin_t hB hP hS hM hL hF hD (upd mf 0 0) ⟨n1, n2, n3, n4, n5, n6, n7, n8, n9, n10, n11, n12, n13⟩⟩
theorem u_row (hI : bInv cA x t out sc N fx h) (px py sc9 m9 : Int32) (bits : Int64) : Met l y_BP_row (.code y_BP_row prog_1_method_10_code 9 (some .boolean) :: BIG) ({ frames := 5, cells := 9, slots := 800, locals := 115 }) (va_Pc [.ref x, .int px, .int py, .int sc9, .int m9, .long bits] (hp_I (gg dC dI cA) A h)) (hp_QW (gg dC dI cA) A hp_mi (fun r h' => (∃ fs : List Value, h' t = some (.inr (7, fs))) ∧ Met l y_Mo_row (.code y_Mo_row prog_9_method_25_code 12 (some .boolean) :: BIG) ({ frames := 4, cells := 0, slots := 0, locals := 100 }) (va_Pc [.ref t, .int px, .int py, .int sc9, .int m9, .long bits] (hp_I (gg dC dI cA) A h')) (hp_QW (gg dC dI cA) A hp_mi (fun r2 h'' => r2 = r ∧ bInv cA x t out sc N fx h'')) 0 0 A)) 9 800 A := by
  obtain ⟨tg, sheet, shp, pil, bl, st, sh, ac, dn, fr, sp, dt, W, H, bf, mf, ink, clip, ib, c, kd, val, sz, fb, fs, as, D, bol, B, FI, PI, F, ds, ga, gd, gr, gs, go, cnt, rows, k9, fo, hB, hP, hS, hM, hL, hN, hF, hD⟩ := hI
  obtain ⟨n1, n2, n3, n4, n5, n6, n7, n8, n9, n10, n11, n12, n13⟩ := hN
  have e4 : (4096 : Int32).toInt = 4096 := rfl
  have hcl := n13
  obtain ⟨c0, c1, c2, c3⟩ := hcl
  have hc13 : 0 ≤ c.2.1.toInt ∧ c.2.2.2.toInt < H := by omega
  have hsz : sz < 4096 ↔ ¬ mf 12 = 4096 := by
    rw [← n5.1, z_eq, z_lt, e4]
    omega
  by_cases hc : ((-10000 ≤ px ∧ px ≤ 10000) ∧ (-10000 ≤ py ∧ py ≤ 10000) ∧ sz < 4096) ∧ (1 ≤ sc9 ∧ sc9 ≤ 8) ∧ (1 ≤ m9 ∧ m9 ≤ 64) ∧ bf 8 + (m9 + 7) / 8 ≤ 65536
  · have hz := hc
    have e10 : (10000 : Int32).toInt = 10000 := rfl
    have e11 : (-10000 : Int32).toInt = -10000 := rfl
    have e64 : (64 : Int32).toInt = 64 := rfl
    have e8 : (8 : Int32).toInt = 8 := rfl
    simp only [z_le, z_lt, e10, e11, e4, z_1, e64, e8] at hz
    obtain ⟨s, hsn, hsb⟩ : ∃ s : Nat, sc9 = nI s ∧ 1 ≤ s ∧ s ≤ 8 := ⟨sc9.toInt.toNat, z_ofN (by omega), by omega⟩
    obtain ⟨n, hnn, hnb⟩ : ∃ n : Nat, m9 = nI n ∧ 1 ≤ n ∧ n ≤ 64 := ⟨m9.toInt.toNat, z_ofN (by omega), by omega⟩
    subst hsn hnn
    have hns : n * s ≤ 512 := Nat.mul_le_mul hnb.2 hsb.2
    have hns1 : 1 ≤ n * s := Nat.mul_pos hnb.1 hsb.1
    refine Met_QW (c_BP_row l dC dI cA A h x sheet shp pil ink clip bf bl st H sz px py c.1 c.2.1 c.2.2.1 c.2.2.2 as.head? fb fs s n k9 bits hB.1.1 n10.2 n11.2 n1.2.2 hc13 (hP.2.1.ne hP.2.2.1 (by decide)) hP.1.1 hP.2.1.1 hP.2.2.1.1 hB.2.2.1.1 hc ⟨n12.1, n12.2.1⟩ hsb hnb) (fun r9 h' hp => ?_)
    obtain ⟨rfl, q6, h6, ⟨hext, b2, q1, q2, q3, q4⟩, hlp⟩ := hp
    obtain ⟨hx1, hhx⟩ : ∃ hx1, hx1 = hp_up h x (k_BP (upd bf 8 (bf 8 + (nI n + 7) / 8)) sheet shp pil ink clip) := ⟨_, rfl⟩
    rw [← hhx] at hext q1 q2
    have k1 : kp (tS [3]) tg tg h hx1 := by
      rw [hhx]
      exact (kp.refl tg h).up _ hB.1.1 (by rw [hB.1.2]; decide)
    have k2 : kp (tS []) tg (fun a => if (hx1 a).isNone = true then 0 else tg a) hx1 h6 := fun a e ha => by
      refine ⟨?_, ⟨e, hext a e ha⟩, fun _ => hext a e ha⟩
      show (if (hx1 a).isNone = true then 0 else tg a) = tg a
      rw [ha]
      rfl
    have hB1 : iB hx1 tg cA x sheet shp pil W H (upd bf 8 (bf 8 + (nI n + 7) / 8)) ink clip ib c kd val := by
      rw [hhx]
      exact hB.x _
    have hB8 := hB1.keep k2 (by decide) (by decide)
    have hP8 := (hP.keepS k1 rfl (by decide)).keepS k2 rfl (by decide)
    have t0 : ∀ a, hx1 a = none → (fun a => if (hx1 a).isNone = true then 0 else tg a) a = 0 := fun a ha => by
      show (if (hx1 a).isNone = true then 0 else tg a) = 0
      rw [ha]
      rfl
    obtain ⟨rw1, rw2, -⟩ := rw_1 (k9 := k9) n12.1 hnb
    obtain ⟨rw3, rw4⟩ := rw_2 (k9 := k9) n12.1 hnb hsb
    have hix := ix_ok (wd := pw (rw_w k9 n * s)) (d := rw_d k9 n) (pw_1024 rw3) (by omega)
    have hpic : picT h6 (fun a => if (hx1 a).isNone = true then 0 else tg a) (fun i => i < cnt ∧ ¬ gs i = 0) (cA 1) (some q6) (some (nI (rw_w k9 n * s), nI (rw_d k9 n), nI s, nI (pw (rw_w k9 n * s)), pw (rw_w k9 n * s) * rw_d k9 n, q_eF (rw_w k9 n) (rw_d k9 n) s (rw_f k9 n bits))) := Or.inr ⟨q6, b2, 0, _, rfl, rfl, ⟨q3, t0 q6 q1⟩, ⟨q4, t0 b2 q2⟩, Or.inl rfl, hix⟩
    rw [n12.2.1, nI_mu2 (by omega) (by omega) (by omega)] at hlp
    obtain ⟨⟨r1, r2, r3, r4⟩, -, -⟩ := reg_iff n12.1 (w := n * s) (d := s) (by omega) (by omega) (px := px) (py := py) (by omega) (by omega) 0 0
    have hreg := fun X Y => (reg_iff n12.1 (w := n * s) (d := s) (by omega) (by omega) (px := px) (py := py) (by omega) (by omega) X Y).2.1
    have htw : ∀ a b : Nat, (1 ≤ a ∧ a ≤ 10000) → (1 ≤ b ∧ b ≤ 10000) → 1 ≤ q_tw k9 a b ∧ q_tw k9 a b ≤ 10000 := fun a b ha hb => by
      unfold q_tw
      split <;> assumption
    have hra := htw (n * s) s (by omega) (by omega)
    have hrd := htw s (n * s) (by omega) (by omega)
    obtain ⟨lf, hlf⟩ : ∃ lf, lf = q_le (nI k9) px (q_ra (nI k9) (nI (n * s)) (nI s)) := ⟨_, rfl⟩
    obtain ⟨tp, htp⟩ : ∃ tp, tp = q_ty (nI k9) py (q_rd (nI k9) (nI (n * s)) (nI s)) := ⟨_, rfl⟩
    have hlf0 := hlf
    have htp0 := htp
    obtain ⟨ra, hra2⟩ : ∃ ra, ra = q_ra (nI k9) (nI (n * s)) (nI s) := ⟨_, rfl⟩
    obtain ⟨rd, hrd2⟩ : ∃ rd, rd = q_rd (nI k9) (nI (n * s)) (nI s) := ⟨_, rfl⟩
    simp only [← hra2] at r1 r3 hlf hlp hreg
    simp only [← hrd2] at r2 r4 htp hlp hreg
    simp only [← hlf] at r1 hlp hreg
    simp only [← htp] at r2 hlp hreg
    have hE := lay_E (mf := mf) (mf1 := (upd (upd (upd mf 0 0) 12 (mf 12 + 1)) 13 (mf 13 + (nI n + 7) / 8))) (F := F) (F' := q_rw (upd (upd (upd mf 0 0) 12 (mf 12 + 1)) 13 (mf 13 + (nI n + 7) / 8)) px py s bits F n) n1.1 n1.2 n2.2 n3.2 n13 (fun _ _ _ => rfl) (lf := lf) (tp := tp) (ra := ra) (rd := rd) r1 r2 (by omega) (by omega) hB.2.2.2.2.2 n9 (pi := some (nI (rw_w k9 n * s), nI (rw_d k9 n), nI s, nI (pw (rw_w k9 n * s)), pw (rw_w k9 n * s) * rw_d k9 n, q_eF (rw_w k9 n) (rw_d k9 n) s (rw_f k9 n bits))) (fun x y => q_is (tb bits ((q_iz (nI k9) px.toInt py.toInt x y).toNat / s) = true)) (fun x y hx hy hr => by
      rw [row_s2 n12.1 hnb hsb bits (px := px) (py := py) (by omega) (by omega) hx (by omega) hlf0 htp0 ((hreg x y).mp hr)]
      cases tb bits ((q_iz (nI k9) px.toInt py.toInt x y).toNat / s) <;> rfl) (fun x y hx hy => by
      rw [rw_at n1.1.2 (mf := (upd (upd (upd mf 0 0) 12 (mf 12 + 1)) 13 (mf 13 + (nI n + 7) / 8))) n2.2 (x := px) (y := py) (by omega) (by omega) bits hsb hnb.2 F hx]
      have h18 : (upd (upd (upd mf 0 0) 12 (mf 12 + 1)) 13 (mf 13 + (nI n + 7) / 8)) 18 = nI k9 := n12.2.2
      have hsn : ((s : Int) * n) = ((n * s : Nat) : Int) := by rw [Int.natCast_mul, Int.mul_comm]
      rw [h18, hsn]
      congr 1
      by_cases hq : 0 ≤ q_iz (nI k9) px.toInt py.toInt x y ∧ q_iz (nI k9) px.toInt py.toInt x y < ((n * s : Nat) : Int) ∧ 0 ≤ q_jz (nI k9) px.toInt py.toInt x y ∧ q_jz (nI k9) px.toInt py.toInt x y < s
      · rw [if_pos hq, if_pos ((hreg x y).mpr hq)]
      · rw [if_neg hq, if_neg (fun q => hq ((hreg x y).mp q))])
    have hlp2 : lP cA h6 h' pil bl st H ink sz (mf 16) (mf 17) as.head? (some q6) fb fs lf tp ra rd (q_max lf c.1, q_max tp c.2.1, q_min (lf + ra) c.2.2.1, q_min (tp + rd) c.2.2.2).1 (q_max lf c.1, q_max tp c.2.1, q_min (lf + ra) c.2.2.1, q_min (tp + rd) c.2.2.2).2.1 (q_max lf c.1, q_max tp c.2.1, q_min (lf + ra) c.2.2.1, q_min (tp + rd) c.2.2.2).2.2.1 (q_max lf c.1, q_max tp c.2.1, q_min (lf + ra) c.2.2.1, q_min (tp + rd) c.2.2.2).2.2.2 := by
      rw [← n10.1, ← n11.1]
      exact hlp
    obtain ⟨tg', fb', fs', as', D', bol', B', FI', PI', kx, hP1, hF1⟩ := lay_step n1.2.2 hP8 hB8.2.2.2.1 hB8.2.2.2.2.1 hpic hlp2 hE.1 hF hE.2.1 hE.2.2
    have hM1 := ((hM.keep k1 (by decide)).keep k2 (by decide)).keep kx (by decide)
    refine ⟨⟨_, hM1.1.1⟩, ?_⟩
    refine Met_QW (c_Mo_row l dC dI cA A _ t sh ac dn fr sp dt mf H W s n px py bits F hM1.1.1 ⟨hc.1.1, hc.1.2.1, hc.2.1, hc.2.2.1, hsz.mp hc.1.2.2, by rw [← n6]; exact hc.2.2.2⟩ hsb.2 hnb.2 ⟨n1.1.2, n2.2⟩ ⟨n1.2.2, n3.2⟩ hM1.2.1.1) (fun r2 h'' hp => ?_)
    obtain ⟨rfl, rfl⟩ := hp
    have hM2 := hM1.t (upd (upd (upd mf 0 0) 12 (mf 12 + 1)) 13 (mf 13 + (nI n + 7) / 8))
    have kM := ((kp.refl (S := tS [1]) tg' h').up (k_Mo (upd (upd (upd mf 0 0) 12 (mf 12 + 1)) 13 (mf 13 + (nI n + 7) / 8)) sh ac dn fr sp dt) hM1.1.1 (by rw [hM1.1.2]; decide)).up (k_lo (cA 1) (80 * H) (q_rw (upd (upd (upd mf 0 0) 12 (mf 12 + 1)) 13 (mf 13 + (nI n + 7) / 8)) px py s bits F n)) hM2.2.1.1 (by rw [hM2.2.1.2]; decide)
    have hszn : (sz + 1).toInt = sz.toInt + 1 := by rw [z_add (by rw [z_1]; omega) (by rw [z_1]; omega), z_1]
    refine ⟨rfl, ⟨tg', sheet, shp, pil, bl, st, sh, ac, dn, fr, sp, dt, W, H, upd bf 8 (bf 8 + (nI n + 7) / 8), upd (upd (upd mf 0 0) 12 (mf 12 + 1)) 13 (mf 13 + (nI n + 7) / 8), ink, clip, ib, c, kd, val, sz + 1, fb', fs', as', D', bol', B', FI', PI', _, ds, ga, gd, gr, gs, go, cnt, rows, k9, fo, (hB8.keep kx (by decide) (by decide)).keep kM (by decide) (by decide), hP1.keepS kM rfl (by decide), (((hS.keepS k1 rfl (by decide)).keepS k2 rfl (by decide)).keepS kx rfl (by decide)).keepS kM rfl (by decide), hM2.t3 hD.2.2.2.2.2.2 _, (((hL.keep k1 (by decide)).keep k2 (by decide)).keep kx (by decide)).keep kM (by decide), ⟨n1, n2, n3, n4, ⟨by rw [n5.1]; rfl, by omega, by omega⟩, by rw [n6]; rfl, n7, n8, n9, n10, n11, n12, n13⟩, hF1, hD⟩⟩
  · refine Met_QW (cF_BP_row l dC dI cA A h x sheet shp pil ink clip bf bl st H sz px py sc9 m9 bits as.head? hB.1.1 hP.1.1 hc) (fun r9 h' hp => ?_)
    obtain ⟨rfl, rfl⟩ := hp
    refine ⟨⟨_, hM.1.1⟩, ?_⟩
    refine Met_QW (cF_Mo_row l dC dI cA A _ t sh ac dn fr sp dt mf px py sc9 m9 bits hM.1.1 (fun q => hc ⟨⟨q.1, q.2.1, hsz.mpr q.2.2.2.2.1⟩, q.2.2.1, q.2.2.2.1, by rw [n6]; exact q.2.2.2.2.2⟩)) (fun r2 h'' hp => ?_)
    obtain ⟨rfl, rfl⟩ := hp
    exact ⟨rfl, fin_t hB hP hS hM hL hF hD (upd mf 0 0) ⟨n1, n2, n3, n4, n5, n6, n7, n8, n9, n10, n11, n12, n13⟩⟩
end USE
