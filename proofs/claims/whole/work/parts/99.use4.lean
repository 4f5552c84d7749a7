/-! Laying a mark. -/
theorem at2.newn {h : hp_T} {tg : Nat → Nat} {a b n : Nat} {e : va_E} (e1 : va_E) (m : Nat) (hb : at2 h tg b e n) (hq : b ≠ a) : at2 (hp_up h a e1) (va_up tg a m) b e n := ⟨hp_up_k hq hb.1, by rw [up_n _ _ hq]; exact hb.2⟩
/-- a mark's picture -/
def picT (h : hp_T) (tg : Nat → Nat) (sd : Nat → Prop) (c1 : ClassId) (pic : Option Nat) (pi : Option pI) : Prop := (pic = none ∧ pi = none) ∨ ∃ (q b n : Nat) (p : pI), pic = some q ∧ pi = some p ∧ at2 h tg q (k_Pc p.1 p.2.1 p.2.2.1 p.2.2.2.1 b) 0 ∧ at2 h tg b (k_lo c1 p.2.2.2.2.1 p.2.2.2.2.2) n ∧ (n = 0 ∨ ∃ i, sd i ∧ n = 102 + 4 * i) ∧ ∀ j k : Int32, 0 ≤ j ∧ j < p.2.1 ∧ 0 ≤ k ∧ k < p.2.2.2.1 → vp_in (j * p.2.2.2.1 + k) p.2.2.2.2.1
theorem picT.keep {L : List Nat} {tg tg' : Nat → Nat} {h h' : hp_T} {sd : Nat → Prop} {c1 : ClassId} {pic : Option Nat} {pi : Option pI} (hk : kp (tS L) tg tg' h h') (hb : L.all (fun n => decide (n < 100)) = true) (h0 : L.contains 0 = false) (hm : picT h tg sd c1 pic pi) : picT h' tg' sd c1 pic pi := by
  rcases hm with h4 | ⟨q, b, n, p, a1, a2, a3, a4, a6, a5⟩
  · exact Or.inl h4
  · refine Or.inr ⟨q, b, n, p, a1, a2, a3.keep hk (tS_0 h0), a4.keep hk ?_, a6, a5⟩
    rcases a6 with rfl | ⟨i, hi, rfl⟩
    · exact tS_0 h0
    · exact tS_big hb (by omega)
theorem lay_step {cA : Nat → ClassId} {h h' : hp_T} {tg : Nat → Nat} {pil bl st W H : Nat} {sz : Int32} {fb fs : Nat → Int32} {as : List Nat} {D : Nat → mD} {bol : Nat → Option Nat} {B : Nat → box4} {FI : Nat → Nat → Int64} {PI : Nat → Option pI} {sd : Nat → Prop} {F F' : Nat → Int64} (hH : H ≤ 5100) (hP : iP h tg cA pil bl st W H sz fb fs as D bol B FI PI sd) {ink ib : Nat} {kd v : Int32} {fi : Nat → Int64} (hik : at2 h tg ink (k_In kd v ib) 0) (hib : at2 h tg ib (k_lo (cA 1) 16 fi) 0) {pic : Option Nat} {pi : Option pI} (hpic : picT h tg sd (cA 1) pic pi) {so io lf tp r1 r2 : Int32} {bx : box4} (hlp : lP cA h h' pil bl st H ink sz so io as.head? pic fb fs lf tp r1 r2 bx.1 bx.2.1 bx.2.2.1 bx.2.2.2) (hbx : 0 ≤ bx.1.toInt ∧ bx.2.2.1.toInt < W)
    (hF : iF H fb fs as D B FI PI F) (hE1 : (bx.2.2.1 < bx.1 ∨ bx.2.2.2 < bx.2.1) → ∀ x y, x < 5120 → y < H → q_at F' x y = q_at F x y) (hE2 : ¬ bx.2.2.1 < bx.1 → ∀ x y, x < 5120 → y < H → q_at F' x y = (q_E bx lf tp fi pi so io x y).getD (q_at F x y)) :
    ∃ (tg' : Nat → Nat) (fb' fs' : Nat → Int32) (as' : List Nat) (D' : Nat → mD) (bol' : Nat → Option Nat) (B' : Nat → box4) (FI' : Nat → Nat → Int64) (PI' : Nat → Option pI), kp (tS [4, 5, 6]) tg tg' h h' ∧ iP h' tg' cA pil bl st W H (sz + 1) fb' fs' as' D' bol' B' FI' PI' sd ∧ iF H fb' fs' as' D' B' FI' PI' F' := by
  obtain ⟨wb, mk, pb, w1, w2, w3, w4, w5, w6, hl⟩ := hlp
  obtain ⟨p1, p2, p3, p4, p5, p6, p7, p8⟩ := hP
  have hin : ∀ a ∈ as, ∃ e, h a = some e := fun a ha => by
    obtain ⟨P, r, hp⟩ := List.append_of_mem ha
    exact ⟨_, p5 P a r hp⟩
  have hmk : mk ∉ as := fun ha => by
    obtain ⟨e, he⟩ := hin mk ha
    rw [w2] at he
    cases he
  rcases hl with ⟨hemp, rfl⟩ | ⟨a, b, hab, hbH, hy0, hy1, hne, rfl⟩
  · have w3' : hp_up h wb (k_Bx lf tp (lf + r1) (tp + r2)) pb = none := hp_up_k (Ne.symm w5) w3
    have k2 := ((kp.refl (S := tS [4]) tg h).new (k_Bx lf tp (lf + r1) (tp + r2)) 0 w1).new (k_Bx bx.1 bx.2.1 bx.2.2.1 bx.2.2.2) 0 w3'
    have w2' : hp_up (hp_up h wb (k_Bx lf tp (lf + r1) (tp + r2))) pb (k_Bx bx.1 bx.2.1 bx.2.2.1 bx.2.2.2) mk = none := hp_up_k w6 (hp_up_k (Ne.symm w4) w2)
    have k3 := k2.new (k_Mk pic lf tp pb ink so io none none) 0 w2'
    have q1 := at2.kept k3 p1
    obtain ⟨e4, he4⟩ := (k3 _ _ p1.1).2.1
    have k4 := k3.up (k_Pl (nI H) bl st (sz + 1) as.head?) he4 (by rw [q1]; decide)
    refine ⟨_, fb, fs, as, D, bol, B, FI, PI, k4.mono (fun n hn => ?_), ⟨at2.up _ q1, p2.keep k4 (by decide), p3.keep k4 (by decide), p4, p5.keep (fun c hc => ?_), fun c hc => ?_, fun c hc => (p7 c hc).keep k4 (by decide) (fun i _ => tS_big rfl (by omega)) (fun _ q => q), p8⟩, R_same hF.1 (hE1 hemp), hF.2.1, fun y hy => ?_⟩
    · have : n = 4 := by simpa using hn
      rw [this]
      decide
    · obtain ⟨e, he⟩ := hin c hc
      rw [he]
      exact (k4.get he (p6 c hc) (by decide)).1
    · obtain ⟨e, he⟩ := hin c hc
      exact (k4.get he (p6 c hc) (by decide)).2
    · show fb y = -1 ∨ fb y = nI (psum F' (80 * y) 80)
      rw [psum_at (fun x hx => hE1 hemp x y hx hy)]
      exact hF.2.2 y hy
  · have w3' : hp_up h wb (k_Bx lf tp (lf + r1) (tp + r2)) pb = none := hp_up_k (Ne.symm w5) w3
    have k2 := ((kp.refl (S := tS [4, 5, 6]) tg h).new (k_Bx lf tp (lf + r1) (tp + r2)) 0 w1).new (k_Bx bx.1 bx.2.1 bx.2.2.1 bx.2.2.2) 0 w3'
    have w2' : hp_up (hp_up h wb (k_Bx lf tp (lf + r1) (tp + r2))) pb (k_Bx bx.1 bx.2.1 bx.2.2.1 bx.2.2.2) mk = none := hp_up_k w6 (hp_up_k (Ne.symm w4) w2)
    have k3 := k2.new (k_Mk pic lf tp pb ink so io as.head? none) 8 w2'
    have k3n : kp (tS []) tg _ h _ := (((kp.refl (S := tS []) tg h).new (k_Bx lf tp (lf + r1) (tp + r2)) 0 w1).new (k_Bx bx.1 bx.2.1 bx.2.2.1 bx.2.2.2) 0 w3').new (k_Mk pic lf tp pb ink so io as.head? none) 8 w2'
    have a_pil := p1.keep k3n (by decide)
    have a_bl := p2.keep k3n (by decide)
    have a_st := p3.keep k3n (by decide)
    have a_pb := (at2.new (h := hp_up h wb (k_Bx lf tp (lf + r1) (tp + r2))) (tg := va_up tg wb 0) (a := pb) (k_Bx bx.1 bx.2.1 bx.2.2.1 bx.2.2.2) 0).newn (k_Mk pic lf tp pb ink so io as.head? none) 8 (Ne.symm w6)
    have a_mk := at2.new (h := hp_up (hp_up h wb (k_Bx lf tp (lf + r1) (tp + r2))) pb (k_Bx bx.1 bx.2.1 bx.2.2.1 bx.2.2.2)) (tg := va_up (va_up tg wb 0) pb 0) (a := mk) (k_Mk pic lf tp pb ink so io as.head? none) 8
    have k4 := k3.up (k_Pl (nI H) bl st (sz + 1) (some mk)) a_pil.1 (by rw [a_pil.2]; decide)
    have b_bl := a_bl.upn (k_Pl (nI H) bl st (sz + 1) (some mk)) (a_bl.neK a_pil rfl)
    have b_st := a_st.upn (k_Pl (nI H) bl st (sz + 1) (some mk)) (a_st.neK a_pil rfl)
    have b_pil := at2.up (h := hp_up (hp_up (hp_up h wb (k_Bx lf tp (lf + r1) (tp + r2))) pb (k_Bx bx.1 bx.2.1 bx.2.2.1 bx.2.2.2)) mk (k_Mk pic lf tp pb ink so io as.head? none)) (k_Pl (nI H) bl st (sz + 1) (some mk)) a_pil.2
    have b_pb := a_pb.upn (k_Pl (nI H) bl st (sz + 1) (some mk)) (a_pb.neK a_pil rfl)
    have b_mk := a_mk.upn (k_Pl (nI H) bl st (sz + 1) (some mk)) (a_mk.neK a_pil rfl)
    have k5 := k4.up (k_in (cA 0) H (q_sa fb a (b + 1))) b_bl.1 (by rw [b_bl.2]; decide)
    have c_st := b_st.upn (k_in (cA 0) H (q_sa fb a (b + 1))) (b_st.ne b_bl (by decide))
    have k6 := k5.up (k_in (cA 2) H (q_sx (q_sz pic.isSome fs a (b + 1)) H (b + 1))) c_st.1 (by rw [c_st.2]; decide)
    have d_pil := (b_pil.upn (k_in (cA 0) H (q_sa fb a (b + 1))) (b_pil.neK b_bl rfl)).upn (k_in (cA 2) H (q_sx (q_sz pic.isSome fs a (b + 1)) H (b + 1))) (b_pil.neK b_st rfl)
    have d_pb := (b_pb.upn (k_in (cA 0) H (q_sa fb a (b + 1))) (b_pb.neK b_bl rfl)).upn (k_in (cA 2) H (q_sx (q_sz pic.isSome fs a (b + 1)) H (b + 1))) (b_pb.neK b_st rfl)
    have d_mk := (b_mk.upn (k_in (cA 0) H (q_sa fb a (b + 1))) (b_mk.neK b_bl rfl)).upn (k_in (cA 2) H (q_sx (q_sz pic.isSome fs a (b + 1)) H (b + 1))) (b_mk.neK b_st rfl)
    have d_bl := (at2.up (h := hp_up (hp_up (hp_up (hp_up h wb (k_Bx lf tp (lf + r1) (tp + r2))) pb (k_Bx bx.1 bx.2.1 bx.2.2.1 bx.2.2.2)) mk (k_Mk pic lf tp pb ink so io as.head? none)) pil (k_Pl (nI H) bl st (sz + 1) (some mk))) (k_in (cA 0) H (q_sa fb a (b + 1))) b_bl.2).upn (k_in (cA 2) H (q_sx (q_sz pic.isSome fs a (b + 1)) H (b + 1))) (b_bl.ne b_st (by decide))
    have hold : ∀ c ∈ as, ∃ e, h c = some e ∧ tg c = 8 := fun c hc => by
      obtain ⟨e, he⟩ := hin c hc
      exact ⟨e, he, p6 c hc⟩
    have hz0 : bx.2.1.toInt = a := by rw [hy0, z_nI (by omega)]
    have hz1 : bx.2.2.2.toInt = b := by rw [hy1, z_nI (by omega)]
    have hpn : pic.isSome = false → pi = none := fun q => by
      rcases hpic with ⟨-, q2⟩ | ⟨q9, -, -, -, q2, -⟩
      · exact q2
      · rw [q2] at q
        cases q
    refine ⟨_, q_sa fb a (b + 1), q_sx (q_sz pic.isSome fs a (b + 1)) H (b + 1), mk :: as, va_up D mk (pic, lf, tp, pb, ink, so, io), va_up bol mk none, va_up B mk bx, va_up FI mk fi, va_up PI mk pi, k6, ⟨d_pil, d_bl, at2.up _ c_st.2, List.nodup_cons.mpr ⟨hmk, p4⟩, fun P c r he => ?_, fun c hc => ?_, fun c hc => ?_, fun c hc => ?_⟩, R_add hF.1 hmk (hE2 hne), S_add hH hF.2.1 hmk hpn ⟨hab, hbH⟩ hy0 hy1, V_add hF.2.2 (fun y hy hn => ?_)⟩
    · cases P with
      | nil =>
        rw [List.nil_append] at he
        cases he
        rw [up_s, up_s]
        exact d_mk.1
      | cons z P =>
        rw [List.cons_append] at he
        injection he with e1 e2
        have hc : c ∈ as := by rw [e2]; exact List.mem_append_right _ List.mem_cons_self
        have hcm : c ≠ mk := fun q => hmk (q ▸ hc)
        rw [up_n _ _ hcm, up_n _ _ hcm]
        have h9 := p5 P c r e2
        exact (k6.get h9 (p6 c hc) (by decide)).1
    · rcases List.mem_cons.mp hc with rfl | hc
      · exact d_mk.2
      · obtain ⟨e, he, ht⟩ := hold c hc
        exact (k6.get he ht (by decide)).2
    · rcases List.mem_cons.mp hc with rfl | hc
      · rw [up_s, up_s, up_s, up_s]
        exact ⟨d_pb, ⟨kd, v, ib, hik.keep k6 (by decide), hib.keep k6 (by decide)⟩, hpic.keep k6 rfl rfl⟩
      · have hcm : c ≠ mk := fun q => hmk (q ▸ hc)
        rw [up_n _ _ hcm, up_n _ _ hcm, up_n _ _ hcm, up_n _ _ hcm]
        exact (p7 c hc).keep k6 (by decide) (fun i _ => tS_big rfl (by omega)) (fun _ q => q)
    · rcases List.mem_cons.mp hc with rfl | hc
      · rw [up_s]
        rw [z_lt] at hne
        unfold q_bi
        omega
      · have hcm : c ≠ mk := fun q => hmk (q ▸ hc)
        rw [up_n _ _ hcm]
        exact p8 c hc
    · refine psum_at (fun x hx => ?_)
      rw [hE2 hne x y hx hy, E_off hy0 hy1 (by omega) hn]
      rfl
/-- what a mark and its painting have in common -/
theorem lay_E {mf mf1 : Nat → Int32} {W H : Nat} (hW : 1 ≤ W ∧ W ≤ 5100) (hH : 1 ≤ H ∧ H ≤ 5100) (h1 : mf 1 = nI W) (h2 : mf 2 = nI H) {c : box4} (hc : q_clr mf W H c) (hpc : ∀ x y s, q_pc mf1 x y s = q_pc mf x y s) {lf tp ra rd : Int32} (hl : -30000 ≤ lf.toInt ∧ lf.toInt ≤ 30000) (ht : -30000 ≤ tp.toInt ∧ tp.toInt ≤ 30000) (hra : 0 ≤ ra.toInt ∧ ra.toInt ≤ 30000) (hrd : 0 ≤ rd.toInt ∧ rd.toInt ≤ 30000) {kd val : Int32} (hik : q_iok kd val) (hk : kd = mf 14 ∧ q_iv kd val = mf 15) {pi : Option pI} {F F' : Nat → Int64} (s : Nat → Nat → Int32)
    (hs : ∀ x y : Nat, x < 5120 → y < H → (lf.toInt ≤ x ∧ (x : Int) ≤ lf.toInt + ra.toInt) ∧ tp.toInt ≤ y ∧ (y : Int) ≤ tp.toInt + rd.toInt → q_s2 pi lf tp x y = decide (¬ s x y = 0))
    (hF' : ∀ x y : Nat, x < 5120 → y < H → q_at F' x y = (if (lf.toInt ≤ x ∧ (x : Int) ≤ lf.toInt + ra.toInt) ∧ tp.toInt ≤ y ∧ (y : Int) ≤ tp.toInt + rd.toInt then q_pc mf1 (nI x) (nI y) (s x y) else none).getD (q_at F x y)) :
    (0 ≤ (q_max lf c.1).toInt ∧ (q_min (lf + ra) c.2.2.1).toInt < W) ∧ ((q_min (lf + ra) c.2.2.1 < q_max lf c.1 ∨ q_min (tp + rd) c.2.2.2 < q_max tp c.2.1) → ∀ x y, x < 5120 → y < H → q_at F' x y = q_at F x y) ∧ (¬ q_min (lf + ra) c.2.2.1 < q_max lf c.1 → ∀ x y, x < 5120 → y < H → q_at F' x y = (q_E (q_max lf c.1, q_max tp c.2.1, q_min (lf + ra) c.2.2.1, q_min (tp + rd) c.2.2.2) lf tp (q_ia kd val 16) pi (mf 16) (mf 17) x y).getD (q_at F x y)) := by
  have key : ∀ x y, x < 5120 → y < H → _ := fun x y hx hy => mark_E hW.2 hH.2 h1 h2 hc hl ht hra hrd (fi := q_ia kd val 16) (pi := pi) hx hy (s x y) (by rw [ia_at hik (by omega) (by omega), hk.2, hk.1]) (hs x y hx hy)
  refine ⟨?_, fun he x y hx hy => ?_, fun hn x y hx hy => ?_⟩
  · rw [q_max_z, q_min_z]
    obtain ⟨c0, c1, c2, c3⟩ := hc
    omega
  · have h3 := (key x y hx hy).1 ⟨_, rfl, he⟩
    rw [hF' x y hx hy, hpc, h3]
    rfl
  · rw [hF' x y hx hy, hpc, (key x y hx hy).2 hn]
section USE
variable {l : Launch} {dC : Nat → ClassId} {dI : Nat → Nat → Nat} {cA : Nat → ClassId} {A : Nat → Prop} {h : hp_T} {x t out sc N : Nat} {fx : Nat → Int32}
theorem u_rule (hI : bInv cA x t out sc N fx h) (px py w d : Int32) : Met l y_BP_rule (.code y_BP_rule prog_1_method_9_code 5 (some .boolean) :: BIG) ({ frames := 4, cells := 3, slots := 17, locals := 98 }) (va_Pc [.ref x, .int px, .int py, .int w, .int d] (hp_I (gg dC dI cA) A h)) (hp_QW (gg dC dI cA) A hp_mi (fun r h' => (∃ fs : List Value, h' t = some (.inr (7, fs))) ∧ Met l y_Mo_rule (.code y_Mo_rule prog_9_method_24_code 11 (some .boolean) :: BIG) ({ frames := 3, cells := 0, slots := 0, locals := 73 }) (va_Pc [.ref t, .int px, .int py, .int w, .int d] (hp_I (gg dC dI cA) A h')) (hp_QW (gg dC dI cA) A hp_mi (fun r2 h'' => r2 = r ∧ bInv cA x t out sc N fx h'')) 0 0 A)) 3 17 A := by
  obtain ⟨tg, sheet, shp, pil, bl, st, sh, ac, dn, fr, sp, dt, W, H, bf, mf, ink, clip, ib, c, kd, val, sz, fb, fs, as, D, bol, B, FI, PI, F, ds, ga, gd, gr, gs, go, cnt, rows, k9, fo, hB, hP, hS, hM, hL, hN, hF, hD⟩ := hI
  obtain ⟨n1, n2, n3, n4, n5, n6, n7, n8, n9, n10, n11, n12, n13⟩ := hN
  have e4 : (4096 : Int32).toInt = 4096 := rfl
  have hcl := n13
  obtain ⟨c0, c1, c2, c3⟩ := hcl
  have hsz : sz < 4096 ↔ ¬ mf 12 = 4096 := by
    rw [← n5.1, z_eq, z_lt, e4]
    omega
  refine Met_QW (c_BP_rule l dC dI cA A h x sheet shp pil ink clip bf bl st H sz w d px py c.1 c.2.1 c.2.2.1 c.2.2.2 as.head? fb fs hB.1.1 n10.2 n11.2 n1.2.2 (by omega) (hP.2.1.ne hP.2.2.1 (by decide)) hP.1.1 hP.2.1.1 hP.2.2.1.1 hB.2.2.1.1) (fun r h' hp => ?_)
  rcases hp with ⟨hc, rfl, rfl⟩ | ⟨hc, rfl, hlp⟩
  · refine ⟨⟨_, hM.1.1⟩, ?_⟩
    refine Met_QW (cF_Mo_rule l dC dI cA A _ t sh ac dn fr sp dt mf px py w d hM.1.1 (fun q => hc ⟨⟨q.1, q.2.1, hsz.mpr q.2.2.2.2⟩, q.2.2.1, q.2.2.2.1⟩)) (fun r2 h'' hp => ?_)
    obtain ⟨rfl, rfl⟩ := hp
    exact ⟨rfl, fin_t hB hP hS hM hL hF hD (upd mf 0 0) ⟨n1, n2, n3, n4, n5, n6, n7, n8, n9, n10, n11, n12, n13⟩⟩
  · have hz := hc
    have e10 : (10000 : Int32).toInt = 10000 := rfl
    have e11 : (-10000 : Int32).toInt = -10000 := rfl
    simp only [z_le, z_lt, e10, e11, z_1, e4] at hz
    obtain ⟨wn, hwn, hwb⟩ : ∃ wn : Nat, w = nI wn ∧ 1 ≤ wn ∧ wn ≤ 10000 := ⟨w.toInt.toNat, z_ofN (by omega), by omega⟩
    obtain ⟨dN, hdn, hdb⟩ : ∃ dN : Nat, d = nI dN ∧ 1 ≤ dN ∧ dN ≤ 10000 := ⟨d.toInt.toNat, z_ofN (by omega), by omega⟩
    subst hwn hdn
    rw [n12.2.1] at hlp
    obtain ⟨⟨r1, r2, r3, r4⟩, -, -⟩ := reg_iff n12.1 hwb hdb (px := px) (py := py) (by omega) (by omega) 0 0
    obtain ⟨⟨u1, u2⟩, u3, u4⟩ := rul_reg n12.1 hwb hdb (px := px) (py := py) (by omega) (by omega)
    have htw : ∀ a b : Nat, (1 ≤ a ∧ a ≤ 10000) → (1 ≤ b ∧ b ≤ 10000) → 1 ≤ q_tw k9 a b ∧ q_tw k9 a b ≤ 10000 := fun a b ha hb => by
      unfold q_tw
      split <;> assumption
    have hra := htw wn dN hwb hdb
    have hrd := htw dN wn hdb hwb
    obtain ⟨lf, hlf⟩ : ∃ lf, lf = q_le (nI k9) px (q_ra (nI k9) (nI wn) (nI dN)) := ⟨_, rfl⟩
    obtain ⟨tp, htp⟩ : ∃ tp, tp = q_ty (nI k9) py (q_rd (nI k9) (nI wn) (nI dN)) := ⟨_, rfl⟩
    obtain ⟨ra, hra2⟩ : ∃ ra, ra = q_ra (nI k9) (nI wn) (nI dN) := ⟨_, rfl⟩
    obtain ⟨rd, hrd2⟩ : ∃ rd, rd = q_rd (nI k9) (nI wn) (nI dN) := ⟨_, rfl⟩
    rw [← hra2] at r1 u1 u2 r3 hlf hlp
    rw [← hrd2] at r2 u3 u4 r4 htp hlp
    rw [← hlf] at r1 u1 u2 hlp
    rw [← htp] at r2 u3 u4 hlp
    obtain ⟨lu, mu, i1, i2, i3, i4⟩ := rng_ex (lo := q_rl (nI k9) px (nI wn) (nI dN)) (hi := q_rr (nI k9) px (nI wn) (nI dN)) n1.1 (by omega) (by omega)
    obtain ⟨lv, mv, j1, j2, j3, j4⟩ := rng_ex (lo := q_rt (nI k9) py (nI wn) (nI dN)) (hi := q_rb (nI k9) py (nI wn) (nI dN)) n1.2 (by omega) (by omega)
    have hE := lay_E (mf := mf) (mf1 := upd (upd mf 0 0) 12 (mf 12 + 1)) (F := F) (F' := q_rp (upd (upd mf 0 0) 12 (mf 12 + 1)) lu lv mu F mv) n1.1 n1.2 n2.2 n3.2 n13 (fun _ _ _ => rfl) (lf := lf) (tp := tp) (ra := ra) (rd := rd) r1 r2 (by omega) (by omega) hB.2.2.2.2.2 n9 (pi := none) (fun _ _ => 1) (fun _ _ _ _ _ => rfl) (fun x y hx hy => by
      rw [rp_at n1.1.2 (mf := upd (upd mf 0 0) 12 (mf 12 + 1)) n2.2 i2 j2 F hx]
      by_cases hxy : x < W
      · have h8 := i4 x hxy
        have h9 := j4 y hy
        rw [u1, u2] at h8
        rw [u3, u4] at h9
        congr 1
        by_cases hq : lu ≤ x ∧ x < lu + mu ∧ lv ≤ y ∧ y < lv + mv
        · rw [if_pos hq, if_pos ⟨h8.mp ⟨hq.1, hq.2.1⟩, h9.mp hq.2.2⟩]
        · rw [if_neg hq, if_neg (fun q => hq ⟨(h8.mpr q.1).1, (h8.mpr q.1).2, (h9.mpr q.2)⟩)]
      · have hnone : q_pc (upd (upd mf 0 0) 12 (mf 12 + 1)) (nI x) (nI y) 1 = none := if_neg (fun q => by
          have h7 : nI x < mf 1 := q.1.2.1
          rw [n2.2, z_lt, z_nI (by omega), z_nI (by omega)] at h7
          omega)
        rw [hnone]
        congr 1
        split <;> split <;> rfl)
    have hlp2 : lP cA h h' pil bl st H ink sz (mf 16) (mf 17) as.head? none fb fs lf tp ra rd (q_max lf c.1, q_max tp c.2.1, q_min (lf + ra) c.2.2.1, q_min (tp + rd) c.2.2.2).1 (q_max lf c.1, q_max tp c.2.1, q_min (lf + ra) c.2.2.1, q_min (tp + rd) c.2.2.2).2.1 (q_max lf c.1, q_max tp c.2.1, q_min (lf + ra) c.2.2.1, q_min (tp + rd) c.2.2.2).2.2.1 (q_max lf c.1, q_max tp c.2.1, q_min (lf + ra) c.2.2.1, q_min (tp + rd) c.2.2.2).2.2.2 := by
      rw [← n10.1, ← n11.1]
      exact hlp
    obtain ⟨tg', fb', fs', as', D', bol', B', FI', PI', kx, hP1, hF1⟩ := lay_step n1.2.2 hP hB.2.2.2.1 hB.2.2.2.2.1 (Or.inl ⟨rfl, rfl⟩ : picT h tg (fun i => i < cnt ∧ ¬ gs i = 0) (cA 1) none none) hlp2 hE.1 hF hE.2.1 hE.2.2
    have hM1 := hM.keep kx (by decide)
    refine ⟨⟨_, hM1.1.1⟩, ?_⟩
    refine Met_QW (c_Mo_rule l dC dI cA A _ t sh ac dn fr sp dt mf H W lu lv mu mv px py (nI wn) (nI dN) F hM1.1.1 ⟨hc.1.1, hc.1.2.1, hc.2.1, hc.2.2, hsz.mp hc.1.2.2⟩ ⟨n1.1.2, n2.2⟩ ⟨n1.2.2, n3.2⟩ hM1.2.1.1 (by rw [n12.2.2]; exact i1) (by rw [n12.2.2]; exact j1) (by rw [n12.2.2, n2.2]; exact i3) (by rw [n12.2.2, n3.2]; exact j3)) (fun r2 h'' hp => ?_)
    obtain ⟨rfl, rfl⟩ := hp
    have hM2 := hM1.t (upd (upd mf 0 0) 12 (mf 12 + 1))
    have kM := ((kp.refl (S := tS [1]) tg' h').up (k_Mo (upd (upd mf 0 0) 12 (mf 12 + 1)) sh ac dn fr sp dt) hM1.1.1 (by rw [hM1.1.2]; decide)).up (k_lo (cA 1) (80 * H) (q_rp (upd (upd mf 0 0) 12 (mf 12 + 1)) lu lv mu F mv)) hM2.2.1.1 (by rw [hM2.2.1.2]; decide)
    have hszn : (sz + 1).toInt = sz.toInt + 1 := by rw [z_add (by rw [z_1]; omega) (by rw [z_1]; omega), z_1]
    refine ⟨rfl, ⟨tg', sheet, shp, pil, bl, st, sh, ac, dn, fr, sp, dt, W, H, bf, upd (upd mf 0 0) 12 (mf 12 + 1), ink, clip, ib, c, kd, val, sz + 1, fb', fs', as', D', bol', B', FI', PI', _, ds, ga, gd, gr, gs, go, cnt, rows, k9, fo, (hB.keep kx (by decide) (by decide)).keep kM (by decide) (by decide), hP1.keepS kM rfl (by decide), (hS.keepS kx rfl (by decide)).keepS kM rfl (by decide), hM2.t3 hD.2.2.2.2.2.2 _, (hL.keep kx (by decide)).keep kM (by decide), ⟨n1, n2, n3, n4, ⟨by rw [n5.1]; rfl, by omega, by omega⟩, n6, n7, n8, n9, n10, n11, n12, n13⟩, hF1, hD⟩⟩
end USE
