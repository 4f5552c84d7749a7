/-! What holds of the heap between two calls of the law: tg says whose a cell is (0: never changed any more; 1: the model's; 2: the law's; 3 .. : the class's). -/
abbrev box4 : Type := Int32 × Int32 × Int32 × Int32
def kp (S : Nat → Prop) (tg tg' : Nat → Nat) (h h' : hp_T) : Prop := ∀ (a : Nat) (e : va_E), h a = some e → tg' a = tg a ∧ (∃ e', h' a = some e') ∧ (¬ S (tg a) → h' a = some e)
theorem kp.get {S : Nat → Prop} {tg tg' : Nat → Nat} {h h' : hp_T} (hk : kp S tg tg' h h') {a : Nat} {e : va_E} {n : Nat} (ha : h a = some e) (ht : tg a = n) (hn : ¬ S n) : h' a = some e ∧ tg' a = n := ⟨(hk a e ha).2.2 (by rw [ht]; exact hn), (hk a e ha).1.trans ht⟩
theorem kp.refl {S : Nat → Prop} (tg : Nat → Nat) (h : hp_T) : kp S tg tg h h := fun _ e ha => ⟨rfl, ⟨e, ha⟩, fun _ => ha⟩
theorem kp.up {S : Nat → Prop} {tg tg' : Nat → Nat} {h h1 : hp_T} (hk : kp S tg tg' h h1) {a : Nat} {e0 : va_E} (e1 : va_E) (h0 : h1 a = some e0) (hs : S (tg' a)) : kp S tg tg' h (hp_up h1 a e1) := by
  intro b e hb
  obtain ⟨q1, ⟨e2, q2⟩, q3⟩ := hk b e hb
  by_cases hq : b = a
  · subst hq
    rw [hp_up_s]
    exact ⟨q1, ⟨_, rfl⟩, fun hn => absurd (by rw [← q1]; exact hs) hn⟩
  · rw [hp_up_n hq]
    exact ⟨q1, ⟨e2, q2⟩, q3⟩
theorem kp.new {S : Nat → Prop} {tg tg' : Nat → Nat} {h h1 : hp_T} (hk : kp S tg tg' h h1) {a : Nat} (e1 : va_E) (n : Nat) (h0 : h1 a = none) : kp S tg (va_up tg' a n) h (hp_up h1 a e1) := by
  intro b e hb
  obtain ⟨q1, ⟨e2, q2⟩, q3⟩ := hk b e hb
  have hq : b ≠ a := hp_neN q2 h0
  rw [hp_up_n hq, up_n _ _ hq]
  exact ⟨q1, ⟨e2, q2⟩, q3⟩
theorem kp.tr {S : Nat → Prop} {tg tg1 tg2 : Nat → Nat} {h h1 h2 : hp_T} (h01 : kp S tg tg1 h h1) (h12 : kp S tg1 tg2 h1 h2) : kp S tg tg2 h h2 := by
  intro b e hb
  obtain ⟨q1, ⟨e2, q2⟩, q3⟩ := h01 b e hb
  obtain ⟨r1, r2, r3⟩ := h12 b e2 q2
  refine ⟨r1.trans q1, r2, fun hn => ?_⟩
  have h9 := q3 hn
  rw [q2] at h9
  cases h9
  exact r3 (by rw [q1]; exact hn)
theorem kp.mono {S S' : Nat → Prop} {tg tg' : Nat → Nat} {h h' : hp_T} (hk : kp S tg tg' h h') (hs : ∀ n, S n → S' n) : kp S' tg tg' h h' := fun a e ha => ⟨(hk a e ha).1, (hk a e ha).2.1, fun hn => (hk a e ha).2.2 (fun q => hn (hs _ q))⟩
theorem kp.mc {tg : Nat → Nat} {h h' : hp_T} {D : Nat → mD} {bol bol' : Nat → Option Nat} {as : List Nat} (hm : mc h D bol as) (ht : ∀ a ∈ as, tg a = 8) (hm' : mc h' D bol' as) (ho : ∀ a, a ∉ as → h' a = h a) : kp (fun n => n = 8) tg tg h h' := by
  intro a e ha
  by_cases hin : a ∈ as
  · obtain ⟨P, r, hp⟩ := List.append_of_mem hin
    exact ⟨rfl, ⟨_, hm' P a r hp⟩, fun hn => absurd (ht a hin) hn⟩
  · rw [ho a hin]
    exact ⟨rfl, ⟨e, ha⟩, fun _ => ha⟩
/-- a cell and whose it is -/
def at2 (h : hp_T) (tg : Nat → Nat) (a : Nat) (e : va_E) (n : Nat) : Prop := h a = some e ∧ tg a = n
theorem at2.keep {S : Nat → Prop} {tg tg' : Nat → Nat} {h h' : hp_T} {a : Nat} {e : va_E} {n : Nat} (hk : kp S tg tg' h h') (hn : ¬ S n) (ha : at2 h tg a e n) : at2 h' tg' a e n := hk.get ha.1 ha.2 hn
theorem at2.ne {h : hp_T} {tg : Nat → Nat} {a b : Nat} {e e' : va_E} {n m : Nat} (ha : at2 h tg a e n) (hb : at2 h tg b e' m) (hn : n ≠ m) : a ≠ b := fun q => hn (by rw [← ha.2, q, hb.2])
theorem at2.kept {S : Nat → Prop} {tg tg' : Nat → Nat} {h h' : hp_T} {a : Nat} {e : va_E} {n : Nat} (hk : kp S tg tg' h h') (ha : at2 h tg a e n) : tg' a = n := (hk a e ha.1).1.trans ha.2
theorem at2.up {h : hp_T} {tg : Nat → Nat} {a n : Nat} (e : va_E) (ht : tg a = n) : at2 (hp_up h a e) tg a e n := ⟨hp_up_s _ _ _, ht⟩
theorem at2.upn {h : hp_T} {tg : Nat → Nat} {a b n : Nat} {e : va_E} (e1 : va_E) (hb : at2 h tg b e n) (hq : b ≠ a) : at2 (hp_up h a e1) tg b e n := ⟨hp_up_k hq hb.1, hb.2⟩
theorem at2.new {h : hp_T} {tg : Nat → Nat} {a : Nat} (e : va_E) (n : Nat) : at2 (hp_up h a e) (va_up tg a n) a e n := ⟨hp_up_s _ _ _, up_s _ _ _⟩
theorem at2.neN {h : hp_T} {tg : Nat → Nat} {a b n : Nat} {e : va_E} (ha : at2 h tg a e n) (hb : h b = none) : a ≠ b := hp_neN ha.1 hb
theorem at2.neK {h : hp_T} {tg : Nat → Nat} {a b n m : Nat} {e e' : va_E} (ha : at2 h tg a e n) (hb : at2 h tg b e' m) (hk : decide (hp_kind e = hp_kind e') = false) : a ≠ b := hp_ne ha.1 hb.1 (of_decide_eq_false hk)
/-- a mark's cells -/
def mkT (h : hp_T) (tg : Nat → Nat) (sd : Nat → Prop) (c1 : ClassId) (d : mD) (B : box4) (fi : Nat → Int64) (pi : Option pI) : Prop :=
  at2 h tg d.2.2.2.1 (k_Bx B.1 B.2.1 B.2.2.1 B.2.2.2) 0 ∧ (∃ (kd val : Int32) (ib : Nat), at2 h tg d.2.2.2.2.1 (k_In kd val ib) 0 ∧ at2 h tg ib (k_lo c1 16 fi) 0) ∧
  ((d.1 = none ∧ pi = none) ∨ ∃ (q b n : Nat) (p : pI), d.1 = some q ∧ pi = some p ∧ at2 h tg q (k_Pc p.1 p.2.1 p.2.2.1 p.2.2.2.1 b) 0 ∧ at2 h tg b (k_lo c1 p.2.2.2.2.1 p.2.2.2.2.2) n ∧ (n = 0 ∨ ∃ i, sd i ∧ n = 102 + 4 * i) ∧ ∀ j k : Int32, 0 ≤ j ∧ j < p.2.1 ∧ 0 ≤ k ∧ k < p.2.2.2.1 → vp_in (j * p.2.2.2.1 + k) p.2.2.2.2.1)
theorem mkT.ok {h : hp_T} {tg : Nat → Nat} {sd : Nat → Prop} {c1 : ClassId} {d : mD} {B : box4} {fi : Nat → Int64} {pi : Option pI} (hm : mkT h tg sd c1 d B fi pi) : mk_ok h c1 d B fi pi := by
  obtain ⟨h1, ⟨kd, val, ib, h2, h3⟩, h4⟩ := hm
  refine ⟨h1.1, ⟨kd, val, ib, h2.1, h3.1⟩, ?_⟩
  rcases h4 with h4 | ⟨q, b, n, p, a1, a2, a3, a4, -, a5⟩
  · exact Or.inl h4
  · exact Or.inr ⟨q, b, p, a1, a2, a3.1, a4.1, a5⟩
theorem mkT.keep {S : Nat → Prop} {tg tg' : Nat → Nat} {h h' : hp_T} {sd sd' : Nat → Prop} {c1 : ClassId} {d : mD} {B : box4} {fi : Nat → Int64} {pi : Option pI} (hk : kp S tg tg' h h') (h0 : ¬ S 0) (hs : ∀ i, sd i → ¬ S (102 + 4 * i)) (hss : ∀ i, sd i → sd' i) (hm : mkT h tg sd c1 d B fi pi) : mkT h' tg' sd' c1 d B fi pi := by
  obtain ⟨h1, ⟨kd, val, ib, h2, h3⟩, h4⟩ := hm
  refine ⟨h1.keep hk h0, ⟨kd, val, ib, h2.keep hk h0, h3.keep hk h0⟩, ?_⟩
  rcases h4 with h4 | ⟨q, b, n, p, a1, a2, a3, a4, a6, a5⟩
  · exact Or.inl h4
  · refine Or.inr ⟨q, b, n, p, a1, a2, a3.keep hk h0, a4.keep hk ?_, ?_, a5⟩
    · rcases a6 with rfl | ⟨i, hi, rfl⟩
      · exact h0
      · exact hs i hi
    · rcases a6 with rfl | ⟨i, hi, rfl⟩
      · exact Or.inl rfl
      · exact Or.inr ⟨i, hss i hi, rfl⟩
/-- a shape's cells, and what the model has of it -/
def sT (h : hp_T) (tg : Nat → Nat) (cA : Nat → ClassId) (go : Nat → Option Nat) (ga gd gr gs : Nat → Int32) (ds : Nat → Int64) (rows i : Nat) (so up ta b w d r : Nat) (ss : Int32) (gt : Nat → Option Nat) (ff : Nat → Int64) : Prop :=
  go i = some so ∧ at2 h tg so (k_Sh up ta ss) (100 + 4 * i) ∧ at2 h tg up (k_Pc (nI w) (nI d) (nI 1) (nI (pw w)) b) 0 ∧ at2 h tg b (k_lo (cA 1) (pw w * d) ff) (102 + 4 * i) ∧ at2 h tg ta (k_rf (cA 4) 4 gt) (101 + 4 * i) ∧ ((1 ≤ w ∧ w ≤ 128) ∧ 1 ≤ d ∧ d ≤ 128) ∧
  (∀ k q, k < 4 → gt k = some q → (k = 0 ∧ q = up) ∨ (1 ≤ k ∧ ∃ b2, at2 h tg q (k_Pc (nI (q_tw k w d)) (nI (q_tw k d w)) (nI 1) (nI (pw (q_tw k w d))) b2) 0 ∧ at2 h tg b2 (k_lo (cA 1) (pw (q_tw k w d) * q_tw k d w) (q_tF (nI k) w d ff)) 0)) ∧
  (ga i = nI w ∧ gd i = nI d ∧ gr i = nI r ∧ gs i = ss ∧ (ss = 0 ∨ ss = 1)) ∧ q_sr w d r ff ds ∧ r + d ≤ rows
theorem sT.keep {S : Nat → Prop} {tg tg' : Nat → Nat} {h h' : hp_T} {cA : Nat → ClassId} {go : Nat → Option Nat} {ga gd gr gs : Nat → Int32} {ds : Nat → Int64} {rows i so up ta b w d r : Nat} {ss : Int32} {gt : Nat → Option Nat} {ff : Nat → Int64} (hk : kp S tg tg' h h') (h0 : ¬ S 0) (h1 : ¬ S (100 + 4 * i)) (h2 : ¬ S (101 + 4 * i)) (h3 : ¬ S (102 + 4 * i)) (hm : sT h tg cA go ga gd gr gs ds rows i so up ta b w d r ss gt ff) : sT h' tg' cA go ga gd gr gs ds rows i so up ta b w d r ss gt ff := by
  obtain ⟨a1, a2, a3, a4, a5, a6, a7, a8, a9⟩ := hm
  refine ⟨a1, a2.keep hk h1, a3.keep hk h0, a4.keep hk h3, a5.keep hk h2, a6, fun k q hk4 hq => ?_, a8, a9⟩
  rcases a7 k q hk4 hq with hz | ⟨hz, b2, b3, b4⟩
  · exact Or.inl hz
  · exact Or.inr ⟨hz, b2, b3.keep hk h0, b4.keep hk h0⟩
/-- the class's own cells -/
def iB (h : hp_T) (tg : Nat → Nat) (cA : Nat → ClassId) (x sheet shp pil W H : Nat) (bf : Nat → Int32) (ink clip ib : Nat) (c : box4) (kd val : Int32) : Prop :=
  at2 h tg x (k_BP bf sheet shp pil ink clip) 3 ∧ at2 h tg sheet (k_Bx 0 0 (nI W - 1) (nI H - 1)) 0 ∧ at2 h tg clip (k_Bx c.1 c.2.1 c.2.2.1 c.2.2.2) 0 ∧ at2 h tg ink (k_In kd (q_iv kd val) ib) 0 ∧ at2 h tg ib (k_lo (cA 1) 16 (q_ia kd val 16)) 0 ∧ q_iok kd val
theorem iB.keep {S : Nat → Prop} {tg tg' : Nat → Nat} {h h' : hp_T} {cA : Nat → ClassId} {x sheet shp pil W H : Nat} {bf : Nat → Int32} {ink clip ib : Nat} {c : box4} {kd val : Int32} (hk : kp S tg tg' h h') (h0 : ¬ S 0) (h3 : ¬ S 3) (hm : iB h tg cA x sheet shp pil W H bf ink clip ib c kd val) : iB h' tg' cA x sheet shp pil W H bf ink clip ib c kd val := by
  obtain ⟨a1, a2, a3, a4, a5, a6⟩ := hm
  exact ⟨a1.keep hk h3, a2.keep hk h0, a3.keep hk h0, a4.keep hk h0, a5.keep hk h0, a6⟩
/-- the pile -/
def iP (h : hp_T) (tg : Nat → Nat) (cA : Nat → ClassId) (pil bl st W H : Nat) (sz : Int32) (fb fs : Nat → Int32) (as : List Nat) (D : Nat → mD) (bol : Nat → Option Nat) (B : Nat → box4) (FI : Nat → Nat → Int64) (PI : Nat → Option pI) (sd : Nat → Prop) : Prop :=
  at2 h tg pil (k_Pl (nI H) bl st sz as.head?) 4 ∧ at2 h tg bl (k_in (cA 0) H fb) 5 ∧ at2 h tg st (k_in (cA 2) H fs) 6 ∧ as.Nodup ∧ mc h D bol as ∧ (∀ a ∈ as, tg a = 8) ∧ (∀ a ∈ as, mkT h tg sd (cA 1) (D a) (B a) (FI a) (PI a)) ∧ ∀ a ∈ as, q_bi W H (B a)
theorem iP.keep {S : Nat → Prop} {tg tg' : Nat → Nat} {h h' : hp_T} {cA : Nat → ClassId} {pil bl st W H : Nat} {sz : Int32} {fb fs : Nat → Int32} {as : List Nat} {D : Nat → mD} {bol : Nat → Option Nat} {B : Nat → box4} {FI : Nat → Nat → Int64} {PI : Nat → Option pI} {sd sd' : Nat → Prop} (hk : kp S tg tg' h h') (h0 : ¬ S 0) (h4 : ¬ S 4) (h5 : ¬ S 5) (h6 : ¬ S 6) (h8 : ¬ S 8) (hs : ∀ i, sd i → ¬ S (102 + 4 * i)) (hss : ∀ i, sd i → sd' i) (hm : iP h tg cA pil bl st W H sz fb fs as D bol B FI PI sd) : iP h' tg' cA pil bl st W H sz fb fs as D bol B FI PI sd' := by
  obtain ⟨a1, a2, a3, a4, a5, a6, a7, a8⟩ := hm
  have hin : ∀ a ∈ as, ∃ e, h a = some e := fun a ha => by
    obtain ⟨P, r, hp⟩ := List.append_of_mem ha
    exact ⟨_, a5 P a r hp⟩
  refine ⟨a1.keep hk h4, a2.keep hk h5, a3.keep hk h6, a4, a5.keep (fun a ha => ?_), fun a ha => ?_, fun a ha => (a7 a ha).keep hk h0 hs hss, a8⟩
  · obtain ⟨e, he⟩ := hin a ha
    rw [he]
    exact (hk.get he (a6 a ha) h8).1
  · obtain ⟨e, he⟩ := hin a ha
    exact (hk.get he (a6 a ha) h8).2
/-- the model's cells -/
def iM (h : hp_T) (tg : Nat → Nat) (cA : Nat → ClassId) (t sh ac dn fr sp dt H : Nat) (mf : Nat → Int32) (F ds : Nat → Int64) (ga gd gr gs : Nat → Int32) : Prop :=
  at2 h tg t (k_Mo mf sh ac dn fr sp dt) 1 ∧ at2 h tg sh (k_lo (cA 1) (80 * H) F) 1 ∧ at2 h tg ac (k_in (cA 0) 64 ga) 1 ∧ at2 h tg dn (k_in (cA 0) 64 gd) 1 ∧ at2 h tg fr (k_in (cA 0) 64 gr) 1 ∧ at2 h tg sp (k_in (cA 2) 64 gs) 1 ∧ at2 h tg dt (k_lo (cA 1) 8192 ds) 1
theorem iM.keep {S : Nat → Prop} {tg tg' : Nat → Nat} {h h' : hp_T} {cA : Nat → ClassId} {t sh ac dn fr sp dt H : Nat} {mf : Nat → Int32} {F ds : Nat → Int64} {ga gd gr gs : Nat → Int32} (hk : kp S tg tg' h h') (h1 : ¬ S 1) (hm : iM h tg cA t sh ac dn fr sp dt H mf F ds ga gd gr gs) : iM h' tg' cA t sh ac dn fr sp dt H mf F ds ga gd gr gs := by
  obtain ⟨a1, a2, a3, a4, a5, a6, a7⟩ := hm
  exact ⟨a1.keep hk h1, a2.keep hk h1, a3.keep hk h1, a4.keep hk h1, a5.keep hk h1, a6.keep hk h1, a7.keep hk h1⟩
/-- the law's cells -/
def iL (h : hp_T) (tg : Nat → Nat) (cA : Nat → ClassId) (out sc N : Nat) (fo : Nat → Int64) (fx : Nat → Int32) : Prop := at2 h tg out (k_lo (cA 1) 1 fo) 2 ∧ (sc = sc ∧ N = N ∧ fx = fx)
theorem iL.keep {S : Nat → Prop} {tg tg' : Nat → Nat} {h h' : hp_T} {cA : Nat → ClassId} {out sc N : Nat} {fo : Nat → Int64} {fx : Nat → Int32} (hk : kp S tg tg' h h') (h2 : ¬ S 2) (hm : iL h tg cA out sc N fo fx) : iL h' tg' cA out sc N fo fx := ⟨hm.1.keep hk h2, hm.2⟩
/-- the shapes -/
def iS (h : hp_T) (tg : Nat → Nat) (cA : Nat → ClassId) (shp cnt rows : Nat) (go : Nat → Option Nat) (ga gd gr gs : Nat → Int32) (ds : Nat → Int64) : Prop :=
  at2 h tg shp (k_rf (cA 3) 64 go) 7 ∧ (∀ i, i < cnt → ∃ (so up ta b w d r : Nat) (ss : Int32) (gt : Nat → Option Nat) (ff : Nat → Int64), sT h tg cA go ga gd gr gs ds rows i so up ta b w d r ss gt ff) ∧ ∀ i j, i < j → j < cnt → (gr i).toInt + (gd i).toInt ≤ (gr j).toInt
theorem iS.keep {S : Nat → Prop} {tg tg' : Nat → Nat} {h h' : hp_T} {cA : Nat → ClassId} {shp cnt rows : Nat} {go : Nat → Option Nat} {ga gd gr gs : Nat → Int32} {ds : Nat → Int64} (hk : kp S tg tg' h h') (h0 : ¬ S 0) (h7 : ¬ S 7) (hS : ∀ n, 100 ≤ n → ¬ S n) (hm : iS h tg cA shp cnt rows go ga gd gr gs ds) : iS h' tg' cA shp cnt rows go ga gd gr gs ds := by
  obtain ⟨a1, a2, a3⟩ := hm
  refine ⟨a1.keep hk h7, fun i hi => ?_, a3⟩
  obtain ⟨so, up, ta, b, w, d, r, ss, gt, ff, hs⟩ := a2 i hi
  exact ⟨so, up, ta, b, w, d, r, ss, gt, ff, hs.keep hk h0 (hS _ (by omega)) (hS _ (by omega)) (hS _ (by omega))⟩
/-- the two sides' numbers -/
def iN (W H cnt rows k9 : Nat) (bf mf : Nat → Int32) (sz kd val : Int32) (c : box4) : Prop :=
  ((1 ≤ W ∧ W ≤ 5100) ∧ 1 ≤ H ∧ H ≤ 5100) ∧ (bf 0 = nI W ∧ mf 1 = nI W) ∧ (bf 1 = nI H ∧ mf 2 = nI H) ∧ bf 2 = mf 3 ∧ (sz = mf 12 ∧ 0 ≤ sz.toInt ∧ sz.toInt ≤ 4096) ∧ bf 8 = mf 13 ∧ (cnt ≤ 64 ∧ bf 6 = nI cnt ∧ mf 5 = nI cnt) ∧ (rows ≤ 4096 ∧ bf 7 = nI rows ∧ mf 10 = nI rows) ∧ (kd = mf 14 ∧ q_iv kd val = mf 15) ∧ (bf 10 = mf 16 ∧ (bf 10 = 0 ∨ bf 10 = 1)) ∧ (bf 11 = mf 17 ∧ (bf 11 = 0 ∨ bf 11 = 1)) ∧ (k9 < 4 ∧ bf 12 = nI k9 ∧ mf 18 = nI k9) ∧ q_clr mf W H c
/-- the two sides' sheets -/
def iF (H : Nat) (fb fs : Nat → Int32) (as : List Nat) (D : Nat → mD) (B : Nat → box4) (FI : Nat → Nat → Int64) (PI : Nat → Option pI) (F : Nat → Int64) : Prop := q_R F H D B FI PI as ∧ q_sI fs H B PI as ∧ bV H (fun y => psum F (80 * y) 80) fb
def iD (ac dn fr sp sh dt : Nat) : Prop := ac ≠ dn ∧ ac ≠ fr ∧ ac ≠ sp ∧ dn ≠ fr ∧ dn ≠ sp ∧ fr ≠ sp ∧ dt ≠ sh
/-- all of it -/
def bInv (cA : Nat → ClassId) (x t out sc N : Nat) (fx : Nat → Int32) (h : hp_T) : Prop :=
  ∃ (tg : Nat → Nat) (sheet shp pil bl st sh ac dn fr sp dt W H : Nat) (bf mf : Nat → Int32) (ink clip ib : Nat) (c : box4) (kd val sz : Int32) (fb fs : Nat → Int32) (as : List Nat) (D : Nat → mD) (bol : Nat → Option Nat) (B : Nat → box4) (FI : Nat → Nat → Int64) (PI : Nat → Option pI) (F ds : Nat → Int64) (ga gd gr gs : Nat → Int32) (go : Nat → Option Nat) (cnt rows k9 : Nat) (fo : Nat → Int64),
    iB h tg cA x sheet shp pil W H bf ink clip ib c kd val ∧ iP h tg cA pil bl st W H sz fb fs as D bol B FI PI (fun i => i < cnt ∧ ¬ gs i = 0) ∧ iS h tg cA shp cnt rows go ga gd gr gs ds ∧ iM h tg cA t sh ac dn fr sp dt H mf F ds ga gd gr gs ∧ iL h tg cA out sc N fo fx ∧ iN W H cnt rows k9 bf mf sz kd val c ∧ iF H fb fs as D B FI PI F ∧ iD ac dn fr sp sh dt
