/-! How many black dots lines have. -/
theorem Met_post {l : Launch} {y : MethodName} {ws : List Cond} {rm : Room} {Pc : Array Value → State → Prop} {Qc Qc' : Array Value → State → Outcome → State → Prop} {mc ms : Nat} {free : Addr → Prop} (hM : Met l y ws rm Pc Qc mc ms free) (h : ∀ a st o t, Pc a st → Qc a st o t → Qc' a st o t) : Met l y ws rm Pc Qc' mc ms free := by
  intro p e h1 h2 h3 s m args below hf ha hP hK
  obtain ⟨n, o, w1, w2, w3, w4, w5⟩ := hM p e h1 h2 h3 s m args below hf ha hP hK
  exact ⟨n, o, w1, w2, w3, h _ _ _ _ hP w4, w5⟩
theorem Met_QW {α : Type} {l : Launch} {y : MethodName} {ws : List Cond} {rm : Room} {Pc : Array Value → State → Prop} {G : hp_G} {A : Nat → Prop} {mk : α → Option Value} {post post' : α → hp_T → Prop} {mc ms : Nat} {free : Addr → Prop} (hM : Met l y ws rm Pc (hp_QW G A mk post) mc ms free) (h : ∀ r h', post r h' → post' r h') : Met l y ws rm Pc (hp_QW G A mk post') mc ms free :=
  Met_post hM (fun _ _ _ _ _ q => by
    obtain ⟨⟨r, h', a1, a2, a3⟩, a4⟩ := q
    exact ⟨⟨r, h', a1, h r h' a2, a3⟩, a4⟩)
def nm2 (h h' : hp_T) : Prop := ∀ (x : Nat) (e : va_E), h x = some e → hp_kind e ≠ (0, 3) → hp_kind e ≠ (1, 0) → h' x = some e
theorem mk_ok.keep2 {h h' : hp_T} {c1 : ClassId} {d : mD} {B : Int32 × Int32 × Int32 × Int32} {fi : Nat → Int64} {pi : Option pI} (hn : nm2 h h') (ho : mk_ok h c1 d B fi pi) : mk_ok h' c1 d B fi pi := by
  obtain ⟨h1, ⟨kd, val, ib, h2, h3⟩, h4⟩ := ho
  refine ⟨hn _ _ h1 (show ((0, 1) : Nat × Nat) ≠ (0, 3) by decide) (show ((0, 1) : Nat × Nat) ≠ (1, 0) by decide), ⟨kd, val, ib, hn _ _ h2 (show ((0, 2) : Nat × Nat) ≠ (0, 3) by decide) (show ((0, 2) : Nat × Nat) ≠ (1, 0) by decide), hn _ _ h3 (show ((2, 0) : Nat × Nat) ≠ (0, 3) by decide) (show ((2, 0) : Nat × Nat) ≠ (1, 0) by decide)⟩, ?_⟩
  rcases h4 with h4 | ⟨q, b, p, a1, a2, a3, a4, a5⟩
  · exact Or.inl h4
  · exact Or.inr ⟨q, b, p, a1, a2, hn _ _ a3 (show ((0, 4) : Nat × Nat) ≠ (0, 3) by decide) (show ((0, 4) : Nat × Nat) ≠ (1, 0) by decide), hn _ _ a4 (show ((2, 0) : Nat × Nat) ≠ (0, 3) by decide) (show ((2, 0) : Nat × Nat) ≠ (1, 0) by decide), a5⟩
/-- what is remembered is right -/
def bV (n : Nat) (TB : Nat → Nat) (f : Nat → Int32) : Prop := ∀ y, y < n → f y = -1 ∨ f y = nI (TB y)
theorem al_ok {f g : Nat → Int32} {n : Nat} {TB : Nat → Nat} (hL : ∀ y, 16 ≤ y → y < n → q_la g y 16 = true → TB y = TB (y - 16)) : ∀ k y, y < n → q_al f g n k y < n ∧ TB (q_al f g n k y) = TB y := by
  intro k
  induction k with
  | zero => intro y hy; exact ⟨hy, rfl⟩
  | succ k ih =>
    intro y hy
    by_cases hc : 16 ≤ y ∧ f y = -1 ∧ y < n ∧ q_la g y 16 = true
    · rw [q_al_t hc]
      obtain ⟨h1, h2⟩ := ih (y - 16) (by omega)
      exact ⟨h1, by rw [h2, hL y hc.1 hc.2.2.1 hc.2.2.2]⟩
    · rw [q_al_f hc]
      exact ⟨hy, rfl⟩
theorem bv_ok {f cb : Nat → Int32} {n m y : Nat} {TB : Nat → Nat} (hf : bV n TB f) (hc : ∀ y, y < n → cb y = nI (TB y)) (hm : m < n) (hT : TB m = TB y) : q_bv f cb m = nI (TB y) := by
  unfold q_bv
  by_cases h : f m = -1
  · rw [if_pos h, hc m hm, hT]
  · rw [if_neg h]
    rcases hf m hm with h2 | h2
    · exact absurd h2 h
    · rw [h2, hT]
theorem bu_ok {f : Nat → Int32} {n m y : Nat} {TB : Nat → Nat} (hf : bV n TB f) (hT : TB m = TB y) {r : Int32} (hr : r = nI (TB y)) : bV n TB (q_bu f m y r) := by
  intro z hz
  unfold q_bu upd
  by_cases h1 : z = y
  · rw [if_pos h1, h1, hr]; exact Or.inr rfl
  · rw [if_neg h1]
    by_cases h2 : f m = -1
    · rw [if_pos h2]
      show (if z = m then r else f z) = -1 ∨ (if z = m then r else f z) = nI (TB z)
      by_cases h3 : z = m
      · rw [if_pos h3, hr, h3, hT]; exact Or.inr rfl
      · rw [if_neg h3]; exact hf z hz
    · rw [if_neg h2]; exact hf z hz
/-- only what is remembered has changed, and how marks are chained on a line -/
def bQ (cA : Nat → ClassId) (h h' : hp_T) (bl n : Nat) (as : List Nat) (D : Nat → mD) (TB : Nat → Nat) : Prop :=
  (∃ f', h' bl = some (k_in (cA 0) n f') ∧ bV n TB f') ∧ (∃ bol', mc h' D bol' as) ∧ ∀ a, a ∉ as → a ≠ bl → h' a = h a
theorem bQ.keep {cA : Nat → ClassId} {h h' : hp_T} {bl n : Nat} {as : List Nat} {D : Nat → mD} {TB : Nat → Nat} {bol : Nat → Option Nat} {f : Nat → Int32} (hq : bQ cA h h' bl n as D TB) (hm : mc h D bol as) (hb : h bl = some (k_in (cA 0) n f)) {x : Nat} {e : va_E} (hx : h x = some e) (hk : hp_kind e ≠ (0, 3)) (hn : x ≠ bl) : h' x = some e := by
  rw [hq.2.2 x (hm.notin hx hk) hn]
  exact hx
theorem bQ.nm2 {cA : Nat → ClassId} {h h' : hp_T} {bl n : Nat} {as : List Nat} {D : Nat → mD} {TB : Nat → Nat} {bol : Nat → Option Nat} {f : Nat → Int32} (hq : bQ cA h h' bl n as D TB) (hm : mc h D bol as) (hb : h bl = some (k_in (cA 0) n f)) : nm2 h h' := fun _ _ hx hk hk2 => hq.keep hm hb hx hk (fun z => hk2 (by rw [z, hb] at hx; rw [← Option.some.inj hx]; rfl))
theorem bQ.tr {cA : Nat → ClassId} {h h1 h' : hp_T} {bl n : Nat} {as : List Nat} {D : Nat → mD} {TB : Nat → Nat} (h01 : bQ cA h h1 bl n as D TB) (h12 : bQ cA h1 h' bl n as D TB) : bQ cA h h' bl n as D TB := ⟨h12.1, h12.2.1, fun a ha hb => (h12.2.2 a ha hb).trans (h01.2.2 a ha hb)⟩
def tsum (TB : Nat → Nat) (lo : Nat) : Nat → Nat
  | 0 => 0
  | j + 1 => tsum TB lo j + TB (lo + j)

set_option maxHeartbeats 4000000 in
set_option maxRecDepth 100000 in
theorem u_Pl_blacksOf (l : Launch) (dC : Nat → ClassId) (dI : Nat → Nat → Nat) (cA : Nat → ClassId) (A : Nat → Prop) (h : hp_T) (pil : Nat) (bl st n : Nat) (sz : Int32) (as : List Nat) (D : Nat → mD) (bol : Nat → Option Nat) (B : Nat → Int32 × Int32 × Int32 × Int32) (FI : Nat → Nat → Int64) (PI : Nat → Option pI) (f g : Nat → Int32) (FR TX TB : Nat → Nat) (y : Nat)  (hnd : as.Nodup) (hm : mc h D bol as) (hok : ∀ a ∈ as, mk_ok h (cA 1) (D a) (B a) (FI a) (PI a)) (h_pil : h pil = some (k_Pl (nI n) bl st sz as.head?)) (hn : 1 ≤ n ∧ n ≤ 5100) (ne_bl_st : bl ≠ st) (h_bl : h bl = some (k_in (cA 0) n f)) (h_st : h st = some (k_in (cA 2) n g)) (hFR : ∀ a, a < n → FR a ≤ 5100 ∧ q_fr B (as.filter (q_me B (nI a))) 5100 / 64 = nI (FR a)) (hTX : ∀ a, a < n → TX a ≤ 5100 ∧ q_tx B (as.filter (q_me B (nI a))) 0 / 64 = nI (TX a)) (hV : bV n TB f) (hT : ∀ y, y < n → q_cb D B FI PI as FR TX y = nI (TB y)) (hL : ∀ y, 16 ≤ y → y < n → q_la g y 16 = true → TB y = TB (y - 16)) (hy : y < n) : Met l y_Pl_blacksOf (.code y_Pl_blacksOf prog_6_method_6_code 3 (some .int) :: BIG) ({ frames := 5, cells := 0, slots := 0, locals := 131 }) (va_Pc [.ref pil, .int (nI y)] (hp_I (gg dC dI cA) A h)) (hp_QW (gg dC dI cA) A hp_mi (fun r h' => r = nI (TB y) ∧ bQ cA h h' bl n as D TB)) 0 0 A := by
  refine Met_QW (c_Pl_blacksOf l dC dI cA A h pil bl st n sz as D bol B FI PI f g FR TX y hnd hm hok h_pil hn hy ne_bl_st h_bl h_st hFR hTX) (fun r h' q => ?_)
  obtain ⟨q1, q2, q3, q4⟩ := q
  obtain ⟨a1, a2⟩ := al_ok (f := f) hL y y hy
  have hr := q1.trans (bv_ok hV hT a1 a2)
  exact ⟨hr, ⟨_, q2, bu_ok hV a2 hr⟩, q3, q4⟩

set_option maxHeartbeats 4000000 in
set_option maxRecDepth 100000 in
theorem c_BP_count (l : Launch) (dC : Nat → ClassId) (dI : Nat → Nat → Nat) (cA : Nat → ClassId) (A : Nat → Prop) (h : hp_T) (x sheet shp pil ink clip : Nat) (bf : Nat → Int32) (bl st n : Nat) (sz : Int32) (as : List Nat) (D : Nat → mD) (bol : Nat → Option Nat) (B : Nat → Int32 × Int32 × Int32 × Int32) (FI : Nat → Nat → Int64) (PI : Nat → Option pI) (f g : Nat → Int32) (FR TX TB : Nat → Nat) (lo mm : Nat) (y0 y1 : Int32) (h_x : h x = some (k_BP bf sheet shp pil ink clip)) (hnd : as.Nodup) (hm : mc h D bol as) (hok : ∀ a ∈ as, mk_ok h (cA 1) (D a) (B a) (FI a) (PI a)) (h_pil : h pil = some (k_Pl (nI n) bl st sz as.head?)) (hn : 1 ≤ n ∧ n ≤ 5100) (ne_bl_st : bl ≠ st) (h_bl : h bl = some (k_in (cA 0) n f)) (h_st : h st = some (k_in (cA 2) n g)) (hFR : ∀ a, a < n → FR a ≤ 5100 ∧ q_fr B (as.filter (q_me B (nI a))) 5100 / 64 = nI (FR a)) (hTX : ∀ a, a < n → TX a ≤ 5100 ∧ q_tx B (as.filter (q_me B (nI a))) 0 / 64 = nI (TX a)) (hV : bV n TB f) (hT : ∀ y, y < n → q_cb D B FI PI as FR TX y = nI (TB y)) (hL : ∀ y, 16 ≤ y → y < n → q_la g y 16 = true → TB y = TB (y - 16)) (hb1 : bf 1 = nI n) (hlo : q_max y0 0 = nI lo) (hmm : ∀ j, j ≤ mm → (q_min y1 (bf 1 - 1) < nI (lo + j) ↔ j = mm)) (hb : ∀ j, j < mm → lo + j < n) : Met l y_BP_count (.code y_BP_count prog_1_method_14_code 6 (some .int) :: BIG) ({ frames := 6, cells := 0, slots := 0, locals := 153 }) (va_Pc [.ref x, .int y0, .int y1] (hp_I (gg dC dI cA) A h)) (hp_QW (gg dC dI cA) A hp_mi (fun r h' => r = nI (tsum TB lo mm) ∧ bQ cA h h' bl n as D TB)) 0 0 A := by
  refine hp_enter (by decide) (Nat.le_of_ble_eq_true rfl) ?_
  intro p e s m below meth c ls S hr hlk hin hI hl
  have hl : lv_has ls 6 [(0, .ref x), (1, .int y0), (2, .int y1)] := hl
  have hJ := hI.J
  refine lv_iload_n S.1 S.2.1 d_BP_count_0 rfl (lv_at hl 2 rfl) ?_
  refine lv_aload_n S.1 S.2.1 d_BP_count_1 rfl (lv_at hl 0 rfl) ?_
  refine hp_get S zz hJ h_x f_BP_17 rfl d_BP_count_2 ?_
  refine lv_iconst (v := 1) S.1 S.2.1 d_BP_count_5 (by decide) ?_
  refine lv_isub S.1 S.2.1 d_BP_count_6 ?_
  refine hp_min S l_BP_162 hl.1 d_BP_count_7 ⟨nl rfl, nl rfl, nl rfl, nl rfl⟩ ?_
  refine lv_topi (fun l3 e9_l3 => ?_)
  have e_l3 : l3 = q_min y1 (bf 1 - 1) := e9_l3
  refine lv_istore_n (lv' := [(3, .int l3), (0, .ref x), (1, .int y0), (2, .int y1)]) S.1 S.2.1 d_BP_count_10 rfl hl (by decide) rfl (fun ls hl => ?_)
  refine lv_iconst (v := 0) S.1 S.2.1 d_BP_count_11 (by decide) ?_
  refine lv_istore (lv' := [(4, .int 0), (3, .int l3), (0, .ref x), (1, .int y0), (2, .int y1)]) S.1 S.2.1 d_BP_count_12 hl (by decide) rfl (fun ls hl => ?_)
  refine lv_iload_n S.1 S.2.1 d_BP_count_14 rfl (lv_at hl 3 rfl) ?_
  refine lv_iconst (v := 0) S.1 S.2.1 d_BP_count_15 (by decide) ?_
  refine hp_max S l_BP_168 hl.1 d_BP_count_16 ⟨nl rfl, nl rfl, nl rfl, nl rfl⟩ ?_
  rw [show (if y0 < 0 then 0 else y0) = nI lo from hlo]
  refine lv_istore (lv' := [(5, .int (nI lo)), (4, .int 0), (3, .int l3), (0, .ref x), (1, .int y0), (2, .int y1)]) S.1 S.2.1 d_BP_count_19 hl (by decide) rfl (fun ls hl => ?_)
  have LP : ∀ (n_ j : Nat) (hc : hp_T) (H : Heap) (locs : List Loc) (ls : Array Slot), j + n_ = mm → bQ cA h hc bl n as D TB → hp_J (gg dC dI cA) A hc s H locs → lv_has ls 6 [(5, .int (nI (lo + j))), (4, .int (nI (tsum TB lo j))), (0, .ref x), (3, .int l3)] → W p l e ({ frames := 6, cells := 0, slots := 0, locals := 153 }) s m ([.ref x, .int y0, .int y1] : List Value).toArray below meth c H locs 0 0 (MQ below (hp_QW (gg dC dI cA) A hp_mi (fun r h' => r = nI (tsum TB lo mm) ∧ bQ cA h h' bl n as D TB)) ([.ref x, .int y0, .int y1] : List Value).toArray s 0 0 A) (F0 m 21 ls []) := by
    intro n_
    induction n_ with
    | zero =>
      intro j hc H locs ls hu_ hQ hJ hl
      have hQ9 := hQ
      obtain ⟨⟨f', h_bl', hV'⟩, ⟨bol', hm'⟩, hfr'⟩ := hQ9
      have h_x9 := hQ.keep hm h_bl h_x (show ((0, 0) : Nat × Nat) ≠ (0, 3) by decide) (hp_ne h_x h_bl (show ((0, 0) : Nat × Nat) ≠ (1, 0) by decide))
      have h_pil9 := hQ.keep hm h_bl h_pil (show ((0, 5) : Nat × Nat) ≠ (0, 3) by decide) (hp_ne h_pil h_bl (show ((0, 5) : Nat × Nat) ≠ (1, 0) by decide))
      have h_st9 := hQ.keep hm h_bl h_st (show ((1, 0) : Nat × Nat) ≠ (0, 3) by decide) (Ne.symm ne_bl_st)
      have hok9 : ∀ a ∈ as, mk_ok hc (cA 1) (D a) (B a) (FI a) (PI a) := fun a ha => (hok a ha).keep2 (hQ.nm2 hm h_bl)
      have h0_x := h_x
      have h_x := h_x9
      have h0_pil := h_pil
      have h_pil := h_pil9
      refine lv_iload S.1 S.2.1 d_BP_count_21 (lv_at hl 0 rfl) ?_
      refine lv_iload_n S.1 S.2.1 d_BP_count_23 rfl (lv_at hl 3 rfl) ?_
      rw [e_l3]
      refine lv_icmp_gt (tgt := 47) S.1 S.2.1 d_BP_count_24 (by decide) (fun _ => ?_) (fun q => absurd ((hmm j (by omega)).mpr (by omega)) q)
      refine lv_iload S.1 S.2.1 d_BP_count_47 (lv_at hl 1 rfl) ?_
      exact hp_retWi S hJ hr hlk d_BP_count_49 (by decide) ⟨congrArg (fun z => nI (tsum TB lo z)) (by omega), hQ⟩
    | succ n_ ih =>
      intro j hc H locs ls hu_ hQ hJ hl
      have hQ9 := hQ
      obtain ⟨⟨f', h_bl', hV'⟩, ⟨bol', hm'⟩, hfr'⟩ := hQ9
      have h_x9 := hQ.keep hm h_bl h_x (show ((0, 0) : Nat × Nat) ≠ (0, 3) by decide) (hp_ne h_x h_bl (show ((0, 0) : Nat × Nat) ≠ (1, 0) by decide))
      have h_pil9 := hQ.keep hm h_bl h_pil (show ((0, 5) : Nat × Nat) ≠ (0, 3) by decide) (hp_ne h_pil h_bl (show ((0, 5) : Nat × Nat) ≠ (1, 0) by decide))
      have h_st9 := hQ.keep hm h_bl h_st (show ((1, 0) : Nat × Nat) ≠ (0, 3) by decide) (Ne.symm ne_bl_st)
      have hok9 : ∀ a ∈ as, mk_ok hc (cA 1) (D a) (B a) (FI a) (PI a) := fun a ha => (hok a ha).keep2 (hQ.nm2 hm h_bl)
      have h0_x := h_x
      have h_x := h_x9
      have h0_pil := h_pil
      have h_pil := h_pil9
      refine lv_iload S.1 S.2.1 d_BP_count_21 (lv_at hl 0 rfl) ?_
      refine lv_iload_n S.1 S.2.1 d_BP_count_23 rfl (lv_at hl 3 rfl) ?_
      rw [e_l3]
      refine lv_icmp_gt (tgt := 47) S.1 S.2.1 d_BP_count_24 (by decide) (fun q => absurd ((hmm j (by omega)).mp q) (by omega)) (fun _ => ?_)
      refine lv_iload S.1 S.2.1 d_BP_count_27 (lv_at hl 1 rfl) ?_
      refine lv_aload_n S.1 S.2.1 d_BP_count_29 rfl (lv_at hl 2 rfl) ?_
      refine hp_get S zz hJ h_x f_BP_43 rfl d_BP_count_30 ?_
      refine lv_iload S.1 S.2.1 d_BP_count_33 (lv_at hl 0 rfl) ?_
      refine hp_doneWi hJ (hp_runV S zz0 (u_Pl_blacksOf l dC dI cA A hc pil bl st n sz as D bol' B FI PI f' g FR TX TB (lo + j) hnd hm' hok9 h_pil hn ne_bl_st h_bl' h_st9 hFR hTX hV' hT hL (hb j (by omega))) l_BP_171 (hJ.preV _ h_pil rfl) (by decide) rfl hl.1 rfl (nl rfl) d_BP_count_35 (by decide)) (fun r9 h9 H locs hx9 hJ => ?_)
      obtain ⟨e_r9, hQ8⟩ := hx9
      have hQ7 := hQ.tr hQ8
      refine lv_iadd S.1 S.2.1 d_BP_count_38 ?_
      rw [e_r9, nI_add]
      refine lv_istore (lv' := [(4, .int (nI (tsum TB lo (j + 1)))), (5, .int (nI (lo + j))), (0, .ref x), (3, .int l3)]) S.1 S.2.1 d_BP_count_39 hl (by decide) rfl (fun ls hl => ?_)
      refine lv_iinc (v := nI (lo + (j + 1))) (lv' := [(5, .int (nI (lo + (j + 1)))), (4, .int (nI (tsum TB lo (j + 1)))), (0, .ref x), (3, .int l3)]) S.1 S.2.1 d_BP_count_41 hl (k := 1) rfl (nI_1 _) (by decide) rfl (fun ls hl => ?_)
      refine lv_goto (tgt := 21) S.1 S.2.1 d_BP_count_44 (by decide) ?_
      exact ih (j + 1) _ _ _ ls (by omega) hQ7 hJ (lv_sub hl [0, 1, 2, 3] rfl)
  exact LP mm 0 _ _ _ ls (by omega) ⟨⟨f, h_bl, hV⟩, ⟨bol, hm⟩, fun _ _ _ => rfl⟩ hJ (lv_sub hl [0, 1, 3, 2] rfl)

set_option maxHeartbeats 4000000 in
set_option maxRecDepth 100000 in
theorem c_BP_top (l : Launch) (dC : Nat → ClassId) (dI : Nat → Nat → Nat) (cA : Nat → ClassId) (A : Nat → Prop) (h : hp_T) (x sheet shp pil ink clip : Nat) (bf : Nat → Int32) (bl st n : Nat) (sz : Int32) (as : List Nat) (D : Nat → mD) (bol : Nat → Option Nat) (B : Nat → Int32 × Int32 × Int32 × Int32) (FI : Nat → Nat → Int64) (PI : Nat → Option pI) (f g : Nat → Int32) (FR TX TB : Nat → Nat) (lo : Nat) (y0 : Int32) (h_x : h x = some (k_BP bf sheet shp pil ink clip)) (hnd : as.Nodup) (hm : mc h D bol as) (hok : ∀ a ∈ as, mk_ok h (cA 1) (D a) (B a) (FI a) (PI a)) (h_pil : h pil = some (k_Pl (nI n) bl st sz as.head?)) (hn : 1 ≤ n ∧ n ≤ 5100) (ne_bl_st : bl ≠ st) (h_bl : h bl = some (k_in (cA 0) n f)) (h_st : h st = some (k_in (cA 2) n g)) (hFR : ∀ a, a < n → FR a ≤ 5100 ∧ q_fr B (as.filter (q_me B (nI a))) 5100 / 64 = nI (FR a)) (hTX : ∀ a, a < n → TX a ≤ 5100 ∧ q_tx B (as.filter (q_me B (nI a))) 0 / 64 = nI (TX a)) (hV : bV n TB f) (hT : ∀ y, y < n → q_cb D B FI PI as FR TX y = nI (TB y)) (hL : ∀ y, 16 ≤ y → y < n → q_la g y 16 = true → TB y = TB (y - 16)) (hb1 : bf 1 = nI n) (hTB : ∀ y, y < n → TB y < 2147483648) (hlo : q_max y0 0 = nI lo ∧ lo < 2147483648) : Met l y_BP_top (.code y_BP_top prog_1_method_15_code 3 (some .int) :: BIG) ({ frames := 6, cells := 0, slots := 0, locals := 153 }) (va_Pc [.ref x, .int y0] (hp_I (gg dC dI cA) A h)) (hp_QW (gg dC dI cA) A hp_mi (fun r h' => r = q_tp TB lo (n - lo) ∧ bQ cA h h' bl n as D TB)) 0 0 A := by
  refine hp_enter (by decide) (Nat.le_of_ble_eq_true rfl) ?_
  intro p e s m below meth c ls S hr hlk hin hI hl
  have hl : lv_has ls 3 [(0, .ref x), (1, .int y0)] := hl
  have hJ := hI.J
  refine lv_iload_n S.1 S.2.1 d_BP_top_0 rfl (lv_at hl 1 rfl) ?_
  refine lv_iconst (v := 0) S.1 S.2.1 d_BP_top_1 (by decide) ?_
  refine hp_max S l_BP_168 hl.1 d_BP_top_2 ⟨nl rfl, nl rfl, nl rfl, nl rfl⟩ ?_
  rw [show (if y0 < 0 then 0 else y0) = nI lo from hlo.1]
  refine lv_istore_n (lv' := [(2, .int (nI lo)), (0, .ref x), (1, .int y0)]) S.1 S.2.1 d_BP_top_5 rfl hl (by decide) rfl (fun ls hl => ?_)
  have LP : ∀ (m_ y : Nat) (hc : hp_T) (H : Heap) (locs : List Loc) (ls : Array Slot), n - y = m_ → y < 2147483648 → q_tp TB y m_ = q_tp TB lo (n - lo) → bQ cA h hc bl n as D TB → hp_J (gg dC dI cA) A hc s H locs → lv_has ls 3 [(2, .int (nI y)), (0, .ref x)] → W p l e ({ frames := 6, cells := 0, slots := 0, locals := 153 }) s m ([.ref x, .int y0] : List Value).toArray below meth c H locs 0 0 (MQ below (hp_QW (gg dC dI cA) A hp_mi (fun r h' => r = q_tp TB lo (n - lo) ∧ bQ cA h h' bl n as D TB)) ([.ref x, .int y0] : List Value).toArray s 0 0 A) (F0 m 6 ls []) := by
    intro m_
    induction m_ with
    | zero =>
      intro y hc H locs ls hu hy2 hq hQ hJ hl
      have hQ9 := hQ
      obtain ⟨⟨f', h_bl', hV'⟩, ⟨bol', hm'⟩, hfr'⟩ := hQ9
      have h_x9 := hQ.keep hm h_bl h_x (show ((0, 0) : Nat × Nat) ≠ (0, 3) by decide) (hp_ne h_x h_bl (show ((0, 0) : Nat × Nat) ≠ (1, 0) by decide))
      have h_pil9 := hQ.keep hm h_bl h_pil (show ((0, 5) : Nat × Nat) ≠ (0, 3) by decide) (hp_ne h_pil h_bl (show ((0, 5) : Nat × Nat) ≠ (1, 0) by decide))
      have h_st9 := hQ.keep hm h_bl h_st (show ((1, 0) : Nat × Nat) ≠ (0, 3) by decide) (Ne.symm ne_bl_st)
      have hok9 : ∀ a ∈ as, mk_ok hc (cA 1) (D a) (B a) (FI a) (PI a) := fun a ha => (hok a ha).keep2 (hQ.nm2 hm h_bl)
      have h0_x := h_x
      have h_x := h_x9
      have h0_pil := h_pil
      have h_pil := h_pil9
      refine lv_iload_n S.1 S.2.1 d_BP_top_6 rfl (lv_at hl 0 rfl) ?_
      refine lv_aload_n S.1 S.2.1 d_BP_top_7 rfl (lv_at hl 1 rfl) ?_
      refine hp_get S zz hJ h_x f_BP_17 rfl d_BP_top_8 ?_
      rw [hb1]
      refine lv_icmp_ge (tgt := 33) S.1 S.2.1 d_BP_top_11 (by decide) (fun _ => ?_) (fun q => absurd (nI_le (a := n) (b := y) (by omega) (by omega)) q)
      refine lv_iconst (v := (-1)) S.1 S.2.1 d_BP_top_33 (by decide) ?_
      exact hp_retWi S hJ hr hlk d_BP_top_34 (by decide) ⟨by rw [← hq]; rfl, hQ⟩
    | succ m_ ih =>
      intro y hc H locs ls hu hy2 hq hQ hJ hl
      have hQ9 := hQ
      obtain ⟨⟨f', h_bl', hV'⟩, ⟨bol', hm'⟩, hfr'⟩ := hQ9
      have h_x9 := hQ.keep hm h_bl h_x (show ((0, 0) : Nat × Nat) ≠ (0, 3) by decide) (hp_ne h_x h_bl (show ((0, 0) : Nat × Nat) ≠ (1, 0) by decide))
      have h_pil9 := hQ.keep hm h_bl h_pil (show ((0, 5) : Nat × Nat) ≠ (0, 3) by decide) (hp_ne h_pil h_bl (show ((0, 5) : Nat × Nat) ≠ (1, 0) by decide))
      have h_st9 := hQ.keep hm h_bl h_st (show ((1, 0) : Nat × Nat) ≠ (0, 3) by decide) (Ne.symm ne_bl_st)
      have hok9 : ∀ a ∈ as, mk_ok hc (cA 1) (D a) (B a) (FI a) (PI a) := fun a ha => (hok a ha).keep2 (hQ.nm2 hm h_bl)
      have h0_x := h_x
      have h_x := h_x9
      have h0_pil := h_pil
      have h_pil := h_pil9
      refine lv_iload_n S.1 S.2.1 d_BP_top_6 rfl (lv_at hl 0 rfl) ?_
      refine lv_aload_n S.1 S.2.1 d_BP_top_7 rfl (lv_at hl 1 rfl) ?_
      refine hp_get S zz hJ h_x f_BP_17 rfl d_BP_top_8 ?_
      rw [hb1]
      refine lv_icmp_ge (tgt := 33) S.1 S.2.1 d_BP_top_11 (by decide) (fun q => absurd q (nI_ge (a := y) (b := n) (by omega) (by omega))) (fun _ => ?_)
      refine lv_aload_n S.1 S.2.1 d_BP_top_14 rfl (lv_at hl 1 rfl) ?_
      refine hp_get S zz hJ h_x f_BP_43 rfl d_BP_top_15 ?_
      refine lv_iload_n S.1 S.2.1 d_BP_top_18 rfl (lv_at hl 0 rfl) ?_
      refine hp_doneWi hJ (hp_runV S zz0 (u_Pl_blacksOf l dC dI cA A hc pil bl st n sz as D bol' B FI PI f' g FR TX TB (y) hnd hm' hok9 h_pil hn ne_bl_st h_bl' h_st9 hFR hTX hV' hT hL (by omega)) l_BP_171 (hJ.preV _ h_pil rfl) (by decide) rfl hl.1 rfl (nl rfl) d_BP_top_19 (by decide)) (fun r9 h9 H locs hx9 hJ => ?_)
      obtain ⟨e_r9, hQ8⟩ := hx9
      have hQ7 := hQ.tr hQ8
      refine lv_if_le (tgt := 27) S.1 S.2.1 d_BP_top_22 (by decide) (fun c_22 => ?_) (fun c_22 => ?_)
      · refine lv_iinc (v := nI (y + 1)) (lv' := [(2, .int (nI (y + 1))), (0, .ref x)]) S.1 S.2.1 d_BP_top_27 hl (k := 0) rfl (nI_1 _) (by decide) rfl (fun ls hl => ?_)
        refine lv_goto (tgt := 6) S.1 S.2.1 d_BP_top_30 (by decide) ?_
        exact ih (y + 1) _ _ _ ls (by omega) (by omega) (by rw [← hq]; exact (q_tp_f (fun z => absurd (e_r9 ▸ c_22) (nI_nle (n := TB y) z (hTB y (by omega))))).symm) hQ7 hJ (lv_sub hl [0, 1] rfl)
      · refine lv_iload_n S.1 S.2.1 d_BP_top_25 rfl (lv_at hl 0 rfl) ?_
        exact hp_retWi S hJ hr hlk d_BP_top_26 (by decide) ⟨by rw [← hq]; exact (q_tp_t (Nat.pos_of_ne_zero (fun z => c_22 (by rw [e_r9, z]; decide)))).symm, hQ7⟩
  exact LP (n - lo) lo _ _ _ ls rfl hlo.2 rfl ⟨⟨f, h_bl, hV⟩, ⟨bol, hm⟩, fun _ _ _ => rfl⟩ hJ (lv_sub hl [0, 1] rfl)

