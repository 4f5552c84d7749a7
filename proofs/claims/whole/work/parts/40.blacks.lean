/-! How many black dots a line has, remembered. -/
def q_al (f g : Nat → Int32) (n : Nat) : Nat → Nat → Nat
  | 0, y => y
  | k + 1, y => if 16 ≤ y ∧ f y = -1 ∧ y < n ∧ q_la g y 16 = true then q_al f g n k (y - 16) else y
theorem q_al_t {f g : Nat → Int32} {n k y : Nat} (h : 16 ≤ y ∧ f y = -1 ∧ y < n ∧ q_la g y 16 = true) : q_al f g n (k + 1) y = q_al f g n k (y - 16) := if_pos h
theorem q_al_f {f g : Nat → Int32} {n k y : Nat} (h : ¬ (16 ≤ y ∧ f y = -1 ∧ y < n ∧ q_la g y 16 = true)) : q_al f g n k y = y := by
  cases k with
  | zero => rfl
  | succ k => exact if_neg h
def q_bv (f cb : Nat → Int32) (m : Nat) : Int32 := if f m = -1 then cb m else f m
def q_bu (f : Nat → Int32) (m y : Nat) (r : Int32) : Nat → Int32 := upd (if f m = -1 then upd f m r else f) y r
def q_cb (D : Nat → mD) (B : Nat → Int32 × Int32 × Int32 × Int32) (FI : Nat → Nat → Int64) (PI : Nat → Option pI) (as : List Nat) (FR TX : Nat → Nat) (a : Nat) : Int32 := q_sm (fun k => q_bc (q_wu (q_X D B FI PI (nI a) (nI k)) (as.filter (q_me B (nI a))) (-1) 0)) (FR a) (TX a + 1 - FR a)
theorem mc.keep {h h' : hp_T} {D : Nat → mD} {bol : Nat → Option Nat} {as : List Nat} (hm : mc h D bol as) (hk : ∀ a ∈ as, h' a = h a) : mc h' D bol as := by
  intro P a r he
  rw [hk a (by rw [he]; exact List.mem_append_right _ List.mem_cons_self)]
  exact hm P a r he
theorem mc.notin {h : hp_T} {D : Nat → mD} {bol : Nat → Option Nat} {as : List Nat} (hm : mc h D bol as) {x : Nat} {e : va_E} (hx : h x = some e) (hk : hp_kind e ≠ (0, 3)) : x ∉ as := by
  intro ha
  obtain ⟨P, r, he⟩ := List.append_of_mem ha
  have := hm P x r he
  rw [hx] at this
  exact hk (by rw [Option.some.inj this]; rfl)

theorem nI_m16 {a : Nat} (h : 16 ≤ a) : nI a + (-16) = nI (a - 16) := by
  have : nI a - nI 16 = nI (a - 16) := pk_sub h
  rw [← this, Int32.sub_eq_add_neg]
  rfl

set_option maxHeartbeats 4000000 in
set_option maxRecDepth 100000 in
theorem c_Pl_blacksOf (l : Launch) (dC : Nat → ClassId) (dI : Nat → Nat → Nat) (cA : Nat → ClassId) (A : Nat → Prop) (h : hp_T) (t bl st n : Nat) (sz : Int32) (as : List Nat) (D : Nat → mD) (bol : Nat → Option Nat) (B : Nat → Int32 × Int32 × Int32 × Int32) (FI : Nat → Nat → Int64) (PI : Nat → Option pI) (f g : Nat → Int32) (FR TX : Nat → Nat) (y : Nat) (hnd : as.Nodup) (hm : mc h D bol as) (hok : ∀ a ∈ as, mk_ok h (cA 1) (D a) (B a) (FI a) (PI a)) (h_t : h t = some (k_Pl (nI n) bl st sz as.head?)) (hn : 1 ≤ n ∧ n ≤ 5100) (hy : y < n) (ne_bl_st : bl ≠ st) (h_bl : h bl = some (k_in (cA 0) n f)) (h_st : h st = some (k_in (cA 2) n g)) (hFR : ∀ a, a < n → FR a ≤ 5100 ∧ q_fr B (as.filter (q_me B (nI a))) 5100 / 64 = nI (FR a)) (hTX : ∀ a, a < n → TX a ≤ 5100 ∧ q_tx B (as.filter (q_me B (nI a))) 0 / 64 = nI (TX a)) : Met l y_Pl_blacksOf (.code y_Pl_blacksOf prog_6_method_6_code 3 (some .int) :: BIG) ({ frames := 5, cells := 0, slots := 0, locals := 131 }) (va_Pc [.ref t, .int (nI y)] (hp_I (gg dC dI cA) A h)) (hp_QW (gg dC dI cA) A hp_mi (fun r h' => r = q_bv f (q_cb D B FI PI as FR TX) (q_al f g n y y) ∧ h' bl = some (k_in (cA 0) n (q_bu f (q_al f g n y y) y r)) ∧ (∃ bol', mc h' D bol' as) ∧ ∀ a, a ∉ as → a ≠ bl → h' a = h a)) 0 0 A := by
  refine hp_enter (by decide) (Nat.le_of_ble_eq_true rfl) ?_
  intro p e s m below meth c ls S hr hlk hin hI hl
  have hl : lv_has ls 3 [(0, .ref t), (1, .int (nI y))] := hl
  have hJ := hI.J
  refine lv_iconst (v := 0) S.1 S.2.1 d_Pl_blacksOf_0 (by decide) ?_
  refine lv_iload_n S.1 S.2.1 d_Pl_blacksOf_1 rfl (lv_at hl 1 rfl) ?_
  refine lv_aload_n S.1 S.2.1 d_Pl_blacksOf_2 rfl (lv_at hl 0 rfl) ?_
  refine hp_get S zz hJ h_t f_Pl_9 rfl d_Pl_blacksOf_3 ?_
  refine lv_iconst (v := 1) S.1 S.2.1 d_Pl_blacksOf_6 (by decide) ?_
  refine lv_isub S.1 S.2.1 d_Pl_blacksOf_7 ?_
  refine hp_doneR (hp_runN S zz hJ.2.1 (c_BP_isWithin l _ _ _) l_Pl_74 (hp_pre0 _) (by decide) rfl hl.1 rfl (nl rfl) d_Pl_blacksOf_8 (by decide)) ?_
  refine lv_if_ne (tgt := 16) S.1 S.2.1 d_Pl_blacksOf_11 (by decide) (fun _ => ?_) (fun q => absurd q (q_is_ne.mpr ⟨nI_pos' (by omega), by rw [show (1 : Int32) = nI 1 from rfl, pk_sub hn.1]; exact nI_le (by omega) (by omega)⟩))
  refine lv_iload_n S.1 S.2.1 d_Pl_blacksOf_16 rfl (lv_at hl 1 rfl) ?_
  refine lv_istore_n (lv' := [(2, .int (nI y)), (0, .ref t), (1, .int (nI y))]) S.1 S.2.1 d_Pl_blacksOf_17 rfl hl (by decide) rfl (fun ls hl => ?_)
  obtain ⟨m_, em_⟩ : ∃ z, z = q_al f g n y y := ⟨_, rfl⟩
  have EX : ∀ (a : Nat) (ls : Array Slot), a < n → a = m_ → lv_has ls 3 [(2, .int (nI a)), (0, .ref t), (1, .int (nI y))] → W p l e ({ frames := 5, cells := 0, slots := 0, locals := 131 }) s m ([.ref t, .int (nI y)] : List Value).toArray below meth c s.heap [] 0 0 (MQ below (hp_QW (gg dC dI cA) A hp_mi (fun r h' => r = q_bv f (q_cb D B FI PI as FR TX) (q_al f g n y y) ∧ h' bl = some (k_in (cA 0) n (q_bu f (q_al f g n y y) y r)) ∧ (∃ bol', mc h' D bol' as) ∧ ∀ a, a ∉ as → a ≠ bl → h' a = h a)) ([.ref t, .int (nI y)] : List Value).toArray s 0 0 A) (F0 m 48 ls []) := by
    intro a ls han ha hl
    refine lv_aload_n S.1 S.2.1 d_Pl_blacksOf_48 rfl (lv_at hl 1 rfl) ?_
    refine hp_get S zz hJ h_t f_Pl_15 rfl d_Pl_blacksOf_49 ?_
    refine lv_iload_n S.1 S.2.1 d_Pl_blacksOf_52 rfl (lv_at hl 0 rfl) ?_
    refine hp_iald S hJ 0 h_bl rfl (vp_in_nI (by omega) (by omega)) d_Pl_blacksOf_53 ?_
    rw [nI_clamp (by omega)]
    refine lv_iconst (v := (-1)) S.1 S.2.1 d_Pl_blacksOf_54 (by decide) ?_
    refine lv_icmp_ne (tgt := 69) S.1 S.2.1 d_Pl_blacksOf_55 (by decide) (fun c_55 => ?_) (fun c_55 => ?_)
    · refine lv_aload_n S.1 S.2.1 d_Pl_blacksOf_69 rfl (lv_at hl 1 rfl) ?_
      refine hp_get S zz hJ h_t f_Pl_15 rfl d_Pl_blacksOf_70 ?_
      refine lv_iload_n S.1 S.2.1 d_Pl_blacksOf_73 rfl (lv_at hl 2 rfl) ?_
      refine lv_aload_n S.1 S.2.1 d_Pl_blacksOf_74 rfl (lv_at hl 1 rfl) ?_
      refine hp_get S zz hJ h_t f_Pl_15 rfl d_Pl_blacksOf_75 ?_
      refine lv_iload_n S.1 S.2.1 d_Pl_blacksOf_78 rfl (lv_at hl 0 rfl) ?_
      refine hp_iald S hJ 0 h_bl rfl (vp_in_nI (by omega) (by omega)) d_Pl_blacksOf_79 ?_
      rw [nI_clamp (by omega)]
      refine hp_iast S hJ 0 h_bl rfl (vp_in_nI (by omega) (by omega)) d_Pl_blacksOf_80 (fun H locs hJ => ?_)
      rw [nI_clamp (by omega)] at hJ
      obtain ⟨h3, eh3⟩ : ∃ z, z = hp_up h bl (k_in (cA 0) n (upd f y (f a))) := ⟨_, rfl⟩
      have hJ := hJ.cast eh3
      have h0_bl := h_bl
      have h_t : h3 t = some (.inr (5, [.int (nI n), .ref bl, .ref st, .int sz, va_rf (as.head?)])) := by rw [eh3]; exact hp_up_k (hp_ne h_t h0_bl (show ((0, 5) : Nat × Nat) ≠ (1, 0) by decide)) h_t
      have h_st : h3 st = some (k_in (cA 2) n g) := by rw [eh3]; exact hp_up_k (Ne.symm ne_bl_st) h_st
      have h_bl : h3 bl = some (k_in (cA 0) n (upd f y (f a))) := by rw [eh3]; exact hp_up_s _ _ _
      refine lv_aload_n S.1 S.2.1 d_Pl_blacksOf_81 rfl (lv_at hl 1 rfl) ?_
      refine hp_get S zz hJ h_t f_Pl_15 rfl d_Pl_blacksOf_82 ?_
      refine lv_iload_n S.1 S.2.1 d_Pl_blacksOf_85 rfl (lv_at hl 2 rfl) ?_
      refine hp_iald S hJ 0 h_bl rfl (vp_in_nI (by omega) (by omega)) d_Pl_blacksOf_86 ?_
      rw [nI_clamp (by omega), pk_us]
      refine hp_retWi S hJ hr hlk d_Pl_blacksOf_87 (by decide) ⟨?_, ?_, ⟨bol, ?_⟩, ?_⟩
      · rw [← em_, ← ha]; unfold q_bv; rw [if_neg c_55]
      · rw [h_bl, ← em_, ← ha]; unfold q_bu; rw [if_neg c_55]
      · have hbn : bl ∉ as := hm.notin h0_bl (show ((1, 0) : Nat × Nat) ≠ (0, 3) by decide)
        exact hm.keep (fun z hz => by have hzb : z ≠ bl := (fun q9 => hbn (q9 ▸ hz)); rw [eh3, hp_up_n hzb])
      · intro z hz hzb
        rw [eh3, hp_up_n hzb]
    · refine lv_aload_n S.1 S.2.1 d_Pl_blacksOf_58 rfl (lv_at hl 1 rfl) ?_
      refine hp_get S zz hJ h_t f_Pl_15 rfl d_Pl_blacksOf_59 ?_
      refine lv_iload_n S.1 S.2.1 d_Pl_blacksOf_62 rfl (lv_at hl 0 rfl) ?_
      refine lv_aload_n S.1 S.2.1 d_Pl_blacksOf_63 rfl (lv_at hl 1 rfl) ?_
      refine lv_iload_n S.1 S.2.1 d_Pl_blacksOf_64 rfl (lv_at hl 0 rfl) ?_
      refine hp_doneWi hJ (hp_runV S zz0 (c_Pl_countedBlacks l dC dI cA A h t bl st n sz as D bol B FI PI (nI a) (FR a) (TX a) hnd hm hok h_t (hFR a han) (hTX a han)) l_Pl_90 (hJ.preV _ h_t rfl) (by decide) rfl hl.1 rfl (nl rfl) d_Pl_blacksOf_65 (by decide)) (fun rc h1 H locs hx hJ => ?_)
      obtain ⟨erc, bol', hm1, ho1⟩ := hx
      have h_t0 := h_t
      have h_bl0 := h_bl
      have hbn : bl ∉ as := hm.notin h_bl (show ((1, 0) : Nat × Nat) ≠ (0, 3) by decide)
      have h_t : h1 t = some (k_Pl (nI n) bl st sz as.head?) := nm_of hm ho1 _ _ h_t (show ((0, 5) : Nat × Nat) ≠ (0, 3) by decide)
      have h_bl : h1 bl = some (k_in (cA 0) n f) := nm_of hm ho1 _ _ h_bl (show ((1, 0) : Nat × Nat) ≠ (0, 3) by decide)
      refine hp_iast S hJ 0 h_bl rfl (vp_in_nI (by omega) (by omega)) d_Pl_blacksOf_68 (fun H locs hJ => ?_)
      rw [nI_clamp (by omega)] at hJ
      obtain ⟨h2, eh2⟩ : ∃ z, z = hp_up h1 bl (k_in (cA 0) n (upd f a rc)) := ⟨_, rfl⟩
      have hJ := hJ.cast eh2
      have h0_bl := h_bl
      have h_t : h2 t = some (.inr (5, [.int (nI n), .ref bl, .ref st, .int sz, va_rf (as.head?)])) := by rw [eh2]; exact hp_up_k (hp_ne h_t h0_bl (show ((0, 5) : Nat × Nat) ≠ (1, 0) by decide)) h_t
      have h_bl : h2 bl = some (k_in (cA 0) n (upd f a rc)) := by rw [eh2]; exact hp_up_s _ _ _
      refine lv_aload_n S.1 S.2.1 d_Pl_blacksOf_69 rfl (lv_at hl 1 rfl) ?_
      refine hp_get S zz hJ h_t f_Pl_15 rfl d_Pl_blacksOf_70 ?_
      refine lv_iload_n S.1 S.2.1 d_Pl_blacksOf_73 rfl (lv_at hl 2 rfl) ?_
      refine lv_aload_n S.1 S.2.1 d_Pl_blacksOf_74 rfl (lv_at hl 1 rfl) ?_
      refine hp_get S zz hJ h_t f_Pl_15 rfl d_Pl_blacksOf_75 ?_
      refine lv_iload_n S.1 S.2.1 d_Pl_blacksOf_78 rfl (lv_at hl 0 rfl) ?_
      refine hp_iald S hJ 0 h_bl rfl (vp_in_nI (by omega) (by omega)) d_Pl_blacksOf_79 ?_
      rw [nI_clamp (by omega)]
      refine hp_iast S hJ 0 h_bl rfl (vp_in_nI (by omega) (by omega)) d_Pl_blacksOf_80 (fun H locs hJ => ?_)
      rw [nI_clamp (by omega)] at hJ
      obtain ⟨h3, eh3⟩ : ∃ z, z = hp_up h2 bl (k_in (cA 0) n (upd (upd f a rc) y (upd f a rc a))) := ⟨_, rfl⟩
      have hJ := hJ.cast eh3
      have h0_bl := h_bl
      have h_t : h3 t = some (.inr (5, [.int (nI n), .ref bl, .ref st, .int sz, va_rf (as.head?)])) := by rw [eh3]; exact hp_up_k (hp_ne h_t h0_bl (show ((0, 5) : Nat × Nat) ≠ (1, 0) by decide)) h_t
      have h_bl : h3 bl = some (k_in (cA 0) n (upd (upd f a rc) y (upd f a rc a))) := by rw [eh3]; exact hp_up_s _ _ _
      refine lv_aload_n S.1 S.2.1 d_Pl_blacksOf_81 rfl (lv_at hl 1 rfl) ?_
      refine hp_get S zz hJ h_t f_Pl_15 rfl d_Pl_blacksOf_82 ?_
      refine lv_iload_n S.1 S.2.1 d_Pl_blacksOf_85 rfl (lv_at hl 2 rfl) ?_
      refine hp_iald S hJ 0 h_bl rfl (vp_in_nI (by omega) (by omega)) d_Pl_blacksOf_86 ?_
      rw [nI_clamp (by omega), pk_us]
      refine hp_retWi S hJ hr hlk d_Pl_blacksOf_87 (by decide) ⟨?_, ?_, ⟨bol', ?_⟩, ?_⟩
      · rw [← em_, ← ha, pk_us, erc]; unfold q_bv q_cb; rw [if_pos c_55]
      · rw [h_bl, ← em_, ← ha, pk_us]; unfold q_bu; rw [if_pos c_55]
      · exact hm1.keep (fun z hz => by have hzb : z ≠ bl := (fun q9 => hbn (q9 ▸ hz)); rw [eh3, hp_up_n hzb, eh2, hp_up_n hzb])
      · intro z hz hzb
        rw [eh3, hp_up_n hzb, eh2, hp_up_n hzb]
        exact ho1 z hz
  have LP : ∀ (k a : Nat) (ls : Array Slot), a ≤ k → a < n → q_al f g n k a = m_ → lv_has ls 3 [(2, .int (nI a)), (0, .ref t), (1, .int (nI y))] → W p l e ({ frames := 5, cells := 0, slots := 0, locals := 131 }) s m ([.ref t, .int (nI y)] : List Value).toArray below meth c s.heap [] 0 0 (MQ below (hp_QW (gg dC dI cA) A hp_mi (fun r h' => r = q_bv f (q_cb D B FI PI as FR TX) (q_al f g n y y) ∧ h' bl = some (k_in (cA 0) n (q_bu f (q_al f g n y y) y r)) ∧ (∃ bol', mc h' D bol' as) ∧ ∀ a, a ∉ as → a ≠ bl → h' a = h a)) ([.ref t, .int (nI y)] : List Value).toArray s 0 0 A) (F0 m 18 ls []) := by
    intro k
    induction k with
    | zero =>
      intro a ls hak han hq hl
      refine lv_iload_n S.1 S.2.1 d_Pl_blacksOf_18 rfl (lv_at hl 0 rfl) ?_
      refine lv_bipush (v := 16) S.1 S.2.1 d_Pl_blacksOf_19 (by decide) ?_
      refine lv_icmp_lt (tgt := 48) S.1 S.2.1 d_Pl_blacksOf_21 (by decide) (fun _ => ?_) (fun q => absurd (nI_lt (a := a) (b := 16) (by omega) (by decide)) q)
      exact EX a ls han hq (lv_sub hl [0, 1, 2] rfl)
    | succ k ih =>
      intro a ls hak han hq hl
      refine lv_iload_n S.1 S.2.1 d_Pl_blacksOf_18 rfl (lv_at hl 0 rfl) ?_
      refine lv_bipush (v := 16) S.1 S.2.1 d_Pl_blacksOf_19 (by decide) ?_
      refine lv_icmp_lt (tgt := 48) S.1 S.2.1 d_Pl_blacksOf_21 (by decide) (fun c_21 => ?_) (fun c_21 => ?_)
      · exact EX a ls han ((q_al_f (fun q => absurd ((nI_ltI (a := a) (b := 16) (by omega) (by decide)).mp c_21) (by omega))).symm.trans hq) (lv_sub hl [0, 1, 2] rfl)
      · refine lv_aload_n S.1 S.2.1 d_Pl_blacksOf_24 rfl (lv_at hl 1 rfl) ?_
        refine hp_get S zz hJ h_t f_Pl_15 rfl d_Pl_blacksOf_25 ?_
        refine lv_iload_n S.1 S.2.1 d_Pl_blacksOf_28 rfl (lv_at hl 0 rfl) ?_
        refine hp_iald S hJ 0 h_bl rfl (vp_in_nI (by omega) (by omega)) d_Pl_blacksOf_29 ?_
        rw [nI_clamp (by omega)]
        refine lv_iconst (v := (-1)) S.1 S.2.1 d_Pl_blacksOf_30 (by decide) ?_
        refine lv_icmp_ne (tgt := 48) S.1 S.2.1 d_Pl_blacksOf_31 (by decide) (fun c_31 => ?_) (fun c_31 => ?_)
        · exact EX a ls han ((q_al_f (fun q => c_31 q.2.1)).symm.trans hq) (lv_sub hl [0, 1, 2] rfl)
        · refine lv_aload_n S.1 S.2.1 d_Pl_blacksOf_34 rfl (lv_at hl 1 rfl) ?_
          refine lv_iload_n S.1 S.2.1 d_Pl_blacksOf_35 rfl (lv_at hl 0 rfl) ?_
          refine hp_doneR (hp_runV S zz0 (c_Pl_isLikeAbove l dC dI cA A _ t bl st n a sz _ g hn (by omega) h_t h_st) l_Pl_86 (hJ.preV _ h_t rfl) (by decide) rfl hl.1 rfl (nl rfl) d_Pl_blacksOf_36 (by decide)) ?_
          refine lv_if_eq (tgt := 48) S.1 S.2.1 d_Pl_blacksOf_39 (by decide) (fun c_39 => ?_) (fun c_39 => ?_)
          · exact EX a ls han ((q_al_f (fun q => q_is_0.mp c_39 ⟨q.1, q.2.2.1, q.2.2.2⟩)).symm.trans hq) (lv_sub hl [0, 1, 2] rfl)
          · have hla := q_is_ne.mp c_39
            refine lv_iinc (v := nI (a - 16)) (lv' := [(2, .int (nI (a - 16))), (0, .ref t), (1, .int (nI y))]) S.1 S.2.1 d_Pl_blacksOf_42 hl (k := 0) rfl (nI_m16 hla.1) (by decide) rfl (fun ls hl => ?_)
            refine lv_goto (tgt := 18) S.1 S.2.1 d_Pl_blacksOf_45 (by decide) ?_
            exact ih (a - 16) ls (by omega) (by omega) ((q_al_t ⟨hla.1, c_31, hla.2.1, hla.2.2⟩).symm.trans hq) (lv_sub hl [0, 1, 2] rfl)
  exact LP y y ls (Nat.le_refl _) hy em_.symm (lv_sub hl [0, 1, 2] rfl)

