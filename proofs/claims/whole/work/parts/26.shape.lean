/-! Pictures enlarged; shapes; marks made. -/
def q_eP (w d sc : Nat) (f : Nat → Int64) (i j : Nat) : Bool := decide (q_pb (nI d) (nI (pw w)) f (nI (i / sc)) (nI j))
def q_eS (w2 d : Nat) (F : Nat → Int64) (i j : Nat) : Nat → Int64 := q_bl (nI d) (nI (pw w2)) F (nI i) (nI j)
def q_eF (w d sc : Nat) (f : Nat → Int64) : Nat → Int64 := q_to (q_eP w d sc f) (q_eS (w * sc) d) (w * sc) d
abbrev k_Sh (up ta : Nat) (st : Int32) : va_E := .inr (6, [.ref up, .ref ta, .int st])
abbrev k_Mk (pic : Option Nat) (left top : Int32) (part ink : Nat) (so io : Int32) (below bol : Option Nat) : va_E := .inr (3, [va_rf pic, .int left, .int top, .ref part, .ref ink, .int so, .int io, va_rf below, va_rf bol])
theorem sc1 {i sc : Nat} (h : nI sc ≤ 1) (h1 : 1 ≤ sc ∧ sc ≤ 8) : nI i = nI (i / sc) := by
  have h := z_le.mp h
  rw [z_nI (by omega), z_1] at h
  have : sc = 1 := by omega
  rw [this, Nat.div_one]
theorem z01 {x : Int32} (h : x = 0 ∨ x = 1) : narrow .boolean (.int x) = .int x ∧ fits .boolean (.int x) = true := by
  rcases h with h | h <;> subst h <;> exact ⟨rfl, rfl⟩

set_option maxHeartbeats 4000000 in
set_option maxRecDepth 100000 in
theorem c_Pc_enlarged (l : Launch) (dC : Nat → ClassId) (dI : Nat → Nat → Nat) (cA : Nat → ClassId) (A : Nat → Prop) (h : hp_T) (t b w d tl sc : Nat) (f : Nat → Int64) (hw : 1 ≤ w ∧ w ≤ 1024) (hd : 1 ≤ d ∧ d ≤ 1024) (hsc : 1 ≤ sc ∧ sc ≤ 8) (hws : w * sc ≤ 1024) (hs : pw (w * sc) * d ≤ 256) (h_t : h t = some (k_Pc (nI w) (nI d) (nI tl) (nI (pw w)) b)) (h_b : h b = some (k_lo (cA 1) (pw w * d) f)) : Met l y_Pc_enlarged (.code y_Pc_enlarged prog_5_method_6_code 5 (some (.object "BandPainter$Picture")) :: BIG) ({ frames := 3, cells := 2, slots := 261, locals := 68 }) (va_Pc [.ref t, .int (nI sc)] (hp_I (gg dC dI cA) A h)) (hp_QW (gg dC dI cA) A hp_mr (fun r h' => ∃ b2, h r = none ∧ h b2 = none ∧ r ≠ b2 ∧ h' = hp_up (hp_up h b2 (k_lo (cA 1) (pw (w * sc) * d) (q_eF w d sc f))) r (k_Pc (nI (w * sc)) (nI d) (nI sc) (nI (pw (w * sc))) b2))) 2 261 A := by
  refine hp_enter (by decide) (Nat.le_of_ble_eq_true rfl) ?_
  intro p e s m below meth c ls S hr hlk hin hI hl
  have hl : lv_has ls 5 [(0, .ref t), (1, .int (nI sc))] := hl
  have hJ := hI.J
  have h_t0 := h_t
  have h_b0 := h_b
  obtain ⟨w2, ew2⟩ : ∃ z, z = w * sc := ⟨_, rfl⟩
  have hws1 : 1 ≤ w2 := by rw [ew2]; exact Nat.mul_pos hw.1 hsc.1
  have hws2 : w2 ≤ 1024 := by rw [ew2]; exact hws
  refine hp_new S zz hJ (ci := 4) rfl n_Pc_16 e0_Pc_ok (by decide) (by decide) d_Pc_enlarged_0 (fun q H hq_q hs_q hJ => ?_)
  have ne_t_q : t ≠ q := hp_neN h_t hq_q
  obtain ⟨h1, eh1⟩ : ∃ z, z = hp_up h q (.inr (4, [.int 0, .int 0, .int 0, .int 0, .null])) := ⟨_, rfl⟩
  have hJ := hJ.cast eh1
  have h_t : h1 t = some (.inr (4, [.int (nI w), .int (nI d), .int (nI tl), .int (nI (pw w)), .ref b])) := by rw [eh1]; exact hp_up_k (hp_neN h_t hq_q) h_t
  have h_b : h1 b = some (k_lo (cA 1) (pw w * d) f) := by rw [eh1]; exact hp_up_k (hp_neN h_b hq_q) h_b
  have h_q : h1 q = some (.inr (4, [.int 0, .int 0, .int 0, .int 0, .null])) := by rw [eh1]; exact hp_up_s _ _ _
  refine lv_dup S.1 S.2.1 d_Pc_enlarged_3 rfl ?_
  refine lv_aload_n S.1 S.2.1 d_Pc_enlarged_4 rfl (lv_at hl 0 rfl) ?_
  refine hp_get S zz hJ h_t f_Pc_15 rfl d_Pc_enlarged_5 ?_
  refine lv_iload_n S.1 S.2.1 d_Pc_enlarged_8 rfl (lv_at hl 1 rfl) ?_
  refine lv_imul S.1 S.2.1 d_Pc_enlarged_9 ?_
  refine lv_topi (fun v9 ev9 => ?_)
  have ev9 : v9 = nI w2 := by rw [ev9, pk_mul, ew2]
  subst ev9
  refine lv_aload_n S.1 S.2.1 d_Pc_enlarged_10 rfl (lv_at hl 0 rfl) ?_
  refine hp_get S zz hJ h_t f_Pc_21 rfl d_Pc_enlarged_11 ?_
  refine lv_iload_n S.1 S.2.1 d_Pc_enlarged_14 rfl (lv_at hl 1 rfl) ?_
  refine hp_doneWv hJ (hp_runI S zz0 (c_Pc_init l dC dI cA A _ q w2 d sc ⟨hws1, hws2⟩ hd ⟨hsc.1, by omega⟩ (by rw [ew2]; exact hs) h_q) l_Pc_58 (hJ.pre _) (by decide) rfl hl.1 rfl (nl rfl) d_Pc_enlarged_15 (by decide)) (fun h9 H locs hx hJ => ?_)
  obtain ⟨b2, hq_b2, eh9⟩ := hx
  have hne : q ≠ b2 := hp_neN h_q hq_b2
  rw [eh1, hp_up_n (Ne.symm hne)] at hq_b2
  rw [eh1, hp_tbt _ _ _ _ hne] at eh9
  subst eh9
  refine lv_astore_n (lv' := [(2, .ref q), (0, .ref t), (1, .int (nI sc))]) S.1 S.2.1 d_Pc_enlarged_18 rfl hl (by decide) rfl (fun ls hl => ?_)
  refine lv_iconst (v := 0) S.1 S.2.1 d_Pc_enlarged_19 (by decide) ?_
  refine lv_istore_n (lv' := [(3, .int 0), (2, .ref q), (0, .ref t), (1, .int (nI sc))]) S.1 S.2.1 d_Pc_enlarged_20 rfl hl (by decide) rfl (fun ls hl => ?_)
  have LP : ∀ (n_ j : Nat) (q b2 : Nat) (hc : hp_T) (H : Heap) (locs : List Loc) (ls : Array Slot), j + n_ = d → h q = none → h b2 = none → q ≠ b2 → hc = hp_up (hp_up h b2 (k_lo (cA 1) (pw w2 * d) (q_to (q_eP w d sc f) (q_eS w2 d) w2 j))) q (k_Pc (nI w2) (nI d) (nI sc) (nI (pw w2)) b2) → hp_J (gg dC dI cA) A hc s H locs → lv_has ls 5 [(3, .int (nI j)), (2, .ref q), (0, .ref t), (1, .int (nI sc))] → W p l e ({ frames := 3, cells := 2, slots := 261, locals := 68 }) s m ([.ref t, .int (nI sc)] : List Value).toArray below meth c H locs 2 261 (MQ below (hp_QW (gg dC dI cA) A hp_mr (fun r h' => ∃ b2, h r = none ∧ h b2 = none ∧ r ≠ b2 ∧ h' = hp_up (hp_up h b2 (k_lo (cA 1) (pw (w * sc) * d) (q_eF w d sc f))) r (k_Pc (nI (w * sc)) (nI d) (nI sc) (nI (pw (w * sc))) b2))) ([.ref t, .int (nI sc)] : List Value).toArray s 2 261 A) (F0 m 21 ls []) := by
    intro n_
    induction n_ with
    | zero =>
      intro j q b2 hc H locs ls hu_ hq hb2 hne ehc hJ hl
      have h_q : hc q = some (k_Pc (nI w2) (nI d) (nI sc) (nI (pw w2)) b2) := by rw [ehc]; exact hp_up_s _ _ _
      have h_b2 : hc b2 = some (k_lo (cA 1) (pw w2 * d) (q_to (q_eP w d sc f) (q_eS w2 d) w2 j)) := by rw [ehc]; exact hp_up_k (Ne.symm hne) (hp_up_s _ _ _)
      have h_t : hc t = some (k_Pc (nI w) (nI d) (nI tl) (nI (pw w)) b) := by rw [ehc]; exact hp_up_k (hp_neN h_t0 hq) (hp_up_k (hp_neN h_t0 hb2) h_t0)
      have h_b : hc b = some (k_lo (cA 1) (pw w * d) f) := by rw [ehc]; exact hp_up_k (hp_neN h_b0 hq) (hp_up_k (hp_neN h_b0 hb2) h_b0)
      refine lv_iload_n S.1 S.2.1 d_Pc_enlarged_21 rfl (lv_at hl 0 rfl) ?_
      refine lv_aload_n S.1 S.2.1 d_Pc_enlarged_22 rfl (lv_at hl 2 rfl) ?_
      refine hp_get S zz hJ h_t f_Pc_21 rfl d_Pc_enlarged_23 ?_
      obtain ⟨e_n, -⟩ : j = d ∧ True := ⟨by omega, trivial⟩
      refine lv_icmp_ge (tgt := 82) S.1 S.2.1 d_Pc_enlarged_26 (by decide) (fun _ => ?_) (fun q => absurd (by rw [e_n]; exact Int32.le_refl _) q)
      refine lv_aload_n S.1 S.2.1 d_Pc_enlarged_82 rfl (lv_at hl 1 rfl) ?_
      exact hp_retWr S hJ hr hlk d_Pc_enlarged_83 (by decide) ⟨b2, hq, hb2, hne, by rw [ehc, e_n, ← ew2]; unfold q_eF; rw [← ew2]⟩
    | succ n_ ih =>
      intro j q b2 hc H locs ls hu_ hq hb2 hne ehc hJ hl
      have h_q : hc q = some (k_Pc (nI w2) (nI d) (nI sc) (nI (pw w2)) b2) := by rw [ehc]; exact hp_up_s _ _ _
      have h_b2 : hc b2 = some (k_lo (cA 1) (pw w2 * d) (q_to (q_eP w d sc f) (q_eS w2 d) w2 j)) := by rw [ehc]; exact hp_up_k (Ne.symm hne) (hp_up_s _ _ _)
      have h_t : hc t = some (k_Pc (nI w) (nI d) (nI tl) (nI (pw w)) b) := by rw [ehc]; exact hp_up_k (hp_neN h_t0 hq) (hp_up_k (hp_neN h_t0 hb2) h_t0)
      have h_b : hc b = some (k_lo (cA 1) (pw w * d) f) := by rw [ehc]; exact hp_up_k (hp_neN h_b0 hq) (hp_up_k (hp_neN h_b0 hb2) h_b0)
      refine lv_iload_n S.1 S.2.1 d_Pc_enlarged_21 rfl (lv_at hl 0 rfl) ?_
      refine lv_aload_n S.1 S.2.1 d_Pc_enlarged_22 rfl (lv_at hl 2 rfl) ?_
      refine hp_get S zz hJ h_t f_Pc_21 rfl d_Pc_enlarged_23 ?_
      refine lv_icmp_ge (tgt := 82) S.1 S.2.1 d_Pc_enlarged_26 (by decide) (fun q => absurd q (nI_ge (a := j) (b := d) (by omega) (by omega))) (fun _ => ?_)
      refine lv_iconst (v := 0) S.1 S.2.1 d_Pc_enlarged_29 (by decide) ?_
      refine lv_istore (lv' := [(4, .int 0), (3, .int (nI j)), (2, .ref q), (0, .ref t), (1, .int (nI sc))]) S.1 S.2.1 d_Pc_enlarged_30 hl (by decide) rfl (fun ls hl => ?_)
      have LPi : ∀ (n_i i : Nat) (hc : hp_T) (H : Heap) (locs : List Loc) (ls : Array Slot), i + n_i = w2 → hc = hp_up (hp_up h b2 (k_lo (cA 1) (pw w2 * d) (q_ti (q_eP w d sc f) (q_eS w2 d) (q_to (q_eP w d sc f) (q_eS w2 d) w2 j) j i))) q (k_Pc (nI w2) (nI d) (nI sc) (nI (pw w2)) b2) → hp_J (gg dC dI cA) A hc s H locs → lv_has ls 5 [(4, .int (nI i)), (3, .int (nI j)), (2, .ref q), (0, .ref t), (1, .int (nI sc))] → W p l e ({ frames := 3, cells := 2, slots := 261, locals := 68 }) s m ([.ref t, .int (nI sc)] : List Value).toArray below meth c H locs 2 261 (MQ below (hp_QW (gg dC dI cA) A hp_mr (fun r h' => ∃ b2, h r = none ∧ h b2 = none ∧ r ≠ b2 ∧ h' = hp_up (hp_up h b2 (k_lo (cA 1) (pw (w * sc) * d) (q_eF w d sc f))) r (k_Pc (nI (w * sc)) (nI d) (nI sc) (nI (pw (w * sc))) b2))) ([.ref t, .int (nI sc)] : List Value).toArray s 2 261 A) (F0 m 32 ls []) := by
        intro n_i
        induction n_i with
        | zero =>
          intro i hc H locs ls hu_i ehc hJ hl
          have h_q : hc q = some (k_Pc (nI w2) (nI d) (nI sc) (nI (pw w2)) b2) := by rw [ehc]; exact hp_up_s _ _ _
          have h_b2 : hc b2 = some (k_lo (cA 1) (pw w2 * d) (q_ti (q_eP w d sc f) (q_eS w2 d) (q_to (q_eP w d sc f) (q_eS w2 d) w2 j) j i)) := by rw [ehc]; exact hp_up_k (Ne.symm hne) (hp_up_s _ _ _)
          have h_t : hc t = some (k_Pc (nI w) (nI d) (nI tl) (nI (pw w)) b) := by rw [ehc]; exact hp_up_k (hp_neN h_t0 hq) (hp_up_k (hp_neN h_t0 hb2) h_t0)
          have h_b : hc b = some (k_lo (cA 1) (pw w * d) f) := by rw [ehc]; exact hp_up_k (hp_neN h_b0 hq) (hp_up_k (hp_neN h_b0 hb2) h_b0)
          refine lv_iload S.1 S.2.1 d_Pc_enlarged_32 (lv_at hl 0 rfl) ?_
          refine lv_aload_n S.1 S.2.1 d_Pc_enlarged_34 rfl (lv_at hl 2 rfl) ?_
          refine hp_get S zz hJ h_q f_Pc_15 rfl d_Pc_enlarged_35 ?_
          obtain ⟨e_ni, -⟩ : i = w2 ∧ True := ⟨by omega, trivial⟩
          refine lv_icmp_ge (tgt := 76) S.1 S.2.1 d_Pc_enlarged_38 (by decide) (fun _ => ?_) (fun q => absurd (by rw [e_ni]; exact Int32.le_refl _) q)
          refine lv_iinc (v := nI (j + 1)) (lv' := [(3, .int (nI (j + 1))), (4, .int (nI i)), (2, .ref q), (0, .ref t), (1, .int (nI sc))]) S.1 S.2.1 d_Pc_enlarged_76 hl (k := 1) rfl (nI_1 _) (by decide) rfl (fun ls hl => ?_)
          refine lv_goto (tgt := 21) S.1 S.2.1 d_Pc_enlarged_79 (by decide) ?_
          exact ih (j + 1) q b2 _ _ _ ls (by omega) hq hb2 hne (by rw [ehc, e_ni]; rfl) hJ (lv_sub hl [0, 2, 3, 4] rfl)
        | succ n_i ihi =>
          intro i hc H locs ls hu_i ehc hJ hl
          have h_q : hc q = some (k_Pc (nI w2) (nI d) (nI sc) (nI (pw w2)) b2) := by rw [ehc]; exact hp_up_s _ _ _
          have h_b2 : hc b2 = some (k_lo (cA 1) (pw w2 * d) (q_ti (q_eP w d sc f) (q_eS w2 d) (q_to (q_eP w d sc f) (q_eS w2 d) w2 j) j i)) := by rw [ehc]; exact hp_up_k (Ne.symm hne) (hp_up_s _ _ _)
          have h_t : hc t = some (k_Pc (nI w) (nI d) (nI tl) (nI (pw w)) b) := by rw [ehc]; exact hp_up_k (hp_neN h_t0 hq) (hp_up_k (hp_neN h_t0 hb2) h_t0)
          have h_b : hc b = some (k_lo (cA 1) (pw w * d) f) := by rw [ehc]; exact hp_up_k (hp_neN h_b0 hq) (hp_up_k (hp_neN h_b0 hb2) h_b0)
          refine lv_iload S.1 S.2.1 d_Pc_enlarged_32 (lv_at hl 0 rfl) ?_
          refine lv_aload_n S.1 S.2.1 d_Pc_enlarged_34 rfl (lv_at hl 2 rfl) ?_
          refine hp_get S zz hJ h_q f_Pc_15 rfl d_Pc_enlarged_35 ?_
          refine lv_icmp_ge (tgt := 76) S.1 S.2.1 d_Pc_enlarged_38 (by decide) (fun q => absurd q (nI_ge (a := i) (b := w2) (by omega) (by omega))) (fun _ => ?_)
          refine lv_aload_n S.1 S.2.1 d_Pc_enlarged_41 rfl (lv_at hl 3 rfl) ?_
          refine hp_cut (fun v => v = nI (i / sc)) 56 [.ref t] (fun J => ?_) (fun v1 e_v1 => ?_)
          · refine lv_iload_n S.1 S.2.1 d_Pc_enlarged_42 rfl (lv_at hl 4 rfl) ?_
            refine lv_iconst (v := 1) S.1 S.2.1 d_Pc_enlarged_43 (by decide) ?_
            refine lv_icmp_le (tgt := 54) S.1 S.2.1 d_Pc_enlarged_44 (by decide) (fun c_44 => ?_) (fun c_44 => ?_)
            · refine lv_iload S.1 S.2.1 d_Pc_enlarged_54 (lv_at hl 0 rfl) ?_
              exact J _ (sc1 c_44 hsc)
            · refine lv_iload S.1 S.2.1 d_Pc_enlarged_47 (lv_at hl 0 rfl) ?_
              refine lv_iload_n S.1 S.2.1 d_Pc_enlarged_49 rfl (lv_at hl 4 rfl) ?_
              refine lv_idiv S.1 S.2.1 d_Pc_enlarged_50 (nI_ne0 (by omega) (by omega)) ?_
              refine lv_goto (tgt := 56) S.1 S.2.1 d_Pc_enlarged_51 (by decide) ?_
              exact J _ (pk_div (by omega) (by omega) (by omega))
          · subst e_v1
            refine lv_iload_n S.1 S.2.1 d_Pc_enlarged_56 rfl (lv_at hl 1 rfl) ?_
            refine hp_doneR (hp_runV S zz0 (c_Pc_isBlack l dC dI cA A _ t b _ _ _ _ _ _ _ _ h_t h_b (ix_ok (pw_le hw.2) hd.2)) l_Pc_61 (hJ.preV _ h_t rfl) (by decide) rfl hl.1 rfl (nl rfl) d_Pc_enlarged_57 (by decide)) ?_
            refine lv_if_eq (tgt := 70) S.1 S.2.1 d_Pc_enlarged_60 (by decide) (fun c_60 => ?_) (fun c_60 => ?_)
            · refine lv_iinc (v := nI (i + 1)) (lv' := [(4, .int (nI (i + 1))), (3, .int (nI j)), (2, .ref q), (0, .ref t), (1, .int (nI sc))]) S.1 S.2.1 d_Pc_enlarged_70 hl (k := 0) rfl (nI_1 _) (by decide) rfl (fun ls hl => ?_)
              refine lv_goto (tgt := 32) S.1 S.2.1 d_Pc_enlarged_73 (by decide) ?_
              exact ihi (i + 1) _ _ _ ls (by omega) (by rw [q_ti_f (fun z => q_is_0.mp c_60 (of_decide_eq_true z))]; exact ehc) hJ (lv_sub hl [0, 1, 2, 3, 4] rfl)
            · refine lv_aload_n S.1 S.2.1 d_Pc_enlarged_63 rfl (lv_at hl 2 rfl) ?_
              refine lv_iload S.1 S.2.1 d_Pc_enlarged_64 (lv_at hl 0 rfl) ?_
              refine lv_iload_n S.1 S.2.1 d_Pc_enlarged_66 rfl (lv_at hl 1 rfl) ?_
              refine hp_doneWv hJ (hp_runV S zz0 (c_Pc_blacken l dC dI cA A _ q b2 _ _ _ _ _ _ (nI i) (nI j) h_q h_b2 (ix_ok (pw_le hws2) hd.2)) l_Pc_68 (hJ.preV _ h_q rfl) (by decide) rfl hl.1 rfl (nl rfl) d_Pc_enlarged_67 (by decide)) (fun h9 H locs eh9 hJ => ?_)
              rw [ehc, hp_btb _ _ _ _ hne] at eh9
              generalize h9 = hc at eh9 hJ
              have ehc := eh9
              refine lv_iinc (v := nI (i + 1)) (lv' := [(4, .int (nI (i + 1))), (3, .int (nI j)), (2, .ref q), (0, .ref t), (1, .int (nI sc))]) S.1 S.2.1 d_Pc_enlarged_70 hl (k := 0) rfl (nI_1 _) (by decide) rfl (fun ls hl => ?_)
              refine lv_goto (tgt := 32) S.1 S.2.1 d_Pc_enlarged_73 (by decide) ?_
              exact ihi (i + 1) _ _ _ ls (by omega) (by rw [q_ti_t (decide_eq_true (q_is_ne.mp c_60))]; exact ehc) hJ (lv_sub hl [0, 1, 2, 3, 4] rfl)
      exact LPi w2 0 _ _ _ ls (by omega) ehc hJ (lv_sub hl [0, 1, 2, 3, 4] rfl)
  refine W.widen (k := 2) (n := 261) (by decide) (by decide) ?_
  exact LP d 0 q b2 _ _ _ ls (by omega) hq_q hq_b2 hne rfl hJ (lv_sub hl [0, 1, 2, 3] rfl)

theorem hp_up_none {h : hp_T} {b a : Nat} {e : va_E} (hn : hp_up h b e a = none) : h a = none := by
  by_cases q : a = b
  · subst q
    rw [hp_up_s] at hn
    cases hn
  · rw [hp_up_n q] at hn
    exact hn
set_option maxHeartbeats 4000000 in
set_option maxRecDepth 100000 in
theorem c_Sh_init (l : Launch) (dC : Nat → ClassId) (dI : Nat → Nat → Nat) (cA : Nat → ClassId) (A : Nat → Prop) (h : hp_T) (t w d : Nat) (hw : 1 ≤ w ∧ w ≤ 1024) (hd : 1 ≤ d ∧ d ≤ 1024) (hs : pw w * d ≤ 256) (h_t : h t = some (.inr (6, e0_Sh))) : Met l y_Sh_init (.code y_Sh_init prog_7_method_1_code 3 none :: BIG) ({ frames := 2, cells := 3, slots := 265, locals := 44 }) (va_Pc [.ref t, .int (nI w), .int (nI d)] (hp_I (gg dC dI cA) A h)) (hp_QW (gg dC dI cA) A hp_mv (fun _ h' => ∃ p b a, h p = none ∧ h b = none ∧ h a = none ∧ p ≠ b ∧ p ≠ a ∧ b ≠ a ∧ h' = hp_up (hp_up (hp_up (hp_up h b (k_lo (cA 1) (pw w * d) (fun _ => 0))) p (k_Pc (nI w) (nI d) (nI 1) (nI (pw w)) b)) a (k_rf (cA 4) 4 (fun _ => none))) t (k_Sh p a 0))) 3 265 A := by
  refine hp_enter (by decide) (Nat.le_of_ble_eq_true rfl) ?_
  intro p e s m below meth c ls S hr hlk hin hI hl
  have hl : lv_has ls 3 [(0, .ref t), (1, .int (nI w)), (2, .int (nI d))] := hl
  have hJ := hI.J
  have h_t0 := h_t
  refine lv_aload_n S.1 S.2.1 d_Sh_init_0 rfl (lv_at hl 0 rfl) ?_
  refine hp_obj S l_Sh_3 hl.1 d_Sh_init_1 ⟨nl rfl, nl rfl⟩ ?_
  refine lv_aload_n S.1 S.2.1 d_Sh_init_4 rfl (lv_at hl 0 rfl) ?_
  refine hp_new S zz hJ (ci := 4) rfl n_Sh_9 e0_Pc_ok (by decide) (by decide) d_Sh_init_5 (fun q H hq_q hs_q hJ => ?_)
  obtain ⟨h1, eh1⟩ : ∃ z, z = hp_up h q (.inr (4, [.int 0, .int 0, .int 0, .int 0, .null])) := ⟨_, rfl⟩
  have hJ := hJ.cast eh1
  have h_t : h1 t = some (.inr (6, [.null, .null, .int 0])) := by rw [eh1]; exact hp_up_k (hp_neN h_t hq_q) h_t
  have h_q : h1 q = some (.inr (4, [.int 0, .int 0, .int 0, .int 0, .null])) := by rw [eh1]; exact hp_up_s _ _ _
  refine lv_dup S.1 S.2.1 d_Sh_init_8 rfl ?_
  refine lv_iload_n S.1 S.2.1 d_Sh_init_9 rfl (lv_at hl 1 rfl) ?_
  refine lv_iload_n S.1 S.2.1 d_Sh_init_10 rfl (lv_at hl 2 rfl) ?_
  refine lv_iconst (v := 1) S.1 S.2.1 d_Sh_init_11 (by decide) ?_
  refine hp_doneWv hJ (hp_runI S zz0 (c_Pc_init l dC dI cA A _ q w d 1 hw hd (by decide) hs h_q) l_Sh_11 (hJ.pre _) (by decide) rfl hl.1 rfl (nl rfl) d_Sh_init_12 (by decide)) (fun h9 H locs hx hJ => ?_)
  obtain ⟨b, hq_b, eh9⟩ := hx
  have ne_q_b : q ≠ b := hp_neN h_q hq_b
  have ne_t_b : t ≠ b := hp_neN h_t hq_b
  have ne_t_q : t ≠ q := hp_neN (by exact h_t0) hq_q
  rw [eh1, hp_up_n (Ne.symm ne_q_b)] at hq_b
  rw [eh1, hp_tbt _ _ _ _ ne_q_b] at eh9
  have h_t : h9 t = some (.inr (6, [.null, .null, .int 0])) := by rw [eh9]; exact hp_up_k ne_t_q (hp_up_k ne_t_b h_t0)
  have h_q : h9 q = some (k_Pc (nI w) (nI d) (nI 1) (nI (pw w)) b) := by rw [eh9]; exact hp_up_s _ _ _
  refine hp_putF S zz hJ hin h_t fp_Sh_14 rfl rfl rfl (nl rfl) d_Sh_init_15 (fun H locs hJ => ?_)
  obtain ⟨h2, eh2⟩ : ∃ z, z = hp_up h9 t (.inr (6, [.ref q, .null, .int 0])) := ⟨_, rfl⟩
  have hJ := hJ.cast eh2
  have h0_t := h_t
  have h_q : h2 q = some (.inr (4, [.int (nI w), .int (nI d), .int (nI 1), .int (nI (pw w)), .ref b])) := by rw [eh2]; exact hp_up_k (hp_ne h_q h0_t (show ((0, 4) : Nat × Nat) ≠ (0, 6) by decide)) h_q
  have h_t : h2 t = some (.inr (6, [.ref q, .null, .int 0])) := by rw [eh2]; exact hp_up_s _ _ _
  refine lv_aload_n S.1 S.2.1 d_Sh_init_18 rfl (lv_at hl 0 rfl) ?_
  refine lv_iconst (v := 4) S.1 S.2.1 d_Sh_init_19 (by decide) ?_
  refine hp_newq S hJ 4 t_547 (List.mem_of_getElem? (i := 1) rfl) rfl (by decide) rfl (by decide) (by decide) (by decide) d_Sh_init_20 (fun a H hq_a hJ => ?_)
  have ne_t_a : t ≠ a := hp_neN h_t hq_a
  have ne_q_a : q ≠ a := hp_neN h_q hq_a
  obtain ⟨h3, eh3⟩ : ∃ z, z = hp_up h2 a (k_rf (cA 4) 4 (fun _ => none)) := ⟨_, rfl⟩
  have hJ := hJ.cast eh3
  have h_t : h3 t = some (.inr (6, [.ref q, .null, .int 0])) := by rw [eh3]; exact hp_up_k (hp_neN h_t hq_a) h_t
  have h_q : h3 q = some (.inr (4, [.int (nI w), .int (nI d), .int (nI 1), .int (nI (pw w)), .ref b])) := by rw [eh3]; exact hp_up_k (hp_neN h_q hq_a) h_q
  have h_a : h3 a = some (k_rf (cA 4) 4 (fun _ => none)) := by rw [eh3]; exact hp_up_s _ _ _
  refine hp_putF S zz hJ hin h_t fp_Sh_20 rfl rfl rfl (nl rfl) d_Sh_init_23 (fun H locs hJ => ?_)
  obtain ⟨h4, eh4⟩ : ∃ z, z = hp_up h3 t (.inr (6, [.ref q, .ref a, .int 0])) := ⟨_, rfl⟩
  have hJ := hJ.cast eh4
  have h0_t := h_t
  have h_q : h4 q = some (.inr (4, [.int (nI w), .int (nI d), .int (nI 1), .int (nI (pw w)), .ref b])) := by rw [eh4]; exact hp_up_k (hp_ne h_q h0_t (show ((0, 4) : Nat × Nat) ≠ (0, 6) by decide)) h_q
  have h_a : h4 a = some (k_rf (cA 4) 4 (fun _ => none)) := by rw [eh4]; exact hp_up_k (hp_ne h_a h0_t (show ((5, 0) : Nat × Nat) ≠ (0, 6) by decide)) h_a
  have h_t : h4 t = some (.inr (6, [.ref q, .ref a, .int 0])) := by rw [eh4]; exact hp_up_s _ _ _
  exact hp_retWv S hJ hr hlk d_Sh_init_26 (by decide) ⟨q, b, a, hq_q, hq_b, by rw [eh2, hp_up_n (Ne.symm ne_t_a), eh9, hp_up_n (Ne.symm ne_q_a)] at hq_a; exact hp_up_none hq_a, ne_q_b, ne_q_a, (fun z => by rw [eh2, hp_up_n (Ne.symm ne_t_a), eh9, hp_up_n (Ne.symm ne_q_a), ← z, hp_up_s] at hq_a; cases hq_a), by rw [eh4, eh3, eh2, eh9, hp_tbt _ _ _ _ ne_t_a]⟩

