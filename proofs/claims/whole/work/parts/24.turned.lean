/-! Pictures turned and enlarged: loops in loops. -/
def q_ti (P : Nat → Nat → Bool) (S : (Nat → Int64) → Nat → Nat → Nat → Int64) (F : Nat → Int64) (j : Nat) : Nat → Nat → Int64
  | 0 => F
  | i + 1 => if P i j = true then S (q_ti P S F j i) i j else q_ti P S F j i
def q_to (P : Nat → Nat → Bool) (S : (Nat → Int64) → Nat → Nat → Nat → Int64) (w : Nat) : Nat → Nat → Int64
  | 0 => fun _ => 0
  | j + 1 => q_ti P S (q_to P S w j) j w
theorem q_ti_t {P : Nat → Nat → Bool} {S : (Nat → Int64) → Nat → Nat → Nat → Int64} {F : Nat → Int64} {j i : Nat} (h : P i j = true) : q_ti P S F j (i + 1) = S (q_ti P S F j i) i j := if_pos h
theorem q_ti_f {P : Nat → Nat → Bool} {S : (Nat → Int64) → Nat → Nat → Nat → Int64} {F : Nat → Int64} {j i : Nat} (h : ¬ P i j = true) : q_ti P S F j (i + 1) = q_ti P S F j i := if_neg h
theorem pw_le {w : Nat} (h : w ≤ 1024) : pw w ≤ 1024 := by
  unfold pw
  omega
def tw (tn : Int32) (w d : Nat) : Nat := if tn = 2 then w else d
def q_tP (w d : Nat) (f : Nat → Int64) (i j : Nat) : Bool := decide (q_pb (nI d) (nI (pw w)) f (nI i) (nI j))
def q_tS (tn : Int32) (w2 d2 : Nat) (F : Nat → Int64) (i j : Nat) : Nat → Int64 := q_bt tn (nI w2) (nI d2) (nI (pw w2)) F (nI i) (nI j)
def q_tF (tn : Int32) (w d : Nat) (f : Nat → Int64) : Nat → Int64 := q_to (q_tP w d f) (q_tS tn (tw tn w d) (tw tn d w)) w d

set_option maxHeartbeats 4000000 in
set_option maxRecDepth 100000 in
/-- a picture turned -/
theorem c_Pc_turnedBy (l : Launch) (dC : Nat → ClassId) (dI : Nat → Nat → Nat) (cA : Nat → ClassId) (A : Nat → Prop) (h : hp_T) (t b w d tl : Nat) (f : Nat → Int64) (tn : Int32) (htn : ¬ tn = 0) (hw : 1 ≤ w ∧ w ≤ 1024) (hd : 1 ≤ d ∧ d ≤ 1024) (htl : 1 ≤ tl ∧ tl ≤ 1024) (hs : pw w * d ≤ 256) (hs2 : pw d * w ≤ 256) (h_t : h t = some (k_Pc (nI w) (nI d) (nI tl) (nI (pw w)) b)) (h_b : h b = some (k_lo (cA 1) (pw w * d) f)) : Met l y_Pc_turnedBy (.code y_Pc_turnedBy prog_5_method_5_code 5 (some (.object "BandPainter$Picture")) :: BIG) ({ frames := 4, cells := 2, slots := 261, locals := 91 }) (va_Pc [.ref t, .int tn] (hp_I (gg dC dI cA) A h)) (hp_QW (gg dC dI cA) A hp_mr (fun r h' => ∃ b2, h r = none ∧ h b2 = none ∧ r ≠ b2 ∧ h' = hp_up (hp_up h b2 (k_lo (cA 1) (pw (tw tn w d) * tw tn d w) (q_tF tn w d f))) r (k_Pc (nI (tw tn w d)) (nI (tw tn d w)) (nI tl) (nI (pw (tw tn w d))) b2))) 2 261 A := by
  refine hp_enter (by decide) (Nat.le_of_ble_eq_true rfl) ?_
  intro p e s m below meth c ls S hr hlk hin hI hl
  have hl : lv_has ls 5 [(0, .ref t), (1, .int tn)] := hl
  have hJ := hI.J
  refine lv_iload_n S.1 S.2.1 d_Pc_turnedBy_0 rfl (lv_at hl 1 rfl) ?_
  refine lv_if_ne (tgt := 6) S.1 S.2.1 d_Pc_turnedBy_1 (by decide) (fun _ => ?_) (fun q => absurd q htn)
  have h_t0 := h_t
  have h_b0 := h_b
  obtain ⟨w2, ew2⟩ : ∃ z, z = tw tn w d := ⟨_, rfl⟩
  obtain ⟨d2, ed2⟩ : ∃ z, z = tw tn d w := ⟨_, rfl⟩
  have hw2 : 1 ≤ w2 ∧ w2 ≤ 1024 := by rw [ew2]; unfold tw; split <;> assumption
  have hd2 : 1 ≤ d2 ∧ d2 ≤ 1024 := by rw [ed2]; unfold tw; split <;> assumption
  have hwd2 : pw w2 * d2 ≤ 256 := by rw [ew2, ed2]; unfold tw; split <;> assumption
  have LP : ∀ (n_ j : Nat) (q b2 : Nat) (hc : hp_T) (H : Heap) (locs : List Loc) (ls : Array Slot), j + n_ = d → h q = none → h b2 = none → q ≠ b2 → hc = hp_up (hp_up h b2 (k_lo (cA 1) (pw w2 * d2) (q_to (q_tP w d f) (q_tS tn w2 d2) w j))) q (k_Pc (nI w2) (nI d2) (nI tl) (nI (pw w2)) b2) → hp_J (gg dC dI cA) A hc s H locs → lv_has ls 5 [(3, .int (nI j)), (2, .ref q), (0, .ref t), (1, .int tn)] → W p l e ({ frames := 4, cells := 2, slots := 261, locals := 91 }) s m ([.ref t, .int tn] : List Value).toArray below meth c H locs 2 261 (MQ below (hp_QW (gg dC dI cA) A hp_mr (fun r h' => ∃ b2, h r = none ∧ h b2 = none ∧ r ≠ b2 ∧ h' = hp_up (hp_up h b2 (k_lo (cA 1) (pw (tw tn w d) * tw tn d w) (q_tF tn w d f))) r (k_Pc (nI (tw tn w d)) (nI (tw tn d w)) (nI tl) (nI (pw (tw tn w d))) b2))) ([.ref t, .int tn] : List Value).toArray s 2 261 A) (F0 m 55 ls []) := by
    intro n_
    induction n_ with
    | zero =>
      intro j q b2 hc H locs ls hu_ hq hb2 hne ehc hJ hl
      have h_q : hc q = some (k_Pc (nI w2) (nI d2) (nI tl) (nI (pw w2)) b2) := by rw [ehc]; exact hp_up_s _ _ _
      have h_b2 : hc b2 = some (k_lo (cA 1) (pw w2 * d2) (q_to (q_tP w d f) (q_tS tn w2 d2) w j)) := by rw [ehc]; exact hp_up_k (Ne.symm hne) (hp_up_s _ _ _)
      have h_t : hc t = some (k_Pc (nI w) (nI d) (nI tl) (nI (pw w)) b) := by rw [ehc]; exact hp_up_k (hp_neN h_t0 hq) (hp_up_k (hp_neN h_t0 hb2) h_t0)
      have h_b : hc b = some (k_lo (cA 1) (pw w * d) f) := by rw [ehc]; exact hp_up_k (hp_neN h_b0 hq) (hp_up_k (hp_neN h_b0 hb2) h_b0)
      refine lv_iload_n S.1 S.2.1 d_Pc_turnedBy_55 rfl (lv_at hl 0 rfl) ?_
      refine lv_aload_n S.1 S.2.1 d_Pc_turnedBy_56 rfl (lv_at hl 2 rfl) ?_
      refine hp_get S zz hJ h_t f_Pc_21 rfl d_Pc_turnedBy_57 ?_
      obtain ⟨e_n, -⟩ : j = d ∧ True := ⟨by omega, trivial⟩
      refine lv_icmp_ge (tgt := 105) S.1 S.2.1 d_Pc_turnedBy_60 (by decide) (fun _ => ?_) (fun q => absurd (by rw [e_n]; exact Int32.le_refl _) q)
      refine lv_aload_n S.1 S.2.1 d_Pc_turnedBy_105 rfl (lv_at hl 1 rfl) ?_
      exact hp_retWr S hJ hr hlk d_Pc_turnedBy_106 (by decide) ⟨b2, hq, hb2, hne, by rw [ehc, e_n, ew2, ed2]; rfl⟩
    | succ n_ ih =>
      intro j q b2 hc H locs ls hu_ hq hb2 hne ehc hJ hl
      have h_q : hc q = some (k_Pc (nI w2) (nI d2) (nI tl) (nI (pw w2)) b2) := by rw [ehc]; exact hp_up_s _ _ _
      have h_b2 : hc b2 = some (k_lo (cA 1) (pw w2 * d2) (q_to (q_tP w d f) (q_tS tn w2 d2) w j)) := by rw [ehc]; exact hp_up_k (Ne.symm hne) (hp_up_s _ _ _)
      have h_t : hc t = some (k_Pc (nI w) (nI d) (nI tl) (nI (pw w)) b) := by rw [ehc]; exact hp_up_k (hp_neN h_t0 hq) (hp_up_k (hp_neN h_t0 hb2) h_t0)
      have h_b : hc b = some (k_lo (cA 1) (pw w * d) f) := by rw [ehc]; exact hp_up_k (hp_neN h_b0 hq) (hp_up_k (hp_neN h_b0 hb2) h_b0)
      refine lv_iload_n S.1 S.2.1 d_Pc_turnedBy_55 rfl (lv_at hl 0 rfl) ?_
      refine lv_aload_n S.1 S.2.1 d_Pc_turnedBy_56 rfl (lv_at hl 2 rfl) ?_
      refine hp_get S zz hJ h_t f_Pc_21 rfl d_Pc_turnedBy_57 ?_
      refine lv_icmp_ge (tgt := 105) S.1 S.2.1 d_Pc_turnedBy_60 (by decide) (fun q => absurd q (nI_ge (a := j) (b := d) (by omega) (by omega))) (fun _ => ?_)
      refine lv_iconst (v := 0) S.1 S.2.1 d_Pc_turnedBy_63 (by decide) ?_
      refine lv_istore (lv' := [(4, .int 0), (3, .int (nI j)), (2, .ref q), (0, .ref t), (1, .int tn)]) S.1 S.2.1 d_Pc_turnedBy_64 hl (by decide) rfl (fun ls hl => ?_)
      have LPi : ∀ (n_i i : Nat) (hc : hp_T) (H : Heap) (locs : List Loc) (ls : Array Slot), i + n_i = w → hc = hp_up (hp_up h b2 (k_lo (cA 1) (pw w2 * d2) (q_ti (q_tP w d f) (q_tS tn w2 d2) (q_to (q_tP w d f) (q_tS tn w2 d2) w j) j i))) q (k_Pc (nI w2) (nI d2) (nI tl) (nI (pw w2)) b2) → hp_J (gg dC dI cA) A hc s H locs → lv_has ls 5 [(4, .int (nI i)), (3, .int (nI j)), (2, .ref q), (0, .ref t), (1, .int tn)] → W p l e ({ frames := 4, cells := 2, slots := 261, locals := 91 }) s m ([.ref t, .int tn] : List Value).toArray below meth c H locs 2 261 (MQ below (hp_QW (gg dC dI cA) A hp_mr (fun r h' => ∃ b2, h r = none ∧ h b2 = none ∧ r ≠ b2 ∧ h' = hp_up (hp_up h b2 (k_lo (cA 1) (pw (tw tn w d) * tw tn d w) (q_tF tn w d f))) r (k_Pc (nI (tw tn w d)) (nI (tw tn d w)) (nI tl) (nI (pw (tw tn w d))) b2))) ([.ref t, .int tn] : List Value).toArray s 2 261 A) (F0 m 66 ls []) := by
        intro n_i
        induction n_i with
        | zero =>
          intro i hc H locs ls hu_i ehc hJ hl
          have h_q : hc q = some (k_Pc (nI w2) (nI d2) (nI tl) (nI (pw w2)) b2) := by rw [ehc]; exact hp_up_s _ _ _
          have h_b2 : hc b2 = some (k_lo (cA 1) (pw w2 * d2) (q_ti (q_tP w d f) (q_tS tn w2 d2) (q_to (q_tP w d f) (q_tS tn w2 d2) w j) j i)) := by rw [ehc]; exact hp_up_k (Ne.symm hne) (hp_up_s _ _ _)
          have h_t : hc t = some (k_Pc (nI w) (nI d) (nI tl) (nI (pw w)) b) := by rw [ehc]; exact hp_up_k (hp_neN h_t0 hq) (hp_up_k (hp_neN h_t0 hb2) h_t0)
          have h_b : hc b = some (k_lo (cA 1) (pw w * d) f) := by rw [ehc]; exact hp_up_k (hp_neN h_b0 hq) (hp_up_k (hp_neN h_b0 hb2) h_b0)
          refine lv_iload S.1 S.2.1 d_Pc_turnedBy_66 (lv_at hl 0 rfl) ?_
          refine lv_aload_n S.1 S.2.1 d_Pc_turnedBy_68 rfl (lv_at hl 3 rfl) ?_
          refine hp_get S zz hJ h_t f_Pc_15 rfl d_Pc_turnedBy_69 ?_
          obtain ⟨e_ni, -⟩ : i = w ∧ True := ⟨by omega, trivial⟩
          refine lv_icmp_ge (tgt := 99) S.1 S.2.1 d_Pc_turnedBy_72 (by decide) (fun _ => ?_) (fun q => absurd (by rw [e_ni]; exact Int32.le_refl _) q)
          refine lv_iinc (v := nI (j + 1)) (lv' := [(3, .int (nI (j + 1))), (4, .int (nI i)), (2, .ref q), (0, .ref t), (1, .int tn)]) S.1 S.2.1 d_Pc_turnedBy_99 hl (k := 1) rfl (nI_1 _) (by decide) rfl (fun ls hl => ?_)
          refine lv_goto (tgt := 55) S.1 S.2.1 d_Pc_turnedBy_102 (by decide) ?_
          exact ih (j + 1) q b2 _ _ _ ls (by omega) hq hb2 hne (by rw [ehc, e_ni]; rfl) hJ (lv_sub hl [0, 2, 3, 4] rfl)
        | succ n_i ihi =>
          intro i hc H locs ls hu_i ehc hJ hl
          have h_q : hc q = some (k_Pc (nI w2) (nI d2) (nI tl) (nI (pw w2)) b2) := by rw [ehc]; exact hp_up_s _ _ _
          have h_b2 : hc b2 = some (k_lo (cA 1) (pw w2 * d2) (q_ti (q_tP w d f) (q_tS tn w2 d2) (q_to (q_tP w d f) (q_tS tn w2 d2) w j) j i)) := by rw [ehc]; exact hp_up_k (Ne.symm hne) (hp_up_s _ _ _)
          have h_t : hc t = some (k_Pc (nI w) (nI d) (nI tl) (nI (pw w)) b) := by rw [ehc]; exact hp_up_k (hp_neN h_t0 hq) (hp_up_k (hp_neN h_t0 hb2) h_t0)
          have h_b : hc b = some (k_lo (cA 1) (pw w * d) f) := by rw [ehc]; exact hp_up_k (hp_neN h_b0 hq) (hp_up_k (hp_neN h_b0 hb2) h_b0)
          refine lv_iload S.1 S.2.1 d_Pc_turnedBy_66 (lv_at hl 0 rfl) ?_
          refine lv_aload_n S.1 S.2.1 d_Pc_turnedBy_68 rfl (lv_at hl 3 rfl) ?_
          refine hp_get S zz hJ h_t f_Pc_15 rfl d_Pc_turnedBy_69 ?_
          refine lv_icmp_ge (tgt := 99) S.1 S.2.1 d_Pc_turnedBy_72 (by decide) (fun q => absurd q (nI_ge (a := i) (b := w) (by omega) (by omega))) (fun _ => ?_)
          refine lv_aload_n S.1 S.2.1 d_Pc_turnedBy_75 rfl (lv_at hl 3 rfl) ?_
          refine lv_iload S.1 S.2.1 d_Pc_turnedBy_76 (lv_at hl 0 rfl) ?_
          refine lv_iload_n S.1 S.2.1 d_Pc_turnedBy_78 rfl (lv_at hl 1 rfl) ?_
          refine hp_doneR (hp_runV S zz0 (c_Pc_isBlack l dC dI cA A _ t b _ _ _ _ _ _ _ _ h_t h_b (ix_ok (pw_le hw.2) hd.2)) l_Pc_61 (hJ.preV _ h_t rfl) (by decide) rfl hl.1 rfl (nl rfl) d_Pc_turnedBy_79 (by decide)) ?_
          refine lv_if_eq (tgt := 93) S.1 S.2.1 d_Pc_turnedBy_82 (by decide) (fun c_82 => ?_) (fun c_82 => ?_)
          · refine lv_iinc (v := nI (i + 1)) (lv' := [(4, .int (nI (i + 1))), (3, .int (nI j)), (2, .ref q), (0, .ref t), (1, .int tn)]) S.1 S.2.1 d_Pc_turnedBy_93 hl (k := 0) rfl (nI_1 _) (by decide) rfl (fun ls hl => ?_)
            refine lv_goto (tgt := 66) S.1 S.2.1 d_Pc_turnedBy_96 (by decide) ?_
            exact ihi (i + 1) _ _ _ ls (by omega) (by rw [q_ti_f (fun z => q_is_0.mp c_82 (of_decide_eq_true z))]; exact ehc) hJ (lv_sub hl [0, 1, 2, 3, 4] rfl)
          · refine lv_aload_n S.1 S.2.1 d_Pc_turnedBy_85 rfl (lv_at hl 2 rfl) ?_
            refine lv_iload_n S.1 S.2.1 d_Pc_turnedBy_86 rfl (lv_at hl 4 rfl) ?_
            refine lv_iload S.1 S.2.1 d_Pc_turnedBy_87 (lv_at hl 0 rfl) ?_
            refine lv_iload_n S.1 S.2.1 d_Pc_turnedBy_89 rfl (lv_at hl 1 rfl) ?_
            refine hp_doneWv hJ (hp_runV S zz0 (c_Pc_blackenTurned l dC dI cA A _ q b2 _ _ _ _ _ _ tn (nI i) (nI j) h_q h_b2 (ix_ok (pw_le hw2.2) hd2.2)) l_Pc_65 (hJ.preV _ h_q rfl) (by decide) rfl hl.1 rfl (nl rfl) d_Pc_turnedBy_90 (by decide)) (fun h9 H locs eh9 hJ => ?_)
            rw [ehc, hp_btb _ _ _ _ hne] at eh9
            generalize h9 = hc at eh9 hJ
            have ehc := eh9
            refine lv_iinc (v := nI (i + 1)) (lv' := [(4, .int (nI (i + 1))), (3, .int (nI j)), (2, .ref q), (0, .ref t), (1, .int tn)]) S.1 S.2.1 d_Pc_turnedBy_93 hl (k := 0) rfl (nI_1 _) (by decide) rfl (fun ls hl => ?_)
            refine lv_goto (tgt := 66) S.1 S.2.1 d_Pc_turnedBy_96 (by decide) ?_
            exact ihi (i + 1) _ _ _ ls (by omega) (by rw [q_ti_t (decide_eq_true (q_is_ne.mp c_82))]; exact ehc) hJ (lv_sub hl [0, 1, 2, 3, 4] rfl)
      exact LPi w 0 _ _ _ ls (by omega) ehc hJ (lv_sub hl [0, 1, 2, 3, 4] rfl)
  refine lv_iload_n S.1 S.2.1 d_Pc_turnedBy_6 rfl (lv_at hl 1 rfl) ?_
  refine lv_iconst (v := 2) S.1 S.2.1 d_Pc_turnedBy_7 (by decide) ?_
  refine lv_icmp_ne (tgt := 33) S.1 S.2.1 d_Pc_turnedBy_8 (by decide) (fun c_8 => ?_) (fun c_8 => ?_)
  · refine hp_new S zz hJ (ci := 4) rfl n_Pc_16 e0_Pc_ok (by decide) (by decide) d_Pc_turnedBy_33 (fun q H hq_q hs_q hJ => ?_)
    have ne_t_q : t ≠ q := hp_neN h_t hq_q
    obtain ⟨h1, eh1⟩ : ∃ z, z = hp_up h q (.inr (4, [.int 0, .int 0, .int 0, .int 0, .null])) := ⟨_, rfl⟩
    have hJ := hJ.cast eh1
    have h_t : h1 t = some (.inr (4, [.int (nI w), .int (nI d), .int (nI tl), .int (nI (pw w)), .ref b])) := by rw [eh1]; exact hp_up_k (hp_neN h_t hq_q) h_t
    have h_b : h1 b = some (k_lo (cA 1) (pw w * d) f) := by rw [eh1]; exact hp_up_k (hp_neN h_b hq_q) h_b
    have h_q : h1 q = some (.inr (4, [.int 0, .int 0, .int 0, .int 0, .null])) := by rw [eh1]; exact hp_up_s _ _ _
    refine lv_dup S.1 S.2.1 d_Pc_turnedBy_36 rfl ?_
    refine lv_aload_n S.1 S.2.1 d_Pc_turnedBy_37 rfl (lv_at hl 0 rfl) ?_
    refine hp_get S zz hJ h_t f_Pc_21 rfl d_Pc_turnedBy_38 ?_
    refine lv_aload_n S.1 S.2.1 d_Pc_turnedBy_41 rfl (lv_at hl 0 rfl) ?_
    refine hp_get S zz hJ h_t f_Pc_15 rfl d_Pc_turnedBy_42 ?_
    refine lv_aload_n S.1 S.2.1 d_Pc_turnedBy_45 rfl (lv_at hl 0 rfl) ?_
    refine hp_get S zz hJ h_t f_Pc_24 rfl d_Pc_turnedBy_46 ?_
    refine hp_doneWv hJ (hp_runI S zz0 (c_Pc_init l dC dI cA A _ q d w tl hd hw htl hs2 h_q) l_Pc_58 (hJ.pre _) (by decide) rfl hl.1 rfl (nl rfl) d_Pc_turnedBy_49 (by decide)) (fun h9 H locs hx hJ => ?_)
    obtain ⟨b2, hq_b2, eh9⟩ := hx
    have hne : q ≠ b2 := hp_neN h_q hq_b2
    rw [eh1, hp_up_n (Ne.symm hne)] at hq_b2
    rw [eh1, hp_tbt _ _ _ _ hne] at eh9
    have ew3 : w2 = d := by rw [ew2]; exact if_neg c_8
    have ed3 : d2 = w := by rw [ed2]; exact if_neg c_8
    rw [← ew3, ← ed3] at eh9
    subst eh9
    refine lv_astore_n (lv' := [(2, .ref q), (0, .ref t), (1, .int tn)]) S.1 S.2.1 d_Pc_turnedBy_52 rfl hl (by decide) rfl (fun ls hl => ?_)
    refine lv_iconst (v := 0) S.1 S.2.1 d_Pc_turnedBy_53 (by decide) ?_
    refine lv_istore_n (lv' := [(3, .int 0), (2, .ref q), (0, .ref t), (1, .int tn)]) S.1 S.2.1 d_Pc_turnedBy_54 rfl hl (by decide) rfl (fun ls hl => ?_)
    refine W.widen (k := 2) (n := 261) (by decide) (by decide) ?_
    exact LP d 0 q b2 _ _ _ ls (by omega) hq_q hq_b2 hne rfl hJ (lv_sub hl [0, 1, 2, 3] rfl)
  · refine hp_new S zz hJ (ci := 4) rfl n_Pc_16 e0_Pc_ok (by decide) (by decide) d_Pc_turnedBy_11 (fun q H hq_q hs_q hJ => ?_)
    have ne_t_q : t ≠ q := hp_neN h_t hq_q
    obtain ⟨h2, eh2⟩ : ∃ z, z = hp_up h q (.inr (4, [.int 0, .int 0, .int 0, .int 0, .null])) := ⟨_, rfl⟩
    have hJ := hJ.cast eh2
    have h_t : h2 t = some (.inr (4, [.int (nI w), .int (nI d), .int (nI tl), .int (nI (pw w)), .ref b])) := by rw [eh2]; exact hp_up_k (hp_neN h_t hq_q) h_t
    have h_b : h2 b = some (k_lo (cA 1) (pw w * d) f) := by rw [eh2]; exact hp_up_k (hp_neN h_b hq_q) h_b
    have h_q : h2 q = some (.inr (4, [.int 0, .int 0, .int 0, .int 0, .null])) := by rw [eh2]; exact hp_up_s _ _ _
    refine lv_dup S.1 S.2.1 d_Pc_turnedBy_14 rfl ?_
    refine lv_aload_n S.1 S.2.1 d_Pc_turnedBy_15 rfl (lv_at hl 0 rfl) ?_
    refine hp_get S zz hJ h_t f_Pc_15 rfl d_Pc_turnedBy_16 ?_
    refine lv_aload_n S.1 S.2.1 d_Pc_turnedBy_19 rfl (lv_at hl 0 rfl) ?_
    refine hp_get S zz hJ h_t f_Pc_21 rfl d_Pc_turnedBy_20 ?_
    refine lv_aload_n S.1 S.2.1 d_Pc_turnedBy_23 rfl (lv_at hl 0 rfl) ?_
    refine hp_get S zz hJ h_t f_Pc_24 rfl d_Pc_turnedBy_24 ?_
    refine hp_doneWv hJ (hp_runI S zz0 (c_Pc_init l dC dI cA A _ q w d tl hw hd htl hs h_q) l_Pc_58 (hJ.pre _) (by decide) rfl hl.1 rfl (nl rfl) d_Pc_turnedBy_27 (by decide)) (fun h9 H locs hx hJ => ?_)
    obtain ⟨b2, hq_b2, eh9⟩ := hx
    have hne : q ≠ b2 := hp_neN h_q hq_b2
    rw [eh2, hp_up_n (Ne.symm hne)] at hq_b2
    rw [eh2, hp_tbt _ _ _ _ hne] at eh9
    have ew3 : w2 = w := by rw [ew2]; exact if_pos c_8
    have ed3 : d2 = d := by rw [ed2]; exact if_pos c_8
    rw [← ew3, ← ed3] at eh9
    subst eh9
    refine lv_goto (tgt := 52) S.1 S.2.1 d_Pc_turnedBy_30 (by decide) ?_
    refine lv_astore_n (lv' := [(2, .ref q), (0, .ref t), (1, .int tn)]) S.1 S.2.1 d_Pc_turnedBy_52 rfl hl (by decide) rfl (fun ls hl => ?_)
    refine lv_iconst (v := 0) S.1 S.2.1 d_Pc_turnedBy_53 (by decide) ?_
    refine lv_istore_n (lv' := [(3, .int 0), (2, .ref q), (0, .ref t), (1, .int tn)]) S.1 S.2.1 d_Pc_turnedBy_54 rfl hl (by decide) rfl (fun ls hl => ?_)
    refine W.widen (k := 2) (n := 261) (by decide) (by decide) ?_
    exact LP d 0 q b2 _ _ _ ls (by omega) hq_q hq_b2 hne rfl hJ (lv_sub hl [0, 1, 2, 3] rfl)

set_option maxHeartbeats 4000000 in
set_option maxRecDepth 100000 in
theorem c0_Pc_turnedBy (l : Launch) (dC : Nat → ClassId) (dI : Nat → Nat → Nat) (cA : Nat → ClassId) (A : Nat → Prop) (h : hp_T) (t : Nat)  : Met l y_Pc_turnedBy (.code y_Pc_turnedBy prog_5_method_5_code 5 (some (.object "BandPainter$Picture")) :: BIG) ({ frames := 4, cells := 0, slots := 0, locals := 91 }) (va_Pc [.ref t, .int 0] (hp_I (gg dC dI cA) A h)) (hp_QR (some (.ref t))) 0 0 (fun _ => False) := by
  refine hp_enter (by decide) (Nat.le_of_ble_eq_true rfl) ?_
  intro p e s m below meth c ls S hr hlk hin hI hl
  have hl : lv_has ls 5 [(0, .ref t), (1, .int 0)] := hl
  have hJ := hI.J
  refine lv_iload_n S.1 S.2.1 d_Pc_turnedBy_0 rfl (lv_at hl 1 rfl) ?_
  refine lv_if_ne (tgt := 6) S.1 S.2.1 d_Pc_turnedBy_1 (by decide) (fun q => absurd rfl q) (fun _ => ?_)
  refine lv_aload_n S.1 S.2.1 d_Pc_turnedBy_4 rfl (lv_at hl 0 rfl) ?_
  exact hp_retRa S hr hlk d_Pc_turnedBy_5 (Or.inr ⟨_, rfl⟩)

