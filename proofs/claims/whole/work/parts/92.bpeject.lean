/-! The painter ejects, takes a new shape, tells a dot. -/
def q_ej (so up ta : Nat → Nat) (h : hp_T) : Nat → hp_T
  | 0 => h
  | i + 1 => hp_up (q_ej so up ta h i) (so i) (k_Sh (up i) (ta i) 0)
theorem q_ej_k {so up ta : Nat → Nat} {h : hp_T} {a : Nat} : ∀ k, (∀ i, i < k → a ≠ so i) → q_ej so up ta h k a = h a := by
  intro k
  induction k with
  | zero => intro _; rfl
  | succ k ih =>
    intro hk
    show hp_up (q_ej so up ta h k) (so k) _ a = h a
    rw [hp_up_n (hk k (by omega))]
    exact ih (fun i hi => hk i (by omega))
theorem q_ej_s {so up ta : Nat → Nat} {h : hp_T} {i : Nat} : ∀ k, i < k → (∀ i j, i < k → j < k → so i = so j → i = j) → q_ej so up ta h k (so i) = some (k_Sh (up i) (ta i) 0) := by
  intro k
  induction k with
  | zero => intro hi; omega
  | succ k ih =>
    intro hi hinj
    show hp_up (q_ej so up ta h k) (so k) _ (so i) = _
    by_cases hk : i = k
    · rw [hk]; exact hp_up_s _ _ _
    · rw [hp_up_n (fun z => hk (hinj i k hi (by omega) z))]
      exact ih (by omega) (fun a b ha hb => hinj a b (by omega) (by omega))

theorem pwd_le {w d : Nat} (hw : w ≤ 128) (hd : d ≤ 128) : pw w * d ≤ 256 := by
  have z : pw w ≤ 2 := by unfold pw; omega
  exact Nat.le_trans (Nat.mul_le_mul z hd) (by decide)
theorem nI_lem {i n : Nat} (h : i < n) (hn : n ≤ 5100) : nI i ≤ nI n - 1 := by
  rw [show (1 : Int32) = nI 1 from rfl, pk_sub (by omega)]
  exact nI_le (by omega) (by omega)

set_option maxHeartbeats 4000000 in
set_option maxRecDepth 100000 in
theorem c_BP_eject (l : Launch) (dC : Nat → ClassId) (dI : Nat → Nat → Nat) (cA : Nat → ClassId) (A : Nat → Prop) (h : hp_T) (x sheet shp pil ink clip : Nat) (bf : Nat → Int32) (bl st n cnt : Nat) (sz : Int32) (nw : Option Nat) (f g : Nat → Int32) (so up ta : Nat → Nat) (ss : Nat → Int32) (go : Nat → Option Nat) (h_x : h x = some (k_BP bf sheet shp pil ink clip)) (hn : n ≤ 5100) (ne_bl_st : bl ≠ st) (hcnt : cnt ≤ 64 ∧ bf 6 = nI cnt) (h_pil : h pil = some (k_Pl (nI n) bl st sz nw)) (h_bl : h bl = some (k_in (cA 0) n f)) (h_st : h st = some (k_in (cA 2) n g)) (h_shp : h shp = some (k_rf (cA 3) 64 go)) (hgo : ∀ i, i < cnt → go i = some (so i)) (hso : ∀ i, i < cnt → h (so i) = some (k_Sh (up i) (ta i) (ss i))) (hinj : ∀ i j, i < cnt → j < cnt → so i = so j → i = j) : Met l y_BP_eject (.code y_BP_eject prog_1_method_11_code 3 none :: BIG) ({ frames := 2, cells := 0, slots := 0, locals := 44 }) (va_Pc [.ref x] (hp_I (gg dC dI cA) A h)) (hp_QW (gg dC dI cA) A hp_mv (fun _ h' => h' = q_ej so up ta (hp_up (hp_up (hp_up (hp_up h pil (k_Pl (nI n) bl st 0 none)) bl (k_in (cA 0) n (q_fl f 0 n))) st (k_in (cA 2) n (q_fl g 0 n))) x (k_BP (upd bf 8 0) sheet shp pil ink clip)) cnt)) 0 0 A := by
  refine hp_enter (by decide) (Nat.le_of_ble_eq_true rfl) ?_
  intro p e s m below meth c ls S hr hlk hin hI hl
  have hl : lv_has ls 3 [(0, .ref x)] := hl
  have hJ := hI.J
  refine lv_aload_n S.1 S.2.1 d_BP_eject_0 rfl (lv_at hl 0 rfl) ?_
  refine hp_get S zz hJ h_x f_BP_43 rfl d_BP_eject_1 ?_
  refine hp_doneWv hJ (hp_runV S zz0 (c_Pl_clear l dC dI cA A h pil bl st n sz nw f g hn ne_bl_st h_pil h_bl h_st) l_BP_148 (hJ.preV _ h_pil rfl) (by decide) rfl hl.1 rfl (nl rfl) d_BP_eject_4 (by decide)) (fun h1 H locs eh1 hJ => ?_)
  replace h_x : h1 x = some (.inr (0, [.int (bf 0), .int (bf 1), .int (bf 2), .ref sheet, .ref shp, .ref pil, .int (bf 6), .int (bf 7), .int (bf 8), .ref ink, .int (bf 10), .int (bf 11), .int (bf 12), .ref clip])) := by rw [eh1]; exact hp_up_k (hp_ne h_x h_st (show ((0, 0) : Nat × Nat) ≠ (1, 0) by decide)) (hp_up_k (hp_ne h_x h_bl (show ((0, 0) : Nat × Nat) ≠ (1, 0) by decide)) (hp_up_k (hp_ne h_x h_pil (show ((0, 0) : Nat × Nat) ≠ (0, 5) by decide)) h_x))
  replace h_shp : h1 shp = some (k_rf (cA 3) 64 go) := by rw [eh1]; exact hp_up_k (hp_ne h_shp h_st (show ((5, 0) : Nat × Nat) ≠ (1, 0) by decide)) (hp_up_k (hp_ne h_shp h_bl (show ((5, 0) : Nat × Nat) ≠ (1, 0) by decide)) (hp_up_k (hp_ne h_shp h_pil (show ((5, 0) : Nat × Nat) ≠ (0, 5) by decide)) h_shp))
  have hso1 : ∀ i, i < cnt → h1 (so i) = some (k_Sh (up i) (ta i) (ss i)) := fun i hi => by rw [eh1]; exact hp_up_k (hp_ne (hso i hi) h_st (show ((0, 6) : Nat × Nat) ≠ (1, 0) by decide)) (hp_up_k (hp_ne (hso i hi) h_bl (show ((0, 6) : Nat × Nat) ≠ (1, 0) by decide)) (hp_up_k (hp_ne (hso i hi) h_pil (show ((0, 6) : Nat × Nat) ≠ (0, 5) by decide)) (hso i hi)))
  refine lv_aload_n S.1 S.2.1 d_BP_eject_7 rfl (lv_at hl 0 rfl) ?_
  refine lv_iconst (v := 0) S.1 S.2.1 d_BP_eject_8 (by decide) ?_
  refine hp_put S zz hJ h_x fp_BP_134 rfl rfl (nl rfl) d_BP_eject_9 (fun H locs hJ => ?_)
  obtain ⟨h2, eh2⟩ : ∃ z, z = hp_up h1 x (.inr (0, [.int (bf 0), .int (bf 1), .int (bf 2), .ref sheet, .ref shp, .ref pil, .int (bf 6), .int (bf 7), .int 0, .ref ink, .int (bf 10), .int (bf 11), .int (bf 12), .ref clip])) := ⟨_, rfl⟩
  have hJ := hJ.cast eh2
  have h0_x := h_x
  have h_shp : h2 shp = some (k_rf (cA 3) 64 go) := by rw [eh2]; exact hp_up_k (hp_ne h_shp h0_x (show ((5, 0) : Nat × Nat) ≠ (0, 0) by decide)) h_shp
  have h_x : h2 x = some (.inr (0, [.int (bf 0), .int (bf 1), .int (bf 2), .ref sheet, .ref shp, .ref pil, .int (bf 6), .int (bf 7), .int 0, .ref ink, .int (bf 10), .int (bf 11), .int (bf 12), .ref clip])) := by rw [eh2]; exact hp_up_s _ _ _
  refine lv_iconst (v := 0) S.1 S.2.1 d_BP_eject_12 (by decide) ?_
  refine lv_istore_n (lv' := [(1, .int 0), (0, .ref x)]) S.1 S.2.1 d_BP_eject_13 rfl hl (by decide) rfl (fun ls hl => ?_)
  have h_x2 := h_x
  have h_shp2 := h_shp
  have hso2 : ∀ i, i < cnt → h2 (so i) = some (k_Sh (up i) (ta i) (ss i)) := fun i hi => by rw [eh2]; exact hp_up_k (hp_ne (hso1 i hi) h0_x (show ((0, 6) : Nat × Nat) ≠ (0, 0) by decide)) (hso1 i hi)
  have LP : ∀ (n_ i : Nat) (hc : hp_T) (H : Heap) (locs : List Loc) (ls : Array Slot), i + n_ = cnt → hc = q_ej so up ta h2 i → hp_J (gg dC dI cA) A hc s H locs → lv_has ls 3 [(1, .int (nI i)), (0, .ref x)] → W p l e ({ frames := 2, cells := 0, slots := 0, locals := 44 }) s m ([.ref x] : List Value).toArray below meth c H locs 0 0 (MQ below (hp_QW (gg dC dI cA) A hp_mv (fun _ h' => h' = q_ej so up ta (hp_up (hp_up (hp_up (hp_up h pil (k_Pl (nI n) bl st 0 none)) bl (k_in (cA 0) n (q_fl f 0 n))) st (k_in (cA 2) n (q_fl g 0 n))) x (k_BP (upd bf 8 0) sheet shp pil ink clip)) cnt)) ([.ref x] : List Value).toArray s 0 0 A) (F0 m 14 ls []) := by
    intro n_
    induction n_ with
    | zero =>
      intro i hc H locs ls hu_ ehc hJ hl
      have h_x : hc x = some (k_BP (upd bf 8 0) sheet shp pil ink clip) := by rw [ehc, q_ej_k i (fun j hj => hp_ne h_x2 (hso2 j (by omega)) (show ((0, 0) : Nat × Nat) ≠ (0, 6) by decide))]; exact h_x2
      have h_shp : hc shp = some (k_rf (cA 3) 64 go) := by rw [ehc, q_ej_k i (fun j hj => hp_ne h_shp2 (hso2 j (by omega)) (show ((5, 0) : Nat × Nat) ≠ (0, 6) by decide))]; exact h_shp2
      refine lv_iload_n S.1 S.2.1 d_BP_eject_14 rfl (lv_at hl 0 rfl) ?_
      refine lv_aload_n S.1 S.2.1 d_BP_eject_15 rfl (lv_at hl 1 rfl) ?_
      refine hp_get S zz hJ h_x f_BP_70 rfl d_BP_eject_16 ?_
      rw [show (upd bf 8 0) 6 = bf 6 from rfl, hcnt.2]
      obtain ⟨e_n, -⟩ : i = cnt ∧ True := ⟨by omega, trivial⟩
      refine lv_icmp_ge (tgt := 43) S.1 S.2.1 d_BP_eject_19 (by decide) (fun _ => ?_) (fun q => absurd (by rw [e_n]; exact Int32.le_refl _) q)
      exact hp_retWv S hJ hr hlk d_BP_eject_43 (by decide) (by rw [ehc, e_n, eh2, eh1]; rfl)
    | succ n_ ih =>
      intro i hc H locs ls hu_ ehc hJ hl
      have h_x : hc x = some (k_BP (upd bf 8 0) sheet shp pil ink clip) := by rw [ehc, q_ej_k i (fun j hj => hp_ne h_x2 (hso2 j (by omega)) (show ((0, 0) : Nat × Nat) ≠ (0, 6) by decide))]; exact h_x2
      have h_shp : hc shp = some (k_rf (cA 3) 64 go) := by rw [ehc, q_ej_k i (fun j hj => hp_ne h_shp2 (hso2 j (by omega)) (show ((5, 0) : Nat × Nat) ≠ (0, 6) by decide))]; exact h_shp2
      refine lv_iload_n S.1 S.2.1 d_BP_eject_14 rfl (lv_at hl 0 rfl) ?_
      refine lv_aload_n S.1 S.2.1 d_BP_eject_15 rfl (lv_at hl 1 rfl) ?_
      refine hp_get S zz hJ h_x f_BP_70 rfl d_BP_eject_16 ?_
      rw [show (upd bf 8 0) 6 = bf 6 from rfl, hcnt.2]
      refine lv_icmp_ge (tgt := 43) S.1 S.2.1 d_BP_eject_19 (by decide) (fun q => absurd q (nI_ge (a := i) (b := cnt) (by omega) (by omega))) (fun _ => ?_)
      refine lv_aload_n S.1 S.2.1 d_BP_eject_22 rfl (lv_at hl 1 rfl) ?_
      refine lv_iload_n S.1 S.2.1 d_BP_eject_23 rfl (lv_at hl 0 rfl) ?_
      have hil : i < cnt := by omega
      obtain ⟨q, e_q⟩ : ∃ z, z = so i := ⟨_, rfl⟩
      have h_q : hc q = some (k_Sh (up i) (ta i) (ss i)) := by rw [e_q, ehc, q_ej_k i (fun j hj z => absurd (hinj i j hil (by omega) z) (by omega))]; exact hso2 i hil
      refine hp_doneR (hp_runV S zz0 (cS_BP_shapeOf l dC dI cA A hc x sheet shp pil ink clip (upd bf 8 0) i q go h_x ⟨nI_pos' (by omega), by rw [show (upd bf 8 0) 6 = bf 6 from rfl, hcnt.2]; exact nI_lem hil (by omega)⟩ (by omega) (by rw [e_q]; exact hgo i hil) h_shp) l_BP_82 (hJ.preV _ h_x rfl) (by decide) rfl hl.1 rfl (nl rfl) d_BP_eject_24 (by decide)) ?_
      refine lv_astore_n (lv' := [(2, .ref q), (1, .int (nI i)), (0, .ref x)]) S.1 S.2.1 d_BP_eject_27 rfl hl (by decide) rfl (fun ls hl => ?_)
      refine lv_aload_n S.1 S.2.1 d_BP_eject_28 rfl (lv_at hl 0 rfl) ?_
      refine lv_ifnull S.1 S.2.1 d_BP_eject_29 ?_
      refine lv_aload_n S.1 S.2.1 d_BP_eject_32 rfl (lv_at hl 0 rfl) ?_
      refine lv_iconst (v := 0) S.1 S.2.1 d_BP_eject_33 (by decide) ?_
      refine hp_put S zz hJ h_q fp_BP_86 rfl rfl (nl rfl) d_BP_eject_34 (fun H locs hJ => ?_)
      obtain ⟨h3, eh3⟩ : ∃ z, z = hp_up hc q (.inr (6, [.ref (up i), .ref (ta i), .int 0])) := ⟨_, rfl⟩
      have hJ := hJ.cast eh3
      have h0_q := h_q
      have h_x : h3 x = some (.inr (0, [.int (bf 0), .int (bf 1), .int (bf 2), .ref sheet, .ref shp, .ref pil, .int (bf 6), .int (bf 7), .int 0, .ref ink, .int (bf 10), .int (bf 11), .int (bf 12), .ref clip])) := by rw [eh3]; exact hp_up_k (hp_ne h_x h0_q (show ((0, 0) : Nat × Nat) ≠ (0, 6) by decide)) h_x
      have h_shp : h3 shp = some (k_rf (cA 3) 64 go) := by rw [eh3]; exact hp_up_k (hp_ne h_shp h0_q (show ((5, 0) : Nat × Nat) ≠ (0, 6) by decide)) h_shp
      have h_q : h3 q = some (.inr (6, [.ref (up i), .ref (ta i), .int 0])) := by rw [eh3]; exact hp_up_s _ _ _
      refine lv_iinc (v := nI (i + 1)) (lv' := [(1, .int (nI (i + 1))), (2, .ref q), (0, .ref x)]) S.1 S.2.1 d_BP_eject_37 hl (k := 1) rfl (nI_1 _) (by decide) rfl (fun ls hl => ?_)
      refine lv_goto (tgt := 14) S.1 S.2.1 d_BP_eject_40 (by decide) ?_
      exact ih (i + 1) _ _ _ ls (by omega) (by rw [eh3, ehc, e_q]; rfl) hJ (lv_sub hl [0, 2] rfl)
  exact LP cnt 0 _ _ _ ls (by omega) rfl hJ (lv_sub hl [0, 1] rfl)

theorem hp_q3 {h : hp_T} {q b p a : Nat} {e0 eb ep ea eq : va_E} (h1 : q ≠ b) (h2 : q ≠ p) (h3 : q ≠ a) : hp_up (hp_up (hp_up (hp_up (hp_up h q e0) b eb) p ep) a ea) q eq = hp_up (hp_up (hp_up (hp_up h b eb) p ep) a ea) q eq := by
  funext z
  by_cases hz : z = q
  · rw [hz, hp_up_s, hp_up_s]
  · simp only [hp_up, if_neg hz]

set_option maxHeartbeats 4000000 in
set_option maxRecDepth 100000 in
theorem c_BP_shape (l : Launch) (dC : Nat → ClassId) (dI : Nat → Nat → Nat) (cA : Nat → ClassId) (A : Nat → Prop) (h : hp_T) (x sheet shp pil ink clip : Nat) (bf : Nat → Int32) (w d cnt : Nat) (go : Nat → Option Nat) (h_x : h x = some (k_BP bf sheet shp pil ink clip)) (hw : 1 ≤ w ∧ w ≤ 128) (hd : 1 ≤ d ∧ d ≤ 128) (hcnt : cnt < 64 ∧ bf 6 = nI cnt) (hr9 : bf 7 + nI d ≤ 4096) (h_shp : h shp = some (k_rf (cA 3) 64 go)) : Met l y_BP_shape (.code y_BP_shape prog_1_method_2_code 4 (some .int) :: BIG) ({ frames := 5, cells := 4, slots := 268, locals := 104 }) (va_Pc [.ref x, .int (nI w), .int (nI d)] (hp_I (gg dC dI cA) A h)) (hp_QW (gg dC dI cA) A hp_mi (fun r h' => r = nI cnt ∧ ∃ q p b a, h q = none ∧ h p = none ∧ h b = none ∧ h a = none ∧ (q ≠ p ∧ q ≠ b ∧ q ≠ a ∧ p ≠ b ∧ p ≠ a ∧ b ≠ a) ∧ h' = hp_up (hp_up (hp_up (hp_up (hp_up (hp_up h b (k_lo (cA 1) (pw w * d) (fun _ => 0))) p (k_Pc (nI w) (nI d) (nI 1) (nI (pw w)) b)) a (k_rf (cA 4) 4 (fun _ => none))) q (k_Sh p a 0)) shp (k_rf (cA 3) 64 (va_up go cnt (some q)))) x (k_BP (upd (upd bf 6 (nI (cnt + 1))) 7 (bf 7 + nI d)) sheet shp pil ink clip))) 4 268 A := by
  refine hp_enter (by decide) (Nat.le_of_ble_eq_true rfl) ?_
  intro p e s m below meth c ls S hr hlk hin hI hl
  have hl : lv_has ls 4 [(0, .ref x), (1, .int (nI w)), (2, .int (nI d))] := hl
  have hJ := hI.J
  refine lv_iconst (v := 1) S.1 S.2.1 d_BP_shape_0 (by decide) ?_
  refine lv_iload_n S.1 S.2.1 d_BP_shape_1 rfl (lv_at hl 1 rfl) ?_
  refine lv_sipush (v := 128) S.1 S.2.1 d_BP_shape_2 (by decide) ?_
  refine hp_doneR (hp_runS S zz0 (c_BP_isWithin l _ _ _) l_BP_59 (hp_pre0 _) (by decide) rfl hl.1 rfl (nl rfl) d_BP_shape_5 (by decide)) ?_
  refine lv_if_eq (tgt := 22) S.1 S.2.1 d_BP_shape_8 (by decide) (fun q => absurd (⟨nI_le (a := 1) (b := w) (by omega) (by omega), nI_le (a := w) (b := 128) (by omega) (by omega)⟩) (q_is_0.mp q)) (fun _ => ?_)
  refine lv_iconst (v := 1) S.1 S.2.1 d_BP_shape_11 (by decide) ?_
  refine lv_iload_n S.1 S.2.1 d_BP_shape_12 rfl (lv_at hl 2 rfl) ?_
  refine lv_sipush (v := 128) S.1 S.2.1 d_BP_shape_13 (by decide) ?_
  refine hp_doneR (hp_runS S zz0 (c_BP_isWithin l _ _ _) l_BP_59 (hp_pre0 _) (by decide) rfl hl.1 rfl (nl rfl) d_BP_shape_16 (by decide)) ?_
  refine lv_if_ne (tgt := 32) S.1 S.2.1 d_BP_shape_19 (by decide) (fun _ => ?_) (fun q => absurd q (q_is_ne.mpr (⟨nI_le (a := 1) (b := d) (by omega) (by omega), nI_le (a := d) (b := 128) (by omega) (by omega)⟩)))
  refine lv_aload_n S.1 S.2.1 d_BP_shape_32 rfl (lv_at hl 0 rfl) ?_
  refine hp_get S zz hJ h_x f_BP_70 rfl d_BP_shape_33 ?_
  refine lv_bipush (v := 64) S.1 S.2.1 d_BP_shape_36 (by decide) ?_
  rw [hcnt.2]
  refine lv_icmp_ge (tgt := 53) S.1 S.2.1 d_BP_shape_38 (by decide) (fun q => absurd q (nI_ge (a := cnt) (b := 64) (by omega) (by decide))) (fun _ => ?_)
  refine lv_aload_n S.1 S.2.1 d_BP_shape_41 rfl (lv_at hl 0 rfl) ?_
  refine hp_get S zz hJ h_x f_BP_73 rfl d_BP_shape_42 ?_
  refine lv_iload_n S.1 S.2.1 d_BP_shape_45 rfl (lv_at hl 2 rfl) ?_
  refine lv_iadd S.1 S.2.1 d_BP_shape_46 ?_
  refine lv_sipush (v := 4096) S.1 S.2.1 d_BP_shape_47 (by decide) ?_
  refine lv_icmp_le (tgt := 63) S.1 S.2.1 d_BP_shape_50 (by decide) (fun _ => ?_) (fun q => absurd hr9 q)
  refine lv_aload_n S.1 S.2.1 d_BP_shape_63 rfl (lv_at hl 0 rfl) ?_
  refine hp_get S zz hJ h_x f_BP_70 rfl d_BP_shape_64 ?_
  rw [hcnt.2]
  refine lv_istore_n (lv' := [(3, .int (nI cnt)), (0, .ref x), (1, .int (nI w)), (2, .int (nI d))]) S.1 S.2.1 d_BP_shape_67 rfl hl (by decide) rfl (fun ls hl => ?_)
  refine lv_aload_n S.1 S.2.1 d_BP_shape_68 rfl (lv_at hl 1 rfl) ?_
  refine hp_get S zz hJ h_x f_BP_34 rfl d_BP_shape_69 ?_
  refine lv_iload_n S.1 S.2.1 d_BP_shape_72 rfl (lv_at hl 0 rfl) ?_
  refine hp_new S zz hJ (ci := 6) rfl n_BP_32 e0_Sh_ok (by decide) (by decide) d_BP_shape_73 (fun q H hq_q hs_q hJ => ?_)
  obtain ⟨h1, eh1⟩ : ∃ z, z = hp_up h q (.inr (6, [.null, .null, .int 0])) := ⟨_, rfl⟩
  have hJ := hJ.cast eh1
  have h_x : h1 x = some (.inr (0, [.int (bf 0), .int (bf 1), .int (bf 2), .ref sheet, .ref shp, .ref pil, .int (bf 6), .int (bf 7), .int (bf 8), .ref ink, .int (bf 10), .int (bf 11), .int (bf 12), .ref clip])) := by rw [eh1]; exact hp_up_k (hp_neN h_x hq_q) h_x
  have h_shp : h1 shp = some (k_rf (cA 3) 64 go) := by rw [eh1]; exact hp_up_k (hp_neN h_shp hq_q) h_shp
  have h_q : h1 q = some (.inr (6, [.null, .null, .int 0])) := by rw [eh1]; exact hp_up_s _ _ _
  refine lv_dup S.1 S.2.1 d_BP_shape_76 rfl ?_
  refine lv_iload_n S.1 S.2.1 d_BP_shape_77 rfl (lv_at hl 2 rfl) ?_
  refine lv_iload_n S.1 S.2.1 d_BP_shape_78 rfl (lv_at hl 3 rfl) ?_
  refine hp_doneWv hJ (hp_runI S zz0 (c_Sh_init l dC dI cA A _ q w d (by omega) (by omega) (pwd_le hw.2 hd.2) h_q) l_BP_81 (hJ.pre _) (by decide) rfl hl.1 rfl (nl rfl) d_BP_shape_79 (by decide)) (fun h3 H locs hx hJ => ?_)
  obtain ⟨p9, b9, a9, hp9, hb9, ha9, n1, n2, n3, eh3⟩ := hx
  have nq1 : q ≠ p9 := hp_neN h_q hp9
  have nq2 : q ≠ b9 := hp_neN h_q hb9
  have nq3 : q ≠ a9 := hp_neN h_q ha9
  have h3_x : h3 x = some (.inr (0, [.int (bf 0), .int (bf 1), .int (bf 2), .ref sheet, .ref shp, .ref pil, .int (bf 6), .int (bf 7), .int (bf 8), .ref ink, .int (bf 10), .int (bf 11), .int (bf 12), .ref clip])) := by rw [eh3]; exact hp_up_k (hp_ne h_x h_q (show ((0, 0) : Nat × Nat) ≠ (0, 6) by decide)) (hp_up_k (hp_neN h_x ha9) (hp_up_k (hp_neN h_x hp9) (hp_up_k (hp_neN h_x hb9) h_x)))
  have h3_shp : h3 shp = some (k_rf (cA 3) 64 go) := by rw [eh3]; exact hp_up_k (hp_ne h_shp h_q (show ((5, 0) : Nat × Nat) ≠ (0, 6) by decide)) (hp_up_k (hp_neN h_shp ha9) (hp_up_k (hp_neN h_shp hp9) (hp_up_k (hp_neN h_shp hb9) h_shp)))
  have h3_q : h3 q = some (k_Sh p9 a9 0) := by rw [eh3]; exact hp_up_s _ _ _
  replace h_x := h3_x
  replace h_shp := h3_shp
  replace h_q := h3_q
  refine hp_aast S hJ 3 6 h_shp rfl h_q rfl (vp_in_nI hcnt.1 (by decide)) d_BP_shape_82 (fun H locs hJ => ?_)
  rw [nI_clamp (by omega)] at hJ
  obtain ⟨h4, eh4⟩ : ∃ z, z = hp_up h3 shp (k_rf (cA 3) 64 (va_up go cnt (some q))) := ⟨_, rfl⟩
  have hJ := hJ.cast eh4
  have h0_shp := h_shp
  have h_x : h4 x = some (.inr (0, [.int (bf 0), .int (bf 1), .int (bf 2), .ref sheet, .ref shp, .ref pil, .int (bf 6), .int (bf 7), .int (bf 8), .ref ink, .int (bf 10), .int (bf 11), .int (bf 12), .ref clip])) := by rw [eh4]; exact hp_up_k (hp_ne h_x h0_shp (show ((0, 0) : Nat × Nat) ≠ (5, 0) by decide)) h_x
  have h_q : h4 q = some (.inr (6, [.ref p9, .ref a9, .int 0])) := by rw [eh4]; exact hp_up_k (hp_ne h_q h0_shp (show ((0, 6) : Nat × Nat) ≠ (5, 0) by decide)) h_q
  have h_shp : h4 shp = some (k_rf (cA 3) 64 (va_up go cnt (some q))) := by rw [eh4]; exact hp_up_s _ _ _
  refine lv_aload_n S.1 S.2.1 d_BP_shape_83 rfl (lv_at hl 1 rfl) ?_
  refine lv_dup S.1 S.2.1 d_BP_shape_84 rfl ?_
  refine hp_get S zz hJ h_x f_BP_70 rfl d_BP_shape_85 ?_
  rw [hcnt.2]
  refine lv_iconst (v := 1) S.1 S.2.1 d_BP_shape_88 (by decide) ?_
  refine lv_iadd S.1 S.2.1 d_BP_shape_89 ?_
  rw [show nI cnt + 1 = nI (cnt + 1) from nI_add cnt 1]
  refine hp_put S zz hJ h_x fp_BP_70 rfl rfl (nl rfl) d_BP_shape_90 (fun H locs hJ => ?_)
  obtain ⟨h5, eh5⟩ : ∃ z, z = hp_up h4 x (.inr (0, [.int (bf 0), .int (bf 1), .int (bf 2), .ref sheet, .ref shp, .ref pil, .int (nI (cnt + 1)), .int (bf 7), .int (bf 8), .ref ink, .int (bf 10), .int (bf 11), .int (bf 12), .ref clip])) := ⟨_, rfl⟩
  have hJ := hJ.cast eh5
  have h0_x := h_x
  have h_shp : h5 shp = some (k_rf (cA 3) 64 (va_up go cnt (some q))) := by rw [eh5]; exact hp_up_k (hp_ne h_shp h0_x (show ((5, 0) : Nat × Nat) ≠ (0, 0) by decide)) h_shp
  have h_q : h5 q = some (.inr (6, [.ref p9, .ref a9, .int 0])) := by rw [eh5]; exact hp_up_k (hp_ne h_q h0_x (show ((0, 6) : Nat × Nat) ≠ (0, 0) by decide)) h_q
  have h_x : h5 x = some (.inr (0, [.int (bf 0), .int (bf 1), .int (bf 2), .ref sheet, .ref shp, .ref pil, .int (nI (cnt + 1)), .int (bf 7), .int (bf 8), .ref ink, .int (bf 10), .int (bf 11), .int (bf 12), .ref clip])) := by rw [eh5]; exact hp_up_s _ _ _
  refine lv_aload_n S.1 S.2.1 d_BP_shape_93 rfl (lv_at hl 1 rfl) ?_
  refine lv_dup S.1 S.2.1 d_BP_shape_94 rfl ?_
  refine hp_get S zz hJ h_x f_BP_73 rfl d_BP_shape_95 ?_
  refine lv_iload_n S.1 S.2.1 d_BP_shape_98 rfl (lv_at hl 3 rfl) ?_
  refine lv_iadd S.1 S.2.1 d_BP_shape_99 ?_
  refine hp_put S zz hJ h_x fp_BP_73 rfl rfl (nl rfl) d_BP_shape_100 (fun H locs hJ => ?_)
  obtain ⟨h6, eh6⟩ : ∃ z, z = hp_up h5 x (.inr (0, [.int (bf 0), .int (bf 1), .int (bf 2), .ref sheet, .ref shp, .ref pil, .int (nI (cnt + 1)), .int ((bf 7) + (nI d)), .int (bf 8), .ref ink, .int (bf 10), .int (bf 11), .int (bf 12), .ref clip])) := ⟨_, rfl⟩
  have hJ := hJ.cast eh6
  have h0_x := h_x
  have h_shp : h6 shp = some (k_rf (cA 3) 64 (va_up go cnt (some q))) := by rw [eh6]; exact hp_up_k (hp_ne h_shp h0_x (show ((5, 0) : Nat × Nat) ≠ (0, 0) by decide)) h_shp
  have h_q : h6 q = some (.inr (6, [.ref p9, .ref a9, .int 0])) := by rw [eh6]; exact hp_up_k (hp_ne h_q h0_x (show ((0, 6) : Nat × Nat) ≠ (0, 0) by decide)) h_q
  have h_x : h6 x = some (.inr (0, [.int (bf 0), .int (bf 1), .int (bf 2), .ref sheet, .ref shp, .ref pil, .int (nI (cnt + 1)), .int ((bf 7) + (nI d)), .int (bf 8), .ref ink, .int (bf 10), .int (bf 11), .int (bf 12), .ref clip])) := by rw [eh6]; exact hp_up_s _ _ _
  refine lv_iload_n S.1 S.2.1 d_BP_shape_103 rfl (lv_at hl 0 rfl) ?_
  exact hp_retWi S hJ hr hlk d_BP_shape_104 (by decide) ⟨rfl, q, p9, b9, a9, hq_q, by rw [eh1] at hp9; exact hp_up_none hp9, by rw [eh1] at hb9; exact hp_up_none hb9, by rw [eh1] at ha9; exact hp_up_none ha9, ⟨nq1, nq2, nq3, n1, n2, n3⟩, by rw [eh6, eh5, eh4, eh3, eh1, hp_up_up, hp_q3 nq2 nq1 nq3]; rfl⟩

