/-! The law from its entry to its end. -/
theorem c_La_cell (l : Launch) (b L k : Nat) (xs : Nat → Int32) (hk : k < 10) (hL : L ≤ 3587) : Met l y_La_cell (.code y_La_cell method_2_code 2 (some .int) :: BIG) ({ frames := 0, cells := 0, slots := 0, locals := 0 }) (va_Pc [.ref b, .int (nI k)] (fun U => va_X b L xs U U.heap ∧ b < U.heap.size)) (hp_QR (some (.int (if k < L then xs k else 0)))) 0 0 (fun _ => False) := by
  refine hp_enter (by decide) (Nat.le_of_ble_eq_true rfl) ?_
  intro p e s m below meth c ls S hr hlk hin hB hl
  have hl : lv_has ls 2 [(0, .ref b), (1, .int (nI k))] := hl
  obtain ⟨hX, hbl⟩ := hB
  have hS : va_S (fun _ : Nat => False) s.heap s.heap [] := va_S.rf
  have hbA : ¬ (fun _ : Nat => False) b := fun q => q
  refine lv_iload_n S.1 S.2.1 d_La_cell_0 rfl (lv_at hl 1 rfl) ?_
  refine lv_aload_n S.1 S.2.1 d_La_cell_1 rfl (lv_at hl 0 rfl) ?_
  refine va_slen S.1 S.2.1 hX hbl hbA hS d_La_cell_2 ?_
  have hcmp : nI L ≤ nI k ↔ L ≤ k := by rw [z_le, z_nI (by omega), z_nI (by omega)]; omega
  refine lv_icmp_ge (tgt := 12) S.1 S.2.1 d_La_cell_3 (by decide) (fun q => ?_) (fun q => ?_)
  · have hq : L ≤ k := hcmp.mp q
    refine lv_iconst (v := 0) S.1 S.2.1 d_La_cell_12 (by decide) ?_
    exact hp_retRi S hr hlk d_La_cell_13 (by rw [if_neg (by omega)])
  · have hq : ¬ L ≤ k := fun z => q (hcmp.mpr z)
    refine lv_aload_n S.1 S.2.1 d_La_cell_6 rfl (lv_at hl 0 rfl) ?_
    refine lv_iload_n S.1 S.2.1 d_La_cell_7 rfl (lv_at hl 1 rfl) ?_
    refine va_sld S.1 S.2.1 hX hbl hbA hS (vp_in_nI (by omega) (by omega)) d_La_cell_8 ?_
    refine lv_goto (tgt := 13) S.1 S.2.1 d_La_cell_9 (by decide) ?_
    have e : (nI k).toNatClampNeg = k := by
      show (nI k).toInt.toNat = k
      rw [z_nI (by omega)]
      omega
    exact hp_retRi S hr hlk d_La_cell_13 (by rw [if_pos (by omega), e])
theorem and_15 (v : Int32) : 0 ≤ (v &&& 15).toInt ∧ (v &&& 15).toInt ≤ 15 := by
  have h1 : (v &&& 15).toBitVec.toNat ≤ 15 := by
    rw [Int32.toBitVec_and, BitVec.toNat_and]
    exact Nat.and_le_right
  have h2 : (v &&& 15).toInt = ((v &&& 15).toBitVec.toNat : Int) := BitVec.toInt_eq_toNat_of_lt (by omega)
  omega
theorem law_gt {i L : Nat} (hi : i ≤ 4000) (hL : L ≤ 3587) : nI L - 7 < nI i ↔ L < i + 7 := by
  have e7 : (7 : Int32).toInt = 7 := rfl
  rw [z_lt, z_sub (by rw [z_nI (by omega), e7]; omega) (by rw [z_nI (by omega), e7]; omega), z_nI (by omega), z_nI (by omega), e7]
  omega
section LAW
variable {p : Program} {l : Launch} {e : Env} {s : State} {m : MethodId} {below : List Frame} {meth : Method} {c : Code} {b L : Nat} {xs : Nat → Int32} {dC : Nat → ClassId} {dI : Nat → Nat → Nat} {cA : Nat → ClassId} {x t out : Nat} {Q : State → Prop}
set_option maxRecDepth 100000 in
theorem law_loop (S : CallFix p m c code 7 s #[Value.ref b] BIG "BandPainterLaw") (hX : va_X b L xs s s.heap) (hbl : b < s.heap.size) (hst : l.stackTraces = false) (hEX : ex_X s) (hL : L ≤ 3587)
    (kend : ∀ (H : Heap) (locs : List Loc) (cells slots : Nat) (ls : Array Slot), (∀ y ∈ locs, s.heap.size ≤ y.base) → cells ≤ 601024 ∧ slots ≤ 7292999 → W p l e room_1 s m #[Value.ref b] below meth c H locs cells slots Q (F0 m 1004 ls [])) :
    ∀ (n i : Nat) (h : hp_T) (H : Heap) (locs : List Loc) (cells slots : Nat) (ls : Array Slot), L ≤ i + 7 * n + 6 → i ≤ 4000 → hp_J (gg dC dI cA) (fun q => s.heap.size ≤ q) h s H locs → bInv cA x t out 0 0 (fun _ => 0) h → lv_has ls 7 [(4, .int (nI i)), (3, .ref out), (2, .ref t), (1, .ref x), (0, .ref b)] → cells + 20 * n ≤ 601024 ∧ slots + 1000 * n ≤ 7292999 → W p l e room_1 s m #[Value.ref b] below meth c H locs cells slots Q (F0 m 53 ls []) := by
  have hbA : ¬ (fun q : Nat => s.heap.size ≤ q) b := Nat.not_le.mpr hbl
  intro n
  induction n with
  | zero =>
    intro i h H locs cells slots ls h1 h2 hJ hI hl hc
    refine lv_iload S.1 S.2.1 d_La_law_53 (lv_at hl 0 rfl) ?_
    refine lv_aload_n S.1 S.2.1 d_La_law_55 rfl (lv_at hl 4 rfl) ?_
    refine va_slen S.1 S.2.1 hX hbl hbA hJ.2.2.2.1 d_La_law_56 ?_
    refine lv_bipush (v := 7) S.1 S.2.1 d_La_law_57 (by decide) ?_
    refine lv_isub S.1 S.2.1 d_La_law_59 ?_
    refine lv_icmp_gt (tgt := 1004) S.1 S.2.1 d_La_law_60 (by decide) (fun _ => kend H locs cells slots ls hJ.2.2.2.1.2.2 (by omega)) (fun q => absurd ((law_gt h2 hL).mpr (by omega)) q)
  | succ n ih =>
    intro i h H locs cells slots ls h1 h2 hJ hI hl hc
    refine lv_iload S.1 S.2.1 d_La_law_53 (lv_at hl 0 rfl) ?_
    refine lv_aload_n S.1 S.2.1 d_La_law_55 rfl (lv_at hl 4 rfl) ?_
    refine va_slen S.1 S.2.1 hX hbl hbA hJ.2.2.2.1 d_La_law_56 ?_
    refine lv_bipush (v := 7) S.1 S.2.1 d_La_law_57 (by decide) ?_
    refine lv_isub S.1 S.2.1 d_La_law_59 ?_
    refine lv_icmp_gt (tgt := 1004) S.1 S.2.1 d_La_law_60 (by decide) (fun _ => kend H locs cells slots ls hJ.2.2.2.1.2.2 (by omega)) (fun q => ?_)
    have hi : i + 7 ≤ L := Classical.byContradiction fun z => q ((law_gt h2 hL).mpr (by omega))
    have kk : ∀ (h' : hp_T) (H' : Heap) (locs' : List Loc) (ls' : Array Slot), bInv cA x t out 0 0 (fun _ => 0) h' → hp_J (gg dC dI cA) (fun q => s.heap.size ≤ q) h' s H' locs' → lv_has ls' 7 [(4, .int (nI i)), (3, .ref out), (2, .ref t), (1, .ref x), (0, .ref b)] → W p l e room_1 s m #[Value.ref b] below meth c H' locs' (cells + 20) (slots + 1000) Q (F0 m 998 ls' []) := by
      intro h' H' locs' ls' hI' hJ' hl'
      refine lv_iinc (v := nI (i + 7)) (lv' := [(4, .int (nI (i + 7))), (3, .ref out), (2, .ref t), (1, .ref x), (0, .ref b)]) S.1 S.2.1 d_La_law_998 hl' (k := 0) rfl nI_ad2 (by decide) rfl (fun ls hl => ?_)
      refine lv_goto (tgt := 53) S.1 S.2.1 d_La_law_1001 (by decide) ?_
      exact ih (i + 7) h' H' locs' (cells + 20) (slots + 1000) ls (by omega) (by omega) hJ' hI' hl (by omega)
    refine lv_aload_n S.1 S.2.1 d_La_law_63 rfl (lv_at hl 4 rfl) ?_
    refine lv_iload S.1 S.2.1 d_La_law_64 (lv_at hl 0 rfl) ?_
    refine va_sld S.1 S.2.1 hX hbl hbA hJ.2.2.2.1 (vp_in_nI (by omega) (by omega)) d_La_law_66 ?_
    refine lv_bipush (v := 15) S.1 S.2.1 d_La_law_67 (by decide) ?_
    refine lv_iand S.1 S.2.1 d_La_law_69 ?_
    obtain ⟨z, hz⟩ : ∃ z, z = xs (nI i).toNatClampNeg &&& 15 := ⟨_, rfl⟩
    have hr := and_15 (xs (nI i).toNatClampNeg)
    rw [← hz] at hr
    rw [show (xs (nI i).toNatClampNeg &&& (15 : Int32)) = z from hz.symm]
    obtain ⟨k, hk, hk2⟩ : ∃ k : Nat, z = nI k ∧ k < 16 := ⟨z.toInt.toNat, z_ofN hr.1, by omega⟩
    have hc2 : cells + 20 ≤ 601024 ∧ slots + 1000 ≤ 7292999 := by omega
    rcases (by omega : k = 0 ∨ k = 1 ∨ k = 2 ∨ k = 3 ∨ k = 4 ∨ k = 5 ∨ k = 6 ∨ k = 7 ∨ k = 8 ∨ k = 9 ∨ k = 10 ∨ k = 11 ∨ k = 12 ∨ k = 13 ∨ k = 14 ∨ k = 15) with rfl | rfl | rfl | rfl | rfl | rfl | rfl | rfl | rfl | rfl | rfl | rfl | rfl | rfl | rfl | rfl
    · refine lv_tableIn (off := 78) (tgt := 148) S.1 S.2.1 d_La_law_70 (by rw [hk]; decide) (by rw [hk]; decide) (by rw [hk]; rfl) (by decide) ?_
      exact lc_0 S hX hbl hst hEX hi hL hJ hI hl hc2 kk
    · refine lv_tableIn (off := 146) (tgt := 216) S.1 S.2.1 d_La_law_70 (by rw [hk]; decide) (by rw [hk]; decide) (by rw [hk]; rfl) (by decide) ?_
      exact lc_1 S hX hbl hst hEX hi hL hJ hI hl hc2 kk
    · refine lv_tableIn (off := 273) (tgt := 343) S.1 S.2.1 d_La_law_70 (by rw [hk]; decide) (by rw [hk]; decide) (by rw [hk]; rfl) (by decide) ?_
      exact lc_2 S hX hbl hst hEX hi hL hJ hI hl hc2 kk
    · refine lv_tableIn (off := 310) (tgt := 380) S.1 S.2.1 d_La_law_70 (by rw [hk]; decide) (by rw [hk]; decide) (by rw [hk]; rfl) (by decide) ?_
      exact lc_3 S hX hbl hst hEX hi hL hJ hI hl hc2 kk
    · refine lv_tableIn (off := 377) (tgt := 447) S.1 S.2.1 d_La_law_70 (by rw [hk]; decide) (by rw [hk]; decide) (by rw [hk]; rfl) (by decide) ?_
      exact lc_4 S hX hbl hst hEX hi hL hJ hI hl hc2 kk
    · refine lv_tableIn (off := 402) (tgt := 472) S.1 S.2.1 d_La_law_70 (by rw [hk]; decide) (by rw [hk]; decide) (by rw [hk]; rfl) (by decide) ?_
      exact lc_5 S hX hbl hst hEX hi hL hJ hI hl hc2 kk
    · refine lv_tableIn (off := 463) (tgt := 533) S.1 S.2.1 d_La_law_70 (by rw [hk]; decide) (by rw [hk]; decide) (by rw [hk]; rfl) (by decide) ?_
      exact lc_6 S hX hbl hst hEX hi hL hJ hI hl hc2 kk
    · refine lv_tableIn (off := 512) (tgt := 582) S.1 S.2.1 d_La_law_70 (by rw [hk]; decide) (by rw [hk]; decide) (by rw [hk]; rfl) (by decide) ?_
      exact lc_7 S hX hbl hst hEX hi hL hJ hI hl hc2 kk
    · refine lv_tableIn (off := 573) (tgt := 643) S.1 S.2.1 d_La_law_70 (by rw [hk]; decide) (by rw [hk]; decide) (by rw [hk]; rfl) (by decide) ?_
      exact lc_8 S hX hbl hst hEX hi hL hJ hI hl hc2 kk
    · refine lv_tableIn (off := 680) (tgt := 750) S.1 S.2.1 d_La_law_70 (by rw [hk]; decide) (by rw [hk]; decide) (by rw [hk]; rfl) (by decide) ?_
      exact lc_9 S hX hbl hst hEX hi hL hJ hI hl hc2 kk
    · refine lv_tableIn (off := 691) (tgt := 761) S.1 S.2.1 d_La_law_70 (by rw [hk]; decide) (by rw [hk]; decide) (by rw [hk]; rfl) (by decide) ?_
      exact lc_10 S hX hbl hst hEX hi hL hJ hI hl hc2 kk
    · refine lv_tableIn (off := 729) (tgt := 799) S.1 S.2.1 d_La_law_70 (by rw [hk]; decide) (by rw [hk]; decide) (by rw [hk]; rfl) (by decide) ?_
      exact lc_11 S hX hbl hst hEX hi hL hJ hI hl hc2 kk
    · refine lv_tableIn (off := 804) (tgt := 874) S.1 S.2.1 d_La_law_70 (by rw [hk]; decide) (by rw [hk]; decide) (by rw [hk]; rfl) (by decide) ?_
      exact lc_12 S hX hbl hst hEX hi hL hJ hI hl hc2 kk
    · refine lv_tableIn (off := 841) (tgt := 911) S.1 S.2.1 d_La_law_70 (by rw [hk]; decide) (by rw [hk]; decide) (by rw [hk]; rfl) (by decide) ?_
      exact lc_13 S hX hbl hst hEX hi hL hJ hI hl hc2 kk
    · refine lv_tableIn (off := 866) (tgt := 936) S.1 S.2.1 d_La_law_70 (by rw [hk]; decide) (by rw [hk]; decide) (by rw [hk]; rfl) (by decide) ?_
      exact lc_14 S hX hbl hst hEX hi hL hJ hI hl hc2 kk
    · refine lv_tableIn (off := 903) (tgt := 973) S.1 S.2.1 d_La_law_70 (by rw [hk]; decide) (by rw [hk]; decide) (by rw [hk]; rfl) (by decide) ?_
      exact lc_15 S hX hbl hst hEX hi hL hJ hI hl hc2 kk
end LAW
