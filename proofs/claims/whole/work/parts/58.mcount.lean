/-! The reference: look, black; how many ones a long has. -/
def q_lk (mf : Nat → Int32) (w : Int32) : Int32 := if w = 0 then mf 1 else if w = 1 then mf 2 else if w = 2 then mf 3 else if w = 3 then mf 12 else if w = 4 then mf 13 else if w = 5 then mf 5 else if w = 6 then mf 10 else if w = 7 then mf 14 else if w = 8 then mf 15 else if w = 9 then q_is (¬ mf 16 = 0) else if w = 10 then q_is (¬ mf 17 = 0) else if w = 11 then mf 18 else -1
def popn (x : Int64) : Nat → Nat
  | 0 => 0
  | k + 1 => popn x k + (if tb x k = true then 1 else 0)
def pop (x : Int64) : Nat := popn x 64
theorem tz (n : Nat) (h : 0 < n) : ∃ t m, n = 2 ^ (t + 1) * m + 2 ^ t := by
  induction n using Nat.strongRecOn with
  | _ n ih =>
    by_cases ho : n % 2 = 1
    · exact ⟨0, n / 2, by simp; omega⟩
    · obtain ⟨t, m, e⟩ := ih (n / 2) (by omega) (by omega)
      refine ⟨t + 1, m, ?_⟩
      have h1 : n = 2 * (n / 2) := by omega
      have e1 : 2 ^ (t + 1) * m = 2 * (2 ^ t * m) := by rw [Nat.pow_succ, Nat.mul_comm (2 ^ t) 2, Nat.mul_assoc]
      have e2 : 2 ^ (t + 1 + 1) * m = 2 * (2 ^ (t + 1) * m) := by rw [Nat.pow_succ, Nat.mul_comm (2 ^ (t + 1)) 2, Nat.mul_assoc]
      have e3 : 2 ^ (t + 1) = 2 * 2 ^ t := by rw [Nat.pow_succ, Nat.mul_comm]
      omega
theorem tb_nat (x : Int64) {q : Nat} (hq : q < 64) : tb x q = x.toBitVec.toNat.testBit (63 - q) := by
  unfold tb
  rw [BitVec.getMsbD_eq_getLsbD, decide_eq_true hq, Bool.true_and]
  rfl
theorem kern (x : Int64) (hx : ¬ x = 0) : ∃ p, p < 64 ∧ tb x p = true ∧ ∀ q, q < 64 → tb (x &&& (x - 1)) q = (tb x q && !decide (q = p)) := by
  have hlt : x.toBitVec.toNat < 2 ^ 64 := x.toBitVec.isLt
  have hpos : 0 < x.toBitVec.toNat := by
    rcases Nat.eq_zero_or_pos x.toBitVec.toNat with h | h
    · exact absurd (Int64.toBitVec_inj.mp (BitVec.eq_of_toNat_eq h)) hx
    · exact h
  have hsub : (x - 1).toBitVec.toNat = x.toBitVec.toNat - 1 := by
    rw [Int64.toBitVec_sub, BitVec.toNat_sub]
    show (2 ^ 64 - 1 + x.toBitVec.toNat) % 2 ^ 64 = _
    omega
  generalize hn : x.toBitVec.toNat = n at hlt hpos hsub
  obtain ⟨t, m, e⟩ := tz n hpos
  have h2t : 2 ^ t < 2 ^ (t + 1) := Nat.pow_lt_pow_right (by decide) (by omega)
  have hp1 : 0 < 2 ^ t := Nat.two_pow_pos t
  have ht : t < 64 := by
    rcases Nat.lt_or_ge t 64 with h | h
    · exact h
    · have := Nat.pow_le_pow_right (n := 2) (by decide) h
      omega
  have hb : ∀ i, n.testBit i = if i < t + 1 then decide (t = i) else m.testBit (i - (t + 1)) := by
    intro i
    rw [e, Nat.testBit_two_pow_mul_add m h2t i, Nat.testBit_two_pow]
  have hb1 : ∀ i, (n - 1).testBit i = if i < t + 1 then decide (i < t) else m.testBit (i - (t + 1)) := by
    intro i
    rw [show n - 1 = 2 ^ (t + 1) * m + (2 ^ t - 1) by omega, Nat.testBit_two_pow_mul_add m (by omega) i, Nat.testBit_two_pow_sub_one]
  refine ⟨63 - t, by omega, ?_, fun q hq => ?_⟩
  · rw [tb_nat x (by omega), hn, hb, if_pos (by omega)]
    exact decide_eq_true (by omega)
  · rw [tb_and, tb_nat x hq, tb_nat (x - 1) hq, hsub, hn, hb, hb1]
    by_cases h1 : 63 - q < t + 1
    · rw [if_pos h1, if_pos h1]
      by_cases h3 : t = 63 - q
      · rw [decide_eq_true h3, decide_eq_false (by omega), decide_eq_true (by omega)]
        rfl
      · rw [decide_eq_false h3]
        rfl
    · rw [if_neg h1, if_neg h1, decide_eq_false (by omega), Bool.and_self, Bool.not_false, Bool.and_true]
theorem popn_clear {x y : Int64} {p : Nat} (hp : tb x p = true) (h : ∀ q, q < 64 → tb y q = (tb x q && !decide (q = p))) : ∀ k, k ≤ 64 → popn y k + (if p < k then 1 else 0) = popn x k := by
  intro k
  induction k with
  | zero => intro _; rfl
  | succ k ih =>
    intro hk
    have ih := ih (by omega)
    unfold popn
    rw [h k (by omega)]
    by_cases h1 : k = p
    · subst h1
      rw [hp, decide_eq_true rfl]
      rw [if_neg (show ¬ k < k by omega)] at ih
      rw [if_pos (show k < k + 1 by omega)]
      simp
      omega
    · rw [decide_eq_false h1, Bool.not_false, Bool.and_true]
      by_cases h2 : p < k
      · rw [if_pos h2] at ih
        rw [if_pos (show p < k + 1 by omega)]
        omega
      · rw [if_neg h2] at ih
        rw [if_neg (show ¬ p < k + 1 by omega)]
        omega
theorem pop_and {x : Int64} (hx : ¬ x = 0) : pop (x &&& (x - 1)) + 1 = pop x := by
  obtain ⟨p, hp, h1, h2⟩ := kern x hx
  have := popn_clear h1 h2 64 (Nat.le_refl _)
  rw [if_pos hp] at this
  exact this
theorem pop_0 : pop 0 = 0 := by decide +kernel
def psum (f : Nat → Int64) (lo : Nat) : Nat → Nat
  | 0 => 0
  | k + 1 => psum f lo k + pop (f (lo + k))

set_option maxHeartbeats 4000000 in
set_option maxRecDepth 100000 in
theorem c_Mo_look (l : Launch) (dC : Nat → ClassId) (dI : Nat → Nat → Nat) (cA : Nat → ClassId) (A : Nat → Prop) (h : hp_T) (t sh ac dn fr sp dt : Nat) (mf : Nat → Int32) (wh : Int32) (h_t : h t = some (k_Mo mf sh ac dn fr sp dt)) : Met l y_Mo_look (.code y_Mo_look prog_9_method_34_code 2 (some .int) :: BIG) ({ frames := 0, cells := 0, slots := 0, locals := 0 }) (va_Pc [.ref t, .int wh] (hp_I (gg dC dI cA) A h)) (hp_QW (gg dC dI cA) A hp_mi (fun r h' => r = q_lk mf wh ∧ h' = hp_up h t (k_Mo (upd mf 0 0) sh ac dn fr sp dt))) 0 0 A := by
  refine hp_enter (by decide) (Nat.le_of_ble_eq_true rfl) ?_
  intro p e s m below meth c ls S hr hlk hin hI hl
  have hl : lv_has ls 2 [(0, .ref t), (1, .int wh)] := hl
  have hJ := hI.J
  refine lv_aload_n S.1 S.2.1 d_Mo_look_0 rfl (lv_at hl 0 rfl) ?_
  refine lv_iconst (v := 0) S.1 S.2.1 d_Mo_look_1 (by decide) ?_
  refine hp_put S zz hJ h_t fp_Mo_46 rfl rfl (nl rfl) d_Mo_look_2 (fun H locs hJ => ?_)
  obtain ⟨h1, eh1⟩ : ∃ z, z = hp_up h t (.inr (7, [.int 0, .int (mf 1), .int (mf 2), .int (mf 3), .ref sh, .int (mf 5), .ref ac, .ref dn, .ref fr, .ref sp, .int (mf 10), .ref dt, .int (mf 12), .int (mf 13), .int (mf 14), .int (mf 15), .int (mf 16), .int (mf 17), .int (mf 18), .int (mf 19), .int (mf 20), .int (mf 21), .int (mf 22)])) := ⟨_, rfl⟩
  have hJ := hJ.cast eh1
  have h0_t := h_t
  have h_t : h1 t = some (.inr (7, [.int 0, .int (mf 1), .int (mf 2), .int (mf 3), .ref sh, .int (mf 5), .ref ac, .ref dn, .ref fr, .ref sp, .int (mf 10), .ref dt, .int (mf 12), .int (mf 13), .int (mf 14), .int (mf 15), .int (mf 16), .int (mf 17), .int (mf 18), .int (mf 19), .int (mf 20), .int (mf 21), .int (mf 22)])) := by rw [eh1]; exact hp_up_s _ _ _
  refine lv_iload_n S.1 S.2.1 d_Mo_look_5 rfl (lv_at hl 1 rfl) ?_
  by_cases k_0 : wh = 0
  · refine lv_tableIn (off := 62) (tgt := 68) S.1 S.2.1 d_Mo_look_6 (by rw [k_0]; decide) (by rw [k_0]; decide) (by rw [k_0]; rfl) (by decide) ?_
    refine lv_aload_n S.1 S.2.1 d_Mo_look_68 rfl (lv_at hl 0 rfl) ?_
    refine hp_get S zz hJ h_t f_Mo_27 rfl d_Mo_look_69 ?_
    exact hp_retWi S hJ hr hlk d_Mo_look_72 (by decide) ⟨by unfold q_lk; rw [if_pos k_0], by rw [eh1]; (try simp only [hp_up_up]); rfl⟩
  · by_cases k_1 : wh = 1
    · refine lv_tableIn (off := 67) (tgt := 73) S.1 S.2.1 d_Mo_look_6 (by rw [k_1]; decide) (by rw [k_1]; decide) (by rw [k_1]; rfl) (by decide) ?_
      refine lv_aload_n S.1 S.2.1 d_Mo_look_73 rfl (lv_at hl 0 rfl) ?_
      refine hp_get S zz hJ h_t f_Mo_31 rfl d_Mo_look_74 ?_
      exact hp_retWi S hJ hr hlk d_Mo_look_77 (by decide) ⟨by unfold q_lk; rw [if_neg k_0, if_pos k_1], by rw [eh1]; (try simp only [hp_up_up]); rfl⟩
    · by_cases k_2 : wh = 2
      · refine lv_tableIn (off := 72) (tgt := 78) S.1 S.2.1 d_Mo_look_6 (by rw [k_2]; decide) (by rw [k_2]; decide) (by rw [k_2]; rfl) (by decide) ?_
        refine lv_aload_n S.1 S.2.1 d_Mo_look_78 rfl (lv_at hl 0 rfl) ?_
        refine hp_get S zz hJ h_t f_Mo_34 rfl d_Mo_look_79 ?_
        exact hp_retWi S hJ hr hlk d_Mo_look_82 (by decide) ⟨by unfold q_lk; rw [if_neg k_0, if_neg k_1, if_pos k_2], by rw [eh1]; (try simp only [hp_up_up]); rfl⟩
      · by_cases k_3 : wh = 3
        · refine lv_tableIn (off := 77) (tgt := 83) S.1 S.2.1 d_Mo_look_6 (by rw [k_3]; decide) (by rw [k_3]; decide) (by rw [k_3]; rfl) (by decide) ?_
          refine lv_aload_n S.1 S.2.1 d_Mo_look_83 rfl (lv_at hl 0 rfl) ?_
          refine hp_get S zz hJ h_t f_Mo_112 rfl d_Mo_look_84 ?_
          exact hp_retWi S hJ hr hlk d_Mo_look_87 (by decide) ⟨by unfold q_lk; rw [if_neg k_0, if_neg k_1, if_neg k_2, if_pos k_3], by rw [eh1]; (try simp only [hp_up_up]); rfl⟩
        · by_cases k_4 : wh = 4
          · refine lv_tableIn (off := 82) (tgt := 88) S.1 S.2.1 d_Mo_look_6 (by rw [k_4]; decide) (by rw [k_4]; decide) (by rw [k_4]; rfl) (by decide) ?_
            refine lv_aload_n S.1 S.2.1 d_Mo_look_88 rfl (lv_at hl 0 rfl) ?_
            refine hp_get S zz hJ h_t f_Mo_128 rfl d_Mo_look_89 ?_
            exact hp_retWi S hJ hr hlk d_Mo_look_92 (by decide) ⟨by unfold q_lk; rw [if_neg k_0, if_neg k_1, if_neg k_2, if_neg k_3, if_pos k_4], by rw [eh1]; (try simp only [hp_up_up]); rfl⟩
          · by_cases k_5 : wh = 5
            · refine lv_tableIn (off := 87) (tgt := 93) S.1 S.2.1 d_Mo_look_6 (by rw [k_5]; decide) (by rw [k_5]; decide) (by rw [k_5]; rfl) (by decide) ?_
              refine lv_aload_n S.1 S.2.1 d_Mo_look_93 rfl (lv_at hl 0 rfl) ?_
              refine hp_get S zz hJ h_t f_Mo_95 rfl d_Mo_look_94 ?_
              exact hp_retWi S hJ hr hlk d_Mo_look_97 (by decide) ⟨by unfold q_lk; rw [if_neg k_0, if_neg k_1, if_neg k_2, if_neg k_3, if_neg k_4, if_pos k_5], by rw [eh1]; (try simp only [hp_up_up]); rfl⟩
            · by_cases k_6 : wh = 6
              · refine lv_tableIn (off := 92) (tgt := 98) S.1 S.2.1 d_Mo_look_6 (by rw [k_6]; decide) (by rw [k_6]; decide) (by rw [k_6]; rfl) (by decide) ?_
                refine lv_aload_n S.1 S.2.1 d_Mo_look_98 rfl (lv_at hl 0 rfl) ?_
                refine hp_get S zz hJ h_t f_Mo_98 rfl d_Mo_look_99 ?_
                exact hp_retWi S hJ hr hlk d_Mo_look_102 (by decide) ⟨by unfold q_lk; rw [if_neg k_0, if_neg k_1, if_neg k_2, if_neg k_3, if_neg k_4, if_neg k_5, if_pos k_6], by rw [eh1]; (try simp only [hp_up_up]); rfl⟩
              · by_cases k_7 : wh = 7
                · refine lv_tableIn (off := 97) (tgt := 103) S.1 S.2.1 d_Mo_look_6 (by rw [k_7]; decide) (by rw [k_7]; decide) (by rw [k_7]; rfl) (by decide) ?_
                  refine lv_aload_n S.1 S.2.1 d_Mo_look_103 rfl (lv_at hl 0 rfl) ?_
                  refine hp_get S zz hJ h_t f_Mo_51 rfl d_Mo_look_104 ?_
                  exact hp_retWi S hJ hr hlk d_Mo_look_107 (by decide) ⟨by unfold q_lk; rw [if_neg k_0, if_neg k_1, if_neg k_2, if_neg k_3, if_neg k_4, if_neg k_5, if_neg k_6, if_pos k_7], by rw [eh1]; (try simp only [hp_up_up]); rfl⟩
                · by_cases k_8 : wh = 8
                  · refine lv_tableIn (off := 102) (tgt := 108) S.1 S.2.1 d_Mo_look_6 (by rw [k_8]; decide) (by rw [k_8]; decide) (by rw [k_8]; rfl) (by decide) ?_
                    refine lv_aload_n S.1 S.2.1 d_Mo_look_108 rfl (lv_at hl 0 rfl) ?_
                    refine hp_get S zz hJ h_t f_Mo_58 rfl d_Mo_look_109 ?_
                    exact hp_retWi S hJ hr hlk d_Mo_look_112 (by decide) ⟨by unfold q_lk; rw [if_neg k_0, if_neg k_1, if_neg k_2, if_neg k_3, if_neg k_4, if_neg k_5, if_neg k_6, if_neg k_7, if_pos k_8], by rw [eh1]; (try simp only [hp_up_up]); rfl⟩
                  · by_cases k_9 : wh = 9
                    · refine lv_tableIn (off := 107) (tgt := 113) S.1 S.2.1 d_Mo_look_6 (by rw [k_9]; decide) (by rw [k_9]; decide) (by rw [k_9]; rfl) (by decide) ?_
                      refine lv_aload_n S.1 S.2.1 d_Mo_look_113 rfl (lv_at hl 0 rfl) ?_
                      refine hp_get S zz hJ h_t f_Mo_75 rfl d_Mo_look_114 ?_
                      refine lv_if_eq (tgt := 124) S.1 S.2.1 d_Mo_look_117 (by decide) (fun c_117 => ?_) (fun c_117 => ?_)
                      · refine lv_iconst (v := 0) S.1 S.2.1 d_Mo_look_124 (by decide) ?_
                        exact hp_retWi S hJ hr hlk d_Mo_look_125 (by decide) ⟨by unfold q_lk; rw [if_neg k_0, if_neg k_1, if_neg k_2, if_neg k_3, if_neg k_4, if_neg k_5, if_neg k_6, if_neg k_7, if_neg k_8, if_pos k_9]; exact q_is_f (fun q => q c_117), by rw [eh1]; (try simp only [hp_up_up]); rfl⟩
                      · refine lv_iconst (v := 1) S.1 S.2.1 d_Mo_look_120 (by decide) ?_
                        refine lv_goto (tgt := 125) S.1 S.2.1 d_Mo_look_121 (by decide) ?_
                        exact hp_retWi S hJ hr hlk d_Mo_look_125 (by decide) ⟨by unfold q_lk; rw [if_neg k_0, if_neg k_1, if_neg k_2, if_neg k_3, if_neg k_4, if_neg k_5, if_neg k_6, if_neg k_7, if_neg k_8, if_pos k_9]; exact q_is_t c_117, by rw [eh1]; (try simp only [hp_up_up]); rfl⟩
                    · by_cases k_10 : wh = 10
                      · refine lv_tableIn (off := 120) (tgt := 126) S.1 S.2.1 d_Mo_look_6 (by rw [k_10]; decide) (by rw [k_10]; decide) (by rw [k_10]; rfl) (by decide) ?_
                        refine lv_aload_n S.1 S.2.1 d_Mo_look_126 rfl (lv_at hl 0 rfl) ?_
                        refine hp_get S zz hJ h_t f_Mo_86 rfl d_Mo_look_127 ?_
                        refine lv_if_eq (tgt := 137) S.1 S.2.1 d_Mo_look_130 (by decide) (fun c_130 => ?_) (fun c_130 => ?_)
                        · refine lv_iconst (v := 0) S.1 S.2.1 d_Mo_look_137 (by decide) ?_
                          exact hp_retWi S hJ hr hlk d_Mo_look_138 (by decide) ⟨by unfold q_lk; rw [if_neg k_0, if_neg k_1, if_neg k_2, if_neg k_3, if_neg k_4, if_neg k_5, if_neg k_6, if_neg k_7, if_neg k_8, if_neg k_9, if_pos k_10]; exact q_is_f (fun q => q c_130), by rw [eh1]; (try simp only [hp_up_up]); rfl⟩
                        · refine lv_iconst (v := 1) S.1 S.2.1 d_Mo_look_133 (by decide) ?_
                          refine lv_goto (tgt := 138) S.1 S.2.1 d_Mo_look_134 (by decide) ?_
                          exact hp_retWi S hJ hr hlk d_Mo_look_138 (by decide) ⟨by unfold q_lk; rw [if_neg k_0, if_neg k_1, if_neg k_2, if_neg k_3, if_neg k_4, if_neg k_5, if_neg k_6, if_neg k_7, if_neg k_8, if_neg k_9, if_pos k_10]; exact q_is_t c_130, by rw [eh1]; (try simp only [hp_up_up]); rfl⟩
                      · by_cases k_11 : wh = 11
                        · refine lv_tableIn (off := 133) (tgt := 139) S.1 S.2.1 d_Mo_look_6 (by rw [k_11]; decide) (by rw [k_11]; decide) (by rw [k_11]; rfl) (by decide) ?_
                          refine lv_aload_n S.1 S.2.1 d_Mo_look_139 rfl (lv_at hl 0 rfl) ?_
                          refine hp_get S zz hJ h_t f_Mo_89 rfl d_Mo_look_140 ?_
                          exact hp_retWi S hJ hr hlk d_Mo_look_143 (by decide) ⟨by unfold q_lk; rw [if_neg k_0, if_neg k_1, if_neg k_2, if_neg k_3, if_neg k_4, if_neg k_5, if_neg k_6, if_neg k_7, if_neg k_8, if_neg k_9, if_neg k_10, if_pos k_11], by rw [eh1]; (try simp only [hp_up_up]); rfl⟩
                        · have n_0 : ¬ wh.toInt = 0 := lv_neT k_0 rfl
                          have n_1 : ¬ wh.toInt = 1 := lv_neT k_1 rfl
                          have n_2 : ¬ wh.toInt = 2 := lv_neT k_2 rfl
                          have n_3 : ¬ wh.toInt = 3 := lv_neT k_3 rfl
                          have n_4 : ¬ wh.toInt = 4 := lv_neT k_4 rfl
                          have n_5 : ¬ wh.toInt = 5 := lv_neT k_5 rfl
                          have n_6 : ¬ wh.toInt = 6 := lv_neT k_6 rfl
                          have n_7 : ¬ wh.toInt = 7 := lv_neT k_7 rfl
                          have n_8 : ¬ wh.toInt = 8 := lv_neT k_8 rfl
                          have n_9 : ¬ wh.toInt = 9 := lv_neT k_9 rfl
                          have n_10 : ¬ wh.toInt = 10 := lv_neT k_10 rfl
                          have n_11 : ¬ wh.toInt = 11 := lv_neT k_11 rfl
                          refine lv_tableOut (tgt := 144) S.1 S.2.1 d_Mo_look_6 (by omega) (by decide) ?_
                          refine lv_iconst (v := (-1)) S.1 S.2.1 d_Mo_look_144 (by decide) ?_
                          exact hp_retWi S hJ hr hlk d_Mo_look_145 (by decide) ⟨by unfold q_lk; rw [if_neg k_0, if_neg k_1, if_neg k_2, if_neg k_3, if_neg k_4, if_neg k_5, if_neg k_6, if_neg k_7, if_neg k_8, if_neg k_9, if_neg k_10, if_neg k_11], by rw [eh1]; (try simp only [hp_up_up]); rfl⟩

set_option maxHeartbeats 4000000 in
set_option maxRecDepth 100000 in
theorem c_Mo_ones (l : Launch) (v : Int64)  : Met l y_Mo_ones (.code y_Mo_ones prog_9_method_29_code 5 (some .int) :: BIG) ({ frames := 0, cells := 0, slots := 0, locals := 0 }) (va_Pc [.long v] (fun _ => True)) (hp_QR (some (.int (nI (pop v))))) 0 0 (fun _ => False) := by
  refine hp_enter (by decide) (Nat.le_of_ble_eq_true rfl) ?_
  intro p e s m below meth c ls S hr hlk hin hI hl
  have hl : lv_has ls 5 [(0, .long v)] := hl
  refine lv_iconst (v := 0) S.1 S.2.1 d_Mo_ones_0 (by decide) ?_
  refine lv_istore_n (lv' := [(2, .int 0), (0, .long v)]) S.1 S.2.1 d_Mo_ones_1 rfl hl (by decide) rfl (fun ls hl => ?_)
  refine lv_lload_n S.1 S.2.1 d_Mo_ones_2 rfl (lv_at hl 1 rfl) ?_
  refine lv_lstore_n (lv' := [(3, .long v), (2, .int 0), (0, .long v)]) S.1 S.2.1 d_Mo_ones_3 rfl hl (by decide) rfl (fun ls hl => ?_)
  have LP : ∀ (m_ cn : Nat) (left : Int64) (ls : Array Slot), pop left = m_ → cn + m_ = pop v → lv_has ls 5 [(3, .long left), (2, .int (nI cn))] → W p l e ({ frames := 0, cells := 0, slots := 0, locals := 0 }) s m ([.long v] : List Value).toArray below meth c s.heap [] 0 0 (MQ below (hp_QR (some (.int (nI (pop v))))) ([.long v] : List Value).toArray s 0 0 (fun _ => False)) (F0 m 4 ls []) := by
    intro m_
    induction m_ with
    | zero =>
      intro cn left ls hm hc hl
      refine lv_lload_n S.1 S.2.1 d_Mo_ones_4 rfl (lv_at hl 0 rfl) ?_
      refine lv_lconst (v := 0) S.1 S.2.1 d_Mo_ones_5 (by decide) ?_
      refine W.lcmp S.1 S.2.1 d_Mo_ones_6 ?_
      refine lv_if_eq (tgt := 22) S.1 S.2.1 d_Mo_ones_7 (by decide) (fun _ => ?_) (fun q => absurd (pop_and (fun z => q ((lg_cmp_0 _).mpr z))) (by omega))
      refine lv_iload_n S.1 S.2.1 d_Mo_ones_22 rfl (lv_at hl 1 rfl) ?_
      exact hp_retRi S hr hlk d_Mo_ones_23 (congrArg nI (by omega))
    | succ m_ ih =>
      intro cn left ls hm hc hl
      refine lv_lload_n S.1 S.2.1 d_Mo_ones_4 rfl (lv_at hl 0 rfl) ?_
      refine lv_lconst (v := 0) S.1 S.2.1 d_Mo_ones_5 (by decide) ?_
      refine W.lcmp S.1 S.2.1 d_Mo_ones_6 ?_
      refine lv_if_eq (tgt := 22) S.1 S.2.1 d_Mo_ones_7 (by decide) (fun q => absurd ((lg_cmp_0 _).mp q) (fun z => by rw [z, pop_0] at hm; omega)) (fun c_7 => ?_)
      refine lv_iinc (v := nI (cn + 1)) (lv' := [(2, .int (nI (cn + 1))), (3, .long left)]) S.1 S.2.1 d_Mo_ones_10 hl (k := 1) rfl (nI_1 _) (by decide) rfl (fun ls hl => ?_)
      refine lv_lload_n S.1 S.2.1 d_Mo_ones_13 rfl (lv_at hl 1 rfl) ?_
      refine lv_lload_n S.1 S.2.1 d_Mo_ones_14 rfl (lv_at hl 1 rfl) ?_
      refine lv_lconst (v := 1) S.1 S.2.1 d_Mo_ones_15 (by decide) ?_
      refine lv_lsub S.1 S.2.1 d_Mo_ones_16 ?_
      refine lv_land S.1 S.2.1 d_Mo_ones_17 ?_
      refine lv_lstore_n (lv' := [(3, .long (left &&& (left - (1 : Int64)))), (2, .int (nI (cn + 1)))]) S.1 S.2.1 d_Mo_ones_18 rfl hl (by decide) rfl (fun ls hl => ?_)
      refine lv_goto (tgt := 4) S.1 S.2.1 d_Mo_ones_19 (by decide) ?_
      exact ih (cn + 1) _ ls (by have := pop_and (fun z => c_7 ((lg_cmp_0 _).mpr z)); omega) (by omega) (lv_sub hl [0, 1] rfl)
  exact LP (pop v) 0 v ls rfl (by omega) (lv_sub hl [0, 1] rfl)

set_option maxHeartbeats 4000000 in
set_option maxRecDepth 100000 in
theorem c_Mo_blacksOf (l : Launch) (dC : Nat → ClassId) (dI : Nat → Nat → Nat) (cA : Nat → ClassId) (A : Nat → Prop) (h : hp_T) (t sh ac dn fr sp dt : Nat) (mf : Nat → Int32) (n y : Nat) (f : Nat → Int64) (h_t : h t = some (k_Mo mf sh ac dn fr sp dt)) (h_sh : h sh = some (k_lo (cA 1) n f)) (hy : y < 5100) (hn : 80 * y + 80 ≤ n ∧ n ≤ 408000) : Met l y_Mo_blacksOf (.code y_Mo_blacksOf prog_9_method_30_code 4 (some .int) :: BIG) ({ frames := 1, cells := 0, slots := 0, locals := 24 }) (va_Pc [.ref t, .int (nI y)] (hp_I (gg dC dI cA) A h)) (hp_QR (some (.int (nI (psum f (80 * y) 80))))) 0 0 (fun _ => False) := by
  refine hp_enter (by decide) (Nat.le_of_ble_eq_true rfl) ?_
  intro p e s m below meth c ls S hr hlk hin hI hl
  have hl : lv_has ls 4 [(0, .ref t), (1, .int (nI y))] := hl
  have hJ := hI.J
  refine lv_iconst (v := 0) S.1 S.2.1 d_Mo_blacksOf_0 (by decide) ?_
  refine lv_istore_n (lv' := [(2, .int 0), (0, .ref t), (1, .int (nI y))]) S.1 S.2.1 d_Mo_blacksOf_1 rfl hl (by decide) rfl (fun ls hl => ?_)
  refine lv_bipush (v := 80) S.1 S.2.1 d_Mo_blacksOf_2 (by decide) ?_
  refine lv_iload_n S.1 S.2.1 d_Mo_blacksOf_4 rfl (lv_at hl 2 rfl) ?_
  refine lv_imul S.1 S.2.1 d_Mo_blacksOf_5 ?_
  rw [show (80 : Int32) * nI y = nI (80 * y) from pk_mul 80 y]
  refine lv_istore_n (lv' := [(3, .int (nI (80 * y))), (2, .int 0), (0, .ref t), (1, .int (nI y))]) S.1 S.2.1 d_Mo_blacksOf_6 rfl hl (by decide) rfl (fun ls hl => ?_)
  have LP : ∀ (n_ j : Nat)  (ls : Array Slot), j + n_ = 80 → lv_has ls 4 [(3, .int (nI (80 * y + j))), (2, .int (nI (psum f (80 * y) j))), (0, .ref t), (1, .int (nI y))] → W p l e ({ frames := 1, cells := 0, slots := 0, locals := 24 }) s m ([.ref t, .int (nI y)] : List Value).toArray below meth c s.heap [] 0 0 (MQ below (hp_QR (some (.int (nI (psum f (80 * y) 80))))) ([.ref t, .int (nI y)] : List Value).toArray s 0 0 (fun _ => False)) (F0 m 7 ls []) := by
    intro n_
    induction n_ with
    | zero =>
      intro j  ls hu_  hl
      refine lv_iload_n S.1 S.2.1 d_Mo_blacksOf_7 rfl (lv_at hl 0 rfl) ?_
      refine lv_bipush (v := 80) S.1 S.2.1 d_Mo_blacksOf_8 (by decide) ?_
      refine lv_iload_n S.1 S.2.1 d_Mo_blacksOf_10 rfl (lv_at hl 3 rfl) ?_
      refine lv_imul S.1 S.2.1 d_Mo_blacksOf_11 ?_
      rw [show (80 : Int32) * nI y = nI (80 * y) from pk_mul 80 y]
      refine lv_bipush (v := 80) S.1 S.2.1 d_Mo_blacksOf_12 (by decide) ?_
      refine lv_iadd S.1 S.2.1 d_Mo_blacksOf_14 ?_
      rw [show nI (80 * y) + 80 = nI (80 * y + 80) from nI_add (80 * y) 80]
      obtain ⟨e_n, -⟩ : j = 80 ∧ True := ⟨by omega, trivial⟩
      refine lv_icmp_ge (tgt := 36) S.1 S.2.1 d_Mo_blacksOf_15 (by decide) (fun _ => ?_) (fun q => absurd (by rw [e_n]; exact Int32.le_refl _) q)
      refine lv_iload_n S.1 S.2.1 d_Mo_blacksOf_36 rfl (lv_at hl 1 rfl) ?_
      exact hp_retRi S hr hlk d_Mo_blacksOf_37 (by rw [e_n])
    | succ n_ ih =>
      intro j  ls hu_  hl
      refine lv_iload_n S.1 S.2.1 d_Mo_blacksOf_7 rfl (lv_at hl 0 rfl) ?_
      refine lv_bipush (v := 80) S.1 S.2.1 d_Mo_blacksOf_8 (by decide) ?_
      refine lv_iload_n S.1 S.2.1 d_Mo_blacksOf_10 rfl (lv_at hl 3 rfl) ?_
      refine lv_imul S.1 S.2.1 d_Mo_blacksOf_11 ?_
      rw [show (80 : Int32) * nI y = nI (80 * y) from pk_mul 80 y]
      refine lv_bipush (v := 80) S.1 S.2.1 d_Mo_blacksOf_12 (by decide) ?_
      refine lv_iadd S.1 S.2.1 d_Mo_blacksOf_14 ?_
      rw [show nI (80 * y) + 80 = nI (80 * y + 80) from nI_add (80 * y) 80]
      refine lv_icmp_ge (tgt := 36) S.1 S.2.1 d_Mo_blacksOf_15 (by decide) (fun q => absurd q (nI_ge (by omega) (by omega))) (fun _ => ?_)
      refine lv_iload_n S.1 S.2.1 d_Mo_blacksOf_18 rfl (lv_at hl 1 rfl) ?_
      refine lv_aload_n S.1 S.2.1 d_Mo_blacksOf_19 rfl (lv_at hl 2 rfl) ?_
      refine hp_get S zz hJ h_t f_Mo_37 rfl d_Mo_blacksOf_20 ?_
      refine lv_iload_n S.1 S.2.1 d_Mo_blacksOf_23 rfl (lv_at hl 0 rfl) ?_
      refine hp_lald S hJ 1 h_sh rfl (vp_in_nI (by omega) (by omega)) d_Mo_blacksOf_24 ?_
      rw [nI_clamp (by omega)]
      refine hp_doneR (hp_runS S zz0 (c_Mo_ones l _) l_Mo_135 (hp_pre0 _) (by decide) rfl hl.1 rfl (nl rfl) d_Mo_blacksOf_25 (by decide)) ?_
      refine lv_iadd S.1 S.2.1 d_Mo_blacksOf_28 ?_
      rw [nI_add]
      refine lv_istore_n (lv' := [(2, .int (nI (psum f (80 * y) (j + 1)))), (3, .int (nI (80 * y + j))), (0, .ref t), (1, .int (nI y))]) S.1 S.2.1 d_Mo_blacksOf_29 rfl hl (by decide) rfl (fun ls hl => ?_)
      refine lv_iinc (v := nI (80 * y + (j + 1))) (lv' := [(3, .int (nI (80 * y + (j + 1)))), (2, .int (nI (psum f (80 * y) (j + 1)))), (0, .ref t), (1, .int (nI y))]) S.1 S.2.1 d_Mo_blacksOf_30 hl (k := 1) rfl (nI_1 _) (by decide) rfl (fun ls hl => ?_)
      refine lv_goto (tgt := 7) S.1 S.2.1 d_Mo_blacksOf_33 (by decide) ?_
      exact ih (j + 1) ls (by omega) (lv_sub hl [0, 1, 2, 3] rfl)
  exact LP 80 0 ls rfl (lv_sub hl [0, 1, 2, 3] rfl)

