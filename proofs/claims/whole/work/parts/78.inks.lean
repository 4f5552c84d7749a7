/-! The inks: the class's lines of dots and the model's dots. -/
theorem tb_td {u p : Nat} (hu : u < 64) (hp : p < 64) : tb (q_td u) p = decide (p = u) := by
  unfold q_td
  rw [tb_ushr _ hu hp, tb_top (by omega)]
  by_cases h : p = u
  · subst h
    rw [decide_eq_false (Nat.lt_irrefl p), decide_eq_true (by omega), decide_eq_true rfl]
    rfl
  · rw [decide_eq_false h]
    by_cases h2 : p < u
    · rw [decide_eq_true h2]
      rfl
    · rw [decide_eq_false h2, decide_eq_false (by omega)]
      rfl
theorem tb_dl (b : Nat → Bool) {p : Nat} (hp : p < 64) : ∀ n, n ≤ 64 → tb (q_dl b n) p = (decide (p < n) && b p)
  | 0, _ => by
    show tb 0 p = _
    rw [tb_0, decide_eq_false (by omega), Bool.false_and]
  | n + 1, h => by
    have ih := tb_dl b hp n (by omega)
    by_cases hb : b n = true
    · rw [q_dl_t hb, tb_or, ih, tb_td (by omega) hp]
      by_cases h1 : p = n
      · subst h1
        rw [decide_eq_true rfl, hb, decide_eq_true (show p < p + 1 by omega), Bool.or_true]
        rfl
      · rw [decide_eq_false h1, Bool.or_false]
        congr 1
        exact decide_eq_decide.mpr (by omega)
    · rw [q_dl_f hb, ih]
      by_cases h1 : p = n
      · subst h1
        rw [Bool.eq_false_iff.mpr hb, Bool.and_false, Bool.and_false]
      · congr 1
        exact decide_eq_decide.mpr (by omega)
theorem tb_dxy {d : Int64} (hd : ∀ p, 16 ≤ p → tb d p = false) {p : Nat} (hp : p < 64) : tb (q_dy (q_dx d)) p = tb d (p % 16) := by
  have hx : ∀ q, q < 64 → tb (q_dx d) q = (tb d q || (!decide (q < 16) && tb d (q - 16))) := fun q hq => by
    unfold q_dx
    rw [tb_or]
    congr 1
    exact tb_ushr d (n := 16) (by decide) hq
  have hy : tb (q_dy (q_dx d)) p = (tb (q_dx d) p || (!decide (p < 32) && tb (q_dx d) (p - 32))) := by
    show tb (q_dx d ||| _) p = _
    rw [tb_or]
    congr 1
    exact tb_ushr (q_dx d) (n := 32) (by decide) hp
  rw [hy, hx p hp, hx (p - 32) (by omega)]
  rcases (by omega : p < 16 ∨ (16 ≤ p ∧ p < 32) ∨ (32 ≤ p ∧ p < 48) ∨ 48 ≤ p) with h | h | h | h
  · rw [decide_eq_true h, decide_eq_true (show p < 32 by omega), Nat.mod_eq_of_lt h]
    simp
  · rw [decide_eq_false (show ¬ p < 16 by omega), decide_eq_true h.2, show p % 16 = p - 16 by omega, hd p h.1]
    simp
  · rw [decide_eq_false (show ¬ p < 16 by omega), decide_eq_false (show ¬ p < 32 by omega), hd p (by omega), hd (p - 16) (by omega), decide_eq_true (show p - 32 < 16 by omega), show p % 16 = p - 32 by omega]
    simp
  · rw [decide_eq_false (show ¬ p < 16 by omega), decide_eq_false (show ¬ p < 32 by omega), hd p (by omega), hd (p - 16) (by omega), decide_eq_false (show ¬ p - 32 < 16 by omega), hd (p - 32) (by omega), show p % 16 = p - 32 - 16 by omega]
    simp
theorem sh_th : ∀ u, u < 16 → ∀ v, v < 16 → q_sh (nI u) (nI v) = q_th (nI (u % 8)) (nI (v % 8)) := by decide +kernel
theorem r8_n {x : Nat} (hx : x < 2 ^ 31) : q_r8 (nI x) = nI (x % 8) := by
  unfold q_r8
  have e : nI x / 8 = nI (x / 8) := pk_div hx (d := 8) (by decide) (by decide)
  have e8 : (8 : Int32).toInt = 8 := rfl
  rw [e]
  have hm : (nI (x / 8) * 8).toInt = ((x / 8 * 8 : Nat) : Int) := by
    rw [z_mul (by rw [z_nI (by omega), e8]; omega) (by rw [z_nI (by omega), e8]; omega), z_nI (by omega), e8]
    omega
  exact z_of (by rw [z_sub (by rw [hm, z_nI (by omega)]; omega) (by rw [hm, z_nI (by omega)]; omega), hm, z_nI (by omega)]; omega)
theorem r16_n {x : Nat} (hx : x < 2 ^ 31) : q_r16 (nI x) = nI (x % 16) := by
  unfold q_r16
  have e : nI x / 16 = nI (x / 16) := pk_div hx (d := 16) (by decide) (by decide)
  rw [e]
  have hm : (nI (x / 16) * 16).toInt = ((x / 16 * 16 : Nat) : Int) := by
    rw [z_mul (by rw [z_nI (by omega), z_16]; omega) (by rw [z_nI (by omega), z_16]; omega), z_nI (by omega), z_16]
    omega
  exact z_of (by rw [z_sub (by rw [hm, z_nI (by omega)]; omega) (by rw [hm, z_nI (by omega)]; omega), hm, z_nI (by omega)]; omega)
theorem and15 {y : Nat} (hy : y < 2 ^ 31) : (nI y &&& 15).toNatClampNeg = y % 16 := by
  have h : nI y &&& 15 = nI (y % 16) := by
    apply Int32.toBitVec_inj.mp
    apply BitVec.eq_of_toNat_eq
    rw [Int32.toBitVec_and, BitVec.toNat_and]
    have h1 : ∀ n, (nI n).toBitVec.toNat = n % 2 ^ 32 := fun _ => rfl
    have h15 : (15 : Int32).toBitVec.toNat = 2 ^ 4 - 1 := rfl
    rw [h1, h1, h15, Nat.and_two_pow_sub_one_eq_mod]
    omega
  rw [h]
  show (nI (y % 16)).toInt.toNat = _
  rw [z_nI (by omega)]
  omega
abbrev q_iok (kd val : Int32) : Prop := kd = 0 ∨ kd = 1 ∨ (kd = 2 ∧ 1 ≤ val ∧ val ≤ 100) ∨ (kd = 3 ∧ 1 ≤ val ∧ val ≤ 6)
theorem ink_at {kd val : Int32} (hk : q_iok kd val) {x y : Nat} (hx : x < 2 ^ 31) (hy : y < 2 ^ 31) : tb (q_il kd val (nI (y % 16))) (x % 64) = decide (q_ik kd (q_iv kd val) (nI x) (nI y)) := by
  have hp : x % 64 < 64 := Nat.mod_lt _ (by decide)
  have hdl : ∀ b : Nat → Bool, tb (q_dy (q_dx (q_dl b 16))) (x % 64) = b (x % 16) := fun b => by
    have h1 : ∀ p, 16 ≤ p → tb (q_dl b 16) p = false := fun p hp => by
      by_cases h : p < 64
      · rw [tb_dl b h 16 (by decide), decide_eq_false (by omega), Bool.false_and]
      · exact tb_big (by omega)
    rw [tb_dxy h1 hp, tb_dl b (by omega) 16 (by decide), show x % 64 % 16 = x % 16 by omega, decide_eq_true (by omega), Bool.true_and]
  unfold q_il
  rcases hk with h | h | ⟨h, h2⟩ | ⟨h, h2⟩
  · subst h
    rw [if_pos rfl, tb_m1 hp]
    exact (decide_eq_true (Or.inl (by decide))).symm
  · subst h
    rw [if_neg (by decide), if_pos rfl, tb_0]
    symm
    apply decide_eq_false
    rintro (q | q | q)
    · exact absurd q.2 (by decide)
    · exact absurd q.2.1 (by decide)
    · exact absurd q.1 (by decide)
  · subst h
    have hv : q_iv 2 val = val := if_neg (by decide)
    rw [if_neg (by decide), if_neg (by decide), hdl, q_db_s rfl, hv, sh_th _ (by omega) _ (by omega), show x % 16 % 8 = x % 8 by omega, show y % 16 % 8 = y % 8 by omega]
    apply decide_eq_decide.mpr
    rw [← r8_n hx, ← r8_n hy]
    constructor
    · exact fun q => Or.inr (Or.inl ⟨by decide, rfl, q⟩)
    · rintro (q | q | q)
      · exact absurd q.1 (by decide)
      · exact q.2.2
      · exact absurd rfl q.2.1
  · subst h
    have hv : q_iv 3 val = val := if_neg (by decide)
    rw [if_neg (by decide), if_neg (by decide), hdl, q_db_h (by decide), hv]
    apply decide_eq_decide.mpr
    rw [← r16_n hx, ← r16_n hy]
    have e : q_ha val (q_r16 (nI x)) (q_r16 (nI y)) ↔ q_hm val (q_r16 (nI x)) (q_r16 (nI y)) := by
      have h6 : (¬ val = 1 ∧ ¬ val = 2 ∧ ¬ val = 3 ∧ ¬ val = 4 ∧ ¬ val = 5) ↔ val = 6 := by
        simp only [z_eq]
        have := z_le.mp h2.1
        have := z_le.mp h2.2
        have e1 : (1 : Int32).toInt = 1 := rfl
        have e2 : (2 : Int32).toInt = 2 := rfl
        have e3 : (3 : Int32).toInt = 3 := rfl
        have e4 : (4 : Int32).toInt = 4 := rfl
        have e5 : (5 : Int32).toInt = 5 := rfl
        have e6 : (6 : Int32).toInt = 6 := rfl
        omega
      unfold q_ha q_hm
      rw [h6]
    rw [e]
    constructor
    · exact fun q => Or.inr (Or.inr ⟨by decide, by decide, q⟩)
    · rintro (q | q | q)
      · exact absurd q.1 (by decide)
      · exact absurd q.2.1 (by decide)
      · exact q.2.2
theorem ia_at {kd val : Int32} (hk : q_iok kd val) {x y : Nat} (hx : x < 2 ^ 31) (hy : y < 2 ^ 31) : tb (q_ia kd val 16 (nI y &&& 15).toNatClampNeg) (x % 64) = decide (q_ik kd (q_iv kd val) (nI x) (nI y)) := by
  rw [and15 hy]
  unfold q_ia
  rw [if_pos (by omega), ink_at hk hx hy]
