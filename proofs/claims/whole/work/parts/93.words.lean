/-! A shape's words in the class and in the model. -/
def q_sr (w d r : Nat) (ff ds : Nat → Int64) : Prop := ∀ j, j < d → (∀ kk, kk < pw w → ff (j * pw w + kk) = ds (2 * (r + j) + kk)) ∧ (pw w = 1 → ds (2 * (r + j) + 1) = 0)
theorem pw_12 {w : Nat} (h : 1 ≤ w ∧ w ≤ 128) : pw w = 1 ∧ w ≤ 64 ∨ pw w = 2 ∧ 64 < w := by unfold pw; omega
theorem sr_new {w d r : Nat} (hw : 1 ≤ w ∧ w ≤ 128) (ds : Nat → Int64) : q_sr w d r (fun _ => 0) (q_zr ds (2 * r) (2 * d)) := by
  intro j hj
  have hp := pw_12 hw
  unfold q_zr
  exact ⟨fun kk hk => (if_pos (by omega)).symm, fun _ => if_pos (by omega)⟩
theorem sr_keep {w d r : Nat} (hw : 1 ≤ w ∧ w ≤ 128) {ff ds ds' : Nat → Int64} (h : q_sr w d r ff ds) (he : ∀ i, 2 * r ≤ i → i < 2 * (r + d) → ds' i = ds i) : q_sr w d r ff ds' := by
  intro j hj
  have hp := pw_12 hw
  obtain ⟨h1, h2⟩ := h j hj
  refine ⟨fun kk hk => ?_, fun h9 => ?_⟩
  · rw [h1 kk hk, he _ (by omega) (by omega)]
  · rw [he _ (by omega) (by omega), h2 h9]
theorem hi_fd (v : Int64) (n : Int32) : q_hi v n = v &&& q_fd n := by
  apply tb_ext
  intro p hp
  have e64 : (64 : Int32).toInt = 64 := rfl
  unfold q_hi
  rw [tb_and, tb_fd n hp]
  by_cases h1 : (64 : Int32) ≤ n
  · rw [if_pos h1]
    rw [z_le, e64] at h1
    rw [decide_eq_true (by omega), Bool.and_true]
  · rw [if_neg h1]
    by_cases h2 : n ≤ 0
    · rw [if_pos h2, tb_0]
      rw [z_le, z_0] at h2
      rw [decide_eq_false (by omega), Bool.and_false]
    · rw [if_neg h2, tb_and, ← tb_fd n hp]
      congr 1
      unfold q_fd
      rw [if_neg h2, if_neg h1]
theorem sr_draw {w d r : Nat} (hw : 1 ≤ w ∧ w ≤ 128) (hd : d ≤ 128) {ff ds : Nat → Int64} (h : q_sr w d r ff ds) {j : Nat} (hj : j < d) (left right : Int64) : q_sr w d r (q_sd (nI d) (nI (pw w)) (nI w) ff (nI j) left right) (vp_updL (vp_updL ds (2 * (r + j)) (q_hi left (nI w))) (2 * (r + j) + 1) (q_hi right (nI w - 64))) := by
  have hz0 : (0 : Int32) = nI 0 := rfl
  have hz1 : (1 : Int32) = nI 1 := rfl
  have e64 : (64 : Int32).toInt = 64 := rfl
  have hw64 : (nI w - 64).toInt = w - 64 := by rw [z_sub (by rw [z_nI (by omega), e64]; omega) (by rw [z_nI (by omega), e64]; omega), z_nI (by omega), e64]
  rcases pw_12 hw with ⟨hp, hl⟩ | ⟨hp, hl⟩
  · have e : q_sd (nI d) (nI (pw w)) (nI w) ff (nI j) left right = vp_updL ff j (left &&& q_fd (nI w)) := by
      unfold q_sd
      rw [hp, sw_out (wd := 1) (by decide) (by omega) _ _ (by rw [z_1]; omega), hz0, sw_in (wd := 1) (by decide) (by omega) ff hj (by decide)]
      congr 1
      omega
    have hh0 : q_hi right (nI w - 64) = 0 := by
      unfold q_hi
      rw [if_neg (by rw [z_le, e64, hw64]; omega), if_pos (by rw [z_le, z_0, hw64]; omega)]
    rw [e, hh0, hi_fd]
    intro j' hj'
    obtain ⟨h1, h2⟩ := h j' hj'
    rw [hp] at h1 h2 ⊢
    unfold vp_updL
    refine ⟨fun kk hk => ?_, fun h9 => ?_⟩
    · have hk0 : kk = 0 := by omega
      subst hk0
      by_cases hq : j' = j
      · subst hq
        rw [if_pos (by omega), if_neg (by omega), if_pos (by omega)]
      · rw [if_neg (by omega), if_neg (by omega), if_neg (by omega)]
        exact h1 0 (by omega)
    · by_cases hq : j' = j
      · subst hq
        rw [if_pos (by omega)]
      · rw [if_neg (by omega), if_neg (by omega)]
        exact h2 rfl
  · have e : q_sd (nI d) (nI (pw w)) (nI w) ff (nI j) left right = vp_updL (vp_updL ff (j * 2) (left &&& q_fd (nI w))) (j * 2 + 1) (right &&& q_fd (nI w - 64)) := by
      unfold q_sd
      rw [hp, hz0, hz1, sw_in (wd := 2) (by decide) (by omega) ff hj (by decide), sw_in (wd := 2) (by decide) (by omega) _ hj (by decide)]
      rfl
    rw [e, hi_fd, hi_fd]
    intro j' hj'
    obtain ⟨h1, h2⟩ := h j' hj'
    rw [hp] at h1 h2 ⊢
    unfold vp_updL
    refine ⟨fun kk hk => ?_, fun h9 => absurd h9 (by decide)⟩
    have hk0 : kk = 0 ∨ kk = 1 := by omega
    rcases hk0 with hk0 | hk0 <;> subst hk0
    · by_cases hq : j' = j
      · subst hq
        rw [if_neg (by omega), if_pos (by omega), if_neg (by omega), if_pos (by omega)]
      · rw [if_neg (by omega), if_neg (by omega), if_neg (by omega), if_neg (by omega)]
        exact h1 0 (by omega)
    · by_cases hq : j' = j
      · subst hq
        rw [if_pos (by omega), if_pos (by omega)]
      · rw [if_neg (by omega), if_neg (by omega), if_neg (by omega), if_neg (by omega)]
        exact h1 1 (by omega)
theorem bs_psum (f : Nat → Int64) : ∀ n, q_bs f n = nI (psum f 0 n)
  | 0 => rfl
  | n + 1 => by
    show q_bs f n + q_bc (f n) = nI (psum f 0 n + pop (f (0 + n)))
    rw [bs_psum f n, pop_bc, nI_ad2, Nat.zero_add]
theorem sr_sum {w r : Nat} (hw : 1 ≤ w ∧ w ≤ 128) {ff ds : Nat → Int64} : ∀ d, q_sr w d r ff ds → psum ff 0 (pw w * d) = psum ds (2 * r) (2 * d)
  | 0, _ => rfl
  | d + 1, h => by
    have ih := sr_sum hw d (fun j hj => h j (by omega))
    obtain ⟨h1, h2⟩ := h d (by omega)
    rw [show pw w * (d + 1) = pw w * d + pw w from Nat.mul_succ _ _, show 2 * (d + 1) = 2 * d + 2 from rfl, psum_add, psum_add, ih]
    congr 1
    have e2 : psum ds (2 * r + 2 * d) 2 = 0 + pop (ds (2 * (r + d) + 0)) + pop (ds (2 * (r + d) + 1)) := by
      show 0 + pop (ds (2 * r + 2 * d + 0)) + pop (ds (2 * r + 2 * d + 1)) = _
      rw [Nat.mul_add]
    rw [e2, Nat.zero_add (pw w * d)]
    rcases pw_12 hw with ⟨hp, -⟩ | ⟨hp, -⟩
    · rw [hp] at h1 h2 ⊢
      have := h1 0 (by omega)
      rw [h2 rfl, pop_0, Nat.add_zero, ← this, show d * 1 + 0 = 1 * d + 0 by omega]
      rfl
    · rw [hp] at h1 ⊢
      rw [← h1 0 (by omega), ← h1 1 (by omega), show d * 2 = 2 * d by omega]
      rfl
