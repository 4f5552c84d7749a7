/-! What the pile's words and counts are, when its marks give the sheet's dots. -/
def q_Ea (D : Nat → mD) (B : Nat → Int32 × Int32 × Int32 × Int32) (FI : Nat → Nat → Int64) (PI : Nat → Option pI) (x y a : Nat) : Option Bool := q_E (B a) (D a).2.1 (D a).2.2.1 (FI a) (PI a) (D a).2.2.2.2.2.1 (D a).2.2.2.2.2.2 x y
def q_R (F : Nat → Int64) (H : Nat) (D : Nat → mD) (B : Nat → Int32 × Int32 × Int32 × Int32) (FI : Nat → Nat → Int64) (PI : Nat → Option pI) (as : List Nat) : Prop := ∀ x y, x < 5120 → y < H → q_at F x y = q_fs (q_Ea D B FI PI x y) as
def q_bi (W H : Nat) (b : Int32 × Int32 × Int32 × Int32) : Prop := (0 ≤ b.1.toInt ∧ b.1.toInt ≤ b.2.2.1.toInt ∧ b.2.2.1.toInt < W) ∧ 0 ≤ b.2.1.toInt ∧ b.2.1.toInt ≤ b.2.2.2.toInt ∧ b.2.2.2.toInt < H
theorem R_word {F : Nat → Int64} {H : Nat} {D : Nat → mD} {B : Nat → Int32 × Int32 × Int32 × Int32} {FI : Nat → Nat → Int64} {PI : Nat → Option pI} {as : List Nat} (hR : q_R F H D B FI PI as) {y k : Nat} (hy : y < H) (hk : k < 80) : F (80 * y + k) = q_wu (q_X D B FI PI (nI y) (nI k)) (as.filter (q_me B (nI y))) (-1) 0 := by
  apply tb_ext
  intro p hp
  have h := hR (64 * k + p) y (by omega) hy
  unfold q_at at h
  rw [show (64 * k + p) / 64 = k by omega, show (64 * k + p) % 64 = p by omega] at h
  rw [h, wu_bit0 _ hp, fs_filter (E' := q_Ea D B FI PI (64 * k + p) y) as (fun a _ => ?_)]
  unfold q_Ea q_E
  rw [show (64 * k + p) / 64 = k by omega, show (64 * k + p) % 64 = p by omega]
  rfl
theorem sm_psum (G : Nat → Int64) (lo : Nat) : ∀ n, q_sm (fun k => q_bc (G k)) lo n = nI (psum G lo n)
  | 0 => rfl
  | n + 1 => by
    show q_sm _ lo n + q_bc (G (lo + n)) = nI (psum G lo n + pop (G (lo + n)))
    rw [sm_psum G lo n, pop_bc, nI_ad2]
theorem psum_congr {f g : Nat → Int64} {lo lo' : Nat} : ∀ n, (∀ i, i < n → f (lo + i) = g (lo' + i)) → psum f lo n = psum g lo' n
  | 0, _ => rfl
  | n + 1, h => by
    show psum f lo n + pop (f (lo + n)) = psum g lo' n + pop (g (lo' + n))
    rw [psum_congr n (fun i hi => h i (by omega)), h n (by omega)]
theorem psum_add (f : Nat → Int64) (lo m : Nat) : ∀ n, psum f lo (m + n) = psum f lo m + psum f (lo + m) n
  | 0 => rfl
  | n + 1 => by
    show psum f lo (m + n) + pop (f (lo + (m + n))) = psum f lo m + (psum f (lo + m) n + pop (f (lo + m + n)))
    rw [psum_add f lo m n, Nat.add_assoc, Nat.add_assoc]
theorem psum_zero {f : Nat → Int64} {lo : Nat} : ∀ n, (∀ i, i < n → f (lo + i) = 0) → psum f lo n = 0
  | 0, _ => rfl
  | n + 1, h => by
    show psum f lo n + pop (f (lo + n)) = 0
    rw [psum_zero n (fun i hi => h i (by omega)), h n (by omega), pop_0]
theorem psum_mid {f : Nat → Int64} {lo n m : Nat} (h : lo + n ≤ m) (h1 : ∀ i, i < lo → f i = 0) (h2 : ∀ i, lo + n ≤ i → i < m → f i = 0) : psum f lo n = psum f 0 m := by
  obtain ⟨r, rfl⟩ : ∃ r, m = lo + (n + r) := ⟨m - lo - n, by omega⟩
  rw [psum_add, psum_add, psum_zero (lo := 0) lo (fun i hi => h1 _ (by omega)), psum_zero r (fun i hi => h2 _ (by omega) (by omega)), Nat.zero_add, Nat.zero_add, Nat.add_zero]
theorem psum_sh (f : Nat → Int64) (s : Nat) : ∀ lo n, psum (fun i => f (s + i)) lo n = psum f (s + lo) n
  | _, 0 => rfl
  | lo, n + 1 => by
    show psum _ lo n + pop (f (s + (lo + n))) = psum f (s + lo) n + pop (f (s + lo + n))
    rw [psum_sh f s lo n, Nat.add_assoc]
theorem fr_le (B : Nat → Int32 × Int32 × Int32 × Int32) : ∀ (L : List Nat) (x : Int32), (q_fr B L x).toInt ≤ x.toInt ∧ (∀ a ∈ L, (q_fr B L x).toInt ≤ (B a).1.toInt) ∧ ((0 ≤ x.toInt ∧ ∀ a ∈ L, 0 ≤ (B a).1.toInt) → 0 ≤ (q_fr B L x).toInt)
  | [], x => ⟨Int.le_refl _, fun a h => absurd h (List.not_mem_nil), fun h => h.1⟩
  | a :: r, x => by
    obtain ⟨h1, h2, h3⟩ := fr_le B r (q_min x (B a).1)
    have hm := q_min_z x (B a).1
    show (q_fr B r (q_min x (B a).1)).toInt ≤ x.toInt ∧ (∀ b ∈ a :: r, (q_fr B r (q_min x (B a).1)).toInt ≤ (B b).1.toInt) ∧ (_ → 0 ≤ (q_fr B r (q_min x (B a).1)).toInt)
    refine ⟨by omega, fun b hb => ?_, fun h => h3 ⟨?_, fun b hb => h.2 b (List.mem_cons_of_mem _ hb)⟩⟩
    · rcases List.mem_cons.mp hb with rfl | hb
      · omega
      · exact h2 b hb
    · have := h.2 a List.mem_cons_self
      omega
theorem tx_le (B : Nat → Int32 × Int32 × Int32 × Int32) : ∀ (L : List Nat) (x : Int32), x.toInt ≤ (q_tx B L x).toInt ∧ (∀ a ∈ L, (B a).2.2.1.toInt ≤ (q_tx B L x).toInt) ∧ ∀ M : Int, (x.toInt ≤ M ∧ ∀ a ∈ L, (B a).2.2.1.toInt ≤ M) → (q_tx B L x).toInt ≤ M
  | [], x => ⟨Int.le_refl _, fun a h => absurd h (List.not_mem_nil), fun _ h => h.1⟩
  | a :: r, x => by
    obtain ⟨h1, h2, h3⟩ := tx_le B r (q_max x (B a).2.2.1)
    have hm := q_max_z x (B a).2.2.1
    show x.toInt ≤ (q_tx B r (q_max x (B a).2.2.1)).toInt ∧ (∀ b ∈ a :: r, (B b).2.2.1.toInt ≤ (q_tx B r (q_max x (B a).2.2.1)).toInt) ∧ ∀ M : Int, _ → (q_tx B r (q_max x (B a).2.2.1)).toInt ≤ M
    refine ⟨by omega, fun b hb => ?_, fun M h => h3 M ⟨?_, fun b hb => h.2 b (List.mem_cons_of_mem _ hb)⟩⟩
    · rcases List.mem_cons.mp hb with rfl | hb
      · omega
      · exact h2 b hb
    · have := h.2 a List.mem_cons_self
      omega
/-- a line's count -/
theorem R_count {F : Nat → Int64} {W H : Nat} (hW : 1 ≤ W ∧ W ≤ 5100) (hH : H ≤ 5100) {D : Nat → mD} {B : Nat → Int32 × Int32 × Int32 × Int32} {FI : Nat → Nat → Int64} {PI : Nat → Option pI} {as : List Nat} (hR : q_R F H D B FI PI as) (hB : ∀ a ∈ as, q_bi W H (B a)) : ∃ FR TX : Nat → Nat, (∀ a, a < H → FR a ≤ 5100 ∧ q_fr B (as.filter (q_me B (nI a))) 5100 / 64 = nI (FR a)) ∧ (∀ a, a < H → TX a ≤ 5100 ∧ q_tx B (as.filter (q_me B (nI a))) 0 / 64 = nI (TX a)) ∧ ∀ y, y < H → q_cb D B FI PI as FR TX y = nI (psum F (80 * y) 80) := by
  have h51 : (5100 : Int32).toInt = 5100 := rfl
  have hfa : ∀ y, ∀ a ∈ as.filter (q_me B (nI y)), q_bi W H (B a) := fun y a ha => hB a (List.mem_filter.mp ha).1
  have hf1 : ∀ y, 0 ≤ (q_fr B (as.filter (q_me B (nI y))) 5100).toInt ∧ (q_fr B (as.filter (q_me B (nI y))) 5100).toInt ≤ 5100 := fun y => ⟨(fr_le B _ 5100).2.2 ⟨by decide, fun a ha => (hfa y a ha).1.1⟩, (fr_le B _ 5100).1⟩
  have ht1 : ∀ y, 0 ≤ (q_tx B (as.filter (q_me B (nI y))) 0).toInt ∧ (q_tx B (as.filter (q_me B (nI y))) 0).toInt ≤ W - 1 := fun y => ⟨(tx_le B _ 0).1, (tx_le B _ 0).2.2 _ ⟨by rw [z_0]; omega, fun a ha => by have := (hfa y a ha).1.2.2; omega⟩⟩
  refine ⟨fun y => (q_fr B (as.filter (q_me B (nI y))) 5100).toInt.toNat / 64, fun y => (q_tx B (as.filter (q_me B (nI y))) 0).toInt.toNat / 64, fun y hy => ⟨by have := hf1 y; show (q_fr B (as.filter (q_me B (nI y))) 5100).toInt.toNat / 64 ≤ 5100; omega, ?_⟩, fun y hy => ⟨by have := ht1 y; show (q_tx B (as.filter (q_me B (nI y))) 0).toInt.toNat / 64 ≤ 5100; omega, ?_⟩, fun y hy => ?_⟩
  · have h9 := hf1 y
    have h8 := z_ofN h9.1
    show q_fr B (as.filter (q_me B (nI y))) 5100 / 64 = nI ((q_fr B (as.filter (q_me B (nI y))) 5100).toInt.toNat / 64)
    rw [← div64 (by omega), ← h8]
  · have h9 := ht1 y
    have h8 := z_ofN h9.1
    show q_tx B (as.filter (q_me B (nI y))) 0 / 64 = nI ((q_tx B (as.filter (q_me B (nI y))) 0).toInt.toNat / 64)
    rw [← div64 (by omega), ← h8]
  · unfold q_cb
    rw [sm_psum (fun k => q_wu (q_X D B FI PI (nI y) (nI k)) (as.filter (q_me B (nI y))) (-1) 0)]
    congr 1
    obtain ⟨fr, hfr⟩ : ∃ fr, fr = (q_fr B (as.filter (q_me B (nI y))) 5100).toInt.toNat := ⟨_, rfl⟩
    obtain ⟨tx, htx⟩ : ∃ tx, tx = (q_tx B (as.filter (q_me B (nI y))) 0).toInt.toNat := ⟨_, rfl⟩
    have h1 := hf1 y
    have h2 := ht1 y
    have h3 := (fr_le B (as.filter (q_me B (nI y))) 5100).2.1
    have h4 := (tx_le B (as.filter (q_me B (nI y))) 0).2.1
    show psum (fun k => q_wu (q_X D B FI PI (nI y) (nI k)) (as.filter (q_me B (nI y))) (-1) 0) ((q_fr B (as.filter (q_me B (nI y))) 5100).toInt.toNat / 64) ((q_tx B (as.filter (q_me B (nI y))) 0).toInt.toNat / 64 + 1 - (q_fr B (as.filter (q_me B (nI y))) 5100).toInt.toNat / 64) = _
    rw [← hfr, ← htx]
    have e1 : psum (fun k => q_wu (q_X D B FI PI (nI y) (nI k)) (as.filter (q_me B (nI y))) (-1) 0) (fr / 64) (tx / 64 + 1 - fr / 64) = psum (fun k => F (80 * y + k)) (fr / 64) (tx / 64 + 1 - fr / 64) := psum_congr _ (fun i hi => (R_word hR hy (by omega)).symm)
    have hz : ∀ k, k < 80 → (k < fr / 64 ∨ tx / 64 < k) → F (80 * y + k) = 0 := fun k hk hq => by
      apply tb_ext
      intro p hp
      have h := hR (64 * k + p) y (by omega) hy
      unfold q_at at h
      rw [show (64 * k + p) / 64 = k by omega, show (64 * k + p) % 64 = p by omega] at h
      rw [h, tb_0]
      refine fs_none as (fun a ha => ?_)
      have hb := hB a ha
      unfold q_Ea
      rw [E_ke ⟨by have := hb.1; omega, by have := hb.1; omega⟩ _ _ _ _ _ _ (by omega) (by omega)]
      rw [decide_eq_false (fun q => ?_)]
      · rfl
      · have hme : a ∈ as.filter (q_me B (nI y)) := List.mem_filter.mpr ⟨ha, decide_eq_true (by rw [z_le, z_le, z_nI (by omega)]; exact q.2)⟩
        have h5 := h3 a hme
        have h6 := h4 a hme
        omega
    rw [e1, show psum F (80 * y) 80 = psum (fun i => F (80 * y + i)) 0 80 from (psum_sh F (80 * y) 0 80).symm]
    by_cases hc : fr / 64 ≤ tx / 64
    · exact psum_mid (by omega) (fun i hi => hz i (by omega) (Or.inl hi)) (fun i hi hi2 => hz i hi2 (Or.inr (by omega)))
    · rw [show tx / 64 + 1 - fr / 64 = 0 by omega]
      symm
      exact psum_zero 80 (fun i hi => by rw [Nat.zero_add]; exact hz i hi (by omega))
/-- lines that nothing stirred -/
def q_sI (g : Nat → Int32) (H : Nat) (B : Nat → Int32 × Int32 × Int32 × Int32) (PI : Nat → Option pI) (as : List Nat) : Prop := ∀ y, 1 ≤ y → y < H → g y = 0 → ∀ a ∈ as, (((B a).2.1.toInt ≤ y ∧ (y : Int) ≤ (B a).2.2.2.toInt) ↔ ((B a).2.1.toInt ≤ y - 1 ∧ (y : Int) - 1 ≤ (B a).2.2.2.toInt)) ∧ (((B a).2.1.toInt ≤ y ∧ (y : Int) ≤ (B a).2.2.2.toInt) → PI a = none)
theorem la_all {g : Nat → Int32} {y : Nat} : ∀ k, q_la g y k = true → ∀ i, i < k → g (y - i) = 0
  | 0, _, i, hi => absurd hi (by omega)
  | k + 1, h, i, hi => by
    have h1 : (q_la g y k && decide (g (y - k) = 0)) = true := h
    rw [Bool.and_eq_true] at h1
    by_cases hk : i = k
    · subst hk
      exact of_decide_eq_true h1.2
    · exact la_all k h1.1 i (by omega)
theorem R_like {F : Nat → Int64} {H : Nat} (hH : H ≤ 5100) {D : Nat → mD} {B : Nat → Int32 × Int32 × Int32 × Int32} {FI : Nat → Nat → Int64} {PI : Nat → Option pI} {as : List Nat} {g : Nat → Int32} (hR : q_R F H D B FI PI as) (hS : q_sI g H B PI as) {y : Nat} (h16 : 16 ≤ y) (hy : y < H) (hl : q_la g y 16 = true) : psum F (80 * y) 80 = psum F (80 * (y - 16)) 80 := by
  have hg := la_all 16 hl
  have hme : ∀ j, j ≤ 16 → ∀ a ∈ as, (((B a).2.1.toInt ≤ y ∧ (y : Int) ≤ (B a).2.2.2.toInt) ↔ ((B a).2.1.toInt ≤ (y - j : Nat) ∧ ((y - j : Nat) : Int) ≤ (B a).2.2.2.toInt)) := by
    intro j
    induction j with
    | zero => intro _ a _; exact Iff.rfl
    | succ j ih =>
      intro hj a ha
      refine (ih (by omega) a ha).trans ?_
      have h := (hS (y - j) (by omega) (by omega) (hg j (by omega)) a ha).1
      rw [h]
      omega
  refine psum_congr 80 (fun k hk => ?_)
  apply tb_ext
  intro p hp
  have h1 := hR (64 * k + p) y (by omega) hy
  have h2 := hR (64 * k + p) (y - 16) (by omega) (by omega)
  unfold q_at at h1 h2
  rw [show (64 * k + p) / 64 = k by omega, show (64 * k + p) % 64 = p by omega] at h1 h2
  rw [h1, h2]
  refine fs_congr as (fun a ha => ?_)
  have h3 := hme 16 (by omega) a ha
  have hn : ∀ z, z < 5100 → (((B a).2.1 ≤ nI z ∧ nI z ≤ (B a).2.2.2) ↔ ((B a).2.1.toInt ≤ z ∧ (z : Int) ≤ (B a).2.2.2.toInt)) := fun z hz => by rw [z_le, z_le, z_nI (by omega)]
  unfold q_Ea q_E
  by_cases hm : (B a).2.1.toInt ≤ y ∧ (y : Int) ≤ (B a).2.2.2.toInt
  · have hp9 : PI a = none := (hS y (by omega) hy (by have := hg 0 (by omega); exact this) a ha).2 hm
    rw [if_pos (decide_eq_true ((hn y (by omega)).mpr hm)), if_pos (decide_eq_true ((hn (y - 16) (by omega)).mpr (h3.mp hm))), hp9, and15 (by omega), and15 (by omega), show (y - 16) % 16 = y % 16 by omega, Option.map_none, Option.map_none]
  · rw [if_neg (by rw [decide_eq_false (fun q => hm ((hn y (by omega)).mp q))]; exact Bool.false_ne_true), if_neg (by rw [decide_eq_false (fun q => hm (h3.mpr ((hn (y - 16) (by omega)).mp q)))]; exact Bool.false_ne_true)]
