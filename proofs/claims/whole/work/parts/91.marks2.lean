theorem up_s {α : Type} (f : Nat → α) (k : Nat) (v : α) : va_up f k v k = v := if_pos rfl
theorem up_n {α : Type} (f : Nat → α) {k j : Nat} (v : α) (h : j ≠ k) : va_up f k v j = f j := if_neg h
theorem R_add {F F' : Nat → Int64} {H : Nat} {D : Nat → mD} {B : Nat → Int32 × Int32 × Int32 × Int32} {FI : Nat → Nat → Int64} {PI : Nat → Option pI} {as : List Nat} (hR : q_R F H D B FI PI as) {mk : Nat} (hm : mk ∉ as) {d : mD} {bx : Int32 × Int32 × Int32 × Int32} {fi : Nat → Int64} {pi : Option pI} (hE : ∀ x y, x < 5120 → y < H → q_at F' x y = (q_E bx d.2.1 d.2.2.1 fi pi d.2.2.2.2.2.1 d.2.2.2.2.2.2 x y).getD (q_at F x y)) : q_R F' H (va_up D mk d) (va_up B mk bx) (va_up FI mk fi) (va_up PI mk pi) (mk :: as) := by
  intro x y hx hy
  show _ = (q_Ea (va_up D mk d) (va_up B mk bx) (va_up FI mk fi) (va_up PI mk pi) x y mk).getD (q_fs _ as)
  have e1 : q_Ea (va_up D mk d) (va_up B mk bx) (va_up FI mk fi) (va_up PI mk pi) x y mk = q_E bx d.2.1 d.2.2.1 fi pi d.2.2.2.2.2.1 d.2.2.2.2.2.2 x y := by
    unfold q_Ea
    rw [up_s, up_s, up_s, up_s]
  rw [e1, hE x y hx hy, hR x y hx hy]
  congr 1
  refine fs_congr as (fun a ha => ?_)
  have hne : a ≠ mk := fun q => hm (q ▸ ha)
  unfold q_Ea
  rw [up_n _ _ hne, up_n _ _ hne, up_n _ _ hne, up_n _ _ hne]
theorem R_same {F F' : Nat → Int64} {H : Nat} {D : Nat → mD} {B : Nat → Int32 × Int32 × Int32 × Int32} {FI : Nat → Nat → Int64} {PI : Nat → Option pI} {as : List Nat} (hR : q_R F H D B FI PI as) (hE : ∀ x y, x < 5120 → y < H → q_at F' x y = q_at F x y) : q_R F' H D B FI PI as := fun x y hx hy => (hE x y hx hy).trans (hR x y hx hy)
theorem psum_at {F F' : Nat → Int64} {y : Nat} (h : ∀ x, x < 5120 → q_at F' x y = q_at F x y) : psum F' (80 * y) 80 = psum F (80 * y) 80 := by
  refine psum_congr 80 (fun k hk => ?_)
  apply tb_ext
  intro p hp
  have h1 := h (64 * k + p) (by omega)
  unfold q_at at h1
  rw [show (64 * k + p) / 64 = k by omega, show (64 * k + p) % 64 = p by omega] at h1
  exact h1
theorem V_add {H a b : Nat} {TB TB' : Nat → Nat} {f : Nat → Int32} (hf : bV H TB f) (hT : ∀ y, y < H → ¬ (a ≤ y ∧ y < b + 1) → TB' y = TB y) : bV H TB' (q_sa f a (b + 1)) := by
  intro y hy
  unfold q_sa
  by_cases h : a ≤ y ∧ y < b + 1
  · rw [if_pos h]
    exact Or.inl rfl
  · rw [if_neg h, hT y hy h]
    exact hf y hy
theorem E_off {bx : Int32 × Int32 × Int32 × Int32} {lf tp : Int32} {fi : Nat → Int64} {pi : Option pI} {so io : Int32} {a b x y : Nat} (ha : bx.2.1 = nI a) (hb : bx.2.2.2 = nI b) (hl : a < 5100 ∧ b < 5100 ∧ y < 5100) (h : ¬ (a ≤ y ∧ y < b + 1)) : q_E bx lf tp fi pi so io x y = none := by
  unfold q_E
  rw [ha, hb, if_neg]
  rw [decide_eq_false]
  · exact Bool.false_ne_true
  · rw [z_le, z_le, z_nI (by omega), z_nI (by omega), z_nI (by omega)]
    omega
theorem S_add {g : Nat → Int32} {H : Nat} (hH : H ≤ 5100) {B : Nat → Int32 × Int32 × Int32 × Int32} {PI : Nat → Option pI} {as : List Nat} (hS : q_sI g H B PI as) {mk : Nat} (hm : mk ∉ as) {bx : Int32 × Int32 × Int32 × Int32} {pi : Option pI} {pic : Bool} (hp : pic = false → pi = none) {a b : Nat} (hab : a ≤ b ∧ b < H) (ha : bx.2.1 = nI a) (hb : bx.2.2.2 = nI b) : q_sI (q_sx (q_sz pic g a (b + 1)) H (b + 1)) H (va_up B mk bx) (va_up PI mk pi) (mk :: as) := by
  intro y h1 hy hg c hc
  have h0 : q_sz pic g a (b + 1) y = 0 ∧ y ≠ b + 1 := by
    unfold q_sx at hg
    by_cases hk : b + 1 < H
    · rw [if_pos hk] at hg
      unfold upd at hg
      by_cases hyb : y = b + 1
      · rw [if_pos hyb] at hg
        exact absurd hg (by decide)
      · rw [if_neg hyb] at hg
        exact ⟨hg, hyb⟩
    · rw [if_neg hk] at hg
      exact ⟨hg, by omega⟩
  have h2 : g y = 0 ∧ ¬ (a ≤ y ∧ y < b + 1 ∧ (pic = true ∨ y = a)) := by
    have h3 := h0.1
    unfold q_sz at h3
    by_cases hq : a ≤ y ∧ y < b + 1 ∧ (pic = true ∨ y = a)
    · rw [if_pos hq] at h3
      exact absurd h3 (by decide)
    · rw [if_neg hq] at h3
      exact ⟨h3, hq⟩
  rcases List.mem_cons.mp hc with rfl | hc
  · rw [up_s, up_s, ha, hb, z_nI (by omega), z_nI (by omega)]
    have h4 := h0.2
    have h5 := h2.2
    refine ⟨by omega, fun hq => hp ?_⟩
    cases pic with
    | false => rfl
    | true => exact absurd ⟨by omega, by omega, Or.inl rfl⟩ h5
  · have hne : c ≠ mk := fun q => hm (q ▸ hc)
    rw [up_n _ _ hne, up_n _ _ hne]
    exact hS y h1 hy h2.1 c hc
theorem csum_tsum (F : Nat → Int64) (lo : Nat) : ∀ n, csum F lo n = tsum (fun y => psum F (80 * y) 80) lo n
  | 0 => rfl
  | n + 1 => by
    show csum F lo n + psum F (80 * (lo + n)) 80 = tsum _ lo n + psum F (80 * (lo + n)) 80
    rw [csum_tsum F lo n]
/-- a word of a line that lies beyond the sheet -/
theorem R_far {F : Nat → Int64} {W H : Nat} (hW : 1 ≤ W ∧ W ≤ 5100) (hH : H ≤ 5100) {D : Nat → mD} {B : Nat → Int32 × Int32 × Int32 × Int32} {FI : Nat → Nat → Int64} {PI : Nat → Option pI} {as : List Nat} (hR : q_R F H D B FI PI as) (hB : ∀ a ∈ as, q_bi W H (B a)) {y k : Nat} (hy : y < H) (hk : k < 80) (hf : W ≤ 64 * k) : F (80 * y + k) = 0 := by
  apply tb_ext
  intro p hp
  have h := hR (64 * k + p) y (by omega) hy
  unfold q_at at h
  rw [show (64 * k + p) / 64 = k by omega, show (64 * k + p) % 64 = p by omega] at h
  rw [h, tb_0]
  refine fs_none as (fun a ha => ?_)
  have hb := hB a ha
  unfold q_Ea
  rw [E_ke ⟨by have := hb.1; omega, by have := hb.1; omega⟩ _ _ _ _ _ _ (by omega) (by omega)]
  rw [decide_eq_false (fun q => by have := hb.1; omega)]
  rfl
