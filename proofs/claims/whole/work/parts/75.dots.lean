/-! What a dot of a line is: the newest mark that settles it decides. -/
def q_fs (E : Nat → Option Bool) : List Nat → Bool
  | [] => false
  | a :: r => (E a).getD (q_fs E r)
def q_sb2 (x : Option Int64) (p : Nat) : Bool := match x with
  | none => true
  | some d => tb d p
def q_ef (x : wX) (p : Nat) : Option Bool := if tb x.1 p = true then (if q_sb2 x.2.1 p = true then (if tb x.2.2.1 p = true then some true else if x.2.2.2.2 = 0 then none else some false) else if x.2.2.2.1 = 0 then none else some false) else none
theorem tb_src (met : Int64) (x : Option Int64) (p : Nat) : tb (q_src met x) p = (q_sb2 x p && tb met p) := by
  cases x with
  | none => show tb met p = (true && tb met p); rw [Bool.true_and]
  | some d => exact tb_and d met p
theorem tb_ifm {c : Int32} {x : Int64} {p : Nat} (hp : p < 64) : tb (if c = 0 then -1 else x ^^^ (-1)) p = (decide (c = 0) || !tb x p) := by
  by_cases h : c = 0
  · rw [if_pos h, tb_m1 hp, decide_eq_true h, Bool.true_or]
  · rw [if_neg h, tb_not x hp, decide_eq_false h, Bool.false_or]
theorem wu_bit (X : Nat → wX) {p : Nat} (hp : p < 64) : ∀ (L : List Nat) (op bl : Int64), tb (q_wu X L op bl) p = (tb bl p || (tb op p && q_fs (fun a => q_ef (X a) p) L))
  | [], op, bl => by show tb bl p = (tb bl p || (tb op p && false)); rw [Bool.and_false, Bool.or_false]
  | a :: r, op, bl => by
    by_cases h0 : op = 0
    · rw [q_wu_0 X a r bl h0, h0, tb_0, Bool.false_and, Bool.or_false]
    · by_cases h1 : (X a).1 &&& op = 0
      · rw [q_wu_n X r bl h0 h1, wu_bit X hp r op bl]
        have h2 : (tb (X a).1 p && tb op p) = false := by rw [← tb_and, h1, tb_0]
        show _ = (tb bl p || (tb op p && (q_ef (X a) p).getD _))
        cases ho : tb op p with
        | false => rw [Bool.false_and, Bool.false_and]
        | true =>
          rw [ho, Bool.and_true] at h2
          have h3 : q_ef (X a) p = none := if_neg (by rw [h2]; exact Bool.false_ne_true)
          rw [h3]
          rfl
      · rw [q_wu_m X r bl h0 h1, wu_bit X hp r _ _]
        show _ = (tb bl p || (tb op p && (q_ef (X a) p).getD _))
        generalize q_fs (fun a => q_ef (X a) p) r = z
        unfold q_op q_ef
        rw [tb_and, tb_and, tb_and, tb_ifm hp, tb_ifm hp, tb_not _ hp, tb_and, tb_and, tb_not _ hp, tb_or, tb_and, tb_src, tb_and]
        cases tb op p <;> cases tb (X a).1 p <;> cases q_sb2 (X a).2.1 p <;> cases tb (X a).2.2.1 p <;> by_cases hi : (X a).2.2.2.2 = 0 <;> by_cases hs : (X a).2.2.2.1 = 0 <;> cases tb bl p <;> cases z <;> simp [hi, hs]
theorem wu_bit0 (X : Nat → wX) {p : Nat} (hp : p < 64) (L : List Nat) : tb (q_wu X L (-1) 0) p = q_fs (fun a => q_ef (X a) p) L := by rw [wu_bit X hp, tb_0, tb_m1 hp, Bool.false_or, Bool.true_and]
theorem fs_filter {E E' : Nat → Option Bool} {q : Nat → Bool} : ∀ (L : List Nat), (∀ a ∈ L, E' a = if q a = true then E a else none) → q_fs E (L.filter q) = q_fs E' L
  | [], _ => rfl
  | a :: r, h => by
    have ih := fs_filter r (fun x hx => h x (List.mem_cons_of_mem _ hx))
    have ha := h a List.mem_cons_self
    show _ = (E' a).getD (q_fs E' r)
    cases hq : q a with
    | true =>
      rw [List.filter_cons_of_pos hq]
      show (E a).getD (q_fs E (r.filter q)) = _
      rw [ih, ha, hq, if_pos rfl]
    | false =>
      rw [List.filter_cons_of_neg (by rw [hq]; exact Bool.false_ne_true), ih, ha, hq, if_neg Bool.false_ne_true]
      rfl
theorem fs_congr {E E' : Nat → Option Bool} : ∀ (L : List Nat), (∀ a ∈ L, E a = E' a) → q_fs E L = q_fs E' L
  | [], _ => rfl
  | a :: r, h => by
    show (E a).getD _ = (E' a).getD _
    rw [h a List.mem_cons_self, fs_congr r (fun x hx => h x (List.mem_cons_of_mem _ hx))]
theorem fs_none {E : Nat → Option Bool} : ∀ (L : List Nat), (∀ a ∈ L, E a = none) → q_fs E L = false
  | [], _ => rfl
  | a :: r, h => by
    show (E a).getD _ = false
    rw [h a List.mem_cons_self]
    exact fs_none r (fun x hx => h x (List.mem_cons_of_mem _ hx))
/-! A picture's dot, counted from anywhere. -/
theorem z_xor64 (x : Int32) : (0 ≤ x ^^^ 64) ↔ 0 ≤ x.toInt := by
  have h64 : (64 : Int32).toBitVec.msb = false := by decide
  have e : ∀ y : Int32, (0 ≤ y) ↔ y.toBitVec.msb = false := fun y => by
    rw [z_le, z_0]
    show 0 ≤ y.toBitVec.toInt ↔ _
    rw [BitVec.msb_eq_toInt]
    constructor
    · intro h; exact decide_eq_false (by omega)
    · intro h; have := of_decide_eq_false h; omega
  rw [e, Int32.toBitVec_xor, BitVec.msb_xor, h64, Bool.xor_false, ← e, z_le, z_0]
theorem z_div64 (x : Int32) : (x / 64).toInt = x.toInt.tdiv 64 := by
  have h := z_rg x
  rw [Int32.toInt_div, z_64]
  apply Int.bmod_eq_of_le
  · rcases Int.lt_or_le x.toInt 0 with h0 | h0
    · have : x.toInt.tdiv 64 = -((-x.toInt).tdiv 64) := by rw [Int.neg_tdiv, Int.neg_neg]
      rw [this, Int.tdiv_eq_ediv_of_nonneg (by omega)]
      omega
    · rw [Int.tdiv_eq_ediv_of_nonneg h0]
      omega
  · rcases Int.lt_or_le x.toInt 0 with h0 | h0
    · have : x.toInt.tdiv 64 = -((-x.toInt).tdiv 64) := by rw [Int.neg_tdiv, Int.neg_neg]
      rw [this, Int.tdiv_eq_ediv_of_nonneg (by omega)]
      omega
    · rw [Int.tdiv_eq_ediv_of_nonneg h0]
      omega
theorem z_tdiv (x : Int) : x.tdiv 64 = if 0 ≤ x then x / 64 else -((-x) / 64) := by
  split
  · rw [Int.tdiv_eq_ediv_of_nonneg ‹_›]
  · have : x.tdiv 64 = -((-x).tdiv 64) := by rw [Int.neg_tdiv, Int.neg_neg]
    rw [this, Int.tdiv_eq_ediv_of_nonneg (by omega)]
theorem fdiv_z (x : Int32) : (q_fdiv x 64).toInt = x.toInt / 64 := by
  have h := z_rg x
  have hd : (x / 64).toInt = if 0 ≤ x.toInt then x.toInt / 64 else -((-x.toInt) / 64) := by rw [z_div64, z_tdiv]
  unfold q_fdiv
  by_cases h0 : 0 ≤ x.toInt
  · rw [if_pos ((z_xor64 x).mpr h0), hd, if_pos h0]
  · rw [if_neg (fun q => h0 ((z_xor64 x).mp q))]
    rw [if_neg h0] at hd
    have hm : (x / 64 * 64).toInt = -((-x.toInt) / 64) * 64 := by
      rw [z_mul (by rw [hd, z_64]; omega) (by rw [hd, z_64]; omega), hd, z_64]
    by_cases h1 : x / 64 * 64 = x
    · rw [if_pos h1, hd]
      rw [h1] at hm
      omega
    · rw [if_neg h1, z_sub (by rw [hd, z_1]; omega) (by rw [hd, z_1]; omega), hd, z_1]
      have : ¬ (x / 64 * 64).toInt = x.toInt := fun q => h1 (z_eq.mpr q)
      rw [hm] at this
      omega
theorem fmod_z (x : Int32) : (q_fmod x 64).toInt = x.toInt % 64 := by
  have h := z_rg x
  have hd : (x / 64).toInt = if 0 ≤ x.toInt then x.toInt / 64 else -((-x.toInt) / 64) := by rw [z_div64, z_tdiv]
  have hm : (x / 64 * 64).toInt = (if 0 ≤ x.toInt then x.toInt / 64 else -((-x.toInt) / 64)) * 64 := by
    rw [z_mul (by rw [hd, z_64]; split <;> omega) (by rw [hd, z_64]; split <;> omega), hd, z_64]
  have hs : (x - x / 64 * 64).toInt = x.toInt - (if 0 ≤ x.toInt then x.toInt / 64 else -((-x.toInt) / 64)) * 64 := by
    rw [z_sub (by rw [hm]; split <;> omega) (by rw [hm]; split <;> omega), hm]
  unfold q_fmod
  by_cases h0 : 0 ≤ x.toInt
  · rw [if_pos ((z_xor64 x).mpr h0), hs, if_pos h0]
    omega
  · rw [if_neg (fun q => h0 ((z_xor64 x).mp q))]
    rw [if_neg h0] at hs
    by_cases h1 : x - x / 64 * 64 = 0
    · rw [if_pos h1, hs]
      rw [h1, z_0] at hs
      omega
    · rw [if_neg h1, z_add (by rw [hs, z_64]; omega) (by rw [hs, z_64]; omega), hs, z_64]
      have : ¬ (x - x / 64 * 64).toInt = 0 := fun q => h1 (z_eq.mpr q)
      rw [hs] at this
      omega
theorem df_bit (wa : Int32 → Int64) (k : Int32) {s p : Nat} (hs : s < 64) (hp : p < 64) : tb (q_df wa k (nI s)) p = if p + s < 64 then tb (wa k) (p + s) else tb (wa (k + 1)) (p + s - 64) := by
  unfold q_df
  by_cases h0 : nI s = 0
  · have h1 : s = 0 := by
      have := congrArg Int32.toInt h0
      rw [z_nI (by omega), z_0] at this
      omega
    subst h1
    rw [if_pos h0, tb_shl _ (by omega), if_pos (by omega)]
  · have h1 : s ≠ 0 := fun q => h0 (by rw [q]; rfl)
    have h2 : (64 : Int32) - nI s = nI (64 - s) := z_of (by rw [z_sub (by rw [z_nI (by omega), z_64]; omega) (by rw [z_nI (by omega), z_64]; omega), z_nI (by omega), z_64]; omega)
    rw [if_neg h0, h2, tb_or, tb_shl _ hs, tb_ushr _ (by omega) hp]
    by_cases h3 : p + s < 64
    · rw [if_pos h3, decide_eq_true (by omega), Bool.not_true, Bool.false_and, Bool.or_false]
    · rw [if_neg h3, tb_big (by omega), decide_eq_false (by omega), Bool.not_false, Bool.true_and, Bool.false_or]
      congr 1
      omega
/-- a picture's dot at any place -/
def q_pz (f : Nat → Int64) (wd d : Nat) (j i : Int) : Bool := decide (0 ≤ j ∧ j < d ∧ 0 ≤ i ∧ i < 64 * wd) && tb (f (j.toNat * wd + i.toNat / 64)) (i.toNat % 64)
theorem wa_z {wd d : Nat} (hw : wd ≤ 1024) (hd : d ≤ 1024) (f : Nat → Int64) (j k : Int32) {p : Nat} (hp : p < 64) : tb (q_wa (nI d) (nI wd) f j k) p = q_pz f wd d j.toInt (64 * k.toInt + p) := by
  unfold q_pz
  by_cases h : 0 ≤ j.toInt ∧ j.toInt < d ∧ 0 ≤ k.toInt ∧ k.toInt < wd
  · obtain ⟨h1, h2, h3, h4⟩ := h
    have hj : j = nI j.toInt.toNat := z_ofN h1
    have hk : k = nI k.toInt.toNat := z_ofN h3
    rw [decide_eq_true (by omega), Bool.true_and]
    have e1 : q_wa (nI d) (nI wd) f j k = f (j.toInt.toNat * wd + k.toInt.toNat) := by
      rw [hj, hk, wa_in hw hd f (by omega) (by omega), ← hj, ← hk]
    rw [e1]
    have e2 : (64 * k.toInt + (p : Int)).toNat / 64 = k.toInt.toNat := by omega
    have e3 : (64 * k.toInt + (p : Int)).toNat % 64 = p := by omega
    rw [e2, e3]
  · rw [wa_out hw hd f h, tb_0, decide_eq_false (by omega), Bool.false_and]
theorem df_z {wd d : Nat} (hw : wd ≤ 1024) (hd : d ≤ 1024) (f : Nat → Int64) (j c : Int32) (hc : -1000000 ≤ c.toInt ∧ c.toInt ≤ 1000000) {p : Nat} (hp : p < 64) : tb (q_df (q_wa (nI d) (nI wd) f j) (q_fdiv c 64) (q_fmod c 64)) p = q_pz f wd d j.toInt (c.toInt + p) := by
  have h1 := fdiv_z c
  have h2 := fmod_z c
  have h3 : q_fmod c 64 = nI (c.toInt % 64).toNat := z_of (by rw [h2]; omega)
  have h4 : (q_fdiv c 64 + 1).toInt = c.toInt / 64 + 1 := by rw [z_add (by rw [h1, z_1]; omega) (by rw [h1, z_1]; omega), h1, z_1]
  rw [h3, df_bit _ _ (by omega) hp]
  split
  · rw [wa_z hw hd f j _ (by omega), h1]
    congr 1
    omega
  · rw [wa_z hw hd f j _ (by omega), h4]
    congr 1
    omega
