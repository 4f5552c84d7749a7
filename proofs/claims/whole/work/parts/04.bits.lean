/-! Pure: the bits of a long, the highest first; ints by their numbers. -/
def tb (w : Int64) (p : Nat) : Bool := w.toBitVec.getMsbD p
theorem tb_ext {x y : Int64} (h : ∀ p, p < 64 → tb x p = tb y p) : x = y := Int64.toBitVec_inj.mp (BitVec.eq_of_getMsbD_eq fun i hi => h i hi)
theorem tb_and (x y : Int64) (p : Nat) : tb (x &&& y) p = (tb x p && tb y p) := by unfold tb; rw [Int64.toBitVec_and, BitVec.getMsbD_and]
theorem tb_or (x y : Int64) (p : Nat) : tb (x ||| y) p = (tb x p || tb y p) := by unfold tb; rw [Int64.toBitVec_or, BitVec.getMsbD_or]
theorem tb_xor (x y : Int64) (p : Nat) : tb (x ^^^ y) p = (tb x p ^^ tb y p) := by unfold tb; rw [Int64.toBitVec_xor, BitVec.getMsbD_xor]
theorem tb_0 (p : Nat) : tb 0 p = false := by
  show (0#64).getMsbD p = false
  exact BitVec.getMsbD_zero
theorem tb_m1' (p : Nat) : tb (-1) p = decide (p < 64) := by
  show (BitVec.allOnes 64).getMsbD p = _
  exact BitVec.getMsbD_allOnes
theorem tb_m1 {p : Nat} (hp : p < 64) : tb (-1) p = true := by rw [tb_m1', decide_eq_true hp]
theorem tb_not (x : Int64) {p : Nat} (hp : p < 64) : tb (x ^^^ (-1)) p = !tb x p := by rw [tb_xor, tb_m1 hp, Bool.xor_true]
theorem tb_big {x : Int64} {p : Nat} (hp : 64 ≤ p) : tb x p = false := by
  unfold tb
  rw [BitVec.getMsbD_eq_getLsbD, decide_eq_false (by omega), Bool.false_and]
theorem tb_c : ∀ k, k < 64 → ((nI k).toInt64 &&& 63).toBitVec.smod 64 = BitVec.ofNat 64 k := by decide +kernel
theorem tb_cu : ∀ k, k < 64 → ((nI k).toInt64.toUInt64 &&& Int64.toUInt64 63).toNat = k := by decide +kernel
theorem tb_shl (x : Int64) {n : Nat} (hn : n < 64) (p : Nat) : tb (x <<< ((nI n).toInt64 &&& 63)) p = tb x (p + n) := by
  unfold tb
  rw [Int64.toBitVec_shiftLeft, tb_c n hn, BitVec.shiftLeft_eq', BitVec.getMsbD_shiftLeft, BitVec.toNat_ofNat, Nat.mod_eq_of_lt (by omega)]
theorem tb_ushr (x : Int64) {n : Nat} (hn : n < 64) {p : Nat} (hp : p < 64) : tb ((x.toUInt64 >>> ((nI n).toInt64.toUInt64 &&& Int64.toUInt64 63)).toInt64) p = (!decide (p < n) && tb x (p - n)) := by
  have h1 : ((x.toUInt64 >>> ((nI n).toInt64.toUInt64 &&& Int64.toUInt64 63)).toInt64).toBitVec = x.toBitVec >>> n := by
    apply BitVec.eq_of_toNat_eq
    show (x.toUInt64 >>> ((nI n).toInt64.toUInt64 &&& Int64.toUInt64 63)).toNat = _
    rw [UInt64.toNat_shiftRight, tb_cu n hn, Nat.mod_eq_of_lt hn, BitVec.toNat_ushiftRight]
    rfl
  unfold tb
  rw [h1, BitVec.getMsbD_ushiftRight, decide_eq_true hp, Bool.true_and]
/-- ints -/
theorem z_add {x y : Int32} (h1 : -2147483648 ≤ x.toInt + y.toInt) (h2 : x.toInt + y.toInt < 2147483648) : (x + y).toInt = x.toInt + y.toInt := by
  rw [Int32.toInt_add]
  exact Int.bmod_eq_of_le (by omega) (by omega)
theorem z_sub {x y : Int32} (h1 : -2147483648 ≤ x.toInt - y.toInt) (h2 : x.toInt - y.toInt < 2147483648) : (x - y).toInt = x.toInt - y.toInt := by
  rw [Int32.toInt_sub]
  exact Int.bmod_eq_of_le (by omega) (by omega)
theorem z_mul {x y : Int32} (h1 : -2147483648 ≤ x.toInt * y.toInt) (h2 : x.toInt * y.toInt < 2147483648) : (x * y).toInt = x.toInt * y.toInt := by
  rw [Int32.toInt_mul]
  exact Int.bmod_eq_of_le (by omega) (by omega)
theorem z_lt {x y : Int32} : x < y ↔ x.toInt < y.toInt := Int32.lt_iff_toInt_lt
theorem z_le {x y : Int32} : x ≤ y ↔ x.toInt ≤ y.toInt := Int32.le_iff_toInt_le
theorem z_eq {x y : Int32} : x = y ↔ x.toInt = y.toInt := Int32.toInt_inj.symm
theorem z_rg (x : Int32) : -2147483648 ≤ x.toInt ∧ x.toInt < 2147483648 := ⟨Int32.le_toInt x, Int32.toInt_lt x⟩
theorem z_nI {n : Nat} (h : n < 2147483648) : (nI n).toInt = (n : Int) := nI_toInt h
theorem z_of {x : Int32} {n : Nat} (h : x.toInt = (n : Int)) : x = nI n := by
  have h2 := (z_rg x).2
  exact z_eq.mpr (by rw [z_nI (by omega)]; exact h)
theorem z_ofN {x : Int32} (h : 0 ≤ x.toInt) : x = nI x.toInt.toNat := z_of (by omega)
theorem z_clamp {x : Int32} (h : 0 ≤ x.toInt) : x.toNatClampNeg = x.toInt.toNat := rfl
/-- the first n dots of a long -/
def q_fd (n : Int32) : Int64 := if n ≤ 0 then 0 else if 64 ≤ n then -1 else (-1) <<< ((64 - n).toInt64 &&& 63)
theorem tb_fd (n : Int32) {p : Nat} (hp : p < 64) : tb (q_fd n) p = decide ((p : Int) < n.toInt) := by
  unfold q_fd
  split
  · rename_i h
    have h := z_le.mp h
    have h0 : (0 : Int32).toInt = 0 := rfl
    rw [tb_0, decide_eq_false (by omega)]
  · rename_i h
    have h : ¬ n.toInt ≤ 0 := fun q => h (z_le.mpr q)
    split
    · rename_i h2
      have h2 := z_le.mp h2
      have h0 : (64 : Int32).toInt = 64 := rfl
      rw [tb_m1 hp, decide_eq_true (by omega)]
    · rename_i h2
      have h0 : (64 : Int32).toInt = 64 := rfl
      have h2 : ¬ (64 : Int) ≤ n.toInt := fun q => h2 (z_le.mpr (by rw [h0]; exact q))
      have hs : (64 - n).toInt = 64 - n.toInt := by rw [z_sub (by omega) (by omega), h0]
      obtain ⟨k, hk⟩ : ∃ k : Nat, k = 64 - n.toInt.toNat := ⟨_, rfl⟩
      have hn : (64 - n : Int32) = nI k := z_of (by rw [hs]; omega)
      rw [hn, tb_shl _ (by omega), tb_m1']
      by_cases hq : (p : Int) < n.toInt
      · rw [decide_eq_true hq, decide_eq_true (by omega)]
      · rw [decide_eq_false hq, decide_eq_false (by omega)]
