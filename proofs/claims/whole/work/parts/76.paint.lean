/-! The model's painting, dot by dot. -/
def q_ke (ins src ink : Bool) (so io : Int32) : Option Bool := if ins = true then (if src = true then (if ink = true then some true else if io = 0 then none else some false) else if so = 0 then none else some false) else none
theorem pc_ke (mf : Nat → Int32) (x y s : Int32) : q_pc mf x y s = q_ke (decide (q_pin mf x y)) (decide (¬ s = 0)) (decide (q_ik (mf 14) (mf 15) x y)) (mf 16) (mf 17) := by
  unfold q_pc q_ke
  by_cases h1 : q_pin mf x y
  · rw [if_pos h1, decide_eq_true h1, if_pos rfl]
    by_cases h2 : s = 0
    · rw [if_pos h2, decide_eq_false (not_not_intro h2), if_neg Bool.false_ne_true]
    · rw [if_neg h2, decide_eq_true h2, if_pos rfl]
      by_cases h3 : q_ik (mf 14) (mf 15) x y
      · rw [if_pos h3, decide_eq_true h3, if_pos rfl]
      · rw [if_neg h3, decide_eq_false h3, if_neg Bool.false_ne_true]
  · rw [if_neg h1, decide_eq_false h1, if_neg Bool.false_ne_true]
def q_at (F : Nat → Int64) (x y : Nat) : Bool := tb (F (80 * y + x / 64)) (x % 64)
theorem st_at (f : Nat → Int64) {x y x' y' : Nat} (b : Bool) (hx : x < 5120) (hx' : x' < 5120) : q_at (q_st f x y b) x' y' = if x' = x ∧ y' = y then b else q_at f x' y' := by
  unfold q_at q_st vp_updL
  by_cases h : 80 * y' + x' / 64 = 80 * y + x / 64
  · have h1 : y' = y := by omega
    have h2 : x' / 64 = x / 64 := by omega
    subst h1
    rw [if_pos h, h]
    cases b with
    | true =>
      rw [if_pos rfl, tb_or, tb_b1d (Nat.mod_lt _ (by decide)) (Nat.mod_lt _ (by decide))]
      by_cases h3 : x' % 64 = x % 64
      · rw [decide_eq_true h3, Bool.or_true, if_pos ⟨by omega, rfl⟩]
      · rw [decide_eq_false h3, Bool.or_false, if_neg (fun q => h3 (by rw [q.1]))]
    | false =>
      rw [if_neg Bool.false_ne_true, tb_and, tb_not _ (Nat.mod_lt _ (by decide)), tb_b1d (Nat.mod_lt _ (by decide)) (Nat.mod_lt _ (by decide))]
      by_cases h3 : x' % 64 = x % 64
      · rw [decide_eq_true h3, Bool.not_true, Bool.and_false, if_pos ⟨by omega, rfl⟩]
      · rw [decide_eq_false h3, Bool.not_false, Bool.and_true, if_neg (fun q => h3 (by rw [q.1]))]
  · rw [if_neg h, if_neg (fun q => h (by rw [q.1, q.2]))]
theorem pc_in {mf : Nat → Int32} {W : Nat} (hW : W ≤ 5100) (hm : mf 1 = nI W) {x y s : Int32} {b : Bool} (h : q_pc mf x y s = some b) : 0 ≤ x.toInt ∧ x.toInt < 5100 ∧ 0 ≤ y.toInt := by
  unfold q_pc at h
  split at h
  · rename_i hp
    have h1 := hp.1
    rw [hm, z_le, z_lt, z_le, z_0, z_nI (by omega)] at h1
    omega
  · cases h
theorem pt_at {mf : Nat → Int32} {W : Nat} (hW : W ≤ 5100) (hm : mf 1 = nI W) (f : Nat → Int64) (x y s : Int32) {x' y' : Nat} (hx' : x' < 5120) : q_at (q_pt mf f x y s) x' y' = (if x.toInt = x' ∧ y.toInt = y' then q_pc mf (nI x') (nI y') s else none).getD (q_at f x' y') := by
  have hz : x.toInt = x' ∧ y.toInt = y' → q_pc mf (nI x') (nI y') s = q_pc mf x y s := fun q => by rw [← z_of q.1, ← z_of q.2]
  unfold q_pt
  cases h : q_pc mf x y s with
  | none =>
    show q_at f x' y' = _
    by_cases hq : x.toInt = x' ∧ y.toInt = y'
    · rw [if_pos hq, hz hq, h]
      rfl
    · rw [if_neg hq]
      rfl
  | some b =>
    show q_at (q_st f x.toInt.toNat y.toInt.toNat b) x' y' = _
    have h1 := pc_in hW hm h
    rw [st_at f b (by omega) hx']
    by_cases hq : x.toInt = x' ∧ y.toInt = y'
    · rw [if_pos hq, hz hq, h, if_pos (by omega)]
      rfl
    · rw [if_neg hq, if_neg (by omega)]
      rfl
/-- the last of many that speaks -/
def q_lt (G : Nat → Option Bool) : Nat → Option Bool
  | 0 => none
  | n + 1 => (G n).or (q_lt G n)
theorem lt_none {G : Nat → Option Bool} : ∀ n, (∀ i, i < n → G i = none) → q_lt G n = none
  | 0, _ => rfl
  | n + 1, h => by
    show (G n).or (q_lt G n) = none
    rw [h n (by omega), lt_none n (fun i hi => h i (by omega))]
    rfl
theorem lt_one {G : Nat → Option Bool} {i : Nat} : ∀ n, i < n → (∀ j, j < n → j ≠ i → G j = none) → q_lt G n = G i
  | 0, hi, _ => absurd hi (by omega)
  | n + 1, hi, h => by
    show (G n).or (q_lt G n) = G i
    by_cases hn : n = i
    · subst hn
      rw [lt_none n (fun j hj => h j (by omega) (by omega)), Option.or_none]
    · rw [h n (by omega) hn, lt_one n (by omega) (fun j hj hji => h j (by omega) hji), Option.none_or]
theorem mi_at {S : (Nat → Int64) → Nat → Nat → Int64} {G : Nat → Option Bool} {V : (Nat → Int64) → Bool} (h : ∀ F i, V (S F i) = (G i).getD (V F)) (F : Nat → Int64) : ∀ n, V (q_mi S F n) = (q_lt G n).getD (V F)
  | 0 => rfl
  | n + 1 => by
    show V (S (q_mi S F n) n) = ((G n).or (q_lt G n)).getD (V F)
    rw [h, mi_at h F n]
    cases G n <;> rfl
/-- where a dot of what is laid comes to lie, and where it came from -/
def q_tx2 (tn : Int32) (x i j : Int) : Int := if tn = 0 then x + i else if tn = 1 then x + j else if tn = 2 then x - i else x - j
def q_ty2 (tn : Int32) (y i j : Int) : Int := if tn = 0 then y + j else if tn = 1 then y - i else if tn = 2 then y - j else y + i
def q_iz (tn : Int32) (x y X Y : Int) : Int := if tn = 0 then X - x else if tn = 1 then y - Y else if tn = 2 then x - X else Y - y
def q_jz (tn : Int32) (x y X Y : Int) : Int := if tn = 0 then Y - y else if tn = 1 then X - x else if tn = 2 then y - Y else x - X
theorem iz_iff (tn : Int32) (x y X Y i j : Int) : (q_tx2 tn x i j = X ∧ q_ty2 tn y i j = Y) ↔ (i = q_iz tn x y X Y ∧ j = q_jz tn x y X Y) := by
  unfold q_tx2 q_ty2 q_iz q_jz
  by_cases h0 : tn = 0
  · simp only [if_pos h0]
    omega
  · by_cases h1 : tn = 1
    · simp only [if_neg h0, if_pos h1]
      omega
    · by_cases h2 : tn = 2
      · simp only [if_neg h0, if_neg h1, if_pos h2]
        omega
      · simp only [if_neg h0, if_neg h1, if_neg h2]
        omega
theorem lx_z (tn : Int32) {x : Int32} {i j : Nat} (hx : -10000 ≤ x.toInt ∧ x.toInt ≤ 10000) (hi : i ≤ 10000) (hj : j ≤ 10000) : (q_lx tn x (nI i) (nI j)).toInt = q_tx2 tn x.toInt i j := by
  have h1 := z_nI (n := i) (by omega)
  have h2 := z_nI (n := j) (by omega)
  unfold q_lx q_tx2
  by_cases h0 : tn = 0
  · simp only [if_pos h0]
    rw [z_add (by omega) (by omega), h1]
  · by_cases h3 : tn = 1
    · simp only [if_neg h0, if_pos h3]
      rw [z_add (by omega) (by omega), h2]
    · by_cases h4 : tn = 2
      · simp only [if_neg h0, if_neg h3, if_pos h4]
        rw [z_sub (by omega) (by omega), h1]
      · simp only [if_neg h0, if_neg h3, if_neg h4]
        rw [z_sub (by omega) (by omega), h2]
theorem ly_z (tn : Int32) {y : Int32} {i j : Nat} (hy : -10000 ≤ y.toInt ∧ y.toInt ≤ 10000) (hi : i ≤ 10000) (hj : j ≤ 10000) : (q_lyy tn y (nI i) (nI j)).toInt = q_ty2 tn y.toInt i j := by
  have h1 := z_nI (n := i) (by omega)
  have h2 := z_nI (n := j) (by omega)
  unfold q_lyy q_ty2
  by_cases h0 : tn = 0
  · simp only [if_pos h0]
    rw [z_add (by omega) (by omega), h2]
  · by_cases h3 : tn = 1
    · simp only [if_neg h0, if_pos h3]
      rw [z_sub (by omega) (by omega), h1]
    · by_cases h4 : tn = 2
      · simp only [if_neg h0, if_neg h3, if_pos h4]
        rw [z_sub (by omega) (by omega), h2]
      · simp only [if_neg h0, if_neg h3, if_neg h4]
        rw [z_add (by omega) (by omega), h1]
/-- many dots, each laid at its own place -/
theorem lay_at {mf : Nat → Int32} {W : Nat} (hW : W ≤ 5100) (hm : mf 1 = nI W) {x y : Int32} (hx : -10000 ≤ x.toInt ∧ x.toInt ≤ 10000) (hy : -10000 ≤ y.toInt ∧ y.toInt ≤ 10000) {i j : Nat} (hi : i ≤ 10000) (hj : j ≤ 10000) (f : Nat → Int64) (s : Int32) {x' y' : Nat} (hx' : x' < 5120) : q_at (q_pt mf f (q_lx (mf 18) x (nI i) (nI j)) (q_lyy (mf 18) y (nI i) (nI j)) s) x' y' = (if (i : Int) = q_iz (mf 18) x.toInt y.toInt x' y' ∧ (j : Int) = q_jz (mf 18) x.toInt y.toInt x' y' then q_pc mf (nI x') (nI y') s else none).getD (q_at f x' y') := by
  rw [pt_at hW hm f _ _ s hx', lx_z _ hx hi hj, ly_z _ hy hi hj]
  by_cases h : (i : Int) = q_iz (mf 18) x.toInt y.toInt x' y' ∧ (j : Int) = q_jz (mf 18) x.toInt y.toInt x' y'
  · rw [if_pos h, if_pos ((iz_iff _ _ _ _ _ _ _).mpr h)]
  · rw [if_neg h, if_neg (fun q => h ((iz_iff _ _ _ _ _ _ _).mp q))]
theorem mi_at2 {S : (Nat → Int64) → Nat → Nat → Int64} {G : Nat → Option Bool} {V : (Nat → Int64) → Bool} (F : Nat → Int64) : ∀ n, (∀ F i, i < n → V (S F i) = (G i).getD (V F)) → V (q_mi S F n) = (q_lt G n).getD (V F)
  | 0, _ => rfl
  | n + 1, h => by
    show V (S (q_mi S F n) n) = ((G n).or (q_lt G n)).getD (V F)
    rw [h _ _ (by omega), mi_at2 F n (fun F i hi => h F i (by omega))]
    cases G n <;> rfl
theorem sp_at {mf : Nat → Int32} {W : Nat} (hW : W ≤ 5100) (hm : mf 1 = nI W) {x y : Int32} (hx : -10000 ≤ x.toInt ∧ x.toInt ≤ 10000) (hy : -10000 ≤ y.toInt ∧ y.toInt ≤ 10000) (dot : Nat → Nat → Int32) {w d : Nat} (hw : w ≤ 10000) (hd : d ≤ 10000) (f : Nat → Int64) {x' y' : Nat} (hx' : x' < 5120) : q_at (q_sp mf x y dot w f d) x' y' = (if 0 ≤ q_iz (mf 18) x.toInt y.toInt x' y' ∧ q_iz (mf 18) x.toInt y.toInt x' y' < w ∧ 0 ≤ q_jz (mf 18) x.toInt y.toInt x' y' ∧ q_jz (mf 18) x.toInt y.toInt x' y' < d then q_pc mf (nI x') (nI y') (dot (q_iz (mf 18) x.toInt y.toInt x' y').toNat (q_jz (mf 18) x.toInt y.toInt x' y').toNat) else none).getD (q_at f x' y') := by
  obtain ⟨I, hI⟩ : ∃ I, I = q_iz (mf 18) x.toInt y.toInt x' y' := ⟨_, rfl⟩
  obtain ⟨J, hJ⟩ : ∃ J, J = q_jz (mf 18) x.toInt y.toInt x' y' := ⟨_, rfl⟩
  have h1 : ∀ (F : Nat → Int64) (j : Nat), j < d → q_at (q_mi (fun F i => q_pt mf F (q_lx (mf 18) x (nI i) (nI j)) (q_lyy (mf 18) y (nI i) (nI j)) (dot i j)) F w) x' y' = (q_lt (fun i => if (i : Int) = I ∧ (j : Int) = J then q_pc mf (nI x') (nI y') (dot i j) else none) w).getD (q_at F x' y') := fun F j hj => by
    rw [hI, hJ]
    exact mi_at2 (V := fun F => q_at F x' y') F w (fun F i hi => lay_at hW hm hx hy (by omega) (by omega) F (dot i j) hx')
  have h2 := mi_at2 (V := fun F => q_at F x' y') f d h1
  unfold q_sp
  refine h2.trans ?_
  rw [← hI, ← hJ]
  congr 1
  by_cases h : 0 ≤ I ∧ I < w ∧ 0 ≤ J ∧ J < d
  · rw [if_pos h, lt_one (i := J.toNat) d (by omega) (fun j hj hjn => lt_none w (fun i hi => if_neg (by omega))), lt_one (i := I.toNat) w (by omega) (fun i hi hin => if_neg (by omega)), if_pos (by omega)]
  · rw [if_neg h]
    exact lt_none d (fun j hj => lt_none w (fun i hi => if_neg (by omega)))
theorem rp_at {mf : Nat → Int32} {W : Nat} (hW : W ≤ 5100) (hm : mf 1 = nI W) {lu lv mu mv : Nat} (h1 : lu + mu ≤ 100000) (h2 : lv + mv ≤ 100000) (f : Nat → Int64) {x' y' : Nat} (hx' : x' < 5120) : q_at (q_rp mf lu lv mu f mv) x' y' = (if lu ≤ x' ∧ x' < lu + mu ∧ lv ≤ y' ∧ y' < lv + mv then q_pc mf (nI x') (nI y') 1 else none).getD (q_at f x' y') := by
  have h3 : ∀ (F : Nat → Int64) (j : Nat), j < mv → q_at (q_mi (fun F i => q_pt mf F (nI (lu + i)) (nI (lv + j)) 1) F mu) x' y' = (q_lt (fun i => if lu + i = x' ∧ lv + j = y' then q_pc mf (nI x') (nI y') 1 else none) mu).getD (q_at F x' y') := fun F j hj => by
    refine mi_at2 (V := fun F => q_at F x' y') F mu (fun F i hi => ?_)
    show q_at (q_pt mf F (nI (lu + i)) (nI (lv + j)) 1) x' y' = _
    rw [pt_at hW hm F _ _ 1 hx', z_nI (by omega), z_nI (by omega)]
    by_cases h : lu + i = x' ∧ lv + j = y'
    · rw [if_pos h, if_pos (by omega)]
    · rw [if_neg h, if_neg (by omega)]
  have h4 := mi_at2 (V := fun F => q_at F x' y') f mv h3
  unfold q_rp
  refine h4.trans ?_
  congr 1
  by_cases h : lu ≤ x' ∧ x' < lu + mu ∧ lv ≤ y' ∧ y' < lv + mv
  · rw [if_pos h, lt_one (i := y' - lv) mv (by omega) (fun j hj hjn => lt_none mu (fun i hi => if_neg (by omega))), lt_one (i := x' - lu) mu (by omega) (fun i hi hin => if_neg (by omega)), if_pos (by omega)]
  · rw [if_neg h]
    exact lt_none mv (fun j hj => lt_none mu (fun i hi => if_neg (by omega)))
theorem rw_at {mf : Nat → Int32} {W : Nat} (hW : W ≤ 5100) (hm : mf 1 = nI W) {x y : Int32} (hx : -10000 ≤ x.toInt ∧ x.toInt ≤ 10000) (hy : -10000 ≤ y.toInt ∧ y.toInt ≤ 10000) (bits : Int64) {sc n : Nat} (hs : 1 ≤ sc ∧ sc ≤ 8) (hn : n ≤ 64) (f : Nat → Int64) {x' y' : Nat} (hx' : x' < 5120) : q_at (q_rw mf x y sc bits f n) x' y' = (if 0 ≤ q_iz (mf 18) x.toInt y.toInt x' y' ∧ q_iz (mf 18) x.toInt y.toInt x' y' < sc * n ∧ 0 ≤ q_jz (mf 18) x.toInt y.toInt x' y' ∧ q_jz (mf 18) x.toInt y.toInt x' y' < sc then q_pc mf (nI x') (nI y') (q_is (tb bits ((q_iz (mf 18) x.toInt y.toInt x' y').toNat / sc) = true)) else none).getD (q_at f x' y') := by
  obtain ⟨I, hI⟩ : ∃ I, I = q_iz (mf 18) x.toInt y.toInt x' y' := ⟨_, rfl⟩
  obtain ⟨J, hJ⟩ : ∃ J, J = q_jz (mf 18) x.toInt y.toInt x' y' := ⟨_, rfl⟩
  have hb : ∀ k i, k < n → i < sc → sc * k + i ≤ 10000 := fun k i hk hi => by
    have : sc * k ≤ 8 * 64 := Nat.mul_le_mul hs.2 (by omega)
    omega
  have h0 : ∀ (F : Nat → Int64) (k i : Nat), k < n → i < sc → q_at (q_mi (fun F j => q_pt mf F (q_lx (mf 18) x (nI (sc * k + i)) (nI j)) (q_lyy (mf 18) y (nI (sc * k + i)) (nI j)) (q_is (tb bits k = true))) F sc) x' y' = (q_lt (fun j => if ((sc * k + i : Nat) : Int) = I ∧ (j : Int) = J then q_pc mf (nI x') (nI y') (q_is (tb bits k = true)) else none) sc).getD (q_at F x' y') := fun F k i hk hi => by
    rw [hI, hJ]
    exact mi_at2 (V := fun F => q_at F x' y') F sc (fun F j hj => lay_at hW hm hx hy (hb k i hk hi) (by omega) F _ hx')
  have h1 : ∀ (F : Nat → Int64) (k : Nat), k < n → q_at (q_mi (fun F i => q_mi (fun F j => q_pt mf F (q_lx (mf 18) x (nI (sc * k + i)) (nI j)) (q_lyy (mf 18) y (nI (sc * k + i)) (nI j)) (q_is (tb bits k = true))) F sc) F sc) x' y' = (q_lt (fun i => q_lt (fun j => if ((sc * k + i : Nat) : Int) = I ∧ (j : Int) = J then q_pc mf (nI x') (nI y') (q_is (tb bits k = true)) else none) sc) sc).getD (q_at F x' y') := fun F k hk =>
    mi_at2 (V := fun F => q_at F x' y') F sc (fun F i hi => h0 F k i hk hi)
  have h2 := mi_at2 (V := fun F => q_at F x' y') f n h1
  unfold q_rw
  refine h2.trans ?_
  rw [← hI, ← hJ]
  congr 1
  by_cases h : 0 ≤ I ∧ I < ((sc * n : Nat) : Int) ∧ 0 ≤ J ∧ J < sc
  · obtain ⟨a, ha⟩ : ∃ a : Nat, (a : Int) = I := ⟨I.toNat, by omega⟩
    have hd : sc * (a / sc) + a % sc = a := Nat.div_add_mod a sc
    have hml : a % sc < sc := Nat.mod_lt _ (by omega)
    have hal : a < sc * n := by omega
    have hkn : a / sc < n := Nat.div_lt_of_lt_mul hal
    have hut : ∀ k i, i < sc → sc * k + i = a → k = a / sc ∧ i = a % sc := fun k i hi hq => by
      subst hq
      rw [Nat.mul_add_div (by omega), Nat.div_eq_of_lt hi, Nat.mul_add_mod, Nat.mod_eq_of_lt hi]
      omega
    have e1 : q_lt (fun k => q_lt (fun i => q_lt (fun j => if ((sc * k + i : Nat) : Int) = I ∧ (j : Int) = J then q_pc mf (nI x') (nI y') (q_is (tb bits k = true)) else none) sc) sc) n = q_pc mf (nI x') (nI y') (q_is (tb bits (a / sc) = true)) := by
      rw [lt_one (i := a / sc) n hkn (fun k hk hkn => lt_none sc (fun i hi => lt_none sc (fun j hj => if_neg (fun q => hkn (hut k i hi (by omega)).1)))), lt_one (i := a % sc) sc hml (fun i hi hin => lt_none sc (fun j hj => if_neg (fun q => hin (hut (a / sc) i hi (by omega)).2))), lt_one (i := J.toNat) sc (by omega) (fun j hj hjn => if_neg (by omega)), if_pos (by omega)]
    rw [e1, if_pos (by exact_mod_cast h), ← ha]
    rfl
  · rw [if_neg (by exact_mod_cast h)]
    refine lt_none n (fun k hk => lt_none sc (fun i hi => lt_none sc (fun j hj => if_neg (fun q => h ?_))))
    have : sc * k + i < sc * n := by
      have : sc * (k + 1) ≤ sc * n := Nat.mul_le_mul_left _ (by omega)
      rw [Nat.mul_add] at this
      omega
    omega
