/-! A mark's dots are the dots that the model paints. -/
theorem tb_bw {x0 x1 : Int32} (h0 : -100000 ≤ x0.toInt ∧ x0.toInt ≤ 100000) (h1 : -100000 ≤ x1.toInt ∧ x1.toInt ≤ 100000) {k p : Nat} (hk : k < 80) (hp : p < 64) : tb (q_bw x0 x1 (nI k)) p = decide (x0.toInt ≤ (64 * k + p : Nat) ∧ ((64 * k + p : Nat) : Int) ≤ x1.toInt) := by
  have hkz : (nI k * 64).toInt = ((64 * k : Nat) : Int) := by rw [z_mul (by rw [z_nI (by omega), z_64]; omega) (by rw [z_nI (by omega), z_64]; omega), z_nI (by omega), z_64]; omega
  have e1 : (x1 + 1).toInt = x1.toInt + 1 := by rw [z_add (by rw [z_1]; omega) (by rw [z_1]; omega), z_1]
  have e2 : (x1 + 1 - nI k * 64).toInt = x1.toInt + 1 - (64 * k : Nat) := by rw [z_sub (by rw [e1, hkz]; omega) (by rw [e1, hkz]; omega), e1, hkz]
  have e3 : (x0 - nI k * 64).toInt = x0.toInt - (64 * k : Nat) := by rw [z_sub (by rw [hkz]; omega) (by rw [hkz]; omega), hkz]
  unfold q_bw
  rw [tb_and, tb_not _ hp, tb_fd _ hp, tb_fd _ hp, e2, e3, ← decide_not, ← Bool.decide_and]
  exact decide_eq_decide.mpr (by omega)
def q_E (bx : Int32 × Int32 × Int32 × Int32) (lf tp : Int32) (fi : Nat → Int64) (pi : Option pI) (so io : Int32) (x y : Nat) : Option Bool := if decide (bx.2.1 ≤ nI y ∧ nI y ≤ bx.2.2.2) = true then q_ef (q_bw bx.1 bx.2.2.1 (nI (x / 64)), pi.map (fun p => q_df (q_wa p.2.1 p.2.2.2.1 p.2.2.2.2.2 (q_ln p.2.2.1 (nI y - tp))) (q_fdiv (nI (x / 64) * 64 - lf) 64) (q_fmod (nI (x / 64) * 64 - lf) 64)), fi (nI y &&& 15).toNatClampNeg, so, io) (x % 64) else none
def q_s2 (pi : Option pI) (lf tp : Int32) (x y : Nat) : Bool := q_sb2 (pi.map (fun p => q_df (q_wa p.2.1 p.2.2.2.1 p.2.2.2.2.2 (q_ln p.2.2.1 (nI y - tp))) (q_fdiv (nI (x / 64) * 64 - lf) 64) (q_fmod (nI (x / 64) * 64 - lf) 64))) (x % 64)
def q_small (bx : Int32 × Int32 × Int32 × Int32) : Prop := (-100000 ≤ bx.1.toInt ∧ bx.1.toInt ≤ 100000) ∧ (-100000 ≤ bx.2.2.1.toInt ∧ bx.2.2.1.toInt ≤ 100000)
theorem E_ke {bx : Int32 × Int32 × Int32 × Int32} (hb : q_small bx) (lf tp : Int32) (fi : Nat → Int64) (pi : Option pI) (so io : Int32) {x y : Nat} (hx : x < 5120) (hy : y < 5100) : q_E bx lf tp fi pi so io x y = q_ke (decide ((bx.1.toInt ≤ x ∧ (x : Int) ≤ bx.2.2.1.toInt) ∧ bx.2.1.toInt ≤ y ∧ (y : Int) ≤ bx.2.2.2.toInt)) (q_s2 pi lf tp x y) (tb (fi (nI y &&& 15).toNatClampNeg) (x % 64)) so io := by
  have hy1 : (bx.2.1 ≤ nI y ∧ nI y ≤ bx.2.2.2) ↔ (bx.2.1.toInt ≤ y ∧ (y : Int) ≤ bx.2.2.2.toInt) := by rw [z_le, z_le, z_nI (by omega)]
  have hx1 := tb_bw hb.1 hb.2 (k := x / 64) (p := x % 64) (by omega) (by omega)
  rw [Nat.div_add_mod] at hx1
  unfold q_E
  by_cases h : bx.2.1.toInt ≤ y ∧ (y : Int) ≤ bx.2.2.2.toInt
  · rw [if_pos (decide_eq_true (hy1.mpr h))]
    show q_ke (tb (q_bw bx.1 bx.2.2.1 (nI (x / 64))) (x % 64)) _ _ so io = _
    rw [hx1]
    congr 1
    exact decide_eq_decide.mpr ⟨fun q => ⟨q, h⟩, fun q => q.1⟩
  · rw [if_neg (by rw [decide_eq_false (fun q => h (hy1.mp q))]; exact Bool.false_ne_true), decide_eq_false (fun q => h q.2)]
    rfl
theorem ke_and (a b s i : Bool) (so io : Int32) : q_ke (a && b) s i so io = if a = true then q_ke b s i so io else none := by cases a <;> rfl
/-- the clip's box, cut to the sheet, and the model's clip -/
def q_clr (mf : Nat → Int32) (W H : Nat) (c : Int32 × Int32 × Int32 × Int32) : Prop := c.1.toInt = max (mf 19).toInt 0 ∧ c.2.1.toInt = max (mf 20).toInt 0 ∧ c.2.2.1.toInt = min (mf 21).toInt (W - 1) ∧ c.2.2.2.toInt = min (mf 22).toInt (H - 1)
theorem mark_E {mf : Nat → Int32} {W H : Nat} (hW : W ≤ 5100) (hH : H ≤ 5100) (h1 : mf 1 = nI W) (h2 : mf 2 = nI H) {c : Int32 × Int32 × Int32 × Int32} (hc : q_clr mf W H c) {lf tp ra rd : Int32} (hl : -30000 ≤ lf.toInt ∧ lf.toInt ≤ 30000) (ht : -30000 ≤ tp.toInt ∧ tp.toInt ≤ 30000) (hra : 0 ≤ ra.toInt ∧ ra.toInt ≤ 30000) (hrd : 0 ≤ rd.toInt ∧ rd.toInt ≤ 30000) {fi : Nat → Int64} {pi : Option pI} {x y : Nat} (hx : x < 5120) (hy : y < H) (s : Int32) (hi : tb (fi (nI y &&& 15).toNatClampNeg) (x % 64) = decide (q_ik (mf 14) (mf 15) (nI x) (nI y))) (hs : (lf.toInt ≤ x ∧ (x : Int) ≤ lf.toInt + ra.toInt) ∧ tp.toInt ≤ y ∧ (y : Int) ≤ tp.toInt + rd.toInt → q_s2 pi lf tp x y = decide (¬ s = 0)) :
    ((∃ r : Int32 × Int32 × Int32 × Int32, r = (q_max lf c.1, q_max tp c.2.1, q_min (lf + ra) c.2.2.1, q_min (tp + rd) c.2.2.2) ∧ (r.2.2.1 < r.1 ∨ r.2.2.2 < r.2.1)) → (if (lf.toInt ≤ x ∧ (x : Int) ≤ lf.toInt + ra.toInt) ∧ tp.toInt ≤ y ∧ (y : Int) ≤ tp.toInt + rd.toInt then q_pc mf (nI x) (nI y) s else none) = none) ∧ ((¬ q_min (lf + ra) c.2.2.1 < q_max lf c.1) → q_E (q_max lf c.1, q_max tp c.2.1, q_min (lf + ra) c.2.2.1, q_min (tp + rd) c.2.2.2) lf tp fi pi (mf 16) (mf 17) x y = if (lf.toInt ≤ x ∧ (x : Int) ≤ lf.toInt + ra.toInt) ∧ tp.toInt ≤ y ∧ (y : Int) ≤ tp.toInt + rd.toInt then q_pc mf (nI x) (nI y) s else none) := by
  obtain ⟨k0, k1, k2, k3⟩ := hc
  have e1 : (lf + ra).toInt = lf.toInt + ra.toInt := z_add (by omega) (by omega)
  have e2 : (tp + rd).toInt = tp.toInt + rd.toInt := z_add (by omega) (by omega)
  have m0 : (q_max lf c.1).toInt = max lf.toInt c.1.toInt := q_max_z _ _
  have m1 : (q_max tp c.2.1).toInt = max tp.toInt c.2.1.toInt := q_max_z _ _
  have m2 : (q_min (lf + ra) c.2.2.1).toInt = min (lf.toInt + ra.toInt) c.2.2.1.toInt := by rw [q_min_z, e1]
  have m3 : (q_min (tp + rd) c.2.2.2).toInt = min (tp.toInt + rd.toInt) c.2.2.2.toInt := by rw [q_min_z, e2]
  have hp : q_pin mf (nI x) (nI y) ↔ ((x : Int) < W ∧ (y : Int) < H) ∧ ((mf 19).toInt ≤ x ∧ (x : Int) ≤ (mf 21).toInt) ∧ (mf 20).toInt ≤ y ∧ (y : Int) ≤ (mf 22).toInt := by
    unfold q_pin
    rw [h1, h2]
    simp only [z_le, z_lt, z_0]
    rw [z_nI (by omega), z_nI (by omega), z_nI (by omega), z_nI (by omega)]
    omega
  constructor
  · rintro ⟨r, rfl, hr⟩
    simp only [z_lt] at hr
    rw [m0, m1, m2, m3] at hr
    split
    · rename_i hreg
      rw [pc_ke, decide_eq_false (fun q => ?_)]
      · rfl
      · have := hp.mp q
        omega
    · rfl
  · intro hne
    rw [z_lt, m0, m2] at hne
    have hsm : q_small (q_max lf c.1, q_max tp c.2.1, q_min (lf + ra) c.2.2.1, q_min (tp + rd) c.2.2.2) := by
      unfold q_small
      rw [m0, m2]
      omega
    rw [E_ke hsm lf tp fi pi (mf 16) (mf 17) hx (by omega)]
    have hin : decide (((q_max lf c.1).toInt ≤ x ∧ (x : Int) ≤ (q_min (lf + ra) c.2.2.1).toInt) ∧ (q_max tp c.2.1).toInt ≤ y ∧ (y : Int) ≤ (q_min (tp + rd) c.2.2.2).toInt) = (decide ((lf.toInt ≤ x ∧ (x : Int) ≤ lf.toInt + ra.toInt) ∧ tp.toInt ≤ y ∧ (y : Int) ≤ tp.toInt + rd.toInt) && decide (q_pin mf (nI x) (nI y))) := by
      rw [← Bool.decide_and]
      apply decide_eq_decide.mpr
      rw [hp, m0, m1, m2, m3]
      omega
    show q_ke (decide (((q_max lf c.1).toInt ≤ x ∧ (x : Int) ≤ (q_min (lf + ra) c.2.2.1).toInt) ∧ (q_max tp c.2.1).toInt ≤ y ∧ (y : Int) ≤ (q_min (tp + rd) c.2.2.2).toInt)) _ _ _ _ = _
    rw [hin, ke_and, hi]
    by_cases hreg : (lf.toInt ≤ x ∧ (x : Int) ≤ lf.toInt + ra.toInt) ∧ tp.toInt ≤ y ∧ (y : Int) ≤ tp.toInt + rd.toInt
    · rw [if_pos (decide_eq_true hreg), if_pos hreg, pc_ke, hs hreg]
    · rw [if_neg (by rw [decide_eq_false hreg]; exact Bool.false_ne_true), if_neg hreg]
/-- where the whole of what is laid lies -/
theorem reg_iff {k w d : Nat} (hk : k < 4) (hw : 1 ≤ w ∧ w ≤ 10000) (hd : 1 ≤ d ∧ d ≤ 10000) {px py : Int32} (hx : -10000 ≤ px.toInt ∧ px.toInt ≤ 10000) (hy : -10000 ≤ py.toInt ∧ py.toInt ≤ 10000) (X Y : Int) :
    ((-30000 ≤ (q_le (nI k) px (q_ra (nI k) (nI w) (nI d))).toInt ∧ (q_le (nI k) px (q_ra (nI k) (nI w) (nI d))).toInt ≤ 30000) ∧ (-30000 ≤ (q_ty (nI k) py (q_rd (nI k) (nI w) (nI d))).toInt ∧ (q_ty (nI k) py (q_rd (nI k) (nI w) (nI d))).toInt ≤ 30000) ∧ (q_ra (nI k) (nI w) (nI d)).toInt = ((q_tw k w d : Nat) : Int) - 1 ∧ (q_rd (nI k) (nI w) (nI d)).toInt = ((q_tw k d w : Nat) : Int) - 1) ∧
    (((q_le (nI k) px (q_ra (nI k) (nI w) (nI d))).toInt ≤ X ∧ X ≤ (q_le (nI k) px (q_ra (nI k) (nI w) (nI d))).toInt + (q_ra (nI k) (nI w) (nI d)).toInt) ∧ (q_ty (nI k) py (q_rd (nI k) (nI w) (nI d))).toInt ≤ Y ∧ Y ≤ (q_ty (nI k) py (q_rd (nI k) (nI w) (nI d))).toInt + (q_rd (nI k) (nI w) (nI d)).toInt ↔ 0 ≤ q_iz (nI k) px.toInt py.toInt X Y ∧ q_iz (nI k) px.toInt py.toInt X Y < w ∧ 0 ≤ q_jz (nI k) px.toInt py.toInt X Y ∧ q_jz (nI k) px.toInt py.toInt X Y < d) ∧
    (0 ≤ q_iz (nI k) px.toInt py.toInt X Y ∧ q_iz (nI k) px.toInt py.toInt X Y < w ∧ 0 ≤ q_jz (nI k) px.toInt py.toInt X Y ∧ q_jz (nI k) px.toInt py.toInt X Y < d → ((k = 0 ∧ X - (q_le (nI k) px (q_ra (nI k) (nI w) (nI d))).toInt = q_iz (nI k) px.toInt py.toInt X Y ∧ Y - (q_ty (nI k) py (q_rd (nI k) (nI w) (nI d))).toInt = q_jz (nI k) px.toInt py.toInt X Y) ∨ (k = 1 ∧ X - (q_le (nI k) px (q_ra (nI k) (nI w) (nI d))).toInt = q_jz (nI k) px.toInt py.toInt X Y ∧ Y - (q_ty (nI k) py (q_rd (nI k) (nI w) (nI d))).toInt = w - 1 - q_iz (nI k) px.toInt py.toInt X Y) ∨ (k = 2 ∧ X - (q_le (nI k) px (q_ra (nI k) (nI w) (nI d))).toInt = w - 1 - q_iz (nI k) px.toInt py.toInt X Y ∧ Y - (q_ty (nI k) py (q_rd (nI k) (nI w) (nI d))).toInt = d - 1 - q_jz (nI k) px.toInt py.toInt X Y) ∨ (k = 3 ∧ X - (q_le (nI k) px (q_ra (nI k) (nI w) (nI d))).toInt = d - 1 - q_jz (nI k) px.toInt py.toInt X Y ∧ Y - (q_ty (nI k) py (q_rd (nI k) (nI w) (nI d))).toInt = q_iz (nI k) px.toInt py.toInt X Y))) := by
  have ew : (nI w).toInt = w := z_nI (by omega)
  have ed : (nI d).toInt = d := z_nI (by omega)
  have w1 : (nI w - 1).toInt = w - 1 := by rw [z_sub (by rw [ew, z_1]; omega) (by rw [ew, z_1]; omega), ew, z_1]
  have d1 : (nI d - 1).toInt = d - 1 := by rw [z_sub (by rw [ed, z_1]; omega) (by rw [ed, z_1]; omega), ed, z_1]
  have xw : (px - (nI w - 1)).toInt = px.toInt - (w - 1) := by rw [z_sub (by rw [w1]; omega) (by rw [w1]; omega), w1]
  have xd : (px - (nI d - 1)).toInt = px.toInt - (d - 1) := by rw [z_sub (by rw [d1]; omega) (by rw [d1]; omega), d1]
  have yw : (py - (nI w - 1)).toInt = py.toInt - (w - 1) := by rw [z_sub (by rw [w1]; omega) (by rw [w1]; omega), w1]
  have yd : (py - (nI d - 1)).toInt = py.toInt - (d - 1) := by rw [z_sub (by rw [d1]; omega) (by rw [d1]; omega), d1]
  rcases (by omega : k = 0 ∨ k = 1 ∨ k = 2 ∨ k = 3) with h | h | h | h <;> subst h
  · have a1 : q_ra (nI 0) (nI w) (nI d) = nI w - 1 := rfl
    have a2 : q_rd (nI 0) (nI w) (nI d) = nI d - 1 := rfl
    have a3 : q_le (nI 0) px (nI w - 1) = px := rfl
    have a4 : q_ty (nI 0) py (nI d - 1) = py := rfl
    have a5 : q_iz (nI 0) px.toInt py.toInt X Y = X - px.toInt := rfl
    have a6 : q_jz (nI 0) px.toInt py.toInt X Y = Y - py.toInt := rfl
    have a7 : q_tw 0 w d = w := rfl
    have a8 : q_tw 0 d w = d := rfl
    rw [a1, a2, a3, a4, a5, a6, a7, a8, w1, d1]
    omega
  · have a1 : q_ra (nI 1) (nI w) (nI d) = nI d - 1 := rfl
    have a2 : q_rd (nI 1) (nI w) (nI d) = nI w - 1 := rfl
    have a3 : q_le (nI 1) px (nI d - 1) = px := rfl
    have a4 : q_ty (nI 1) py (nI w - 1) = py - (nI w - 1) := rfl
    have a5 : q_iz (nI 1) px.toInt py.toInt X Y = py.toInt - Y := rfl
    have a6 : q_jz (nI 1) px.toInt py.toInt X Y = X - px.toInt := rfl
    have a7 : q_tw 1 w d = d := rfl
    have a8 : q_tw 1 d w = w := rfl
    rw [a1, a2, a3, a4, a5, a6, a7, a8, w1, d1, yw]
    omega
  · have a1 : q_ra (nI 2) (nI w) (nI d) = nI w - 1 := rfl
    have a2 : q_rd (nI 2) (nI w) (nI d) = nI d - 1 := rfl
    have a3 : q_le (nI 2) px (nI w - 1) = px - (nI w - 1) := rfl
    have a4 : q_ty (nI 2) py (nI d - 1) = py - (nI d - 1) := rfl
    have a5 : q_iz (nI 2) px.toInt py.toInt X Y = px.toInt - X := rfl
    have a6 : q_jz (nI 2) px.toInt py.toInt X Y = py.toInt - Y := rfl
    have a7 : q_tw 2 w d = w := rfl
    have a8 : q_tw 2 d w = d := rfl
    rw [a1, a2, a3, a4, a5, a6, a7, a8, w1, d1, xw, yd]
    omega
  · have a1 : q_ra (nI 3) (nI w) (nI d) = nI d - 1 := rfl
    have a2 : q_rd (nI 3) (nI w) (nI d) = nI w - 1 := rfl
    have a3 : q_le (nI 3) px (nI d - 1) = px - (nI d - 1) := rfl
    have a4 : q_ty (nI 3) py (nI w - 1) = py := rfl
    have a5 : q_iz (nI 3) px.toInt py.toInt X Y = Y - py.toInt := rfl
    have a6 : q_jz (nI 3) px.toInt py.toInt X Y = px.toInt - X := rfl
    have a7 : q_tw 3 w d = d := rfl
    have a8 : q_tw 3 d w = w := rfl
    rw [a1, a2, a3, a4, a5, a6, a7, a8, w1, d1, xd]
    omega
theorem s2_pd {w' : Int32} {n d2 wd2 t : Nat} (hd : d2 ≤ 1024) (hwd : wd2 ≤ 1024) (ht : 1 ≤ t ∧ t ≤ 8) (F : Nat → Int64) {lf tp : Int32} (hl : -30000 ≤ lf.toInt ∧ lf.toInt ≤ 30000) (htp : -30000 ≤ tp.toInt ∧ tp.toInt ≤ 30000) {x y i j : Nat} (hx : x < 5120) (hy : y < 5100) (hi : (x : Int) - lf.toInt = i) (hj : (y : Int) - tp.toInt = j) (hi2 : i / 64 < wd2) (hj2 : j / t < d2) : q_s2 (some (w', nI d2, nI t, nI wd2, n, F)) lf tp x y = pd F wd2 i (j / t) := by
  have hk : (nI (x / 64) * 64).toInt = ((64 * (x / 64) : Nat) : Int) := by rw [z_mul (by rw [z_nI (by omega), z_64]; omega) (by rw [z_nI (by omega), z_64]; omega), z_nI (by omega), z_64]; omega
  have hc : (nI (x / 64) * 64 - lf).toInt = ((64 * (x / 64) : Nat) : Int) - lf.toInt := by rw [z_sub (by rw [hk]; omega) (by rw [hk]; omega), hk]
  have hln0 : nI y - tp = nI j := z_of (by rw [z_sub (by rw [z_nI (by omega)]; omega) (by rw [z_nI (by omega)]; omega), z_nI (by omega)]; exact hj)
  have hln : (q_ln (nI t) (nI y - tp)).toInt = ((j / t : Nat) : Int) := by
    rw [hln0]
    unfold q_ln
    split
    · rename_i h
      rw [z_le, z_nI (by omega), z_1] at h
      have : t = 1 := by omega
      subst this
      rw [Nat.div_one, z_nI (by omega)]
    · rw [pk_div (by omega) (by omega) (by omega), z_nI (Nat.lt_of_le_of_lt (Nat.div_le_self _ _) (by omega))]
  show tb (q_df (q_wa (nI d2) (nI wd2) F (q_ln (nI t) (nI y - tp))) (q_fdiv (nI (x / 64) * 64 - lf) 64) (q_fmod (nI (x / 64) * 64 - lf) 64)) (x % 64) = _
  rw [df_z hwd hd F _ _ (by rw [hc]; omega) (by omega), hln, hc]
  have e : ((64 * (x / 64) : Nat) : Int) - lf.toInt + ((x % 64 : Nat) : Int) = i := by omega
  rw [e]
  clear hln hln0
  generalize j / t = jt at *
  unfold q_pz pd
  rw [decide_eq_true (by omega), Bool.true_and]
  rfl
/-- a stamped shape's dots -/
theorem stamp_s2 {k w d r : Nat} (hk : k < 4) (hw : 1 ≤ w ∧ w ≤ 128) (hd : 1 ≤ d ∧ d ≤ 128) {px py : Int32} (hx : -10000 ≤ px.toInt ∧ px.toInt ≤ 10000) (hy : -10000 ≤ py.toInt ∧ py.toInt ≤ 10000) {ff F ds : Nat → Int64} (hF : F = if k = 0 then ff else q_tF (nI k) w d ff) (hds : ∀ j kk, j < d → kk < pw w → ff (j * pw w + kk) = ds (2 * (r + j) + kk)) {n : Nat} {w' : Int32} {x y : Nat} (hx' : x < 5120) (hy' : y < 5100) {lf tp : Int32} (hlf : lf = q_le (nI k) px (q_ra (nI k) (nI w) (nI d))) (htp : tp = q_ty (nI k) py (q_rd (nI k) (nI w) (nI d)))
    (hreg : 0 ≤ q_iz (nI k) px.toInt py.toInt x y ∧ q_iz (nI k) px.toInt py.toInt x y < w ∧ 0 ≤ q_jz (nI k) px.toInt py.toInt x y ∧ q_jz (nI k) px.toInt py.toInt x y < d) : q_s2 (some (w', nI (q_tw k d w), nI 1, nI (pw (q_tw k w d)), n, F)) lf tp x y = tb (ds (2 * (r + (q_jz (nI k) px.toInt py.toInt x y).toNat) + (q_iz (nI k) px.toInt py.toInt x y).toNat / 64)) ((q_iz (nI k) px.toInt py.toInt x y).toNat % 64) := by
  obtain ⟨⟨b1, b2, -, -⟩, -, hm⟩ := reg_iff hk (w := w) (d := d) (by omega) (by omega) hx hy x y
  have hm := hm hreg
  rw [← hlf, ← htp] at hm
  rw [← hlf] at b1
  rw [← htp] at b2
  obtain ⟨I, hI⟩ : ∃ I : Nat, (I : Int) = q_iz (nI k) px.toInt py.toInt x y := ⟨_, Int.toNat_of_nonneg hreg.1⟩
  obtain ⟨J, hJ⟩ : ∃ J : Nat, (J : Int) = q_jz (nI k) px.toInt py.toInt x y := ⟨_, Int.toNat_of_nonneg hreg.2.2.1⟩
  rw [← hI, ← hJ] at hreg hm ⊢
  rw [Int.toNat_natCast, Int.toNat_natCast]
  have hpd : pd ff (pw w) I J = tb (ds (2 * (r + J) + I / 64)) (I % 64) := by
    unfold pd
    rw [hds J (I / 64) (by omega) (pw_i (by omega))]
  rw [← hpd]
  rcases hm with ⟨rfl, e1, e2⟩ | ⟨rfl, e1, e2⟩ | ⟨rfl, e1, e2⟩ | ⟨rfl, e1, e2⟩
  · rw [if_pos rfl] at hF
    have t1 : q_tw 0 w d = w := rfl
    have t2 : q_tw 0 d w = d := rfl
    rw [t1, t2, s2_pd (i := I) (j := J) (by omega) (pw_1024 (by omega)) (by omega) F b1 b2 hx' hy' e1 e2 (pw_i (by omega)) (by omega), hF, Nat.div_one]
  · rw [if_neg (by decide)] at hF
    have t1 : q_tw 1 w d = d := rfl
    have t2 : q_tw 1 d w = w := rfl
    rw [t1, t2, s2_pd (i := J) (j := w - 1 - I) (by omega) (pw_1024 (by omega)) (by omega) F b1 b2 hx' hy' e1 (by omega) (pw_i (by omega)) (by omega), hF, Nat.div_one, tF_1 (by omega) (by omega) ff (by omega) (by omega)]
    congr 1
    omega
  · rw [if_neg (by decide)] at hF
    have t1 : q_tw 2 w d = w := rfl
    have t2 : q_tw 2 d w = d := rfl
    rw [t1, t2, s2_pd (i := w - 1 - I) (j := d - 1 - J) (by omega) (pw_1024 (by omega)) (by omega) F b1 b2 hx' hy' (by omega) (by omega) (pw_i (by omega)) (by omega), hF, Nat.div_one, tF_2 (by omega) (by omega) ff (by omega) (by omega)]
    congr 1 <;> omega
  · rw [if_neg (by decide)] at hF
    have t1 : q_tw 3 w d = d := rfl
    have t2 : q_tw 3 d w = w := rfl
    rw [t1, t2, s2_pd (i := d - 1 - J) (j := I) (by omega) (pw_1024 (by omega)) (by omega) F b1 b2 hx' hy' (by omega) e2 (pw_i (by omega)) (by omega), hF, Nat.div_one, tF_3 (by omega) (by omega) ff (by omega) (by omega)]
    congr 1
    omega
/-- a rule's dots -/
theorem rng_ex {lo hi : Int32} {W : Nat} (hW : 1 ≤ W ∧ W ≤ 5100) (hlo : -60000 ≤ lo.toInt ∧ lo.toInt ≤ 60000) (hhi : -60000 ≤ hi.toInt ∧ hi.toInt ≤ 60000) : ∃ lu mu : Nat, q_max 0 lo = nI lu ∧ lu + mu ≤ 100000 ∧ (∀ j, j ≤ mu → (q_min (nI W - 1) hi < nI (lu + j) ↔ j = mu)) ∧ ∀ x : Nat, x < W → ((lu ≤ x ∧ x < lu + mu) ↔ (lo.toInt ≤ x ∧ (x : Int) ≤ hi.toInt)) := by
  have hw1 : (nI W - 1).toInt = W - 1 := by rw [z_sub (by rw [z_nI (by omega), z_1]; omega) (by rw [z_nI (by omega), z_1]; omega), z_nI (by omega), z_1]
  have hm : (q_max 0 lo).toInt = max 0 lo.toInt := q_max_z _ _
  have hn : (q_min (nI W - 1) hi).toInt = min ((W : Int) - 1) hi.toInt := by rw [q_min_z, hw1]
  refine ⟨(max 0 lo.toInt).toNat, (min ((W : Int) - 1) hi.toInt + 1 - max 0 lo.toInt).toNat, z_of (by rw [hm]; omega), by omega, fun j hj => ?_, fun x hx => by omega⟩
  rw [z_lt, hn, z_nI (by omega)]
  omega
theorem rul_reg {k w d : Nat} (hk : k < 4) (hw : 1 ≤ w ∧ w ≤ 10000) (hd : 1 ≤ d ∧ d ≤ 10000) {px py : Int32} (hx : -10000 ≤ px.toInt ∧ px.toInt ≤ 10000) (hy : -10000 ≤ py.toInt ∧ py.toInt ≤ 10000) :
    ((q_rl (nI k) px (nI w) (nI d)).toInt = (q_le (nI k) px (q_ra (nI k) (nI w) (nI d))).toInt ∧ (q_rr (nI k) px (nI w) (nI d)).toInt = (q_le (nI k) px (q_ra (nI k) (nI w) (nI d))).toInt + (q_ra (nI k) (nI w) (nI d)).toInt) ∧ ((q_rt (nI k) py (nI w) (nI d)).toInt = (q_ty (nI k) py (q_rd (nI k) (nI w) (nI d))).toInt ∧ (q_rb (nI k) py (nI w) (nI d)).toInt = (q_ty (nI k) py (q_rd (nI k) (nI w) (nI d))).toInt + (q_rd (nI k) (nI w) (nI d)).toInt) := by
  have ew : (nI w).toInt = w := z_nI (by omega)
  have ed : (nI d).toInt = d := z_nI (by omega)
  have w1 : (nI w - 1).toInt = w - 1 := by rw [z_sub (by rw [ew, z_1]; omega) (by rw [ew, z_1]; omega), ew, z_1]
  have d1 : (nI d - 1).toInt = d - 1 := by rw [z_sub (by rw [ed, z_1]; omega) (by rw [ed, z_1]; omega), ed, z_1]
  have s1 : ∀ {p : Int32} {n : Nat}, (-10000 ≤ p.toInt ∧ p.toInt ≤ 10000) → n ≤ 10000 → (p - (nI n - 1)).toInt = p.toInt - (n - 1) ∧ (p - nI n + 1).toInt = p.toInt - (n - 1) ∧ (p + nI n - 1).toInt = p.toInt + n - 1 := fun {p n} hp hn => by
    have en : (nI n).toInt = n := z_nI (by omega)
    have n1 : (nI n - 1).toInt = n - 1 := by rw [z_sub (by rw [en, z_1]; omega) (by rw [en, z_1]; omega), en, z_1]
    have n2 : (p - nI n).toInt = p.toInt - n := by rw [z_sub (by rw [en]; omega) (by rw [en]; omega), en]
    have n3 : (p + nI n).toInt = p.toInt + n := by rw [z_add (by rw [en]; omega) (by rw [en]; omega), en]
    refine ⟨by rw [z_sub (by rw [n1]; omega) (by rw [n1]; omega), n1], by rw [z_add (by rw [n2, z_1]; omega) (by rw [n2, z_1]; omega), n2, z_1]; omega, by rw [z_sub (by rw [n3, z_1]; omega) (by rw [n3, z_1]; omega), n3, z_1]⟩
  obtain ⟨xw1, xw2, xw3⟩ := s1 hx hw.2
  obtain ⟨xd1, xd2, xd3⟩ := s1 hx hd.2
  obtain ⟨yw1, yw2, yw3⟩ := s1 hy hw.2
  obtain ⟨yd1, yd2, yd3⟩ := s1 hy hd.2
  rcases (by omega : k = 0 ∨ k = 1 ∨ k = 2 ∨ k = 3) with h | h | h | h <;> subst h
  · show (px.toInt = px.toInt ∧ (px + nI w - 1).toInt = px.toInt + (nI w - 1).toInt) ∧ py.toInt = py.toInt ∧ (py + nI d - 1).toInt = py.toInt + (nI d - 1).toInt
    rw [xw3, yd3, w1, d1]
    omega
  · show (px.toInt = px.toInt ∧ (px + nI d - 1).toInt = px.toInt + (nI d - 1).toInt) ∧ (py - nI w + 1).toInt = (py - (nI w - 1)).toInt ∧ py.toInt = (py - (nI w - 1)).toInt + (nI w - 1).toInt
    rw [xd3, yw2, yw1, w1, d1]
    omega
  · show ((px - nI w + 1).toInt = (px - (nI w - 1)).toInt ∧ px.toInt = (px - (nI w - 1)).toInt + (nI w - 1).toInt) ∧ (py - nI d + 1).toInt = (py - (nI d - 1)).toInt ∧ py.toInt = (py - (nI d - 1)).toInt + (nI d - 1).toInt
    rw [xw2, xw1, yd2, yd1, w1, d1]
    omega
  · show ((px - nI d + 1).toInt = (px - (nI d - 1)).toInt ∧ px.toInt = (px - (nI d - 1)).toInt + (nI d - 1).toInt) ∧ py.toInt = py.toInt ∧ (py + nI w - 1).toInt = py.toInt + (nI w - 1).toInt
    rw [xd2, xd1, yw3, w1, d1]
    omega
