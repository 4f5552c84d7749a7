/-! Turned and enlarged pictures, dot by dot. -/
theorem bl_pd {wd d : Nat} (hw : wd ≤ 1024) (hd : d ≤ 1024) (f : Nat → Int64) {i j i' j' : Nat} (hi : i / 64 < wd) (hj : j < d) (hi' : i' / 64 < wd) : pd (q_bl (nI d) (nI wd) f (nI i) (nI j)) wd i' j' = (decide (i' = i ∧ j' = j) || pd f wd i' j') := by
  have hi2 : i < 2 ^ 31 := by omega
  unfold q_bl
  rw [div64 hi2, wa_in hw hd f hj hi, sw_in hw hd f hj hi]
  unfold pd vp_updL
  by_cases h : j' * wd + i' / 64 = j * wd + i / 64
  · have hjj : j' = j := by
      have h1 : (j' * wd + i' / 64) / wd = j' := by rw [Nat.mul_comm, Nat.mul_add_div (by omega), Nat.div_eq_of_lt hi', Nat.add_zero]
      have h2 : (j * wd + i / 64) / wd = j := by rw [Nat.mul_comm, Nat.mul_add_div (by omega), Nat.div_eq_of_lt hi, Nat.add_zero]
      rw [← h1, ← h2, h]
    subst hjj
    have hii : i' / 64 = i / 64 := by omega
    rw [if_pos h, h, tb_or, dot_i hi2 (Nat.mod_lt _ (by decide)), Bool.or_comm]
    congr 1
    exact decide_eq_decide.mpr ⟨fun q => ⟨by omega, rfl⟩, fun q => by rw [q.1]⟩
  · rw [if_neg h, decide_eq_false (fun q => h (by rw [q.1, q.2])), Bool.false_or]
/-- one of many -/
def q_an (g : Nat → Bool) : Nat → Bool
  | 0 => false
  | n + 1 => g n || q_an g n
theorem an_none {g : Nat → Bool} : ∀ n, (∀ i, i < n → g i = false) → q_an g n = false
  | 0, _ => rfl
  | n + 1, h => by
    show (g n || q_an g n) = false
    rw [h n (by omega), an_none n (fun i hi => h i (by omega))]
    rfl
theorem an_one {g : Nat → Bool} {i : Nat} : ∀ n, i < n → (∀ j, j < n → j ≠ i → g j = false) → q_an g n = g i
  | 0, hi, _ => absurd hi (by omega)
  | n + 1, hi, h => by
    show (g n || q_an g n) = g i
    by_cases hn : n = i
    · subst hn
      rw [an_none n (fun j hj => h j (by omega) (by omega)), Bool.or_false]
    · rw [h n (by omega) hn, an_one n (by omega) (fun j hj hji => h j (by omega) hji), Bool.false_or]
theorem ti_V {P : Nat → Nat → Bool} {S : (Nat → Int64) → Nat → Nat → Nat → Int64} {T : Nat → Nat → Bool} {V : (Nat → Int64) → Bool} (j : Nat) : ∀ n F, (∀ F i, i < n → V (S F i j) = (T i j || V F)) → V (q_ti P S F j n) = (q_an (fun i => P i j && T i j) n || V F)
  | 0, F, _ => by show V F = (false || V F); rw [Bool.false_or]
  | n + 1, F, h => by
    have ih := ti_V (P := P) (S := S) (T := T) (V := V) j n F (fun F i hi => h F i (by omega))
    show _ = (((P n j && T n j) || q_an (fun i => P i j && T i j) n) || V F)
    by_cases hp : P n j = true
    · rw [q_ti_t hp, h _ _ (by omega), ih, hp, Bool.true_and, Bool.or_assoc]
    · rw [q_ti_f hp, ih, Bool.eq_false_iff.mpr hp, Bool.false_and, Bool.false_or]
theorem to_V {P : Nat → Nat → Bool} {S : (Nat → Int64) → Nat → Nat → Nat → Int64} {T : Nat → Nat → Bool} {V : (Nat → Int64) → Bool} {w : Nat} (h0 : V (fun _ => 0) = false) : ∀ n, (∀ F i j, i < w → j < n → V (S F i j) = (T i j || V F)) → V (q_to P S w n) = q_an (fun j => q_an (fun i => P i j && T i j) w) n
  | 0, _ => h0
  | n + 1, h => by
    show V (q_ti P S (q_to P S w n) n w) = (q_an (fun i => P i n && T i n) w || q_an (fun j => q_an (fun i => P i j && T i j) w) n)
    rw [ti_V n w _ (fun F i hi => h F i n hi (by omega)), to_V h0 n (fun F i j hi hj => h F i j hi (by omega))]
theorem an2_one {P T : Nat → Nat → Bool} {w d i0 j0 : Nat} (hi : i0 < w) (hj : j0 < d) (hT : ∀ i j, i < w → j < d → T i j = decide (i = i0 ∧ j = j0)) : q_an (fun j => q_an (fun i => P i j && T i j) w) d = P i0 j0 := by
  rw [an_one (i := j0) d hj (fun j hjd hjn => an_none w (fun i hiw => by rw [hT i j hiw hjd, decide_eq_false (by omega), Bool.and_false])), an_one (i := i0) w hi (fun i hiw hin => by rw [hT i j0 hiw hj, decide_eq_false (by omega), Bool.and_false]), hT i0 j0 hi hj, decide_eq_true ⟨rfl, rfl⟩, Bool.and_true]
theorem pd_0 (wd i j : Nat) : pd (fun _ => 0) wd i j = false := tb_0 _
theorem pb_pd {wd d : Nat} (hw : wd ≤ 1024) (hd : d ≤ 1024) (f : Nat → Int64) {i j : Nat} (hi : i / 64 < wd) (hj : j < d) : decide (q_pb (nI d) (nI wd) f (nI i) (nI j)) = pd f wd i j := by
  have hi2 : i < 2 ^ 31 := by omega
  unfold q_pb pd
  rw [div64 hi2, wa_in hw hd f hj hi]
  have h := dot_and hi2 (f (j * wd + i / 64))
  by_cases hb : tb (f (j * wd + i / 64)) (i % 64) = true
  · rw [hb, decide_eq_true (h.mpr hb)]
  · rw [Bool.eq_false_iff.mpr hb, decide_eq_false (fun q => hb (h.mp q))]
theorem pw_i {w i : Nat} (h : i < w) : i / 64 < pw w := by unfold pw; omega
theorem pw_1024 {w : Nat} (h : w ≤ 1024) : pw w ≤ 1024 := by unfold pw; omega
theorem nsub1 {a b : Nat} (h : b < a) (ha : a < 2 ^ 31) : nI a - 1 - nI b = nI (a - 1 - b) := by
  have h1 : (nI a - 1).toInt = ((a - 1 : Nat) : Int) := by rw [z_sub (by rw [z_nI (by omega), z_1]; omega) (by rw [z_nI (by omega), z_1]; omega), z_nI (by omega), z_1]; omega
  exact z_of (by rw [z_sub (by rw [h1, z_nI (by omega)]; omega) (by rw [h1, z_nI (by omega)]; omega), h1, z_nI (by omega)]; omega)
theorem tF_1 {w d : Nat} (hw : w ≤ 1024) (hd : d ≤ 1024) (f : Nat → Int64) {i j : Nat} (hi : i < d) (hj : j < w) : pd (q_tF (nI 1) w d f) (pw d) i j = pd f (pw w) (w - 1 - j) i := by
  have e1 : tw (nI 1) w d = d := if_neg (by decide)
  have e2 : tw (nI 1) d w = w := if_neg (by decide)
  unfold q_tF
  rw [e1, e2, to_V (V := fun F => pd F (pw d) i j) (T := fun i2 j2 => decide (i2 = w - 1 - j ∧ j2 = i)) (pd_0 _ _ _) d (fun F i2 j2 hi2 hj2 => ?_), an2_one (i0 := w - 1 - j) (j0 := i) (by omega) hi (fun _ _ _ _ => rfl)]
  · exact pb_pd (pw_1024 hw) hd f (pw_i (by omega)) hi
  · unfold q_tS q_bt
    rw [if_pos (by decide), nsub1 hi2 (by omega), bl_pd (pw_1024 hd) hw F (pw_i hj2) (by omega) (pw_i hi)]
    congr 1
    exact decide_eq_decide.mpr (by omega)
theorem tF_2 {w d : Nat} (hw : w ≤ 1024) (hd : d ≤ 1024) (f : Nat → Int64) {i j : Nat} (hi : i < w) (hj : j < d) : pd (q_tF (nI 2) w d f) (pw w) i j = pd f (pw w) (w - 1 - i) (d - 1 - j) := by
  have e1 : tw (nI 2) w d = w := if_pos rfl
  have e2 : tw (nI 2) d w = d := if_pos rfl
  unfold q_tF
  rw [e1, e2, to_V (V := fun F => pd F (pw w) i j) (T := fun i2 j2 => decide (i2 = w - 1 - i ∧ j2 = d - 1 - j)) (pd_0 _ _ _) d (fun F i2 j2 hi2 hj2 => ?_), an2_one (i0 := w - 1 - i) (j0 := d - 1 - j) (by omega) (by omega) (fun _ _ _ _ => rfl)]
  · exact pb_pd (pw_1024 hw) hd f (pw_i (by omega)) (by omega)
  · unfold q_tS q_bt
    rw [if_neg (by decide), if_pos (by decide), nsub1 hi2 (by omega), nsub1 hj2 (by omega), bl_pd (pw_1024 hw) hd F (pw_i (by omega)) (by omega) (pw_i hi)]
    congr 1
    exact decide_eq_decide.mpr (by omega)
theorem tF_3 {w d : Nat} (hw : w ≤ 1024) (hd : d ≤ 1024) (f : Nat → Int64) {i j : Nat} (hi : i < d) (hj : j < w) : pd (q_tF (nI 3) w d f) (pw d) i j = pd f (pw w) j (d - 1 - i) := by
  have e1 : tw (nI 3) w d = d := if_neg (by decide)
  have e2 : tw (nI 3) d w = w := if_neg (by decide)
  unfold q_tF
  rw [e1, e2, to_V (V := fun F => pd F (pw d) i j) (T := fun i2 j2 => decide (i2 = j ∧ j2 = d - 1 - i)) (pd_0 _ _ _) d (fun F i2 j2 hi2 hj2 => ?_), an2_one (i0 := j) (j0 := d - 1 - i) hj (by omega) (fun _ _ _ _ => rfl)]
  · exact pb_pd (pw_1024 hw) hd f (pw_i hj) (by omega)
  · unfold q_tS q_bt
    rw [if_neg (by decide), if_neg (by decide), nsub1 hj2 (by omega), bl_pd (pw_1024 hd) hw F (pw_i (by omega)) hi2 (pw_i hi)]
    congr 1
    exact decide_eq_decide.mpr (by omega)
theorem eF_pd {w d sc : Nat} (hw : w * sc ≤ 1024) (hs : 1 ≤ sc) (hd : d ≤ 1024) (f : Nat → Int64) {i j : Nat} (hi : i < w * sc) (hj : j < d) : pd (q_eF w d sc f) (pw (w * sc)) i j = pd f (pw w) (i / sc) j := by
  have hw1 : w ≤ 1024 := Nat.le_trans (Nat.le_mul_of_pos_right w hs) hw
  have hq : i / sc < w := Nat.div_lt_of_lt_mul (by rw [Nat.mul_comm]; exact hi)
  unfold q_eF
  rw [to_V (V := fun F => pd F (pw (w * sc)) i j) (T := fun i2 j2 => decide (i2 = i ∧ j2 = j)) (pd_0 _ _ _) d (fun F i2 j2 hi2 hj2 => ?_), an2_one (i0 := i) (j0 := j) hi hj (fun _ _ _ _ => rfl)]
  · exact pb_pd (pw_1024 hw1) hd f (pw_i hq) hj
  · unfold q_eS
    rw [bl_pd (pw_1024 hw) hd F (pw_i hi2) hj2 (pw_i hi)]
    congr 1
    exact decide_eq_decide.mpr (by omega)
/-- a picture's dot as the turn k lays it -/
def q_td2 (k w d : Nat) (f : Nat → Int64) (i j : Nat) : Bool := if k = 0 then pd f (pw w) i j else if k = 1 then pd f (pw w) (w - 1 - j) i else if k = 2 then pd f (pw w) (w - 1 - i) (d - 1 - j) else pd f (pw w) j (d - 1 - i)
def q_tw (k w d : Nat) : Nat := if k = 0 ∨ k = 2 then w else d
theorem tF_td {k w d : Nat} (hk : 1 ≤ k ∧ k < 4) (hw : w ≤ 1024) (hd : d ≤ 1024) (f : Nat → Int64) {i j : Nat} (hi : i < q_tw k w d) (hj : j < q_tw k d w) : pd (q_tF (nI k) w d f) (pw (q_tw k w d)) i j = q_td2 k w d f i j := by
  unfold q_tw q_td2 at *
  rcases (by omega : k = 1 ∨ k = 2 ∨ k = 3) with h | h | h <;> subst h
  · exact tF_1 hw hd f hi hj
  · exact tF_2 hw hd f hi hj
  · exact tF_3 hw hd f hi hj
theorem tw_q {k w d : Nat} (hk : 1 ≤ k ∧ k < 4) : tw (nI k) w d = q_tw k w d := by
  rcases (by omega : k = 1 ∨ k = 2 ∨ k = 3) with h | h | h <;> subst h
  · exact if_neg (by decide)
  · exact if_pos rfl
  · exact if_neg (by decide)
