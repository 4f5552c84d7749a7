theorem r0_pd {n : Nat} (hn : 1 ≤ n ∧ n ≤ 64) (bits : Int64) {i : Nat} (hi : i < n) : pd (q_r0 n bits) (pw n) i 0 = tb bits i := by
  have hp : pw n = 1 := by unfold pw; omega
  have hz : (0 : Int32) = nI 0 := rfl
  have h1 : q_sw (nI 1) (nI 1) (fun _ => 0) 0 0 (bits &&& q_fd (nI n)) = vp_updL (fun _ => 0) 0 (bits &&& q_fd (nI n)) := sw_in (wd := 1) (d := 1) (by decide) (by decide) (fun _ => 0) (j := 0) (k := 0) (by decide) (by decide) _
  unfold q_r0
  rw [hp, h1, sw_out (wd := 1) (d := 1) (by decide) (by decide) _ _ (by rw [z_1, z_0]; omega)]
  unfold pd vp_updL
  rw [if_pos (by omega), Nat.mod_eq_of_lt (by omega), tb_and, tb_fd _ (by omega), z_nI (by omega), decide_eq_true (by omega), Bool.and_true]
theorem rev_div {n sc I : Nat} (hs : 1 ≤ sc) (hI : I < n * sc) : (n * sc - 1 - I) / sc = n - 1 - I / sc ∧ I / sc < n := by
  have hq : I / sc < n := Nat.div_lt_of_lt_mul (by rw [Nat.mul_comm]; exact hI)
  refine ⟨?_, hq⟩
  obtain ⟨m, hm⟩ : ∃ m, n = I / sc + 1 + m := ⟨n - 1 - I / sc, by omega⟩
  have h1 := Nat.div_add_mod I sc
  have h2 : I % sc < sc := Nat.mod_lt _ (by omega)
  have h3 : n * sc = sc * (I / sc) + sc + sc * m := by rw [hm, Nat.add_mul, Nat.add_mul, Nat.one_mul, Nat.mul_comm (I / sc), Nat.mul_comm m]; 
  have h4 : n * sc - 1 - I = sc * m + (sc - 1 - I % sc) := by omega
  rw [h4, Nat.mul_add_div (by omega), Nat.div_eq_of_lt (by omega)]
  omega
/-- a row's dots -/
theorem row_s2 {k n sc : Nat} (hk : k < 4) (hn : 1 ≤ n ∧ n ≤ 64) (hsc : 1 ≤ sc ∧ sc ≤ 8) (bits : Int64) {px py : Int32} (hx : -10000 ≤ px.toInt ∧ px.toInt ≤ 10000) (hy : -10000 ≤ py.toInt ∧ py.toInt ≤ 10000) {N : Nat} {w' : Int32} {x y : Nat} (hx' : x < 5120) (hy' : y < 5100) {lf tp : Int32} (hlf : lf = q_le (nI k) px (q_ra (nI k) (nI (n * sc)) (nI sc))) (htp : tp = q_ty (nI k) py (q_rd (nI k) (nI (n * sc)) (nI sc)))
    (hreg : 0 ≤ q_iz (nI k) px.toInt py.toInt x y ∧ q_iz (nI k) px.toInt py.toInt x y < ((n * sc : Nat) : Int) ∧ 0 ≤ q_jz (nI k) px.toInt py.toInt x y ∧ q_jz (nI k) px.toInt py.toInt x y < sc) : q_s2 (some (w', nI (rw_d k n), nI sc, nI (pw (rw_w k n * sc)), N, q_eF (rw_w k n) (rw_d k n) sc (rw_f k n bits))) lf tp x y = tb bits ((q_iz (nI k) px.toInt py.toInt x y).toNat / sc) := by
  have hns : n * sc ≤ 512 := Nat.mul_le_mul hn.2 hsc.2
  have hns1 : 1 ≤ n * sc := Nat.mul_pos hn.1 hsc.1
  obtain ⟨⟨b1, b2, -, -⟩, -, hm⟩ := reg_iff hk (w := n * sc) (d := sc) (by omega) (by omega) hx hy x y
  replace hm := hm hreg
  rw [← hlf, ← htp] at hm
  rw [← hlf] at b1
  rw [← htp] at b2
  obtain ⟨I, hI⟩ : ∃ I : Nat, (I : Int) = q_iz (nI k) px.toInt py.toInt x y := ⟨_, Int.toNat_of_nonneg hreg.1⟩
  obtain ⟨J, hJ⟩ : ∃ J : Nat, (J : Int) = q_jz (nI k) px.toInt py.toInt x y := ⟨_, Int.toNat_of_nonneg hreg.2.2.1⟩
  rw [← hI, ← hJ] at hreg hm
  rw [← hI, Int.toNat_natCast]
  have hI1 : I < n * sc := by omega
  have hJ1 : J < sc := by omega
  obtain ⟨hr, hq⟩ := rev_div hsc.1 hI1
  obtain ⟨M, hM⟩ : ∃ M, M = n * sc := ⟨_, rfl⟩
  obtain ⟨Q, hQ⟩ : ∃ Q, Q = I / sc := ⟨_, rfl⟩
  rw [← hQ] at hr hq ⊢
  rw [← hM] at hm hr hI1 hns hns1
  rcases hm with ⟨rfl, e1, e2⟩ | ⟨rfl, e1, e2⟩ | ⟨rfl, e1, e2⟩ | ⟨rfl, e1, e2⟩
  · have t1 : rw_w 0 n = n := rfl
    have t2 : rw_d 0 n = 1 := rfl
    have t3 : rw_f 0 n bits = q_r0 n bits := rfl
    rw [t1, t2, t3, s2_pd (i := I) (j := J) (by omega) (pw_1024 (by omega)) hsc _ b1 b2 hx' hy' e1 e2 (pw_i (by omega)) (by rw [Nat.div_eq_of_lt hJ1]; omega), Nat.div_eq_of_lt hJ1, eF_pd (by omega) hsc.1 (by omega) _ (by omega) (by omega), ← hQ, r0_pd hn bits hq]
  · have t1 : rw_w 1 n = 1 := rfl
    have t2 : rw_d 1 n = n := rfl
    have t3 : rw_f 1 n bits = q_tF (nI 1) n 1 (q_r0 n bits) := rfl
    rw [t1, t2, t3, s2_pd (i := J) (j := M - 1 - I) (by omega) (pw_1024 (by omega)) hsc _ b1 b2 hx' hy' e1 (by omega) (pw_i (by omega)) (by rw [hr]; omega), hr, eF_pd (by omega) hsc.1 (by omega) _ (by omega) (by omega), Nat.div_eq_of_lt hJ1, tF_1 (by omega) (by omega) _ (by omega) (by omega), r0_pd hn bits (by omega)]
    congr 1
    omega
  · have t1 : rw_w 2 n = n := rfl
    have t2 : rw_d 2 n = 1 := rfl
    have t3 : rw_f 2 n bits = q_tF (nI 2) n 1 (q_r0 n bits) := rfl
    have hj0 : (sc - 1 - J) / sc = 0 := Nat.div_eq_of_lt (by omega)
    rw [t1, t2, t3, s2_pd (i := M - 1 - I) (j := sc - 1 - J) (by omega) (pw_1024 (by omega)) hsc _ b1 b2 hx' hy' (by omega) (by omega) (pw_i (by omega)) (by rw [hj0]; omega), hj0, eF_pd (by omega) hsc.1 (by omega) _ (by omega) (by omega), hr, tF_2 (by omega) (by omega) _ (by omega) (by omega)]
    show pd (q_r0 n bits) (pw n) (n - 1 - (n - 1 - Q)) 0 = _
    rw [r0_pd hn bits (by omega)]
    congr 1
    omega
  · have t1 : rw_w 3 n = 1 := rfl
    have t2 : rw_d 3 n = n := rfl
    have t3 : rw_f 3 n bits = q_tF (nI 3) n 1 (q_r0 n bits) := rfl
    have hi0 : (sc - 1 - J) / sc = 0 := Nat.div_eq_of_lt (by omega)
    rw [t1, t2, t3, s2_pd (i := sc - 1 - J) (j := I) (by omega) (pw_1024 (by omega)) hsc _ b1 b2 hx' hy' (by omega) e2 (pw_i (by omega)) (by rw [← hQ]; exact hq), ← hQ, eF_pd (by omega) hsc.1 (by omega) _ (by omega) hq, hi0, tF_3 (by omega) (by omega) _ (by omega) hq]
    show pd (q_r0 n bits) (pw n) Q 0 = _
    rw [r0_pd hn bits hq]
