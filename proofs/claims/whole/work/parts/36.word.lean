/-! A word of a line, under its marks. -/
abbrev wX : Type := Int64 × Option Int64 × Int64 × Int32 × Int32
def q_src (met : Int64) : Option Int64 → Int64
  | none => met
  | some d => d &&& met
def q_op (op met src il : Int64) (so io : Int32) : Int64 := op &&& ((src &&& il) ^^^ (-1)) &&& (if io = 0 then -1 else src ^^^ (-1)) &&& (if so = 0 then -1 else (met &&& (src ^^^ (-1))) ^^^ (-1))
def q_wu (X : Nat → wX) : List Nat → Int64 → Int64 → Int64
  | [], _, bl => bl
  | a :: r, op, bl => if op = 0 then bl else if (X a).1 &&& op = 0 then q_wu X r op bl else q_wu X r (q_op op ((X a).1 &&& op) (q_src ((X a).1 &&& op) (X a).2.1) (X a).2.2.1 (X a).2.2.2.1 (X a).2.2.2.2) (bl ||| (q_src ((X a).1 &&& op) (X a).2.1 &&& (X a).2.2.1))
theorem q_wu_0 (X : Nat → wX) (a : Nat) (r : List Nat) {op : Int64} (bl : Int64) (h : op = 0) : q_wu X (a :: r) op bl = bl := if_pos h
theorem q_wu_n (X : Nat → wX) {a : Nat} (r : List Nat) {op : Int64} (bl : Int64) (h : ¬ op = 0) (h2 : (X a).1 &&& op = 0) : q_wu X (a :: r) op bl = q_wu X r op bl := (if_neg h).trans (if_pos h2)
theorem q_wu_m (X : Nat → wX) {a : Nat} (r : List Nat) {op : Int64} (bl : Int64) (h : ¬ op = 0) (h2 : ¬ (X a).1 &&& op = 0) : q_wu X (a :: r) op bl = q_wu X r (q_op op ((X a).1 &&& op) (q_src ((X a).1 &&& op) (X a).2.1) (X a).2.2.1 (X a).2.2.2.1 (X a).2.2.2.2) (bl ||| (q_src ((X a).1 &&& op) (X a).2.1 &&& (X a).2.2.1)) := (if_neg h).trans (if_neg h2)
/-- what a mark says of the word k of line y -/
def wu_ok (h : hp_T) (c1 : ClassId) (y k : Int32) (a : Nat) (nx : Option Nat) (x : wX) : Prop :=
  ∃ (pc : Option Nat) (lf tp : Int32) (pt ik : Nat) (so io : Int32) (bel : Option Nat) (x0 y0 x1 y1 kd val : Int32) (ib : Nat) (fi : Nat → Int64), h a = some (k_Mk pc lf tp pt ik so io bel nx) ∧ h pt = some (k_Bx x0 y0 x1 y1) ∧ h ik = some (k_In kd val ib) ∧ h ib = some (k_lo c1 16 fi) ∧ x.1 = q_bw x0 x1 k ∧ x.2.2 = (fi (y &&& 15).toNatClampNeg, so, io) ∧
  ((pc = none ∧ x.2.1 = none) ∨ ∃ (q : Nat) (w d tl wd : Int32) (b n : Nat) (f : Nat → Int64), pc = some q ∧ h q = some (k_Pc w d tl wd b) ∧ h b = some (k_lo c1 n f) ∧ (∀ j k : Int32, 0 ≤ j ∧ j < d ∧ 0 ≤ k ∧ k < wd → vp_in (j * wd + k) n) ∧ x.2.1 = some (q_df (q_wa d wd f (q_ln tl (y - tp))) (q_fdiv (k * 64 - lf) 64) (q_fmod (k * 64 - lf) 64)))

set_option maxHeartbeats 4000000 in
set_option maxRecDepth 100000 in
theorem cS_Pl_wordUnder (l : Launch) (dC : Nat → ClassId) (dI : Nat → Nat → Nat) (cA : Nat → ClassId) (A : Nat → Prop) (h : hp_T) (a0 : Nat) (r0 : List Nat) (X : Nat → wX) (y k : Int32) (hF : ∀ (P : List Nat) (a : Nat) (r : List Nat), a0 :: r0 = P ++ a :: r → wu_ok h (cA 1) y k a r.head? (X a)) : Met l y_Pl_wordUnder (.code y_Pl_wordUnder prog_6_method_10_code 15 (some .long) :: BIG) ({ frames := 3, cells := 0, slots := 0, locals := 71 }) (va_Pc [.ref a0, .int y, .int k] (hp_I (gg dC dI cA) A h)) (hp_QR (some (.long (q_wu X (a0 :: r0) (-1) 0)))) 0 0 (fun _ => False) := by
  refine hp_enter (by decide) (Nat.le_of_ble_eq_true rfl) ?_
  intro p e s m below meth c ls S hr hlk hin hI hl
  have hl : lv_has ls 15 [(0, .ref a0), (1, .int y), (2, .int k)] := hl
  have hJ := hI.J
  refine lv_ldc2 (v := (-1)) S.1 S.2.1 S.2.2.2.1 (S.2.2.2.2 _ t_383) d_Pl_wordUnder_0 ?_
  refine lv_lstore_n (lv' := [(3, .long ((-1))), (0, .ref a0), (1, .int y), (2, .int k)]) S.1 S.2.1 d_Pl_wordUnder_3 rfl hl (by decide) rfl (fun ls hl => ?_)
  refine lv_lconst (v := 0) S.1 S.2.1 d_Pl_wordUnder_4 (by decide) ?_
  refine lv_lstore (lv' := [(5, .long 0), (3, .long ((-1))), (0, .ref a0), (1, .int y), (2, .int k)]) S.1 S.2.1 d_Pl_wordUnder_5 hl (by decide) rfl (fun ls hl => ?_)
  refine lv_aload_n S.1 S.2.1 d_Pl_wordUnder_7 rfl (lv_at hl 2 rfl) ?_
  refine lv_astore (lv' := [(7, .ref a0), (5, .long 0), (3, .long ((-1))), (0, .ref a0), (1, .int y), (2, .int k)]) S.1 S.2.1 d_Pl_wordUnder_8 hl (by decide) rfl (fun ls hl => ?_)
  have LP : ∀ (R : List Nat), (∀ (P : List Nat) (a : Nat) (r : List Nat), R = P ++ a :: r → wu_ok h (cA 1) y k a r.head? (X a)) → ∀ (op bl : Int64) (ls : Array Slot), q_wu X R op bl = q_wu X (a0 :: r0) (-1) 0 → lv_has ls 15 [(7, va_rf R.head?), (3, .long op), (5, .long bl), (1, .int y), (2, .int k)] → W p l e ({ frames := 3, cells := 0, slots := 0, locals := 71 }) s m ([.ref a0, .int y, .int k] : List Value).toArray below meth c s.heap [] 0 0 (MQ below (hp_QR (some (.long (q_wu X (a0 :: r0) (-1) 0)))) ([.ref a0, .int y, .int k] : List Value).toArray s 0 0 (fun _ => False)) (F0 m 10 ls []) := by
    intro R
    induction R with
    | nil =>
      intro hF op bl ls hv hl
      replace hl : lv_has ls 15 [(7, .null), (3, .long op), (5, .long bl), (1, .int y), (2, .int k)] := hl
      refine lv_aloadN S.1 S.2.1 d_Pl_wordUnder_10 (lv_at hl 0 rfl) ?_
      refine lv_ifnullN (tgt := 178) S.1 S.2.1 d_Pl_wordUnder_12 (by decide) ?_
      refine lv_lload S.1 S.2.1 d_Pl_wordUnder_178 (lv_at hl 2 rfl) ?_
      exact hp_retRl S hr hlk d_Pl_wordUnder_180 hv
    | cons a r ih =>
      intro hF op bl ls hv hl
      replace hl : lv_has ls 15 [(7, .ref a), (3, .long op), (5, .long bl), (1, .int y), (2, .int k)] := hl
      obtain ⟨pc, lf, tp, pt, ik, so, io, bel, x0, y0, x1, y1, kd, val, ib, fi, h_a, h_pt, h_ik, h_ib, ex1, ex2, hpc⟩ := hF [] a r rfl
      have hF2 : ∀ (P : List Nat) (a : Nat) (r9 : List Nat), r = P ++ a :: r9 → wu_ok h (cA 1) y k a r9.head? (X a) := fun P b r9 q => hF (a :: P) b r9 (by rw [q]; rfl)
      have ex3 : (X a).2.2.1 = fi (y &&& 15).toNatClampNeg := by rw [ex2]
      have ex4 : (X a).2.2.2.1 = so := by rw [ex2]
      have ex5 : (X a).2.2.2.2 = io := by rw [ex2]
      refine lv_aload S.1 S.2.1 d_Pl_wordUnder_10 (lv_at hl 0 rfl) ?_
      refine lv_ifnull S.1 S.2.1 d_Pl_wordUnder_12 ?_
      refine lv_lload_n S.1 S.2.1 d_Pl_wordUnder_15 rfl (lv_at hl 1 rfl) ?_
      refine lv_lconst (v := 0) S.1 S.2.1 d_Pl_wordUnder_16 (by decide) ?_
      refine W.lcmp S.1 S.2.1 d_Pl_wordUnder_17 ?_
      refine lv_if_eq (tgt := 178) S.1 S.2.1 d_Pl_wordUnder_18 (by decide) (fun c_18 => ?_) (fun c_18 => ?_)
      · refine lv_lload S.1 S.2.1 d_Pl_wordUnder_178 (lv_at hl 2 rfl) ?_
        exact hp_retRl S hr hlk d_Pl_wordUnder_180 (by rw [← hv]; exact (q_wu_0 X a r bl ((lg_cmp_0 _).mp c_18)).symm)
      · refine lv_aload S.1 S.2.1 d_Pl_wordUnder_21 (lv_at hl 0 rfl) ?_
        refine hp_get S zz hJ h_a f_Pl_36 rfl d_Pl_wordUnder_23 ?_
        refine lv_iload_n S.1 S.2.1 d_Pl_wordUnder_26 rfl (lv_at hl 4 rfl) ?_
        refine hp_doneR (hp_runV S zz0 (c_Bx_dotsOfWord l dC dI cA A _ pt _ _ _ _ k h_pt) l_Pl_114 (hJ.preV _ h_pt rfl) (by decide) rfl hl.1 rfl (nl rfl) d_Pl_wordUnder_27 (by decide)) ?_
        refine lv_lload_n S.1 S.2.1 d_Pl_wordUnder_30 rfl (lv_at hl 1 rfl) ?_
        refine lv_land S.1 S.2.1 d_Pl_wordUnder_31 ?_
        refine lv_topl (fun met emet => ?_)
        refine lv_lstore (lv' := [(8, .long met), (7, .ref a), (3, .long op), (5, .long bl), (1, .int y), (2, .int k)]) S.1 S.2.1 d_Pl_wordUnder_32 hl (by decide) rfl (fun ls hl => ?_)
        refine lv_lload S.1 S.2.1 d_Pl_wordUnder_34 (lv_at hl 0 rfl) ?_
        refine lv_lconst (v := 0) S.1 S.2.1 d_Pl_wordUnder_36 (by decide) ?_
        refine W.lcmp S.1 S.2.1 d_Pl_wordUnder_37 ?_
        refine lv_if_eq (tgt := 168) S.1 S.2.1 d_Pl_wordUnder_38 (by decide) (fun c_38 => ?_) (fun c_38 => ?_)
        · refine lv_aload S.1 S.2.1 d_Pl_wordUnder_168 (lv_at hl 1 rfl) ?_
          have hv2 : q_wu X r op bl = q_wu X (a0 :: r0) (-1) 0 := by rw [← hv]; exact (q_wu_n X r bl (fun z => c_18 ((lg_cmp_0 _).mpr z)) (by rw [ex1, ← emet]; exact (lg_cmp_0 _).mp c_38)).symm
          generalize hr9 : r.head? = r9 at h_a
          cases r9 with
          | none =>
            refine hp_get S zz hJ h_a f_Pl_100 rfl d_Pl_wordUnder_170 ?_
            refine lv_astoreN (lv' := [(7, .null), (8, .long met), (3, .long op), (5, .long bl), (1, .int y), (2, .int k)]) S.1 S.2.1 d_Pl_wordUnder_173 hl (by decide) rfl (fun ls hl => ?_)
            refine lv_goto (tgt := 10) S.1 S.2.1 d_Pl_wordUnder_175 (by decide) ?_
            exact ih hF2 op bl ls hv2 (by rw [hr9]; exact lv_sub hl [0, 2, 3, 4, 5] rfl)
          | some c0 =>
            refine hp_get S zz hJ h_a f_Pl_100 rfl d_Pl_wordUnder_170 ?_
            refine lv_astore (lv' := [(7, .ref c0), (8, .long met), (3, .long op), (5, .long bl), (1, .int y), (2, .int k)]) S.1 S.2.1 d_Pl_wordUnder_173 hl (by decide) rfl (fun ls hl => ?_)
            refine lv_goto (tgt := 10) S.1 S.2.1 d_Pl_wordUnder_175 (by decide) ?_
            exact ih hF2 op bl ls hv2 (by rw [hr9]; exact lv_sub hl [0, 2, 3, 4, 5] rfl)
        · refine lv_aload S.1 S.2.1 d_Pl_wordUnder_41 (lv_at hl 1 rfl) ?_
          rcases hpc with ⟨rfl, hx9⟩ | ⟨q, w9, d9, tl9, wd9, b9, n9, f9, rfl, h_q, h_b9, hix, hx9⟩
          · refine hp_get S zz hJ h_a f_Pl_70 rfl d_Pl_wordUnder_43 ?_
            refine lv_astoreN (lv' := [(10, .null), (8, .long met), (7, .ref a), (3, .long op), (5, .long bl), (1, .int y), (2, .int k)]) S.1 S.2.1 d_Pl_wordUnder_46 hl (by decide) rfl (fun ls hl => ?_)
            refine lv_aloadN S.1 S.2.1 d_Pl_wordUnder_48 (lv_at hl 0 rfl) ?_
            refine lv_ifnonnullN S.1 S.2.1 d_Pl_wordUnder_50 ?_
            refine lv_lload S.1 S.2.1 d_Pl_wordUnder_53 (lv_at hl 1 rfl) ?_
            refine lv_goto (tgt := 83) S.1 S.2.1 d_Pl_wordUnder_55 (by decide) ?_
            refine lv_topl (fun src esrc => ?_)
            refine lv_lstore (lv' := [(11, .long src), (10, .null), (8, .long met), (7, .ref a), (3, .long op), (5, .long bl), (1, .int y), (2, .int k)]) S.1 S.2.1 d_Pl_wordUnder_83 hl (by decide) rfl (fun ls hl => ?_)
            refine lv_lload S.1 S.2.1 d_Pl_wordUnder_85 (lv_at hl 0 rfl) ?_
            refine lv_aload S.1 S.2.1 d_Pl_wordUnder_87 (lv_at hl 3 rfl) ?_
            refine hp_get S zz hJ h_a f_Pl_130 rfl d_Pl_wordUnder_89 ?_
            refine lv_iload_n S.1 S.2.1 d_Pl_wordUnder_92 rfl (lv_at hl 6 rfl) ?_
            refine hp_doneR (hp_runV S zz0 (c_In_dotsAt l dC dI cA A _ ik ib _ _ fi y h_ik h_ib) l_Pl_134 (hJ.preV _ h_ik rfl) (by decide) rfl hl.1 rfl (nl rfl) d_Pl_wordUnder_93 (by decide)) ?_
            refine lv_land S.1 S.2.1 d_Pl_wordUnder_96 ?_
            refine lv_topl (fun ink1 eink1 => ?_)
            refine lv_lstore (lv' := [(13, .long ink1), (11, .long src), (10, .null), (8, .long met), (7, .ref a), (3, .long op), (5, .long bl), (1, .int y), (2, .int k)]) S.1 S.2.1 d_Pl_wordUnder_97 hl (by decide) rfl (fun ls hl => ?_)
            refine lv_lload S.1 S.2.1 d_Pl_wordUnder_99 (lv_at hl 6 rfl) ?_
            refine lv_lload S.1 S.2.1 d_Pl_wordUnder_101 (lv_at hl 0 rfl) ?_
            refine lv_lor S.1 S.2.1 d_Pl_wordUnder_103 ?_
            refine lv_topl (fun bl2 ebl2 => ?_)
            refine lv_lstore (lv' := [(5, .long bl2), (13, .long ink1), (11, .long src), (10, .null), (8, .long met), (7, .ref a), (3, .long op), (1, .int y), (2, .int k)]) S.1 S.2.1 d_Pl_wordUnder_104 hl (by decide) rfl (fun ls hl => ?_)
            refine lv_lload_n S.1 S.2.1 d_Pl_wordUnder_106 rfl (lv_at hl 6 rfl) ?_
            refine lv_lload S.1 S.2.1 d_Pl_wordUnder_107 (lv_at hl 1 rfl) ?_
            refine lv_ldc2 (v := (-1)) S.1 S.2.1 S.2.2.2.1 (S.2.2.2.2 _ t_383) d_Pl_wordUnder_109 ?_
            refine lv_lxor S.1 S.2.1 d_Pl_wordUnder_112 ?_
            refine lv_land S.1 S.2.1 d_Pl_wordUnder_113 ?_
            refine lv_topl (fun op1 eop1 => ?_)
            refine lv_lstore_n (lv' := [(3, .long op1), (5, .long bl2), (13, .long ink1), (11, .long src), (10, .null), (8, .long met), (7, .ref a), (1, .int y), (2, .int k)]) S.1 S.2.1 d_Pl_wordUnder_114 rfl hl (by decide) rfl (fun ls hl => ?_)
            refine lv_lload_n S.1 S.2.1 d_Pl_wordUnder_115 rfl (lv_at hl 0 rfl) ?_
            refine hp_cutL (fun v => v = (if io = 0 then (-1 : Int64) else src ^^^ (-1))) 136 [.long op1] (fun J => ?_) (fun vio e_vio => ?_)
            · refine lv_aload S.1 S.2.1 d_Pl_wordUnder_116 (lv_at hl 6 rfl) ?_
              refine hp_get S zz hJ h_a f_Pl_139 rfl d_Pl_wordUnder_118 ?_
              refine lv_if_eq (tgt := 133) S.1 S.2.1 d_Pl_wordUnder_121 (by decide) (fun c_121 => ?_) (fun c_121 => ?_)
              · refine lv_ldc2 (v := (-1)) S.1 S.2.1 S.2.2.2.1 (S.2.2.2.2 _ t_383) d_Pl_wordUnder_133 ?_
                exact J _ (if_pos c_121).symm
              · refine lv_lload S.1 S.2.1 d_Pl_wordUnder_124 (lv_at hl 3 rfl) ?_
                refine lv_ldc2 (v := (-1)) S.1 S.2.1 S.2.2.2.1 (S.2.2.2.2 _ t_383) d_Pl_wordUnder_126 ?_
                refine lv_lxor S.1 S.2.1 d_Pl_wordUnder_129 ?_
                refine lv_goto (tgt := 136) S.1 S.2.1 d_Pl_wordUnder_130 (by decide) ?_
                exact J _ (if_neg c_121).symm
            · refine lv_land S.1 S.2.1 d_Pl_wordUnder_136 ?_
              refine lv_topl (fun op2 eop2 => ?_)
              refine lv_lstore_n (lv' := [(3, .long op2), (5, .long bl2), (13, .long ink1), (11, .long src), (10, .null), (8, .long met), (7, .ref a), (1, .int y), (2, .int k)]) S.1 S.2.1 d_Pl_wordUnder_137 rfl hl (by decide) rfl (fun ls hl => ?_)
              refine lv_lload_n S.1 S.2.1 d_Pl_wordUnder_138 rfl (lv_at hl 0 rfl) ?_
              refine hp_cutL (fun v => v = (if so = 0 then (-1 : Int64) else (met &&& (src ^^^ (-1))) ^^^ (-1))) 166 [.long op2] (fun J => ?_) (fun vso e_vso => ?_)
              · refine lv_aload S.1 S.2.1 d_Pl_wordUnder_139 (lv_at hl 6 rfl) ?_
                refine hp_get S zz hJ h_a f_Pl_143 rfl d_Pl_wordUnder_141 ?_
                refine lv_if_eq (tgt := 163) S.1 S.2.1 d_Pl_wordUnder_144 (by decide) (fun c_144 => ?_) (fun c_144 => ?_)
                · refine lv_ldc2 (v := (-1)) S.1 S.2.1 S.2.2.2.1 (S.2.2.2.2 _ t_383) d_Pl_wordUnder_163 ?_
                  exact J _ (if_pos c_144).symm
                · refine lv_lload S.1 S.2.1 d_Pl_wordUnder_147 (lv_at hl 5 rfl) ?_
                  refine lv_lload S.1 S.2.1 d_Pl_wordUnder_149 (lv_at hl 3 rfl) ?_
                  refine lv_ldc2 (v := (-1)) S.1 S.2.1 S.2.2.2.1 (S.2.2.2.2 _ t_383) d_Pl_wordUnder_151 ?_
                  refine lv_lxor S.1 S.2.1 d_Pl_wordUnder_154 ?_
                  refine lv_land S.1 S.2.1 d_Pl_wordUnder_155 ?_
                  refine lv_ldc2 (v := (-1)) S.1 S.2.1 S.2.2.2.1 (S.2.2.2.2 _ t_383) d_Pl_wordUnder_156 ?_
                  refine lv_lxor S.1 S.2.1 d_Pl_wordUnder_159 ?_
                  refine lv_goto (tgt := 166) S.1 S.2.1 d_Pl_wordUnder_160 (by decide) ?_
                  exact J _ (if_neg c_144).symm
              · refine lv_land S.1 S.2.1 d_Pl_wordUnder_166 ?_
                refine lv_topl (fun op3 eop3 => ?_)
                refine lv_lstore_n (lv' := [(3, .long op3), (5, .long bl2), (13, .long ink1), (11, .long src), (10, .null), (8, .long met), (7, .ref a), (1, .int y), (2, .int k)]) S.1 S.2.1 d_Pl_wordUnder_167 rfl hl (by decide) rfl (fun ls hl => ?_)
                refine lv_aload S.1 S.2.1 d_Pl_wordUnder_168 (lv_at hl 6 rfl) ?_
                have em : (X a).1 &&& op = met := by rw [ex1, emet]
                have es : q_src met (X a).2.1 = src := by rw [hx9, esrc]; rfl
                have hv2 : q_wu X r op3 bl2 = q_wu X (a0 :: r0) (-1) 0 := by
                  rw [q_wu_m X r bl (fun z => c_18 ((lg_cmp_0 _).mpr z)) (by rw [em]; exact fun z => c_38 ((lg_cmp_0 _).mpr z)), em, es, ex3, ex4, ex5] at hv
                  rw [← hv, eop3, eop2, eop1, e_vso, e_vio, ebl2, eink1]
                  rfl
                generalize hr9 : r.head? = r9 at h_a
                cases r9 with
                | none =>
                  refine hp_get S zz hJ h_a f_Pl_100 rfl d_Pl_wordUnder_170 ?_
                  refine lv_astoreN (lv' := [(7, .null), (3, .long op3), (5, .long bl2), (13, .long ink1), (11, .long src), (10, .null), (8, .long met), (1, .int y), (2, .int k)]) S.1 S.2.1 d_Pl_wordUnder_173 hl (by decide) rfl (fun ls hl => ?_)
                  refine lv_goto (tgt := 10) S.1 S.2.1 d_Pl_wordUnder_175 (by decide) ?_
                  exact ih hF2 op3 bl2 ls hv2 (by rw [hr9]; exact lv_sub hl [0, 1, 2, 7, 8] rfl)
                | some c0 =>
                  refine hp_get S zz hJ h_a f_Pl_100 rfl d_Pl_wordUnder_170 ?_
                  refine lv_astore (lv' := [(7, .ref c0), (3, .long op3), (5, .long bl2), (13, .long ink1), (11, .long src), (10, .null), (8, .long met), (1, .int y), (2, .int k)]) S.1 S.2.1 d_Pl_wordUnder_173 hl (by decide) rfl (fun ls hl => ?_)
                  refine lv_goto (tgt := 10) S.1 S.2.1 d_Pl_wordUnder_175 (by decide) ?_
                  exact ih hF2 op3 bl2 ls hv2 (by rw [hr9]; exact lv_sub hl [0, 1, 2, 7, 8] rfl)
          · refine hp_get S zz hJ h_a f_Pl_70 rfl d_Pl_wordUnder_43 ?_
            refine lv_astore (lv' := [(10, .ref q), (8, .long met), (7, .ref a), (3, .long op), (5, .long bl), (1, .int y), (2, .int k)]) S.1 S.2.1 d_Pl_wordUnder_46 hl (by decide) rfl (fun ls hl => ?_)
            refine lv_aload S.1 S.2.1 d_Pl_wordUnder_48 (lv_at hl 0 rfl) ?_
            refine lv_ifnonnull (tgt := 58) S.1 S.2.1 d_Pl_wordUnder_50 (by decide) ?_
            refine lv_aload S.1 S.2.1 d_Pl_wordUnder_58 (lv_at hl 0 rfl) ?_
            refine lv_iload_n S.1 S.2.1 d_Pl_wordUnder_60 rfl (lv_at hl 5 rfl) ?_
            refine lv_aload S.1 S.2.1 d_Pl_wordUnder_61 (lv_at hl 2 rfl) ?_
            refine hp_get S zz hJ h_a f_Pl_118 rfl d_Pl_wordUnder_63 ?_
            refine lv_isub S.1 S.2.1 d_Pl_wordUnder_66 ?_
            refine lv_iload_n S.1 S.2.1 d_Pl_wordUnder_67 rfl (lv_at hl 6 rfl) ?_
            refine lv_bipush (v := 64) S.1 S.2.1 d_Pl_wordUnder_68 (by decide) ?_
            refine lv_imul S.1 S.2.1 d_Pl_wordUnder_70 ?_
            refine lv_aload S.1 S.2.1 d_Pl_wordUnder_71 (lv_at hl 2 rfl) ?_
            refine hp_get S zz hJ h_a f_Pl_121 rfl d_Pl_wordUnder_73 ?_
            refine lv_isub S.1 S.2.1 d_Pl_wordUnder_76 ?_
            refine hp_doneR (hp_runV S zz0 (c_Pc_dotsFrom l dC dI cA A _ q b9 _ _ _ _ _ _ _ _ h_q h_b9 hix) l_Pl_124 (hJ.preV _ h_q rfl) (by decide) rfl hl.1 rfl (nl rfl) d_Pl_wordUnder_77 (by decide)) ?_
            refine lv_lload S.1 S.2.1 d_Pl_wordUnder_80 (lv_at hl 1 rfl) ?_
            refine lv_land S.1 S.2.1 d_Pl_wordUnder_82 ?_
            refine lv_topl (fun src esrc => ?_)
            refine lv_lstore (lv' := [(11, .long src), (10, .ref q), (8, .long met), (7, .ref a), (3, .long op), (5, .long bl), (1, .int y), (2, .int k)]) S.1 S.2.1 d_Pl_wordUnder_83 hl (by decide) rfl (fun ls hl => ?_)
            refine lv_lload S.1 S.2.1 d_Pl_wordUnder_85 (lv_at hl 0 rfl) ?_
            refine lv_aload S.1 S.2.1 d_Pl_wordUnder_87 (lv_at hl 3 rfl) ?_
            refine hp_get S zz hJ h_a f_Pl_130 rfl d_Pl_wordUnder_89 ?_
            refine lv_iload_n S.1 S.2.1 d_Pl_wordUnder_92 rfl (lv_at hl 6 rfl) ?_
            refine hp_doneR (hp_runV S zz0 (c_In_dotsAt l dC dI cA A _ ik ib _ _ fi y h_ik h_ib) l_Pl_134 (hJ.preV _ h_ik rfl) (by decide) rfl hl.1 rfl (nl rfl) d_Pl_wordUnder_93 (by decide)) ?_
            refine lv_land S.1 S.2.1 d_Pl_wordUnder_96 ?_
            refine lv_topl (fun ink1 eink1 => ?_)
            refine lv_lstore (lv' := [(13, .long ink1), (11, .long src), (10, .ref q), (8, .long met), (7, .ref a), (3, .long op), (5, .long bl), (1, .int y), (2, .int k)]) S.1 S.2.1 d_Pl_wordUnder_97 hl (by decide) rfl (fun ls hl => ?_)
            refine lv_lload S.1 S.2.1 d_Pl_wordUnder_99 (lv_at hl 6 rfl) ?_
            refine lv_lload S.1 S.2.1 d_Pl_wordUnder_101 (lv_at hl 0 rfl) ?_
            refine lv_lor S.1 S.2.1 d_Pl_wordUnder_103 ?_
            refine lv_topl (fun bl2 ebl2 => ?_)
            refine lv_lstore (lv' := [(5, .long bl2), (13, .long ink1), (11, .long src), (10, .ref q), (8, .long met), (7, .ref a), (3, .long op), (1, .int y), (2, .int k)]) S.1 S.2.1 d_Pl_wordUnder_104 hl (by decide) rfl (fun ls hl => ?_)
            refine lv_lload_n S.1 S.2.1 d_Pl_wordUnder_106 rfl (lv_at hl 6 rfl) ?_
            refine lv_lload S.1 S.2.1 d_Pl_wordUnder_107 (lv_at hl 1 rfl) ?_
            refine lv_ldc2 (v := (-1)) S.1 S.2.1 S.2.2.2.1 (S.2.2.2.2 _ t_383) d_Pl_wordUnder_109 ?_
            refine lv_lxor S.1 S.2.1 d_Pl_wordUnder_112 ?_
            refine lv_land S.1 S.2.1 d_Pl_wordUnder_113 ?_
            refine lv_topl (fun op1 eop1 => ?_)
            refine lv_lstore_n (lv' := [(3, .long op1), (5, .long bl2), (13, .long ink1), (11, .long src), (10, .ref q), (8, .long met), (7, .ref a), (1, .int y), (2, .int k)]) S.1 S.2.1 d_Pl_wordUnder_114 rfl hl (by decide) rfl (fun ls hl => ?_)
            refine lv_lload_n S.1 S.2.1 d_Pl_wordUnder_115 rfl (lv_at hl 0 rfl) ?_
            refine hp_cutL (fun v => v = (if io = 0 then (-1 : Int64) else src ^^^ (-1))) 136 [.long op1] (fun J => ?_) (fun vio e_vio => ?_)
            · refine lv_aload S.1 S.2.1 d_Pl_wordUnder_116 (lv_at hl 6 rfl) ?_
              refine hp_get S zz hJ h_a f_Pl_139 rfl d_Pl_wordUnder_118 ?_
              refine lv_if_eq (tgt := 133) S.1 S.2.1 d_Pl_wordUnder_121 (by decide) (fun c_121 => ?_) (fun c_121 => ?_)
              · refine lv_ldc2 (v := (-1)) S.1 S.2.1 S.2.2.2.1 (S.2.2.2.2 _ t_383) d_Pl_wordUnder_133 ?_
                exact J _ (if_pos c_121).symm
              · refine lv_lload S.1 S.2.1 d_Pl_wordUnder_124 (lv_at hl 3 rfl) ?_
                refine lv_ldc2 (v := (-1)) S.1 S.2.1 S.2.2.2.1 (S.2.2.2.2 _ t_383) d_Pl_wordUnder_126 ?_
                refine lv_lxor S.1 S.2.1 d_Pl_wordUnder_129 ?_
                refine lv_goto (tgt := 136) S.1 S.2.1 d_Pl_wordUnder_130 (by decide) ?_
                exact J _ (if_neg c_121).symm
            · refine lv_land S.1 S.2.1 d_Pl_wordUnder_136 ?_
              refine lv_topl (fun op2 eop2 => ?_)
              refine lv_lstore_n (lv' := [(3, .long op2), (5, .long bl2), (13, .long ink1), (11, .long src), (10, .ref q), (8, .long met), (7, .ref a), (1, .int y), (2, .int k)]) S.1 S.2.1 d_Pl_wordUnder_137 rfl hl (by decide) rfl (fun ls hl => ?_)
              refine lv_lload_n S.1 S.2.1 d_Pl_wordUnder_138 rfl (lv_at hl 0 rfl) ?_
              refine hp_cutL (fun v => v = (if so = 0 then (-1 : Int64) else (met &&& (src ^^^ (-1))) ^^^ (-1))) 166 [.long op2] (fun J => ?_) (fun vso e_vso => ?_)
              · refine lv_aload S.1 S.2.1 d_Pl_wordUnder_139 (lv_at hl 6 rfl) ?_
                refine hp_get S zz hJ h_a f_Pl_143 rfl d_Pl_wordUnder_141 ?_
                refine lv_if_eq (tgt := 163) S.1 S.2.1 d_Pl_wordUnder_144 (by decide) (fun c_144 => ?_) (fun c_144 => ?_)
                · refine lv_ldc2 (v := (-1)) S.1 S.2.1 S.2.2.2.1 (S.2.2.2.2 _ t_383) d_Pl_wordUnder_163 ?_
                  exact J _ (if_pos c_144).symm
                · refine lv_lload S.1 S.2.1 d_Pl_wordUnder_147 (lv_at hl 5 rfl) ?_
                  refine lv_lload S.1 S.2.1 d_Pl_wordUnder_149 (lv_at hl 3 rfl) ?_
                  refine lv_ldc2 (v := (-1)) S.1 S.2.1 S.2.2.2.1 (S.2.2.2.2 _ t_383) d_Pl_wordUnder_151 ?_
                  refine lv_lxor S.1 S.2.1 d_Pl_wordUnder_154 ?_
                  refine lv_land S.1 S.2.1 d_Pl_wordUnder_155 ?_
                  refine lv_ldc2 (v := (-1)) S.1 S.2.1 S.2.2.2.1 (S.2.2.2.2 _ t_383) d_Pl_wordUnder_156 ?_
                  refine lv_lxor S.1 S.2.1 d_Pl_wordUnder_159 ?_
                  refine lv_goto (tgt := 166) S.1 S.2.1 d_Pl_wordUnder_160 (by decide) ?_
                  exact J _ (if_neg c_144).symm
              · refine lv_land S.1 S.2.1 d_Pl_wordUnder_166 ?_
                refine lv_topl (fun op3 eop3 => ?_)
                refine lv_lstore_n (lv' := [(3, .long op3), (5, .long bl2), (13, .long ink1), (11, .long src), (10, .ref q), (8, .long met), (7, .ref a), (1, .int y), (2, .int k)]) S.1 S.2.1 d_Pl_wordUnder_167 rfl hl (by decide) rfl (fun ls hl => ?_)
                refine lv_aload S.1 S.2.1 d_Pl_wordUnder_168 (lv_at hl 6 rfl) ?_
                have em : (X a).1 &&& op = met := by rw [ex1, emet]
                have es : q_src met (X a).2.1 = src := by rw [hx9, esrc]; rfl
                have hv2 : q_wu X r op3 bl2 = q_wu X (a0 :: r0) (-1) 0 := by
                  rw [q_wu_m X r bl (fun z => c_18 ((lg_cmp_0 _).mpr z)) (by rw [em]; exact fun z => c_38 ((lg_cmp_0 _).mpr z)), em, es, ex3, ex4, ex5] at hv
                  rw [← hv, eop3, eop2, eop1, e_vso, e_vio, ebl2, eink1]
                  rfl
                generalize hr9 : r.head? = r9 at h_a
                cases r9 with
                | none =>
                  refine hp_get S zz hJ h_a f_Pl_100 rfl d_Pl_wordUnder_170 ?_
                  refine lv_astoreN (lv' := [(7, .null), (3, .long op3), (5, .long bl2), (13, .long ink1), (11, .long src), (10, .ref q), (8, .long met), (1, .int y), (2, .int k)]) S.1 S.2.1 d_Pl_wordUnder_173 hl (by decide) rfl (fun ls hl => ?_)
                  refine lv_goto (tgt := 10) S.1 S.2.1 d_Pl_wordUnder_175 (by decide) ?_
                  exact ih hF2 op3 bl2 ls hv2 (by rw [hr9]; exact lv_sub hl [0, 1, 2, 7, 8] rfl)
                | some c0 =>
                  refine hp_get S zz hJ h_a f_Pl_100 rfl d_Pl_wordUnder_170 ?_
                  refine lv_astore (lv' := [(7, .ref c0), (3, .long op3), (5, .long bl2), (13, .long ink1), (11, .long src), (10, .ref q), (8, .long met), (1, .int y), (2, .int k)]) S.1 S.2.1 d_Pl_wordUnder_173 hl (by decide) rfl (fun ls hl => ?_)
                  refine lv_goto (tgt := 10) S.1 S.2.1 d_Pl_wordUnder_175 (by decide) ?_
                  exact ih hF2 op3 bl2 ls hv2 (by rw [hr9]; exact lv_sub hl [0, 1, 2, 7, 8] rfl)
  exact LP (a0 :: r0) hF (-1) 0 ls rfl (lv_sub hl [0, 2, 1, 4, 5] rfl)

set_option maxHeartbeats 4000000 in
set_option maxRecDepth 100000 in
theorem cN_Pl_wordUnder (l : Launch) (dC : Nat → ClassId) (dI : Nat → Nat → Nat) (cA : Nat → ClassId) (A : Nat → Prop) (h : hp_T) (y k : Int32)  : Met l y_Pl_wordUnder (.code y_Pl_wordUnder prog_6_method_10_code 15 (some .long) :: BIG) ({ frames := 3, cells := 0, slots := 0, locals := 71 }) (va_Pc [.null, .int y, .int k] (hp_I (gg dC dI cA) A h)) (hp_QR (some (.long 0))) 0 0 (fun _ => False) := by
  refine hp_enter (by decide) (Nat.le_of_ble_eq_true rfl) ?_
  intro p e s m below meth c ls S hr hlk hin hI hl
  have hl : lv_has ls 15 [(0, .null), (1, .int y), (2, .int k)] := hl
  have hJ := hI.J
  refine lv_ldc2 (v := (-1)) S.1 S.2.1 S.2.2.2.1 (S.2.2.2.2 _ t_383) d_Pl_wordUnder_0 ?_
  refine lv_lstore_n (lv' := [(3, .long ((-1))), (0, .null), (1, .int y), (2, .int k)]) S.1 S.2.1 d_Pl_wordUnder_3 rfl hl (by decide) rfl (fun ls hl => ?_)
  refine lv_lconst (v := 0) S.1 S.2.1 d_Pl_wordUnder_4 (by decide) ?_
  refine lv_lstore (lv' := [(5, .long 0), (3, .long ((-1))), (0, .null), (1, .int y), (2, .int k)]) S.1 S.2.1 d_Pl_wordUnder_5 hl (by decide) rfl (fun ls hl => ?_)
  refine lv_aload_nN S.1 S.2.1 d_Pl_wordUnder_7 rfl (lv_at hl 2 rfl) ?_
  refine lv_astoreN (lv' := [(7, .null), (5, .long 0), (3, .long ((-1))), (0, .null), (1, .int y), (2, .int k)]) S.1 S.2.1 d_Pl_wordUnder_8 hl (by decide) rfl (fun ls hl => ?_)
  refine lv_aloadN S.1 S.2.1 d_Pl_wordUnder_10 (lv_at hl 0 rfl) ?_
  refine lv_ifnullN (tgt := 178) S.1 S.2.1 d_Pl_wordUnder_12 (by decide) ?_
  refine lv_lload S.1 S.2.1 d_Pl_wordUnder_178 (lv_at hl 1 rfl) ?_
  exact hp_retRl S hr hlk d_Pl_wordUnder_180 rfl

