/-! The marks of a pile, and those of a line. -/
abbrev mD : Type := Option Nat × Int32 × Int32 × Nat × Nat × Int32 × Int32
abbrev k_MD (d : mD) (below bol : Option Nat) : va_E := k_Mk d.1 d.2.1 d.2.2.1 d.2.2.2.1 d.2.2.2.2.1 d.2.2.2.2.2.1 d.2.2.2.2.2.2 below bol
/-- as: the marks' addresses, newest first -/
def mc (h : hp_T) (D : Nat → mD) (bol : Nat → Option Nat) (as : List Nat) : Prop := ∀ (P : List Nat) (a : Nat) (r : List Nat), as = P ++ a :: r → h a = some (k_MD (D a) r.head? (bol a))
def lk (bol : Nat → Option Nat) (fs : List Nat) : Prop := ∀ (P : List Nat) (a : Nat) (r : List Nat), fs = P ++ a :: r → bol a = r.head?
theorem nd_split : ∀ (P P' : List Nat) (a : Nat) (r r' : List Nat), (P ++ a :: r).Nodup → P ++ a :: r = P' ++ a :: r' → r = r'
  | [], [], a, r, r', _, h => (List.cons.inj h).2
  | [], b :: P', a, r, r', hn, h => by
    obtain ⟨h1, h2⟩ := List.cons.inj h
    have hn := List.nodup_cons.mp hn
    exact absurd (by rw [h2]; exact List.mem_append_right _ List.mem_cons_self) hn.1
  | b :: P, [], a, r, r', hn, h => by
    obtain ⟨h1, h2⟩ := List.cons.inj h
    have hn := List.nodup_cons.mp hn
    exact absurd (by rw [h1]; exact List.mem_append_right _ List.mem_cons_self) hn.1
  | b :: P, b' :: P', a, r, r', hn, h => nd_split P P' a r r' (List.nodup_cons.mp hn).2 (List.cons.inj h).2
theorem mc_set {h : hp_T} {D : Nat → mD} {bol : Nat → Option Nat} {as : List Nat} (hm : mc h D bol as) (hd : as.Nodup) {P : List Nat} {a : Nat} {r : List Nat} (he : as = P ++ a :: r) (v : Option Nat) : mc (hp_up h a (k_MD (D a) r.head? v)) D (va_up bol a v) as := by
  intro P' a' r' he'
  by_cases ha : a' = a
  · subst ha
    have := nd_split P P' a' r r' (he ▸ hd) (he.symm.trans he')
    rw [hp_up_s, va_up_self, this]
  · rw [hp_up_n ha, va_up_ne _ _ ha]
    exact hm P' a' r' he'
theorem lk_1 (bol : Nat → Option Nat) (m : Nat) : lk (va_up bol m none) [m] := by
  intro P a r h
  cases P with
  | nil =>
    obtain ⟨h1, h2⟩ := List.cons.inj h
    subst h1
    rw [← h2, va_up_self]
    rfl
  | cons b P => simp at h
theorem snoc_cases (r : List Nat) : r = [] ∨ ∃ r0 m, r = r0 ++ [m] := by
  cases hr : r.getLast? with
  | none => exact Or.inl (List.getLast?_eq_none_iff.mp hr)
  | some m => exact Or.inr ((List.getLast?_eq_some_iff.mp hr).imp fun r0 h => ⟨m, h⟩)
theorem lk_snoc {bol : Nat → Option Nat} {F : List Nat} {b m : Nat} (hl : lk bol (F ++ [b])) (hn : (F ++ [b]).Nodup) (hm : m ∉ F ++ [b]) : lk (va_up (va_up bol m none) b (some m)) (F ++ [b] ++ [m]) := by
  intro P a r h
  have hbm : m ≠ b := fun q => hm (by rw [q]; exact List.mem_append_right _ List.mem_cons_self)
  rcases snoc_cases r with hr | ⟨r0, m', hr⟩
  · subst hr
    have h2 := List.append_inj' h rfl
    obtain ⟨h3, -⟩ := List.cons.inj h2.2
    subst h3
    rw [va_up_ne _ _ hbm, va_up_self]
    rfl
  · subst hr
    rw [show P ++ a :: (r0 ++ [m']) = (P ++ a :: r0) ++ [m'] by simp] at h
    have h2 := List.append_inj' h rfl
    obtain ⟨h3, -⟩ := List.cons.inj h2.2
    subst h3
    have h4 := h2.1
    rcases snoc_cases r0 with hr | ⟨r1, m1, hr⟩
    · subst hr
      have h5 := List.append_inj' h4 rfl
      obtain ⟨h6, -⟩ := List.cons.inj h5.2
      subst h6
      rw [va_up_self]
      rfl
    · have ha : a ∈ F ++ [b] := by rw [h4]; exact List.mem_append_right _ List.mem_cons_self
      have hab : a ≠ b := by
        subst hr
        rw [show P ++ a :: (r1 ++ [m1]) = (P ++ a :: r1) ++ [m1] by simp] at h4
        have h5 := List.append_inj' h4 rfl
        obtain ⟨h6, -⟩ := List.cons.inj h5.2
        subst h6
        have h7 : a ∈ F := by rw [h5.1]; exact List.mem_append_right _ List.mem_cons_self
        have h8 := (List.nodup_append.mp hn).2.2
        exact h8 a h7 b List.mem_cons_self
      have ham : a ≠ m := fun q => hm (q ▸ ha)
      rw [va_up_ne _ _ hab, va_up_ne _ _ ham, hl P a r0 h4]
      subst hr
      cases r1 <;> rfl

def q_me (B : Nat → Int32 × Int32 × Int32 × Int32) (y : Int32) (a : Nat) : Bool := decide ((B a).2.1 ≤ y ∧ y ≤ (B a).2.2.2)
set_option maxHeartbeats 4000000 in
set_option maxRecDepth 100000 in
theorem c_Pl_newestOnLine (l : Launch) (dC : Nat → ClassId) (dI : Nat → Nat → Nat) (cA : Nat → ClassId) (A : Nat → Prop) (h : hp_T) (t bl st n : Nat) (sz y : Int32) (as : List Nat) (D : Nat → mD) (bol : Nat → Option Nat) (B : Nat → Int32 × Int32 × Int32 × Int32) (hnd : as.Nodup) (hm : mc h D bol as) (hB : ∀ a ∈ as, h (D a).2.2.2.1 = some (k_Bx (B a).1 (B a).2.1 (B a).2.2.1 (B a).2.2.2)) (h_t : h t = some (k_Pl (nI n) bl st sz as.head?)) : Met l y_Pl_newestOnLine (.code y_Pl_newestOnLine prog_6_method_9_code 5 (some (.object "BandPainter$Mark")) :: BIG) ({ frames := 1, cells := 0, slots := 0, locals := 21 }) (va_Pc [.ref t, .int y] (hp_I (gg dC dI cA) A h)) (hp_QW (gg dC dI cA) A hp_mq (fun r h' => ∃ bol', r = (as.filter (q_me B y)).head? ∧ lk bol' (as.filter (q_me B y)) ∧ mc h' D bol' as ∧ ∀ a, a ∉ as → h' a = h a)) 0 0 A := by
  refine hp_enter (by decide) (Nat.le_of_ble_eq_true rfl) ?_
  intro p e s m below meth c ls S hr hlk hin hI hl
  have hl : lv_has ls 5 [(0, .ref t), (1, .int y)] := hl
  have hJ := hI.J
  refine lv_null S.1 S.2.1 d_Pl_newestOnLine_0 ?_
  refine lv_astore_nN (lv' := [(2, .null), (0, .ref t), (1, .int y)]) S.1 S.2.1 d_Pl_newestOnLine_1 rfl hl (by decide) rfl (fun ls hl => ?_)
  refine lv_null S.1 S.2.1 d_Pl_newestOnLine_2 ?_
  refine lv_astore_nN (lv' := [(3, .null), (2, .null), (0, .ref t), (1, .int y)]) S.1 S.2.1 d_Pl_newestOnLine_3 rfl hl (by decide) rfl (fun ls hl => ?_)
  refine lv_aload_n S.1 S.2.1 d_Pl_newestOnLine_4 rfl (lv_at hl 2 rfl) ?_
  refine hp_get S zz hJ h_t f_Pl_26 rfl d_Pl_newestOnLine_5 ?_
  have hmem : ∀ a ∈ as, ∃ P r, as = P ++ a :: r := fun a ha => List.append_of_mem ha
  have hpn : ∀ a ∈ as, (D a).2.2.2.1 ∉ as := by
    intro a ha hp
    obtain ⟨P, r, he⟩ := hmem _ hp
    have h1 := hm P _ r he
    rw [hB a ha] at h1
    cases h1
  have htn : t ∉ as := by
    intro hp
    obtain ⟨P, r, he⟩ := hmem _ hp
    have h1 := hm P _ r he
    rw [h_t] at h1
    cases h1
  have LP : ∀ (R P : List Nat) (bol : Nat → Option Nat) (hc : hp_T) (H : Heap) (locs : List Loc) (ls : Array Slot), as = P ++ R → mc hc D bol as → (∀ a, a ∉ as → hc a = h a) → lk bol (P.filter (q_me B y)) → hp_J (gg dC dI cA) A hc s H locs → lv_has ls 5 [(4, va_rf R.head?), (3, va_rf (P.filter (q_me B y)).getLast?), (2, va_rf (P.filter (q_me B y)).head?), (0, .ref t), (1, .int y)] → W p l e ({ frames := 1, cells := 0, slots := 0, locals := 21 }) s m ([.ref t, .int y] : List Value).toArray below meth c H locs 0 0 (MQ below (hp_QW (gg dC dI cA) A hp_mq (fun r h' => ∃ bol', r = (as.filter (q_me B y)).head? ∧ lk bol' (as.filter (q_me B y)) ∧ mc h' D bol' as ∧ ∀ a, a ∉ as → h' a = h a)) ([.ref t, .int y] : List Value).toArray s 0 0 A) (F0 m 10 ls []) := by
    intro R
    induction R with
    | nil =>
      intro P bol hc H locs ls he hm ho hk hJ hl
      rw [List.append_nil] at he
      subst he
      have hpost := (⟨bol, rfl, hk, hm, ho⟩ : ∃ bol', (as.filter (q_me B y)).head? = (as.filter (q_me B y)).head? ∧ lk bol' (as.filter (q_me B y)) ∧ mc hc D bol' as ∧ ∀ a, a ∉ as → hc a = h a)
      refine lv_aloadN S.1 S.2.1 d_Pl_newestOnLine_10 (lv_at hl 0 rfl) ?_
      refine lv_ifnullN (tgt := 62) S.1 S.2.1 d_Pl_newestOnLine_12 (by decide) ?_
      generalize hq : (as.filter (q_me B y)).head? = q at hl hpost
      cases q with
      | none =>
        refine lv_aload_nN S.1 S.2.1 d_Pl_newestOnLine_62 rfl (lv_at hl 2 rfl) ?_
        exact hp_retWq (r := none) S hJ hr hlk d_Pl_newestOnLine_63 (by decide) (by rw [hq] at *; exact hpost)
      | some q =>
        refine lv_aload_n S.1 S.2.1 d_Pl_newestOnLine_62 rfl (lv_at hl 2 rfl) ?_
        exact hp_retWq (r := some q) S hJ hr hlk d_Pl_newestOnLine_63 (by decide) (by rw [hq] at *; exact hpost)
    | cons a r ih =>
      intro P bol hc H locs ls he hm ho hk hJ hl
      have ha : a ∈ as := by rw [he]; exact List.mem_append_right _ List.mem_cons_self
      have haP : a ∉ P := fun q => by
        have hn := hnd
        rw [he] at hn
        exact (List.nodup_append.mp hn).2.2 a q a List.mem_cons_self rfl
      have hnP : P.Nodup := by
        have hn := hnd
        rw [he] at hn
        exact (List.nodup_append.mp hn).1
      have h_a := hm P a r he
      have h_pt : hc (D a).2.2.2.1 = some (k_Bx (B a).1 (B a).2.1 (B a).2.2.1 (B a).2.2.2) := by rw [ho _ (hpn a ha)]; exact hB a ha
      have eP : P ++ a :: r = (P ++ [a]) ++ r := by simp
      have fP : (P ++ [a]).filter (q_me B y) = P.filter (q_me B y) ++ (if q_me B y a = true then [a] else []) := by
        rw [List.filter_append]
        cases hq : q_me B y a <;> simp [List.filter, hq]
      have h_a0 := h_a
      rcases hDa : D a with ⟨pc, lf, tp, pt, ik, so, io⟩
      rw [hDa] at h_a h_pt
      replace h_a : hc a = some (.inr (3, [va_rf pc, .int lf, .int tp, .ref pt, .ref ik, .int so, .int io, va_rf r.head?, va_rf (bol a)])) := h_a
      replace h_pt : hc pt = some (k_Bx (B a).1 (B a).2.1 (B a).2.2.1 (B a).2.2.2) := h_pt
      rcases snoc_cases (P.filter (q_me B y)) with hF | ⟨F, b, hF⟩
      · have hF0 := hF
        rw [hF] at hl hk
        replace hl : lv_has ls 5 [(4, .ref a), (3, .null), (2, .null), (0, .ref t), (1, .int y)] := hl
        refine lv_aload S.1 S.2.1 d_Pl_newestOnLine_10 (lv_at hl 0 rfl) ?_
        refine lv_ifnull S.1 S.2.1 d_Pl_newestOnLine_12 ?_
        refine lv_aload S.1 S.2.1 d_Pl_newestOnLine_15 (lv_at hl 0 rfl) ?_
        refine hp_get S zz hJ h_a f_Pl_36 rfl d_Pl_newestOnLine_17 ?_
        refine lv_iload_n S.1 S.2.1 d_Pl_newestOnLine_20 rfl (lv_at hl 4 rfl) ?_
        refine hp_doneR (hp_runV S zz0 (c_Bx_meetsLine l dC dI cA A _ pt _ _ _ _ y h_pt) l_Pl_109 (hJ.preV _ h_pt rfl) (by decide) rfl hl.1 rfl (nl rfl) d_Pl_newestOnLine_21 (by decide)) ?_
        refine lv_if_eq (tgt := 52) S.1 S.2.1 d_Pl_newestOnLine_24 (by decide) (fun c_24 => ?_) (fun c_24 => ?_)
        · refine lv_aload S.1 S.2.1 d_Pl_newestOnLine_52 (lv_at hl 0 rfl) ?_
          cases r with
          | nil =>
            refine hp_get S zz hJ h_a f_Pl_48 rfl d_Pl_newestOnLine_54 ?_
            refine lv_astoreN (lv' := [(4, .null), (3, .null), (2, .null), (0, .ref t), (1, .int y)]) S.1 S.2.1 d_Pl_newestOnLine_57 hl (by decide) rfl (fun ls hl => ?_)
            refine lv_goto (tgt := 10) S.1 S.2.1 d_Pl_newestOnLine_59 (by decide) ?_
            have hq : ¬ q_me B y a = true := fun q => q_is_0.mp c_24 (of_decide_eq_true q)
            rw [if_neg hq, List.append_nil] at fP
            exact ih (P ++ [a]) _ _ _ _ ls (he.trans eP) hm ho (by rw [fP, hF0]; exact hk) hJ (by rw [fP, hF0]; exact lv_sub hl [0, 1, 2, 3, 4] rfl)
          | cons c0 r0 =>
            refine hp_get S zz hJ h_a f_Pl_48 rfl d_Pl_newestOnLine_54 ?_
            refine lv_astore (lv' := [(4, .ref c0), (3, .null), (2, .null), (0, .ref t), (1, .int y)]) S.1 S.2.1 d_Pl_newestOnLine_57 hl (by decide) rfl (fun ls hl => ?_)
            refine lv_goto (tgt := 10) S.1 S.2.1 d_Pl_newestOnLine_59 (by decide) ?_
            have hq : ¬ q_me B y a = true := fun q => q_is_0.mp c_24 (of_decide_eq_true q)
            rw [if_neg hq, List.append_nil] at fP
            exact ih (P ++ [a]) _ _ _ _ ls (he.trans eP) hm ho (by rw [fP, hF0]; exact hk) hJ (by rw [fP, hF0]; exact lv_sub hl [0, 1, 2, 3, 4] rfl)
        · refine lv_aload S.1 S.2.1 d_Pl_newestOnLine_27 (lv_at hl 0 rfl) ?_
          refine lv_null S.1 S.2.1 d_Pl_newestOnLine_29 ?_
          refine hp_put S zz hJ h_a fp_Pl_100 rfl rfl (nl rfl) d_Pl_newestOnLine_30 (fun H locs hJ => ?_)
          have hm1 : mc (hp_up hc a (k_MD (D a) r.head? none)) D (va_up bol a none) as := mc_set hm hnd he none
          rw [hDa] at hm1
          obtain ⟨h1, eh1⟩ : ∃ z, z = hp_up hc a (k_MD (pc, lf, tp, pt, ik, so, io) r.head? none) := ⟨_, rfl⟩
          replace hJ := hJ.cast eh1
          rw [← eh1] at hm1
          have ho1 : ∀ a, a ∉ as → h1 a = h a := fun z hz => by rw [eh1, hp_up_n (q := z) (fun q9 => hz (by rw [q9]; exact ha))]; exact ho z hz
          replace h_a : h1 a = some (.inr (3, [va_rf pc, .int lf, .int tp, .ref pt, .ref ik, .int so, .int io, va_rf r.head?, .null])) := by rw [eh1]; exact hp_up_s _ _ _
          refine lv_aload_nN S.1 S.2.1 d_Pl_newestOnLine_33 rfl (lv_at hl 1 rfl) ?_
          refine lv_ifnonnullN S.1 S.2.1 d_Pl_newestOnLine_34 ?_
          refine lv_aload S.1 S.2.1 d_Pl_newestOnLine_37 (lv_at hl 0 rfl) ?_
          refine lv_astore_n (lv' := [(2, .ref a), (4, .ref a), (3, .null), (0, .ref t), (1, .int y)]) S.1 S.2.1 d_Pl_newestOnLine_39 rfl hl (by decide) rfl (fun ls hl => ?_)
          refine lv_goto (tgt := 49) S.1 S.2.1 d_Pl_newestOnLine_40 (by decide) ?_
          refine lv_aload S.1 S.2.1 d_Pl_newestOnLine_49 (lv_at hl 1 rfl) ?_
          refine lv_astore_n (lv' := [(3, .ref a), (2, .ref a), (4, .ref a), (0, .ref t), (1, .int y)]) S.1 S.2.1 d_Pl_newestOnLine_51 rfl hl (by decide) rfl (fun ls hl => ?_)
          refine lv_aload S.1 S.2.1 d_Pl_newestOnLine_52 (lv_at hl 2 rfl) ?_
          cases r with
          | nil =>
            refine hp_get S zz hJ h_a f_Pl_48 rfl d_Pl_newestOnLine_54 ?_
            refine lv_astoreN (lv' := [(4, .null), (3, .ref a), (2, .ref a), (0, .ref t), (1, .int y)]) S.1 S.2.1 d_Pl_newestOnLine_57 hl (by decide) rfl (fun ls hl => ?_)
            refine lv_goto (tgt := 10) S.1 S.2.1 d_Pl_newestOnLine_59 (by decide) ?_
            have hq : q_me B y a = true := decide_eq_true (q_is_ne.mp c_24)
            rw [if_pos hq] at fP
            exact ih (P ++ [a]) _ _ _ _ ls (he.trans eP) hm1 ho1 (by rw [fP, hF0]; exact lk_1 bol a) hJ (by rw [fP, hF0]; exact lv_sub hl [0, 1, 2, 3, 4] rfl)
          | cons c0 r0 =>
            refine hp_get S zz hJ h_a f_Pl_48 rfl d_Pl_newestOnLine_54 ?_
            refine lv_astore (lv' := [(4, .ref c0), (3, .ref a), (2, .ref a), (0, .ref t), (1, .int y)]) S.1 S.2.1 d_Pl_newestOnLine_57 hl (by decide) rfl (fun ls hl => ?_)
            refine lv_goto (tgt := 10) S.1 S.2.1 d_Pl_newestOnLine_59 (by decide) ?_
            have hq : q_me B y a = true := decide_eq_true (q_is_ne.mp c_24)
            rw [if_pos hq] at fP
            exact ih (P ++ [a]) _ _ _ _ ls (he.trans eP) hm1 ho1 (by rw [fP, hF0]; exact lk_1 bol a) hJ (by rw [fP, hF0]; exact lv_sub hl [0, 1, 2, 3, 4] rfl)
      · have hF0 := hF
        rw [hF] at hl hk
        obtain ⟨f0, hf0⟩ : ∃ f0, (F ++ [b]).head? = some f0 := by cases F <;> exact ⟨_, rfl⟩
        have hlb : (F ++ [b]).getLast? = some b := by simp
        rw [hf0, hlb] at hl
        replace hl : lv_has ls 5 [(4, .ref a), (3, .ref b), (2, .ref f0), (0, .ref t), (1, .int y)] := hl
        have hbP : b ∈ P := (List.mem_filter.mp (show b ∈ P.filter (q_me B y) by rw [hF]; exact List.mem_append_right _ List.mem_cons_self)).1
        have ne_a_b : a ≠ b := fun q => haP (q ▸ hbP)
        refine lv_aload S.1 S.2.1 d_Pl_newestOnLine_10 (lv_at hl 0 rfl) ?_
        refine lv_ifnull S.1 S.2.1 d_Pl_newestOnLine_12 ?_
        refine lv_aload S.1 S.2.1 d_Pl_newestOnLine_15 (lv_at hl 0 rfl) ?_
        refine hp_get S zz hJ h_a f_Pl_36 rfl d_Pl_newestOnLine_17 ?_
        refine lv_iload_n S.1 S.2.1 d_Pl_newestOnLine_20 rfl (lv_at hl 4 rfl) ?_
        refine hp_doneR (hp_runV S zz0 (c_Bx_meetsLine l dC dI cA A _ pt _ _ _ _ y h_pt) l_Pl_109 (hJ.preV _ h_pt rfl) (by decide) rfl hl.1 rfl (nl rfl) d_Pl_newestOnLine_21 (by decide)) ?_
        refine lv_if_eq (tgt := 52) S.1 S.2.1 d_Pl_newestOnLine_24 (by decide) (fun c_24 => ?_) (fun c_24 => ?_)
        · refine lv_aload S.1 S.2.1 d_Pl_newestOnLine_52 (lv_at hl 0 rfl) ?_
          cases r with
          | nil =>
            refine hp_get S zz hJ h_a f_Pl_48 rfl d_Pl_newestOnLine_54 ?_
            refine lv_astoreN (lv' := [(4, .null), (3, .ref b), (2, .ref f0), (0, .ref t), (1, .int y)]) S.1 S.2.1 d_Pl_newestOnLine_57 hl (by decide) rfl (fun ls hl => ?_)
            refine lv_goto (tgt := 10) S.1 S.2.1 d_Pl_newestOnLine_59 (by decide) ?_
            have hq : ¬ q_me B y a = true := fun q => q_is_0.mp c_24 (of_decide_eq_true q)
            rw [if_neg hq, List.append_nil] at fP
            exact ih (P ++ [a]) _ _ _ _ ls (he.trans eP) hm ho (by rw [fP, hF0]; exact hk) hJ (by rw [fP, hF0]; rw [hf0, hlb]; exact lv_sub hl [0, 1, 2, 3, 4] rfl)
          | cons c0 r0 =>
            refine hp_get S zz hJ h_a f_Pl_48 rfl d_Pl_newestOnLine_54 ?_
            refine lv_astore (lv' := [(4, .ref c0), (3, .ref b), (2, .ref f0), (0, .ref t), (1, .int y)]) S.1 S.2.1 d_Pl_newestOnLine_57 hl (by decide) rfl (fun ls hl => ?_)
            refine lv_goto (tgt := 10) S.1 S.2.1 d_Pl_newestOnLine_59 (by decide) ?_
            have hq : ¬ q_me B y a = true := fun q => q_is_0.mp c_24 (of_decide_eq_true q)
            rw [if_neg hq, List.append_nil] at fP
            exact ih (P ++ [a]) _ _ _ _ ls (he.trans eP) hm ho (by rw [fP, hF0]; exact hk) hJ (by rw [fP, hF0]; rw [hf0, hlb]; exact lv_sub hl [0, 1, 2, 3, 4] rfl)
        · refine lv_aload S.1 S.2.1 d_Pl_newestOnLine_27 (lv_at hl 0 rfl) ?_
          refine lv_null S.1 S.2.1 d_Pl_newestOnLine_29 ?_
          refine hp_put S zz hJ h_a fp_Pl_100 rfl rfl (nl rfl) d_Pl_newestOnLine_30 (fun H locs hJ => ?_)
          have hm1 : mc (hp_up hc a (k_MD (D a) r.head? none)) D (va_up bol a none) as := mc_set hm hnd he none
          rw [hDa] at hm1
          obtain ⟨h1, eh1⟩ : ∃ z, z = hp_up hc a (k_MD (pc, lf, tp, pt, ik, so, io) r.head? none) := ⟨_, rfl⟩
          replace hJ := hJ.cast eh1
          rw [← eh1] at hm1
          have ho1 : ∀ a, a ∉ as → h1 a = h a := fun z hz => by rw [eh1, hp_up_n (q := z) (fun q9 => hz (by rw [q9]; exact ha))]; exact ho z hz
          replace h_a : h1 a = some (.inr (3, [va_rf pc, .int lf, .int tp, .ref pt, .ref ik, .int so, .int io, va_rf r.head?, .null])) := by rw [eh1]; exact hp_up_s _ _ _
          refine lv_aload_n S.1 S.2.1 d_Pl_newestOnLine_33 rfl (lv_at hl 1 rfl) ?_
          refine lv_ifnonnull (tgt := 43) S.1 S.2.1 d_Pl_newestOnLine_34 (by decide) ?_
          refine lv_aload_n S.1 S.2.1 d_Pl_newestOnLine_43 rfl (lv_at hl 1 rfl) ?_
          refine lv_aload S.1 S.2.1 d_Pl_newestOnLine_44 (lv_at hl 0 rfl) ?_
          obtain ⟨Pb, rb, heb⟩ := hmem b (by rw [he]; exact List.mem_append_left _ hbP)
          have h_b := hm1 Pb b rb heb
          rcases hDb : D b with ⟨pcb, lfb, tpb, ptb, ikb, sob, iob⟩
          rw [hDb] at h_b
          have h_b : h1 b = some (.inr (3, [va_rf pcb, .int lfb, .int tpb, .ref ptb, .ref ikb, .int sob, .int iob, va_rf rb.head?, va_rf (va_up bol a none b)])) := h_b
          refine hp_put S zz hJ h_b fp_Pl_100 rfl rfl (nl rfl) d_Pl_newestOnLine_46 (fun H locs hJ => ?_)
          have hm2 : mc (hp_up h1 b (k_MD (D b) rb.head? (some a))) D (va_up (va_up bol a none) b (some a)) as := mc_set hm1 hnd heb (some a)
          rw [hDb] at hm2
          obtain ⟨h2, eh2⟩ : ∃ z, z = hp_up h1 b (k_MD (pcb, lfb, tpb, ptb, ikb, sob, iob) rb.head? (some a)) := ⟨_, rfl⟩
          replace hJ := hJ.cast eh2
          rw [← eh2] at hm2
          have ho2 : ∀ a, a ∉ as → h2 a = h a := fun z hz => by rw [eh2, hp_up_n (q := z) (fun q9 => hz (by rw [q9, he]; exact List.mem_append_left _ hbP))]; exact ho1 z hz
          replace h_a : h2 a = some (.inr (3, [va_rf pc, .int lf, .int tp, .ref pt, .ref ik, .int so, .int io, va_rf r.head?, .null])) := by rw [eh2]; exact hp_up_k ne_a_b h_a
          refine lv_aload S.1 S.2.1 d_Pl_newestOnLine_49 (lv_at hl 0 rfl) ?_
          refine lv_astore_n (lv' := [(3, .ref a), (4, .ref a), (2, .ref f0), (0, .ref t), (1, .int y)]) S.1 S.2.1 d_Pl_newestOnLine_51 rfl hl (by decide) rfl (fun ls hl => ?_)
          refine lv_aload S.1 S.2.1 d_Pl_newestOnLine_52 (lv_at hl 1 rfl) ?_
          cases r with
          | nil =>
            refine hp_get S zz hJ h_a f_Pl_48 rfl d_Pl_newestOnLine_54 ?_
            refine lv_astoreN (lv' := [(4, .null), (3, .ref a), (2, .ref f0), (0, .ref t), (1, .int y)]) S.1 S.2.1 d_Pl_newestOnLine_57 hl (by decide) rfl (fun ls hl => ?_)
            refine lv_goto (tgt := 10) S.1 S.2.1 d_Pl_newestOnLine_59 (by decide) ?_
            have hq : q_me B y a = true := decide_eq_true (q_is_ne.mp c_24)
            rw [if_pos hq] at fP
            exact ih (P ++ [a]) _ _ _ _ ls (he.trans eP) hm2 ho2 (by rw [fP, hF0]; exact lk_snoc hk (hF0 ▸ hnP.filter _) (fun q => haP (List.mem_filter.mp (show a ∈ P.filter (q_me B y) by rw [hF0]; exact q)).1)) hJ (by rw [fP, hF0, show (F ++ [b] ++ [a]).head? = some f0 by rw [← hf0]; cases F <;> rfl, show (F ++ [b] ++ [a]).getLast? = some a by simp]; exact lv_sub hl [0, 1, 2, 3, 4] rfl)
          | cons c0 r0 =>
            refine hp_get S zz hJ h_a f_Pl_48 rfl d_Pl_newestOnLine_54 ?_
            refine lv_astore (lv' := [(4, .ref c0), (3, .ref a), (2, .ref f0), (0, .ref t), (1, .int y)]) S.1 S.2.1 d_Pl_newestOnLine_57 hl (by decide) rfl (fun ls hl => ?_)
            refine lv_goto (tgt := 10) S.1 S.2.1 d_Pl_newestOnLine_59 (by decide) ?_
            have hq : q_me B y a = true := decide_eq_true (q_is_ne.mp c_24)
            rw [if_pos hq] at fP
            exact ih (P ++ [a]) _ _ _ _ ls (he.trans eP) hm2 ho2 (by rw [fP, hF0]; exact lk_snoc hk (hF0 ▸ hnP.filter _) (fun q => haP (List.mem_filter.mp (show a ∈ P.filter (q_me B y) by rw [hF0]; exact q)).1)) hJ (by rw [fP, hF0, show (F ++ [b] ++ [a]).head? = some f0 by rw [← hf0]; cases F <;> rfl, show (F ++ [b] ++ [a]).getLast? = some a by simp]; exact lv_sub hl [0, 1, 2, 3, 4] rfl)
  generalize hq9 : as.head? = q9
  cases q9 with
  | none =>
    refine lv_astoreN (lv' := [(4, .null), (3, .null), (2, .null), (0, .ref t), (1, .int y)]) S.1 S.2.1 d_Pl_newestOnLine_8 hl (by decide) rfl (fun ls hl => ?_)
    exact LP as [] bol _ _ _ ls rfl hm (fun _ _ => rfl) (fun P a r q => by simp at q) hJ (by rw [hq9]; exact lv_sub hl [0, 1, 2, 3, 4] rfl)
  | some c0 =>
    refine lv_astore (lv' := [(4, .ref c0), (3, .null), (2, .null), (0, .ref t), (1, .int y)]) S.1 S.2.1 d_Pl_newestOnLine_8 hl (by decide) rfl (fun ls hl => ?_)
    exact LP as [] bol _ _ _ ls rfl hm (fun _ _ => rfl) (fun P a r q => by simp at q) hJ (by rw [hq9]; exact lv_sub hl [0, 1, 2, 3, 4] rfl)

