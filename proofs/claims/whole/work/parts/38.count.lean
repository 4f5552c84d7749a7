/-! A line's words and how many black dots it has. -/
abbrev pI : Type := Int32 × Int32 × Int32 × Int32 × Nat × (Nat → Int64)
def mk_ok (h : hp_T) (c1 : ClassId) (d : mD) (B : Int32 × Int32 × Int32 × Int32) (fi : Nat → Int64) (pi : Option pI) : Prop :=
  h d.2.2.2.1 = some (k_Bx B.1 B.2.1 B.2.2.1 B.2.2.2) ∧ (∃ (kd val : Int32) (ib : Nat), h d.2.2.2.2.1 = some (k_In kd val ib) ∧ h ib = some (k_lo c1 16 fi)) ∧
  ((d.1 = none ∧ pi = none) ∨ ∃ (q b : Nat) (p : pI), d.1 = some q ∧ pi = some p ∧ h q = some (k_Pc p.1 p.2.1 p.2.2.1 p.2.2.2.1 b) ∧ h b = some (k_lo c1 p.2.2.2.2.1 p.2.2.2.2.2) ∧ ∀ j k : Int32, 0 ≤ j ∧ j < p.2.1 ∧ 0 ≤ k ∧ k < p.2.2.2.1 → vp_in (j * p.2.2.2.1 + k) p.2.2.2.2.1)
/-- all cells but marks stay -/
def nm (h h' : hp_T) : Prop := ∀ (x : Nat) (e : va_E), h x = some e → hp_kind e ≠ (0, 3) → h' x = some e
theorem nm_of {h h' : hp_T} {D : Nat → mD} {bol : Nat → Option Nat} {as : List Nat} (hm : mc h D bol as) (ho : ∀ a, a ∉ as → h' a = h a) : nm h h' := by
  intro x e he hk
  by_cases hx : x ∈ as
  · obtain ⟨P, r, hP⟩ := List.append_of_mem hx
    have h1 := hm P x r hP
    rw [he] at h1
    exact absurd (by rw [Option.some.inj h1]; rfl) hk
  · rw [ho x hx]
    exact he
theorem mk_ok.keep {h h' : hp_T} {c1 : ClassId} {d : mD} {B : Int32 × Int32 × Int32 × Int32} {fi : Nat → Int64} {pi : Option pI} (hn : nm h h') (ho : mk_ok h c1 d B fi pi) : mk_ok h' c1 d B fi pi := by
  obtain ⟨h1, ⟨kd, val, ib, h2, h3⟩, h4⟩ := ho
  refine ⟨hn _ _ h1 (show ((0, 1) : Nat × Nat) ≠ (0, 3) by decide), ⟨kd, val, ib, hn _ _ h2 (show ((0, 2) : Nat × Nat) ≠ (0, 3) by decide), hn _ _ h3 (show ((2, 0) : Nat × Nat) ≠ (0, 3) by decide)⟩, ?_⟩
  rcases h4 with h4 | ⟨q, b, p, a1, a2, a3, a4, a5⟩
  · exact Or.inl h4
  · exact Or.inr ⟨q, b, p, a1, a2, hn _ _ a3 (show ((0, 4) : Nat × Nat) ≠ (0, 3) by decide), hn _ _ a4 (show ((2, 0) : Nat × Nat) ≠ (0, 3) by decide), a5⟩
def q_X (D : Nat → mD) (B : Nat → Int32 × Int32 × Int32 × Int32) (FI : Nat → Nat → Int64) (PI : Nat → Option pI) (y k : Int32) (a : Nat) : wX :=
  (q_bw (B a).1 (B a).2.2.1 k, (PI a).map (fun p => q_df (q_wa p.2.1 p.2.2.2.1 p.2.2.2.2.2 (q_ln p.2.2.1 (y - (D a).2.2.1))) (q_fdiv (k * 64 - (D a).2.1) 64) (q_fmod (k * 64 - (D a).2.1) 64)), FI a (y &&& 15).toNatClampNeg, (D a).2.2.2.2.2.1, (D a).2.2.2.2.2.2)
theorem wu_of {h' : hp_T} {c1 : ClassId} {D : Nat → mD} {bol' : Nat → Option Nat} {as fs : List Nat} {B : Nat → Int32 × Int32 × Int32 × Int32} {FI : Nat → Nat → Int64} {PI : Nat → Option pI} (hm : mc h' D bol' as) (hl : lk bol' fs) (hs : ∀ a ∈ fs, a ∈ as) (hok : ∀ a ∈ as, mk_ok h' c1 (D a) (B a) (FI a) (PI a)) (y k : Int32) : ∀ (P : List Nat) (a : Nat) (r : List Nat), fs = P ++ a :: r → wu_ok h' c1 y k a r.head? (q_X D B FI PI y k a) := by
  intro P a r he
  have ha : a ∈ as := hs a (by rw [he]; exact List.mem_append_right _ List.mem_cons_self)
  obtain ⟨P', r', he'⟩ := List.append_of_mem ha
  have hc := hm P' a r' he'
  rw [hl P a r he] at hc
  obtain ⟨h1, ⟨kd, val, ib, h2, h3⟩, h4⟩ := hok a ha
  refine ⟨_, _, _, _, _, _, _, _, _, _, _, _, kd, val, ib, FI a, hc, h1, h2, h3, rfl, rfl, ?_⟩
  rcases h4 with ⟨a1, a2⟩ | ⟨q, b, p, a1, a2, a3, a4, a5⟩
  · exact Or.inl ⟨a1, by unfold q_X; rw [a2]; rfl⟩
  · exact Or.inr ⟨q, _, _, _, _, b, _, _, a1, a3, a4, a5, by unfold q_X; rw [a2]; rfl⟩

set_option maxHeartbeats 4000000 in
set_option maxRecDepth 100000 in
theorem c_Pl_wordOf (l : Launch) (dC : Nat → ClassId) (dI : Nat → Nat → Nat) (cA : Nat → ClassId) (A : Nat → Prop) (h : hp_T) (t bl st n : Nat) (sz : Int32) (as : List Nat) (D : Nat → mD) (bol : Nat → Option Nat) (B : Nat → Int32 × Int32 × Int32 × Int32) (FI : Nat → Nat → Int64) (PI : Nat → Option pI) (y k : Int32) (hnd : as.Nodup) (hm : mc h D bol as) (hok : ∀ a ∈ as, mk_ok h (cA 1) (D a) (B a) (FI a) (PI a)) (h_t : h t = some (k_Pl (nI n) bl st sz as.head?)) : Met l y_Pl_wordOf (.code y_Pl_wordOf prog_6_method_5_code 3 (some .long) :: BIG) ({ frames := 4, cells := 0, slots := 0, locals := 105 }) (va_Pc [.ref t, .int y, .int k] (hp_I (gg dC dI cA) A h)) (hp_QW (gg dC dI cA) A hp_ml (fun r h' => r = q_wu (q_X D B FI PI y k) (as.filter (q_me B y)) (-1) 0 ∧ ∃ bol', mc h' D bol' as ∧ ∀ a, a ∉ as → h' a = h a)) 0 0 A := by
  refine hp_enter (by decide) (Nat.le_of_ble_eq_true rfl) ?_
  intro p e s m below meth c ls S hr hlk hin hI hl
  have hl : lv_has ls 3 [(0, .ref t), (1, .int y), (2, .int k)] := hl
  have hJ := hI.J
  refine lv_aload_n S.1 S.2.1 d_Pl_wordOf_0 rfl (lv_at hl 0 rfl) ?_
  refine lv_iload_n S.1 S.2.1 d_Pl_wordOf_1 rfl (lv_at hl 1 rfl) ?_
  refine hp_doneWq hJ (hp_runV S zz0 (c_Pl_newestOnLine l dC dI cA A h t bl st n sz y as D bol B hnd hm (fun a ha => (hok a ha).1) h_t) l_Pl_78 (hJ.preV _ h_t rfl) (by decide) rfl hl.1 rfl (nl rfl) d_Pl_wordOf_2 (by decide)) (fun rq h1 H locs hx hJ => ?_)
  obtain ⟨bol', erq, hlk', hm1, ho1⟩ := hx
  subst erq
  have hok1 : ∀ a ∈ as, mk_ok h1 (cA 1) (D a) (B a) (FI a) (PI a) := fun a ha => (hok a ha).keep (nm_of hm ho1)
  obtain ⟨fs, hfs⟩ : ∃ z, z = as.filter (q_me B y) := ⟨_, rfl⟩
  rw [← hfs] at hlk'
  have hwu := fun k => wu_of hm1 hlk' (fun a ha => (List.mem_filter.mp (hfs ▸ ha)).1) hok1 y k
  have h_t : h1 t = some (k_Pl (nI n) bl st sz as.head?) := nm_of hm ho1 _ _ h_t (show ((0, 5) : Nat × Nat) ≠ (0, 3) by decide)
  rw [show (as.filter (q_me B y)).head? = fs.head? by rw [hfs]]
  cases fs with
  | nil =>
    replace hfs := hfs.symm
    rw [show va_rf ([] : List Nat).head? = .null from rfl]
    refine lv_iload_n S.1 S.2.1 d_Pl_wordOf_5 rfl (lv_at hl 1 rfl) ?_
    refine lv_iload_n S.1 S.2.1 d_Pl_wordOf_6 rfl (lv_at hl 2 rfl) ?_
    refine hp_doneR (hp_runS S zz0 (cN_Pl_wordUnder l dC dI cA A h1 _ _) l_Pl_82 (hJ.pre _) (by decide) rfl hl.1 rfl (nl rfl) d_Pl_wordOf_7 (by decide)) ?_
    exact hp_retWl S hJ hr hlk d_Pl_wordOf_10 (by decide) ⟨by rw [hfs]; rfl, bol', hm1, ho1⟩
  | cons a0 r0 =>
    replace hfs := hfs.symm
    rw [show va_rf (a0 :: r0).head? = .ref a0 from rfl]
    refine lv_iload_n S.1 S.2.1 d_Pl_wordOf_5 rfl (lv_at hl 1 rfl) ?_
    refine lv_iload_n S.1 S.2.1 d_Pl_wordOf_6 rfl (lv_at hl 2 rfl) ?_
    refine hp_doneR (hp_runS S zz0 (cS_Pl_wordUnder l dC dI cA A h1 a0 r0 (q_X D B FI PI y k) y k (hwu k)) l_Pl_82 (hJ.pre _) (by decide) rfl hl.1 rfl (nl rfl) d_Pl_wordOf_7 (by decide)) ?_
    exact hp_retWl S hJ hr hlk d_Pl_wordOf_10 (by decide) ⟨by rw [hfs], bol', hm1, ho1⟩

def q_fr (B : Nat → Int32 × Int32 × Int32 × Int32) : List Nat → Int32 → Int32
  | [], x => x
  | a :: r, x => q_fr B r (q_min x (B a).1)
def q_tx (B : Nat → Int32 × Int32 × Int32 × Int32) : List Nat → Int32 → Int32
  | [], x => x
  | a :: r, x => q_tx B r (q_max x (B a).2.2.1)
def q_sm (g : Nat → Int32) (lo : Nat) : Nat → Int32
  | 0 => 0
  | n + 1 => q_sm g lo n + g (lo + n)

set_option maxHeartbeats 4000000 in
set_option maxRecDepth 100000 in
theorem c_Pl_countedBlacks (l : Launch) (dC : Nat → ClassId) (dI : Nat → Nat → Nat) (cA : Nat → ClassId) (A : Nat → Prop) (h : hp_T) (t bl st n : Nat) (sz : Int32) (as : List Nat) (D : Nat → mD) (bol : Nat → Option Nat) (B : Nat → Int32 × Int32 × Int32 × Int32) (FI : Nat → Nat → Int64) (PI : Nat → Option pI) (y : Int32) (f1 t1 : Nat) (hnd : as.Nodup) (hm : mc h D bol as) (hok : ∀ a ∈ as, mk_ok h (cA 1) (D a) (B a) (FI a) (PI a)) (h_t : h t = some (k_Pl (nI n) bl st sz as.head?)) (hf1 : f1 ≤ 5100 ∧ q_fr B (as.filter (q_me B y)) 5100 / 64 = nI f1) (ht1 : t1 ≤ 5100 ∧ q_tx B (as.filter (q_me B y)) 0 / 64 = nI t1) : Met l y_Pl_countedBlacks (.code y_Pl_countedBlacks prog_6_method_8_code 7 (some .int) :: BIG) ({ frames := 4, cells := 0, slots := 0, locals := 105 }) (va_Pc [.ref t, .int y] (hp_I (gg dC dI cA) A h)) (hp_QW (gg dC dI cA) A hp_mi (fun r h' => r = q_sm (fun k => q_bc (q_wu (q_X D B FI PI y (nI k)) (as.filter (q_me B y)) (-1) 0)) f1 (t1 + 1 - f1) ∧ ∃ bol', mc h' D bol' as ∧ ∀ a, a ∉ as → h' a = h a)) 0 0 A := by
  refine hp_enter (by decide) (Nat.le_of_ble_eq_true rfl) ?_
  intro p e s m below meth c ls S hr hlk hin hI hl
  have hl : lv_has ls 7 [(0, .ref t), (1, .int y)] := hl
  have hJ := hI.J
  refine lv_aload_n S.1 S.2.1 d_Pl_countedBlacks_0 rfl (lv_at hl 0 rfl) ?_
  refine lv_iload_n S.1 S.2.1 d_Pl_countedBlacks_1 rfl (lv_at hl 1 rfl) ?_
  refine hp_doneWq hJ (hp_runV S zz0 (c_Pl_newestOnLine l dC dI cA A h t bl st n sz y as D bol B hnd hm (fun a ha => (hok a ha).1) h_t) l_Pl_78 (hJ.preV _ h_t rfl) (by decide) rfl hl.1 rfl (nl rfl) d_Pl_countedBlacks_2 (by decide)) (fun rq h1 H locs hx hJ => ?_)
  obtain ⟨bol', erq, hlk', hm1, ho1⟩ := hx
  subst erq
  have hok1 : ∀ a ∈ as, mk_ok h1 (cA 1) (D a) (B a) (FI a) (PI a) := fun a ha => (hok a ha).keep (nm_of hm ho1)
  obtain ⟨fs, hfs⟩ : ∃ z, z = as.filter (q_me B y) := ⟨_, rfl⟩
  rw [← hfs] at hlk'
  have hwu := fun k => wu_of hm1 hlk' (fun a ha => (List.mem_filter.mp (hfs ▸ ha)).1) hok1 y k
  have h_t : h1 t = some (k_Pl (nI n) bl st sz as.head?) := nm_of hm ho1 _ _ h_t (show ((0, 5) : Nat × Nat) ≠ (0, 3) by decide)
  rw [show (as.filter (q_me B y)).head? = fs.head? by rw [hfs]]
  cases fs with
  | nil =>
    replace hfs := hfs.symm
    rw [show va_rf ([] : List Nat).head? = .null from rfl]
    refine lv_astore_nN (lv' := [(2, .null), (0, .ref t), (1, .int y)]) S.1 S.2.1 d_Pl_countedBlacks_5 rfl hl (by decide) rfl (fun ls hl => ?_)
    refine lv_sipush (v := 5100) S.1 S.2.1 d_Pl_countedBlacks_6 (by decide) ?_
    refine lv_istore_n (lv' := [(3, .int 5100), (2, .null), (0, .ref t), (1, .int y)]) S.1 S.2.1 d_Pl_countedBlacks_9 rfl hl (by decide) rfl (fun ls hl => ?_)
    refine lv_iconst (v := 0) S.1 S.2.1 d_Pl_countedBlacks_10 (by decide) ?_
    refine lv_istore (lv' := [(4, .int 0), (3, .int 5100), (2, .null), (0, .ref t), (1, .int y)]) S.1 S.2.1 d_Pl_countedBlacks_11 hl (by decide) rfl (fun ls hl => ?_)
    refine lv_aload_nN S.1 S.2.1 d_Pl_countedBlacks_13 rfl (lv_at hl 2 rfl) ?_
    refine lv_astoreN (lv' := [(5, .null), (4, .int 0), (3, .int 5100), (2, .null), (0, .ref t), (1, .int y)]) S.1 S.2.1 d_Pl_countedBlacks_14 hl (by decide) rfl (fun ls hl => ?_)
    refine lv_aloadN S.1 S.2.1 d_Pl_countedBlacks_16 (lv_at hl 0 rfl) ?_
    refine lv_ifnullN (tgt := 59) S.1 S.2.1 d_Pl_countedBlacks_18 (by decide) ?_
    refine lv_iconst (v := 0) S.1 S.2.1 d_Pl_countedBlacks_59 (by decide) ?_
    refine lv_istore (lv' := [(5, .int 0), (4, .int 0), (3, .int 5100), (2, .null), (0, .ref t), (1, .int y)]) S.1 S.2.1 d_Pl_countedBlacks_60 hl (by decide) rfl (fun ls hl => ?_)
    refine lv_iload_n S.1 S.2.1 d_Pl_countedBlacks_62 rfl (lv_at hl 2 rfl) ?_
    refine lv_bipush (v := 64) S.1 S.2.1 d_Pl_countedBlacks_63 (by decide) ?_
    rw [hfs] at hf1 ht1
    have hfr1 : (5100 : Int32) / 64 = nI f1 := hf1.2
    have hto1 : (0 : Int32) / 64 = nI t1 := ht1.2
    refine lv_idiv S.1 S.2.1 d_Pl_countedBlacks_65 (by decide) ?_
    rw [hfr1]
    refine lv_istore (lv' := [(6, .int (nI f1)), (5, .int 0), (4, .int 0), (3, .int 5100), (2, .null), (0, .ref t), (1, .int y)]) S.1 S.2.1 d_Pl_countedBlacks_66 hl (by decide) rfl (fun ls hl => ?_)
    have LQ : ∀ (m_ j : Nat) (ls : Array Slot), j + m_ = t1 + 1 - f1 → lv_has ls 7 [(6, .int (nI (f1 + j))), (5, .int (q_sm (fun k => q_bc (q_wu (q_X D B FI PI y (nI k)) [] (-1) 0)) f1 j)), (4, .int 0), (2, .null), (0, .ref t), (1, .int y)] → W p l e ({ frames := 4, cells := 0, slots := 0, locals := 105 }) s m ([.ref t, .int y] : List Value).toArray below meth c H locs 0 0 (MQ below (hp_QW (gg dC dI cA) A hp_mi (fun r h' => r = q_sm (fun k => q_bc (q_wu (q_X D B FI PI y (nI k)) (as.filter (q_me B y)) (-1) 0)) f1 (t1 + 1 - f1) ∧ ∃ bol', mc h' D bol' as ∧ ∀ a, a ∉ as → h' a = h a)) ([.ref t, .int y] : List Value).toArray s 0 0 A) (F0 m 68 ls []) := by
      intro m_
      induction m_ with
      | zero =>
        intro j ls hu hl
        refine lv_iload S.1 S.2.1 d_Pl_countedBlacks_68 (lv_at hl 0 rfl) ?_
        refine lv_iload S.1 S.2.1 d_Pl_countedBlacks_70 (lv_at hl 2 rfl) ?_
        refine lv_bipush (v := 64) S.1 S.2.1 d_Pl_countedBlacks_72 (by decide) ?_
        refine lv_idiv S.1 S.2.1 d_Pl_countedBlacks_74 (by decide) ?_
        rw [hto1]
        refine lv_icmp_gt (tgt := 99) S.1 S.2.1 d_Pl_countedBlacks_75 (by decide) (fun _ => ?_) (fun q => absurd (nI_lt (by omega) (by omega)) q)
        refine lv_iload S.1 S.2.1 d_Pl_countedBlacks_99 (lv_at hl 1 rfl) ?_
        exact hp_retWi S hJ hr hlk d_Pl_countedBlacks_101 (by decide) ⟨by rw [hfs, ← show j = t1 + 1 - f1 by omega], bol', hm1, ho1⟩
      | succ m_ ihq =>
        intro j ls hu hl
        refine lv_iload S.1 S.2.1 d_Pl_countedBlacks_68 (lv_at hl 0 rfl) ?_
        refine lv_iload S.1 S.2.1 d_Pl_countedBlacks_70 (lv_at hl 2 rfl) ?_
        refine lv_bipush (v := 64) S.1 S.2.1 d_Pl_countedBlacks_72 (by decide) ?_
        refine lv_idiv S.1 S.2.1 d_Pl_countedBlacks_74 (by decide) ?_
        rw [hto1]
        refine lv_icmp_gt (tgt := 99) S.1 S.2.1 d_Pl_countedBlacks_75 (by decide) (fun q => absurd ((nI_ltI (by omega) (by omega)).mp q) (by omega)) (fun _ => ?_)
        refine lv_iload S.1 S.2.1 d_Pl_countedBlacks_78 (lv_at hl 1 rfl) ?_
        refine lv_aload_nN S.1 S.2.1 d_Pl_countedBlacks_80 rfl (lv_at hl 3 rfl) ?_
        refine lv_iload_n S.1 S.2.1 d_Pl_countedBlacks_81 rfl (lv_at hl 5 rfl) ?_
        refine lv_iload S.1 S.2.1 d_Pl_countedBlacks_82 (lv_at hl 0 rfl) ?_
        refine hp_doneR (hp_runS S zz0 (cN_Pl_wordUnder l dC dI cA A h1 _ _) l_Pl_82 (hJ.pre _) (by decide) rfl hl.1 rfl (nl rfl) d_Pl_countedBlacks_84 (by decide)) ?_
        refine hp_doneR (hp_runS S zz0 (c_JL_bitCount l _) l_Pl_103 (hp_pre0 _) (by decide) rfl hl.1 rfl (nl rfl) d_Pl_countedBlacks_87 (by decide)) ?_
        refine lv_iadd S.1 S.2.1 d_Pl_countedBlacks_90 ?_
        refine lv_istore (lv' := [(5, .int _), (6, .int (nI (f1 + j))), (4, .int 0), (2, .null), (0, .ref t), (1, .int y)]) S.1 S.2.1 d_Pl_countedBlacks_91 hl (by decide) rfl (fun ls hl => ?_)
        refine lv_iinc (v := nI (f1 + (j + 1))) (lv' := [(6, .int (nI (f1 + (j + 1)))), (5, .int _), (4, .int 0), (2, .null), (0, .ref t), (1, .int y)]) S.1 S.2.1 d_Pl_countedBlacks_93 hl (k := 1) rfl (nI_1 _) (by decide) rfl (fun ls hl => ?_)
        refine lv_goto (tgt := 68) S.1 S.2.1 d_Pl_countedBlacks_96 (by decide) ?_
        exact ihq (j + 1) ls (by omega) (lv_sub hl [0, 1, 2, 3, 4, 5] rfl)
    exact LQ (t1 + 1 - f1) 0 ls (by omega) (lv_sub hl [0, 1, 2, 4, 5, 6] rfl)
  | cons a0 r0 =>
    replace hfs := hfs.symm
    rw [show va_rf (a0 :: r0).head? = .ref a0 from rfl]
    refine lv_astore_n (lv' := [(2, .ref a0), (0, .ref t), (1, .int y)]) S.1 S.2.1 d_Pl_countedBlacks_5 rfl hl (by decide) rfl (fun ls hl => ?_)
    refine lv_sipush (v := 5100) S.1 S.2.1 d_Pl_countedBlacks_6 (by decide) ?_
    refine lv_istore_n (lv' := [(3, .int 5100), (2, .ref a0), (0, .ref t), (1, .int y)]) S.1 S.2.1 d_Pl_countedBlacks_9 rfl hl (by decide) rfl (fun ls hl => ?_)
    refine lv_iconst (v := 0) S.1 S.2.1 d_Pl_countedBlacks_10 (by decide) ?_
    refine lv_istore (lv' := [(4, .int 0), (3, .int 5100), (2, .ref a0), (0, .ref t), (1, .int y)]) S.1 S.2.1 d_Pl_countedBlacks_11 hl (by decide) rfl (fun ls hl => ?_)
    refine lv_aload_n S.1 S.2.1 d_Pl_countedBlacks_13 rfl (lv_at hl 2 rfl) ?_
    refine lv_astore (lv' := [(5, .ref a0), (4, .int 0), (3, .int 5100), (2, .ref a0), (0, .ref t), (1, .int y)]) S.1 S.2.1 d_Pl_countedBlacks_14 hl (by decide) rfl (fun ls hl => ?_)
    have LP : ∀ (R P : List Nat), a0 :: r0 = P ++ R → ∀ (fr to : Int32) (ls : Array Slot), q_fr B R fr = q_fr B (a0 :: r0) 5100 → q_tx B R to = q_tx B (a0 :: r0) 0 → lv_has ls 7 [(5, va_rf R.head?), (3, .int fr), (4, .int to), (2, .ref a0), (0, .ref t), (1, .int y)] → W p l e ({ frames := 4, cells := 0, slots := 0, locals := 105 }) s m ([.ref t, .int y] : List Value).toArray below meth c H locs 0 0 (MQ below (hp_QW (gg dC dI cA) A hp_mi (fun r h' => r = q_sm (fun k => q_bc (q_wu (q_X D B FI PI y (nI k)) (as.filter (q_me B y)) (-1) 0)) f1 (t1 + 1 - f1) ∧ ∃ bol', mc h' D bol' as ∧ ∀ a, a ∉ as → h' a = h a)) ([.ref t, .int y] : List Value).toArray s 0 0 A) (F0 m 16 ls []) := by
      intro R
      induction R with
      | nil =>
        intro P heR fr to ls hfr hto hl
        replace hl : lv_has ls 7 [(5, .null), (3, .int fr), (4, .int to), (2, .ref a0), (0, .ref t), (1, .int y)] := hl
        replace hfr : fr = q_fr B (a0 :: r0) 5100 := hfr
        replace hto : to = q_tx B (a0 :: r0) 0 := hto
        refine lv_aloadN S.1 S.2.1 d_Pl_countedBlacks_16 (lv_at hl 0 rfl) ?_
        refine lv_ifnullN (tgt := 59) S.1 S.2.1 d_Pl_countedBlacks_18 (by decide) ?_
        refine lv_iconst (v := 0) S.1 S.2.1 d_Pl_countedBlacks_59 (by decide) ?_
        refine lv_istore (lv' := [(5, .int 0), (3, .int fr), (4, .int to), (2, .ref a0), (0, .ref t), (1, .int y)]) S.1 S.2.1 d_Pl_countedBlacks_60 hl (by decide) rfl (fun ls hl => ?_)
        refine lv_iload_n S.1 S.2.1 d_Pl_countedBlacks_62 rfl (lv_at hl 1 rfl) ?_
        refine lv_bipush (v := 64) S.1 S.2.1 d_Pl_countedBlacks_63 (by decide) ?_
        rw [hfs] at hf1 ht1
        have hfr1 : fr / 64 = nI f1 := by rw [hfr]; exact hf1.2
        have hto1 : to / 64 = nI t1 := by rw [hto]; exact ht1.2
        refine lv_idiv S.1 S.2.1 d_Pl_countedBlacks_65 (by decide) ?_
        rw [hfr1]
        refine lv_istore (lv' := [(6, .int (nI f1)), (5, .int 0), (3, .int fr), (4, .int to), (2, .ref a0), (0, .ref t), (1, .int y)]) S.1 S.2.1 d_Pl_countedBlacks_66 hl (by decide) rfl (fun ls hl => ?_)
        have LQ : ∀ (m_ j : Nat) (ls : Array Slot), j + m_ = t1 + 1 - f1 → lv_has ls 7 [(6, .int (nI (f1 + j))), (5, .int (q_sm (fun k => q_bc (q_wu (q_X D B FI PI y (nI k)) (a0 :: r0) (-1) 0)) f1 j)), (4, .int to), (2, .ref a0), (0, .ref t), (1, .int y)] → W p l e ({ frames := 4, cells := 0, slots := 0, locals := 105 }) s m ([.ref t, .int y] : List Value).toArray below meth c H locs 0 0 (MQ below (hp_QW (gg dC dI cA) A hp_mi (fun r h' => r = q_sm (fun k => q_bc (q_wu (q_X D B FI PI y (nI k)) (as.filter (q_me B y)) (-1) 0)) f1 (t1 + 1 - f1) ∧ ∃ bol', mc h' D bol' as ∧ ∀ a, a ∉ as → h' a = h a)) ([.ref t, .int y] : List Value).toArray s 0 0 A) (F0 m 68 ls []) := by
          intro m_
          induction m_ with
          | zero =>
            intro j ls hu hl
            refine lv_iload S.1 S.2.1 d_Pl_countedBlacks_68 (lv_at hl 0 rfl) ?_
            refine lv_iload S.1 S.2.1 d_Pl_countedBlacks_70 (lv_at hl 2 rfl) ?_
            refine lv_bipush (v := 64) S.1 S.2.1 d_Pl_countedBlacks_72 (by decide) ?_
            refine lv_idiv S.1 S.2.1 d_Pl_countedBlacks_74 (by decide) ?_
            rw [hto1]
            refine lv_icmp_gt (tgt := 99) S.1 S.2.1 d_Pl_countedBlacks_75 (by decide) (fun _ => ?_) (fun q => absurd (nI_lt (by omega) (by omega)) q)
            refine lv_iload S.1 S.2.1 d_Pl_countedBlacks_99 (lv_at hl 1 rfl) ?_
            exact hp_retWi S hJ hr hlk d_Pl_countedBlacks_101 (by decide) ⟨by rw [hfs, ← show j = t1 + 1 - f1 by omega], bol', hm1, ho1⟩
          | succ m_ ihq =>
            intro j ls hu hl
            refine lv_iload S.1 S.2.1 d_Pl_countedBlacks_68 (lv_at hl 0 rfl) ?_
            refine lv_iload S.1 S.2.1 d_Pl_countedBlacks_70 (lv_at hl 2 rfl) ?_
            refine lv_bipush (v := 64) S.1 S.2.1 d_Pl_countedBlacks_72 (by decide) ?_
            refine lv_idiv S.1 S.2.1 d_Pl_countedBlacks_74 (by decide) ?_
            rw [hto1]
            refine lv_icmp_gt (tgt := 99) S.1 S.2.1 d_Pl_countedBlacks_75 (by decide) (fun q => absurd ((nI_ltI (by omega) (by omega)).mp q) (by omega)) (fun _ => ?_)
            refine lv_iload S.1 S.2.1 d_Pl_countedBlacks_78 (lv_at hl 1 rfl) ?_
            refine lv_aload_n S.1 S.2.1 d_Pl_countedBlacks_80 rfl (lv_at hl 3 rfl) ?_
            refine lv_iload_n S.1 S.2.1 d_Pl_countedBlacks_81 rfl (lv_at hl 5 rfl) ?_
            refine lv_iload S.1 S.2.1 d_Pl_countedBlacks_82 (lv_at hl 0 rfl) ?_
            refine hp_doneR (hp_runS S zz0 (cS_Pl_wordUnder l dC dI cA A h1 a0 r0 (q_X D B FI PI y (nI (f1 + j))) y (nI (f1 + j)) (hwu (nI (f1 + j)))) l_Pl_82 (hJ.pre _) (by decide) rfl hl.1 rfl (nl rfl) d_Pl_countedBlacks_84 (by decide)) ?_
            refine hp_doneR (hp_runS S zz0 (c_JL_bitCount l _) l_Pl_103 (hp_pre0 _) (by decide) rfl hl.1 rfl (nl rfl) d_Pl_countedBlacks_87 (by decide)) ?_
            refine lv_iadd S.1 S.2.1 d_Pl_countedBlacks_90 ?_
            refine lv_istore (lv' := [(5, .int _), (6, .int (nI (f1 + j))), (4, .int to), (2, .ref a0), (0, .ref t), (1, .int y)]) S.1 S.2.1 d_Pl_countedBlacks_91 hl (by decide) rfl (fun ls hl => ?_)
            refine lv_iinc (v := nI (f1 + (j + 1))) (lv' := [(6, .int (nI (f1 + (j + 1)))), (5, .int _), (4, .int to), (2, .ref a0), (0, .ref t), (1, .int y)]) S.1 S.2.1 d_Pl_countedBlacks_93 hl (k := 1) rfl (nI_1 _) (by decide) rfl (fun ls hl => ?_)
            refine lv_goto (tgt := 68) S.1 S.2.1 d_Pl_countedBlacks_96 (by decide) ?_
            exact ihq (j + 1) ls (by omega) (lv_sub hl [0, 1, 2, 3, 4, 5] rfl)
        exact LQ (t1 + 1 - f1) 0 ls (by omega) (lv_sub hl [0, 1, 3, 4, 5, 6] rfl)
      | cons a r ih =>
        intro P heR fr to ls hfr hto hl
        replace hl : lv_has ls 7 [(5, .ref a), (3, .int fr), (4, .int to), (2, .ref a0), (0, .ref t), (1, .int y)] := hl
        have haf : a ∈ as := (List.mem_filter.mp (show a ∈ as.filter (q_me B y) by rw [hfs, heR]; exact List.mem_append_right _ List.mem_cons_self)).1
        obtain ⟨P9, r9, he9⟩ := List.append_of_mem haf
        have h_a := hm1 P9 a r9 he9
        rw [hlk' P a r heR] at h_a
        have h_pt := (hok1 a haf).1
        rcases hDa : D a with ⟨pc, lf, tp, pt, ik, so, io⟩
        rw [hDa] at h_a h_pt
        replace h_a : h1 a = some (.inr (3, [va_rf pc, .int lf, .int tp, .ref pt, .ref ik, .int so, .int io, va_rf r9.head?, va_rf r.head?])) := h_a
        replace h_pt : h1 pt = some (k_Bx (B a).1 (B a).2.1 (B a).2.2.1 (B a).2.2.2) := h_pt
        refine lv_aload S.1 S.2.1 d_Pl_countedBlacks_16 (lv_at hl 0 rfl) ?_
        refine lv_ifnull S.1 S.2.1 d_Pl_countedBlacks_18 ?_
        refine lv_iload_n S.1 S.2.1 d_Pl_countedBlacks_21 rfl (lv_at hl 1 rfl) ?_
        refine lv_aload S.1 S.2.1 d_Pl_countedBlacks_22 (lv_at hl 0 rfl) ?_
        refine hp_get S zz hJ h_a f_Pl_36 rfl d_Pl_countedBlacks_24 ?_
        refine hp_get S zz hJ h_pt f_Pl_94 rfl d_Pl_countedBlacks_27 ?_
        refine hp_min S l_Pl_67 hl.1 d_Pl_countedBlacks_30 ⟨nl rfl, nl rfl, nl rfl, nl rfl⟩ ?_
        refine lv_istore_n (lv' := [(3, .int (if (B a).1 < fr then (B a).1 else fr)), (5, .ref a), (4, .int to), (2, .ref a0), (0, .ref t), (1, .int y)]) S.1 S.2.1 d_Pl_countedBlacks_33 rfl hl (by decide) rfl (fun ls hl => ?_)
        refine lv_iload S.1 S.2.1 d_Pl_countedBlacks_34 (lv_at hl 2 rfl) ?_
        refine lv_aload S.1 S.2.1 d_Pl_countedBlacks_36 (lv_at hl 1 rfl) ?_
        refine hp_get S zz hJ h_a f_Pl_36 rfl d_Pl_countedBlacks_38 ?_
        refine hp_get S zz hJ h_pt f_Pl_97 rfl d_Pl_countedBlacks_41 ?_
        refine hp_max S l_Pl_58 hl.1 d_Pl_countedBlacks_44 ⟨nl rfl, nl rfl, nl rfl, nl rfl⟩ ?_
        refine lv_istore (lv' := [(4, .int _), (3, .int (if (B a).1 < fr then (B a).1 else fr)), (5, .ref a), (2, .ref a0), (0, .ref t), (1, .int y)]) S.1 S.2.1 d_Pl_countedBlacks_47 hl (by decide) rfl (fun ls hl => ?_)
        refine lv_aload S.1 S.2.1 d_Pl_countedBlacks_49 (lv_at hl 2 rfl) ?_
        generalize hr8 : r.head? = r8 at h_a
        cases r8 with
        | none =>
          refine hp_get S zz hJ h_a f_Pl_100 rfl d_Pl_countedBlacks_51 ?_
          refine lv_astoreN (lv' := [(5, .null), (4, .int _), (3, .int (if (B a).1 < fr then (B a).1 else fr)), (2, .ref a0), (0, .ref t), (1, .int y)]) S.1 S.2.1 d_Pl_countedBlacks_54 hl (by decide) rfl (fun ls hl => ?_)
          refine lv_goto (tgt := 16) S.1 S.2.1 d_Pl_countedBlacks_56 (by decide) ?_
          exact ih (P ++ [a]) (by rw [heR]; simp) _ _ ls hfr hto (by rw [hr8]; exact lv_sub hl [0, 2, 1, 3, 4, 5] rfl)
        | some c0 =>
          refine hp_get S zz hJ h_a f_Pl_100 rfl d_Pl_countedBlacks_51 ?_
          refine lv_astore (lv' := [(5, .ref c0), (4, .int _), (3, .int (if (B a).1 < fr then (B a).1 else fr)), (2, .ref a0), (0, .ref t), (1, .int y)]) S.1 S.2.1 d_Pl_countedBlacks_54 hl (by decide) rfl (fun ls hl => ?_)
          refine lv_goto (tgt := 16) S.1 S.2.1 d_Pl_countedBlacks_56 (by decide) ?_
          exact ih (P ++ [a]) (by rw [heR]; simp) _ _ ls hfr hto (by rw [hr8]; exact lv_sub hl [0, 2, 1, 3, 4, 5] rfl)
    exact LP (a0 :: r0) [] rfl 5100 0 ls rfl rfl (lv_sub hl [0, 2, 1, 3, 4, 5] rfl)

