/-! THE CLAIM OUT OF ONE WALK OF THE LAW'S BODY. Your part is whole_start (and what it stands on); all else here is the same for every law, but numbers. -/
def R_law : String := "BandPainterLaw"
def lw_P (b : Addr) (xs : List Int32) (args : Array Value) (s : State) : Prop := args = #[.ref b] ∧ s.IntsAt b xs ∧ xs.length ≤ 3587 ∧ (Jvm.Cond.and given_1 narrow_1).before args s = true
def lw_Q (_ : Array Value) (s : State) (o : Outcome) (t : State) : Prop := o = .returned (some (.int 1)) ∧ Framed s o t [] 601024 7292999
def lw_Z (below : List Frame) (a : Array Value) (s : State) : State → Prop := fun t => ∃ o, t.status = .running ∧ Ended t below o ∧ lw_Q a s o t
/-- the law's own end, with 1 on the stack, nothing written that was there before, its room as the claim has it -/
theorem lw_ret {p : Program} {l : Launch} {e : Env} {s : State} {m : MethodId} {below : List Frame} {meth : Method} {c : Code} {b : Nat} (hx : p.tables.exec = Jvm.exec) (hb : c.code = code) (hr : meth.sig.returnType = ret) (hlocks : meth.locks = false) {pc : Nat} {H : Heap} {ls : Array Slot} (hdg : decode code pc = .ok (.ireturn, 1)) : W p l e room_1 s m #[Value.ref b] below meth c H [] 601024 7292999 (lw_Z below #[Value.ref b] s) (F0 m pc ls [.int 1]) := by
  intro T hT X
  obtain ⟨fs, hret, hrun, hended, hW, hframe⟩ := X.leave (v := some (.int 1)) (hlocks := hlocks) (fun h => by rw [hr] at h; cases h)
  have hmeth' : T.vm.method? m = some meth := X.method'
  refine ⟨T.setFrames fs, ?_, .returned (some (.int 1)), hrun, hended, rfl, ⟨_, rfl⟩, hW, hframe⟩
  jvm_step X.here [X.here.top, hx, hb, hdg, hmeth', hr, ret, narrow_b1]
  (try refine ⟨rfl, ?_⟩); (try refine ⟨rfl, ?_⟩)
  first | (intro acts; rw [hret _ acts rfl rfl rfl]) | rw [hret _ _ rfl rfl rfl]
  exact Steps.refl _
/-- what holds at the law's entry: the machine, the code, the tables' words (any of lw_tbl by 'hts w (by decide +kernel)'), the script of L ints xs at the cell b, what the Statement gives of the start (any of its parts by flat_of_before) -/
def lw_At (p : Program) (s : State) (m : MethodId) (meth : Method) (c : Code) (b L : Nat) (xs : Nat → Int32) : Prop :=
  p.tables.exec = Jvm.exec ∧ c.code = code ∧ meth.sig.returnType = ret ∧ c.maxLocals = 7 ∧ s.vm.findClass R_law = some m.cls ∧ (∀ w ∈ lw_tbl, w.before #[Value.ref b] s = true) ∧ va_X b L xs s s.heap ∧ b < s.heap.size ∧ meth.locks = false ∧ (Jvm.Cond.and given_1 narrow_1).before #[Value.ref b] s = true
set_option maxHeartbeats 4000000 in
set_option maxRecDepth 100000 in
theorem whole_start {p : Program} {e : Env} {s : State} {m : MethodId} {below : List Frame} {meth : Method} {c : Code} (l : Launch) (hst : l.stackTraces = false) {b L : Nat} {xs : Nat → Int32} (hL : L ≤ 3587) (C0 : lw_At p s m meth c b L xs) : W p l e room_1 s m #[Value.ref b] below meth c s.heap [] 0 0 (lw_Z below #[Value.ref b] s) (entryFrame m ([Value.ref b] : List Value).toArray 7) := by
  obtain ⟨hx, hb, hr, hml, hown, hts, hX, hbl, hlocks, hgv⟩ := C0
  have S : CallFix p m c code 7 s #[Value.ref b] BIG "BandPainterLaw" := ⟨hx, hb, hml, hown, fun w hw => hts w (List.mem_filter.mp hw).1⟩
  obtain ⟨dC, dI, cA, hK⟩ := kk_q hts
  have hEX := kk_x hts hgv
  have hbA : ¬ (fun q : Nat => s.heap.size ≤ q) b := Nat.not_le.mpr hbl
  have hJ : hp_J (gg dC dI cA) (fun q => s.heap.size ≤ q) (fun _ => none) s s.heap [] := ⟨fun a e q => (by cases q), hK, fun a e q => (by cases q), va_S.rf, fun q hq => hq⟩
  obtain ⟨Wn, hW1, hW2, hW3⟩ := cl_ex (if 0 < L then xs 0 else 0)
  obtain ⟨HH, hH1, hH2, hH3⟩ := cl_ex (if 1 < L then xs 1 else 0)
  have hcell : ∀ {H : Heap} {locs : List Loc} {h : hp_T} (k : Nat), k < 10 → hp_J (gg dC dI cA) (fun q => s.heap.size ≤ q) h s H locs → PreS s H (va_Pc [.ref b, .int (nI k)] (fun U => va_X b L xs U U.heap ∧ b < U.heap.size)) [.ref b, .int (nI k)] := fun {H locs h} k hk hJ => ⟨fun a U g mk q => ⟨q.1, va_X.moved (u := U) (U := U.calling g mk a) (Vm.Alike.refl U.vm) q.2.1, q.2.2⟩, fun U hU hW => ⟨rfl, by rw [hU]; exact (hX.moved hW.alike).kept (hJ.2.2.2.1.2.1 b hbl hbA), by rw [hU]; exact Nat.lt_of_lt_of_le hbl hJ.2.2.2.1.1⟩⟩
  have hl := lv_entry ([.ref b]) (n := 7) (Nat.le_of_ble_eq_true rfl)
  rw [lg_entry_eq]
  generalize (lg_sl ([.ref b]) ++ List.replicate (7 - (lg_sl ([.ref b])).length) Slot.unset).toArray = ls at hl ⊢
  have hl : lv_has ls 7 [(0, .ref b)] := hl
  refine hp_new S zz hJ (ci := 0) rfl n_La_8 e0_BP_ok (by decide) (by decide) d_La_law_0 (fun x H0 hq_x hs_x hJ0 => ?_)
  refine lv_dup S.1 S.2.1 d_La_law_3 rfl ?_
  refine lv_aload_n S.1 S.2.1 d_La_law_4 rfl (lv_at hl 0 rfl) ?_
  refine lv_iconst (v := 0) S.1 S.2.1 d_La_law_5 (by decide) ?_
  refine hp_doneR (hp_runS S zz0 (c_La_cell l b L 0 xs (by decide) hL) l_La_23 (hcell 0 (by decide) hJ0) (by decide) rfl hl.1 rfl (nl rfl) d_La_law_6 ⟨by show _ ≤ 601024; omega, by show _ ≤ 7292999; omega⟩) ?_
  refine lv_aload_n S.1 S.2.1 d_La_law_9 rfl (lv_at hl 0 rfl) ?_
  refine lv_iconst (v := 1) S.1 S.2.1 d_La_law_10 (by decide) ?_
  refine hp_doneR (hp_runS S zz0 (c_La_cell l b L 1 xs (by decide) hL) l_La_23 (hcell 1 (by decide) hJ0) (by decide) rfl hl.1 rfl (nl rfl) d_La_law_11 ⟨by show _ ≤ 601024; omega, by show _ ≤ 7292999; omega⟩) ?_
  refine lv_aload_n S.1 S.2.1 d_La_law_14 rfl (lv_at hl 0 rfl) ?_
  refine lv_iconst (v := 2) S.1 S.2.1 d_La_law_15 (by decide) ?_
  refine hp_doneR (hp_runS S zz0 (c_La_cell l b L 2 xs (by decide) hL) l_La_23 (hcell 2 (by decide) hJ0) (by decide) rfl hl.1 rfl (nl rfl) d_La_law_16 ⟨by show _ ≤ 601024; omega, by show _ ≤ 7292999; omega⟩) ?_
  refine hp_doneWv hJ0 (hp_runI S zz0 (c_BP_init l dC dI cA _ _ x Wn HH _ _ (if 2 < L then xs 2 else 0) _ ⟨hW1, hW3⟩ ⟨hH1, hH3⟩ rfl (hp_up_s _ _ _)) l_La_29 (hJ0.pre _) (by decide) rfl hl.1 rfl (nl rfl) d_La_law_19 ⟨by show _ ≤ 601024; omega, by show _ ≤ 7292999; omega⟩) (fun hB H1 locs1 hp1 hJ1 => ?_)
  obtain ⟨sheet, shp, bl, st, pil, ib, ink, -, -, -, -, -, -, -, ne_bl_st, ⟨e1, e2, e3, e4, e5, e6, e7⟩, ehB⟩ := hp1
  have e_x : hB x = some (k_BP (q_b0 Wn HH (q_max 1 (q_min (if 2 < L then xs 2 else 0) (nI HH)))) sheet shp pil ink sheet) := by rw [ehB]; exact hp_up_s _ _ _
  refine lv_astore_n (lv' := [(1, .ref x), (0, .ref b)]) S.1 S.2.1 d_La_law_22 rfl hl (by decide) rfl (fun ls hl => ?_)
  refine hp_new S zz hJ1 (ci := 7) rfl n_La_32 e0_Mo_ok (by decide) (by decide) d_La_law_23 (fun t H2 hq_t hs_t hJ2 => ?_)
  refine lv_dup S.1 S.2.1 d_La_law_26 rfl ?_
  refine lv_aload_n S.1 S.2.1 d_La_law_27 rfl (lv_at hl 1 rfl) ?_
  refine lv_iconst (v := 0) S.1 S.2.1 d_La_law_28 (by decide) ?_
  refine hp_doneR (hp_runS S zz0 (c_La_cell l b L 0 xs (by decide) hL) l_La_23 (hcell 0 (by decide) hJ2) (by decide) rfl hl.1 rfl (nl rfl) d_La_law_29 ⟨by show _ ≤ 601024; omega, by show _ ≤ 7292999; omega⟩) ?_
  refine lv_aload_n S.1 S.2.1 d_La_law_32 rfl (lv_at hl 1 rfl) ?_
  refine lv_iconst (v := 1) S.1 S.2.1 d_La_law_33 (by decide) ?_
  refine hp_doneR (hp_runS S zz0 (c_La_cell l b L 1 xs (by decide) hL) l_La_23 (hcell 1 (by decide) hJ2) (by decide) rfl hl.1 rfl (nl rfl) d_La_law_34 ⟨by show _ ≤ 601024; omega, by show _ ≤ 7292999; omega⟩) ?_
  refine lv_aload_n S.1 S.2.1 d_La_law_37 rfl (lv_at hl 1 rfl) ?_
  refine lv_iconst (v := 2) S.1 S.2.1 d_La_law_38 (by decide) ?_
  refine hp_doneR (hp_runS S zz0 (c_La_cell l b L 2 xs (by decide) hL) l_La_23 (hcell 2 (by decide) hJ2) (by decide) rfl hl.1 rfl (nl rfl) d_La_law_39 ⟨by show _ ≤ 601024; omega, by show _ ≤ 7292999; omega⟩) ?_
  refine hp_doneWv hJ2 (hp_runI S zz0 (c_Mo_init l dC dI cA _ _ t HH _ _ (if 2 < L then xs 2 else 0) ⟨hH1, hH2⟩ (hp_up_s _ _ _)) l_La_34 (hJ2.pre _) (by decide) rfl hl.1 rfl (nl rfl) d_La_law_42 ⟨by show _ ≤ 601024; omega, by show _ ≤ 7292999; omega⟩) (fun hD H3 locs3 hp3 hJ3 => ?_)
  obtain ⟨sh, ac, dn, fr, sp, dt, n1, n2, n3, n4, n5, n6, hdis, ⟨d1, d2, d3, d4, d5, d6⟩, ehD⟩ := hp3
  refine lv_astore_n (lv' := [(2, .ref t), (1, .ref x), (0, .ref b)]) S.1 S.2.1 d_La_law_45 rfl hl (by decide) rfl (fun ls hl => ?_)
  refine lv_iconst (v := 1) S.1 S.2.1 d_La_law_46 (by decide) ?_
  refine hp_newa S hJ3 1 (atype := .long) (a0 := (1, .inr (.inl (fun _ => 0)))) (N' := 1) t_114 rfl (by intro C hC; cases hC) rfl (by decide) rfl (by decide) (by decide) (by decide) d_La_law_47 (fun out H4 hq_o hs_o hJ4 => ?_)
  refine lv_astore_n (lv' := [(3, .ref out), (2, .ref t), (1, .ref x), (0, .ref b)]) S.1 S.2.1 d_La_law_49 rfl hl (by decide) rfl (fun ls hl => ?_)
  refine lv_iconst (v := 3) S.1 S.2.1 d_La_law_50 (by decide) ?_
  refine lv_istore (lv' := [(4, .int (nI 3)), (3, .ref out), (2, .ref t), (1, .ref x), (0, .ref b)]) S.1 S.2.1 d_La_law_51 hl (by decide) rfl (fun ls hl => ?_)
  have hup : ∀ {z : Nat}, hp_up hB t (.inr (7, e0_Mo)) z = none → hB z = none := fun q => hp_up_none q
  have hold : ∀ a e, hB a = some e → hD a = some e := fun a e ha => by
    have hC : hp_up hB t (.inr (7, e0_Mo)) a = some e := hp_up_k (hp_neN ha hq_t) ha
    rw [ehD]
    exact hp_up_k (hp_neN ha hq_t) (hp_up_k (hp_neN hC n1) (hp_up_k (hp_neN hC n6) (hp_up_k (hp_neN hC n5) (hp_up_k (hp_neN hC n4) (hp_up_k (hp_neN hC n3) (hp_up_k (hp_neN hC n2) hC))))))
  have hinv : bInv cA x t out 0 0 (fun _ => 0) (hp_up hD out (k_lo (cA 1) 1 (fun _ => 0))) := inv_0 ⟨hW1, hW2⟩ ⟨hH1, hH2⟩ ne_bl_st e_x e1 e2 e3 e4 e5 e6 e7 hq_t (hup n1) (hup n2) (hup n3) (hup n4) (hup n5) (hup n6) hold (by rw [ehD]; exact hp_up_s _ _ _) d1 d2 d3 d4 d5 d6 hdis hq_o
  refine W.widen (k := 100) (n := 500000) (by decide) (by decide) ?_
  refine law_loop S hX hbl hst hEX hL (fun H locs cells slots ls hlo hcs => ?_) 513 3 _ _ _ 100 500000 ls (by omega) (by omega) hJ4 hinv hl (by decide)
  refine lv_iconst (v := 1) S.1 S.2.1 d_La_law_1004 (by decide) ?_
  intro T hT X
  exact W.widen (k := 601024) (n := 7292999) hcs.1 hcs.2 (lw_ret hx hb hr hlocks d_La_law_1005) T hT (Stand.forget (locs := []) X hlo)
set_option maxHeartbeats 4000000 in
theorem lw_walk (l : Launch) (hst : l.stackTraces = false) (b : Addr) (xs : List Int32) : MetFree l x (headSpec (Jvm.Cond.code x code maxLocals ret :: tables_1) room_1) (lw_P b xs) (fun _ _ _ _ _ => True) lw_Q := by
  refine MetFree.of_bodyS (code := code) (maxLocals := maxLocals) (ret := ret) (by decide) ?_ ?_
  · intro args s m h hn
    obtain ⟨meth, c, h1, h2, h3, h4, h5, h6, -, -⟩ := Cond.code_spec hn (atoms_spec (ws := Jvm.Cond.code x code maxLocals ret :: tables_1) h _ List.mem_cons_self)
    exact ⟨meth, c, h1, h2, h3, h4, h5, h6⟩
  · intro p e s m args below meth c s₁ B hml0 hP _
    obtain ⟨rfl, hx, hbd, hgv⟩ := hP
    obtain ⟨scr, harrAt, hlist, hof, hsmall⟩ := hx
    obtain ⟨hcb, hkn, -, -⟩ := State.arrayAt?_spec harrAt
    have hown : s.vm.findClass R_law = some m.cls := findClass_of_methodNamed B.named
    have hts0 : ∀ c ∈ (Jvm.Cond.code x code maxLocals ret :: tables_1), c.before #[Value.ref b] s = true := atoms_spec (ws := Jvm.Cond.code x code maxLocals ret :: tables_1) B.pre
    have hts : ∀ w ∈ lw_tbl, w.before #[Value.ref b] s = true := k2_hts_sels lw_privs (fun w hw => hts0 w (List.mem_cons_of_mem _ hw)) lw_privs_ok
    have hml : c.maxLocals = 7 := B.maxLocals_eq (hts0 _ List.mem_cons_self)
    have X₀ : Stand p l e room_1 s m #[Value.ref b] below meth c s₁ [] 0 0 := Stand.of_body B
    have hh0 : s₁.heap = s.heap := by rw [B.state]; rfl
    have hsz : scr.slots.size = xs.length := by rw [← Array.length_toList, hlist, List.length_map]
    have hval : ∀ j : Nat, j < xs.length → scr.slots[j]? = some (.int (xs.getD j 0)) := fun j hj => by
      rw [← Array.getElem?_toList, hlist]
      simp [hj]
    have hbl : b < s.heap.size := (Array.getElem?_eq_some_iff.mp hcb).1
    have hX : va_X b xs.length (fun j => xs.getD j 0) s s.heap := ⟨scr, hcb, hof, hkn, hsz, hval⟩
    have K : W p l e room_1 s m #[Value.ref b] below meth c s₁.heap [] 0 0 (lw_Z below #[Value.ref b] s) (entryFrame m ([Value.ref b] : List Value).toArray 7) := by
      rw [hh0]
      exact whole_start l hst hbd ⟨B.exec, B.bytes, B.returns, hml, hown, hts, hX, hbl, B.notSynchronized, hgv⟩
    obtain ⟨t, a1, o, b1, b2, b3⟩ := K s₁ rfl X₀
    exact ⟨t, o, a1, b1, b2, b3⟩
theorem lw_pre_spec {args : Array Value} {s : State} (h : (Jvm.Cond.and given_1 narrow_1).before args s = true) (hr : rest_1_c.before args s = true) : ∃ (b : Addr) (xs : List Int32), lw_P b xs args s := by
  have hs := flat_of_before _ h
  have hq := flat_of_before _ hr
  have hc : (Cond.count 1).before args s = true := hs _ (by decide +kernel)
  have harr : (Cond.arrayOf (.arg 0) .int).before args s = true := hs _ (by decide +kernel)
  have hle : (Cond.le (.length (.arg 0)) (.int 3587)).before args s = true := hs _ (by decide +kernel)
  have hlen : (Cond.isInt (.length (.arg 0))).before args s = true := hq _ (by decide +kernel)
  have hall : (Cond.all (.arg 0) (.isInt (.elem (.arg 0) (.index 0)))).before args s = true := hq _ (by decide +kernel)
  obtain ⟨b, xs, hb, hx⟩ := State.ints_of_pre rfl harr hlen hall
  have hsm : xs.length < 2 ^ 31 := hx.choose_spec.2.2.2
  have hev : (Term.length (.arg 0)).eval args s none [] s = some (.int xs.length.toInt32) := hx.length_eval hb
  have hv := Cond.le_ints hev (show (Term.int 3587).eval args s none [] s = some (.int 3587) from rfl)
  have hd : xs.length.toInt32 ≤ 3587 := by
    simpa [Cond.before, Cond.holds, hv] using hle
  have hN : xs.length ≤ 3587 := (Int32.ofNat_le_ofNat hsm (by decide)).mp (show Int32.ofNat xs.length ≤ Int32.ofNat 3587 from hd)
  exact ⟨b, xs, Cond.one_arg hc (show args[0]? = some (.ref b) from hb), hx, hN, h⟩
theorem lw_comes (l : Launch) (hst : l.stackTraces = false) : Comes l x (Jvm.Cond.code x code maxLocals ret :: tables_1) room_1 (fun tb e args s => Calls_1 tb e args s ∧ rest_1 tb e args s ∧ Pre_1 tb e args s)
    (fun _ _ args s o t => lw_Q args s o t) := by
  intro p e ha hc hk s m args below hf hfit hheap happ hpre
  obtain ⟨b, xs, hP⟩ := lw_pre_spec hpre.2.2 hpre.2.1
  obtain ⟨k, o, h1, h2, h3, hQ⟩ := lw_walk l hst b xs p e ha hc hk s m args below hf ((Spec.applies_iff_loose hf).mp happ).1 hP trivial
  exact ⟨k, o, h1, h2, h3, hQ⟩
theorem lw_frame {s t : State} {o : Outcome} {args : Array Value} (h : Framed s o t [] 601024 7292999) :
    Framed s o t (fieldLocs frame_1_writes args s ++ arrayLocs frame_1_arrays args s ++ staticLocs frame_1_statics s) 601024 7292999 := h
theorem lw_limb (L : Cond) (hL : ∀ (args : Array Value) (s t : State), L.after args s (.returned (some (.int 1))) t = true) :
    ArmFor flags0 classFile x code maxLocals ret World_1 tables_1 room_1 Calls_1 rest_1 Pre_1
      (fun tb e a s o t => postC L tb e a s o t ∧ Framed s o t (fieldLocs frame_1_writes a s ++ arrayLocs frame_1_arrays a s ++ staticLocs frame_1_statics s) 601024 7292999) := by
  intro l hl1 hl2 hl3 p e ha hc hk s m args below hf hfit hheap happ hpre
  have hst : l.stackTraces = false := by
    unfold Launch.stackTraces
    rw [hl1]
    decide +kernel
  obtain ⟨k, o, h1, h2, h3, rfl, hF⟩ := lw_comes l hst p e ha hc hk s m args below hf hfit hheap happ hpre
  exact ⟨k, _, h1, h2, h3, hL args s _, lw_frame hF⟩
theorem i_vc : Claimed_1_1 ∧ Claimed_1_2 := ⟨lw_limb limb_1_1 (fun args s t => by simp [limb_1_1, Cond.after, Cond.holds, Cond.value]), lw_limb limb_1_2 (fun args s t => Cond.after_iff.mpr (by
  first | (rw [show limb_1_2 = Cond.eq .result (.int 1) from rfl, Cond.eq_ints (x := 1) (y := 1) rfl rfl]; simp; done) | (simp [limb_1_2, Cond.value, Term.eval]; done)))⟩
