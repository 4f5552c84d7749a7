/-! What the tables say at the law's entry. -/
theorem kk_q {s : State} {args : Array Value} (hts : ∀ w ∈ lw_tbl, w.before args s = true) : ∃ (dC : Nat → ClassId) (dI : Nat → Nat → Nat) (cA : Nat → ClassId), hp_K (gg dC dI cA) s := by
  have hbig : ∀ w ∈ BIG, w.before args s = true := fun w hw => hts w (List.mem_filter.mp hw).1
  have hins : ∀ ci : Nat, ci < 8 → ∃ (C : String) (T : u_T) (N n : Nat), vcl[ci]? = some (C, T, N) ∧ Cond.instantiable C n ∈ BIG := by
    intro ci hci
    rcases (by omega : ci = 0 ∨ ci = 1 ∨ ci = 2 ∨ ci = 3 ∨ ci = 4 ∨ ci = 5 ∨ ci = 6 ∨ ci = 7) with h | h | h | h | h | h | h | h <;> subst h
    · exact ⟨_, _, _, 14, rfl, by decide +kernel⟩
    · exact ⟨_, _, _, 4, rfl, by decide +kernel⟩
    · exact ⟨_, _, _, 3, rfl, by decide +kernel⟩
    · exact ⟨_, _, _, 9, rfl, by decide +kernel⟩
    · exact ⟨_, _, _, 5, rfl, by decide +kernel⟩
    · exact ⟨_, _, _, 5, rfl, by decide +kernel⟩
    · exact ⟨_, _, _, 3, rfl, by decide +kernel⟩
    · exact ⟨_, _, _, 23, rfl, by decide +kernel⟩
  have hlen : vcl.length = 8 := rfl
  have hcls : ∀ ci : Nat, ∃ q : ClassId × (Nat → Nat), ∀ (C : String) (T : u_T) (N : Nat), vcl[ci]? = some (C, T, N) → u_Kn s C T N q.1 q.2 := by
    intro ci
    by_cases hci : ci < 8
    · obtain ⟨C, T, N, n, h1, h2⟩ := hins ci hci
      obtain ⟨cC, iS, h3⟩ := u_known (C := C) (T := T) (N := N) (n := n) hbig (vC ci C T N h1).1 (hbig _ h2)
      refine ⟨(cC, iS), fun C' T' N' h4 => ?_⟩
      rw [h1] at h4
      cases h4
      exact h3
    · refine ⟨(0, fun _ => 0), fun C' T' N' h4 => ?_⟩
      have := (List.getElem?_eq_some_iff.mp h4).1
      omega
  obtain ⟨q, hq⟩ := Classical.axiomOfChoice hcls
  have harr : ∀ ty, (∀ C, ty ≠ .object C) → Cond.arrayClass ty ∈ BIG → ∃ c, ArrOfT s c ty ∧ va_RA s c ty := by
    intro ty hty hm
    obtain ⟨c, k, comp, h1, h2, h3⟩ := Cond.arrayClass_spec (hbig _ hm)
    refine ⟨c, fun n z => ⟨fun k h => (by cases h), k, h2, comp, h3⟩, ?_⟩
    unfold va_RA
    split
    · exact absurd rfl (hty _)
    · exact h1
  have hobj : ∀ C, Cond.arrayOver (.object C) ∈ lw_tbl → va_AO C s ∧ ∃ c, ArrOfT s c (.object C) ∧ va_RA s c (.object C) := by
    intro C hm
    obtain ⟨comp, c, k, h1, h2, h3, h4, h5⟩ := Cond.arrayOver_spec (hts _ hm)
    exact ⟨hts _ hm, c, fun n z => ⟨fun k h => (by cases h), k, h3, comp, h4⟩, k, comp, h3, h4, h1, h5⟩
  obtain ⟨c0, a0⟩ := harr .int (fun _ h => by cases h) (by decide +kernel)
  obtain ⟨c1, a1⟩ := harr .long (fun _ h => by cases h) (by decide +kernel)
  obtain ⟨c2, a2⟩ := harr .boolean (fun _ h => by cases h) (by decide +kernel)
  obtain ⟨o3, c3, a3⟩ := hobj "BandPainter$Shape" (by decide +kernel)
  obtain ⟨o4, c4, a4⟩ := hobj "BandPainter$Picture" (by decide +kernel)
  refine ⟨fun ci => (q ci).1, fun ci => (q ci).2, fun k => if k = 0 then c0 else if k = 1 then c1 else if k = 2 then c2 else if k = 3 then c3 else c4, ⟨fun ci C h => hq ci C.1 C.2.1 C.2.2 h, fun k x hk => ?_⟩, ?_, ?_⟩
  · match k, hk with
    | 0, hk => cases hk; exact a0
    | 1, hk => cases hk; exact a1
    | 2, hk => cases hk; exact a2
    | 3, hk => cases hk; exact a3
    | 4, hk => cases hk; exact a4
    | k + 5, hk => simp at hk
  · have h9 : ∀ w ∈ vnl.map (fun q => Cond.methodLinkNest q.1 q.2.1 q.2.2.1 q.2.2.2), w ∈ lw_tbl := by decide +kernel
    intro x hx
    exact hts _ (h9 _ (List.mem_map.mpr ⟨x, hx, rfl⟩))
  · intro C hC
    have hC2 : C ∈ (["BandPainter$Shape", "BandPainter$Picture"] : List String) := hC
    simp only [List.mem_cons, List.not_mem_nil, or_false] at hC2
    rcases hC2 with rfl | rfl
    · exact o3
    · exact o4
/-- what the Statement gives of the start -/
theorem kk_x {s : State} {b : Nat} (hts : ∀ w ∈ lw_tbl, w.before #[Value.ref b] s = true) (hgv : (Jvm.Cond.and given_1 narrow_1).before #[Value.ref b] s = true) : ex_X s := by
  have hs := flat_of_before _ hgv
  have hstr : ∀ k tx, Cond.stringRef "BandPainter" k tx ∈ lw_tbl → ∃ q, vk_R "BandPainter" k tx q s := by
    intro k tx hm
    have h1 := hts _ hm
    have hcur : ∃ cur, s.vm.findClass "BandPainter" = some cur := by
      have h9 := h1
      simp only [Cond.before, Cond.holds, Cond.value] at h9
      cases hc : s.vm.findClass "BandPainter" with
      | none => simp [hc] at h9
      | some cur => exact ⟨cur, rfl⟩
    obtain ⟨cur, hcur⟩ := hcur
    obtain ⟨_, _, _, q, -, -, -, -, -, hq⟩ := Cond.stringRef_spec hcur h1
    exact ⟨q, vk_R.of h1 hq⟩
  refine ⟨fun w hw => ?_, ?_, hstr _ _ (by decide +kernel), hstr _ _ (by decide +kernel), hstr _ _ (by decide +kernel)⟩
  · rcases List.mem_append.mp hw with hw | hw
    · have h2 := hts _ (ex_tb w hw)
      simp only [ex_T, List.mem_cons, List.not_mem_nil, or_false] at hw
      rcases hw with rfl | rfl | rfl | rfl | rfl | rfl <;> exact h2
    · have h2 : w.before #[Value.ref b] s = true := by
        rcases ex_tb2 w hw with h9 | rfl | rfl
        · exact hts _ h9
        · exact hs _ (by decide +kernel)
        · exact hs _ (by decide +kernel)
      simp only [ex_V, List.mem_cons, List.not_mem_nil, or_false] at hw
      rcases hw with rfl | rfl | rfl | rfl <;> exact h2
  · have h1 : (Cond.not (.castable ex_S ex_A)).before #[Value.ref b] s = true := hs _ (by decide +kernel)
    simp only [Cond.before, Cond.holds, Cond.value] at h1
    cases h2 : s.vm.findClass ex_S with
    | none => simp [h2] at h1
    | some cS =>
      cases h3 : s.vm.findClass ex_A with
      | none => simp [h2, h3] at h1
      | some cA =>
        refine ⟨cS, cA, rfl, rfl, ?_⟩
        simp [h2, h3] at h1
        exact h1
