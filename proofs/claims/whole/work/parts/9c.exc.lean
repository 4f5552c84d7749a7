def ex_N : List String := ["java/lang/RuntimeException", "java/lang/Exception"]
abbrev ex_A : String := "java/lang/IllegalArgumentException"
abbrev ex_S : String := "java/lang/IllegalStateException"
abbrev ex_B : String := "java/lang/IndexOutOfBoundsException"
def ex_T : List Cond := [.declares (Bundle.initS "java/lang/RuntimeException"), .declares (Bundle.initS "java/lang/Exception"), .declares (Bundle.initS Bundle.tN), .castable ex_A ex_A, .castable ex_S ex_S, .castable ex_B ex_B]
def ex_V : List Cond := [.laysStatic Bundle.tN "UNASSIGNED_STACK" Bundle.steD, .laysStatic Bundle.tN "SUPPRESSED_SENTINEL" Bundle.listD, .isRef (.static Bundle.tN "UNASSIGNED_STACK" Bundle.steD), .isRef (.static Bundle.tN "SUPPRESSED_SENTINEL" Bundle.listD)]
theorem ex_at1 : (Bundle.ownAtoms "BandPainter" 67 ex_A ex_N).all (fun w => decide (w ∈ BIG) || decide (w ∈ ex_T ++ ex_V)) = true := by decide +kernel
theorem ex_at2 : (Bundle.ownAtoms "BandPainter" 80 ex_S ex_N).all (fun w => decide (w ∈ BIG) || decide (w ∈ ex_T ++ ex_V)) = true := by decide +kernel
theorem ex_at3 : (Bundle.ownAtoms "BandPainter" 159 ex_B ex_N).all (fun w => decide (w ∈ BIG) || decide (w ∈ ex_T ++ ex_V)) = true := by decide +kernel
theorem ex_tb : ∀ w ∈ ex_T, w ∈ lw_tbl := by decide +kernel
theorem ex_tb2 : ∀ w ∈ ex_V, w ∈ lw_tbl ∨ w = .isRef (.static Bundle.tN "UNASSIGNED_STACK" Bundle.steD) ∨ w = .isRef (.static Bundle.tN "SUPPRESSED_SENTINEL" Bundle.listD) := by decide +kernel
def ex_I (U : State) : Prop := ∀ w ∈ ex_T ++ ex_V, w.before #[] U = true
theorem ex_ls {s U : State} {o n d : String} (hk : ∀ (a : Nat) (cell : Cell), s.heap[a]? = some cell → U.heap[a]? = some cell) (h : (Cond.laysStatic o n d).before #[] (s.setVm U.vm) = true) : (Cond.laysStatic o n d).before #[] U = true := by
  simp only [Cond.before, Cond.holds, Cond.value] at h ⊢
  have e1 : (s.setVm U.vm).fieldFound? o n d = U.fieldFound? o n d := rfl
  have e2 : (s.setVm U.vm).vm = U.vm := rfl
  have e3 : (s.setVm U.vm).heap = s.heap := rfl
  rw [e1, e2, e3] at h
  cases h1 : U.vm.findClass o with
  | none => simp [h1] at h
  | some c =>
    cases h2 : U.fieldFound? o n d with
    | none => simp [h1, h2] at h
    | some q =>
      obtain ⟨c', k, i, f⟩ := q
      simp only [h1, h2] at h ⊢
      cases h3 : k.statics with
      | none => simp [h3] at h
      | some a =>
        cases h4 : s.heap[a]? with
        | none => simp [h3, h4] at h
        | some cell =>
          simp only [h3, h4, hk a cell h4, Option.bind_some] at h ⊢
          exact h
theorem ex_ir {s U : State} {o n d : String} (hk : ∀ (a : Nat) (cell : Cell), s.heap[a]? = some cell → U.heap[a]? = some cell) (h : (Cond.isRef (.static o n d)).before #[] (s.setVm U.vm) = true) : (Cond.isRef (.static o n d)).before #[] U = true := by
  simp only [Cond.before, Cond.holds, Cond.value, Term.eval] at h ⊢
  have e1 : (s.setVm U.vm).fieldNamed? o n d true = U.fieldNamed? o n d true := rfl
  have e3 : (s.setVm U.vm).heap = s.heap := rfl
  rw [e1, e3] at h
  cases h2 : U.fieldNamed? o n d true with
  | none => simp [h2] at h
  | some q =>
    obtain ⟨c', k, i⟩ := q
    cases h3 : k.statics with
    | none => simp [h2, h3] at h
    | some a =>
      cases h4 : s.heap[a]? with
      | none => simp [h2, h3, h4] at h
      | some cell =>
        have h5 := hk a cell h4
        simp [h2, h3, h4] at h
        simp [h2, h3, h5]
        exact h
theorem ex_mv {s U : State} (hW : s.WarmedH U.vm) (hk : ∀ (a : Nat) (cell : Cell), s.heap[a]? = some cell → U.heap[a]? = some cell) (h : ex_I s) : ex_I U := by
  have h1 : ∀ w ∈ ex_T ++ ex_V, w.before #[] (s.setVm U.vm) = true := fun w hw => Cond.before_shiftedFace (State.Shifted.of_warmed hW) w ((by decide +kernel : ∀ w ∈ ex_T ++ ex_V, w.keepsFace = true) w hw) (h w hw)
  intro w hw
  have h2 := h1 w hw
  rcases List.mem_append.mp hw with hw | hw
  · simp only [ex_T, List.mem_cons, List.not_mem_nil, or_false] at hw
    rcases hw with rfl | rfl | rfl | rfl | rfl | rfl <;> exact h2
  · simp only [ex_V, List.mem_cons, List.not_mem_nil, or_false] at hw
    rcases hw with rfl | rfl | rfl | rfl
    · exact ex_ls hk h2
    · exact ex_ls hk h2
    · exact ex_ir hk h2
    · exact ex_ir hk h2
theorem ex_ag {s : State} {args : Array Value} (h : ex_I s) : ∀ w ∈ ex_T ++ ex_V, w.before args s = true := by
  intro w hw
  have h2 := h w hw
  rcases List.mem_append.mp hw with hw | hw
  · simp only [ex_T, List.mem_cons, List.not_mem_nil, or_false] at hw
    rcases hw with rfl | rfl | rfl | rfl | rfl | rfl <;> exact h2
  · simp only [ex_V, List.mem_cons, List.not_mem_nil, or_false] at hw
    rcases hw with rfl | rfl | rfl | rfl <;> exact h2
theorem ex_bl {U : State} {g : JFrame} {mk : MethodId} {a : Array Value} (h : ex_I U) : ex_I (U.calling g mk a) := by
  intro w hw
  have h2 := h w hw
  rcases List.mem_append.mp hw with hw | hw
  · simp only [ex_T, List.mem_cons, List.not_mem_nil, or_false] at hw
    rcases hw with rfl | rfl | rfl | rfl | rfl | rfl <;> exact h2
  · simp only [ex_V, List.mem_cons, List.not_mem_nil, or_false] at hw
    rcases hw with rfl | rfl | rfl | rfl <;> exact h2
