/-! What a throw asks that no list of good words carries: where Throwable's two statics lie, the String constants, a few words on classes. -/
abbrev tw_iae : String := "java/lang/IllegalArgumentException"
abbrev tw_nse : String := "java/util/NoSuchElementException"
abbrev tw_nm : List String := ["java/lang/RuntimeException", "java/lang/Exception"]
def tw_strs : List (Nat × String) := [(86, "a TIMER is 0 .. 99"), (40, "a TIME is 0 .. 2^46"), (47, "there is no such TIMER"), (54, "no TIMER is DUE"), (64, "the CLOCK goes on by 0 .. 2^44"), (66, "the CLOCK goes at most to 2^46"), (75, "there is no TIMER that is not DUE"), (77, "what is 0 .. 3"), (84, "what is 0 .. 2")]
def tw_dec : List MethodName := [Bundle.initS "java/lang/RuntimeException", Bundle.initS "java/lang/Exception", Bundle.initS Bundle.tN]
def tw_Z (U : State) (H : Heap) : Prop := (∀ q ∈ tw_strs, ∃ a : Nat, vk_R RX q.1 q.2 a U) ∧ (∀ x ∈ tw_dec, va_Nw (.declares x) U) ∧ va_Nw (.castable tw_iae tw_iae) U ∧ va_Nw (.castable tw_nse tw_nse) U ∧ xt_st "UNASSIGNED_STACK" Bundle.steD U H ∧ xt_st "SUPPRESSED_SENTINEL" Bundle.listD U H
theorem tw_Z.move {s U : State} {H H1 : Heap} (hW : s.WarmedH U.vm) (hq : ∀ a : Nat, a < H.size → H1[a]? = H[a]?) (h : tw_Z s H) : tw_Z U H1 := by
  obtain ⟨h1, h2, h3, h4, h5, h6⟩ := h
  refine ⟨fun q hq => ?_, fun x hx => xt_decl hW.alike (h2 x hx), xt_cast hW.alike h3, xt_cast hW.alike h4, (h5.moved hW.alike).kept hq, (h6.moved hW.alike).kept hq⟩
  obtain ⟨a, ha⟩ := h1 q hq
  exact ⟨a, ha.warm hW⟩
theorem tw_Z.call {U : State} {g : JFrame} {mk : MethodId} {a : Array Value} (h : tw_Z U U.heap) : tw_Z (U.calling g mk a) (U.calling g mk a).heap := tw_Z.move (State.WarmedH.refl U) (fun _ _ => rfl) h
theorem tw_Z.at {s U : State} {H : Heap} (h : tw_Z s H) (hU : U.heap = H) (hW : s.WarmedH U.vm) : tw_Z U U.heap := by
  rw [hU]
  exact tw_Z.move hW (fun _ _ => rfl) h
theorem tw_x0 : decode prog_9_method_4_code 0 = .ok (.aload_n 0, 1) := by decide +kernel
theorem tw_x1 : decode prog_9_method_4_code 1 = .ok (.aload_n 1, 1) := by decide +kernel
theorem tw_x2 : decode prog_9_method_4_code 2 = .ok (.invokespecial 13, 3) := by decide +kernel
theorem tw_x5 : decode prog_9_method_4_code 5 = .ok (.return_, 1) := by decide +kernel
theorem tw_gA : ∀ w ∈ (Bundle.ownAtoms RX 42 tw_iae tw_nm).filter goodWord, w ∈ lw_tbl := by decide +kernel
theorem tw_nA : ∀ w ∈ (Bundle.ownAtoms RX 42 tw_iae tw_nm).filter (fun w => !goodWord w), w ∈ ([.castable tw_iae tw_iae, .laysStatic Bundle.tN "UNASSIGNED_STACK" Bundle.steD, .laysStatic Bundle.tN "SUPPRESSED_SENTINEL" Bundle.listD, .isRef (.static Bundle.tN "UNASSIGNED_STACK" Bundle.steD), .isRef (.static Bundle.tN "SUPPRESSED_SENTINEL" Bundle.listD)] : List Cond) ++ tw_dec.map .declares := by decide +kernel
theorem tw_ownA {args : Array Value} {s : State} (hT : ∀ w ∈ tw_T, w.before args s = true) (hZ : tw_Z s s.heap) : ∀ w ∈ Bundle.ownAtoms RX 42 tw_iae tw_nm, w.before args s = true := by
  intro w hw
  by_cases g : goodWord w = true
  · exact hT w (List.mem_filter.mpr ⟨tw_gA w (List.mem_filter.mpr ⟨hw, g⟩), g⟩)
  · obtain ⟨h1, h2, h3, h4, h5, h6⟩ := hZ
    have h := tw_nA w (List.mem_filter.mpr ⟨hw, by cases hg : goodWord w with | true => exact absurd hg g | false => rfl⟩)
    rcases List.mem_append.mp h with h | h
    · simp only [List.mem_cons, List.not_mem_nil, or_false] at h
      rcases h with rfl | rfl | rfl | rfl | rfl
      · exact va_Nw.use rfl h3
      · exact h5.lays
      · exact h6.lays
      · exact h5.isRef
      · exact h6.isRef
    · obtain ⟨x, hx, rfl⟩ := List.mem_map.mp h
      exact va_Nw.use rfl (h2 x hx)
theorem tw_gN : ∀ w ∈ (xt_atoms tw_nse 13 prog_9_method_4_code "java/lang/RuntimeException" ["java/lang/Exception"]).filter goodWord, w ∈ lw_tbl := by decide +kernel
theorem tw_nN : ∀ w ∈ (xt_atoms tw_nse 13 prog_9_method_4_code "java/lang/RuntimeException" ["java/lang/Exception"]).filter (fun w => !goodWord w), w ∈ ([.castable tw_nse tw_nse, .laysStatic Bundle.tN "UNASSIGNED_STACK" Bundle.steD, .laysStatic Bundle.tN "SUPPRESSED_SENTINEL" Bundle.listD, .isRef (.static Bundle.tN "UNASSIGNED_STACK" Bundle.steD), .isRef (.static Bundle.tN "SUPPRESSED_SENTINEL" Bundle.listD)] : List Cond) ++ tw_dec.map .declares := by decide +kernel
theorem tw_ownN {args : Array Value} {s : State} (hT : ∀ w ∈ tw_T, w.before args s = true) (hZ : tw_Z s s.heap) : ∀ w ∈ xt_atoms tw_nse 13 prog_9_method_4_code "java/lang/RuntimeException" ["java/lang/Exception"], w.before args s = true := by
  intro w hw
  by_cases g : goodWord w = true
  · exact hT w (List.mem_filter.mpr ⟨tw_gN w (List.mem_filter.mpr ⟨hw, g⟩), g⟩)
  · obtain ⟨h1, h2, h3, h4, h5, h6⟩ := hZ
    have h := tw_nN w (List.mem_filter.mpr ⟨hw, by cases hg : goodWord w with | true => exact absurd hg g | false => rfl⟩)
    rcases List.mem_append.mp h with h | h
    · simp only [List.mem_cons, List.not_mem_nil, or_false] at h
      rcases h with rfl | rfl | rfl | rfl | rfl
      · exact va_Nw.use rfl h4
      · exact h5.lays
      · exact h6.lays
      · exact h5.isRef
      · exact h6.isRef
    · obtain ⟨x, hx, rfl⟩ := List.mem_map.mp h
      exact va_Nw.use rfl (h2 x hx)
theorem tw_vp {j : Int32} : vp_in j 100 ↔ ¬ j < 0 ∧ j < 100 := by
  rw [vp_in_iff, Int32.lt_iff_toInt_lt, Int32.lt_iff_toInt_lt]
  show _ ↔ ¬ j.toInt < 0 ∧ j.toInt < 100
  omega
abbrev tw_thr (E : String) : Array Value → State → Outcome → State → Prop := fun _ st o t => ∃ q, o = .threw q ∧ xt_E E st q t
