/-! The reference, methods that write: what each answers, and the picture behind it. Rows laid by our own program (wip/gen/gm.py). -/
theorem tw_vp99 {j : Int32} : vp_in j 100 ↔ ¬ j < 0 ∧ j ≤ 99 := by
  rw [vp_in_iff, Int32.lt_iff_toInt_lt, Int32.le_iff_toInt_le]
  show _ ↔ ¬ j.toInt < 0 ∧ j.toInt ≤ 99
  omega
theorem tw_k2 {k : Int32} (h : k.toInt < 0 ∨ 2 < k.toInt) (h1 : ¬ k < 0) (h2 : k ≤ 2) : False := by
  rw [Int32.lt_iff_toInt_lt] at h1
  rw [Int32.le_iff_toInt_le] at h2
  have h1 : ¬ k.toInt < 0 := h1
  have h2 : k.toInt ≤ 2 := h2
  omega
set_option maxHeartbeats 4000000 in
set_option maxRecDepth 100000 in
theorem cM_fail (l : Launch) (dC : Nat → ClassId) (dI : Nat → Nat → Nat) (h0 a0 a1 a2 a3 : Nat) (k0 k1 k2 k3 : ClassId) (fl : Int32) (th : Nat → Int32) (tm : Nat → Int64) (pr ag : Nat → Int32) (ck : Int64) (nx : Int32) (sz : Nat) (k : Int32) : Met l yM_fail (Cond.code yM_fail bM_fail 2 (some .int) :: tw_T) { frames := 0, cells := 0, slots := 0, locals := 0 } (va_Pc [.ref h0, .int k] (fun U => U.heap.size = sz ∧ va_P (dC, dI) tw_cl (tw_wM h0 a0 a1 a2 a3 k0 k1 k2 k3 fl th tm pr ag ck nx) U.heap ∧ va_K (dC, dI) tw_cl (tw_k k0 k1 k2 k3) U ∧ va_D (fun _ => True) (tw_wM h0 a0 a1 a2 a3 k0 k1 k2 k3 fl th tm pr ag ck nx))) (va_Qi (S := Unit) (fun r _ => r = 0) (fun _ tz => va_P (dC, dI) tw_cl (tw_wM h0 a0 a1 a2 a3 k0 k1 k2 k3 k th tm pr ag ck nx) tz.heap ∧ va_D (va_A (tw_wM h0 a0 a1 a2 a3 k0 k1 k2 k3 fl th tm pr ag ck nx) sz) (tw_wM h0 a0 a1 a2 a3 k0 k1 k2 k3 k th tm pr ag ck nx)) (va_A (tw_wM h0 a0 a1 a2 a3 k0 k1 k2 k3 fl th tm pr ag ck nx) sz)) 0 0 (va_A (tw_wM h0 a0 a1 a2 a3 k0 k1 k2 k3 fl th tm pr ag ck nx) sz) := by
  refine Met.ofW (cc := bM_fail) (maxL := 2) (ret := some .int) (by decide) rfl ?_
  intro p e s m args below meth c s₁ B hml hv
  obtain ⟨rfl, hsz, hP, hK, hD0⟩ := hv
  have hx := B.exec
  have hb := B.bytes
  have hr := B.returns
  have hT := fun (w : Cond) (h : w ∈ tw_T) => atoms_spec (ws := Cond.code yM_fail bM_fail 2 (some .int) :: tw_T) B.pre w (List.mem_cons_of_mem _ h)
  have hown : s.vm.findClass RM = some m.cls := findClass_of_methodNamed B.named
  have hlocks := B.notSynchronized
  have hl := lv_entry ([.ref h0, .int k]) (n := 2) (Nat.le_of_ble_eq_true rfl)
  rw [lg_entry_eq]
  generalize (lg_sl ([.ref h0, .int k]) ++ List.replicate (2 - (lg_sl ([.ref h0, .int k])).length) Slot.unset).toArray = ls at hl ⊢
  have hl : lv_has ls 2 [(0, .ref h0), (1, .int k)] := hl
  subst hsz
  have hD := hD0.self (sz := s.heap.size)
  generalize hAe : va_A (tw_wM h0 a0 a1 a2 a3 k0 k1 k2 k3 fl th tm pr ag ck nx) s.heap.size = A at hD ⊢
  have hA : ∀ q : Nat, s.heap.size ≤ q → A q := fun q h => by rw [← hAe]; exact Or.inr h
  have hS : va_S A s.heap s.heap [] := va_S.rf
  refine lv_aload_n hx hb dM_fail_0 rfl (lv_at hl 0 rfl) ?_
  refine lv_iload_n hx hb dM_fail_1 rfl (lv_at hl 1 rfl) ?_
  refine va_put (D := (dC, dI)) (ci := 1) (v := .int k) (ty := .int) (C := RM) (T := FM) (N := 7) hx hb hT in_M TM tM_ok nM_ hown hK hP hD hS 0 rfl rfl 0 (by decide) (hT _ tt_217) (fun _ h9 => h9) rfl (by decide +kernel) rfl rfl (Nat.le_of_ble_eq_true rfl) dM_fail_2 (fun H locs hP hD hS => ?_)
  have hP : va_P (dC, dI) tw_cl [(h0, .inr (1, [.int k, .ref a0, .ref a1, .ref a2, .ref a3, .int nx, .long ck])), (a0, .inl (k0, 100, .inl th)), (a1, .inl (k1, 100, .inr (.inl tm))), (a2, .inl (k2, 100, .inl pr)), (a3, .inl (k3, 100, .inl ag))] H := hP
  have hD : va_D A [(h0, .inr (1, [.int k, .ref a0, .ref a1, .ref a2, .ref a3, .int nx, .long ck])), (a0, .inl (k0, 100, .inl th)), (a1, .inl (k1, 100, .inr (.inl tm))), (a2, .inl (k2, 100, .inl pr)), (a3, .inl (k3, 100, .inl ag))] := hD
  refine lv_iconst (v := 0) hx hb dM_fail_5 (by decide) ?_
  exact W.iret hx hb hr (fun t ht hW => ⟨⟨_, (), rfl, rfl, by rw [ht]; exact hP, hD⟩, hS.F ht⟩) hS.2.2 dM_fail_6
set_option maxHeartbeats 4000000 in
set_option maxRecDepth 100000 in
theorem cM_set (l : Launch) (dC : Nat → ClassId) (dI : Nat → Nat → Nat) (h0 a0 a1 a2 a3 : Nat) (k0 k1 k2 k3 : ClassId) (fl : Int32) (th : Nat → Int32) (tm : Nat → Int64) (pr ag : Nat → Int32) (ck : Int64) (nx : Int32) (sz : Nat) (j : Int32) (hj : vp_in j 100) (t : Int64) (ht0 : 0 ≤ t) (ht1 : t ≤ 70368744177664) (q : Int32) : Met l yM_set (Cond.code yM_set bM_set 5 (some .int) :: tw_T) { frames := 2, cells := 0, slots := 0, locals := 80 } (va_Pc [.ref h0, .int j, .long t, .int q] (fun U => U.heap.size = sz ∧ va_P (dC, dI) tw_cl (tw_wM h0 a0 a1 a2 a3 k0 k1 k2 k3 fl th tm pr ag ck nx) U.heap ∧ va_K (dC, dI) tw_cl (tw_k k0 k1 k2 k3) U ∧ va_D (fun _ => True) (tw_wM h0 a0 a1 a2 a3 k0 k1 k2 k3 fl th tm pr ag ck nx))) (va_Qi (S := Unit) (fun r _ => r = upd ag j.toNatClampNeg nx j.toNatClampNeg) (fun _ tz => va_P (dC, dI) tw_cl (tw_wM h0 a0 a1 a2 a3 k0 k1 k2 k3 0 (upd th j.toNatClampNeg (vp_nar .boolean 1)) (vp_updL tm j.toNatClampNeg t) (upd pr j.toNatClampNeg q) (upd ag j.toNatClampNeg nx) ck (nx + 1)) tz.heap ∧ va_D (va_A (tw_wM h0 a0 a1 a2 a3 k0 k1 k2 k3 fl th tm pr ag ck nx) sz) (tw_wM h0 a0 a1 a2 a3 k0 k1 k2 k3 0 (upd th j.toNatClampNeg (vp_nar .boolean 1)) (vp_updL tm j.toNatClampNeg t) (upd pr j.toNatClampNeg q) (upd ag j.toNatClampNeg nx) ck (nx + 1))) (va_A (tw_wM h0 a0 a1 a2 a3 k0 k1 k2 k3 fl th tm pr ag ck nx) sz)) 0 0 (va_A (tw_wM h0 a0 a1 a2 a3 k0 k1 k2 k3 fl th tm pr ag ck nx) sz) := by
  refine Met.ofW (cc := bM_set) (maxL := 5) (ret := some .int) (by decide) rfl ?_
  intro p e s m args below meth c s₁ B hml hv
  obtain ⟨rfl, hsz, hP, hK, hD0⟩ := hv
  have hx := B.exec
  have hb := B.bytes
  have hr := B.returns
  have hT := fun (w : Cond) (h : w ∈ tw_T) => atoms_spec (ws := Cond.code yM_set bM_set 5 (some .int) :: tw_T) B.pre w (List.mem_cons_of_mem _ h)
  have hown : s.vm.findClass RM = some m.cls := findClass_of_methodNamed B.named
  have hlocks := B.notSynchronized
  have hl := lv_entry ([.ref h0, .int j, .long t, .int q]) (n := 5) (Nat.le_of_ble_eq_true rfl)
  rw [lg_entry_eq]
  generalize (lg_sl ([.ref h0, .int j, .long t, .int q]) ++ List.replicate (5 - (lg_sl ([.ref h0, .int j, .long t, .int q])).length) Slot.unset).toArray = ls at hl ⊢
  have hl : lv_has ls 5 [(0, .ref h0), (1, .int j), (2, .long t), (4, .int q)] := hl
  subst hsz
  have hD := hD0.self (sz := s.heap.size)
  generalize hAe : va_A (tw_wM h0 a0 a1 a2 a3 k0 k1 k2 k3 fl th tm pr ag ck nx) s.heap.size = A at hD ⊢
  have hA : ∀ q : Nat, s.heap.size ≤ q → A q := fun q h => by rw [← hAe]; exact Or.inr h
  have hS : va_S A s.heap s.heap [] := va_S.rf
  refine lv_aload_n hx hb dM_set_0 rfl (lv_at hl 0 rfl) ?_
  refine lv_iconst (v := 0) hx hb dM_set_1 (by decide) ?_
  refine va_put (D := (dC, dI)) (ci := 1) (v := .int 0) (ty := .int) (C := RM) (T := FM) (N := 7) hx hb hT in_M TM tM_ok nM_ hown hK hP hD hS 0 rfl rfl 0 (by decide) (hT _ tt_217) (fun _ h9 => h9) rfl (by decide +kernel) rfl rfl (Nat.le_of_ble_eq_true rfl) dM_set_2 (fun H locs hP hD hS => ?_)
  have hP : va_P (dC, dI) tw_cl [(h0, .inr (1, [.int 0, .ref a0, .ref a1, .ref a2, .ref a3, .int nx, .long ck])), (a0, .inl (k0, 100, .inl th)), (a1, .inl (k1, 100, .inr (.inl tm))), (a2, .inl (k2, 100, .inl pr)), (a3, .inl (k3, 100, .inl ag))] H := hP
  have hD : va_D A [(h0, .inr (1, [.int 0, .ref a0, .ref a1, .ref a2, .ref a3, .int nx, .long ck])), (a0, .inl (k0, 100, .inl th)), (a1, .inl (k1, 100, .inr (.inl tm))), (a2, .inl (k2, 100, .inl pr)), (a3, .inl (k3, 100, .inl ag))] := hD
  refine lv_iload_n hx hb dM_set_5 rfl (lv_at hl 1 rfl) ?_
  refine lv_if_lt (tgt := 29) hx hb dM_set_6 (by decide) (fun hc1 => absurd hc1 ((tw_vp99.mp hj).1)) (fun hc1 => ?_)
  refine lv_iload_n hx hb dM_set_9 rfl (lv_at hl 1 rfl) ?_
  refine lv_bipush (v := 99) hx hb dM_set_10 (by decide) ?_
  refine lv_icmp_gt (tgt := 29) hx hb dM_set_12 (by decide) (fun hc2 => absurd hc2 (fun z => Int32.not_lt.mpr (tw_vp99.mp hj).2 z)) (fun hc2 => ?_)
  refine lv_lload_n hx hb dM_set_15 rfl (lv_at hl 2 rfl) ?_
  refine lv_lconst (v := 0) hx hb dM_set_16 (by decide) ?_
  refine W.lcmp hx hb dM_set_17 ?_
  refine lv_if_lt (tgt := 29) hx hb dM_set_18 (by decide) (fun hc3 => absurd hc3 (fun z => Int64.not_lt.mpr ht0 ((lg_cmp_lt _ _).mp z))) (fun hc3 => ?_)
  refine lv_lload_n hx hb dM_set_21 rfl (lv_at hl 2 rfl) ?_
  refine lv_ldc2 (v := 70368744177664) hx hb hown (hT _ tt_247) dM_set_22 ?_
  refine W.lcmp hx hb dM_set_25 ?_
  refine lv_if_le (tgt := 35) hx hb dM_set_26 (by decide) (fun hc4 => ?_) (fun hc4 => absurd ((lg_cmp_le _ _).mpr ht1) hc4)
  refine lv_aload_n hx hb dM_set_35 rfl (lv_at hl 0 rfl) ?_
  refine va_get (D := (dC, dI)) (ci := 1) (v := .ref a0) (C := RM) (T := FM) (N := 7) hx hb hT in_M hown hK hP 0 rfl rfl 1 (by decide) (hT _ tt_218) (fun _ h9 => h9) rfl dM_set_36 ?_
  refine lv_iload_n hx hb dM_set_39 rfl (lv_at hl 1 rfl) ?_
  refine lv_iconst (v := 1) hx hb dM_set_40 (by decide) ?_
  refine va_zast hx hb hK hP hD hS 1 0 rfl rfl hj dM_set_41 (fun H locs hP hD hS => ?_)
  have hP : va_P (dC, dI) tw_cl [(h0, .inr (1, [.int 0, .ref a0, .ref a1, .ref a2, .ref a3, .int nx, .long ck])), (a0, .inl (k0, 100, .inl (upd th j.toNatClampNeg (vp_nar .boolean 1)))), (a1, .inl (k1, 100, .inr (.inl tm))), (a2, .inl (k2, 100, .inl pr)), (a3, .inl (k3, 100, .inl ag))] H := hP
  have hD : va_D A [(h0, .inr (1, [.int 0, .ref a0, .ref a1, .ref a2, .ref a3, .int nx, .long ck])), (a0, .inl (k0, 100, .inl (upd th j.toNatClampNeg (vp_nar .boolean 1)))), (a1, .inl (k1, 100, .inr (.inl tm))), (a2, .inl (k2, 100, .inl pr)), (a3, .inl (k3, 100, .inl ag))] := hD
  refine lv_aload_n hx hb dM_set_42 rfl (lv_at hl 0 rfl) ?_
  refine va_get (D := (dC, dI)) (ci := 1) (v := .ref a1) (C := RM) (T := FM) (N := 7) hx hb hT in_M hown hK hP 0 rfl rfl 2 (by decide) (hT _ tt_219) (fun _ h9 => h9) rfl dM_set_43 ?_
  refine lv_iload_n hx hb dM_set_46 rfl (lv_at hl 1 rfl) ?_
  refine lv_lload_n hx hb dM_set_47 rfl (lv_at hl 2 rfl) ?_
  refine va_last hx hb hK hP hD hS 2 1 rfl rfl hj dM_set_48 (fun H locs hP hD hS => ?_)
  have hP : va_P (dC, dI) tw_cl [(h0, .inr (1, [.int 0, .ref a0, .ref a1, .ref a2, .ref a3, .int nx, .long ck])), (a0, .inl (k0, 100, .inl (upd th j.toNatClampNeg (vp_nar .boolean 1)))), (a1, .inl (k1, 100, .inr (.inl (vp_updL tm j.toNatClampNeg t)))), (a2, .inl (k2, 100, .inl pr)), (a3, .inl (k3, 100, .inl ag))] H := hP
  have hD : va_D A [(h0, .inr (1, [.int 0, .ref a0, .ref a1, .ref a2, .ref a3, .int nx, .long ck])), (a0, .inl (k0, 100, .inl (upd th j.toNatClampNeg (vp_nar .boolean 1)))), (a1, .inl (k1, 100, .inr (.inl (vp_updL tm j.toNatClampNeg t)))), (a2, .inl (k2, 100, .inl pr)), (a3, .inl (k3, 100, .inl ag))] := hD
  refine lv_aload_n hx hb dM_set_49 rfl (lv_at hl 0 rfl) ?_
  refine va_get (D := (dC, dI)) (ci := 1) (v := .ref a2) (C := RM) (T := FM) (N := 7) hx hb hT in_M hown hK hP 0 rfl rfl 3 (by decide) (hT _ tt_220) (fun _ h9 => h9) rfl dM_set_50 ?_
  refine lv_iload_n hx hb dM_set_53 rfl (lv_at hl 1 rfl) ?_
  refine lv_iload hx hb dM_set_54 (lv_at hl 3 rfl) ?_
  refine va_iast hx hb hK hP hD hS 3 2 rfl rfl hj dM_set_56 (fun H locs hP hD hS => ?_)
  have hP : va_P (dC, dI) tw_cl [(h0, .inr (1, [.int 0, .ref a0, .ref a1, .ref a2, .ref a3, .int nx, .long ck])), (a0, .inl (k0, 100, .inl (upd th j.toNatClampNeg (vp_nar .boolean 1)))), (a1, .inl (k1, 100, .inr (.inl (vp_updL tm j.toNatClampNeg t)))), (a2, .inl (k2, 100, .inl (upd pr j.toNatClampNeg q))), (a3, .inl (k3, 100, .inl ag))] H := hP
  have hD : va_D A [(h0, .inr (1, [.int 0, .ref a0, .ref a1, .ref a2, .ref a3, .int nx, .long ck])), (a0, .inl (k0, 100, .inl (upd th j.toNatClampNeg (vp_nar .boolean 1)))), (a1, .inl (k1, 100, .inr (.inl (vp_updL tm j.toNatClampNeg t)))), (a2, .inl (k2, 100, .inl (upd pr j.toNatClampNeg q))), (a3, .inl (k3, 100, .inl ag))] := hD
  refine lv_aload_n hx hb dM_set_57 rfl (lv_at hl 0 rfl) ?_
  refine va_get (D := (dC, dI)) (ci := 1) (v := .ref a3) (C := RM) (T := FM) (N := 7) hx hb hT in_M hown hK hP 0 rfl rfl 4 (by decide) (hT _ tt_221) (fun _ h9 => h9) rfl dM_set_58 ?_
  refine lv_iload_n hx hb dM_set_61 rfl (lv_at hl 1 rfl) ?_
  refine lv_aload_n hx hb dM_set_62 rfl (lv_at hl 0 rfl) ?_
  refine va_get (D := (dC, dI)) (ci := 1) (v := .int nx) (C := RM) (T := FM) (N := 7) hx hb hT in_M hown hK hP 0 rfl rfl 5 (by decide) (hT _ tt_222) (fun _ h9 => h9) rfl dM_set_63 ?_
  refine va_iast hx hb hK hP hD hS 4 3 rfl rfl hj dM_set_66 (fun H locs hP hD hS => ?_)
  have hP : va_P (dC, dI) tw_cl [(h0, .inr (1, [.int 0, .ref a0, .ref a1, .ref a2, .ref a3, .int nx, .long ck])), (a0, .inl (k0, 100, .inl (upd th j.toNatClampNeg (vp_nar .boolean 1)))), (a1, .inl (k1, 100, .inr (.inl (vp_updL tm j.toNatClampNeg t)))), (a2, .inl (k2, 100, .inl (upd pr j.toNatClampNeg q))), (a3, .inl (k3, 100, .inl (upd ag j.toNatClampNeg nx)))] H := hP
  have hD : va_D A [(h0, .inr (1, [.int 0, .ref a0, .ref a1, .ref a2, .ref a3, .int nx, .long ck])), (a0, .inl (k0, 100, .inl (upd th j.toNatClampNeg (vp_nar .boolean 1)))), (a1, .inl (k1, 100, .inr (.inl (vp_updL tm j.toNatClampNeg t)))), (a2, .inl (k2, 100, .inl (upd pr j.toNatClampNeg q))), (a3, .inl (k3, 100, .inl (upd ag j.toNatClampNeg nx)))] := hD
  refine lv_aload_n hx hb dM_set_67 rfl (lv_at hl 0 rfl) ?_
  refine lv_dup hx hb dM_set_68 rfl ?_
  refine va_get (D := (dC, dI)) (ci := 1) (v := .int nx) (C := RM) (T := FM) (N := 7) hx hb hT in_M hown hK hP 0 rfl rfl 5 (by decide) (hT _ tt_222) (fun _ h9 => h9) rfl dM_set_69 ?_
  refine lv_iconst (v := 1) hx hb dM_set_72 (by decide) ?_
  refine lv_iadd hx hb dM_set_73 ?_
  refine va_put (D := (dC, dI)) (ci := 1) (v := .int (nx + 1)) (ty := .int) (C := RM) (T := FM) (N := 7) hx hb hT in_M TM tM_ok nM_ hown hK hP hD hS 0 rfl rfl 5 (by decide) (hT _ tt_222) (fun _ h9 => h9) rfl (by decide +kernel) rfl rfl (Nat.le_of_ble_eq_true rfl) dM_set_74 (fun H locs hP hD hS => ?_)
  have hP : va_P (dC, dI) tw_cl [(h0, .inr (1, [.int 0, .ref a0, .ref a1, .ref a2, .ref a3, .int (nx + 1), .long ck])), (a0, .inl (k0, 100, .inl (upd th j.toNatClampNeg (vp_nar .boolean 1)))), (a1, .inl (k1, 100, .inr (.inl (vp_updL tm j.toNatClampNeg t)))), (a2, .inl (k2, 100, .inl (upd pr j.toNatClampNeg q))), (a3, .inl (k3, 100, .inl (upd ag j.toNatClampNeg nx)))] H := hP
  have hD : va_D A [(h0, .inr (1, [.int 0, .ref a0, .ref a1, .ref a2, .ref a3, .int (nx + 1), .long ck])), (a0, .inl (k0, 100, .inl (upd th j.toNatClampNeg (vp_nar .boolean 1)))), (a1, .inl (k1, 100, .inr (.inl (vp_updL tm j.toNatClampNeg t)))), (a2, .inl (k2, 100, .inl (upd pr j.toNatClampNeg q))), (a3, .inl (k3, 100, .inl (upd ag j.toNatClampNeg nx)))] := hD
  refine lv_aload_n hx hb dM_set_77 rfl (lv_at hl 0 rfl) ?_
  refine va_get (D := (dC, dI)) (ci := 1) (v := .ref a3) (C := RM) (T := FM) (N := 7) hx hb hT in_M hown hK hP 0 rfl rfl 4 (by decide) (hT _ tt_221) (fun _ h9 => h9) rfl dM_set_78 ?_
  refine lv_iload_n hx hb dM_set_81 rfl (lv_at hl 1 rfl) ?_
  refine va_iald hx hb hK hP 4 3 rfl rfl hj dM_set_82 ?_
  exact W.iret hx hb hr (fun t ht hW => ⟨⟨_, (), rfl, rfl, by rw [ht]; exact hP, hD⟩, hS.F ht⟩) hS.2.2 dM_set_83
set_option maxHeartbeats 4000000 in
set_option maxRecDepth 100000 in
theorem cM_setB (l : Launch) (dC : Nat → ClassId) (dI : Nat → Nat → Nat) (h0 a0 a1 a2 a3 : Nat) (k0 k1 k2 k3 : ClassId) (fl : Int32) (th : Nat → Int32) (tm : Nat → Int64) (pr ag : Nat → Int32) (ck : Int64) (nx : Int32) (sz : Nat) (j : Int32) (t : Int64) (q : Int32) (hbad : ¬ (vp_in j 100 ∧ 0 ≤ t ∧ t ≤ 70368744177664)) : Met l yM_set (Cond.code yM_set bM_set 5 (some .int) :: tw_T) { frames := 2, cells := 0, slots := 0, locals := 80 } (va_Pc [.ref h0, .int j, .long t, .int q] (fun U => U.heap.size = sz ∧ va_P (dC, dI) tw_cl (tw_wM h0 a0 a1 a2 a3 k0 k1 k2 k3 fl th tm pr ag ck nx) U.heap ∧ va_K (dC, dI) tw_cl (tw_k k0 k1 k2 k3) U ∧ va_D (fun _ => True) (tw_wM h0 a0 a1 a2 a3 k0 k1 k2 k3 fl th tm pr ag ck nx))) (va_Qi (S := Unit) (fun r _ => r = 0) (fun _ tz => va_P (dC, dI) tw_cl (tw_wM h0 a0 a1 a2 a3 k0 k1 k2 k3 1 th tm pr ag ck nx) tz.heap ∧ va_D (va_A (tw_wM h0 a0 a1 a2 a3 k0 k1 k2 k3 fl th tm pr ag ck nx) sz) (tw_wM h0 a0 a1 a2 a3 k0 k1 k2 k3 1 th tm pr ag ck nx)) (va_A (tw_wM h0 a0 a1 a2 a3 k0 k1 k2 k3 fl th tm pr ag ck nx) sz)) 0 0 (va_A (tw_wM h0 a0 a1 a2 a3 k0 k1 k2 k3 fl th tm pr ag ck nx) sz) := by
  refine Met.ofW (cc := bM_set) (maxL := 5) (ret := some .int) (by decide) rfl ?_
  intro p e s m args below meth c s₁ B hml hv
  obtain ⟨rfl, hsz, hP, hK, hD0⟩ := hv
  have hx := B.exec
  have hb := B.bytes
  have hr := B.returns
  have hT := fun (w : Cond) (h : w ∈ tw_T) => atoms_spec (ws := Cond.code yM_set bM_set 5 (some .int) :: tw_T) B.pre w (List.mem_cons_of_mem _ h)
  have hown : s.vm.findClass RM = some m.cls := findClass_of_methodNamed B.named
  have hlocks := B.notSynchronized
  have hl := lv_entry ([.ref h0, .int j, .long t, .int q]) (n := 5) (Nat.le_of_ble_eq_true rfl)
  rw [lg_entry_eq]
  generalize (lg_sl ([.ref h0, .int j, .long t, .int q]) ++ List.replicate (5 - (lg_sl ([.ref h0, .int j, .long t, .int q])).length) Slot.unset).toArray = ls at hl ⊢
  have hl : lv_has ls 5 [(0, .ref h0), (1, .int j), (2, .long t), (4, .int q)] := hl
  subst hsz
  have hD := hD0.self (sz := s.heap.size)
  generalize hAe : va_A (tw_wM h0 a0 a1 a2 a3 k0 k1 k2 k3 fl th tm pr ag ck nx) s.heap.size = A at hD ⊢
  have hA : ∀ q : Nat, s.heap.size ≤ q → A q := fun q h => by rw [← hAe]; exact Or.inr h
  have hS : va_S A s.heap s.heap [] := va_S.rf
  refine lv_aload_n hx hb dM_set_0 rfl (lv_at hl 0 rfl) ?_
  refine lv_iconst (v := 0) hx hb dM_set_1 (by decide) ?_
  refine va_put (D := (dC, dI)) (ci := 1) (v := .int 0) (ty := .int) (C := RM) (T := FM) (N := 7) hx hb hT in_M TM tM_ok nM_ hown hK hP hD hS 0 rfl rfl 0 (by decide) (hT _ tt_217) (fun _ h9 => h9) rfl (by decide +kernel) rfl rfl (Nat.le_of_ble_eq_true rfl) dM_set_2 (fun H locs hP hD hS => ?_)
  have hP : va_P (dC, dI) tw_cl [(h0, .inr (1, [.int 0, .ref a0, .ref a1, .ref a2, .ref a3, .int nx, .long ck])), (a0, .inl (k0, 100, .inl th)), (a1, .inl (k1, 100, .inr (.inl tm))), (a2, .inl (k2, 100, .inl pr)), (a3, .inl (k3, 100, .inl ag))] H := hP
  have hD : va_D A [(h0, .inr (1, [.int 0, .ref a0, .ref a1, .ref a2, .ref a3, .int nx, .long ck])), (a0, .inl (k0, 100, .inl th)), (a1, .inl (k1, 100, .inr (.inl tm))), (a2, .inl (k2, 100, .inl pr)), (a3, .inl (k3, 100, .inl ag))] := hD
  refine lv_iload_n hx hb dM_set_5 rfl (lv_at hl 1 rfl) ?_
  refine lv_if_lt (tgt := 29) hx hb dM_set_6 (by decide) (fun hc1 => ?_) (fun hc1 => ?_)
  · -- taken at 6: j < 0
    refine lv_aload_n hx hb dM_set_29 rfl (lv_at hl 0 rfl) ?_
    refine lv_iconst (v := 1) hx hb dM_set_30 (by decide) ?_
    have hFc := va_free (wc := (tw_wM h0 a0 a1 a2 a3 k0 k1 k2 k3 0 th tm pr ag ck nx)) hD hS hA [0, 1, 2, 3, 4] rfl
    refine va_calli (va_runV (C := RM) (b := h0) (As := [.int 1]) (rest := []) ⟨hx, hb, hml, hown, hT⟩ (cM_fail l dC dI h0 a0 a1 a2 a3 k0 k1 k2 k3 0 th tm pr ag ck nx H.size 1) (cwV 1 hT (tw_gV tt_248 tt_250 tp_M_fail tt_2 tt_251) rfl rfl rfl ⟨rfl, by decide +kernel⟩ ⟨Nat.le_of_ble_eq_true rfl, Nat.le_of_ble_eq_true rfl⟩) ⟨fun a U g mk q => by obtain ⟨q0, q1, qP, qK, qD⟩ := q; exact ⟨q0, q1, qP, va_K.moved (u := U) (U := U.calling g mk a) (Vm.Alike.refl U.vm) qK, qD⟩, va_recv (q0 := 0) (ci := 1) hK hP rfl rfl, fun U hU hW => ⟨rfl, by rw [hU], by rw [hU]; exact hP, va_K.moved hW.alike hK, hD.weaken (fun _ _ _ _ => trivial)⟩⟩ rfl rfl hl.1 rfl (lv_room (Nat.le_of_ble_eq_true rfl)) dM_set_31 ⟨Nat.le_of_ble_eq_true rfl, Nat.le_of_ble_eq_true rfl⟩) hS (fun q _ h => hFc q h) hFc (fun r9 u9 t9 H1 locs ht9 hvm9 hw9 hB9 hz9 hk9 hS => ?_)
    obtain ⟨hP1, hD1⟩ := hB9
    rw [ht9] at hP1
    have hw9 : r9 = 0 := hw9
    subst hw9
    obtain ⟨hP, hD⟩ := va_join (wr := []) (w1 := (tw_wM h0 a0 a1 a2 a3 k0 k1 k2 k3 1 th tm pr ag ck nx)) hP hD [0, 1, 2, 3, 4] [] rfl rfl (by decide) (by decide) hk9 hFc hP1 hD1
    generalize H1 = H at hP hS ⊢
    have hP : va_P (dC, dI) tw_cl [(h0, .inr (1, [.int 1, .ref a0, .ref a1, .ref a2, .ref a3, .int nx, .long ck])), (a0, .inl (k0, 100, .inl th)), (a1, .inl (k1, 100, .inr (.inl tm))), (a2, .inl (k2, 100, .inl pr)), (a3, .inl (k3, 100, .inl ag))] H := hP
    have hD : va_D A [(h0, .inr (1, [.int 1, .ref a0, .ref a1, .ref a2, .ref a3, .int nx, .long ck])), (a0, .inl (k0, 100, .inl th)), (a1, .inl (k1, 100, .inr (.inl tm))), (a2, .inl (k2, 100, .inl pr)), (a3, .inl (k3, 100, .inl ag))] := hD
    exact W.iret hx hb hr (fun t ht hW => ⟨⟨_, (), rfl, rfl, by rw [ht]; exact hP, hD⟩, hS.F ht⟩) hS.2.2 dM_set_34
  · -- not taken at 6: j < 0
    refine lv_iload_n hx hb dM_set_9 rfl (lv_at hl 1 rfl) ?_
    refine lv_bipush (v := 99) hx hb dM_set_10 (by decide) ?_
    refine lv_icmp_gt (tgt := 29) hx hb dM_set_12 (by decide) (fun hc2 => ?_) (fun hc2 => ?_)
    · -- taken at 12: j > 99
      refine lv_aload_n hx hb dM_set_29 rfl (lv_at hl 0 rfl) ?_
      refine lv_iconst (v := 1) hx hb dM_set_30 (by decide) ?_
      have hFc := va_free (wc := (tw_wM h0 a0 a1 a2 a3 k0 k1 k2 k3 0 th tm pr ag ck nx)) hD hS hA [0, 1, 2, 3, 4] rfl
      refine va_calli (va_runV (C := RM) (b := h0) (As := [.int 1]) (rest := []) ⟨hx, hb, hml, hown, hT⟩ (cM_fail l dC dI h0 a0 a1 a2 a3 k0 k1 k2 k3 0 th tm pr ag ck nx H.size 1) (cwV 1 hT (tw_gV tt_248 tt_250 tp_M_fail tt_2 tt_251) rfl rfl rfl ⟨rfl, by decide +kernel⟩ ⟨Nat.le_of_ble_eq_true rfl, Nat.le_of_ble_eq_true rfl⟩) ⟨fun a U g mk q => by obtain ⟨q0, q1, qP, qK, qD⟩ := q; exact ⟨q0, q1, qP, va_K.moved (u := U) (U := U.calling g mk a) (Vm.Alike.refl U.vm) qK, qD⟩, va_recv (q0 := 0) (ci := 1) hK hP rfl rfl, fun U hU hW => ⟨rfl, by rw [hU], by rw [hU]; exact hP, va_K.moved hW.alike hK, hD.weaken (fun _ _ _ _ => trivial)⟩⟩ rfl rfl hl.1 rfl (lv_room (Nat.le_of_ble_eq_true rfl)) dM_set_31 ⟨Nat.le_of_ble_eq_true rfl, Nat.le_of_ble_eq_true rfl⟩) hS (fun q _ h => hFc q h) hFc (fun r9 u9 t9 H1 locs ht9 hvm9 hw9 hB9 hz9 hk9 hS => ?_)
      obtain ⟨hP1, hD1⟩ := hB9
      rw [ht9] at hP1
      have hw9 : r9 = 0 := hw9
      subst hw9
      obtain ⟨hP, hD⟩ := va_join (wr := []) (w1 := (tw_wM h0 a0 a1 a2 a3 k0 k1 k2 k3 1 th tm pr ag ck nx)) hP hD [0, 1, 2, 3, 4] [] rfl rfl (by decide) (by decide) hk9 hFc hP1 hD1
      generalize H1 = H at hP hS ⊢
      have hP : va_P (dC, dI) tw_cl [(h0, .inr (1, [.int 1, .ref a0, .ref a1, .ref a2, .ref a3, .int nx, .long ck])), (a0, .inl (k0, 100, .inl th)), (a1, .inl (k1, 100, .inr (.inl tm))), (a2, .inl (k2, 100, .inl pr)), (a3, .inl (k3, 100, .inl ag))] H := hP
      have hD : va_D A [(h0, .inr (1, [.int 1, .ref a0, .ref a1, .ref a2, .ref a3, .int nx, .long ck])), (a0, .inl (k0, 100, .inl th)), (a1, .inl (k1, 100, .inr (.inl tm))), (a2, .inl (k2, 100, .inl pr)), (a3, .inl (k3, 100, .inl ag))] := hD
      exact W.iret hx hb hr (fun t ht hW => ⟨⟨_, (), rfl, rfl, by rw [ht]; exact hP, hD⟩, hS.F ht⟩) hS.2.2 dM_set_34
    · -- not taken at 12: j > 99
      refine lv_lload_n hx hb dM_set_15 rfl (lv_at hl 2 rfl) ?_
      refine lv_lconst (v := 0) hx hb dM_set_16 (by decide) ?_
      refine W.lcmp hx hb dM_set_17 ?_
      refine lv_if_lt (tgt := 29) hx hb dM_set_18 (by decide) (fun hc3 => ?_) (fun hc3 => ?_)
      · -- taken at 18: lg_cmp t 0 < 0
        refine lv_aload_n hx hb dM_set_29 rfl (lv_at hl 0 rfl) ?_
        refine lv_iconst (v := 1) hx hb dM_set_30 (by decide) ?_
        have hFc := va_free (wc := (tw_wM h0 a0 a1 a2 a3 k0 k1 k2 k3 0 th tm pr ag ck nx)) hD hS hA [0, 1, 2, 3, 4] rfl
        refine va_calli (va_runV (C := RM) (b := h0) (As := [.int 1]) (rest := []) ⟨hx, hb, hml, hown, hT⟩ (cM_fail l dC dI h0 a0 a1 a2 a3 k0 k1 k2 k3 0 th tm pr ag ck nx H.size 1) (cwV 1 hT (tw_gV tt_248 tt_250 tp_M_fail tt_2 tt_251) rfl rfl rfl ⟨rfl, by decide +kernel⟩ ⟨Nat.le_of_ble_eq_true rfl, Nat.le_of_ble_eq_true rfl⟩) ⟨fun a U g mk q => by obtain ⟨q0, q1, qP, qK, qD⟩ := q; exact ⟨q0, q1, qP, va_K.moved (u := U) (U := U.calling g mk a) (Vm.Alike.refl U.vm) qK, qD⟩, va_recv (q0 := 0) (ci := 1) hK hP rfl rfl, fun U hU hW => ⟨rfl, by rw [hU], by rw [hU]; exact hP, va_K.moved hW.alike hK, hD.weaken (fun _ _ _ _ => trivial)⟩⟩ rfl rfl hl.1 rfl (lv_room (Nat.le_of_ble_eq_true rfl)) dM_set_31 ⟨Nat.le_of_ble_eq_true rfl, Nat.le_of_ble_eq_true rfl⟩) hS (fun q _ h => hFc q h) hFc (fun r9 u9 t9 H1 locs ht9 hvm9 hw9 hB9 hz9 hk9 hS => ?_)
        obtain ⟨hP1, hD1⟩ := hB9
        rw [ht9] at hP1
        have hw9 : r9 = 0 := hw9
        subst hw9
        obtain ⟨hP, hD⟩ := va_join (wr := []) (w1 := (tw_wM h0 a0 a1 a2 a3 k0 k1 k2 k3 1 th tm pr ag ck nx)) hP hD [0, 1, 2, 3, 4] [] rfl rfl (by decide) (by decide) hk9 hFc hP1 hD1
        generalize H1 = H at hP hS ⊢
        have hP : va_P (dC, dI) tw_cl [(h0, .inr (1, [.int 1, .ref a0, .ref a1, .ref a2, .ref a3, .int nx, .long ck])), (a0, .inl (k0, 100, .inl th)), (a1, .inl (k1, 100, .inr (.inl tm))), (a2, .inl (k2, 100, .inl pr)), (a3, .inl (k3, 100, .inl ag))] H := hP
        have hD : va_D A [(h0, .inr (1, [.int 1, .ref a0, .ref a1, .ref a2, .ref a3, .int nx, .long ck])), (a0, .inl (k0, 100, .inl th)), (a1, .inl (k1, 100, .inr (.inl tm))), (a2, .inl (k2, 100, .inl pr)), (a3, .inl (k3, 100, .inl ag))] := hD
        exact W.iret hx hb hr (fun t ht hW => ⟨⟨_, (), rfl, rfl, by rw [ht]; exact hP, hD⟩, hS.F ht⟩) hS.2.2 dM_set_34
      · -- not taken at 18: lg_cmp t 0 < 0
        refine lv_lload_n hx hb dM_set_21 rfl (lv_at hl 2 rfl) ?_
        refine lv_ldc2 (v := 70368744177664) hx hb hown (hT _ tt_247) dM_set_22 ?_
        refine W.lcmp hx hb dM_set_25 ?_
        refine lv_if_le (tgt := 35) hx hb dM_set_26 (by decide) (fun hc4 => absurd hc4 (fun z => hbad ⟨tw_vp99.mpr ⟨hc1, Int32.not_lt.mp hc2⟩, (lg_cmp_ge _ _).mp (Int32.not_lt.mp hc3), (lg_cmp_le _ _).mp z⟩)) (fun hc4 => ?_)
        refine lv_aload_n hx hb dM_set_29 rfl (lv_at hl 0 rfl) ?_
        refine lv_iconst (v := 1) hx hb dM_set_30 (by decide) ?_
        have hFc := va_free (wc := (tw_wM h0 a0 a1 a2 a3 k0 k1 k2 k3 0 th tm pr ag ck nx)) hD hS hA [0, 1, 2, 3, 4] rfl
        refine va_calli (va_runV (C := RM) (b := h0) (As := [.int 1]) (rest := []) ⟨hx, hb, hml, hown, hT⟩ (cM_fail l dC dI h0 a0 a1 a2 a3 k0 k1 k2 k3 0 th tm pr ag ck nx H.size 1) (cwV 1 hT (tw_gV tt_248 tt_250 tp_M_fail tt_2 tt_251) rfl rfl rfl ⟨rfl, by decide +kernel⟩ ⟨Nat.le_of_ble_eq_true rfl, Nat.le_of_ble_eq_true rfl⟩) ⟨fun a U g mk q => by obtain ⟨q0, q1, qP, qK, qD⟩ := q; exact ⟨q0, q1, qP, va_K.moved (u := U) (U := U.calling g mk a) (Vm.Alike.refl U.vm) qK, qD⟩, va_recv (q0 := 0) (ci := 1) hK hP rfl rfl, fun U hU hW => ⟨rfl, by rw [hU], by rw [hU]; exact hP, va_K.moved hW.alike hK, hD.weaken (fun _ _ _ _ => trivial)⟩⟩ rfl rfl hl.1 rfl (lv_room (Nat.le_of_ble_eq_true rfl)) dM_set_31 ⟨Nat.le_of_ble_eq_true rfl, Nat.le_of_ble_eq_true rfl⟩) hS (fun q _ h => hFc q h) hFc (fun r9 u9 t9 H1 locs ht9 hvm9 hw9 hB9 hz9 hk9 hS => ?_)
        obtain ⟨hP1, hD1⟩ := hB9
        rw [ht9] at hP1
        have hw9 : r9 = 0 := hw9
        subst hw9
        obtain ⟨hP, hD⟩ := va_join (wr := []) (w1 := (tw_wM h0 a0 a1 a2 a3 k0 k1 k2 k3 1 th tm pr ag ck nx)) hP hD [0, 1, 2, 3, 4] [] rfl rfl (by decide) (by decide) hk9 hFc hP1 hD1
        generalize H1 = H at hP hS ⊢
        have hP : va_P (dC, dI) tw_cl [(h0, .inr (1, [.int 1, .ref a0, .ref a1, .ref a2, .ref a3, .int nx, .long ck])), (a0, .inl (k0, 100, .inl th)), (a1, .inl (k1, 100, .inr (.inl tm))), (a2, .inl (k2, 100, .inl pr)), (a3, .inl (k3, 100, .inl ag))] H := hP
        have hD : va_D A [(h0, .inr (1, [.int 1, .ref a0, .ref a1, .ref a2, .ref a3, .int nx, .long ck])), (a0, .inl (k0, 100, .inl th)), (a1, .inl (k1, 100, .inr (.inl tm))), (a2, .inl (k2, 100, .inl pr)), (a3, .inl (k3, 100, .inl ag))] := hD
        exact W.iret hx hb hr (fun t ht hW => ⟨⟨_, (), rfl, rfl, by rw [ht]; exact hP, hD⟩, hS.F ht⟩) hS.2.2 dM_set_34
set_option maxHeartbeats 4000000 in
set_option maxRecDepth 100000 in
theorem cM_drop (l : Launch) (dC : Nat → ClassId) (dI : Nat → Nat → Nat) (h0 a0 a1 a2 a3 : Nat) (k0 k1 k2 k3 : ClassId) (fl : Int32) (th : Nat → Int32) (tm : Nat → Int64) (pr ag : Nat → Int32) (ck : Int64) (nx : Int32) (sz : Nat) (j : Int32) (hj : vp_in j 100) (ht : ¬ th j.toNatClampNeg = 0) : Met l yM_drop (Cond.code yM_drop bM_drop 2 (some .long) :: tw_T) { frames := 2, cells := 0, slots := 0, locals := 80 } (va_Pc [.ref h0, .int j] (fun U => U.heap.size = sz ∧ va_P (dC, dI) tw_cl (tw_wM h0 a0 a1 a2 a3 k0 k1 k2 k3 fl th tm pr ag ck nx) U.heap ∧ va_K (dC, dI) tw_cl (tw_k k0 k1 k2 k3) U ∧ va_D (fun _ => True) (tw_wM h0 a0 a1 a2 a3 k0 k1 k2 k3 fl th tm pr ag ck nx))) (va_Ql (S := Unit) (fun r _ => r = tm j.toNatClampNeg) (fun _ tz => va_P (dC, dI) tw_cl (tw_wM h0 a0 a1 a2 a3 k0 k1 k2 k3 0 (upd th j.toNatClampNeg (vp_nar .boolean 0)) tm pr ag ck nx) tz.heap ∧ va_D (va_A (tw_wM h0 a0 a1 a2 a3 k0 k1 k2 k3 fl th tm pr ag ck nx) sz) (tw_wM h0 a0 a1 a2 a3 k0 k1 k2 k3 0 (upd th j.toNatClampNeg (vp_nar .boolean 0)) tm pr ag ck nx)) (va_A (tw_wM h0 a0 a1 a2 a3 k0 k1 k2 k3 fl th tm pr ag ck nx) sz)) 0 0 (va_A (tw_wM h0 a0 a1 a2 a3 k0 k1 k2 k3 fl th tm pr ag ck nx) sz) := by
  refine Met.ofW (cc := bM_drop) (maxL := 2) (ret := some .long) (by decide) rfl ?_
  intro p e s m args below meth c s₁ B hml hv
  obtain ⟨rfl, hsz, hP, hK, hD0⟩ := hv
  have hx := B.exec
  have hb := B.bytes
  have hr := B.returns
  have hT := fun (w : Cond) (h : w ∈ tw_T) => atoms_spec (ws := Cond.code yM_drop bM_drop 2 (some .long) :: tw_T) B.pre w (List.mem_cons_of_mem _ h)
  have hown : s.vm.findClass RM = some m.cls := findClass_of_methodNamed B.named
  have hlocks := B.notSynchronized
  have hl := lv_entry ([.ref h0, .int j]) (n := 2) (Nat.le_of_ble_eq_true rfl)
  rw [lg_entry_eq]
  generalize (lg_sl ([.ref h0, .int j]) ++ List.replicate (2 - (lg_sl ([.ref h0, .int j])).length) Slot.unset).toArray = ls at hl ⊢
  have hl : lv_has ls 2 [(0, .ref h0), (1, .int j)] := hl
  subst hsz
  have hD := hD0.self (sz := s.heap.size)
  generalize hAe : va_A (tw_wM h0 a0 a1 a2 a3 k0 k1 k2 k3 fl th tm pr ag ck nx) s.heap.size = A at hD ⊢
  have hA : ∀ q : Nat, s.heap.size ≤ q → A q := fun q h => by rw [← hAe]; exact Or.inr h
  have hS : va_S A s.heap s.heap [] := va_S.rf
  refine lv_aload_n hx hb dM_drop_0 rfl (lv_at hl 0 rfl) ?_
  refine lv_iconst (v := 0) hx hb dM_drop_1 (by decide) ?_
  refine va_put (D := (dC, dI)) (ci := 1) (v := .int 0) (ty := .int) (C := RM) (T := FM) (N := 7) hx hb hT in_M TM tM_ok nM_ hown hK hP hD hS 0 rfl rfl 0 (by decide) (hT _ tt_217) (fun _ h9 => h9) rfl (by decide +kernel) rfl rfl (Nat.le_of_ble_eq_true rfl) dM_drop_2 (fun H locs hP hD hS => ?_)
  have hP : va_P (dC, dI) tw_cl [(h0, .inr (1, [.int 0, .ref a0, .ref a1, .ref a2, .ref a3, .int nx, .long ck])), (a0, .inl (k0, 100, .inl th)), (a1, .inl (k1, 100, .inr (.inl tm))), (a2, .inl (k2, 100, .inl pr)), (a3, .inl (k3, 100, .inl ag))] H := hP
  have hD : va_D A [(h0, .inr (1, [.int 0, .ref a0, .ref a1, .ref a2, .ref a3, .int nx, .long ck])), (a0, .inl (k0, 100, .inl th)), (a1, .inl (k1, 100, .inr (.inl tm))), (a2, .inl (k2, 100, .inl pr)), (a3, .inl (k3, 100, .inl ag))] := hD
  refine lv_iload_n hx hb dM_drop_5 rfl (lv_at hl 1 rfl) ?_
  refine lv_if_lt (tgt := 15) hx hb dM_drop_6 (by decide) (fun hc1 => absurd hc1 ((tw_vp99.mp hj).1)) (fun hc1 => ?_)
  refine lv_iload_n hx hb dM_drop_9 rfl (lv_at hl 1 rfl) ?_
  refine lv_bipush (v := 99) hx hb dM_drop_10 (by decide) ?_
  refine lv_icmp_le (tgt := 22) hx hb dM_drop_12 (by decide) (fun hc2 => ?_) (fun hc2 => absurd ((tw_vp99.mp hj).2) hc2)
  refine lv_aload_n hx hb dM_drop_22 rfl (lv_at hl 0 rfl) ?_
  refine va_get (D := (dC, dI)) (ci := 1) (v := .ref a0) (C := RM) (T := FM) (N := 7) hx hb hT in_M hown hK hP 0 rfl rfl 1 (by decide) (hT _ tt_218) (fun _ h9 => h9) rfl dM_drop_23 ?_
  refine lv_iload_n hx hb dM_drop_26 rfl (lv_at hl 1 rfl) ?_
  refine va_zald hx hb hK hP 1 0 rfl rfl hj dM_drop_27 ?_
  refine lv_if_ne (tgt := 38) hx hb dM_drop_28 (by decide) (fun hc3 => ?_) (fun hc3 => absurd hc3 ht)
  refine lv_aload_n hx hb dM_drop_38 rfl (lv_at hl 0 rfl) ?_
  refine va_get (D := (dC, dI)) (ci := 1) (v := .ref a0) (C := RM) (T := FM) (N := 7) hx hb hT in_M hown hK hP 0 rfl rfl 1 (by decide) (hT _ tt_218) (fun _ h9 => h9) rfl dM_drop_39 ?_
  refine lv_iload_n hx hb dM_drop_42 rfl (lv_at hl 1 rfl) ?_
  refine lv_iconst (v := 0) hx hb dM_drop_43 (by decide) ?_
  refine va_zast hx hb hK hP hD hS 1 0 rfl rfl hj dM_drop_44 (fun H locs hP hD hS => ?_)
  have hP : va_P (dC, dI) tw_cl [(h0, .inr (1, [.int 0, .ref a0, .ref a1, .ref a2, .ref a3, .int nx, .long ck])), (a0, .inl (k0, 100, .inl (upd th j.toNatClampNeg (vp_nar .boolean 0)))), (a1, .inl (k1, 100, .inr (.inl tm))), (a2, .inl (k2, 100, .inl pr)), (a3, .inl (k3, 100, .inl ag))] H := hP
  have hD : va_D A [(h0, .inr (1, [.int 0, .ref a0, .ref a1, .ref a2, .ref a3, .int nx, .long ck])), (a0, .inl (k0, 100, .inl (upd th j.toNatClampNeg (vp_nar .boolean 0)))), (a1, .inl (k1, 100, .inr (.inl tm))), (a2, .inl (k2, 100, .inl pr)), (a3, .inl (k3, 100, .inl ag))] := hD
  refine lv_aload_n hx hb dM_drop_45 rfl (lv_at hl 0 rfl) ?_
  refine va_get (D := (dC, dI)) (ci := 1) (v := .ref a1) (C := RM) (T := FM) (N := 7) hx hb hT in_M hown hK hP 0 rfl rfl 2 (by decide) (hT _ tt_219) (fun _ h9 => h9) rfl dM_drop_46 ?_
  refine lv_iload_n hx hb dM_drop_49 rfl (lv_at hl 1 rfl) ?_
  refine va_lald hx hb hK hP 2 1 rfl rfl hj dM_drop_50 ?_
  exact W.lret hx hb hr (fun t ht hW => ⟨⟨_, (), rfl, rfl, by rw [ht]; exact hP, hD⟩, hS.F ht⟩) hS.2.2 dM_drop_51
set_option maxHeartbeats 4000000 in
set_option maxRecDepth 100000 in
theorem cM_dropA (l : Launch) (dC : Nat → ClassId) (dI : Nat → Nat → Nat) (h0 a0 a1 a2 a3 : Nat) (k0 k1 k2 k3 : ClassId) (fl : Int32) (th : Nat → Int32) (tm : Nat → Int64) (pr ag : Nat → Int32) (ck : Int64) (nx : Int32) (sz : Nat) (j : Int32) (hj : ¬ vp_in j 100) : Met l yM_drop (Cond.code yM_drop bM_drop 2 (some .long) :: tw_T) { frames := 2, cells := 0, slots := 0, locals := 80 } (va_Pc [.ref h0, .int j] (fun U => U.heap.size = sz ∧ va_P (dC, dI) tw_cl (tw_wM h0 a0 a1 a2 a3 k0 k1 k2 k3 fl th tm pr ag ck nx) U.heap ∧ va_K (dC, dI) tw_cl (tw_k k0 k1 k2 k3) U ∧ va_D (fun _ => True) (tw_wM h0 a0 a1 a2 a3 k0 k1 k2 k3 fl th tm pr ag ck nx))) (va_Ql (S := Unit) (fun r _ => r = 0) (fun _ tz => va_P (dC, dI) tw_cl (tw_wM h0 a0 a1 a2 a3 k0 k1 k2 k3 1 th tm pr ag ck nx) tz.heap ∧ va_D (va_A (tw_wM h0 a0 a1 a2 a3 k0 k1 k2 k3 fl th tm pr ag ck nx) sz) (tw_wM h0 a0 a1 a2 a3 k0 k1 k2 k3 1 th tm pr ag ck nx)) (va_A (tw_wM h0 a0 a1 a2 a3 k0 k1 k2 k3 fl th tm pr ag ck nx) sz)) 0 0 (va_A (tw_wM h0 a0 a1 a2 a3 k0 k1 k2 k3 fl th tm pr ag ck nx) sz) := by
  refine Met.ofW (cc := bM_drop) (maxL := 2) (ret := some .long) (by decide) rfl ?_
  intro p e s m args below meth c s₁ B hml hv
  obtain ⟨rfl, hsz, hP, hK, hD0⟩ := hv
  have hx := B.exec
  have hb := B.bytes
  have hr := B.returns
  have hT := fun (w : Cond) (h : w ∈ tw_T) => atoms_spec (ws := Cond.code yM_drop bM_drop 2 (some .long) :: tw_T) B.pre w (List.mem_cons_of_mem _ h)
  have hown : s.vm.findClass RM = some m.cls := findClass_of_methodNamed B.named
  have hlocks := B.notSynchronized
  have hl := lv_entry ([.ref h0, .int j]) (n := 2) (Nat.le_of_ble_eq_true rfl)
  rw [lg_entry_eq]
  generalize (lg_sl ([.ref h0, .int j]) ++ List.replicate (2 - (lg_sl ([.ref h0, .int j])).length) Slot.unset).toArray = ls at hl ⊢
  have hl : lv_has ls 2 [(0, .ref h0), (1, .int j)] := hl
  subst hsz
  have hD := hD0.self (sz := s.heap.size)
  generalize hAe : va_A (tw_wM h0 a0 a1 a2 a3 k0 k1 k2 k3 fl th tm pr ag ck nx) s.heap.size = A at hD ⊢
  have hA : ∀ q : Nat, s.heap.size ≤ q → A q := fun q h => by rw [← hAe]; exact Or.inr h
  have hS : va_S A s.heap s.heap [] := va_S.rf
  refine lv_aload_n hx hb dM_drop_0 rfl (lv_at hl 0 rfl) ?_
  refine lv_iconst (v := 0) hx hb dM_drop_1 (by decide) ?_
  refine va_put (D := (dC, dI)) (ci := 1) (v := .int 0) (ty := .int) (C := RM) (T := FM) (N := 7) hx hb hT in_M TM tM_ok nM_ hown hK hP hD hS 0 rfl rfl 0 (by decide) (hT _ tt_217) (fun _ h9 => h9) rfl (by decide +kernel) rfl rfl (Nat.le_of_ble_eq_true rfl) dM_drop_2 (fun H locs hP hD hS => ?_)
  have hP : va_P (dC, dI) tw_cl [(h0, .inr (1, [.int 0, .ref a0, .ref a1, .ref a2, .ref a3, .int nx, .long ck])), (a0, .inl (k0, 100, .inl th)), (a1, .inl (k1, 100, .inr (.inl tm))), (a2, .inl (k2, 100, .inl pr)), (a3, .inl (k3, 100, .inl ag))] H := hP
  have hD : va_D A [(h0, .inr (1, [.int 0, .ref a0, .ref a1, .ref a2, .ref a3, .int nx, .long ck])), (a0, .inl (k0, 100, .inl th)), (a1, .inl (k1, 100, .inr (.inl tm))), (a2, .inl (k2, 100, .inl pr)), (a3, .inl (k3, 100, .inl ag))] := hD
  refine lv_iload_n hx hb dM_drop_5 rfl (lv_at hl 1 rfl) ?_
  refine lv_if_lt (tgt := 15) hx hb dM_drop_6 (by decide) (fun hc1 => ?_) (fun hc1 => ?_)
  · -- taken at 6: j < 0
    refine lv_aload_n hx hb dM_drop_15 rfl (lv_at hl 0 rfl) ?_
    refine lv_iconst (v := 1) hx hb dM_drop_16 (by decide) ?_
    have hFc := va_free (wc := (tw_wM h0 a0 a1 a2 a3 k0 k1 k2 k3 0 th tm pr ag ck nx)) hD hS hA [0, 1, 2, 3, 4] rfl
    refine va_calli (va_runV (C := RM) (b := h0) (As := [.int 1]) (rest := []) ⟨hx, hb, hml, hown, hT⟩ (cM_fail l dC dI h0 a0 a1 a2 a3 k0 k1 k2 k3 0 th tm pr ag ck nx H.size 1) (cwV 1 hT (tw_gV tt_248 tt_250 tp_M_fail tt_2 tt_251) rfl rfl rfl ⟨rfl, by decide +kernel⟩ ⟨Nat.le_of_ble_eq_true rfl, Nat.le_of_ble_eq_true rfl⟩) ⟨fun a U g mk q => by obtain ⟨q0, q1, qP, qK, qD⟩ := q; exact ⟨q0, q1, qP, va_K.moved (u := U) (U := U.calling g mk a) (Vm.Alike.refl U.vm) qK, qD⟩, va_recv (q0 := 0) (ci := 1) hK hP rfl rfl, fun U hU hW => ⟨rfl, by rw [hU], by rw [hU]; exact hP, va_K.moved hW.alike hK, hD.weaken (fun _ _ _ _ => trivial)⟩⟩ rfl rfl hl.1 rfl (lv_room (Nat.le_of_ble_eq_true rfl)) dM_drop_17 ⟨Nat.le_of_ble_eq_true rfl, Nat.le_of_ble_eq_true rfl⟩) hS (fun q _ h => hFc q h) hFc (fun r9 u9 t9 H1 locs ht9 hvm9 hw9 hB9 hz9 hk9 hS => ?_)
    obtain ⟨hP1, hD1⟩ := hB9
    rw [ht9] at hP1
    have hw9 : r9 = 0 := hw9
    subst hw9
    obtain ⟨hP, hD⟩ := va_join (wr := []) (w1 := (tw_wM h0 a0 a1 a2 a3 k0 k1 k2 k3 1 th tm pr ag ck nx)) hP hD [0, 1, 2, 3, 4] [] rfl rfl (by decide) (by decide) hk9 hFc hP1 hD1
    generalize H1 = H at hP hS ⊢
    have hP : va_P (dC, dI) tw_cl [(h0, .inr (1, [.int 1, .ref a0, .ref a1, .ref a2, .ref a3, .int nx, .long ck])), (a0, .inl (k0, 100, .inl th)), (a1, .inl (k1, 100, .inr (.inl tm))), (a2, .inl (k2, 100, .inl pr)), (a3, .inl (k3, 100, .inl ag))] H := hP
    have hD : va_D A [(h0, .inr (1, [.int 1, .ref a0, .ref a1, .ref a2, .ref a3, .int nx, .long ck])), (a0, .inl (k0, 100, .inl th)), (a1, .inl (k1, 100, .inr (.inl tm))), (a2, .inl (k2, 100, .inl pr)), (a3, .inl (k3, 100, .inl ag))] := hD
    refine lv_i2l hx hb dM_drop_20 rfl ?_
    exact W.lret hx hb hr (fun t ht hW => ⟨⟨_, (), rfl, rfl, by rw [ht]; exact hP, hD⟩, hS.F ht⟩) hS.2.2 dM_drop_21
  · -- not taken at 6: j < 0
    refine lv_iload_n hx hb dM_drop_9 rfl (lv_at hl 1 rfl) ?_
    refine lv_bipush (v := 99) hx hb dM_drop_10 (by decide) ?_
    refine lv_icmp_le (tgt := 22) hx hb dM_drop_12 (by decide) (fun hc2 => absurd hc2 (fun z => hj (tw_vp99.mpr ⟨hc1, z⟩))) (fun hc2 => ?_)
    refine lv_aload_n hx hb dM_drop_15 rfl (lv_at hl 0 rfl) ?_
    refine lv_iconst (v := 1) hx hb dM_drop_16 (by decide) ?_
    have hFc := va_free (wc := (tw_wM h0 a0 a1 a2 a3 k0 k1 k2 k3 0 th tm pr ag ck nx)) hD hS hA [0, 1, 2, 3, 4] rfl
    refine va_calli (va_runV (C := RM) (b := h0) (As := [.int 1]) (rest := []) ⟨hx, hb, hml, hown, hT⟩ (cM_fail l dC dI h0 a0 a1 a2 a3 k0 k1 k2 k3 0 th tm pr ag ck nx H.size 1) (cwV 1 hT (tw_gV tt_248 tt_250 tp_M_fail tt_2 tt_251) rfl rfl rfl ⟨rfl, by decide +kernel⟩ ⟨Nat.le_of_ble_eq_true rfl, Nat.le_of_ble_eq_true rfl⟩) ⟨fun a U g mk q => by obtain ⟨q0, q1, qP, qK, qD⟩ := q; exact ⟨q0, q1, qP, va_K.moved (u := U) (U := U.calling g mk a) (Vm.Alike.refl U.vm) qK, qD⟩, va_recv (q0 := 0) (ci := 1) hK hP rfl rfl, fun U hU hW => ⟨rfl, by rw [hU], by rw [hU]; exact hP, va_K.moved hW.alike hK, hD.weaken (fun _ _ _ _ => trivial)⟩⟩ rfl rfl hl.1 rfl (lv_room (Nat.le_of_ble_eq_true rfl)) dM_drop_17 ⟨Nat.le_of_ble_eq_true rfl, Nat.le_of_ble_eq_true rfl⟩) hS (fun q _ h => hFc q h) hFc (fun r9 u9 t9 H1 locs ht9 hvm9 hw9 hB9 hz9 hk9 hS => ?_)
    obtain ⟨hP1, hD1⟩ := hB9
    rw [ht9] at hP1
    have hw9 : r9 = 0 := hw9
    subst hw9
    obtain ⟨hP, hD⟩ := va_join (wr := []) (w1 := (tw_wM h0 a0 a1 a2 a3 k0 k1 k2 k3 1 th tm pr ag ck nx)) hP hD [0, 1, 2, 3, 4] [] rfl rfl (by decide) (by decide) hk9 hFc hP1 hD1
    generalize H1 = H at hP hS ⊢
    have hP : va_P (dC, dI) tw_cl [(h0, .inr (1, [.int 1, .ref a0, .ref a1, .ref a2, .ref a3, .int nx, .long ck])), (a0, .inl (k0, 100, .inl th)), (a1, .inl (k1, 100, .inr (.inl tm))), (a2, .inl (k2, 100, .inl pr)), (a3, .inl (k3, 100, .inl ag))] H := hP
    have hD : va_D A [(h0, .inr (1, [.int 1, .ref a0, .ref a1, .ref a2, .ref a3, .int nx, .long ck])), (a0, .inl (k0, 100, .inl th)), (a1, .inl (k1, 100, .inr (.inl tm))), (a2, .inl (k2, 100, .inl pr)), (a3, .inl (k3, 100, .inl ag))] := hD
    refine lv_i2l hx hb dM_drop_20 rfl ?_
    exact W.lret hx hb hr (fun t ht hW => ⟨⟨_, (), rfl, rfl, by rw [ht]; exact hP, hD⟩, hS.F ht⟩) hS.2.2 dM_drop_21
set_option maxHeartbeats 4000000 in
set_option maxRecDepth 100000 in
theorem cM_dropN (l : Launch) (dC : Nat → ClassId) (dI : Nat → Nat → Nat) (h0 a0 a1 a2 a3 : Nat) (k0 k1 k2 k3 : ClassId) (fl : Int32) (th : Nat → Int32) (tm : Nat → Int64) (pr ag : Nat → Int32) (ck : Int64) (nx : Int32) (sz : Nat) (j : Int32) (hj : vp_in j 100) (ht : th j.toNatClampNeg = 0) : Met l yM_drop (Cond.code yM_drop bM_drop 2 (some .long) :: tw_T) { frames := 2, cells := 0, slots := 0, locals := 80 } (va_Pc [.ref h0, .int j] (fun U => U.heap.size = sz ∧ va_P (dC, dI) tw_cl (tw_wM h0 a0 a1 a2 a3 k0 k1 k2 k3 fl th tm pr ag ck nx) U.heap ∧ va_K (dC, dI) tw_cl (tw_k k0 k1 k2 k3) U ∧ va_D (fun _ => True) (tw_wM h0 a0 a1 a2 a3 k0 k1 k2 k3 fl th tm pr ag ck nx))) (va_Ql (S := Unit) (fun r _ => r = 0) (fun _ tz => va_P (dC, dI) tw_cl (tw_wM h0 a0 a1 a2 a3 k0 k1 k2 k3 2 th tm pr ag ck nx) tz.heap ∧ va_D (va_A (tw_wM h0 a0 a1 a2 a3 k0 k1 k2 k3 fl th tm pr ag ck nx) sz) (tw_wM h0 a0 a1 a2 a3 k0 k1 k2 k3 2 th tm pr ag ck nx)) (va_A (tw_wM h0 a0 a1 a2 a3 k0 k1 k2 k3 fl th tm pr ag ck nx) sz)) 0 0 (va_A (tw_wM h0 a0 a1 a2 a3 k0 k1 k2 k3 fl th tm pr ag ck nx) sz) := by
  refine Met.ofW (cc := bM_drop) (maxL := 2) (ret := some .long) (by decide) rfl ?_
  intro p e s m args below meth c s₁ B hml hv
  obtain ⟨rfl, hsz, hP, hK, hD0⟩ := hv
  have hx := B.exec
  have hb := B.bytes
  have hr := B.returns
  have hT := fun (w : Cond) (h : w ∈ tw_T) => atoms_spec (ws := Cond.code yM_drop bM_drop 2 (some .long) :: tw_T) B.pre w (List.mem_cons_of_mem _ h)
  have hown : s.vm.findClass RM = some m.cls := findClass_of_methodNamed B.named
  have hlocks := B.notSynchronized
  have hl := lv_entry ([.ref h0, .int j]) (n := 2) (Nat.le_of_ble_eq_true rfl)
  rw [lg_entry_eq]
  generalize (lg_sl ([.ref h0, .int j]) ++ List.replicate (2 - (lg_sl ([.ref h0, .int j])).length) Slot.unset).toArray = ls at hl ⊢
  have hl : lv_has ls 2 [(0, .ref h0), (1, .int j)] := hl
  subst hsz
  have hD := hD0.self (sz := s.heap.size)
  generalize hAe : va_A (tw_wM h0 a0 a1 a2 a3 k0 k1 k2 k3 fl th tm pr ag ck nx) s.heap.size = A at hD ⊢
  have hA : ∀ q : Nat, s.heap.size ≤ q → A q := fun q h => by rw [← hAe]; exact Or.inr h
  have hS : va_S A s.heap s.heap [] := va_S.rf
  refine lv_aload_n hx hb dM_drop_0 rfl (lv_at hl 0 rfl) ?_
  refine lv_iconst (v := 0) hx hb dM_drop_1 (by decide) ?_
  refine va_put (D := (dC, dI)) (ci := 1) (v := .int 0) (ty := .int) (C := RM) (T := FM) (N := 7) hx hb hT in_M TM tM_ok nM_ hown hK hP hD hS 0 rfl rfl 0 (by decide) (hT _ tt_217) (fun _ h9 => h9) rfl (by decide +kernel) rfl rfl (Nat.le_of_ble_eq_true rfl) dM_drop_2 (fun H locs hP hD hS => ?_)
  have hP : va_P (dC, dI) tw_cl [(h0, .inr (1, [.int 0, .ref a0, .ref a1, .ref a2, .ref a3, .int nx, .long ck])), (a0, .inl (k0, 100, .inl th)), (a1, .inl (k1, 100, .inr (.inl tm))), (a2, .inl (k2, 100, .inl pr)), (a3, .inl (k3, 100, .inl ag))] H := hP
  have hD : va_D A [(h0, .inr (1, [.int 0, .ref a0, .ref a1, .ref a2, .ref a3, .int nx, .long ck])), (a0, .inl (k0, 100, .inl th)), (a1, .inl (k1, 100, .inr (.inl tm))), (a2, .inl (k2, 100, .inl pr)), (a3, .inl (k3, 100, .inl ag))] := hD
  refine lv_iload_n hx hb dM_drop_5 rfl (lv_at hl 1 rfl) ?_
  refine lv_if_lt (tgt := 15) hx hb dM_drop_6 (by decide) (fun hc1 => absurd hc1 ((tw_vp99.mp hj).1)) (fun hc1 => ?_)
  refine lv_iload_n hx hb dM_drop_9 rfl (lv_at hl 1 rfl) ?_
  refine lv_bipush (v := 99) hx hb dM_drop_10 (by decide) ?_
  refine lv_icmp_le (tgt := 22) hx hb dM_drop_12 (by decide) (fun hc2 => ?_) (fun hc2 => absurd ((tw_vp99.mp hj).2) hc2)
  refine lv_aload_n hx hb dM_drop_22 rfl (lv_at hl 0 rfl) ?_
  refine va_get (D := (dC, dI)) (ci := 1) (v := .ref a0) (C := RM) (T := FM) (N := 7) hx hb hT in_M hown hK hP 0 rfl rfl 1 (by decide) (hT _ tt_218) (fun _ h9 => h9) rfl dM_drop_23 ?_
  refine lv_iload_n hx hb dM_drop_26 rfl (lv_at hl 1 rfl) ?_
  refine va_zald hx hb hK hP 1 0 rfl rfl hj dM_drop_27 ?_
  refine lv_if_ne (tgt := 38) hx hb dM_drop_28 (by decide) (fun hc3 => absurd ht hc3) (fun hc3 => ?_)
  refine lv_aload_n hx hb dM_drop_31 rfl (lv_at hl 0 rfl) ?_
  refine lv_iconst (v := 2) hx hb dM_drop_32 (by decide) ?_
  have hFc := va_free (wc := (tw_wM h0 a0 a1 a2 a3 k0 k1 k2 k3 0 th tm pr ag ck nx)) hD hS hA [0, 1, 2, 3, 4] rfl
  refine va_calli (va_runV (C := RM) (b := h0) (As := [.int 2]) (rest := []) ⟨hx, hb, hml, hown, hT⟩ (cM_fail l dC dI h0 a0 a1 a2 a3 k0 k1 k2 k3 0 th tm pr ag ck nx H.size 2) (cwV 1 hT (tw_gV tt_248 tt_250 tp_M_fail tt_2 tt_251) rfl rfl rfl ⟨rfl, by decide +kernel⟩ ⟨Nat.le_of_ble_eq_true rfl, Nat.le_of_ble_eq_true rfl⟩) ⟨fun a U g mk q => by obtain ⟨q0, q1, qP, qK, qD⟩ := q; exact ⟨q0, q1, qP, va_K.moved (u := U) (U := U.calling g mk a) (Vm.Alike.refl U.vm) qK, qD⟩, va_recv (q0 := 0) (ci := 1) hK hP rfl rfl, fun U hU hW => ⟨rfl, by rw [hU], by rw [hU]; exact hP, va_K.moved hW.alike hK, hD.weaken (fun _ _ _ _ => trivial)⟩⟩ rfl rfl hl.1 rfl (lv_room (Nat.le_of_ble_eq_true rfl)) dM_drop_33 ⟨Nat.le_of_ble_eq_true rfl, Nat.le_of_ble_eq_true rfl⟩) hS (fun q _ h => hFc q h) hFc (fun r9 u9 t9 H1 locs ht9 hvm9 hw9 hB9 hz9 hk9 hS => ?_)
  obtain ⟨hP1, hD1⟩ := hB9
  rw [ht9] at hP1
  have hw9 : r9 = 0 := hw9
  subst hw9
  obtain ⟨hP, hD⟩ := va_join (wr := []) (w1 := (tw_wM h0 a0 a1 a2 a3 k0 k1 k2 k3 2 th tm pr ag ck nx)) hP hD [0, 1, 2, 3, 4] [] rfl rfl (by decide) (by decide) hk9 hFc hP1 hD1
  generalize H1 = H at hP hS ⊢
  have hP : va_P (dC, dI) tw_cl [(h0, .inr (1, [.int 2, .ref a0, .ref a1, .ref a2, .ref a3, .int nx, .long ck])), (a0, .inl (k0, 100, .inl th)), (a1, .inl (k1, 100, .inr (.inl tm))), (a2, .inl (k2, 100, .inl pr)), (a3, .inl (k3, 100, .inl ag))] H := hP
  have hD : va_D A [(h0, .inr (1, [.int 2, .ref a0, .ref a1, .ref a2, .ref a3, .int nx, .long ck])), (a0, .inl (k0, 100, .inl th)), (a1, .inl (k1, 100, .inr (.inl tm))), (a2, .inl (k2, 100, .inl pr)), (a3, .inl (k3, 100, .inl ag))] := hD
  refine lv_i2l hx hb dM_drop_36 rfl ?_
  exact W.lret hx hb hr (fun t ht hW => ⟨⟨_, (), rfl, rfl, by rw [ht]; exact hP, hD⟩, hS.F ht⟩) hS.2.2 dM_drop_37
set_option maxHeartbeats 4000000 in
set_option maxRecDepth 100000 in
theorem cM_take (l : Launch) (dC : Nat → ClassId) (dI : Nat → Nat → Nat) (h0 a0 a1 a2 a3 : Nat) (k0 k1 k2 k3 : ClassId) (fl : Int32) (th : Nat → Int32) (tm : Nat → Int64) (pr ag : Nat → Int32) (ck : Int64) (nx : Int32) (sz : Nat) (hf : ¬ tw_first th tm pr ag ck 100 = -1) : Met l yM_take (Cond.code yM_take bM_take 3 (some .int) :: tw_T) { frames := 2, cells := 0, slots := 0, locals := 80 } (va_Pc [.ref h0] (fun U => U.heap.size = sz ∧ va_P (dC, dI) tw_cl (tw_wM h0 a0 a1 a2 a3 k0 k1 k2 k3 fl th tm pr ag ck nx) U.heap ∧ va_K (dC, dI) tw_cl (tw_k k0 k1 k2 k3) U ∧ va_D (fun _ => True) (tw_wM h0 a0 a1 a2 a3 k0 k1 k2 k3 fl th tm pr ag ck nx))) (va_Qi (S := Unit) (fun r _ => r = tw_first th tm pr ag ck 100) (fun _ tz => va_P (dC, dI) tw_cl (tw_wM h0 a0 a1 a2 a3 k0 k1 k2 k3 0 (upd th (tw_first th tm pr ag ck 100).toNatClampNeg (vp_nar .boolean 0)) tm pr ag ck nx) tz.heap ∧ va_D (va_A (tw_wM h0 a0 a1 a2 a3 k0 k1 k2 k3 fl th tm pr ag ck nx) sz) (tw_wM h0 a0 a1 a2 a3 k0 k1 k2 k3 0 (upd th (tw_first th tm pr ag ck 100).toNatClampNeg (vp_nar .boolean 0)) tm pr ag ck nx)) (va_A (tw_wM h0 a0 a1 a2 a3 k0 k1 k2 k3 fl th tm pr ag ck nx) sz)) 0 0 (va_A (tw_wM h0 a0 a1 a2 a3 k0 k1 k2 k3 fl th tm pr ag ck nx) sz) := by
  refine Met.ofW (cc := bM_take) (maxL := 3) (ret := some .int) (by decide) rfl ?_
  intro p e s m args below meth c s₁ B hml hv
  obtain ⟨rfl, hsz, hP, hK, hD0⟩ := hv
  have hx := B.exec
  have hb := B.bytes
  have hr := B.returns
  have hT := fun (w : Cond) (h : w ∈ tw_T) => atoms_spec (ws := Cond.code yM_take bM_take 3 (some .int) :: tw_T) B.pre w (List.mem_cons_of_mem _ h)
  have hown : s.vm.findClass RM = some m.cls := findClass_of_methodNamed B.named
  have hlocks := B.notSynchronized
  have hl := lv_entry ([.ref h0]) (n := 3) (Nat.le_of_ble_eq_true rfl)
  rw [lg_entry_eq]
  generalize (lg_sl ([.ref h0]) ++ List.replicate (3 - (lg_sl ([.ref h0])).length) Slot.unset).toArray = ls at hl ⊢
  have hl : lv_has ls 3 [(0, .ref h0)] := hl
  subst hsz
  have hD := hD0.self (sz := s.heap.size)
  generalize hAe : va_A (tw_wM h0 a0 a1 a2 a3 k0 k1 k2 k3 fl th tm pr ag ck nx) s.heap.size = A at hD ⊢
  have hA : ∀ q : Nat, s.heap.size ≤ q → A q := fun q h => by rw [← hAe]; exact Or.inr h
  have hS : va_S A s.heap s.heap [] := va_S.rf
  refine lv_aload_n hx hb dM_take_0 rfl (lv_at hl 0 rfl) ?_
  refine lv_iconst (v := 0) hx hb dM_take_1 (by decide) ?_
  refine va_put (D := (dC, dI)) (ci := 1) (v := .int 0) (ty := .int) (C := RM) (T := FM) (N := 7) hx hb hT in_M TM tM_ok nM_ hown hK hP hD hS 0 rfl rfl 0 (by decide) (hT _ tt_217) (fun _ h9 => h9) rfl (by decide +kernel) rfl rfl (Nat.le_of_ble_eq_true rfl) dM_take_2 (fun H locs hP hD hS => ?_)
  have hP : va_P (dC, dI) tw_cl [(h0, .inr (1, [.int 0, .ref a0, .ref a1, .ref a2, .ref a3, .int nx, .long ck])), (a0, .inl (k0, 100, .inl th)), (a1, .inl (k1, 100, .inr (.inl tm))), (a2, .inl (k2, 100, .inl pr)), (a3, .inl (k3, 100, .inl ag))] H := hP
  have hD : va_D A [(h0, .inr (1, [.int 0, .ref a0, .ref a1, .ref a2, .ref a3, .int nx, .long ck])), (a0, .inl (k0, 100, .inl th)), (a1, .inl (k1, 100, .inr (.inl tm))), (a2, .inl (k2, 100, .inl pr)), (a3, .inl (k3, 100, .inl ag))] := hD
  refine lv_iconst (v := -1) hx hb dM_take_5 (by decide) ?_
  refine lv_istore_n hx hb dM_take_6 rfl hl (by decide) rfl (fun ls hl => ?_)
  have hl : lv_has ls 3 [(1, .int (-1)), (0, .ref h0)] := hl
  refine lv_iconst (v := 0) hx hb dM_take_7 (by decide) ?_
  refine lv_istore_n hx hb dM_take_8 rfl hl (by decide) rfl (fun ls hl => ?_)
  have hl : lv_has ls 3 [(2, .int 0), (1, .int (-1)), (0, .ref h0)] := hl
  have hl : lv_has ls 3 [(2, .int 0), (1, .int (-1)), (0, .ref h0)] := hl
  refine lpM_take dC dI h0 a0 a1 a2 a3 k0 k1 k2 k3 0 th tm pr ag ck nx hx hb hml hT hown hP hK ⟨Nat.le_of_ble_eq_true rfl, Nat.le_of_ble_eq_true rfl⟩ ⟨Nat.le_of_ble_eq_true rfl, Nat.le_of_ble_eq_true rfl⟩ (fun ls hl => ?_) 100 0 rfl ls (lv_sub hl [0, 1, 2] rfl)
  refine lv_iload_n hx hb dM_take_115 rfl (lv_at hl 1 rfl) ?_
  refine lv_if_ge (tgt := 125) hx hb dM_take_116 (by decide) (fun hc1 => ?_) (fun hc1 => absurd (Int32.not_lt.mp (fun z => hf ((tw_first_neg (Nat.le_refl _)).mp z))) hc1)
  refine lv_aload_n hx hb dM_take_125 rfl (lv_at hl 2 rfl) ?_
  refine va_get (D := (dC, dI)) (ci := 1) (v := .ref a0) (C := RM) (T := FM) (N := 7) hx hb hT in_M hown hK hP 0 rfl rfl 1 (by decide) (hT _ tt_218) (fun _ h9 => h9) rfl dM_take_126 ?_
  refine lv_iload_n hx hb dM_take_129 rfl (lv_at hl 1 rfl) ?_
  refine lv_iconst (v := 0) hx hb dM_take_130 (by decide) ?_
  refine va_zast hx hb hK hP hD hS 1 0 rfl rfl (tw_first_vp (Nat.le_refl _) hf) dM_take_131 (fun H locs hP hD hS => ?_)
  have hP : va_P (dC, dI) tw_cl [(h0, .inr (1, [.int 0, .ref a0, .ref a1, .ref a2, .ref a3, .int nx, .long ck])), (a0, .inl (k0, 100, .inl (upd th (tw_first th tm pr ag ck 100).toNatClampNeg (vp_nar .boolean 0)))), (a1, .inl (k1, 100, .inr (.inl tm))), (a2, .inl (k2, 100, .inl pr)), (a3, .inl (k3, 100, .inl ag))] H := hP
  have hD : va_D A [(h0, .inr (1, [.int 0, .ref a0, .ref a1, .ref a2, .ref a3, .int nx, .long ck])), (a0, .inl (k0, 100, .inl (upd th (tw_first th tm pr ag ck 100).toNatClampNeg (vp_nar .boolean 0)))), (a1, .inl (k1, 100, .inr (.inl tm))), (a2, .inl (k2, 100, .inl pr)), (a3, .inl (k3, 100, .inl ag))] := hD
  refine lv_iload_n hx hb dM_take_132 rfl (lv_at hl 1 rfl) ?_
  exact W.iret hx hb hr (fun t ht hW => ⟨⟨_, (), rfl, rfl, by rw [ht]; exact hP, hD⟩, hS.F ht⟩) hS.2.2 dM_take_133
set_option maxHeartbeats 4000000 in
set_option maxRecDepth 100000 in
theorem cM_takeB (l : Launch) (dC : Nat → ClassId) (dI : Nat → Nat → Nat) (h0 a0 a1 a2 a3 : Nat) (k0 k1 k2 k3 : ClassId) (fl : Int32) (th : Nat → Int32) (tm : Nat → Int64) (pr ag : Nat → Int32) (ck : Int64) (nx : Int32) (sz : Nat) (hf : tw_first th tm pr ag ck 100 = -1) : Met l yM_take (Cond.code yM_take bM_take 3 (some .int) :: tw_T) { frames := 2, cells := 0, slots := 0, locals := 80 } (va_Pc [.ref h0] (fun U => U.heap.size = sz ∧ va_P (dC, dI) tw_cl (tw_wM h0 a0 a1 a2 a3 k0 k1 k2 k3 fl th tm pr ag ck nx) U.heap ∧ va_K (dC, dI) tw_cl (tw_k k0 k1 k2 k3) U ∧ va_D (fun _ => True) (tw_wM h0 a0 a1 a2 a3 k0 k1 k2 k3 fl th tm pr ag ck nx))) (va_Qi (S := Unit) (fun r _ => r = 0) (fun _ tz => va_P (dC, dI) tw_cl (tw_wM h0 a0 a1 a2 a3 k0 k1 k2 k3 1 th tm pr ag ck nx) tz.heap ∧ va_D (va_A (tw_wM h0 a0 a1 a2 a3 k0 k1 k2 k3 fl th tm pr ag ck nx) sz) (tw_wM h0 a0 a1 a2 a3 k0 k1 k2 k3 1 th tm pr ag ck nx)) (va_A (tw_wM h0 a0 a1 a2 a3 k0 k1 k2 k3 fl th tm pr ag ck nx) sz)) 0 0 (va_A (tw_wM h0 a0 a1 a2 a3 k0 k1 k2 k3 fl th tm pr ag ck nx) sz) := by
  refine Met.ofW (cc := bM_take) (maxL := 3) (ret := some .int) (by decide) rfl ?_
  intro p e s m args below meth c s₁ B hml hv
  obtain ⟨rfl, hsz, hP, hK, hD0⟩ := hv
  have hx := B.exec
  have hb := B.bytes
  have hr := B.returns
  have hT := fun (w : Cond) (h : w ∈ tw_T) => atoms_spec (ws := Cond.code yM_take bM_take 3 (some .int) :: tw_T) B.pre w (List.mem_cons_of_mem _ h)
  have hown : s.vm.findClass RM = some m.cls := findClass_of_methodNamed B.named
  have hlocks := B.notSynchronized
  have hl := lv_entry ([.ref h0]) (n := 3) (Nat.le_of_ble_eq_true rfl)
  rw [lg_entry_eq]
  generalize (lg_sl ([.ref h0]) ++ List.replicate (3 - (lg_sl ([.ref h0])).length) Slot.unset).toArray = ls at hl ⊢
  have hl : lv_has ls 3 [(0, .ref h0)] := hl
  subst hsz
  have hD := hD0.self (sz := s.heap.size)
  generalize hAe : va_A (tw_wM h0 a0 a1 a2 a3 k0 k1 k2 k3 fl th tm pr ag ck nx) s.heap.size = A at hD ⊢
  have hA : ∀ q : Nat, s.heap.size ≤ q → A q := fun q h => by rw [← hAe]; exact Or.inr h
  have hS : va_S A s.heap s.heap [] := va_S.rf
  refine lv_aload_n hx hb dM_take_0 rfl (lv_at hl 0 rfl) ?_
  refine lv_iconst (v := 0) hx hb dM_take_1 (by decide) ?_
  refine va_put (D := (dC, dI)) (ci := 1) (v := .int 0) (ty := .int) (C := RM) (T := FM) (N := 7) hx hb hT in_M TM tM_ok nM_ hown hK hP hD hS 0 rfl rfl 0 (by decide) (hT _ tt_217) (fun _ h9 => h9) rfl (by decide +kernel) rfl rfl (Nat.le_of_ble_eq_true rfl) dM_take_2 (fun H locs hP hD hS => ?_)
  have hP : va_P (dC, dI) tw_cl [(h0, .inr (1, [.int 0, .ref a0, .ref a1, .ref a2, .ref a3, .int nx, .long ck])), (a0, .inl (k0, 100, .inl th)), (a1, .inl (k1, 100, .inr (.inl tm))), (a2, .inl (k2, 100, .inl pr)), (a3, .inl (k3, 100, .inl ag))] H := hP
  have hD : va_D A [(h0, .inr (1, [.int 0, .ref a0, .ref a1, .ref a2, .ref a3, .int nx, .long ck])), (a0, .inl (k0, 100, .inl th)), (a1, .inl (k1, 100, .inr (.inl tm))), (a2, .inl (k2, 100, .inl pr)), (a3, .inl (k3, 100, .inl ag))] := hD
  refine lv_iconst (v := -1) hx hb dM_take_5 (by decide) ?_
  refine lv_istore_n hx hb dM_take_6 rfl hl (by decide) rfl (fun ls hl => ?_)
  have hl : lv_has ls 3 [(1, .int (-1)), (0, .ref h0)] := hl
  refine lv_iconst (v := 0) hx hb dM_take_7 (by decide) ?_
  refine lv_istore_n hx hb dM_take_8 rfl hl (by decide) rfl (fun ls hl => ?_)
  have hl : lv_has ls 3 [(2, .int 0), (1, .int (-1)), (0, .ref h0)] := hl
  have hl : lv_has ls 3 [(2, .int 0), (1, .int (-1)), (0, .ref h0)] := hl
  refine lpM_take dC dI h0 a0 a1 a2 a3 k0 k1 k2 k3 0 th tm pr ag ck nx hx hb hml hT hown hP hK ⟨Nat.le_of_ble_eq_true rfl, Nat.le_of_ble_eq_true rfl⟩ ⟨Nat.le_of_ble_eq_true rfl, Nat.le_of_ble_eq_true rfl⟩ (fun ls hl => ?_) 100 0 rfl ls (lv_sub hl [0, 1, 2] rfl)
  refine lv_iload_n hx hb dM_take_115 rfl (lv_at hl 1 rfl) ?_
  refine lv_if_ge (tgt := 125) hx hb dM_take_116 (by decide) (fun hc1 => absurd hc1 (Int32.not_le.mpr ((tw_first_neg (Nat.le_refl _)).mpr hf))) (fun hc1 => ?_)
  refine lv_aload_n hx hb dM_take_119 rfl (lv_at hl 2 rfl) ?_
  refine lv_iconst (v := 1) hx hb dM_take_120 (by decide) ?_
  have hFc := va_free (wc := (tw_wM h0 a0 a1 a2 a3 k0 k1 k2 k3 0 th tm pr ag ck nx)) hD hS hA [0, 1, 2, 3, 4] rfl
  refine va_calli (va_runV (C := RM) (b := h0) (As := [.int 1]) (rest := []) ⟨hx, hb, hml, hown, hT⟩ (cM_fail l dC dI h0 a0 a1 a2 a3 k0 k1 k2 k3 0 th tm pr ag ck nx H.size 1) (cwV 1 hT (tw_gV tt_248 tt_250 tp_M_fail tt_2 tt_251) rfl rfl rfl ⟨rfl, by decide +kernel⟩ ⟨Nat.le_of_ble_eq_true rfl, Nat.le_of_ble_eq_true rfl⟩) ⟨fun a U g mk q => by obtain ⟨q0, q1, qP, qK, qD⟩ := q; exact ⟨q0, q1, qP, va_K.moved (u := U) (U := U.calling g mk a) (Vm.Alike.refl U.vm) qK, qD⟩, va_recv (q0 := 0) (ci := 1) hK hP rfl rfl, fun U hU hW => ⟨rfl, by rw [hU], by rw [hU]; exact hP, va_K.moved hW.alike hK, hD.weaken (fun _ _ _ _ => trivial)⟩⟩ rfl rfl hl.1 rfl (lv_room (Nat.le_of_ble_eq_true rfl)) dM_take_121 ⟨Nat.le_of_ble_eq_true rfl, Nat.le_of_ble_eq_true rfl⟩) hS (fun q _ h => hFc q h) hFc (fun r9 u9 t9 H1 locs ht9 hvm9 hw9 hB9 hz9 hk9 hS => ?_)
  obtain ⟨hP1, hD1⟩ := hB9
  rw [ht9] at hP1
  have hw9 : r9 = 0 := hw9
  subst hw9
  obtain ⟨hP, hD⟩ := va_join (wr := []) (w1 := (tw_wM h0 a0 a1 a2 a3 k0 k1 k2 k3 1 th tm pr ag ck nx)) hP hD [0, 1, 2, 3, 4] [] rfl rfl (by decide) (by decide) hk9 hFc hP1 hD1
  generalize H1 = H at hP hS ⊢
  have hP : va_P (dC, dI) tw_cl [(h0, .inr (1, [.int 1, .ref a0, .ref a1, .ref a2, .ref a3, .int nx, .long ck])), (a0, .inl (k0, 100, .inl th)), (a1, .inl (k1, 100, .inr (.inl tm))), (a2, .inl (k2, 100, .inl pr)), (a3, .inl (k3, 100, .inl ag))] H := hP
  have hD : va_D A [(h0, .inr (1, [.int 1, .ref a0, .ref a1, .ref a2, .ref a3, .int nx, .long ck])), (a0, .inl (k0, 100, .inl th)), (a1, .inl (k1, 100, .inr (.inl tm))), (a2, .inl (k2, 100, .inl pr)), (a3, .inl (k3, 100, .inl ag))] := hD
  exact W.iret hx hb hr (fun t ht hW => ⟨⟨_, (), rfl, rfl, by rw [ht]; exact hP, hD⟩, hS.F ht⟩) hS.2.2 dM_take_124
set_option maxHeartbeats 4000000 in
set_option maxRecDepth 100000 in
theorem cM_least (l : Launch) (dC : Nat → ClassId) (dI : Nat → Nat → Nat) (h0 a0 a1 a2 a3 : Nat) (k0 k1 k2 k3 : ClassId) (fl : Int32) (th : Nat → Int32) (tm : Nat → Int64) (pr ag : Nat → Int32) (ck : Int64) (nx : Int32) (sz : Nat) (h00 : ∀ k : Nat, 0 ≤ tm k) : Met l yM_least (Cond.code yM_least bM_least 4 (some .long) :: tw_T) { frames := 2, cells := 0, slots := 0, locals := 80 } (va_Pc [.ref h0] (fun U => U.heap.size = sz ∧ va_P (dC, dI) tw_cl (tw_wM h0 a0 a1 a2 a3 k0 k1 k2 k3 fl th tm pr ag ck nx) U.heap ∧ va_K (dC, dI) tw_cl (tw_k k0 k1 k2 k3) U ∧ va_D (fun _ => True) (tw_wM h0 a0 a1 a2 a3 k0 k1 k2 k3 fl th tm pr ag ck nx))) (va_Ql (S := Unit) (fun r _ => r = tw_least th tm ck 100) (fun _ tz => va_P (dC, dI) tw_cl (tw_wM h0 a0 a1 a2 a3 k0 k1 k2 k3 0 th tm pr ag ck nx) tz.heap ∧ va_D (va_A (tw_wM h0 a0 a1 a2 a3 k0 k1 k2 k3 fl th tm pr ag ck nx) sz) (tw_wM h0 a0 a1 a2 a3 k0 k1 k2 k3 0 th tm pr ag ck nx)) (va_A (tw_wM h0 a0 a1 a2 a3 k0 k1 k2 k3 fl th tm pr ag ck nx) sz)) 0 0 (va_A (tw_wM h0 a0 a1 a2 a3 k0 k1 k2 k3 fl th tm pr ag ck nx) sz) := by
  refine Met.ofW (cc := bM_least) (maxL := 4) (ret := some .long) (by decide) rfl ?_
  intro p e s m args below meth c s₁ B hml hv
  obtain ⟨rfl, hsz, hP, hK, hD0⟩ := hv
  have hx := B.exec
  have hb := B.bytes
  have hr := B.returns
  have hT := fun (w : Cond) (h : w ∈ tw_T) => atoms_spec (ws := Cond.code yM_least bM_least 4 (some .long) :: tw_T) B.pre w (List.mem_cons_of_mem _ h)
  have hown : s.vm.findClass RM = some m.cls := findClass_of_methodNamed B.named
  have hlocks := B.notSynchronized
  have hl := lv_entry ([.ref h0]) (n := 4) (Nat.le_of_ble_eq_true rfl)
  rw [lg_entry_eq]
  generalize (lg_sl ([.ref h0]) ++ List.replicate (4 - (lg_sl ([.ref h0])).length) Slot.unset).toArray = ls at hl ⊢
  have hl : lv_has ls 4 [(0, .ref h0)] := hl
  subst hsz
  have hD := hD0.self (sz := s.heap.size)
  generalize hAe : va_A (tw_wM h0 a0 a1 a2 a3 k0 k1 k2 k3 fl th tm pr ag ck nx) s.heap.size = A at hD ⊢
  have hA : ∀ q : Nat, s.heap.size ≤ q → A q := fun q h => by rw [← hAe]; exact Or.inr h
  have hS : va_S A s.heap s.heap [] := va_S.rf
  refine lv_aload_n hx hb dM_least_0 rfl (lv_at hl 0 rfl) ?_
  refine lv_iconst (v := 0) hx hb dM_least_1 (by decide) ?_
  refine va_put (D := (dC, dI)) (ci := 1) (v := .int 0) (ty := .int) (C := RM) (T := FM) (N := 7) hx hb hT in_M TM tM_ok nM_ hown hK hP hD hS 0 rfl rfl 0 (by decide) (hT _ tt_217) (fun _ h9 => h9) rfl (by decide +kernel) rfl rfl (Nat.le_of_ble_eq_true rfl) dM_least_2 (fun H locs hP hD hS => ?_)
  have hP : va_P (dC, dI) tw_cl [(h0, .inr (1, [.int 0, .ref a0, .ref a1, .ref a2, .ref a3, .int nx, .long ck])), (a0, .inl (k0, 100, .inl th)), (a1, .inl (k1, 100, .inr (.inl tm))), (a2, .inl (k2, 100, .inl pr)), (a3, .inl (k3, 100, .inl ag))] H := hP
  have hD : va_D A [(h0, .inr (1, [.int 0, .ref a0, .ref a1, .ref a2, .ref a3, .int nx, .long ck])), (a0, .inl (k0, 100, .inl th)), (a1, .inl (k1, 100, .inr (.inl tm))), (a2, .inl (k2, 100, .inl pr)), (a3, .inl (k3, 100, .inl ag))] := hD
  refine lv_ldc2 (v := -1) hx hb hown (hT _ tt_268) dM_least_5 ?_
  refine lv_lstore_n hx hb dM_least_8 rfl hl (by decide) rfl (fun ls hl => ?_)
  have hl : lv_has ls 4 [(1, .long (-1)), (0, .ref h0)] := hl
  refine lv_iconst (v := 0) hx hb dM_least_9 (by decide) ?_
  refine lv_istore_n hx hb dM_least_10 rfl hl (by decide) rfl (fun ls hl => ?_)
  have hl : lv_has ls 4 [(3, .int 0), (1, .long (-1)), (0, .ref h0)] := hl
  have hl : lv_has ls 4 [(3, .int 0), (1, .long (-1)), (0, .ref h0)] := hl
  refine lpM_least dC dI h0 a0 a1 a2 a3 k0 k1 k2 k3 0 th tm pr ag ck nx hx hb hml hT hown hP hK h00 (fun ls hl => ?_) 100 0 rfl ls (lv_sub hl [0, 1, 2] rfl)
  refine lv_lload_n hx hb dM_least_70 rfl (lv_at hl 1 rfl) ?_
  exact W.lret hx hb hr (fun t ht hW => ⟨⟨_, (), rfl, rfl, by rw [ht]; exact hP, hD⟩, hS.F ht⟩) hS.2.2 dM_least_71
set_option maxHeartbeats 4000000 in
set_option maxRecDepth 100000 in
theorem cM_go (l : Launch) (dC : Nat → ClassId) (dI : Nat → Nat → Nat) (h0 a0 a1 a2 a3 : Nat) (k0 k1 k2 k3 : ClassId) (fl : Int32) (th : Nat → Int32) (tm : Nat → Int64) (pr ag : Nat → Int32) (ck : Int64) (nx : Int32) (sz : Nat) (n : Int64) (h1 : 0 ≤ n) (h2 : n ≤ 17592186044416) (h3 : ck + n ≤ 70368744177664) : Met l yM_go (Cond.code yM_go bM_go 3 (some .int) :: tw_T) { frames := 2, cells := 0, slots := 0, locals := 80 } (va_Pc [.ref h0, .long n] (fun U => U.heap.size = sz ∧ va_P (dC, dI) tw_cl (tw_wM h0 a0 a1 a2 a3 k0 k1 k2 k3 fl th tm pr ag ck nx) U.heap ∧ va_K (dC, dI) tw_cl (tw_k k0 k1 k2 k3) U ∧ va_D (fun _ => True) (tw_wM h0 a0 a1 a2 a3 k0 k1 k2 k3 fl th tm pr ag ck nx))) (va_Qi (S := Unit) (fun r _ => r = tw_dues th tm (ck + n) 100) (fun _ tz => va_P (dC, dI) tw_cl (tw_wM h0 a0 a1 a2 a3 k0 k1 k2 k3 0 th tm pr ag (ck + n) nx) tz.heap ∧ va_D (va_A (tw_wM h0 a0 a1 a2 a3 k0 k1 k2 k3 fl th tm pr ag ck nx) sz) (tw_wM h0 a0 a1 a2 a3 k0 k1 k2 k3 0 th tm pr ag (ck + n) nx)) (va_A (tw_wM h0 a0 a1 a2 a3 k0 k1 k2 k3 fl th tm pr ag ck nx) sz)) 0 0 (va_A (tw_wM h0 a0 a1 a2 a3 k0 k1 k2 k3 fl th tm pr ag ck nx) sz) := by
  refine Met.ofW (cc := bM_go) (maxL := 3) (ret := some .int) (by decide) rfl ?_
  intro p e s m args below meth c s₁ B hml hv
  obtain ⟨rfl, hsz, hP, hK, hD0⟩ := hv
  have hx := B.exec
  have hb := B.bytes
  have hr := B.returns
  have hT := fun (w : Cond) (h : w ∈ tw_T) => atoms_spec (ws := Cond.code yM_go bM_go 3 (some .int) :: tw_T) B.pre w (List.mem_cons_of_mem _ h)
  have hown : s.vm.findClass RM = some m.cls := findClass_of_methodNamed B.named
  have hlocks := B.notSynchronized
  have hl := lv_entry ([.ref h0, .long n]) (n := 3) (Nat.le_of_ble_eq_true rfl)
  rw [lg_entry_eq]
  generalize (lg_sl ([.ref h0, .long n]) ++ List.replicate (3 - (lg_sl ([.ref h0, .long n])).length) Slot.unset).toArray = ls at hl ⊢
  have hl : lv_has ls 3 [(0, .ref h0), (1, .long n)] := hl
  subst hsz
  have hD := hD0.self (sz := s.heap.size)
  generalize hAe : va_A (tw_wM h0 a0 a1 a2 a3 k0 k1 k2 k3 fl th tm pr ag ck nx) s.heap.size = A at hD ⊢
  have hA : ∀ q : Nat, s.heap.size ≤ q → A q := fun q h => by rw [← hAe]; exact Or.inr h
  have hS : va_S A s.heap s.heap [] := va_S.rf
  refine lv_aload_n hx hb dM_go_0 rfl (lv_at hl 0 rfl) ?_
  refine lv_iconst (v := 0) hx hb dM_go_1 (by decide) ?_
  refine va_put (D := (dC, dI)) (ci := 1) (v := .int 0) (ty := .int) (C := RM) (T := FM) (N := 7) hx hb hT in_M TM tM_ok nM_ hown hK hP hD hS 0 rfl rfl 0 (by decide) (hT _ tt_217) (fun _ h9 => h9) rfl (by decide +kernel) rfl rfl (Nat.le_of_ble_eq_true rfl) dM_go_2 (fun H locs hP hD hS => ?_)
  have hP : va_P (dC, dI) tw_cl [(h0, .inr (1, [.int 0, .ref a0, .ref a1, .ref a2, .ref a3, .int nx, .long ck])), (a0, .inl (k0, 100, .inl th)), (a1, .inl (k1, 100, .inr (.inl tm))), (a2, .inl (k2, 100, .inl pr)), (a3, .inl (k3, 100, .inl ag))] H := hP
  have hD : va_D A [(h0, .inr (1, [.int 0, .ref a0, .ref a1, .ref a2, .ref a3, .int nx, .long ck])), (a0, .inl (k0, 100, .inl th)), (a1, .inl (k1, 100, .inr (.inl tm))), (a2, .inl (k2, 100, .inl pr)), (a3, .inl (k3, 100, .inl ag))] := hD
  refine lv_lload_n hx hb dM_go_5 rfl (lv_at hl 1 rfl) ?_
  refine lv_lconst (v := 0) hx hb dM_go_6 (by decide) ?_
  refine W.lcmp hx hb dM_go_7 ?_
  refine lv_if_lt (tgt := 32) hx hb dM_go_8 (by decide) (fun hc1 => absurd hc1 (fun z => Int64.not_lt.mpr h1 ((lg_cmp_lt _ _).mp z))) (fun hc1 => ?_)
  refine lv_lload_n hx hb dM_go_11 rfl (lv_at hl 1 rfl) ?_
  refine lv_ldc2 (v := 17592186044416) hx hb hown (hT _ tt_273) dM_go_12 ?_
  refine W.lcmp hx hb dM_go_15 ?_
  refine lv_if_gt (tgt := 32) hx hb dM_go_16 (by decide) (fun hc2 => absurd hc2 (fun z => Int64.not_lt.mpr h2 ((lg_cmp_gt _ _).mp z))) (fun hc2 => ?_)
  refine lv_aload_n hx hb dM_go_19 rfl (lv_at hl 0 rfl) ?_
  refine va_get (D := (dC, dI)) (ci := 1) (v := .long ck) (C := RM) (T := FM) (N := 7) hx hb hT in_M hown hK hP 0 rfl rfl 6 (by decide) (hT _ tt_223) (fun _ h9 => h9) rfl dM_go_20 ?_
  refine lv_lload_n hx hb dM_go_23 rfl (lv_at hl 1 rfl) ?_
  refine lv_ladd hx hb dM_go_24 ?_
  refine lv_ldc2 (v := 70368744177664) hx hb hown (hT _ tt_247) dM_go_25 ?_
  refine W.lcmp hx hb dM_go_28 ?_
  refine lv_if_le (tgt := 38) hx hb dM_go_29 (by decide) (fun hc3 => ?_) (fun hc3 => absurd ((lg_cmp_le _ _).mpr h3) hc3)
  refine lv_aload_n hx hb dM_go_38 rfl (lv_at hl 0 rfl) ?_
  refine lv_dup hx hb dM_go_39 rfl ?_
  refine va_get (D := (dC, dI)) (ci := 1) (v := .long ck) (C := RM) (T := FM) (N := 7) hx hb hT in_M hown hK hP 0 rfl rfl 6 (by decide) (hT _ tt_223) (fun _ h9 => h9) rfl dM_go_40 ?_
  refine lv_lload_n hx hb dM_go_43 rfl (lv_at hl 1 rfl) ?_
  refine lv_ladd hx hb dM_go_44 ?_
  refine va_put (D := (dC, dI)) (ci := 1) (v := .long (ck + n)) (ty := .long) (C := RM) (T := FM) (N := 7) hx hb hT in_M TM tM_ok nM_ hown hK hP hD hS 0 rfl rfl 6 (by decide) (hT _ tt_223) (fun _ h9 => h9) rfl (by decide +kernel) rfl rfl (Nat.le_of_ble_eq_true rfl) dM_go_45 (fun H locs hP hD hS => ?_)
  have hP : va_P (dC, dI) tw_cl [(h0, .inr (1, [.int 0, .ref a0, .ref a1, .ref a2, .ref a3, .int nx, .long (ck + n)])), (a0, .inl (k0, 100, .inl th)), (a1, .inl (k1, 100, .inr (.inl tm))), (a2, .inl (k2, 100, .inl pr)), (a3, .inl (k3, 100, .inl ag))] H := hP
  have hD : va_D A [(h0, .inr (1, [.int 0, .ref a0, .ref a1, .ref a2, .ref a3, .int nx, .long (ck + n)])), (a0, .inl (k0, 100, .inl th)), (a1, .inl (k1, 100, .inr (.inl tm))), (a2, .inl (k2, 100, .inl pr)), (a3, .inl (k3, 100, .inl ag))] := hD
  refine lv_aload_n hx hb dM_go_48 rfl (lv_at hl 0 rfl) ?_
  refine vp_callSi (W.runV (C := RM) (b := h0) (As := []) (rest := []) ⟨hx, hb, hml, hown, hT⟩ (cM_dues l dC dI h0 a0 a1 a2 a3 k0 k1 k2 k3 0 th tm pr ag (ck + n) nx) (cwV 0 hT (tw_gV tt_274 tt_276 tp_M_dues tt_2 tt_277) rfl rfl rfl ⟨rfl, by decide +kernel⟩ ⟨Nat.le_of_ble_eq_true rfl, Nat.le_of_ble_eq_true rfl⟩) ⟨fun a U g mk q => ⟨q.1, q.2.1, va_K.moved (u := U) (U := U.calling g mk a) (Vm.Alike.refl U.vm) q.2.2⟩, va_recv (q0 := 0) (ci := 1) hK hP rfl rfl, fun U hU hW => ⟨rfl, by rw [hU]; exact hP, va_K.moved hW.alike hK⟩⟩ rfl rfl hl.1 rfl (lv_room (Nat.le_of_ble_eq_true rfl)) dM_go_49 ⟨Nat.le_of_ble_eq_true rfl, Nat.le_of_ble_eq_true rfl⟩) (fun r2 h2 => ?_)
  subst h2
  exact W.iret hx hb hr (fun t ht hW => ⟨⟨_, (), rfl, rfl, by rw [ht]; exact hP, hD⟩, hS.F ht⟩) hS.2.2 dM_go_52
set_option maxHeartbeats 4000000 in
set_option maxRecDepth 100000 in
theorem cM_goB (l : Launch) (dC : Nat → ClassId) (dI : Nat → Nat → Nat) (h0 a0 a1 a2 a3 : Nat) (k0 k1 k2 k3 : ClassId) (fl : Int32) (th : Nat → Int32) (tm : Nat → Int64) (pr ag : Nat → Int32) (ck : Int64) (nx : Int32) (sz : Nat) (n : Int64) (hbad : ¬ (0 ≤ n ∧ n ≤ 17592186044416 ∧ ck + n ≤ 70368744177664)) : Met l yM_go (Cond.code yM_go bM_go 3 (some .int) :: tw_T) { frames := 2, cells := 0, slots := 0, locals := 80 } (va_Pc [.ref h0, .long n] (fun U => U.heap.size = sz ∧ va_P (dC, dI) tw_cl (tw_wM h0 a0 a1 a2 a3 k0 k1 k2 k3 fl th tm pr ag ck nx) U.heap ∧ va_K (dC, dI) tw_cl (tw_k k0 k1 k2 k3) U ∧ va_D (fun _ => True) (tw_wM h0 a0 a1 a2 a3 k0 k1 k2 k3 fl th tm pr ag ck nx))) (va_Qi (S := Unit) (fun r _ => r = 0) (fun _ tz => va_P (dC, dI) tw_cl (tw_wM h0 a0 a1 a2 a3 k0 k1 k2 k3 1 th tm pr ag ck nx) tz.heap ∧ va_D (va_A (tw_wM h0 a0 a1 a2 a3 k0 k1 k2 k3 fl th tm pr ag ck nx) sz) (tw_wM h0 a0 a1 a2 a3 k0 k1 k2 k3 1 th tm pr ag ck nx)) (va_A (tw_wM h0 a0 a1 a2 a3 k0 k1 k2 k3 fl th tm pr ag ck nx) sz)) 0 0 (va_A (tw_wM h0 a0 a1 a2 a3 k0 k1 k2 k3 fl th tm pr ag ck nx) sz) := by
  refine Met.ofW (cc := bM_go) (maxL := 3) (ret := some .int) (by decide) rfl ?_
  intro p e s m args below meth c s₁ B hml hv
  obtain ⟨rfl, hsz, hP, hK, hD0⟩ := hv
  have hx := B.exec
  have hb := B.bytes
  have hr := B.returns
  have hT := fun (w : Cond) (h : w ∈ tw_T) => atoms_spec (ws := Cond.code yM_go bM_go 3 (some .int) :: tw_T) B.pre w (List.mem_cons_of_mem _ h)
  have hown : s.vm.findClass RM = some m.cls := findClass_of_methodNamed B.named
  have hlocks := B.notSynchronized
  have hl := lv_entry ([.ref h0, .long n]) (n := 3) (Nat.le_of_ble_eq_true rfl)
  rw [lg_entry_eq]
  generalize (lg_sl ([.ref h0, .long n]) ++ List.replicate (3 - (lg_sl ([.ref h0, .long n])).length) Slot.unset).toArray = ls at hl ⊢
  have hl : lv_has ls 3 [(0, .ref h0), (1, .long n)] := hl
  subst hsz
  have hD := hD0.self (sz := s.heap.size)
  generalize hAe : va_A (tw_wM h0 a0 a1 a2 a3 k0 k1 k2 k3 fl th tm pr ag ck nx) s.heap.size = A at hD ⊢
  have hA : ∀ q : Nat, s.heap.size ≤ q → A q := fun q h => by rw [← hAe]; exact Or.inr h
  have hS : va_S A s.heap s.heap [] := va_S.rf
  refine lv_aload_n hx hb dM_go_0 rfl (lv_at hl 0 rfl) ?_
  refine lv_iconst (v := 0) hx hb dM_go_1 (by decide) ?_
  refine va_put (D := (dC, dI)) (ci := 1) (v := .int 0) (ty := .int) (C := RM) (T := FM) (N := 7) hx hb hT in_M TM tM_ok nM_ hown hK hP hD hS 0 rfl rfl 0 (by decide) (hT _ tt_217) (fun _ h9 => h9) rfl (by decide +kernel) rfl rfl (Nat.le_of_ble_eq_true rfl) dM_go_2 (fun H locs hP hD hS => ?_)
  have hP : va_P (dC, dI) tw_cl [(h0, .inr (1, [.int 0, .ref a0, .ref a1, .ref a2, .ref a3, .int nx, .long ck])), (a0, .inl (k0, 100, .inl th)), (a1, .inl (k1, 100, .inr (.inl tm))), (a2, .inl (k2, 100, .inl pr)), (a3, .inl (k3, 100, .inl ag))] H := hP
  have hD : va_D A [(h0, .inr (1, [.int 0, .ref a0, .ref a1, .ref a2, .ref a3, .int nx, .long ck])), (a0, .inl (k0, 100, .inl th)), (a1, .inl (k1, 100, .inr (.inl tm))), (a2, .inl (k2, 100, .inl pr)), (a3, .inl (k3, 100, .inl ag))] := hD
  refine lv_lload_n hx hb dM_go_5 rfl (lv_at hl 1 rfl) ?_
  refine lv_lconst (v := 0) hx hb dM_go_6 (by decide) ?_
  refine W.lcmp hx hb dM_go_7 ?_
  refine lv_if_lt (tgt := 32) hx hb dM_go_8 (by decide) (fun hc1 => ?_) (fun hc1 => ?_)
  · -- taken at 8: lg_cmp n 0 < 0
    refine lv_aload_n hx hb dM_go_32 rfl (lv_at hl 0 rfl) ?_
    refine lv_iconst (v := 1) hx hb dM_go_33 (by decide) ?_
    have hFc := va_free (wc := (tw_wM h0 a0 a1 a2 a3 k0 k1 k2 k3 0 th tm pr ag ck nx)) hD hS hA [0, 1, 2, 3, 4] rfl
    refine va_calli (va_runV (C := RM) (b := h0) (As := [.int 1]) (rest := []) ⟨hx, hb, hml, hown, hT⟩ (cM_fail l dC dI h0 a0 a1 a2 a3 k0 k1 k2 k3 0 th tm pr ag ck nx H.size 1) (cwV 1 hT (tw_gV tt_248 tt_250 tp_M_fail tt_2 tt_251) rfl rfl rfl ⟨rfl, by decide +kernel⟩ ⟨Nat.le_of_ble_eq_true rfl, Nat.le_of_ble_eq_true rfl⟩) ⟨fun a U g mk q => by obtain ⟨q0, q1, qP, qK, qD⟩ := q; exact ⟨q0, q1, qP, va_K.moved (u := U) (U := U.calling g mk a) (Vm.Alike.refl U.vm) qK, qD⟩, va_recv (q0 := 0) (ci := 1) hK hP rfl rfl, fun U hU hW => ⟨rfl, by rw [hU], by rw [hU]; exact hP, va_K.moved hW.alike hK, hD.weaken (fun _ _ _ _ => trivial)⟩⟩ rfl rfl hl.1 rfl (lv_room (Nat.le_of_ble_eq_true rfl)) dM_go_34 ⟨Nat.le_of_ble_eq_true rfl, Nat.le_of_ble_eq_true rfl⟩) hS (fun q _ h => hFc q h) hFc (fun r9 u9 t9 H1 locs ht9 hvm9 hw9 hB9 hz9 hk9 hS => ?_)
    obtain ⟨hP1, hD1⟩ := hB9
    rw [ht9] at hP1
    have hw9 : r9 = 0 := hw9
    subst hw9
    obtain ⟨hP, hD⟩ := va_join (wr := []) (w1 := (tw_wM h0 a0 a1 a2 a3 k0 k1 k2 k3 1 th tm pr ag ck nx)) hP hD [0, 1, 2, 3, 4] [] rfl rfl (by decide) (by decide) hk9 hFc hP1 hD1
    generalize H1 = H at hP hS ⊢
    have hP : va_P (dC, dI) tw_cl [(h0, .inr (1, [.int 1, .ref a0, .ref a1, .ref a2, .ref a3, .int nx, .long ck])), (a0, .inl (k0, 100, .inl th)), (a1, .inl (k1, 100, .inr (.inl tm))), (a2, .inl (k2, 100, .inl pr)), (a3, .inl (k3, 100, .inl ag))] H := hP
    have hD : va_D A [(h0, .inr (1, [.int 1, .ref a0, .ref a1, .ref a2, .ref a3, .int nx, .long ck])), (a0, .inl (k0, 100, .inl th)), (a1, .inl (k1, 100, .inr (.inl tm))), (a2, .inl (k2, 100, .inl pr)), (a3, .inl (k3, 100, .inl ag))] := hD
    exact W.iret hx hb hr (fun t ht hW => ⟨⟨_, (), rfl, rfl, by rw [ht]; exact hP, hD⟩, hS.F ht⟩) hS.2.2 dM_go_37
  · -- not taken at 8: lg_cmp n 0 < 0
    refine lv_lload_n hx hb dM_go_11 rfl (lv_at hl 1 rfl) ?_
    refine lv_ldc2 (v := 17592186044416) hx hb hown (hT _ tt_273) dM_go_12 ?_
    refine W.lcmp hx hb dM_go_15 ?_
    refine lv_if_gt (tgt := 32) hx hb dM_go_16 (by decide) (fun hc2 => ?_) (fun hc2 => ?_)
    · -- taken at 16: lg_cmp n 17592186044416 > 0
      refine lv_aload_n hx hb dM_go_32 rfl (lv_at hl 0 rfl) ?_
      refine lv_iconst (v := 1) hx hb dM_go_33 (by decide) ?_
      have hFc := va_free (wc := (tw_wM h0 a0 a1 a2 a3 k0 k1 k2 k3 0 th tm pr ag ck nx)) hD hS hA [0, 1, 2, 3, 4] rfl
      refine va_calli (va_runV (C := RM) (b := h0) (As := [.int 1]) (rest := []) ⟨hx, hb, hml, hown, hT⟩ (cM_fail l dC dI h0 a0 a1 a2 a3 k0 k1 k2 k3 0 th tm pr ag ck nx H.size 1) (cwV 1 hT (tw_gV tt_248 tt_250 tp_M_fail tt_2 tt_251) rfl rfl rfl ⟨rfl, by decide +kernel⟩ ⟨Nat.le_of_ble_eq_true rfl, Nat.le_of_ble_eq_true rfl⟩) ⟨fun a U g mk q => by obtain ⟨q0, q1, qP, qK, qD⟩ := q; exact ⟨q0, q1, qP, va_K.moved (u := U) (U := U.calling g mk a) (Vm.Alike.refl U.vm) qK, qD⟩, va_recv (q0 := 0) (ci := 1) hK hP rfl rfl, fun U hU hW => ⟨rfl, by rw [hU], by rw [hU]; exact hP, va_K.moved hW.alike hK, hD.weaken (fun _ _ _ _ => trivial)⟩⟩ rfl rfl hl.1 rfl (lv_room (Nat.le_of_ble_eq_true rfl)) dM_go_34 ⟨Nat.le_of_ble_eq_true rfl, Nat.le_of_ble_eq_true rfl⟩) hS (fun q _ h => hFc q h) hFc (fun r9 u9 t9 H1 locs ht9 hvm9 hw9 hB9 hz9 hk9 hS => ?_)
      obtain ⟨hP1, hD1⟩ := hB9
      rw [ht9] at hP1
      have hw9 : r9 = 0 := hw9
      subst hw9
      obtain ⟨hP, hD⟩ := va_join (wr := []) (w1 := (tw_wM h0 a0 a1 a2 a3 k0 k1 k2 k3 1 th tm pr ag ck nx)) hP hD [0, 1, 2, 3, 4] [] rfl rfl (by decide) (by decide) hk9 hFc hP1 hD1
      generalize H1 = H at hP hS ⊢
      have hP : va_P (dC, dI) tw_cl [(h0, .inr (1, [.int 1, .ref a0, .ref a1, .ref a2, .ref a3, .int nx, .long ck])), (a0, .inl (k0, 100, .inl th)), (a1, .inl (k1, 100, .inr (.inl tm))), (a2, .inl (k2, 100, .inl pr)), (a3, .inl (k3, 100, .inl ag))] H := hP
      have hD : va_D A [(h0, .inr (1, [.int 1, .ref a0, .ref a1, .ref a2, .ref a3, .int nx, .long ck])), (a0, .inl (k0, 100, .inl th)), (a1, .inl (k1, 100, .inr (.inl tm))), (a2, .inl (k2, 100, .inl pr)), (a3, .inl (k3, 100, .inl ag))] := hD
      exact W.iret hx hb hr (fun t ht hW => ⟨⟨_, (), rfl, rfl, by rw [ht]; exact hP, hD⟩, hS.F ht⟩) hS.2.2 dM_go_37
    · -- not taken at 16: lg_cmp n 17592186044416 > 0
      refine lv_aload_n hx hb dM_go_19 rfl (lv_at hl 0 rfl) ?_
      refine va_get (D := (dC, dI)) (ci := 1) (v := .long ck) (C := RM) (T := FM) (N := 7) hx hb hT in_M hown hK hP 0 rfl rfl 6 (by decide) (hT _ tt_223) (fun _ h9 => h9) rfl dM_go_20 ?_
      refine lv_lload_n hx hb dM_go_23 rfl (lv_at hl 1 rfl) ?_
      refine lv_ladd hx hb dM_go_24 ?_
      refine lv_ldc2 (v := 70368744177664) hx hb hown (hT _ tt_247) dM_go_25 ?_
      refine W.lcmp hx hb dM_go_28 ?_
      refine lv_if_le (tgt := 38) hx hb dM_go_29 (by decide) (fun hc3 => absurd hc3 (fun z => hbad ⟨(lg_cmp_ge _ _).mp (Int32.not_lt.mp hc1), (lg_cmp_le _ _).mp (Int32.not_lt.mp hc2), (lg_cmp_le _ _).mp z⟩)) (fun hc3 => ?_)
      refine lv_aload_n hx hb dM_go_32 rfl (lv_at hl 0 rfl) ?_
      refine lv_iconst (v := 1) hx hb dM_go_33 (by decide) ?_
      have hFc := va_free (wc := (tw_wM h0 a0 a1 a2 a3 k0 k1 k2 k3 0 th tm pr ag ck nx)) hD hS hA [0, 1, 2, 3, 4] rfl
      refine va_calli (va_runV (C := RM) (b := h0) (As := [.int 1]) (rest := []) ⟨hx, hb, hml, hown, hT⟩ (cM_fail l dC dI h0 a0 a1 a2 a3 k0 k1 k2 k3 0 th tm pr ag ck nx H.size 1) (cwV 1 hT (tw_gV tt_248 tt_250 tp_M_fail tt_2 tt_251) rfl rfl rfl ⟨rfl, by decide +kernel⟩ ⟨Nat.le_of_ble_eq_true rfl, Nat.le_of_ble_eq_true rfl⟩) ⟨fun a U g mk q => by obtain ⟨q0, q1, qP, qK, qD⟩ := q; exact ⟨q0, q1, qP, va_K.moved (u := U) (U := U.calling g mk a) (Vm.Alike.refl U.vm) qK, qD⟩, va_recv (q0 := 0) (ci := 1) hK hP rfl rfl, fun U hU hW => ⟨rfl, by rw [hU], by rw [hU]; exact hP, va_K.moved hW.alike hK, hD.weaken (fun _ _ _ _ => trivial)⟩⟩ rfl rfl hl.1 rfl (lv_room (Nat.le_of_ble_eq_true rfl)) dM_go_34 ⟨Nat.le_of_ble_eq_true rfl, Nat.le_of_ble_eq_true rfl⟩) hS (fun q _ h => hFc q h) hFc (fun r9 u9 t9 H1 locs ht9 hvm9 hw9 hB9 hz9 hk9 hS => ?_)
      obtain ⟨hP1, hD1⟩ := hB9
      rw [ht9] at hP1
      have hw9 : r9 = 0 := hw9
      subst hw9
      obtain ⟨hP, hD⟩ := va_join (wr := []) (w1 := (tw_wM h0 a0 a1 a2 a3 k0 k1 k2 k3 1 th tm pr ag ck nx)) hP hD [0, 1, 2, 3, 4] [] rfl rfl (by decide) (by decide) hk9 hFc hP1 hD1
      generalize H1 = H at hP hS ⊢
      have hP : va_P (dC, dI) tw_cl [(h0, .inr (1, [.int 1, .ref a0, .ref a1, .ref a2, .ref a3, .int nx, .long ck])), (a0, .inl (k0, 100, .inl th)), (a1, .inl (k1, 100, .inr (.inl tm))), (a2, .inl (k2, 100, .inl pr)), (a3, .inl (k3, 100, .inl ag))] H := hP
      have hD : va_D A [(h0, .inr (1, [.int 1, .ref a0, .ref a1, .ref a2, .ref a3, .int nx, .long ck])), (a0, .inl (k0, 100, .inl th)), (a1, .inl (k1, 100, .inr (.inl tm))), (a2, .inl (k2, 100, .inl pr)), (a3, .inl (k3, 100, .inl ag))] := hD
      exact W.iret hx hb hr (fun t ht hW => ⟨⟨_, (), rfl, rfl, by rw [ht]; exact hP, hD⟩, hS.F ht⟩) hS.2.2 dM_go_37
set_option maxHeartbeats 4000000 in
set_option maxRecDepth 100000 in
theorem cM_skip (l : Launch) (dC : Nat → ClassId) (dI : Nat → Nat → Nat) (h0 a0 a1 a2 a3 : Nat) (k0 k1 k2 k3 : ClassId) (fl : Int32) (th : Nat → Int32) (tm : Nat → Int64) (pr ag : Nat → Int32) (ck : Int64) (nx : Int32) (sz : Nat) (h00 : ∀ k : Nat, 0 ≤ tm k) (hf : ¬ tw_least th tm ck 100 = -1) : Met l yM_skip (Cond.code yM_skip bM_skip 3 (some .int) :: tw_T) { frames := 3, cells := 0, slots := 0, locals := 120 } (va_Pc [.ref h0] (fun U => U.heap.size = sz ∧ va_P (dC, dI) tw_cl (tw_wM h0 a0 a1 a2 a3 k0 k1 k2 k3 fl th tm pr ag ck nx) U.heap ∧ va_K (dC, dI) tw_cl (tw_k k0 k1 k2 k3) U ∧ va_D (fun _ => True) (tw_wM h0 a0 a1 a2 a3 k0 k1 k2 k3 fl th tm pr ag ck nx))) (va_Qi (S := Unit) (fun r _ => r = tw_dues th tm (tw_least th tm ck 100) 100) (fun _ tz => va_P (dC, dI) tw_cl (tw_wM h0 a0 a1 a2 a3 k0 k1 k2 k3 0 th tm pr ag (tw_least th tm ck 100) nx) tz.heap ∧ va_D (va_A (tw_wM h0 a0 a1 a2 a3 k0 k1 k2 k3 fl th tm pr ag ck nx) sz) (tw_wM h0 a0 a1 a2 a3 k0 k1 k2 k3 0 th tm pr ag (tw_least th tm ck 100) nx)) (va_A (tw_wM h0 a0 a1 a2 a3 k0 k1 k2 k3 fl th tm pr ag ck nx) sz)) 0 0 (va_A (tw_wM h0 a0 a1 a2 a3 k0 k1 k2 k3 fl th tm pr ag ck nx) sz) := by
  refine Met.ofW (cc := bM_skip) (maxL := 3) (ret := some .int) (by decide) rfl ?_
  intro p e s m args below meth c s₁ B hml hv
  obtain ⟨rfl, hsz, hP, hK, hD0⟩ := hv
  have hx := B.exec
  have hb := B.bytes
  have hr := B.returns
  have hT := fun (w : Cond) (h : w ∈ tw_T) => atoms_spec (ws := Cond.code yM_skip bM_skip 3 (some .int) :: tw_T) B.pre w (List.mem_cons_of_mem _ h)
  have hown : s.vm.findClass RM = some m.cls := findClass_of_methodNamed B.named
  have hlocks := B.notSynchronized
  have hl := lv_entry ([.ref h0]) (n := 3) (Nat.le_of_ble_eq_true rfl)
  rw [lg_entry_eq]
  generalize (lg_sl ([.ref h0]) ++ List.replicate (3 - (lg_sl ([.ref h0])).length) Slot.unset).toArray = ls at hl ⊢
  have hl : lv_has ls 3 [(0, .ref h0)] := hl
  subst hsz
  have hD := hD0.self (sz := s.heap.size)
  generalize hAe : va_A (tw_wM h0 a0 a1 a2 a3 k0 k1 k2 k3 fl th tm pr ag ck nx) s.heap.size = A at hD ⊢
  have hA : ∀ q : Nat, s.heap.size ≤ q → A q := fun q h => by rw [← hAe]; exact Or.inr h
  have hS : va_S A s.heap s.heap [] := va_S.rf
  refine lv_aload_n hx hb dM_skip_0 rfl (lv_at hl 0 rfl) ?_
  have hFc := va_free (wc := (tw_wM h0 a0 a1 a2 a3 k0 k1 k2 k3 fl th tm pr ag ck nx)) hD hS hA [0, 1, 2, 3, 4] rfl
  refine va_calll (va_runV (C := RM) (b := h0) (As := []) (rest := []) ⟨hx, hb, hml, hown, hT⟩ (cM_least l dC dI h0 a0 a1 a2 a3 k0 k1 k2 k3 fl th tm pr ag ck nx s.heap.size h00) (cwV 0 hT (tw_gV tt_282 tt_265 tt_266 tt_2 tt_267) rfl rfl rfl ⟨rfl, by decide +kernel⟩ ⟨Nat.le_of_ble_eq_true rfl, Nat.le_of_ble_eq_true rfl⟩) ⟨fun a U g mk q => by obtain ⟨q0, q1, qP, qK, qD⟩ := q; exact ⟨q0, q1, qP, va_K.moved (u := U) (U := U.calling g mk a) (Vm.Alike.refl U.vm) qK, qD⟩, va_recv (q0 := 0) (ci := 1) hK hP rfl rfl, fun U hU hW => ⟨rfl, by rw [hU], by rw [hU]; exact hP, va_K.moved hW.alike hK, hD.weaken (fun _ _ _ _ => trivial)⟩⟩ rfl rfl hl.1 rfl (lv_room (Nat.le_of_ble_eq_true rfl)) dM_skip_1 ⟨Nat.le_of_ble_eq_true rfl, Nat.le_of_ble_eq_true rfl⟩) hS (fun q _ h => hFc q h) hFc (fun r9 u9 t9 H1 locs ht9 hvm9 hw9 hB9 hz9 hk9 hS => ?_)
  obtain ⟨hP1, hD1⟩ := hB9
  rw [ht9] at hP1
  have hw9 : r9 = tw_least th tm ck 100 := hw9
  subst hw9
  obtain ⟨hP, hD⟩ := va_join (wr := []) (w1 := (tw_wM h0 a0 a1 a2 a3 k0 k1 k2 k3 0 th tm pr ag ck nx)) hP hD [0, 1, 2, 3, 4] [] rfl rfl (by decide) (by decide) hk9 hFc hP1 hD1
  generalize H1 = H at hP hS ⊢
  have hP : va_P (dC, dI) tw_cl [(h0, .inr (1, [.int 0, .ref a0, .ref a1, .ref a2, .ref a3, .int nx, .long ck])), (a0, .inl (k0, 100, .inl th)), (a1, .inl (k1, 100, .inr (.inl tm))), (a2, .inl (k2, 100, .inl pr)), (a3, .inl (k3, 100, .inl ag))] H := hP
  have hD : va_D A [(h0, .inr (1, [.int 0, .ref a0, .ref a1, .ref a2, .ref a3, .int nx, .long ck])), (a0, .inl (k0, 100, .inl th)), (a1, .inl (k1, 100, .inr (.inl tm))), (a2, .inl (k2, 100, .inl pr)), (a3, .inl (k3, 100, .inl ag))] := hD
  refine lv_lstore_n hx hb dM_skip_4 rfl hl (by decide) rfl (fun ls hl => ?_)
  have hl : lv_has ls 3 [(1, .long (tw_least th tm ck 100)), (0, .ref h0)] := hl
  refine lv_lload_n hx hb dM_skip_5 rfl (lv_at hl 0 rfl) ?_
  refine lv_lconst (v := 0) hx hb dM_skip_6 (by decide) ?_
  refine W.lcmp hx hb dM_skip_7 ?_
  refine lv_if_ge (tgt := 17) hx hb dM_skip_8 (by decide) (fun hc1 => ?_) (fun hc1 => absurd ((lg_cmp_ge _ _).mpr (Int64.not_lt.mp (fun z => hf ((tw_least_neg h00 100).mpr z)))) hc1)
  refine lv_aload_n hx hb dM_skip_17 rfl (lv_at hl 1 rfl) ?_
  refine lv_lload_n hx hb dM_skip_18 rfl (lv_at hl 0 rfl) ?_
  refine va_put (D := (dC, dI)) (ci := 1) (v := .long (tw_least th tm ck 100)) (ty := .long) (C := RM) (T := FM) (N := 7) hx hb hT in_M TM tM_ok nM_ hown hK hP hD hS 0 rfl rfl 6 (by decide) (hT _ tt_223) (fun _ h9 => h9) rfl (by decide +kernel) rfl rfl (Nat.le_of_ble_eq_true rfl) dM_skip_19 (fun H locs hP hD hS => ?_)
  have hP : va_P (dC, dI) tw_cl [(h0, .inr (1, [.int 0, .ref a0, .ref a1, .ref a2, .ref a3, .int nx, .long (tw_least th tm ck 100)])), (a0, .inl (k0, 100, .inl th)), (a1, .inl (k1, 100, .inr (.inl tm))), (a2, .inl (k2, 100, .inl pr)), (a3, .inl (k3, 100, .inl ag))] H := hP
  have hD : va_D A [(h0, .inr (1, [.int 0, .ref a0, .ref a1, .ref a2, .ref a3, .int nx, .long (tw_least th tm ck 100)])), (a0, .inl (k0, 100, .inl th)), (a1, .inl (k1, 100, .inr (.inl tm))), (a2, .inl (k2, 100, .inl pr)), (a3, .inl (k3, 100, .inl ag))] := hD
  refine lv_aload_n hx hb dM_skip_22 rfl (lv_at hl 1 rfl) ?_
  refine vp_callSi (W.runV (C := RM) (b := h0) (As := []) (rest := []) ⟨hx, hb, hml, hown, hT⟩ (cM_dues l dC dI h0 a0 a1 a2 a3 k0 k1 k2 k3 0 th tm pr ag (tw_least th tm ck 100) nx) (cwV 0 hT (tw_gV tt_274 tt_276 tp_M_dues tt_2 tt_277) rfl rfl rfl ⟨rfl, by decide +kernel⟩ ⟨Nat.le_of_ble_eq_true rfl, Nat.le_of_ble_eq_true rfl⟩) ⟨fun a U g mk q => ⟨q.1, q.2.1, va_K.moved (u := U) (U := U.calling g mk a) (Vm.Alike.refl U.vm) q.2.2⟩, va_recv (q0 := 0) (ci := 1) hK hP rfl rfl, fun U hU hW => ⟨rfl, by rw [hU]; exact hP, va_K.moved hW.alike hK⟩⟩ rfl rfl hl.1 rfl (lv_room (Nat.le_of_ble_eq_true rfl)) dM_skip_23 ⟨Nat.le_of_ble_eq_true rfl, Nat.le_of_ble_eq_true rfl⟩) (fun r2 h2 => ?_)
  subst h2
  exact W.iret hx hb hr (fun t ht hW => ⟨⟨_, (), rfl, rfl, by rw [ht]; exact hP, hD⟩, hS.F ht⟩) hS.2.2 dM_skip_26
set_option maxHeartbeats 4000000 in
set_option maxRecDepth 100000 in
theorem cM_skipB (l : Launch) (dC : Nat → ClassId) (dI : Nat → Nat → Nat) (h0 a0 a1 a2 a3 : Nat) (k0 k1 k2 k3 : ClassId) (fl : Int32) (th : Nat → Int32) (tm : Nat → Int64) (pr ag : Nat → Int32) (ck : Int64) (nx : Int32) (sz : Nat) (h00 : ∀ k : Nat, 0 ≤ tm k) (hf : tw_least th tm ck 100 = -1) : Met l yM_skip (Cond.code yM_skip bM_skip 3 (some .int) :: tw_T) { frames := 3, cells := 0, slots := 0, locals := 120 } (va_Pc [.ref h0] (fun U => U.heap.size = sz ∧ va_P (dC, dI) tw_cl (tw_wM h0 a0 a1 a2 a3 k0 k1 k2 k3 fl th tm pr ag ck nx) U.heap ∧ va_K (dC, dI) tw_cl (tw_k k0 k1 k2 k3) U ∧ va_D (fun _ => True) (tw_wM h0 a0 a1 a2 a3 k0 k1 k2 k3 fl th tm pr ag ck nx))) (va_Qi (S := Unit) (fun r _ => r = 0) (fun _ tz => va_P (dC, dI) tw_cl (tw_wM h0 a0 a1 a2 a3 k0 k1 k2 k3 1 th tm pr ag ck nx) tz.heap ∧ va_D (va_A (tw_wM h0 a0 a1 a2 a3 k0 k1 k2 k3 fl th tm pr ag ck nx) sz) (tw_wM h0 a0 a1 a2 a3 k0 k1 k2 k3 1 th tm pr ag ck nx)) (va_A (tw_wM h0 a0 a1 a2 a3 k0 k1 k2 k3 fl th tm pr ag ck nx) sz)) 0 0 (va_A (tw_wM h0 a0 a1 a2 a3 k0 k1 k2 k3 fl th tm pr ag ck nx) sz) := by
  refine Met.ofW (cc := bM_skip) (maxL := 3) (ret := some .int) (by decide) rfl ?_
  intro p e s m args below meth c s₁ B hml hv
  obtain ⟨rfl, hsz, hP, hK, hD0⟩ := hv
  have hx := B.exec
  have hb := B.bytes
  have hr := B.returns
  have hT := fun (w : Cond) (h : w ∈ tw_T) => atoms_spec (ws := Cond.code yM_skip bM_skip 3 (some .int) :: tw_T) B.pre w (List.mem_cons_of_mem _ h)
  have hown : s.vm.findClass RM = some m.cls := findClass_of_methodNamed B.named
  have hlocks := B.notSynchronized
  have hl := lv_entry ([.ref h0]) (n := 3) (Nat.le_of_ble_eq_true rfl)
  rw [lg_entry_eq]
  generalize (lg_sl ([.ref h0]) ++ List.replicate (3 - (lg_sl ([.ref h0])).length) Slot.unset).toArray = ls at hl ⊢
  have hl : lv_has ls 3 [(0, .ref h0)] := hl
  subst hsz
  have hD := hD0.self (sz := s.heap.size)
  generalize hAe : va_A (tw_wM h0 a0 a1 a2 a3 k0 k1 k2 k3 fl th tm pr ag ck nx) s.heap.size = A at hD ⊢
  have hA : ∀ q : Nat, s.heap.size ≤ q → A q := fun q h => by rw [← hAe]; exact Or.inr h
  have hS : va_S A s.heap s.heap [] := va_S.rf
  refine lv_aload_n hx hb dM_skip_0 rfl (lv_at hl 0 rfl) ?_
  have hFc := va_free (wc := (tw_wM h0 a0 a1 a2 a3 k0 k1 k2 k3 fl th tm pr ag ck nx)) hD hS hA [0, 1, 2, 3, 4] rfl
  refine va_calll (va_runV (C := RM) (b := h0) (As := []) (rest := []) ⟨hx, hb, hml, hown, hT⟩ (cM_least l dC dI h0 a0 a1 a2 a3 k0 k1 k2 k3 fl th tm pr ag ck nx s.heap.size h00) (cwV 0 hT (tw_gV tt_282 tt_265 tt_266 tt_2 tt_267) rfl rfl rfl ⟨rfl, by decide +kernel⟩ ⟨Nat.le_of_ble_eq_true rfl, Nat.le_of_ble_eq_true rfl⟩) ⟨fun a U g mk q => by obtain ⟨q0, q1, qP, qK, qD⟩ := q; exact ⟨q0, q1, qP, va_K.moved (u := U) (U := U.calling g mk a) (Vm.Alike.refl U.vm) qK, qD⟩, va_recv (q0 := 0) (ci := 1) hK hP rfl rfl, fun U hU hW => ⟨rfl, by rw [hU], by rw [hU]; exact hP, va_K.moved hW.alike hK, hD.weaken (fun _ _ _ _ => trivial)⟩⟩ rfl rfl hl.1 rfl (lv_room (Nat.le_of_ble_eq_true rfl)) dM_skip_1 ⟨Nat.le_of_ble_eq_true rfl, Nat.le_of_ble_eq_true rfl⟩) hS (fun q _ h => hFc q h) hFc (fun r9 u9 t9 H1 locs ht9 hvm9 hw9 hB9 hz9 hk9 hS => ?_)
  obtain ⟨hP1, hD1⟩ := hB9
  rw [ht9] at hP1
  have hw9 : r9 = tw_least th tm ck 100 := hw9
  subst hw9
  obtain ⟨hP, hD⟩ := va_join (wr := []) (w1 := (tw_wM h0 a0 a1 a2 a3 k0 k1 k2 k3 0 th tm pr ag ck nx)) hP hD [0, 1, 2, 3, 4] [] rfl rfl (by decide) (by decide) hk9 hFc hP1 hD1
  generalize H1 = H at hP hS ⊢
  have hP : va_P (dC, dI) tw_cl [(h0, .inr (1, [.int 0, .ref a0, .ref a1, .ref a2, .ref a3, .int nx, .long ck])), (a0, .inl (k0, 100, .inl th)), (a1, .inl (k1, 100, .inr (.inl tm))), (a2, .inl (k2, 100, .inl pr)), (a3, .inl (k3, 100, .inl ag))] H := hP
  have hD : va_D A [(h0, .inr (1, [.int 0, .ref a0, .ref a1, .ref a2, .ref a3, .int nx, .long ck])), (a0, .inl (k0, 100, .inl th)), (a1, .inl (k1, 100, .inr (.inl tm))), (a2, .inl (k2, 100, .inl pr)), (a3, .inl (k3, 100, .inl ag))] := hD
  refine lv_lstore_n hx hb dM_skip_4 rfl hl (by decide) rfl (fun ls hl => ?_)
  have hl : lv_has ls 3 [(1, .long (tw_least th tm ck 100)), (0, .ref h0)] := hl
  refine lv_lload_n hx hb dM_skip_5 rfl (lv_at hl 0 rfl) ?_
  refine lv_lconst (v := 0) hx hb dM_skip_6 (by decide) ?_
  refine W.lcmp hx hb dM_skip_7 ?_
  refine lv_if_ge (tgt := 17) hx hb dM_skip_8 (by decide) (fun hc1 => absurd hc1 (Int32.not_le.mpr ((lg_cmp_lt _ _).mpr ((tw_least_neg h00 100).mp hf)))) (fun hc1 => ?_)
  refine lv_aload_n hx hb dM_skip_11 rfl (lv_at hl 1 rfl) ?_
  refine lv_iconst (v := 1) hx hb dM_skip_12 (by decide) ?_
  have hFc := va_free (wc := (tw_wM h0 a0 a1 a2 a3 k0 k1 k2 k3 0 th tm pr ag ck nx)) hD hS hA [0, 1, 2, 3, 4] rfl
  refine va_calli (va_runV (C := RM) (b := h0) (As := [.int 1]) (rest := []) ⟨hx, hb, hml, hown, hT⟩ (cM_fail l dC dI h0 a0 a1 a2 a3 k0 k1 k2 k3 0 th tm pr ag ck nx H.size 1) (cwV 1 hT (tw_gV tt_248 tt_250 tp_M_fail tt_2 tt_251) rfl rfl rfl ⟨rfl, by decide +kernel⟩ ⟨Nat.le_of_ble_eq_true rfl, Nat.le_of_ble_eq_true rfl⟩) ⟨fun a U g mk q => by obtain ⟨q0, q1, qP, qK, qD⟩ := q; exact ⟨q0, q1, qP, va_K.moved (u := U) (U := U.calling g mk a) (Vm.Alike.refl U.vm) qK, qD⟩, va_recv (q0 := 0) (ci := 1) hK hP rfl rfl, fun U hU hW => ⟨rfl, by rw [hU], by rw [hU]; exact hP, va_K.moved hW.alike hK, hD.weaken (fun _ _ _ _ => trivial)⟩⟩ rfl rfl hl.1 rfl (lv_room (Nat.le_of_ble_eq_true rfl)) dM_skip_13 ⟨Nat.le_of_ble_eq_true rfl, Nat.le_of_ble_eq_true rfl⟩) hS (fun q _ h => hFc q h) hFc (fun r9 u9 t9 H1 locs ht9 hvm9 hw9 hB9 hz9 hk9 hS => ?_)
  obtain ⟨hP1, hD1⟩ := hB9
  rw [ht9] at hP1
  have hw9 : r9 = 0 := hw9
  subst hw9
  obtain ⟨hP, hD⟩ := va_join (wr := []) (w1 := (tw_wM h0 a0 a1 a2 a3 k0 k1 k2 k3 1 th tm pr ag ck nx)) hP hD [0, 1, 2, 3, 4] [] rfl rfl (by decide) (by decide) hk9 hFc hP1 hD1
  generalize H1 = H at hP hS ⊢
  have hP : va_P (dC, dI) tw_cl [(h0, .inr (1, [.int 1, .ref a0, .ref a1, .ref a2, .ref a3, .int nx, .long ck])), (a0, .inl (k0, 100, .inl th)), (a1, .inl (k1, 100, .inr (.inl tm))), (a2, .inl (k2, 100, .inl pr)), (a3, .inl (k3, 100, .inl ag))] H := hP
  have hD : va_D A [(h0, .inr (1, [.int 1, .ref a0, .ref a1, .ref a2, .ref a3, .int nx, .long ck])), (a0, .inl (k0, 100, .inl th)), (a1, .inl (k1, 100, .inr (.inl tm))), (a2, .inl (k2, 100, .inl pr)), (a3, .inl (k3, 100, .inl ag))] := hD
  exact W.iret hx hb hr (fun t ht hW => ⟨⟨_, (), rfl, rfl, by rw [ht]; exact hP, hD⟩, hS.F ht⟩) hS.2.2 dM_skip_16
set_option maxHeartbeats 4000000 in
set_option maxRecDepth 100000 in
theorem cM_timer0 (l : Launch) (dC : Nat → ClassId) (dI : Nat → Nat → Nat) (h0 a0 a1 a2 a3 : Nat) (k0 k1 k2 k3 : ClassId) (fl : Int32) (th : Nat → Int32) (tm : Nat → Int64) (pr ag : Nat → Int32) (ck : Int64) (nx : Int32) (sz : Nat) (j : Int32) (hj : vp_in j 100) : Met l yM_timer (Cond.code yM_timer bM_timer 3 (some .long) :: tw_T) { frames := 2, cells := 0, slots := 0, locals := 80 } (va_Pc [.ref h0, .int j, .int 0] (fun U => U.heap.size = sz ∧ va_P (dC, dI) tw_cl (tw_wM h0 a0 a1 a2 a3 k0 k1 k2 k3 fl th tm pr ag ck nx) U.heap ∧ va_K (dC, dI) tw_cl (tw_k k0 k1 k2 k3) U ∧ va_D (fun _ => True) (tw_wM h0 a0 a1 a2 a3 k0 k1 k2 k3 fl th tm pr ag ck nx))) (va_Ql (S := Unit) (fun r _ => r = (if th j.toNatClampNeg = 0 then 0 else if tw_due th tm ck j = true then 2 else 1)) (fun _ tz => va_P (dC, dI) tw_cl (tw_wM h0 a0 a1 a2 a3 k0 k1 k2 k3 0 th tm pr ag ck nx) tz.heap ∧ va_D (va_A (tw_wM h0 a0 a1 a2 a3 k0 k1 k2 k3 fl th tm pr ag ck nx) sz) (tw_wM h0 a0 a1 a2 a3 k0 k1 k2 k3 0 th tm pr ag ck nx)) (va_A (tw_wM h0 a0 a1 a2 a3 k0 k1 k2 k3 fl th tm pr ag ck nx) sz)) 0 0 (va_A (tw_wM h0 a0 a1 a2 a3 k0 k1 k2 k3 fl th tm pr ag ck nx) sz) := by
  refine Met.ofW (cc := bM_timer) (maxL := 3) (ret := some .long) (by decide) rfl ?_
  intro p e s m args below meth c s₁ B hml hv
  obtain ⟨rfl, hsz, hP, hK, hD0⟩ := hv
  have hx := B.exec
  have hb := B.bytes
  have hr := B.returns
  have hT := fun (w : Cond) (h : w ∈ tw_T) => atoms_spec (ws := Cond.code yM_timer bM_timer 3 (some .long) :: tw_T) B.pre w (List.mem_cons_of_mem _ h)
  have hown : s.vm.findClass RM = some m.cls := findClass_of_methodNamed B.named
  have hlocks := B.notSynchronized
  have hl := lv_entry ([.ref h0, .int j, .int 0]) (n := 3) (Nat.le_of_ble_eq_true rfl)
  rw [lg_entry_eq]
  generalize (lg_sl ([.ref h0, .int j, .int 0]) ++ List.replicate (3 - (lg_sl ([.ref h0, .int j, .int 0])).length) Slot.unset).toArray = ls at hl ⊢
  have hl : lv_has ls 3 [(0, .ref h0), (1, .int j), (2, .int 0)] := hl
  subst hsz
  have hD := hD0.self (sz := s.heap.size)
  generalize hAe : va_A (tw_wM h0 a0 a1 a2 a3 k0 k1 k2 k3 fl th tm pr ag ck nx) s.heap.size = A at hD ⊢
  have hA : ∀ q : Nat, s.heap.size ≤ q → A q := fun q h => by rw [← hAe]; exact Or.inr h
  have hS : va_S A s.heap s.heap [] := va_S.rf
  refine lv_aload_n hx hb dM_timer_0 rfl (lv_at hl 0 rfl) ?_
  refine lv_iconst (v := 0) hx hb dM_timer_1 (by decide) ?_
  refine va_put (D := (dC, dI)) (ci := 1) (v := .int 0) (ty := .int) (C := RM) (T := FM) (N := 7) hx hb hT in_M TM tM_ok nM_ hown hK hP hD hS 0 rfl rfl 0 (by decide) (hT _ tt_217) (fun _ h9 => h9) rfl (by decide +kernel) rfl rfl (Nat.le_of_ble_eq_true rfl) dM_timer_2 (fun H locs hP hD hS => ?_)
  have hP : va_P (dC, dI) tw_cl [(h0, .inr (1, [.int 0, .ref a0, .ref a1, .ref a2, .ref a3, .int nx, .long ck])), (a0, .inl (k0, 100, .inl th)), (a1, .inl (k1, 100, .inr (.inl tm))), (a2, .inl (k2, 100, .inl pr)), (a3, .inl (k3, 100, .inl ag))] H := hP
  have hD : va_D A [(h0, .inr (1, [.int 0, .ref a0, .ref a1, .ref a2, .ref a3, .int nx, .long ck])), (a0, .inl (k0, 100, .inl th)), (a1, .inl (k1, 100, .inr (.inl tm))), (a2, .inl (k2, 100, .inl pr)), (a3, .inl (k3, 100, .inl ag))] := hD
  refine lv_iload_n hx hb dM_timer_5 rfl (lv_at hl 1 rfl) ?_
  refine lv_if_lt (tgt := 24) hx hb dM_timer_6 (by decide) (fun hc1 => absurd hc1 ((tw_vp99.mp hj).1)) (fun hc1 => ?_)
  refine lv_iload_n hx hb dM_timer_9 rfl (lv_at hl 1 rfl) ?_
  refine lv_bipush (v := 99) hx hb dM_timer_10 (by decide) ?_
  refine lv_icmp_gt (tgt := 24) hx hb dM_timer_12 (by decide) (fun hc2 => absurd hc2 (fun z => Int32.not_lt.mpr (tw_vp99.mp hj).2 z)) (fun hc2 => ?_)
  refine lv_iload_n hx hb dM_timer_15 rfl (lv_at hl 2 rfl) ?_
  refine lv_if_lt (tgt := 24) hx hb dM_timer_16 (by decide) (fun hc3 => absurd hc3 (by decide)) (fun hc3 => ?_)
  refine lv_iload_n hx hb dM_timer_19 rfl (lv_at hl 2 rfl) ?_
  refine lv_iconst (v := 3) hx hb dM_timer_20 (by decide) ?_
  refine lv_icmp_le (tgt := 31) hx hb dM_timer_21 (by decide) (fun hc4 => ?_) (fun hc4 => absurd (by decide) hc4)
  refine lv_aload_n hx hb dM_timer_31 rfl (lv_at hl 0 rfl) ?_
  refine va_get (D := (dC, dI)) (ci := 1) (v := .ref a0) (C := RM) (T := FM) (N := 7) hx hb hT in_M hown hK hP 0 rfl rfl 1 (by decide) (hT _ tt_218) (fun _ h9 => h9) rfl dM_timer_32 ?_
  refine lv_iload_n hx hb dM_timer_35 rfl (lv_at hl 1 rfl) ?_
  refine va_zald hx hb hK hP 1 0 rfl rfl hj dM_timer_36 ?_
  refine lv_if_ne (tgt := 42) hx hb dM_timer_37 (by decide) (fun hc5 => ?_) (fun hc5 => ?_)
  · -- taken at 37: ¬ th j.toNatClampNeg = 0
    refine lv_iload_n hx hb dM_timer_42 rfl (lv_at hl 2 rfl) ?_
    refine lv_if_ne (tgt := 64) hx hb dM_timer_43 (by decide) (fun hc6 => absurd rfl hc6) (fun hc6 => ?_)
    refine lv_aload_n hx hb dM_timer_46 rfl (lv_at hl 0 rfl) ?_
    refine lv_iload_n hx hb dM_timer_47 rfl (lv_at hl 1 rfl) ?_
    refine vp_callSi (W.runV (C := RM) (b := h0) (As := [.int j]) (rest := []) ⟨hx, hb, hml, hown, hT⟩ (cM_due l dC dI h0 a0 a1 a2 a3 k0 k1 k2 k3 0 th tm pr ag ck nx j hj) (cwV 1 hT (tw_gV tt_260 tt_262 tp_M_due tt_2 tt_263) rfl rfl rfl ⟨rfl, by decide +kernel⟩ ⟨Nat.le_of_ble_eq_true rfl, Nat.le_of_ble_eq_true rfl⟩) ⟨fun a U g mk q => ⟨q.1, q.2.1, va_K.moved (u := U) (U := U.calling g mk a) (Vm.Alike.refl U.vm) q.2.2⟩, va_recv (q0 := 0) (ci := 1) hK hP rfl rfl, fun U hU hW => ⟨rfl, by rw [hU]; exact hP, va_K.moved hW.alike hK⟩⟩ rfl rfl hl.1 rfl (lv_room (Nat.le_of_ble_eq_true rfl)) dM_timer_48 ⟨Nat.le_of_ble_eq_true rfl, Nat.le_of_ble_eq_true rfl⟩) (fun r2 h2 => ?_)
    subst h2
    refine lv_if_eq (tgt := 60) hx hb dM_timer_51 (by decide) (fun hc7 => ?_) (fun hc7 => ?_)
    · -- taken at 51: tw_bz (tw_due th tm ck j) = 0
      refine lv_lconst (v := 1) hx hb dM_timer_60 (by decide) ?_
      refine lv_goto (tgt := 100) hx hb dM_timer_61 (by decide) ?_
      exact W.lret hx hb hr (fun t ht hW => ⟨⟨_, (), rfl, by rw [if_neg hc5, if_neg (by rw [tw_bz0 hc7]; decide)], by rw [ht]; exact hP, hD⟩, hS.F ht⟩) hS.2.2 dM_timer_100
    · -- not taken at 51: tw_bz (tw_due th tm ck j) = 0
      refine lv_ldc2 (v := 2) hx hb hown (hT _ tt_287) dM_timer_54 ?_
      refine lv_goto (tgt := 100) hx hb dM_timer_57 (by decide) ?_
      exact W.lret hx hb hr (fun t ht hW => ⟨⟨_, (), rfl, by rw [if_neg hc5, if_pos (tw_bz1 hc7)], by rw [ht]; exact hP, hD⟩, hS.F ht⟩) hS.2.2 dM_timer_100
  · -- not taken at 37: ¬ th j.toNatClampNeg = 0
    refine lv_lconst (v := 0) hx hb dM_timer_40 (by decide) ?_
    exact W.lret hx hb hr (fun t ht hW => ⟨⟨_, (), rfl, by rw [if_pos hc5], by rw [ht]; exact hP, hD⟩, hS.F ht⟩) hS.2.2 dM_timer_41
set_option maxHeartbeats 4000000 in
set_option maxRecDepth 100000 in
theorem cM_timer1 (l : Launch) (dC : Nat → ClassId) (dI : Nat → Nat → Nat) (h0 a0 a1 a2 a3 : Nat) (k0 k1 k2 k3 : ClassId) (fl : Int32) (th : Nat → Int32) (tm : Nat → Int64) (pr ag : Nat → Int32) (ck : Int64) (nx : Int32) (sz : Nat) (j : Int32) (hj : vp_in j 100) : Met l yM_timer (Cond.code yM_timer bM_timer 3 (some .long) :: tw_T) { frames := 2, cells := 0, slots := 0, locals := 80 } (va_Pc [.ref h0, .int j, .int 1] (fun U => U.heap.size = sz ∧ va_P (dC, dI) tw_cl (tw_wM h0 a0 a1 a2 a3 k0 k1 k2 k3 fl th tm pr ag ck nx) U.heap ∧ va_K (dC, dI) tw_cl (tw_k k0 k1 k2 k3) U ∧ va_D (fun _ => True) (tw_wM h0 a0 a1 a2 a3 k0 k1 k2 k3 fl th tm pr ag ck nx))) (va_Ql (S := Unit) (fun r _ => r = (if th j.toNatClampNeg = 0 then 0 else tm j.toNatClampNeg)) (fun _ tz => va_P (dC, dI) tw_cl (tw_wM h0 a0 a1 a2 a3 k0 k1 k2 k3 0 th tm pr ag ck nx) tz.heap ∧ va_D (va_A (tw_wM h0 a0 a1 a2 a3 k0 k1 k2 k3 fl th tm pr ag ck nx) sz) (tw_wM h0 a0 a1 a2 a3 k0 k1 k2 k3 0 th tm pr ag ck nx)) (va_A (tw_wM h0 a0 a1 a2 a3 k0 k1 k2 k3 fl th tm pr ag ck nx) sz)) 0 0 (va_A (tw_wM h0 a0 a1 a2 a3 k0 k1 k2 k3 fl th tm pr ag ck nx) sz) := by
  refine Met.ofW (cc := bM_timer) (maxL := 3) (ret := some .long) (by decide) rfl ?_
  intro p e s m args below meth c s₁ B hml hv
  obtain ⟨rfl, hsz, hP, hK, hD0⟩ := hv
  have hx := B.exec
  have hb := B.bytes
  have hr := B.returns
  have hT := fun (w : Cond) (h : w ∈ tw_T) => atoms_spec (ws := Cond.code yM_timer bM_timer 3 (some .long) :: tw_T) B.pre w (List.mem_cons_of_mem _ h)
  have hown : s.vm.findClass RM = some m.cls := findClass_of_methodNamed B.named
  have hlocks := B.notSynchronized
  have hl := lv_entry ([.ref h0, .int j, .int 1]) (n := 3) (Nat.le_of_ble_eq_true rfl)
  rw [lg_entry_eq]
  generalize (lg_sl ([.ref h0, .int j, .int 1]) ++ List.replicate (3 - (lg_sl ([.ref h0, .int j, .int 1])).length) Slot.unset).toArray = ls at hl ⊢
  have hl : lv_has ls 3 [(0, .ref h0), (1, .int j), (2, .int 1)] := hl
  subst hsz
  have hD := hD0.self (sz := s.heap.size)
  generalize hAe : va_A (tw_wM h0 a0 a1 a2 a3 k0 k1 k2 k3 fl th tm pr ag ck nx) s.heap.size = A at hD ⊢
  have hA : ∀ q : Nat, s.heap.size ≤ q → A q := fun q h => by rw [← hAe]; exact Or.inr h
  have hS : va_S A s.heap s.heap [] := va_S.rf
  refine lv_aload_n hx hb dM_timer_0 rfl (lv_at hl 0 rfl) ?_
  refine lv_iconst (v := 0) hx hb dM_timer_1 (by decide) ?_
  refine va_put (D := (dC, dI)) (ci := 1) (v := .int 0) (ty := .int) (C := RM) (T := FM) (N := 7) hx hb hT in_M TM tM_ok nM_ hown hK hP hD hS 0 rfl rfl 0 (by decide) (hT _ tt_217) (fun _ h9 => h9) rfl (by decide +kernel) rfl rfl (Nat.le_of_ble_eq_true rfl) dM_timer_2 (fun H locs hP hD hS => ?_)
  have hP : va_P (dC, dI) tw_cl [(h0, .inr (1, [.int 0, .ref a0, .ref a1, .ref a2, .ref a3, .int nx, .long ck])), (a0, .inl (k0, 100, .inl th)), (a1, .inl (k1, 100, .inr (.inl tm))), (a2, .inl (k2, 100, .inl pr)), (a3, .inl (k3, 100, .inl ag))] H := hP
  have hD : va_D A [(h0, .inr (1, [.int 0, .ref a0, .ref a1, .ref a2, .ref a3, .int nx, .long ck])), (a0, .inl (k0, 100, .inl th)), (a1, .inl (k1, 100, .inr (.inl tm))), (a2, .inl (k2, 100, .inl pr)), (a3, .inl (k3, 100, .inl ag))] := hD
  refine lv_iload_n hx hb dM_timer_5 rfl (lv_at hl 1 rfl) ?_
  refine lv_if_lt (tgt := 24) hx hb dM_timer_6 (by decide) (fun hc1 => absurd hc1 ((tw_vp99.mp hj).1)) (fun hc1 => ?_)
  refine lv_iload_n hx hb dM_timer_9 rfl (lv_at hl 1 rfl) ?_
  refine lv_bipush (v := 99) hx hb dM_timer_10 (by decide) ?_
  refine lv_icmp_gt (tgt := 24) hx hb dM_timer_12 (by decide) (fun hc2 => absurd hc2 (fun z => Int32.not_lt.mpr (tw_vp99.mp hj).2 z)) (fun hc2 => ?_)
  refine lv_iload_n hx hb dM_timer_15 rfl (lv_at hl 2 rfl) ?_
  refine lv_if_lt (tgt := 24) hx hb dM_timer_16 (by decide) (fun hc3 => absurd hc3 (by decide)) (fun hc3 => ?_)
  refine lv_iload_n hx hb dM_timer_19 rfl (lv_at hl 2 rfl) ?_
  refine lv_iconst (v := 3) hx hb dM_timer_20 (by decide) ?_
  refine lv_icmp_le (tgt := 31) hx hb dM_timer_21 (by decide) (fun hc4 => ?_) (fun hc4 => absurd (by decide) hc4)
  refine lv_aload_n hx hb dM_timer_31 rfl (lv_at hl 0 rfl) ?_
  refine va_get (D := (dC, dI)) (ci := 1) (v := .ref a0) (C := RM) (T := FM) (N := 7) hx hb hT in_M hown hK hP 0 rfl rfl 1 (by decide) (hT _ tt_218) (fun _ h9 => h9) rfl dM_timer_32 ?_
  refine lv_iload_n hx hb dM_timer_35 rfl (lv_at hl 1 rfl) ?_
  refine va_zald hx hb hK hP 1 0 rfl rfl hj dM_timer_36 ?_
  refine lv_if_ne (tgt := 42) hx hb dM_timer_37 (by decide) (fun hc5 => ?_) (fun hc5 => ?_)
  · -- taken at 37: ¬ th j.toNatClampNeg = 0
    refine lv_iload_n hx hb dM_timer_42 rfl (lv_at hl 2 rfl) ?_
    refine lv_if_ne (tgt := 64) hx hb dM_timer_43 (by decide) (fun hc6 => ?_) (fun hc6 => absurd hc6 (by decide))
    refine lv_iload_n hx hb dM_timer_64 rfl (lv_at hl 2 rfl) ?_
    refine lv_iconst (v := 1) hx hb dM_timer_65 (by decide) ?_
    refine lv_icmp_ne (tgt := 78) hx hb dM_timer_66 (by decide) (fun hc7 => absurd rfl hc7) (fun hc7 => ?_)
    refine lv_aload_n hx hb dM_timer_69 rfl (lv_at hl 0 rfl) ?_
    refine va_get (D := (dC, dI)) (ci := 1) (v := .ref a1) (C := RM) (T := FM) (N := 7) hx hb hT in_M hown hK hP 0 rfl rfl 2 (by decide) (hT _ tt_219) (fun _ h9 => h9) rfl dM_timer_70 ?_
    refine lv_iload_n hx hb dM_timer_73 rfl (lv_at hl 1 rfl) ?_
    refine va_lald hx hb hK hP 2 1 rfl rfl hj dM_timer_74 ?_
    refine lv_goto (tgt := 100) hx hb dM_timer_75 (by decide) ?_
    exact W.lret hx hb hr (fun t ht hW => ⟨⟨_, (), rfl, by rw [if_neg hc5], by rw [ht]; exact hP, hD⟩, hS.F ht⟩) hS.2.2 dM_timer_100
  · -- not taken at 37: ¬ th j.toNatClampNeg = 0
    refine lv_lconst (v := 0) hx hb dM_timer_40 (by decide) ?_
    exact W.lret hx hb hr (fun t ht hW => ⟨⟨_, (), rfl, by rw [if_pos hc5], by rw [ht]; exact hP, hD⟩, hS.F ht⟩) hS.2.2 dM_timer_41
set_option maxHeartbeats 4000000 in
set_option maxRecDepth 100000 in
theorem cM_timer2 (l : Launch) (dC : Nat → ClassId) (dI : Nat → Nat → Nat) (h0 a0 a1 a2 a3 : Nat) (k0 k1 k2 k3 : ClassId) (fl : Int32) (th : Nat → Int32) (tm : Nat → Int64) (pr ag : Nat → Int32) (ck : Int64) (nx : Int32) (sz : Nat) (j : Int32) (hj : vp_in j 100) : Met l yM_timer (Cond.code yM_timer bM_timer 3 (some .long) :: tw_T) { frames := 2, cells := 0, slots := 0, locals := 80 } (va_Pc [.ref h0, .int j, .int 2] (fun U => U.heap.size = sz ∧ va_P (dC, dI) tw_cl (tw_wM h0 a0 a1 a2 a3 k0 k1 k2 k3 fl th tm pr ag ck nx) U.heap ∧ va_K (dC, dI) tw_cl (tw_k k0 k1 k2 k3) U ∧ va_D (fun _ => True) (tw_wM h0 a0 a1 a2 a3 k0 k1 k2 k3 fl th tm pr ag ck nx))) (va_Ql (S := Unit) (fun r _ => r = (if th j.toNatClampNeg = 0 then 0 else (pr j.toNatClampNeg).toInt64)) (fun _ tz => va_P (dC, dI) tw_cl (tw_wM h0 a0 a1 a2 a3 k0 k1 k2 k3 0 th tm pr ag ck nx) tz.heap ∧ va_D (va_A (tw_wM h0 a0 a1 a2 a3 k0 k1 k2 k3 fl th tm pr ag ck nx) sz) (tw_wM h0 a0 a1 a2 a3 k0 k1 k2 k3 0 th tm pr ag ck nx)) (va_A (tw_wM h0 a0 a1 a2 a3 k0 k1 k2 k3 fl th tm pr ag ck nx) sz)) 0 0 (va_A (tw_wM h0 a0 a1 a2 a3 k0 k1 k2 k3 fl th tm pr ag ck nx) sz) := by
  refine Met.ofW (cc := bM_timer) (maxL := 3) (ret := some .long) (by decide) rfl ?_
  intro p e s m args below meth c s₁ B hml hv
  obtain ⟨rfl, hsz, hP, hK, hD0⟩ := hv
  have hx := B.exec
  have hb := B.bytes
  have hr := B.returns
  have hT := fun (w : Cond) (h : w ∈ tw_T) => atoms_spec (ws := Cond.code yM_timer bM_timer 3 (some .long) :: tw_T) B.pre w (List.mem_cons_of_mem _ h)
  have hown : s.vm.findClass RM = some m.cls := findClass_of_methodNamed B.named
  have hlocks := B.notSynchronized
  have hl := lv_entry ([.ref h0, .int j, .int 2]) (n := 3) (Nat.le_of_ble_eq_true rfl)
  rw [lg_entry_eq]
  generalize (lg_sl ([.ref h0, .int j, .int 2]) ++ List.replicate (3 - (lg_sl ([.ref h0, .int j, .int 2])).length) Slot.unset).toArray = ls at hl ⊢
  have hl : lv_has ls 3 [(0, .ref h0), (1, .int j), (2, .int 2)] := hl
  subst hsz
  have hD := hD0.self (sz := s.heap.size)
  generalize hAe : va_A (tw_wM h0 a0 a1 a2 a3 k0 k1 k2 k3 fl th tm pr ag ck nx) s.heap.size = A at hD ⊢
  have hA : ∀ q : Nat, s.heap.size ≤ q → A q := fun q h => by rw [← hAe]; exact Or.inr h
  have hS : va_S A s.heap s.heap [] := va_S.rf
  refine lv_aload_n hx hb dM_timer_0 rfl (lv_at hl 0 rfl) ?_
  refine lv_iconst (v := 0) hx hb dM_timer_1 (by decide) ?_
  refine va_put (D := (dC, dI)) (ci := 1) (v := .int 0) (ty := .int) (C := RM) (T := FM) (N := 7) hx hb hT in_M TM tM_ok nM_ hown hK hP hD hS 0 rfl rfl 0 (by decide) (hT _ tt_217) (fun _ h9 => h9) rfl (by decide +kernel) rfl rfl (Nat.le_of_ble_eq_true rfl) dM_timer_2 (fun H locs hP hD hS => ?_)
  have hP : va_P (dC, dI) tw_cl [(h0, .inr (1, [.int 0, .ref a0, .ref a1, .ref a2, .ref a3, .int nx, .long ck])), (a0, .inl (k0, 100, .inl th)), (a1, .inl (k1, 100, .inr (.inl tm))), (a2, .inl (k2, 100, .inl pr)), (a3, .inl (k3, 100, .inl ag))] H := hP
  have hD : va_D A [(h0, .inr (1, [.int 0, .ref a0, .ref a1, .ref a2, .ref a3, .int nx, .long ck])), (a0, .inl (k0, 100, .inl th)), (a1, .inl (k1, 100, .inr (.inl tm))), (a2, .inl (k2, 100, .inl pr)), (a3, .inl (k3, 100, .inl ag))] := hD
  refine lv_iload_n hx hb dM_timer_5 rfl (lv_at hl 1 rfl) ?_
  refine lv_if_lt (tgt := 24) hx hb dM_timer_6 (by decide) (fun hc1 => absurd hc1 ((tw_vp99.mp hj).1)) (fun hc1 => ?_)
  refine lv_iload_n hx hb dM_timer_9 rfl (lv_at hl 1 rfl) ?_
  refine lv_bipush (v := 99) hx hb dM_timer_10 (by decide) ?_
  refine lv_icmp_gt (tgt := 24) hx hb dM_timer_12 (by decide) (fun hc2 => absurd hc2 (fun z => Int32.not_lt.mpr (tw_vp99.mp hj).2 z)) (fun hc2 => ?_)
  refine lv_iload_n hx hb dM_timer_15 rfl (lv_at hl 2 rfl) ?_
  refine lv_if_lt (tgt := 24) hx hb dM_timer_16 (by decide) (fun hc3 => absurd hc3 (by decide)) (fun hc3 => ?_)
  refine lv_iload_n hx hb dM_timer_19 rfl (lv_at hl 2 rfl) ?_
  refine lv_iconst (v := 3) hx hb dM_timer_20 (by decide) ?_
  refine lv_icmp_le (tgt := 31) hx hb dM_timer_21 (by decide) (fun hc4 => ?_) (fun hc4 => absurd (by decide) hc4)
  refine lv_aload_n hx hb dM_timer_31 rfl (lv_at hl 0 rfl) ?_
  refine va_get (D := (dC, dI)) (ci := 1) (v := .ref a0) (C := RM) (T := FM) (N := 7) hx hb hT in_M hown hK hP 0 rfl rfl 1 (by decide) (hT _ tt_218) (fun _ h9 => h9) rfl dM_timer_32 ?_
  refine lv_iload_n hx hb dM_timer_35 rfl (lv_at hl 1 rfl) ?_
  refine va_zald hx hb hK hP 1 0 rfl rfl hj dM_timer_36 ?_
  refine lv_if_ne (tgt := 42) hx hb dM_timer_37 (by decide) (fun hc5 => ?_) (fun hc5 => ?_)
  · -- taken at 37: ¬ th j.toNatClampNeg = 0
    refine lv_iload_n hx hb dM_timer_42 rfl (lv_at hl 2 rfl) ?_
    refine lv_if_ne (tgt := 64) hx hb dM_timer_43 (by decide) (fun hc6 => ?_) (fun hc6 => absurd hc6 (by decide))
    refine lv_iload_n hx hb dM_timer_64 rfl (lv_at hl 2 rfl) ?_
    refine lv_iconst (v := 1) hx hb dM_timer_65 (by decide) ?_
    refine lv_icmp_ne (tgt := 78) hx hb dM_timer_66 (by decide) (fun hc7 => ?_) (fun hc7 => absurd hc7 (by decide))
    refine lv_iload_n hx hb dM_timer_78 rfl (lv_at hl 2 rfl) ?_
    refine lv_iconst (v := 2) hx hb dM_timer_79 (by decide) ?_
    refine lv_icmp_ne (tgt := 93) hx hb dM_timer_80 (by decide) (fun hc8 => absurd rfl hc8) (fun hc8 => ?_)
    refine lv_aload_n hx hb dM_timer_83 rfl (lv_at hl 0 rfl) ?_
    refine va_get (D := (dC, dI)) (ci := 1) (v := .ref a2) (C := RM) (T := FM) (N := 7) hx hb hT in_M hown hK hP 0 rfl rfl 3 (by decide) (hT _ tt_220) (fun _ h9 => h9) rfl dM_timer_84 ?_
    refine lv_iload_n hx hb dM_timer_87 rfl (lv_at hl 1 rfl) ?_
    refine va_iald hx hb hK hP 3 2 rfl rfl hj dM_timer_88 ?_
    refine lv_i2l hx hb dM_timer_89 rfl ?_
    refine lv_goto (tgt := 100) hx hb dM_timer_90 (by decide) ?_
    exact W.lret hx hb hr (fun t ht hW => ⟨⟨_, (), rfl, by rw [if_neg hc5], by rw [ht]; exact hP, hD⟩, hS.F ht⟩) hS.2.2 dM_timer_100
  · -- not taken at 37: ¬ th j.toNatClampNeg = 0
    refine lv_lconst (v := 0) hx hb dM_timer_40 (by decide) ?_
    exact W.lret hx hb hr (fun t ht hW => ⟨⟨_, (), rfl, by rw [if_pos hc5], by rw [ht]; exact hP, hD⟩, hS.F ht⟩) hS.2.2 dM_timer_41
set_option maxHeartbeats 4000000 in
set_option maxRecDepth 100000 in
theorem cM_timer3 (l : Launch) (dC : Nat → ClassId) (dI : Nat → Nat → Nat) (h0 a0 a1 a2 a3 : Nat) (k0 k1 k2 k3 : ClassId) (fl : Int32) (th : Nat → Int32) (tm : Nat → Int64) (pr ag : Nat → Int32) (ck : Int64) (nx : Int32) (sz : Nat) (j : Int32) (hj : vp_in j 100) : Met l yM_timer (Cond.code yM_timer bM_timer 3 (some .long) :: tw_T) { frames := 2, cells := 0, slots := 0, locals := 80 } (va_Pc [.ref h0, .int j, .int 3] (fun U => U.heap.size = sz ∧ va_P (dC, dI) tw_cl (tw_wM h0 a0 a1 a2 a3 k0 k1 k2 k3 fl th tm pr ag ck nx) U.heap ∧ va_K (dC, dI) tw_cl (tw_k k0 k1 k2 k3) U ∧ va_D (fun _ => True) (tw_wM h0 a0 a1 a2 a3 k0 k1 k2 k3 fl th tm pr ag ck nx))) (va_Ql (S := Unit) (fun r _ => r = (if th j.toNatClampNeg = 0 then 0 else (ag j.toNatClampNeg).toInt64)) (fun _ tz => va_P (dC, dI) tw_cl (tw_wM h0 a0 a1 a2 a3 k0 k1 k2 k3 0 th tm pr ag ck nx) tz.heap ∧ va_D (va_A (tw_wM h0 a0 a1 a2 a3 k0 k1 k2 k3 fl th tm pr ag ck nx) sz) (tw_wM h0 a0 a1 a2 a3 k0 k1 k2 k3 0 th tm pr ag ck nx)) (va_A (tw_wM h0 a0 a1 a2 a3 k0 k1 k2 k3 fl th tm pr ag ck nx) sz)) 0 0 (va_A (tw_wM h0 a0 a1 a2 a3 k0 k1 k2 k3 fl th tm pr ag ck nx) sz) := by
  refine Met.ofW (cc := bM_timer) (maxL := 3) (ret := some .long) (by decide) rfl ?_
  intro p e s m args below meth c s₁ B hml hv
  obtain ⟨rfl, hsz, hP, hK, hD0⟩ := hv
  have hx := B.exec
  have hb := B.bytes
  have hr := B.returns
  have hT := fun (w : Cond) (h : w ∈ tw_T) => atoms_spec (ws := Cond.code yM_timer bM_timer 3 (some .long) :: tw_T) B.pre w (List.mem_cons_of_mem _ h)
  have hown : s.vm.findClass RM = some m.cls := findClass_of_methodNamed B.named
  have hlocks := B.notSynchronized
  have hl := lv_entry ([.ref h0, .int j, .int 3]) (n := 3) (Nat.le_of_ble_eq_true rfl)
  rw [lg_entry_eq]
  generalize (lg_sl ([.ref h0, .int j, .int 3]) ++ List.replicate (3 - (lg_sl ([.ref h0, .int j, .int 3])).length) Slot.unset).toArray = ls at hl ⊢
  have hl : lv_has ls 3 [(0, .ref h0), (1, .int j), (2, .int 3)] := hl
  subst hsz
  have hD := hD0.self (sz := s.heap.size)
  generalize hAe : va_A (tw_wM h0 a0 a1 a2 a3 k0 k1 k2 k3 fl th tm pr ag ck nx) s.heap.size = A at hD ⊢
  have hA : ∀ q : Nat, s.heap.size ≤ q → A q := fun q h => by rw [← hAe]; exact Or.inr h
  have hS : va_S A s.heap s.heap [] := va_S.rf
  refine lv_aload_n hx hb dM_timer_0 rfl (lv_at hl 0 rfl) ?_
  refine lv_iconst (v := 0) hx hb dM_timer_1 (by decide) ?_
  refine va_put (D := (dC, dI)) (ci := 1) (v := .int 0) (ty := .int) (C := RM) (T := FM) (N := 7) hx hb hT in_M TM tM_ok nM_ hown hK hP hD hS 0 rfl rfl 0 (by decide) (hT _ tt_217) (fun _ h9 => h9) rfl (by decide +kernel) rfl rfl (Nat.le_of_ble_eq_true rfl) dM_timer_2 (fun H locs hP hD hS => ?_)
  have hP : va_P (dC, dI) tw_cl [(h0, .inr (1, [.int 0, .ref a0, .ref a1, .ref a2, .ref a3, .int nx, .long ck])), (a0, .inl (k0, 100, .inl th)), (a1, .inl (k1, 100, .inr (.inl tm))), (a2, .inl (k2, 100, .inl pr)), (a3, .inl (k3, 100, .inl ag))] H := hP
  have hD : va_D A [(h0, .inr (1, [.int 0, .ref a0, .ref a1, .ref a2, .ref a3, .int nx, .long ck])), (a0, .inl (k0, 100, .inl th)), (a1, .inl (k1, 100, .inr (.inl tm))), (a2, .inl (k2, 100, .inl pr)), (a3, .inl (k3, 100, .inl ag))] := hD
  refine lv_iload_n hx hb dM_timer_5 rfl (lv_at hl 1 rfl) ?_
  refine lv_if_lt (tgt := 24) hx hb dM_timer_6 (by decide) (fun hc1 => absurd hc1 ((tw_vp99.mp hj).1)) (fun hc1 => ?_)
  refine lv_iload_n hx hb dM_timer_9 rfl (lv_at hl 1 rfl) ?_
  refine lv_bipush (v := 99) hx hb dM_timer_10 (by decide) ?_
  refine lv_icmp_gt (tgt := 24) hx hb dM_timer_12 (by decide) (fun hc2 => absurd hc2 (fun z => Int32.not_lt.mpr (tw_vp99.mp hj).2 z)) (fun hc2 => ?_)
  refine lv_iload_n hx hb dM_timer_15 rfl (lv_at hl 2 rfl) ?_
  refine lv_if_lt (tgt := 24) hx hb dM_timer_16 (by decide) (fun hc3 => absurd hc3 (by decide)) (fun hc3 => ?_)
  refine lv_iload_n hx hb dM_timer_19 rfl (lv_at hl 2 rfl) ?_
  refine lv_iconst (v := 3) hx hb dM_timer_20 (by decide) ?_
  refine lv_icmp_le (tgt := 31) hx hb dM_timer_21 (by decide) (fun hc4 => ?_) (fun hc4 => absurd (by decide) hc4)
  refine lv_aload_n hx hb dM_timer_31 rfl (lv_at hl 0 rfl) ?_
  refine va_get (D := (dC, dI)) (ci := 1) (v := .ref a0) (C := RM) (T := FM) (N := 7) hx hb hT in_M hown hK hP 0 rfl rfl 1 (by decide) (hT _ tt_218) (fun _ h9 => h9) rfl dM_timer_32 ?_
  refine lv_iload_n hx hb dM_timer_35 rfl (lv_at hl 1 rfl) ?_
  refine va_zald hx hb hK hP 1 0 rfl rfl hj dM_timer_36 ?_
  refine lv_if_ne (tgt := 42) hx hb dM_timer_37 (by decide) (fun hc5 => ?_) (fun hc5 => ?_)
  · -- taken at 37: ¬ th j.toNatClampNeg = 0
    refine lv_iload_n hx hb dM_timer_42 rfl (lv_at hl 2 rfl) ?_
    refine lv_if_ne (tgt := 64) hx hb dM_timer_43 (by decide) (fun hc6 => ?_) (fun hc6 => absurd hc6 (by decide))
    refine lv_iload_n hx hb dM_timer_64 rfl (lv_at hl 2 rfl) ?_
    refine lv_iconst (v := 1) hx hb dM_timer_65 (by decide) ?_
    refine lv_icmp_ne (tgt := 78) hx hb dM_timer_66 (by decide) (fun hc7 => ?_) (fun hc7 => absurd hc7 (by decide))
    refine lv_iload_n hx hb dM_timer_78 rfl (lv_at hl 2 rfl) ?_
    refine lv_iconst (v := 2) hx hb dM_timer_79 (by decide) ?_
    refine lv_icmp_ne (tgt := 93) hx hb dM_timer_80 (by decide) (fun hc8 => ?_) (fun hc8 => absurd hc8 (by decide))
    refine lv_aload_n hx hb dM_timer_93 rfl (lv_at hl 0 rfl) ?_
    refine va_get (D := (dC, dI)) (ci := 1) (v := .ref a3) (C := RM) (T := FM) (N := 7) hx hb hT in_M hown hK hP 0 rfl rfl 4 (by decide) (hT _ tt_221) (fun _ h9 => h9) rfl dM_timer_94 ?_
    refine lv_iload_n hx hb dM_timer_97 rfl (lv_at hl 1 rfl) ?_
    refine va_iald hx hb hK hP 4 3 rfl rfl hj dM_timer_98 ?_
    refine lv_i2l hx hb dM_timer_99 rfl ?_
    exact W.lret hx hb hr (fun t ht hW => ⟨⟨_, (), rfl, by rw [if_neg hc5], by rw [ht]; exact hP, hD⟩, hS.F ht⟩) hS.2.2 dM_timer_100
  · -- not taken at 37: ¬ th j.toNatClampNeg = 0
    refine lv_lconst (v := 0) hx hb dM_timer_40 (by decide) ?_
    exact W.lret hx hb hr (fun t ht hW => ⟨⟨_, (), rfl, by rw [if_pos hc5], by rw [ht]; exact hP, hD⟩, hS.F ht⟩) hS.2.2 dM_timer_41
set_option maxHeartbeats 4000000 in
set_option maxRecDepth 100000 in
theorem cM_timerB (l : Launch) (dC : Nat → ClassId) (dI : Nat → Nat → Nat) (h0 a0 a1 a2 a3 : Nat) (k0 k1 k2 k3 : ClassId) (fl : Int32) (th : Nat → Int32) (tm : Nat → Int64) (pr ag : Nat → Int32) (ck : Int64) (nx : Int32) (sz : Nat) (j k : Int32) (hbad : ¬ (vp_in j 100 ∧ ¬ k < 0 ∧ k ≤ 3)) : Met l yM_timer (Cond.code yM_timer bM_timer 3 (some .long) :: tw_T) { frames := 2, cells := 0, slots := 0, locals := 80 } (va_Pc [.ref h0, .int j, .int k] (fun U => U.heap.size = sz ∧ va_P (dC, dI) tw_cl (tw_wM h0 a0 a1 a2 a3 k0 k1 k2 k3 fl th tm pr ag ck nx) U.heap ∧ va_K (dC, dI) tw_cl (tw_k k0 k1 k2 k3) U ∧ va_D (fun _ => True) (tw_wM h0 a0 a1 a2 a3 k0 k1 k2 k3 fl th tm pr ag ck nx))) (va_Ql (S := Unit) (fun r _ => r = 0) (fun _ tz => va_P (dC, dI) tw_cl (tw_wM h0 a0 a1 a2 a3 k0 k1 k2 k3 1 th tm pr ag ck nx) tz.heap ∧ va_D (va_A (tw_wM h0 a0 a1 a2 a3 k0 k1 k2 k3 fl th tm pr ag ck nx) sz) (tw_wM h0 a0 a1 a2 a3 k0 k1 k2 k3 1 th tm pr ag ck nx)) (va_A (tw_wM h0 a0 a1 a2 a3 k0 k1 k2 k3 fl th tm pr ag ck nx) sz)) 0 0 (va_A (tw_wM h0 a0 a1 a2 a3 k0 k1 k2 k3 fl th tm pr ag ck nx) sz) := by
  refine Met.ofW (cc := bM_timer) (maxL := 3) (ret := some .long) (by decide) rfl ?_
  intro p e s m args below meth c s₁ B hml hv
  obtain ⟨rfl, hsz, hP, hK, hD0⟩ := hv
  have hx := B.exec
  have hb := B.bytes
  have hr := B.returns
  have hT := fun (w : Cond) (h : w ∈ tw_T) => atoms_spec (ws := Cond.code yM_timer bM_timer 3 (some .long) :: tw_T) B.pre w (List.mem_cons_of_mem _ h)
  have hown : s.vm.findClass RM = some m.cls := findClass_of_methodNamed B.named
  have hlocks := B.notSynchronized
  have hl := lv_entry ([.ref h0, .int j, .int k]) (n := 3) (Nat.le_of_ble_eq_true rfl)
  rw [lg_entry_eq]
  generalize (lg_sl ([.ref h0, .int j, .int k]) ++ List.replicate (3 - (lg_sl ([.ref h0, .int j, .int k])).length) Slot.unset).toArray = ls at hl ⊢
  have hl : lv_has ls 3 [(0, .ref h0), (1, .int j), (2, .int k)] := hl
  subst hsz
  have hD := hD0.self (sz := s.heap.size)
  generalize hAe : va_A (tw_wM h0 a0 a1 a2 a3 k0 k1 k2 k3 fl th tm pr ag ck nx) s.heap.size = A at hD ⊢
  have hA : ∀ q : Nat, s.heap.size ≤ q → A q := fun q h => by rw [← hAe]; exact Or.inr h
  have hS : va_S A s.heap s.heap [] := va_S.rf
  refine lv_aload_n hx hb dM_timer_0 rfl (lv_at hl 0 rfl) ?_
  refine lv_iconst (v := 0) hx hb dM_timer_1 (by decide) ?_
  refine va_put (D := (dC, dI)) (ci := 1) (v := .int 0) (ty := .int) (C := RM) (T := FM) (N := 7) hx hb hT in_M TM tM_ok nM_ hown hK hP hD hS 0 rfl rfl 0 (by decide) (hT _ tt_217) (fun _ h9 => h9) rfl (by decide +kernel) rfl rfl (Nat.le_of_ble_eq_true rfl) dM_timer_2 (fun H locs hP hD hS => ?_)
  have hP : va_P (dC, dI) tw_cl [(h0, .inr (1, [.int 0, .ref a0, .ref a1, .ref a2, .ref a3, .int nx, .long ck])), (a0, .inl (k0, 100, .inl th)), (a1, .inl (k1, 100, .inr (.inl tm))), (a2, .inl (k2, 100, .inl pr)), (a3, .inl (k3, 100, .inl ag))] H := hP
  have hD : va_D A [(h0, .inr (1, [.int 0, .ref a0, .ref a1, .ref a2, .ref a3, .int nx, .long ck])), (a0, .inl (k0, 100, .inl th)), (a1, .inl (k1, 100, .inr (.inl tm))), (a2, .inl (k2, 100, .inl pr)), (a3, .inl (k3, 100, .inl ag))] := hD
  refine lv_iload_n hx hb dM_timer_5 rfl (lv_at hl 1 rfl) ?_
  refine lv_if_lt (tgt := 24) hx hb dM_timer_6 (by decide) (fun hc1 => ?_) (fun hc1 => ?_)
  · -- taken at 6: j < 0
    refine lv_aload_n hx hb dM_timer_24 rfl (lv_at hl 0 rfl) ?_
    refine lv_iconst (v := 1) hx hb dM_timer_25 (by decide) ?_
    have hFc := va_free (wc := (tw_wM h0 a0 a1 a2 a3 k0 k1 k2 k3 0 th tm pr ag ck nx)) hD hS hA [0, 1, 2, 3, 4] rfl
    refine va_calli (va_runV (C := RM) (b := h0) (As := [.int 1]) (rest := []) ⟨hx, hb, hml, hown, hT⟩ (cM_fail l dC dI h0 a0 a1 a2 a3 k0 k1 k2 k3 0 th tm pr ag ck nx H.size 1) (cwV 1 hT (tw_gV tt_248 tt_250 tp_M_fail tt_2 tt_251) rfl rfl rfl ⟨rfl, by decide +kernel⟩ ⟨Nat.le_of_ble_eq_true rfl, Nat.le_of_ble_eq_true rfl⟩) ⟨fun a U g mk q => by obtain ⟨q0, q1, qP, qK, qD⟩ := q; exact ⟨q0, q1, qP, va_K.moved (u := U) (U := U.calling g mk a) (Vm.Alike.refl U.vm) qK, qD⟩, va_recv (q0 := 0) (ci := 1) hK hP rfl rfl, fun U hU hW => ⟨rfl, by rw [hU], by rw [hU]; exact hP, va_K.moved hW.alike hK, hD.weaken (fun _ _ _ _ => trivial)⟩⟩ rfl rfl hl.1 rfl (lv_room (Nat.le_of_ble_eq_true rfl)) dM_timer_26 ⟨Nat.le_of_ble_eq_true rfl, Nat.le_of_ble_eq_true rfl⟩) hS (fun q _ h => hFc q h) hFc (fun r9 u9 t9 H1 locs ht9 hvm9 hw9 hB9 hz9 hk9 hS => ?_)
    obtain ⟨hP1, hD1⟩ := hB9
    rw [ht9] at hP1
    have hw9 : r9 = 0 := hw9
    subst hw9
    obtain ⟨hP, hD⟩ := va_join (wr := []) (w1 := (tw_wM h0 a0 a1 a2 a3 k0 k1 k2 k3 1 th tm pr ag ck nx)) hP hD [0, 1, 2, 3, 4] [] rfl rfl (by decide) (by decide) hk9 hFc hP1 hD1
    generalize H1 = H at hP hS ⊢
    have hP : va_P (dC, dI) tw_cl [(h0, .inr (1, [.int 1, .ref a0, .ref a1, .ref a2, .ref a3, .int nx, .long ck])), (a0, .inl (k0, 100, .inl th)), (a1, .inl (k1, 100, .inr (.inl tm))), (a2, .inl (k2, 100, .inl pr)), (a3, .inl (k3, 100, .inl ag))] H := hP
    have hD : va_D A [(h0, .inr (1, [.int 1, .ref a0, .ref a1, .ref a2, .ref a3, .int nx, .long ck])), (a0, .inl (k0, 100, .inl th)), (a1, .inl (k1, 100, .inr (.inl tm))), (a2, .inl (k2, 100, .inl pr)), (a3, .inl (k3, 100, .inl ag))] := hD
    refine lv_i2l hx hb dM_timer_29 rfl ?_
    exact W.lret hx hb hr (fun t ht hW => ⟨⟨_, (), rfl, rfl, by rw [ht]; exact hP, hD⟩, hS.F ht⟩) hS.2.2 dM_timer_30
  · -- not taken at 6: j < 0
    refine lv_iload_n hx hb dM_timer_9 rfl (lv_at hl 1 rfl) ?_
    refine lv_bipush (v := 99) hx hb dM_timer_10 (by decide) ?_
    refine lv_icmp_gt (tgt := 24) hx hb dM_timer_12 (by decide) (fun hc2 => ?_) (fun hc2 => ?_)
    · -- taken at 12: j > 99
      refine lv_aload_n hx hb dM_timer_24 rfl (lv_at hl 0 rfl) ?_
      refine lv_iconst (v := 1) hx hb dM_timer_25 (by decide) ?_
      have hFc := va_free (wc := (tw_wM h0 a0 a1 a2 a3 k0 k1 k2 k3 0 th tm pr ag ck nx)) hD hS hA [0, 1, 2, 3, 4] rfl
      refine va_calli (va_runV (C := RM) (b := h0) (As := [.int 1]) (rest := []) ⟨hx, hb, hml, hown, hT⟩ (cM_fail l dC dI h0 a0 a1 a2 a3 k0 k1 k2 k3 0 th tm pr ag ck nx H.size 1) (cwV 1 hT (tw_gV tt_248 tt_250 tp_M_fail tt_2 tt_251) rfl rfl rfl ⟨rfl, by decide +kernel⟩ ⟨Nat.le_of_ble_eq_true rfl, Nat.le_of_ble_eq_true rfl⟩) ⟨fun a U g mk q => by obtain ⟨q0, q1, qP, qK, qD⟩ := q; exact ⟨q0, q1, qP, va_K.moved (u := U) (U := U.calling g mk a) (Vm.Alike.refl U.vm) qK, qD⟩, va_recv (q0 := 0) (ci := 1) hK hP rfl rfl, fun U hU hW => ⟨rfl, by rw [hU], by rw [hU]; exact hP, va_K.moved hW.alike hK, hD.weaken (fun _ _ _ _ => trivial)⟩⟩ rfl rfl hl.1 rfl (lv_room (Nat.le_of_ble_eq_true rfl)) dM_timer_26 ⟨Nat.le_of_ble_eq_true rfl, Nat.le_of_ble_eq_true rfl⟩) hS (fun q _ h => hFc q h) hFc (fun r9 u9 t9 H1 locs ht9 hvm9 hw9 hB9 hz9 hk9 hS => ?_)
      obtain ⟨hP1, hD1⟩ := hB9
      rw [ht9] at hP1
      have hw9 : r9 = 0 := hw9
      subst hw9
      obtain ⟨hP, hD⟩ := va_join (wr := []) (w1 := (tw_wM h0 a0 a1 a2 a3 k0 k1 k2 k3 1 th tm pr ag ck nx)) hP hD [0, 1, 2, 3, 4] [] rfl rfl (by decide) (by decide) hk9 hFc hP1 hD1
      generalize H1 = H at hP hS ⊢
      have hP : va_P (dC, dI) tw_cl [(h0, .inr (1, [.int 1, .ref a0, .ref a1, .ref a2, .ref a3, .int nx, .long ck])), (a0, .inl (k0, 100, .inl th)), (a1, .inl (k1, 100, .inr (.inl tm))), (a2, .inl (k2, 100, .inl pr)), (a3, .inl (k3, 100, .inl ag))] H := hP
      have hD : va_D A [(h0, .inr (1, [.int 1, .ref a0, .ref a1, .ref a2, .ref a3, .int nx, .long ck])), (a0, .inl (k0, 100, .inl th)), (a1, .inl (k1, 100, .inr (.inl tm))), (a2, .inl (k2, 100, .inl pr)), (a3, .inl (k3, 100, .inl ag))] := hD
      refine lv_i2l hx hb dM_timer_29 rfl ?_
      exact W.lret hx hb hr (fun t ht hW => ⟨⟨_, (), rfl, rfl, by rw [ht]; exact hP, hD⟩, hS.F ht⟩) hS.2.2 dM_timer_30
    · -- not taken at 12: j > 99
      refine lv_iload_n hx hb dM_timer_15 rfl (lv_at hl 2 rfl) ?_
      refine lv_if_lt (tgt := 24) hx hb dM_timer_16 (by decide) (fun hc3 => ?_) (fun hc3 => ?_)
      · -- taken at 16: k < 0
        refine lv_aload_n hx hb dM_timer_24 rfl (lv_at hl 0 rfl) ?_
        refine lv_iconst (v := 1) hx hb dM_timer_25 (by decide) ?_
        have hFc := va_free (wc := (tw_wM h0 a0 a1 a2 a3 k0 k1 k2 k3 0 th tm pr ag ck nx)) hD hS hA [0, 1, 2, 3, 4] rfl
        refine va_calli (va_runV (C := RM) (b := h0) (As := [.int 1]) (rest := []) ⟨hx, hb, hml, hown, hT⟩ (cM_fail l dC dI h0 a0 a1 a2 a3 k0 k1 k2 k3 0 th tm pr ag ck nx H.size 1) (cwV 1 hT (tw_gV tt_248 tt_250 tp_M_fail tt_2 tt_251) rfl rfl rfl ⟨rfl, by decide +kernel⟩ ⟨Nat.le_of_ble_eq_true rfl, Nat.le_of_ble_eq_true rfl⟩) ⟨fun a U g mk q => by obtain ⟨q0, q1, qP, qK, qD⟩ := q; exact ⟨q0, q1, qP, va_K.moved (u := U) (U := U.calling g mk a) (Vm.Alike.refl U.vm) qK, qD⟩, va_recv (q0 := 0) (ci := 1) hK hP rfl rfl, fun U hU hW => ⟨rfl, by rw [hU], by rw [hU]; exact hP, va_K.moved hW.alike hK, hD.weaken (fun _ _ _ _ => trivial)⟩⟩ rfl rfl hl.1 rfl (lv_room (Nat.le_of_ble_eq_true rfl)) dM_timer_26 ⟨Nat.le_of_ble_eq_true rfl, Nat.le_of_ble_eq_true rfl⟩) hS (fun q _ h => hFc q h) hFc (fun r9 u9 t9 H1 locs ht9 hvm9 hw9 hB9 hz9 hk9 hS => ?_)
        obtain ⟨hP1, hD1⟩ := hB9
        rw [ht9] at hP1
        have hw9 : r9 = 0 := hw9
        subst hw9
        obtain ⟨hP, hD⟩ := va_join (wr := []) (w1 := (tw_wM h0 a0 a1 a2 a3 k0 k1 k2 k3 1 th tm pr ag ck nx)) hP hD [0, 1, 2, 3, 4] [] rfl rfl (by decide) (by decide) hk9 hFc hP1 hD1
        generalize H1 = H at hP hS ⊢
        have hP : va_P (dC, dI) tw_cl [(h0, .inr (1, [.int 1, .ref a0, .ref a1, .ref a2, .ref a3, .int nx, .long ck])), (a0, .inl (k0, 100, .inl th)), (a1, .inl (k1, 100, .inr (.inl tm))), (a2, .inl (k2, 100, .inl pr)), (a3, .inl (k3, 100, .inl ag))] H := hP
        have hD : va_D A [(h0, .inr (1, [.int 1, .ref a0, .ref a1, .ref a2, .ref a3, .int nx, .long ck])), (a0, .inl (k0, 100, .inl th)), (a1, .inl (k1, 100, .inr (.inl tm))), (a2, .inl (k2, 100, .inl pr)), (a3, .inl (k3, 100, .inl ag))] := hD
        refine lv_i2l hx hb dM_timer_29 rfl ?_
        exact W.lret hx hb hr (fun t ht hW => ⟨⟨_, (), rfl, rfl, by rw [ht]; exact hP, hD⟩, hS.F ht⟩) hS.2.2 dM_timer_30
      · -- not taken at 16: k < 0
        refine lv_iload_n hx hb dM_timer_19 rfl (lv_at hl 2 rfl) ?_
        refine lv_iconst (v := 3) hx hb dM_timer_20 (by decide) ?_
        refine lv_icmp_le (tgt := 31) hx hb dM_timer_21 (by decide) (fun hc4 => absurd hc4 (fun z => hbad ⟨tw_vp99.mpr ⟨hc1, Int32.not_lt.mp hc2⟩, hc3, z⟩)) (fun hc4 => ?_)
        refine lv_aload_n hx hb dM_timer_24 rfl (lv_at hl 0 rfl) ?_
        refine lv_iconst (v := 1) hx hb dM_timer_25 (by decide) ?_
        have hFc := va_free (wc := (tw_wM h0 a0 a1 a2 a3 k0 k1 k2 k3 0 th tm pr ag ck nx)) hD hS hA [0, 1, 2, 3, 4] rfl
        refine va_calli (va_runV (C := RM) (b := h0) (As := [.int 1]) (rest := []) ⟨hx, hb, hml, hown, hT⟩ (cM_fail l dC dI h0 a0 a1 a2 a3 k0 k1 k2 k3 0 th tm pr ag ck nx H.size 1) (cwV 1 hT (tw_gV tt_248 tt_250 tp_M_fail tt_2 tt_251) rfl rfl rfl ⟨rfl, by decide +kernel⟩ ⟨Nat.le_of_ble_eq_true rfl, Nat.le_of_ble_eq_true rfl⟩) ⟨fun a U g mk q => by obtain ⟨q0, q1, qP, qK, qD⟩ := q; exact ⟨q0, q1, qP, va_K.moved (u := U) (U := U.calling g mk a) (Vm.Alike.refl U.vm) qK, qD⟩, va_recv (q0 := 0) (ci := 1) hK hP rfl rfl, fun U hU hW => ⟨rfl, by rw [hU], by rw [hU]; exact hP, va_K.moved hW.alike hK, hD.weaken (fun _ _ _ _ => trivial)⟩⟩ rfl rfl hl.1 rfl (lv_room (Nat.le_of_ble_eq_true rfl)) dM_timer_26 ⟨Nat.le_of_ble_eq_true rfl, Nat.le_of_ble_eq_true rfl⟩) hS (fun q _ h => hFc q h) hFc (fun r9 u9 t9 H1 locs ht9 hvm9 hw9 hB9 hz9 hk9 hS => ?_)
        obtain ⟨hP1, hD1⟩ := hB9
        rw [ht9] at hP1
        have hw9 : r9 = 0 := hw9
        subst hw9
        obtain ⟨hP, hD⟩ := va_join (wr := []) (w1 := (tw_wM h0 a0 a1 a2 a3 k0 k1 k2 k3 1 th tm pr ag ck nx)) hP hD [0, 1, 2, 3, 4] [] rfl rfl (by decide) (by decide) hk9 hFc hP1 hD1
        generalize H1 = H at hP hS ⊢
        have hP : va_P (dC, dI) tw_cl [(h0, .inr (1, [.int 1, .ref a0, .ref a1, .ref a2, .ref a3, .int nx, .long ck])), (a0, .inl (k0, 100, .inl th)), (a1, .inl (k1, 100, .inr (.inl tm))), (a2, .inl (k2, 100, .inl pr)), (a3, .inl (k3, 100, .inl ag))] H := hP
        have hD : va_D A [(h0, .inr (1, [.int 1, .ref a0, .ref a1, .ref a2, .ref a3, .int nx, .long ck])), (a0, .inl (k0, 100, .inl th)), (a1, .inl (k1, 100, .inr (.inl tm))), (a2, .inl (k2, 100, .inl pr)), (a3, .inl (k3, 100, .inl ag))] := hD
        refine lv_i2l hx hb dM_timer_29 rfl ?_
        exact W.lret hx hb hr (fun t ht hW => ⟨⟨_, (), rfl, rfl, by rw [ht]; exact hP, hD⟩, hS.F ht⟩) hS.2.2 dM_timer_30
set_option maxHeartbeats 4000000 in
set_option maxRecDepth 100000 in
theorem cM_count0 (l : Launch) (dC : Nat → ClassId) (dI : Nat → Nat → Nat) (h0 a0 a1 a2 a3 : Nat) (k0 k1 k2 k3 : ClassId) (fl : Int32) (th : Nat → Int32) (tm : Nat → Int64) (pr ag : Nat → Int32) (ck : Int64) (nx : Int32) (sz : Nat)  : Met l yM_count (Cond.code yM_count bM_count 4 (some .long) :: tw_T) { frames := 2, cells := 0, slots := 0, locals := 80 } (va_Pc [.ref h0, .int 0] (fun U => U.heap.size = sz ∧ va_P (dC, dI) tw_cl (tw_wM h0 a0 a1 a2 a3 k0 k1 k2 k3 fl th tm pr ag ck nx) U.heap ∧ va_K (dC, dI) tw_cl (tw_k k0 k1 k2 k3) U ∧ va_D (fun _ => True) (tw_wM h0 a0 a1 a2 a3 k0 k1 k2 k3 fl th tm pr ag ck nx))) (va_Ql (S := Unit) (fun r _ => r = ck) (fun _ tz => va_P (dC, dI) tw_cl (tw_wM h0 a0 a1 a2 a3 k0 k1 k2 k3 0 th tm pr ag ck nx) tz.heap ∧ va_D (va_A (tw_wM h0 a0 a1 a2 a3 k0 k1 k2 k3 fl th tm pr ag ck nx) sz) (tw_wM h0 a0 a1 a2 a3 k0 k1 k2 k3 0 th tm pr ag ck nx)) (va_A (tw_wM h0 a0 a1 a2 a3 k0 k1 k2 k3 fl th tm pr ag ck nx) sz)) 0 0 (va_A (tw_wM h0 a0 a1 a2 a3 k0 k1 k2 k3 fl th tm pr ag ck nx) sz) := by
  refine Met.ofW (cc := bM_count) (maxL := 4) (ret := some .long) (by decide) rfl ?_
  intro p e s m args below meth c s₁ B hml hv
  obtain ⟨rfl, hsz, hP, hK, hD0⟩ := hv
  have hx := B.exec
  have hb := B.bytes
  have hr := B.returns
  have hT := fun (w : Cond) (h : w ∈ tw_T) => atoms_spec (ws := Cond.code yM_count bM_count 4 (some .long) :: tw_T) B.pre w (List.mem_cons_of_mem _ h)
  have hown : s.vm.findClass RM = some m.cls := findClass_of_methodNamed B.named
  have hlocks := B.notSynchronized
  have hl := lv_entry ([.ref h0, .int 0]) (n := 4) (Nat.le_of_ble_eq_true rfl)
  rw [lg_entry_eq]
  generalize (lg_sl ([.ref h0, .int 0]) ++ List.replicate (4 - (lg_sl ([.ref h0, .int 0])).length) Slot.unset).toArray = ls at hl ⊢
  have hl : lv_has ls 4 [(0, .ref h0), (1, .int 0)] := hl
  subst hsz
  have hD := hD0.self (sz := s.heap.size)
  generalize hAe : va_A (tw_wM h0 a0 a1 a2 a3 k0 k1 k2 k3 fl th tm pr ag ck nx) s.heap.size = A at hD ⊢
  have hA : ∀ q : Nat, s.heap.size ≤ q → A q := fun q h => by rw [← hAe]; exact Or.inr h
  have hS : va_S A s.heap s.heap [] := va_S.rf
  refine lv_aload_n hx hb dM_count_0 rfl (lv_at hl 0 rfl) ?_
  refine lv_iconst (v := 0) hx hb dM_count_1 (by decide) ?_
  refine va_put (D := (dC, dI)) (ci := 1) (v := .int 0) (ty := .int) (C := RM) (T := FM) (N := 7) hx hb hT in_M TM tM_ok nM_ hown hK hP hD hS 0 rfl rfl 0 (by decide) (hT _ tt_217) (fun _ h9 => h9) rfl (by decide +kernel) rfl rfl (Nat.le_of_ble_eq_true rfl) dM_count_2 (fun H locs hP hD hS => ?_)
  have hP : va_P (dC, dI) tw_cl [(h0, .inr (1, [.int 0, .ref a0, .ref a1, .ref a2, .ref a3, .int nx, .long ck])), (a0, .inl (k0, 100, .inl th)), (a1, .inl (k1, 100, .inr (.inl tm))), (a2, .inl (k2, 100, .inl pr)), (a3, .inl (k3, 100, .inl ag))] H := hP
  have hD : va_D A [(h0, .inr (1, [.int 0, .ref a0, .ref a1, .ref a2, .ref a3, .int nx, .long ck])), (a0, .inl (k0, 100, .inl th)), (a1, .inl (k1, 100, .inr (.inl tm))), (a2, .inl (k2, 100, .inl pr)), (a3, .inl (k3, 100, .inl ag))] := hD
  refine lv_iload_n hx hb dM_count_5 rfl (lv_at hl 1 rfl) ?_
  refine lv_if_lt (tgt := 14) hx hb dM_count_6 (by decide) (fun hc1 => absurd hc1 (by decide)) (fun hc1 => ?_)
  refine lv_iload_n hx hb dM_count_9 rfl (lv_at hl 1 rfl) ?_
  refine lv_iconst (v := 2) hx hb dM_count_10 (by decide) ?_
  refine lv_icmp_le (tgt := 21) hx hb dM_count_11 (by decide) (fun hc2 => ?_) (fun hc2 => absurd (by decide) hc2)
  refine lv_iconst (v := 0) hx hb dM_count_21 (by decide) ?_
  refine lv_istore_n hx hb dM_count_22 rfl hl (by decide) rfl (fun ls hl => ?_)
  have hl : lv_has ls 4 [(2, .int 0), (0, .ref h0), (1, .int 0)] := hl
  refine lv_iconst (v := 0) hx hb dM_count_23 (by decide) ?_
  refine lv_istore_n hx hb dM_count_24 rfl hl (by decide) rfl (fun ls hl => ?_)
  have hl : lv_has ls 4 [(3, .int 0), (2, .int 0), (0, .ref h0), (1, .int 0)] := hl
  have hl : lv_has ls 4 [(3, .int 0), (2, .int 0), (0, .ref h0), (1, .int 0)] := hl
  refine lpM_count dC dI h0 a0 a1 a2 a3 k0 k1 k2 k3 0 th tm pr ag ck nx hx hb hml hT hown hP hK 0 (fun ls hl => ?_) 100 0 rfl ls (lv_sub hl [0, 1, 3, 2] rfl)
  refine lv_iload_n hx hb dM_count_54 rfl (lv_at hl 2 rfl) ?_
  refine lv_if_ne (tgt := 65) hx hb dM_count_55 (by decide) (fun hc3 => absurd rfl hc3) (fun hc3 => ?_)
  refine lv_aload_n hx hb dM_count_58 rfl (lv_at hl 3 rfl) ?_
  refine va_get (D := (dC, dI)) (ci := 1) (v := .long ck) (C := RM) (T := FM) (N := 7) hx hb hT in_M hown hK hP 0 rfl rfl 6 (by decide) (hT _ tt_223) (fun _ h9 => h9) rfl dM_count_59 ?_
  refine lv_goto (tgt := 80) hx hb dM_count_62 (by decide) ?_
  exact W.lret hx hb hr (fun t ht hW => ⟨⟨_, (), rfl, rfl, by rw [ht]; exact hP, hD⟩, hS.F ht⟩) hS.2.2 dM_count_80
set_option maxHeartbeats 4000000 in
set_option maxRecDepth 100000 in
theorem cM_count1 (l : Launch) (dC : Nat → ClassId) (dI : Nat → Nat → Nat) (h0 a0 a1 a2 a3 : Nat) (k0 k1 k2 k3 : ClassId) (fl : Int32) (th : Nat → Int32) (tm : Nat → Int64) (pr ag : Nat → Int32) (ck : Int64) (nx : Int32) (sz : Nat)  : Met l yM_count (Cond.code yM_count bM_count 4 (some .long) :: tw_T) { frames := 2, cells := 0, slots := 0, locals := 80 } (va_Pc [.ref h0, .int 1] (fun U => U.heap.size = sz ∧ va_P (dC, dI) tw_cl (tw_wM h0 a0 a1 a2 a3 k0 k1 k2 k3 fl th tm pr ag ck nx) U.heap ∧ va_K (dC, dI) tw_cl (tw_k k0 k1 k2 k3) U ∧ va_D (fun _ => True) (tw_wM h0 a0 a1 a2 a3 k0 k1 k2 k3 fl th tm pr ag ck nx))) (va_Ql (S := Unit) (fun r _ => r = (tw_ther th 100).toInt64) (fun _ tz => va_P (dC, dI) tw_cl (tw_wM h0 a0 a1 a2 a3 k0 k1 k2 k3 0 th tm pr ag ck nx) tz.heap ∧ va_D (va_A (tw_wM h0 a0 a1 a2 a3 k0 k1 k2 k3 fl th tm pr ag ck nx) sz) (tw_wM h0 a0 a1 a2 a3 k0 k1 k2 k3 0 th tm pr ag ck nx)) (va_A (tw_wM h0 a0 a1 a2 a3 k0 k1 k2 k3 fl th tm pr ag ck nx) sz)) 0 0 (va_A (tw_wM h0 a0 a1 a2 a3 k0 k1 k2 k3 fl th tm pr ag ck nx) sz) := by
  refine Met.ofW (cc := bM_count) (maxL := 4) (ret := some .long) (by decide) rfl ?_
  intro p e s m args below meth c s₁ B hml hv
  obtain ⟨rfl, hsz, hP, hK, hD0⟩ := hv
  have hx := B.exec
  have hb := B.bytes
  have hr := B.returns
  have hT := fun (w : Cond) (h : w ∈ tw_T) => atoms_spec (ws := Cond.code yM_count bM_count 4 (some .long) :: tw_T) B.pre w (List.mem_cons_of_mem _ h)
  have hown : s.vm.findClass RM = some m.cls := findClass_of_methodNamed B.named
  have hlocks := B.notSynchronized
  have hl := lv_entry ([.ref h0, .int 1]) (n := 4) (Nat.le_of_ble_eq_true rfl)
  rw [lg_entry_eq]
  generalize (lg_sl ([.ref h0, .int 1]) ++ List.replicate (4 - (lg_sl ([.ref h0, .int 1])).length) Slot.unset).toArray = ls at hl ⊢
  have hl : lv_has ls 4 [(0, .ref h0), (1, .int 1)] := hl
  subst hsz
  have hD := hD0.self (sz := s.heap.size)
  generalize hAe : va_A (tw_wM h0 a0 a1 a2 a3 k0 k1 k2 k3 fl th tm pr ag ck nx) s.heap.size = A at hD ⊢
  have hA : ∀ q : Nat, s.heap.size ≤ q → A q := fun q h => by rw [← hAe]; exact Or.inr h
  have hS : va_S A s.heap s.heap [] := va_S.rf
  refine lv_aload_n hx hb dM_count_0 rfl (lv_at hl 0 rfl) ?_
  refine lv_iconst (v := 0) hx hb dM_count_1 (by decide) ?_
  refine va_put (D := (dC, dI)) (ci := 1) (v := .int 0) (ty := .int) (C := RM) (T := FM) (N := 7) hx hb hT in_M TM tM_ok nM_ hown hK hP hD hS 0 rfl rfl 0 (by decide) (hT _ tt_217) (fun _ h9 => h9) rfl (by decide +kernel) rfl rfl (Nat.le_of_ble_eq_true rfl) dM_count_2 (fun H locs hP hD hS => ?_)
  have hP : va_P (dC, dI) tw_cl [(h0, .inr (1, [.int 0, .ref a0, .ref a1, .ref a2, .ref a3, .int nx, .long ck])), (a0, .inl (k0, 100, .inl th)), (a1, .inl (k1, 100, .inr (.inl tm))), (a2, .inl (k2, 100, .inl pr)), (a3, .inl (k3, 100, .inl ag))] H := hP
  have hD : va_D A [(h0, .inr (1, [.int 0, .ref a0, .ref a1, .ref a2, .ref a3, .int nx, .long ck])), (a0, .inl (k0, 100, .inl th)), (a1, .inl (k1, 100, .inr (.inl tm))), (a2, .inl (k2, 100, .inl pr)), (a3, .inl (k3, 100, .inl ag))] := hD
  refine lv_iload_n hx hb dM_count_5 rfl (lv_at hl 1 rfl) ?_
  refine lv_if_lt (tgt := 14) hx hb dM_count_6 (by decide) (fun hc1 => absurd hc1 (by decide)) (fun hc1 => ?_)
  refine lv_iload_n hx hb dM_count_9 rfl (lv_at hl 1 rfl) ?_
  refine lv_iconst (v := 2) hx hb dM_count_10 (by decide) ?_
  refine lv_icmp_le (tgt := 21) hx hb dM_count_11 (by decide) (fun hc2 => ?_) (fun hc2 => absurd (by decide) hc2)
  refine lv_iconst (v := 0) hx hb dM_count_21 (by decide) ?_
  refine lv_istore_n hx hb dM_count_22 rfl hl (by decide) rfl (fun ls hl => ?_)
  have hl : lv_has ls 4 [(2, .int 0), (0, .ref h0), (1, .int 1)] := hl
  refine lv_iconst (v := 0) hx hb dM_count_23 (by decide) ?_
  refine lv_istore_n hx hb dM_count_24 rfl hl (by decide) rfl (fun ls hl => ?_)
  have hl : lv_has ls 4 [(3, .int 0), (2, .int 0), (0, .ref h0), (1, .int 1)] := hl
  have hl : lv_has ls 4 [(3, .int 0), (2, .int 0), (0, .ref h0), (1, .int 1)] := hl
  refine lpM_count dC dI h0 a0 a1 a2 a3 k0 k1 k2 k3 0 th tm pr ag ck nx hx hb hml hT hown hP hK 1 (fun ls hl => ?_) 100 0 rfl ls (lv_sub hl [0, 1, 3, 2] rfl)
  refine lv_iload_n hx hb dM_count_54 rfl (lv_at hl 2 rfl) ?_
  refine lv_if_ne (tgt := 65) hx hb dM_count_55 (by decide) (fun hc3 => ?_) (fun hc3 => absurd hc3 (by decide))
  refine lv_iload_n hx hb dM_count_65 rfl (lv_at hl 2 rfl) ?_
  refine lv_iconst (v := 1) hx hb dM_count_66 (by decide) ?_
  refine lv_icmp_ne (tgt := 75) hx hb dM_count_67 (by decide) (fun hc4 => absurd rfl hc4) (fun hc4 => ?_)
  refine lv_iload_n hx hb dM_count_70 rfl (lv_at hl 1 rfl) ?_
  refine lv_i2l hx hb dM_count_71 rfl ?_
  refine lv_goto (tgt := 80) hx hb dM_count_72 (by decide) ?_
  exact W.lret hx hb hr (fun t ht hW => ⟨⟨_, (), rfl, rfl, by rw [ht]; exact hP, hD⟩, hS.F ht⟩) hS.2.2 dM_count_80
set_option maxHeartbeats 4000000 in
set_option maxRecDepth 100000 in
theorem cM_count2 (l : Launch) (dC : Nat → ClassId) (dI : Nat → Nat → Nat) (h0 a0 a1 a2 a3 : Nat) (k0 k1 k2 k3 : ClassId) (fl : Int32) (th : Nat → Int32) (tm : Nat → Int64) (pr ag : Nat → Int32) (ck : Int64) (nx : Int32) (sz : Nat)  : Met l yM_count (Cond.code yM_count bM_count 4 (some .long) :: tw_T) { frames := 2, cells := 0, slots := 0, locals := 80 } (va_Pc [.ref h0, .int 2] (fun U => U.heap.size = sz ∧ va_P (dC, dI) tw_cl (tw_wM h0 a0 a1 a2 a3 k0 k1 k2 k3 fl th tm pr ag ck nx) U.heap ∧ va_K (dC, dI) tw_cl (tw_k k0 k1 k2 k3) U ∧ va_D (fun _ => True) (tw_wM h0 a0 a1 a2 a3 k0 k1 k2 k3 fl th tm pr ag ck nx))) (va_Ql (S := Unit) (fun r _ => r = (tw_dues th tm ck 100).toInt64) (fun _ tz => va_P (dC, dI) tw_cl (tw_wM h0 a0 a1 a2 a3 k0 k1 k2 k3 0 th tm pr ag ck nx) tz.heap ∧ va_D (va_A (tw_wM h0 a0 a1 a2 a3 k0 k1 k2 k3 fl th tm pr ag ck nx) sz) (tw_wM h0 a0 a1 a2 a3 k0 k1 k2 k3 0 th tm pr ag ck nx)) (va_A (tw_wM h0 a0 a1 a2 a3 k0 k1 k2 k3 fl th tm pr ag ck nx) sz)) 0 0 (va_A (tw_wM h0 a0 a1 a2 a3 k0 k1 k2 k3 fl th tm pr ag ck nx) sz) := by
  refine Met.ofW (cc := bM_count) (maxL := 4) (ret := some .long) (by decide) rfl ?_
  intro p e s m args below meth c s₁ B hml hv
  obtain ⟨rfl, hsz, hP, hK, hD0⟩ := hv
  have hx := B.exec
  have hb := B.bytes
  have hr := B.returns
  have hT := fun (w : Cond) (h : w ∈ tw_T) => atoms_spec (ws := Cond.code yM_count bM_count 4 (some .long) :: tw_T) B.pre w (List.mem_cons_of_mem _ h)
  have hown : s.vm.findClass RM = some m.cls := findClass_of_methodNamed B.named
  have hlocks := B.notSynchronized
  have hl := lv_entry ([.ref h0, .int 2]) (n := 4) (Nat.le_of_ble_eq_true rfl)
  rw [lg_entry_eq]
  generalize (lg_sl ([.ref h0, .int 2]) ++ List.replicate (4 - (lg_sl ([.ref h0, .int 2])).length) Slot.unset).toArray = ls at hl ⊢
  have hl : lv_has ls 4 [(0, .ref h0), (1, .int 2)] := hl
  subst hsz
  have hD := hD0.self (sz := s.heap.size)
  generalize hAe : va_A (tw_wM h0 a0 a1 a2 a3 k0 k1 k2 k3 fl th tm pr ag ck nx) s.heap.size = A at hD ⊢
  have hA : ∀ q : Nat, s.heap.size ≤ q → A q := fun q h => by rw [← hAe]; exact Or.inr h
  have hS : va_S A s.heap s.heap [] := va_S.rf
  refine lv_aload_n hx hb dM_count_0 rfl (lv_at hl 0 rfl) ?_
  refine lv_iconst (v := 0) hx hb dM_count_1 (by decide) ?_
  refine va_put (D := (dC, dI)) (ci := 1) (v := .int 0) (ty := .int) (C := RM) (T := FM) (N := 7) hx hb hT in_M TM tM_ok nM_ hown hK hP hD hS 0 rfl rfl 0 (by decide) (hT _ tt_217) (fun _ h9 => h9) rfl (by decide +kernel) rfl rfl (Nat.le_of_ble_eq_true rfl) dM_count_2 (fun H locs hP hD hS => ?_)
  have hP : va_P (dC, dI) tw_cl [(h0, .inr (1, [.int 0, .ref a0, .ref a1, .ref a2, .ref a3, .int nx, .long ck])), (a0, .inl (k0, 100, .inl th)), (a1, .inl (k1, 100, .inr (.inl tm))), (a2, .inl (k2, 100, .inl pr)), (a3, .inl (k3, 100, .inl ag))] H := hP
  have hD : va_D A [(h0, .inr (1, [.int 0, .ref a0, .ref a1, .ref a2, .ref a3, .int nx, .long ck])), (a0, .inl (k0, 100, .inl th)), (a1, .inl (k1, 100, .inr (.inl tm))), (a2, .inl (k2, 100, .inl pr)), (a3, .inl (k3, 100, .inl ag))] := hD
  refine lv_iload_n hx hb dM_count_5 rfl (lv_at hl 1 rfl) ?_
  refine lv_if_lt (tgt := 14) hx hb dM_count_6 (by decide) (fun hc1 => absurd hc1 (by decide)) (fun hc1 => ?_)
  refine lv_iload_n hx hb dM_count_9 rfl (lv_at hl 1 rfl) ?_
  refine lv_iconst (v := 2) hx hb dM_count_10 (by decide) ?_
  refine lv_icmp_le (tgt := 21) hx hb dM_count_11 (by decide) (fun hc2 => ?_) (fun hc2 => absurd (by decide) hc2)
  refine lv_iconst (v := 0) hx hb dM_count_21 (by decide) ?_
  refine lv_istore_n hx hb dM_count_22 rfl hl (by decide) rfl (fun ls hl => ?_)
  have hl : lv_has ls 4 [(2, .int 0), (0, .ref h0), (1, .int 2)] := hl
  refine lv_iconst (v := 0) hx hb dM_count_23 (by decide) ?_
  refine lv_istore_n hx hb dM_count_24 rfl hl (by decide) rfl (fun ls hl => ?_)
  have hl : lv_has ls 4 [(3, .int 0), (2, .int 0), (0, .ref h0), (1, .int 2)] := hl
  have hl : lv_has ls 4 [(3, .int 0), (2, .int 0), (0, .ref h0), (1, .int 2)] := hl
  refine lpM_count dC dI h0 a0 a1 a2 a3 k0 k1 k2 k3 0 th tm pr ag ck nx hx hb hml hT hown hP hK 2 (fun ls hl => ?_) 100 0 rfl ls (lv_sub hl [0, 1, 3, 2] rfl)
  refine lv_iload_n hx hb dM_count_54 rfl (lv_at hl 2 rfl) ?_
  refine lv_if_ne (tgt := 65) hx hb dM_count_55 (by decide) (fun hc3 => ?_) (fun hc3 => absurd hc3 (by decide))
  refine lv_iload_n hx hb dM_count_65 rfl (lv_at hl 2 rfl) ?_
  refine lv_iconst (v := 1) hx hb dM_count_66 (by decide) ?_
  refine lv_icmp_ne (tgt := 75) hx hb dM_count_67 (by decide) (fun hc4 => ?_) (fun hc4 => absurd hc4 (by decide))
  refine lv_aload_n hx hb dM_count_75 rfl (lv_at hl 3 rfl) ?_
  refine vp_callSi (W.runV (C := RM) (b := h0) (As := []) (rest := []) ⟨hx, hb, hml, hown, hT⟩ (cM_dues l dC dI h0 a0 a1 a2 a3 k0 k1 k2 k3 0 th tm pr ag ck nx) (cwV 0 hT (tw_gV tt_274 tt_276 tp_M_dues tt_2 tt_277) rfl rfl rfl ⟨rfl, by decide +kernel⟩ ⟨Nat.le_of_ble_eq_true rfl, Nat.le_of_ble_eq_true rfl⟩) ⟨fun a U g mk q => ⟨q.1, q.2.1, va_K.moved (u := U) (U := U.calling g mk a) (Vm.Alike.refl U.vm) q.2.2⟩, va_recv (q0 := 0) (ci := 1) hK hP rfl rfl, fun U hU hW => ⟨rfl, by rw [hU]; exact hP, va_K.moved hW.alike hK⟩⟩ rfl rfl hl.1 rfl (lv_room (Nat.le_of_ble_eq_true rfl)) dM_count_76 ⟨Nat.le_of_ble_eq_true rfl, Nat.le_of_ble_eq_true rfl⟩) (fun r2 h2 => ?_)
  subst h2
  refine lv_i2l hx hb dM_count_79 rfl ?_
  exact W.lret hx hb hr (fun t ht hW => ⟨⟨_, (), rfl, rfl, by rw [ht]; exact hP, hD⟩, hS.F ht⟩) hS.2.2 dM_count_80
set_option maxHeartbeats 4000000 in
set_option maxRecDepth 100000 in
theorem cM_countB (l : Launch) (dC : Nat → ClassId) (dI : Nat → Nat → Nat) (h0 a0 a1 a2 a3 : Nat) (k0 k1 k2 k3 : ClassId) (fl : Int32) (th : Nat → Int32) (tm : Nat → Int64) (pr ag : Nat → Int32) (ck : Int64) (nx : Int32) (sz : Nat) (k : Int32) (hbad : k.toInt < 0 ∨ 2 < k.toInt) : Met l yM_count (Cond.code yM_count bM_count 4 (some .long) :: tw_T) { frames := 2, cells := 0, slots := 0, locals := 80 } (va_Pc [.ref h0, .int k] (fun U => U.heap.size = sz ∧ va_P (dC, dI) tw_cl (tw_wM h0 a0 a1 a2 a3 k0 k1 k2 k3 fl th tm pr ag ck nx) U.heap ∧ va_K (dC, dI) tw_cl (tw_k k0 k1 k2 k3) U ∧ va_D (fun _ => True) (tw_wM h0 a0 a1 a2 a3 k0 k1 k2 k3 fl th tm pr ag ck nx))) (va_Ql (S := Unit) (fun r _ => r = 0) (fun _ tz => va_P (dC, dI) tw_cl (tw_wM h0 a0 a1 a2 a3 k0 k1 k2 k3 1 th tm pr ag ck nx) tz.heap ∧ va_D (va_A (tw_wM h0 a0 a1 a2 a3 k0 k1 k2 k3 fl th tm pr ag ck nx) sz) (tw_wM h0 a0 a1 a2 a3 k0 k1 k2 k3 1 th tm pr ag ck nx)) (va_A (tw_wM h0 a0 a1 a2 a3 k0 k1 k2 k3 fl th tm pr ag ck nx) sz)) 0 0 (va_A (tw_wM h0 a0 a1 a2 a3 k0 k1 k2 k3 fl th tm pr ag ck nx) sz) := by
  refine Met.ofW (cc := bM_count) (maxL := 4) (ret := some .long) (by decide) rfl ?_
  intro p e s m args below meth c s₁ B hml hv
  obtain ⟨rfl, hsz, hP, hK, hD0⟩ := hv
  have hx := B.exec
  have hb := B.bytes
  have hr := B.returns
  have hT := fun (w : Cond) (h : w ∈ tw_T) => atoms_spec (ws := Cond.code yM_count bM_count 4 (some .long) :: tw_T) B.pre w (List.mem_cons_of_mem _ h)
  have hown : s.vm.findClass RM = some m.cls := findClass_of_methodNamed B.named
  have hlocks := B.notSynchronized
  have hl := lv_entry ([.ref h0, .int k]) (n := 4) (Nat.le_of_ble_eq_true rfl)
  rw [lg_entry_eq]
  generalize (lg_sl ([.ref h0, .int k]) ++ List.replicate (4 - (lg_sl ([.ref h0, .int k])).length) Slot.unset).toArray = ls at hl ⊢
  have hl : lv_has ls 4 [(0, .ref h0), (1, .int k)] := hl
  subst hsz
  have hD := hD0.self (sz := s.heap.size)
  generalize hAe : va_A (tw_wM h0 a0 a1 a2 a3 k0 k1 k2 k3 fl th tm pr ag ck nx) s.heap.size = A at hD ⊢
  have hA : ∀ q : Nat, s.heap.size ≤ q → A q := fun q h => by rw [← hAe]; exact Or.inr h
  have hS : va_S A s.heap s.heap [] := va_S.rf
  refine lv_aload_n hx hb dM_count_0 rfl (lv_at hl 0 rfl) ?_
  refine lv_iconst (v := 0) hx hb dM_count_1 (by decide) ?_
  refine va_put (D := (dC, dI)) (ci := 1) (v := .int 0) (ty := .int) (C := RM) (T := FM) (N := 7) hx hb hT in_M TM tM_ok nM_ hown hK hP hD hS 0 rfl rfl 0 (by decide) (hT _ tt_217) (fun _ h9 => h9) rfl (by decide +kernel) rfl rfl (Nat.le_of_ble_eq_true rfl) dM_count_2 (fun H locs hP hD hS => ?_)
  have hP : va_P (dC, dI) tw_cl [(h0, .inr (1, [.int 0, .ref a0, .ref a1, .ref a2, .ref a3, .int nx, .long ck])), (a0, .inl (k0, 100, .inl th)), (a1, .inl (k1, 100, .inr (.inl tm))), (a2, .inl (k2, 100, .inl pr)), (a3, .inl (k3, 100, .inl ag))] H := hP
  have hD : va_D A [(h0, .inr (1, [.int 0, .ref a0, .ref a1, .ref a2, .ref a3, .int nx, .long ck])), (a0, .inl (k0, 100, .inl th)), (a1, .inl (k1, 100, .inr (.inl tm))), (a2, .inl (k2, 100, .inl pr)), (a3, .inl (k3, 100, .inl ag))] := hD
  refine lv_iload_n hx hb dM_count_5 rfl (lv_at hl 1 rfl) ?_
  refine lv_if_lt (tgt := 14) hx hb dM_count_6 (by decide) (fun hc1 => ?_) (fun hc1 => ?_)
  · -- taken at 6: k < 0
    refine lv_aload_n hx hb dM_count_14 rfl (lv_at hl 0 rfl) ?_
    refine lv_iconst (v := 1) hx hb dM_count_15 (by decide) ?_
    have hFc := va_free (wc := (tw_wM h0 a0 a1 a2 a3 k0 k1 k2 k3 0 th tm pr ag ck nx)) hD hS hA [0, 1, 2, 3, 4] rfl
    refine va_calli (va_runV (C := RM) (b := h0) (As := [.int 1]) (rest := []) ⟨hx, hb, hml, hown, hT⟩ (cM_fail l dC dI h0 a0 a1 a2 a3 k0 k1 k2 k3 0 th tm pr ag ck nx H.size 1) (cwV 1 hT (tw_gV tt_248 tt_250 tp_M_fail tt_2 tt_251) rfl rfl rfl ⟨rfl, by decide +kernel⟩ ⟨Nat.le_of_ble_eq_true rfl, Nat.le_of_ble_eq_true rfl⟩) ⟨fun a U g mk q => by obtain ⟨q0, q1, qP, qK, qD⟩ := q; exact ⟨q0, q1, qP, va_K.moved (u := U) (U := U.calling g mk a) (Vm.Alike.refl U.vm) qK, qD⟩, va_recv (q0 := 0) (ci := 1) hK hP rfl rfl, fun U hU hW => ⟨rfl, by rw [hU], by rw [hU]; exact hP, va_K.moved hW.alike hK, hD.weaken (fun _ _ _ _ => trivial)⟩⟩ rfl rfl hl.1 rfl (lv_room (Nat.le_of_ble_eq_true rfl)) dM_count_16 ⟨Nat.le_of_ble_eq_true rfl, Nat.le_of_ble_eq_true rfl⟩) hS (fun q _ h => hFc q h) hFc (fun r9 u9 t9 H1 locs ht9 hvm9 hw9 hB9 hz9 hk9 hS => ?_)
    obtain ⟨hP1, hD1⟩ := hB9
    rw [ht9] at hP1
    have hw9 : r9 = 0 := hw9
    subst hw9
    obtain ⟨hP, hD⟩ := va_join (wr := []) (w1 := (tw_wM h0 a0 a1 a2 a3 k0 k1 k2 k3 1 th tm pr ag ck nx)) hP hD [0, 1, 2, 3, 4] [] rfl rfl (by decide) (by decide) hk9 hFc hP1 hD1
    generalize H1 = H at hP hS ⊢
    have hP : va_P (dC, dI) tw_cl [(h0, .inr (1, [.int 1, .ref a0, .ref a1, .ref a2, .ref a3, .int nx, .long ck])), (a0, .inl (k0, 100, .inl th)), (a1, .inl (k1, 100, .inr (.inl tm))), (a2, .inl (k2, 100, .inl pr)), (a3, .inl (k3, 100, .inl ag))] H := hP
    have hD : va_D A [(h0, .inr (1, [.int 1, .ref a0, .ref a1, .ref a2, .ref a3, .int nx, .long ck])), (a0, .inl (k0, 100, .inl th)), (a1, .inl (k1, 100, .inr (.inl tm))), (a2, .inl (k2, 100, .inl pr)), (a3, .inl (k3, 100, .inl ag))] := hD
    refine lv_i2l hx hb dM_count_19 rfl ?_
    exact W.lret hx hb hr (fun t ht hW => ⟨⟨_, (), rfl, rfl, by rw [ht]; exact hP, hD⟩, hS.F ht⟩) hS.2.2 dM_count_20
  · -- not taken at 6: k < 0
    refine lv_iload_n hx hb dM_count_9 rfl (lv_at hl 1 rfl) ?_
    refine lv_iconst (v := 2) hx hb dM_count_10 (by decide) ?_
    refine lv_icmp_le (tgt := 21) hx hb dM_count_11 (by decide) (fun hc2 => absurd hc2 (fun z => tw_k2 hbad hc1 z)) (fun hc2 => ?_)
    refine lv_aload_n hx hb dM_count_14 rfl (lv_at hl 0 rfl) ?_
    refine lv_iconst (v := 1) hx hb dM_count_15 (by decide) ?_
    have hFc := va_free (wc := (tw_wM h0 a0 a1 a2 a3 k0 k1 k2 k3 0 th tm pr ag ck nx)) hD hS hA [0, 1, 2, 3, 4] rfl
    refine va_calli (va_runV (C := RM) (b := h0) (As := [.int 1]) (rest := []) ⟨hx, hb, hml, hown, hT⟩ (cM_fail l dC dI h0 a0 a1 a2 a3 k0 k1 k2 k3 0 th tm pr ag ck nx H.size 1) (cwV 1 hT (tw_gV tt_248 tt_250 tp_M_fail tt_2 tt_251) rfl rfl rfl ⟨rfl, by decide +kernel⟩ ⟨Nat.le_of_ble_eq_true rfl, Nat.le_of_ble_eq_true rfl⟩) ⟨fun a U g mk q => by obtain ⟨q0, q1, qP, qK, qD⟩ := q; exact ⟨q0, q1, qP, va_K.moved (u := U) (U := U.calling g mk a) (Vm.Alike.refl U.vm) qK, qD⟩, va_recv (q0 := 0) (ci := 1) hK hP rfl rfl, fun U hU hW => ⟨rfl, by rw [hU], by rw [hU]; exact hP, va_K.moved hW.alike hK, hD.weaken (fun _ _ _ _ => trivial)⟩⟩ rfl rfl hl.1 rfl (lv_room (Nat.le_of_ble_eq_true rfl)) dM_count_16 ⟨Nat.le_of_ble_eq_true rfl, Nat.le_of_ble_eq_true rfl⟩) hS (fun q _ h => hFc q h) hFc (fun r9 u9 t9 H1 locs ht9 hvm9 hw9 hB9 hz9 hk9 hS => ?_)
    obtain ⟨hP1, hD1⟩ := hB9
    rw [ht9] at hP1
    have hw9 : r9 = 0 := hw9
    subst hw9
    obtain ⟨hP, hD⟩ := va_join (wr := []) (w1 := (tw_wM h0 a0 a1 a2 a3 k0 k1 k2 k3 1 th tm pr ag ck nx)) hP hD [0, 1, 2, 3, 4] [] rfl rfl (by decide) (by decide) hk9 hFc hP1 hD1
    generalize H1 = H at hP hS ⊢
    have hP : va_P (dC, dI) tw_cl [(h0, .inr (1, [.int 1, .ref a0, .ref a1, .ref a2, .ref a3, .int nx, .long ck])), (a0, .inl (k0, 100, .inl th)), (a1, .inl (k1, 100, .inr (.inl tm))), (a2, .inl (k2, 100, .inl pr)), (a3, .inl (k3, 100, .inl ag))] H := hP
    have hD : va_D A [(h0, .inr (1, [.int 1, .ref a0, .ref a1, .ref a2, .ref a3, .int nx, .long ck])), (a0, .inl (k0, 100, .inl th)), (a1, .inl (k1, 100, .inr (.inl tm))), (a2, .inl (k2, 100, .inl pr)), (a3, .inl (k3, 100, .inl ag))] := hD
    refine lv_i2l hx hb dM_count_19 rfl ?_
    exact W.lret hx hb hr (fun t ht hW => ⟨⟨_, (), rfl, rfl, by rw [ht]; exact hP, hD⟩, hS.F ht⟩) hS.2.2 dM_count_20
